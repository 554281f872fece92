/-! WHOLE COMPONENTS: a world as a list of components, and the places of some of them -/
abbrev wfl : List va_W → va_W
  | [] => []
  | [a] => a
  | a :: b :: r => a ++ wfl (b :: r)
theorem wfl_eq : ∀ L : List va_W, wfl L = L.flatten
  | [] => rfl
  | [a] => by simp [wfl]
  | a :: b :: r => by rw [wfl, wfl_eq (b :: r)]; rfl
def offs : List va_W → Nat → Nat
  | [], _ => 0
  | _ :: _, 0 => 0
  | a :: r, c + 1 => a.length + offs r c
theorem offs_at : ∀ (L : List va_W) (c : Nat) (x : va_W) (j : Nat), L[c]? = some x → j < x.length → L.flatten[offs L c + j]? = x[j]? := by
  intro L
  induction L with
  | nil => intro c x j h; simp at h
  | cons a r ih =>
    intro c x j h hj
    cases c with
    | zero =>
      simp only [List.getElem?_cons_zero, Option.some.injEq] at h
      subst h
      simp only [offs, List.flatten_cons, Nat.zero_add]
      rw [List.getElem?_append_left hj]
    | succ c =>
      simp only [List.getElem?_cons_succ] at h
      simp only [offs, List.flatten_cons]
      rw [List.getElem?_append_right (by omega)]
      rw [show a.length + offs r c + j - a.length = offs r c + j by omega]
      exact ih c x j h hj
theorem offs_lt : ∀ (L : List va_W) (c d : Nat) (x : va_W), L[c]? = some x → c < d → offs L c + x.length ≤ offs L d ∨ L[d]? = none := by
  intro L
  induction L with
  | nil => intro c d x h; simp at h
  | cons a r ih =>
    intro c d x h hcd
    cases d with
    | zero => omega
    | succ d =>
      cases c with
      | zero =>
        simp only [List.getElem?_cons_zero, Option.some.injEq] at h
        subst h
        simp only [offs]
        left; omega
      | succ c =>
        simp only [List.getElem?_cons_succ] at h ⊢
        simp only [offs]
        rcases ih c d x h (by omega) with q | q
        · left; omega
        · right; exact q
def ciAt (L : List va_W) (c : Nat) : List Nat := (List.range ((L[c]?).getD []).length).map (fun j => offs L c + j)
def cI (L : List va_W) (is : List Nat) : List Nat := is.flatMap (ciAt L)
theorem ciAt_mem {L : List va_W} {c i : Nat} (h : i ∈ ciAt L c) : ∃ x j, L[c]? = some x ∧ j < x.length ∧ i = offs L c + j := by
  unfold ciAt at h
  obtain ⟨j, hj, rfl⟩ := List.mem_map.mp h
  rw [List.mem_range] at hj
  cases hx : L[c]? with
  | none => rw [hx] at hj; simp at hj
  | some x => rw [hx] at hj; exact ⟨x, j, rfl, hj, rfl⟩
theorem ciAt_ne {L : List va_W} {c d i k : Nat} (hcd : c ≠ d) (h : i ∈ ciAt L c) (h2 : k ∈ ciAt L d) : i ≠ k := by
  obtain ⟨x, j, e, hj, rfl⟩ := ciAt_mem h
  obtain ⟨y, j2, e2, hj2, rfl⟩ := ciAt_mem h2
  rcases Nat.lt_or_gt_of_ne hcd with q | q
  · rcases offs_lt L c d x e q with w | w
    · omega
    · rw [w] at e2; cases e2
  · rcases offs_lt L d c y e2 q with w | w
    · omega
    · rw [w] at e; cases e
theorem nd_iff : ∀ l : List Nat, va_nd l = true ↔ l.Pairwise (· ≠ ·)
  | [] => by simp [va_nd]
  | a :: l => by
    rw [va_nd, Bool.and_eq_true, decide_eq_true_eq, List.pairwise_cons, nd_iff l]
    exact and_congr_left fun _ => ⟨fun h b hb e => h (e ▸ hb), fun h hb => h a hb rfl⟩
theorem ci_nd (L : List va_W) {is : List Nat} (h : va_nd is = true) : va_nd (cI L is) = true := by
  rw [nd_iff] at h ⊢
  unfold cI
  rw [List.pairwise_flatMap]
  refine ⟨fun c _ => ?_, h.imp fun {a b} hab x hx y hy => ciAt_ne hab hx hy⟩
  unfold ciAt
  rw [List.pairwise_map]
  exact (List.pairwise_lt_range).imp fun {a b} hab => by omega
theorem ci_dis (L : List va_W) {isR isC : List Nat} (h : ∀ i ∈ isR, i ∉ isC) : ∀ i ∈ cI L isR, i ∉ cI L isC := by
  intro i hi hi2
  obtain ⟨c, hc, h1⟩ := List.mem_flatMap.mp hi
  obtain ⟨d, hd, h2⟩ := List.mem_flatMap.mp hi2
  exact ciAt_ne (fun e => h c hc (by rw [e]; exact hd)) h1 h2 rfl
theorem ci_map0 {L : List va_W} : ∀ {is : List Nat} {L' : List va_W}, is.map (fun i => L[i]?) = L'.map some → (cI L is).map (fun i => L.flatten[i]?) = L'.flatten.map some := by
  intro is
  induction is with
  | nil => intro L' h; cases L' with
    | nil => rfl
    | cons a r => cases h
  | cons c is ih =>
    intro L' h
    cases L' with
    | nil => cases h
    | cons a r =>
      simp only [List.map_cons, List.cons.injEq] at h
      have h2 := ih h.2
      unfold cI at h2 ⊢
      rw [List.flatMap_cons, List.map_append, h2, List.flatten_cons, List.map_append]
      congr 1
      unfold ciAt
      rw [h.1, List.map_map]
      apply List.ext_getElem?
      intro j
      simp only [List.getElem?_map, Option.getD_some]
      by_cases hj : j < a.length
      · rw [List.getElem?_range hj]
        show some (L.flatten[offs L c + j]?) = _
        rw [offs_at L c a j h.1 hj, List.getElem?_eq_getElem hj]
        rfl
      · rw [List.getElem?_eq_none (by rw [List.length_range]; omega), List.getElem?_eq_none (by omega)]
        rfl
theorem ci_map (L L' : List va_W) {is : List Nat} (h : is.map (fun i => L[i]?) = L'.map some) : (cI L is).map (fun i => (wfl L)[i]?) = (wfl L').map some := by rw [wfl_eq, wfl_eq]; exact ci_map0 h
theorem ci_fm (L L' : List va_W) {is : List Nat} (h : is.map (fun i => L[i]?) = L'.map some) : (cI L is).filterMap (fun i => (wfl L)[i]?) = wfl L' := fm_map (ci_map L L' h)
theorem ci_map2 (L1 L2 L' : List va_W) {is : List Nat} (h : is.map (fun i => (L1 ++ L2)[i]?) = L'.map some) : (cI (L1 ++ L2) is).map (fun i => (wfl L1 ++ wfl L2)[i]?) = (wfl L').map some := by
  rw [wfl_eq, wfl_eq, wfl_eq, ← List.flatten_append]; exact ci_map0 h
theorem ci_len {L1 L2 : List va_W} (h : L1.map List.length = L2.map List.length) : ∀ is, cI L1 is = cI L2 is := by
  have ho : ∀ (L1 L2 : List va_W), L1.map List.length = L2.map List.length → ∀ c, offs L1 c = offs L2 c := by
    intro L1
    induction L1 with
    | nil => intro L2 h c; cases L2 with
      | nil => rfl
      | cons a r => cases h
    | cons a r ih => intro L2 h c; cases L2 with
      | nil => cases h
      | cons b r2 =>
        simp only [List.map_cons, List.cons.injEq] at h
        cases c with
        | zero => rfl
        | succ c => simp only [offs]; rw [h.1, ih r2 h.2 c]
  have hl : ∀ c : Nat, ((L1[c]?).getD []).length = ((L2[c]?).getD []).length := fun c => by
    have q := congrArg (fun z : List Nat => z[c]?) h
    simp only [List.getElem?_map] at q
    cases h1 : L1[c]? <;> cases h2 : L2[c]? <;> rw [h1, h2] at q <;> simp at q ⊢
    exact q
  intro is
  unfold cI
  congr 1
  funext c
  unfold ciAt
  rw [hl c, ho L1 L2 h c]
theorem ci_mapB (Lr Lc L1 L' : List va_W) {is : List Nat} (hl : Lc.map List.length = L1.map List.length) (h : is.map (fun i => (Lr ++ L1)[i]?) = L'.map some) : (cI (Lr ++ Lc) is).map (fun i => (wfl Lr ++ wfl L1)[i]?) = (wfl L').map some := by
  rw [ci_len (L2 := Lr ++ L1) (by rw [List.map_append, List.map_append, hl]) is]; exact ci_map2 Lr L1 L' h
