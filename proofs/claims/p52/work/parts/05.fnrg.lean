/-! two unlike rows of RULES that have the same CELLS (behind 05.fnt): what one is ahead of the other by -/
def gwc (C : Nat → Int32) (r : Nat) : Nat := (C r).toInt.toNat
def gwIn (N : Nat) (D : Int32) (r : Nat) : Prop := r < N ∧ outB D (nI r) = false
def gwH (N : Nat) (C : Nat → Int32) : Prop := ∀ r, r < N → 1 ≤ gwc C r ∧ gwc C r ≤ 3
/-- a state: what a RULE has from a place on, by one number -/
def gwV (N : Nat) (C : Nat → Int32) (s : Nat) : Prop := s / 3 < N ∧ 1 ≤ s % 3 ∧ s % 3 < gwc C (s / 3)
def gwA (C : Nat → Int32) (s : Nat) : Nat := gwc C (s / 3) - s % 3
def gwG (C : Nat → Int32) (L : Nat → Nat → Int32) (s t : Nat) : Prop := ∀ k : Nat, k < gwA C s → k < gwc C t → L (s / 3) (s % 3 + k) = L t k
def gwX (C : Nat → Int32) (s t : Nat) : Nat := if gwc C t < gwA C s then s + gwc C t else 3 * t + gwA C s
def gwD (C : Nat → Int32) (s t : Nat) : Int := if gwc C t < gwA C s then 0 else (gwc C t : Int) - (gwA C s : Int)
def gwS (N : Nat) (D : Int32) (C : Nat → Int32) (L : Nat → Nat → Int32) (s s2 : Nat) (d : Int) : Prop := ∃ t, gwIn N D t ∧ gwG C L s t ∧ gwc C t ≠ gwA C s ∧ s2 = gwX C s t ∧ d = gwD C s t
def gwE (N : Nat) (D : Int32) (C : Nat → Int32) (L : Nat → Nat → Int32) (s : Nat) : Prop := ∃ t, gwIn N D t ∧ gwG C L s t ∧ gwc C t = gwA C s
def gwI (N : Nat) (D : Int32) (C : Nat → Int32) (L : Nat → Nat → Int32) (s : Nat) (c : Int) : Prop := ∃ a b, gwIn N D a ∧ gwIn N D b ∧ a ≠ b ∧ begB C L a b = true ∧ gwc C a < gwc C b ∧ s = 3 * b + gwc C a ∧ c = (gwc C b : Int)
def gwF (N : Nat) (D : Int32) (C : Nat → Int32) (L : Nat → Nat → Int32) (c : Int) : Prop := ∃ a b, gwIn N D a ∧ gwIn N D b ∧ a ≠ b ∧ begB C L a b = true ∧ gwc C a = gwc C b ∧ c = (gwc C b : Int)
/-- a walk of n steps, with what it costs -/
def gwQ (N : Nat) (D : Int32) (C : Nat → Int32) (L : Nat → Nat → Int32) (f : Nat → Nat) (g : Nat → Int) (n : Nat) : Prop := gwI N D C L (f 0) (g 0) ∧ ∀ i, i < n → gwS N D C L (f i) (f (i + 1)) (g (i + 1) - g i)
def gwR (N : Nat) (D : Int32) (C : Nat → Int32) (L : Nat → Nat → Int32) (c : Int) : Prop := gwF N D C L c ∨ ∃ (n : Nat) (f : Nat → Nat) (g : Nat → Int), gwQ N D C L f g n ∧ gwE N D C L (f n) ∧ c = g n
/-- the least, or 1000000 -/
def gwL (N : Nat) (D : Int32) (C : Nat → Int32) (L : Nat → Nat → Int32) (c : Int) : Prop := c ≤ 1000000 ∧ (c < 1000000 → gwR N D C L c) ∧ ∀ x, gwR N D C L x → c ≤ x
/-- two numbers for each table: of the states, of the end -/
def gwMn (R R' : Nat → Int32) (S S' : Int32) : Prop := (∀ j, (R' j).toInt ≤ (R j).toInt) ∧ S'.toInt ≤ S.toInt
def gwRx (N : Nat) (D : Int32) (C : Nat → Int32) (L : Nat → Nat → Int32) (R : Nat → Int32) (S : Int32) (s : Nat) (v : Int) (t : Nat) : Prop := gwIn N D t → gwG C L s t → (gwc C t = gwA C s → S.toInt ≤ v) ∧ (gwc C t ≠ gwA C s → (R (gwX C s t)).toInt ≤ v + gwD C s t)
/-- one RULE behind all states of one key -/
def gwT (N : Nat) (D : Int32) (C : Nat → Int32) (L : Nat → Nat → Int32) (κ : Nat → Nat) (R R' : Nat → Int32) (S S' : Int32) (q t : Nat) (r : Int32) : Prop := gwMn R R' S S' ∧ (∀ s, gwV N C s → κ s = q → gwRx N D C L R' S' s (R s).toInt t) ∧ (r = 0 → R' = R)
def gwGo (N : Nat) (D : Int32) (C : Nat → Int32) (L : Nat → Nat → Int32) (R R' : Nat → Int32) (S S' : Int32) (r : Int32) : Prop := gwMn R R' S S' ∧ (∀ s, gwV N C s → (R s).toInt < 1000000 → ∀ t, gwRx N D C L R' S' s (R s).toInt t) ∧ (r = 0 → R' = R)
def gwPr (N : Nat) (D : Int32) (C : Nat → Int32) (L : Nat → Nat → Int32) (κ : Nat → Nat) (R R' : Nat → Int32) (S S' : Int32) (r : Int32) (q t : Nat) : Prop :=
  gwMn R R' S S' ∧ (∀ s, gwV N C s → κ s < q → (R s).toInt < 1000000 → ∀ t', gwRx N D C L R' S' s (R s).toInt t') ∧ (∀ s, gwV N C s → κ s = q → ∀ t', t' < t → gwRx N D C L R' S' s (R s).toInt t') ∧ (r = 0 → R' = R)
def gwZ (N : Nat) (D : Int32) (C : Nat → Int32) (L : Nat → Nat → Int32) (R : Nat → Int32) (S : Int32) : Prop := ∀ s, gwV N C s → (R s).toInt < 1000000 → ∀ t, gwRx N D C L R S s (R s).toInt t
def gwJ (N : Nat) (D : Int32) (C : Nat → Int32) (L : Nat → Nat → Int32) (R : Nat → Int32) (S : Int32) (A B : Nat) : Prop := ∀ a b, (a < A ∨ (a = A ∧ b < B)) → gwIn N D a → gwIn N D b → a ≠ b → begB C L a b = true → (gwc C a < gwc C b → (R (3 * b + gwc C a)).toInt ≤ (gwc C b : Int)) ∧ (gwc C a = gwc C b → S.toInt ≤ (gwc C b : Int))
def gwK (N : Nat) (D : Int32) (C : Nat → Int32) (L : Nat → Nat → Int32) (R : Nat → Int32) (S : Int32) (k : Nat) : Prop := (∀ (n : Nat) (f : Nat → Nat) (g : Nat → Int), n ≤ k → gwQ N D C L f g n → (R (f n)).toInt ≤ g n) ∧ (∀ (n : Nat) (f : Nat → Nat) (g : Nat → Int), n < k → gwQ N D C L f g n → gwE N D C L (f n) → S.toInt ≤ g n) ∧ ∀ c, gwF N D C L c → S.toInt ≤ c
/-- no number is above 1000000 -/
def gwB (N : Nat) (C : Nat → Int32) (R : Nat → Int32) (S : Int32) : Prop := (∀ s, gwV N C s → (R s).toInt ≤ 1000000) ∧ S.toInt ≤ 1000000
/-- each number of the class is that of a walk -/
def gwSd (N : Nat) (D : Int32) (C : Nat → Int32) (L : Nat → Nat → Int32) (R : Nat → Int32) (S : Int32) : Prop := (∀ s, s < 72 → (R s).toInt ≤ 1000000 ∧ ((R s).toInt < 1000000 → ∃ (n : Nat) (f : Nat → Nat) (g : Nat → Int), gwQ N D C L f g n ∧ f n = s ∧ g n = (R s).toInt)) ∧ S.toInt ≤ 1000000 ∧ (S.toInt < 1000000 → gwR N D C L S.toInt)
/-- what the class does with one number -/
def gwRe (C : Nat → Int32) (R R' : Nat → Int32) (S S' : Int32) (rule place : Nat) (c : Int) (r : Int32) : Prop := (gwc C rule ≤ place ∧ r = 0 ∧ R' = R ∧ S'.toInt = min S.toInt c) ∨ (place < gwc C rule ∧ S' = S ∧ ((c < (R (3 * rule + place)).toInt ∧ r = 1 ∧ ∃ x, R' = upd R (3 * rule + place) x ∧ x.toInt = c) ∨ ((R (3 * rule + place)).toInt ≤ c ∧ r = 0 ∧ R' = R)))
section Fng
variable {N n k m q t s s2 rule place : Nat} {D : Int32} {C : Nat → Int32} {L : Nat → Nat → Int32} {R R' R2 : Nat → Int32} {S S' S2 r r' : Int32} {c d v v' : Int} {f : Nat → Nat} {g : Nat → Int} {κ : Nat → Nat}
theorem gwL.one (h : gwL N D C L c) (h' : gwL N D C L d) : c = d := by
  have a : c ≤ d := by
    by_cases w : d < 1000000
    · exact h.2.2 d (h'.2.1 w)
    · have := h.1
      omega
  have b : d ≤ c := by
    by_cases w : c < 1000000
    · exact h'.2.2 c (h.2.1 w)
    · have := h'.1
      omega
  omega
theorem gwS.vl (hH : gwH N C) (hv : gwV N C s) (h : gwS N D C L s s2 d) : gwV N C s2 ∧ 0 ≤ d := by
  obtain ⟨t, ht, _, hne, hs, hd⟩ := h
  obtain ⟨v1, v2, v3⟩ := hv
  have h1 := hH (s / 3) v1
  have h2 := hH t ht.1
  unfold gwX at hs
  unfold gwD at hd
  have hA : gwA C s = gwc C (s / 3) - s % 3 := rfl
  by_cases w : gwc C t < gwA C s
  · rw [if_pos w] at hs hd
    rw [hs]
    have e1 : (s + gwc C t) / 3 = s / 3 := by omega
    have e2 : (s + gwc C t) % 3 = s % 3 + gwc C t := by omega
    exact ⟨⟨by rw [e1]; exact v1, by omega, by rw [e1, e2]; omega⟩, by omega⟩
  · rw [if_neg w] at hs hd
    rw [hs]
    have e1 : (3 * t + gwA C s) / 3 = t := by omega
    have e2 : (3 * t + gwA C s) % 3 = gwA C s := by omega
    exact ⟨⟨by rw [e1]; exact ht.1, by rw [e2]; omega, by rw [e1, e2]; omega⟩, by omega⟩
theorem gwI.vl (hH : gwH N C) (h : gwI N D C L s c) : gwV N C s ∧ 1 ≤ c := by
  obtain ⟨a, b, ha, hb, _, _, hl, hs, hc⟩ := h
  have h1 := hH a ha.1
  have h2 := hH b hb.1
  rw [hs]
  have e1 : (3 * b + gwc C a) / 3 = b := by omega
  have e2 : (3 * b + gwc C a) % 3 = gwc C a := by omega
  exact ⟨⟨by rw [e1]; exact hb.1, by rw [e2]; omega, by rw [e1, e2]; exact hl⟩, by omega⟩
theorem gwQ.vl (hH : gwH N C) (h : gwQ N D C L f g n) : ∀ i, i ≤ n → gwV N C (f i)
  | 0, _ => (gwI.vl hH h.1).1
  | i + 1, hi => (gwS.vl hH (gwQ.vl hH h i (by omega)) (h.2 i (by omega))).1
theorem gwQ.mn (hH : gwH N C) (h : gwQ N D C L f g n) : ∀ j i, i ≤ j → j ≤ n → g i ≤ g j
  | 0, i, hi, _ => by rw [show i = 0 by omega]; exact Int.le_refl _
  | j + 1, i, hi, hj => by
    by_cases w : i = j + 1
    · rw [w]; exact Int.le_refl _
    · have a := gwQ.mn hH h j i (by omega) (by omega)
      have b := (gwS.vl hH (gwQ.vl hH h j (by omega)) (h.2 j (by omega))).2
      omega
theorem gwQ.pos (hH : gwH N C) (h : gwQ N D C L f g n) : 1 ≤ g n := by
  have a := (gwI.vl hH h.1).2
  have b := gwQ.mn hH h n 0 (Nat.zero_le _) (Nat.le_refl _)
  omega
theorem gwR.pos (hH : gwH N C) (h : gwR N D C L c) : 1 ≤ c := by
  rcases h with ⟨a, b, ha, hb, _, _, _, hc⟩ | ⟨n, f, g, w, _, hc⟩
  · have := hH b hb.1
    omega
  · have := gwQ.pos hH w
    omega
theorem gwQ.pre (h : gwQ N D C L f g n) (hm : m ≤ n) : gwQ N D C L f g m := ⟨h.1, fun i hi => h.2 i (by omega)⟩
theorem gwQ.sn (h : gwQ N D C L f g n) (hs : gwS N D C L (f n) s2 d) : gwQ N D C L (fun k => if k ≤ n then f k else s2) (fun k => if k ≤ n then g k else g n + d) (n + 1) := by
  refine ⟨?_, fun i hi => ?_⟩
  · show gwI N D C L (if 0 ≤ n then f 0 else s2) (if 0 ≤ n then g 0 else g n + d)
    rw [if_pos (Nat.zero_le n), if_pos (Nat.zero_le n)]
    exact h.1
  · show gwS N D C L (if i ≤ n then f i else s2) (if i + 1 ≤ n then f (i + 1) else s2) ((if i + 1 ≤ n then g (i + 1) else g n + d) - (if i ≤ n then g i else g n + d))
    have hi' : i ≤ n := by omega
    rw [if_pos hi', if_pos hi']
    by_cases w : i + 1 ≤ n
    · rw [if_pos w, if_pos w]
      exact h.2 i (by omega)
    · rw [if_neg w, if_neg w]
      have e : i = n := by omega
      rw [e, show g n + d - g n = d by omega]
      exact hs
theorem gw_pg : ∀ (m : Nat) (f : Nat → Nat), (∀ i, i ≤ m → f i < m) → ∃ i j, i < j ∧ j ≤ m ∧ f i = f j
  | 0, f, h => absurd (h 0 (Nat.le_refl 0)) (Nat.not_lt_zero _)
  | m + 1, f, h => by
    by_cases w : ∃ i, i ≤ m ∧ f i = f (m + 1)
    · obtain ⟨i, h1, h2⟩ := w
      exact ⟨i, m + 1, by omega, Nat.le_refl _, h2⟩
    · have ne : ∀ i, i ≤ m → f i ≠ f (m + 1) := fun i hi e => w ⟨i, hi, e⟩
      have hz := h (m + 1) (Nat.le_refl _)
      obtain ⟨i, j, h1, h2, h3⟩ := gw_pg m (fun i => if f i = m then f (m + 1) else f i) (fun i hi => by
        show (if f i = m then f (m + 1) else f i) < m
        have a := h i (by omega)
        have c := ne i hi
        by_cases z : f i = m
        · rw [if_pos z]; omega
        · rw [if_neg z]; omega)
      refine ⟨i, j, h1, by omega, ?_⟩
      have h4 : (if f i = m then f (m + 1) else f i) = (if f j = m then f (m + 1) else f j) := h3
      have ci := ne i (by omega)
      have cj := ne j (by omega)
      by_cases z : f i = m
      · by_cases y : f j = m
        · omega
        · rw [if_pos z, if_neg y] at h4
          exact absurd h4.symm cj
      · by_cases y : f j = m
        · rw [if_neg z, if_pos y] at h4
          exact absurd h4 ci
        · rw [if_neg z, if_neg y] at h4
          exact h4
theorem gwQ.cut1 {i j : Nat} (hH : gwH N C) (h : gwQ N D C L f g n) (hij : i < j) (hj : j ≤ n) (e : f i = f j) : ∃ (f2 : Nat → Nat) (g2 : Nat → Int), gwQ N D C L f2 g2 (n - (j - i)) ∧ f2 (n - (j - i)) = f n ∧ g2 (n - (j - i)) ≤ g n := by
  refine ⟨fun k => if k ≤ i then f k else f (k + (j - i)), fun k => if k ≤ i then g k else g (k + (j - i)) - (g j - g i), ⟨?_, fun k hk => ?_⟩, ?_, ?_⟩
  · show gwI N D C L (if 0 ≤ i then f 0 else f (0 + (j - i))) (if 0 ≤ i then g 0 else g (0 + (j - i)) - (g j - g i))
    rw [if_pos (Nat.zero_le i), if_pos (Nat.zero_le i)]
    exact h.1
  · show gwS N D C L (if k ≤ i then f k else f (k + (j - i))) (if k + 1 ≤ i then f (k + 1) else f (k + 1 + (j - i))) ((if k + 1 ≤ i then g (k + 1) else g (k + 1 + (j - i)) - (g j - g i)) - (if k ≤ i then g k else g (k + (j - i)) - (g j - g i)))
    by_cases w : k + 1 ≤ i
    · have w2 : k ≤ i := by omega
      rw [if_pos w, if_pos w, if_pos w2, if_pos w2]
      exact h.2 k (by omega)
    · rw [if_neg w, if_neg w]
      by_cases w2 : k ≤ i
      · have ek : k = i := by omega
        rw [if_pos w2, if_pos w2, ek, e, show i + 1 + (j - i) = j + 1 by omega, show g (j + 1) - (g j - g i) - g i = g (j + 1) - g j by omega]
        exact h.2 j (by omega)
      · rw [if_neg w2, if_neg w2, show k + 1 + (j - i) = k + (j - i) + 1 by omega, show g (k + (j - i) + 1) - (g j - g i) - (g (k + (j - i)) - (g j - g i)) = g (k + (j - i) + 1) - g (k + (j - i)) by omega]
        exact h.2 (k + (j - i)) (by omega)
  · show (if n - (j - i) ≤ i then f (n - (j - i)) else f (n - (j - i) + (j - i))) = f n
    by_cases w : n - (j - i) ≤ i
    · have e1 : n - (j - i) = i := by omega
      have e2 : j = n := by omega
      rw [if_pos w, e1, e, e2]
    · rw [if_neg w, show n - (j - i) + (j - i) = n by omega]
  · show (if n - (j - i) ≤ i then g (n - (j - i)) else g (n - (j - i) + (j - i)) - (g j - g i)) ≤ g n
    have mo := gwQ.mn hH h j i (by omega) hj
    by_cases w : n - (j - i) ≤ i
    · have e1 : n - (j - i) = i := by omega
      have e2 : j = n := by omega
      rw [if_pos w, e1, ← e2]
      exact mo
    · rw [if_neg w, show n - (j - i) + (j - i) = n by omega]
      omega
theorem gwQ.cut (hH : gwH N C) (hN : N ≤ 24) : ∀ (n : Nat) (f : Nat → Nat) (g : Nat → Int), gwQ N D C L f g n → ∃ (m : Nat) (f2 : Nat → Nat) (g2 : Nat → Int), m ≤ 71 ∧ gwQ N D C L f2 g2 m ∧ f2 m = f n ∧ g2 m ≤ g n := by
  intro n
  induction n using Nat.strongRecOn with
  | _ n ih =>
    intro f g h
    by_cases w : n ≤ 71
    · exact ⟨n, f, g, w, h, rfl, Int.le_refl _⟩
    · obtain ⟨i, j, h1, h2, h3⟩ := gw_pg 72 f (fun i hi => by
        have a := (gwQ.vl hH h i (by omega)).1
        omega)
      obtain ⟨f2, g2, a, b, c⟩ := gwQ.cut1 hH h h1 (by omega) h3
      obtain ⟨m, f3, g3, d1, d2, d3, d4⟩ := ih (n - (j - i)) (by omega) f2 g2 a
      exact ⟨m, f3, g3, d1, d2, d3.trans b, by omega⟩
theorem gwMn.rf (R : Nat → Int32) (S : Int32) : gwMn R R S S := ⟨fun _ => Int.le_refl _, Int.le_refl _⟩
theorem gwMn.tr (h : gwMn R R' S S') (h2 : gwMn R' R2 S' S2) : gwMn R R2 S S2 := ⟨fun j => Int.le_trans (h2.1 j) (h.1 j), Int.le_trans h2.2 h.2⟩
theorem gwRx.mn (h : gwRx N D C L R S s v t) (m : gwMn R R' S S') (hv : v ≤ v') : gwRx N D C L R' S' s v' t := fun a b => by
  obtain ⟨h1, h2⟩ := h a b
  refine ⟨fun e => ?_, fun e => ?_⟩
  · have := h1 e
    have := m.2
    omega
  · have := h2 e
    have := m.1 (gwX C s t)
    omega
theorem gwPr.in (h0 : ∀ s, gwV N C s → ¬ κ s < q) : gwPr N D C L κ R R S S r q 0 := ⟨gwMn.rf R S, fun s hv hk => absurd hk (h0 s hv), fun _ _ _ t' ht => absurd ht (Nat.not_lt_zero t'), fun _ => rfl⟩
theorem gwPr.st {z : Int32} (h : gwPr N D C L κ R R' S S' r q t) (T : gwT N D C L κ R' R2 S' S2 q t z) (hz : r' = 0 → r = 0 ∧ z = 0) : gwPr N D C L κ R R2 S S2 r' q (t + 1) := by
  obtain ⟨h1, h2, h3, h4⟩ := h
  obtain ⟨t1, t2, t3⟩ := T
  refine ⟨h1.tr t1, fun s a b c t' => (h2 s a b c t').mn t1 (Int.le_refl _), fun s a b t' ht => ?_, fun e => ?_⟩
  · by_cases w : t' = t
    · rw [w]
      exact (t2 s a b).mn (gwMn.rf R2 S2) (h1.1 s)
    · exact (h3 s a b t' (by omega)).mn t1 (Int.le_refl _)
  · obtain ⟨e1, e2⟩ := hz e
    rw [t3 e2, h4 e1]
theorem gwPr.sk (h : gwPr N D C L κ R R' S S' r q t) (hn : ¬ gwIn N D t) : gwPr N D C L κ R R' S S' r q (t + 1) :=
  ⟨h.1, h.2.1, fun s a b t' ht => by
    by_cases w : t' = t
    · rw [w]
      exact fun x => absurd x hn
    · exact h.2.2.1 s a b t' (by omega), h.2.2.2⟩
theorem gwPr.nx (h : gwPr N D C L κ R R' S S' r q t) (hn : N ≤ t ∨ ∀ s, gwV N C s → κ s = q → 1000000 ≤ (R s).toInt) : gwPr N D C L κ R R' S S' r (q + 1) 0 :=
  ⟨h.1, fun s a b c t' => by
    by_cases w : κ s < q
    · exact h.2.1 s a w c t'
    · rcases hn with y | y
      · by_cases z : t' < t
        · exact h.2.2.1 s a (by omega) t' z
        · exact fun x => absurd x.1 (by omega)
      · have := y s a (by omega)
        omega, fun _ _ _ t' ht => absurd ht (Nat.not_lt_zero t'), h.2.2.2⟩
theorem gwPr.go (h : gwPr N D C L κ R R' S S' r q t) (hq : ∀ s, gwV N C s → κ s < q) : gwGo N D C L R R' S S' r := ⟨h.1, fun s a c t' => h.2.1 s a (hq s a) c t', h.2.2.2⟩
theorem gwGo.z (h : gwGo N D C L R R' S S' r) (e : r = 0) : gwZ N D C L R' S' := by
  have w := h.2.2 e
  rw [w] at h ⊢
  exact fun s a b t' => h.2.1 s a b t'
theorem gwJ.mn {A B : Nat} (h : gwJ N D C L R S A B) (m : gwMn R R' S S') : gwJ N D C L R' S' A B := fun a b w ha hb hn he => by
  obtain ⟨h1, h2⟩ := h a b w ha hb hn he
  refine ⟨fun e => ?_, fun e => ?_⟩
  · have := h1 e
    have := m.1 (3 * b + gwc C a)
    omega
  · have := h2 e
    have := m.2
    omega
theorem gwJ.st {A B : Nat} (h : gwJ N D C L R S A B) (m : gwMn R R' S S') (x : (gwc C A < gwc C B → (R' (3 * B + gwc C A)).toInt ≤ (gwc C B : Int)) ∧ (gwc C A = gwc C B → S'.toInt ≤ (gwc C B : Int))) : gwJ N D C L R' S' A (B + 1) := fun a b w ha hb hn he => by
  by_cases z : a = A ∧ b = B
  · rw [z.1, z.2]
    exact x
  · exact (h.mn m) a b (by omega) ha hb hn he
theorem gwJ.sk {A B : Nat} (h : gwJ N D C L R S A B) (x : ¬ (gwIn N D A ∧ gwIn N D B ∧ A ≠ B ∧ begB C L A B = true)) : gwJ N D C L R S A (B + 1) := fun a b w ha hb hn he => by
  by_cases z : a = A ∧ b = B
  · rw [z.1] at ha hn he
    rw [z.2] at hb hn he
    exact absurd ⟨ha, hb, hn, he⟩ x
  · exact h a b (by omega) ha hb hn he
theorem gwJ.nx {A B : Nat} (h : gwJ N D C L R S A B) (x : N ≤ B) : gwJ N D C L R S (A + 1) 0 := fun a b w ha hb hn he => h a b (by have := hb.1; omega) ha hb hn he
theorem gwJ.in : gwJ N D C L R S 0 0 := fun a b w _ _ _ _ => by
  exfalso
  omega
theorem gwJ.kk {A B : Nat} (h : gwJ N D C L R S A B) (x : N ≤ A) : gwK N D C L R S 0 := by
  refine ⟨fun n f g hn w => ?_, fun n _ _ hn => absurd hn (Nat.not_lt_zero n), fun c w => ?_⟩
  · have e : n = 0 := by omega
    rw [e]
    obtain ⟨a, b, ha, hb, hne, he, hl, hs, hc⟩ := w.1
    rw [hs, hc]
    exact (h a b (by have := ha.1; omega) ha hb hne he).1 hl
  · obtain ⟨a, b, ha, hb, hne, he, hl, hc⟩ := w
    rw [hc]
    exact (h a b (by have := ha.1; omega) ha hb hne he).2 hl
theorem gwK.st (hH : gwH N C) (hB : gwB N C R' S') (h : gwK N D C L R S k) (G : gwGo N D C L R R' S S' r) : gwK N D C L R' S' (k + 1) := by
  refine ⟨fun n f g hn w => ?_, fun n f g hn w e => ?_, fun c w => ?_⟩
  · cases n with
    | zero =>
      have := h.1 0 f g (Nat.zero_le _) w
      have := G.1.1 (f 0)
      omega
    | succ m =>
      have a := h.1 m f g (by omega) (w.pre (by omega))
      have hv := gwQ.vl hH w m (by omega)
      have hv2 := gwQ.vl hH w (m + 1) (Nat.le_refl _)
      have hm := gwQ.mn hH w (m + 1) m (by omega) (Nat.le_refl _)
      have hb := hB.1 _ hv2
      by_cases z : (R (f m)).toInt < 1000000
      · obtain ⟨t, ht, hg, hne, hs, hd⟩ := w.2 m (by omega)
        have := (G.2.1 (f m) hv z t ht hg).2 hne
        rw [hs]
        omega
      · omega
  · have a := h.1 n f g (by omega) w
    have hv := gwQ.vl hH w n (Nat.le_refl _)
    have hb := hB.2
    by_cases z : (R (f n)).toInt < 1000000
    · obtain ⟨t, ht, hg, he⟩ := e
      have := (G.2.1 (f n) hv z t ht hg).1 he
      omega
    · omega
  · have := h.2.2 c w
    have := G.1.2
    omega
theorem gwK.fin (hH : gwH N C) (hN : N ≤ 24) (hB : gwB N C R S) (hS : S.toInt < 1000000 → gwR N D C L S.toInt) (h : gwK N D C L R S k) (hx : gwZ N D C L R S ∨ 72 ≤ k) : gwL N D C L S.toInt := by
  refine ⟨hB.2, hS, fun x w => ?_⟩
  rcases w with w | ⟨n, f, g, w, e, hc⟩
  · exact h.2.2 x w
  · rw [hc]
    rcases hx with z | z
    · have a : ∀ m, m ≤ n → (R (f m)).toInt ≤ g m := by
        intro m
        induction m with
        | zero => exact fun _ => h.1 0 f g (Nat.zero_le _) (w.pre (Nat.zero_le _))
        | succ m ih =>
          intro hm
          have a := ih (by omega)
          have hv := gwQ.vl hH w m (by omega)
          have hb := hB.1 _ (gwQ.vl hH w (m + 1) hm)
          have ho := gwQ.mn hH w (m + 1) m (by omega) hm
          by_cases y : (R (f m)).toInt < 1000000
          · obtain ⟨t, ht, hg, hne, hs, hd⟩ := w.2 m (by omega)
            have := (z (f m) hv y t ht hg).2 hne
            rw [hs]
            omega
          · omega
      have b := a n (Nat.le_refl _)
      have hv := gwQ.vl hH w n (Nat.le_refl _)
      have hb := hB.2
      by_cases y : (R (f n)).toInt < 1000000
      · obtain ⟨t, ht, hg, he⟩ := e
        have := (z (f n) hv y t ht hg).1 he
        omega
      · omega
    · obtain ⟨m, f2, g2, d1, d2, d3, d4⟩ := gwQ.cut hH hN n f g w
      have := h.2.1 m f2 g2 (by omega) d2 (by rw [d3]; exact e)
      omega
theorem gw_up {R : Nat → Int32} {j k : Nat} {x : Int32} (h : j = k) : upd R k x j = x := by subst h; simp [upd]
/-! the class -/
theorem gwRe.mn (h : gwRe C R R' S S' rule place c r) : gwMn R R' S S' := by
  rcases h with ⟨_, _, e1, e2⟩ | ⟨_, e2, ⟨hl, _, x, e1, ex⟩ | ⟨_, _, e1⟩⟩
  · rw [e1]
    exact ⟨fun _ => Int.le_refl _, by omega⟩
  · rw [e2]
    refine ⟨fun j => ?_, Int.le_refl _⟩
    rw [e1]
    by_cases w : j = 3 * rule + place
    · rw [gw_up w, w]
      omega
    · rw [pk_un w]
      exact Int.le_refl _
  · rw [e1, e2]
    exact gwMn.rf R S
theorem gwRe.z (h : gwRe C R R' S S' rule place c r) (e : r = 0) : R' = R := by
  rcases h with ⟨_, _, e1, _⟩ | ⟨_, _, ⟨_, e2, _⟩ | ⟨_, _, e1⟩⟩
  · exact e1
  · exact absurd (e2.symm.trans e) (by decide)
  · exact e1
theorem gwRe.le (h : gwRe C R R' S S' rule place c r) : (gwc C rule ≤ place → S'.toInt ≤ c) ∧ (place < gwc C rule → (R' (3 * rule + place)).toInt ≤ c) := by
  rcases h with ⟨a, _, e1, e2⟩ | ⟨a, e2, ⟨hl, _, x, e1, ex⟩ | ⟨hl, _, e1⟩⟩
  · exact ⟨fun _ => by omega, fun b => by omega⟩
  · exact ⟨fun b => by omega, fun _ => by rw [e1, gw_up rfl, ex]; exact Int.le_refl _⟩
  · exact ⟨fun b => by omega, fun _ => by rw [e1]; exact hl⟩
/-- what comes in is that of a walk -/
theorem gwRe.sd (hs : gwSd N D C L R S) (hE : gwc C rule ≤ place → c < 1000000 → gwR N D C L c) (hQ : place < gwc C rule → c < 1000000 → ∃ (n : Nat) (f : Nat → Nat) (g : Nat → Int), gwQ N D C L f g n ∧ f n = 3 * rule + place ∧ g n = c) (h : gwRe C R R' S S' rule place c r) : gwSd N D C L R' S' := by
  rcases h with ⟨a, _, e1, e2⟩ | ⟨a, e2, ⟨hl, _, x, e1, ex⟩ | ⟨_, _, e1⟩⟩
  · rw [e1]
    refine ⟨hs.1, by have := hs.2.1; omega, fun w => ?_⟩
    by_cases y : S.toInt ≤ c
    · rw [show S'.toInt = S.toInt by omega]
      exact hs.2.2 (by omega)
    · rw [show S'.toInt = c by omega]
      exact hE a (by omega)
  · rw [e2]
    refine ⟨fun j hj => ?_, hs.2⟩
    rw [e1]
    by_cases w : j = 3 * rule + place
    · have b := hs.1 j hj
      rw [gw_up w]
      rw [w] at b
      refine ⟨by omega, fun y => ?_⟩
      obtain ⟨n, f, g, q1, q2, q3⟩ := hQ a (by omega)
      exact ⟨n, f, g, q1, q2.trans w.symm, by omega⟩
    · rw [pk_un w]
      exact hs.1 j hj
  · rw [e1, e2]
    exact hs
theorem gwSd.b (hN : N ≤ 24) (hs : gwSd N D C L R S) : gwB N C R S := ⟨fun s a => (hs.1 s (by have := a.1; omega)).1, hs.2.1⟩
theorem gwSd.vl (hH : gwH N C) (hs : gwSd N D C L R S) (h : s < 72) (hl : (R s).toInt < 1000000) : gwV N C s := by
  obtain ⟨n, f, g, q1, q2, _⟩ := (hs.1 s h).2 hl
  have := gwQ.vl hH q1 n (Nat.le_refl _)
  rw [q2] at this
  exact this
theorem gwSd.in (h : ∀ s, s < 72 → (R s).toInt = 1000000) (hS : S.toInt = 1000000) : gwSd N D C L R S := ⟨fun s hs => ⟨by rw [h s hs]; exact Int.le_refl _, fun w => by rw [h s hs] at w; omega⟩, by omega, fun w => by omega⟩
/-- the RULES a and b, of which the first begins the second -/
theorem gwRe.j {a b : Nat} (hH : gwH N C) (ha : gwIn N D a) (hb : gwIn N D b) (hne : a ≠ b) (he : begB C L a b = true) (hs : gwSd N D C L R S) (h : gwRe C R R' S S' b (gwc C a) (gwc C b : Int) r) : gwSd N D C L R' S' ∧ gwMn R R' S S' ∧ (gwc C a < gwc C b → (R' (3 * b + gwc C a)).toInt ≤ (gwc C b : Int)) ∧ (gwc C a = gwc C b → S'.toInt ≤ (gwc C b : Int)) := by
  have hle : gwc C a ≤ gwc C b := by
    have := (begB.iff.1 he).1
    unfold gwc
    omega
  refine ⟨h.sd hs (fun x _ => Or.inl ⟨a, b, ha, hb, hne, he, by omega, rfl⟩) (fun x _ => ⟨0, fun _ => 3 * b + gwc C a, fun _ => (gwc C b : Int), ⟨⟨a, b, ha, hb, hne, he, x, rfl, rfl⟩, fun i hi => absurd hi (Nat.not_lt_zero i)⟩, rfl, rfl⟩), h.mn, fun x => h.le.2 x, fun x => h.le.1 (by omega)⟩
/-- a RULE behind a state -/
theorem gwRe.tt (hH : gwH N C) (hs : gwSd N D C L R S) (h72 : s < 72) (hl : (R s).toInt < 1000000) (ht : gwIn N D t) (hg : gwG C L s t) (h : (gwc C t ≤ gwA C s ∧ gwRe C R R' S S' (s / 3) (s % 3 + gwc C t) (R s).toInt r) ∨ (gwA C s < gwc C t ∧ gwRe C R R' S S' t (gwA C s) ((R s).toInt + (gwc C t : Int) - (gwA C s : Int)) r)) : gwSd N D C L R' S' ∧ gwT N D C L (fun s => s) R R' S S' s t r := by
  have hv := hs.vl hH h72 hl
  obtain ⟨v1, v2, v3⟩ := hv
  have h1 := hH (s / 3) v1
  have h2 := hH t ht.1
  have hA : gwA C s = gwc C (s / 3) - s % 3 := rfl
  obtain ⟨n, f, g, q1, q2, q3⟩ := (hs.1 s h72).2 hl
  rcases h with ⟨w, h⟩ | ⟨w, h⟩
  · have ex : gwc C t ≠ gwA C s → gwX C s t = 3 * (s / 3) + (s % 3 + gwc C t) := fun e => by
      unfold gwX
      rw [if_pos (by omega)]
      omega
    have ed : gwD C s t = 0 := by
      unfold gwD
      by_cases y : gwc C t < gwA C s
      · rw [if_pos y]
      · rw [if_neg y]
        omega
    refine ⟨h.sd hs (fun x _ => Or.inr ⟨n, f, g, q1, ⟨t, ht, by rw [q2]; exact hg, by rw [q2]; omega⟩, q3.symm⟩) (fun x _ => ?_), h.mn, fun s' a e => ?_, h.z⟩
    · have st : gwS N D C L (f n) (gwX C s t) (gwD C s t) := ⟨t, ht, by rw [q2]; exact hg, by rw [q2]; omega, by rw [q2], by rw [q2]⟩
      exact ⟨n + 1, _, _, q1.sn st, by show (if n + 1 ≤ n then _ else _) = _; rw [if_neg (by omega)]; exact ex (by omega), by show (if n + 1 ≤ n then _ else _) = _; rw [if_neg (by omega)]; omega⟩
    · have e' : s' = s := e
      rw [e']
      refine fun _ _ => ⟨fun y => h.le.1 (by omega), fun y => ?_⟩
      have := h.le.2 (by omega)
      rw [ex y]
      omega
  · have ex : gwX C s t = 3 * t + gwA C s := by
      unfold gwX
      rw [if_neg (by omega)]
    have ed : gwD C s t = (gwc C t : Int) - (gwA C s : Int) := by
      unfold gwD
      rw [if_neg (by omega)]
    refine ⟨h.sd hs (fun x _ => absurd x (by omega)) (fun x _ => ?_), h.mn, fun s' a e => ?_, h.z⟩
    · have st : gwS N D C L (f n) (gwX C s t) (gwD C s t) := ⟨t, ht, by rw [q2]; exact hg, by rw [q2]; omega, by rw [q2], by rw [q2]⟩
      exact ⟨n + 1, _, _, q1.sn st, by show (if n + 1 ≤ n then _ else _) = _; rw [if_neg (by omega)]; exact ex, by show (if n + 1 ≤ n then _ else _) = _; rw [if_neg (by omega)]; omega⟩
    · have e' : s' = s := e
      rw [e']
      refine fun _ _ => ⟨fun y => absurd y (by omega), fun y => ?_⟩
      have := h.le.2 w
      rw [ex]
      omega
/-- a RULE that can't stand there -/
theorem gwT.no (hg : ¬ (gwIn N D t ∧ gwG C L s t)) (h : r = 0) : gwT N D C L (fun s => s) R R S S s t r := ⟨gwMn.rf R S, fun s' a e => by
    have e' : s' = s := e
    rw [e']
    exact fun x y => absurd ⟨x, y⟩ hg, fun _ => rfl⟩
theorem gwK.mn (h : gwK N D C L R S k) (m : gwMn R R' S S') : gwK N D C L R' S' k := by
  refine ⟨fun n f g hn w => ?_, fun n f g hn w e => ?_, fun c w => ?_⟩
  · have := h.1 n f g hn w
    have := m.1 (f n)
    omega
  · have := h.2.1 n f g hn w e
    have := m.2
    omega
  · have := h.2.2 c w
    have := m.2
    omega
theorem gwSd.lo (hH : gwH N C) (hs : gwSd N D C L R S) (h : s < 72) (hl : (R s).toInt < 1000000) : 1 ≤ (R s).toInt := by
  obtain ⟨n, f, g, q1, _, q3⟩ := (hs.1 s h).2 hl
  have := gwQ.pos hH q1
  omega
/-! the same walks over tables that are alike -/
def gwY (N : Nat) (C C' : Nat → Int32) (L L' : Nat → Nat → Int32) : Prop := ∀ r, r < N → C r = C' r ∧ ∀ k : Nat, k < gwc C r → L r k = L' r k
section Cg
variable {C' : Nat → Int32} {L' : Nat → Nat → Int32}
theorem gwY.sy (h : gwY N C C' L L') : gwY N C' C L' L := fun r hr => ⟨(h r hr).1.symm, fun k hk => ((h r hr).2 k (by unfold gwc at hk ⊢; rw [(h r hr).1]; exact hk)).symm⟩
theorem gwY.cc (h : gwY N C C' L L') (hr : t < N) : gwc C' t = gwc C t := by
  unfold gwc
  rw [(h t hr).1]
theorem gwY.a (h : gwY N C C' L L') (hr : s / 3 < N) : gwA C' s = gwA C s := by
  unfold gwA
  rw [h.cc hr]
theorem gwY.x (h : gwY N C C' L L') (hr : s / 3 < N) (ht : t < N) : gwX C' s t = gwX C s t ∧ gwD C' s t = gwD C s t := by
  unfold gwX gwD
  rw [h.cc ht, h.a hr]
  exact ⟨rfl, rfl⟩
theorem gwY.gg (h : gwY N C C' L L') (hr : s / 3 < N) (ht : t < N) (g : gwG C L s t) : gwG C' L' s t := fun k h1 h2 => by
  rw [h.a hr] at h1
  rw [h.cc ht] at h2
  rw [← (h (s / 3) hr).2 (s % 3 + k) (by unfold gwA at h1; omega), ← (h t ht).2 k h2]
  exact g k h1 h2
theorem gwY.b {a b : Nat} (h : gwY N C C' L L') (ha : a < N) (hb : b < N) (e : begB C L a b = true) : begB C' L' a b = true := by
  obtain ⟨p, q⟩ := begB.iff.1 e
  have ea := (h a ha).1
  have eb := (h b hb).1
  refine begB.t (by rw [← ea, ← eb]; exact p) (fun k hk => ?_)
  rw [← ea] at hk
  rw [← (h a ha).2 k (by unfold gwc; omega), ← (h b hb).2 k (by unfold gwc; omega)]
  exact q k hk
theorem gwY.i (h : gwY N C C' L L') (w : gwI N D C L s c) : gwI N D C' L' s c := by
  obtain ⟨a, b, ha, hb, hne, he, hl, hs, hc⟩ := w
  exact ⟨a, b, ha, hb, hne, h.b ha.1 hb.1 he, by rw [h.cc ha.1, h.cc hb.1]; exact hl, by rw [h.cc ha.1]; exact hs, by rw [h.cc hb.1]; exact hc⟩
theorem gwY.ff (h : gwY N C C' L L') (w : gwF N D C L c) : gwF N D C' L' c := by
  obtain ⟨a, b, ha, hb, hne, he, hl, hc⟩ := w
  exact ⟨a, b, ha, hb, hne, h.b ha.1 hb.1 he, by rw [h.cc ha.1, h.cc hb.1]; exact hl, by rw [h.cc hb.1]; exact hc⟩
theorem gwY.ss (h : gwY N C C' L L') (hr : s / 3 < N) (w : gwS N D C L s s2 d) : gwS N D C' L' s s2 d := by
  obtain ⟨t, ht, hg, hne, hs, hd⟩ := w
  obtain ⟨x, y⟩ := h.x hr ht.1
  exact ⟨t, ht, h.gg hr ht.1 hg, by rw [h.cc ht.1, h.a hr]; exact hne, by rw [x]; exact hs, by rw [y]; exact hd⟩
theorem gwY.e (h : gwY N C C' L L') (hr : s / 3 < N) (w : gwE N D C L s) : gwE N D C' L' s := by
  obtain ⟨t, ht, hg, he⟩ := w
  exact ⟨t, ht, h.gg hr ht.1 hg, by rw [h.cc ht.1, h.a hr]; exact he⟩
theorem gwY.rr (hH : gwH N C) (h : gwY N C C' L L') (w : gwR N D C L c) : gwR N D C' L' c := by
  rcases w with w | ⟨n, f, g, q, e, hc⟩
  · exact Or.inl (h.ff w)
  · exact Or.inr ⟨n, f, g, ⟨h.i q.1, fun i hi => h.ss (gwQ.vl hH q i (by omega)).1 (q.2 i hi)⟩, h.e (gwQ.vl hH q n (Nat.le_refl _)).1 e, hc⟩
theorem gwY.l (hH : gwH N C) (hH' : gwH N C') (h : gwY N C C' L L') (w : gwL N D C L c) : gwL N D C' L' c := ⟨w.1, fun z => h.rr hH (w.2.1 z), fun x z => w.2.2 x (h.sy.rr hH' z)⟩
end Cg
end Fng
/-! CELLS that a text tells are 1 and more -/
def pqR (x : fxR) : Prop := (∀ v ∈ x.2.1, (1 : Int) ≤ v) ∧ ∀ v ∈ x.1, (1 : Int) ≤ v ∧ v ≤ 26
theorem pqR.e : pqR fxE := ⟨fun v hv => absurd hv (List.not_mem_nil), fun v hv => absurd hv (List.not_mem_nil)⟩
def pqP (T : fxT) (cu : fxR) : Prop := (∀ x ∈ T.2, pqR x) ∧ pqR cu
abbrev pqS (s : fxS) : Prop := pqP s.2.2.2.1 s.2.2.2.2
section Pq
variable {kd va aw sg : Int} {w : List Int} {td : Nat → Bool} {T : fxT} {cu : fxR} {s : fxS}
theorem pqP.e (h : pqP T cu) : pqP T fxE := ⟨h.1, pqR.e⟩
theorem pqP.cell (h : pqP T cu) (e : fxCell va td T cu = .inr s) : pqS s := by
  unfold fxCell at e
  by_cases a : va < 1 ∨ 63 < va
  · rw [if_pos a] at e
    exact absurd e.symm Sum.inr_ne_inl
  · rw [if_neg a] at e
    by_cases b : 3 ≤ cu.2.1.length
    · rw [if_pos b] at e
      exact absurd e.symm Sum.inr_ne_inl
    · rw [if_neg b] at e
      have e2 := Sum.inr.inj e
      rw [← e2]
      refine ⟨h.1, fun v hv => ?_, h.2.2⟩
      have hv : v ∈ cu.2.1 ++ [va] := hv
      rcases List.mem_append.1 hv with z | z
      · exact h.2.1 v z
      · rw [List.mem_singleton.1 z]
        omega
theorem pqP.rule (h : pqP T cu) (e : fxRule td T cu = .inr s) : pqS s := by
  unfold fxRule at e
  by_cases a : T.2.any (fun x => decide (x.1 = cu.1 ∧ x.2.2 = cu.2.2)) = true
  · rw [if_pos a] at e
    exact absurd e.symm Sum.inr_ne_inl
  · rw [if_neg a] at e
    have e2 := Sum.inr.inj e
    rw [← e2]
    refine ⟨fun x hx => ?_, pqR.e⟩
    have hx : x ∈ T.2 ++ [cu] := hx
    rcases List.mem_append.1 hx with z | z
    · exact h.1 x z
    · rw [List.mem_singleton.1 z]
      exact h.2
theorem pqP.sign {k : Nat} (h : pqP T cu) (e : fxSign k td T = .inr s) : pqS s := by
  unfold fxSign at e
  by_cases a : td k = true
  · rw [if_pos a] at e
    exact absurd e.symm Sum.inr_ne_inl
  · rw [if_neg a] at e
    rw [← Sum.inr.inj e]
    exact h.e
/-- what is told and stays -/
theorem pqP.to {a : Int} {b : Int} {td' : Nat → Bool} {cu' : fxR} (h : pqP T cu') (e : (Sum.inr (a, b, td', T, cu') : Sum Int fxS) = .inr s) : pqS s := by
  rw [← Sum.inr.inj e]
  exact h
theorem pqP.part (h : pqP T cu) (e : fxPart kd w td T = .inr s) : pqS s := by
  unfold fxPart at e
  by_cases a : kd ≠ 0
  · rw [if_pos a] at e
    exact absurd e.symm Sum.inr_ne_inl
  · rw [if_neg a] at e
    by_cases c0 : w = fxK 0
    · rw [if_pos c0] at e
      by_cases c9 : 24 ≤ T.2.length
      · rw [if_pos c9] at e
        exact absurd e.symm Sum.inr_ne_inl
      · rw [if_neg c9] at e
        exact h.e.to e
    · rw [if_neg c0] at e
      by_cases c1 : w = fxK 1
      · rw [if_pos c1] at e
        exact h.sign e
      · rw [if_neg c1] at e
        by_cases c2 : w = fxK 2
        · rw [if_pos c2] at e
          exact h.sign e
        · rw [if_neg c2] at e
          by_cases c3 : w = fxK 3
          · rw [if_pos c3] at e
            exact h.sign e
          · rw [if_neg c3] at e
            by_cases c4 : w = fxK 4
            · rw [if_pos c4] at e
              exact h.sign e
            · rw [if_neg c4] at e
              by_cases c5 : w = fxK 5
              · rw [if_pos c5] at e
                exact h.sign e
              · rw [if_neg c5] at e
                exact absurd e.symm Sum.inr_ne_inl
theorem pqP.more (h : pqP T cu) (e : fxMore kd w va td T cu = .inr s) : pqS s := by
  have hc : ∀ z : Int, pqP T (cu.1, cu.2.1, z) := fun z => h
  unfold fxMore at e
  by_cases a : kd = 1
  · rw [if_pos a] at e
    exact h.cell e
  · rw [if_neg a] at e
    by_cases b : kd = 2
    · rw [if_pos b] at e
      exact h.rule e
    · rw [if_neg b] at e
      by_cases c : kd ≠ 0
      · rw [if_pos c] at e
        exact absurd e.symm Sum.inr_ne_inl
      · rw [if_neg c] at e
        by_cases c1 : w = fxK 7
        · rw [if_pos c1] at e
          exact (hc 1).to e
        · rw [if_neg c1] at e
          by_cases c2 : w = fxK 8
          · rw [if_pos c2] at e
            exact (hc 2).to e
          · rw [if_neg c2] at e
            by_cases c3 : w = fxK 9
            · rw [if_pos c3] at e
              exact (hc 3).to e
            · rw [if_neg c3] at e
              by_cases c4 : w = fxK 10
              · rw [if_pos c4] at e
                exact (hc 4).to e
              · rw [if_neg c4] at e
                exact absurd e.symm Sum.inr_ne_inl
theorem pqP.step (hw : kd = 0 → ∀ v ∈ w, 97 ≤ v ∧ v ≤ 122) (h : pqP T cu) (e : fxStep kd w va aw sg td T cu = .inr s) : pqS s := by
  have nn : ∀ {x : Int}, (Sum.inl x : Sum Int fxS) = .inr s → pqS s := fun q => absurd q.symm Sum.inr_ne_inl
  unfold fxStep at e
  by_cases a4 : kd = 4
  · rw [if_pos a4] at e
    exact nn e
  · rw [if_neg a4] at e
    by_cases a3 : kd = 3
    · rw [if_pos a3] at e
      by_cases c : aw = 0
      · rw [if_pos c] at e
        exact nn e
      · rw [if_neg c] at e
        exact nn e
    · rw [if_neg a3] at e
      by_cases b0 : aw = 0
      · rw [if_pos b0] at e
        exact h.part e
      · rw [if_neg b0] at e
        by_cases b1 : aw = 1
        · rw [if_pos b1] at e
          unfold fxLets at e
          by_cases c : kd = 0 ∧ w.length ≤ 6
          · rw [if_pos c] at e
            rw [← Sum.inr.inj e]
            refine ⟨h.1, fun v hv => absurd hv (List.not_mem_nil), fun v hv => ?_⟩
            have hv : v ∈ w.map (fun b => b - 96) := hv
            obtain ⟨b, hb, eb⟩ := List.mem_map.1 hv
            have hb2 := hw c.1 b hb
            omega
          · rw [if_neg c] at e
            exact nn e
        · rw [if_neg b1] at e
          by_cases b2 : aw = 2
          · rw [if_pos b2] at e
            by_cases c : kd = 0 ∧ w = fxK 6
            · rw [if_pos c] at e
              exact h.to e
            · rw [if_neg c] at e
              exact nn e
          · rw [if_neg b2] at e
            by_cases b3 : aw = 3
            · rw [if_pos b3] at e
              by_cases c : kd = 1
              · rw [if_pos c] at e
                exact h.cell e
              · rw [if_neg c] at e
                exact nn e
            · rw [if_neg b3] at e
              by_cases b4 : aw = 4
              · rw [if_pos b4] at e
                exact h.more e
              · rw [if_neg b4] at e
                by_cases b5 : aw = 5
                · rw [if_pos b5] at e
                  by_cases c : kd = 2
                  · rw [if_pos c] at e
                    exact h.rule e
                  · rw [if_neg c] at e
                    exact nn e
                · rw [if_neg b5] at e
                  by_cases b6 : aw = 6
                  · rw [if_pos b6] at e
                    by_cases c : kd = 1
                    · rw [if_pos c] at e
                      unfold fxSgv at e
                      by_cases d : va < fxLo sg ∨ fxHi sg < va
                      · rw [if_pos d] at e
                        exact nn e
                      · rw [if_neg d] at e
                        rw [← Sum.inr.inj e]
                        exact h.e
                    · rw [if_neg c] at e
                      exact nn e
                  · rw [if_neg b6] at e
                    by_cases c : kd = 2
                    · rw [if_pos c] at e
                      exact h.e.to e
                    · rw [if_neg c] at e
                      exact nn e
theorem fxLx.sm {B : Nat → Int} {n p fr en va : Int} {kd : Int} (h : fxLx B n p kd fr en va) (k0 : kd = 0) (hp : 0 ≤ p) : ∀ v ∈ fxW B fr en, 97 ≤ v ∧ v ≤ 122 := fun v hv => by
  subst k0
  unfold fxW at hv
  obtain ⟨i, hi, e⟩ := List.mem_map.1 hv
  have hi2 := List.mem_range.1 hi
  obtain ⟨⟨a1, a2, _, _⟩, b⟩ := h
  rcases b with ⟨_, b, _⟩ | ⟨b1, _, _, b3, b4, b5, _⟩ | ⟨_, _, _, _, _, _, b⟩ | ⟨_, _, _, _, b⟩
  · omega
  · rw [← e]
    exact b5 _ (by omega) (by omega)
  · omega
  · omega
theorem pqS.go {B : Nat → Int} {n : Int} : ∀ (k : Nat) {a b : Int × fxS}, 0 ≤ a.1 → fxGo B n k a b → pqS a.2 → pqS b.2
  | 0, a, b, _, g, h => by
    have e : a = b := g
    rw [← e]
    exact h
  | k + 1, a, b, h0, g, h => by
    obtain ⟨c, ⟨kd, fr, va, lx, e⟩, g2⟩ := g
    have rn := lx.rng
    exact pqS.go k (by omega) g2 (pqP.step (fun k0 => lx.sm k0 h0) h e)
theorem pqS.re {B : Nat → Int} {n : Int} {c : Int × fxS} (g : fxRe B n (0, fxS0) c) : pqS c.2 := by
  obtain ⟨k, g⟩ := g
  exact pqS.go k (Int.le_refl 0) g ⟨fun x hx => absurd hx (List.not_mem_nil), pqR.e⟩
end Pq
/-- of a table: CELLS are 1 and more -/
def pqT (t : Nat → Nat → Int32) : Prop := ∀ x ∈ (fxTc t).2, pqR x
theorem pqT.at {t : Nat → Nat → Int32} (h : pqT t) {r k : Nat} (hr : r < (t 0 0).toInt.toNat) (hk : k < gwc (cC t) r) : 1 ≤ (cL t r k).toInt := (h (fxRc t r) (List.mem_map.2 ⟨r, List.mem_range.2 hr, rfl⟩)).1 _ (List.mem_map.2 ⟨k, List.mem_range.2 hk, rfl⟩)
theorem pqT.of {t t' : Nat → Nat → Int32} (h : pqT t) (e : fxTc t' = fxTc t) : pqT t' := by
  unfold pqT
  rw [e]
  exact h
theorem pqT.zero {t : Nat → Nat → Int32} (h : (t 0 0).toInt = 0) : pqT t := fun x hx => by
  have hx : x ∈ (List.range (t 0 0).toInt.toNat).map (fxRc t) := hx
  rw [h] at hx
  exact absurd hx (List.not_mem_nil)
