/-! a search level by level (behind fnx3): what is found and what is left to find -/
def tRs (F : Nat → Int32) (l : Nat) : List Nat := (List.range l).map (fun k => (F k).toInt.toNat)
theorem tRs.sn {F : Nat → Int32} {l : Nat} : tRs F (l + 1) = tRs F l ++ [(F l).toInt.toNat] := by
  unfold tRs
  rw [List.range_succ, List.map_append]
  rfl
theorem tRs.cg {F G : Nat → Int32} {l : Nat} (h : ∀ k, k < l → F k = G k) : tRs F l = tRs G l := by
  unfold tRs
  exact List.map_congr_left (fun k hk => by rw [h k (List.mem_range.1 hk)])
theorem sumN.one {f g : Nat → Int} {i : Nat} {x : Int} : ∀ {n : Nat}, i < n → (∀ r, r < n → r ≠ i → f r = g r) → f i = g i + x → sumN f n = sumN g n + x
  | 0, h, _, _ => absurd h (Nat.not_lt_zero _)
  | n + 1, h, e, ei => by
    show sumN f n + f n = sumN g n + g n + x
    by_cases z : i = n
    · subst z
      rw [sumN.congr i (fun r hr => e r (by omega) (by omega)), ei]
      omega
    · rw [sumN.one (i := i) (n := n) (by omega) (fun r hr => e r (by omega)) ei, e n (by omega) (by omega)]
      omega
noncomputable def tRm (N m : Nat) (ok : Nat → Nat → Prop) (c : Nat → Nat) (tr : List Nat → Prop) (F P : Nat → Int32) (l : Nat) : Int := sumN (fun r => pM ((F l).toInt < (r : Int) ∧ ok r (P l).toInt.toNat) (tK N m ok c tr ((P l).toInt.toNat + c r) (tRs F l ++ [r]))) N
def tDf (N m : Nat) (ok : Nat → Nat → Prop) (c : Nat → Nat) (tr : List Nat → Prop) (F P : Nat → Int32) (k : Nat) (n : Int) : Prop := tK N m ok c tr 0 [] = n + sumN (tRm N m ok c tr F P) k ∧ 0 ≤ n ∧ ∀ l, l < k → 0 ≤ (P l).toInt ∧ (P l).toInt < (m : Int) ∧ (l : Int) ≤ (P l).toInt
section Fnx4
variable {N m k l : Nat} {ok : Nat → Nat → Prop} {c : Nat → Nat} {tr : List Nat → Prop} {F F' P P' : Nat → Int32} {n n2 v : Int}
theorem tRm.cg (hF : ∀ k, k ≤ l → F k = F' k) (hP : P l = P' l) : tRm N m ok c tr F P l = tRm N m ok c tr F' P' l := by
  unfold tRm
  rw [hF l (Nat.le_refl _), hP, tRs.cg (fun k hk => hF k (by omega))]
theorem tRm.nn : 0 ≤ tRm N m ok c tr F P l := sumN.nn N (fun r => by
  by_cases z : (F l).toInt < (r : Int) ∧ ok r (P l).toInt.toNat
  · rw [pM.t z]; exact tK.nn
  · rw [pM.f z]; exact Int.le_refl _)
theorem tRm.all (hc : ∀ r p, r < N → ok r p → 1 ≤ c r ∧ p + c r ≤ m) (hF : (F l).toInt = -1) (hP : (P l).toInt.toNat < m) : tRm N m ok c tr F P l = tK N m ok c tr (P l).toInt.toNat (tRs F l) := by
  rw [tK.st hc hP]
  unfold tRm
  refine sumN.congr N (fun r hr => ?_)
  show pM _ _ = pM _ _
  by_cases o : ok r (P l).toInt.toNat
  · rw [pM.t o, pM.t ⟨by omega, o⟩]
  · rw [pM.f o, pM.f (fun q => o q.2)]
theorem tRm.end (hF : (N : Int) ≤ (F l).toInt + 1) : tRm N m ok c tr F P l = 0 := by
  unfold tRm
  refine sumN.zero N (fun r hr => ?_)
  exact pM.f (fun q => by have := q.1; omega)
theorem tRm.nx {r : Nat} (hr : r < N) (h1 : (F l).toInt = (r : Int) - 1) (h2 : (F' l).toInt = (r : Int)) (hF : ∀ k, k < l → F k = F' k) : tRm N m ok c tr F P l = tRm N m ok c tr F' P l + pM (ok r (P l).toInt.toNat) (tK N m ok c tr ((P l).toInt.toNat + c r) (tRs F l ++ [r])) := by
  unfold tRm
  rw [← tRs.cg (F := F) (G := F') hF]
  refine sumN.one (i := r) hr (fun j hj hn => ?_) ?_
  · show pM _ _ = pM _ _
    by_cases z : (F' l).toInt < (j : Int) ∧ ok j (P l).toInt.toNat
    · rw [pM.t z, pM.t ⟨by have := z.1; omega, z.2⟩]
    · rw [pM.f z, pM.f (fun q => z ⟨by have := q.1; omega, q.2⟩)]
  · show pM _ _ = pM _ _ + _
    rw [pM.f (P := (F' l).toInt < (r : Int) ∧ ok r (P l).toInt.toNat) (fun q => by have := q.1; omega), Int.zero_add]
    by_cases o : ok r (P l).toInt.toNat
    · rw [pM.t o, pM.t ⟨by omega, o⟩]
    · rw [pM.f o, pM.f (fun q => o q.2)]
theorem tDf.in (hc : ∀ r p, r < N → ok r p → 1 ≤ c r ∧ p + c r ≤ m) (hm : 0 < m) (hF : (F 0).toInt = -1) (hP : (P 0).toInt = 0) (hk : k = 1) (hn : n = 0) : tDf N m ok c tr F P k n := by
  subst hk hn
  refine ⟨?_, Int.le_refl _, fun l hl => ⟨?_, ?_, ?_⟩⟩
  · show _ = 0 + (0 + tRm N m ok c tr F P 0)
    rw [tRm.all hc hF (by omega), hP, Int.zero_add, Int.zero_add]
    rfl
  · rw [show l = 0 by omega, hP]; exact Int.le_refl _
  · rw [show l = 0 by omega, hP]; omega
  · rw [show l = 0 by omega, hP]; exact Int.le_refl _
/-- a level is done -/
theorem tDf.up (h : tDf N m ok c tr F P (l + 1) n) (hF : ∀ k, k < l → F k = F' k) (hv : (N : Int) ≤ (F l).toInt + 1) : tDf N m ok c tr F' P l n := by
  obtain ⟨a, b, d⟩ := h
  refine ⟨?_, b, fun k hk => d k (by omega)⟩
  rw [a]
  show n + (sumN (tRm N m ok c tr F P) l + tRm N m ok c tr F P l) = _
  rw [tRm.end hv, Int.add_zero, sumN.congr l (fun k hk => tRm.cg (fun j hj => hF j (by omega)) rfl)]
/-- a RULE that doesn't go on, or ends the ROW: x is what it gives -/
theorem tDf.at {r : Nat} {x : Int} (h : tDf N m ok c tr F P (l + 1) n) (hr : r < N) (h1 : (F l).toInt = (r : Int) - 1) (h2 : (F' l).toInt = (r : Int)) (hF : ∀ k, k < l → F k = F' k) (hx : pM (ok r (P l).toInt.toNat) (tK N m ok c tr ((P l).toInt.toNat + c r) (tRs F' l ++ [r])) = x) (h0 : 0 ≤ x) (hn : n2 = n + x) : tDf N m ok c tr F' P (l + 1) n2 := by
  obtain ⟨a, b, d⟩ := h
  refine ⟨?_, by omega, d⟩
  rw [a]
  show n + (sumN (tRm N m ok c tr F P) l + tRm N m ok c tr F P l) = n2 + (sumN (tRm N m ok c tr F' P) l + tRm N m ok c tr F' P l)
  rw [tRm.nx hr h1 h2 hF, tRs.cg (F := F) (G := F') hF, hx, sumN.congr (g := tRm N m ok c tr F' P) l (fun k hk => tRm.cg (F' := F') (P' := P) (fun j hj => hF j (by omega)) rfl)]
  omega
/-- a level more -/
theorem tDf.dn {r : Nat} (hc : ∀ r p, r < N → ok r p → 1 ≤ c r ∧ p + c r ≤ m) (h : tDf N m ok c tr F P (l + 1) n) (hr : r < N) (h1 : (F l).toInt = (r : Int) - 1) (h2 : (F' l).toInt = (r : Int)) (h3 : (F' (l + 1)).toInt = -1) (hF : ∀ k, k < l → F k = F' k) (hP : ∀ k, k ≤ l → P k = P' k) (o : ok r (P l).toInt.toNat) (hp : (P' (l + 1)).toInt = (P l).toInt + (c r : Int)) (hm : (P' (l + 1)).toInt < (m : Int)) : tDf N m ok c tr F' P' (l + 2) n := by
  obtain ⟨a, b, d⟩ := h
  obtain ⟨d1, d2, d3⟩ := d l (by omega)
  have cr := hc r _ hr o
  refine ⟨?_, b, fun k hk => ?_⟩
  · rw [a]
    show n + (sumN (tRm N m ok c tr F P) l + tRm N m ok c tr F P l) = n + (sumN (tRm N m ok c tr F' P') l + tRm N m ok c tr F' P' l + tRm N m ok c tr F' P' (l + 1))
    rw [tRm.nx (P := P) hr h1 h2 hF, pM.t o, tRm.all (l := l + 1) hc h3 (by omega), tRs.sn, show (F' l).toInt.toNat = r by omega, tRs.cg (F := F) (G := F') hF, show (P' (l + 1)).toInt.toNat = (P l).toInt.toNat + c r by omega,
      sumN.congr (g := tRm N m ok c tr F' P') l (fun k hk => tRm.cg (F' := F') (P' := P') (fun j hj => hF j (by omega)) (hP k (by omega))), tRm.cg (F := F') (F' := F') (P := P) (P' := P') (l := l) (fun _ _ => rfl) (hP l (Nat.le_refl _))]
    omega
  · by_cases z : k = l + 1
    · subst z
      exact ⟨by omega, hm, by omega⟩
    · rw [← hP k (by omega)]
      exact d k (by omega)
theorem tDf.out (h : tDf N m ok c tr F P 0 n) : n = tK N m ok c tr 0 [] := by
  obtain ⟨a, _⟩ := h
  rw [a]
  show n = n + 0
  omega
end Fnx4
/-! what the model has SET of a WORD of small letters -/
def tMc (A : Nat → Int32) (l : List Int) : Prop := (A 16508).toInt = (l.length : Int) ∧ ∀ k : Nat, k < l.length → (A (17100 + k)).toInt = l.getD k 0
def tCl (f : Nat → Int) (n : Nat) : List Int := (List.range n).map f
def rwM (R : Nat → Int32) (m : Nat) : List Int := tCl (fun k => (R k).toInt) m
section Fnx5
variable {A A' R : Nat → Int32} {l : List Int} {x : Int} {f g : Nat → Int} {n m : Nat}
theorem tCl.z : tCl f 0 = [] := rfl
theorem tCl.sn : tCl f (n + 1) = tCl f n ++ [f n] := by
  unfold tCl
  rw [List.range_succ, List.map_append]
  rfl
theorem tCl.cg (h : ∀ k, k < n → f k = g k) : tCl f n = tCl g n := List.map_congr_left (fun k hk => h k (List.mem_range.1 hk))
theorem tCl.len : (tCl f n).length = n := by
  unfold tCl
  rw [List.length_map, List.length_range]
theorem tCl.get {k : Nat} (hk : k < n) : (tCl f n).getD k 0 = f k := by
  unfold tCl
  rw [List.getD_eq_getElem?_getD, List.getElem?_map, List.getElem?_range hk]
  rfl
theorem tMc.cg (h : tMc A l) (e8 : (A' 16508).toInt = (A 16508).toInt) (e : ∀ k : Nat, (k : Int) < (A 16508).toInt → A' (17100 + k) = A (17100 + k)) : tMc A' l :=
  ⟨e8.trans h.1, fun k hk => by rw [e k (by have := h.1; omega)]; exact h.2 k hk⟩
theorem tMc.add (h : tMc A l) (q : (A' 16508).toInt = (A 16508).toInt + 1) (e : ∀ k : Nat, (k : Int) < (A 16508).toInt → A' (17100 + k) = A (17100 + k)) (v : (A' (17100 + (A 16508).toInt.toNat)).toInt = x) : tMc A' (l ++ [x]) := by
  obtain ⟨a, b⟩ := h
  have ln : (l ++ [x]).length = l.length + 1 := by rw [List.length_append]; rfl
  refine ⟨by omega, fun k hk => ?_⟩
  rw [ln] at hk
  by_cases z : k < l.length
  · rw [e k (by omega), List.getD_eq_getElem?_getD, List.getElem?_append_left z, ← List.getD_eq_getElem?_getD]
    exact b k z
  · have ek : k = l.length := by omega
    rw [show (A 16508).toInt.toNat = k by omega] at v
    rw [v, List.getD_eq_getElem?_getD, List.getElem?_append_right (by omega), show k - l.length = 0 by omega]
    rfl
theorem tMc.eq (h : tMc A l) : l = rwM R m ↔ (A 16508).toInt = (m : Int) ∧ ∀ k : Nat, k < m → (A (17100 + k)).toInt = (R k).toInt := by
  obtain ⟨a, b⟩ := h
  constructor
  · intro e
    have el : l.length = m := by rw [e]; exact tCl.len
    refine ⟨by omega, fun k hk => ?_⟩
    rw [b k (by omega), e]
    exact tCl.get hk
  · rintro ⟨c, d⟩
    have el : l.length = m := by omega
    refine List.ext_getElem? (fun k => ?_)
    by_cases z : k < m
    · have y := b k (by omega)
      rw [d k z, List.getD_eq_getElem?_getD, List.getElem?_eq_getElem (by omega)] at y
      have w := tCl.get (f := fun k => (R k).toInt) z
      rw [List.getD_eq_getElem?_getD, List.getElem?_eq_getElem (by rw [tCl.len]; exact z)] at w
      unfold rwM
      rw [List.getElem?_eq_getElem (by omega), List.getElem?_eq_getElem (by rw [tCl.len]; exact z)]
      exact congrArg some (y.symm.trans w.symm)
    · rw [List.getElem?_eq_none (by omega), List.getElem?_eq_none (by unfold rwM; rw [tCl.len]; omega)]
end Fnx5
