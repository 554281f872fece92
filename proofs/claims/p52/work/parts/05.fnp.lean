/-! THE TAPE: four bytes of a number -/
def fxBy (v : Int32) (k : Nat) : Int := ((v.toUInt32 >>> ((nI (24 - 8 * k)).toUInt32 &&& Int32.toUInt32 31)).toInt32 &&& 255).toInt
/-- numbers fed behind t bytes -/
def fxFd (G : (Nat → Int32) → Nat → Int) (A A' : Nat → Int32) (t : Nat) (vs : List Int32) : Prop := (∀ j, j < t → A' j = A j) ∧ ∀ i k, i < vs.length → k < 4 → G A' (t + 4 * i + k) = fxBy (vs.getD i 0) k
theorem fxFd.app {G : (Nat → Int32) → Nat → Int} (hG : ∀ (A A' : Nat → Int32) (j : Nat), A j = A' j → G A j = G A' j) {A A' A2 : Nat → Int32} {t t2 : Nat} {vs : List Int32} {v : Int32} (h : fxFd G A A' t vs) (h2 : fxFd G A' A2 t2 [v]) (ht : t2 = t + 4 * vs.length) : fxFd G A A2 t (vs ++ [v]) := by
  subst ht
  refine ⟨fun j hj => (h2.1 j (by omega)).trans (h.1 j hj), fun i k hi hk => ?_⟩
  rw [List.length_append, List.length_singleton] at hi
  by_cases q : i < vs.length
  · rw [hG A2 A' _ (h2.1 _ (by omega)), h.2 i k q hk]
    congr 1
    rw [List.getD_eq_getElem?_getD, List.getD_eq_getElem?_getD, List.getElem?_append_left q]
  · have e : i = vs.length := by omega
    subst e
    have w := h2.2 0 k (by rw [List.length_singleton]; omega) hk
    rw [Nat.mul_zero, Nat.add_zero] at w
    rw [w]
    congr 1
    rw [List.getD_eq_getElem?_getD, List.getD_eq_getElem?_getD, List.getElem?_append_right (Nat.le_refl _), Nat.sub_self]
theorem fxB.pt (A A' : Nat → Int32) (j : Nat) (h : A j = A' j) : fxB A j = fxB A' j := by show (A j).toInt = (A' j).toInt; rw [h]
theorem fxBm.pt (A A' : Nat → Int32) (j : Nat) (h : A j = A' j) : fxBm A j = fxBm A' j := by show (A j &&& 255).toInt = (A' j &&& 255).toInt; rw [h]
/-- what stands on both tapes is the same -/
theorem fxFd.rel {P P' O O' : Nat → Int32} {t : Nat} {vs : List Int32} (h : ∀ j : Nat, j < t → fxB P j = fxBm O j) (hc : fxFd fxB P P' t vs) (hm : fxFd fxBm O O' t vs) : ∀ j : Nat, j < t + 4 * vs.length → fxB P' j = fxBm O' j := fun j hj => by
  by_cases q : j < t
  · rw [fxB.pt P' P j (hc.1 j q), fxBm.pt O' O j (hm.1 j q)]
    exact h j q
  · have e : j = t + 4 * ((j - t) / 4) + (j - t) % 4 := by omega
    rw [e, hc.2 _ _ (by omega) (Nat.mod_lt _ (by decide)), hm.2 _ _ (by omega) (Nat.mod_lt _ (by decide))]
/-- one byte laid on the tape -/
def fxFs (G : (Nat → Int32) → Nat → Int) (A A' : Nat → Int32) (t : Nat) (v : Int32) (s : Int) : Prop := (∀ j, j < t → A' j = A j) ∧ ∀ k : Nat, 8 * (k : Int) < 24 - s → G A' (t + k) = fxBy v k
theorem fxFs.st {G : (Nat → Int32) → Nat → Int} (hG : ∀ (A A' : Nat → Int32) (j : Nat), A j = A' j → G A j = G A' j) {A A' A2 : Nat → Int32} {t : Nat} {v i z : Int32} {s s2 : Int} (h : fxFs G A A' t v s) (e : A2 = upd A' i.toNatClampNeg z) (hi : 8 * i.toInt = 8 * (t : Int) + (24 - s)) (hs : 0 ≤ s ∧ s ≤ 24 ∧ s % 8 = 0) (hz : ∀ k : Nat, 8 * (k : Int) = 24 - s → G A2 i.toNatClampNeg = fxBy v k) (h2 : s2 = s - 8) : fxFs G A A2 t v s2 := by
  have ic := t_cl (i := i) rfl (by omega)
  refine ⟨fun j hj => by rw [e, pk_un (by omega)]; exact h.1 j hj, fun k hk => ?_⟩
  by_cases q : t + k = i.toNatClampNeg
  · rw [q]
    exact hz k (by omega)
  · rw [hG A2 A' _ (by rw [e, pk_un q])]
    exact h.2 k (by omega)
theorem fxFs.out {G : (Nat → Int32) → Nat → Int} {A A' : Nat → Int32} {t : Nat} {v : Int32} {s : Int} (h : fxFs G A A' t v s) (hs : s ≤ -8) : fxFd G A A' t [v] := by
  refine ⟨h.1, fun i k hi hk => ?_⟩
  have e : i = 0 := by
    rw [List.length_singleton] at hi
    omega
  subst e
  rw [Nat.mul_zero, Nat.add_zero]
  exact h.2 k (by omega)
theorem fx_by1 {v s x z : Int32} {k : Nat} (hx : x = (v.toUInt32 >>> (s.toUInt32 &&& Int32.toUInt32 31)).toInt32) (hz : z = x &&& 255) (hs : 8 * (k : Int) = 24 - s.toInt) (h0 : 0 ≤ s.toInt) : z.toInt = fxBy v k := by
  have e : s = nI (24 - 8 * k) := by
    obtain ⟨e, _⟩ := t_nI (a := ((24 - 8 * k : Nat) : Int)) (x := s) (by omega) (by omega)
    exact e
  rw [hz, hx, e]
  rfl
theorem fx_by2 {v s x : Int32} {k : Nat} (hx : x = v >>> (s &&& 31)) (hs : 8 * (k : Int) = 24 - s.toInt) (h0 : 0 ≤ s.toInt) : (x.toInt8.toInt32.toInt8.toInt32 &&& 255).toInt = fxBy v k := by
  have e : s = nI (24 - 8 * k) := by
    obtain ⟨e, _⟩ := t_nI (a := ((24 - 8 * k : Nat) : Int)) (x := s) (by omega) (by omega)
    exact e
  rw [bp_b, bp_b, hx, e]
  show _ = ((v.toUInt32 >>> ((nI (24 - 8 * k)).toUInt32 &&& Int32.toUInt32 31)).toInt32 &&& 255).toInt
  congr 1
  apply b_ext
  intro i hi
  rw [b_and, b_and, b_255]
  by_cases q : i < 8
  · rw [b_sshr _ (by omega) v hi, b_ushr _ (by omega) v, if_pos (by omega)]
  · rw [decide_eq_false q, Bool.and_false, Bool.and_false]
