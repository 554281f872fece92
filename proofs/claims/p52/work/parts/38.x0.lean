
/-! THE MODEL: what is asked of what is set -/
theorem nx_and (a b : Nat) : nI a &&& nI b = nI (a &&& b) := by
  apply Int32.toBitVec_inj.1
  show BitVec.ofNat 32 a &&& BitVec.ofNat 32 b = BitVec.ofNat 32 (a &&& b)
  apply BitVec.eq_of_getLsbD_eq
  intro i hi
  simp [hi]
theorem nx_xor (a b : Nat) : nI a ^^^ nI b = nI (a ^^^ b) := by
  apply Int32.toBitVec_inj.1
  show BitVec.ofNat 32 a ^^^ BitVec.ofNat 32 b = BitVec.ofNat 32 (a ^^^ b)
  apply BitVec.eq_of_getLsbD_eq
  intro i hi
  simp [hi]
theorem and_dec {x y z : Int32} (h : z = x &&& y) (hy : y.toInt = x.toInt - 1) (hx : 0 < x.toInt) : 0 ≤ z.toInt ∧ z.toInt < x.toInt := by
  obtain ⟨e1, l1⟩ := t_nI (x := x) rfl (by omega)
  obtain ⟨e2, l2⟩ := t_nI hy (by omega)
  have q := Nat.and_le_right (n := x.toInt.toNat) (m := (x.toInt - 1).toNat)
  have hz : z = nI (x.toInt.toNat &&& (x.toInt - 1).toNat) := h.trans (by rw [← nx_and, ← e1, ← e2])
  rw [hz, nI_toInt (by omega)]
  omega
theorem xor_pos {x y z : Int32} (h : z = x ^^^ y) (hx : 0 ≤ x.toInt ∧ x.toInt ≤ 63) (hy : 0 ≤ y.toInt ∧ y.toInt ≤ 63) : 0 ≤ z.toInt ∧ z.toInt ≤ 63 := by
  obtain ⟨e1, l1⟩ := t_nI (x := x) rfl hx.1
  obtain ⟨e2, l2⟩ := t_nI (x := y) rfl hy.1
  have q := Nat.xor_lt_two_pow (x := x.toInt.toNat) (y := y.toInt.toNat) (n := 6) (by omega) (by omega)
  have hz : z = nI (x.toInt.toNat ^^^ y.toInt.toNat) := h.trans (by rw [← nx_xor, ← e1, ← e2])
  rw [hz, nI_toInt (by omega)]
  omega
