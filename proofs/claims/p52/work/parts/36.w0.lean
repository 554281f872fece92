
/-! THE MODEL: lines -/
/-- lines as they are laid: where each begins, how many cells it has -/
def LN (I : Nat → Nat → Int32) : Prop := (0 ≤ (I 0 27).toInt ∧ (I 0 27).toInt ≤ 1300) ∧ (0 ≤ (I 0 28).toInt ∧ (I 0 28).toInt ≤ 2600) ∧ (∀ l : Nat, (l : Int) < (I 0 27).toInt → 0 ≤ (I 8 l).toInt ∧ 0 ≤ (I 9 l).toInt ∧ (I 8 l).toInt + (I 9 l).toInt ≤ (I 0 28).toInt) ∧ ∀ l : Nat, (l : Int) + 1 = (I 0 27).toInt → (I 8 l).toInt + (I 9 l).toInt = (I 0 28).toInt
section
variable {I : Nat → Nat → Int32}
theorem LN.of {I' : Nat → Nat → Int32} (h : LN I) (e1 : I' 0 27 = I 0 27) (e2 : I' 0 28 = I 0 28) (e3 : I' 8 = I 8) (e4 : I' 9 = I 9) : LN I' := by
  unfold LN
  rw [e1, e2, e3, e4]
  exact h
theorem LN.zero (h1 : (I 0 27).toInt = 0) (h2 : (I 0 28).toInt = 0) : LN I := ⟨by omega, by omega, fun l hl => by exfalso; omega, fun l hl => by exfalso; omega⟩
theorem LN.at (h : LN I) {x : Int32} (hx : 0 ≤ x.toInt ∧ x.toInt < (I 0 27).toInt) : 0 ≤ (I 8 x.toNatClampNeg).toInt ∧ 0 ≤ (I 9 x.toNatClampNeg).toInt ∧ (I 8 x.toNatClampNeg).toInt + (I 9 x.toNatClampNeg).toInt ≤ 2600 := by
  have i := t_cl (i := x) rfl hx.1
  have q := h.2.2.1 x.toNatClampNeg (by omega)
  have q2 := h.2.1
  omega
theorem LN.cell {I2 : Nat → Nat → Int32} {x v m2 : Int32} (h : LN I) (e1 : I2 0 27 = I 0 27) (e2 : I2 0 28 = m2) (hm : m2.toInt = (I 0 28).toInt + 1) (h2 : m2.toInt ≤ 2600) (e8 : I2 8 = I 8) (e9 : I2 9 = upd (I 9) x.toNatClampNeg v) (hx : x.toInt = (I 0 27).toInt - 1) (h0 : 1 ≤ (I 0 27).toInt) (hv : v.toInt = (I 9 x.toNatClampNeg).toInt + 1) : LN I2 := by
  have i := t_cl (i := x) hx (by omega)
  obtain ⟨a, b, c, d⟩ := h
  unfold LN
  rw [e1, e2, e8, e9]
  have dd := d x.toNatClampNeg (by omega)
  have cc := c x.toNatClampNeg (by omega)
  refine ⟨a, by omega, fun l hl => ?_, fun l hl => ?_⟩
  · by_cases q : l = x.toNatClampNeg
    · rw [upd_at q, q]; omega
    · rw [pk_un q]; have := c l hl; omega
  · rw [upd_at (by omega), show l = x.toNatClampNeg by omega]; omega
theorem LN.line {I2 : Nat → Nat → Int32} {x y v n2 : Int32} (h : LN I) (e1 : I2 0 27 = n2) (hn : n2.toInt = (I 0 27).toInt + 1) (h2 : n2.toInt ≤ 1300) (e2 : I2 0 28 = I 0 28) (e8 : I2 8 = upd (I 8) x.toNatClampNeg v) (hx : x.toInt = (I 0 27).toInt) (hv : v = I 0 28) (e9 : I2 9 = upd (I 9) y.toNatClampNeg 0) (hy : y.toInt = (I 0 27).toInt) : LN I2 := by
  obtain ⟨a, b, c, d⟩ := h
  have i := t_cl (i := x) hx (by omega)
  have i2 := t_cl (i := y) hy (by omega)
  have z : (0 : Int32).toInt = 0 := by decide
  unfold LN
  rw [e1, e2, e8, e9]
  refine ⟨by omega, b, fun l hl => ?_, fun l hl => ?_⟩
  · by_cases q : l = x.toNatClampNeg
    · rw [upd_at q, upd_at (by omega), hv]; omega
    · rw [pk_un q, pk_un (by omega)]; exact c l (by omega)
  · rw [upd_at (by omega), upd_at (by omega), hv]; omega
end

section
variable {I : Nat → Nat → Int32}
theorem MI.pk (h : MI I) (k : Int) (hk : 0 ≤ k ∧ k < (I 1 9).toInt) : 0 ≤ (I 1 (1850 + k.toNat)).toInt ∧ (I 1 (1850 + k.toNat)).toInt ≤ (I 1 8).toInt := by
  have hp := h.pcs rfl
  have q := (h.s0.2.2.2.2 k.toNat (by omega) (by rw [Nat.zero_add]; omega)).1
  rw [Nat.zero_add, Nat.zero_add] at q
  exact q
theorem MI.pk1 (h : MI I) (k : Int) (hk : 0 ≤ k ∧ k + 1 < (I 1 9).toInt) : (I 1 (1850 + k.toNat)).toInt + 1 ≤ (I 1 (1850 + (k + 1).toNat)).toInt := by
  have hp := h.pcs rfl
  have q := (h.s0.2.2.2.2 k.toNat (by omega) (by rw [Nat.zero_add]; omega)).2 (by rw [Nat.zero_add]; omega)
  rw [Nat.zero_add, Nat.zero_add] at q
  rw [show (k + 1).toNat = k.toNat + 1 by omega]
  exact q
theorem MI.u9 (h : MI I) {f : Nat → Int32} (hf : ∀ j, 0 ≤ (f j).toInt ∧ (I 8 j).toInt + (f j).toInt ≤ 2600) : MI (uR I 9 f) := by
  obtain ⟨h0, h1⟩ := h
  exact ⟨fun j => ⟨(h0 j).1, (h0 j).2.1, hf j⟩, h1⟩
theorem MI.u89 (h : MI I) {f g : Nat → Int32} (hf : ∀ j, 0 ≤ (f j).toInt ∧ 0 ≤ (g j).toInt ∧ (f j).toInt + (g j).toInt ≤ 2600) : MI (uR (uR I 8 f) 9 g) := by
  obtain ⟨h0, h1⟩ := h
  exact ⟨fun j => ⟨(h0 j).1, hf j⟩, h1⟩
theorem LN.m9 (h : LN I) (m : MI I) {f : Nat → Int32} {x v : Int32} (e : f = upd (I 9) x.toNatClampNeg v) (hx : x.toInt = (I 0 27).toInt - 1) (h0 : 1 ≤ (I 0 27).toInt) (hv : v.toInt = (I 9 x.toNatClampNeg).toInt + 1) (h2 : (I 0 28).toInt < 2600) (j : Nat) : 0 ≤ (f j).toInt ∧ (I 8 j).toInt + (f j).toInt ≤ 2600 := by
  have i := t_cl (i := x) hx (by omega)
  have lg := m.lg j
  rw [e]
  by_cases q : j = x.toNatClampNeg
  · rw [upd_at q, q]
    have dd := h.2.2.2 x.toNatClampNeg (by omega)
    have l2 := m.lg x.toNatClampNeg
    omega
  · rw [pk_un q]; omega
theorem LN.m89 (m : MI I) {f g : Nat → Int32} {x y v : Int32} (e : f = upd (I 8) x.toNatClampNeg v) (e2 : g = upd (I 9) y.toNatClampNeg 0) (hxy : x.toInt = y.toInt) (hv : 0 ≤ v.toInt ∧ v.toInt ≤ 2600) (j : Nat) : 0 ≤ (f j).toInt ∧ 0 ≤ (g j).toInt ∧ (f j).toInt + (g j).toInt ≤ 2600 := by
  have lg := m.lg j
  have z : (0 : Int32).toInt = 0 := by decide
  have q2 : x.toNatClampNeg = y.toNatClampNeg := by show x.toInt.toNat = y.toInt.toNat; rw [hxy]
  rw [e, e2, ← q2]
  by_cases q : j = x.toNatClampNeg
  · rw [upd_at q, upd_at q]; omega
  · rw [pk_un q, pk_un q]; exact lg
end
