
theorem tm_nn {f : Nat → Int32} : ∀ n, (∀ j, j < n → (f j).toInt ≤ 24) → 0 ≤ tm f n
  | 0, _ => Int.le_refl _
  | n + 1, h => by
    rw [tm]
    have a := tm_nn n (fun j hj => h j (by omega))
    have b := tm_pow (20 - n)
    have c : 0 ≤ (24 - (f n).toInt) * 26 ^ (20 - n) := Int.mul_nonneg (by have := h n (by omega); omega) (by omega)
    omega
theorem tm_0 {I : Nat → Nat → Int32} {lev R m : Int} (h : TA I lev R m) (hl : -1 ≤ lev ∧ lev ≤ 19) (hR : R ≤ 24) : 0 ≤ tm (I 18) (lev + 1).toNat := tm_nn _ (fun j hj => by have := (h j (by omega)).1; omega)

theorem cp_st {I I0 : Nat → Nat → Int32} {a b v v2 : Int} {f : Nat → Int32} {x y w : Int32} (h : ∀ j : Nat, ((3300 * b ≤ (j : Int) ∧ (j : Int) < 3300 * b + v) → I 1 j = I0 1 ((j : Int) - 3300 * b + 3300 * a).toNat) ∧ (¬ (3300 * b ≤ (j : Int) ∧ (j : Int) < 3300 * b + v) → I 1 j = I0 1 j)) (hf : f = upd (I 1) x.toNatClampNeg w) (hw : w = I 1 y.toNatClampNeg) (hx : x.toInt = 3300 * b + v) (hy : y.toInt = 3300 * a + v) (hv : 0 ≤ v ∧ v < 3300) (hab : 0 ≤ a ∧ a ≤ 3 ∧ 0 ≤ b ∧ b ≤ 3 ∧ a ≠ b) (h2 : v2 = v + 1) (j : Nat) : ((3300 * b ≤ (j : Int) ∧ (j : Int) < 3300 * b + v2) → uR I 1 f 1 j = I0 1 ((j : Int) - 3300 * b + 3300 * a).toNat) ∧ (¬ (3300 * b ≤ (j : Int) ∧ (j : Int) < 3300 * b + v2) → uR I 1 f 1 j = I0 1 j) := by
  have ix := t_cl (i := x) hx (by omega)
  have iy := t_cl (i := y) hy (by omega)
  rw [uR_eq, hf]
  by_cases q : j = x.toNatClampNeg
  · rw [upd_at q]
    refine ⟨fun _ => ?_, fun w2 => by exfalso; omega⟩
    rw [hw, (h y.toNatClampNeg).2 (by omega), show y.toNatClampNeg = ((j : Int) - 3300 * b + 3300 * a).toNat by omega]
  · rw [pk_un q]
    exact ⟨fun w2 => (h j).1 (by omega), fun w2 => (h j).2 (by omega)⟩
theorem MI.mkp {I I' : Nat → Nat → Int32} {fs : List Nat} {a b : Int} (h : MI I) (k : KK [1] fs I I') (hf : 9 ∉ fs ∧ 36 ∉ fs ∧ 42 ∉ fs) (hc : ∀ j : Nat, ((3300 * b ≤ (j : Int) ∧ (j : Int) < 3300 * b + 3300) → I' 1 j = I 1 ((j : Int) - 3300 * b + 3300 * a).toNat) ∧ (¬ (3300 * b ≤ (j : Int) ∧ (j : Int) < 3300 * b + 3300) → I' 1 j = I 1 j)) (ha : 0 ≤ a ∧ a ≤ (I 0 45).toInt) (hb : 0 ≤ b ∧ b ≤ 3) (hm : 0 ≤ (I' 0 45).toInt ∧ (I' 0 45).toInt ≤ 3) (hl : ∀ j : Nat, (j : Int) ≤ (I' 0 45).toInt → (j : Int) = b ∨ (j : Int) ≤ (I 0 45).toInt) : MI I' := by
  obtain ⟨h0, h1, h2, h3, h4, h5, h9, h6⟩ := h
  unfold MI
  rw [k.1 3 (by decide) (by decide), k.1 8 (by decide) (by decide), k.1 9 (by decide) (by decide), k.2 9 hf.1, k.2 36 hf.2.1, k.2 42 hf.2.2, (hc 16507).2 (by omega)]
  refine ⟨h0, h1, hm, h3, h4, h5, fun k hk => by rw [(hc _).2 (by omega)]; exact h9 k hk, fun j hj => ?_⟩
  by_cases q : (j : Int) = b
  · obtain ⟨u, w⟩ := h6 a.toNat (by omega)
    exact ⟨u.congr (fun i hi => by rw [(hc _).1 (by omega), show (((3300 * j + i : Nat) : Int) - 3300 * b + 3300 * a).toNat = 3300 * a.toNat + i by omega]), w.congr (fun i hi => by rw [(hc _).1 (by omega), show (((3300 * j + i : Nat) : Int) - 3300 * b + 3300 * a).toNat = 3300 * a.toNat + i by omega])⟩
  · obtain ⟨u, w⟩ := h6 j (by have := hl j hj; omega)
    exact ⟨u.congr (fun i hi => (hc _).2 (by omega)), w.congr (fun i hi => (hc _).2 (by omega))⟩
/-! the model's RULES have CELLS (behind mdef) -/
theorem MI.gH {o : Nat → Nat → Int32} (hM : MI o) : gwH (o 1 0).toInt.toNat (mC (o 1)) := fun i hi => by
  have h24 := hM.t0.1
  have q := (hM.t0.2.2.2.2.2 i (by omega) (by omega)).2
  have q2 := (hM.t0.2.2.2.2.1 i (by omega)).2.1
  rw [show 0 + (12 * i + 19) = 12 * i + 19 by omega] at q q2
  show 1 ≤ (o 1 (12 * i + 19)).toInt.toNat ∧ (o 1 (12 * i + 19)).toInt.toNat ≤ 3
  omega
/-! facts that omega isn't to split (behind fnx7) -/
def hidQ (p : Prop) : Prop := p
theorem hidQ.of {p : Prop} (h : p) : hidQ p := h
theorem hidQ.a5 {a b c d e : Prop} (h : a ∧ b ∧ c ∧ d ∧ e) : a ∧ b ∧ c ∧ hidQ d ∧ hidQ e := h
def tDQ (Q : Prop) (A R14 R15 R16 : Nat → Int32) (T : fxT) (m : Nat) (F P : Nat → Int32) (k : Nat) (n : Int) : Prop := Q → tDM A R14 R15 R16 T m F P k n
