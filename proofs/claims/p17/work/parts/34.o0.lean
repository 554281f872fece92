
/-! THE MODEL SETS -/
def BL (z : Int32) : Prop := z.toInt = 10 ∨ z.toInt = 32
def LT (z : Int32) : Prop := (97 ≤ z.toInt ∧ z.toInt ≤ 122) ∨ (65 ≤ z.toInt ∧ z.toInt ≤ 90)
def DG (z : Int32) : Prop := 48 ≤ z.toInt ∧ z.toInt ≤ 57
def WQ (I : Nat → Nat → Int32) : Prop := 0 ≤ (I 1 16508).toInt ∧ 0 ≤ (I 1 16509).toInt ∧ ∀ k : Nat, k < 150 → (k : Int) < (I 1 16509).toInt → (0 ≤ (I 1 (18350 + k)).toInt ∧ (I 1 (18350 + k)).toInt ≤ (I 1 16508).toInt) ∧ ((k : Int) + 1 < (I 1 16509).toInt → (I 1 (18350 + k)).toInt + 1 ≤ (I 1 (18350 + (k + 1))).toInt)
/-- the bytes are the same -/
def BS (I I' : Nat → Nat → Int32) : Prop := I' 1 16507 = I 1 16507 ∧ ∀ j, 16800 ≤ j → j < 17100 → I' 1 j = I 1 j
def SE (I I' : Nat → Nat → Int32) (n : Int) : Prop := (WQ I → WQ I') ∧ ((I 1 16508).toInt ≤ (I' 1 16508).toInt ∧ (I' 1 16508).toInt ≤ (I 1 16508).toInt + n) ∧ I' 1 16509 = I 1 16509 ∧ BS I I' ∧ ∀ j, 18350 ≤ j → j < 18510 → I' 1 j = I 1 j
def GP (I : Nat → Nat → Int32) (p : Int) : Prop := WQ I ∧ ((I 1 16508).toInt ≤ 4 * p ∧ 2 * (I 1 16509).toInt ≤ p) ∧ (I 1 16509).toInt ≤ 149 ∧ ∀ k : Nat, (k : Int) + 1 = (I 1 16509).toInt → (I 1 (18350 + k)).toInt + 1 ≤ (I 1 16508).toInt
def WE (I : Nat → Nat → Int32) (p e : Int) : Prop := p ≤ e ∧ (e ≤ p ∨ e ≤ (I 1 16507).toInt) ∧ (∀ j : Int, p ≤ j → j < e → LT (I 1 (16800 + j.toNat))) ∧ (e < (I 1 16507).toInt → ¬ LT (I 1 (16800 + e.toNat)))
def SB (I : Nat → Nat → Int32) (p : Int) : Prop := WQ I ∧ (I 1 16508).toInt ≤ 4 * p ∧ 2 * (I 1 16509).toInt ≤ p + 2
def SA (I : Nat → Nat → Int32) (p : Int) : Prop := WQ I ∧ ((I 1 16508).toInt ≤ 4 * p ∧ 2 * (I 1 16509).toInt ≤ p + 1) ∧ (p = 0 → (I 1 16508).toInt = 0 ∧ (I 1 16509).toInt = 0) ∧ (0 < p → BL (I 1 (16800 + (p - 1).toNat)) → (I 1 16508).toInt + 4 ≤ 4 * p ∧ 2 * (I 1 16509).toInt ≤ p)
section
variable {I : Nat → Nat → Int32}
theorem BS.rf (I : Nat → Nat → Int32) : BS I I := ⟨rfl, fun _ _ _ => rfl⟩
theorem BS.tr {I' I2 : Nat → Nat → Int32} (h : BS I I') (h2 : BS I' I2) : BS I I2 := ⟨h2.1.trans h.1, fun j a b => (h2.2 j a b).trans (h.2 j a b)⟩
theorem SE.rf (I : Nat → Nat → Int32) : SE I I 0 := ⟨fun h => h, by omega, rfl, BS.rf I, fun _ _ _ => rfl⟩
theorem SE.tr {I' I2 : Nat → Nat → Int32} {n m k : Int} (h : SE I I' n) (h2 : SE I' I2 m) (hk : n + m ≤ k) : SE I I2 k := ⟨fun q => h2.1 (h.1 q), by have := h.2.1; have := h2.2.1; omega, h2.2.2.1.trans h.2.2.1, h.2.2.2.1.tr h2.2.2.2.1, fun j a b => (h2.2.2.2.2 j a b).trans (h.2.2.2.2 j a b)⟩
theorem SE.kk {I' I2 : Nat → Nat → Int32} {n : Int} {cs fs : List Nat} (h : SE I I' n) (k : KK cs fs I' I2) (h1 : 1 ∉ cs) : SE I I2 n := by
  unfold SE WQ BS at h ⊢
  rw [k.1 1 (by decide) h1]
  exact h
theorem SE.one {I' : Nat → Nat → Int32} {n : Int} (e1 : (I 1 16508).toInt ≤ (I' 1 16508).toInt ∧ (I' 1 16508).toInt ≤ (I 1 16508).toInt + n) (e2 : ∀ j, j ≠ 16508 → j < 17100 ∨ (18350 ≤ j ∧ j < 18510) → 16507 ≤ j → j ≠ 16510 → j ≠ 16511 → I' 1 j = I 1 j) (hp : (I 1 16509).toInt < 150 ∨ True) : SE I I' n :=
  ⟨fun h => ⟨by have := h.1; omega, by rw [e2 16509 (by decide) (by omega) (by omega) (by decide) (by decide)]; exact h.2.1, fun k hk hs => by
    rw [e2 16509 (by decide) (by omega) (by omega) (by decide) (by decide)] at hs ⊢
    rw [e2 (18350 + k) (by omega) (by omega) (by omega) (by omega) (by omega)]
    refine ⟨by have := (h.2.2 k hk hs).1; omega, fun q => ?_⟩
    rw [e2 (18350 + (k + 1)) (by omega) (by omega) (by omega) (by omega) (by omega)]
    exact (h.2.2 k hk hs).2 q⟩, e1, e2 16509 (by decide) (by omega) (by omega) (by decide) (by decide), ⟨e2 16507 (by decide) (by omega) (by omega) (by decide) (by decide), fun j a b => e2 j (by omega) (by omega) (by omega) (by omega) (by omega)⟩, fun j a b => e2 j (by omega) (by omega) (by omega) (by omega) (by omega)⟩
theorem SE.ua {I' : Nat → Nat → Int32} {n : Int} {f : Nat → Int32} {x v : Int32} {a : Int} (h : SE I I' n) (e : f = upd (I' 1) x.toNatClampNeg v) (hx : x.toInt = a) (ha : a = 16510 ∨ a = 16511 ∨ (18510 ≤ a ∧ a < 19800) ∨ (17100 ≤ a ∧ a < 18350)) : SE I (uR I' 1 f) n := by
  have i := t_cl (i := x) hx (by omega)
  have q : SE I' (uR I' 1 f) 0 := SE.one (by rw [uR_eq, e, pk_un (by omega)]; omega) (fun j h1 h2 h3 h4 h5 => by rw [uR_eq, e, pk_un (by omega)]) (Or.inr trivial)
  exact h.tr q (by omega)
theorem SE.us {f : Nat → Int32} {v : Int32} (e : f = upd (I 1) (16508 : Int32).toNatClampNeg v) (hv : v.toInt = (I 1 16508).toInt + 1) : SE I (uR I 1 f) 1 ∧ (uR I 1 f 1 16508).toInt = (I 1 16508).toInt + 1 := by
  have i : (16508 : Int32).toNatClampNeg = 16508 := rfl
  rw [i] at e
  have e8 : (uR I 1 f 1 16508).toInt = (I 1 16508).toInt + 1 := by rw [uR_eq, e, upd_at rfl]; exact hv
  exact ⟨SE.one (by omega) (fun j h1 h2 h3 h4 h5 => by rw [uR_eq, e, pk_un (by omega)]) (Or.inr trivial), e8⟩
theorem SA.blank {p : Int} (h : SA I p) (hp : 0 ≤ p) : SA I (p + 1) := by
  obtain ⟨h0, h1, h2, h3⟩ := h
  exact ⟨h0, by omega, fun q => by omega, fun _ _ => by omega⟩
theorem SB.plain {p : Int} (h : SA I p) : SB I p := ⟨h.1, h.2.1.1, by have := h.2.1; omega⟩
theorem GP.rd {p : Int} {f : Nat → Int32} {x v z : Int32} (h : GP I p) (e1 : f = upd (I 1) x.toNatClampNeg v) (hx : x.toInt = 18350 + (I 1 16509).toInt) (e3 : z = f 16509) : z.toInt = (I 1 16509).toInt := by
  have ix := t_cl (i := x) hx (by have := h.1.2.1; omega)
  rw [e3, e1, pk_un (by have := h.1.2.1; omega)]
theorem SB.piece {I' : Nat → Nat → Int32} {p : Int} {f g : Nat → Int32} {x v w z : Int32} (h : GP I p) (e1 : f = upd (I 1) x.toNatClampNeg v) (hx : x.toInt = 18350 + (I 1 16509).toInt) (hv : v = I 1 16508) (e2 : g = upd f (16509 : Int32).toNatClampNeg w) (e3 : z = f 16509) (hw : w.toInt = z.toInt + 1) (eI : I' 1 = g) : SB I' p ∧ BS I I' := by
  have hz := h.rd e1 hx e3
  obtain ⟨⟨h0, h1, h2⟩, hs, hp, hl⟩ := h
  have i : (16509 : Int32).toNatClampNeg = 16509 := rfl
  have ix := t_cl (i := x) hx (by omega)
  rw [i] at e2
  have e9 : I' 1 16509 = w := by rw [eI, e2, upd_at rfl]
  have ne : ∀ j, j ≠ 16509 → j ≠ x.toNatClampNeg → I' 1 j = I 1 j := fun j a b => by rw [eI, e2, pk_un a, e1, pk_un b]
  have ev : I' 1 x.toNatClampNeg = I 1 16508 := by rw [eI, e2, pk_un (by omega), e1, upd_at rfl, hv]
  have e8 : I' 1 16508 = I 1 16508 := ne _ (by omega) (by omega)
  refine ⟨⟨⟨by rw [e8]; exact h0, by rw [e9]; omega, fun k hk hs2 => ?_⟩, by rw [e8]; omega, by rw [e9]; omega⟩, ne _ (by omega) (by omega), fun j a b => ne j (by omega) (by omega)⟩
  rw [e9] at hs2 ⊢
  rw [e8]
  by_cases q : 18350 + k = x.toNatClampNeg
  · rw [q, ev]
    exact ⟨by omega, fun q2 => by exfalso; omega⟩
  · rw [ne _ (by omega) q]
    refine ⟨(h2 k hk (by omega)).1, fun q2 => ?_⟩
    by_cases q3 : 18350 + (k + 1) = x.toNatClampNeg
    · rw [q3, ev]; exact hl k (by omega)
    · rw [ne _ (by omega) q3]; exact (h2 k hk (by omega)).2 (by omega)
theorem BS.kk {I' I2 : Nat → Nat → Int32} {cs fs : List Nat} (h : BS I I') (k : KK cs fs I' I2) (h1 : 1 ∉ cs) : BS I I2 := by
  unfold BS at h ⊢
  rw [k.1 1 (by decide) h1]
  exact h
theorem BS.ua {I' : Nat → Nat → Int32} {f : Nat → Int32} {x v : Int32} {a : Int} (h : BS I I') (e : f = upd (I' 1) x.toNatClampNeg v) (hx : x.toInt = a) (ha : 16508 ≤ a) (hb : a < 16800 ∨ 17100 ≤ a) : BS I (uR I' 1 f) := by
  have i := t_cl (i := x) hx (by omega)
  refine ⟨?_, fun j q1 q2 => ?_⟩
  · rw [uR_eq, e, pk_un (by omega)]; exact h.1
  · rw [uR_eq, e, pk_un (by omega)]; exact h.2 j q1 q2
theorem SA.zero {p : Int} (h8 : (I 1 16508).toInt = 0) (h9 : (I 1 16509).toInt = 0) (hp : p = 0) : SA I p := ⟨⟨by omega, by omega, fun k hk hs => by exfalso; omega⟩, by omega, fun _ => ⟨h8, h9⟩, fun q => by exfalso; omega⟩
theorem SA.z0 {p : Int} (h : SA I p) (hp : p = 0) : 2 * (I 1 16509).toInt ≤ p ∧ ((I 1 16509).toInt ≤ 0 ∨ (I 1 16508).toInt + 4 ≤ 4 * p) := by
  have := h.2.2.1 hp
  omega
theorem SA.zb {p : Int} (h : SA I p) (hp : 0 < p) (hb : BL (I 1 (16800 + (p - 1).toNat))) : 2 * (I 1 16509).toInt ≤ p ∧ ((I 1 16509).toInt ≤ 0 ∨ (I 1 16508).toInt + 4 ≤ 4 * p) := by
  have := h.2.2.2 hp hb
  omega
theorem SA.gA {p : Int} (h : SA I p) (g : 2 * (I 1 16509).toInt ≤ p ∧ ((I 1 16509).toInt ≤ 0 ∨ (I 1 16508).toInt + 4 ≤ 4 * p)) (h0 : (I 1 16509).toInt ≤ 0) (hp : p < 300) : GP I p := ⟨h.1, ⟨h.2.1.1, g.1⟩, by omega, fun k hk => by exfalso; omega⟩
theorem SA.gB {I' : Nat → Nat → Int32} {p : Int} (h : SA I p) (g : 2 * (I 1 16509).toInt ≤ p ∧ ((I 1 16509).toInt ≤ 0 ∨ (I 1 16508).toInt + 4 ≤ 4 * p)) (h0 : 0 < (I 1 16509).toInt) (hp : p < 300) (hs : SE I I' 1) (h8 : (I' 1 16508).toInt = (I 1 16508).toInt + 1) : GP I' p := by
  refine ⟨hs.1 h.1, ⟨by omega, by rw [hs.2.2.1]; exact g.1⟩, by rw [hs.2.2.1]; omega, fun k hk => ?_⟩
  rw [hs.2.2.1] at hk
  rw [hs.2.2.2.2 _ (by omega) (by omega), h8]
  have := (h.1.2.2 k (by omega) (by omega)).1
  omega
theorem WE.lt {p e : Int} (h : WE I p e) (hp : p < (I 1 16507).toInt) (hl : LT (I 1 (16800 + p.toNat))) : p < e ∧ e ≤ (I 1 16507).toInt := by
  obtain ⟨a, b, c, d⟩ := h
  have : p < e := by
    by_cases q : p = e
    · subst q; exact absurd hl (d hp)
    · omega
  omega
theorem WE.nb {p e : Int} (h : WE I p e) (hp : p < e) : ¬ BL (I 1 (16800 + (e - 1).toNat)) := fun q => by
  have := h.2.2.1 (e - 1) (by omega) (by omega)
  unfold LT at this; unfold BL at q; omega
theorem WE.bs {I' : Nat → Nat → Int32} {p e : Int} (h : WE I p e) (b : BS I' I) (hp : 0 ≤ p ∧ p ≤ 300) (hb : (I 1 16507).toInt ≤ 300) : WE I' p e := by
  obtain ⟨a, b2, c, d⟩ := h
  unfold WE
  rw [← b.1]
  refine ⟨a, b2, fun j q1 q2 => by rw [← b.2 _ (by omega) (by omega)]; exact c j q1 q2, fun q => by rw [← b.2 _ (by omega) (by omega)]; exact d q⟩
theorem WE.uq {p e e2 : Int} (h : WE I p e) (h2 : WE I p e2) : e = e2 := by
  obtain ⟨a, b, c, d⟩ := h
  obtain ⟨a2, b2, c2, d2⟩ := h2
  rcases Int.lt_trichotomy e e2 with q | q | q
  · exact absurd (c2 e a q) (d (by omega))
  · exact q
  · exact absurd (c e2 a2 q) (d2 (by omega))
theorem SA.word {p e n : Int} {I' : Nat → Nat → Int32} (h : SB I p) (hs : SE I I' n) (hp : 0 ≤ p) (he : p < e) (hn : n ≤ 4 * (e - p)) (hl : ¬ BL (I 1 (16800 + (e - 1).toNat))) (hb : e ≤ 300) : SA I' e := by
  obtain ⟨h0, h1, h2⟩ := h
  obtain ⟨g0, g1, g2, g3⟩ := hs
  refine ⟨g0 h0, ⟨by omega, by rw [g2]; omega⟩, fun q => by omega, fun _ q => ?_⟩
  rw [g3.1.2 _ (by omega) (by omega)] at q
  exact absurd q hl
theorem LT.nb {z : Int32} (h : LT z) : ¬ BL z := by
  unfold LT at h; unfold BL; omega
theorem DG.nb {z : Int32} (h : DG z) : ¬ BL z := by
  unfold DG at h; unfold BL; omega
theorem MI.ts {I' : Nat → Nat → Int32} (h : MI I) (q : WQ I) (hs : (I 1 16508).toInt ≤ 1200 ∧ (I 1 16509).toInt ≤ 150) (k : KK [1] [] I I') (e : ∀ j : Nat, I' 1 j = if (7 ≤ j ∧ j < 12) ∨ (300 ≤ j ∧ j < 3300) then I 1 (16500 + j) else I 1 j) : MI I' := by
  have t0 := h.t0
  obtain ⟨h0, h1, h2, h3, h4, h5, h9, h6⟩ := h
  obtain ⟨q0, q1, q2⟩ := q
  unfold MI
  rw [k.1 3 (by decide) (by decide), k.1 8 (by decide) (by decide), k.1 9 (by decide) (by decide), k.2 9 (by decide), k.2 36 (by decide), k.2 42 (by decide), k.2 45 (by decide), e 16507, if_neg (by omega)]
  refine ⟨h0, h1, h2, h3, h4, h5, fun k hk => by rw [e, if_neg (by omega)]; exact h9 k hk, fun j hj => ?_⟩
  by_cases w : j = 0
  · subst w
    rw [Nat.mul_zero]
    refine ⟨?_, ?_⟩
    · obtain ⟨a, b, c, d, f, g⟩ := t0
      have n : ∀ i, i < 300 → ¬ (7 ≤ i ∧ i < 12) → I' 1 (0 + i) = I 1 (0 + i) := fun i a b => by rw [e, if_neg (by omega)]
      refine ⟨by rw [e, if_neg (by omega)]; exact a, fun k k1 k2 => by rw [n k (by omega) (by omega)]; exact b k k1 k2, by rw [n 4 (by omega) (by omega)]; exact c, by rw [n 5 (by omega) (by omega)]; exact d, fun r hr => ?_, fun r hr hs => ?_⟩
      · unfold RS
        rw [n _ (by omega) (by omega), n _ (by omega) (by omega)]
        exact ⟨(f r hr).1, (f r hr).2.1, fun k hk => by rw [n _ (by omega) (by omega)]; exact (f r hr).2.2 k hk⟩
      · rw [e 0, if_neg (by omega)] at hs
        rw [n _ (by omega) (by omega), n _ (by omega) (by omega)]
        exact g r hr hs
    · have m : ∀ i, (7 ≤ i ∧ i < 12) ∨ (300 ≤ i ∧ i < 3300) → I' 1 (0 + i) = I 1 (16500 + i) := fun i a => by rw [Nat.zero_add, e, if_pos a]
      have m7 : I' 1 (0 + 7) = I 1 16507 := m 7 (by omega)
      have m8 : I' 1 (0 + 8) = I 1 16508 := m 8 (by omega)
      have m9 : I' 1 (0 + 9) = I 1 16509 := m 9 (by omega)
      unfold SS
      rw [m7, m8, m9]
      refine ⟨by omega, by omega, by omega, fun k hk => ?_, fun k hk hs => ?_⟩
      · rw [m _ (by omega), show 16500 + (600 + k) = 17100 + k by omega]; exact h9 k hk
      · rw [m _ (by omega), m _ (by omega), show 16500 + (1850 + k) = 18350 + k by omega, show 16500 + (1850 + (k + 1)) = 18350 + (k + 1) by omega]
        exact q2 k hk hs
  · obtain ⟨a, b⟩ := h6 j hj
    exact ⟨a.congr (fun i hi => by rw [e, if_neg (by omega)]), b.congr (fun i hi => by rw [e, if_neg (by omega)])⟩
theorem ts_st {I I0 : Nat → Nat → Int32} {v : Int} {P : Nat → Prop} {f : Nat → Int32} {x y w : Int32} (h : ∀ j : Nat, (P j → I 1 j = I0 1 (16500 + j)) ∧ (¬ P j → I 1 j = I0 1 j)) (hP : ∀ j, P j → j < 3300) (hf : f = upd (I 1) x.toNatClampNeg w) (hw : w = I 1 y.toNatClampNeg) (hx : x.toInt = v) (hy : y.toInt = 16500 + v) (hv : 0 ≤ v ∧ v < 3300) (j : Nat) : (P j ∨ (j : Int) = v → uR I 1 f 1 j = I0 1 (16500 + j)) ∧ (¬ (P j ∨ (j : Int) = v) → uR I 1 f 1 j = I0 1 j) := by
  have ix := t_cl (i := x) hx (by omega)
  have iy := t_cl (i := y) hy (by omega)
  rw [uR_eq, hf]
  unfold upd
  by_cases hj : j = x.toNatClampNeg
  · rw [if_pos hj]
    refine ⟨fun _ => ?_, fun q => absurd (Or.inr (by omega)) q⟩
    rw [hw, (h _).2 (fun q => by have := hP _ q; omega), show y.toNatClampNeg = 16500 + j by omega]
  · rw [if_neg hj]
    refine ⟨fun q => ?_, fun q => (h j).2 (fun w => q (Or.inl w))⟩
    rcases q with q | q
    · exact (h j).1 q
    · exfalso; omega
theorem MI.ud (h : MI I) {f : Nat → Int32} {v : Int32} (e : f = upd (I 1) (6 : Int32).toNatClampNeg v) : MI (uR I 1 f) := by
  have i : (6 : Int32).toNatClampNeg = 6 := rfl
  rw [i] at e
  have ne : ∀ j, j ≠ 6 → f j = I 1 j := fun j a => by rw [e, pk_un a]
  have e0 : uR I 1 f 0 = I 0 := uR_ne (by decide)
  have e3 : uR I 1 f 3 = I 3 := uR_ne (by decide)
  have e8 : uR I 1 f 8 = I 8 := uR_ne (by decide)
  have e9 : uR I 1 f 9 = I 9 := uR_ne (by decide)
  obtain ⟨h0, h1, h2, h3, h4, h5, h9, h6⟩ := h
  unfold MI
  rw [e0, e3, e8, e9, uR_eq, ne 16507 (by omega)]
  refine ⟨h0, h1, h2, h3, h4, h5, fun k hk => by rw [ne _ (by omega)]; exact h9 k hk, fun j hj => ?_⟩
  obtain ⟨⟨a, b, c, d, f', g⟩, w⟩ := h6 j hj
  refine ⟨⟨by rw [ne _ (by omega)]; exact a, fun k k1 k2 => by rw [ne _ (by omega)]; exact b k k1 k2, by rw [ne _ (by omega)]; exact c, by rw [ne _ (by omega)]; exact d, fun r hr => ⟨by rw [ne _ (by omega)]; exact (f' r hr).1, by rw [ne _ (by omega)]; exact (f' r hr).2.1, fun k hk => by rw [ne _ (by omega)]; exact (f' r hr).2.2 k hk⟩, fun r hr hs => ?_⟩, w.congr (fun i hi => ne _ (by omega))⟩
  rw [ne _ (by omega)] at hs
  rw [ne _ (by omega), ne _ (by omega)]
  exact g r hr hs
end
