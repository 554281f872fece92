
/-! THE MODEL SETS -/
def BL (z : Int32) : Prop := z.toInt = 10 ∨ z.toInt = 32
def LT (z : Int32) : Prop := (97 ≤ z.toInt ∧ z.toInt ≤ 122) ∨ (65 ≤ z.toInt ∧ z.toInt ≤ 90)
def DG (z : Int32) : Prop := 48 ≤ z.toInt ∧ z.toInt ≤ 57
def WQ (I : Nat → Nat → Int32) : Prop := 0 ≤ (I 1 16508).toInt ∧ 0 ≤ (I 1 16509).toInt ∧ ∀ k : Nat, k < 150 → (k : Int) < (I 1 16509).toInt → (0 ≤ (I 1 (18350 + k)).toInt ∧ (I 1 (18350 + k)).toInt ≤ (I 1 16508).toInt) ∧ ((k : Int) + 1 < (I 1 16509).toInt → (I 1 (18350 + k)).toInt + 1 ≤ (I 1 (18350 + (k + 1))).toInt)
/-- the bytes are the same -/
def BS (I I' : Nat → Nat → Int32) : Prop := I' 1 16507 = I 1 16507 ∧ ∀ j, 16800 ≤ j → j < 17100 → I' 1 j = I 1 j
def SE (I I' : Nat → Nat → Int32) (n : Int) : Prop := (WQ I → WQ I') ∧ ((I 1 16508).toInt ≤ (I' 1 16508).toInt ∧ (I' 1 16508).toInt ≤ (I 1 16508).toInt + n) ∧ I' 1 16509 = I 1 16509 ∧ BS I I' ∧ ∀ j, 18350 ≤ j → j < 18510 → I' 1 j = I 1 j
def GP (I : Nat → Nat → Int32) (p : Int) : Prop := WQ I ∧ ((I 1 16508).toInt ≤ 4 * p ∧ 2 * (I 1 16509).toInt ≤ p) ∧ (I 1 16509).toInt ≤ 149 ∧ ∀ k : Nat, (k : Int) + 1 = (I 1 16509).toInt → (I 1 (18350 + k)).toInt + 1 ≤ (I 1 16508).toInt
def WE (I : Nat → Nat → Int32) (p e : Int) : Prop := p ≤ e ∧ (e ≤ p ∨ e ≤ (I 1 16507).toInt) ∧ (∀ j : Int, p ≤ j → j < e → LT (I 1 (16800 + j.toNat))) ∧ (e < (I 1 16507).toInt → ¬ LT (I 1 (16800 + e.toNat)))
def SB (I : Nat → Nat → Int32) (p : Int) : Prop := WQ I ∧ (I 1 16508).toInt ≤ 4 * p ∧ 2 * (I 1 16509).toInt ≤ p + 2
def SA (I : Nat → Nat → Int32) (p : Int) : Prop := WQ I ∧ ((I 1 16508).toInt ≤ 4 * p ∧ 2 * (I 1 16509).toInt ≤ p + 1) ∧ (p = 0 → (I 1 16508).toInt = 0 ∧ (I 1 16509).toInt = 0) ∧ (0 < p → BL (I 1 (16800 + (p - 1).toNat)) → (I 1 16508).toInt + 4 ≤ 4 * p ∧ 2 * (I 1 16509).toInt ≤ p)
section
variable {I : Nat → Nat → Int32}
theorem BS.rf (I : Nat → Nat → Int32) : BS I I := ⟨rfl, fun _ _ _ => rfl⟩
theorem BS.tr {I' I2 : Nat → Nat → Int32} (h : BS I I') (h2 : BS I' I2) : BS I I2 := ⟨h2.1.trans h.1, fun j a b => (h2.2 j a b).trans (h.2 j a b)⟩
theorem SE.rf (I : Nat → Nat → Int32) : SE I I 0 := ⟨fun h => h, by omega, rfl, BS.rf I, fun _ _ _ => rfl⟩
theorem SE.tr {I' I2 : Nat → Nat → Int32} {n m k : Int} (h : SE I I' n) (h2 : SE I' I2 m) (hk : n + m ≤ k) : SE I I2 k := ⟨fun q => h2.1 (h.1 q), by have := h.2.1; have := h2.2.1; omega, h2.2.2.1.trans h.2.2.1, h.2.2.2.1.tr h2.2.2.2.1, fun j a b => (h2.2.2.2.2 j a b).trans (h.2.2.2.2 j a b)⟩
theorem SE.kk {I' I2 : Nat → Nat → Int32} {n : Int} {cs fs : List Nat} (h : SE I I' n) (k : KK cs fs I' I2) (h1 : 1 ∉ cs) : SE I I2 n := by
  unfold SE WQ BS at h ⊢
  rw [k.1 1 (by decide) h1]
  exact h
theorem SE.one {I' : Nat → Nat → Int32} {n : Int} (e1 : (I 1 16508).toInt ≤ (I' 1 16508).toInt ∧ (I' 1 16508).toInt ≤ (I 1 16508).toInt + n) (e2 : ∀ j, j ≠ 16508 → j < 17100 ∨ (18350 ≤ j ∧ j < 18510) → 16507 ≤ j → j ≠ 16510 → j ≠ 16511 → I' 1 j = I 1 j) (hp : (I 1 16509).toInt < 150 ∨ True) : SE I I' n :=
  ⟨fun h => ⟨by have := h.1; omega, by rw [e2 16509 (by decide) (by omega) (by omega) (by decide) (by decide)]; exact h.2.1, fun k hk hs => by
    rw [e2 16509 (by decide) (by omega) (by omega) (by decide) (by decide)] at hs ⊢
    rw [e2 (18350 + k) (by omega) (by omega) (by omega) (by omega) (by omega)]
    refine ⟨by have := (h.2.2 k hk hs).1; omega, fun q => ?_⟩
    rw [e2 (18350 + (k + 1)) (by omega) (by omega) (by omega) (by omega) (by omega)]
    exact (h.2.2 k hk hs).2 q⟩, e1, e2 16509 (by decide) (by omega) (by omega) (by decide) (by decide), ⟨e2 16507 (by decide) (by omega) (by omega) (by decide) (by decide), fun j a b => e2 j (by omega) (by omega) (by omega) (by omega) (by omega)⟩, fun j a b => e2 j (by omega) (by omega) (by omega) (by omega) (by omega)⟩
theorem SE.ua {I' : Nat → Nat → Int32} {n : Int} {f : Nat → Int32} {x v : Int32} {a : Int} (h : SE I I' n) (e : f = upd (I' 1) x.toNatClampNeg v) (hx : x.toInt = a) (ha : a = 16510 ∨ a = 16511 ∨ (18510 ≤ a ∧ a < 19800) ∨ (17100 ≤ a ∧ a < 18350)) : SE I (uR I' 1 f) n := by
  have i := t_cl (i := x) hx (by omega)
  have q : SE I' (uR I' 1 f) 0 := SE.one (by rw [uR_eq, e, pk_un (by omega)]; omega) (fun j h1 h2 h3 h4 h5 => by rw [uR_eq, e, pk_un (by omega)]) (Or.inr trivial)
  exact h.tr q (by omega)
theorem SE.us {f : Nat → Int32} {v : Int32} (e : f = upd (I 1) (16508 : Int32).toNatClampNeg v) (hv : v.toInt = (I 1 16508).toInt + 1) : SE I (uR I 1 f) 1 ∧ (uR I 1 f 1 16508).toInt = (I 1 16508).toInt + 1 := by
  have i : (16508 : Int32).toNatClampNeg = 16508 := rfl
  rw [i] at e
  have e8 : (uR I 1 f 1 16508).toInt = (I 1 16508).toInt + 1 := by rw [uR_eq, e, upd_at rfl]; exact hv
  exact ⟨SE.one (by omega) (fun j h1 h2 h3 h4 h5 => by rw [uR_eq, e, pk_un (by omega)]) (Or.inr trivial), e8⟩
theorem SA.blank {p : Int} (h : SA I p) (hp : 0 ≤ p) : SA I (p + 1) := by
  obtain ⟨h0, h1, h2, h3⟩ := h
  exact ⟨h0, by omega, fun q => by omega, fun _ _ => by omega⟩
theorem SB.plain {p : Int} (h : SA I p) : SB I p := ⟨h.1, h.2.1.1, by have := h.2.1; omega⟩
theorem GP.rd {p : Int} {f : Nat → Int32} {x v z : Int32} (h : GP I p) (e1 : f = upd (I 1) x.toNatClampNeg v) (hx : x.toInt = 18350 + (I 1 16509).toInt) (e3 : z = f 16509) : z.toInt = (I 1 16509).toInt := by
  have ix := t_cl (i := x) hx (by have := h.1.2.1; omega)
  rw [e3, e1, pk_un (by have := h.1.2.1; omega)]
theorem SB.piece {I' : Nat → Nat → Int32} {p : Int} {f g : Nat → Int32} {x v w z : Int32} (h : GP I p) (e1 : f = upd (I 1) x.toNatClampNeg v) (hx : x.toInt = 18350 + (I 1 16509).toInt) (hv : v = I 1 16508) (e2 : g = upd f (16509 : Int32).toNatClampNeg w) (e3 : z = f 16509) (hw : w.toInt = z.toInt + 1) (eI : I' 1 = g) : SB I' p ∧ BS I I' := by
  have hz := h.rd e1 hx e3
  obtain ⟨⟨h0, h1, h2⟩, hs, hp, hl⟩ := h
  have i : (16509 : Int32).toNatClampNeg = 16509 := rfl
  have ix := t_cl (i := x) hx (by omega)
  rw [i] at e2
  have e9 : I' 1 16509 = w := by rw [eI, e2, upd_at rfl]
  have ne : ∀ j, j ≠ 16509 → j ≠ x.toNatClampNeg → I' 1 j = I 1 j := fun j a b => by rw [eI, e2, pk_un a, e1, pk_un b]
  have ev : I' 1 x.toNatClampNeg = I 1 16508 := by rw [eI, e2, pk_un (by omega), e1, upd_at rfl, hv]
  have e8 : I' 1 16508 = I 1 16508 := ne _ (by omega) (by omega)
  refine ⟨⟨⟨by rw [e8]; exact h0, by rw [e9]; omega, fun k hk hs2 => ?_⟩, by rw [e8]; omega, by rw [e9]; omega⟩, ne _ (by omega) (by omega), fun j a b => ne j (by omega) (by omega)⟩
  rw [e9] at hs2 ⊢
  rw [e8]
  by_cases q : 18350 + k = x.toNatClampNeg
  · rw [q, ev]
    exact ⟨by omega, fun q2 => by exfalso; omega⟩
  · rw [ne _ (by omega) q]
    refine ⟨(h2 k hk (by omega)).1, fun q2 => ?_⟩
    by_cases q3 : 18350 + (k + 1) = x.toNatClampNeg
    · rw [q3, ev]; exact hl k (by omega)
    · rw [ne _ (by omega) q3]; exact (h2 k hk (by omega)).2 (by omega)
theorem BS.kk {I' I2 : Nat → Nat → Int32} {cs fs : List Nat} (h : BS I I') (k : KK cs fs I' I2) (h1 : 1 ∉ cs) : BS I I2 := by
  unfold BS at h ⊢
  rw [k.1 1 (by decide) h1]
  exact h
theorem BS.ua {I' : Nat → Nat → Int32} {f : Nat → Int32} {x v : Int32} {a : Int} (h : BS I I') (e : f = upd (I' 1) x.toNatClampNeg v) (hx : x.toInt = a) (ha : 16508 ≤ a) (hb : a < 16800 ∨ 17100 ≤ a) : BS I (uR I' 1 f) := by
  have i := t_cl (i := x) hx (by omega)
  refine ⟨?_, fun j q1 q2 => ?_⟩
  · rw [uR_eq, e, pk_un (by omega)]; exact h.1
  · rw [uR_eq, e, pk_un (by omega)]; exact h.2 j q1 q2
theorem SA.zero {p : Int} (h8 : (I 1 16508).toInt = 0) (h9 : (I 1 16509).toInt = 0) (hp : p = 0) : SA I p := ⟨⟨by omega, by omega, fun k hk hs => by exfalso; omega⟩, by omega, fun _ => ⟨h8, h9⟩, fun q => by exfalso; omega⟩
theorem SA.z0 {p : Int} (h : SA I p) (hp : p = 0) : 2 * (I 1 16509).toInt ≤ p ∧ ((I 1 16509).toInt ≤ 0 ∨ (I 1 16508).toInt + 4 ≤ 4 * p) := by
  have := h.2.2.1 hp
  omega
theorem SA.zb {p : Int} (h : SA I p) (hp : 0 < p) (hb : BL (I 1 (16800 + (p - 1).toNat))) : 2 * (I 1 16509).toInt ≤ p ∧ ((I 1 16509).toInt ≤ 0 ∨ (I 1 16508).toInt + 4 ≤ 4 * p) := by
  have := h.2.2.2 hp hb
  omega
theorem SA.gA {p : Int} (h : SA I p) (g : 2 * (I 1 16509).toInt ≤ p ∧ ((I 1 16509).toInt ≤ 0 ∨ (I 1 16508).toInt + 4 ≤ 4 * p)) (h0 : (I 1 16509).toInt ≤ 0) (hp : p < 300) : GP I p := ⟨h.1, ⟨h.2.1.1, g.1⟩, by omega, fun k hk => by exfalso; omega⟩
theorem SA.gB {I' : Nat → Nat → Int32} {p : Int} (h : SA I p) (g : 2 * (I 1 16509).toInt ≤ p ∧ ((I 1 16509).toInt ≤ 0 ∨ (I 1 16508).toInt + 4 ≤ 4 * p)) (h0 : 0 < (I 1 16509).toInt) (hp : p < 300) (hs : SE I I' 1) (h8 : (I' 1 16508).toInt = (I 1 16508).toInt + 1) : GP I' p := by
  refine ⟨hs.1 h.1, ⟨by omega, by rw [hs.2.2.1]; exact g.1⟩, by rw [hs.2.2.1]; omega, fun k hk => ?_⟩
  rw [hs.2.2.1] at hk
  rw [hs.2.2.2.2 _ (by omega) (by omega), h8]
  have := (h.1.2.2 k (by omega) (by omega)).1
  omega
theorem WE.lt {p e : Int} (h : WE I p e) (hp : p < (I 1 16507).toInt) (hl : LT (I 1 (16800 + p.toNat))) : p < e ∧ e ≤ (I 1 16507).toInt := by
  obtain ⟨a, b, c, d⟩ := h
  have : p < e := by
    by_cases q : p = e
    · subst q; exact absurd hl (d hp)
    · omega
  omega
theorem WE.nb {p e : Int} (h : WE I p e) (hp : p < e) : ¬ BL (I 1 (16800 + (e - 1).toNat)) := fun q => by
  have := h.2.2.1 (e - 1) (by omega) (by omega)
  unfold LT at this; unfold BL at q; omega
theorem WE.bs {I' : Nat → Nat → Int32} {p e : Int} (h : WE I p e) (b : BS I' I) (hp : 0 ≤ p ∧ p ≤ 300) (hb : (I 1 16507).toInt ≤ 300) : WE I' p e := by
  obtain ⟨a, b2, c, d⟩ := h
  unfold WE
  rw [← b.1]
  refine ⟨a, b2, fun j q1 q2 => by rw [← b.2 _ (by omega) (by omega)]; exact c j q1 q2, fun q => by rw [← b.2 _ (by omega) (by omega)]; exact d q⟩
theorem WE.uq {p e e2 : Int} (h : WE I p e) (h2 : WE I p e2) : e = e2 := by
  obtain ⟨a, b, c, d⟩ := h
  obtain ⟨a2, b2, c2, d2⟩ := h2
  rcases Int.lt_trichotomy e e2 with q | q | q
  · exact absurd (c2 e a q) (d (by omega))
  · exact q
  · exact absurd (c e2 a2 q) (d2 (by omega))
theorem SA.word {p e n : Int} {I' : Nat → Nat → Int32} (h : SB I p) (hs : SE I I' n) (hp : 0 ≤ p) (he : p < e) (hn : n ≤ 4 * (e - p)) (hl : ¬ BL (I 1 (16800 + (e - 1).toNat))) (hb : e ≤ 300) : SA I' e := by
  obtain ⟨h0, h1, h2⟩ := h
  obtain ⟨g0, g1, g2, g3⟩ := hs
  refine ⟨g0 h0, ⟨by omega, by rw [g2]; omega⟩, fun q => by omega, fun _ q => ?_⟩
  rw [g3.1.2 _ (by omega) (by omega)] at q
  exact absurd q hl
theorem LT.nb {z : Int32} (h : LT z) : ¬ BL z := by
  unfold LT at h; unfold BL; omega
theorem DG.nb {z : Int32} (h : DG z) : ¬ BL z := by
  unfold DG at h; unfold BL; omega
theorem MI.ts {I' : Nat → Nat → Int32} (h : MI I) (q : WQ I) (hs : (I 1 16508).toInt ≤ 1200 ∧ (I 1 16509).toInt ≤ 150) (k : KK [1] [] I I') (e : ∀ j : Nat, I' 1 j = if (7 ≤ j ∧ j < 12) ∨ (300 ≤ j ∧ j < 3300) then I 1 (16500 + j) else I 1 j) : MI I' := by
  have t0 := h.t0
  obtain ⟨h0, h1, h2, h3, h4, h5, h9, h6⟩ := h
  obtain ⟨q0, q1, q2⟩ := q
  unfold MI
  rw [k.1 3 (by decide) (by decide), k.1 8 (by decide) (by decide), k.1 9 (by decide) (by decide), k.2 9 (by decide), k.2 36 (by decide), k.2 42 (by decide), k.2 45 (by decide), e 16507, if_neg (by omega)]
  refine ⟨h0, h1, h2, h3, h4, h5, fun k hk => by rw [e, if_neg (by omega)]; exact h9 k hk, fun j hj => ?_⟩
  by_cases w : j = 0
  · subst w
    rw [Nat.mul_zero]
    refine ⟨?_, ?_⟩
    · obtain ⟨a, b, c, d, f, g⟩ := t0
      have n : ∀ i, i < 300 → ¬ (7 ≤ i ∧ i < 12) → I' 1 (0 + i) = I 1 (0 + i) := fun i a b => by rw [e, if_neg (by omega)]
      refine ⟨by rw [e, if_neg (by omega)]; exact a, fun k k1 k2 => by rw [n k (by omega) (by omega)]; exact b k k1 k2, by rw [n 4 (by omega) (by omega)]; exact c, by rw [n 5 (by omega) (by omega)]; exact d, fun r hr => ?_, fun r hr hs => ?_⟩
      · unfold RS
        rw [n _ (by omega) (by omega), n _ (by omega) (by omega)]
        exact ⟨(f r hr).1, (f r hr).2.1, fun k hk => by rw [n _ (by omega) (by omega)]; exact (f r hr).2.2 k hk⟩
      · rw [e 0, if_neg (by omega)] at hs
        rw [n _ (by omega) (by omega), n _ (by omega) (by omega)]
        exact g r hr hs
    · have m : ∀ i, (7 ≤ i ∧ i < 12) ∨ (300 ≤ i ∧ i < 3300) → I' 1 (0 + i) = I 1 (16500 + i) := fun i a => by rw [Nat.zero_add, e, if_pos a]
      have m7 : I' 1 (0 + 7) = I 1 16507 := m 7 (by omega)
      have m8 : I' 1 (0 + 8) = I 1 16508 := m 8 (by omega)
      have m9 : I' 1 (0 + 9) = I 1 16509 := m 9 (by omega)
      unfold SS
      rw [m7, m8, m9]
      refine ⟨by omega, by omega, by omega, fun k hk => ?_, fun k hk hs => ?_⟩
      · rw [m _ (by omega), show 16500 + (600 + k) = 17100 + k by omega]; exact h9 k hk
      · rw [m _ (by omega), m _ (by omega), show 16500 + (1850 + k) = 18350 + k by omega, show 16500 + (1850 + (k + 1)) = 18350 + (k + 1) by omega]
        exact q2 k hk hs
  · obtain ⟨a, b⟩ := h6 j hj
    exact ⟨a.congr (fun i hi => by rw [e, if_neg (by omega)]), b.congr (fun i hi => by rw [e, if_neg (by omega)])⟩
theorem ts_st {I I0 : Nat → Nat → Int32} {v : Int} {P : Nat → Prop} {f : Nat → Int32} {x y w : Int32} (h : ∀ j : Nat, (P j → I 1 j = I0 1 (16500 + j)) ∧ (¬ P j → I 1 j = I0 1 j)) (hP : ∀ j, P j → j < 3300) (hf : f = upd (I 1) x.toNatClampNeg w) (hw : w = I 1 y.toNatClampNeg) (hx : x.toInt = v) (hy : y.toInt = 16500 + v) (hv : 0 ≤ v ∧ v < 3300) (j : Nat) : (P j ∨ (j : Int) = v → uR I 1 f 1 j = I0 1 (16500 + j)) ∧ (¬ (P j ∨ (j : Int) = v) → uR I 1 f 1 j = I0 1 j) := by
  have ix := t_cl (i := x) hx (by omega)
  have iy := t_cl (i := y) hy (by omega)
  rw [uR_eq, hf]
  unfold upd
  by_cases hj : j = x.toNatClampNeg
  · rw [if_pos hj]
    refine ⟨fun _ => ?_, fun q => absurd (Or.inr (by omega)) q⟩
    rw [hw, (h _).2 (fun q => by have := hP _ q; omega), show y.toNatClampNeg = 16500 + j by omega]
  · rw [if_neg hj]
    refine ⟨fun q => ?_, fun q => (h j).2 (fun w => q (Or.inl w))⟩
    rcases q with q | q
    · exact (h j).1 q
    · exfalso; omega
theorem MI.ud (h : MI I) {f : Nat → Int32} {v : Int32} (e : f = upd (I 1) (6 : Int32).toNatClampNeg v) : MI (uR I 1 f) := by
  have i : (6 : Int32).toNatClampNeg = 6 := rfl
  rw [i] at e
  have ne : ∀ j, j ≠ 6 → f j = I 1 j := fun j a => by rw [e, pk_un a]
  have e0 : uR I 1 f 0 = I 0 := uR_ne (by decide)
  have e3 : uR I 1 f 3 = I 3 := uR_ne (by decide)
  have e8 : uR I 1 f 8 = I 8 := uR_ne (by decide)
  have e9 : uR I 1 f 9 = I 9 := uR_ne (by decide)
  obtain ⟨h0, h1, h2, h3, h4, h5, h9, h6⟩ := h
  unfold MI
  rw [e0, e3, e8, e9, uR_eq, ne 16507 (by omega)]
  refine ⟨h0, h1, h2, h3, h4, h5, fun k hk => by rw [ne _ (by omega)]; exact h9 k hk, fun j hj => ?_⟩
  obtain ⟨⟨a, b, c, d, f', g⟩, w⟩ := h6 j hj
  refine ⟨⟨by rw [ne _ (by omega)]; exact a, fun k k1 k2 => by rw [ne _ (by omega)]; exact b k k1 k2, by rw [ne _ (by omega)]; exact c, by rw [ne _ (by omega)]; exact d, fun r hr => ⟨by rw [ne _ (by omega)]; exact (f' r hr).1, by rw [ne _ (by omega)]; exact (f' r hr).2.1, fun k hk => by rw [ne _ (by omega)]; exact (f' r hr).2.2 k hk⟩, fun r hr hs => ?_⟩, w.congr (fun i hi => ne _ (by omega))⟩
  rw [ne _ (by omega)] at hs
  rw [ne _ (by omega), ne _ (by omega)]
  exact g r hr hs
end
def hoQ (c : Int) (B E : Prop) : Prop := c = 0 ∨ (B ∧ E ∧ c = 4) ∨ (B ∧ ¬ E ∧ c = 1) ∨ (¬ B ∧ E ∧ c = 3) ∨ (¬ B ∧ ¬ E ∧ c = 2)
theorem hoQ.of {c b e : Int} {B E : Prop} (h : hoP c b e) (hB : b ≠ 0 ↔ B) (hE : e ≠ 0 ↔ E) : hoQ c B E := by
  unfold hoP at h; unfold hoQ
  rw [← hB, ← hE]
  omega
theorem hoQ.to {c b e : Int} {B E : Prop} (h : hoQ c B E) (hB : b ≠ 0 ↔ B) (hE : e ≠ 0 ↔ E) : hoP c b e := by
  unfold hoQ at h; unfold hoP
  rw [← hB, ← hE] at h
  omega
theorem outB.iff {g r : Int32} : outB g r = false ↔ ¬ outP g r := by
  unfold outB outP
  constructor
  · intro h q
    rw [decide_eq_true q] at h
    cases h
  · intro h
    exact decide_eq_false h
theorem coP.hoQ {c : Int} {B E : Prop} : coP c B E ↔ hoQ c B E := Iff.rfl
/-! a WRITING on the model's side (behind 34.o0) -/
def uBM (I : Nat → Nat → Int32) : Nat → Int := uB (fun j => (I 1 (16800 + j)).toInt) (I 1 16507).toInt
def uTM (I : Nat → Nat → Int32) : fxT := fxTM (I 1) 0
section Fnv
variable {I I' : Nat → Nat → Int32} {r k : Nat}
theorem uBM.of (h : BS I I') (hM : MI I) : uBM I' = uBM I := by
  have hw := hM.wb rfl
  unfold uBM
  rw [h.1]
  refine uB.eq (fun j hj => ?_)
  show (I' 1 (16800 + j)).toInt = (I 1 (16800 + j)).toInt
  rw [h.2 _ (by omega) (by omega)]
theorem uTM.of (h : WK I I') (hM : MI I) : uTM I' = uTM I := fxTM.congr hM.t0 (fun k hk => h _ (by omega)) (fun k _ hk => h _ (by have := hM.t0.1; omega))
theorem uTM.at (hr : (r : Int) < (I 1 0).toInt) : (uTM I).2.getD r fxE = fxRM (I 1) (0 + 12 + 12 * r) := by
  show ((List.range (I 1 0).toInt.toNat).map (fun r => fxRM (I 1) (0 + 12 + 12 * r))).getD r fxE = _
  rw [List.getD_eq_getElem?_getD, List.getElem?_map, List.getElem?_range (by omega)]
  rfl
theorem uTM.len : (uTM I).2.length = (I 1 0).toInt.toNat := fxTM.len
theorem uTM.lc (hr : (r : Int) < (I 1 0).toInt) : uLC (uTM I) r = (I 1 (12 * r + 12)).toInt.toNat := by
  unfold uLC
  rw [uTM.at hr]
  show ((List.range (I 1 (0 + 12 + 12 * r)).toInt.toNat).map _).length = _
  rw [List.length_map, List.length_range, show 0 + 12 + 12 * r = 12 * r + 12 by omega]
theorem uTM.cc (hr : (r : Int) < (I 1 0).toInt) : uCC (uTM I) r = (I 1 (12 * r + 19)).toInt.toNat := by
  unfold uCC
  rw [uTM.at hr]
  show ((List.range (I 1 (0 + 12 + 12 * r + 7)).toInt.toNat).map _).length = _
  rw [List.length_map, List.length_range, show 0 + 12 + 12 * r + 7 = 12 * r + 19 by omega]
theorem uTM.cd (hr : (r : Int) < (I 1 0).toInt) : uCD (uTM I) r = (I 1 (12 * r + 23)).toInt := by
  unfold uCD
  rw [uTM.at hr]
  show (I 1 (0 + 12 + 12 * r + 11)).toInt = _
  rw [show 0 + 12 + 12 * r + 11 = 12 * r + 23 by omega]
theorem uTM.lt (hr : (r : Int) < (I 1 0).toInt) (hk : k < (I 1 (12 * r + 12)).toInt.toNat) : uLT (uTM I) r k = (I 1 (12 * r + 13 + k)).toInt := by
  unfold uLT
  rw [uTM.at hr]
  show ((List.range (I 1 (0 + 12 + 12 * r)).toInt.toNat).map (fun k => (I 1 (0 + 12 + 12 * r + 1 + k)).toInt)).getD k 0 = _
  rw [List.getD_eq_getElem?_getD, List.getElem?_map, List.getElem?_range (by rw [show 0 + 12 + 12 * r = 12 * r + 12 by omega]; exact hk)]
  show (I 1 (0 + 12 + 12 * r + 1 + k)).toInt = _
  rw [show 0 + 12 + 12 * r + 1 + k = 12 * r + 13 + k by omega]
theorem uTM.sg (hk : k < 5) : (uTM I).1 k = (I 1 (1 + k)).toInt := by
  show fxSgM (I 1) 0 k = _
  unfold fxSgM
  rw [if_pos hk, show 0 + 1 + k = 1 + k by omega]
theorem uTM.l1 (hM : MI I) (hr : (r : Int) < (I 1 0).toInt) : 1 ≤ uLC (uTM I) r := by
  rw [uTM.lc hr]
  have h24 := hM.t0.1
  have q := (hM.t0.2.2.2.2.2 r (by omega) hr).1
  rw [Nat.zero_add] at q
  omega
theorem uTM.c1 (hM : MI I) (hr : (r : Int) < (I 1 0).toInt) : 1 ≤ uCC (uTM I) r ∧ uCC (uTM I) r ≤ 3 := by
  rw [uTM.cc hr]
  have h24 := hM.t0.1
  have q := (hM.t0.2.2.2.2.2 r (by omega) hr).2
  have q2 := (hM.t0.2.2.2.2.1 r (by omega)).2.1
  rw [Nat.zero_add] at q q2
  omega
theorem uJt.iffM {D : Int32} {w : Int} (hr : (r : Int) < (I 1 0).toInt) : uJt (uTM I) D w r ↔ (outB D (nI r) = false ∧ (I 1 (12 * r + 12)).toInt = 1 ∧ (I 1 (12 * r + 13)).toInt = w ∧ (I 1 (12 * r + 23)).toInt = 0) := by
  unfold uJt
  rw [uTM.lc hr, uTM.cd hr]
  constructor
  · rintro ⟨a, b, c, d⟩
    rw [uTM.lt hr (by omega), Nat.add_zero] at c
    exact ⟨a, by omega, c, d⟩
  · rintro ⟨a, b, c, d⟩
    refine ⟨a, by omega, ?_, d⟩
    rw [uTM.lt hr (by omega), Nat.add_zero]
    exact c
/-- what is asked of a WORD's bytes -/
def uPm (I : Nat → Nat → Int32) (p wt : Int) : Prop := wt ≤ (I 1 16507).toInt ∧ ∀ j : Nat, p ≤ (j : Int) → (j : Int) < wt → uLt (uBM I j)
theorem u_by {k r : Int32} {n : Int} (h : (k.toInt < (I 1 16507).toInt ∧ r = I 1 (16800 + k.toInt.toNat)) ∨ ((I 1 16507).toInt ≤ k.toInt ∧ r.toInt = 32)) (h0 : 0 ≤ k.toInt) (hk : k.toInt < n) (hn : n ≤ (I 1 16507).toInt) : r.toInt = uBM I k.toInt.toNat := by
  rcases h with h | h
  · rw [h.2]
    exact (uB.at (F := fun j => (I 1 (16800 + j)).toInt) (n := (I 1 16507).toInt) (j := k.toInt.toNat) (by omega)).symm
  · omega
theorem WE.wd {p e : Int} (h : WE I p e) (hp : 0 ≤ p ∧ p < (I 1 16507).toInt) (hl : uLt (uBM I p.toNat)) (hb : 0 < p → ¬ uLt (uBM I (p - 1).toNat)) : uWd (uBM I) (I 1 16507).toInt p p e := by
  have at_ : ∀ j : Int, 0 ≤ j → j < (I 1 16507).toInt → (LT (I 1 (16800 + j.toNat)) ↔ uLt (uBM I j.toNat)) := fun j j0 j1 => by
    have e : uBM I j.toNat = (I 1 (16800 + j.toNat)).toInt := uB.at (F := fun j => (I 1 (16800 + j)).toInt) (n := (I 1 16507).toInt) (j := j.toNat) (by omega)
    rw [e]
    exact Iff.rfl
  have q := h.lt hp.2 ((at_ p hp.1 hp.2).2 hl)
  obtain ⟨a, b, c, d⟩ := h
  refine ⟨⟨hp.1, Int.le_refl _, q.1, q.2⟩, fun j h1 h2 => ?_, fun w z => d w ((at_ e (by omega) w).2 z), hb⟩
  have w := (at_ (j : Int) (by omega) (by omega)).1 (c (j : Int) h1 h2)
  rw [Int.toNat_natCast] at w
  exact w
end Fnv
section
variable {T : fxT} {D : Int32} {B : Nat → Int} {n first last c0 p p2 cnt cnt2 k : Int} {r : Nat}
/-- within a WORD -/
def uWi (T : fxT) (D : Int32) (B : Nat → Int) (n first c0 p cnt : Int) : Prop := (p = first ∧ cnt = c0 + uGp B first c0) ∨ (first < p ∧ gRe (uNx T D B n) (first, c0) (p, cnt))
theorem uWd.sh (h : uWd B n first first last) (h1 : first ≤ p) (h2 : p < last) : uWd B n p first last := ⟨⟨h.1.1, h1, h2, h.1.2.2.2⟩, h.2⟩
theorem uWi.st (h : uWi T D B n first c0 p cnt) (hw : uWd B n first first last) (h1 : first ≤ p) (h2 : p < last) (hr : uLg T D B p first last r) (hl : 1 ≤ uLC T r) (hg : uGr (B p.toNat) → T.1 0 ≠ 0) (hc : cnt2 = cnt + uCa B p + (uCC T r : Int)) (hp : p2 = p + (uLC T r : Int)) : uWi T D B n first c0 p2 cnt2 := by
  have hb := hw.2.1
  have h0 := hw.1.1
  have hn := hw.1.2.2.2
  have lt : uLt (B p.toNat) := hb p.toNat (by omega) (by omega)
  subst hp
  rcases h with ⟨a, b⟩ | ⟨a, b⟩
  · subst a
    refine Or.inr ⟨by omega, gRe.rf.st ⟨by show p < n; omega, Or.inr (Or.inr ⟨lt, _, _, r, hw.sh (Int.le_refl _) h2, hr, hg, ?_⟩)⟩⟩
    show (_, cnt2) = (_, c0 + uGp B p c0 + uCa B p + (uCC T r : Int))
    rw [hc, b]
  · refine Or.inr ⟨by omega, b.st ⟨by show p < n; omega, Or.inr (Or.inr ⟨lt, _, _, r, hw.sh h1 h2, hr, hg, ?_⟩)⟩⟩
    have z : uGp B p cnt = 0 := by
      unfold uGp
      rw [if_neg]
      rintro ⟨_, q, _⟩
      exact u_bl q (hb (p - 1).toNat (by omega) (by omega))
    show (_, cnt2) = (_, cnt + uGp B p cnt + uCa B p + (uCC T r : Int))
    rw [hc, z, Int.add_zero]
theorem uWi.fl (h : uWi T D B n first c0 p cnt) (hk : ∀ c : Int, uFl T D B n (p, c) k) : ∃ c : Int × Int, gRe (uNx T D B n) (first, c0) c ∧ uFl T D B n c k ∧ c.1 = p := by
  rcases h with ⟨a, b⟩ | ⟨a, b⟩
  · subst a
    exact ⟨_, gRe.rf, hk c0, rfl⟩
  · exact ⟨_, b, hk cnt, rfl⟩
theorem uWi.end (h : uWi T D B n first c0 p cnt) (hp : first < p) : gRe (uNx T D B n) (first, c0) (p, cnt) := by
  rcases h with ⟨a, b⟩ | ⟨a, b⟩
  · omega
  · exact b
/-- within a FIGURE -/
def uFi (T : fxT) (D : Int32) (B : Nat → Int) (n first c0 p cnt : Int) : Prop := (p = first ∧ cnt = c0 + uGp B first c0 + 1) ∨ (first < p ∧ uDg (B (p - 1).toNat) ∧ gRe (uNx T D B n) (first, c0) (p, cnt))
theorem uFi.st (h : uFi T D B n first c0 p cnt) (hf : 0 < first → ¬ uDg (B (first - 1).toNat)) (h1 : 0 ≤ first) (h2 : p < n) (hd : uDg (B p.toNat)) (hn : T.1 1 ≠ 0) (hr : uJs T D (uFg (B p.toNat)) r) (hc : cnt2 = cnt + (uCC T r : Int)) (hp : p2 = p + 1) : uFi T D B n first c0 p2 cnt2 := by
  subst hp
  have e : (p + 1 - 1).toNat = p.toNat := by omega
  rcases h with ⟨a, b⟩ | ⟨a, d, b⟩
  · subst a
    refine Or.inr ⟨by omega, by rw [e]; exact hd, gRe.rf.st ⟨h2, Or.inr (Or.inl ⟨hd, hn, r, hr, ?_⟩)⟩⟩
    have z : uNu B p = 1 := by
      unfold uNu
      rw [if_neg (fun q => hf q.1 q.2)]
    show (_, cnt2) = (_, c0 + uGp B p c0 + uNu B p + (uCC T r : Int))
    rw [hc, b, z]
  · refine Or.inr ⟨by omega, by rw [e]; exact hd, b.st ⟨h2, Or.inr (Or.inl ⟨hd, hn, r, hr, ?_⟩)⟩⟩
    have z : uGp B p cnt = 0 := by
      unfold uGp
      rw [if_neg]
      rintro ⟨_, q, _⟩
      exact u_bd q d
    have z2 : uNu B p = 0 := by
      unfold uNu
      rw [if_pos ⟨by omega, d⟩]
    show (_, cnt2) = (_, cnt + uGp B p cnt + uNu B p + (uCC T r : Int))
    rw [hc, z, z2, Int.add_zero, Int.add_zero]
theorem uFi.fl (h : uFi T D B n first c0 p cnt) (hk : ∀ c : Int, uFl T D B n (p, c) k) : ∃ c : Int × Int, gRe (uNx T D B n) (first, c0) c ∧ uFl T D B n c k ∧ c.1 = p := by
  rcases h with ⟨a, b⟩ | ⟨a, _, b⟩
  · subst a
    exact ⟨_, gRe.rf, hk c0, rfl⟩
  · exact ⟨_, b, hk cnt, rfl⟩
/-- the model's loop over the WRITING -/
def uLm (T : fxT) (D : Int32) (B : Nat → Int) (n p cnt pcs : Int) : Prop :=
  gRe (uNx T D B n) (0, 0) (p, cnt) ∧ (p < n → 0 < p → (uDg (B p.toNat) → ¬ uDg (B (p - 1).toNat)) ∧ (uLt (B p.toNat) → ¬ uLt (B (p - 1).toNat))) ∧ (0 < p → ¬ uBl (B (p - 1).toNat) → 0 < cnt) ∧ (0 < pcs ↔ 0 < cnt)
theorem uFl.nz {c : Int × Int} (h : uFl T D B n c k) : k ≠ 0 := by
  obtain ⟨_, h⟩ := h
  rcases h with ⟨_, _, _, h⟩ | ⟨_, _, h⟩ | ⟨_, _, _, _, ⟨_, h⟩ | ⟨_, _, _, h⟩⟩ <;> omega
end
section
variable {T : fxT} {D : Int32} {B : Nat → Int} {n p p2 cnt pcs : Int}
theorem gGo.inv {α : Type} {R : α → α → Prop} {J : α → Prop} (h : ∀ {a b}, J a → R a b → J b) : ∀ (k : Nat) {a b : α}, J a → gGo R k a b → J b
  | 0, a, b, ja, g => by
    have e : a = b := g
    rw [← e]; exact ja
  | k + 1, a, b, ja, g => by
    obtain ⟨c, hc, g⟩ := g
    exact gGo.inv (R := R) (J := J) (fun {_ _} x y => h x y) k (h (a := a) (b := c) ja hc) g
def uJv (B : Nat → Int) (a : Int × Int) : Prop := 0 ≤ a.1 ∧ 0 ≤ a.2 ∧ (0 < a.1 → ¬ uBl (B (a.1 - 1).toNat) → 0 < a.2)
theorem uGp.rg {c : Int} : 0 ≤ uGp B p c := by unfold uGp; split <;> omega
theorem uNu.rg : 0 ≤ uNu B p := by unfold uNu; split <;> omega
theorem uCa.rg : 0 ≤ uCa B p := by unfold uCa; split <;> omega
theorem uJv.st (hC : ∀ r, r < T.2.length → 1 ≤ uCC T r) {a b : Int × Int} (h : uJv B a) (g : uNx T D B n a b) : uJv B b := by
  obtain ⟨h1, h2, h3⟩ := h
  obtain ⟨_, g⟩ := g
  rcases g with ⟨g1, g2⟩ | ⟨g1, g2, r, g3, g4⟩ | ⟨g1, wf, wt, r, g2, g3, g4, g5⟩
  · subst g2
    refine ⟨by show 0 ≤ a.1 + 1; omega, h2, fun _ q => absurd g1 ?_⟩
    have q2 : ¬ uBl (B (a.1 + 1 - 1).toNat) := q
    rw [show a.1 + 1 - 1 = a.1 by omega] at q2
    exact q2
  · subst g4
    have c := hC r g3.1
    have u1 := uGp.rg (B := B) (p := a.1) (c := a.2)
    have u2 := uNu.rg (B := B) (p := a.1)
    exact ⟨by show 0 ≤ a.1 + 1; omega, by show 0 ≤ a.2 + uGp B a.1 a.2 + uNu B a.1 + (uCC T r : Int); omega, fun _ _ => by show 0 < a.2 + uGp B a.1 a.2 + uNu B a.1 + (uCC T r : Int); omega⟩
  · subst g5
    have c := hC r g3.1
    have u1 := uGp.rg (B := B) (p := a.1) (c := a.2)
    have u2 := uCa.rg (B := B) (p := a.1)
    exact ⟨by show 0 ≤ a.1 + (uLC T r : Int); omega, by show 0 ≤ a.2 + uGp B a.1 a.2 + uCa B a.1 + (uCC T r : Int); omega, fun _ _ => by show 0 < a.2 + uGp B a.1 a.2 + uCa B a.1 + (uCC T r : Int); omega⟩
theorem uRe.pos (hC : ∀ r, r < T.2.length → 1 ≤ uCC T r) {b : Int × Int} (h : gRe (uNx T D B n) (0, 0) b) : uJv B b := by
  obtain ⟨k, g⟩ := h
  exact gGo.inv (J := uJv B) (fun ja hr => ja.st hC hr) k ⟨Int.le_refl _, Int.le_refl _, fun q => absurd q (by decide)⟩ g
theorem uLm.bl (h : uLm T D B n p cnt pcs) (hn : p < n) (hb : uBl (B p.toNat)) (hp : p2 = p + 1) : uLm T D B n p2 cnt pcs := by
  subst hp
  obtain ⟨a, b, c, d⟩ := h
  have e : (p + 1 - 1).toNat = p.toNat := by omega
  refine ⟨a.st ⟨hn, Or.inl ⟨hb, rfl⟩⟩, fun _ _ => ?_, fun _ q => ?_, d⟩
  · rw [e]
    exact ⟨fun _ => u_bd hb, fun _ => u_bl hb⟩
  · rw [e] at q
    exact absurd hb q
theorem uLm.wd {e cnt2 pcs2 : Int} (hC : ∀ r, r < T.2.length → 1 ≤ uCC T r) (h : uLm T D B n p cnt pcs) (hw : uWd B n p p e) (g : gRe (uNx T D B n) (p, cnt) (e, cnt2)) (h2 : 0 < pcs2) : uLm T D B n e cnt2 pcs2 := by
  obtain ⟨a, b, c, d⟩ := h
  have j := uRe.pos hC (a.tr g)
  have l : uLt (B (e - 1).toNat) := hw.2.1 (e - 1).toNat (by have := hw.1; omega) (by have := hw.1; omega)
  have q : 0 < cnt2 := j.2.2 (by have := hw.1; show 0 < e; omega) (fun z => u_bl z l)
  refine ⟨a.tr g, fun w _ => ⟨fun _ z => u_dl z l, fun z => absurd z (hw.2.2.1 w)⟩, fun _ _ => q, ⟨fun _ => q, fun _ => h2⟩⟩
theorem uLm.fg {e cnt2 pcs2 : Int} (hC : ∀ r, r < T.2.length → 1 ≤ uCC T r) (h : uLm T D B n p cnt pcs) (hp : 0 ≤ p) (g : uFi T D B n p cnt e cnt2) (he : p < e) (hd : e < n → ¬ uDg (B e.toNat)) (h2 : 0 < pcs2) : uLm T D B n e cnt2 pcs2 := by
  obtain ⟨a, b, c, d⟩ := h
  rcases g with ⟨g, _⟩ | ⟨_, l, g⟩
  · omega
  · have j := uRe.pos hC (a.tr g)
    have q : 0 < cnt2 := j.2.2 (by show 0 < e; omega) (fun z => u_bd z l)
    exact ⟨a.tr g, fun w _ => ⟨fun z => absurd z (hd w), fun _ => u_dl l⟩, fun _ _ => q, ⟨fun _ => q, fun _ => h2⟩⟩
end
/-! of the model's table (behind fnv) -/
def pqM (I : Nat → Nat → Int32) : Prop := ∀ x ∈ (uTM I).2, ∀ v ∈ x.1, (1 : Int) ≤ v ∧ v ≤ 26
theorem tCs.md {I : Nat → Nat → Int32} {r : Nat} (hr : (r : Int) < (I 1 0).toInt) : tCs (uTM I) r = tCl (fun k => (I 1 (12 * r + 20 + k)).toInt) (I 1 (12 * r + 19)).toInt.toNat := by
  unfold tCs
  rw [uTM.at hr]
  show (List.range (I 1 (0 + 12 + 12 * r + 7)).toInt.toNat).map (fun k => (I 1 (0 + 12 + 12 * r + 8 + k)).toInt) = _
  rw [show 0 + 12 + 12 * r + 7 = 12 * r + 19 by omega, show 0 + 12 + 12 * r + 8 = 12 * r + 20 by omega]
  rfl
