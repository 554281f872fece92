
/-! THE MODEL READS A TABLE: its new slot, where it stands in the text -/
def NS (I : Nat → Nat → Int32) : Prop := TS (I 1) 13200 ∧ SS (I 1) 13200
def MN (I : Nat → Nat → Int32) : Prop := MI I ∧ NS I
def PL (I : Nat → Nat → Int32) : Prop := (0 ≤ (I 0 10).toInt ∧ (I 0 10).toInt ≤ 900) ∧ 0 ≤ (I 0 13).toInt ∧ (I 0 13).toInt ≤ (I 0 10).toInt
def PS (I : Nat → Nat → Int32) : Prop := PL I ∧ (0 ≤ (I 0 12).toInt ∧ (I 0 12).toInt ≤ (I 0 13).toInt) ∧ (0 ≤ (I 0 11).toInt ∧ (I 0 11).toInt ≤ 4) ∧ ((I 0 11).toInt = 2 → (I 0 12).toInt < (I 0 13).toInt)
def AD (I I' : Nat → Nat → Int32) : Prop := (I' 0 11).toInt = 0 ∨ (I 0 13).toInt < (I' 0 13).toInt
def AH (I I' : Nat → Nat → Int32) : Prop := PS I' ∧ (I 0 13).toInt ≤ (I' 0 13).toInt ∧ AD I I'
def JF (I : Nat → Nat → Int32) : Prop := (I 0 17).toInt = 0 → (I 0 16).toInt = -1
def PQ (I I' : Nat → Nat → Int32) : Prop := PS I' ∧ (I 0 13).toInt ≤ (I' 0 13).toInt ∧ (JF I → JF I')
section
variable {I : Nat → Nat → Int32}
theorem PS.pl (h : PS I) : PL I := h.1
theorem PS.of {I' : Nat → Nat → Int32} (h : PS I) (e1 : I' 0 10 = I 0 10) (e2 : I' 0 11 = I 0 11) (e3 : I' 0 12 = I 0 12) (e4 : I' 0 13 = I 0 13) : PS I' := by
  unfold PS PL
  rw [e1, e2, e3, e4]
  exact h
theorem PQ.rf (h : PS I) : PQ I I := ⟨h, Int.le_refl _, id⟩
theorem JF.of {I' : Nat → Nat → Int32} (h : JF I) (e1 : I' 0 16 = I 0 16) (e2 : I' 0 17 = I 0 17) : JF I' := fun q => by
  rw [e1]
  rw [e2] at q
  exact h q
theorem PQ.of {I' I2 : Nat → Nat → Int32} (h : PQ I I') (e1 : I2 0 10 = I' 0 10) (e2 : I2 0 11 = I' 0 11) (e3 : I2 0 12 = I' 0 12) (e4 : I2 0 13 = I' 0 13) (e5 : I2 0 16 = I' 0 16) (e6 : I2 0 17 = I' 0 17) : PQ I I2 := ⟨h.1.of e1 e2 e3 e4, by rw [e4]; exact h.2.1, fun j => (h.2.2 j).of e5 e6⟩
theorem PQ.tr {I' I2 : Nat → Nat → Int32} (h : PQ I I') (h2 : PQ I' I2) : PQ I I2 := ⟨h2.1, Int.le_trans h.2.1 h2.2.1, fun j => h2.2.2 (h.2.2 j)⟩
theorem PQ.ah {cs fs : List Nat} {I' I2 : Nat → Nat → Int32} (h : PQ I I') (h2 : AH I' I2) (k : KK cs fs I' I2) (hk : 16 ∉ fs ∧ 17 ∉ fs) : PQ I I2 := ⟨h2.1, Int.le_trans h.2.1 h2.2.1, fun j => (h.2.2 j).of (k.2 16 hk.1) (k.2 17 hk.2)⟩
theorem PQ.fl {cs fs : List Nat} {I' I2 : Nat → Nat → Int32} (h : PQ I I') (k : KK cs fs I' I2) (hk : 10 ∉ fs ∧ 11 ∉ fs ∧ 12 ∉ fs ∧ 13 ∉ fs) (h17 : (I2 0 17).toInt ≠ 0) : PQ I I2 := ⟨h.1.of (k.2 10 hk.1) (k.2 11 hk.2.1) (k.2 12 hk.2.2.1) (k.2 13 hk.2.2.2), by rw [k.2 13 hk.2.2.2]; exact h.2.1, fun _ q => absurd q h17⟩
theorem PQ.ad {I' I2 : Nat → Nat → Int32} (h : PQ I I') (h2 : AD I' I2) : AD I I2 := by
  rcases h2 with q | q
  · exact Or.inl q
  · exact Or.inr (Int.lt_of_le_of_lt h.2.1 q)
theorem PQ.uf {I' : Nat → Nat → Int32} (h : PQ I I') {k : Nat} {v : Int32} (hk : k ≠ 10 ∧ k ≠ 11 ∧ k ≠ 12 ∧ k ≠ 13 ∧ k ≠ 16 ∧ k ≠ 17) : PQ I (uF I' 0 k v) :=
  h.of (uF_ne (fun q => hk.1 q.2.symm)) (uF_ne (fun q => hk.2.1 q.2.symm)) (uF_ne (fun q => hk.2.2.1 q.2.symm)) (uF_ne (fun q => hk.2.2.2.1 q.2.symm)) (uF_ne (fun q => hk.2.2.2.2.1 q.2.symm)) (uF_ne (fun q => hk.2.2.2.2.2 q.2.symm))
theorem PQ.ur {I' : Nat → Nat → Int32} (h : PQ I I') {c : Nat} {f : Nat → Int32} (hc : c ≠ 0) : PQ I (uR I' c f) := by
  have e0 : uR I' c f 0 = I' 0 := uR_ne (fun q => hc q.symm)
  exact h.of (by rw [e0]) (by rw [e0]) (by rw [e0]) (by rw [e0]) (by rw [e0]) (by rw [e0])
theorem PQ.kk {cs fs : List Nat} {I' I2 : Nat → Nat → Int32} (h : PQ I I') (k : KK cs fs I' I2) (hk : 10 ∉ fs ∧ 11 ∉ fs ∧ 12 ∉ fs ∧ 13 ∉ fs ∧ 16 ∉ fs ∧ 17 ∉ fs) : PQ I I2 := h.of (k.2 10 hk.1) (k.2 11 hk.2.1) (k.2 12 hk.2.2.1) (k.2 13 hk.2.2.2.1) (k.2 16 hk.2.2.2.2.1) (k.2 17 hk.2.2.2.2.2)
theorem NS.row {I' : Nat → Nat → Int32} (h : NS I) (e : I' 1 = I 1) : NS I' := by
  unfold NS
  rw [e]
  exact h
theorem NS.ru {f : Nat → Int32} {x v : Int32} {a n o : Int} (h : NS I) (e : f = upd (I 1) x.toNatClampNeg v) (hx : x.toInt = a) (ha : a = 13212 + 12 * n + o) (hn : (I 1 13200).toInt ≤ n ∧ 0 ≤ n ∧ n < 24) (ho : 0 ≤ o ∧ o < 12) (hv : (o = 0 → 0 ≤ v.toInt ∧ v.toInt ≤ 6) ∧ (o = 7 → 0 ≤ v.toInt ∧ v.toInt ≤ 3) ∧ (8 ≤ o ∧ o ≤ 10 → 0 ≤ v.toInt ∧ v.toInt ≤ 63)) : NS (uR I 1 f) := by
  have i := t_cl (i := x) hx (by omega)
  have ne : ∀ j, j ≠ x.toNatClampNeg → f j = I 1 j := fun j hj => by rw [e, pk_un hj]
  have eq : f x.toNatClampNeg = v := by rw [e, upd_at rfl]
  obtain ⟨⟨h0, h1, h2, h3, h4, h5⟩, h6⟩ := h
  unfold NS
  rw [uR_eq]
  refine ⟨⟨by rw [ne _ (by omega)]; exact h0, fun k k1 k2 => by rw [ne _ (by omega)]; exact h1 k k1 k2, by rw [ne _ (by omega)]; exact h2, by rw [ne _ (by omega)]; exact h3, fun r hr => ⟨?_, ?_, fun k hk => ?_⟩, fun r hr hs => ?_⟩, h6.congr (fun j hj => ne _ (by omega))⟩
  · by_cases q : 13200 + (12 * r + 12) = x.toNatClampNeg
    · rw [q, eq]; exact hv.1 (by omega)
    · rw [ne _ q]; exact (h4 r hr).1
  · by_cases q : 13200 + (12 * r + 19) = x.toNatClampNeg
    · rw [q, eq]; exact hv.2.1 (by omega)
    · rw [ne _ q]; exact (h4 r hr).2.1
  · by_cases q : 13200 + (12 * r + (20 + k)) = x.toNatClampNeg
    · rw [q, eq]; exact hv.2.2 (by omega)
    · rw [ne _ q]; exact (h4 r hr).2.2 k hk
  · rw [ne _ (by omega)] at hs
    rw [ne _ (by omega), ne _ (by omega)]
    exact h5 r hr hs
theorem NS.sg {f : Nat → Int32} {x v : Int32} {a : Int} (h : NS I) (e : f = upd (I 1) x.toNatClampNeg v) (hx : x.toInt = a) (ha : 13201 ≤ a ∧ a ≤ 13205) (hv : (a < 13204 → 0 ≤ v.toInt ∧ v.toInt ≤ 63) ∧ (a = 13204 → 4 ≤ v.toInt ∧ v.toInt ≤ 40) ∧ (a = 13205 → 2 ≤ v.toInt ∧ v.toInt ≤ 30)) : NS (uR I 1 f) := by
  have i := t_cl (i := x) hx (by omega)
  have ne : ∀ j, j ≠ x.toNatClampNeg → f j = I 1 j := fun j hj => by rw [e, pk_un hj]
  have eq : f x.toNatClampNeg = v := by rw [e, upd_at rfl]
  obtain ⟨⟨h0, h1, h2, h3, h4, h5⟩, h6⟩ := h
  unfold NS
  rw [uR_eq]
  refine ⟨⟨by rw [ne _ (by omega)]; exact h0, fun k k1 k2 => ?_, ?_, ?_, fun r hr => ⟨?_, ?_, fun k hk => ?_⟩, fun r hr hs => ?_⟩, h6.congr (fun j hj => ne _ (by omega))⟩
  · by_cases q : 13200 + k = x.toNatClampNeg
    · rw [q, eq]; exact hv.1 (by omega)
    · rw [ne _ q]; exact h1 k k1 k2
  · by_cases q : 13200 + 4 = x.toNatClampNeg
    · rw [q, eq]; exact hv.2.1 (by omega)
    · rw [ne _ q]; exact h2
  · by_cases q : 13200 + 5 = x.toNatClampNeg
    · rw [q, eq]; exact hv.2.2 (by omega)
    · rw [ne _ q]; exact h3
  · rw [ne _ (by omega)]; exact (h4 r hr).1
  · rw [ne _ (by omega)]; exact (h4 r hr).2.1
  · rw [ne _ (by omega)]; exact (h4 r hr).2.2 k hk
  · rw [ne _ (by omega)] at hs
    rw [ne _ (by omega), ne _ (by omega)]
    exact h5 r hr hs
theorem NS.mn {f : Nat → Int32} {v : Int32} {n : Nat} (h : NS I) (e : f = upd (I 1) (13200 : Int32).toNatClampNeg v) (hn : (I 1 13200).toInt = (n : Int) ∧ n < 24) (hv : v.toInt = (n : Int) + 1) (hl : 1 ≤ (I 1 (13212 + 12 * n)).toInt) (hc : 1 ≤ (I 1 (13219 + 12 * n)).toInt) : NS (uR I 1 f) := by
  have i : (13200 : Int32).toNatClampNeg = 13200 := rfl
  rw [i] at e
  have ne : ∀ j, j ≠ 13200 → f j = I 1 j := fun j hj => by rw [e, pk_un hj]
  have eq : f 13200 = v := by rw [e, upd_at rfl]
  obtain ⟨⟨h0, h1, h2, h3, h4, h5⟩, h6⟩ := h
  unfold NS
  rw [uR_eq]
  refine ⟨⟨by rw [eq]; omega, fun k k1 k2 => by rw [ne _ (by omega)]; exact h1 k k1 k2, by rw [ne _ (by omega)]; exact h2, by rw [ne _ (by omega)]; exact h3, fun r hr => ⟨?_, ?_, fun k hk => ?_⟩, fun r hr hs => ?_⟩, h6.congr (fun j hj => ne _ (by omega))⟩
  · rw [ne _ (by omega)]; exact (h4 r hr).1
  · rw [ne _ (by omega)]; exact (h4 r hr).2.1
  · rw [ne _ (by omega)]; exact (h4 r hr).2.2 k hk
  · rw [eq] at hs
    rw [ne _ (by omega), ne _ (by omega)]
    by_cases q : r = n
    · subst q
      rw [show 13200 + (12 * r + 12) = 13212 + 12 * r by omega, show 13200 + (12 * r + 19) = 13219 + 12 * r by omega]
      exact ⟨hl, hc⟩
    · exact h5 r hr (by omega)
theorem NS.many (h : NS I) {z : Int32} (e : z = I 1 13200) : 0 ≤ z.toInt ∧ z.toInt ≤ 24 := by rw [e]; exact h.1.1
theorem MI.mu (h : MI I) {f : Nat → Int32} {v : Int32} (e : f = upd (I 1) (13200 : Int32).toNatClampNeg v) : MI (uR I 1 f) := h.ua e (by decide : (13200 : Int32).toInt = 13200) (by omega) (by omega)
theorem MI.em {I' : Nat → Nat → Int32} {fs : List Nat} (h : MI I) (k : KK [1] fs I I') (hf : 9 ∉ fs ∧ 36 ∉ fs ∧ 42 ∉ fs ∧ 45 ∉ fs) (e : ∀ j, j < 13200 ∨ 16500 ≤ j → I' 1 j = I 1 j) : MI I' := by
  have q : MI (uR I 1 (I' 1)) := h.uw (fun j hj => e j (Or.inl hj)) (by rw [e 16507 (by omega)]; exact h.2.2.2.2.2.1) (fun k hk => by rw [e _ (by omega)]; exact h.2.2.2.2.2.2.1 k hk)
  exact q.of (by rw [uR_eq]) ((k.1 3 (by decide) (by decide)).trans (uR_ne (by decide)).symm) ((k.1 8 (by decide) (by decide)).trans (uR_ne (by decide)).symm) ((k.1 9 (by decide) (by decide)).trans (uR_ne (by decide)).symm) ((k.2 9 hf.1).trans (by rw [uR_ne (by decide)])) ((k.2 36 hf.2.1).trans (by rw [uR_ne (by decide)])) ((k.2 42 hf.2.2.1).trans (by rw [uR_ne (by decide)])) ((k.2 45 hf.2.2.2).trans (by rw [uR_ne (by decide)]))
theorem MI.cp {I' : Nat → Nat → Int32} {fs : List Nat} (h : MN I) (k : KK [1] fs I I') (hf : 9 ∉ fs ∧ 36 ∉ fs ∧ 42 ∉ fs ∧ 45 ∉ fs) (e : ∀ j, j < 3300 → I' 1 j = I 1 (13200 + j)) (e2 : ∀ j, 3300 ≤ j → I' 1 j = I 1 j) : MI I' := by
  obtain ⟨⟨h0, h1, h2, h3, h4, h5, h9, h6⟩, h7, h8⟩ := h
  unfold MI
  rw [k.1 3 (by decide) (by decide), k.1 8 (by decide) (by decide), k.1 9 (by decide) (by decide), k.2 9 hf.1, k.2 36 hf.2.1, k.2 42 hf.2.2.1, k.2 45 hf.2.2.2, e2 16507 (by omega)]
  refine ⟨h0, h1, h2, h3, h4, h5, fun k hk => by rw [e2 _ (by omega)]; exact h9 k hk, fun j hj => ?_⟩
  by_cases q : j = 0
  · subst q
    exact ⟨h7.congr (fun i hi => by rw [Nat.mul_zero, Nat.zero_add]; exact e i (by omega)), h8.congr (fun i hi => by rw [Nat.mul_zero, Nat.zero_add]; exact e i (by omega))⟩
  · obtain ⟨a, b⟩ := h6 j hj
    exact ⟨a.congr (fun i hi => e2 _ (by omega)), b.congr (fun i hi => e2 _ (by omega))⟩
def RA (I : Nat → Nat → Int32) (n a b : Int) : Prop := NS I ∧ (I 1 13200).toInt = n ∧ (0 ≤ n ∧ n < 24) ∧ a ≤ (I 1 (13212 + 12 * n.toNat)).toInt ∧ b ≤ (I 1 (13219 + 12 * n.toNat)).toInt
theorem RA.mk {n : Int} (h : NS I) (e : (I 1 13200).toInt = n) (hn : n < 24) : RA I n 0 0 := by
  have q := h.1.1
  have q2 := h.1.2.2.2.2.1 n.toNat (by omega)
  refine ⟨h, e, by omega, ?_, ?_⟩
  · have := q2.1.1
    rwa [show 13200 + (12 * n.toNat + 12) = 13212 + 12 * n.toNat by omega] at this
  · have := q2.2.1.1
    rwa [show 13200 + (12 * n.toNat + 19) = 13219 + 12 * n.toNat by omega] at this
theorem RA.cb {n a b : Int} (h : RA I n a b) : 0 ≤ (I 1 (13219 + 12 * n.toNat)).toInt ∧ (I 1 (13219 + 12 * n.toNat)).toInt ≤ 3 := by
  have q2 := (h.1.1.2.2.2.2.1 n.toNat (by have := h.2.2.1; omega)).2.1
  rwa [show 13200 + (12 * n.toNat + 19) = 13219 + 12 * n.toNat by omega] at q2
theorem RA.row {I' : Nat → Nat → Int32} {n a b : Int} (h : RA I n a b) (e : I' 1 = I 1) : RA I' n a b := by
  unfold RA
  rw [e]
  exact ⟨h.1.row e, h.2⟩
theorem RA.kk {cs fs : List Nat} {I' : Nat → Nat → Int32} {n a b : Int} (h : RA I n a b) (k : KK cs fs I I') (h1 : 1 ∉ cs) : RA I' n a b := h.row (k.1 1 (by decide) h1)
theorem RA.up {n a b b' : Int} (h : RA I n a b) (q : b' ≤ (I 1 (13219 + 12 * n.toNat)).toInt) : RA I n a b' := ⟨h.1, h.2.1, h.2.2.1, h.2.2.2.1, q⟩
theorem RA.put {f : Nat → Int32} {x v : Int32} {a o n a0 b0 : Int} (a1 b1 : Int) (h : RA I n a0 b0) (e : f = upd (I 1) x.toNatClampNeg v) (hx : x.toInt = a) (ha : a = 13212 + 12 * n + o) (ho : 0 ≤ o ∧ o < 12) (hv : (o = 0 → 0 ≤ v.toInt ∧ v.toInt ≤ 6) ∧ (o = 7 → 0 ≤ v.toInt ∧ v.toInt ≤ 3) ∧ (8 ≤ o ∧ o ≤ 10 → 0 ≤ v.toInt ∧ v.toInt ≤ 63)) (h1 : (o = 0 → a1 ≤ v.toInt) ∧ (o ≠ 0 → a1 ≤ a0)) (h2 : (o = 7 → b1 ≤ v.toInt) ∧ (o ≠ 7 → b1 ≤ b0)) : RA (uR I 1 f) n a1 b1 := by
  obtain ⟨g0, g1, g2, g3, g4⟩ := h
  have i := t_cl (i := x) hx (by omega)
  have ne : ∀ j, j ≠ x.toNatClampNeg → f j = I 1 j := fun j hj => by rw [e, pk_un hj]
  have eq : f x.toNatClampNeg = v := by rw [e, upd_at rfl]
  refine ⟨g0.ru e hx ha (by omega) ho hv, ?_, g2, ?_, ?_⟩
  · rw [uR_eq, ne _ (by omega)]; exact g1
  · rw [uR_eq]
    by_cases q : 13212 + 12 * n.toNat = x.toNatClampNeg
    · rw [q, eq]; exact h1.1 (by omega)
    · rw [ne _ q]; exact Int.le_trans (h1.2 (by omega)) g3
  · rw [uR_eq]
    by_cases q : 13219 + 12 * n.toNat = x.toNatClampNeg
    · rw [q, eq]; exact h2.1 (by omega)
    · rw [ne _ q]; exact Int.le_trans (h2.2 (by omega)) g4
theorem RA.fin {f : Nat → Int32} {v : Int32} {n : Int} (h : RA I n 1 1) (e : f = upd (I 1) (13200 : Int32).toNatClampNeg v) (hv : v.toInt = n + 1) : NS (uR I 1 f) := by
  obtain ⟨g0, g1, g2, g3, g4⟩ := h
  exact g0.mn (n := n.toNat) e (by omega) (by omega) g3 g4
theorem RA.ix {F : Nat → Int32} {x z : Int32} {n : Int} (e : z = F x.toNatClampNeg) (hx : x.toInt = 13219 + 12 * n) (h0 : 0 ≤ n) : z.toInt = (F (13219 + 12 * n.toNat)).toInt := by
  have i := t_cl (i := x) hx (by omega)
  rw [e, show x.toNatClampNeg = 13219 + 12 * n.toNat by omega]
theorem RA.nx {F f : Nat → Int32} {x y z v : Int32} (e : z = f x.toNatClampNeg) (ef : f = upd F y.toNatClampNeg v) (hx : 0 ≤ x.toInt) (hy : 0 ≤ y.toInt) (hne : x.toInt ≠ y.toInt) : z = F x.toNatClampNeg := by
  have i := t_cl (i := x) rfl hx
  have i2 := t_cl (i := y) rfl hy
  rw [e, ef, pk_un (by omega)]
theorem RA.eq {F f : Nat → Int32} {x v : Int32} {n : Int} (ef : f = upd F x.toNatClampNeg v) (hx : x.toInt = 13219 + 12 * n) (h0 : 0 ≤ n) : f (13219 + 12 * n.toNat) = v := by
  have i := t_cl (i := x) hx (by omega)
  rw [ef, upd_at (by omega)]
theorem em_ok {G F0 f1 f2 f3 : Nat → Int32} {s : Nat} {x1 x2 x3 : Int32} (h : ∀ j : Nat, F0 j = if (s : Int) ≤ (j : Int) ∧ (j : Int) < s + 3300 then 0 else G j) (e1 : f1 = upd F0 x1.toNatClampNeg 32) (e2 : f2 = upd f1 x2.toNatClampNeg 25) (e3 : f3 = upd f2 x3.toNatClampNeg (-1)) (h1 : x1.toInt = s + 4) (h2 : x2.toInt = s + 5) (h3 : x3.toInt = s + 7) : TS f3 s ∧ SS f3 s ∧ ∀ j : Nat, j < s ∨ s + 3300 ≤ j → f3 j = G j := by
  have i1 := t_cl (i := x1) h1 (by omega)
  have i2 := t_cl (i := x2) h2 (by omega)
  have i3 := t_cl (i := x3) h3 (by omega)
  have z0 : 0 ≤ (0 : Int32).toInt ∧ (0 : Int32).toInt ≤ 0 := by decide
  have z1 : (32 : Int32).toInt = 32 := by decide
  have z2 : (25 : Int32).toInt = 25 := by decide
  have z3 : (-1 : Int32).toInt = -1 := by decide
  have v4 : f3 (s + 4) = 32 := by rw [e3, pk_un (by omega), e2, pk_un (by omega), e1, upd_at (by omega)]
  have v5 : f3 (s + 5) = 25 := by rw [e3, pk_un (by omega), e2, upd_at (by omega)]
  have v7 : f3 (s + 7) = -1 := by rw [e3, upd_at (by omega)]
  have v : ∀ j, j < 3300 → j ≠ 4 → j ≠ 5 → j ≠ 7 → f3 (s + j) = 0 := fun j a b c d => by rw [e3, pk_un (by omega), e2, pk_un (by omega), e1, pk_un (by omega), h, if_pos (by omega)]
  have vs : f3 s = 0 := v 0 (by omega) (by omega) (by omega) (by omega)
  refine ⟨⟨by rw [vs]; omega, fun k k1 k2 => by rw [v k (by omega) (by omega) (by omega) (by omega)]; omega, by rw [v4]; omega, by rw [v5]; omega, fun r hr => ⟨by rw [v _ (by omega) (by omega) (by omega) (by omega)]; omega, by rw [v _ (by omega) (by omega) (by omega) (by omega)]; omega, fun k hk => by rw [v _ (by omega) (by omega) (by omega) (by omega)]; omega⟩, fun r hr hs => by rw [vs] at hs; omega⟩, ⟨by rw [v7]; omega, by rw [v 8 (by omega) (by omega) (by omega) (by omega)]; omega, by rw [v 9 (by omega) (by omega) (by omega) (by omega)]; omega, fun k hk => by rw [v _ (by omega) (by omega) (by omega) (by omega)]; omega, fun k hk hs => by rw [v 9 (by omega) (by omega) (by omega) (by omega)] at hs; omega⟩, fun j hj => ?_⟩
  rw [e3, pk_un (by omega), e2, pk_un (by omega), e1, pk_un (by omega), h, if_neg (by omega)]
theorem and255 (x : Int32) : 0 ≤ (x &&& 255).toInt ∧ (x &&& 255).toInt ≤ 255 := by
  obtain ⟨j, hj, e⟩ := pk_andE x (m := 255) 8 (by decide)
  rw [e, nI_toInt (by omega)]
  omega
end

theorem em_st {I I0 : Nat → Nat → Int32} {t v v2 : Int} {f : Nat → Int32} {i : Nat} (h : ∀ j : Nat, I 1 j = if t ≤ (j : Int) ∧ (j : Int) < t + v then 0 else I0 1 j) (hf : f = upd (I 1) i 0) (hi : (i : Int) = t + v) (hv2 : v2 = v + 1) (hv : 0 ≤ v) (j : Nat) : uR I 1 f 1 j = if t ≤ (j : Int) ∧ (j : Int) < t + v2 then 0 else I0 1 j := by
  rw [uR_eq, hf]
  unfold upd
  by_cases hj : j = i
  · rw [if_pos hj, if_pos (by omega)]
  · rw [if_neg hj, h j]
    by_cases q : t ≤ (j : Int) ∧ (j : Int) < t + v
    · rw [if_pos q, if_pos (by omega)]
    · rw [if_neg q, if_neg (by omega)]
theorem em_cp {I I0 : Nat → Nat → Int32} {v v2 : Int} {f : Nat → Int32} {x y w : Int32} (h : ∀ j : Nat, I 1 j = if (j : Int) < v then I0 1 (13200 + j) else I0 1 j) (hf : f = upd (I 1) x.toNatClampNeg w) (hw : w = I 1 y.toNatClampNeg) (hx : x.toInt = v) (hy : y.toInt = 13200 + v) (hv2 : v2 = v + 1) (hv : 0 ≤ v ∧ v < 3300) (j : Nat) : uR I 1 f 1 j = if (j : Int) < v2 then I0 1 (13200 + j) else I0 1 j := by
  have ix := t_cl (i := x) hx (by omega)
  have iy := t_cl (i := y) hy (by omega)
  rw [uR_eq, hf]
  unfold upd
  by_cases hj : j = x.toNatClampNeg
  · rw [if_pos hj, if_pos (by omega), hw, h, if_neg (by omega), show y.toNatClampNeg = 13200 + j by omega]
  · rw [if_neg hj, h j]
    by_cases q : (j : Int) < v
    · rw [if_pos q, if_pos (by omega)]
    · rw [if_neg q, if_neg (by omega)]
