/-! THE MODEL: what holds of its cells at any time -/
def RS (F : Nat → Int32) (b r : Nat) : Prop := (0 ≤ (F (b + (12 * r + 12))).toInt ∧ (F (b + (12 * r + 12))).toInt ≤ 6) ∧ (0 ≤ (F (b + (12 * r + 19))).toInt ∧ (F (b + (12 * r + 19))).toInt ≤ 3) ∧ ∀ k : Nat, k < 3 → 0 ≤ (F (b + (12 * r + (20 + k)))).toInt ∧ (F (b + (12 * r + (20 + k)))).toInt ≤ 63
def TS (F : Nat → Int32) (b : Nat) : Prop := (0 ≤ (F b).toInt ∧ (F b).toInt ≤ 24) ∧ (∀ k : Nat, 1 ≤ k → k < 4 → 0 ≤ (F (b + k)).toInt ∧ (F (b + k)).toInt ≤ 63) ∧ (4 ≤ (F (b + 4)).toInt ∧ (F (b + 4)).toInt ≤ 40) ∧ (2 ≤ (F (b + 5)).toInt ∧ (F (b + 5)).toInt ≤ 30) ∧ (∀ r : Nat, r < 24 → RS F b r) ∧ ∀ r : Nat, r < 24 → (r : Int) < (F b).toInt → 1 ≤ (F (b + (12 * r + 12))).toInt ∧ 1 ≤ (F (b + (12 * r + 19))).toInt
def SS (F : Nat → Int32) (b : Nat) : Prop := (-1 ≤ (F (b + 7)).toInt ∧ (F (b + 7)).toInt ≤ 300) ∧ (0 ≤ (F (b + 8)).toInt ∧ (F (b + 8)).toInt ≤ 1200) ∧ (0 ≤ (F (b + 9)).toInt ∧ (F (b + 9)).toInt ≤ 150) ∧ (∀ k : Nat, k < 1250 → 0 ≤ (F (b + (600 + k))).toInt ∧ (F (b + (600 + k))).toInt ≤ 63) ∧ ∀ k : Nat, k < 150 → (k : Int) < (F (b + 9)).toInt → (0 ≤ (F (b + (1850 + k))).toInt ∧ (F (b + (1850 + k))).toInt ≤ (F (b + 8)).toInt) ∧ ((k : Int) + 1 < (F (b + 9)).toInt → (F (b + (1850 + k))).toInt + 1 ≤ (F (b + (1850 + (k + 1)))).toInt)
def MI (I : Nat → Nat → Int32) : Prop := (∀ j : Nat, (-1 ≤ (I 3 j).toInt ∧ (I 3 j).toInt ≤ 60) ∧ 0 ≤ (I 8 j).toInt ∧ 0 ≤ (I 9 j).toInt ∧ (I 8 j).toInt + (I 9 j).toInt ≤ 2600) ∧ (0 ≤ (I 0 9).toInt ∧ (I 0 9).toInt ≤ 900) ∧ (0 ≤ (I 0 45).toInt ∧ (I 0 45).toInt ≤ 3) ∧ (-1 ≤ (I 0 36).toInt ∧ (I 0 36).toInt ≤ 20) ∧ (-1 ≤ (I 0 42).toInt ∧ (I 0 42).toInt ≤ 1200) ∧ (0 ≤ (I 1 16507).toInt ∧ (I 1 16507).toInt ≤ 300) ∧ (∀ k : Nat, k < 1250 → 0 ≤ (I 1 (17100 + k)).toInt ∧ (I 1 (17100 + k)).toInt ≤ 63) ∧ ∀ j : Nat, (j : Int) ≤ (I 0 45).toInt → TS (I 1) (3300 * j) ∧ SS (I 1) (3300 * j)
theorem TS.congr {F G : Nat → Int32} {b c : Nat} (h : TS F b) (e : ∀ j, j < 300 → G (c + j) = F (b + j)) : TS G c := by
  obtain ⟨h0, h1, h2, h3, h4, h5⟩ := h
  have e0 : G c = F b := e 0 (by decide)
  refine ⟨by rw [e0]; exact h0, fun k k1 k2 => by rw [e k (by omega)]; exact h1 k k1 k2, by rw [e 4 (by decide)]; exact h2, by rw [e 5 (by decide)]; exact h3, fun r hr => ?_, fun r hr hs => ?_⟩
  · unfold RS
    rw [e _ (by omega), e _ (by omega)]
    exact ⟨(h4 r hr).1, (h4 r hr).2.1, fun k hk => by rw [e _ (by omega)]; exact (h4 r hr).2.2 k hk⟩
  · rw [e _ (by omega), e _ (by omega)]
    exact h5 r hr (by rw [e0] at hs; exact hs)
theorem SS.congr {F G : Nat → Int32} {b c : Nat} (h : SS F b) (e : ∀ j, (7 ≤ j ∧ j < 12) ∨ (300 ≤ j ∧ j < 3300) → G (c + j) = F (b + j)) : SS G c := by
  obtain ⟨h0, h1, h2, h3, h4⟩ := h
  have e7 := e 7 (by omega)
  have e8 := e 8 (by omega)
  have e9 := e 9 (by omega)
  unfold SS
  rw [e7, e8, e9]
  refine ⟨h0, h1, h2, fun k hk => by rw [e _ (by omega)]; exact h3 k hk, fun k hk hs => ?_⟩
  rw [e _ (by omega), e (1850 + (k + 1)) (by omega)]
  exact h4 k hk hs
theorem TS.lc {F : Nat → Int32} {b : Nat} (h : TS F b) {x z : Int32} {r : Int} (e : z = F x.toNatClampNeg) (hr : 0 ≤ r ∧ r < 24) (hx : x.toInt = b + (12 * r + 12)) : 0 ≤ z.toInt ∧ z.toInt ≤ 6 := by
  have i := t_cl (i := x) hx (by omega)
  rw [e, show x.toNatClampNeg = b + (12 * r.toNat + 12) by omega]
  exact (h.2.2.2.2.1 r.toNat (by omega)).1
theorem TS.cc {F : Nat → Int32} {b : Nat} (h : TS F b) {x z : Int32} {r : Int} (e : z = F x.toNatClampNeg) (hr : 0 ≤ r ∧ r < 24) (hx : x.toInt = b + (12 * r + 19)) : 0 ≤ z.toInt ∧ z.toInt ≤ 3 := by
  have i := t_cl (i := x) hx (by omega)
  rw [e, show x.toNatClampNeg = b + (12 * r.toNat + 19) by omega]
  exact (h.2.2.2.2.1 r.toNat (by omega)).2.1
theorem TS.cl {F : Nat → Int32} {b : Nat} (h : TS F b) {x z : Int32} {r k : Int} (e : z = F x.toNatClampNeg) (hr : 0 ≤ r ∧ r < 24) (hk : 0 ≤ k ∧ k < 3) (hx : x.toInt = b + (12 * r + 20 + k)) : 0 ≤ z.toInt ∧ z.toInt ≤ 63 := by
  have i := t_cl (i := x) hx (by omega)
  rw [e, show x.toNatClampNeg = b + (12 * r.toNat + (20 + k.toNat)) by omega]
  exact (h.2.2.2.2.1 r.toNat (by omega)).2.2 k.toNat (by omega)
theorem TS.lm {F : Nat → Int32} {b : Nat} (h : TS F b) {x z y : Int32} {r : Int} (e : z = F x.toNatClampNeg) (ey : y = F b) (hr : 0 ≤ r ∧ r < 24) (hx : x.toInt = b + (12 * r + 12)) (hs : r < y.toInt) : 1 ≤ z.toInt := by
  have i := t_cl (i := x) hx (by omega)
  rw [e, show x.toNatClampNeg = b + (12 * r.toNat + 12) by omega]
  exact (h.2.2.2.2.2 r.toNat (by omega) (by rw [← ey]; omega)).1
theorem TS.cm {F : Nat → Int32} {b : Nat} (h : TS F b) {x z y : Int32} {r : Int} (e : z = F x.toNatClampNeg) (ey : y = F b) (hr : 0 ≤ r ∧ r < 24) (hx : x.toInt = b + (12 * r + 19)) (hs : r < y.toInt) : 1 ≤ z.toInt := by
  have i := t_cl (i := x) hx (by omega)
  rw [e, show x.toNatClampNeg = b + (12 * r.toNat + 19) by omega]
  exact (h.2.2.2.2.2 r.toNat (by omega) (by rw [← ey]; omega)).2
section
variable {I : Nat → Nat → Int32}
theorem MI.t0 (h : MI I) : TS (I 1) 0 := (h.2.2.2.2.2.2.2 0 (by have := h.2.2.1; omega)).1
theorem MI.s0 (h : MI I) : SS (I 1) 0 := (h.2.2.2.2.2.2.2 0 (by have := h.2.2.1; omega)).2
theorem MI.many (h : MI I) {z : Int32} (e : z = I 1 0) : 0 ≤ z.toInt ∧ z.toInt ≤ 24 := by rw [e]; exact h.t0.1
theorem MI.sign (h : MI I) {z : Int32} (k : Nat) (hk : 1 ≤ k ∧ k < 4) (e : z = I 1 k) : 0 ≤ z.toInt ∧ z.toInt ≤ 63 := by
  have q := h.t0.2.1 k hk.1 hk.2
  rw [Nat.zero_add] at q
  rw [e]; exact q
theorem MI.line (h : MI I) {z : Int32} (e : z = I 1 4) : 4 ≤ z.toInt ∧ z.toInt ≤ 40 := by rw [e]; exact h.t0.2.2.1
theorem MI.page (h : MI I) {z : Int32} (e : z = I 1 5) : 2 ≤ z.toInt ∧ z.toInt ≤ 30 := by rw [e]; exact h.t0.2.2.2.1
theorem MI.bytes (h : MI I) {z : Int32} (e : z = I 1 7) : -1 ≤ z.toInt ∧ z.toInt ≤ 300 := by rw [e]; exact h.s0.1
theorem MI.set (h : MI I) {z : Int32} (e : z = I 1 8) : 0 ≤ z.toInt ∧ z.toInt ≤ 1200 := by rw [e]; exact h.s0.2.1
theorem MI.pcs (h : MI I) {z : Int32} (e : z = I 1 9) : 0 ≤ z.toInt ∧ z.toInt ≤ 150 := by rw [e]; exact h.s0.2.2.1
theorem MI.wb (h : MI I) {z : Int32} (e : z = I 1 16507) : 0 ≤ z.toInt ∧ z.toInt ≤ 300 := by rw [e]; exact h.2.2.2.2.2.1
theorem MI.cell (h : MI I) {x z : Int32} {k : Int} (e : z = I 1 x.toNatClampNeg) (hk : 0 ≤ k ∧ k < 1250) (hx : x.toInt = 600 + k) : 0 ≤ z.toInt ∧ z.toInt ≤ 63 := by
  have i := t_cl (i := x) hx (by omega)
  have q := h.s0.2.2.2.1 k.toNat (by omega)
  rw [Nat.zero_add] at q
  rw [e, show x.toNatClampNeg = 600 + k.toNat by omega]
  exact q
theorem MI.pc (h : MI I) {x z p s : Int32} {k : Int} (e : z = I 1 x.toNatClampNeg) (ep : p = I 1 9) (es : s = I 1 8) (hk : 0 ≤ k ∧ k < p.toInt) (hx : x.toInt = 1850 + k) : 0 ≤ z.toInt ∧ z.toInt ≤ s.toInt := by
  have i := t_cl (i := x) hx (by omega)
  have hp := h.pcs ep
  have q := (h.s0.2.2.2.2 k.toNat (by omega) (by rw [Nat.zero_add, ← ep]; omega)).1
  rw [Nat.zero_add, Nat.zero_add, ← es] at q
  rw [e, show x.toNatClampNeg = 1850 + k.toNat by omega]
  exact q
theorem MI.pc1 (h : MI I) {x x2 z z2 p : Int32} {k : Int} (e : z = I 1 x.toNatClampNeg) (e2 : z2 = I 1 x2.toNatClampNeg) (ep : p = I 1 9) (hk : 0 ≤ k ∧ k + 1 < p.toInt) (hx : x.toInt = 1850 + k) (hx2 : x2.toInt = 1850 + k + 1) : z.toInt + 1 ≤ z2.toInt := by
  have i := t_cl (i := x) hx (by omega)
  have i2 := t_cl (i := x2) hx2 (by omega)
  have hp := h.pcs ep
  have q := (h.s0.2.2.2.2 k.toNat (by omega) (by rw [Nat.zero_add, ← ep]; omega)).2 (by rw [Nat.zero_add, ← ep]; omega)
  rw [Nat.zero_add, Nat.zero_add] at q
  rw [e, e2, show x.toNatClampNeg = 1850 + k.toNat by omega, show x2.toNatClampNeg = 1850 + (k.toNat + 1) by omega]
  exact q
theorem MI.tm (h : MI I) (j : Nat) : -1 ≤ (I 3 j).toInt ∧ (I 3 j).toInt ≤ 60 := (h.1 j).1
theorem MI.lg (h : MI I) (j : Nat) : 0 ≤ (I 8 j).toInt ∧ 0 ≤ (I 9 j).toInt ∧ (I 8 j).toInt + (I 9 j).toInt ≤ 2600 := (h.1 j).2
theorem MI.tp (h : MI I) : 0 ≤ (I 0 9).toInt ∧ (I 0 9).toInt ≤ 900 := h.2.1
theorem MI.mk (h : MI I) : 0 ≤ (I 0 45).toInt ∧ (I 0 45).toInt ≤ 3 := h.2.2.1
theorem MI.fm (h : MI I) : -1 ≤ (I 0 36).toInt ∧ (I 0 36).toInt ≤ 20 := h.2.2.2.1
theorem MI.wm (h : MI I) : -1 ≤ (I 0 42).toInt ∧ (I 0 42).toInt ≤ 1200 := h.2.2.2.2.1
theorem uF_ne {c k c' k' : Nat} {v : Int32} (h : ¬ (c' = c ∧ k' = k)) : uF I c k v c' k' = I c' k' := by
  unfold uF
  split
  · rename_i q
    subst q
    exact pk_un (fun q => h ⟨rfl, q⟩)
  · rfl
theorem uF_nc {c k c' : Nat} {v : Int32} (h : c' ≠ c) : uF I c k v c' = I c' := by
  unfold uF
  rw [if_neg h]
theorem uR_ne {c c' : Nat} {f : Nat → Int32} (h : c' ≠ c) : uR I c f c' = I c' := by
  unfold uR
  rw [if_neg h]
theorem uR_eq {c : Nat} {f : Nat → Int32} : uR I c f c = f := by
  unfold uR
  rw [if_pos rfl]
theorem MI.of {I' : Nat → Nat → Int32} (h : MI I) (e1 : I' 1 = I 1) (e3 : I' 3 = I 3) (e8 : I' 8 = I 8) (e08 : I' 9 = I 9) (e9 : I' 0 9 = I 0 9) (e36 : I' 0 36 = I 0 36) (e42 : I' 0 42 = I 0 42) (e45 : I' 0 45 = I 0 45) : MI I' := by
  unfold MI
  rw [e1, e3, e8, e08, e9, e36, e42, e45]
  exact h
theorem MI.uf (h : MI I) {k : Nat} {v : Int32} (hk : k ≠ 9 ∧ k ≠ 36 ∧ k ≠ 42 ∧ k ≠ 45) : MI (uF I 0 k v) :=
  h.of (uF_nc (by decide)) (uF_nc (by decide)) (uF_nc (by decide)) (uF_nc (by decide)) (uF_ne (fun q => hk.1 q.2.symm)) (uF_ne (fun q => hk.2.1 q.2.symm)) (uF_ne (fun q => hk.2.2.1 q.2.symm)) (uF_ne (fun q => hk.2.2.2 q.2.symm))
theorem MI.ur (h : MI I) {c : Nat} {f : Nat → Int32} (hc : c ≠ 0 ∧ c ≠ 1 ∧ c ≠ 3 ∧ c ≠ 8 ∧ c ≠ 9) : MI (uR I c f) := by
  have e0 : uR I c f 0 = I 0 := uR_ne (fun q => hc.1 q.symm)
  exact h.of (uR_ne (fun q => hc.2.1 q.symm)) (uR_ne (fun q => hc.2.2.1 q.symm)) (uR_ne (fun q => hc.2.2.2.1 q.symm)) (uR_ne (fun q => hc.2.2.2.2 q.symm)) (by rw [e0]) (by rw [e0]) (by rw [e0]) (by rw [e0])
theorem MI.uw (h : MI I) {f : Nat → Int32} (e : ∀ j, j < 13200 → f j = I 1 j) (hw : 0 ≤ (f 16507).toInt ∧ (f 16507).toInt ≤ 300) (hc : ∀ k : Nat, k < 1250 → 0 ≤ (f (17100 + k)).toInt ∧ (f (17100 + k)).toInt ≤ 63) : MI (uR I 1 f) := by
  have e1 : uR I 1 f 1 = f := uR_eq
  have e0 : uR I 1 f 0 = I 0 := uR_ne (by decide)
  have e3 : uR I 1 f 3 = I 3 := uR_ne (by decide)
  have e8 : uR I 1 f 8 = I 8 := uR_ne (by decide)
  have e9 : uR I 1 f 9 = I 9 := uR_ne (by decide)
  unfold MI
  rw [e0, e1, e3, e8, e9]
  obtain ⟨h0, h1, h2, h3, h4, h5, h7, h6⟩ := h
  refine ⟨h0, h1, h2, h3, h4, hw, hc, fun j hj => ?_⟩
  obtain ⟨a, b⟩ := h6 j hj
  exact ⟨a.congr (fun i hi => e _ (by omega)), b.congr (fun i hi => e _ (by omega))⟩
theorem MI.ua (h : MI I) {f : Nat → Int32} {x v : Int32} {a : Int} (e : f = upd (I 1) x.toNatClampNeg v) (hx : x.toInt = a) (h1 : 13200 ≤ a) (h2 : a ≠ 16507 ∧ (a < 17100 ∨ 18350 ≤ a)) : MI (uR I 1 f) := by
  have i := t_cl (i := x) hx (by omega)
  refine h.uw (fun j hj => ?_) ?_ (fun k hk => by rw [e, pk_un (by omega)]; exact h.2.2.2.2.2.2.1 k hk)
  · rw [e, pk_un (by omega)]
  · rw [e, pk_un (by omega)]
    exact h.2.2.2.2.2.1
theorem MI.uc (h : MI I) {f : Nat → Int32} {x v : Int32} {a : Int} (e : f = upd (I 1) x.toNatClampNeg v) (hx : x.toInt = a) (h1 : 17100 ≤ a ∧ a < 18350) (hv : 0 ≤ v.toInt ∧ v.toInt ≤ 63) : MI (uR I 1 f) := by
  have i := t_cl (i := x) hx (by omega)
  refine h.uw (fun j hj => by rw [e, pk_un (by omega)]) (by rw [e, pk_un (by omega)]; exact h.2.2.2.2.2.1) (fun k hk => ?_)
  rw [e]
  by_cases q : 17100 + k = x.toNatClampNeg
  · rw [upd_at q]; exact hv
  · rw [pk_un q]; exact h.2.2.2.2.2.2.1 k hk
theorem MI.wc (h : MI I) {x z : Int32} {k : Int} (e : z = I 1 x.toNatClampNeg) (hk : 0 ≤ k ∧ k < 1250) (hx : x.toInt = 17100 + k) : 0 ≤ z.toInt ∧ z.toInt ≤ 63 := by
  have i := t_cl (i := x) hx (by omega)
  rw [e, show x.toNatClampNeg = 17100 + k.toNat by omega]
  exact h.2.2.2.2.2.2.1 k.toNat (by omega)
theorem at_ix {F : Nat → Int32} {x z : Int32} {k : Nat} (e : z = F x.toNatClampNeg) (hx : x.toInt = (k : Int)) : z = F k := by
  have i := t_cl (i := x) hx (by omega)
  rw [e, show x.toNatClampNeg = k by omega]
theorem MI.ub (h : MI I) {f : Nat → Int32} {v : Int32} (e : f = upd (I 1) (16507 : Int32).toNatClampNeg v) (hv : 0 ≤ v.toInt ∧ v.toInt ≤ 300) : MI (uR I 1 f) := by
  have i : (16507 : Int32).toNatClampNeg = 16507 := rfl
  rw [i] at e
  refine h.uw (fun j hj => ?_) ?_ (fun k hk => by rw [e, pk_un (by omega)]; exact h.2.2.2.2.2.2.1 k hk)
  · rw [e, pk_un (by omega)]
  · rw [e, upd_at rfl]
    exact hv
/-- what is not touched: all rows but some, all numbers but some -/
def KK (cs fs : List Nat) (I I' : Nat → Nat → Int32) : Prop := (∀ c, c ≠ 0 → c ∉ cs → I' c = I c) ∧ ∀ k, k ∉ fs → I' 0 k = I 0 k
theorem KK.rf {cs fs : List Nat} (I : Nat → Nat → Int32) : KK cs fs I I := ⟨fun _ _ _ => rfl, fun _ _ => rfl⟩
theorem KK.tr {cs fs cs' fs' : List Nat} {I' I2 : Nat → Nat → Int32} (h : KK cs fs I I') (h2 : KK cs' fs' I' I2) (hc : ∀ x ∈ cs', x ∈ cs) (hf : ∀ x ∈ fs', x ∈ fs) : KK cs fs I I2 :=
  ⟨fun c h0 hn => (h2.1 c h0 (fun q => hn (hc c q))).trans (h.1 c h0 hn), fun k hn => (h2.2 k (fun q => hn (hf k q))).trans (h.2 k hn)⟩
theorem KK.uf {cs fs : List Nat} {I' : Nat → Nat → Int32} (h : KK cs fs I I') {k : Nat} {v : Int32} (hk : k ∈ fs) : KK cs fs I (uF I' 0 k v) :=
  ⟨fun c h0 hn => (uF_nc h0).trans (h.1 c h0 hn), fun j hn => (uF_ne (fun q => hn (by rw [q.2]; exact hk))).trans (h.2 j hn)⟩
theorem KK.ur {cs fs : List Nat} {I' : Nat → Nat → Int32} (h : KK cs fs I I') {c : Nat} {f : Nat → Int32} (h0 : c ≠ 0) (hc : c ∈ cs) : KK cs fs I (uR I' c f) :=
  ⟨fun c' q0 hn => (uR_ne (fun q => hn (by rw [q]; exact hc))).trans (h.1 c' q0 hn), fun j hn => by rw [uR_ne (fun q => h0 q.symm)]; exact h.2 j hn⟩
theorem KK.row {cs fs : List Nat} {I' : Nat → Nat → Int32} (h : KK cs fs I I') (c : Nat) (h0 : c ≠ 0 ∧ c ∉ cs) : I' c = I c := h.1 c h0.1 h0.2
theorem KK.num {cs fs : List Nat} {I' : Nat → Nat → Int32} (h : KK cs fs I I') (k : Nat) (h0 : k ∉ fs) : I' 0 k = I 0 k := h.2 k h0
theorem MI.kk {cs fs : List Nat} {I' : Nat → Nat → Int32} (h : MI I) (k : KK cs fs I I') (h1 : 1 ∉ cs ∧ 3 ∉ cs ∧ 8 ∉ cs ∧ 9 ∉ cs) (h2 : 9 ∉ fs ∧ 36 ∉ fs ∧ 42 ∉ fs ∧ 45 ∉ fs) : MI I' :=
  h.of (k.1 1 (by decide) h1.1) (k.1 3 (by decide) h1.2.1) (k.1 8 (by decide) h1.2.2.1) (k.1 9 (by decide) h1.2.2.2) (k.2 9 h2.1) (k.2 36 h2.2.1) (k.2 42 h2.2.2.1) (k.2 45 h2.2.2.2)
/-- of the great row: below the working slot nothing changes -/
def WK (I I' : Nat → Nat → Int32) : Prop := ∀ j, j < 16500 → I' 1 j = I 1 j
theorem WK.rf (I : Nat → Nat → Int32) : WK I I := fun _ _ => rfl
theorem WK.tr {I' I2 : Nat → Nat → Int32} (h : WK I I') (h2 : WK I' I2) : WK I I2 := fun j hj => (h2 j hj).trans (h j hj)
theorem WK.kk {cs fs : List Nat} {I' I2 : Nat → Nat → Int32} (h : WK I I') (h2 : KK cs fs I' I2) (h1 : 1 ∉ cs) : WK I I2 := fun j hj => by rw [h2.1 1 (by decide) h1]; exact h j hj
theorem WK.uf {I' : Nat → Nat → Int32} (h : WK I I') {k : Nat} {v : Int32} : WK I (uF I' 0 k v) := fun j hj => by rw [uF_nc (by decide)]; exact h j hj
theorem WK.ur {I' : Nat → Nat → Int32} (h : WK I I') {c : Nat} {f : Nat → Int32} (hc : c ≠ 1) : WK I (uR I' c f) := fun j hj => by rw [uR_ne (fun q => hc q.symm)]; exact h j hj
theorem WK.ua {I' : Nat → Nat → Int32} (h : WK I I') {f : Nat → Int32} {x v : Int32} {a : Int} (e : f = upd (I' 1) x.toNatClampNeg v) (hx : x.toInt = a) (h1 : 16500 ≤ a) : WK I (uR I' 1 f) := fun j hj => by
  have i := t_cl (i := x) hx (by omega)
  rw [uR_eq, e, pk_un (by omega)]
  exact h j hj
end

theorem MI.st {I I' : Nat → Nat → Int32} {v : Int32} (h : MI I) (e : I' = uF I 0 1 v) : MI I' := by subst e; exact h.uf (by decide)
theorem KK.st {cs fs : List Nat} {I I' I2 : Nat → Nat → Int32} {v : Int32} (h : KK cs fs I I') (e : I2 = uF I' 0 1 v) (hk : 1 ∈ fs) : KK cs fs I I2 := by subst e; exact h.uf hk
theorem WK.st {I I' I2 : Nat → Nat → Int32} {v : Int32} (h : WK I I') (e : I2 = uF I' 0 1 v) : WK I I2 := by subst e; exact h.uf
theorem ST.row {I I' : Nat → Nat → Int32} {v : Int32} (e : I' = uF I 0 1 v) (c : Nat) (h : c ≠ 0) : I' c = I c := by subst e; exact uF_nc h
theorem ST.num {I I' : Nat → Nat → Int32} {v : Int32} (e : I' = uF I 0 1 v) (k : Nat) (h : k ≠ 1) : I' 0 k = I 0 k := by subst e; exact uF_ne (fun q => h q.2)
theorem lay4 {J J0 : Nat → Nat → Int64} {t v v2 : Int} {f : Nat → Int64} {i : Nat} (h : ∀ j : Nat, J 4 j = if t ≤ (j : Int) ∧ (j : Int) < t + v then 0 else J0 4 j) (hf : f = vp_updL (J 4) i 0) (hi : (i : Int) = t + v) (hv2 : v2 = v + 1) (hv : 0 ≤ v) (j : Nat) : vR J 4 f 4 j = if t ≤ (j : Int) ∧ (j : Int) < t + v2 then 0 else J0 4 j := by
  show f j = _
  rw [hf]
  unfold vp_updL
  by_cases hj : j = i
  · rw [if_pos hj, if_pos (by omega)]
  · rw [if_neg hj, h j]
    by_cases q : t ≤ (j : Int) ∧ (j : Int) < t + v
    · rw [if_pos q, if_pos (by omega)]
    · rw [if_neg q, if_neg (by omega)]
theorem is_z {r v : Int32} (h : (r = 1 ∧ v.toInt = 0) ∨ (r = 0 ∧ v.toInt ≠ 0)) : r = 0 ∨ r = 1 := by rcases h with ⟨q, _⟩ | ⟨q, _⟩; exact Or.inr q; exact Or.inl q
theorem is_0 {r v : Int32} (h : (r = 1 ∧ v.toInt = 0) ∨ (r = 0 ∧ v.toInt ≠ 0)) (hv : v.toInt ≠ 0) : r = 0 := by rcases h with ⟨_, q⟩ | ⟨q, _⟩; exact absurd q hv; exact q
theorem is_1 {r v : Int32} (h : (r = 1 ∧ v.toInt = 0) ∨ (r = 0 ∧ v.toInt ≠ 0)) (hv : v.toInt = 0) : r = 1 := by rcases h with ⟨q, _⟩ | ⟨_, q⟩; exact q; exact absurd hv q
section
variable {p : Program} {l : Launch} {e : Env} {R : Room} {s : State} {m : MethodId} {args : Array Value} {below : List Frame} {meth : Method} {c : Code} {H : Heap} {locs : List Loc} {Q : State → Prop} {g : gG} {cc bytes : ByteArray} {pc nL maxL n index d : Nat} {ls : Array Slot} {rest st0 As : List Value} {Ts ws ws' : List Cond} {own C : String} {y : MethodName} {ret : Option FieldType} {w0 wc : va_W}
theorem PurL.cs {post : Int64 → Prop} (hM : PurL l g y ws d As w0 post) (fx : CallFix p m c cc nL s args Ts own) (hG : GoodIn Ts (va_wsS own index y ws)) (hw : ws = Cond.code y bytes maxL ret :: ws') (hd : hdV y C n) (hR : roomOk d maxL R)
    (hK : gK g s) (hP : va_P g.1 vwCl wc H) (isC : List Nat) (hC : isC.filterMap (fun i => wc[i]?) = w0)
    (hst : st0 = As.reverse ++ rest) (hn : As.length = n) (hsz : ls.size = nL) (hcat : (rest.map fun v => v.category).sum ≤ 8) (hdg : decode cc pc = .ok (.invokestatic index, 3))
    (kk : ∀ r : Int64, post r → W p l e R s m args below meth c H locs 0 0 Q (F0 m (pc + 3) ls (.long r :: rest))) : W p l e R s m args below meth c H locs 0 0 Q (F0 m pc ls st0) := by
  have hP0 := hP.sub (ws' := w0) isC hC
  refine run_pl (va_runS fx hM (va_cwS n fx.2.2.2.2 hG hw rfl rfl hd.2 hR) ⟨PurB.blind, fun U hU hW => ⟨rfl, by rw [hU]; exact hP0, gK.warm hW hK⟩⟩ rfl hn hsz hst (lv_room (pc := pc) (ls := ls) (rest := st0) (m := m) hcat) hdg ⟨Nat.zero_le _, Nat.zero_le _⟩) kk
end
def outP (gone rule : Int32) : Prop := ((gone >>> (rule &&& 31)) &&& 1).toInt = 1
def hoP (c b e : Int) : Prop := c = 0 ∨ (b ≠ 0 ∧ e ≠ 0 ∧ c = 4) ∨ (b ≠ 0 ∧ e = 0 ∧ c = 1) ∨ (b = 0 ∧ e ≠ 0 ∧ c = 3) ∨ (b = 0 ∧ e = 0 ∧ c = 2)
theorem cmp_lt {x y : Int64} {z : Int32} (e : z = lg_cmp x y) (h : z.toInt < 0) : x.toInt < y.toInt := by
  have q : lg_cmp x y < 0 := by rw [← e]; exact Int32.lt_iff_toInt_lt.mpr h
  exact Int64.lt_iff_toInt_lt.mp ((lg_cmp_lt x y).mp q)
theorem cmp_nlt {x y : Int64} {z : Int32} (e : z = lg_cmp x y) (h : 0 ≤ z.toInt) : y.toInt ≤ x.toInt := by
  have q : 0 ≤ lg_cmp x y := by rw [← e]; exact Int32.le_iff_toInt_le.mpr h
  exact Int64.le_iff_toInt_le.mp ((lg_cmp_ge x y).mp q)
theorem cmp_gt {x y : Int64} {z : Int32} (e : z = lg_cmp x y) (h : 0 < z.toInt) : y.toInt < x.toInt := by
  have q : 0 < lg_cmp x y := by rw [← e]; exact Int32.lt_iff_toInt_lt.mpr h
  exact Int64.lt_iff_toInt_lt.mp ((lg_cmp_gt x y).mp q)
theorem cmp_ngt {x y : Int64} {z : Int32} (e : z = lg_cmp x y) (h : z.toInt ≤ 0) : x.toInt ≤ y.toInt := by
  have q : lg_cmp x y ≤ 0 := by rw [← e]; exact Int32.le_iff_toInt_le.mpr h
  exact Int64.le_iff_toInt_le.mp ((lg_cmp_le x y).mp q)
theorem cmp_ne {x y : Int64} {z : Int32} (e : z = lg_cmp x y) (h : ¬ z = 0) : x ≠ y := fun q => h (by rw [e]; exact (lg_cmp_eq x y).mpr q)
theorem cmp_eq {x y : Int64} {z : Int32} (e : z = lg_cmp x y) (h : z = 0) : x = y := (lg_cmp_eq x y).mp (by rw [← e]; exact h)
theorem l_of {x : Int64} {a : Int} (h : x.toInt = a) (h0 : 0 ≤ a) : ∃ n : Nat, x = lN n ∧ (n : Int) = a ∧ n < 2 ^ 63 := by
  obtain ⟨k, hk, e⟩ := pk_lOf (x := x) (fun q => by have := Int64.lt_iff_toInt_lt.mp q; rw [h] at this; have e0 : (0 : Int64).toInt = 0 := by decide
                                                    rw [e0] at this; omega)
  refine ⟨k, e, ?_, hk⟩
  rw [← h, e, pk_lT hk]
theorem l_rem {x y z : Int64} {a b : Int} (h : z = x - x / y * y) (hx : x.toInt = a) (hy : y.toInt = b) (ha : 0 ≤ a) (hb : 0 < b) : z.toInt = a % b := by
  obtain ⟨n, e1, f1, l1⟩ := l_of hx ha
  obtain ⟨k, e2, f2, l2⟩ := l_of hy (by omega)
  rw [h, e1, e2, pk_lRem l1 (by omega) l2, pk_lT (Nat.lt_of_le_of_lt (Nat.mod_le _ _) l1), ← f1, ← f2]
  exact Int.natCast_emod _ _
theorem cpy_fw {J0 f f2 : Nat → Int64} {a b i x y : Nat} {ia : Nat} (h : f = va_cpy J0 J0 a b i) (e : f2 = vp_updL f x (f y)) (hx : x = b + i) (hy : y = a + i) (hab : b ≤ a ∨ a + i < b ∨ b + i ≤ a) (hi : ia = i + 1) : f2 = va_cpy J0 J0 a b ia := by
  subst hi; subst hx; subst hy
  funext j
  rw [e]
  unfold vp_updL
  by_cases hj : j = b + i
  · subst hj
    rw [if_pos rfl, h]
    unfold va_cpy
    rw [if_neg (by omega), if_pos (by omega)]
    congr 1; omega
  · rw [if_neg hj, h]
    unfold va_cpy
    by_cases q : b ≤ j ∧ j < b + i
    · rw [if_pos q, if_pos (by omega)]
    · rw [if_neg q, if_neg (by omega)]
theorem cpy_bw {J0 f f2 : Nat → Int64} {a b n i x y : Nat} {ia : Nat} (h : f = va_cpy J0 J0 (a + (n - i)) (b + (n - i)) i) (e : f2 = vp_updL f x (f y)) (hin : i < n) (hx : x = b + (n - 1 - i)) (hy : y = a + (n - 1 - i)) (hab : a ≤ b ∨ b + n ≤ a) (hi : ia = i + 1) : f2 = va_cpy J0 J0 (a + (n - ia)) (b + (n - ia)) ia := by
  subst hi; subst hx; subst hy
  funext j
  rw [e]
  unfold vp_updL
  by_cases hj : j = b + (n - 1 - i)
  · subst hj
    rw [if_pos rfl, h]
    unfold va_cpy
    rw [if_neg (by omega), if_pos (by omega)]
    congr 1; omega
  · rw [if_neg hj, h]
    unfold va_cpy
    by_cases q : b + (n - i) ≤ j ∧ j < b + (n - i) + i
    · rw [if_pos q, if_pos (by omega)]; congr 1; omega
    · rw [if_neg q, if_neg (by omega)]

theorem MI.ut {I : Nat → Nat → Int32} {f g : Nat → Int32} {k : Nat} {x : Int32} (h : MI (uR I 2 g)) (e : f = upd (I 3) k x) (hx : -1 ≤ x.toInt ∧ x.toInt ≤ 60) : MI (uR (uR I 2 g) 3 f) := by
  obtain ⟨h0, h1⟩ := h
  refine ⟨fun j => ⟨?_, (h0 j).2⟩, h1⟩
  show -1 ≤ (f j).toInt ∧ (f j).toInt ≤ 60
  rw [e]
  exact upd_all (P := fun z => -1 ≤ z.toInt ∧ z.toInt ≤ 60) (fun j => (h0 j).1) hx j

theorem cpy_0 (f : Nat → Int64) (a b : Nat) : va_cpy f f a b (0 : Int).toNat = f := by
  funext j
  unfold va_cpy
  rw [if_neg (by rw [show (0 : Int).toNat = 0 from rfl]; omega)]

theorem MI.tpd {I : Nat → Nat → Int32} {v : Int32} (h : MI I) (hv : 0 ≤ v.toInt ∧ v.toInt ≤ 900) : MI (uF I 0 9 v) := by
  obtain ⟨h0, h1, h2⟩ := h
  exact ⟨h0, hv, h2⟩
theorem MI.fmd {I : Nat → Nat → Int32} {v : Int32} (h : MI I) (hv : -1 ≤ v.toInt ∧ v.toInt ≤ 20) : MI (uF I 0 36 v) := by
  obtain ⟨h0, h1, h2, h3, h4⟩ := h
  exact ⟨h0, h1, h2, hv, h4⟩
theorem MI.wmd {I : Nat → Nat → Int32} {v : Int32} (h : MI I) (hv : -1 ≤ v.toInt ∧ v.toInt ≤ 1200) : MI (uF I 0 42 v) := by
  obtain ⟨h0, h1, h2, h3, h4, h5⟩ := h
  exact ⟨h0, h1, h2, h3, hv, h5⟩
