
/-! THE MODEL: rows of cells read back -/
def RB (I : Nat → Nat → Int32) (rule : Int32) (p : Int) (k : Nat) : Prop := ((I 1 (12 * rule.toInt.toNat + (20 + k)) ^^^ I 14 (p.toNat + k)) &&& (I 15 (p.toNat + k) ^^^ (-1))) = 0
def RD (I : Nat → Nat → Int32) (rule : Int32) (p many : Int) : Prop := ¬ outP (I 1 6) rule ∧ p + (I 1 (12 * rule.toInt.toNat + 19)).toInt ≤ many ∧ (∀ k : Nat, (k : Int) < (I 1 (12 * rule.toInt.toNat + 19)).toInt → RB I rule p k) ∧ hoQ (I 1 (12 * rule.toInt.toNat + 23)).toInt (p = 0) (p + (I 1 (12 * rule.toInt.toNat + 19)).toInt = many)
def WX (I : Nat → Nat → Int32) (p many : Int) (r : Int32) : Prop := (0 ≤ r.toInt ∧ r.toInt < (I 1 0).toInt) ∧ RD I r p many ∧ (I 16 (p + (I 1 (12 * r.toInt.toNat + 19)).toInt).toNat).toInt ≠ 0
def WW (I : Nat → Nat → Int32) (many : Int) : Prop := ∀ p : Int, 0 ≤ p → p < many → (I 16 p.toNat).toInt ≠ 0 → ∃ r, WX I p many r
section
variable {I : Nat → Nat → Int32}
theorem RD.row {I' : Nat → Nat → Int32} {r : Int32} {p m : Int} (h : RD I r p m) (e1 : I' 1 = I 1) (e14 : I' 14 = I 14) (e15 : I' 15 = I 15) : RD I' r p m := by
  unfold RD RB at h ⊢
  rw [e1, e14, e15]
  exact h
theorem WX.row {I' : Nat → Nat → Int32} {r : Int32} {p m : Int} (h : WX I p m r) (e1 : I' 1 = I 1) (e14 : I' 14 = I 14) (e15 : I' 15 = I 15) (e16 : I' 16 = I 16) : WX I' p m r := by
  refine ⟨by rw [e1]; exact h.1, h.2.1.row e1 e14 e15, ?_⟩
  rw [e1, e16]
  exact h.2.2
theorem WW.row {I' : Nat → Nat → Int32} {m : Int} (h : WW I m) (e1 : I' 1 = I 1) (e14 : I' 14 = I 14) (e15 : I' 15 = I 15) (e16 : I' 16 = I 16) : WW I' m := fun p h0 h1 h2 => by
  rw [e16] at h2
  obtain ⟨r, hr⟩ := h p h0 h1 h2
  exact ⟨r, hr.row e1 e14 e15 e16⟩
theorem MI.cm (h : MI I) {r : Int} (hr : 0 ≤ r ∧ r < (I 1 0).toInt) : 1 ≤ (I 1 (12 * r.toNat + 19)).toInt := by
  have hm := h.many rfl
  have q := (h.t0.2.2.2.2.2 r.toNat (by omega) (by omega)).2
  rwa [Nat.zero_add] at q
theorem WX.up {f : Nat → Int32} {x v : Int32} {p m q : Int} {r : Int32} (h : WX I p m r) (hM : MI I) (e : f = upd (I 16) x.toNatClampNeg v) (hx : x.toInt = q) (h0 : 0 ≤ q) (hq : q ≤ p) : WX (uR I 16 f) p m r := by
  have i := t_cl (i := x) hx h0
  have c := hM.cm h.1
  refine ⟨h.1, h.2.1.row (uR_ne (by decide)) (uR_ne (by decide)) (uR_ne (by decide)), ?_⟩
  rw [uR_eq, uR_ne (by decide), e, pk_un (by omega)]
  exact h.2.2
theorem WW.st {f : Nat → Int32} {x v : Int32} {m q : Int} (hM : MI I) (h : ∀ p : Int, q < p → p < m → (I 16 p.toNat).toInt ≠ 0 → ∃ r, WX I p m r) (hv : v.toInt ≠ 0 → ∃ r, WX I q m r) (e : f = upd (I 16) x.toNatClampNeg v) (hx : x.toInt = q) (h0 : 0 ≤ q) (p : Int) (hp : q - 1 < p) (hm : p < m) (hn : (uR I 16 f 16 p.toNat).toInt ≠ 0) : ∃ r, WX (uR I 16 f) p m r := by
  have i := t_cl (i := x) hx h0
  rw [uR_eq, e] at hn
  by_cases w : p = q
  · subst w
    rw [upd_at (by omega)] at hn
    obtain ⟨r, hr⟩ := hv hn
    exact ⟨r, hr.up hM e hx h0 (by omega)⟩
  · rw [pk_un (by omega)] at hn
    obtain ⟨r, hr⟩ := h p (by omega) hm hn
    exact ⟨r, hr.up hM e hx h0 (by omega)⟩
theorem wb_st {f : Nat → Int32} {x v : Int32} {m q : Int} (h : ∀ j : Int, q < j → j ≤ m → 0 ≤ (I 16 j.toNat).toInt ∧ (I 16 j.toNat).toInt ≤ 999999) (hv : 0 ≤ v.toInt ∧ v.toInt ≤ 999999) (e : f = upd (I 16) x.toNatClampNeg v) (hx : x.toInt = q) (h0 : 0 ≤ q) (j : Int) (hj : q - 1 < j) (hm : j ≤ m) : 0 ≤ (uR I 16 f 16 j.toNat).toInt ∧ (uR I 16 f 16 j.toNat).toInt ≤ 999999 := by
  have i := t_cl (i := x) hx h0
  rw [uR_eq, e]
  by_cases w : j = q
  · rw [upd_at (by omega)]; exact hv
  · rw [pk_un (by omega)]; exact h j (by omega) hm
/-- how far the search for readings has come -/
def tm (f : Nat → Int32) : Nat → Int
  | 0 => 0
  | n + 1 => tm f n + (24 - (f n).toInt) * 26 ^ (20 - n)
theorem tm_eq {f g : Nat → Int32} : ∀ n, (∀ j, j < n → g j = f j) → tm g n = tm f n
  | 0, _ => rfl
  | n + 1, h => by rw [tm, tm, tm_eq n (fun j hj => h j (by omega)), h n (by omega)]
theorem tm_pow (n : Nat) : (1 : Int) ≤ 26 ^ n := by
  have := Int.pow_pos (n := 26) (m := n) (by decide)
  omega
theorem tm_same {f f' : Nat → Int32} {x v : Int32} {lev : Int} (e : f' = upd f x.toNatClampNeg v) (hx : x.toInt = lev) (h0 : 0 ≤ lev) (hv : v.toInt = (f lev.toNat).toInt + 1) : tm f' (lev + 1).toNat + 26 ^ (20 - lev.toNat) = tm f (lev + 1).toNat := by
  have i := t_cl (i := x) hx h0
  rw [show (lev + 1).toNat = lev.toNat + 1 by omega, tm, tm, tm_eq lev.toNat (fun j hj => by rw [e, pk_un (by omega)]), e, upd_at (by omega), hv]
  rw [show (24 - (f lev.toNat).toInt : Int) = (24 - ((f lev.toNat).toInt + 1)) + 1 by omega, Int.add_mul, Int.one_mul]
  omega
theorem tm_lt {f f' : Nat → Int32} {x v : Int32} {lev : Int} (e : f' = upd f x.toNatClampNeg v) (hx : x.toInt = lev) (h0 : 0 ≤ lev) (hv : v.toInt = (f lev.toNat).toInt + 1) : tm f' (lev + 1).toNat < tm f (lev + 1).toNat := by
  have a := tm_same e hx h0 hv
  have b := tm_pow (20 - lev.toNat)
  omega
theorem tm_down {f f' : Nat → Int32} {x v l2 : Int32} {lev : Int} (e : f' = upd f x.toNatClampNeg v) (hx : x.toInt = lev) (h0 : 0 ≤ lev) (hv : v.toInt = (f lev.toNat).toInt + 1) (h24 : v.toInt ≤ 24) (hl : l2.toInt = lev - 1) : tm f' (l2.toInt + 1).toNat < tm f (lev + 1).toNat := by
  have a := tm_lt e hx h0 hv
  have i := t_cl (i := x) hx h0
  rw [show (lev + 1).toNat = lev.toNat + 1 by omega, tm] at a
  rw [show (l2.toInt + 1).toNat = lev.toNat by omega]
  have b := tm_pow (20 - lev.toNat)
  have c : 0 ≤ (24 - (f' lev.toNat).toInt) * 26 ^ (20 - lev.toNat) := Int.mul_nonneg (by rw [e, upd_at (by omega)]; omega) (by omega)
  rw [show (lev + 1).toNat = lev.toNat + 1 by omega]
  omega
theorem tm_deep {f f' g : Nat → Int32} {x v y l2 : Int32} {lev : Int} (e : f' = upd f x.toNatClampNeg v) (hx : x.toInt = lev) (h0 : 0 ≤ lev) (h19 : lev < 20) (hv : v.toInt = (f lev.toNat).toInt + 1) (e2 : g = upd f' y.toNatClampNeg (-1)) (hy : y.toInt = lev + 1) (hl : l2.toInt = lev + 1) : tm g (l2.toInt + 1).toNat < tm f (lev + 1).toNat := by
  have a := tm_same e hx h0 hv
  have i2 := t_cl (i := y) hy (by omega)
  have z : (-1 : Int32).toInt = -1 := by decide
  rw [show (l2.toInt + 1).toNat = (lev + 1).toNat + 1 by omega, tm, tm_eq (g := g) (f := f') (lev + 1).toNat (fun j hj => by rw [e2, pk_un (by omega)]), e2, upd_at (by omega), z]
  rw [show 20 - lev.toNat = (20 - (lev + 1).toNat) + 1 by omega, Int.pow_succ] at a
  have b := tm_pow (20 - (lev + 1).toNat)
  omega
def TA (I : Nat → Nat → Int32) (lev R m : Int) : Prop := ∀ l : Nat, (l : Int) ≤ lev → (-1 ≤ (I 18 l).toInt ∧ (I 18 l).toInt < R) ∧ ((l : Int) ≤ (I 19 l).toInt ∧ (I 19 l).toInt < m) ∧ ((l : Int) < lev → 0 ≤ (I 18 l).toInt)
theorem TA.row {I' : Nat → Nat → Int32} {lev R m : Int} (h : TA I lev R m) (e1 : I' 18 = I 18) (e2 : I' 19 = I 19) : TA I' lev R m := by
  unfold TA
  rw [e1, e2]
  exact h
theorem TA.same {f : Nat → Int32} {x v : Int32} {lev R m : Int} (h : TA I lev R m) (e : f = upd (I 18) x.toNatClampNeg v) (hx : x.toInt = lev) (h0 : 0 ≤ lev) (hv : 0 ≤ v.toInt ∧ v.toInt < R) : TA (uR I 18 f) lev R m := fun l hl => by
  have i := t_cl (i := x) hx h0
  have q := h l hl
  rw [uR_eq, uR_ne (by decide), e]
  by_cases w : l = x.toNatClampNeg
  · rw [upd_at w]; exact ⟨by omega, q.2.1, fun _ => hv.1⟩
  · rw [pk_un w]; exact q
theorem TA.down {f : Nat → Int32} {x v : Int32} {lev l2 R m : Int} (h : TA I lev R m) (e : f = upd (I 18) x.toNatClampNeg v) (hx : x.toInt = lev) (h0 : 0 ≤ lev) (hl : l2 = lev - 1) : TA (uR I 18 f) l2 R m := fun l hl2 => by
  have i := t_cl (i := x) hx h0
  have q := h l (by omega)
  rw [uR_eq, uR_ne (by decide), e, pk_un (by omega)]
  exact ⟨q.1, q.2.1, fun w => q.2.2 (by omega)⟩
theorem TA.deep {I' : Nat → Nat → Int32} {f g : Nat → Int32} {y z w : Int32} {lev l2 R m : Int} (h : TA I lev R m) (hv : 0 ≤ (I 18 lev.toNat).toInt) (e : f = upd (I 18) y.toNatClampNeg (-1)) (e2 : g = upd (I 19) z.toNatClampNeg w) (hy : y.toInt = lev + 1) (hz : z.toInt = lev + 1) (h0 : 0 ≤ lev) (hw : lev + 1 ≤ w.toInt ∧ w.toInt < m) (hR : 0 ≤ R) (hl : l2 = lev + 1) (e3 : I' 18 = f) (e4 : I' 19 = g) : TA I' l2 R m := fun l hl2 => by
  have i := t_cl (i := y) hy (by omega)
  have i2 := t_cl (i := z) hz (by omega)
  have zz : (-1 : Int32).toInt = -1 := by decide
  rw [e3, e4, e, e2]
  by_cases q : l = y.toNatClampNeg
  · rw [upd_at q, upd_at (by omega), zz]; exact ⟨by omega, by omega, fun _ => by omega⟩
  · rw [pk_un q, pk_un (by omega)]
    have a := h l (by omega)
    refine ⟨a.1, a.2.1, fun _ => ?_⟩
    by_cases u : (l : Int) < lev
    · exact a.2.2 u
    · rw [show l = lev.toNat by omega]; exact hv
/-! what is left over of two rows -/
def sv (f : Nat → Int32) : Nat → Int
  | 0 => 0
  | n + 1 => sv f n + (f n).toInt
def OV (I : Nat → Nat → Int32) : Prop := ∀ j : Nat, j < 4161 → 0 ≤ (I 20 j).toInt ∧ (I 20 j).toInt ≤ 1000000
theorem sv_eq {f g : Nat → Int32} : ∀ n, (∀ j, j < n → g j = f j) → sv g n = sv f n
  | 0, _ => rfl
  | n + 1, h => by rw [sv, sv, sv_eq n (fun j hj => h j (by omega)), h n (by omega)]
theorem sv_up {f g : Nat → Int32} {k : Nat} {v : Int32} (e : g = upd f k v) : ∀ n, k < n → sv g n = sv f n - (f k).toInt + v.toInt
  | 0, h => by omega
  | n + 1, h => by
    rw [sv, sv]
    by_cases q : k = n
    · subst q
      rw [sv_eq k (fun j hj => by rw [e, pk_un (by omega)]), e, upd_at rfl]
      omega
    · rw [sv_up e n (by omega), e, pk_un (by omega)]
      omega
theorem sv_0 {f : Nat → Int32} : ∀ n, (∀ j, j < n → 0 ≤ (f j).toInt) → 0 ≤ sv f n
  | 0, _ => Int.le_refl _
  | n + 1, h => by
    rw [sv]
    have a := sv_0 n (fun j hj => h j (by omega))
    have b := h n (by omega)
    omega
theorem OV.s0 (h : OV I) : 0 ≤ sv (I 20) 4161 := sv_0 4161 (fun j hj => (h j hj).1)
theorem OV.row {I' : Nat → Nat → Int32} (h : OV I) (e : I' 20 = I 20) : OV I' := by
  unfold OV
  rw [e]
  exact h
theorem OV.st {f : Nat → Int32} {x v : Int32} {a : Int} (h : OV I) (e : f = upd (I 20) x.toNatClampNeg v) (hx : x.toInt = a) (ha : 0 ≤ a ∧ a ≤ 4160) (hv : 0 ≤ v.toInt ∧ v.toInt < (I 20 x.toNatClampNeg).toInt) : OV (uR I 20 f) ∧ sv f 4161 + 1 ≤ sv (I 20) 4161 := by
  have i := t_cl (i := x) hx ha.1
  refine ⟨fun j hj => ?_, ?_⟩
  · rw [uR_eq, e]
    by_cases q : j = x.toNatClampNeg
    · rw [upd_at q]; have := h x.toNatClampNeg (by omega); omega
    · rw [pk_un q]; exact h j hj
  · rw [sv_up e 4161 (by omega)]; omega
end
/-! READINGS of rows on the model's side (behind 40.y0) -/
def okM (A R Z : Nat → Int32) (m r p : Nat) : Prop := rdP (A 6) (mC A) (fun i => A (12 * i + 23)) (mL A) R Z m r p
def mN (A : Nat → Int32) (r : Nat) : Nat := (mC A r).toInt.toNat
def cntM (A R Z W : Nat → Int32) (n : Int32) : Prop := wyP (A 0).toInt.toNat n.toInt.toNat (okM A R Z n.toInt.toNat) (mN A) (fun j => (W j).toInt) 0
def gM (A R Z W : Nat → Int32) (m r p : Nat) : Prop := okM A R Z m r p ∧ (W (p + mN A r)).toInt ≠ 0
def fsM (A R Z W F : Nat → Int32) (n s : Int32) (m : Nat) : Prop := fiP (gM A R Z W m) (mN A) (fun r => (A (12 * r + 12)).toInt) m (A 0).toInt.toNat F n s m
section Fns
variable {I : Nat → Nat → Int32}
theorem cntM.of {A R Z W A' R' Z' W' : Nat → Int32} {n : Int32} (h : cntM A R Z W n) (e1 : A' = A) (e2 : R' = R) (e3 : Z' = Z) (e4 : W' = W) : cntM A' R' Z' W' n := by
  subst e1; subst e2; subst e3; subst e4
  exact h
theorem rowP.of {J : Nat → Int64} {t d m : Int} {R Z R' Z' : Nat → Int32} (h : rowP J t d R Z m) (e2 : R' = R) (e3 : Z' = Z) : rowP J t d R' Z' m := by
  subst e2; subst e3
  exact h
/-- a RULE may be read: the same in both words -/
theorem RD.iff {rule : Int32} {p many : Int} (h0 : 0 ≤ rule.toInt) (hp : 0 ≤ p) (hm : 0 ≤ many) (hc : 0 ≤ (I 1 (12 * rule.toInt.toNat + 19)).toInt) : RD I rule p many ↔ okM (I 1) (I 14) (I 15) many.toNat rule.toInt.toNat p.toNat := by
  have er := (t_nI (x := rule) rfl h0).1
  have ec : mC (I 1) rule.toInt.toNat = I 1 (12 * rule.toInt.toNat + 19) := rfl
  unfold RD okM rdP
  rw [← er, outB.iff, ec]
  constructor
  · rintro ⟨a, b, c, d⟩
    exact ⟨a, by omega, fun k hk => c k hk, (coP.hoQ.2 d).cg (by omega) (by omega)⟩
  · rintro ⟨a, b, c, d⟩
    exact ⟨a, by omega, fun k hk => c k hk, coP.hoQ.1 (d.cg (by omega) (by omega))⟩
theorem wyP.up {N m : Nat} {ok : Nat → Nat → Prop} {c : Nat → Nat} {W W' : Nat → Int32} {x s : Int32} {p q : Int} (h : wyP N m ok c (fun j => (W j).toInt) (p + 1).toNat) (hc : ∀ r, r < N → 1 ≤ c r) (e : W' = upd W x.toNatClampNeg s) (hx : x.toInt = p) (hp : 0 ≤ p ∧ p < m) (hq : q + 1 = p) (hs : wsR (fun r => ok r p.toNat) (fun r => (W (p.toNat + c r)).toInt) N s.toInt) : wyP N m ok c (fun j => (W' j).toInt) (q + 1).toNat := by
  have ix : x.toNatClampNeg = p.toNat := by have := t_cl (i := x) hx hp.1; omega
  have g : ∀ j : Nat, p.toNat < j → (W' j).toInt = (W j).toInt := fun j hj => by rw [e, ix, pk_un (by omega)]
  refine ⟨by show (W' m).toInt = 1; rw [g m (by omega)]; exact h.1, fun j h1 h2 => ?_⟩
  by_cases z : j = p.toNat
  · subst z
    show wsR _ _ N (W' p.toNat).toInt
    have ew : W' p.toNat = s := by rw [e, ix, upd_at_ rfl]
    rw [ew]
    refine wsR.congr hs (fun r hr => ⟨Iff.rfl, fun _ => ?_⟩)
    have := hc r hr
    exact (g _ (by omega)).symm
  · show wsR _ _ N (W' j).toInt
    rw [g j (by omega)]
    refine wsR.congr (h.2 j (by omega) h2) (fun r hr => ⟨Iff.rfl, fun _ => ?_⟩)
    have := hc r hr
    exact (g _ (by omega)).symm
theorem MI.mN (h : MI I) {r : Nat} (hr : r < (I 1 0).toInt.toNat) : 1 ≤ mN (I 1) r := by
  have q := h.cm (r := (r : Int)) (by omega)
  rw [Int.toNat_natCast] at q
  show 1 ≤ (I 1 (12 * r + 19)).toInt.toNat
  omega
end Fns
/-! the model's search (behind fns) -/
noncomputable def tQM (A R14 R15 R16 : Nat → Int32) (T : fxT) (m : Nat) : Int := tK (A 0).toInt.toNat m (gM A R14 R15 R16 m) (mN A) (tTr T (A 6) (rwM R14 m)) 0 []
def tDM (A R14 R15 R16 : Nat → Int32) (T : fxT) (m : Nat) (F P : Nat → Int32) (k : Nat) (n : Int) : Prop := tDf (A 0).toInt.toNat m (gM A R14 R15 R16 m) (mN A) (tTr T (A 6) (rwM R14 m)) F P k n
section Fnx8
variable {I : Nat → Nat → Int32} {A A' R Z W : Nat → Int32} {m r p : Nat} {n : Int32} {T : fxT}
theorem okM.wk (h : ∀ j, j < 16500 → A' j = A j) (hr : r < 24) (hc : (A (12 * r + 19)).toInt ≤ 3) : okM A' R Z m r p ↔ okM A R Z m r p := by
  have e19 : A' (12 * r + 19) = A (12 * r + 19) := h _ (by omega)
  unfold okM
  rw [h 6 (by decide)]
  constructor
  · intro q
    refine q.im (h _ (by omega)) (h _ (by omega)) (fun k hk => ?_) (fun _ _ => rfl) (fun _ _ => rfl)
    have hk2 : (k : Int) < (A' (12 * r + 19)).toInt := hk
    rw [e19] at hk2
    exact h _ (by omega)
  · intro q
    refine q.im (h _ (by omega)).symm (h _ (by omega)).symm (fun k hk => ?_) (fun _ _ => rfl) (fun _ _ => rfl)
    have hk2 : (k : Int) < (A (12 * r + 19)).toInt := hk
    exact (h _ (by omega)).symm
theorem MI.c3 (h : MI I) (hr : (r : Int) < (I 1 0).toInt) : 1 ≤ (I 1 (12 * r + 19)).toInt ∧ (I 1 (12 * r + 19)).toInt ≤ 3 := by
  have a := uTM.c1 h hr
  rw [uTM.cc hr] at a
  omega
theorem gM.cn (h : MI I) : ∀ r p, r < (I 1 0).toInt.toNat → gM (I 1) R Z W m r p → 1 ≤ mN (I 1) r ∧ p + mN (I 1) r ≤ m := fun r p hr g => ⟨h.mN hr, g.1.2.1⟩
theorem tQM.le (h : MI I) (hc : cntM (I 1) R Z W n) (h9 : (W 0).toInt ≤ 9999) : tQM (I 1) R Z W T n.toInt.toNat ≤ 9999 := by
  have hm : ∀ r p, okM (I 1) R Z n.toInt.toNat r p → p + mN (I 1) r ≤ n.toInt.toNat := fun r p o => o.2.1
  have h1 : ∀ r, r < (I 1 0).toInt.toNat → 1 ≤ mN (I 1) r := fun r hr => h.mN hr
  have z := tK.le (tr := tTr T (I 1 6) (rwM R n.toInt.toNat)) hc (fun j hj => wyP.nn hc hm h1 _ j (Nat.le_refl _) hj) hm (fun r p hr o => ⟨h1 r hr, hm r p o⟩) n.toInt.toNat 0 [] (by omega) (Nat.zero_le _) (by show (W 0).toInt < 999999; omega)
  exact Int.le_trans z h9
end Fnx8
