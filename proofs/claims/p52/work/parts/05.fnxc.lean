/-! the class's text and what is SET of it, step by step (behind fnx2) -/
def tFr (w w' : Nat → Nat → Int32) (d : Nat) : Prop := w' 5 = w 5 ∧ w' 6 = w 6 ∧ ∀ k, k ≠ d → w' 7 k = w 7 k ∧ w' 8 k = w 8 k
def tDp (w w' : Nat → Nat → Int32) (d : Nat) : Prop := (∀ k, k < d → w' 6 k = w 6 k ∧ w' 7 k = w 7 k ∧ w' 8 k = w 8 k) ∧ (0 < d → ∀ j : Nat, (j : Int) < (w 6 (d - 1)).toInt → w' 5 j = w 5 j)
def tSp (t w w' : Nat → Nat → Int32) (d : Nat) (bd r : Int) : Prop := HL1 t → (∀ j : Nat, (j : Int) < (w 6 d).toInt → uLt (fxB (w 5) j)) → tJ (fxTc t) (t 0 1) (fxB (w 5)) (tRw w) (w 6 d).toInt bd (w 7 d).toInt (w 8 d).toInt → (r = 1 ∧ tJ (fxTc t) (t 0 1) (fxB (w 5)) (tRw w) (w 6 d).toInt bd (w' 7 d).toInt (w' 8 d).toInt ∧ bd ≤ (w' 7 d).toInt) ∨ (r = 0 ∧ tBad (fxTc t) (t 0 1) (fxB (w 5)) (w 6 d).toInt bd (tRw w))
def tLp (t w w' : Nat → Nat → Int32) (d : Nat) (bd v : Int) : Prop := HL1 t → (∀ j : Nat, (j : Int) < (w 6 d).toInt → uLt (fxB (w 5) j)) → tJ (fxTc t) (t 0 1) (fxB (w 5)) (tRw w) (w 6 d).toInt bd (w 7 d).toInt (w 8 d).toInt → tJ (fxTc t) (t 0 1) (fxB (w 5)) (tRw w) (w 6 d).toInt bd (w' 7 d).toInt (w' 8 d).toInt ∧ v ≤ (w' 7 d).toInt
def tLr (t : Nat → Nat → Int32) (X : Nat → Int) (v wf wt R : Int) : Prop := uPr t X v wt → (R = -1 ∧ uNo (fxTc t) (t 0 1) X v wf wt) ∨ (0 ≤ R ∧ uLg (fxTc t) (t 0 1) X v wf wt R.toNat)
section Fnx3
variable {t w w1 w2 : Nat → Nat → Int32} {d c9 : Nat} {bd v v2 wf wt R r : Int} {rs : List Nat} {T : fxT}
theorem tFr.rf : tFr w w d := ⟨rfl, rfl, fun _ _ => ⟨rfl, rfl⟩⟩
theorem tFr.s78 {f g : Nat → Int32} {x y : Int32} {a b : Nat} (h : tFr w w1 d) (e7 : f = upd (w1 7) a x) (e8 : g = upd (w1 8) b y) (ha : a = d) (hb : b = d) (g5 : w2 5 = w1 5) (g6 : w2 6 = w1 6) (g7 : w2 7 = f) (g8 : w2 8 = g) : tFr w w2 d := by
  subst ha hb
  refine ⟨g5.trans h.1, g6.trans h.2.1, fun k hk => ?_⟩
  obtain ⟨p, q⟩ := h.2.2 k hk
  rw [g7, g8, e7, e8]
  exact ⟨by simp only [upd]; rw [if_neg hk]; exact p, by simp only [upd]; rw [if_neg hk]; exact q⟩
theorem tDp.rf : tDp w w d := ⟨fun _ _ => ⟨rfl, rfl, rfl⟩, fun _ _ _ => rfl⟩
theorem tDp.tr (h : tDp w w1 d) (h2 : tDp w1 w2 d) : tDp w w2 d := by
  refine ⟨fun k hk => ?_, fun h0 j hj => ?_⟩
  · obtain ⟨a, b, c⟩ := h.1 k hk
    obtain ⟨a2, b2, c2⟩ := h2.1 k hk
    exact ⟨a2.trans a, b2.trans b, c2.trans c⟩
  · have e := (h.1 (d - 1) (by omega)).1
    exact (h2.2 h0 j (by rw [e]; exact hj)).trans (h.2 h0 j hj)
theorem tDp.dn (h : tDp w w1 (d + 1)) (m : 0 < d → (w 6 (d - 1)).toInt ≤ (w 6 d).toInt) : tDp w w1 d := by
  refine ⟨fun k hk => h.1 k (by omega), fun h0 j hj => h.2 (by omega) j ?_⟩
  show (j : Int) < (w 6 d).toInt
  have := m h0
  omega
theorem tDp.fr (h : tDp w w1 d) (f : tFr w1 w2 d) : tDp w w2 d := by
  refine ⟨fun k hk => ?_, fun h0 j hj => ?_⟩
  · obtain ⟨a, b, c⟩ := h.1 k hk
    obtain ⟨b2, c2⟩ := f.2.2 k (by omega)
    exact ⟨by rw [f.2.1]; exact a, b2.trans b, c2.trans c⟩
  · rw [f.1]
    exact h.2 h0 j hj
theorem tI.kp (h : tDp w w1 (d + 1)) (e2 : w1 2 = w 2) (e0 : w1 0 = w 0) (i : tI t w d rs) : tI t w1 d rs := by
  obtain ⟨a, b, c⟩ := h.1 d (by omega)
  obtain ⟨x, y, z⟩ := i
  refine ⟨by rw [a]; exact x, fun j hj => ?_, ?_⟩
  · rw [a] at hj
    have e := h.2 (by omega) j hj
    rw [e]
    exact y j hj
  · rw [a, b, c, tRw.of e2 (by rw [e0])]
    exact z
theorem tLp.in (e : v = (w 7 d).toInt) : tLp t w w d bd v := fun _ _ h => ⟨h, Int.le_of_eq e⟩
theorem tLp.sk (h : tLp t w w1 d bd v) (hn : v ≠ (w1 7 d).toInt) (e : v2 = v + 1) : tLp t w w1 d bd v2 := fun a b c => by
  obtain ⟨x, y⟩ := h a b c
  exact ⟨x, by omega⟩
theorem tGv.cg {r : Nat} (e0 : w1 0 = w 0) (e2 : w1 2 = w 2) (h : tGv t w1 r c9) : tGv t w r c9 := by
  unfold tGv at h ⊢
  rw [e0, e2] at h
  exact h
theorem tLp.st (hT : TI t) (hw : 0 ≤ (w 0 5).toInt) (e0 : w1 0 = w 0) (e2 : w1 2 = w 2) (e5 : w1 5 = w 5) (h : tLp t w w1 d bd v) (h0 : 0 ≤ v) (hv : v < bd) (e : v = (w1 7 d).toInt) (lr : tLr t (fxB (w1 5)) v wf wt R) (ef : wf = 0) (et : wt = (w 6 d).toInt) (hR : R ≠ -1) (hr : R < (t 0 0).toInt) (hg : tGv t w1 R.toNat c9) (ec : c9 = (w1 8 d).toInt.toNat) (e7 : (w2 7 d).toInt = v + (t 2 R.toNat).toInt) (e8 : (w2 8 d).toInt = (w1 8 d).toInt + (t 3 R.toNat).toInt) (ev : v2 = v + 1) : tLp t w w2 d bd v2 := fun a b c => by
  obtain ⟨x, y⟩ := h a b c
  rw [ef, et, e5] at lr
  rcases lr ⟨a, fun j _ h2 => b j h2⟩ with ⟨q, _⟩ | ⟨q, lg⟩
  · exact absurd q hR
  · have l1 := a R.toNat (by omega)
    have lc := uTc.lc (I := t) (r := R.toNat) (by omega)
    have x2 : tJ (fxTc t) (t 0 1) (fxB (w 5)) (tRw w) (w 6 d).toInt bd v (w1 8 d).toInt := by rw [e]; exact x
    rw [ec] at hg
    exact ⟨tJ.st (t := t) (w := w) hT hw x2 h0 hv lg (hg.cg e0 e2) (by rw [e7, lc]; omega) e8, by omega⟩
theorem tLp.bad (hT : TI t) (hw : 0 ≤ (w 0 5).toInt) (e0 : w1 0 = w 0) (e2 : w1 2 = w 2) (e5 : w1 5 = w 5) (h : tLp t w w1 d bd v) (h0 : 0 ≤ v) (hv : v < bd) (e : v = (w1 7 d).toInt) (lr : tLr t (fxB (w1 5)) v wf wt R) (ef : wf = 0) (et : wt = (w 6 d).toInt) (hg : R = -1 ∨ ¬ tGv t w1 R.toNat c9) (ec : c9 = (w1 8 d).toInt.toNat) : tSp t w w1 d bd 0 := fun a b c => by
  obtain ⟨x, y⟩ := h a b c
  rw [ef, et, e5] at lr
  have x2 : tJ (fxTc t) (t 0 1) (fxB (w 5)) (tRw w) (w 6 d).toInt bd v (w1 8 d).toInt := by rw [e]; exact x
  rcases lr ⟨a, fun j _ h2 => b j h2⟩ with ⟨_, q⟩ | ⟨q, lg⟩
  · exact Or.inr ⟨rfl, tJ.bad (t := t) (w := w) (r := 0) hT hw x2 h0 hv (Or.inl q)⟩
  · rcases hg with hg | hg
    · omega
    · rw [ec] at hg
      exact Or.inr ⟨rfl, tJ.bad (t := t) (w := w) (r := R.toNat) hT hw x2 h0 hv (Or.inr ⟨lg, fun z => hg (tGv.cg e0.symm e2.symm z)⟩)⟩
theorem tLp.end (h : tLp t w w1 d bd v) (hv : bd ≤ v) : tSp t w w1 d bd 1 := fun a b c => by
  obtain ⟨x, y⟩ := h a b c
  exact Or.inl ⟨rfl, x, by omega⟩
theorem tLs.get {r k : Nat} (hk : k < uLC T r) : (tLs T r).getD k 0 = uLT T r k + 96 := by
  unfold tLs uLT
  unfold uLC at hk
  generalize (T.2.getD r fxE).1 = y at hk ⊢
  rw [List.getD_eq_getElem?_getD, List.getElem?_map, List.getD_eq_getElem?_getD, List.getElem?_eq_getElem hk]
  rfl
theorem fxT.in (r : Nat) : T.2.getD r fxE ∈ T.2 ∨ T.2.getD r fxE = fxE := by
  rw [List.getD_eq_getElem?_getD]
  by_cases h : r < T.2.length
  · left
    rw [List.getElem?_eq_getElem h]
    exact List.getElem_mem h
  · right
    rw [List.getElem?_eq_none (by omega)]
    rfl
theorem tWd.lt (q : pqL t) : ∀ (rs : List Nat) (v : Int), v ∈ tWd (fxTc t) rs → 97 ≤ v ∧ v ≤ 122
  | [], v, h => absurd h List.not_mem_nil
  | r :: rs, v, h => by
    have h2 : v ∈ tLs (fxTc t) r ++ tWd (fxTc t) rs := h
    rcases List.mem_append.1 h2 with h3 | h3
    · unfold tLs at h3
      obtain ⟨x, hx, e⟩ := List.mem_map.1 h3
      rcases fxT.in (T := fxTc t) r with m | m
      · have z := q _ m x hx
        omega
      · rw [m] at hx
        exact absurd hx List.not_mem_nil
    · exact tWd.lt q rs v h3
theorem tBy.lt (q : pqL t) {j : Nat} (hj : j < (tWd (fxTc t) rs).length) : uLt (tBy (tWd (fxTc t) rs) j) := by
  have m : tBy (tWd (fxTc t) rs) j ∈ tWd (fxTc t) rs := by
    unfold tBy
    rw [List.getD_eq_getElem?_getD, List.getElem?_eq_getElem hj]
    exact List.getElem_mem hj
  have z := tWd.lt q rs _ m
  unfold uLt
  omega
theorem TI.l6 (hT : TI t) : ∀ r, r < (fxTc t).2.length → uLC (fxTc t) r ≤ 6 := fun r hr => by
  rw [fxTc.len] at hr
  rw [uTc.lc (by omega)]
  have := hT.lc r
  omega
/-- a RULE's letters more -/
theorem tI.st (hT : TI t) (a : HL1 t) (q : pqL t) (h0 : 0 ≤ R) (hr : R < (t 0 0).toInt) (i : tI t w d rs) (g0 : w1 0 = w 0) (g2 : w1 2 = w 2) (e6 : (w1 6 (d + 1)).toInt = (w 6 d).toInt + (t 2 R.toNat).toInt) (e7 : w1 7 (d + 1) = w 7 d) (e8 : w1 8 (d + 1) = w 8 d) (eb : ∀ j : Nat, (j : Int) < (w 6 d).toInt → w1 5 j = w 5 j) (el : ∀ k : Nat, (k : Int) < (t 2 R.toNat).toInt → (w1 5 ((w 6 d).toInt.toNat + k)).toInt = 96 + (t 5 (6 * R.toNat + k)).toInt) (hb : bd = (w1 6 (d + 1)).toInt - 6) (f0 : w2 0 = w1 0) (f2 : w2 2 = w1 2) (f : tFr w1 w2 (d + 1)) (s : tSp t w1 w2 (d + 1) bd r) : (r = 1 ∧ tI t w2 (d + 1) (rs ++ [R.toNat])) ∨ (r = 0 ∧ ∀ x, ¬ tTr (fxTc t) (t 0 1) (tRw w) (rs ++ [R.toNat] ++ x)) := by
  obtain ⟨i6, i5, ij⟩ := i
  have lc := uTc.lc (I := t) (r := R.toNat) (by omega)
  have l1 := a R.toNat (by omega)
  have lnn : (tWd (fxTc t) (rs ++ [R.toNat])).length = (tWd (fxTc t) rs).length + (t 2 R.toNat).toInt.toNat := by rw [tWd.sn, List.length_append, tLs.len, lc]
  have ln : ((tWd (fxTc t) (rs ++ [R.toNat])).length : Int) = (w1 6 (d + 1)).toInt := by omega
  have eB : ∀ j : Nat, (j : Int) < (w1 6 (d + 1)).toInt → fxB (w1 5) j = tBy (tWd (fxTc t) (rs ++ [R.toNat])) j := fun j hj => by
    show (w1 5 j).toInt = _
    rw [tWd.sn]
    by_cases z : (j : Int) < (w 6 d).toInt
    · rw [eb j z, tBy.app (by omega)]
      exact i5 j z
    · obtain ⟨k, hk⟩ : ∃ k, j = (tWd (fxTc t) rs).length + k := ⟨j - (tWd (fxTc t) rs).length, by omega⟩
      subst hk
      have k9 : k < uLC (fxTc t) R.toNat := by rw [lc]; omega
      rw [tBy.sn (by rw [tLs.len]; exact k9), tLs.get k9, uTc.lt (by omega) (by omega)]
      have y := el k (by omega)
      rw [show (w 6 d).toInt.toNat = (tWd (fxTc t) rs).length by omega] at y
      rw [y]
      omega
  have er : tRw w1 = tRw w := tRw.of g2 (by rw [g0])
  have er2 : tRw w2 = tRw w := (tRw.of f2 (by rw [f0])).trans er
  have ij2 : tJ (fxTc t) (t 0 1) (fxB (w1 5)) (tRw w1) (w1 6 (d + 1)).toInt bd (w1 7 (d + 1)).toInt (w1 8 (d + 1)).toInt := by
    rw [e7, e8, er]
    exact tJ.ext hT.l6 ij (by omega) (by omega) (by omega) (fun j hj => by rw [eB j (by omega), tWd.sn, tBy.app (by omega)])
  rcases s a (fun j hj => by rw [eB j hj]; exact tBy.lt q (by omega)) ij2 with ⟨s1, s2, _⟩ | ⟨s1, s2⟩
  · refine Or.inl ⟨s1, by rw [f.2.1]; exact ln.symm, fun j hj => ?_, ?_⟩
    · rw [f.2.1] at hj
      rw [f.1]
      exact eB j hj
    · rw [f.2.1, er2, ← hb]
      rw [er] at s2
      exact s2.cg eB
  · refine Or.inr ⟨s1, fun x => ?_⟩
    have y := s2.cg eB
    rw [er] at y
    exact tBad.tr hT.l6 (by omega) ln.symm y x
/-- all letters SET at the end -/
theorem tI.en (hT : TI t) (a : HL1 t) (q : pqL t) (hw : 0 ≤ (w 0 5).toInt) (i : tI t w d rs) (hb : bd = (w 6 d).toInt) (f : tFr w w2 d) (s : tSp t w w2 d bd r) : (r = 1 ∧ ((w2 8 d).toInt = (w 0 5).toInt ↔ tTr (fxTc t) (t 0 1) (tRw w) rs)) ∨ (r = 0 ∧ ¬ tTr (fxTc t) (t 0 1) (tRw w) rs) := by
  obtain ⟨i6, i5, ij⟩ := i
  have eB : ∀ j : Nat, (j : Int) < (w 6 d).toInt → fxB (w 5) j = tBy (tWd (fxTc t) rs) j := i5
  have ij2 : tJ (fxTc t) (t 0 1) (fxB (w 5)) (tRw w) (w 6 d).toInt bd (w 7 d).toInt (w 8 d).toInt := (ij.up (by omega)).cg (fun j hj => (eB j hj).symm)
  rcases s a (fun j hj => by rw [eB j hj]; exact tBy.lt q (by omega)) ij2 with ⟨s1, s2, s3⟩ | ⟨s1, s2⟩
  · refine Or.inl ⟨s1, ?_⟩
    obtain ⟨p1, l, g, ec, pr⟩ := s2.cg eB
    have ep : (w2 7 d).toInt = ((tWd (fxTc t) rs).length : Int) := by omega
    rw [ep, hb, i6] at g
    constructor
    · intro z
      have e := pr.eq (by rw [tRw.len]; omega)
      rw [e] at g
      exact g
    · intro z
      have e := tTr.one g z
      rw [ec, e, tRw.len]
      omega
  · have y := s2.cg eB
    rw [hb, i6] at y
    exact Or.inr ⟨s1, tBad.en y⟩
theorem tI.in (h6 : (w 6 0).toInt = 0) (h7 : (w 7 0).toInt = 0) (h8 : (w 8 0).toInt = 0) : tI t w 0 [] := by
  refine ⟨by rw [h6]; rfl, fun j hj => by rw [h6] at hj; omega, ?_⟩
  exact tJ.in h7 h8
/-- how many TRUE ones there are from a place on -/
noncomputable def tQ (t w : Nat → Nat → Int32) (p : Nat) (rs : List Nat) : Int := tK (t 0 0).toInt.toNat (w 0 5).toInt.toNat (gC t w) (cN t) (tTr (fxTc t) (t 0 1) (tRw w)) p rs
theorem gC.cn (hY : HY t) : ∀ r p, r < (t 0 0).toInt.toNat → gC t w r p → 1 ≤ cN t r ∧ p + cN t r ≤ (w 0 5).toInt.toNat := fun r p hr g => by
  have y := hY r (by omega)
  have z : p + (cC t r).toInt.toNat ≤ (w 0 5).toInt.toNat := g.1.2.1
  have e : (cC t r).toInt.toNat = cN t r := rfl
  have e2 : cN t r = (t 3 r).toInt.toNat := rfl
  exact ⟨by omega, by omega⟩
theorem gC.cg {r p : Nat} (e0 : w1 0 = w 0) (e2 : w1 2 = w 2) (e3 : w1 3 = w 3) (e4 : w1 4 = w 4) : gC t w1 r p ↔ gC t w r p := by
  unfold gC okC
  rw [e0, e2, e3, e4]
theorem tQ.cg {p : Nat} (e0 : w1 0 = w 0) (e2 : w1 2 = w 2) (e3 : w1 3 = w 3) (e4 : w1 4 = w 4) : tQ t w1 p rs = tQ t w p rs := by
  unfold tQ
  rw [show gC t w1 = gC t w from funext (fun r => funext (fun p => propext (gC.cg e0 e2 e3 e4))), tRw.of e2 (by rw [e0]), e0]
theorem tQ.st {p : Nat} (hY : HY t) (h : p < (w 0 5).toInt.toNat) : tQ t w p rs = sumN (fun r => pM (gC t w r p) (tQ t w (p + cN t r) (rs ++ [r]))) (t 0 0).toInt.toNat := tK.st (gC.cn hY) h
theorem tQ.at {p : Nat} (h : p = (w 0 5).toInt.toNat) : tQ t w p rs = pI (tTr (fxTc t) (t 0 1) (tRw w) rs) := by
  rw [h]
  exact tK.at
theorem tQ.nn {p : Nat} : 0 ≤ tQ t w p rs := tK.nn
theorem tQ.part {p n : Nat} (hY : HY t) (h : p < (w 0 5).toInt.toNat) (hn : n ≤ (t 0 0).toInt.toNat) : sumN (fun r => pM (gC t w r p) (tQ t w (p + cN t r) (rs ++ [r]))) n ≤ tQ t w p rs := by
  rw [tQ.st hY h]
  refine sumN.up (fun r => ?_) hn
  by_cases o : gC t w r p
  · rw [pM.t o]; exact tQ.nn
  · rw [pM.f o]; exact Int.le_refl _
/-- the loop over the RULES: found so far -/
def tFd (t w : Nat → Nat → Int32) (d p n : Nat) (f : Int) : Prop := HL1 t → HY t → pqL t → (d : Int) ≤ (p : Int) → p < (w 0 5).toInt.toNat → ∀ rs, tI t w d rs → tQ t w p rs ≤ 9999 → f = sumN (fun r => pM (gC t w r p) (tQ t w (p + cN t r) (rs ++ [r]))) n
def tFm (t w : Nat → Nat → Int32) (d p : Nat) (f : Int) : Prop := HL1 t → HY t → pqL t → (d : Int) ≤ (p : Int) → p ≤ (w 0 5).toInt.toNat → ∀ rs, tI t w d rs → tQ t w p rs ≤ 9999 → f = tQ t w p rs
theorem tFd.in {p n : Nat} {f : Int} (hn : n = 0) (hf : f = 0) : tFd t w d p n f := fun _ _ _ _ _ _ _ _ => by rw [hn, hf]; rfl
theorem tFd.no {p n n2 : Nat} {f : Int} (h : tFd t w d p n f) (e : n2 = n + 1) (k : ∀ rs, HL1 t → HY t → pqL t → tI t w d rs → gC t w n p → tQ t w (p + cN t n) (rs ++ [n]) = 0) : tFd t w d p n2 f := fun a b c x y rs i l => by
  rw [e]
  show f = sumN _ n + pM (gC t w n p) (tQ t w (p + cN t n) (rs ++ [n]))
  rw [← h a b c x y rs i l]
  by_cases o : gC t w n p
  · rw [pM.t o, k rs a b c i o, Int.add_zero]
  · rw [pM.f o, Int.add_zero]
theorem tFd.yes {p n n2 : Nat} {f f2 g : Int} (h : tFd t w d p n f) (e : n2 = n + 1) (hn : n < (t 0 0).toInt.toNat) (o : gC t w n p) (hf : 0 ≤ f → f ≤ 9999 → 0 ≤ g → g ≤ 9999 → f2 = f + g) (k : ∀ rs, HL1 t → HY t → pqL t → tI t w d rs → (d : Int) ≤ (p : Int) → tQ t w (p + cN t n) (rs ++ [n]) ≤ 9999 → g = tQ t w (p + cN t n) (rs ++ [n])) : tFd t w d p n2 f2 := fun a b c x y rs i l => by
  have e1 := h a b c x y rs i l
  have s : sumN (fun r => pM (gC t w r p) (tQ t w (p + cN t r) (rs ++ [r]))) (n + 1) = sumN (fun r => pM (gC t w r p) (tQ t w (p + cN t r) (rs ++ [r]))) n + tQ t w (p + cN t n) (rs ++ [n]) := by
    show sumN _ n + pM (gC t w n p) (tQ t w (p + cN t n) (rs ++ [n])) = _
    rw [pM.t o]
  have m := tQ.part (rs := rs) (n := n + 1) b y (by omega)
  have nn : 0 ≤ sumN (fun r => pM (gC t w r p) (tQ t w (p + cN t r) (rs ++ [r]))) n := sumN.nn n (fun r => by
    by_cases z : gC t w r p
    · rw [pM.t z]; exact tQ.nn
    · rw [pM.f z]; exact Int.le_refl _)
  have n2' : 0 ≤ tQ t w (p + cN t n) (rs ++ [n]) := tQ.nn
  rw [s] at m
  have e2 := k rs a b c i x (by omega)
  rw [e, s, ← e1, ← e2]
  exact hf (by omega) (by omega) (by omega) (by omega)
theorem tFd.out {p n : Nat} {f : Int} (h : tFd t w d p n f) (hn : n = (t 0 0).toInt.toNat) (hp : p < (w 0 5).toInt.toNat) : tFm t w d p f := fun a b c x _ rs i l => by
  rw [tQ.st b hp, ← hn]
  exact h a b c x hp rs i l
end Fnx3
