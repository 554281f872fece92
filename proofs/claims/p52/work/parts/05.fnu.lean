/-! WHAT A WRITING MEANS: how it is SET, from place to place (behind 05.fnr) -/
section Gen
variable {α β : Type}
def gGo (R : α → α → Prop) : Nat → α → α → Prop
  | 0, a, b => a = b
  | k + 1, a, b => ∃ c, R a c ∧ gGo R k c b
def gRe (R : α → α → Prop) (a b : α) : Prop := ∃ k, gGo R k a b
variable {R : α → α → Prop} {V : α → β → Prop} {P : α → Prop}
theorem gGo.tr : ∀ (k k' : Nat) {a b c : α}, gGo R k a b → gGo R k' b c → gGo R (k + k') a c
  | 0, k', a, b, c, h, h' => by
    have e : a = b := h
    subst e
    rw [Nat.zero_add]
    exact h'
  | k + 1, k', a, b, c, h, h' => by
    obtain ⟨d, hd, g⟩ := h
    rw [Nat.add_right_comm]
    exact ⟨d, hd, gGo.tr k k' g h'⟩
theorem gRe.rf {a : α} : gRe R a a := ⟨0, rfl⟩
theorem gRe.st {a b c : α} (h : gRe R a b) (h' : R b c) : gRe R a c := by
  obtain ⟨k, g⟩ := h
  exact ⟨k + 1, gGo.tr k 1 g ⟨c, h', rfl⟩⟩
theorem gRe.tr {a b c : α} (h : gRe R a b) (h' : gRe R b c) : gRe R a c := by
  obtain ⟨k, g⟩ := h
  obtain ⟨k', g'⟩ := h'
  exact ⟨k + k', gGo.tr k k' g g'⟩
theorem gGo.one (hP : ∀ {a b}, P a → R a b → P b) (hR : ∀ {a b c}, P a → R a b → R a c → b = c) (hV : ∀ {a b v}, P a → R a b → V a v → False) (hW : ∀ {a v w}, P a → V a v → V a w → v = w) : ∀ (k k' : Nat) {a b c : α} {v w : β}, P a → gGo R k a b → V b v → gGo R k' a c → V c w → b = c ∧ v = w
  | 0, 0, a, b, c, v, w, h0, h, hv, h', hw => by
    have e1 : a = b := h
    have e2 : a = c := h'
    subst e1; subst e2
    exact ⟨rfl, hW h0 hv hw⟩
  | 0, k' + 1, a, b, c, v, w, h0, h, hv, h', hw => by
    have e1 : a = b := h
    subst e1
    obtain ⟨d, hd, _⟩ := h'
    exact (hV h0 hd hv).elim
  | k + 1, 0, a, b, c, v, w, h0, h, hv, h', hw => by
    have e1 : a = c := h'
    subst e1
    obtain ⟨d, hd, _⟩ := h
    exact (hV h0 hd hw).elim
  | k + 1, k' + 1, a, b, c, v, w, h0, h, hv, h', hw => by
    obtain ⟨d, hd, g⟩ := h
    obtain ⟨d', hd', g'⟩ := h'
    have e := hR h0 hd hd'
    subst e
    exact gGo.one hP hR hV hW k k' (hP h0 hd) g hv g' hw
theorem gRe.one (hP : ∀ {a b}, P a → R a b → P b) (hR : ∀ {a b c}, P a → R a b → R a c → b = c) (hV : ∀ {a b v}, P a → R a b → V a v → False) (hW : ∀ {a v w}, P a → V a v → V a w → v = w) {a b c : α} {v w : β} (h0 : P a) (h : gRe R a b) (hv : V b v) (h' : gRe R a c) (hw : V c w) : b = c ∧ v = w := by
  obtain ⟨k, g⟩ := h
  obtain ⟨k', g'⟩ := h'
  exact gGo.one (R := R) (V := V) (P := P) @hP @hR @hV @hW k k' h0 g hv g' hw
end Gen
/-- bytes ahead of n, the others 0 -/
def uB (F : Nat → Int) (n : Int) : Nat → Int := fun j => if (j : Int) < n then F j else 0
theorem uB.eq {F G : Nat → Int} {n : Int} (h : ∀ j : Nat, (j : Int) < n → F j = G j) : uB F n = uB G n := by
  funext j
  unfold uB
  by_cases q : (j : Int) < n
  · rw [if_pos q, if_pos q, h j q]
  · rw [if_neg q, if_neg q]
theorem uB.at {F : Nat → Int} {n : Int} {j : Nat} (h : (j : Int) < n) : uB F n j = F j := if_pos h
abbrev uBl (b : Int) : Prop := b = 10 ∨ b = 32
abbrev uDg (b : Int) : Prop := 48 ≤ b ∧ b ≤ 57
abbrev uGr (b : Int) : Prop := 65 ≤ b ∧ b ≤ 90
abbrev uLt (b : Int) : Prop := (97 ≤ b ∧ b ≤ 122) ∨ (65 ≤ b ∧ b ≤ 90)
def uLo (b : Int) : Int := if b ≤ 90 then b - 64 else b - 96
def uFg (b : Int) : Int := if b = 48 then 10 else b - 48
def uLC (T : fxT) (r : Nat) : Nat := (T.2.getD r fxE).1.length
def uLT (T : fxT) (r k : Nat) : Int := (T.2.getD r fxE).1.getD k 0
def uCC (T : fxT) (r : Nat) : Nat := (T.2.getD r fxE).2.1.length
def uCD (T : fxT) (r : Nat) : Int := (T.2.getD r fxE).2.2
/-- a RULE stands at p in the WORD from wf to wt -/
def uSt (T : fxT) (B : Nat → Int) (r : Nat) (p wf wt : Int) : Prop := p + (uLC T r : Int) ≤ wt ∧ (∀ k : Nat, k < uLC T r → uLo (B (p.toNat + k)) = uLT T r k ∧ (0 < k → ¬ uGr (B (p.toNat + k)))) ∧ coP (uCD T r) (p = wf) (p + (uLC T r : Int) = wt)
def uIn (T : fxT) (D : Int32) (B : Nat → Int) (p wf wt : Int) (r : Nat) : Prop := outB D (nI r) = false ∧ uSt T B r p wf wt
def uLg (T : fxT) (D : Int32) (B : Nat → Int) (p wf wt : Int) (r : Nat) : Prop := r < T.2.length ∧ uIn T D B p wf wt r ∧ ∀ j, j < T.2.length → uIn T D B p wf wt j → uLC T j < uLC T r ∨ (uLC T j = uLC T r ∧ r ≤ j)
def uNo (T : fxT) (D : Int32) (B : Nat → Int) (p wf wt : Int) : Prop := ∀ j, j < T.2.length → ¬ uIn T D B p wf wt j
def uWd (B : Nat → Int) (n p wf wt : Int) : Prop := (0 ≤ wf ∧ wf ≤ p ∧ p < wt ∧ wt ≤ n) ∧ (∀ j : Nat, wf ≤ (j : Int) → (j : Int) < wt → uLt (B j)) ∧ (wt < n → ¬ uLt (B wt.toNat)) ∧ (0 < wf → ¬ uLt (B (wf - 1).toNat))
/-- a RULE that is just a letter, without a COND -/
def uJt (T : fxT) (D : Int32) (w : Int) (r : Nat) : Prop := outB D (nI r) = false ∧ uLC T r = 1 ∧ uLT T r 0 = w ∧ uCD T r = 0
def uJs (T : fxT) (D : Int32) (w : Int) (r : Nat) : Prop := r < T.2.length ∧ uJt T D w r ∧ ∀ j, j < r → ¬ uJt T D w j
def uNj (T : fxT) (D : Int32) (w : Int) : Prop := ∀ j, j < T.2.length → ¬ uJt T D w j
/-- a blank CELL ahead of what stands here -/
def uGp (B : Nat → Int) (p c : Int) : Int := if 0 < p ∧ uBl (B (p - 1).toNat) ∧ 0 < c then 1 else 0
def uNu (B : Nat → Int) (p : Int) : Int := if 0 < p ∧ uDg (B (p - 1).toNat) then 0 else 1
def uCa (B : Nat → Int) (p : Int) : Int := if uGr (B p.toNat) then 1 else 0
/-- from a place, and so many CELLS, to the next -/
def uNx (T : fxT) (D : Int32) (B : Nat → Int) (n : Int) (a b : Int × Int) : Prop := a.1 < n ∧
  ((uBl (B a.1.toNat) ∧ b = (a.1 + 1, a.2)) ∨
   (uDg (B a.1.toNat) ∧ T.1 1 ≠ 0 ∧ ∃ r, uJs T D (uFg (B a.1.toNat)) r ∧ b = (a.1 + 1, a.2 + uGp B a.1 a.2 + uNu B a.1 + (uCC T r : Int))) ∨
   (uLt (B a.1.toNat) ∧ ∃ (wf wt : Int) (r : Nat), uWd B n a.1 wf wt ∧ uLg T D B a.1 wf wt r ∧ (uGr (B a.1.toNat) → T.1 0 ≠ 0) ∧ b = (a.1 + (uLC T r : Int), a.2 + uGp B a.1 a.2 + uCa B a.1 + (uCC T r : Int))))
/-- a fault here -/
def uFl (T : fxT) (D : Int32) (B : Nat → Int) (n : Int) (a : Int × Int) (k : Int) : Prop := a.1 < n ∧
  ((¬ uBl (B a.1.toNat) ∧ ¬ uDg (B a.1.toNat) ∧ ¬ uLt (B a.1.toNat) ∧ k = 1) ∨
   (uDg (B a.1.toNat) ∧ (T.1 1 = 0 ∨ uNj T D (uFg (B a.1.toNat))) ∧ k = 4) ∨
   (uLt (B a.1.toNat) ∧ ∃ wf wt : Int, uWd B n a.1 wf wt ∧ ((uNo T D B a.1 wf wt ∧ k = 3) ∨ ((∃ r, uLg T D B a.1 wf wt r) ∧ uGr (B a.1.toNat) ∧ T.1 0 = 0 ∧ k = 5))))
def uVd (T : fxT) (D : Int32) (B : Nat → Int) (n : Int) (a : Int × Int) (v : Int × Int) : Prop := (n ≤ a.1 ∧ v = (0, -1)) ∨ (uFl T D B n a v.1 ∧ v.2 = a.1)
section
variable {T : fxT} {D : Int32} {B : Nat → Int} {n p wf wt wf' wt' : Int} {r r' : Nat}
theorem uWd.uq (h : uWd B n p wf wt) (h' : uWd B n p wf' wt') : wf = wf' ∧ wt = wt' := by
  obtain ⟨⟨a0, a1, a2, a3⟩, b, c, d⟩ := h
  obtain ⟨⟨e0, e1, e2, e3⟩, f, g, i⟩ := h'
  constructor
  · rcases Int.lt_trichotomy wf wf' with q | q | q
    · exact absurd (b (wf' - 1).toNat (by omega) (by omega)) (i (by omega))
    · exact q
    · exact absurd (f (wf - 1).toNat (by omega) (by omega)) (d (by omega))
  · rcases Int.lt_trichotomy wt wt' with q | q | q
    · exact absurd (f wt.toNat (by omega) (by omega)) (c (by omega))
    · exact q
    · exact absurd (b wt'.toNat (by omega) (by omega)) (g (by omega))
theorem uLg.uq (h : uLg T D B p wf wt r) (h' : uLg T D B p wf wt r') : r = r' := by
  obtain ⟨a, b, c⟩ := h
  obtain ⟨a', b', c'⟩ := h'
  have q := c r' a' b'
  have q' := c' r a b
  omega
theorem uLg.no (h : uLg T D B p wf wt r) (h' : uNo T D B p wf wt) : False := h' r h.1 h.2.1
theorem uJs.uq {w : Int} (h : uJs T D w r) (h' : uJs T D w r') : r = r' := by
  rcases Nat.lt_trichotomy r r' with q | q | q
  · exact absurd h.2.1 (h'.2.2 r q)
  · exact q
  · exact absurd h'.2.1 (h.2.2 r' q)
theorem uJs.no {w : Int} (h : uJs T D w r) (h' : uNj T D w) : False := h' r h.1 h.2.1
theorem u_bd {b : Int} (h : uBl b) : ¬ uDg b := by unfold uBl at h; unfold uDg; omega
theorem u_bl {b : Int} (h : uBl b) : ¬ uLt b := by unfold uBl at h; unfold uLt; omega
theorem u_dl {b : Int} (h : uDg b) : ¬ uLt b := by unfold uDg at h; unfold uLt; omega
theorem uNx.det {a b c : Int × Int} (h : uNx T D B n a b) (h' : uNx T D B n a c) : b = c := by
  obtain ⟨_, h⟩ := h
  obtain ⟨_, h'⟩ := h'
  rcases h with ⟨h1, h2⟩ | ⟨h1, h2, r, h3, h4⟩ | ⟨h1, wf, wt, r, h2, h3, h4, h5⟩
  · rcases h' with ⟨g1, g2⟩ | ⟨g1, _⟩ | ⟨g1, _⟩
    · rw [h2, g2]
    · exact absurd g1 (u_bd h1)
    · exact absurd g1 (u_bl h1)
  · rcases h' with ⟨g1, g2⟩ | ⟨g1, g2, r', g3, g4⟩ | ⟨g1, _⟩
    · exact absurd h1 (u_bd g1)
    · have e := h3.uq g3
      subst e
      rw [h4, g4]
    · exact absurd g1 (u_dl h1)
  · rcases h' with ⟨g1, g2⟩ | ⟨g1, _⟩ | ⟨g1, wf', wt', r', g2, g3, g4, g5⟩
    · exact absurd h1 (u_bl g1)
    · exact absurd h1 (u_dl g1)
    · obtain ⟨e1, e2⟩ := h2.uq g2
      subst e1; subst e2
      have e := h3.uq g3
      subst e
      rw [h5, g5]
theorem uNx.fl {a b : Int × Int} {k : Int} (h : uNx T D B n a b) (h' : uFl T D B n a k) : False := by
  obtain ⟨_, h⟩ := h
  obtain ⟨_, h'⟩ := h'
  rcases h with ⟨h1, h2⟩ | ⟨h1, h2, r, h3, h4⟩ | ⟨h1, wf, wt, r, h2, h3, h4, h5⟩
  · rcases h' with ⟨g1, _⟩ | ⟨g1, _⟩ | ⟨g1, _⟩
    · exact g1 h1
    · exact u_bd h1 g1
    · exact u_bl h1 g1
  · rcases h' with ⟨_, g1, _⟩ | ⟨g1, g2, _⟩ | ⟨g1, _⟩
    · exact g1 h1
    · rcases g2 with g2 | g2
      · exact h2 g2
      · exact h3.no g2
    · exact u_dl h1 g1
  · rcases h' with ⟨_, _, g1, _⟩ | ⟨g1, _⟩ | ⟨g1, wf', wt', g2, g3⟩
    · exact g1 h1
    · exact u_dl g1 h1
    · obtain ⟨e1, e2⟩ := h2.uq g2
      subst e1; subst e2
      rcases g3 with ⟨g3, _⟩ | ⟨_, g4, g5, _⟩
      · exact h3.no g3
      · exact h4 g4 g5
theorem uFl.det {a : Int × Int} {k k' : Int} (h : uFl T D B n a k) (h' : uFl T D B n a k') : k = k' := by
  obtain ⟨_, h⟩ := h
  obtain ⟨_, h'⟩ := h'
  rcases h with ⟨h0, h1, h2, h3⟩ | ⟨h1, h2, h3⟩ | ⟨h1, wf, wt, h2, h3⟩
  · rcases h' with ⟨g0, g1, g2, g3⟩ | ⟨g1, g2, g3⟩ | ⟨g1, _⟩
    · rw [h3, g3]
    · exact absurd g1 h1
    · exact absurd g1 h2
  · rcases h' with ⟨g0, g1, g2, g3⟩ | ⟨g1, g2, g3⟩ | ⟨g1, _⟩
    · exact absurd h1 g1
    · rw [h3, g3]
    · exact absurd g1 (u_dl h1)
  · rcases h' with ⟨g0, g1, g2, g3⟩ | ⟨g1, g2, g3⟩ | ⟨g1, wf', wt', g2, g3⟩
    · exact absurd h1 g2
    · exact absurd h1 (u_dl g1)
    · obtain ⟨e1, e2⟩ := h2.uq g2
      subst e1; subst e2
      rcases h3 with ⟨h3, h4⟩ | ⟨⟨r, h3⟩, _, _, h4⟩
      · rcases g3 with ⟨g3, g4⟩ | ⟨⟨r', g3⟩, _, _, g4⟩
        · rw [h4, g4]
        · exact (g3.no h3).elim
      · rcases g3 with ⟨g3, g4⟩ | ⟨⟨r', g3⟩, _, _, g4⟩
        · exact (h3.no g3).elim
        · rw [h4, g4]
theorem uNx.vd {a b v : Int × Int} (h : uNx T D B n a b) (h' : uVd T D B n a v) : False := by
  rcases h' with ⟨g1, _⟩ | ⟨g1, _⟩
  · have := h.1
    omega
  · exact h.fl g1
theorem uVd.det {a v w : Int × Int} (h : uVd T D B n a v) (h' : uVd T D B n a w) : v = w := by
  rcases h with ⟨h1, h2⟩ | ⟨h1, h2⟩
  · rcases h' with ⟨g1, g2⟩ | ⟨g1, g2⟩
    · rw [h2, g2]
    · have := g1.1
      omega
  · rcases h' with ⟨g1, g2⟩ | ⟨g1, g2⟩
    · have := h1.1
      omega
    · exact Prod.ext (h1.det g1) (h2.trans g2.symm)
/-- two settings of one WRITING end alike -/
theorem uRe.one {a b c v w : Int × Int} (h : gRe (uNx T D B n) a b) (hv : uVd T D B n b v) (h' : gRe (uNx T D B n) a c) (hw : uVd T D B n c w) : b = c ∧ v = w :=
  gRe.one (P := fun _ => True) (fun _ _ => trivial) (fun _ h1 h2 => h1.det h2) (fun _ h1 h2 => h1.vd h2) (fun _ h1 h2 => h1.det h2) trivial h hv h' hw
end
/-! the class's table, RULE by RULE -/
section
variable {I : Nat → Nat → Int32} {r : Nat}
theorem uTc.at (hr : (r : Int) < (I 0 0).toInt) : (fxTc I).2.getD r fxE = fxRc I r := by
  show ((List.range (I 0 0).toInt.toNat).map (fxRc I)).getD r fxE = _
  rw [List.getD_eq_getElem?_getD, List.getElem?_map, List.getElem?_range (by omega)]
  rfl
theorem uTc.lc (hr : (r : Int) < (I 0 0).toInt) : uLC (fxTc I) r = (I 2 r).toInt.toNat := by
  unfold uLC
  rw [uTc.at hr]
  exact fxLs.len
theorem uTc.cc (hr : (r : Int) < (I 0 0).toInt) : uCC (fxTc I) r = (I 3 r).toInt.toNat := by
  unfold uCC
  rw [uTc.at hr]
  exact fxCs.len
theorem uTc.cd (hr : (r : Int) < (I 0 0).toInt) : uCD (fxTc I) r = (I 4 r).toInt := by
  unfold uCD
  rw [uTc.at hr]
  rfl
theorem uTc.lt {k : Nat} (hr : (r : Int) < (I 0 0).toInt) (hk : k < (I 2 r).toInt.toNat) : uLT (fxTc I) r k = (I 5 (6 * r + k)).toInt := by
  unfold uLT
  rw [uTc.at hr]
  show (fxLs I r).getD k 0 = _
  unfold fxLs
  rw [List.getD_eq_getElem?_getD, List.getElem?_map, List.getElem?_range hk]
  rfl
theorem uTc.sg {k : Nat} (hk : k < 5) : (fxTc I).1 k = (I 1 k).toInt := by
  show fxSg I k = _
  unfold fxSg
  rw [if_pos hk]
def HL1 (I : Nat → Nat → Int32) : Prop := ∀ r : Nat, (r : Int) < (I 0 0).toInt → 1 ≤ (I 2 r).toInt
/-- what a RULE's standing takes for granted -/
def uPr (I : Nat → Nat → Int32) (X : Nat → Int) (p wt : Int) : Prop := HL1 I ∧ ∀ j : Nat, p ≤ (j : Int) → (j : Int) < wt → uLt (X j)
theorem u_lo {b z : Int32} (h : z = b &&& 31) (hb : uLt b.toInt) : z.toInt = uLo b.toInt := by
  unfold uLo
  rcases hb with q | q
  · rw [fx_let h q, if_neg (by omega)]
  · rw [fx_letG h q, if_pos (by omega)]
end
section
variable {I : Nat → Nat → Int32} {X : Nat → Int} {rule k : Nat} {p wf wt : Int} {b z y : Int32}
theorem u_mis (hr : (rule : Int) < (I 0 0).toInt) (hp : uPr I X p wt) (h0 : 0 ≤ p) (q : uSt (fxTc I) X rule p wf wt) (hk : (k : Int) < (I 2 rule).toInt) (hb : b.toInt = X (p.toNat + k)) (hz : z = b &&& 31) (hy : y = I 5 (6 * rule + k)) : z.toInt = y.toInt := by
  have a := (q.2.1 k (by rw [uTc.lc hr]; omega)).1
  have w := q.1
  rw [uTc.lt hr (by omega)] at a
  rw [uTc.lc hr] at w
  rw [hy, ← a, ← hb]
  exact u_lo hz (by rw [hb]; exact hp.2 _ (by omega) (by omega))
theorem u_mig (hr : (rule : Int) < (I 0 0).toInt) (q : uSt (fxTc I) X rule p wf wt) (hk : (k : Int) < (I 2 rule).toInt) (h0 : 0 < k) (hb : b.toInt = X (p.toNat + k)) (hg : 65 ≤ b.toInt ∧ b.toInt ≤ 90) : False :=
  (q.2.1 k (by rw [uTc.lc hr]; omega)).2 h0 (by rw [← hb]; exact hg)
theorem u_hit (hp : uPr I X p wt) (h0 : 0 ≤ p) (hk : p + (k : Int) < wt) (hb : b.toInt = X (p.toNat + k)) (hz : z = b &&& 31) (hy : y = I 5 (6 * rule + k)) (he : z.toInt = y.toInt) : uLo (X (p.toNat + k)) = (I 5 (6 * rule + k)).toInt := by
  rw [← hy, ← he, ← hb]
  exact (u_lo hz (by rw [hb]; exact hp.2 _ (by omega) (by omega))).symm
theorem uJt.iff {D : Int32} {w : Int} {r : Nat} (hr : (r : Int) < (I 0 0).toInt) : uJt (fxTc I) D w r ↔ (outB D (nI r) = false ∧ (I 2 r).toInt = 1 ∧ (I 5 (6 * r)).toInt = w ∧ (I 4 r).toInt = 0) := by
  unfold uJt
  rw [uTc.lc hr, uTc.cd hr]
  constructor
  · rintro ⟨a, b, c, d⟩
    rw [uTc.lt hr (by omega), Nat.add_zero] at c
    exact ⟨a, by omega, c, d⟩
  · rintro ⟨a, b, c, d⟩
    refine ⟨a, by omega, ?_, d⟩
    rw [uTc.lt hr (by omega), Nat.add_zero]
    exact c
end
/-- the best so far, of the first v RULES -/
def uBs (T : fxT) (D : Int32) (B : Nat → Int) (p wf wt : Int) (b m : Int) (v : Nat) : Prop :=
  (b = -1 ∧ m = 0 ∧ ∀ j, j < v → ¬ uIn T D B p wf wt j) ∨
  (0 ≤ b ∧ b.toNat < v ∧ m = (uLC T b.toNat : Int) ∧ uIn T D B p wf wt b.toNat ∧ ∀ j, j < v → uIn T D B p wf wt j → uLC T j < uLC T b.toNat ∨ (uLC T j = uLC T b.toNat ∧ b.toNat ≤ j))
section
variable {T : fxT} {D : Int32} {B : Nat → Int} {p wf wt b m b2 m2 : Int} {v v2 : Nat}
theorem uBs.in : uBs T D B p wf wt (-1) 0 0 := Or.inl ⟨rfl, rfl, fun _ h => absurd h (Nat.not_lt_zero _)⟩
theorem uBs.take (h : uBs T D B p wf wt b m v) (hi : uIn T D B p wf wt v) (hm : m < (uLC T v : Int)) (hb : b2 = (v : Int)) (h2 : m2 = (uLC T v : Int)) (hv : v2 = v + 1) : uBs T D B p wf wt b2 m2 v2 := by
  subst hb; subst h2; subst hv
  refine Or.inr ⟨by omega, by omega, by rw [Int.toNat_natCast], by rw [Int.toNat_natCast]; exact hi, fun j hj q => ?_⟩
  rw [Int.toNat_natCast]
  by_cases e : j = v
  · subst e
    exact Or.inr ⟨rfl, Nat.le_refl _⟩
  · rcases h with ⟨_, _, h⟩ | ⟨_, _, h1, _, h⟩
    · exact absurd q (h j (by omega))
    · have := h j (by omega) q
      omega
theorem uBs.no (h : uBs T D B p wf wt b m v) (hi : ¬ uIn T D B p wf wt v) (hv : v2 = v + 1) : uBs T D B p wf wt b m v2 := by
  subst hv
  rcases h with ⟨a, c, h⟩ | ⟨a, c, d, e, h⟩
  · refine Or.inl ⟨a, c, fun j hj q => ?_⟩
    by_cases w : j = v
    · subst w; exact hi q
    · exact h j (by omega) q
  · refine Or.inr ⟨a, by omega, d, e, fun j hj q => ?_⟩
    by_cases w : j = v
    · subst w; exact absurd q hi
    · exact h j (by omega) q
theorem uBs.less (h : uBs T D B p wf wt b m v) (h1 : 1 ≤ uLC T v) (hm : (uLC T v : Int) ≤ m) (hv : v2 = v + 1) : uBs T D B p wf wt b m v2 := by
  subst hv
  rcases h with ⟨a, c, h⟩ | ⟨a, c, d, e, h⟩
  · omega
  · refine Or.inr ⟨a, by omega, d, e, fun j hj q => ?_⟩
    by_cases w : j = v
    · subst w; omega
    · exact h j (by omega) q
theorem uBs.out (h : uBs T D B p wf wt b m v) (hv : v = T.2.length) : (b = -1 ∧ uNo T D B p wf wt) ∨ (0 ≤ b ∧ uLg T D B p wf wt b.toNat) := by
  subst hv
  rcases h with ⟨a, c, h⟩ | ⟨a, c, d, e, h⟩
  · exact Or.inl ⟨a, h⟩
  · exact Or.inr ⟨a, c, e, h⟩
end
/-- the class's loop over the WRITING -/
def uLi (T : fxT) (D : Int32) (B : Nat → Int) (n q many gap fault place wf wt : Int) : Prop :=
  (fault = 0 ∧ place = -1 ∧ gRe (uNx T D B n) (0, 0) (q, many) ∧ 0 ≤ q ∧ q ≤ max n 0 ∧ (gap ≠ 0 ↔ (0 < q ∧ uBl (B (q - 1).toNat) ∧ 0 < many)) ∧ ((q < wt → uWd B n q wf wt) ∧ (wt ≤ q → q < n → uLt (B q.toNat) → 0 < q → ¬ uLt (B (q - 1).toNat))) ∧ (0 ≤ many ∧ many ≤ 4 * q ∧ (0 < q → uBl (B (q - 1).toNat) → many + 4 ≤ 4 * q ∨ many = 0))) ∨
  (fault ≠ 0 ∧ ∃ c : Int × Int, gRe (uNx T D B n) (0, 0) c ∧ uFl T D B n c fault ∧ place = c.1)
section
variable {T : fxT} {D : Int32} {B : Nat → Int} {n q q2 many gap place wf wt many2 gap2 place2 wf2 wt2 f f2 : Int}
theorem uLi.in (hg : gap = 0) (hm : many = 0) (hf : f = 0) (hp : place = -1) (hw : wt = 0) (hq : q = 0) : uLi T D B n q many gap f place wf wt := by
  subst hg; subst hm; subst hf; subst hp; subst hw; subst hq
  exact Or.inl ⟨rfl, rfl, gRe.rf, by omega, by omega, by omega, ⟨fun h => by omega, fun _ _ _ h => by omega⟩, by omega⟩
/-- a blank -/
theorem uLi.bl (h : uLi T D B n q many gap f place wf wt) (hf : f = 0) (hn : q < n) (hb : uBl (B q.toNat)) (hg : (gap2 ≠ 0 ↔ 0 < many)) (h2 : q2 = q + 1) : uLi T D B n q2 many gap2 f place wf wt := by
  subst h2
  rcases h with ⟨h1, h2, h3, h4, h5, h6, ⟨h7, h8⟩, h9, h10, h11⟩ | ⟨h1, _⟩
  · have eq : (q + 1 - 1).toNat = q.toNat := by omega
    refine Or.inl ⟨h1, h2, h3.st ⟨hn, Or.inl ⟨hb, rfl⟩⟩, by omega, by omega, ?_, ⟨fun w => ?_, fun _ _ _ _ => ?_⟩, h9, by omega, fun _ _ => ?_⟩
    · rw [hg, eq]
      exact ⟨fun w => ⟨by omega, hb, w⟩, fun w => w.2.2⟩
    · obtain ⟨w3, w4, _⟩ := h7 (by omega)
      exact absurd (w4 q.toNat (by omega) (by omega)) (u_bl hb)
    · rw [eq]; exact u_bl hb
    · omega
  · exact absurd hf h1
theorem uGp.of (h6 : (gap ≠ 0 ↔ (0 < q ∧ uBl (B (q - 1).toNat) ∧ 0 < many))) : uGp B q many = if gap ≠ 0 then 1 else 0 := by
  unfold uGp
  by_cases w : gap ≠ 0
  · rw [if_pos w, if_pos (h6.1 w)]
  · rw [if_neg w, if_neg (fun e => w (h6.2 e))]
/-- a digit -/
theorem uLi.dg {r : Nat} (h : uLi T D B n q many gap f place wf wt) (hf : f = 0) (hn : q < n) (hb : uDg (B q.toNat)) (h1n : T.1 1 ≠ 0) (hr : uJs T D (uFg (B q.toNat)) r) (hc : uCC T r ≤ 3) (hm : many2 = many + (if gap ≠ 0 then 1 else 0) + uNu B q + (uCC T r : Int)) (hg : gap2 = 0) (h2 : q2 = q + 1) : uLi T D B n q2 many2 gap2 f place wf wt := by
  subst h2; subst hg
  rcases h with ⟨h1, h2, h3, h4, h5, h6, ⟨h7, h8⟩, h9, h10, h11⟩ | ⟨h1, _⟩
  · have eq : (q + 1 - 1).toNat = q.toNat := by omega
    rw [← uGp.of h6] at hm
    have hu : 0 ≤ uNu B q ∧ uNu B q ≤ 1 := by unfold uNu; split <;> omega
    have hgp : 0 ≤ uGp B q many ∧ (uGp B q many = 0 ∨ (uGp B q many = 1 ∧ (many + 4 ≤ 4 * q))) := by
      unfold uGp
      split
      · rename_i w
        have := h11 w.1 w.2.1
        omega
      · omega
    refine Or.inl ⟨h1, h2, h3.st ⟨hn, Or.inr (Or.inl ⟨hb, h1n, r, hr, Prod.ext rfl hm⟩)⟩, by omega, by omega, ?_, ⟨fun w => ?_, fun _ _ _ _ => ?_⟩, by omega, by omega, fun _ w => ?_⟩
    · rw [eq]
      exact ⟨fun w => absurd rfl w, fun w => absurd hb (u_bd w.2.1)⟩
    · obtain ⟨w3, w4, _⟩ := h7 (by omega)
      exact absurd (w4 q.toNat (by omega) (by omega)) (u_dl hb)
    · rw [eq]; exact u_dl hb
    · rw [eq] at w; exact absurd hb (u_bd w)
  · exact absurd hf h1
theorem u_ar {m m2 q1 g1 u1 : Int} {L C : Nat} (h9 : 0 ≤ m) (h10 : m ≤ 4 * q1) (hg : 0 ≤ g1 ∧ (g1 = 0 ∨ (g1 = 1 ∧ (m + 4 ≤ 4 * q1)))) (hu : 0 ≤ u1 ∧ u1 ≤ 1) (hc : C ≤ 3) (h1 : 1 ≤ L) (hm : m2 = m + g1 + u1 + (C : Int)) : 0 ≤ m2 ∧ m2 ≤ 4 * (q1 + (L : Int)) := by omega
theorem u_ix {q1 a b : Int} {L : Nat} (h0 : 0 ≤ a) (h1 : a ≤ q1) (h2 : 1 ≤ L) (h3 : q1 + (L : Int) ≤ b) : a ≤ (((q1 + (L : Int) - 1).toNat : Nat) : Int) ∧ (((q1 + (L : Int) - 1).toNat : Nat) : Int) < b ∧ a ≤ q1 + (L : Int) ∧ 0 ≤ q1 + (L : Int) := by omega
/-- a RULE at a letter -/
theorem uLi.lt {r : Nat} (h : uLi T D B n q many gap f place wf wt) (hf : f = 0) (hn : q < n) (hb : uLt (B q.toNat)) (hw : uWd B n q wf2 wt2) (hr : uLg T D B q wf2 wt2 r) (h1 : 1 ≤ uLC T r) (hgr : uGr (B q.toNat) → T.1 0 ≠ 0) (hc : uCC T r ≤ 3) (hm : many2 = many + (if gap ≠ 0 then 1 else 0) + uCa B q + (uCC T r : Int)) (hg : gap2 = 0) (h2 : q2 = q + (uLC T r : Int)) : uLi T D B n q2 many2 gap2 f place wf2 wt2 := by
  subst h2; subst hg
  rcases h with ⟨h1', h2, h3, h4, h5, h6, ⟨h7, h8⟩, h9, h10, h11⟩ | ⟨h1', _⟩
  · rw [← uGp.of h6] at hm
    have hu : 0 ≤ uCa B q ∧ uCa B q ≤ 1 := by unfold uCa; split <;> omega
    have hgp : 0 ≤ uGp B q many ∧ (uGp B q many = 0 ∨ (uGp B q many = 1 ∧ (many + 4 ≤ 4 * q))) := by
      unfold uGp
      split
      · rename_i w
        have := h11 w.1 w.2.1
        omega
      · omega
    have hs := hr.2.1.2.1
    obtain ⟨⟨w0, w1, w2, w3⟩, w4, w5, w6⟩ := hw
    obtain ⟨x1, x2, x3, x4⟩ := u_ix w0 w1 h1 hs
    obtain ⟨y1, y2⟩ := u_ar h9 h10 hgp hu hc h1 hm
    have hl : uLt (B (q + (uLC T r : Int) - 1).toNat) := w4 _ x1 x2
    have st : uNx T D B n (q, many) (q + (uLC T r : Int), many2) := ⟨hn, Or.inr (Or.inr ⟨hb, wf2, wt2, r, ⟨⟨w0, w1, w2, w3⟩, w4, w5, w6⟩, hr, hgr, Prod.ext rfl hm⟩)⟩
    have nb : ¬ uBl (B (q + (uLC T r : Int) - 1).toNat) := fun w => u_bl w hl
    refine Or.inl ⟨h1', h2, h3.st st, x4, Int.le_trans hs (Int.le_trans w3 (Int.le_max_left n 0)), ⟨fun w => absurd rfl w, fun w => absurd w.2.1 nb⟩, ⟨fun w => ⟨⟨w0, x3, w, w3⟩, w4, w5, w6⟩, fun z1 z2 z3 _ => ?_⟩, y1, y2, fun _ w => absurd w nb⟩
    exfalso
    have e : q + (uLC T r : Int) = wt2 := Int.le_antisymm hs z1
    rw [e] at z3 z2
    exact w5 z2 z3
  · exact absurd hf h1'
/-- a fault -/
theorem uLi.fl (h : uLi T D B n q many gap f place wf wt) (hf : f = 0) (hk : uFl T D B n (q, many) f2) (hz : f2 ≠ 0) (hp : place2 = q) : uLi T D B n q2 many2 gap2 f2 place2 wf2 wt2 := by
  rcases h with ⟨h1, h2, h3, _⟩ | ⟨h1, _⟩
  · exact Or.inr ⟨hz, _, h3, hk, hp⟩
  · exact absurd hf h1
theorem uFl.mn {c c2 k : Int} (h : uFl T D B n (q, c) k) : uFl T D B n (q, c2) k := h
theorem uLi.end (h : uLi T D B n q many gap f place wf wt) (hq : f = 0 → n ≤ q) : ∃ (c v : Int × Int), gRe (uNx T D B n) (0, 0) c ∧ uVd T D B n c v ∧ ((f = 0 ∧ v = (0, -1) ∧ many = c.2 ∧ place = -1) ∨ (f ≠ 0 ∧ v = (f, place))) := by
  rcases h with ⟨h1, h2, h3, _⟩ | ⟨h1, c, h2, h3, h4⟩
  · exact ⟨_, _, h3, Or.inl ⟨hq h1, rfl⟩, Or.inl ⟨h1, rfl, rfl, h2⟩⟩
  · exact ⟨c, (f, place), h2, Or.inr ⟨h3, h4⟩, Or.inr ⟨h1, rfl⟩⟩
theorem uLi.wd (h : uLi T D B n q many gap f place wf wt) (hf : f = 0) (hn : q < n) (hb : uLt (B q.toNat)) : (q < wt → uWd B n q wf wt) ∧ (wt ≤ q → 0 < q → ¬ uLt (B (q - 1).toNat)) := by
  rcases h with ⟨h1, h2, h3, h4, h5, h6, ⟨h7, h8⟩, h9⟩ | ⟨h1, _⟩
  · exact ⟨h7, fun a => h8 a hn hb⟩
  · exact absurd hf h1
theorem uLi.mn (h : uLi T D B n q many gap f place wf wt) (hf : f = 0) (hq : q < 300) : 0 ≤ many ∧ many + (if gap ≠ 0 then 1 else 0) ≤ 1196 := by
  rcases h with ⟨h1, h2, h3, h4, h5, h6, _, h9, h10, h11⟩ | ⟨h1, _⟩
  · refine ⟨h9, ?_⟩
    split
    · rename_i w
      have w2 := h6.1 w
      have := h11 w2.1 w2.2.1
      omega
    · omega
  · exact absurd hf h1
end
section
variable {T : fxT} {D : Int32} {B : Nat → Int} {p wf wt b m b2 : Int} {v v2 : Nat}
theorem uBs.tk1 (h : uBs T D B p wf wt b m v) (hb1 : b = -1) (hi : uIn T D B p wf wt v) (h1 : 1 ≤ uLC T v) (hb : b2 = (v : Int)) (hv : v2 = v + 1) : ∃ m2, uBs T D B p wf wt b2 m2 v2 := by
  refine ⟨_, h.take hi ?_ hb rfl hv⟩
  rcases h with ⟨_, c, _⟩ | ⟨a, _⟩ <;> omega
theorem uBs.tk2 (h : uBs T D B p wf wt b m v) (hb0 : 0 ≤ b) (hi : uIn T D B p wf wt v) (h1 : uLC T b.toNat < uLC T v) (hb : b2 = (v : Int)) (hv : v2 = v + 1) : ∃ m2, uBs T D B p wf wt b2 m2 v2 := by
  refine ⟨_, h.take hi ?_ hb rfl hv⟩
  rcases h with ⟨_, c, _⟩ | ⟨a, _, d, _⟩ <;> omega
theorem uBs.ls2 (h : uBs T D B p wf wt b m v) (hb0 : 0 ≤ b) (h1 : 1 ≤ uLC T v) (h2 : uLC T v ≤ uLC T b.toNat) (hv : v2 = v + 1) : ∃ m2, uBs T D B p wf wt b m2 v2 := by
  refine ⟨m, h.less h1 ?_ hv⟩
  rcases h with ⟨_, c, _⟩ | ⟨a, _, d, _⟩ <;> omega
end
section
variable {T : fxT} {D : Int32} {F : Nat → Int} {n p wf wt : Int} {r : Nat}
theorem uWd.mk (h : uWd F n p wf wt) : uWd (uB F n) n p wf wt := by
  obtain ⟨⟨a0, a1, a2, a3⟩, b, c, d⟩ := h
  refine ⟨⟨a0, a1, a2, a3⟩, fun j h1 h2 => by rw [uB.at (by omega)]; exact b j h1 h2, fun q => by rw [uB.at (by omega)]; exact c q, fun q => by rw [uB.at (by omega)]; exact d q⟩
theorem uWd.km (h : uWd (uB F n) n p wf wt) : uWd F n p wf wt := by
  obtain ⟨⟨a0, a1, a2, a3⟩, b, c, d⟩ := h
  refine ⟨⟨a0, a1, a2, a3⟩, fun j h1 h2 => ?_, fun q => ?_, fun q => ?_⟩
  · have w := b j h1 h2
    rw [uB.at (by omega)] at w
    exact w
  · have w := c q
    rw [uB.at (by omega)] at w
    exact w
  · have w := d q
    rw [uB.at (by omega)] at w
    exact w
theorem uSt.mk (hn : wt ≤ n) (h0 : 0 ≤ p) : uSt T F r p wf wt ↔ uSt T (uB F n) r p wf wt := by
  constructor
  · rintro ⟨a, b, c⟩
    exact ⟨a, fun k hk => by rw [uB.at (by omega)]; exact b k hk, c⟩
  · rintro ⟨a, b, c⟩
    refine ⟨a, fun k hk => ?_, c⟩
    have w := b k hk
    rw [uB.at (by omega)] at w
    exact w
theorem uIn.mk (hn : wt ≤ n) (h0 : 0 ≤ p) : uIn T D F p wf wt r ↔ uIn T D (uB F n) p wf wt r := by
  unfold uIn
  rw [uSt.mk hn h0]
theorem uNo.mk' (hn : wt ≤ n) (h0 : 0 ≤ p) (h : uNo T D F p wf wt) : uNo T D (uB F n) p wf wt := fun j hj q => h j hj ((uIn.mk hn h0).2 q)
theorem uLg.mk' (hn : wt ≤ n) (h0 : 0 ≤ p) (h : uLg T D F p wf wt r) : uLg T D (uB F n) p wf wt r := ⟨h.1, (uIn.mk hn h0).1 h.2.1, fun j hj q => h.2.2 j hj ((uIn.mk hn h0).2 q)⟩
theorem uNu.mk (h : p ≤ n) : uNu F p = uNu (uB F n) p := by
  unfold uNu
  by_cases q : 0 < p
  · rw [uB.at (by omega)]
  · rw [if_neg (fun w => q w.1), if_neg (fun w => q w.1)]
theorem uCa.mk (h : 0 ≤ p ∧ p < n) : uCa F p = uCa (uB F n) p := by
  unfold uCa
  rw [uB.at (by omega)]
end
