/-! the class's ROW and text (behind fnx) -/
def tRw (w : Nat → Nat → Int32) : List Int := (List.range (w 0 5).toInt.toNat).map (fun k => (w 2 k).toInt)
section Fnx2
variable {t w w' : Nat → Nat → Int32} {r k : Nat} {l row : List Int} {c m : Int}
theorem tRw.len : (tRw w).length = (w 0 5).toInt.toNat := by
  unfold tRw
  rw [List.length_map, List.length_range]
theorem tRw.get (hk : k < (w 0 5).toInt.toNat) : (tRw w).getD k 0 = (w 2 k).toInt := by
  unfold tRw
  rw [List.getD_eq_getElem?_getD, List.getElem?_map, List.getElem?_range hk]
  rfl
theorem tRw.of (e2 : w' 2 = w 2) (e5 : w' 0 5 = w 0 5) : tRw w' = tRw w := by
  unfold tRw
  rw [e2, e5]
theorem tPre.get (h : tPre l row) : l.length ≤ row.length ∧ ∀ k, k < l.length → l.getD k 0 = row.getD k 0 := by
  obtain ⟨x, e⟩ := h
  rw [e]
  refine ⟨by rw [List.length_append]; omega, fun k hk => ?_⟩
  rw [List.getD_eq_getElem?_getD, List.getD_eq_getElem?_getD, List.getElem?_append_left hk]
theorem tPre.mk (h1 : l.length ≤ row.length) (h2 : ∀ k, k < l.length → l.getD k 0 = row.getD k 0) : tPre l row := by
  refine ⟨row.drop l.length, List.ext_getElem? (fun k => ?_)⟩
  by_cases q : k < l.length
  · have a := h2 k q
    rw [List.getD_eq_getElem?_getD, List.getD_eq_getElem?_getD, List.getElem?_eq_getElem q, List.getElem?_eq_getElem (by omega)] at a
    rw [List.getElem?_append_left q, List.getElem?_eq_getElem q, List.getElem?_eq_getElem (by omega)]
    exact congrArg some a.symm
  · rw [List.getElem?_append_right (by omega), List.getElem?_drop, show l.length + (k - l.length) = k by omega]
theorem tPre.eq (h : tPre l row) (e : l.length = row.length) : l = row := by
  obtain ⟨x, y⟩ := h
  have z : x.length = 0 := by
    have := congrArg List.length y
    rw [List.length_append] at this
    omega
  rw [y, List.eq_nil_of_length_eq_zero z, List.append_nil]
theorem tCs.cl (hr : (r : Int) < (t 0 0).toInt) : tCs (fxTc t) r = fxCs t r := by
  unfold tCs
  rw [uTc.at hr]
  rfl
theorem tCs.get (hr : (r : Int) < (t 0 0).toInt) (hk : k < (cC t r).toInt.toNat) : (tCs (fxTc t) r).getD k 0 = (cL t r k).toInt := by
  rw [tCs.cl hr]
  unfold fxCs
  rw [List.getD_eq_getElem?_getD, List.getElem?_map, List.getElem?_range (show k < (t 3 r).toInt.toNat from hk)]
  rfl
theorem tCs.ln (hr : (r : Int) < (t 0 0).toInt) : (tCs (fxTc t) r).length = (cC t r).toInt.toNat := by
  rw [tCs.cl hr]
  exact fxCs.len
/-- a RULE's CELLS go on as the ROW does -/
def tGv (t w : Nat → Nat → Int32) (r : Nat) (c : Nat) : Prop := (c : Int) + (cC t r).toInt ≤ (w 0 5).toInt ∧ ∀ k : Nat, (k : Int) < (cC t r).toInt → cL t r k = w 2 (c + k)
theorem tPre.sn (h : tPre l (tRw w)) (hw : 0 ≤ (w 0 5).toInt) (hT : TI t) (hr : (r : Int) < (t 0 0).toInt) : tPre (l ++ tCs (fxTc t) r) (tRw w) ↔ tGv t w r l.length := by
  have h3 := hT.cc r
  have hcc : (cC t r).toInt = (t 3 r).toInt := rfl
  obtain ⟨a, b⟩ := h.get
  rw [tRw.len] at a
  have ln := tCs.ln (t := t) hr
  constructor
  · intro q
    obtain ⟨x, y⟩ := q.get
    rw [List.length_append, ln, tRw.len] at x
    rw [List.length_append, ln] at y
    refine ⟨by omega, fun k hk => ?_⟩
    have z := y (l.length + k) (by omega)
    rw [List.getD_eq_getElem?_getD, List.getElem?_append_right (by omega), show l.length + k - l.length = k by omega, ← List.getD_eq_getElem?_getD, tCs.get hr (by omega), tRw.get (by omega)] at z
    exact Int32.toInt_inj.mp z
  · rintro ⟨x, y⟩
    refine tPre.mk (by rw [List.length_append, ln, tRw.len]; omega) (fun k hk => ?_)
    rw [List.length_append, ln] at hk
    by_cases q : k < l.length
    · rw [List.getD_eq_getElem?_getD, List.getElem?_append_left q, ← List.getD_eq_getElem?_getD]
      exact b k q
    · rw [List.getD_eq_getElem?_getD, List.getElem?_append_right (by omega), ← List.getD_eq_getElem?_getD, tCs.get hr (by omega), tRw.get (by omega), y (k - l.length) (by omega)]
      congr 2
      omega
/-- so far SET: so many letters, so many CELLS, as the ROW has them -/
def tJ (T : fxT) (D : Int32) (B : Nat → Int) (row : List Int) (n bd p c : Int) : Prop := p ≤ max n 0 ∧ ∃ l, gRe (tNx T D B n bd) (0, []) (p, l) ∧ c = (l.length : Int) ∧ tPre l row
theorem tJ.in {T : fxT} {D : Int32} {B : Nat → Int} {n bd p c : Int} (hp : p = 0) (hc : c = 0) : tJ T D B row n bd p c := by
  rw [hp, hc]
  exact ⟨by omega, [], gRe.rf, rfl, row, rfl⟩
theorem tJ.up {T : fxT} {D : Int32} {B : Nat → Int} {n bd bd2 p c : Int} (h : tJ T D B row n bd p c) (hb : bd ≤ bd2) : tJ T D B row n bd2 p c := by
  obtain ⟨a, l, g, e, q⟩ := h
  exact ⟨a, l, gRe.mo (fun x => tNx.up hb x) g, e, q⟩
theorem tJ.cg {T : fxT} {D : Int32} {B B' : Nat → Int} {n bd p c : Int} (h : tJ T D B row n bd p c) (e : ∀ j : Nat, (j : Int) < n → B j = B' j) : tJ T D B' row n bd p c := by
  obtain ⟨a, l, g, x, q⟩ := h
  exact ⟨a, l, gRe.mo (fun y => tNx.cg e y) g, x, q⟩
theorem tJ.ext {T : fxT} {D : Int32} {B B' : Nat → Int} {n n' bd bd2 p c : Int} (hL : ∀ r, r < T.2.length → uLC T r ≤ 6) (h : tJ T D B row n bd p c) (h6 : bd + 6 ≤ n) (hn : n ≤ n') (hb : bd ≤ bd2) (e : ∀ j : Nat, (j : Int) < n → B j = B' j) : tJ T D B' row n' bd2 p c := by
  obtain ⟨a, l, g, x, q⟩ := h
  exact ⟨by omega, l, gRe.mo (fun y => tNx.ext hL h6 hn hb e y) g, x, q⟩
theorem tBad.cg {T : fxT} {D : Int32} {B B' : Nat → Int} {n bd : Int} (e : ∀ j : Nat, (j : Int) < n → B j = B' j) (h : tBad T D B n bd row) : tBad T D B' n bd row := by
  obtain ⟨p, l, g, h0, h1, h2⟩ := h
  refine ⟨p, l, gRe.mo (fun y => tNx.cg e y) g, h0, h1, ?_⟩
  rcases h2 with h2 | ⟨r, x, y⟩
  · exact Or.inl (h2.cg h0 (fun j _ q => e j q))
  · exact Or.inr ⟨r, x.cg h0 (fun j _ q => e j q), y⟩
/-- a RULE more that gives the ROW -/
theorem tJ.st {D : Int32} {B : Nat → Int} {n bd p p2 c2 : Int} (hT : TI t) (hw : 0 ≤ (w 0 5).toInt) (h : tJ (fxTc t) D B (tRw w) n bd p c) (h0 : 0 ≤ p) (hb : p < bd) (hr : uLg (fxTc t) D B p 0 n r) (hg : tGv t w r c.toNat) (hp : p2 = p + (uLC (fxTc t) r : Int)) (hc : c2 = c + (cC t r).toInt) : tJ (fxTc t) D B (tRw w) n bd p2 c2 := by
  obtain ⟨a, l, g, e, q⟩ := h
  have hr2 : (r : Int) < (t 0 0).toInt := by
    have := hr.1
    rw [fxTc.len] at this
    omega
  have h3 := hT.cc r
  have hcc : (cC t r).toInt = (t 3 r).toInt := rfl
  have el : c.toNat = l.length := by omega
  have w9 := hr.2.1.2.1
  rw [el] at hg
  refine ⟨by omega, l ++ tCs (fxTc t) r, g.st ⟨h0, hb, r, hr, by rw [hp]⟩, ?_, (q.sn hw hT hr2).2 hg⟩
  rw [List.length_append, tCs.ln hr2, hc, e]
  omega
theorem tJ.bad {D : Int32} {B : Nat → Int} {n bd p : Int} (hT : TI t) (hw : 0 ≤ (w 0 5).toInt) (h : tJ (fxTc t) D B (tRw w) n bd p c) (h0 : 0 ≤ p) (hb : p < bd) (k : uNo (fxTc t) D B p 0 n ∨ (uLg (fxTc t) D B p 0 n r ∧ ¬ tGv t w r c.toNat)) : tBad (fxTc t) D B n bd (tRw w) := by
  obtain ⟨a, l, g, e, q⟩ := h
  refine ⟨p, l, g, h0, hb, ?_⟩
  rcases k with k | ⟨k, z⟩
  · exact Or.inl k
  · have hr2 : (r : Int) < (t 0 0).toInt := by
      have := k.1
      rw [fxTc.len] at this
      omega
    have el : c.toNat = l.length := by omega
    rw [el] at z
    exact Or.inr ⟨r, k, fun y => z ((q.sn hw hT hr2).1 y)⟩
/-- so many RULES chosen: their letters stand in the text -/
def tI (t w : Nat → Nat → Int32) (d : Nat) (rs : List Nat) : Prop := (w 6 d).toInt = ((tWd (fxTc t) rs).length : Int) ∧ (∀ j : Nat, (j : Int) < (w 6 d).toInt → (w 5 j).toInt = tBy (tWd (fxTc t) rs) j) ∧ tJ (fxTc t) (t 0 1) (tBy (tWd (fxTc t) rs)) (tRw w) (w 6 d).toInt ((w 6 d).toInt - 6) (w 7 d).toInt (w 8 d).toInt
/-- all that is told: letters 1 to 26 -/
def pqL (t : Nat → Nat → Int32) : Prop := ∀ x ∈ (fxTc t).2, ∀ v ∈ x.1, (1 : Int) ≤ v ∧ v ≤ 26
end Fnx2
