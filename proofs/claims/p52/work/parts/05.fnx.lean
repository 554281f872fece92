/-! TRUE READINGS: their LETTERS SET as a WORD (behind 05.fnu) -/
def tCs (T : fxT) (r : Nat) : List Int := (T.2.getD r fxE).2.1
def tLs (T : fxT) (r : Nat) : List Int := (T.2.getD r fxE).1.map (fun x => x + 96)
def tWd (T : fxT) : List Nat → List Int
  | [] => []
  | r :: l => tLs T r ++ tWd T l
def tBy (w : List Int) : Nat → Int := fun j => w.getD j 0
/-- a RULE more, at a place ahead of bd, in the WORD of n letters -/
def tNx (T : fxT) (D : Int32) (B : Nat → Int) (n bd : Int) (a b : Int × List Int) : Prop := 0 ≤ a.1 ∧ a.1 < bd ∧ ∃ r, uLg T D B a.1 0 n r ∧ b = (a.1 + (uLC T r : Int), a.2 ++ tCs T r)
def tTr (T : fxT) (D : Int32) (row : List Int) (rs : List Nat) : Prop := gRe (tNx T D (tBy (tWd T rs)) ((tWd T rs).length : Int) ((tWd T rs).length : Int)) (0, []) (((tWd T rs).length : Int), row)
def tPre (l row : List Int) : Prop := ∃ t, row = l ++ t
def tBad (T : fxT) (D : Int32) (B : Nat → Int) (n bd : Int) (row : List Int) : Prop := ∃ (p : Int) (l : List Int), gRe (tNx T D B n bd) (0, []) (p, l) ∧ 0 ≤ p ∧ p < bd ∧ (uNo T D B p 0 n ∨ ∃ r, uLg T D B p 0 n r ∧ ¬ tPre (l ++ tCs T r) row)
section Fnx
variable {T : fxT} {D : Int32} {B B' : Nat → Int} {n n' bd bd' p wf wt : Int} {r : Nat} {row l : List Int} {a b c : Int × List Int} {rs : List Nat}
theorem tWd.app (x y : List Nat) : tWd T (x ++ y) = tWd T x ++ tWd T y := by
  induction x with
  | nil => rfl
  | cons r x ih =>
    show tLs T r ++ tWd T (x ++ y) = tLs T r ++ tWd T x ++ tWd T y
    rw [ih, List.append_assoc]
theorem tLs.len : (tLs T r).length = uLC T r := by
  unfold tLs uLC
  rw [List.length_map]
theorem tCs.len : (tCs T r).length = uCC T r := rfl
theorem tWd.sn : tWd T (rs ++ [r]) = tWd T rs ++ tLs T r := by
  rw [tWd.app]
  show tWd T rs ++ (tLs T r ++ []) = _
  rw [List.append_nil]
theorem tBy.app {x y : List Int} {j : Nat} (h : j < x.length) : tBy (x ++ y) j = tBy x j := by
  unfold tBy
  rw [List.getD_eq_getElem?_getD, List.getD_eq_getElem?_getD, List.getElem?_append_left h]
theorem tBy.sn {x y : List Int} {j : Nat} (h : j < y.length) : tBy (x ++ y) (x.length + j) = y.getD j 0 := by
  unfold tBy
  rw [List.getD_eq_getElem?_getD, List.getD_eq_getElem?_getD, List.getElem?_append_right (by omega), show x.length + j - x.length = j by omega]
theorem uSt.cg (h0 : 0 ≤ p) (e : ∀ j : Nat, p ≤ (j : Int) → (j : Int) < wt → B j = B' j) (h : uSt T B r p wf wt) : uSt T B' r p wf wt := by
  obtain ⟨x, y, z⟩ := h
  refine ⟨x, fun k hk => ?_, z⟩
  rw [← e (p.toNat + k) (by omega) (by omega)]
  exact y k hk
theorem uLg.cg (h0 : 0 ≤ p) (e : ∀ j : Nat, p ≤ (j : Int) → (j : Int) < wt → B j = B' j) (h : uLg T D B p wf wt r) : uLg T D B' p wf wt r :=
  ⟨h.1, ⟨h.2.1.1, h.2.1.2.cg h0 e⟩, fun j hj q => h.2.2 j hj ⟨q.1, q.2.cg h0 (fun i h1 h2 => (e i h1 h2).symm)⟩⟩
theorem uNo.cg (h0 : 0 ≤ p) (e : ∀ j : Nat, p ≤ (j : Int) → (j : Int) < wt → B j = B' j) (h : uNo T D B p wf wt) : uNo T D B' p wf wt := fun j hj q => h j hj ⟨q.1, q.2.cg h0 (fun i h1 h2 => (e i h1 h2).symm)⟩
/-- what stands well ahead of the end stands in every WORD that goes on -/
theorem uSt.ex (h0 : 0 ≤ p) (h6 : p + 6 < n) (hn : n ≤ n') (hl : uLC T r ≤ 6) (e : ∀ j : Nat, (j : Int) < n → B j = B' j) : uSt T B r p 0 n ↔ uSt T B' r p 0 n' := by
  constructor
  · rintro ⟨x, y, z⟩
    refine ⟨by omega, fun k hk => ?_, z.cg Iff.rfl (by omega)⟩
    rw [← e (p.toNat + k) (by omega)]
    exact y k hk
  · rintro ⟨x, y, z⟩
    refine ⟨by omega, fun k hk => ?_, z.cg Iff.rfl (by omega)⟩
    rw [e (p.toNat + k) (by omega)]
    exact y k hk
theorem uLg.ex (hL : ∀ r, r < T.2.length → uLC T r ≤ 6) (h0 : 0 ≤ p) (h6 : p + 6 < n) (hn : n ≤ n') (e : ∀ j : Nat, (j : Int) < n → B j = B' j) (h : uLg T D B p 0 n r) : uLg T D B' p 0 n' r :=
  ⟨h.1, ⟨h.2.1.1, (uSt.ex h0 h6 hn (hL r h.1) e).1 h.2.1.2⟩, fun j hj q => h.2.2 j hj ⟨q.1, (uSt.ex h0 h6 hn (hL j hj) e).2 q.2⟩⟩
theorem uNo.ex (hL : ∀ r, r < T.2.length → uLC T r ≤ 6) (h0 : 0 ≤ p) (h6 : p + 6 < n) (hn : n ≤ n') (e : ∀ j : Nat, (j : Int) < n → B j = B' j) (h : uNo T D B p 0 n) : uNo T D B' p 0 n' :=
  fun j hj q => h j hj ⟨q.1, (uSt.ex h0 h6 hn (hL j hj) e).2 q.2⟩
theorem tNx.det (h : tNx T D B n bd a b) (h' : tNx T D B n bd a c) : b = c := by
  obtain ⟨_, _, r, x, y⟩ := h
  obtain ⟨_, _, r', x', y'⟩ := h'
  have e := x.uq x'
  subst e
  rw [y, y']
theorem gRe.mo {α : Type} {R R' : α → α → Prop} (m : ∀ {a b}, R a b → R' a b) {a b : α} (h : gRe R a b) : gRe R' a b := by
  obtain ⟨k, g⟩ := h
  revert a
  induction k with
  | zero => exact fun g => ⟨0, g⟩
  | succ k ih =>
    intro a g
    obtain ⟨d, x, g⟩ := g
    obtain ⟨j, g2⟩ := ih g
    exact ⟨j + 1, d, m x, g2⟩
theorem gRe.sp {α : Type} {R : α → α → Prop} (det : ∀ {a b c}, R a b → R a c → b = c) {a b c : α} (h : gRe R a b) (h' : gRe R a c) (e : ∀ d, ¬ R c d) : gRe R b c := by
  obtain ⟨k, g⟩ := h
  obtain ⟨k', g'⟩ := h'
  revert a k'
  induction k with
  | zero =>
    intro a g k' g'
    have w : a = b := g
    rw [← w]
    exact ⟨k', g'⟩
  | succ k ih =>
    intro a g k' g'
    obtain ⟨d, x, g⟩ := g
    cases k' with
    | zero =>
      have w : a = c := g'
      rw [w] at x
      exact absurd x (e d)
    | succ k' =>
      obtain ⟨d', x', g'⟩ := g'
      have w := det x x'
      rw [← w] at g'
      exact ih g k' g'
theorem tNx.ext (hL : ∀ r, r < T.2.length → uLC T r ≤ 6) (h6 : bd + 6 ≤ n) (hn : n ≤ n') (hb : bd ≤ bd') (e : ∀ j : Nat, (j : Int) < n → B j = B' j) (h : tNx T D B n bd a b) : tNx T D B' n' bd' a b := by
  obtain ⟨h0, h1, r, x, y⟩ := h
  exact ⟨h0, by omega, r, x.ex hL h0 (by omega) hn e, y⟩
theorem tNx.up (hb : bd ≤ bd') (h : tNx T D B n bd a b) : tNx T D B n bd' a b := ⟨h.1, by have := h.2.1; omega, h.2.2⟩
theorem tNx.cg (e : ∀ j : Nat, (j : Int) < n → B j = B' j) (h : tNx T D B n bd a b) : tNx T D B' n bd a b := by
  obtain ⟨h0, h1, r, x, y⟩ := h
  exact ⟨h0, h1, r, x.cg h0 (fun j _ h2 => e j h2), y⟩
theorem tNx.pre (h : tNx T D B n bd a b) : tPre a.2 b.2 := by
  obtain ⟨_, _, r, _, y⟩ := h
  rw [y]
  exact ⟨_, rfl⟩
theorem tPre.tr {x y z : List Int} (h : tPre x y) (h' : tPre y z) : tPre x z := by
  obtain ⟨t, e⟩ := h
  obtain ⟨t', e'⟩ := h'
  exact ⟨t ++ t', by rw [e', e, List.append_assoc]⟩
theorem tNx.pres (h : gRe (tNx T D B n bd) a b) : tPre a.2 b.2 := by
  obtain ⟨k, g⟩ := h
  revert a
  induction k with
  | zero =>
    intro a g
    have w : a = b := g
    rw [w]
    exact ⟨[], (List.append_nil _).symm⟩
  | succ k ih =>
    intro a g
    obtain ⟨d, x, g⟩ := g
    exact x.pre.tr (ih g)
theorem tBad.no (h : tBad T D B n n row) : ¬ gRe (tNx T D B n n) (0, []) (n, row) := fun w => by
  obtain ⟨p, l, g, h0, h1, h2⟩ := h
  obtain ⟨k, g2⟩ := gRe.sp (R := tNx T D B n n) (fun {_ _ _} x y => tNx.det x y) g w (fun d q => by have := q.2.1; exact absurd this (Int.lt_irrefl _))
  cases k with
  | zero =>
    have e : ((p, l) : Int × List Int) = (n, row) := g2
    have e1 : p = n := congrArg Prod.fst e
    omega
  | succ k =>
    obtain ⟨d, ⟨_, _, r, x, y⟩, g3⟩ := g2
    rcases h2 with h2 | ⟨r', x', h3⟩
    · exact x.no h2
    · have e := x.uq x'
      subst e
      have q := tNx.pres ⟨k, g3⟩
      rw [y] at q
      exact h3 q
theorem tBad.ext (hL : ∀ r, r < T.2.length → uLC T r ≤ 6) (h6 : bd + 6 ≤ n) (hn : n ≤ n') (e : ∀ j : Nat, (j : Int) < n → B j = B' j) (h : tBad T D B n bd row) : tBad T D B' n' n' row := by
  obtain ⟨p, l, g, h0, h1, h2⟩ := h
  refine ⟨p, l, gRe.mo (fun x => tNx.ext hL h6 hn (by omega) e x) g, h0, by omega, ?_⟩
  rcases h2 with h2 | ⟨r, x, h3⟩
  · exact Or.inl (h2.ex hL h0 (by omega) hn e)
  · exact Or.inr ⟨r, x.ex hL h0 (by omega) hn e, h3⟩
theorem tBad.tr (hL : ∀ r, r < T.2.length → uLC T r ≤ 6) (h6 : bd + 6 ≤ n) (hn : n = ((tWd T rs).length : Int)) (h : tBad T D (tBy (tWd T rs)) n bd row) (x : List Nat) : ¬ tTr T D row (rs ++ x) := by
  have el : (tWd T (rs ++ x)).length = (tWd T rs).length + (tWd T x).length := by rw [tWd.app, List.length_append]
  exact (h.ext (n' := ((tWd T (rs ++ x)).length : Int)) (B' := tBy (tWd T (rs ++ x))) hL h6 (by omega) (fun j hj => by rw [tWd.app, tBy.app (by omega)])).no
theorem tBad.en (h : tBad T D (tBy (tWd T rs)) ((tWd T rs).length : Int) ((tWd T rs).length : Int) row) : ¬ tTr T D row rs := h.no
/-- all letters SET: they give this -/
theorem tTr.one {x : List Int} (g : gRe (tNx T D B n n) (0, []) (n, x)) (w : gRe (tNx T D B n n) (0, []) (n, row)) : x = row := by
  have tm : ∀ d : Int × List Int, ¬ tNx T D B n n (n, row) d := fun d q => absurd q.2.1 (Int.lt_irrefl _)
  obtain ⟨k, g2⟩ := gRe.sp (R := tNx T D B n n) (fun {_ _ _} x y => tNx.det x y) g w tm
  cases k with
  | zero =>
    have e : ((n, x) : Int × List Int) = (n, row) := g2
    exact congrArg Prod.snd e
  | succ k =>
    obtain ⟨d, q, _⟩ := g2
    exact absurd q.2.1 (Int.lt_irrefl _)
end Fnx
/-! how many TRUE READINGS there are -/
noncomputable def pI (P : Prop) : Int := @ite Int P (Classical.propDecidable P) 1 0
theorem pI.t {P : Prop} (h : P) : pI P = 1 := if_pos h
theorem pI.f {P : Prop} (h : ¬ P) : pI P = 0 := if_neg h
theorem pI.cg {P P' : Prop} (h : P ↔ P') : pI P = pI P' := by rw [propext h]
theorem pI.rg (P : Prop) : 0 ≤ pI P ∧ pI P ≤ 1 := by
  by_cases h : P
  · rw [pI.t h]; decide
  · rw [pI.f h]; decide
noncomputable def pM (P : Prop) (v : Int) : Int := @ite Int P (Classical.propDecidable P) v 0
theorem pM.t {P : Prop} {v : Int} (h : P) : pM P v = v := if_pos h
theorem pM.f {P : Prop} {v : Int} (h : ¬ P) : pM P v = 0 := if_neg h
noncomputable def tC (N m : Nat) (ok : Nat → Nat → Prop) (c : Nat → Nat) (tr : List Nat → Prop) : Nat → Nat → List Nat → Int
  | 0, p, rs => pM (p = m) (pI (tr rs))
  | f + 1, p, rs => @ite Int (p = m) (Classical.propDecidable _) (pI (tr rs)) (sumN (fun r => pM (ok r p) (tC N m ok c tr f (p + c r) (rs ++ [r]))) N)
noncomputable def tK (N m : Nat) (ok : Nat → Nat → Prop) (c : Nat → Nat) (tr : List Nat → Prop) (p : Nat) (rs : List Nat) : Int := tC N m ok c tr (m - p) p rs
theorem sumN.nn {f : Nat → Int} : ∀ n, (∀ i, 0 ≤ f i) → 0 ≤ sumN f n
  | 0, _ => Int.le_refl _
  | n + 1, h => by
    have a := sumN.nn n h
    have b := h n
    show 0 ≤ sumN f n + f n
    omega
section Tk
variable {N m p f f' : Nat} {ok ok' : Nat → Nat → Prop} {c c' : Nat → Nat} {tr tr' : List Nat → Prop} {rs : List Nat}
theorem tC.at : tC N m ok c tr f m rs = pI (tr rs) := by
  cases f with
  | zero => exact pM.t rfl
  | succ f => exact if_pos rfl
theorem tC.st (h : p ≠ m) : tC N m ok c tr (f + 1) p rs = sumN (fun r => pM (ok r p) (tC N m ok c tr f (p + c r) (rs ++ [r]))) N := if_neg h
theorem tC.fu (hc : ∀ r p, r < N → ok r p → 1 ≤ c r ∧ p + c r ≤ m) : ∀ (f f' p : Nat) (rs : List Nat), p ≤ m → m - p ≤ f → m - p ≤ f' → tC N m ok c tr f p rs = tC N m ok c tr f' p rs
  | f, f', p, rs, hp, h, h' => by
    by_cases w : p = m
    · rw [w, tC.at, tC.at]
    · cases f with
      | zero => omega
      | succ f =>
        cases f' with
        | zero => omega
        | succ f' =>
          rw [tC.st w, tC.st w]
          refine sumN.congr N (fun r hr => ?_)
          show pM (ok r p) _ = pM (ok r p) _
          by_cases o : ok r p
          · have x := hc r p hr o
            rw [pM.t o, pM.t o]
            exact tC.fu hc f f' (p + c r) (rs ++ [r]) x.2 (by omega) (by omega)
          · rw [pM.f o, pM.f o]
theorem tK.at : tK N m ok c tr m rs = pI (tr rs) := tC.at
theorem tK.st (hc : ∀ r p, r < N → ok r p → 1 ≤ c r ∧ p + c r ≤ m) (h : p < m) : tK N m ok c tr p rs = sumN (fun r => pM (ok r p) (tK N m ok c tr (p + c r) (rs ++ [r]))) N := by
  unfold tK
  rw [show m - p = (m - p - 1) + 1 by omega, tC.st (by omega)]
  refine sumN.congr N (fun r hr => ?_)
  show pM (ok r p) _ = pM (ok r p) _
  by_cases o : ok r p
  · have x := hc r p hr o
    rw [pM.t o, pM.t o]
    exact tC.fu hc _ _ _ _ x.2 (by omega) (by omega)
  · rw [pM.f o, pM.f o]
theorem tC.no : ∀ (f p : Nat) (rs : List Nat), (∀ x, ¬ tr (rs ++ x)) → tC N m ok c tr f p rs = 0
  | 0, p, rs, h => by
    show pM (p = m) (pI (tr rs)) = 0
    have z : ¬ tr rs := by
      have := h []
      rw [List.append_nil] at this
      exact this
    by_cases w : p = m
    · rw [pM.t w, pI.f z]
    · rw [pM.f w]
  | f + 1, p, rs, h => by
    by_cases w : p = m
    · rw [w, tC.at]
      refine pI.f ?_
      have := h []
      rw [List.append_nil] at this
      exact this
    · rw [tC.st w]
      refine sumN.zero N (fun r hr => ?_)
      by_cases o : ok r p
      · show pM (ok r p) _ = 0
        rw [pM.t o]
        exact tC.no f (p + c r) (rs ++ [r]) (fun x => by rw [List.append_assoc]; exact h _)
      · exact pM.f o
theorem tK.no (h : ∀ x, ¬ tr (rs ++ x)) : tK N m ok c tr p rs = 0 := tC.no _ _ _ h
theorem tC.cg (e : ∀ r p, r < N → p < m → (ok r p ↔ ok' r p) ∧ (ok r p → c r = c' r ∧ p + c r ≤ m)) (et : ∀ rs, tr rs ↔ tr' rs) : ∀ (f p : Nat) (rs : List Nat), p ≤ m → tC N m ok c tr f p rs = tC N m ok' c' tr' f p rs
  | 0, p, rs, hp => by
    show pM (p = m) (pI (tr rs)) = pM (p = m) (pI (tr' rs))
    rw [pI.cg (et rs)]
  | f + 1, p, rs, hp => by
    by_cases w : p = m
    · rw [w, tC.at, tC.at, pI.cg (et rs)]
    · rw [tC.st w, tC.st w]
      refine sumN.congr N (fun r hr => ?_)
      show pM (ok r p) _ = pM (ok' r p) _
      obtain ⟨x, y⟩ := e r p hr (by omega)
      by_cases o : ok r p
      · obtain ⟨y1, y2⟩ := y o
        rw [pM.t o, pM.t (x.1 o), ← y1]
        exact tC.cg e et f (p + c r) (rs ++ [r]) y2
      · rw [pM.f o, pM.f (fun q => o (x.2 q))]
theorem tK.cg (e : ∀ r p, r < N → p < m → (ok r p ↔ ok' r p) ∧ (ok r p → c r = c' r ∧ p + c r ≤ m)) (et : ∀ rs, tr rs ↔ tr' rs) (hp : p ≤ m) : tK N m ok c tr p rs = tK N m ok' c' tr' p rs := tC.cg e et _ _ _ hp
theorem tC.nn : ∀ (f p : Nat) (rs : List Nat), 0 ≤ tC N m ok c tr f p rs
  | 0, p, rs => by
    show 0 ≤ pM (p = m) (pI (tr rs))
    by_cases w : p = m
    · rw [pM.t w]; exact (pI.rg _).1
    · rw [pM.f w]; exact Int.le_refl _
  | f + 1, p, rs => by
    by_cases w : p = m
    · rw [w, tC.at]; exact (pI.rg _).1
    · rw [tC.st w]
      refine sumN.nn N (fun r => ?_)
      by_cases o : ok r p
      · rw [pM.t o]; exact tC.nn f _ _
      · rw [pM.f o]; exact Int.le_refl _
theorem tK.nn : 0 ≤ tK N m ok c tr p rs := tC.nn _ _ _
end Tk
/-- what was not cut off at 999999 is the sum -/
theorem wsR.sum {ok : Nat → Prop} {v : Nat → Int} : ∀ {n : Nat} {s : Int}, wsR ok v n s → s < 999999 → (∀ i, i < n → ok i → 0 ≤ v i) → s = sumN (fun i => pM (ok i) (v i)) n
  | 0, s, h, _, _ => h
  | n + 1, s, h, hs, e => by
    obtain ⟨q, g, w⟩ := h
    show s = sumN (fun i => pM (ok i) (v i)) n + pM (ok n) (v n)
    rcases w with ⟨o, b⟩ | ⟨o, b⟩
    · have z := e n (by omega) o
      rw [← wsR.sum g (by omega) (fun i hi => e i (by omega)), pM.t o]
      omega
    · rw [← wsR.sum g (by omega) (fun i hi => e i (by omega)), pM.f o]
      omega
theorem sumN.le {f g : Nat → Int} : ∀ n, (∀ i, i < n → f i ≤ g i) → sumN f n ≤ sumN g n
  | 0, _ => Int.le_refl _
  | n + 1, h => by
    have a := sumN.le n (fun i hi => h i (by omega))
    have b := h n (by omega)
    show sumN f n + f n ≤ sumN g n + g n
    omega
theorem sumN.up {f : Nat → Int} (h : ∀ i, 0 ≤ f i) : ∀ {n m : Nat}, n ≤ m → sumN f n ≤ sumN f m
  | n, 0, hn => by rw [show n = 0 by omega]; exact Int.le_refl _
  | n, m + 1, hn => by
    by_cases w : n = m + 1
    · rw [w]; exact Int.le_refl _
    · have a := sumN.up h (n := n) (m := m) (by omega)
      have b := h m
      show sumN f n ≤ sumN f m + f m
      omega
theorem sumN.tm {f : Nat → Int} (h : ∀ i, 0 ≤ f i) {n i : Nat} (hi : i < n) : f i ≤ sumN f n := by
  have a := sumN.up h (n := i + 1) (m := n) (by omega)
  have b := sumN.nn i h
  have e : sumN f (i + 1) = sumN f i + f i := rfl
  omega
/-- as many as there are is no less than 0 -/
theorem wyP.nn {N m : Nat} {ok : Nat → Nat → Prop} {c : Nat → Nat} {F : Nat → Int} (h : wyP N m ok c F 0) (hm : ∀ r p, ok r p → p + c r ≤ m) (hc : ∀ r, r < N → 1 ≤ c r) : ∀ (d p : Nat), m - p ≤ d → p ≤ m → 0 ≤ F p
  | d, p, hd, hp => by
    by_cases w : p = m
    · rw [w, h.1]
      decide
    · cases d with
      | zero => omega
      | succ d => exact (wsR.rng (h.2 p (Nat.zero_le _) (by omega)) (fun i hi o => wyP.nn h hm hc d (p + c i) (by have a := hc i hi; have b := hm i p o; omega) (hm i p o))).1
/-- there are no more TRUE ones than READINGS -/
theorem tK.le {N m : Nat} {ok : Nat → Nat → Prop} {c : Nat → Nat} {tr : List Nat → Prop} {F : Nat → Int} (h : wyP N m ok c F 0) (hF : ∀ j, j ≤ m → 0 ≤ F j) (hm : ∀ r p, ok r p → p + c r ≤ m) (hc : ∀ r p, r < N → ok r p → 1 ≤ c r ∧ p + c r ≤ m) : ∀ (d p : Nat) (rs : List Nat), m - p ≤ d → p ≤ m → F p < 999999 → tK N m (fun r p => ok r p ∧ F (p + c r) ≠ 0) c tr p rs ≤ F p
  | d, p, rs, hd, hp, hs => by
    by_cases w : p = m
    · rw [w, tK.at, h.1]
      exact (pI.rg _).2
    · have hc' : ∀ r p, r < N → (ok r p ∧ F (p + c r) ≠ 0) → 1 ≤ c r ∧ p + c r ≤ m := fun r p hr o => hc r p hr o.1
      cases d with
      | zero => omega
      | succ d =>
        have e := (h.2 p (Nat.zero_le _) (by omega)).sum hs (fun i _ o => hF _ (hm i p o))
        rw [tK.st hc' (by omega), e]
        refine sumN.le N (fun r hr => ?_)
        show pM (ok r p ∧ F (p + c r) ≠ 0) _ ≤ pM (ok r p) (F (p + c r))
        by_cases o : ok r p
        · rw [pM.t o]
          by_cases z : F (p + c r) ≠ 0
          · rw [pM.t ⟨o, z⟩]
            have x := hc r p hr o
            have t9 : pM (ok r p) (F (p + c r)) ≤ sumN (fun i => pM (ok i p) (F (p + c i))) N := sumN.tm (f := fun i => pM (ok i p) (F (p + c i))) (fun i => by
              by_cases y : ok i p
              · rw [pM.t y]; exact hF _ (hm i p y)
              · rw [pM.f y]; exact Int.le_refl _) hr
            rw [← e, pM.t o] at t9
            exact tK.le h hF hm hc d (p + c r) (rs ++ [r]) (by omega) x.2 (by omega)
          · rw [pM.f (fun q => z q.2)]
            exact hF _ (hm r p o)
        · rw [pM.f (fun q => o q.1), pM.f o]
          exact Int.le_refl _
