/-- one more byte is like the word's -/
theorem fx_ua {f : Nat → Int32} {k j : Nat} {x : Int32} (h : j = k) : upd f k x j = x := by subst h; simp [upd]
theorem fx_uFc {I : Nat → Nat → Int32} {c k c' : Nat} {x : Int32} (h : c' ≠ c) : uF I c k x c' = I c' := by unfold uF; rw [if_neg h]
theorem fx_uRn {I : Nat → Nat → Int32} {c c' : Nat} {f : Nat → Int32} (h : c' ≠ c) : uR I c f c' = I c' := by unfold uR; rw [if_neg h]
theorem fx_uRe {I : Nat → Nat → Int32} {c : Nat} {f : Nat → Int32} : uR I c f c = f := by unfold uR; rw [if_pos rfl]
theorem fx_isw {I : Nat → Int32} {F v v2 : Int} {l : List Int} {x y z : Int32} (h : ∀ k : Nat, (k : Int) < v → fxB I (F.toNat + k) = l.getD k 0) (hx : x = I y.toNatClampNeg) (hy : y.toInt = F + v) (h0 : 0 ≤ F ∧ 0 ≤ v) (hz : z.toInt = l.getD v.toNat 0) (hxz : x.toInt = z.toInt) (h2 : v2 = v + 1) (k : Nat) (hk : (k : Int) < v2) : fxB I (F.toNat + k) = l.getD k 0 := by
  by_cases q : (k : Int) < v
  · exact h k q
  · have e : k = v.toNat := by omega
    subst e
    have i := t_cl (i := y) hy (by omega)
    show (I (F.toNat + v.toNat)).toInt = _
    rw [← hz, ← hxz, hx, show F.toNat + v.toNat = y.toNatClampNeg by omega]
theorem fx_nsw {I : Nat → Int32} {F v : Int} {l : List Int} {x y z : Int32} (hx : x = I y.toNatClampNeg) (hy : y.toInt = F + v) (h0 : 0 ≤ F ∧ 0 ≤ v) (hz : z.toInt = l.getD v.toNat 0) (hxz : x.toInt ≠ z.toInt) : fxB I (F.toNat + v.toNat) ≠ l.getD v.toNat 0 := by
  have i := t_cl (i := y) hy (by omega)
  show (I (F.toNat + v.toNat)).toInt ≠ _
  rw [← hz, show F.toNat + v.toNat = y.toNatClampNeg by omega, ← hx]
  exact hxz
def fxLs (I : Nat → Nat → Int32) (r : Nat) : List Int := (List.range (I 2 r).toInt.toNat).map (fun k => (I 5 (6 * r + k)).toInt)
def fxCs (I : Nat → Nat → Int32) (r : Nat) : List Int := (List.range (I 3 r).toInt.toNat).map (fun k => (I 6 (3 * r + k)).toInt)
def fxRc (I : Nat → Nat → Int32) (r : Nat) : fxR := (fxLs I r, fxCs I r, (I 4 r).toInt)
def fxSg (I : Nat → Nat → Int32) : Nat → Int := fun k => if k < 5 then (I 1 k).toInt else 0
def fxTc (I : Nat → Nat → Int32) : fxT := (fxSg I, (List.range (I 0 0).toInt.toNat).map (fxRc I))
def fxTd (x : Int32) : Nat → Bool := fun k => decide (k < 5) && bt x k
def fxCu (I : Nat → Nat → Int32) (aw : Int) : fxR := if 2 ≤ aw ∧ aw ≤ 5 then fxRc I (I 0 0).toInt.toNat else fxE
def fxSc (R I : Nat → Nat → Int32) : fxS := ((R 0 7).toInt, if (R 0 7).toInt = 6 then (R 0 8).toInt else 0, fxTd (R 0 9), fxTc I, fxCu I (R 0 7).toInt)
theorem fxTc.len {I : Nat → Nat → Int32} : (fxTc I).2.length = (I 0 0).toInt.toNat := by
  show ((List.range _).map _).length = _
  rw [List.length_map, List.length_range]
theorem fxLs.congr {I I' : Nat → Nat → Int32} {r : Nat} (h : (I 2 r).toInt ≤ 6) (e2 : I' 2 r = I 2 r) (e5 : ∀ k, k < 6 → I' 5 (6 * r + k) = I 5 (6 * r + k)) : fxLs I' r = fxLs I r := by
  unfold fxLs
  rw [e2]
  exact List.map_congr_left (fun k hk => by rw [List.mem_range] at hk; rw [e5 k (by omega)])
theorem fxCs.congr {I I' : Nat → Nat → Int32} {r : Nat} (h : (I 3 r).toInt ≤ 3) (e3 : I' 3 r = I 3 r) (e6 : ∀ k, k < 3 → I' 6 (3 * r + k) = I 6 (3 * r + k)) : fxCs I' r = fxCs I r := by
  unfold fxCs
  rw [e3]
  exact List.map_congr_left (fun k hk => by rw [List.mem_range] at hk; rw [e6 k (by omega)])
theorem fxTc.congr {I I' : Nat → Nat → Int32} (hT : TI I) (e0 : I' 0 0 = I 0 0) (e1 : ∀ k, k < 5 → I' 1 k = I 1 k) (e : ∀ r : Nat, (r : Int) < (I 0 0).toInt → I' 2 r = I 2 r ∧ I' 3 r = I 3 r ∧ I' 4 r = I 4 r ∧ (∀ k, k < 6 → I' 5 (6 * r + k) = I 5 (6 * r + k)) ∧ ∀ k, k < 3 → I' 6 (3 * r + k) = I 6 (3 * r + k)) : fxTc I' = fxTc I := by
  unfold fxTc
  rw [e0]
  refine Prod.ext ?_ ?_
  · show fxSg I' = fxSg I
    funext k
    unfold fxSg
    by_cases q : k < 5
    · rw [if_pos q, if_pos q, e1 k q]
    · rw [if_neg q, if_neg q]
  · refine List.map_congr_left (fun r hr => ?_)
    rw [List.mem_range] at hr
    obtain ⟨a, b, c, d, f⟩ := e r (by omega)
    unfold fxRc
    rw [fxLs.congr (hT.lc r).2 a d, fxCs.congr (hT.cc r).2 b f, c]
/-- the bit of a sign -/
theorem fx_bit1 (j : Nat) : bt 1 j = decide (j = 0) := by
  by_cases h : j < 32
  · have : ∀ j, j < 32 → bt 1 j = decide (j = 0) := by decide +kernel
    exact this j h
  · rw [b_big (by omega), decide_eq_false (by omega)]
theorem fx_bit {x s b : Int32} {k : Nat} (hs : s.toInt = (k : Int)) (hk : k < 5) (hb : b = 1 <<< (s &&& 31)) (i : Nat) (hi : i < 32) : bt b i = decide (i = k) := by
  have e : s = nI k := by
    obtain ⟨e, _⟩ := t_nI hs (by omega)
    exact e
  rw [hb, e, b_shl k (by omega) 1 hi, fx_bit1]
  by_cases q : i = k
  · subst q; simp
  · by_cases w : k ≤ i
    · rw [decide_eq_true w, decide_eq_false q, decide_eq_false (by omega)]; rfl
    · rw [decide_eq_false w, decide_eq_false q]; rfl
theorem fx_told {x s b z : Int32} {k : Nat} (hs : s.toInt = (k : Int)) (hk : k < 5) (hb : b = 1 <<< (s &&& 31)) (hz : z = x &&& b) : (fxTd x k = true ↔ z ≠ 0) := by
  have hB := fx_bit (x := x) hs hk hb
  unfold fxTd
  rw [decide_eq_true hk, Bool.true_and]
  constructor
  · intro h q
    have e : bt z k = true := by rw [hz, b_and, h, hB k (by omega)]; simp
    rw [q, b_0] at e
    cases e
  · intro h
    cases w : bt x k with
    | true => rfl
    | false =>
      exfalso
      apply h
      apply b_ext
      intro i hi
      rw [hz, b_and, hB i hi, b_0]
      by_cases q : i = k
      · subst q; rw [w]; rfl
      · rw [decide_eq_false q, Bool.and_false]
theorem fx_tell {x s b z : Int32} {k : Nat} (hs : s.toInt = (k : Int)) (hk : k < 5) (hb : b = 1 <<< (s &&& 31)) (hz : z = x ||| b) : fxTd z = fxUp (fxTd x) k true := by
  have hB := fx_bit (x := x) hs hk hb
  funext j
  unfold fxUp fxTd
  by_cases q : j = k
  · subst q
    rw [if_pos rfl, decide_eq_true hk, hz, b_or, hB j (by omega)]
    simp
  · rw [if_neg q]
    by_cases w : j < 5
    · rw [decide_eq_true w, hz, b_or, hB j (by omega), decide_eq_false q, Bool.or_false]
    · rw [decide_eq_false w]; rfl
/-- what a step gives: the answer is the fault, or the state stands -/
def fxOut (q : Sum Int fxS) (r : Int32) (s : fxS) : Prop := (r.toInt = 0 ∧ q = .inr s) ∨ (r.toInt ≠ 0 ∧ q = .inl r.toInt)
theorem fxSc.mk {R I : Nat → Nat → Int32} {aw sg : Int} {td : Nat → Bool} {T : fxT} {cu : fxR} (h7 : (R 0 7).toInt = aw) (h8 : (if aw = 6 then (R 0 8).toInt else 0) = sg) (h9 : fxTd (R 0 9) = td) (hT : fxTc I = T) (hc : fxCu I aw = cu) : fxSc R I = (aw, sg, td, T, cu) := by
  unfold fxSc
  rw [h7, h8, h9, hT, hc]
theorem fxCu.no {I : Nat → Nat → Int32} {aw : Int} (h : ¬ (2 ≤ aw ∧ aw ≤ 5)) : fxCu I aw = fxE := by
  unfold fxCu
  rw [if_neg h]
theorem fxCu.is {I : Nat → Nat → Int32} {aw : Int} (h : 2 ≤ aw ∧ aw ≤ 5) : fxCu I aw = fxRc I (I 0 0).toInt.toNat := by
  unfold fxCu
  rw [if_pos h]
/-- a letter's number -/
theorem fx_let {x z : Int32} (h : z = x &&& 31) (hx : 97 ≤ x.toInt ∧ x.toInt ≤ 122) : z.toInt = x.toInt - 96 := by
  obtain ⟨e, l⟩ := t_nI (x := x) rfl (by omega)
  have q := pk_andN (n := x.toInt.toNat) (m := 31) (by omega) 5 (by decide)
  rw [← e] at q
  rw [h, q, nI_toInt (by omega)]
  omega
theorem fx_letG {x z : Int32} (h : z = x &&& 31) (hx : 65 ≤ x.toInt ∧ x.toInt ≤ 90) : z.toInt = x.toInt - 64 := by
  obtain ⟨e, l⟩ := t_nI (x := x) rfl (by omega)
  have q := pk_andN (n := x.toInt.toNat) (m := 31) (by omega) 5 (by decide)
  rw [← e] at q
  rw [h, q, nI_toInt (by omega)]
  omega
theorem fx_inl {q : Sum Int fxS} {r : Int32} {s : fxS} {k : Int} (h : q = .inl k) (hr : r.toInt = k) (hk : k ≠ 0) : fxOut q r s := Or.inr ⟨by omega, by rw [h, hr]⟩
theorem fx_inr {q : Sum Int fxS} {r : Int32} {s s' : fxS} (h : q = .inr s') (hr : r.toInt = 0) (hs : s = s') : fxOut q r s := Or.inl ⟨hr, by rw [h, hs]⟩
theorem fx_sgn {r : Int32} {kd : Int} {w l : List Int} {k : Nat} (hr : r.toInt = (k : Int)) (hk : k ≤ 4) (q : kd = 0 ∧ w = l) (e : l = fxK (k + 1)) : 0 ≤ r.toInt ∧ r.toInt ≤ 4 ∧ fxIs kd w (r.toInt.toNat + 1) := ⟨by omega, by omega, q.1, by rw [hr, Int.toNat_natCast]; exact q.2.trans e⟩
theorem fx_cnd {r : Int32} {kd : Int} {w l : List Int} {k : Nat} (hr : r.toInt = (k : Int)) (hk : 1 ≤ k ∧ k ≤ 4) (q : kd = 0 ∧ w = l) (e : l = fxK (k + 6)) : 1 ≤ r.toInt ∧ r.toInt ≤ 4 ∧ fxIs kd w (r.toInt.toNat + 6) := ⟨by omega, by omega, q.1, by rw [hr, Int.toNat_natCast]; exact q.2.trans e⟩
theorem fxLs.len {I : Nat → Nat → Int32} {r : Nat} : (fxLs I r).length = (I 2 r).toInt.toNat := by unfold fxLs; rw [List.length_map, List.length_range]
theorem fxCs.len {I : Nat → Nat → Int32} {r : Nat} : (fxCs I r).length = (I 3 r).toInt.toNat := by unfold fxCs; rw [List.length_map, List.length_range]
theorem fxLs.at {I : Nat → Nat → Int32} {a b k : Nat} (h : fxLs I a = fxLs I b) (hk : k < (I 2 a).toInt.toNat) : (I 5 (6 * a + k)).toInt = (I 5 (6 * b + k)).toInt := by
  have hb : k < (I 2 b).toInt.toNat := by rw [← fxLs.len, ← h, fxLs.len]; exact hk
  have e : (fxLs I a)[k]? = (fxLs I b)[k]? := by rw [h]
  unfold fxLs at e
  rw [List.getElem?_map, List.getElem?_map, List.getElem?_range hk, List.getElem?_range hb] at e
  exact Option.some.inj e
theorem fxLs.eq {I : Nat → Nat → Int32} {a b : Nat} (h : (I 2 a).toInt = (I 2 b).toInt) (hk : ∀ k : Nat, (k : Int) < (I 2 a).toInt → (I 5 (6 * a + k)).toInt = (I 5 (6 * b + k)).toInt) : fxLs I a = fxLs I b := by
  unfold fxLs
  rw [← h]
  exact List.map_congr_left (fun k q => by rw [List.mem_range] at q; exact hk k (by omega))
theorem fx_any {I : Nat → Nat → Int32} {n : Nat} {ls : List Int} {cd : Int} : (((List.range n).map (fxRc I)).any (fun x => decide (x.1 = ls ∧ x.2.2 = cd)) = true) ↔ ∃ r : Nat, r < n ∧ fxLs I r = ls ∧ (I 4 r).toInt = cd := by
  rw [List.any_eq_true]
  constructor
  · intro h
    obtain ⟨x, hx, h⟩ := h
    rw [List.mem_map] at hx
    obtain ⟨r, hr, e⟩ := hx
    subst e
    exact ⟨r, List.mem_range.mp hr, of_decide_eq_true h⟩
  · intro h
    obtain ⟨r, hr, h⟩ := h
    exact ⟨fxRc I r, List.mem_map.mpr ⟨r, List.mem_range.mpr hr, rfl⟩, decide_eq_true h⟩
theorem fxRule.same {I : Nat → Nat → Int32} {td : Nat → Bool} {r n : Nat} (hn : (I 0 0).toInt = (n : Int)) (hr : r < n) (h : fxLs I r = fxLs I n ∧ (I 4 r).toInt = (I 4 n).toInt) : fxRule td (fxTc I) (fxRc I n) = .inl 3 := by
  unfold fxRule
  rw [if_pos]
  show ((List.range (I 0 0).toInt.toNat).map (fxRc I)).any (fun x => decide (x.1 = fxLs I n ∧ x.2.2 = (I 4 n).toInt)) = true
  rw [fx_any, hn]
  exact ⟨r, by omega, h⟩
theorem fxRule.new {I : Nat → Nat → Int32} {td : Nat → Bool} {n : Nat} (hn : (I 0 0).toInt = (n : Int)) (h : ∀ r : Nat, r < n → ¬ (fxLs I r = fxLs I n ∧ (I 4 r).toInt = (I 4 n).toInt)) : fxRule td (fxTc I) (fxRc I n) = .inr (0, 0, td, (fxSg I, (fxTc I).2 ++ [fxRc I n]), fxE) := by
  unfold fxRule
  rw [if_neg]
  · rfl
  · show ¬ (((List.range (I 0 0).toInt.toNat).map (fxRc I)).any (fun x => decide (x.1 = fxLs I n ∧ x.2.2 = (I 4 n).toInt)) = true)
    rw [fx_any, hn]
    intro q
    obtain ⟨r, hr, q⟩ := q
    exact h r (by omega) q
/-- a RULE more -/
theorem fxTc.add {I I' : Nat → Nat → Int32} {n : Nat} (hn : (I 0 0).toInt = (n : Int)) (h0 : (I' 0 0).toInt = (n : Int) + 1) (e : ∀ c, c ≠ 0 → I' c = I c) : fxTc I' = (fxSg I, (fxTc I).2 ++ [fxRc I n]) := by
  have er : ∀ r, fxRc I' r = fxRc I r := fun r => by
    unfold fxRc fxLs fxCs
    rw [e 2 (by decide), e 3 (by decide), e 4 (by decide), e 5 (by decide), e 6 (by decide)]
  refine Prod.ext ?_ ?_
  · show fxSg I' = fxSg I
    unfold fxSg
    rw [e 1 (by decide)]
  · show (List.range (I' 0 0).toInt.toNat).map (fxRc I') = (List.range (I 0 0).toInt.toNat).map (fxRc I) ++ [fxRc I n]
    rw [h0, hn, show ((n : Int) + 1).toNat = n + 1 by omega, Int.toNat_natCast, List.range_succ, List.map_append]
    refine _root_.congr (congrArg _ (List.map_congr_left (fun r _ => er r))) ?_
    show [fxRc I' n] = _
    rw [er]
/-- a CELL more -/
theorem fx_cell {I I' : Nat → Nat → Int32} {n c i : Nat} {x v : Int32} (hT : TI I) (hn : (I 0 0).toInt = (n : Int)) (e0 : I' 0 = I 0) (e1 : I' 1 = I 1) (e2 : I' 2 = I 2) (e3 : I' 3 = upd (I 3) n x) (e4 : I' 4 = I 4) (e5 : I' 5 = I 5) (e6 : I' 6 = upd (I 6) i v) (hi : i = 3 * n + c) (hc : (I 3 n).toInt = (c : Int)) (hx : x.toInt = (c : Int) + 1) (h3 : c < 3) : fxTc I' = fxTc I ∧ fxRc I' n = (fxLs I n, fxCs I n ++ [v.toInt], (I 4 n).toInt) := by
  subst hi
  refine ⟨fxTc.congr hT (by rw [e0]) (fun k _ => by rw [e1]) (fun r hr => ⟨by rw [e2], by rw [e3, pk_un (by omega)], by rw [e4], fun k hk => by rw [e5], fun k hk => by rw [e6, pk_un (by omega)]⟩), ?_⟩
  have hcs : fxCs I' n = fxCs I n ++ [v.toInt] := by
    unfold fxCs
    rw [e3, fx_ua rfl, hx, hc, show ((c : Int) + 1).toNat = c + 1 by omega, Int.toNat_natCast, List.range_succ, List.map_append, e6]
    refine _root_.congr (congrArg _ (List.map_congr_left (fun k hk => ?_))) ?_
    · rw [List.mem_range] at hk
      rw [pk_un (by omega)]
    · show [(upd (I 6) (3 * n + c) v (3 * n + c)).toInt] = _
      rw [fx_ua rfl]
  have hls : fxLs I' n = fxLs I n := by
    unfold fxLs
    rw [e2, e5]
  unfold fxRc
  rw [hcs, hls, e4]
/-- a RULE's letters, one by one -/
def fxLt (I I' : Nat → Nat → Int32) (X : Nat → Int32) (n : Nat) (fr m v : Int) : Prop := (I' 0 = I 0 ∧ I' 1 = I 1 ∧ I' 6 = I 6) ∧ ((∀ j, j ≠ n → I' 2 j = I 2 j) ∧ (I' 2 n).toInt = m) ∧ ((∀ j, j ≠ n → I' 3 j = I 3 j) ∧ (I' 3 n).toInt = 0) ∧ ((∀ j, j ≠ n → I' 4 j = I 4 j) ∧ (I' 4 n).toInt = 0) ∧ ∀ j : Nat, (j < 6 * n → I' 5 j = I 5 j) ∧ ((j : Int) < v → (I' 5 (6 * n + j)).toInt = (X (fr.toNat + j)).toInt - 96)
theorem fxLt.st {I I' I2 : Nat → Nat → Int32} {X : Nat → Int32} {n i : Nat} {fr m v v2 : Int} {z x y : Int32} (h : fxLt I I' X n fr m v) (e : I2 = uR I' 5 (upd (I' 5) i z)) (hi : (i : Int) = 6 * (n : Int) + v) (hv : 0 ≤ v ∧ 0 ≤ fr) (hz : z = x &&& 31) (hx : x = X y.toNatClampNeg) (hy : y.toInt = fr + v) (hs : 97 ≤ x.toInt ∧ x.toInt ≤ 122) (h2 : v2 = v + 1) : fxLt I I2 X n fr m v2 := by
  subst e
  obtain ⟨a, b, c, d, f⟩ := h
  refine ⟨a, b, c, d, fun j => ⟨fun q => ?_, fun q => ?_⟩⟩
  · show upd (I' 5) i z j = _
    rw [pk_un (by omega)]
    exact (f j).1 q
  · show (upd (I' 5) i z (6 * n + j)).toInt = _
    by_cases w : 6 * n + j = i
    · rw [fx_ua w, fx_let hz hs, hx, show y.toNatClampNeg = fr.toNat + j by have := t_cl (i := y) hy (by omega); omega]
    · rw [pk_un w]
      exact (f j).2 (by omega)
theorem fxLt.out {I I' : Nat → Nat → Int32} {X : Nat → Int32} {n : Nat} {fr en v : Int} (hT : TI I) (hn : (I 0 0).toInt = (n : Int)) (h : fxLt I I' X n fr (en - fr) v) (hv : en - fr ≤ v) : fxTc I' = fxTc I ∧ fxRc I' n = ((fxW (fxB X) fr en).map (fun b => b - 96), [], 0) := by
  obtain ⟨⟨a0, a1, a6⟩, ⟨b, b'⟩, ⟨c, c'⟩, ⟨d, d'⟩, f⟩ := h
  refine ⟨fxTc.congr hT (by rw [a0]) (fun k _ => by rw [a1]) (fun r hr => ⟨b r (by omega), c r (by omega), d r (by omega), fun k hk => (f _).1 (by omega), fun k hk => by rw [a6]⟩), ?_⟩
  unfold fxRc fxLs fxCs fxW
  rw [b', c', d', List.map_map]
  refine Prod.ext ?_ rfl
  exact List.map_congr_left (fun k hk => by rw [List.mem_range] at hk; exact (f k).2 (by omega))
/-- a sign's value -/
theorem fxTc.sig {I I' : Nat → Nat → Int32} {s v : Int32} (hT : TI I) (hs : 0 ≤ s.toInt ∧ s.toInt ≤ 4) (e : ∀ c, c ≠ 1 → I' c = I c) (e1 : I' 1 = upd (I 1) s.toNatClampNeg v) : fxTc I' = (fxUp (fxTc I).1 s.toInt.toNat v.toInt, (fxTc I).2) := by
  have er : ∀ r, fxRc I' r = fxRc I r := fun r => by
    unfold fxRc fxLs fxCs
    rw [e 2 (by decide), e 3 (by decide), e 4 (by decide), e 5 (by decide), e 6 (by decide)]
  refine Prod.ext ?_ ?_
  · show fxSg I' = fxUp (fxSg I) s.toInt.toNat v.toInt
    funext k
    unfold fxSg fxUp
    rw [e1]
    by_cases q : k = s.toInt.toNat
    · rw [if_pos q, if_pos (by omega), fx_ua (show k = s.toNatClampNeg from q)]
    · rw [if_neg q]
      show (if k < 5 then (upd (I 1) s.toNatClampNeg v k).toInt else 0) = (if k < 5 then (I 1 k).toInt else 0)
      by_cases w : k < 5
      · rw [if_pos w, if_pos w, pk_un (show k ≠ s.toNatClampNeg from q)]
      · rw [if_neg w, if_neg w]
  · show (List.range (I' 0 0).toInt.toNat).map (fxRc I') = (List.range (I 0 0).toInt.toNat).map (fxRc I)
    rw [e 0 (by decide)]
    exact List.map_congr_left (fun r _ => er r)
theorem fxSgv.bad {va sg : Int} {td : Nat → Bool} {T : fxT} (h : (sg = 3 ∧ (va < 4 ∨ 40 < va)) ∨ (sg = 4 ∧ (va < 2 ∨ 30 < va)) ∨ (sg ≠ 3 ∧ sg ≠ 4 ∧ (va < 1 ∨ 63 < va))) : fxSgv va sg td T = .inl 4 := by
  unfold fxSgv
  rw [if_pos]
  unfold fxLo fxHi
  rcases h with ⟨a, b⟩ | ⟨a, b⟩ | ⟨a, c, b⟩
  · subst a; exact b
  · subst a; exact b
  · rw [if_neg a, if_neg c, if_neg a, if_neg c]; exact b
theorem fxSgv.ok {va sg : Int} {td : Nat → Bool} {T : fxT} (h : (sg = 3 ∧ 4 ≤ va ∧ va ≤ 40) ∨ (sg = 4 ∧ 2 ≤ va ∧ va ≤ 30) ∨ (sg ≠ 3 ∧ sg ≠ 4 ∧ 1 ≤ va ∧ va ≤ 63)) : fxSgv va sg td T = .inr (7, 0, td, (fxUp T.1 sg.toNat va, T.2), fxE) := by
  unfold fxSgv
  rw [if_neg]
  unfold fxLo fxHi
  rcases h with ⟨a, b⟩ | ⟨a, b⟩ | ⟨a, c, b⟩
  · subst a; show ¬ (va < 4 ∨ 40 < va); omega
  · subst a; show ¬ (va < 2 ∨ 30 < va); omega
  · rw [if_neg a, if_neg c, if_neg a, if_neg c]; omega
/-- bytes of one kind, one more -/
theorem fx_all {P : Int → Prop} {I : Nat → Int32} {F t t2 : Int} {x y : Int32} (h : ∀ j : Nat, F ≤ (j : Int) → (j : Int) < t → P (fxB I j)) (hx : x = I y.toNatClampNeg) (hy : y.toInt = t) (h0 : 0 ≤ t) (hp : P x.toInt) (h2 : t2 = t + 1) (j : Nat) (h1 : F ≤ (j : Int)) (hj : (j : Int) < t2) : P (fxB I j) := by
  by_cases q : (j : Int) < t
  · exact h j h1 q
  · have i := t_cl (i := y) hy h0
    show P (I j).toInt
    rw [show j = y.toNatClampNeg by omega, ← hx]
    exact hp
theorem fx_dv {I : Nat → Int32} {F t t2 v v2 : Int} {x y : Int32} (h : v = fxDv (fxB I) F.toNat (t - F).toNat) (hx : x = I y.toNatClampNeg) (hy : y.toInt = t) (h0 : 0 ≤ F ∧ F ≤ t) (hv : v2 = v * 10 + x.toInt - 48) (h2 : t2 = t + 1) : v2 = fxDv (fxB I) F.toNat (t2 - F).toNat := by
  have i := t_cl (i := y) hy (by omega)
  rw [show (t2 - F).toNat = (t - F).toNat + 1 by omega]
  show v2 = fxDv (fxB I) F.toNat (t - F).toNat * 10 + (I (F.toNat + (t - F).toNat)).toInt - 48
  rw [← h, show F.toNat + (t - F).toNat = y.toNatClampNeg by omega, ← hx, hv]
theorem fxTc.em {I : Nat → Nat → Int32} (h0 : (I 0 0).toInt = 0) (s0 : (I 1 0).toInt = 0) (s1 : (I 1 1).toInt = 0) (s2 : (I 1 2).toInt = 0) (s3 : (I 1 3).toInt = 32) (s4 : (I 1 4).toInt = 25) : fxTc I = fxT0 := by
  refine Prod.ext ?_ ?_
  · show fxSg I = fun k => if k = 3 then 32 else if k = 4 then 25 else 0
    funext k
    unfold fxSg
    by_cases q : k < 5
    · rcases (show k = 0 ∨ k = 1 ∨ k = 2 ∨ k = 3 ∨ k = 4 by omega) with rfl | rfl | rfl | rfl | rfl
      · rw [s0]; rfl
      · rw [s1]; rfl
      · rw [s2]; rfl
      · rw [s3]; rfl
      · rw [s4]; rfl
    · rw [if_neg q, if_neg (by omega), if_neg (by omega)]
  · show (List.range (I 0 0).toInt.toNat).map (fxRc I) = []
    rw [h0]
    rfl
theorem fxLt.in {I : Nat → Nat → Int32} {f2 f3 f4 : Nat → Int32} {X : Nat → Int32} {n : Nat} {y z3 z4 : Int32} {fr m v : Int} (e2 : f2 = upd (I 2) n y) (e3 : f3 = upd (I 3) n z3) (e4 : f4 = upd (I 4) n z4) (hm : y.toInt = m) (h3 : z3.toInt = 0) (h4 : z4.toInt = 0) (hv : v ≤ 0) : fxLt I (uR (uR (uR I 2 f2) 3 f3) 4 f4) X n fr m v := by
  refine ⟨⟨rfl, rfl, rfl⟩, ⟨fun j hj => ?_, ?_⟩, ⟨fun j hj => ?_, ?_⟩, ⟨fun j hj => ?_, ?_⟩, fun j => ⟨fun _ => rfl, fun q => by exfalso; omega⟩⟩
  · show f2 j = _
    rw [e2, pk_un hj]
  · show (f2 n).toInt = _
    rw [e2, fx_ua rfl, hm]
  · show f3 j = _
    rw [e3, pk_un hj]
  · show (f3 n).toInt = _
    rw [e3, fx_ua rfl, h3]
  · show f4 j = _
    rw [e4, pk_un hj]
  · show (f4 n).toInt = _
    rw [e4, fx_ua rfl, h4]
theorem fx_cond {I I' : Nat → Nat → Int32} {n : Nat} {x : Int32} (hT : TI I) (hn : (I 0 0).toInt = (n : Int)) (e0 : I' 0 = I 0) (e1 : I' 1 = I 1) (e2 : I' 2 = I 2) (e3 : I' 3 = I 3) (e4 : I' 4 = upd (I 4) n x) (e5 : I' 5 = I 5) (e6 : I' 6 = I 6) : fxTc I' = fxTc I ∧ fxRc I' n = (fxLs I n, fxCs I n, x.toInt) := by
  refine ⟨fxTc.congr hT (by rw [e0]) (fun k _ => by rw [e1]) (fun r hr => ⟨by rw [e2], by rw [e3], by rw [e4, pk_un (by omega)], fun k hk => by rw [e5], fun k hk => by rw [e6]⟩), ?_⟩
  unfold fxRc fxLs fxCs
  rw [e2, e3, e4, e5, e6, fx_ua rfl]
section
variable {kd va : Int} {w : List Int} {R I : Nat → Nat → Int32}
theorem fx_k4 (h : kd = 4) : fxSt kd w va (fxSc R I) = .inl 1 := by
  show fxStep _ _ _ _ _ _ _ _ = _
  unfold fxStep
  rw [if_pos h]
theorem fx_k30 (h : kd = 3) (ha : (R 0 7).toInt = 0) : fxSt kd w va (fxSc R I) = .inl 0 := by
  show fxStep kd w va (R 0 7).toInt _ _ _ _ = _
  unfold fxStep
  rw [if_neg (by omega), if_pos h, if_pos ha]
theorem fx_k32 (h : kd = 3) (ha : (R 0 7).toInt ≠ 0) : fxSt kd w va (fxSc R I) = .inl 2 := by
  show fxStep kd w va (R 0 7).toInt _ _ _ _ = _
  unfold fxStep
  rw [if_neg (by omega), if_pos h, if_neg ha]
theorem fx_aw0 (h4 : kd ≠ 4) (h3 : kd ≠ 3) (ha : (R 0 7).toInt = 0) : fxSt kd w va (fxSc R I) = fxPart kd w (fxTd (R 0 9)) (fxTc I) := by
  show fxStep kd w va (R 0 7).toInt _ _ _ _ = _
  unfold fxStep
  rw [if_neg h4, if_neg h3, if_pos ha]
  rfl
theorem fx_aw1 (h4 : kd ≠ 4) (h3 : kd ≠ 3) (ha : (R 0 7).toInt = 1) : fxSt kd w va (fxSc R I) = fxLets kd w (fxTd (R 0 9)) (fxTc I) := by
  show fxStep kd w va (R 0 7).toInt _ _ _ _ = _
  unfold fxStep
  rw [if_neg h4, if_neg h3, if_neg (show ¬ (R 0 7).toInt = 0 by omega), if_pos ha]
  rfl
theorem fx_aw2 (h4 : kd ≠ 4) (h3 : kd ≠ 3) (ha : (R 0 7).toInt = 2) : fxSt kd w va (fxSc R I) = if kd = 0 ∧ w = fxK 6 then .inr (3, 0, fxTd (R 0 9), fxTc I, fxCu I (R 0 7).toInt) else .inl 2 := by
  show fxStep kd w va (R 0 7).toInt _ _ _ _ = _
  unfold fxStep
  rw [if_neg h4, if_neg h3, if_neg (show ¬ (R 0 7).toInt = 0 by omega), if_neg (show ¬ (R 0 7).toInt = 1 by omega), if_pos ha]
  rfl
theorem fx_aw3 (h4 : kd ≠ 4) (h3 : kd ≠ 3) (ha : (R 0 7).toInt = 3) : fxSt kd w va (fxSc R I) = if kd = 1 then fxCell va (fxTd (R 0 9)) (fxTc I) (fxCu I (R 0 7).toInt) else .inl 2 := by
  show fxStep kd w va (R 0 7).toInt _ _ _ _ = _
  unfold fxStep
  rw [if_neg h4, if_neg h3, if_neg (show ¬ (R 0 7).toInt = 0 by omega), if_neg (show ¬ (R 0 7).toInt = 1 by omega), if_neg (show ¬ (R 0 7).toInt = 2 by omega), if_pos ha]
  rfl
theorem fx_aw4 (h4 : kd ≠ 4) (h3 : kd ≠ 3) (ha : (R 0 7).toInt = 4) : fxSt kd w va (fxSc R I) = fxMore kd w va (fxTd (R 0 9)) (fxTc I) (fxCu I (R 0 7).toInt) := by
  show fxStep kd w va (R 0 7).toInt _ _ _ _ = _
  unfold fxStep
  rw [if_neg h4, if_neg h3, if_neg (show ¬ (R 0 7).toInt = 0 by omega), if_neg (show ¬ (R 0 7).toInt = 1 by omega), if_neg (show ¬ (R 0 7).toInt = 2 by omega), if_neg (show ¬ (R 0 7).toInt = 3 by omega), if_pos ha]
  rfl
theorem fx_aw5 (h4 : kd ≠ 4) (h3 : kd ≠ 3) (ha : (R 0 7).toInt = 5) : fxSt kd w va (fxSc R I) = if kd = 2 then fxRule (fxTd (R 0 9)) (fxTc I) (fxCu I (R 0 7).toInt) else .inl 2 := by
  show fxStep kd w va (R 0 7).toInt _ _ _ _ = _
  unfold fxStep
  rw [if_neg h4, if_neg h3, if_neg (show ¬ (R 0 7).toInt = 0 by omega), if_neg (show ¬ (R 0 7).toInt = 1 by omega), if_neg (show ¬ (R 0 7).toInt = 2 by omega), if_neg (show ¬ (R 0 7).toInt = 3 by omega), if_neg (show ¬ (R 0 7).toInt = 4 by omega), if_pos ha]
  rfl
theorem fx_aw6 (h4 : kd ≠ 4) (h3 : kd ≠ 3) (ha : (R 0 7).toInt = 6) : fxSt kd w va (fxSc R I) = if kd = 1 then fxSgv va (R 0 8).toInt (fxTd (R 0 9)) (fxTc I) else .inl 2 := by
  show fxStep kd w va (R 0 7).toInt (if (R 0 7).toInt = 6 then (R 0 8).toInt else 0) _ _ _ = _
  rw [if_pos ha]
  unfold fxStep
  rw [if_neg h4, if_neg h3, if_neg (show ¬ (R 0 7).toInt = 0 by omega), if_neg (show ¬ (R 0 7).toInt = 1 by omega), if_neg (show ¬ (R 0 7).toInt = 2 by omega), if_neg (show ¬ (R 0 7).toInt = 3 by omega), if_neg (show ¬ (R 0 7).toInt = 4 by omega), if_neg (show ¬ (R 0 7).toInt = 5 by omega), if_pos ha]
  rfl
theorem fx_aw7 (h4 : kd ≠ 4) (h3 : kd ≠ 3) (ha : (R 0 7).toInt < 0 ∨ 6 < (R 0 7).toInt) : fxSt kd w va (fxSc R I) = if kd = 2 then .inr (0, 0, fxTd (R 0 9), fxTc I, fxE) else .inl 2 := by
  show fxStep kd w va (R 0 7).toInt _ _ _ _ = _
  unfold fxStep
  rw [if_neg h4, if_neg h3, if_neg (show ¬ (R 0 7).toInt = 0 by omega), if_neg (show ¬ (R 0 7).toInt = 1 by omega), if_neg (show ¬ (R 0 7).toInt = 2 by omega), if_neg (show ¬ (R 0 7).toInt = 3 by omega), if_neg (show ¬ (R 0 7).toInt = 4 by omega), if_neg (show ¬ (R 0 7).toInt = 5 by omega), if_neg (show ¬ (R 0 7).toInt = 6 by omega)]
  rfl
end
theorem fxSc.of {R R' I : Nat → Nat → Int32} (e7 : R' 0 7 = R 0 7) (e8 : R' 0 8 = R 0 8) (e9 : R' 0 9 = R 0 9) : fxSc R' I = fxSc R I := by
  unfold fxSc
  rw [e7, e8, e9]
theorem fx_wd {B : Nat → Int} {n p kd fr0 fr en va : Int} (h1 : p ≤ fr0) (h2 : fr0 < n) (hb : ∀ j : Nat, p ≤ (j : Int) → (j : Int) < fr0 → B j = 10 ∨ B j = 32) (hnb : fr0 < n → ¬ (B fr0.toNat = 10 ∨ B fr0.toNat = 32)) (hs : 97 ≤ B fr0.toNat ∧ B fr0.toNat ≤ 122) (e : fr = fr0) (hk : kd = 0) (hl : fr0 < en ∧ en ≤ n) (hw : ∀ j : Nat, fr0 ≤ (j : Int) → (j : Int) < en → 97 ≤ B j ∧ B j ≤ 122) (hx : en < n → ¬ (97 ≤ B en.toNat ∧ B en.toNat ≤ 122)) : fxLx B n p kd fr en va := by
  subst e
  exact ⟨⟨h1, by omega, hb, hnb⟩, Or.inr (Or.inl ⟨h2, hs, hk, hl.1, hl.2, hw, hx⟩)⟩
theorem fx_nm {B : Nat → Int} {n p kd fr0 fr en va : Int} (h1 : p ≤ fr0) (h2 : fr0 < n) (hb : ∀ j : Nat, p ≤ (j : Int) → (j : Int) < fr0 → B j = 10 ∨ B j = 32) (hnb : fr0 < n → ¬ (B fr0.toNat = 10 ∨ B fr0.toNat = 32)) (hs : 48 ≤ B fr0.toNat ∧ B fr0.toNat ≤ 57) (e : fr = fr0) (a : fr0 ≤ en) (a2 : en ≤ n) (hw : ∀ j : Nat, fr0 ≤ (j : Int) → (j : Int) < en → 48 ≤ B j ∧ B j ≤ 57) (hx : en < n → ¬ (48 ≤ B en.toNat ∧ B en.toNat ≤ 57)) (hk : (4 < en - fr0 ∧ kd = 4) ∨ (en - fr0 ≤ 4 ∧ kd = 1 ∧ va = fxDv B fr0.toNat (en - fr0).toNat)) : fxLx B n p kd fr en va := by
  subst e
  have hl : fr < en := by
    rcases Int.lt_or_le fr en with q | q
    · exact q
    · have e2 : en = fr := by omega
      rw [e2] at hx
      exact absurd hs (hx h2)
  exact ⟨⟨h1, by omega, hb, hnb⟩, Or.inr (Or.inr (Or.inl ⟨h2, hs, hl, a2, hw, hx, hk⟩))⟩
theorem fx_sm {B : Nat → Int} {n p kd fr en va : Int} (h : fxLx B n p kd fr en va) (hk : kd = 0) : ∀ j : Nat, fr ≤ (j : Int) → (j : Int) < en → 97 ≤ B j ∧ B j ≤ 122 := by
  obtain ⟨_, b⟩ := h
  rcases b with ⟨b1, b2, b3⟩ | ⟨b1, bs, b2, b3, b4, b5, b6⟩ | ⟨b1, bs, b3, b4, b5, b6, b7⟩ | ⟨b1, bs, bt, b3, b5⟩
  · omega
  · exact b5
  · exfalso; omega
  · exfalso; omega
theorem fx_nx {B : Nat → Int} {n p kd fr en en' va : Int} {S S' : fxS} {T' : fxT} {r : Int32} (e : en' = en) (l : fxLx B n p kd fr en va) (h : (kd = 3 ∧ fxSt kd (fxW B fr en) va S = .inl r.toInt ∧ T' = S.2.2.2.1) ∨ (kd ≠ 3 ∧ fxOut (fxSt kd (fxW B fr en) va S) r S')) (h3 : kd ≠ 3) (hr : r.toInt = 0) : fxNx B n (p, S) (en', S') := by
  subst e
  rcases h with h | ⟨_, h⟩
  · exact absurd h.1 h3
  · rcases h with ⟨_, h⟩ | ⟨h, _⟩
    · exact ⟨kd, fr, va, l, h⟩
    · exact absurd hr h
theorem fx_end {B : Nat → Int} {n p kd fr fr' en va : Int} {C : Int × fxS} {S S' : fxS} {T' : fxT} {r : Int32} (hre : fxRe B n C (p, S)) (l : fxLx B n p kd fr en va) (h : (kd = 3 ∧ fxSt kd (fxW B fr en) va S = .inl r.toInt ∧ T' = S.2.2.2.1) ∨ (kd ≠ 3 ∧ fxOut (fxSt kd (fxW B fr en) va S) r S')) (h3 : kd = 3 ∨ r.toInt ≠ 0) (e : fr' = fr) : ∃ c : Int × fxS, fxRe B n C c ∧ fxVd B n c r.toInt fr' ∧ (r.toInt = 0 → c.2.2.2.2.1 = T') := by
  subst e
  refine ⟨(p, S), hre, ?_⟩
  rcases h with ⟨_, h, ht⟩ | ⟨hk, h⟩
  · exact ⟨⟨kd, en, va, l, h⟩, fun _ => ht.symm⟩
  · rcases h with ⟨hr, _⟩ | ⟨hr, h⟩
    · exact absurd hr (h3.resolve_left hk)
    · exact ⟨⟨kd, en, va, l, h⟩, fun q => absurd q hr⟩

/-- a table copied -/
theorem fxTc.cpy {I V : Nat → Nat → Int32} (hT : TI V) (e0 : I 0 0 = V 0 0) (e1 : ∀ j, j < 5 → I 1 j = V 1 j) (e2 : ∀ j, j < 24 → I 2 j = V 2 j) (e3 : ∀ j, j < 24 → I 3 j = V 3 j) (e4 : ∀ j, j < 24 → I 4 j = V 4 j) (e5 : ∀ j, j < 144 → I 5 j = V 5 j) (e6 : ∀ j, j < 72 → I 6 j = V 6 j) : fxTc I = fxTc V := by
  have h0 := hT.1
  exact fxTc.congr hT e0 e1 (fun r hr => ⟨e2 r (by omega), e3 r (by omega), e4 r (by omega), fun k hk => e5 _ (by omega), fun k hk => e6 _ (by omega)⟩)
