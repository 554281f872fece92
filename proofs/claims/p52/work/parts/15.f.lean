
/-- what holds of the ROWS -/
def RI (I : Nat → Nat → Int32) : Prop := (0 ≤ (I 0 0).toInt ∧ (I 0 0).toInt ≤ 20) ∧ (0 ≤ (I 0 5).toInt ∧ (I 0 5).toInt ≤ 20) ∧ ∀ d : Nat, d ≤ 20 → (0 ≤ (I 6 d).toInt ∧ (I 6 d).toInt ≤ 6 * (d : Int)) ∧ (0 ≤ (I 7 d).toInt ∧ (I 7 d).toInt ≤ 126) ∧ (0 ≤ (I 8 d).toInt ∧ (I 8 d).toInt ≤ 20) ∧ (I 7 d).toInt ≤ 126 * (d : Int) ∧ (I 8 d).toInt ≤ 20 * (d : Int)
theorem RI.fm {I : Nat → Nat → Int32} (h : RI I) : 0 ≤ (I 0 0).toInt ∧ (I 0 0).toInt ≤ 20 := h.1
theorem RI.mn {I : Nat → Nat → Int32} (h : RI I) : 0 ≤ (I 0 5).toInt ∧ (I 0 5).toInt ≤ 20 := h.2.1
theorem RI.at {I : Nat → Nat → Int32} (h : RI I) (x : Int32) (hx : 0 ≤ x.toInt ∧ x.toInt ≤ 20) : (0 ≤ (I 6 x.toNatClampNeg).toInt ∧ (I 6 x.toNatClampNeg).toInt ≤ 6 * x.toInt) ∧ (0 ≤ (I 7 x.toNatClampNeg).toInt ∧ (I 7 x.toNatClampNeg).toInt ≤ 126) ∧ (0 ≤ (I 8 x.toNatClampNeg).toInt ∧ (I 8 x.toNatClampNeg).toInt ≤ 20) := by
  have e := t_cl (i := x) rfl hx.1
  have q := h.2.2 x.toNatClampNeg (by omega)
  rw [e] at q
  exact ⟨q.1, q.2.1, q.2.2.1⟩
theorem RI.az {I : Nat → Nat → Int32} (h : RI I) (x : Int32) (hx : 0 ≤ x.toInt ∧ x.toInt ≤ 20) : (I 7 x.toNatClampNeg).toInt ≤ 126 * x.toInt ∧ (I 8 x.toNatClampNeg).toInt ≤ 20 * x.toInt := by
  have e := t_cl (i := x) rfl hx.1
  have q := h.2.2 x.toNatClampNeg (by omega)
  rw [e] at q
  exact q.2.2.2
theorem RI.of {I I' : Nat → Nat → Int32} (h : RI I) (h0 : 0 ≤ (I' 0 0).toInt ∧ (I' 0 0).toInt ≤ 20) (h5 : 0 ≤ (I' 0 5).toInt ∧ (I' 0 5).toInt ≤ 20) (e6 : I' 6 = I 6) (e7 : I' 7 = I 7) (e8 : I' 8 = I 8) : RI I' := ⟨h0, h5, by rw [e6, e7, e8]; exact h.2.2⟩
theorem RI.st {I I' : Nat → Nat → Int32} {x6 x7 x8 a b c : Int32} {d : Int} (h : RI I) (e0 : I' 0 = I 0) (e6 : I' 6 = upd (I 6) x6.toNatClampNeg a) (e7 : I' 7 = upd (I 7) x7.toNatClampNeg b) (e8 : I' 8 = upd (I 8) x8.toNatClampNeg c) (h6 : x6.toInt = d) (h7 : x7.toInt = d) (h8 : x8.toInt = d) (hd : 0 ≤ d ∧ d ≤ 20) (ha : 0 ≤ a.toInt ∧ a.toInt ≤ 6 * d) (hb : 0 ≤ b.toInt ∧ b.toInt ≤ 126) (hc : 0 ≤ c.toInt ∧ c.toInt ≤ 20) (hz : b.toInt ≤ 126 * d ∧ c.toInt ≤ 20 * d) : RI I' := by
  refine ⟨by rw [e0]; exact h.1, by rw [e0]; exact h.2.1, fun j hj => ?_⟩
  have q := h.2.2 j hj
  have i6 := t_cl (i := x6) h6 hd.1
  have i7 := t_cl (i := x7) h7 hd.1
  have i8 := t_cl (i := x8) h8 hd.1
  rw [e6, e7, e8]
  unfold upd
  refine ⟨?_, ?_, ?_, ?_, ?_⟩
  · split
    · omega
    · exact q.1
  · split
    · exact hb
    · exact q.2.1
  · split
    · exact hc
    · exact q.2.2.1
  · split
    · omega
    · exact q.2.2.2.1
  · split
    · omega
    · exact q.2.2.2.2
theorem RI.s78 {I I' : Nat → Nat → Int32} {x7 x8 b c : Int32} {d : Int} (h : RI I) (e0 : I' 0 = I 0) (e6 : I' 6 = I 6) (e7 : I' 7 = upd (I 7) x7.toNatClampNeg b) (e8 : I' 8 = upd (I 8) x8.toNatClampNeg c) (hb : 0 ≤ b.toInt ∧ b.toInt ≤ 126) (hc : 0 ≤ c.toInt ∧ c.toInt ≤ 20) (h7 : x7.toInt = d) (h8 : x8.toInt = d) (hd : 0 ≤ d) (hz : b.toInt ≤ 126 * d ∧ c.toInt ≤ 20 * d) : RI I' := by
  refine ⟨by rw [e0]; exact h.1, by rw [e0]; exact h.2.1, fun j hj => ?_⟩
  have q := h.2.2 j hj
  have i7 := t_cl (i := x7) h7 hd
  have i8 := t_cl (i := x8) h8 hd
  rw [e6, e7, e8]
  unfold upd
  refine ⟨q.1, ?_, ?_, ?_, ?_⟩
  · split
    · exact hb
    · exact q.2.1
  · split
    · exact hc
    · exact q.2.2.1
  · split
    · omega
    · exact q.2.2.2.1
  · split
    · omega
    · exact q.2.2.2.2
def butC (n : Nat) (I I' : Nat → Nat → Int32) : Prop := ∀ k, k ≠ n → I' k = I k
theorem butC.rf (n : Nat) (I : Nat → Nat → Int32) : butC n I I := fun _ _ => rfl
theorem butC.up {n : Nat} {I I' : Nat → Nat → Int32} {f : Nat → Int32} (h : butC n I I') : butC n I (uR I' n f) := fun k hk => by unfold uR; rw [if_neg hk]; exact h k hk
theorem RI.but {n : Nat} {I I' : Nat → Nat → Int32} (h : RI I) (b : butC n I I') (hn : n = 1 ∨ n = 2 ∨ n = 3 ∨ n = 4 ∨ n = 5) : RI I' := by
  unfold RI
  rw [b 0 (by omega), b 6 (by omega), b 7 (by omega), b 8 (by omega)]
  exact h
/-! a WORD of small letters, laid and SET on the model's side (behind fnx4) -/
def tWs (T : fxT) (D : Int32) (B : Nat → Int) (n : Int) (A : Nat → Int32) (p : Int) : Prop := ∃ l, gRe (tNx T D B n n) (0, []) (p, l) ∧ tMc A l
def tWn (T : fxT) (D : Int32) (B : Nat → Int) (n : Int) : Prop := ∃ (p : Int) (l : List Int), gRe (tNx T D B n n) (0, []) (p, l) ∧ 0 ≤ p ∧ p < n ∧ uNo T D B p 0 n
def tSm (B : Nat → Int) (n : Int) : Prop := ∀ j : Nat, (j : Int) < n → 97 ≤ B j ∧ B j ≤ 122
def tWc (f l n : Int) (B : Nat → Int) (A : Nat → Int32) : Prop := f = 0 ∧ l = n ∧ tSm B n ∧ tMc A []
def tTx (A : Nat → Int32) (l : List Int) (n : Int) : Prop := n ≤ (l.length : Int) ∧ ∀ j : Nat, (j : Int) < n → (A (16800 + j)).toInt = tBy l j
section Fnx6
variable {T : fxT} {D : Int32} {B : Nat → Int} {n n2 p p2 k : Int} {A A' : Nat → Int32} {r : Nat} {l x row : List Int} {rs : List Nat}
theorem tMc.nil (h : (A 16508).toInt = 0) : tMc A [] := ⟨h, fun k hk => absurd hk (Nat.not_lt_zero _)⟩
theorem tWs.in (hp : p = 0) (h : tMc A []) : tWs T D B n A p := by
  subst hp
  exact ⟨[], gRe.rf, h⟩
theorem tWs.st (h : tWs T D B n A p) (h0 : 0 ≤ p) (hn : p < n) (g : uLg T D B p 0 n r) (e : p2 = p + (uLC T r : Int)) (q : ∀ l, tMc A l → tMc A' (l ++ tCs T r)) : tWs T D B n A' p2 := by
  obtain ⟨l, a, b⟩ := h
  exact ⟨l ++ tCs T r, a.st ⟨h0, hn, r, g, by rw [e]⟩, q l b⟩
theorem tWs.no (h : tWs T D B n A p) (h0 : 0 ≤ p) (hn : p < n) (g : uNo T D B p 0 n) : tWn T D B n := by
  obtain ⟨l, a, _⟩ := h
  exact ⟨p, l, a, h0, hn, g⟩
theorem tWs.tr (h : tWs T D B n A n) (hn : n = ((tWd T rs).length : Int)) (e : ∀ j : Nat, (j : Int) < n → B j = tBy (tWd T rs) j) : ∃ l, tMc A l ∧ ∀ row, l = row ↔ tTr T D row rs := by
  obtain ⟨l, a, b⟩ := h
  have g : tTr T D l rs := by
    unfold tTr
    rw [← hn]
    exact gRe.mo (fun x => tNx.cg e x) a
  refine ⟨l, b, fun row => ⟨fun q => by rw [← q]; exact g, fun q => ?_⟩⟩
  exact tTr.one (T := T) (D := D) (B := tBy (tWd T rs)) (n := ((tWd T rs).length : Int)) g q
theorem tWn.tr (h : tWn T D B n) (hn : n = ((tWd T rs).length : Int)) (e : ∀ j : Nat, (j : Int) < n → B j = tBy (tWd T rs) j) : ¬ tTr T D row rs := by
  obtain ⟨p, l, a, h0, h1, u⟩ := h
  have b : tBad T D B n n row := ⟨p, l, a, h0, h1, Or.inl u⟩
  have c : tBad T D (tBy (tWd T rs)) n n row := tBad.cg e b
  rw [hn] at c
  exact tBad.en c
theorem tTx.in (hn : n = 0) : tTx A [] n := by
  subst hn
  exact ⟨Int.le_refl _, fun j hj => by omega⟩
theorem tTx.up (h : tTx A l n) : tTx A (l ++ x) n := by
  obtain ⟨a, b⟩ := h
  refine ⟨by rw [List.length_append]; omega, fun j hj => ?_⟩
  rw [tBy.app (by omega)]
  exact b j hj
theorem tTx.st {ix v : Int32} (h : tTx A l n) (h0 : 0 ≤ n) (hl : n < (l.length : Int)) (e : A' = upd A ix.toNatClampNeg v) (hi : ix.toInt = 16800 + n) (hv : v.toInt = tBy l n.toNat) (h2 : n2 = n + 1) : tTx A' l n2 := by
  subst h2
  have i := t_cl (i := ix) hi (by omega)
  refine ⟨by omega, fun j hj => ?_⟩
  rw [e]
  by_cases z : j = n.toNat
  · rw [upd_at_ (show 16800 + j = ix.toNatClampNeg by omega), hv, z]
  · rw [pk_un (by omega)]
    exact h.2 j (by omega)
/-- a letter more -/
theorem tTx.sn {ix v : Int32} (h : tTx A (x ++ tLs T r) n) (h0 : 0 ≤ k) (hn : n = (x.length : Int) + k) (hk : k < (uLC T r : Int)) (e : A' = upd A ix.toNatClampNeg v) (hi : ix.toInt = 16800 + n) (hv : v.toInt = uLT T r k.toNat + 96) (h2 : n2 = n + 1) : tTx A' (x ++ tLs T r) n2 := by
  refine h.st (by omega) (by rw [List.length_append, tLs.len]; omega) e hi ?_ h2
  rw [hv, show n.toNat = x.length + k.toNat by omega, tBy.sn (by rw [tLs.len]; omega), tLs.get (by omega)]
theorem tWd.lg (q : ∀ x ∈ T.2, ∀ v ∈ x.1, (1 : Int) ≤ v ∧ v ≤ 26) : ∀ (rs : List Nat) (v : Int), v ∈ tWd T rs → 97 ≤ v ∧ v ≤ 122
  | [], v, h => absurd h List.not_mem_nil
  | r :: rs, v, h => by
    have h2 : v ∈ tLs T r ++ tWd T rs := h
    rcases List.mem_append.1 h2 with h3 | h3
    · unfold tLs at h3
      obtain ⟨x, hx, e⟩ := List.mem_map.1 h3
      rcases fxT.in (T := T) r with m | m
      · have z := q _ m x hx
        omega
      · rw [m] at hx
        exact absurd hx List.not_mem_nil
    · exact tWd.lg q rs v h3
theorem tBy.lg (q : ∀ x ∈ T.2, ∀ v ∈ x.1, (1 : Int) ≤ v ∧ v ≤ 26) {j : Nat} (hj : j < (tWd T rs).length) : 97 ≤ tBy (tWd T rs) j ∧ tBy (tWd T rs) j ≤ 122 := by
  refine tWd.lg q rs _ ?_
  unfold tBy
  rw [List.getD_eq_getElem?_getD, List.getElem?_eq_getElem hj]
  exact List.getElem_mem hj
theorem tWd.pos {F : Nat → Int32} : ∀ {k : Nat}, 0 < k → (∀ i, i < k → 1 ≤ uLC T (F i).toInt.toNat) → 0 < (tWd T (tRs F k)).length
  | 0, h, _ => absurd h (Nat.lt_irrefl _)
  | k + 1, _, h => by
    have a := h k (Nat.lt_succ_self k)
    rw [tRs.sn, tWd.sn, List.length_append, tLs.len]
    omega
theorem uLT.lg (q : ∀ x ∈ T.2, ∀ v ∈ x.1, (1 : Int) ≤ v ∧ v ≤ 26) {k : Nat} (hk : k < uLC T r) : 1 ≤ uLT T r k ∧ uLT T r k ≤ 26 := by
  have m2 : ∀ y : fxR, (y ∈ T.2 ∨ y = fxE) → k < y.1.length → 1 ≤ y.1.getD k 0 ∧ y.1.getD k 0 ≤ 26 := fun y hy h9 => by
    rcases hy with m | m
    · refine q y m _ ?_
      rw [List.getD_eq_getElem?_getD, List.getElem?_eq_getElem h9]
      exact List.getElem_mem h9
    · rw [m] at h9
      exact absurd h9 (Nat.not_lt_zero _)
  exact m2 _ (fxT.in r) hk
end Fnx6
/-! how many TRUE READINGS the class finds: no more than READINGS -/
section Fnx7
variable {t w : Nat → Nat → Int32} {n : Int32}
theorem tQ.le (hc : cntP t w n) (hY : HY t) (h9 : (w 4 0).toInt ≤ 9999) : tQ t w 0 [] ≤ 9999 := by
  obtain ⟨e, h⟩ := hc
  rw [← e] at h
  have h1 : ∀ r, r < (t 0 0).toInt.toNat → 1 ≤ cN t r := fun r hr => by
    have a := hY r (by omega)
    show 1 ≤ (t 3 r).toInt.toNat
    omega
  have hm : ∀ r p, okC t w (w 0 5).toInt.toNat r p → p + cN t r ≤ (w 0 5).toInt.toNat := fun r p o => o.2.1
  have z := tK.le (tr := tTr (fxTc t) (t 0 1) (tRw w)) h (fun j hj => wyP.nn h hm h1 _ j (Nat.le_refl _) hj) hm (fun r p hr o => ⟨h1 r hr, hm r p o⟩) (w 0 5).toInt.toNat 0 [] (by omega) (Nat.zero_le _) (by show (w 4 0).toInt < 999999; omega)
  exact Int.le_trans z h9
theorem RI.z0 (h : RI w) : (w 6 0).toInt = 0 ∧ (w 7 0).toInt = 0 ∧ (w 8 0).toInt = 0 := by
  have q := h.2.2 0 (by omega)
  omega
end Fnx7
set_option maxHeartbeats 4000000 in
set_option maxRecDepth 100000 in
theorem kX4_put (l : Launch) (g : gG) (a_w : Nat → Nat) (I_w : Nat → Nat → Int32) (k : Int32) (cell : Int32) (failed : Int32) (hR : RI I_w) (h_k : 0 ≤ k.toInt ∧ k.toInt < 20) : EffV l g yX4_put wsX4_put 0 [.ref (a_w 0), .int k, .int cell, .int failed] (wX4 g a_w I_w) (fun (u : (Nat → Nat → Int32)) => wX4 g a_w u) (fun (u : (Nat → Nat → Int32)) => RI (u) ∧ (u) 2 = upd (I_w 2) k.toNatClampNeg cell ∧ (u) 3 = upd (I_w 3) k.toNatClampNeg failed ∧ ∀ c, c ≠ 2 → c ≠ 3 → (u) c = I_w c) := by
  refine EffV.st (cc := cX4_put) (maxL := 4) (by decide) rfl (Nat.le_of_ble_eq_true rfl) (fun p e s m args below meth c A Q ls fx hK hP hD hA hS hl hret => ?_)
  have hx := fx.1
  have hb := fx.2.1
  have hml := fx.2.2.1
  have hown := fx.2.2.2.1
  have hts := fx.2.2.2.2
  have hl : lv_has ls 4 [(0, .ref (a_w 0)), (1, .int k), (2, .int cell), (3, .int failed)] := hl
  have hP : va_P g.1 vwCl (wX4 g a_w I_w) s.heap := hP
  have hf_22 := hts _ (uT _ _ u_136)
  have hf_25 := hts _ (uT _ _ u_137)
  have hi_X4 : ∀ w ∈ wsX40, w.before args s = true := fun w h => hts w (uT _ w (u_wsX40 w h))
  have lm1 : (-1 : Int32).toInt = -1 := by decide
  have lm0 : (0 : Int32).toInt = 0 := by decide
  have lm2 : (1 : Int32).toInt = 1 := by decide
  refine lv_aload_n hx hb dX4_put_0 rfl (lv_at hl 0 rfl) ?_
  refine va_get (D := g.1) (ci := 4) (v := .ref (a_w 2)) (C := RX4) (T := TX4) (N := 11) hx hb hi_X4 (fun _ h => h) hown hK.1 hP 0 rfl rfl 3 (by decide) hf_22 (fun _ h9 => h9) rfl dX4_put_1 ?_
  refine lv_iload_n hx hb dX4_put_4 rfl (lv_at hl 1 rfl) ?_
  refine lv_iload_n hx hb dX4_put_5 rfl (lv_at hl 2 rfl) ?_
  have n_6 : vp_in k 20 := (t_in (by omega))
  obtain ⟨f1, e_f1⟩ : ∃ z, z = upd (I_w 2) k.toNatClampNeg cell := ⟨_, rfl⟩
  refine va_iast hx hb hK.1 hP hD hS 2 0 rfl rfl n_6 dX4_put_6 (fun H locs hP hD hS => ?_)
  have hP : va_P g.1 vwCl (wX4 g a_w (uR I_w 2 f1)) H := by rw [e_f1]; exact hP
  have hD : va_D A (wX4 g a_w (uR I_w 2 f1)) := by rw [e_f1]; exact hD
  refine lv_aload_n hx hb dX4_put_7 rfl (lv_at hl 0 rfl) ?_
  refine va_get (D := g.1) (ci := 4) (v := .ref (a_w 3)) (C := RX4) (T := TX4) (N := 11) hx hb hi_X4 (fun _ h => h) hown hK.1 hP 0 rfl rfl 4 (by decide) hf_25 (fun _ h9 => h9) rfl dX4_put_8 ?_
  refine lv_iload_n hx hb dX4_put_11 rfl (lv_at hl 1 rfl) ?_
  refine lv_iload_n hx hb dX4_put_12 rfl (lv_at hl 3 rfl) ?_
  have n_13 : vp_in k 20 := (t_in (by omega))
  obtain ⟨f2, e_f2⟩ : ∃ z, z = upd (I_w 3) k.toNatClampNeg failed := ⟨_, rfl⟩
  refine va_iast hx hb hK.1 hP hD hS 3 0 rfl rfl n_13 dX4_put_13 (fun H locs hP hD hS => ?_)
  have hP : va_P g.1 vwCl (wX4 g a_w (uR (uR I_w 2 f1) 3 f2)) H := by rw [e_f2]; exact hP
  have hD : va_D A (wX4 g a_w (uR (uR I_w 2 f1) 3 f2)) := by rw [e_f2]; exact hD
  refine hret 14 ls _ _ (uR (uR I_w 2 f1) 3 f2) dX4_put_14 hS hP hD ?_
  exact ⟨RI.of hR hR.1 hR.2.1 rfl rfl rfl, e_f1, e_f2, fun c h2 h3 => by unfold uR; rw [if_neg h3, if_neg h2]⟩

set_option maxHeartbeats 4000000 in
set_option maxRecDepth 100000 in
theorem kX4_readings (l : Launch) (g : gG) (a_w : Nat → Nat) (I_w : Nat → Nat → Int32)  : PurI l g yX4_readings wsX4_readings 0 [.ref (a_w 0)] (wX4 g a_w I_w) (fun r => r = I_w 4 0) := by
  refine PurI.st (cc := cX4_readings) (maxL := 1) (by decide) rfl (Nat.le_of_ble_eq_true rfl) (fun p e s m args below meth c Q ls fx hK hP hl hret => ?_)
  have hx := fx.1
  have hb := fx.2.1
  have hml := fx.2.2.1
  have hown := fx.2.2.2.1
  have hts := fx.2.2.2.2
  have hl : lv_has ls 1 [(0, .ref (a_w 0))] := hl
  have hP : va_P g.1 vwCl (wX4 g a_w I_w) s.heap := hP
  have hf_31 := hts _ (uT _ _ u_139)
  have hi_X4 : ∀ w ∈ wsX40, w.before args s = true := fun w h => hts w (uT _ w (u_wsX40 w h))
  have lm1 : (-1 : Int32).toInt = -1 := by decide
  have lm0 : (0 : Int32).toInt = 0 := by decide
  have lm2 : (1 : Int32).toInt = 1 := by decide
  refine lv_aload_n hx hb dX4_readings_0 rfl (lv_at hl 0 rfl) ?_
  refine va_get (D := g.1) (ci := 4) (v := .ref (a_w 4)) (C := RX4) (T := TX4) (N := 11) hx hb hi_X4 (fun _ h => h) hown hK.1 hP 0 rfl rfl 6 (by decide) hf_31 (fun _ h9 => h9) rfl dX4_readings_1 ?_
  refine lv_iconst (v := 0) hx hb dX4_readings_4 (by decide) ?_
  have n_5 : vp_in (0 : Int32) 21 := (t_in (by decide))
  refine va_iald hx hb hK.1 hP 4 0 rfl rfl n_5 dX4_readings_5 ?_
  refine q_nm (fun x1 e_x1 => ?_)
  have e_x1 : x1 = (I_w 4) 0 := e_x1
  have g_x1 : x1.toInt = ((I_w 4) 0).toInt := congrArg _ e_x1
  exact hret 6 ls x1 dX4_readings_6 e_x1

set_option maxHeartbeats 4000000 in
set_option maxRecDepth 100000 in
theorem kX4_goesOn (l : Launch) (g : gG) (a_w : Nat → Nat) (I_w : Nat → Nat → Int32) (a_t : Nat → Nat) (I_t : Nat → Nat → Int32) (rule : Int32) (ia : Int32) (h_rule : 0 ≤ rule.toInt ∧ rule.toInt < 24) (hT : TI I_t) (hR : RI I_w) (h_at : 0 ≤ ia.toInt ∧ ia.toInt ≤ 20) : PurI l g yX4_goesOn wsX4_goesOn 2 [.ref (a_w 0), .int rule, .int ia, .ref (a_t 0)] (wX4 g a_w I_w ++ wX7 g a_t I_t) (fun r => bP (ia.toInt + (I_t 3 rule.toNatClampNeg).toInt ≤ (I_w 0 5).toInt ∧ gC I_t I_w rule.toInt.toNat ia.toInt.toNat) (¬ gC I_t I_w rule.toInt.toNat ia.toInt.toNat) r) := by
  refine PurI.sz (cc := cX4_goesOn) (maxL := 6) (by decide) rfl (Nat.le_of_ble_eq_true rfl) (fun p e s m args below meth c Q ls fx hK hP hl hret => ?_)
  have hx := fx.1
  have hb := fx.2.1
  have hml := fx.2.2.1
  have hown := fx.2.2.2.1
  have hts := fx.2.2.2.2
  have hl : lv_has ls 6 [(0, .ref (a_w 0)), (1, .int rule), (2, .int ia), (3, .ref (a_t 0))] := hl
  have hP : va_P g.1 vwCl (wX4 g a_w I_w ++ wX7 g a_t I_t) s.heap := hP
  have hf_22 := hts _ (uT _ _ u_136)
  have hf_25 := hts _ (uT _ _ u_137)
  have hf_28 := hts _ (uT _ _ u_138)
  have hf_31 := hts _ (uT _ _ u_139)
  have hf_56 := hts _ (uT _ _ u_1324)
  have hi_X4 : ∀ w ∈ wsX40, w.before args s = true := fun w h => hts w (uT _ w (u_wsX40 w h))
  have hi_X7 : ∀ w ∈ wsX70, w.before args s = true := fun w h => hts w (uT _ w (u_wsX70 w h))
  have lm1 : (-1 : Int32).toInt = -1 := by decide
  have lm0 : (0 : Int32).toInt = 0 := by decide
  have lm2 : (1 : Int32).toInt = 1 := by decide
  have hfm := RI.fm hR
  have hmn := RI.mn hR
  refine lv_iload_n hx hb dX4_goesOn_0 rfl (lv_at hl 2 rfl) ?_
  refine lv_aload_n hx hb dX4_goesOn_1 rfl (lv_at hl 3 rfl) ?_
  refine va_get (D := g.1) (ci := 7) (v := .ref (a_t 3)) (C := RX7) (T := TX7) (N := 8) hx hb hi_X7 (fun _ h => h) hown hK.1 hP 9 rfl rfl 4 (by decide) hf_56 (fun _ h9 => h9) rfl dX4_goesOn_2 ?_
  refine lv_iload_n hx hb dX4_goesOn_5 rfl (lv_at hl 1 rfl) ?_
  have n_6 : vp_in rule 24 := (t_in (by omega))
  refine va_iald hx hb hK.1 hP 12 0 rfl rfl n_6 dX4_goesOn_6 ?_
  refine q_nm (fun x1 e_x1 => ?_)
  have e_x1 : x1 = (I_t 3) rule.toNatClampNeg := e_x1
  have g_x1 : x1.toInt = ((I_t 3) rule.toNatClampNeg).toInt := congrArg _ e_x1
  have f_x1 := TI.cc hT rule.toNatClampNeg
  rw [← e_x1] at f_x1
  refine r_iadd hx hb dX4_goesOn_7 rfl rfl (fun x2 e_x2 t_x2 => ?_)
  try have t_x2 := t_x2 (by omega)
  refine lv_istore (lv' := [(4, .int x2), (0, .ref (a_w 0)), (1, .int rule), (2, .int ia), (3, .ref (a_t 0))]) hx hb dX4_goesOn_8 hl (by decide) rfl (fun ls hl => ?_)
  refine lv_iload hx hb dX4_goesOn_10 (lv_at hl 0 rfl) ?_
  refine lv_aload_n hx hb dX4_goesOn_12 rfl (lv_at hl 1 rfl) ?_
  refine va_get (D := g.1) (ci := 4) (v := .int (I_w 0 5)) (C := RX4) (T := TX4) (N := 11) hx hb hi_X4 (fun _ h => h) hown hK.1 hP 0 rfl rfl 5 (by decide) hf_28 (fun _ h9 => h9) rfl dX4_goesOn_13 ?_
  refine q_icmp_gt (tgt := 37) hx hb dX4_goesOn_16 (by decide) rfl rfl (fun k_16 => ?_) (fun k_16 => ?_)
  · refine lv_iconst (v := 0) hx hb dX4_goesOn_37 (by decide) ?_
    exact hret 38 ls (0 : Int32) dX4_goesOn_38 (Or.inl rfl) (by have c6 : (cC I_t rule.toInt.toNat).toInt = (x1).toInt := congrArg Int32.toInt e_x1.symm; first | exact Or.inr ⟨rfl, fun q => by have w := q.1.2.1; omega⟩ | exact Or.inr ⟨rfl, fun q => by have w := q.1.1; rw [← (t_nI (x := rule) rfl (by omega)).1, q_24] at w; exact absurd w (by decide)⟩)
  · refine lv_aload_n hx hb dX4_goesOn_19 rfl (lv_at hl 4 rfl) ?_
    refine lv_iload_n hx hb dX4_goesOn_20 rfl (lv_at hl 2 rfl) ?_
    refine PurI.cv (As := [.int rule]) (kX7_isThere l g a_t I_t rule) fx (gUV (uT _) u_1330 u_983 u_984 u_31 u_985) rfl hdX7_isThere ⟨Nat.le_of_ble_eq_true rfl, Nat.le_of_ble_eq_true rfl⟩ hK hP [9, 10, 11, 12, 13, 14, 15] rfl rfl rfl rfl rfl hl.1 (Nat.le_of_ble_eq_true rfl) dX4_goesOn_21 (fun r3 p_r3 => ?_)
    refine q_if_eq (tgt := 37) hx hb dX4_goesOn_24 (by decide) rfl (fun b_24 k_24 => ?_) (fun b_24 k_24 => ?_)
    · have q_24 := bP.f p_r3 b_24
      refine lv_iconst (v := 0) hx hb dX4_goesOn_37 (by decide) ?_
      exact hret 38 ls (0 : Int32) dX4_goesOn_38 (Or.inl rfl) (by have c6 : (cC I_t rule.toInt.toNat).toInt = (x1).toInt := congrArg Int32.toInt e_x1.symm; first | exact Or.inr ⟨rfl, fun q => by have w := q.1.2.1; omega⟩ | exact Or.inr ⟨rfl, fun q => by have w := q.1.1; rw [← (t_nI (x := rule) rfl (by omega)).1, q_24] at w; exact absurd w (by decide)⟩)
    · have q_24 := bP.t p_r3 b_24
      refine lv_aload_n hx hb dX4_goesOn_27 rfl (lv_at hl 1 rfl) ?_
      refine va_get (D := g.1) (ci := 4) (v := .ref (a_w 4)) (C := RX4) (T := TX4) (N := 11) hx hb hi_X4 (fun _ h => h) hown hK.1 hP 0 rfl rfl 6 (by decide) hf_31 (fun _ h9 => h9) rfl dX4_goesOn_28 ?_
      refine lv_iload hx hb dX4_goesOn_31 (lv_at hl 0 rfl) ?_
      have n_33 : vp_in x2 21 := (t_in (by omega))
      refine va_iald hx hb hK.1 hP 4 0 rfl rfl n_33 dX4_goesOn_33 ?_
      refine q_nm (fun x4 e_x4 => ?_)
      have e_x4 : x4 = (I_w 4) x2.toNatClampNeg := e_x4
      have g_x4 : x4.toInt = ((I_w 4) x2.toNatClampNeg).toInt := congrArg _ e_x4
      refine q_if_ne (tgt := 39) hx hb dX4_goesOn_34 (by decide) rfl (fun b_34 k_34 => ?_) (fun b_34 k_34 => ?_)
      · refine lv_iload_n hx hb dX4_goesOn_39 rfl (lv_at hl 3 rfl) ?_
        refine lv_istore (lv' := [(5, .int ia), (4, .int x2), (0, .ref (a_w 0)), (1, .int rule), (2, .int ia), (3, .ref (a_t 0))]) hx hb dX4_goesOn_40 hl (by decide) rfl (fun ls hl => ?_)
        have L42 : ∀ (nn : Nat) (v5_42 : Int32), (hv_42 : ia.toInt ≤ v5_42.toInt ∧ v5_42.toInt ≤ 20) → (hq_42 : ∀ k : Nat, (k : Int) < v5_42.toInt - ia.toInt → ((cL I_t rule.toInt.toNat k ^^^ I_w 2 (ia.toInt.toNat + k)) &&& (I_w 3 (ia.toInt.toNat + k) ^^^ -1)) = 0) → ((21 - v5_42.toInt) < (nn : Int)) → ∀ ls : Array Slot, lv_has ls 6 [(5, .int v5_42), (4, .int x2), (0, .ref (a_w 0)), (1, .int rule), (2, .int ia), (3, .ref (a_t 0))] → W p l e (rm 2) s m args below meth c s.heap [] 0 0 Q (F0 m 42 ls []) := by
          intro n_42
          induction n_42 with
          | zero =>
            intro v5_42 hv_42 hq_42 hms_42 ls hl
            exfalso; omega
          | succ n_42 ih_42 =>
            intro v5_42 hv_42 hq_42 hms_42 ls hl
            refine lv_iload hx hb dX4_goesOn_42 (lv_at hl 0 rfl) ?_
            refine lv_iload hx hb dX4_goesOn_44 (lv_at hl 1 rfl) ?_
            refine q_icmp_ge (tgt := 87) hx hb dX4_goesOn_46 (by decide) rfl rfl (fun k_46 => ?_) (fun k_46 => ?_)
            · refine lv_aload_n hx hb dX4_goesOn_87 rfl (lv_at hl 5 rfl) ?_
              refine lv_iload_n hx hb dX4_goesOn_88 rfl (lv_at hl 3 rfl) ?_
              refine lv_iload_n hx hb dX4_goesOn_89 rfl (lv_at hl 4 rfl) ?_
              refine q_if_ne (tgt := 97) hx hb dX4_goesOn_90 (by decide) rfl (fun b_90 k_90 => ?_) (fun b_90 k_90 => ?_)
              · refine lv_iconst (v := 0) hx hb dX4_goesOn_97 (by decide) ?_
                refine lv_iload hx hb dX4_goesOn_98 (lv_at hl 1 rfl) ?_
                refine lv_aload_n hx hb dX4_goesOn_100 rfl (lv_at hl 2 rfl) ?_
                refine va_get (D := g.1) (ci := 4) (v := .int (I_w 0 5)) (C := RX4) (T := TX4) (N := 11) hx hb hi_X4 (fun _ h => h) hown hK.1 hP 0 rfl rfl 5 (by decide) hf_28 (fun _ h9 => h9) rfl dX4_goesOn_101 ?_
                refine q_icmp_ne (tgt := 111) hx hb dX4_goesOn_104 (by decide) rfl rfl (fun k_104 => ?_) (fun k_104 => ?_)
                · refine lv_iconst (v := 0) hx hb dX4_goesOn_111 (by decide) ?_
                  refine PurI.cv (As := [.int rule, .int (0 : Int32), .int (0 : Int32)]) (kX7_condHolds l g a_t I_t rule (0 : Int32) (0 : Int32) (by omega) hT) fx (gUV (uT _) u_1332 u_659 u_660 u_31 u_661) rfl hdX7_condHolds ⟨Nat.le_of_ble_eq_true rfl, Nat.le_of_ble_eq_true rfl⟩ hK hP [9, 10, 11, 12, 13, 14, 15] rfl rfl rfl rfl rfl hl.1 (Nat.le_of_ble_eq_true rfl) dX4_goesOn_112 (fun r5 p_r5 => ?_)
                  exact hret 115 ls r5 dX4_goesOn_115 (bP.z p_r5) (by have c6 : (cC I_t rule.toInt.toNat).toInt = (x1).toInt := congrArg Int32.toInt e_x1.symm; have hE : ∀ z : Int32, (z.toInt ≠ 0 ↔ (x2).toInt = (I_w 0 5).toInt) → (z.toInt ≠ 0 ↔ ia.toInt.toNat + (cC I_t rule.toInt.toNat).toInt.toNat = (I_w 0 5).toInt.toNat) := fun z hz => (by rw [hz]; omega); refine bP.imp p_r5 (fun q => ⟨by omega, ⟨(by rw [← (t_nI (x := rule) rfl (by omega)).1]; exact q_24), (by omega), fun k hk => hq_42 k (by omega), q.cg (by omega) (by omega)⟩, (by rw [show ia.toInt.toNat + cN I_t rule.toInt.toNat = (x2).toInt.toNat from (by show _ + (cC I_t rule.toInt.toNat).toInt.toNat = _; omega), show I_w 4 (x2).toInt.toNat = x4 from e_x4.symm]; omega)⟩) (fun q w => q (w.1.2.2.2.cg (by omega) (by omega))))
                · refine lv_iconst (v := 1) hx hb dX4_goesOn_107 (by decide) ?_
                  refine lv_goto (tgt := 112) hx hb dX4_goesOn_108 (by decide) ?_
                  refine PurI.cv (As := [.int rule, .int (0 : Int32), .int (1 : Int32)]) (kX7_condHolds l g a_t I_t rule (0 : Int32) (1 : Int32) (by omega) hT) fx (gUV (uT _) u_1332 u_659 u_660 u_31 u_661) rfl hdX7_condHolds ⟨Nat.le_of_ble_eq_true rfl, Nat.le_of_ble_eq_true rfl⟩ hK hP [9, 10, 11, 12, 13, 14, 15] rfl rfl rfl rfl rfl hl.1 (Nat.le_of_ble_eq_true rfl) dX4_goesOn_112 (fun r6 p_r6 => ?_)
                  exact hret 115 ls r6 dX4_goesOn_115 (bP.z p_r6) (by have c6 : (cC I_t rule.toInt.toNat).toInt = (x1).toInt := congrArg Int32.toInt e_x1.symm; have hE : ∀ z : Int32, (z.toInt ≠ 0 ↔ (x2).toInt = (I_w 0 5).toInt) → (z.toInt ≠ 0 ↔ ia.toInt.toNat + (cC I_t rule.toInt.toNat).toInt.toNat = (I_w 0 5).toInt.toNat) := fun z hz => (by rw [hz]; omega); refine bP.imp p_r6 (fun q => ⟨by omega, ⟨(by rw [← (t_nI (x := rule) rfl (by omega)).1]; exact q_24), (by omega), fun k hk => hq_42 k (by omega), q.cg (by omega) (by omega)⟩, (by rw [show ia.toInt.toNat + cN I_t rule.toInt.toNat = (x2).toInt.toNat from (by show _ + (cC I_t rule.toInt.toNat).toInt.toNat = _; omega), show I_w 4 (x2).toInt.toNat = x4 from e_x4.symm]; omega)⟩) (fun q w => q (w.1.2.2.2.cg (by omega) (by omega))))
              · refine lv_iconst (v := 1) hx hb dX4_goesOn_93 (by decide) ?_
                refine lv_goto (tgt := 98) hx hb dX4_goesOn_94 (by decide) ?_
                refine lv_iload hx hb dX4_goesOn_98 (lv_at hl 1 rfl) ?_
                refine lv_aload_n hx hb dX4_goesOn_100 rfl (lv_at hl 2 rfl) ?_
                refine va_get (D := g.1) (ci := 4) (v := .int (I_w 0 5)) (C := RX4) (T := TX4) (N := 11) hx hb hi_X4 (fun _ h => h) hown hK.1 hP 0 rfl rfl 5 (by decide) hf_28 (fun _ h9 => h9) rfl dX4_goesOn_101 ?_
                refine q_icmp_ne (tgt := 111) hx hb dX4_goesOn_104 (by decide) rfl rfl (fun k_104 => ?_) (fun k_104 => ?_)
                · refine lv_iconst (v := 0) hx hb dX4_goesOn_111 (by decide) ?_
                  refine PurI.cv (As := [.int rule, .int (1 : Int32), .int (0 : Int32)]) (kX7_condHolds l g a_t I_t rule (1 : Int32) (0 : Int32) (by omega) hT) fx (gUV (uT _) u_1332 u_659 u_660 u_31 u_661) rfl hdX7_condHolds ⟨Nat.le_of_ble_eq_true rfl, Nat.le_of_ble_eq_true rfl⟩ hK hP [9, 10, 11, 12, 13, 14, 15] rfl rfl rfl rfl rfl hl.1 (Nat.le_of_ble_eq_true rfl) dX4_goesOn_112 (fun r7 p_r7 => ?_)
                  exact hret 115 ls r7 dX4_goesOn_115 (bP.z p_r7) (by have c6 : (cC I_t rule.toInt.toNat).toInt = (x1).toInt := congrArg Int32.toInt e_x1.symm; have hE : ∀ z : Int32, (z.toInt ≠ 0 ↔ (x2).toInt = (I_w 0 5).toInt) → (z.toInt ≠ 0 ↔ ia.toInt.toNat + (cC I_t rule.toInt.toNat).toInt.toNat = (I_w 0 5).toInt.toNat) := fun z hz => (by rw [hz]; omega); refine bP.imp p_r7 (fun q => ⟨by omega, ⟨(by rw [← (t_nI (x := rule) rfl (by omega)).1]; exact q_24), (by omega), fun k hk => hq_42 k (by omega), q.cg (by omega) (by omega)⟩, (by rw [show ia.toInt.toNat + cN I_t rule.toInt.toNat = (x2).toInt.toNat from (by show _ + (cC I_t rule.toInt.toNat).toInt.toNat = _; omega), show I_w 4 (x2).toInt.toNat = x4 from e_x4.symm]; omega)⟩) (fun q w => q (w.1.2.2.2.cg (by omega) (by omega))))
                · refine lv_iconst (v := 1) hx hb dX4_goesOn_107 (by decide) ?_
                  refine lv_goto (tgt := 112) hx hb dX4_goesOn_108 (by decide) ?_
                  refine PurI.cv (As := [.int rule, .int (1 : Int32), .int (1 : Int32)]) (kX7_condHolds l g a_t I_t rule (1 : Int32) (1 : Int32) (by omega) hT) fx (gUV (uT _) u_1332 u_659 u_660 u_31 u_661) rfl hdX7_condHolds ⟨Nat.le_of_ble_eq_true rfl, Nat.le_of_ble_eq_true rfl⟩ hK hP [9, 10, 11, 12, 13, 14, 15] rfl rfl rfl rfl rfl hl.1 (Nat.le_of_ble_eq_true rfl) dX4_goesOn_112 (fun r8 p_r8 => ?_)
                  exact hret 115 ls r8 dX4_goesOn_115 (bP.z p_r8) (by have c6 : (cC I_t rule.toInt.toNat).toInt = (x1).toInt := congrArg Int32.toInt e_x1.symm; have hE : ∀ z : Int32, (z.toInt ≠ 0 ↔ (x2).toInt = (I_w 0 5).toInt) → (z.toInt ≠ 0 ↔ ia.toInt.toNat + (cC I_t rule.toInt.toNat).toInt.toNat = (I_w 0 5).toInt.toNat) := fun z hz => (by rw [hz]; omega); refine bP.imp p_r8 (fun q => ⟨by omega, ⟨(by rw [← (t_nI (x := rule) rfl (by omega)).1]; exact q_24), (by omega), fun k hk => hq_42 k (by omega), q.cg (by omega) (by omega)⟩, (by rw [show ia.toInt.toNat + cN I_t rule.toInt.toNat = (x2).toInt.toNat from (by show _ + (cC I_t rule.toInt.toNat).toInt.toNat = _; omega), show I_w 4 (x2).toInt.toNat = x4 from e_x4.symm]; omega)⟩) (fun q w => q (w.1.2.2.2.cg (by omega) (by omega))))
            · refine lv_aload_n hx hb dX4_goesOn_49 rfl (lv_at hl 5 rfl) ?_
              refine lv_iload_n hx hb dX4_goesOn_50 rfl (lv_at hl 3 rfl) ?_
              refine lv_iload hx hb dX4_goesOn_51 (lv_at hl 0 rfl) ?_
              refine lv_iload_n hx hb dX4_goesOn_53 rfl (lv_at hl 4 rfl) ?_
              refine r_isub hx hb dX4_goesOn_54 rfl rfl (fun x9 e_x9 t_x9 => ?_)
              try have t_x9 := t_x9 (by omega)
              refine PurI.cv (As := [.int rule, .int x9]) (kX7_cellAt l g a_t I_t rule x9 (by omega) (by omega) hT) fx (gUV (uT _) u_1331 u_633 u_634 u_31 u_635) rfl hdX7_cellAt ⟨Nat.le_of_ble_eq_true rfl, Nat.le_of_ble_eq_true rfl⟩ hK hP [9, 10, 11, 12, 13, 14, 15] rfl rfl rfl rfl rfl hl.1 (Nat.le_of_ble_eq_true rfl) dX4_goesOn_55 (fun r10 p_r10 => ?_)
              refine lv_aload_n hx hb dX4_goesOn_58 rfl (lv_at hl 2 rfl) ?_
              refine va_get (D := g.1) (ci := 4) (v := .ref (a_w 2)) (C := RX4) (T := TX4) (N := 11) hx hb hi_X4 (fun _ h => h) hown hK.1 hP 0 rfl rfl 3 (by decide) hf_22 (fun _ h9 => h9) rfl dX4_goesOn_59 ?_
              refine lv_iload hx hb dX4_goesOn_62 (lv_at hl 0 rfl) ?_
              have n_64 : vp_in v5_42 20 := (t_in (by omega))
              refine va_iald hx hb hK.1 hP 2 0 rfl rfl n_64 dX4_goesOn_64 ?_
              refine q_nm (fun x11 e_x11 => ?_)
              have e_x11 : x11 = (I_w 2) v5_42.toNatClampNeg := e_x11
              have g_x11 : x11.toInt = ((I_w 2) v5_42.toNatClampNeg).toInt := congrArg _ e_x11
              refine lv_ixor hx hb dX4_goesOn_65 ?_
              refine q_nm (fun x12 e_x12 => ?_)
              refine lv_aload_n hx hb dX4_goesOn_66 rfl (lv_at hl 2 rfl) ?_
              refine va_get (D := g.1) (ci := 4) (v := .ref (a_w 3)) (C := RX4) (T := TX4) (N := 11) hx hb hi_X4 (fun _ h => h) hown hK.1 hP 0 rfl rfl 4 (by decide) hf_25 (fun _ h9 => h9) rfl dX4_goesOn_67 ?_
              refine lv_iload hx hb dX4_goesOn_70 (lv_at hl 0 rfl) ?_
              have n_72 : vp_in v5_42 20 := (t_in (by omega))
              refine va_iald hx hb hK.1 hP 3 0 rfl rfl n_72 dX4_goesOn_72 ?_
              refine q_nm (fun x13 e_x13 => ?_)
              have e_x13 : x13 = (I_w 3) v5_42.toNatClampNeg := e_x13
              have g_x13 : x13.toInt = ((I_w 3) v5_42.toNatClampNeg).toInt := congrArg _ e_x13
              refine lv_iconst (v := -1) hx hb dX4_goesOn_73 (by decide) ?_
              refine lv_ixor hx hb dX4_goesOn_74 ?_
              refine q_nm (fun x14 e_x14 => ?_)
              refine lv_iand hx hb dX4_goesOn_75 ?_
              refine q_nm (fun x15 e_x15 => ?_)
              have hb75 : ((cL I_t rule.toInt.toNat (v5_42.toInt - ia.toInt).toNat ^^^ I_w 2 (ia.toInt.toNat + (v5_42.toInt - ia.toInt).toNat)) &&& (I_w 3 (ia.toInt.toNat + (v5_42.toInt - ia.toInt).toNat) ^^^ -1)) = x15 := by rw [show (v5_42.toInt - ia.toInt).toNat = (x9).toInt.toNat by omega, tq_cl (k := x9) p_r10.1 (by omega) (by omega), show ia.toInt.toNat + (x9).toInt.toNat = v5_42.toInt.toNat by omega, show I_w 2 v5_42.toInt.toNat = x11 from e_x11.symm, show I_w 3 v5_42.toInt.toNat = x13 from e_x13.symm, ← e_x12, ← e_x14, ← e_x15]
              refine q_if_eq (tgt := 81) hx hb dX4_goesOn_76 (by decide) rfl (fun b_76 k_76 => ?_) (fun b_76 k_76 => ?_)
              · refine r_iinc (lv' := fun i16 => [(5, .int i16), (4, .int x2), (0, .ref (a_w 0)), (1, .int rule), (2, .int ia), (3, .ref (a_t 0))]) hx hb dX4_goesOn_81 hl (k := 0) rfl (by decide) rfl (by decide) (fun _ => rfl) (fun i16 e_i16 t_i16 ls hl => ?_)
                try have t_i16 := t_i16 (by omega)
                refine lv_goto (tgt := 42) hx hb dX4_goesOn_84 (by decide) ?_
                exact ih_42 i16 (by omega) (tq_ext (P := fun k => ((cL I_t rule.toInt.toNat k ^^^ I_w 2 (ia.toInt.toNat + k)) &&& (I_w 3 (ia.toInt.toNat + k) ^^^ -1)) = 0) hq_42 (by omega) (by omega) (by show ((cL I_t rule.toInt.toNat (v5_42.toInt - ia.toInt).toNat ^^^ I_w 2 (ia.toInt.toNat + (v5_42.toInt - ia.toInt).toNat)) &&& (I_w 3 (ia.toInt.toNat + (v5_42.toInt - ia.toInt).toNat) ^^^ -1)) = 0; rw [hb75]; exact b_76)) (by omega) ls hl
              · refine lv_iconst (v := 0) hx hb dX4_goesOn_79 (by decide) ?_
                exact hret 80 ls (0 : Int32) dX4_goesOn_80 (Or.inl rfl) (by have c6 : (cC I_t rule.toInt.toNat).toInt = (x1).toInt := congrArg Int32.toInt e_x1.symm; exact Or.inr ⟨rfl, fun q => b_76 (by rw [← hb75]; exact q.1.2.2.1 _ (by omega))⟩)
        exact L42 ((21 - ia.toInt) + 1).toNat ia (by omega) (fun k q => by exfalso; omega) (by omega) ls hl
      · refine lv_iconst (v := 0) hx hb dX4_goesOn_37 (by decide) ?_
        exact hret 38 ls (0 : Int32) dX4_goesOn_38 (Or.inl rfl) (by have c6 : (cC I_t rule.toInt.toNat).toInt = (x1).toInt := congrArg Int32.toInt e_x1.symm; first | exact Or.inr ⟨rfl, fun q => by have w := q.1.2.1; omega⟩ | exact Or.inr ⟨rfl, fun q => by have w := q.1.1; rw [← (t_nI (x := rule) rfl (by omega)).1, q_24] at w; exact absurd w (by decide)⟩ | exact Or.inr ⟨rfl, fun q => q.2 (by rw [show ia.toInt.toNat + cN I_t rule.toInt.toNat = (x2).toInt.toNat from (by show _ + (cC I_t rule.toInt.toNat).toInt.toNat = _; omega), show I_w 4 (x2).toInt.toNat = x4 from e_x4.symm]; omega)⟩)

set_option maxHeartbeats 4000000 in
set_option maxRecDepth 100000 in
theorem kX4_lowestAt (l : Launch) (g : gG) (a_w : Nat → Nat) (I_w : Nat → Nat → Int32) (a_t : Nat → Nat) (I_t : Nat → Nat → Int32) (ia : Int32) (hT : TI I_t) (hR : RI I_w) (h_at : 0 ≤ ia.toInt ∧ ia.toInt ≤ 20) : PurI l g yX4_lowestAt wsX4_lowestAt 3 [.ref (a_w 0), .int ia, .ref (a_t 0)] (wX4 g a_w I_w ++ wX7 g a_t I_t) (fun r => -1 ≤ r.toInt ∧ r.toInt < (I_t 0 0).toInt ∧ ((r.toInt = -1 ∧ ∀ i : Nat, (i : Int) < (I_t 0 0).toInt → ¬ gC I_t I_w i ia.toInt.toNat) ∨ (0 ≤ r.toInt ∧ gC I_t I_w r.toInt.toNat ia.toInt.toNat ∧ ∀ i : Nat, i < r.toInt.toNat → ¬ gC I_t I_w i ia.toInt.toNat))) := by
  refine PurI.st (cc := cX4_lowestAt) (maxL := 4) (by decide) rfl (Nat.le_of_ble_eq_true rfl) (fun p e s m args below meth c Q ls fx hK hP hl hret => ?_)
  have hx := fx.1
  have hb := fx.2.1
  have hml := fx.2.2.1
  have hown := fx.2.2.2.1
  have hts := fx.2.2.2.2
  have hl : lv_has ls 4 [(0, .ref (a_w 0)), (1, .int ia), (2, .ref (a_t 0))] := hl
  have hP : va_P g.1 vwCl (wX4 g a_w I_w ++ wX7 g a_t I_t) s.heap := hP
  have hf_46 := hts _ (uT _ _ u_1322)
  have hi_X7 : ∀ w ∈ wsX70, w.before args s = true := fun w h => hts w (uT _ w (u_wsX70 w h))
  have lm1 : (-1 : Int32).toInt = -1 := by decide
  have lm0 : (0 : Int32).toInt = 0 := by decide
  have lm2 : (1 : Int32).toInt = 1 := by decide
  have hru := TI.ru hT
  refine lv_iconst (v := 0) hx hb dX4_lowestAt_0 (by decide) ?_
  refine lv_istore_n (lv' := [(3, .int (0 : Int32)), (0, .ref (a_w 0)), (1, .int ia), (2, .ref (a_t 0))]) hx hb dX4_lowestAt_1 rfl hl (by decide) rfl (fun ls hl => ?_)
  have L2 : ∀ (nn : Nat) (v3_2 : Int32), (hv_2 : 0 ≤ v3_2.toInt ∧ v3_2.toInt ≤ 24) → (hno_2 : ∀ i : Nat, (i : Int) < v3_2.toInt → ¬ gC I_t I_w i ia.toInt.toNat) → ((25 - v3_2.toInt) < (nn : Int)) → ∀ ls : Array Slot, lv_has ls 4 [(3, .int v3_2), (0, .ref (a_w 0)), (1, .int ia), (2, .ref (a_t 0))] → W p l e (rm 3) s m args below meth c s.heap [] 0 0 Q (F0 m 2 ls []) := by
    intro n_2
    induction n_2 with
    | zero =>
      intro v3_2 hv_2 hno_2 hms_2 ls hl
      exfalso; omega
    | succ n_2 ih_2 =>
      intro v3_2 hv_2 hno_2 hms_2 ls hl
      refine lv_iload_n hx hb dX4_lowestAt_2 rfl (lv_at hl 0 rfl) ?_
      refine lv_aload_n hx hb dX4_lowestAt_3 rfl (lv_at hl 3 rfl) ?_
      refine va_get (D := g.1) (ci := 7) (v := .int (I_t 0 0)) (C := RX7) (T := TX7) (N := 8) hx hb hi_X7 (fun _ h => h) hown hK.1 hP 9 rfl rfl 0 (by decide) hf_46 (fun _ h9 => h9) rfl dX4_lowestAt_4 ?_
      refine q_icmp_ge (tgt := 28) hx hb dX4_lowestAt_7 (by decide) rfl rfl (fun k_7 => ?_) (fun k_7 => ?_)
      · refine lv_iconst (v := -1) hx hb dX4_lowestAt_28 (by decide) ?_
        exact hret 29 ls (-1 : Int32) dX4_lowestAt_29 ⟨by omega, by omega, Or.inl ⟨by omega, fun i hi => hno_2 i (by omega)⟩⟩
      · refine lv_aload_n hx hb dX4_lowestAt_10 rfl (lv_at hl 1 rfl) ?_
        refine lv_iload_n hx hb dX4_lowestAt_11 rfl (lv_at hl 0 rfl) ?_
        refine lv_iload_n hx hb dX4_lowestAt_12 rfl (lv_at hl 2 rfl) ?_
        refine lv_aload_n hx hb dX4_lowestAt_13 rfl (lv_at hl 3 rfl) ?_
        refine PurI.cv (As := [.int v3_2, .int ia, .ref (a_t 0)]) (kX4_goesOn l g a_w I_w a_t I_t v3_2 ia (by omega) hT hR (by omega)) fx (gUV (uT _) u_1326 u_1327 u_1328 u_49 u_1329) rfl hdX4_goesOn ⟨Nat.le_of_ble_eq_true rfl, Nat.le_of_ble_eq_true rfl⟩ hK hP [0, 1, 2, 3, 4, 5, 6, 7, 8, 9, 10, 11, 12, 13, 14, 15] rfl rfl rfl rfl rfl hl.1 (Nat.le_of_ble_eq_true rfl) dX4_lowestAt_14 (fun r1 p_r1 => ?_)
        refine q_if_eq (tgt := 22) hx hb dX4_lowestAt_17 (by decide) rfl (fun b_17 k_17 => ?_) (fun b_17 k_17 => ?_)
        · have q_17 := bP.f p_r1 b_17
          refine r_iinc (lv' := fun i2 => [(3, .int i2), (0, .ref (a_w 0)), (1, .int ia), (2, .ref (a_t 0))]) hx hb dX4_lowestAt_22 hl (k := 0) rfl (by decide) rfl (by decide) (fun _ => rfl) (fun i2 e_i2 t_i2 ls hl => ?_)
          try have t_i2 := t_i2 (by omega)
          refine lv_goto (tgt := 2) hx hb dX4_lowestAt_25 (by decide) ?_
          exact ih_2 i2 (by omega) (tq_ext (P := fun i => ¬ gC I_t I_w i ia.toInt.toNat) hno_2 (by omega) (by omega) q_17) (by omega) ls hl
        · have q_17 := bP.t p_r1 b_17
          refine lv_iload_n hx hb dX4_lowestAt_20 rfl (lv_at hl 0 rfl) ?_
          exact hret 21 ls v3_2 dX4_lowestAt_21 ⟨by omega, by omega, Or.inr ⟨by omega, q_17.2, fun i hi => hno_2 i (by omega)⟩⟩
  exact L2 ((25 - (0 : Int32).toInt) + 1).toNat (0 : Int32) (by omega) (fun i q => by rw [lm0] at q; exfalso; omega) (by omega) ls hl

set_option maxHeartbeats 4000000 in
set_option maxRecDepth 100000 in
theorem kX4_count (l : Launch) (g : gG) (a_w : Nat → Nat) (I_w : Nat → Nat → Int32) (a_t : Nat → Nat) (I_t : Nat → Nat → Int32) (len : Int32) (hT : TI I_t) (hR : RI I_w) (h_l : 1 ≤ len.toInt ∧ len.toInt ≤ 20) (h_cc : (HY I_t)) (h_wb : (WB I_w)) : EffV l g yX4_count wsX4_count 3 [.ref (a_w 0), .int len, .ref (a_t 0)] (wX4 g a_w I_w ++ wX7 g a_t I_t) (fun (u : (Nat → Nat → Int32)) => wX4 g a_w u ++ wX7 g a_t I_t) (fun (u : (Nat → Nat → Int32)) => RI (u) ∧ ((u) 2 = I_w 2 ∧ (u) 3 = I_w 3) ∧ frW I_w (u) ∧ WB (u) ∧ cntP I_t (u) len) := by
  refine EffV.st (cc := cX4_count) (maxL := 6) (by decide) rfl (Nat.le_of_ble_eq_true rfl) (fun p e s m args below meth c A Q ls fx hK hP hD hA hS hl hret => ?_)
  have hx := fx.1
  have hb := fx.2.1
  have hml := fx.2.2.1
  have hown := fx.2.2.2.1
  have hts := fx.2.2.2.2
  have hl : lv_has ls 6 [(0, .ref (a_w 0)), (1, .int len), (2, .ref (a_t 0))] := hl
  have hP : va_P g.1 vwCl (wX4 g a_w I_w ++ wX7 g a_t I_t) s.heap := hP
  have hf_28 := hts _ (uT _ _ u_138)
  have hf_31 := hts _ (uT _ _ u_139)
  have hf_46 := hts _ (uT _ _ u_1322)
  have hf_56 := hts _ (uT _ _ u_1324)
  have hi_X4 : ∀ w ∈ wsX40, w.before args s = true := fun w h => hts w (uT _ w (u_wsX40 w h))
  have hi_X7 : ∀ w ∈ wsX70, w.before args s = true := fun w h => hts w (uT _ w (u_wsX70 w h))
  have hc_55 := hts _ (uT _ _ u_1323)
  have lm1 : (-1 : Int32).toInt = -1 := by decide
  have lm0 : (0 : Int32).toInt = 0 := by decide
  have lm2 : (1 : Int32).toInt = 1 := by decide
  have hru := TI.ru hT
  have hfm := RI.fm hR
  have hmn := RI.mn hR
  refine lv_aload_n hx hb dX4_count_0 rfl (lv_at hl 0 rfl) ?_
  refine lv_iload_n hx hb dX4_count_1 rfl (lv_at hl 1 rfl) ?_
  refine va_put (D := g.1) (ci := 4) (v := .int len) (ty := .int) (C := RX4) (T := TX4) (N := 11) hx hb hi_X4 (fun _ h => h) tyX4 tyX4_ok nmX4 hown hK.1 hP hD hS 0 rfl rfl 5 (by decide) hf_28 (fun _ h9 => h9) rfl (by decide +kernel) rfl rfl (Nat.le_of_ble_eq_true rfl) dX4_count_2 (fun H locs hP hD hS => ?_)
  have hP : va_P g.1 vwCl (wX4 g a_w (uF I_w 0 5 len) ++ wX7 g a_t I_t) H := hP
  have hD : va_D A (wX4 g a_w (uF I_w 0 5 len) ++ wX7 g a_t I_t) := hD
  have hc_2 : RI (uF I_w 0 5 len) := RI.of hR hR.1 (show 0 ≤ len.toInt ∧ len.toInt ≤ 20 from (by omega)) rfl rfl rfl
  refine lv_aload_n hx hb dX4_count_5 rfl (lv_at hl 0 rfl) ?_
  refine va_get (D := g.1) (ci := 4) (v := .ref (a_w 4)) (C := RX4) (T := TX4) (N := 11) hx hb hi_X4 (fun _ h => h) hown hK.1 hP 0 rfl rfl 6 (by decide) hf_31 (fun _ h9 => h9) rfl dX4_count_6 ?_
  refine lv_aload_n hx hb dX4_count_9 rfl (lv_at hl 0 rfl) ?_
  refine va_get (D := g.1) (ci := 4) (v := .int len) (C := RX4) (T := TX4) (N := 11) hx hb hi_X4 (fun _ h => h) hown hK.1 hP 0 rfl rfl 5 (by decide) hf_28 (fun _ h9 => h9) rfl dX4_count_10 ?_
  refine lv_iconst (v := 1) hx hb dX4_count_13 (by decide) ?_
  have n_14 : vp_in len 21 := (t_in (by omega))
  obtain ⟨f1, e_f1⟩ : ∃ z, z = upd (I_w 4) len.toNatClampNeg (1 : Int32) := ⟨_, rfl⟩
  refine va_iast hx hb hK.1 hP hD hS 4 0 rfl rfl n_14 dX4_count_14 (fun H locs hP hD hS => ?_)
  have hP : va_P g.1 vwCl (wX4 g a_w (uR (uF I_w 0 5 len) 4 f1) ++ wX7 g a_t I_t) H := by rw [e_f1]; exact hP
  have hD : va_D A (wX4 g a_w (uR (uF I_w 0 5 len) 4 f1) ++ wX7 g a_t I_t) := by rw [e_f1]; exact hD
  have hc_14 : RI (uR (uF I_w 0 5 len) 4 f1) := RI.of hR hR.1 (show 0 ≤ len.toInt ∧ len.toInt ≤ 20 from (by omega)) rfl rfl rfl
  refine lv_aload_n hx hb dX4_count_15 rfl (lv_at hl 0 rfl) ?_
  refine va_get (D := g.1) (ci := 4) (v := .int len) (C := RX4) (T := TX4) (N := 11) hx hb hi_X4 (fun _ h => h) hown hK.1 hP 0 rfl rfl 5 (by decide) hf_28 (fun _ h9 => h9) rfl dX4_count_16 ?_
  refine lv_iconst (v := 1) hx hb dX4_count_19 (by decide) ?_
  refine r_isub hx hb dX4_count_20 rfl (by decide : (1 : Int32).toInt = 1) (fun x2 e_x2 t_x2 => ?_)
  try have t_x2 := t_x2 (by omega)
  refine lv_istore_n (lv' := [(3, .int x2), (0, .ref (a_w 0)), (1, .int len), (2, .ref (a_t 0))]) hx hb dX4_count_21 rfl hl (by decide) rfl (fun ls hl => ?_)
  have L22 : ∀ (nn : Nat) (v3_22 : Int32) (I_w_22 : Nat → Nat → Int32), (hv_22 : -1 ≤ v3_22.toInt ∧ v3_22.toInt < len.toInt) → (hR_22 : RI I_w_22) → (hrw_22 : I_w_22 2 = I_w 2 ∧ I_w_22 3 = I_w 3 ∧ I_w_22 0 5 = len ∧ frW I_w I_w_22) → (hwb_22 : (WB I_w_22)) → (hwy_22 : wyP (I_t 0 0).toInt.toNat len.toInt.toNat (okC I_t I_w len.toInt.toNat) (cN I_t) (fun j => (I_w_22 4 j).toInt) (v3_22.toInt + 1).toNat) → ((v3_22.toInt + 1) < (nn : Int)) → ∀ (H : Heap) (locs : List Loc), va_P g.1 vwCl (wX4 g a_w I_w_22 ++ wX7 g a_t I_t) H → va_D A (wX4 g a_w I_w_22 ++ wX7 g a_t I_t) → va_S A s.heap H locs → ∀ ls : Array Slot, lv_has ls 6 [(3, .int v3_22), (0, .ref (a_w 0)), (1, .int len), (2, .ref (a_t 0))] → W p l e (rm 3) s m args below meth c H locs 0 0 Q (F0 m 22 ls []) := by
    intro n_22
    induction n_22 with
    | zero =>
      intro v3_22 I_w_22 hv_22 hR_22 hrw_22 hwb_22 hwy_22 hms_22 H locs hP hD hS ls hl
      exfalso; omega
    | succ n_22 ih_22 =>
      intro v3_22 I_w_22 hv_22 hR_22 hrw_22 hwb_22 hwy_22 hms_22 H locs hP hD hS ls hl
      have hmn22 := RI.mn hR_22
      refine lv_iload_n hx hb dX4_count_22 rfl (lv_at hl 0 rfl) ?_
      refine q_if_lt (tgt := 96) hx hb dX4_count_23 (by decide) rfl (fun k_23 => ?_) (fun k_23 => ?_)
      · refine hret 96 ls _ _ I_w_22 dX4_count_96 hS hP hD ?_
        exact ⟨hR_22, ⟨hrw_22.1, hrw_22.2.1⟩, hrw_22.2.2.2, hwb_22, hrw_22.2.2.1, by have w := hwy_22; rw [show (v3_22.toInt + 1).toNat = 0 by omega] at w; rw [okC.of hrw_22.1 hrw_22.2.1]; exact w⟩
      · refine lv_iconst (v := 0) hx hb dX4_count_26 (by decide) ?_
        refine lv_istore (lv' := [(4, .int (0 : Int32)), (3, .int v3_22), (0, .ref (a_w 0)), (1, .int len), (2, .ref (a_t 0))]) hx hb dX4_count_27 hl (by decide) rfl (fun ls hl => ?_)
        refine lv_iconst (v := 0) hx hb dX4_count_29 (by decide) ?_
        refine lv_istore (lv' := [(5, .int (0 : Int32)), (4, .int (0 : Int32)), (3, .int v3_22), (0, .ref (a_w 0)), (1, .int len), (2, .ref (a_t 0))]) hx hb dX4_count_30 hl (by decide) rfl (fun ls hl => ?_)
        have L32 : ∀ (nn : Nat) (v4_32 : Int32) (v5_32 : Int32), (hw_32 : 0 ≤ v5_32.toInt ∧ v5_32.toInt ≤ 24 ∧ v5_32.toInt ≤ (I_t 0 0).toInt) → (hb_32 : 0 ≤ v4_32.toInt ∧ v4_32.toInt ≤ 999999) → (hws_32 : wsR (fun r => okC I_t I_w len.toInt.toNat r v3_22.toInt.toNat) (fun r => (I_w_22 4 (v3_22.toInt.toNat + cN I_t r)).toInt) v5_32.toInt.toNat v4_32.toInt) → ((25 - v5_32.toInt) < (nn : Int)) → ∀ (H : Heap) (locs : List Loc), va_P g.1 vwCl (wX4 g a_w I_w_22 ++ wX7 g a_t I_t) H → va_D A (wX4 g a_w I_w_22 ++ wX7 g a_t I_t) → va_S A s.heap H locs → ∀ ls : Array Slot, lv_has ls 6 [(5, .int v5_32), (4, .int v4_32), (3, .int v3_22), (0, .ref (a_w 0)), (1, .int len), (2, .ref (a_t 0))] → W p l e (rm 3) s m args below meth c H locs 0 0 Q (F0 m 32 ls []) := by
          intro n_32
          induction n_32 with
          | zero =>
            intro v4_32 v5_32 hw_32 hb_32 hws_32 hms_32 H locs hP hD hS ls hl
            exfalso; omega
          | succ n_32 ih_32 =>
            intro v4_32 v5_32 hw_32 hb_32 hws_32 hms_32 H locs hP hD hS ls hl
            refine lv_iload hx hb dX4_count_32 (lv_at hl 0 rfl) ?_
            refine lv_aload_n hx hb dX4_count_34 rfl (lv_at hl 5 rfl) ?_
            refine va_get (D := g.1) (ci := 7) (v := .int (I_t 0 0)) (C := RX7) (T := TX7) (N := 8) hx hb hi_X7 (fun _ h => h) hown hK.1 hP 9 rfl rfl 0 (by decide) hf_46 (fun _ h9 => h9) rfl dX4_count_35 ?_
            refine q_icmp_ge (tgt := 82) hx hb dX4_count_38 (by decide) rfl rfl (fun k_38 => ?_) (fun k_38 => ?_)
            · refine lv_aload_n hx hb dX4_count_82 rfl (lv_at hl 3 rfl) ?_
              refine va_get (D := g.1) (ci := 4) (v := .ref (a_w 4)) (C := RX4) (T := TX4) (N := 11) hx hb hi_X4 (fun _ h => h) hown hK.1 hP 0 rfl rfl 6 (by decide) hf_31 (fun _ h9 => h9) rfl dX4_count_83 ?_
              refine lv_iload_n hx hb dX4_count_86 rfl (lv_at hl 2 rfl) ?_
              refine lv_iload hx hb dX4_count_87 (lv_at hl 1 rfl) ?_
              have n_89 : vp_in v3_22 21 := (t_in (by omega))
              obtain ⟨f3, e_f3⟩ : ∃ z, z = upd (I_w_22 4) v3_22.toNatClampNeg v4_32 := ⟨_, rfl⟩
              refine va_iast hx hb hK.1 hP hD hS 4 0 rfl rfl n_89 dX4_count_89 (fun H locs hP hD hS => ?_)
              have hP : va_P g.1 vwCl (wX4 g a_w (uR I_w_22 4 f3) ++ wX7 g a_t I_t) H := by rw [e_f3]; exact hP
              have hD : va_D A (wX4 g a_w (uR I_w_22 4 f3) ++ wX7 g a_t I_t) := by rw [e_f3]; exact hD
              have hc_89 : RI (uR I_w_22 4 f3) := RI.of hR_22 hR_22.1 hR_22.2.1 rfl rfl rfl
              refine r_iinc (lv' := fun i4 => [(3, .int i4), (5, .int v5_32), (4, .int v4_32), (0, .ref (a_w 0)), (1, .int len), (2, .ref (a_t 0))]) hx hb dX4_count_90 hl (k := 2) rfl (by decide) rfl (by decide) (fun _ => rfl) (fun i4 e_i4 t_i4 ls hl => ?_)
              try have t_i4 := t_i4 (by omega)
              refine lv_goto (tgt := 22) hx hb dX4_count_93 (by decide) ?_
              exact ih_22 i4 (uR I_w_22 4 f3) (by omega) hc_89 hrw_22 (WB.up hwb_22 e_f3 (by omega)) (wyP.st hwy_22 (fun r hr => h_cc r (by omega)) e_f3 rfl (by omega) (by omega) (by rw [← show v5_32.toInt.toNat = (I_t 0 0).toInt.toNat by omega]; exact hws_32)) (by omega) _ _ hP hD hS ls (lv_sub hl [0, 3, 4, 5] rfl)
            · refine lv_aload_n hx hb dX4_count_41 rfl (lv_at hl 3 rfl) ?_
              refine lv_iload hx hb dX4_count_42 (lv_at hl 0 rfl) ?_
              refine lv_iload_n hx hb dX4_count_44 rfl (lv_at hl 2 rfl) ?_
              refine lv_aload_n hx hb dX4_count_45 rfl (lv_at hl 5 rfl) ?_
              refine PurI.cv (As := [.int v5_32, .int v3_22, .ref (a_t 0)]) (kX4_goesOn l g a_w I_w_22 a_t I_t v5_32 v3_22 (by omega) hT hR_22 (by omega)) fx (gUV (uT _) u_1326 u_1327 u_1328 u_49 u_1329) rfl hdX4_goesOn ⟨Nat.le_of_ble_eq_true rfl, Nat.le_of_ble_eq_true rfl⟩ hK hP [0, 1, 2, 3, 4, 5, 6, 7, 8, 9, 10, 11, 12, 13, 14, 15] rfl rfl rfl rfl rfl hl.1 (Nat.le_of_ble_eq_true rfl) dX4_count_46 (fun r5 p_r5 => ?_)
              refine q_if_eq (tgt := 76) hx hb dX4_count_49 (by decide) rfl (fun b_49 k_49 => ?_) (fun b_49 k_49 => ?_)
              · have q_49 := bP.f p_r5 b_49
                refine r_iinc (lv' := fun i6 => [(5, .int i6), (4, .int v4_32), (3, .int v3_22), (0, .ref (a_w 0)), (1, .int len), (2, .ref (a_t 0))]) hx hb dX4_count_76 hl (k := 0) rfl (by decide) rfl (by decide) (fun _ => rfl) (fun i6 e_i6 t_i6 ls hl => ?_)
                try have t_i6 := t_i6 (by omega)
                refine lv_goto (tgt := 32) hx hb dX4_count_79 (by decide) ?_
                exact ih_32 v4_32 i6 (by omega) (by omega) (by rw [show (i6).toInt.toNat = v5_32.toInt.toNat + 1 by omega]; have o9 : okC I_t I_w_22 (I_w_22 0 5).toInt.toNat = okC I_t I_w len.toInt.toNat := (by rw [hrw_22.2.2.1]; exact okC.of hrw_22.1 hrw_22.2.1); exact wsR.skip hws_32 hb_32 (by have w := q_49; unfold gC at w; rw [o9] at w; exact w) rfl) (by omega) _ _ hP hD hS ls hl
              · have q_49 := bP.t p_r5 b_49
                refine lv_ldc hx hb hown hc_55 dX4_count_52 ?_
                refine lv_iload hx hb dX4_count_54 (lv_at hl 1 rfl) ?_
                refine lv_aload_n hx hb dX4_count_56 rfl (lv_at hl 3 rfl) ?_
                refine va_get (D := g.1) (ci := 4) (v := .ref (a_w 4)) (C := RX4) (T := TX4) (N := 11) hx hb hi_X4 (fun _ h => h) hown hK.1 hP 0 rfl rfl 6 (by decide) hf_31 (fun _ h9 => h9) rfl dX4_count_57 ?_
                refine lv_iload_n hx hb dX4_count_60 rfl (lv_at hl 2 rfl) ?_
                refine lv_aload_n hx hb dX4_count_61 rfl (lv_at hl 5 rfl) ?_
                refine va_get (D := g.1) (ci := 7) (v := .ref (a_t 3)) (C := RX7) (T := TX7) (N := 8) hx hb hi_X7 (fun _ h => h) hown hK.1 hP 9 rfl rfl 4 (by decide) hf_56 (fun _ h9 => h9) rfl dX4_count_62 ?_
                refine lv_iload hx hb dX4_count_65 (lv_at hl 0 rfl) ?_
                have n_67 : vp_in v5_32 24 := (t_in (by omega))
                refine va_iald hx hb hK.1 hP 12 0 rfl rfl n_67 dX4_count_67 ?_
                refine q_nm (fun x7 e_x7 => ?_)
                have e_x7 : x7 = (I_t 3) v5_32.toNatClampNeg := e_x7
                have g_x7 : x7.toInt = ((I_t 3) v5_32.toNatClampNeg).toInt := congrArg _ e_x7
                have f_x7 := TI.cc hT v5_32.toNatClampNeg
                rw [← e_x7] at f_x7
                refine r_iadd hx hb dX4_count_68 rfl rfl (fun x8 e_x8 t_x8 => ?_)
                try have t_x8 := t_x8 (by omega)
                have n_69 : vp_in x8 21 := (t_in (by omega))
                refine va_iald hx hb hK.1 hP 4 0 rfl rfl n_69 dX4_count_69 ?_
                refine q_nm (fun x9 e_x9 => ?_)
                have e_x9 : x9 = (I_w_22 4) x8.toNatClampNeg := e_x9
                have g_x9 : x9.toInt = ((I_w_22 4) x8.toNatClampNeg).toInt := congrArg _ e_x9
                have f9_x9 := hwb_22 (x8).toInt.toNat
                rw [show I_w_22 4 (x8).toInt.toNat = x9 from e_x9.symm] at f9_x9
                refine r_iadd hx hb dX4_count_70 rfl rfl (fun x10 e_x10 t_x10 => ?_)
                try have t_x10 := t_x10 (by omega)
                refine va_mmin hx hb (hml.trans hl.1.symm) hown (hts _ (uT _ _ u_1325)) (hts _ (uT _ _ u_523)) (hts _ (uT _ _ u_524)) (hts _ (uT _ _ u_525)) (Nat.le_of_ble_eq_true rfl) (Nat.le_of_ble_eq_true rfl) (Nat.zero_le _) (Nat.zero_le _) dX4_count_71 ?_
                refine q_nm (fun x11 e_x11 => ?_)
                have t_x11 := t_min e_x11 (by decide : (999999 : Int32).toInt = 999999) rfl
                refine lv_istore (lv' := [(4, .int x11), (5, .int v5_32), (3, .int v3_22), (0, .ref (a_w 0)), (1, .int len), (2, .ref (a_t 0))]) hx hb dX4_count_74 hl (by decide) rfl (fun ls hl => ?_)
                refine r_iinc (lv' := fun i12 => [(5, .int i12), (4, .int x11), (3, .int v3_22), (0, .ref (a_w 0)), (1, .int len), (2, .ref (a_t 0))]) hx hb dX4_count_76 hl (k := 1) rfl (by decide) rfl (by decide) (fun _ => rfl) (fun i12 e_i12 t_i12 ls hl => ?_)
                try have t_i12 := t_i12 (by omega)
                refine lv_goto (tgt := 32) hx hb dX4_count_79 (by decide) ?_
                exact ih_32 x11 i12 (by omega) (by omega) (by rw [show (i12).toInt.toNat = v5_32.toInt.toNat + 1 by omega]; have o9 : okC I_t I_w_22 (I_w_22 0 5).toInt.toNat = okC I_t I_w len.toInt.toNat := (by rw [hrw_22.2.2.1]; exact okC.of hrw_22.1 hrw_22.2.1); first | exact wsR.yes hws_32 (by have w := q_49.2.1; rw [o9] at w; exact w) (by show _ = min 999999 (_ + (I_w_22 4 (v3_22.toInt.toNat + cN I_t v5_32.toInt.toNat)).toInt); rw [show v3_22.toInt.toNat + cN I_t v5_32.toInt.toNat = (x8).toInt.toNat from (by have c9 : (I_t 3 v5_32.toInt.toNat).toInt = (x7).toInt := congrArg Int32.toInt e_x7.symm; unfold cN; omega), show I_w_22 4 (x8).toInt.toNat = x9 from e_x9.symm]; omega) | exact wsR.skip hws_32 hb_32 (by have w := q_49; unfold gC at w; rw [o9] at w; exact w) rfl) (by omega) _ _ hP hD hS ls hl
        exact L32 ((25 - (0 : Int32).toInt) + 1).toNat (0 : Int32) (0 : Int32) (by omega) (by omega) (by rw [lm0]; rfl) (by omega) _ _ hP hD hS ls hl
  exact L22 ((x2.toInt + 1) + 1).toNat x2 (uR (uF I_w 0 5 len) 4 f1) (by omega) hc_14 ⟨rfl, rfl, rfl, rfl, rfl, rfl⟩ (WB.up (i := len) (v := 1) h_wb (by show (f1 : Nat → Int32) = _; exact e_f1) (by decide)) ⟨(by show (f1 len.toInt.toNat).toInt = 1; rw [e_f1, upd_at_ (show len.toInt.toNat = len.toNatClampNeg from rfl)]; exact lm2), fun p h1 h2 => by exfalso; omega⟩ (by omega) _ _ hP hD hS ls hl

set_option maxHeartbeats 4000000 in
set_option maxRecDepth 100000 in
theorem kX4_findFirst (l : Launch) (g : gG) (a_w : Nat → Nat) (I_w : Nat → Nat → Int32) (a_t : Nat → Nat) (I_t : Nat → Nat → Int32) (hT : TI I_t) (hR : RI I_w) (h_cc : (HY I_t)) (h_wb : (WB I_w)) (h_cp : cntP I_t I_w (I_w 0 5)) (h_n0 : (I_w 4 0).toInt ≠ 0) : EffV l g yX4_findFirst wsX4_findFirst 4 [.ref (a_w 0), .ref (a_t 0)] (wX4 g a_w I_w ++ wX7 g a_t I_t) (fun (u : (Nat → Nat → Int32)) => wX4 g a_w u ++ wX7 g a_t I_t) (fun (u : (Nat → Nat → Int32)) => RI (u) ∧ ((u) 2 = I_w 2 ∧ (u) 3 = I_w 3 ∧ (u) 4 = I_w 4 ∧ (u) 0 5 = I_w 0 5) ∧ fsC I_t I_w (u) (I_w 0 5)) := by
  refine EffV.st (cc := cX4_findFirst) (maxL := 5) (by decide) rfl (Nat.le_of_ble_eq_true rfl) (fun p e s m args below meth c A Q ls fx hK hP hD hA hS hl hret => ?_)
  have hx := fx.1
  have hb := fx.2.1
  have hml := fx.2.2.1
  have hown := fx.2.2.2.1
  have hts := fx.2.2.2.2
  have hl : lv_has ls 5 [(0, .ref (a_w 0)), (1, .ref (a_t 0))] := hl
  have hP : va_P g.1 vwCl (wX4 g a_w I_w ++ wX7 g a_t I_t) s.heap := hP
  have hf_9 := hts _ (uT _ _ u_133)
  have hf_15 := hts _ (uT _ _ u_134)
  have hf_18 := hts _ (uT _ _ u_135)
  have hf_28 := hts _ (uT _ _ u_138)
  have hf_56 := hts _ (uT _ _ u_1324)
  have hf_80 := hts _ (uT _ _ u_1367)
  have hi_X4 : ∀ w ∈ wsX40, w.before args s = true := fun w h => hts w (uT _ w (u_wsX40 w h))
  have hi_X7 : ∀ w ∈ wsX70, w.before args s = true := fun w h => hts w (uT _ w (u_wsX70 w h))
  have lm1 : (-1 : Int32).toInt = -1 := by decide
  have lm0 : (0 : Int32).toInt = 0 := by decide
  have lm2 : (1 : Int32).toInt = 1 := by decide
  have hru := TI.ru hT
  have hfm := RI.fm hR
  have hmn := RI.mn hR
  refine lv_aload_n hx hb dX4_findFirst_0 rfl (lv_at hl 0 rfl) ?_
  refine lv_iconst (v := 0) hx hb dX4_findFirst_1 (by decide) ?_
  refine va_put (D := g.1) (ci := 4) (v := .int (0 : Int32)) (ty := .int) (C := RX4) (T := TX4) (N := 11) hx hb hi_X4 (fun _ h => h) tyX4 tyX4_ok nmX4 hown hK.1 hP hD hS 0 rfl rfl 0 (by decide) hf_9 (fun _ h9 => h9) rfl (by decide +kernel) rfl rfl (Nat.le_of_ble_eq_true rfl) dX4_findFirst_2 (fun H locs hP hD hS => ?_)
  have hP : va_P g.1 vwCl (wX4 g a_w (uF I_w 0 0 (0 : Int32)) ++ wX7 g a_t I_t) H := hP
  have hD : va_D A (wX4 g a_w (uF I_w 0 0 (0 : Int32)) ++ wX7 g a_t I_t) := hD
  have hc_2 : RI (uF I_w 0 0 (0 : Int32)) := RI.of hR (show 0 ≤ ((0 : Int32)).toInt ∧ ((0 : Int32)).toInt ≤ 20 from (by omega)) hR.2.1 rfl rfl rfl
  refine lv_aload_n hx hb dX4_findFirst_5 rfl (lv_at hl 0 rfl) ?_
  refine lv_iconst (v := 0) hx hb dX4_findFirst_6 (by decide) ?_
  refine va_put (D := g.1) (ci := 4) (v := .int (0 : Int32)) (ty := .int) (C := RX4) (T := TX4) (N := 11) hx hb hi_X4 (fun _ h => h) tyX4 tyX4_ok nmX4 hown hK.1 hP hD hS 0 rfl rfl 1 (by decide) hf_15 (fun _ h9 => h9) rfl (by decide +kernel) rfl rfl (Nat.le_of_ble_eq_true rfl) dX4_findFirst_7 (fun H locs hP hD hS => ?_)
  have hP : va_P g.1 vwCl (wX4 g a_w (uF (uF I_w 0 0 (0 : Int32)) 0 1 (0 : Int32)) ++ wX7 g a_t I_t) H := hP
  have hD : va_D A (wX4 g a_w (uF (uF I_w 0 0 (0 : Int32)) 0 1 (0 : Int32)) ++ wX7 g a_t I_t) := hD
  have hc_7 : RI (uF (uF I_w 0 0 (0 : Int32)) 0 1 (0 : Int32)) := RI.of hR (show 0 ≤ ((0 : Int32)).toInt ∧ ((0 : Int32)).toInt ≤ 20 from (by omega)) hR.2.1 rfl rfl rfl
  refine lv_iconst (v := 0) hx hb dX4_findFirst_10 (by decide) ?_
  refine lv_istore_n (lv' := [(2, .int (0 : Int32)), (0, .ref (a_w 0)), (1, .ref (a_t 0))]) hx hb dX4_findFirst_11 rfl hl (by decide) rfl (fun ls hl => ?_)
  refine lv_iconst (v := 0) hx hb dX4_findFirst_12 (by decide) ?_
  refine lv_istore_n (lv' := [(3, .int (0 : Int32)), (2, .int (0 : Int32)), (0, .ref (a_w 0)), (1, .ref (a_t 0))]) hx hb dX4_findFirst_13 rfl hl (by decide) rfl (fun ls hl => ?_)
  have L14 : ∀ (nn : Nat) (v2_14 : Int32) (v3_14 : Int32) (I_w_14 : Nat → Nat → Int32), (hv_14 : 0 ≤ v3_14.toInt ∧ v3_14.toInt ≤ 20) → (hR_14 : RI I_w_14) → (hf_14 : (I_w_14 0 0).toInt ≤ v3_14.toInt) → (hlt_14 : 0 ≤ (I_w_14 0 1).toInt ∧ (I_w_14 0 1).toInt ≤ 6 * (I_w_14 0 0).toInt) → (hrw_14 : I_w_14 2 = I_w 2 ∧ I_w_14 3 = I_w 3 ∧ I_w_14 4 = I_w 4 ∧ I_w_14 0 5 = I_w 0 5) → (hnx_14 : v3_14.toInt ≤ v2_14.toInt ∧ v2_14.toInt ≤ (I_w 0 5).toInt ∧ (I_w 4 v2_14.toInt.toNat).toInt ≠ 0) → (hfi_14 : fiP (gC I_t I_w) (cN I_t) (fun r => (I_t 2 r).toInt) (I_w 0 5).toInt.toNat (I_t 0 0).toInt.toNat (I_w_14 1) (I_w_14 0 0) (I_w_14 0 1) v2_14.toInt.toNat) → ((21 - v3_14.toInt) < (nn : Int)) → ∀ (H : Heap) (locs : List Loc), va_P g.1 vwCl (wX4 g a_w I_w_14 ++ wX7 g a_t I_t) H → va_D A (wX4 g a_w I_w_14 ++ wX7 g a_t I_t) → va_S A s.heap H locs → ∀ ls : Array Slot, lv_has ls 5 [(3, .int v3_14), (2, .int v2_14), (0, .ref (a_w 0)), (1, .ref (a_t 0))] → W p l e (rm 4) s m args below meth c H locs 0 0 Q (F0 m 14 ls []) := by
    intro n_14
    induction n_14 with
    | zero =>
      intro v2_14 v3_14 I_w_14 hv_14 hR_14 hf_14 hlt_14 hrw_14 hnx_14 hfi_14 hms_14 H locs hP hD hS ls hl
      exfalso; omega
    | succ n_14 ih_14 =>
      intro v2_14 v3_14 I_w_14 hv_14 hR_14 hf_14 hlt_14 hrw_14 hnx_14 hfi_14 hms_14 H locs hP hD hS ls hl
      have hmn14 := RI.mn hR_14
      have hfm14 := RI.fm hR_14
      have m5 : (I_w_14 0 5).toInt = (I_w 0 5).toInt := congrArg Int32.toInt hrw_14.2.2.2
      refine lv_iload_n hx hb dX4_findFirst_14 rfl (lv_at hl 0 rfl) ?_
      refine lv_aload_n hx hb dX4_findFirst_15 rfl (lv_at hl 2 rfl) ?_
      refine va_get (D := g.1) (ci := 4) (v := .int (I_w_14 0 5)) (C := RX4) (T := TX4) (N := 11) hx hb hi_X4 (fun _ h => h) hown hK.1 hP 0 rfl rfl 5 (by decide) hf_28 (fun _ h9 => h9) rfl dX4_findFirst_16 ?_
      refine q_icmp_ge (tgt := 98) hx hb dX4_findFirst_19 (by decide) rfl rfl (fun k_19 => ?_) (fun k_19 => ?_)
      · refine hret 98 ls _ _ I_w_14 dX4_findFirst_98 hS hP hD ?_
        exact ⟨hR_14, hrw_14, by have w := hfi_14; rw [show v2_14.toInt.toNat = (I_w 0 5).toInt.toNat by have m5 : (I_w_14 0 5).toInt = (I_w 0 5).toInt := congrArg Int32.toInt hrw_14.2.2.2; omega] at w; exact w⟩
      · refine lv_iload_n hx hb dX4_findFirst_22 rfl (lv_at hl 0 rfl) ?_
        refine lv_iload_n hx hb dX4_findFirst_23 rfl (lv_at hl 1 rfl) ?_
        refine q_icmp_ne (tgt := 36) hx hb dX4_findFirst_24 (by decide) rfl rfl (fun k_24 => ?_) (fun k_24 => ?_)
        · refine lv_iconst (v := -1) hx hb dX4_findFirst_36 (by decide) ?_
          refine lv_istore (lv' := [(4, .int (-1 : Int32)), (3, .int v3_14), (2, .int v2_14), (0, .ref (a_w 0)), (1, .ref (a_t 0))]) hx hb dX4_findFirst_37 hl (by decide) rfl (fun ls hl => ?_)
          refine lv_iload hx hb dX4_findFirst_39 (lv_at hl 0 rfl) ?_
          refine lv_iconst (v := -1) hx hb dX4_findFirst_41 (by decide) ?_
          refine q_icmp_eq (tgt := 92) hx hb dX4_findFirst_42 (by decide) (by decide : (-1 : Int32).toInt = -1) (by decide : (-1 : Int32).toInt = -1) (fun k_42 => ?_) (fun k_42 => ?_)
          · have hne42 : v3_14.toInt ≠ v2_14.toInt := by exact k_24
            refine r_iinc (lv' := fun i1 => [(3, .int i1), (4, .int (-1 : Int32)), (2, .int v2_14), (0, .ref (a_w 0)), (1, .ref (a_t 0))]) hx hb dX4_findFirst_92 hl (k := 1) rfl (by decide) rfl (by decide) (fun _ => rfl) (fun i1 e_i1 t_i1 ls hl => ?_)
            try have t_i1 := t_i1 (by omega)
            refine lv_goto (tgt := 14) hx hb dX4_findFirst_95 (by decide) ?_
            exact ih_14 v2_14 i1 I_w_14 (by omega) hR_14 (show ((I_w_14 0 0)).toInt ≤ _ from (by omega)) (show 0 ≤ ((I_w_14 0 1)).toInt ∧ ((I_w_14 0 1)).toInt ≤ 6 * ((I_w_14 0 0)).toInt from (by first | exact hlt_14 | omega)) hrw_14 (by first | exact ⟨by omega, by omega, hnx_14.2.2⟩ | exact ⟨by omega, by omega, hn0⟩) (by first | exact hfi_14 | exact hfi42) (by omega) _ _ hP hD hS ls (lv_sub hl [0, 2, 3, 4] rfl)
          · exfalso
            omega
        · refine lv_aload_n hx hb dX4_findFirst_27 rfl (lv_at hl 2 rfl) ?_
          refine lv_iload_n hx hb dX4_findFirst_28 rfl (lv_at hl 0 rfl) ?_
          refine lv_aload_n hx hb dX4_findFirst_29 rfl (lv_at hl 3 rfl) ?_
          refine PurI.cv (As := [.int v3_14, .ref (a_t 0)]) (kX4_lowestAt l g a_w I_w_14 a_t I_t v3_14 hT hR_14 (by omega)) fx (gUV (uT _) u_1368 u_1369 u_1370 u_49 u_1371) rfl hdX4_lowestAt ⟨Nat.le_of_ble_eq_true rfl, Nat.le_of_ble_eq_true rfl⟩ hK hP [0, 1, 2, 3, 4, 5, 6, 7, 8, 9, 10, 11, 12, 13, 14, 15] rfl rfl rfl rfl rfl hl.1 (Nat.le_of_ble_eq_true rfl) dX4_findFirst_30 (fun r2 p_r2 => ?_)
          refine lv_goto (tgt := 37) hx hb dX4_findFirst_33 (by decide) ?_
          refine lv_istore (lv' := [(4, .int r2), (3, .int v3_14), (2, .int v2_14), (0, .ref (a_w 0)), (1, .ref (a_t 0))]) hx hb dX4_findFirst_37 hl (by decide) rfl (fun ls hl => ?_)
          refine lv_iload hx hb dX4_findFirst_39 (lv_at hl 0 rfl) ?_
          refine lv_iconst (v := -1) hx hb dX4_findFirst_41 (by decide) ?_
          refine q_icmp_eq (tgt := 92) hx hb dX4_findFirst_42 (by decide) rfl (by decide : (-1 : Int32).toInt = -1) (fun k_42 => ?_) (fun k_42 => ?_)
          · have hne42 : v3_14.toInt ≠ v2_14.toInt := by first | exact k_24 | (exfalso; obtain ⟨r9, h9, g9, z9⟩ := wyP.ex h_cp.2 (fun j => (h_wb j).1) (p := v3_14.toInt.toNat) (by omega) (by rw [show v3_14.toInt.toNat = v2_14.toInt.toNat by omega]; exact hnx_14.2.2); rcases p_r2.2.2 with w | w; exact w.2 r9 (by omega) (gC.of ⟨g9, z9⟩ hrw_14.1 hrw_14.2.1 hrw_14.2.2.1 hrw_14.2.2.2); omega)
            refine r_iinc (lv' := fun i3 => [(3, .int i3), (4, .int r2), (2, .int v2_14), (0, .ref (a_w 0)), (1, .ref (a_t 0))]) hx hb dX4_findFirst_92 hl (k := 1) rfl (by decide) rfl (by decide) (fun _ => rfl) (fun i3 e_i3 t_i3 ls hl => ?_)
            try have t_i3 := t_i3 (by omega)
            refine lv_goto (tgt := 14) hx hb dX4_findFirst_95 (by decide) ?_
            exact ih_14 v2_14 i3 I_w_14 (by omega) hR_14 (show ((I_w_14 0 0)).toInt ≤ _ from (by omega)) (show 0 ≤ ((I_w_14 0 1)).toInt ∧ ((I_w_14 0 1)).toInt ≤ 6 * ((I_w_14 0 0)).toInt from (by first | exact hlt_14 | omega)) hrw_14 (by first | exact ⟨by omega, by omega, hnx_14.2.2⟩ | exact ⟨by omega, by omega, hn0⟩) (by first | exact hfi_14 | exact hfi42) (by omega) _ _ hP hD hS ls (lv_sub hl [0, 2, 3, 4] rfl)
          · have w30 := p_r2.2.2.resolve_left (fun q => by omega)
            have g30 : gC I_t I_w (r2).toInt.toNat v3_14.toInt.toNat := w30.2.1.of hrw_14.1.symm hrw_14.2.1.symm hrw_14.2.2.1.symm hrw_14.2.2.2.symm
            have m30 : ∀ j, j < (r2).toInt.toNat → ¬ gC I_t I_w j v3_14.toInt.toNat := fun j hj q => w30.2.2 j hj (q.of hrw_14.1 hrw_14.2.1 hrw_14.2.2.1 hrw_14.2.2.2)
            refine lv_aload_n hx hb dX4_findFirst_45 rfl (lv_at hl 3 rfl) ?_
            refine va_get (D := g.1) (ci := 4) (v := .ref (a_w 1)) (C := RX4) (T := TX4) (N := 11) hx hb hi_X4 (fun _ h => h) hown hK.1 hP 0 rfl rfl 2 (by decide) hf_18 (fun _ h9 => h9) rfl dX4_findFirst_46 ?_
            refine lv_aload_n hx hb dX4_findFirst_49 rfl (lv_at hl 3 rfl) ?_
            refine va_get (D := g.1) (ci := 4) (v := .int (I_w_14 0 0)) (C := RX4) (T := TX4) (N := 11) hx hb hi_X4 (fun _ h => h) hown hK.1 hP 0 rfl rfl 0 (by decide) hf_9 (fun _ h9 => h9) rfl dX4_findFirst_50 ?_
            refine lv_iload hx hb dX4_findFirst_53 (lv_at hl 0 rfl) ?_
            have n_55 : vp_in (I_w_14 0 0) 20 := (t_in (by omega))
            obtain ⟨f4, e_f4⟩ : ∃ z, z = upd (I_w_14 1) (I_w_14 0 0).toNatClampNeg r2 := ⟨_, rfl⟩
            refine va_iast hx hb hK.1 hP hD hS 1 0 rfl rfl n_55 dX4_findFirst_55 (fun H locs hP hD hS => ?_)
            have hP : va_P g.1 vwCl (wX4 g a_w (uR I_w_14 1 f4) ++ wX7 g a_t I_t) H := by rw [e_f4]; exact hP
            have hD : va_D A (wX4 g a_w (uR I_w_14 1 f4) ++ wX7 g a_t I_t) := by rw [e_f4]; exact hD
            have hc_55 : RI (uR I_w_14 1 f4) := RI.of hR_14 hR_14.1 hR_14.2.1 rfl rfl rfl
            refine lv_aload_n hx hb dX4_findFirst_56 rfl (lv_at hl 3 rfl) ?_
            refine lv_dup hx hb dX4_findFirst_57 rfl ?_
            refine va_get (D := g.1) (ci := 4) (v := .int (I_w_14 0 0)) (C := RX4) (T := TX4) (N := 11) hx hb hi_X4 (fun _ h => h) hown hK.1 hP 0 rfl rfl 0 (by decide) hf_9 (fun _ h9 => h9) rfl dX4_findFirst_58 ?_
            refine lv_iconst (v := 1) hx hb dX4_findFirst_61 (by decide) ?_
            refine r_iadd hx hb dX4_findFirst_62 rfl (by decide : (1 : Int32).toInt = 1) (fun x5 e_x5 t_x5 => ?_)
            try have t_x5 := t_x5 (by omega)
            refine va_put (D := g.1) (ci := 4) (v := .int x5) (ty := .int) (C := RX4) (T := TX4) (N := 11) hx hb hi_X4 (fun _ h => h) tyX4 tyX4_ok nmX4 hown hK.1 hP hD hS 0 rfl rfl 0 (by decide) hf_9 (fun _ h9 => h9) rfl (by decide +kernel) rfl rfl (Nat.le_of_ble_eq_true rfl) dX4_findFirst_63 (fun H locs hP hD hS => ?_)
            have hP : va_P g.1 vwCl (wX4 g a_w (uF (uR I_w_14 1 f4) 0 0 x5) ++ wX7 g a_t I_t) H := hP
            have hD : va_D A (wX4 g a_w (uF (uR I_w_14 1 f4) 0 0 x5) ++ wX7 g a_t I_t) := hD
            have hc_63 : RI (uF (uR I_w_14 1 f4) 0 0 x5) := RI.of hR_14 (show 0 ≤ (x5).toInt ∧ (x5).toInt ≤ 20 from (by omega)) hR_14.2.1 rfl rfl rfl
            refine lv_aload_n hx hb dX4_findFirst_66 rfl (lv_at hl 3 rfl) ?_
            refine lv_dup hx hb dX4_findFirst_67 rfl ?_
            refine va_get (D := g.1) (ci := 4) (v := .int (I_w_14 0 1)) (C := RX4) (T := TX4) (N := 11) hx hb hi_X4 (fun _ h => h) hown hK.1 hP 0 rfl rfl 1 (by decide) hf_15 (fun _ h9 => h9) rfl dX4_findFirst_68 ?_
            refine lv_aload_n hx hb dX4_findFirst_71 rfl (lv_at hl 4 rfl) ?_
            refine va_get (D := g.1) (ci := 7) (v := .ref (a_t 2)) (C := RX7) (T := TX7) (N := 8) hx hb hi_X7 (fun _ h => h) hown hK.1 hP 9 rfl rfl 3 (by decide) hf_80 (fun _ h9 => h9) rfl dX4_findFirst_72 ?_
            refine lv_iload hx hb dX4_findFirst_75 (lv_at hl 0 rfl) ?_
            have n_77 : vp_in r2 24 := (t_in (by omega))
            refine va_iald hx hb hK.1 hP 11 0 rfl rfl n_77 dX4_findFirst_77 ?_
            refine q_nm (fun x6 e_x6 => ?_)
            have e_x6 : x6 = (I_t 2) r2.toNatClampNeg := e_x6
            have g_x6 : x6.toInt = ((I_t 2) r2.toNatClampNeg).toInt := congrArg _ e_x6
            have f_x6 := TI.lc hT r2.toNatClampNeg
            rw [← e_x6] at f_x6
            have l77 : (I_t 2 (r2).toInt.toNat).toInt = x6.toInt := congrArg Int32.toInt e_x6.symm
            refine r_iadd hx hb dX4_findFirst_78 rfl rfl (fun x7 e_x7 t_x7 => ?_)
            try have t_x7 := t_x7 (by omega)
            refine va_put (D := g.1) (ci := 4) (v := .int x7) (ty := .int) (C := RX4) (T := TX4) (N := 11) hx hb hi_X4 (fun _ h => h) tyX4 tyX4_ok nmX4 hown hK.1 hP hD hS 0 rfl rfl 1 (by decide) hf_15 (fun _ h9 => h9) rfl (by decide +kernel) rfl rfl (Nat.le_of_ble_eq_true rfl) dX4_findFirst_79 (fun H locs hP hD hS => ?_)
            have hP : va_P g.1 vwCl (wX4 g a_w (uF (uF (uR I_w_14 1 f4) 0 0 x5) 0 1 x7) ++ wX7 g a_t I_t) H := hP
            have hD : va_D A (wX4 g a_w (uF (uF (uR I_w_14 1 f4) 0 0 x5) 0 1 x7) ++ wX7 g a_t I_t) := hD
            have hc_79 : RI (uF (uF (uR I_w_14 1 f4) 0 0 x5) 0 1 x7) := RI.of hR_14 (show 0 ≤ (x5).toInt ∧ (x5).toInt ≤ 20 from (by omega)) hR_14.2.1 rfl rfl rfl
            refine lv_iload_n hx hb dX4_findFirst_82 rfl (lv_at hl 1 rfl) ?_
            refine lv_aload_n hx hb dX4_findFirst_83 rfl (lv_at hl 4 rfl) ?_
            refine va_get (D := g.1) (ci := 7) (v := .ref (a_t 3)) (C := RX7) (T := TX7) (N := 8) hx hb hi_X7 (fun _ h => h) hown hK.1 hP 9 rfl rfl 4 (by decide) hf_56 (fun _ h9 => h9) rfl dX4_findFirst_84 ?_
            refine lv_iload hx hb dX4_findFirst_87 (lv_at hl 0 rfl) ?_
            have n_89 : vp_in r2 24 := (t_in (by omega))
            refine va_iald hx hb hK.1 hP 12 0 rfl rfl n_89 dX4_findFirst_89 ?_
            refine q_nm (fun x8 e_x8 => ?_)
            have e_x8 : x8 = (I_t 3) r2.toNatClampNeg := e_x8
            have g_x8 : x8.toInt = ((I_t 3) r2.toNatClampNeg).toInt := congrArg _ e_x8
            have f_x8 := TI.cc hT r2.toNatClampNeg
            rw [← e_x8] at f_x8
            have c89 : (I_t 3 (r2).toInt.toNat).toInt = x8.toInt := congrArg Int32.toInt e_x8.symm
            have y89 := h_cc (r2).toInt.toNat (by omega)
            refine r_iadd hx hb dX4_findFirst_90 rfl rfl (fun x9 e_x9 t_x9 => ?_)
            try have t_x9 := t_x9 (by omega)
            have e90 : v3_14.toInt.toNat + cN I_t (r2).toInt.toNat = (x9).toInt.toNat := by unfold cN; omega
            have hn0 : (I_w 4 (x9).toInt.toNat).toInt ≠ 0 := by rw [← e90]; exact g30.2
            have hen : (x9).toInt ≤ (I_w 0 5).toInt := by have w := g30.1.2.1; have w2 : v3_14.toInt.toNat + (I_t 3 (r2).toInt.toNat).toInt.toNat ≤ (I_w 0 5).toInt.toNat := w; omega
            have hfi42 : fiP (gC I_t I_w) (cN I_t) (fun r => (I_t 2 r).toInt) (I_w 0 5).toInt.toNat (I_t 0 0).toInt.toNat ((uF (uF (uR I_w_14 1 f4) 0 0 x5) 0 1 x7) 1) ((uF (uF (uR I_w_14 1 f4) 0 0 x5) 0 1 x7) 0 0) ((uF (uF (uR I_w_14 1 f4) 0 0 x5) 0 1 x7) 0 1) (x9).toInt.toNat := fiP.st hfi_14 (q := v2_14.toInt.toNat) (by omega) (by rw [show v2_14.toInt.toNat = v3_14.toInt.toNat by omega]; exact g30) (fun j hj => by rw [show v2_14.toInt.toNat = v3_14.toInt.toNat by omega]; exact m30 j hj) (r := (r2).toInt.toNat) (by omega) (show _ = upd _ _ _ from e_f4) (by omega) (by omega) (show (x5).toInt = _ from (by omega)) (show (x7).toInt = _ from (by omega)) (by rw [show v2_14.toInt.toNat = v3_14.toInt.toNat by omega]; exact e90.symm)
            refine lv_istore_n (lv' := [(2, .int x9), (4, .int r2), (3, .int v3_14), (0, .ref (a_w 0)), (1, .ref (a_t 0))]) hx hb dX4_findFirst_91 rfl hl (by decide) rfl (fun ls hl => ?_)
            refine r_iinc (lv' := fun i10 => [(3, .int i10), (2, .int x9), (4, .int r2), (0, .ref (a_w 0)), (1, .ref (a_t 0))]) hx hb dX4_findFirst_92 hl (k := 2) rfl (by decide) rfl (by decide) (fun _ => rfl) (fun i10 e_i10 t_i10 ls hl => ?_)
            try have t_i10 := t_i10 (by omega)
            refine lv_goto (tgt := 14) hx hb dX4_findFirst_95 (by decide) ?_
            exact ih_14 x9 i10 (uF (uF (uR I_w_14 1 f4) 0 0 x5) 0 1 x7) (by omega) hc_79 (show (x5).toInt ≤ _ from (by omega)) (show 0 ≤ (x7).toInt ∧ (x7).toInt ≤ 6 * (x5).toInt from (by first | exact hlt_14 | omega)) hrw_14 (by first | exact ⟨by omega, by omega, hnx_14.2.2⟩ | exact ⟨by omega, by omega, hn0⟩) (by first | exact hfi_14 | exact hfi42) (by omega) _ _ hP hD hS ls (lv_sub hl [0, 1, 3, 4] rfl)
  exact L14 ((21 - (0 : Int32).toInt) + 1).toNat (0 : Int32) (0 : Int32) (uF (uF I_w 0 0 (0 : Int32)) 0 1 (0 : Int32)) (by omega) hc_7 (show ((0 : Int32)).toInt ≤ _ from (by omega)) (show 0 ≤ ((0 : Int32)).toInt ∧ ((0 : Int32)).toInt ≤ 6 * ((0 : Int32)).toInt from (by omega)) ⟨rfl, rfl, rfl, rfl⟩ ⟨by omega, by omega, (by rw [lm0]; exact h_n0)⟩ (fiP.in (show ((0 : Int32)).toInt = 0 from lm0) lm0) (by omega) _ _ hP hD hS ls hl

set_option maxHeartbeats 4000000 in
set_option maxRecDepth 100000 in
theorem kX4_giveRow (l : Launch) (g : gG) (a_w : Nat → Nat) (I_w : Nat → Nat → Int32) (a_t : Nat → Nat) (I_t : Nat → Nat → Int32) (rule : Int32) (ia : Int32) (h_rule : 0 ≤ rule.toInt ∧ rule.toInt < 24) (hT : TI I_t) (hR : RI I_w) (h_at : 0 ≤ ia.toInt ∧ ia.toInt ≤ 20) : PurI l g yX4_giveRow wsX4_giveRow 1 [.ref (a_w 0), .int rule, .int ia, .ref (a_t 0)] (wX4 g a_w I_w ++ wX7 g a_t I_t) (fun r => bP (ia.toInt + (I_t 3 rule.toNatClampNeg).toInt ≤ (I_w 0 5).toInt ∧ tGv I_t I_w rule.toInt.toNat ia.toInt.toNat) (¬ tGv I_t I_w rule.toInt.toNat ia.toInt.toNat) r) := by
  refine PurI.sz (cc := cX4_giveRow) (maxL := 5) (by decide) rfl (Nat.le_of_ble_eq_true rfl) (fun p e s m args below meth c Q ls fx hK hP hl hret => ?_)
  have hx := fx.1
  have hb := fx.2.1
  have hml := fx.2.2.1
  have hown := fx.2.2.2.1
  have hts := fx.2.2.2.2
  have hl : lv_has ls 5 [(0, .ref (a_w 0)), (1, .int rule), (2, .int ia), (3, .ref (a_t 0))] := hl
  have hP : va_P g.1 vwCl (wX4 g a_w I_w ++ wX7 g a_t I_t) s.heap := hP
  have hf_22 := hts _ (uT _ _ u_136)
  have hf_28 := hts _ (uT _ _ u_138)
  have hf_56 := hts _ (uT _ _ u_1324)
  have hi_X4 : ∀ w ∈ wsX40, w.before args s = true := fun w h => hts w (uT _ w (u_wsX40 w h))
  have hi_X7 : ∀ w ∈ wsX70, w.before args s = true := fun w h => hts w (uT _ w (u_wsX70 w h))
  have lm1 : (-1 : Int32).toInt = -1 := by decide
  have lm0 : (0 : Int32).toInt = 0 := by decide
  have lm2 : (1 : Int32).toInt = 1 := by decide
  have hfm := RI.fm hR
  have hmn := RI.mn hR
  refine lv_iload_n hx hb dX4_giveRow_0 rfl (lv_at hl 2 rfl) ?_
  refine lv_aload_n hx hb dX4_giveRow_1 rfl (lv_at hl 3 rfl) ?_
  refine va_get (D := g.1) (ci := 7) (v := .ref (a_t 3)) (C := RX7) (T := TX7) (N := 8) hx hb hi_X7 (fun _ h => h) hown hK.1 hP 9 rfl rfl 4 (by decide) hf_56 (fun _ h9 => h9) rfl dX4_giveRow_2 ?_
  refine lv_iload_n hx hb dX4_giveRow_5 rfl (lv_at hl 1 rfl) ?_
  have n_6 : vp_in rule 24 := (t_in (by omega))
  refine va_iald hx hb hK.1 hP 12 0 rfl rfl n_6 dX4_giveRow_6 ?_
  refine q_nm (fun x1 e_x1 => ?_)
  have e_x1 : x1 = (I_t 3) rule.toNatClampNeg := e_x1
  have g_x1 : x1.toInt = ((I_t 3) rule.toNatClampNeg).toInt := congrArg _ e_x1
  have f_x1 := TI.cc hT rule.toNatClampNeg
  rw [← e_x1] at f_x1
  refine r_iadd hx hb dX4_giveRow_7 rfl rfl (fun x2 e_x2 t_x2 => ?_)
  try have t_x2 := t_x2 (by omega)
  refine lv_aload_n hx hb dX4_giveRow_8 rfl (lv_at hl 0 rfl) ?_
  refine va_get (D := g.1) (ci := 4) (v := .int (I_w 0 5)) (C := RX4) (T := TX4) (N := 11) hx hb hi_X4 (fun _ h => h) hown hK.1 hP 0 rfl rfl 5 (by decide) hf_28 (fun _ h9 => h9) rfl dX4_giveRow_9 ?_
  refine q_icmp_le (tgt := 17) hx hb dX4_giveRow_12 (by decide) rfl rfl (fun k_12 => ?_) (fun k_12 => ?_)
  · refine lv_iconst (v := 0) hx hb dX4_giveRow_17 (by decide) ?_
    refine lv_istore (lv' := [(4, .int (0 : Int32)), (0, .ref (a_w 0)), (1, .int rule), (2, .int ia), (3, .ref (a_t 0))]) hx hb dX4_giveRow_18 hl (by decide) rfl (fun ls hl => ?_)
    have L20 : ∀ (nn : Nat) (v4_20 : Int32), (hv_20 : 0 ≤ v4_20.toInt ∧ v4_20.toInt ≤ 3) → (hg_20 : ∀ k : Nat, (k : Int) < v4_20.toInt → cL I_t rule.toInt.toNat k = I_w 2 (ia.toInt.toNat + k)) → ((4 - v4_20.toInt) < (nn : Int)) → ∀ ls : Array Slot, lv_has ls 5 [(4, .int v4_20), (0, .ref (a_w 0)), (1, .int rule), (2, .int ia), (3, .ref (a_t 0))] → W p l e (rm 1) s m args below meth c s.heap [] 0 0 Q (F0 m 20 ls []) := by
      intro n_20
      induction n_20 with
      | zero =>
        intro v4_20 hv_20 hg_20 hms_20 ls hl
        exfalso; omega
      | succ n_20 ih_20 =>
        intro v4_20 hv_20 hg_20 hms_20 ls hl
        refine lv_iload hx hb dX4_giveRow_20 (lv_at hl 0 rfl) ?_
        refine lv_aload_n hx hb dX4_giveRow_22 rfl (lv_at hl 4 rfl) ?_
        refine va_get (D := g.1) (ci := 7) (v := .ref (a_t 3)) (C := RX7) (T := TX7) (N := 8) hx hb hi_X7 (fun _ h => h) hown hK.1 hP 9 rfl rfl 4 (by decide) hf_56 (fun _ h9 => h9) rfl dX4_giveRow_23 ?_
        refine lv_iload_n hx hb dX4_giveRow_26 rfl (lv_at hl 2 rfl) ?_
        have n_27 : vp_in rule 24 := (t_in (by omega))
        refine va_iald hx hb hK.1 hP 12 0 rfl rfl n_27 dX4_giveRow_27 ?_
        refine q_nm (fun x3 e_x3 => ?_)
        have e_x3 : x3 = (I_t 3) rule.toNatClampNeg := e_x3
        have g_x3 : x3.toInt = ((I_t 3) rule.toNatClampNeg).toInt := congrArg _ e_x3
        have f_x3 := TI.cc hT rule.toNatClampNeg
        rw [← e_x3] at f_x3
        refine q_icmp_ge (tgt := 58) hx hb dX4_giveRow_28 (by decide) rfl rfl (fun k_28 => ?_) (fun k_28 => ?_)
        · refine lv_iconst (v := 1) hx hb dX4_giveRow_58 (by decide) ?_
          have lr : (1 : Int32).toInt = 1 := by decide
          exact hret 59 ls (1 : Int32) dX4_giveRow_59 (Or.inr rfl) (Or.inl ⟨rfl, by omega, (by show ((ia.toInt.toNat : Nat) : Int) + (I_t 3 rule.toNatClampNeg).toInt ≤ _; omega), fun k hk => hg_20 k (by have z : (k : Int) < (I_t 3 rule.toNatClampNeg).toInt := hk; omega)⟩)
        · refine lv_aload_n hx hb dX4_giveRow_31 rfl (lv_at hl 4 rfl) ?_
          refine lv_iload_n hx hb dX4_giveRow_32 rfl (lv_at hl 2 rfl) ?_
          refine lv_iload hx hb dX4_giveRow_33 (lv_at hl 0 rfl) ?_
          refine PurI.cv (As := [.int rule, .int v4_20]) (kX7_cellAt l g a_t I_t rule v4_20 (by omega) (by omega) hT) fx (gUV (uT _) u_1331 u_633 u_634 u_31 u_635) rfl hdX7_cellAt ⟨Nat.le_of_ble_eq_true rfl, Nat.le_of_ble_eq_true rfl⟩ hK hP [9, 10, 11, 12, 13, 14, 15] rfl rfl rfl rfl rfl hl.1 (Nat.le_of_ble_eq_true rfl) dX4_giveRow_35 (fun r4 p_r4 => ?_)
          refine lv_aload_n hx hb dX4_giveRow_38 rfl (lv_at hl 1 rfl) ?_
          refine va_get (D := g.1) (ci := 4) (v := .ref (a_w 2)) (C := RX4) (T := TX4) (N := 11) hx hb hi_X4 (fun _ h => h) hown hK.1 hP 0 rfl rfl 3 (by decide) hf_22 (fun _ h9 => h9) rfl dX4_giveRow_39 ?_
          refine lv_iload_n hx hb dX4_giveRow_42 rfl (lv_at hl 3 rfl) ?_
          refine lv_iload hx hb dX4_giveRow_43 (lv_at hl 0 rfl) ?_
          refine r_iadd hx hb dX4_giveRow_45 rfl rfl (fun x5 e_x5 t_x5 => ?_)
          try have t_x5 := t_x5 (by omega)
          have n_46 : vp_in x5 20 := (t_in (by omega))
          refine va_iald hx hb hK.1 hP 2 0 rfl rfl n_46 dX4_giveRow_46 ?_
          refine q_nm (fun x6 e_x6 => ?_)
          have e_x6 : x6 = (I_w 2) x5.toNatClampNeg := e_x6
          have g_x6 : x6.toInt = ((I_w 2) x5.toNatClampNeg).toInt := congrArg _ e_x6
          refine q_icmp_eq (tgt := 52) hx hb dX4_giveRow_47 (by decide) rfl rfl (fun k_47 => ?_) (fun k_47 => ?_)
          · refine r_iinc (lv' := fun i7 => [(4, .int i7), (0, .ref (a_w 0)), (1, .int rule), (2, .int ia), (3, .ref (a_t 0))]) hx hb dX4_giveRow_52 hl (k := 0) rfl (by decide) rfl (by decide) (fun _ => rfl) (fun i7 e_i7 t_i7 ls hl => ?_)
            try have t_i7 := t_i7 (by omega)
            refine lv_goto (tgt := 20) hx hb dX4_giveRow_55 (by decide) ?_
            exact ih_20 i7 (by omega) (tq_ext (P := fun k => cL I_t rule.toInt.toNat k = I_w 2 (ia.toInt.toNat + k)) hg_20 (by omega) (by omega) (by have a1 : cL I_t rule.toInt.toNat v4_20.toInt.toNat = r4 := (by rw [p_r4.1]; show I_t 6 _ = I_t 6 _; congr 1; omega); have a2 : I_w 2 (ia.toInt.toNat + v4_20.toInt.toNat) = x6 := (by rw [e_x6]; congr 1; show _ = (x5).toInt.toNat; omega); show cL I_t rule.toInt.toNat v4_20.toInt.toNat = _; rw [a1, a2]; exact Int32.toInt_inj.mp k_47)) (by omega) ls hl
          · refine lv_iconst (v := 0) hx hb dX4_giveRow_50 (by decide) ?_
            exact hret 51 ls (0 : Int32) dX4_giveRow_51 (Or.inl rfl) (Or.inr ⟨rfl, fun q => k_47 (by have a1 : cL I_t rule.toInt.toNat v4_20.toInt.toNat = r4 := (by rw [p_r4.1]; show I_t 6 _ = I_t 6 _; congr 1; omega); have a2 : I_w 2 (ia.toInt.toNat + v4_20.toInt.toNat) = x6 := (by rw [e_x6]; congr 1; show _ = (x5).toInt.toNat; omega); have z := q.2 v4_20.toInt.toNat (by show ((v4_20.toInt.toNat : Nat) : Int) < (I_t 3 rule.toNatClampNeg).toInt; omega); exact congrArg Int32.toInt (a1.symm.trans (z.trans a2)))⟩)
    exact L20 ((4 - (0 : Int32).toInt) + 1).toNat (0 : Int32) (by omega) (fun k q => by rw [lm0] at q; exfalso; omega) (by omega) ls hl
  · refine lv_iconst (v := 0) hx hb dX4_giveRow_15 (by decide) ?_
    exact hret 16 ls (0 : Int32) dX4_giveRow_16 (Or.inl rfl) (Or.inr ⟨rfl, fun q => by have z : ((ia.toInt.toNat : Nat) : Int) + (I_t 3 rule.toNatClampNeg).toInt ≤ (I_w 0 5).toInt := q.1; omega⟩)

set_option maxHeartbeats 4000000 in
set_option maxRecDepth 100000 in
theorem kX4_setText (l : Launch) (g : gG) (a_w : Nat → Nat) (I_w : Nat → Nat → Int32) (a_t : Nat → Nat) (I_t : Nat → Nat → Int32) (depth : Int32) (bound : Int32) (hT : TI I_t) (hR : RI I_w) (h_d : 0 ≤ depth.toInt ∧ depth.toInt ≤ 20) (h_b : bound.toInt ≤ (I_w 6 depth.toNatClampNeg).toInt) : EffI l g yX4_setText wsX4_setText 3 [.ref (a_w 0), .ref (a_t 0), .int depth, .int bound] (wX4 g a_w I_w ++ wX7 g a_t I_t) (fun (u : (Nat → Nat → Int32)) => wX4 g a_w u ++ wX7 g a_t I_t) (fun r (u : (Nat → Nat → Int32)) => (r = 0 ∨ r = 1) ∧ RI (u) ∧ (u) 0 = I_w 0 ∧ frT I_w (u) ∧ tFr I_w (u) depth.toInt.toNat ∧ tSp I_t I_w (u) depth.toInt.toNat bound.toInt r.toInt) := by
  refine EffI.sz (cc := cX4_setText) (maxL := 7) (by decide) rfl (Nat.le_of_ble_eq_true rfl) (fun p e s m args below meth c A Q ls fx hK hP hD hA hS hl hret => ?_)
  have hx := fx.1
  have hb := fx.2.1
  have hml := fx.2.2.1
  have hown := fx.2.2.2.1
  have hts := fx.2.2.2.2
  have hl : lv_has ls 7 [(0, .ref (a_w 0)), (1, .ref (a_t 0)), (2, .int depth), (3, .int bound)] := hl
  have hP : va_P g.1 vwCl (wX4 g a_w I_w ++ wX7 g a_t I_t) s.heap := hP
  have hf_34 := hts _ (uT _ _ u_140)
  have hf_37 := hts _ (uT _ _ u_141)
  have hf_40 := hts _ (uT _ _ u_142)
  have hf_43 := hts _ (uT _ _ u_143)
  have hf_56 := hts _ (uT _ _ u_1324)
  have hf_80 := hts _ (uT _ _ u_1367)
  have hf_102 := hts _ (uT _ _ u_1414)
  have hi_X4 : ∀ w ∈ wsX40, w.before args s = true := fun w h => hts w (uT _ w (u_wsX40 w h))
  have hi_X7 : ∀ w ∈ wsX70, w.before args s = true := fun w h => hts w (uT _ w (u_wsX70 w h))
  have lm1 : (-1 : Int32).toInt = -1 := by decide
  have lm0 : (0 : Int32).toInt = 0 := by decide
  have lm2 : (1 : Int32).toInt = 1 := by decide
  have hru := TI.ru hT
  have hd := RI.at hR depth h_d
  have hmnw := RI.mn hR
  refine lv_aload_n hx hb dX4_setText_0 rfl (lv_at hl 0 rfl) ?_
  refine va_get (D := g.1) (ci := 4) (v := .ref (a_w 6)) (C := RX4) (T := TX4) (N := 11) hx hb hi_X4 (fun _ h => h) hown hK.1 hP 0 rfl rfl 8 (by decide) hf_37 (fun _ h9 => h9) rfl dX4_setText_1 ?_
  refine lv_iload_n hx hb dX4_setText_4 rfl (lv_at hl 2 rfl) ?_
  have n_5 : vp_in depth 21 := (t_in (by omega))
  refine va_iald hx hb hK.1 hP 6 0 rfl rfl n_5 dX4_setText_5 ?_
  refine q_nm (fun x1 e_x1 => ?_)
  have e_x1 : x1 = (I_w 6) depth.toNatClampNeg := e_x1
  have g_x1 : x1.toInt = ((I_w 6) depth.toNatClampNeg).toInt := congrArg _ e_x1
  refine lv_istore (lv' := [(4, .int x1), (0, .ref (a_w 0)), (1, .ref (a_t 0)), (2, .int depth), (3, .int bound)]) hx hb dX4_setText_6 hl (by decide) rfl (fun ls hl => ?_)
  refine lv_aload_n hx hb dX4_setText_8 rfl (lv_at hl 1 rfl) ?_
  refine va_get (D := g.1) (ci := 4) (v := .ref (a_w 7)) (C := RX4) (T := TX4) (N := 11) hx hb hi_X4 (fun _ h => h) hown hK.1 hP 0 rfl rfl 9 (by decide) hf_40 (fun _ h9 => h9) rfl dX4_setText_9 ?_
  refine lv_iload_n hx hb dX4_setText_12 rfl (lv_at hl 3 rfl) ?_
  have n_13 : vp_in depth 21 := (t_in (by omega))
  refine va_iald hx hb hK.1 hP 7 0 rfl rfl n_13 dX4_setText_13 ?_
  refine q_nm (fun x2 e_x2 => ?_)
  have e_x2 : x2 = (I_w 7) depth.toNatClampNeg := e_x2
  have g_x2 : x2.toInt = ((I_w 7) depth.toNatClampNeg).toInt := congrArg _ e_x2
  refine lv_istore (lv' := [(5, .int x2), (4, .int x1), (0, .ref (a_w 0)), (1, .ref (a_t 0)), (2, .int depth), (3, .int bound)]) hx hb dX4_setText_14 hl (by decide) rfl (fun ls hl => ?_)
  have L16 : ∀ (nn : Nat) (v5_16 : Int32) (I_w_16 : Nat → Nat → Int32), (hv_16 : 0 ≤ v5_16.toInt ∧ v5_16.toInt ≤ 127) → (hR_16 : RI I_w_16) → (hs_16 : I_w_16 0 = I_w 0 ∧ I_w_16 6 = I_w 6) → (ht_16 : frT I_w I_w_16) → (hfr_16 : tFr I_w I_w_16 depth.toInt.toNat) → (hF_16 : tLp I_t I_w I_w_16 depth.toInt.toNat bound.toInt v5_16.toInt) → ((128 - v5_16.toInt) < (nn : Int)) → ∀ (H : Heap) (locs : List Loc), va_P g.1 vwCl (wX4 g a_w I_w_16 ++ wX7 g a_t I_t) H → va_D A (wX4 g a_w I_w_16 ++ wX7 g a_t I_t) → va_S A s.heap H locs → ∀ ls : Array Slot, lv_has ls 7 [(5, .int v5_16), (4, .int x1), (0, .ref (a_w 0)), (1, .ref (a_t 0)), (2, .int depth), (3, .int bound)] → W p l e (rm 3) s m args below meth c H locs 0 0 Q (F0 m 16 ls []) := by
    intro n_16
    induction n_16 with
    | zero =>
      intro v5_16 I_w_16 hv_16 hR_16 hs_16 ht_16 hfr_16 hF_16 hms_16 H locs hP hD hS ls hl
      exfalso; omega
    | succ n_16 ih_16 =>
      intro v5_16 I_w_16 hv_16 hR_16 hs_16 ht_16 hfr_16 hF_16 hms_16 H locs hP hD hS ls hl
      have hd16 := RI.at hR_16 depth h_d
      have hm16 := RI.mn hR_16
      refine lv_iload hx hb dX4_setText_16 (lv_at hl 0 rfl) ?_
      refine lv_iload_n hx hb dX4_setText_18 rfl (lv_at hl 5 rfl) ?_
      refine q_icmp_ge (tgt := 114) hx hb dX4_setText_19 (by decide) rfl rfl (fun k_19 => ?_) (fun k_19 => ?_)
      · refine lv_iconst (v := 1) hx hb dX4_setText_114 (by decide) ?_
        have lr : (1 : Int32).toInt = 1 := by decide
        refine hret 115 ls (1 : Int32) _ _ I_w_16 dX4_setText_115 (Or.inr rfl) hS hP hD ?_
        exact ⟨Or.inr rfl, hR_16, hs_16.1, ht_16, hfr_16, (by rw [lm2]; exact tLp.end hF_16 (by omega))⟩
      · refine lv_iload hx hb dX4_setText_22 (lv_at hl 0 rfl) ?_
        refine lv_aload_n hx hb dX4_setText_24 rfl (lv_at hl 2 rfl) ?_
        refine va_get (D := g.1) (ci := 4) (v := .ref (a_w 7)) (C := RX4) (T := TX4) (N := 11) hx hb hi_X4 (fun _ h => h) hown hK.1 hP 0 rfl rfl 9 (by decide) hf_40 (fun _ h9 => h9) rfl dX4_setText_25 ?_
        refine lv_iload_n hx hb dX4_setText_28 rfl (lv_at hl 4 rfl) ?_
        have n_29 : vp_in depth 21 := (t_in (by omega))
        refine va_iald hx hb hK.1 hP 7 0 rfl rfl n_29 dX4_setText_29 ?_
        refine q_nm (fun x3 e_x3 => ?_)
        have e_x3 : x3 = (I_w_16 7) depth.toNatClampNeg := e_x3
        have g_x3 : x3.toInt = ((I_w_16 7) depth.toNatClampNeg).toInt := congrArg _ e_x3
        refine q_icmp_ne (tgt := 108) hx hb dX4_setText_30 (by decide) rfl rfl (fun k_30 => ?_) (fun k_30 => ?_)
        · refine r_iinc (lv' := fun i4 => [(5, .int i4), (4, .int x1), (0, .ref (a_w 0)), (1, .ref (a_t 0)), (2, .int depth), (3, .int bound)]) hx hb dX4_setText_108 hl (k := 0) rfl (by decide) rfl (by decide) (fun _ => rfl) (fun i4 e_i4 t_i4 ls hl => ?_)
          try have t_i4 := t_i4 (by omega)
          refine lv_goto (tgt := 16) hx hb dX4_setText_111 (by decide) ?_
          exact ih_16 i4 I_w_16 (by omega) hR_16 ⟨hs_16.1, hs_16.2⟩ ⟨ht_16.1, ht_16.2.1, ht_16.2.2.1, ht_16.2.2.2⟩ (by exact hfr_16) (by exact tLp.sk hF_16 (fun z => k_30 (z.trans g_x3.symm)) (by omega)) (by omega) _ _ hP hD hS ls hl
        · refine lv_aload_n hx hb dX4_setText_33 rfl (lv_at hl 3 rfl) ?_
          refine lv_aload_n hx hb dX4_setText_34 rfl (lv_at hl 2 rfl) ?_
          refine va_get (D := g.1) (ci := 4) (v := .ref (a_w 5)) (C := RX4) (T := TX4) (N := 11) hx hb hi_X4 (fun _ h => h) hown hK.1 hP 0 rfl rfl 7 (by decide) hf_34 (fun _ h9 => h9) rfl dX4_setText_35 ?_
          refine lv_iconst (v := 0) hx hb dX4_setText_38 (by decide) ?_
          refine lv_iload hx hb dX4_setText_39 (lv_at hl 1 rfl) ?_
          refine lv_iload hx hb dX4_setText_41 (lv_at hl 0 rfl) ?_
          refine lv_aload_n hx hb dX4_setText_43 rfl (lv_at hl 3 rfl) ?_
          refine va_get (D := g.1) (ci := 7) (v := .int (I_t 0 1)) (C := RX7) (T := TX7) (N := 8) hx hb hi_X7 (fun _ h => h) hown hK.1 hP 9 rfl rfl 1 (by decide) hf_102 (fun _ h9 => h9) rfl dX4_setText_44 ?_
          refine PurI.cv (As := [.ref (a_w 5), .int (0 : Int32), .int x1, .int v5_16, .int (I_t 0 1)]) (kX7_longestRule l g a_t I_t (fun k => a_w (k + 5)) 120 (fun k => I_w_16 (k + 5)) (0 : Int32) x1 v5_16 (I_t 0 1) hT (by omega)) fx (gUV (uT _) u_1415 u_651 u_652 u_31 u_653) rfl hdX7_longestRule ⟨Nat.le_of_ble_eq_true rfl, Nat.le_of_ble_eq_true rfl⟩ hK hP [9, 10, 11, 12, 13, 14, 15, 5] rfl rfl rfl rfl rfl hl.1 (Nat.le_of_ble_eq_true rfl) dX4_setText_47 (fun r5 p_r5 => ?_)
          refine lv_istore (lv' := [(6, .int r5), (5, .int v5_16), (4, .int x1), (0, .ref (a_w 0)), (1, .ref (a_t 0)), (2, .int depth), (3, .int bound)]) hx hb dX4_setText_50 hl (by decide) rfl (fun ls hl => ?_)
          refine lv_iload hx hb dX4_setText_52 (lv_at hl 0 rfl) ?_
          refine lv_iconst (v := -1) hx hb dX4_setText_54 (by decide) ?_
          refine q_icmp_eq (tgt := 74) hx hb dX4_setText_55 (by decide) rfl (by decide : (-1 : Int32).toInt = -1) (fun k_55 => ?_) (fun k_55 => ?_)
          · refine lv_iconst (v := 0) hx hb dX4_setText_74 (by decide) ?_
            refine hret 75 ls (0 : Int32) _ _ I_w_16 dX4_setText_75 (Or.inl rfl) hS hP hD ?_
            exact ⟨Or.inl rfl, hR_16, hs_16.1, ht_16, hfr_16, (by rw [lm0]; exact tLp.bad hT (by omega) hs_16.1 ht_16.2.1 hfr_16.1 hF_16 (by omega) (by omega) ((show v5_16.toInt = (x3).toInt from (by omega)).trans g_x3) p_r5.2.2 lm0 g_x1 (Or.inl (by omega)) rfl)⟩
          · refine lv_aload_n hx hb dX4_setText_58 rfl (lv_at hl 3 rfl) ?_
            refine lv_iload hx hb dX4_setText_59 (lv_at hl 0 rfl) ?_
            refine lv_aload_n hx hb dX4_setText_61 rfl (lv_at hl 3 rfl) ?_
            refine va_get (D := g.1) (ci := 4) (v := .ref (a_w 8)) (C := RX4) (T := TX4) (N := 11) hx hb hi_X4 (fun _ h => h) hown hK.1 hP 0 rfl rfl 10 (by decide) hf_43 (fun _ h9 => h9) rfl dX4_setText_62 ?_
            refine lv_iload_n hx hb dX4_setText_65 rfl (lv_at hl 5 rfl) ?_
            have n_66 : vp_in depth 21 := (t_in (by omega))
            refine va_iald hx hb hK.1 hP 8 0 rfl rfl n_66 dX4_setText_66 ?_
            refine q_nm (fun x6 e_x6 => ?_)
            have e_x6 : x6 = (I_w_16 8) depth.toNatClampNeg := e_x6
            have g_x6 : x6.toInt = ((I_w_16 8) depth.toNatClampNeg).toInt := congrArg _ e_x6
            refine lv_aload_n hx hb dX4_setText_67 rfl (lv_at hl 4 rfl) ?_
            refine PurI.cv (As := [.int r5, .int x6, .ref (a_t 0)]) (kX4_giveRow l g a_w I_w_16 a_t I_t r5 x6 (by omega) hT hR_16 (by omega)) fx (gUV (uT _) u_1416 u_1417 u_1418 u_49 u_1419) rfl hdX4_giveRow ⟨Nat.le_of_ble_eq_true rfl, Nat.le_of_ble_eq_true rfl⟩ hK hP [0, 1, 2, 3, 4, 5, 6, 7, 8, 9, 10, 11, 12, 13, 14, 15] rfl rfl rfl rfl rfl hl.1 (Nat.le_of_ble_eq_true rfl) dX4_setText_68 (fun r7 p_r7 => ?_)
            refine q_if_ne (tgt := 76) hx hb dX4_setText_71 (by decide) rfl (fun b_71 k_71 => ?_) (fun b_71 k_71 => ?_)
            · have q_71 := bP.t p_r7 b_71
              refine lv_aload_n hx hb dX4_setText_76 rfl (lv_at hl 3 rfl) ?_
              refine va_get (D := g.1) (ci := 4) (v := .ref (a_w 7)) (C := RX4) (T := TX4) (N := 11) hx hb hi_X4 (fun _ h => h) hown hK.1 hP 0 rfl rfl 9 (by decide) hf_40 (fun _ h9 => h9) rfl dX4_setText_77 ?_
              refine lv_iload_n hx hb dX4_setText_80 rfl (lv_at hl 5 rfl) ?_
              refine lv_dup2_11 hx hb dX4_setText_81 rfl rfl ?_
              have n_82 : vp_in depth 21 := (t_in (by omega))
              refine va_iald hx hb hK.1 hP 7 0 rfl rfl n_82 dX4_setText_82 ?_
              refine q_nm (fun x8 e_x8 => ?_)
              have e_x8 : x8 = (I_w_16 7) depth.toNatClampNeg := e_x8
              have g_x8 : x8.toInt = ((I_w_16 7) depth.toNatClampNeg).toInt := congrArg _ e_x8
              refine lv_aload_n hx hb dX4_setText_83 rfl (lv_at hl 4 rfl) ?_
              refine va_get (D := g.1) (ci := 7) (v := .ref (a_t 2)) (C := RX7) (T := TX7) (N := 8) hx hb hi_X7 (fun _ h => h) hown hK.1 hP 9 rfl rfl 3 (by decide) hf_80 (fun _ h9 => h9) rfl dX4_setText_84 ?_
              refine lv_iload hx hb dX4_setText_87 (lv_at hl 0 rfl) ?_
              have n_89 : vp_in r5 24 := (t_in (by omega))
              refine va_iald hx hb hK.1 hP 11 0 rfl rfl n_89 dX4_setText_89 ?_
              refine q_nm (fun x9 e_x9 => ?_)
              have e_x9 : x9 = (I_t 2) r5.toNatClampNeg := e_x9
              have g_x9 : x9.toInt = ((I_t 2) r5.toNatClampNeg).toInt := congrArg _ e_x9
              have f_x9 := TI.lc hT r5.toNatClampNeg
              rw [← e_x9] at f_x9
              refine r_iadd hx hb dX4_setText_90 rfl rfl (fun x10 e_x10 t_x10 => ?_)
              try have t_x10 := t_x10 (by omega)
              have n_91 : vp_in depth 21 := (t_in (by omega))
              obtain ⟨f11, e_f11⟩ : ∃ z, z = upd (I_w_16 7) depth.toNatClampNeg x10 := ⟨_, rfl⟩
              refine va_iast hx hb hK.1 hP hD hS 7 0 rfl rfl n_91 dX4_setText_91 (fun H locs hP hD hS => ?_)
              have hP : va_P g.1 vwCl (wX4 g a_w (uR I_w_16 7 f11) ++ wX7 g a_t I_t) H := by rw [e_f11]; exact hP
              have hD : va_D A (wX4 g a_w (uR I_w_16 7 f11) ++ wX7 g a_t I_t) := by rw [e_f11]; exact hD
              have u7 : (f11 depth.toInt.toNat).toInt = v5_16.toInt + (I_t 2 (r5).toInt.toNat).toInt := (congrArg Int32.toInt ((congrFun e_f11 _).trans (upd_at rfl))).trans (by have y2 : (I_t 2 (r5).toNatClampNeg).toInt = (I_t 2 (r5).toInt.toNat).toInt := rfl; omega)
              refine lv_aload_n hx hb dX4_setText_92 rfl (lv_at hl 3 rfl) ?_
              refine va_get (D := g.1) (ci := 4) (v := .ref (a_w 8)) (C := RX4) (T := TX4) (N := 11) hx hb hi_X4 (fun _ h => h) hown hK.1 hP 0 rfl rfl 10 (by decide) hf_43 (fun _ h9 => h9) rfl dX4_setText_93 ?_
              refine lv_iload_n hx hb dX4_setText_96 rfl (lv_at hl 5 rfl) ?_
              refine lv_dup2_11 hx hb dX4_setText_97 rfl rfl ?_
              have n_98 : vp_in depth 21 := (t_in (by omega))
              refine va_iald hx hb hK.1 hP 8 0 rfl rfl n_98 dX4_setText_98 ?_
              refine q_nm (fun x12 e_x12 => ?_)
              have e_x12 : x12 = (I_w_16 8) depth.toNatClampNeg := e_x12
              have g_x12 : x12.toInt = ((I_w_16 8) depth.toNatClampNeg).toInt := congrArg _ e_x12
              refine lv_aload_n hx hb dX4_setText_99 rfl (lv_at hl 4 rfl) ?_
              refine va_get (D := g.1) (ci := 7) (v := .ref (a_t 3)) (C := RX7) (T := TX7) (N := 8) hx hb hi_X7 (fun _ h => h) hown hK.1 hP 9 rfl rfl 4 (by decide) hf_56 (fun _ h9 => h9) rfl dX4_setText_100 ?_
              refine lv_iload hx hb dX4_setText_103 (lv_at hl 0 rfl) ?_
              have n_105 : vp_in r5 24 := (t_in (by omega))
              refine va_iald hx hb hK.1 hP 12 0 rfl rfl n_105 dX4_setText_105 ?_
              refine q_nm (fun x13 e_x13 => ?_)
              have e_x13 : x13 = (I_t 3) r5.toNatClampNeg := e_x13
              have g_x13 : x13.toInt = ((I_t 3) r5.toNatClampNeg).toInt := congrArg _ e_x13
              have f_x13 := TI.cc hT r5.toNatClampNeg
              rw [← e_x13] at f_x13
              refine r_iadd hx hb dX4_setText_106 rfl rfl (fun x14 e_x14 t_x14 => ?_)
              try have t_x14 := t_x14 (by omega)
              have n_107 : vp_in depth 21 := (t_in (by omega))
              obtain ⟨f15, e_f15⟩ : ∃ z, z = upd (I_w_16 8) depth.toNatClampNeg x14 := ⟨_, rfl⟩
              refine va_iast hx hb hK.1 hP hD hS 8 0 rfl rfl n_107 dX4_setText_107 (fun H locs hP hD hS => ?_)
              have hP : va_P g.1 vwCl (wX4 g a_w (uR (uR I_w_16 7 f11) 8 f15) ++ wX7 g a_t I_t) H := by rw [e_f15]; exact hP
              have hD : va_D A (wX4 g a_w (uR (uR I_w_16 7 f11) 8 f15) ++ wX7 g a_t I_t) := by rw [e_f15]; exact hD
              have u8 : (f15 depth.toInt.toNat).toInt = (I_w_16 8 depth.toInt.toNat).toInt + (I_t 3 (r5).toInt.toNat).toInt := (congrArg Int32.toInt ((congrFun e_f15 _).trans (upd_at rfl))).trans (by have y2 : (I_t 3 (r5).toNatClampNeg).toInt = (I_t 3 (r5).toInt.toNat).toInt := rfl; have y3 : (I_w_16 8 depth.toNatClampNeg).toInt = (I_w_16 8 depth.toInt.toNat).toInt := rfl; omega)
              have hc_107 : RI (uR (uR I_w_16 7 f11) 8 f15) := RI.s78 (d := depth.toInt) hR_16 rfl rfl e_f11 e_f15 (by omega) (by omega) rfl rfl (by omega) (by omega)
              refine r_iinc (lv' := fun i16 => [(5, .int i16), (6, .int r5), (4, .int x1), (0, .ref (a_w 0)), (1, .ref (a_t 0)), (2, .int depth), (3, .int bound)]) hx hb dX4_setText_108 hl (k := 1) rfl (by decide) rfl (by decide) (fun _ => rfl) (fun i16 e_i16 t_i16 ls hl => ?_)
              try have t_i16 := t_i16 (by omega)
              refine lv_goto (tgt := 16) hx hb dX4_setText_111 (by decide) ?_
              exact ih_16 i16 (uR (uR I_w_16 7 f11) 8 f15) (by omega) hc_107 ⟨hs_16.1, hs_16.2⟩ ⟨ht_16.1, ht_16.2.1, ht_16.2.2.1, ht_16.2.2.2⟩ (by first | exact tFr.s78 hfr_16 e_f11 e_f15 rfl rfl rfl rfl rfl rfl | exact hfr_16) (by first | exact tLp.st hT (by omega) hs_16.1 ht_16.2.1 hfr_16.1 hF_16 (by omega) (by omega) ((show v5_16.toInt = (x3).toInt from (by omega)).trans g_x3) p_r5.2.2 lm0 g_x1 (by omega) (by omega) q_71.2 (congrArg Int.toNat g_x6) u7 u8 (by omega) | exact tLp.sk hF_16 (fun z => k_30 (z.trans g_x3.symm)) (by omega)) (by omega) _ _ hP hD hS ls (lv_sub hl [0, 2, 3, 4, 5, 6] rfl)
            · have q_71 := bP.f p_r7 b_71
              refine lv_iconst (v := 0) hx hb dX4_setText_74 (by decide) ?_
              refine hret 75 ls (0 : Int32) _ _ I_w_16 dX4_setText_75 (Or.inl rfl) hS hP hD ?_
              exact ⟨Or.inl rfl, hR_16, hs_16.1, ht_16, hfr_16, (by rw [lm0]; first | exact tLp.bad hT (by omega) hs_16.1 ht_16.2.1 hfr_16.1 hF_16 (by omega) (by omega) ((show v5_16.toInt = (x3).toInt from (by omega)).trans g_x3) p_r5.2.2 lm0 g_x1 (Or.inr q_71) (congrArg Int.toNat g_x6) | exact tLp.bad hT (by omega) hs_16.1 ht_16.2.1 hfr_16.1 hF_16 (by omega) (by omega) ((show v5_16.toInt = (x3).toInt from (by omega)).trans g_x3) p_r5.2.2 lm0 g_x1 (Or.inl (by omega)) rfl)⟩
  exact L16 ((128 - x2.toInt) + 1).toNat x2 I_w (by omega) hR ⟨rfl, rfl⟩ (frT.rf I_w) tFr.rf (tLp.in g_x2) (by omega) _ _ hP hD hS ls hl

set_option maxHeartbeats 4000000 in
set_option maxRecDepth 100000 in
theorem kX4_staysTrue (l : Launch) (g : gG) (a_w : Nat → Nat) (I_w : Nat → Nat → Int32) (a_t : Nat → Nat) (I_t : Nat → Nat → Int32) (rule : Int32) (depth : Int32) (h_rule : 0 ≤ rule.toInt ∧ rule.toInt < 24) (hT : TI I_t) (hR : RI I_w) (h_d : 0 ≤ depth.toInt ∧ depth.toInt ≤ 19) : EffI l g yX4_staysTrue wsX4_staysTrue 4 [.ref (a_w 0), .int rule, .ref (a_t 0), .int depth] (wX4 g a_w I_w ++ wX7 g a_t I_t) (fun (u : (Nat → Nat → Int32)) => wX4 g a_w u ++ wX7 g a_t I_t) (fun r (u : (Nat → Nat → Int32)) => (r = 0 ∨ r = 1) ∧ RI (u) ∧ (u) 0 = I_w 0 ∧ frT I_w (u) ∧ tDp I_w (u) (depth.toInt.toNat + 1) ∧ (I_w 6 depth.toInt.toNat).toInt ≤ ((u) 6 (depth.toInt.toNat + 1)).toInt ∧ (HL1 I_t → pqL I_t → rule.toInt < (I_t 0 0).toInt → ∀ rs, tI I_t I_w depth.toInt.toNat rs → (r.toInt = 1 ∧ tI I_t (u) (depth.toInt.toNat + 1) (rs ++ [rule.toInt.toNat])) ∨ (r.toInt = 0 ∧ ∀ x, ¬ tTr (fxTc I_t) (I_t 0 1) (tRw I_w) (rs ++ [rule.toInt.toNat] ++ x)))) := by
  refine EffI.sz (cc := cX4_staysTrue) (maxL := 6) (by decide) rfl (Nat.le_of_ble_eq_true rfl) (fun p e s m args below meth c A Q ls fx hK hP hD hA hS hl hret => ?_)
  have hx := fx.1
  have hb := fx.2.1
  have hml := fx.2.2.1
  have hown := fx.2.2.2.1
  have hts := fx.2.2.2.2
  have hl : lv_has ls 6 [(0, .ref (a_w 0)), (1, .int rule), (2, .ref (a_t 0)), (3, .int depth)] := hl
  have hP : va_P g.1 vwCl (wX4 g a_w I_w ++ wX7 g a_t I_t) s.heap := hP
  have hf_34 := hts _ (uT _ _ u_140)
  have hf_37 := hts _ (uT _ _ u_141)
  have hf_40 := hts _ (uT _ _ u_142)
  have hf_43 := hts _ (uT _ _ u_143)
  have hf_80 := hts _ (uT _ _ u_1367)
  have hi_X4 : ∀ w ∈ wsX40, w.before args s = true := fun w h => hts w (uT _ w (u_wsX40 w h))
  have hi_X7 : ∀ w ∈ wsX70, w.before args s = true := fun w h => hts w (uT _ w (u_wsX70 w h))
  have lm1 : (-1 : Int32).toInt = -1 := by decide
  have lm0 : (0 : Int32).toInt = 0 := by decide
  have lm2 : (1 : Int32).toInt = 1 := by decide
  have hru := TI.ru hT
  have hd := RI.at hR depth (by omega)
  have hz := RI.az hR depth (by omega)
  refine lv_aload_n hx hb dX4_staysTrue_0 rfl (lv_at hl 0 rfl) ?_
  refine va_get (D := g.1) (ci := 4) (v := .ref (a_w 6)) (C := RX4) (T := TX4) (N := 11) hx hb hi_X4 (fun _ h => h) hown hK.1 hP 0 rfl rfl 8 (by decide) hf_37 (fun _ h9 => h9) rfl dX4_staysTrue_1 ?_
  refine lv_iload_n hx hb dX4_staysTrue_4 rfl (lv_at hl 3 rfl) ?_
  have n_5 : vp_in depth 21 := (t_in (by omega))
  refine va_iald hx hb hK.1 hP 6 0 rfl rfl n_5 dX4_staysTrue_5 ?_
  refine q_nm (fun x1 e_x1 => ?_)
  have e_x1 : x1 = (I_w 6) depth.toNatClampNeg := e_x1
  have g_x1 : x1.toInt = ((I_w 6) depth.toNatClampNeg).toInt := congrArg _ e_x1
  have n05 : (x1).toInt = (I_w 6 depth.toInt.toNat).toInt := g_x1
  refine lv_istore (lv' := [(4, .int x1), (0, .ref (a_w 0)), (1, .int rule), (2, .ref (a_t 0)), (3, .int depth)]) hx hb dX4_staysTrue_6 hl (by decide) rfl (fun ls hl => ?_)
  refine lv_iconst (v := 0) hx hb dX4_staysTrue_8 (by decide) ?_
  refine lv_istore (lv' := [(5, .int (0 : Int32)), (4, .int x1), (0, .ref (a_w 0)), (1, .int rule), (2, .ref (a_t 0)), (3, .int depth)]) hx hb dX4_staysTrue_9 hl (by decide) rfl (fun ls hl => ?_)
  have L11 : ∀ (nn : Nat) (v5_11 : Int32) (I_w_11 : Nat → Nat → Int32), (hv_11 : 0 ≤ v5_11.toInt ∧ v5_11.toInt ≤ 6) → (hs_11 : butC 5 I_w I_w_11) → (hla_11 : ∀ j : Nat, (j : Int) < (I_w 6 depth.toInt.toNat).toInt → I_w_11 5 j = I_w 5 j) → (hlb_11 : ∀ k : Nat, (k : Int) < v5_11.toInt → (I_w_11 5 ((I_w 6 depth.toInt.toNat).toInt.toNat + k)).toInt = 96 + (I_t 5 (6 * rule.toInt.toNat + k)).toInt) → ((7 - v5_11.toInt) < (nn : Int)) → ∀ (H : Heap) (locs : List Loc), va_P g.1 vwCl (wX4 g a_w I_w_11 ++ wX7 g a_t I_t) H → va_D A (wX4 g a_w I_w_11 ++ wX7 g a_t I_t) → va_S A s.heap H locs → ∀ ls : Array Slot, lv_has ls 6 [(5, .int v5_11), (4, .int x1), (0, .ref (a_w 0)), (1, .int rule), (2, .ref (a_t 0)), (3, .int depth)] → W p l e (rm 4) s m args below meth c H locs 0 0 Q (F0 m 11 ls []) := by
    intro n_11
    induction n_11 with
    | zero =>
      intro v5_11 I_w_11 hv_11 hs_11 hla_11 hlb_11 hms_11 H locs hP hD hS ls hl
      exfalso; omega
    | succ n_11 ih_11 =>
      intro v5_11 I_w_11 hv_11 hs_11 hla_11 hlb_11 hms_11 H locs hP hD hS ls hl
      have hr6 : I_w_11 6 = I_w 6 := hs_11 6 (by decide)
      have hr7 : I_w_11 7 = I_w 7 := hs_11 7 (by decide)
      have hr8 : I_w_11 8 = I_w 8 := hs_11 8 (by decide)
      refine lv_iload hx hb dX4_staysTrue_11 (lv_at hl 0 rfl) ?_
      refine lv_aload_n hx hb dX4_staysTrue_13 rfl (lv_at hl 4 rfl) ?_
      refine va_get (D := g.1) (ci := 7) (v := .ref (a_t 2)) (C := RX7) (T := TX7) (N := 8) hx hb hi_X7 (fun _ h => h) hown hK.1 hP 9 rfl rfl 3 (by decide) hf_80 (fun _ h9 => h9) rfl dX4_staysTrue_14 ?_
      refine lv_iload_n hx hb dX4_staysTrue_17 rfl (lv_at hl 3 rfl) ?_
      have n_18 : vp_in rule 24 := (t_in (by omega))
      refine va_iald hx hb hK.1 hP 11 0 rfl rfl n_18 dX4_staysTrue_18 ?_
      refine q_nm (fun x2 e_x2 => ?_)
      have e_x2 : x2 = (I_t 2) rule.toNatClampNeg := e_x2
      have g_x2 : x2.toInt = ((I_t 2) rule.toNatClampNeg).toInt := congrArg _ e_x2
      have f_x2 := TI.lc hT rule.toNatClampNeg
      rw [← e_x2] at f_x2
      refine q_icmp_ge (tgt := 48) hx hb dX4_staysTrue_19 (by decide) rfl rfl (fun k_19 => ?_) (fun k_19 => ?_)
      · refine lv_iload hx hb dX4_staysTrue_48 (lv_at hl 1 rfl) ?_
        refine lv_aload_n hx hb dX4_staysTrue_50 rfl (lv_at hl 4 rfl) ?_
        refine va_get (D := g.1) (ci := 7) (v := .ref (a_t 2)) (C := RX7) (T := TX7) (N := 8) hx hb hi_X7 (fun _ h => h) hown hK.1 hP 9 rfl rfl 3 (by decide) hf_80 (fun _ h9 => h9) rfl dX4_staysTrue_51 ?_
        refine lv_iload_n hx hb dX4_staysTrue_54 rfl (lv_at hl 3 rfl) ?_
        have n_55 : vp_in rule 24 := (t_in (by omega))
        refine va_iald hx hb hK.1 hP 11 0 rfl rfl n_55 dX4_staysTrue_55 ?_
        refine q_nm (fun x3 e_x3 => ?_)
        have e_x3 : x3 = (I_t 2) rule.toNatClampNeg := e_x3
        have g_x3 : x3.toInt = ((I_t 2) rule.toNatClampNeg).toInt := congrArg _ e_x3
        have f_x3 := TI.lc hT rule.toNatClampNeg
        rw [← e_x3] at f_x3
        refine r_iadd hx hb dX4_staysTrue_56 rfl rfl (fun x4 e_x4 t_x4 => ?_)
        try have t_x4 := t_x4 (by omega)
        refine lv_istore (lv' := [(4, .int x4), (5, .int v5_11), (0, .ref (a_w 0)), (1, .int rule), (2, .ref (a_t 0)), (3, .int depth)]) hx hb dX4_staysTrue_57 hl (by decide) rfl (fun ls hl => ?_)
        refine lv_aload_n hx hb dX4_staysTrue_59 rfl (lv_at hl 2 rfl) ?_
        refine va_get (D := g.1) (ci := 4) (v := .ref (a_w 6)) (C := RX4) (T := TX4) (N := 11) hx hb hi_X4 (fun _ h => h) hown hK.1 hP 0 rfl rfl 8 (by decide) hf_37 (fun _ h9 => h9) rfl dX4_staysTrue_60 ?_
        refine lv_iload_n hx hb dX4_staysTrue_63 rfl (lv_at hl 5 rfl) ?_
        refine lv_iconst (v := 1) hx hb dX4_staysTrue_64 (by decide) ?_
        refine r_iadd hx hb dX4_staysTrue_65 rfl (by decide : (1 : Int32).toInt = 1) (fun x5 e_x5 t_x5 => ?_)
        try have t_x5 := t_x5 (by omega)
        refine lv_iload hx hb dX4_staysTrue_66 (lv_at hl 0 rfl) ?_
        have n_68 : vp_in x5 21 := (t_in (by omega))
        obtain ⟨f6, e_f6⟩ : ∃ z, z = upd (I_w_11 6) x5.toNatClampNeg x4 := ⟨_, rfl⟩
        refine va_iast hx hb hK.1 hP hD hS 6 0 rfl rfl n_68 dX4_staysTrue_68 (fun H locs hP hD hS => ?_)
        have hP : va_P g.1 vwCl (wX4 g a_w (uR I_w_11 6 f6) ++ wX7 g a_t I_t) H := by rw [e_f6]; exact hP
        have hD : va_D A (wX4 g a_w (uR I_w_11 6 f6) ++ wX7 g a_t I_t) := by rw [e_f6]; exact hD
        refine lv_aload_n hx hb dX4_staysTrue_69 rfl (lv_at hl 2 rfl) ?_
        refine va_get (D := g.1) (ci := 4) (v := .ref (a_w 7)) (C := RX4) (T := TX4) (N := 11) hx hb hi_X4 (fun _ h => h) hown hK.1 hP 0 rfl rfl 9 (by decide) hf_40 (fun _ h9 => h9) rfl dX4_staysTrue_70 ?_
        refine lv_iload_n hx hb dX4_staysTrue_73 rfl (lv_at hl 5 rfl) ?_
        refine lv_iconst (v := 1) hx hb dX4_staysTrue_74 (by decide) ?_
        refine r_iadd hx hb dX4_staysTrue_75 rfl (by decide : (1 : Int32).toInt = 1) (fun x7 e_x7 t_x7 => ?_)
        try have t_x7 := t_x7 (by omega)
        refine lv_aload_n hx hb dX4_staysTrue_76 rfl (lv_at hl 2 rfl) ?_
        refine va_get (D := g.1) (ci := 4) (v := .ref (a_w 7)) (C := RX4) (T := TX4) (N := 11) hx hb hi_X4 (fun _ h => h) hown hK.1 hP 0 rfl rfl 9 (by decide) hf_40 (fun _ h9 => h9) rfl dX4_staysTrue_77 ?_
        refine lv_iload_n hx hb dX4_staysTrue_80 rfl (lv_at hl 5 rfl) ?_
        have n_81 : vp_in depth 21 := (t_in (by omega))
        refine va_iald hx hb hK.1 hP 7 0 rfl rfl n_81 dX4_staysTrue_81 ?_
        refine q_nm (fun x8 e_x8 => ?_)
        have e_x8 : x8 = (I_w_11 7) depth.toNatClampNeg := e_x8
        have g_x8 : x8.toInt = ((I_w_11 7) depth.toNatClampNeg).toInt := congrArg _ e_x8
        rw [hr7] at e_x8 g_x8
        have n_82 : vp_in x7 21 := (t_in (by omega))
        obtain ⟨f9, e_f9⟩ : ∃ z, z = upd (I_w_11 7) x7.toNatClampNeg x8 := ⟨_, rfl⟩
        refine va_iast hx hb hK.1 hP hD hS 7 0 rfl rfl n_82 dX4_staysTrue_82 (fun H locs hP hD hS => ?_)
        have hP : va_P g.1 vwCl (wX4 g a_w (uR (uR I_w_11 6 f6) 7 f9) ++ wX7 g a_t I_t) H := by rw [e_f9]; exact hP
        have hD : va_D A (wX4 g a_w (uR (uR I_w_11 6 f6) 7 f9) ++ wX7 g a_t I_t) := by rw [e_f9]; exact hD
        refine lv_aload_n hx hb dX4_staysTrue_83 rfl (lv_at hl 2 rfl) ?_
        refine va_get (D := g.1) (ci := 4) (v := .ref (a_w 8)) (C := RX4) (T := TX4) (N := 11) hx hb hi_X4 (fun _ h => h) hown hK.1 hP 0 rfl rfl 10 (by decide) hf_43 (fun _ h9 => h9) rfl dX4_staysTrue_84 ?_
        refine lv_iload_n hx hb dX4_staysTrue_87 rfl (lv_at hl 5 rfl) ?_
        refine lv_iconst (v := 1) hx hb dX4_staysTrue_88 (by decide) ?_
        refine r_iadd hx hb dX4_staysTrue_89 rfl (by decide : (1 : Int32).toInt = 1) (fun x10 e_x10 t_x10 => ?_)
        try have t_x10 := t_x10 (by omega)
        refine lv_aload_n hx hb dX4_staysTrue_90 rfl (lv_at hl 2 rfl) ?_
        refine va_get (D := g.1) (ci := 4) (v := .ref (a_w 8)) (C := RX4) (T := TX4) (N := 11) hx hb hi_X4 (fun _ h => h) hown hK.1 hP 0 rfl rfl 10 (by decide) hf_43 (fun _ h9 => h9) rfl dX4_staysTrue_91 ?_
        refine lv_iload_n hx hb dX4_staysTrue_94 rfl (lv_at hl 5 rfl) ?_
        have n_95 : vp_in depth 21 := (t_in (by omega))
        refine va_iald hx hb hK.1 hP 8 0 rfl rfl n_95 dX4_staysTrue_95 ?_
        refine q_nm (fun x11 e_x11 => ?_)
        have e_x11 : x11 = (I_w_11 8) depth.toNatClampNeg := e_x11
        have g_x11 : x11.toInt = ((I_w_11 8) depth.toNatClampNeg).toInt := congrArg _ e_x11
        rw [hr8] at e_x11 g_x11
        have n_96 : vp_in x10 21 := (t_in (by omega))
        obtain ⟨f12, e_f12⟩ : ∃ z, z = upd (I_w_11 8) x10.toNatClampNeg x11 := ⟨_, rfl⟩
        refine va_iast hx hb hK.1 hP hD hS 8 0 rfl rfl n_96 dX4_staysTrue_96 (fun H locs hP hD hS => ?_)
        have hP : va_P g.1 vwCl (wX4 g a_w (uR (uR (uR I_w_11 6 f6) 7 f9) 8 f12) ++ wX7 g a_t I_t) H := by rw [e_f12]; exact hP
        have hD : va_D A (wX4 g a_w (uR (uR (uR I_w_11 6 f6) 7 f9) 8 f12) ++ wX7 g a_t I_t) := by rw [e_f12]; exact hD
        have y96 : (x3).toInt = (I_t 2 rule.toInt.toNat).toInt := g_x3
        have dx65 : (x5).toNatClampNeg = depth.toInt.toNat + 1 := (by show (x5).toInt.toNat = _; omega)
        have dx75 : (x7).toNatClampNeg = depth.toInt.toNat + 1 := (by show (x7).toInt.toNat = _; omega)
        have dx89 : (x10).toNatClampNeg = depth.toInt.toNat + 1 := (by show (x10).toInt.toNat = _; omega)
        have q96a : (f6 (depth.toInt.toNat + 1)).toInt = (I_w 6 depth.toInt.toNat).toInt + (I_t 2 rule.toInt.toNat).toInt := (congrArg Int32.toInt ((congrFun e_f6 _).trans (upd_at dx65.symm))).trans (by have y2 : (I_t 2 rule.toNatClampNeg).toInt = (I_t 2 rule.toInt.toNat).toInt := rfl; omega)
        have q96b : f9 (depth.toInt.toNat + 1) = I_w 7 depth.toInt.toNat := (congrFun e_f9 _).trans ((upd_at dx75.symm).trans e_x8)
        have q96c : f12 (depth.toInt.toNat + 1) = I_w 8 depth.toInt.toNat := (congrFun e_f12 _).trans ((upd_at dx89.symm).trans e_x11)
        have q96d : tDp I_w (uR (uR (uR I_w_11 6 f6) 7 f9) 8 f12) (depth.toInt.toNat + 1) := ⟨fun k hk => ⟨(by show f6 k = _; rw [e_f6, pk_un (by rw [dx65]; omega), hr6]), (by show f9 k = _; rw [e_f9, pk_un (by rw [dx75]; omega), hr7]), (by show f12 k = _; rw [e_f12, pk_un (by rw [dx89]; omega), hr8])⟩, fun _ j hj => hla_11 j hj⟩
        have hc_96 : RI (uR (uR (uR I_w_11 6 f6) 7 f9) 8 f12) := RI.st (d := depth.toInt + 1) (hR.but hs_11 (by omega)) rfl e_f6 e_f9 e_f12 (by omega) (by omega) (by omega) (by omega) (by omega) (by omega) (by omega) (by omega)
        refine lv_aload_n hx hb dX4_staysTrue_97 rfl (lv_at hl 2 rfl) ?_
        refine lv_aload_n hx hb dX4_staysTrue_98 rfl (lv_at hl 4 rfl) ?_
        refine lv_iload_n hx hb dX4_staysTrue_99 rfl (lv_at hl 5 rfl) ?_
        refine lv_iconst (v := 1) hx hb dX4_staysTrue_100 (by decide) ?_
        refine r_iadd hx hb dX4_staysTrue_101 rfl (by decide : (1 : Int32).toInt = 1) (fun x13 e_x13 t_x13 => ?_)
        try have t_x13 := t_x13 (by omega)
        refine lv_iload hx hb dX4_staysTrue_102 (lv_at hl 0 rfl) ?_
        refine lv_bipush (v := 6) hx hb dX4_staysTrue_104 (by decide) ?_
        refine r_isub hx hb dX4_staysTrue_106 rfl (by decide : (6 : Int32).toInt = 6) (fun x14 e_x14 t_x14 => ?_)
        try have t_x14 := t_x14 (by omega)
        refine EffI.cv (wr := ([])) (w' := fun u16 => wX4 g a_w u16 ++ wX7 g a_t I_t) (As := [.ref (a_t 0), .int x13, .int x14]) (kX4_setText l g a_w (uR (uR (uR I_w_11 6 f6) 7 f9) 8 f12) a_t I_t x13 x14 hT hc_96 (by omega) (by show _ ≤ (f6 _).toInt; rw [e_f6, upd_at (congrArg Int32.toNatClampNeg (t_inj (by omega)))]; omega)) fx (gUV (uT _) u_1410 u_1411 u_1412 u_49 u_1413) rfl hdX4_setText ⟨Nat.le_of_ble_eq_true rfl, Nat.le_of_ble_eq_true rfl⟩ hK hP hD hS hA [0, 1, 2, 3, 4, 5, 6, 7, 8, 9, 10, 11, 12, 13, 14, 15] [] [0, 1, 2, 3, 4, 5, 6, 7, 8, 9, 10, 11, 12, 13, 14, 15] rfl rfl rfl rfl (by decide) rfl (fun _ => rfl) rfl rfl rfl rfl hl.1 (Nat.le_of_ble_eq_true rfl) dX4_staysTrue_107 (fun r15 u16 H locs p_r15 hP hD hS => ?_)
        have hP : va_P g.1 vwCl (wX4 g a_w u16 ++ wX7 g a_t I_t) H := hP
        have hD : va_D A (wX4 g a_w u16 ++ wX7 g a_t I_t) := hD
        have h107 := p_r15
        rw [show (x13).toInt.toNat = depth.toInt.toNat + 1 from (by omega)] at h107
        refine hret 110 ls r15 _ _ u16 dX4_staysTrue_110 p_r15.1 hS hP hD ?_
        exact ⟨p_r15.1, p_r15.2.1, p_r15.2.2.1.trans (hs_11 0 (by decide)), frT.tr ⟨hs_11 1 (by decide), hs_11 2 (by decide), hs_11 3 (by decide), hs_11 4 (by decide)⟩ p_r15.2.2.2.1, q96d.fr h107.2.2.2.2.1, (by rw [h107.2.2.2.2.1.2.1]; show _ ≤ (f6 (depth.toInt.toNat + 1)).toInt; have y := hT.lc rule.toInt.toNat; omega), fun a q hr rs i => tI.st (w1 := uR (uR (uR I_w_11 6 f6) 7 f9) 8 f12) (R := rule.toInt) hT a q (by omega) hr i (hs_11 0 (by decide)) (hs_11 2 (by decide)) q96a q96b q96c hla_11 (fun k hk => hlb_11 k (by have y : (x2).toInt = (I_t 2 rule.toInt.toNat).toInt := g_x2; omega)) (show (x14).toInt = (f6 (depth.toInt.toNat + 1)).toInt - 6 from (by omega)) h107.2.2.1 h107.2.2.2.1.2.1 h107.2.2.2.2.1 h107.2.2.2.2.2⟩
      · refine lv_aload_n hx hb dX4_staysTrue_22 rfl (lv_at hl 2 rfl) ?_
        refine va_get (D := g.1) (ci := 4) (v := .ref (a_w 5)) (C := RX4) (T := TX4) (N := 11) hx hb hi_X4 (fun _ h => h) hown hK.1 hP 0 rfl rfl 7 (by decide) hf_34 (fun _ h9 => h9) rfl dX4_staysTrue_23 ?_
        refine lv_iload hx hb dX4_staysTrue_26 (lv_at hl 1 rfl) ?_
        refine lv_iload hx hb dX4_staysTrue_28 (lv_at hl 0 rfl) ?_
        refine r_iadd hx hb dX4_staysTrue_30 rfl rfl (fun x17 e_x17 t_x17 => ?_)
        try have t_x17 := t_x17 (by omega)
        refine lv_bipush (v := 96) hx hb dX4_staysTrue_31 (by decide) ?_
        refine lv_aload_n hx hb dX4_staysTrue_33 rfl (lv_at hl 4 rfl) ?_
        refine lv_iload_n hx hb dX4_staysTrue_34 rfl (lv_at hl 3 rfl) ?_
        refine lv_iload hx hb dX4_staysTrue_35 (lv_at hl 0 rfl) ?_
        refine PurI.cv (As := [.int rule, .int v5_11]) (kX7_letterAt l g a_t I_t rule v5_11 (by omega) (by omega) hT) fx (gUV (uT _) u_1424 u_480 u_481 u_31 u_482) rfl hdX7_letterAt ⟨Nat.le_of_ble_eq_true rfl, Nat.le_of_ble_eq_true rfl⟩ hK hP [9, 10, 11, 12, 13, 14, 15] rfl rfl rfl rfl rfl hl.1 (Nat.le_of_ble_eq_true rfl) dX4_staysTrue_37 (fun r18 p_r18 => ?_)
        refine r_iadd hx hb dX4_staysTrue_40 (by decide : (96 : Int32).toInt = 96) rfl (fun x19 e_x19 t_x19 => ?_)
        try have t_x19 := t_x19 (by omega)
        have n_41 : vp_in x17 120 := (t_in (by omega))
        obtain ⟨f20, e_f20⟩ : ∃ z, z = upd (I_w_11 5) x17.toNatClampNeg x19 := ⟨_, rfl⟩
        refine va_iast hx hb hK.1 hP hD hS 5 0 rfl rfl n_41 dX4_staysTrue_41 (fun H locs hP hD hS => ?_)
        have hP : va_P g.1 vwCl (wX4 g a_w (uR I_w_11 5 f20) ++ wX7 g a_t I_t) H := by rw [e_f20]; exact hP
        have hD : va_D A (wX4 g a_w (uR I_w_11 5 f20) ++ wX7 g a_t I_t) := by rw [e_f20]; exact hD
        refine r_iinc (lv' := fun i21 => [(5, .int i21), (4, .int x1), (0, .ref (a_w 0)), (1, .int rule), (2, .ref (a_t 0)), (3, .int depth)]) hx hb dX4_staysTrue_42 hl (k := 0) rfl (by decide) rfl (by decide) (fun _ => rfl) (fun i21 e_i21 t_i21 ls hl => ?_)
        try have t_i21 := t_i21 (by omega)
        refine lv_goto (tgt := 11) hx hb dX4_staysTrue_45 (by decide) ?_
        exact ih_11 i21 (uR I_w_11 5 f20) (by omega) hs_11.up (fun j hj => by show f20 j = _; rw [e_f20, pk_un (by show j ≠ (x17).toInt.toNat; omega)]; exact hla_11 j hj) (fun k hk => by show (f20 ((I_w 6 depth.toInt.toNat).toInt.toNat + k)).toInt = _; rw [e_f20]; by_cases z : (I_w 6 depth.toInt.toNat).toInt.toNat + k = (x17).toNatClampNeg; (have z2 : (I_w 6 depth.toInt.toNat).toInt.toNat + k = (x17).toInt.toNat := z; rw [upd_at z, show 6 * rule.toInt.toNat + k = (rule.toInt * 6 + v5_11.toInt).toNat from (by omega), ← p_r18.1]; omega); (have z2 : ¬ (I_w 6 depth.toInt.toNat).toInt.toNat + k = (x17).toInt.toNat := z; rw [pk_un z]; exact hlb_11 k (by omega))) (by omega) _ _ hP hD hS ls hl
  exact L11 ((7 - (0 : Int32).toInt) + 1).toNat (0 : Int32) I_w (by omega) (butC.rf _ _) (fun _ _ => rfl) (fun k q => by rw [lm0] at q; exfalso; omega) (by omega) _ _ hP hD hS ls hl

set_option maxHeartbeats 4000000 in
set_option maxRecDepth 100000 in
theorem kX4_endsTrue (l : Launch) (g : gG) (a_w : Nat → Nat) (I_w : Nat → Nat → Int32) (a_t : Nat → Nat) (I_t : Nat → Nat → Int32) (depth : Int32) (hT : TI I_t) (hR : RI I_w) (h_d : 0 ≤ depth.toInt ∧ depth.toInt ≤ 20) : EffI l g yX4_endsTrue wsX4_endsTrue 4 [.ref (a_w 0), .ref (a_t 0), .int depth] (wX4 g a_w I_w ++ wX7 g a_t I_t) (fun (u : (Nat → Nat → Int32)) => wX4 g a_w u ++ wX7 g a_t I_t) (fun r (u : (Nat → Nat → Int32)) => (r = 0 ∨ r = 1) ∧ RI (u) ∧ (u) 0 = I_w 0 ∧ frT I_w (u) ∧ tFr I_w (u) depth.toInt.toNat ∧ (HL1 I_t → pqL I_t → ∀ rs, tI I_t I_w depth.toInt.toNat rs → (r.toInt = 1 ∧ tTr (fxTc I_t) (I_t 0 1) (tRw I_w) rs) ∨ (r.toInt = 0 ∧ ¬ tTr (fxTc I_t) (I_t 0 1) (tRw I_w) rs))) := by
  refine EffI.sz (cc := cX4_endsTrue) (maxL := 3) (by decide) rfl (Nat.le_of_ble_eq_true rfl) (fun p e s m args below meth c A Q ls fx hK hP hD hA hS hl hret => ?_)
  have hx := fx.1
  have hb := fx.2.1
  have hml := fx.2.2.1
  have hown := fx.2.2.2.1
  have hts := fx.2.2.2.2
  have hl : lv_has ls 3 [(0, .ref (a_w 0)), (1, .ref (a_t 0)), (2, .int depth)] := hl
  have hP : va_P g.1 vwCl (wX4 g a_w I_w ++ wX7 g a_t I_t) s.heap := hP
  have hf_28 := hts _ (uT _ _ u_138)
  have hf_37 := hts _ (uT _ _ u_141)
  have hf_43 := hts _ (uT _ _ u_143)
  have hi_X4 : ∀ w ∈ wsX40, w.before args s = true := fun w h => hts w (uT _ w (u_wsX40 w h))
  have lm1 : (-1 : Int32).toInt = -1 := by decide
  have lm0 : (0 : Int32).toInt = 0 := by decide
  have lm2 : (1 : Int32).toInt = 1 := by decide
  have hmnw := RI.mn hR
  refine lv_aload_n hx hb dX4_endsTrue_0 rfl (lv_at hl 0 rfl) ?_
  refine lv_aload_n hx hb dX4_endsTrue_1 rfl (lv_at hl 1 rfl) ?_
  refine lv_iload_n hx hb dX4_endsTrue_2 rfl (lv_at hl 2 rfl) ?_
  refine lv_aload_n hx hb dX4_endsTrue_3 rfl (lv_at hl 0 rfl) ?_
  refine va_get (D := g.1) (ci := 4) (v := .ref (a_w 6)) (C := RX4) (T := TX4) (N := 11) hx hb hi_X4 (fun _ h => h) hown hK.1 hP 0 rfl rfl 8 (by decide) hf_37 (fun _ h9 => h9) rfl dX4_endsTrue_4 ?_
  refine lv_iload_n hx hb dX4_endsTrue_7 rfl (lv_at hl 2 rfl) ?_
  have n_8 : vp_in depth 21 := (t_in (by omega))
  refine va_iald hx hb hK.1 hP 6 0 rfl rfl n_8 dX4_endsTrue_8 ?_
  refine q_nm (fun x1 e_x1 => ?_)
  have e_x1 : x1 = (I_w 6) depth.toNatClampNeg := e_x1
  have g_x1 : x1.toInt = ((I_w 6) depth.toNatClampNeg).toInt := congrArg _ e_x1
  refine EffI.cv (wr := ([])) (w' := fun u3 => wX4 g a_w u3 ++ wX7 g a_t I_t) (As := [.ref (a_t 0), .int depth, .int x1]) (kX4_setText l g a_w I_w a_t I_t depth x1 hT hR (by omega) (by omega)) fx (gUV (uT _) u_1410 u_1411 u_1412 u_49 u_1413) rfl hdX4_setText ⟨Nat.le_of_ble_eq_true rfl, Nat.le_of_ble_eq_true rfl⟩ hK hP hD hS hA [0, 1, 2, 3, 4, 5, 6, 7, 8, 9, 10, 11, 12, 13, 14, 15] [] [0, 1, 2, 3, 4, 5, 6, 7, 8, 9, 10, 11, 12, 13, 14, 15] rfl rfl rfl rfl (by decide) rfl (fun _ => rfl) rfl rfl rfl rfl hl.1 (Nat.le_of_ble_eq_true rfl) dX4_endsTrue_9 (fun r2 u3 H locs p_r2 hP hD hS => ?_)
  have hP : va_P g.1 vwCl (wX4 g a_w u3 ++ wX7 g a_t I_t) H := hP
  have hD : va_D A (wX4 g a_w u3 ++ wX7 g a_t I_t) := hD
  have h9 := p_r2
  refine q_if_eq (tgt := 32) hx hb dX4_endsTrue_12 (by decide) rfl (fun b_12 k_12 => ?_) (fun b_12 k_12 => ?_)
  · refine lv_iconst (v := 0) hx hb dX4_endsTrue_32 (by decide) ?_
    refine hret 33 ls (0 : Int32) _ _ u3 dX4_endsTrue_33 (Or.inl rfl) hS hP hD ?_
    exact ⟨by first | exact Or.inl rfl | exact Or.inr rfl, h9.2.1, h9.2.2.1, h9.2.2.2.1, h9.2.2.2.2.1, fun a q rs i => (by first | (rw [lm2]; rcases tI.en hT a q hmnw.1 i g_x1 h9.2.2.2.2.1 h9.2.2.2.2.2 with ⟨s1, s2⟩ | ⟨s1, s2⟩; (exact Or.inl ⟨rfl, s2.1 (by omega)⟩); (exfalso; omega)) | (rw [lm0]; rcases tI.en hT a q hmnw.1 i g_x1 h9.2.2.2.2.1 h9.2.2.2.2.2 with ⟨s1, s2⟩ | ⟨s1, s2⟩; (exact Or.inr ⟨rfl, fun z => by have y := s2.2 z; omega⟩); (exfalso; omega)) | (rw [lm0]; rcases tI.en hT a q hmnw.1 i g_x1 h9.2.2.2.2.1 h9.2.2.2.2.2 with ⟨s1, s2⟩ | ⟨s1, s2⟩; (exfalso; omega); (exact Or.inr ⟨rfl, s2⟩)))⟩
  · refine lv_aload_n hx hb dX4_endsTrue_15 rfl (lv_at hl 0 rfl) ?_
    refine va_get (D := g.1) (ci := 4) (v := .ref (a_w 8)) (C := RX4) (T := TX4) (N := 11) hx hb hi_X4 (fun _ h => h) hown hK.1 hP 0 rfl rfl 10 (by decide) hf_43 (fun _ h9 => h9) rfl dX4_endsTrue_16 ?_
    refine lv_iload_n hx hb dX4_endsTrue_19 rfl (lv_at hl 2 rfl) ?_
    have n_20 : vp_in depth 21 := (t_in (by omega))
    refine va_iald hx hb hK.1 hP 8 0 rfl rfl n_20 dX4_endsTrue_20 ?_
    refine q_nm (fun x4 e_x4 => ?_)
    have e_x4 : x4 = (u3 8) depth.toNatClampNeg := e_x4
    have g_x4 : x4.toInt = ((u3 8) depth.toNatClampNeg).toInt := congrArg _ e_x4
    have y20 : (x4).toInt = (u3 8 depth.toInt.toNat).toInt := g_x4
    have z20 : (u3 0 5).toInt = (I_w 0 5).toInt := by rw [h9.2.2.1]
    refine lv_aload_n hx hb dX4_endsTrue_21 rfl (lv_at hl 0 rfl) ?_
    refine va_get (D := g.1) (ci := 4) (v := .int (u3 0 5)) (C := RX4) (T := TX4) (N := 11) hx hb hi_X4 (fun _ h => h) hown hK.1 hP 0 rfl rfl 5 (by decide) hf_28 (fun _ h9 => h9) rfl dX4_endsTrue_22 ?_
    refine q_icmp_ne (tgt := 32) hx hb dX4_endsTrue_25 (by decide) rfl rfl (fun k_25 => ?_) (fun k_25 => ?_)
    · refine lv_iconst (v := 0) hx hb dX4_endsTrue_32 (by decide) ?_
      refine hret 33 ls (0 : Int32) _ _ u3 dX4_endsTrue_33 (Or.inl rfl) hS hP hD ?_
      exact ⟨by first | exact Or.inl rfl | exact Or.inr rfl, h9.2.1, h9.2.2.1, h9.2.2.2.1, h9.2.2.2.2.1, fun a q rs i => (by first | (rw [lm2]; rcases tI.en hT a q hmnw.1 i g_x1 h9.2.2.2.2.1 h9.2.2.2.2.2 with ⟨s1, s2⟩ | ⟨s1, s2⟩; (exact Or.inl ⟨rfl, s2.1 (by omega)⟩); (exfalso; omega)) | (rw [lm0]; rcases tI.en hT a q hmnw.1 i g_x1 h9.2.2.2.2.1 h9.2.2.2.2.2 with ⟨s1, s2⟩ | ⟨s1, s2⟩; (exact Or.inr ⟨rfl, fun z => by have y := s2.2 z; omega⟩); (exfalso; omega)) | (rw [lm0]; rcases tI.en hT a q hmnw.1 i g_x1 h9.2.2.2.2.1 h9.2.2.2.2.2 with ⟨s1, s2⟩ | ⟨s1, s2⟩; (exfalso; omega); (exact Or.inr ⟨rfl, s2⟩)))⟩
    · refine lv_iconst (v := 1) hx hb dX4_endsTrue_28 (by decide) ?_
      refine lv_goto (tgt := 33) hx hb dX4_endsTrue_29 (by decide) ?_
      have lr : (1 : Int32).toInt = 1 := by decide
      refine hret 33 ls (1 : Int32) _ _ u3 dX4_endsTrue_33 (Or.inr rfl) hS hP hD ?_
      exact ⟨by first | exact Or.inl rfl | exact Or.inr rfl, h9.2.1, h9.2.2.1, h9.2.2.2.1, h9.2.2.2.2.1, fun a q rs i => (by first | (rw [lm2]; rcases tI.en hT a q hmnw.1 i g_x1 h9.2.2.2.2.1 h9.2.2.2.2.2 with ⟨s1, s2⟩ | ⟨s1, s2⟩; (exact Or.inl ⟨rfl, s2.1 (by omega)⟩); (exfalso; omega)) | (rw [lm0]; rcases tI.en hT a q hmnw.1 i g_x1 h9.2.2.2.2.1 h9.2.2.2.2.2 with ⟨s1, s2⟩ | ⟨s1, s2⟩; (exact Or.inr ⟨rfl, fun z => by have y := s2.2 z; omega⟩); (exfalso; omega)) | (rw [lm0]; rcases tI.en hT a q hmnw.1 i g_x1 h9.2.2.2.2.1 h9.2.2.2.2.2 with ⟨s1, s2⟩ | ⟨s1, s2⟩; (exfalso; omega); (exact Or.inr ⟨rfl, s2⟩)))⟩

set_option maxHeartbeats 4000000 in
set_option maxRecDepth 100000 in
theorem kX4_trueFrom_rec (l : Launch) (g : gG) : ∀ (nr : Nat) (a_w : Nat → Nat) (I_w : Nat → Nat → Int32) (a_t : Nat → Nat) (I_t : Nat → Nat → Int32) (depth : Int32) (ia : Int32) (hT : TI I_t) (hR : RI I_w) (h_d : 0 ≤ depth.toInt ∧ depth.toInt ≤ 20) (h_at : 0 ≤ ia.toInt ∧ ia.toInt ≤ 20), (20 - depth.toInt < (nr : Int)) → EffI l g yX4_trueFrom wsX4_trueFrom (5 + nr) [.ref (a_w 0), .ref (a_t 0), .int depth, .int ia] (wX4 g a_w I_w ++ wX7 g a_t I_t) (fun (u : (Nat → Nat → Int32)) => wX4 g a_w u ++ wX7 g a_t I_t) (fun r (u : (Nat → Nat → Int32)) => RI (u) ∧ (u) 0 = I_w 0 ∧ frT I_w (u) ∧ ((0 < depth.toInt.toNat → (I_w 6 (depth.toInt.toNat - 1)).toInt ≤ (I_w 6 depth.toInt.toNat).toInt) → tDp I_w (u) depth.toInt.toNat) ∧ (ia.toInt < (I_w 0 5).toInt → depth.toInt < 20 → tDp I_w (u) (depth.toInt.toNat + 1)) ∧ tFm I_t I_w depth.toInt.toNat ia.toInt.toNat r.toInt) := by
  intro nr
  induction nr with
  | zero => intro a_w I_w a_t I_t depth ia hT hR h_d h_at hrec; exfalso; omega
  | succ nr ihr =>
  intro a_w I_w a_t I_t depth ia hT hR h_d h_at hrec
  refine EffI.st (cc := cX4_trueFrom) (maxL := 6) (by decide) rfl (Nat.le_of_ble_eq_true rfl) (fun p e s m args below meth c A Q ls fx hK hP hD hA hS hl hret => ?_)
  have hx := fx.1
  have hb := fx.2.1
  have hml := fx.2.2.1
  have hown := fx.2.2.2.1
  have hts := fx.2.2.2.2
  have hl : lv_has ls 6 [(0, .ref (a_w 0)), (1, .ref (a_t 0)), (2, .int depth), (3, .int ia)] := hl
  have hP : va_P g.1 vwCl (wX4 g a_w I_w ++ wX7 g a_t I_t) s.heap := hP
  have hf_28 := hts _ (uT _ _ u_138)
  have hf_46 := hts _ (uT _ _ u_1322)
  have hf_56 := hts _ (uT _ _ u_1324)
  have hi_X4 : ∀ w ∈ wsX40, w.before args s = true := fun w h => hts w (uT _ w (u_wsX40 w h))
  have hi_X7 : ∀ w ∈ wsX70, w.before args s = true := fun w h => hts w (uT _ w (u_wsX70 w h))
  have lm1 : (-1 : Int32).toInt = -1 := by decide
  have lm0 : (0 : Int32).toInt = 0 := by decide
  have lm2 : (1 : Int32).toInt = 1 := by decide
  have hru := TI.ru hT
  have hfm := RI.fm hR
  have hmn := RI.mn hR
  refine lv_iload_n hx hb dX4_trueFrom_0 rfl (lv_at hl 3 rfl) ?_
  refine lv_aload_n hx hb dX4_trueFrom_1 rfl (lv_at hl 0 rfl) ?_
  refine va_get (D := g.1) (ci := 4) (v := .int (I_w 0 5)) (C := RX4) (T := TX4) (N := 11) hx hb hi_X4 (fun _ h => h) hown hK.1 hP 0 rfl rfl 5 (by decide) hf_28 (fun _ h9 => h9) rfl dX4_trueFrom_2 ?_
  refine q_icmp_ge (tgt := 14) hx hb dX4_trueFrom_5 (by decide) rfl rfl (fun k_5 => ?_) (fun k_5 => ?_)
  · refine lv_iload_n hx hb dX4_trueFrom_14 rfl (lv_at hl 3 rfl) ?_
    refine lv_aload_n hx hb dX4_trueFrom_15 rfl (lv_at hl 0 rfl) ?_
    refine va_get (D := g.1) (ci := 4) (v := .int (I_w 0 5)) (C := RX4) (T := TX4) (N := 11) hx hb hi_X4 (fun _ h => h) hown hK.1 hP 0 rfl rfl 5 (by decide) hf_28 (fun _ h9 => h9) rfl dX4_trueFrom_16 ?_
    refine q_icmp_ne (tgt := 35) hx hb dX4_trueFrom_19 (by decide) rfl rfl (fun k_19 => ?_) (fun k_19 => ?_)
    · refine lv_iconst (v := 0) hx hb dX4_trueFrom_35 (by decide) ?_
      refine hret 36 ls (0 : Int32) _ _ I_w dX4_trueFrom_36 hS hP hD ?_
      exact (by first | exact ⟨h25.2.1, h25.2.2.1, h25.2.2.2.1, fun _ => tDp.rf.fr h25.2.2.2.2.1, fun z1 z2 => (by exfalso; omega), fun a b c x y rs i l => (by first | (exfalso; omega) | (rw [tQ.at (by omega)]; rcases h25.2.2.2.2.2 a c rs i with ⟨s1, s2⟩ | ⟨s1, s2⟩; (rw [lm2, pI.t s2]); (exfalso; omega)) | (rw [tQ.at (by omega)]; rcases h25.2.2.2.2.2 a c rs i with ⟨s1, s2⟩ | ⟨s1, s2⟩; (exfalso; omega); (rw [lm0, pI.f s2])))⟩ | exact ⟨hR, rfl, frT.rf I_w, fun _ => tDp.rf, fun _ _ => tDp.rf, fun a b c x y rs i l => (by first | (exfalso; omega) | (rw [tQ.at (by omega)]; rcases h25.2.2.2.2.2 a c rs i with ⟨s1, s2⟩ | ⟨s1, s2⟩; (rw [lm2, pI.t s2]); (exfalso; omega)) | (rw [tQ.at (by omega)]; rcases h25.2.2.2.2.2 a c rs i with ⟨s1, s2⟩ | ⟨s1, s2⟩; (exfalso; omega); (rw [lm0, pI.f s2])))⟩)
    · refine lv_aload_n hx hb dX4_trueFrom_22 rfl (lv_at hl 0 rfl) ?_
      refine lv_aload_n hx hb dX4_trueFrom_23 rfl (lv_at hl 1 rfl) ?_
      refine lv_iload_n hx hb dX4_trueFrom_24 rfl (lv_at hl 2 rfl) ?_
      refine EffI.cv (wr := ([])) (w' := fun u2 => wX4 g a_w u2 ++ wX7 g a_t I_t) (As := [.ref (a_t 0), .int depth]) (kX4_endsTrue l g a_w I_w a_t I_t depth hT hR (by omega)) fx (gUV (uT _) u_1406 u_1407 u_1408 u_49 u_1409) rfl hdX4_endsTrue (by constructor <;> (show _ ≤ _; simp only [rm]; omega)) hK hP hD hS hA [0, 1, 2, 3, 4, 5, 6, 7, 8, 9, 10, 11, 12, 13, 14, 15] [] [0, 1, 2, 3, 4, 5, 6, 7, 8, 9, 10, 11, 12, 13, 14, 15] rfl rfl rfl rfl (by decide) rfl (fun _ => rfl) rfl rfl rfl rfl hl.1 (Nat.le_of_ble_eq_true rfl) dX4_trueFrom_25 (fun r1 u2 H locs p_r1 hP hD hS => ?_)
      have hP : va_P g.1 vwCl (wX4 g a_w u2 ++ wX7 g a_t I_t) H := hP
      have hD : va_D A (wX4 g a_w u2 ++ wX7 g a_t I_t) := hD
      have h25 := p_r1
      refine q_if_eq (tgt := 35) hx hb dX4_trueFrom_28 (by decide) rfl (fun b_28 k_28 => ?_) (fun b_28 k_28 => ?_)
      · refine lv_iconst (v := 0) hx hb dX4_trueFrom_35 (by decide) ?_
        refine hret 36 ls (0 : Int32) _ _ u2 dX4_trueFrom_36 hS hP hD ?_
        exact (by first | exact ⟨h25.2.1, h25.2.2.1, h25.2.2.2.1, fun _ => tDp.rf.fr h25.2.2.2.2.1, fun z1 z2 => (by exfalso; omega), fun a b c x y rs i l => (by first | (exfalso; omega) | (rw [tQ.at (by omega)]; rcases h25.2.2.2.2.2 a c rs i with ⟨s1, s2⟩ | ⟨s1, s2⟩; (rw [lm2, pI.t s2]); (exfalso; omega)) | (rw [tQ.at (by omega)]; rcases h25.2.2.2.2.2 a c rs i with ⟨s1, s2⟩ | ⟨s1, s2⟩; (exfalso; omega); (rw [lm0, pI.f s2])))⟩ | exact ⟨hR, rfl, frT.rf I_w, fun _ => tDp.rf, fun _ _ => tDp.rf, fun a b c x y rs i l => (by first | (exfalso; omega) | (rw [tQ.at (by omega)]; rcases h25.2.2.2.2.2 a c rs i with ⟨s1, s2⟩ | ⟨s1, s2⟩; (rw [lm2, pI.t s2]); (exfalso; omega)) | (rw [tQ.at (by omega)]; rcases h25.2.2.2.2.2 a c rs i with ⟨s1, s2⟩ | ⟨s1, s2⟩; (exfalso; omega); (rw [lm0, pI.f s2])))⟩)
      · refine lv_iconst (v := 1) hx hb dX4_trueFrom_31 (by decide) ?_
        refine lv_goto (tgt := 36) hx hb dX4_trueFrom_32 (by decide) ?_
        have lr : (1 : Int32).toInt = 1 := by decide
        refine hret 36 ls (1 : Int32) _ _ u2 dX4_trueFrom_36 hS hP hD ?_
        exact (by first | exact ⟨h25.2.1, h25.2.2.1, h25.2.2.2.1, fun _ => tDp.rf.fr h25.2.2.2.2.1, fun z1 z2 => (by exfalso; omega), fun a b c x y rs i l => (by first | (exfalso; omega) | (rw [tQ.at (by omega)]; rcases h25.2.2.2.2.2 a c rs i with ⟨s1, s2⟩ | ⟨s1, s2⟩; (rw [lm2, pI.t s2]); (exfalso; omega)) | (rw [tQ.at (by omega)]; rcases h25.2.2.2.2.2 a c rs i with ⟨s1, s2⟩ | ⟨s1, s2⟩; (exfalso; omega); (rw [lm0, pI.f s2])))⟩ | exact ⟨hR, rfl, frT.rf I_w, fun _ => tDp.rf, fun _ _ => tDp.rf, fun a b c x y rs i l => (by first | (exfalso; omega) | (rw [tQ.at (by omega)]; rcases h25.2.2.2.2.2 a c rs i with ⟨s1, s2⟩ | ⟨s1, s2⟩; (rw [lm2, pI.t s2]); (exfalso; omega)) | (rw [tQ.at (by omega)]; rcases h25.2.2.2.2.2 a c rs i with ⟨s1, s2⟩ | ⟨s1, s2⟩; (exfalso; omega); (rw [lm0, pI.f s2])))⟩)
  · refine lv_iload_n hx hb dX4_trueFrom_8 rfl (lv_at hl 2 rfl) ?_
    refine lv_bipush (v := 20) hx hb dX4_trueFrom_9 (by decide) ?_
    refine q_icmp_lt (tgt := 37) hx hb dX4_trueFrom_11 (by decide) rfl (by decide : (20 : Int32).toInt = 20) (fun k_11 => ?_) (fun k_11 => ?_)
    · refine lv_iconst (v := 0) hx hb dX4_trueFrom_37 (by decide) ?_
      refine lv_istore (lv' := [(4, .int (0 : Int32)), (0, .ref (a_w 0)), (1, .ref (a_t 0)), (2, .int depth), (3, .int ia)]) hx hb dX4_trueFrom_38 hl (by decide) rfl (fun ls hl => ?_)
      refine lv_iconst (v := 0) hx hb dX4_trueFrom_40 (by decide) ?_
      refine lv_istore (lv' := [(5, .int (0 : Int32)), (4, .int (0 : Int32)), (0, .ref (a_w 0)), (1, .ref (a_t 0)), (2, .int depth), (3, .int ia)]) hx hb dX4_trueFrom_41 hl (by decide) rfl (fun ls hl => ?_)
      have L43 : ∀ (nn : Nat) (v4_43 : Int32) (v5_43 : Int32) (I_w_43 : Nat → Nat → Int32), (hv_43 : 0 ≤ v5_43.toInt ∧ v5_43.toInt ≤ 24) → (hR_43 : RI I_w_43) → (hs_43 : I_w_43 0 = I_w 0) → (ht_43 : frT I_w I_w_43) → (hu_43 : v5_43.toInt ≤ (I_t 0 0).toInt) → (hdp_43 : tDp I_w I_w_43 (depth.toInt.toNat + 1)) → (hC_43 : tFd I_t I_w depth.toInt.toNat ia.toInt.toNat v5_43.toInt.toNat v4_43.toInt) → ((25 - v5_43.toInt) < (nn : Int)) → ∀ (H : Heap) (locs : List Loc), va_P g.1 vwCl (wX4 g a_w I_w_43 ++ wX7 g a_t I_t) H → va_D A (wX4 g a_w I_w_43 ++ wX7 g a_t I_t) → va_S A s.heap H locs → ∀ ls : Array Slot, lv_has ls 6 [(5, .int v5_43), (4, .int v4_43), (0, .ref (a_w 0)), (1, .ref (a_t 0)), (2, .int depth), (3, .int ia)] → W p l e (rm (5 + (nr + 1))) s m args below meth c H locs 0 0 Q (F0 m 43 ls []) := by
        intro n_43
        induction n_43 with
        | zero =>
          intro v4_43 v5_43 I_w_43 hv_43 hR_43 hs_43 ht_43 hu_43 hdp_43 hC_43 hms_43 H locs hP hD hS ls hl
          exfalso; omega
        | succ n_43 ih_43 =>
          intro v4_43 v5_43 I_w_43 hv_43 hR_43 hs_43 ht_43 hu_43 hdp_43 hC_43 hms_43 H locs hP hD hS ls hl
          have hmm : (I_w_43 0 5).toInt = (I_w 0 5).toInt := by rw [hs_43]
          refine lv_iload hx hb dX4_trueFrom_43 (lv_at hl 0 rfl) ?_
          refine lv_aload_n hx hb dX4_trueFrom_45 rfl (lv_at hl 3 rfl) ?_
          refine va_get (D := g.1) (ci := 7) (v := .int (I_t 0 0)) (C := RX7) (T := TX7) (N := 8) hx hb hi_X7 (fun _ h => h) hown hK.1 hP 9 rfl rfl 0 (by decide) hf_46 (fun _ h9 => h9) rfl dX4_trueFrom_46 ?_
          refine q_icmp_ge (tgt := 102) hx hb dX4_trueFrom_49 (by decide) rfl rfl (fun k_49 => ?_) (fun k_49 => ?_)
          · refine lv_iload hx hb dX4_trueFrom_102 (lv_at hl 1 rfl) ?_
            refine hret 104 ls v4_43 _ _ I_w_43 dX4_trueFrom_104 hS hP hD ?_
            exact ⟨hR_43, hs_43, ht_43, fun z => hdp_43.dn z, fun _ _ => hdp_43, hC_43.out (by omega) (by omega)⟩
          · refine lv_aload_n hx hb dX4_trueFrom_52 rfl (lv_at hl 2 rfl) ?_
            refine lv_iload hx hb dX4_trueFrom_53 (lv_at hl 0 rfl) ?_
            refine lv_iload_n hx hb dX4_trueFrom_55 rfl (lv_at hl 5 rfl) ?_
            refine lv_aload_n hx hb dX4_trueFrom_56 rfl (lv_at hl 3 rfl) ?_
            refine PurI.cv (As := [.int v5_43, .int ia, .ref (a_t 0)]) (kX4_goesOn l g a_w I_w_43 a_t I_t v5_43 ia (by omega) hT hR_43 (by omega)) fx (gUV (uT _) u_1326 u_1327 u_1328 u_49 u_1329) rfl hdX4_goesOn (by constructor <;> (show _ ≤ _; simp only [rm]; omega)) hK hP [0, 1, 2, 3, 4, 5, 6, 7, 8, 9, 10, 11, 12, 13, 14, 15] rfl rfl rfl rfl rfl hl.1 (Nat.le_of_ble_eq_true rfl) dX4_trueFrom_57 (fun r3 p_r3 => ?_)
            refine q_if_eq (tgt := 96) hx hb dX4_trueFrom_60 (by decide) rfl (fun b_60 k_60 => ?_) (fun b_60 k_60 => ?_)
            · have q_60 := bP.f p_r3 b_60
              refine r_iinc (lv' := fun i4 => [(5, .int i4), (4, .int v4_43), (0, .ref (a_w 0)), (1, .ref (a_t 0)), (2, .int depth), (3, .int ia)]) hx hb dX4_trueFrom_96 hl (k := 0) rfl (by decide) rfl (by decide) (fun _ => rfl) (fun i4 e_i4 t_i4 ls hl => ?_)
              try have t_i4 := t_i4 (by omega)
              refine lv_goto (tgt := 43) hx hb dX4_trueFrom_99 (by decide) ?_
              exact ih_43 v4_43 i4 I_w_43 (by omega) hR_43 (by exact hs_43) (by exact ht_43) (by omega) (by first | exact (hdp_43.tr h68.2.2.2.2.1).tr n90 | exact hdp_43.tr h68.2.2.2.2.1 | exact hdp_43) (by first | exact (tFd.no hC_43 (by omega) (fun rs a b c i o => by rcases h68.2.2.2.2.2.2 a c (by omega) rs (tI.kp hdp_43 ht_43.2.1 hs_43 i) with ⟨s1, s2⟩ | ⟨s1, s2⟩; (exfalso; omega); (exact tK.no (fun x => by have y := s2 x; rw [tRw.of ht_43.2.1 (by rw [hs_43])] at y; exact y)))) | exact (tFd.no hC_43 (by omega) (fun rs _ _ _ _ o => absurd ((gC.cg hs_43 ht_43.2.1 ht_43.2.2.1 ht_43.2.2.2).2 o) q_60))) (by omega) _ _ hP hD hS ls hl
            · have q_60 := bP.t p_r3 b_60
              refine lv_aload_n hx hb dX4_trueFrom_63 rfl (lv_at hl 2 rfl) ?_
              refine lv_iload hx hb dX4_trueFrom_64 (lv_at hl 0 rfl) ?_
              refine lv_aload_n hx hb dX4_trueFrom_66 rfl (lv_at hl 3 rfl) ?_
              refine lv_iload_n hx hb dX4_trueFrom_67 rfl (lv_at hl 4 rfl) ?_
              refine EffI.cv (wr := ([])) (w' := fun u6 => wX4 g a_w u6 ++ wX7 g a_t I_t) (As := [.int v5_43, .ref (a_t 0), .int depth]) (kX4_staysTrue l g a_w I_w_43 a_t I_t v5_43 depth (by omega) hT hR_43 (by omega)) fx (gUV (uT _) u_1420 u_1421 u_1422 u_49 u_1423) rfl hdX4_staysTrue (by constructor <;> (show _ ≤ _; simp only [rm]; omega)) hK hP hD hS hA [0, 1, 2, 3, 4, 5, 6, 7, 8, 9, 10, 11, 12, 13, 14, 15] [] [0, 1, 2, 3, 4, 5, 6, 7, 8, 9, 10, 11, 12, 13, 14, 15] rfl rfl rfl rfl (by decide) rfl (fun _ => rfl) rfl rfl rfl rfl hl.1 (Nat.le_of_ble_eq_true rfl) dX4_trueFrom_68 (fun r5 u6 H locs p_r5 hP hD hS => ?_)
              have hP : va_P g.1 vwCl (wX4 g a_w u6 ++ wX7 g a_t I_t) H := hP
              have hD : va_D A (wX4 g a_w u6 ++ wX7 g a_t I_t) := hD
              have h68 := p_r5
              refine q_if_eq (tgt := 96) hx hb dX4_trueFrom_71 (by decide) rfl (fun b_71 k_71 => ?_) (fun b_71 k_71 => ?_)
              · refine r_iinc (lv' := fun i7 => [(5, .int i7), (4, .int v4_43), (0, .ref (a_w 0)), (1, .ref (a_t 0)), (2, .int depth), (3, .int ia)]) hx hb dX4_trueFrom_96 hl (k := 0) rfl (by decide) rfl (by decide) (fun _ => rfl) (fun i7 e_i7 t_i7 ls hl => ?_)
                try have t_i7 := t_i7 (by omega)
                refine lv_goto (tgt := 43) hx hb dX4_trueFrom_99 (by decide) ?_
                exact ih_43 v4_43 i7 u6 (by omega) p_r5.2.1 (by first | exact p_r5.2.2.1.trans hs_43 | exact hs_43) (by first | exact ht_43.tr p_r5.2.2.2.1 | exact ht_43) (by omega) (by first | exact (hdp_43.tr h68.2.2.2.2.1).tr n90 | exact hdp_43.tr h68.2.2.2.2.1 | exact hdp_43) (by first | exact (tFd.no hC_43 (by omega) (fun rs a b c i o => by rcases h68.2.2.2.2.2.2 a c (by omega) rs (tI.kp hdp_43 ht_43.2.1 hs_43 i) with ⟨s1, s2⟩ | ⟨s1, s2⟩; (exfalso; omega); (exact tK.no (fun x => by have y := s2 x; rw [tRw.of ht_43.2.1 (by rw [hs_43])] at y; exact y)))) | exact (tFd.no hC_43 (by omega) (fun rs _ _ _ _ o => absurd ((gC.cg hs_43 ht_43.2.1 ht_43.2.2.1 ht_43.2.2.2).2 o) q_60))) (by omega) _ _ hP hD hS ls hl
              · refine lv_iload hx hb dX4_trueFrom_74 (lv_at hl 1 rfl) ?_
                refine lv_aload_n hx hb dX4_trueFrom_76 rfl (lv_at hl 2 rfl) ?_
                refine lv_aload_n hx hb dX4_trueFrom_77 rfl (lv_at hl 3 rfl) ?_
                refine lv_iload_n hx hb dX4_trueFrom_78 rfl (lv_at hl 4 rfl) ?_
                refine lv_iconst (v := 1) hx hb dX4_trueFrom_79 (by decide) ?_
                refine r_iadd hx hb dX4_trueFrom_80 rfl (by decide : (1 : Int32).toInt = 1) (fun x8 e_x8 t_x8 => ?_)
                try have t_x8 := t_x8 (by omega)
                refine lv_iload_n hx hb dX4_trueFrom_81 rfl (lv_at hl 5 rfl) ?_
                refine lv_aload_n hx hb dX4_trueFrom_82 rfl (lv_at hl 3 rfl) ?_
                refine va_get (D := g.1) (ci := 7) (v := .ref (a_t 3)) (C := RX7) (T := TX7) (N := 8) hx hb hi_X7 (fun _ h => h) hown hK.1 hP 9 rfl rfl 4 (by decide) hf_56 (fun _ h9 => h9) rfl dX4_trueFrom_83 ?_
                refine lv_iload hx hb dX4_trueFrom_86 (lv_at hl 0 rfl) ?_
                have n_88 : vp_in v5_43 24 := (t_in (by omega))
                refine va_iald hx hb hK.1 hP 12 0 rfl rfl n_88 dX4_trueFrom_88 ?_
                refine q_nm (fun x9 e_x9 => ?_)
                have e_x9 : x9 = (I_t 3) v5_43.toNatClampNeg := e_x9
                have g_x9 : x9.toInt = ((I_t 3) v5_43.toNatClampNeg).toInt := congrArg _ e_x9
                have f_x9 := TI.cc hT v5_43.toNatClampNeg
                rw [← e_x9] at f_x9
                refine r_iadd hx hb dX4_trueFrom_89 rfl rfl (fun x10 e_x10 t_x10 => ?_)
                try have t_x10 := t_x10 (by omega)
                refine EffI.cs (C := RX4) (wr := ([])) (w' := fun u12 => wX4 g a_w u12 ++ wX7 g a_t I_t) (As := [.ref (a_w 0), .ref (a_t 0), .int x8, .int x10]) (ihr a_w u6 a_t I_t x8 x10 hT p_r5.2.1 (by omega) (by omega) (by omega)) fx (gUS (uT _) u_1403 u_1404 u_49 u_1405) rfl hdX4_trueFrom (by constructor <;> (show _ ≤ _; simp only [rm]; omega)) hK hP hD hS hA [0, 1, 2, 3, 4, 5, 6, 7, 8, 9, 10, 11, 12, 13, 14, 15] [] [0, 1, 2, 3, 4, 5, 6, 7, 8, 9, 10, 11, 12, 13, 14, 15] rfl rfl rfl rfl (by decide) rfl (fun _ => rfl) rfl rfl hl.1 (Nat.le_of_ble_eq_true rfl) dX4_trueFrom_90 (fun r11 u12 H locs p_r11 hP hD hS => ?_)
                have hP : va_P g.1 vwCl (wX4 g a_w u12 ++ wX7 g a_t I_t) H := hP
                have hD : va_D A (wX4 g a_w u12 ++ wX7 g a_t I_t) := hD
                have h90 := p_r11
                have dx79 : (x8).toInt.toNat = depth.toInt.toNat + 1 := (by omega)
                have dx89 : (x10).toInt.toNat = ia.toInt.toNat + cN I_t v5_43.toInt.toNat := (by show _ = _ + (I_t 3 v5_43.toInt.toNat).toInt.toNat; have y2 : (I_t 3 v5_43.toNatClampNeg).toInt = (I_t 3 v5_43.toInt.toNat).toInt := rfl; omega)
                have n90 := h90.2.2.2.1
                rw [dx79] at n90
                have n90 := n90 (fun _ => by have y := (h68.2.2.2.2.1.1 depth.toInt.toNat (by omega)).1; exact Int.le_trans (Int.le_of_eq (congrArg Int32.toInt y)) h68.2.2.2.2.2.1)
                refine r_iadd hx hb dX4_trueFrom_93 rfl rfl (fun x13 e_x13 t_x13 => ?_)
                try have t_x13 := t_x13 (by omega)
                refine lv_istore (lv' := [(4, .int x13), (5, .int v5_43), (0, .ref (a_w 0)), (1, .ref (a_t 0)), (2, .int depth), (3, .int ia)]) hx hb dX4_trueFrom_94 hl (by decide) rfl (fun ls hl => ?_)
                refine r_iinc (lv' := fun i14 => [(5, .int i14), (4, .int x13), (0, .ref (a_w 0)), (1, .ref (a_t 0)), (2, .int depth), (3, .int ia)]) hx hb dX4_trueFrom_96 hl (k := 1) rfl (by decide) rfl (by decide) (fun _ => rfl) (fun i14 e_i14 t_i14 ls hl => ?_)
                try have t_i14 := t_i14 (by omega)
                refine lv_goto (tgt := 43) hx hb dX4_trueFrom_99 (by decide) ?_
                exact ih_43 x13 i14 u12 (by omega) p_r11.1 (by first | exact p_r11.2.1.trans (p_r5.2.2.1.trans hs_43) | exact p_r5.2.2.1.trans hs_43 | exact hs_43) (by first | exact ht_43.tr (frT.tr p_r5.2.2.2.1 p_r11.2.2.1) | exact ht_43.tr p_r5.2.2.2.1 | exact ht_43) (by omega) (by first | exact (hdp_43.tr h68.2.2.2.2.1).tr n90 | exact hdp_43.tr h68.2.2.2.2.1 | exact hdp_43) (by first | exact (tFd.yes hC_43 (by omega) (by omega) ((gC.cg hs_43 ht_43.2.1 ht_43.2.2.1 ht_43.2.2.2).1 q_60.2) (fun z1 z2 z3 z4 => t_x13 (by omega)) (fun rs a b c i x l => by rcases h68.2.2.2.2.2.2 a c (by omega) rs (tI.kp hdp_43 ht_43.2.1 hs_43 i) with ⟨s1, s2⟩ | ⟨s1, s2⟩; rotate_left; (exfalso; omega); have y := h90.2.2.2.2.2 a b c; rw [dx79, dx89] at y; have y2 := y (by have := b v5_43.toInt.toNat (by omega); have e : cN I_t v5_43.toInt.toNat = (I_t 3 v5_43.toInt.toNat).toInt.toNat := rfl; omega) (by rw [(h68.2.2.1.trans hs_43)]; have o := ((gC.cg hs_43 ht_43.2.1 ht_43.2.2.1 ht_43.2.2.2).1 q_60.2); exact (gC.cn b _ _ (by omega) o).2) (rs ++ [v5_43.toInt.toNat]) s2; rw [tQ.cg (h68.2.2.1.trans hs_43) (h68.2.2.2.1.2.1.trans ht_43.2.1) (h68.2.2.2.1.2.2.1.trans ht_43.2.2.1) (h68.2.2.2.1.2.2.2.trans ht_43.2.2.2)] at y2; exact y2 l)) | exact (tFd.no hC_43 (by omega) (fun rs a b c i o => by rcases h68.2.2.2.2.2.2 a c (by omega) rs (tI.kp hdp_43 ht_43.2.1 hs_43 i) with ⟨s1, s2⟩ | ⟨s1, s2⟩; (exfalso; omega); (exact tK.no (fun x => by have y := s2 x; rw [tRw.of ht_43.2.1 (by rw [hs_43])] at y; exact y)))) | exact (tFd.no hC_43 (by omega) (fun rs _ _ _ _ o => absurd ((gC.cg hs_43 ht_43.2.1 ht_43.2.2.1 ht_43.2.2.2).2 o) q_60))) (by omega) _ _ hP hD hS ls hl
      exact L43 ((25 - (0 : Int32).toInt) + 1).toNat (0 : Int32) (0 : Int32) I_w (by omega) hR rfl (frT.rf I_w) (by omega) tDp.rf (tFd.in (by rw [lm0]; rfl) lm0) (by omega) _ _ hP hD hS ls hl
    · refine lv_iload_n hx hb dX4_trueFrom_14 rfl (lv_at hl 3 rfl) ?_
      refine lv_aload_n hx hb dX4_trueFrom_15 rfl (lv_at hl 0 rfl) ?_
      refine va_get (D := g.1) (ci := 4) (v := .int (I_w 0 5)) (C := RX4) (T := TX4) (N := 11) hx hb hi_X4 (fun _ h => h) hown hK.1 hP 0 rfl rfl 5 (by decide) hf_28 (fun _ h9 => h9) rfl dX4_trueFrom_16 ?_
      refine q_icmp_ne (tgt := 35) hx hb dX4_trueFrom_19 (by decide) rfl rfl (fun k_19 => ?_) (fun k_19 => ?_)
      · refine lv_iconst (v := 0) hx hb dX4_trueFrom_35 (by decide) ?_
        refine hret 36 ls (0 : Int32) _ _ I_w dX4_trueFrom_36 hS hP hD ?_
        exact (by first | exact ⟨h25.2.1, h25.2.2.1, h25.2.2.2.1, fun _ => tDp.rf.fr h25.2.2.2.2.1, fun z1 z2 => (by exfalso; omega), fun a b c x y rs i l => (by first | (exfalso; omega) | (rw [tQ.at (by omega)]; rcases h25.2.2.2.2.2 a c rs i with ⟨s1, s2⟩ | ⟨s1, s2⟩; (rw [lm2, pI.t s2]); (exfalso; omega)) | (rw [tQ.at (by omega)]; rcases h25.2.2.2.2.2 a c rs i with ⟨s1, s2⟩ | ⟨s1, s2⟩; (exfalso; omega); (rw [lm0, pI.f s2])))⟩ | exact ⟨hR, rfl, frT.rf I_w, fun _ => tDp.rf, fun _ _ => tDp.rf, fun a b c x y rs i l => (by first | (exfalso; omega) | (rw [tQ.at (by omega)]; rcases h25.2.2.2.2.2 a c rs i with ⟨s1, s2⟩ | ⟨s1, s2⟩; (rw [lm2, pI.t s2]); (exfalso; omega)) | (rw [tQ.at (by omega)]; rcases h25.2.2.2.2.2 a c rs i with ⟨s1, s2⟩ | ⟨s1, s2⟩; (exfalso; omega); (rw [lm0, pI.f s2])))⟩)
      · refine lv_aload_n hx hb dX4_trueFrom_22 rfl (lv_at hl 0 rfl) ?_
        refine lv_aload_n hx hb dX4_trueFrom_23 rfl (lv_at hl 1 rfl) ?_
        refine lv_iload_n hx hb dX4_trueFrom_24 rfl (lv_at hl 2 rfl) ?_
        refine EffI.cv (wr := ([])) (w' := fun u16 => wX4 g a_w u16 ++ wX7 g a_t I_t) (As := [.ref (a_t 0), .int depth]) (kX4_endsTrue l g a_w I_w a_t I_t depth hT hR (by omega)) fx (gUV (uT _) u_1406 u_1407 u_1408 u_49 u_1409) rfl hdX4_endsTrue (by constructor <;> (show _ ≤ _; simp only [rm]; omega)) hK hP hD hS hA [0, 1, 2, 3, 4, 5, 6, 7, 8, 9, 10, 11, 12, 13, 14, 15] [] [0, 1, 2, 3, 4, 5, 6, 7, 8, 9, 10, 11, 12, 13, 14, 15] rfl rfl rfl rfl (by decide) rfl (fun _ => rfl) rfl rfl rfl rfl hl.1 (Nat.le_of_ble_eq_true rfl) dX4_trueFrom_25 (fun r15 u16 H locs p_r15 hP hD hS => ?_)
        have hP : va_P g.1 vwCl (wX4 g a_w u16 ++ wX7 g a_t I_t) H := hP
        have hD : va_D A (wX4 g a_w u16 ++ wX7 g a_t I_t) := hD
        have h25 := p_r15
        refine q_if_eq (tgt := 35) hx hb dX4_trueFrom_28 (by decide) rfl (fun b_28 k_28 => ?_) (fun b_28 k_28 => ?_)
        · refine lv_iconst (v := 0) hx hb dX4_trueFrom_35 (by decide) ?_
          refine hret 36 ls (0 : Int32) _ _ u16 dX4_trueFrom_36 hS hP hD ?_
          exact (by first | exact ⟨h25.2.1, h25.2.2.1, h25.2.2.2.1, fun _ => tDp.rf.fr h25.2.2.2.2.1, fun z1 z2 => (by exfalso; omega), fun a b c x y rs i l => (by first | (exfalso; omega) | (rw [tQ.at (by omega)]; rcases h25.2.2.2.2.2 a c rs i with ⟨s1, s2⟩ | ⟨s1, s2⟩; (rw [lm2, pI.t s2]); (exfalso; omega)) | (rw [tQ.at (by omega)]; rcases h25.2.2.2.2.2 a c rs i with ⟨s1, s2⟩ | ⟨s1, s2⟩; (exfalso; omega); (rw [lm0, pI.f s2])))⟩ | exact ⟨hR, rfl, frT.rf I_w, fun _ => tDp.rf, fun _ _ => tDp.rf, fun a b c x y rs i l => (by first | (exfalso; omega) | (rw [tQ.at (by omega)]; rcases h25.2.2.2.2.2 a c rs i with ⟨s1, s2⟩ | ⟨s1, s2⟩; (rw [lm2, pI.t s2]); (exfalso; omega)) | (rw [tQ.at (by omega)]; rcases h25.2.2.2.2.2 a c rs i with ⟨s1, s2⟩ | ⟨s1, s2⟩; (exfalso; omega); (rw [lm0, pI.f s2])))⟩)
        · refine lv_iconst (v := 1) hx hb dX4_trueFrom_31 (by decide) ?_
          refine lv_goto (tgt := 36) hx hb dX4_trueFrom_32 (by decide) ?_
          have lr : (1 : Int32).toInt = 1 := by decide
          refine hret 36 ls (1 : Int32) _ _ u16 dX4_trueFrom_36 hS hP hD ?_
          exact (by first | exact ⟨h25.2.1, h25.2.2.1, h25.2.2.2.1, fun _ => tDp.rf.fr h25.2.2.2.2.1, fun z1 z2 => (by exfalso; omega), fun a b c x y rs i l => (by first | (exfalso; omega) | (rw [tQ.at (by omega)]; rcases h25.2.2.2.2.2 a c rs i with ⟨s1, s2⟩ | ⟨s1, s2⟩; (rw [lm2, pI.t s2]); (exfalso; omega)) | (rw [tQ.at (by omega)]; rcases h25.2.2.2.2.2 a c rs i with ⟨s1, s2⟩ | ⟨s1, s2⟩; (exfalso; omega); (rw [lm0, pI.f s2])))⟩ | exact ⟨hR, rfl, frT.rf I_w, fun _ => tDp.rf, fun _ _ => tDp.rf, fun a b c x y rs i l => (by first | (exfalso; omega) | (rw [tQ.at (by omega)]; rcases h25.2.2.2.2.2 a c rs i with ⟨s1, s2⟩ | ⟨s1, s2⟩; (rw [lm2, pI.t s2]); (exfalso; omega)) | (rw [tQ.at (by omega)]; rcases h25.2.2.2.2.2 a c rs i with ⟨s1, s2⟩ | ⟨s1, s2⟩; (exfalso; omega); (rw [lm0, pI.f s2])))⟩)
theorem kX4_trueFrom (l : Launch) (g : gG) (a_w : Nat → Nat) (I_w : Nat → Nat → Int32) (a_t : Nat → Nat) (I_t : Nat → Nat → Int32) (depth : Int32) (ia : Int32) (hT : TI I_t) (hR : RI I_w) (h_d : 0 ≤ depth.toInt ∧ depth.toInt ≤ 20) (h_at : 0 ≤ ia.toInt ∧ ia.toInt ≤ 20) : EffI l g yX4_trueFrom wsX4_trueFrom 26 [.ref (a_w 0), .ref (a_t 0), .int depth, .int ia] (wX4 g a_w I_w ++ wX7 g a_t I_t) (fun (u : (Nat → Nat → Int32)) => wX4 g a_w u ++ wX7 g a_t I_t) (fun r (u : (Nat → Nat → Int32)) => RI (u) ∧ (u) 0 = I_w 0 ∧ frT I_w (u) ∧ ((0 < depth.toInt.toNat → (I_w 6 (depth.toInt.toNat - 1)).toInt ≤ (I_w 6 depth.toInt.toNat).toInt) → tDp I_w (u) depth.toInt.toNat) ∧ (ia.toInt < (I_w 0 5).toInt → depth.toInt < 20 → tDp I_w (u) (depth.toInt.toNat + 1)) ∧ tFm I_t I_w depth.toInt.toNat ia.toInt.toNat r.toInt) := kX4_trueFrom_rec l g 21 a_w I_w a_t I_t depth ia hT hR h_d h_at (by omega)

set_option maxHeartbeats 4000000 in
set_option maxRecDepth 100000 in
theorem kX4_trueReadings (l : Launch) (g : gG) (a_w : Nat → Nat) (I_w : Nat → Nat → Int32) (a_t : Nat → Nat) (I_t : Nat → Nat → Int32) (hT : TI I_t) (hR : RI I_w) : EffI l g yX4_trueReadings wsX4_trueReadings 27 [.ref (a_w 0), .ref (a_t 0)] (wX4 g a_w I_w ++ wX7 g a_t I_t) (fun (u : (Nat → Nat → Int32)) => wX4 g a_w u ++ wX7 g a_t I_t) (fun r (u : (Nat → Nat → Int32)) => RI (u) ∧ (u) 0 = I_w 0 ∧ frT I_w (u) ∧ (0 < (I_w 0 5).toInt → tDp I_w (u) 1) ∧ tFm I_t I_w 0 0 r.toInt) := by
  refine EffI.st (cc := cX4_trueReadings) (maxL := 2) (by decide) rfl (Nat.le_of_ble_eq_true rfl) (fun p e s m args below meth c A Q ls fx hK hP hD hA hS hl hret => ?_)
  have hx := fx.1
  have hb := fx.2.1
  have hml := fx.2.2.1
  have hown := fx.2.2.2.1
  have hts := fx.2.2.2.2
  have hl : lv_has ls 2 [(0, .ref (a_w 0)), (1, .ref (a_t 0))] := hl
  have hP : va_P g.1 vwCl (wX4 g a_w I_w ++ wX7 g a_t I_t) s.heap := hP
  have lm1 : (-1 : Int32).toInt = -1 := by decide
  have lm0 : (0 : Int32).toInt = 0 := by decide
  have lm2 : (1 : Int32).toInt = 1 := by decide
  refine lv_aload_n hx hb dX4_trueReadings_0 rfl (lv_at hl 0 rfl) ?_
  refine lv_aload_n hx hb dX4_trueReadings_1 rfl (lv_at hl 1 rfl) ?_
  refine lv_iconst (v := 0) hx hb dX4_trueReadings_2 (by decide) ?_
  refine lv_iconst (v := 0) hx hb dX4_trueReadings_3 (by decide) ?_
  refine EffI.cs (C := RX4) (wr := ([])) (w' := fun u2 => wX4 g a_w u2 ++ wX7 g a_t I_t) (As := [.ref (a_w 0), .ref (a_t 0), .int (0 : Int32), .int (0 : Int32)]) (kX4_trueFrom l g a_w I_w a_t I_t (0 : Int32) (0 : Int32) hT hR (by omega) (by omega)) fx (gUS (uT _) u_1403 u_1404 u_49 u_1405) rfl hdX4_trueFrom ⟨Nat.le_of_ble_eq_true rfl, Nat.le_of_ble_eq_true rfl⟩ hK hP hD hS hA [0, 1, 2, 3, 4, 5, 6, 7, 8, 9, 10, 11, 12, 13, 14, 15] [] [0, 1, 2, 3, 4, 5, 6, 7, 8, 9, 10, 11, 12, 13, 14, 15] rfl rfl rfl rfl (by decide) rfl (fun _ => rfl) rfl rfl hl.1 (Nat.le_of_ble_eq_true rfl) dX4_trueReadings_4 (fun r1 u2 H locs p_r1 hP hD hS => ?_)
  have hP : va_P g.1 vwCl (wX4 g a_w u2 ++ wX7 g a_t I_t) H := hP
  have hD : va_D A (wX4 g a_w u2 ++ wX7 g a_t I_t) := hD
  refine hret 7 ls r1 _ _ u2 dX4_trueReadings_7 hS hP hD ?_
  exact (by have h9 := p_r1; rw [lm0] at h9; exact ⟨h9.1, h9.2.1, h9.2.2.1, fun z => h9.2.2.2.2.1 z (by decide), h9.2.2.2.2.2⟩)
