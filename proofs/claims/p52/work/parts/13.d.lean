
/-- what holds of the LINES -/
def LI (I : Nat → Nat → Int32) : Prop := (0 ≤ (I 0 2).toInt ∧ (I 0 2).toInt ≤ 150) ∧ (0 ≤ (I 0 6).toInt ∧ (I 0 6).toInt ≤ 550) ∧ (0 ≤ (I 0 7).toInt ∧ (I 0 7).toInt ≤ 40) ∧ (∀ j : Nat, 0 ≤ (I 3 j).toInt ∧ 0 ≤ (I 4 j).toInt ∧ (I 3 j).toInt + (I 4 j).toInt ≤ 1200) ∧ ∀ j : Nat, 0 ≤ (I 5 j).toInt ∧ (I 5 j).toInt ≤ 1
theorem LI.pc {I : Nat → Nat → Int32} (h : LI I) : 0 ≤ (I 0 2).toInt ∧ (I 0 2).toInt ≤ 150 := h.1
theorem LI.ln {I : Nat → Nat → Int32} (h : LI I) : 0 ≤ (I 0 6).toInt ∧ (I 0 6).toInt ≤ 550 := h.2.1
theorem LI.wd {I : Nat → Nat → Int32} (h : LI I) : 0 ≤ (I 0 7).toInt ∧ (I 0 7).toInt ≤ 40 := h.2.2.1
theorem LI.li {I : Nat → Nat → Int32} (h : LI I) (j : Nat) : 0 ≤ (I 3 j).toInt ∧ 0 ≤ (I 4 j).toInt ∧ (I 3 j).toInt + (I 4 j).toInt ≤ 1200 := h.2.2.2.1 j
theorem LI.hy {I : Nat → Nat → Int32} (h : LI I) (j : Nat) : 0 ≤ (I 5 j).toInt ∧ (I 5 j).toInt ≤ 1 := h.2.2.2.2 j
/-- the last LINE ends no later than at a CELL -/
def LE2 (I : Nat → Nat → Int32) (n : Int) : Prop := (I 0 6).toInt = 0 ∨ (I 3 ((I 0 6).toInt - 1).toNat).toInt + (I 4 ((I 0 6).toInt - 1).toNat).toInt ≤ n
theorem LE2.new {I I' : Nat → Nat → Int32} {x y : Int32} (h6 : (I' 0 6).toInt = (I 0 6).toInt + 1) (e3 : I' 3 = upd (I 3) (I 0 6).toNatClampNeg x) (e4 : I' 4 = upd (I 4) (I 0 6).toNatClampNeg y) : LE2 I' (x.toInt + y.toInt) := by
  refine Or.inr ?_
  have e : ((I' 0 6).toInt - 1).toNat = (I 0 6).toNatClampNeg := by show _ = (I 0 6).toInt.toNat; rw [h6]; congr 1; omega
  rw [e, e3, e4]
  simp [upd]
theorem LE2.mono {I : Nat → Nat → Int32} {a b : Int} (h : LE2 I a) (hab : a ≤ b) : LE2 I b := h.elim Or.inl (fun q => Or.inr (Int.le_trans q hab))
theorem LE2.of {I I' : Nat → Nat → Int32} {a : Int} (h : LE2 I a) (e0 : I' 0 6 = I 0 6) (e3 : I' 3 = I 3) (e4 : I' 4 = I 4) : LE2 I' a := by unfold LE2 at *; rw [e0, e3, e4]; exact h
theorem LI.of {I I' : Nat → Nat → Int32} (h : LI I) (h2 : 0 ≤ (I' 0 2).toInt ∧ (I' 0 2).toInt ≤ 150) (h6 : I' 0 6 = I 0 6) (h7 : I' 0 7 = I 0 7) (e3 : I' 3 = I 3) (e4 : I' 4 = I 4) (e5 : I' 5 = I 5) : LI I' := by
  obtain ⟨a, b, c, d, e⟩ := h
  exact ⟨h2, by rw [h6]; exact b, by rw [h7]; exact c, by rw [e3, e4]; exact d, by rw [e5]; exact e⟩
theorem upd_at {f : Nat → Int32} {k j : Nat} {x : Int32} (h : j = k) : upd f k x j = x := by subst h; simp [upd]
theorem upd_s (f : Nat → Int32) (k : Nat) (x : Int32) : upd f k x k = x := by simp [upd]
theorem LI.add {I I' : Nat → Nat → Int32} {i : Nat} {x y z : Int32} (h : LI I) (h6 : 0 ≤ (I' 0 6).toInt ∧ (I' 0 6).toInt ≤ 550) (h2 : I' 0 2 = I 0 2) (h7 : I' 0 7 = I 0 7) (e3 : I' 3 = upd (I 3) i x) (e4 : I' 4 = upd (I 4) i y) (e5 : I' 5 = upd (I 5) i z) (hx : 0 ≤ x.toInt ∧ 0 ≤ y.toInt ∧ x.toInt + y.toInt ≤ 1200) (hz : 0 ≤ z.toInt ∧ z.toInt ≤ 1) : LI I' := by
  obtain ⟨a, b, c, d, e⟩ := h
  refine ⟨by rw [h2]; exact a, h6, by rw [h7]; exact c, fun j => ?_, by rw [e5]; exact upd_all (P := fun z => 0 ≤ z.toInt ∧ z.toInt ≤ 1) e hz⟩
  rw [e3, e4]
  by_cases hj : j = i
  · subst hj; rw [upd_s, upd_s]; exact hx
  · rw [pk_un hj, pk_un hj]; exact d j
theorem LI.gr {I I' : Nat → Nat → Int32} {i : Nat} {y : Int32} (h : LI I) (h6 : I' 0 6 = I 0 6) (h2 : 0 ≤ (I' 0 2).toInt ∧ (I' 0 2).toInt ≤ 150) (h7 : I' 0 7 = I 0 7) (e3 : I' 3 = I 3) (e4 : I' 4 = upd (I 4) i y) (e5 : I' 5 = I 5) (hx : 0 ≤ y.toInt ∧ (I 3 i).toInt + y.toInt ≤ 1200) : LI I' := by
  obtain ⟨a, b, c, d, e⟩ := h
  refine ⟨h2, by rw [h6]; exact b, by rw [h7]; exact c, fun j => ?_, by rw [e5]; exact e⟩
  rw [e3, e4]
  by_cases hj : j = i
  · subst hj; rw [upd_s]; exact ⟨(d j).1, hx⟩
  · rw [pk_un hj]; exact d j
theorem lp_join {I I' : Nat → Nat → Int32} {i : Nat} {y : Int32} {n m w : Int} (h : LI I) (he : LE2 I n) (e4 : I' 4 = upd (I 4) i y) (h6 : I' 0 6 = I 0 6) (h2 : 0 ≤ (I' 0 2).toInt ∧ (I' 0 2).toInt ≤ 150) (h7 : I' 0 7 = I 0 7) (e3 : I' 3 = I 3) (e5 : I' 5 = I 5) (hi : i = ((I 0 6).toInt - 1).toNat) (hl : 1 ≤ (I 0 6).toInt) (hy : y.toInt = (I 4 i).toInt + 1 + w ∧ 0 ≤ w) (hm : n + 1 + w = m ∧ m ≤ 1200) : LI I' ∧ LE2 I' m := by
  have hq : (I 3 i).toInt + (I 4 i).toInt ≤ n := by
    rcases he with q | q
    · omega
    · rw [hi]; exact q
  have hr := LI.li h i
  refine ⟨LI.gr h h6 h2 h7 e3 e4 e5 (by omega), Or.inr ?_⟩
  rw [h6, ← hi, e3, e4, upd_s]
  omega
theorem LI.lay0 {I I' : Nat → Nat → Int32} (h : LI I) (h2 : (I' 0 2).toInt = 0) (h6 : (I' 0 6).toInt = 0) (h7 : 0 ≤ (I' 0 7).toInt ∧ (I' 0 7).toInt ≤ 40) (e3 : I' 3 = I 3) (e4 : I' 4 = I 4) (e5 : I' 5 = I 5) : LI I' := by
  obtain ⟨a, b, c, d, e⟩ := h
  exact ⟨by omega, by omega, h7, by rw [e3, e4]; exact d, by rw [e5]; exact e⟩
set_option maxHeartbeats 4000000 in
set_option maxRecDepth 100000 in
theorem kX1_addLine (l : Launch) (g : gG) (a_y : Nat → Nat) (I_y : Nat → Nat → Int32) (fr : Int32) (many : Int32) (hy : Int32) (hL : LI I_y) (h_f : 0 ≤ fr.toInt ∧ 0 ≤ many.toInt ∧ fr.toInt + many.toInt ≤ 1200 ∧ 0 ≤ hy.toInt ∧ hy.toInt ≤ 1) : EffV l g yX1_addLine wsX1_addLine 0 [.ref (a_y 0), .int fr, .int many, .int hy] (wX1 g a_y I_y) (fun (u : (Nat → Nat → Int32)) => wX1 g a_y u) (fun (u : (Nat → Nat → Int32)) => LI (u) ∧ sameB 6 6 I_y (u) ∧ (LE2 I_y fr.toInt → LE2 (u) (fr.toInt + many.toInt))) := by
  refine EffV.st (cc := cX1_addLine) (maxL := 4) (by decide) rfl (Nat.le_of_ble_eq_true rfl) (fun p e s m args below meth c A Q ls fx hK hP hD hA hS hl hret => ?_)
  have hx := fx.1
  have hb := fx.2.1
  have hml := fx.2.2.1
  have hown := fx.2.2.2.1
  have hts := fx.2.2.2.2
  have hl : lv_has ls 4 [(0, .ref (a_y 0)), (1, .int fr), (2, .int many), (3, .int hy)] := hl
  have hP : va_P g.1 vwCl (wX1 g a_y I_y) s.heap := hP
  have hf_22 := hts _ (uT _ _ u_124)
  have hf_25 := hts _ (uT _ _ u_125)
  have hf_28 := hts _ (uT _ _ u_126)
  have hf_31 := hts _ (uT _ _ u_127)
  have hi_X1 : ∀ w ∈ wsX10, w.before args s = true := fun w h => hts w (uT _ w (u_wsX10 w h))
  have lm1 : (-1 : Int32).toInt = -1 := by decide
  have lm0 : (0 : Int32).toInt = 0 := by decide
  have lm2 : (1 : Int32).toInt = 1 := by decide
  have hpc := LI.pc hL
  have hln := LI.ln hL
  have hwd := LI.wd hL
  refine lv_aload_n hx hb dX1_addLine_0 rfl (lv_at hl 0 rfl) ?_
  refine va_get (D := g.1) (ci := 1) (v := .int (I_y 0 6)) (C := RX1) (T := TX1) (N := 9) hx hb hi_X1 (fun _ h => h) hown hK.1 hP 0 rfl rfl 6 (by decide) hf_31 (fun _ h9 => h9) rfl dX1_addLine_1 ?_
  refine lv_sipush (v := 550) hx hb dX1_addLine_4 (by decide) ?_
  refine q_icmp_ge (tgt := 50) hx hb dX1_addLine_7 (by decide) rfl (by decide : (550 : Int32).toInt = 550) (fun k_7 => ?_) (fun k_7 => ?_)
  · refine hret 50 ls _ _ I_y dX1_addLine_50 hS hP hD ?_
    exact (by exact ⟨hL, sameB.rf _ _ _, fun h => h.mono (by omega)⟩)
  · refine lv_aload_n hx hb dX1_addLine_10 rfl (lv_at hl 0 rfl) ?_
    refine va_get (D := g.1) (ci := 1) (v := .ref (a_y 3)) (C := RX1) (T := TX1) (N := 9) hx hb hi_X1 (fun _ h => h) hown hK.1 hP 0 rfl rfl 3 (by decide) hf_22 (fun _ h9 => h9) rfl dX1_addLine_11 ?_
    refine lv_aload_n hx hb dX1_addLine_14 rfl (lv_at hl 0 rfl) ?_
    refine va_get (D := g.1) (ci := 1) (v := .int (I_y 0 6)) (C := RX1) (T := TX1) (N := 9) hx hb hi_X1 (fun _ h => h) hown hK.1 hP 0 rfl rfl 6 (by decide) hf_31 (fun _ h9 => h9) rfl dX1_addLine_15 ?_
    refine lv_iload_n hx hb dX1_addLine_18 rfl (lv_at hl 1 rfl) ?_
    have n_19 : vp_in (I_y 0 6) 550 := (t_in (by omega))
    obtain ⟨f1, e_f1⟩ : ∃ z, z = upd (I_y 3) (I_y 0 6).toNatClampNeg fr := ⟨_, rfl⟩
    refine va_iast hx hb hK.1 hP hD hS 3 0 rfl rfl n_19 dX1_addLine_19 (fun H locs hP hD hS => ?_)
    have hP : va_P g.1 vwCl (wX1 g a_y (uR I_y 3 f1)) H := by rw [e_f1]; exact hP
    have hD : va_D A (wX1 g a_y (uR I_y 3 f1)) := by rw [e_f1]; exact hD
    refine lv_aload_n hx hb dX1_addLine_20 rfl (lv_at hl 0 rfl) ?_
    refine va_get (D := g.1) (ci := 1) (v := .ref (a_y 4)) (C := RX1) (T := TX1) (N := 9) hx hb hi_X1 (fun _ h => h) hown hK.1 hP 0 rfl rfl 4 (by decide) hf_25 (fun _ h9 => h9) rfl dX1_addLine_21 ?_
    refine lv_aload_n hx hb dX1_addLine_24 rfl (lv_at hl 0 rfl) ?_
    refine va_get (D := g.1) (ci := 1) (v := .int (I_y 0 6)) (C := RX1) (T := TX1) (N := 9) hx hb hi_X1 (fun _ h => h) hown hK.1 hP 0 rfl rfl 6 (by decide) hf_31 (fun _ h9 => h9) rfl dX1_addLine_25 ?_
    refine lv_iload_n hx hb dX1_addLine_28 rfl (lv_at hl 2 rfl) ?_
    have n_29 : vp_in (I_y 0 6) 550 := (t_in (by omega))
    obtain ⟨f2, e_f2⟩ : ∃ z, z = upd (I_y 4) (I_y 0 6).toNatClampNeg many := ⟨_, rfl⟩
    refine va_iast hx hb hK.1 hP hD hS 4 0 rfl rfl n_29 dX1_addLine_29 (fun H locs hP hD hS => ?_)
    have hP : va_P g.1 vwCl (wX1 g a_y (uR (uR I_y 3 f1) 4 f2)) H := by rw [e_f2]; exact hP
    have hD : va_D A (wX1 g a_y (uR (uR I_y 3 f1) 4 f2)) := by rw [e_f2]; exact hD
    refine lv_aload_n hx hb dX1_addLine_30 rfl (lv_at hl 0 rfl) ?_
    refine va_get (D := g.1) (ci := 1) (v := .ref (a_y 5)) (C := RX1) (T := TX1) (N := 9) hx hb hi_X1 (fun _ h => h) hown hK.1 hP 0 rfl rfl 5 (by decide) hf_28 (fun _ h9 => h9) rfl dX1_addLine_31 ?_
    refine lv_aload_n hx hb dX1_addLine_34 rfl (lv_at hl 0 rfl) ?_
    refine va_get (D := g.1) (ci := 1) (v := .int (I_y 0 6)) (C := RX1) (T := TX1) (N := 9) hx hb hi_X1 (fun _ h => h) hown hK.1 hP 0 rfl rfl 6 (by decide) hf_31 (fun _ h9 => h9) rfl dX1_addLine_35 ?_
    refine lv_iload_n hx hb dX1_addLine_38 rfl (lv_at hl 3 rfl) ?_
    have n_39 : vp_in (I_y 0 6) 550 := (t_in (by omega))
    obtain ⟨f3, e_f3⟩ : ∃ z, z = upd (I_y 5) (I_y 0 6).toNatClampNeg hy := ⟨_, rfl⟩
    refine va_iast hx hb hK.1 hP hD hS 5 0 rfl rfl n_39 dX1_addLine_39 (fun H locs hP hD hS => ?_)
    have hP : va_P g.1 vwCl (wX1 g a_y (uR (uR (uR I_y 3 f1) 4 f2) 5 f3)) H := by rw [e_f3]; exact hP
    have hD : va_D A (wX1 g a_y (uR (uR (uR I_y 3 f1) 4 f2) 5 f3)) := by rw [e_f3]; exact hD
    refine lv_aload_n hx hb dX1_addLine_40 rfl (lv_at hl 0 rfl) ?_
    refine lv_dup hx hb dX1_addLine_41 rfl ?_
    refine va_get (D := g.1) (ci := 1) (v := .int (I_y 0 6)) (C := RX1) (T := TX1) (N := 9) hx hb hi_X1 (fun _ h => h) hown hK.1 hP 0 rfl rfl 6 (by decide) hf_31 (fun _ h9 => h9) rfl dX1_addLine_42 ?_
    refine lv_iconst (v := 1) hx hb dX1_addLine_45 (by decide) ?_
    refine r_iadd hx hb dX1_addLine_46 rfl (by decide : (1 : Int32).toInt = 1) (fun x4 e_x4 t_x4 => ?_)
    try have t_x4 := t_x4 (by omega)
    refine va_put (D := g.1) (ci := 1) (v := .int x4) (ty := .int) (C := RX1) (T := TX1) (N := 9) hx hb hi_X1 (fun _ h => h) tyX1 tyX1_ok nmX1 hown hK.1 hP hD hS 0 rfl rfl 6 (by decide) hf_31 (fun _ h9 => h9) rfl (by decide +kernel) rfl rfl (Nat.le_of_ble_eq_true rfl) dX1_addLine_47 (fun H locs hP hD hS => ?_)
    have hP : va_P g.1 vwCl (wX1 g a_y (uF (uR (uR (uR I_y 3 f1) 4 f2) 5 f3) 0 6 x4)) H := hP
    have hD : va_D A (wX1 g a_y (uF (uR (uR (uR I_y 3 f1) 4 f2) 5 f3) 0 6 x4)) := hD
    refine hret 50 ls _ _ (uF (uR (uR (uR I_y 3 f1) 4 f2) 5 f3) 0 6 x4) dX1_addLine_50 hS hP hD ?_
    exact (by first | exact ⟨hL, sameB.rf _ _ _, fun h => h.mono (by omega)⟩ | exact ⟨LI.add hL (show 0 ≤ (x4).toInt ∧ (x4).toInt ≤ 550 from (by omega)) rfl rfl e_f1 e_f2 e_f3 (by omega) (by omega), fun k h1 h2 => by simp [uF, uR, upd, h1], fun _ => LE2.new (show (x4).toInt = _ from (by omega)) e_f1 e_f2⟩)

set_option maxHeartbeats 4000000 in
set_option maxRecDepth 100000 in
theorem kX1_lengthOf (l : Launch) (g : gG) (a_y : Nat → Nat) (I_y : Nat → Nat → Int32) (line : Int32) (hL : LI I_y) (h_l : 0 ≤ line.toInt ∧ line.toInt < 550) : PurI l g yX1_lengthOf wsX1_lengthOf 0 [.ref (a_y 0), .int line] (wX1 g a_y I_y) (fun r => 0 ≤ r.toInt ∧ r.toInt = (I_y 4 line.toNatClampNeg).toInt + (I_y 5 line.toNatClampNeg).toInt ∧ r.toInt ≤ 1201) := by
  refine PurI.st (cc := cX1_lengthOf) (maxL := 2) (by decide) rfl (Nat.le_of_ble_eq_true rfl) (fun p e s m args below meth c Q ls fx hK hP hl hret => ?_)
  have hx := fx.1
  have hb := fx.2.1
  have hml := fx.2.2.1
  have hown := fx.2.2.2.1
  have hts := fx.2.2.2.2
  have hl : lv_has ls 2 [(0, .ref (a_y 0)), (1, .int line)] := hl
  have hP : va_P g.1 vwCl (wX1 g a_y I_y) s.heap := hP
  have hf_25 := hts _ (uT _ _ u_125)
  have hf_28 := hts _ (uT _ _ u_126)
  have hi_X1 : ∀ w ∈ wsX10, w.before args s = true := fun w h => hts w (uT _ w (u_wsX10 w h))
  have lm1 : (-1 : Int32).toInt = -1 := by decide
  have lm0 : (0 : Int32).toInt = 0 := by decide
  have lm2 : (1 : Int32).toInt = 1 := by decide
  refine lv_aload_n hx hb dX1_lengthOf_0 rfl (lv_at hl 0 rfl) ?_
  refine va_get (D := g.1) (ci := 1) (v := .ref (a_y 4)) (C := RX1) (T := TX1) (N := 9) hx hb hi_X1 (fun _ h => h) hown hK.1 hP 0 rfl rfl 4 (by decide) hf_25 (fun _ h9 => h9) rfl dX1_lengthOf_1 ?_
  refine lv_iload_n hx hb dX1_lengthOf_4 rfl (lv_at hl 1 rfl) ?_
  have n_5 : vp_in line 550 := (t_in (by omega))
  refine va_iald hx hb hK.1 hP 4 0 rfl rfl n_5 dX1_lengthOf_5 ?_
  refine q_nm (fun x1 e_x1 => ?_)
  have e_x1 : x1 = (I_y 4) line.toNatClampNeg := e_x1
  have g_x1 : x1.toInt = ((I_y 4) line.toNatClampNeg).toInt := congrArg _ e_x1
  have f_x1 := LI.li hL line.toNatClampNeg
  rw [← e_x1] at f_x1
  refine lv_aload_n hx hb dX1_lengthOf_6 rfl (lv_at hl 0 rfl) ?_
  refine va_get (D := g.1) (ci := 1) (v := .ref (a_y 5)) (C := RX1) (T := TX1) (N := 9) hx hb hi_X1 (fun _ h => h) hown hK.1 hP 0 rfl rfl 5 (by decide) hf_28 (fun _ h9 => h9) rfl dX1_lengthOf_7 ?_
  refine lv_iload_n hx hb dX1_lengthOf_10 rfl (lv_at hl 1 rfl) ?_
  have n_11 : vp_in line 550 := (t_in (by omega))
  refine va_iald hx hb hK.1 hP 5 0 rfl rfl n_11 dX1_lengthOf_11 ?_
  refine q_nm (fun x2 e_x2 => ?_)
  have e_x2 : x2 = (I_y 5) line.toNatClampNeg := e_x2
  have g_x2 : x2.toInt = ((I_y 5) line.toNatClampNeg).toInt := congrArg _ e_x2
  have f_x2 := LI.hy hL line.toNatClampNeg
  rw [← e_x2] at f_x2
  refine r_iadd hx hb dX1_lengthOf_12 rfl rfl (fun x3 e_x3 t_x3 => ?_)
  try have t_x3 := t_x3 (by omega)
  exact hret 13 ls x3 dX1_lengthOf_13 (by omega)

set_option maxHeartbeats 4000000 in
set_option maxRecDepth 100000 in
theorem kX1_shortBy (l : Launch) (g : gG) (a_y : Nat → Nat) (I_y : Nat → Nat → Int32) (line : Int32) (hL : LI I_y) (h_l : 0 ≤ line.toInt ∧ line.toInt < 550) : PurI l g yX1_shortBy wsX1_shortBy 1 [.ref (a_y 0), .int line] (wX1 g a_y I_y) (fun r => True) := by
  refine PurI.st (cc := cX1_shortBy) (maxL := 2) (by decide) rfl (Nat.le_of_ble_eq_true rfl) (fun p e s m args below meth c Q ls fx hK hP hl hret => ?_)
  have hx := fx.1
  have hb := fx.2.1
  have hml := fx.2.2.1
  have hown := fx.2.2.2.1
  have hts := fx.2.2.2.2
  have hl : lv_has ls 2 [(0, .ref (a_y 0)), (1, .int line)] := hl
  have hP : va_P g.1 vwCl (wX1 g a_y I_y) s.heap := hP
  have hf_34 := hts _ (uT _ _ u_128)
  have hi_X1 : ∀ w ∈ wsX10, w.before args s = true := fun w h => hts w (uT _ w (u_wsX10 w h))
  have lm1 : (-1 : Int32).toInt = -1 := by decide
  have lm0 : (0 : Int32).toInt = 0 := by decide
  have lm2 : (1 : Int32).toInt = 1 := by decide
  refine lv_aload_n hx hb dX1_shortBy_0 rfl (lv_at hl 0 rfl) ?_
  refine va_get (D := g.1) (ci := 1) (v := .int (I_y 0 7)) (C := RX1) (T := TX1) (N := 9) hx hb hi_X1 (fun _ h => h) hown hK.1 hP 0 rfl rfl 7 (by decide) hf_34 (fun _ h9 => h9) rfl dX1_shortBy_1 ?_
  refine lv_aload_n hx hb dX1_shortBy_4 rfl (lv_at hl 0 rfl) ?_
  refine lv_iload_n hx hb dX1_shortBy_5 rfl (lv_at hl 1 rfl) ?_
  refine PurI.cv (As := [.int line]) (kX1_lengthOf l g a_y I_y line hL (by omega)) fx (gUV (uT _) u_1172 u_924 u_925 u_45 u_926) rfl hdX1_lengthOf ⟨Nat.le_of_ble_eq_true rfl, Nat.le_of_ble_eq_true rfl⟩ hK hP [0, 1, 2, 3, 4, 5, 6] rfl rfl rfl rfl rfl hl.1 (Nat.le_of_ble_eq_true rfl) dX1_shortBy_6 (fun r1 p_r1 => ?_)
  refine r_isub hx hb dX1_shortBy_9 rfl rfl (fun x2 e_x2 t_x2 => ?_)
  try have t_x2 := t_x2 (by omega)
  exact hret 10 ls x2 dX1_shortBy_10 trivial

set_option maxHeartbeats 4000000 in
set_option maxRecDepth 100000 in
theorem kX1_hyphenCount (l : Launch) (g : gG) (a_y : Nat → Nat) (I_y : Nat → Nat → Int32) (hL : LI I_y) : PurI l g yX1_hyphenCount wsX1_hyphenCount 0 [.ref (a_y 0)] (wX1 g a_y I_y) (fun r => True) := by
  refine PurI.st (cc := cX1_hyphenCount) (maxL := 3) (by decide) rfl (Nat.le_of_ble_eq_true rfl) (fun p e s m args below meth c Q ls fx hK hP hl hret => ?_)
  have hx := fx.1
  have hb := fx.2.1
  have hml := fx.2.2.1
  have hown := fx.2.2.2.1
  have hts := fx.2.2.2.2
  have hl : lv_has ls 3 [(0, .ref (a_y 0))] := hl
  have hP : va_P g.1 vwCl (wX1 g a_y I_y) s.heap := hP
  have hf_28 := hts _ (uT _ _ u_126)
  have hf_31 := hts _ (uT _ _ u_127)
  have hi_X1 : ∀ w ∈ wsX10, w.before args s = true := fun w h => hts w (uT _ w (u_wsX10 w h))
  have lm1 : (-1 : Int32).toInt = -1 := by decide
  have lm0 : (0 : Int32).toInt = 0 := by decide
  have lm2 : (1 : Int32).toInt = 1 := by decide
  have hpc := LI.pc hL
  have hln := LI.ln hL
  have hwd := LI.wd hL
  refine lv_iconst (v := 0) hx hb dX1_hyphenCount_0 (by decide) ?_
  refine lv_istore_n (lv' := [(1, .int (0 : Int32)), (0, .ref (a_y 0))]) hx hb dX1_hyphenCount_1 rfl hl (by decide) rfl (fun ls hl => ?_)
  refine lv_iconst (v := 0) hx hb dX1_hyphenCount_2 (by decide) ?_
  refine lv_istore_n (lv' := [(2, .int (0 : Int32)), (1, .int (0 : Int32)), (0, .ref (a_y 0))]) hx hb dX1_hyphenCount_3 rfl hl (by decide) rfl (fun ls hl => ?_)
  have L4 : ∀ (nn : Nat) (v1_4 : Int32) (v2_4 : Int32), (hv_4 : 0 ≤ v2_4.toInt ∧ v2_4.toInt ≤ 550) → ((551 - v2_4.toInt) < (nn : Int)) → ∀ ls : Array Slot, lv_has ls 3 [(2, .int v2_4), (1, .int v1_4), (0, .ref (a_y 0))] → W p l e (rm 0) s m args below meth c s.heap [] 0 0 Q (F0 m 4 ls []) := by
    intro n_4
    induction n_4 with
    | zero =>
      intro v1_4 v2_4 hv_4 hms_4 ls hl
      exfalso; omega
    | succ n_4 ih_4 =>
      intro v1_4 v2_4 hv_4 hms_4 ls hl
      refine lv_iload_n hx hb dX1_hyphenCount_4 rfl (lv_at hl 0 rfl) ?_
      refine lv_aload_n hx hb dX1_hyphenCount_5 rfl (lv_at hl 2 rfl) ?_
      refine va_get (D := g.1) (ci := 1) (v := .int (I_y 0 6)) (C := RX1) (T := TX1) (N := 9) hx hb hi_X1 (fun _ h => h) hown hK.1 hP 0 rfl rfl 6 (by decide) hf_31 (fun _ h9 => h9) rfl dX1_hyphenCount_6 ?_
      refine q_icmp_ge (tgt := 27) hx hb dX1_hyphenCount_9 (by decide) rfl rfl (fun k_9 => ?_) (fun k_9 => ?_)
      · refine lv_iload_n hx hb dX1_hyphenCount_27 rfl (lv_at hl 1 rfl) ?_
        exact hret 28 ls v1_4 dX1_hyphenCount_28 trivial
      · refine lv_iload_n hx hb dX1_hyphenCount_12 rfl (lv_at hl 1 rfl) ?_
        refine lv_aload_n hx hb dX1_hyphenCount_13 rfl (lv_at hl 2 rfl) ?_
        refine va_get (D := g.1) (ci := 1) (v := .ref (a_y 5)) (C := RX1) (T := TX1) (N := 9) hx hb hi_X1 (fun _ h => h) hown hK.1 hP 0 rfl rfl 5 (by decide) hf_28 (fun _ h9 => h9) rfl dX1_hyphenCount_14 ?_
        refine lv_iload_n hx hb dX1_hyphenCount_17 rfl (lv_at hl 0 rfl) ?_
        have n_18 : vp_in v2_4 550 := (t_in (by omega))
        refine va_iald hx hb hK.1 hP 5 0 rfl rfl n_18 dX1_hyphenCount_18 ?_
        refine q_nm (fun x1 e_x1 => ?_)
        have e_x1 : x1 = (I_y 5) v2_4.toNatClampNeg := e_x1
        have g_x1 : x1.toInt = ((I_y 5) v2_4.toNatClampNeg).toInt := congrArg _ e_x1
        refine r_iadd hx hb dX1_hyphenCount_19 rfl rfl (fun x2 e_x2 t_x2 => ?_)
        try have t_x2 := t_x2 (by omega)
        refine lv_istore_n (lv' := [(1, .int x2), (2, .int v2_4), (0, .ref (a_y 0))]) hx hb dX1_hyphenCount_20 rfl hl (by decide) rfl (fun ls hl => ?_)
        refine r_iinc (lv' := fun i3 => [(2, .int i3), (1, .int x2), (0, .ref (a_y 0))]) hx hb dX1_hyphenCount_21 hl (k := 1) rfl (by decide) rfl (by decide) (fun _ => rfl) (fun i3 e_i3 t_i3 ls hl => ?_)
        try have t_i3 := t_i3 (by omega)
        refine lv_goto (tgt := 4) hx hb dX1_hyphenCount_24 (by decide) ?_
        exact ih_4 x2 i3 (by omega) (by omega) ls hl
  exact L4 ((551 - (0 : Int32).toInt) + 1).toNat (0 : Int32) (0 : Int32) (by omega) (by omega) ls hl

set_option maxHeartbeats 4000000 in
set_option maxRecDepth 100000 in
theorem kX1_longestPiece (l : Launch) (g : gG) (a_y : Nat → Nat) (I_y : Nat → Nat → Int32) (hL : LI I_y) : PurI l g yX1_longestPiece wsX1_longestPiece 0 [.ref (a_y 0)] (wX1 g a_y I_y) (fun r => True) := by
  refine PurI.st (cc := cX1_longestPiece) (maxL := 3) (by decide) rfl (Nat.le_of_ble_eq_true rfl) (fun p e s m args below meth c Q ls fx hK hP hl hret => ?_)
  have hx := fx.1
  have hb := fx.2.1
  have hml := fx.2.2.1
  have hown := fx.2.2.2.1
  have hts := fx.2.2.2.2
  have hl : lv_has ls 3 [(0, .ref (a_y 0))] := hl
  have hP : va_P g.1 vwCl (wX1 g a_y I_y) s.heap := hP
  have hf_9 := hts _ (uT _ _ u_121)
  have hf_18 := hts _ (uT _ _ u_123)
  have hi_X1 : ∀ w ∈ wsX10, w.before args s = true := fun w h => hts w (uT _ w (u_wsX10 w h))
  have lm1 : (-1 : Int32).toInt = -1 := by decide
  have lm0 : (0 : Int32).toInt = 0 := by decide
  have lm2 : (1 : Int32).toInt = 1 := by decide
  have hpc := LI.pc hL
  have hln := LI.ln hL
  have hwd := LI.wd hL
  refine lv_iconst (v := 0) hx hb dX1_longestPiece_0 (by decide) ?_
  refine lv_istore_n (lv' := [(1, .int (0 : Int32)), (0, .ref (a_y 0))]) hx hb dX1_longestPiece_1 rfl hl (by decide) rfl (fun ls hl => ?_)
  refine lv_iconst (v := 1) hx hb dX1_longestPiece_2 (by decide) ?_
  refine lv_istore_n (lv' := [(2, .int (1 : Int32)), (1, .int (0 : Int32)), (0, .ref (a_y 0))]) hx hb dX1_longestPiece_3 rfl hl (by decide) rfl (fun ls hl => ?_)
  have L4 : ∀ (nn : Nat) (v1_4 : Int32) (v2_4 : Int32), (hv_4 : 0 ≤ v2_4.toInt ∧ v2_4.toInt ≤ 151 ∧ 0 ≤ v1_4.toInt ∧ v1_4.toInt < 150) → ((152 - v2_4.toInt) < (nn : Int)) → ∀ ls : Array Slot, lv_has ls 3 [(2, .int v2_4), (1, .int v1_4), (0, .ref (a_y 0))] → W p l e (rm 0) s m args below meth c s.heap [] 0 0 Q (F0 m 4 ls []) := by
    intro n_4
    induction n_4 with
    | zero =>
      intro v1_4 v2_4 hv_4 hms_4 ls hl
      exfalso; omega
    | succ n_4 ih_4 =>
      intro v1_4 v2_4 hv_4 hms_4 ls hl
      refine lv_iload_n hx hb dX1_longestPiece_4 rfl (lv_at hl 0 rfl) ?_
      refine lv_aload_n hx hb dX1_longestPiece_5 rfl (lv_at hl 2 rfl) ?_
      refine va_get (D := g.1) (ci := 1) (v := .int (I_y 0 2)) (C := RX1) (T := TX1) (N := 9) hx hb hi_X1 (fun _ h => h) hown hK.1 hP 0 rfl rfl 2 (by decide) hf_18 (fun _ h9 => h9) rfl dX1_longestPiece_6 ?_
      refine q_icmp_ge (tgt := 35) hx hb dX1_longestPiece_9 (by decide) rfl rfl (fun k_9 => ?_) (fun k_9 => ?_)
      · refine lv_iload_n hx hb dX1_longestPiece_35 rfl (lv_at hl 1 rfl) ?_
        exact hret 36 ls v1_4 dX1_longestPiece_36 trivial
      · refine lv_aload_n hx hb dX1_longestPiece_12 rfl (lv_at hl 2 rfl) ?_
        refine va_get (D := g.1) (ci := 1) (v := .ref (a_y 1)) (C := RX1) (T := TX1) (N := 9) hx hb hi_X1 (fun _ h => h) hown hK.1 hP 0 rfl rfl 0 (by decide) hf_9 (fun _ h9 => h9) rfl dX1_longestPiece_13 ?_
        refine lv_iload_n hx hb dX1_longestPiece_16 rfl (lv_at hl 0 rfl) ?_
        have n_17 : vp_in v2_4 150 := (t_in (by omega))
        refine va_iald hx hb hK.1 hP 1 0 rfl rfl n_17 dX1_longestPiece_17 ?_
        refine q_nm (fun x1 e_x1 => ?_)
        have e_x1 : x1 = (I_y 1) v2_4.toNatClampNeg := e_x1
        have g_x1 : x1.toInt = ((I_y 1) v2_4.toNatClampNeg).toInt := congrArg _ e_x1
        refine lv_aload_n hx hb dX1_longestPiece_18 rfl (lv_at hl 2 rfl) ?_
        refine va_get (D := g.1) (ci := 1) (v := .ref (a_y 1)) (C := RX1) (T := TX1) (N := 9) hx hb hi_X1 (fun _ h => h) hown hK.1 hP 0 rfl rfl 0 (by decide) hf_9 (fun _ h9 => h9) rfl dX1_longestPiece_19 ?_
        refine lv_iload_n hx hb dX1_longestPiece_22 rfl (lv_at hl 1 rfl) ?_
        have n_23 : vp_in v1_4 150 := (t_in (by omega))
        refine va_iald hx hb hK.1 hP 1 0 rfl rfl n_23 dX1_longestPiece_23 ?_
        refine q_nm (fun x2 e_x2 => ?_)
        have e_x2 : x2 = (I_y 1) v1_4.toNatClampNeg := e_x2
        have g_x2 : x2.toInt = ((I_y 1) v1_4.toNatClampNeg).toInt := congrArg _ e_x2
        refine q_icmp_le (tgt := 29) hx hb dX1_longestPiece_24 (by decide) rfl rfl (fun k_24 => ?_) (fun k_24 => ?_)
        · refine r_iinc (lv' := fun i3 => [(2, .int i3), (1, .int v1_4), (0, .ref (a_y 0))]) hx hb dX1_longestPiece_29 hl (k := 0) rfl (by decide) rfl (by decide) (fun _ => rfl) (fun i3 e_i3 t_i3 ls hl => ?_)
          try have t_i3 := t_i3 (by omega)
          refine lv_goto (tgt := 4) hx hb dX1_longestPiece_32 (by decide) ?_
          exact ih_4 v1_4 i3 (by omega) (by omega) ls hl
        · refine lv_iload_n hx hb dX1_longestPiece_27 rfl (lv_at hl 0 rfl) ?_
          refine lv_istore_n (lv' := [(1, .int v2_4), (2, .int v2_4), (0, .ref (a_y 0))]) hx hb dX1_longestPiece_28 rfl hl (by decide) rfl (fun ls hl => ?_)
          refine r_iinc (lv' := fun i4 => [(2, .int i4), (1, .int v2_4), (0, .ref (a_y 0))]) hx hb dX1_longestPiece_29 hl (k := 1) rfl (by decide) rfl (by decide) (fun _ => rfl) (fun i4 e_i4 t_i4 ls hl => ?_)
          try have t_i4 := t_i4 (by omega)
          refine lv_goto (tgt := 4) hx hb dX1_longestPiece_32 (by decide) ?_
          exact ih_4 v2_4 i4 (by omega) (by omega) ls hl
  exact L4 ((152 - (1 : Int32).toInt) + 1).toNat (0 : Int32) (1 : Int32) (by omega) (by omega) ls hl

set_option maxHeartbeats 4000000 in
set_option maxRecDepth 100000 in
theorem kX1_raggedness (l : Launch) (g : gG) (a_y : Nat → Nat) (I_y : Nat → Nat → Int32) (hL : LI I_y) : PurI l g yX1_raggedness wsX1_raggedness 2 [.ref (a_y 0)] (wX1 g a_y I_y) (fun r => True) := by
  refine PurI.st (cc := cX1_raggedness) (maxL := 3) (by decide) rfl (Nat.le_of_ble_eq_true rfl) (fun p e s m args below meth c Q ls fx hK hP hl hret => ?_)
  have hx := fx.1
  have hb := fx.2.1
  have hml := fx.2.2.1
  have hown := fx.2.2.2.1
  have hts := fx.2.2.2.2
  have hl : lv_has ls 3 [(0, .ref (a_y 0))] := hl
  have hP : va_P g.1 vwCl (wX1 g a_y I_y) s.heap := hP
  have hf_31 := hts _ (uT _ _ u_127)
  have hi_X1 : ∀ w ∈ wsX10, w.before args s = true := fun w h => hts w (uT _ w (u_wsX10 w h))
  have lm1 : (-1 : Int32).toInt = -1 := by decide
  have lm0 : (0 : Int32).toInt = 0 := by decide
  have lm2 : (1 : Int32).toInt = 1 := by decide
  have hpc := LI.pc hL
  have hln := LI.ln hL
  have hwd := LI.wd hL
  refine lv_iconst (v := 0) hx hb dX1_raggedness_0 (by decide) ?_
  refine lv_istore_n (lv' := [(1, .int (0 : Int32)), (0, .ref (a_y 0))]) hx hb dX1_raggedness_1 rfl hl (by decide) rfl (fun ls hl => ?_)
  refine lv_iconst (v := 0) hx hb dX1_raggedness_2 (by decide) ?_
  refine lv_istore_n (lv' := [(2, .int (0 : Int32)), (1, .int (0 : Int32)), (0, .ref (a_y 0))]) hx hb dX1_raggedness_3 rfl hl (by decide) rfl (fun ls hl => ?_)
  have L4 : ∀ (nn : Nat) (v1_4 : Int32) (v2_4 : Int32), (hv_4 : 0 ≤ v2_4.toInt ∧ v2_4.toInt ≤ 550) → ((551 - v2_4.toInt) < (nn : Int)) → ∀ ls : Array Slot, lv_has ls 3 [(2, .int v2_4), (1, .int v1_4), (0, .ref (a_y 0))] → W p l e (rm 2) s m args below meth c s.heap [] 0 0 Q (F0 m 4 ls []) := by
    intro n_4
    induction n_4 with
    | zero =>
      intro v1_4 v2_4 hv_4 hms_4 ls hl
      exfalso; omega
    | succ n_4 ih_4 =>
      intro v1_4 v2_4 hv_4 hms_4 ls hl
      refine lv_iload_n hx hb dX1_raggedness_4 rfl (lv_at hl 0 rfl) ?_
      refine lv_aload_n hx hb dX1_raggedness_5 rfl (lv_at hl 2 rfl) ?_
      refine va_get (D := g.1) (ci := 1) (v := .int (I_y 0 6)) (C := RX1) (T := TX1) (N := 9) hx hb hi_X1 (fun _ h => h) hown hK.1 hP 0 rfl rfl 6 (by decide) hf_31 (fun _ h9 => h9) rfl dX1_raggedness_6 ?_
      refine lv_iconst (v := 1) hx hb dX1_raggedness_9 (by decide) ?_
      refine r_isub hx hb dX1_raggedness_10 rfl (by decide : (1 : Int32).toInt = 1) (fun x1 e_x1 t_x1 => ?_)
      try have t_x1 := t_x1 (by omega)
      refine q_icmp_ge (tgt := 34) hx hb dX1_raggedness_11 (by decide) rfl rfl (fun k_11 => ?_) (fun k_11 => ?_)
      · refine lv_iload_n hx hb dX1_raggedness_34 rfl (lv_at hl 1 rfl) ?_
        exact hret 35 ls v1_4 dX1_raggedness_35 trivial
      · refine lv_iload_n hx hb dX1_raggedness_14 rfl (lv_at hl 1 rfl) ?_
        refine lv_aload_n hx hb dX1_raggedness_15 rfl (lv_at hl 2 rfl) ?_
        refine lv_iload_n hx hb dX1_raggedness_16 rfl (lv_at hl 0 rfl) ?_
        refine PurI.cv (As := [.int v2_4]) (kX1_shortBy l g a_y I_y v2_4 hL (by omega)) fx (gUV (uT _) u_1270 u_1169 u_1170 u_45 u_1171) rfl hdX1_shortBy ⟨Nat.le_of_ble_eq_true rfl, Nat.le_of_ble_eq_true rfl⟩ hK hP [0, 1, 2, 3, 4, 5, 6] rfl rfl rfl rfl rfl hl.1 (Nat.le_of_ble_eq_true rfl) dX1_raggedness_17 (fun r2 p_r2 => ?_)
        refine lv_aload_n hx hb dX1_raggedness_20 rfl (lv_at hl 2 rfl) ?_
        refine lv_iload_n hx hb dX1_raggedness_21 rfl (lv_at hl 0 rfl) ?_
        refine PurI.cv (As := [.int v2_4]) (kX1_shortBy l g a_y I_y v2_4 hL (by omega)) fx (gUV (uT _) u_1270 u_1169 u_1170 u_45 u_1171) rfl hdX1_shortBy ⟨Nat.le_of_ble_eq_true rfl, Nat.le_of_ble_eq_true rfl⟩ hK hP [0, 1, 2, 3, 4, 5, 6] rfl rfl rfl rfl rfl hl.1 (Nat.le_of_ble_eq_true rfl) dX1_raggedness_22 (fun r3 p_r3 => ?_)
        refine r_imul hx hb dX1_raggedness_25 rfl rfl (fun x4 e_x4 t_x4 => ?_)
        try have t_x4 := t_x4 (by omega)
        refine r_iadd hx hb dX1_raggedness_26 rfl rfl (fun x5 e_x5 t_x5 => ?_)
        try have t_x5 := t_x5 (by omega)
        refine lv_istore_n (lv' := [(1, .int x5), (2, .int v2_4), (0, .ref (a_y 0))]) hx hb dX1_raggedness_27 rfl hl (by decide) rfl (fun ls hl => ?_)
        refine r_iinc (lv' := fun i6 => [(2, .int i6), (1, .int x5), (0, .ref (a_y 0))]) hx hb dX1_raggedness_28 hl (k := 1) rfl (by decide) rfl (by decide) (fun _ => rfl) (fun i6 e_i6 t_i6 ls hl => ?_)
        try have t_i6 := t_i6 (by omega)
        refine lv_goto (tgt := 4) hx hb dX1_raggedness_31 (by decide) ?_
        exact ih_4 x5 i6 (by omega) (by omega) ls hl
  exact L4 ((551 - (0 : Int32).toInt) + 1).toNat (0 : Int32) (0 : Int32) (by omega) (by omega) ls hl

set_option maxHeartbeats 4000000 in
set_option maxRecDepth 100000 in
theorem kX1_leastFrom (l : Launch) (g : gG) (a_y : Nat → Nat) (I_y : Nat → Nat → Int32) (pc0 : Int32) (hL : LI I_y) (h_p : 0 ≤ pc0.toInt) : PurI l g yX1_leastFrom wsX1_leastFrom 0 [.ref (a_y 0), .int pc0] (wX1 g a_y I_y) (fun r => True) := by
  refine PurI.st (cc := cX1_leastFrom) (maxL := 7) (by decide) rfl (Nat.le_of_ble_eq_true rfl) (fun p e s m args below meth c Q ls fx hK hP hl hret => ?_)
  have hx := fx.1
  have hb := fx.2.1
  have hml := fx.2.2.1
  have hown := fx.2.2.2.1
  have hts := fx.2.2.2.2
  have hl : lv_has ls 7 [(0, .ref (a_y 0)), (1, .int pc0)] := hl
  have hP : va_P g.1 vwCl (wX1 g a_y I_y) s.heap := hP
  have hf_9 := hts _ (uT _ _ u_121)
  have hf_18 := hts _ (uT _ _ u_123)
  have hf_34 := hts _ (uT _ _ u_128)
  have hf_37 := hts _ (uT _ _ u_129)
  have hi_X1 : ∀ w ∈ wsX10, w.before args s = true := fun w h => hts w (uT _ w (u_wsX10 w h))
  have lm1 : (-1 : Int32).toInt = -1 := by decide
  have lm0 : (0 : Int32).toInt = 0 := by decide
  have lm2 : (1 : Int32).toInt = 1 := by decide
  have hpc := LI.pc hL
  have hln := LI.ln hL
  have hwd := LI.wd hL
  refine lv_iconst (v := -1) hx hb dX1_leastFrom_0 (by decide) ?_
  refine lv_istore_n (lv' := [(2, .int (-1 : Int32)), (0, .ref (a_y 0)), (1, .int pc0)]) hx hb dX1_leastFrom_1 rfl hl (by decide) rfl (fun ls hl => ?_)
  refine lv_iconst (v := -1) hx hb dX1_leastFrom_2 (by decide) ?_
  refine lv_istore_n (lv' := [(3, .int (-1 : Int32)), (2, .int (-1 : Int32)), (0, .ref (a_y 0)), (1, .int pc0)]) hx hb dX1_leastFrom_3 rfl hl (by decide) rfl (fun ls hl => ?_)
  refine lv_iload_n hx hb dX1_leastFrom_4 rfl (lv_at hl 3 rfl) ?_
  refine lv_istore (lv' := [(4, .int pc0), (3, .int (-1 : Int32)), (2, .int (-1 : Int32)), (0, .ref (a_y 0)), (1, .int pc0)]) hx hb dX1_leastFrom_5 hl (by decide) rfl (fun ls hl => ?_)
  have L7 : ∀ (nn : Nat) (v2_7 : Int32) (v3_7 : Int32) (v4_7 : Int32), (hv_7 : 0 ≤ v4_7.toInt) → ((if v4_7.toInt ≤ 150 then 151 - v4_7.toInt else 0) < (nn : Int)) → ∀ ls : Array Slot, lv_has ls 7 [(4, .int v4_7), (3, .int v3_7), (2, .int v2_7), (0, .ref (a_y 0)), (1, .int pc0)] → W p l e (rm 0) s m args below meth c s.heap [] 0 0 Q (F0 m 7 ls []) := by
    intro n_7
    induction n_7 with
    | zero =>
      intro v2_7 v3_7 v4_7 hv_7 hms_7 ls hl
      exfalso; omega
    | succ n_7 ih_7 =>
      intro v2_7 v3_7 v4_7 hv_7 hms_7 ls hl
      refine lv_iload hx hb dX1_leastFrom_7 (lv_at hl 0 rfl) ?_
      refine lv_aload_n hx hb dX1_leastFrom_9 rfl (lv_at hl 3 rfl) ?_
      refine va_get (D := g.1) (ci := 1) (v := .int (I_y 0 2)) (C := RX1) (T := TX1) (N := 9) hx hb hi_X1 (fun _ h => h) hown hK.1 hP 0 rfl rfl 2 (by decide) hf_18 (fun _ h9 => h9) rfl dX1_leastFrom_10 ?_
      refine q_icmp_ge (tgt := 98) hx hb dX1_leastFrom_13 (by decide) rfl rfl (fun k_13 => ?_) (fun k_13 => ?_)
      · refine lv_iload_n hx hb dX1_leastFrom_98 rfl (lv_at hl 2 rfl) ?_
        exact hret 99 ls v2_7 dX1_leastFrom_99 trivial
      · refine lv_iload_n hx hb dX1_leastFrom_16 rfl (lv_at hl 1 rfl) ?_
        refine lv_iconst (v := 1) hx hb dX1_leastFrom_17 (by decide) ?_
        refine lv_aload_n hx hb dX1_leastFrom_18 rfl (lv_at hl 3 rfl) ?_
        refine va_get (D := g.1) (ci := 1) (v := .ref (a_y 1)) (C := RX1) (T := TX1) (N := 9) hx hb hi_X1 (fun _ h => h) hown hK.1 hP 0 rfl rfl 0 (by decide) hf_9 (fun _ h9 => h9) rfl dX1_leastFrom_19 ?_
        refine lv_iload hx hb dX1_leastFrom_22 (lv_at hl 0 rfl) ?_
        have n_24 : vp_in v4_7 150 := (t_in (by omega))
        refine va_iald hx hb hK.1 hP 1 0 rfl rfl n_24 dX1_leastFrom_24 ?_
        refine q_nm (fun x1 e_x1 => ?_)
        have e_x1 : x1 = (I_y 1) v4_7.toNatClampNeg := e_x1
        have g_x1 : x1.toInt = ((I_y 1) v4_7.toNatClampNeg).toInt := congrArg _ e_x1
        refine r_iadd hx hb dX1_leastFrom_25 (by decide : (1 : Int32).toInt = 1) rfl (fun x2 e_x2 t_x2 => ?_)
        try have t_x2 := t_x2 (by omega)
        refine r_iadd hx hb dX1_leastFrom_26 rfl rfl (fun x3 e_x3 t_x3 => ?_)
        try have t_x3 := t_x3 (by omega)
        refine lv_istore_n (lv' := [(3, .int x3), (4, .int v4_7), (2, .int v2_7), (0, .ref (a_y 0)), (1, .int pc0)]) hx hb dX1_leastFrom_27 rfl hl (by decide) rfl (fun ls hl => ?_)
        refine lv_iload_n hx hb dX1_leastFrom_28 rfl (lv_at hl 0 rfl) ?_
        refine lv_aload_n hx hb dX1_leastFrom_29 rfl (lv_at hl 3 rfl) ?_
        refine va_get (D := g.1) (ci := 1) (v := .int (I_y 0 7)) (C := RX1) (T := TX1) (N := 9) hx hb hi_X1 (fun _ h => h) hown hK.1 hP 0 rfl rfl 7 (by decide) hf_34 (fun _ h9 => h9) rfl dX1_leastFrom_30 ?_
        refine q_icmp_le (tgt := 38) hx hb dX1_leastFrom_33 (by decide) rfl rfl (fun k_33 => ?_) (fun k_33 => ?_)
        · refine lv_aload_n hx hb dX1_leastFrom_38 rfl (lv_at hl 3 rfl) ?_
          refine va_get (D := g.1) (ci := 1) (v := .int (I_y 0 7)) (C := RX1) (T := TX1) (N := 9) hx hb hi_X1 (fun _ h => h) hown hK.1 hP 0 rfl rfl 7 (by decide) hf_34 (fun _ h9 => h9) rfl dX1_leastFrom_39 ?_
          refine lv_iload_n hx hb dX1_leastFrom_42 rfl (lv_at hl 0 rfl) ?_
          refine r_isub hx hb dX1_leastFrom_43 rfl rfl (fun x4 e_x4 t_x4 => ?_)
          try have t_x4 := t_x4 (by omega)
          refine lv_istore (lv' := [(5, .int x4), (3, .int x3), (4, .int v4_7), (2, .int v2_7), (0, .ref (a_y 0)), (1, .int pc0)]) hx hb dX1_leastFrom_44 hl (by decide) rfl (fun ls hl => ?_)
          refine lv_iload hx hb dX1_leastFrom_46 (lv_at hl 2 rfl) ?_
          refine lv_aload_n hx hb dX1_leastFrom_48 rfl (lv_at hl 4 rfl) ?_
          refine va_get (D := g.1) (ci := 1) (v := .int (I_y 0 2)) (C := RX1) (T := TX1) (N := 9) hx hb hi_X1 (fun _ h => h) hown hK.1 hP 0 rfl rfl 2 (by decide) hf_18 (fun _ h9 => h9) rfl dX1_leastFrom_49 ?_
          refine lv_iconst (v := 1) hx hb dX1_leastFrom_52 (by decide) ?_
          refine r_isub hx hb dX1_leastFrom_53 rfl (by decide : (1 : Int32).toInt = 1) (fun x5 e_x5 t_x5 => ?_)
          try have t_x5 := t_x5 (by omega)
          refine q_icmp_ne (tgt := 61) hx hb dX1_leastFrom_54 (by decide) rfl rfl (fun k_54 => ?_) (fun k_54 => ?_)
          · refine lv_iload hx hb dX1_leastFrom_61 (lv_at hl 0 rfl) ?_
            refine lv_iload hx hb dX1_leastFrom_63 (lv_at hl 0 rfl) ?_
            refine r_imul hx hb dX1_leastFrom_65 rfl rfl (fun x6 e_x6 t_x6 => ?_)
            try have t_x6 := t_x6 (by omega)
            refine lv_aload_n hx hb dX1_leastFrom_66 rfl (lv_at hl 4 rfl) ?_
            refine va_get (D := g.1) (ci := 1) (v := .ref (a_y 6)) (C := RX1) (T := TX1) (N := 9) hx hb hi_X1 (fun _ h => h) hown hK.1 hP 0 rfl rfl 8 (by decide) hf_37 (fun _ h9 => h9) rfl dX1_leastFrom_67 ?_
            refine lv_iload hx hb dX1_leastFrom_70 (lv_at hl 2 rfl) ?_
            refine lv_iconst (v := 1) hx hb dX1_leastFrom_72 (by decide) ?_
            refine r_iadd hx hb dX1_leastFrom_73 rfl (by decide : (1 : Int32).toInt = 1) (fun x7 e_x7 t_x7 => ?_)
            try have t_x7 := t_x7 (by omega)
            have n_74 : vp_in x7 151 := (t_in (by omega))
            refine va_iald hx hb hK.1 hP 6 0 rfl rfl n_74 dX1_leastFrom_74 ?_
            refine q_nm (fun x8 e_x8 => ?_)
            have e_x8 : x8 = (I_y 6) x7.toNatClampNeg := e_x8
            have g_x8 : x8.toInt = ((I_y 6) x7.toNatClampNeg).toInt := congrArg _ e_x8
            refine r_iadd hx hb dX1_leastFrom_75 rfl rfl (fun x9 e_x9 t_x9 => ?_)
            try have t_x9 := t_x9 (by omega)
            refine lv_istore (lv' := [(6, .int x9), (5, .int x4), (3, .int x3), (4, .int v4_7), (2, .int v2_7), (0, .ref (a_y 0)), (1, .int pc0)]) hx hb dX1_leastFrom_76 hl (by decide) rfl (fun ls hl => ?_)
            refine lv_iload_n hx hb dX1_leastFrom_78 rfl (lv_at hl 4 rfl) ?_
            refine lv_iconst (v := -1) hx hb dX1_leastFrom_79 (by decide) ?_
            refine q_icmp_eq (tgt := 89) hx hb dX1_leastFrom_80 (by decide) rfl (by decide : (-1 : Int32).toInt = -1) (fun k_80 => ?_) (fun k_80 => ?_)
            · refine lv_iload hx hb dX1_leastFrom_89 (lv_at hl 0 rfl) ?_
              refine lv_istore_n (lv' := [(2, .int x9), (6, .int x9), (5, .int x4), (3, .int x3), (4, .int v4_7), (0, .ref (a_y 0)), (1, .int pc0)]) hx hb dX1_leastFrom_91 rfl hl (by decide) rfl (fun ls hl => ?_)
              refine r_iinc (lv' := fun i10 => [(4, .int i10), (2, .int x9), (6, .int x9), (5, .int x4), (3, .int x3), (0, .ref (a_y 0)), (1, .int pc0)]) hx hb dX1_leastFrom_92 hl (k := 4) rfl (by decide) rfl (by decide) (fun _ => rfl) (fun i10 e_i10 t_i10 ls hl => ?_)
              try have t_i10 := t_i10 (by omega)
              refine lv_goto (tgt := 7) hx hb dX1_leastFrom_95 (by decide) ?_
              exact ih_7 x9 x3 i10 (by omega) (by omega) ls (lv_sub hl [0, 4, 1, 5, 6] rfl)
            · refine lv_iload hx hb dX1_leastFrom_83 (lv_at hl 0 rfl) ?_
              refine lv_iload_n hx hb dX1_leastFrom_85 rfl (lv_at hl 4 rfl) ?_
              refine q_icmp_ge (tgt := 92) hx hb dX1_leastFrom_86 (by decide) rfl rfl (fun k_86 => ?_) (fun k_86 => ?_)
              · refine r_iinc (lv' := fun i11 => [(4, .int i11), (6, .int x9), (5, .int x4), (3, .int x3), (2, .int v2_7), (0, .ref (a_y 0)), (1, .int pc0)]) hx hb dX1_leastFrom_92 hl (k := 3) rfl (by decide) rfl (by decide) (fun _ => rfl) (fun i11 e_i11 t_i11 ls hl => ?_)
                try have t_i11 := t_i11 (by omega)
                refine lv_goto (tgt := 7) hx hb dX1_leastFrom_95 (by decide) ?_
                exact ih_7 v2_7 x3 i11 (by omega) (by omega) ls (lv_sub hl [0, 3, 4, 5, 6] rfl)
              · refine lv_iload hx hb dX1_leastFrom_89 (lv_at hl 0 rfl) ?_
                refine lv_istore_n (lv' := [(2, .int x9), (6, .int x9), (5, .int x4), (3, .int x3), (4, .int v4_7), (0, .ref (a_y 0)), (1, .int pc0)]) hx hb dX1_leastFrom_91 rfl hl (by decide) rfl (fun ls hl => ?_)
                refine r_iinc (lv' := fun i12 => [(4, .int i12), (2, .int x9), (6, .int x9), (5, .int x4), (3, .int x3), (0, .ref (a_y 0)), (1, .int pc0)]) hx hb dX1_leastFrom_92 hl (k := 4) rfl (by decide) rfl (by decide) (fun _ => rfl) (fun i12 e_i12 t_i12 ls hl => ?_)
                try have t_i12 := t_i12 (by omega)
                refine lv_goto (tgt := 7) hx hb dX1_leastFrom_95 (by decide) ?_
                exact ih_7 x9 x3 i12 (by omega) (by omega) ls (lv_sub hl [0, 4, 1, 5, 6] rfl)
          · refine lv_iconst (v := 0) hx hb dX1_leastFrom_57 (by decide) ?_
            refine lv_goto (tgt := 76) hx hb dX1_leastFrom_58 (by decide) ?_
            refine lv_istore (lv' := [(6, .int (0 : Int32)), (5, .int x4), (3, .int x3), (4, .int v4_7), (2, .int v2_7), (0, .ref (a_y 0)), (1, .int pc0)]) hx hb dX1_leastFrom_76 hl (by decide) rfl (fun ls hl => ?_)
            refine lv_iload_n hx hb dX1_leastFrom_78 rfl (lv_at hl 4 rfl) ?_
            refine lv_iconst (v := -1) hx hb dX1_leastFrom_79 (by decide) ?_
            refine q_icmp_eq (tgt := 89) hx hb dX1_leastFrom_80 (by decide) rfl (by decide : (-1 : Int32).toInt = -1) (fun k_80 => ?_) (fun k_80 => ?_)
            · refine lv_iload hx hb dX1_leastFrom_89 (lv_at hl 0 rfl) ?_
              refine lv_istore_n (lv' := [(2, .int (0 : Int32)), (6, .int (0 : Int32)), (5, .int x4), (3, .int x3), (4, .int v4_7), (0, .ref (a_y 0)), (1, .int pc0)]) hx hb dX1_leastFrom_91 rfl hl (by decide) rfl (fun ls hl => ?_)
              refine r_iinc (lv' := fun i13 => [(4, .int i13), (2, .int (0 : Int32)), (6, .int (0 : Int32)), (5, .int x4), (3, .int x3), (0, .ref (a_y 0)), (1, .int pc0)]) hx hb dX1_leastFrom_92 hl (k := 4) rfl (by decide) rfl (by decide) (fun _ => rfl) (fun i13 e_i13 t_i13 ls hl => ?_)
              try have t_i13 := t_i13 (by omega)
              refine lv_goto (tgt := 7) hx hb dX1_leastFrom_95 (by decide) ?_
              exact ih_7 (0 : Int32) x3 i13 (by omega) (by omega) ls (lv_sub hl [0, 4, 1, 5, 6] rfl)
            · refine lv_iload hx hb dX1_leastFrom_83 (lv_at hl 0 rfl) ?_
              refine lv_iload_n hx hb dX1_leastFrom_85 rfl (lv_at hl 4 rfl) ?_
              refine q_icmp_ge (tgt := 92) hx hb dX1_leastFrom_86 (by decide) (by decide : (0 : Int32).toInt = 0) rfl (fun k_86 => ?_) (fun k_86 => ?_)
              · refine r_iinc (lv' := fun i14 => [(4, .int i14), (6, .int (0 : Int32)), (5, .int x4), (3, .int x3), (2, .int v2_7), (0, .ref (a_y 0)), (1, .int pc0)]) hx hb dX1_leastFrom_92 hl (k := 3) rfl (by decide) rfl (by decide) (fun _ => rfl) (fun i14 e_i14 t_i14 ls hl => ?_)
                try have t_i14 := t_i14 (by omega)
                refine lv_goto (tgt := 7) hx hb dX1_leastFrom_95 (by decide) ?_
                exact ih_7 v2_7 x3 i14 (by omega) (by omega) ls (lv_sub hl [0, 3, 4, 5, 6] rfl)
              · refine lv_iload hx hb dX1_leastFrom_89 (lv_at hl 0 rfl) ?_
                refine lv_istore_n (lv' := [(2, .int (0 : Int32)), (6, .int (0 : Int32)), (5, .int x4), (3, .int x3), (4, .int v4_7), (0, .ref (a_y 0)), (1, .int pc0)]) hx hb dX1_leastFrom_91 rfl hl (by decide) rfl (fun ls hl => ?_)
                refine r_iinc (lv' := fun i15 => [(4, .int i15), (2, .int (0 : Int32)), (6, .int (0 : Int32)), (5, .int x4), (3, .int x3), (0, .ref (a_y 0)), (1, .int pc0)]) hx hb dX1_leastFrom_92 hl (k := 4) rfl (by decide) rfl (by decide) (fun _ => rfl) (fun i15 e_i15 t_i15 ls hl => ?_)
                try have t_i15 := t_i15 (by omega)
                refine lv_goto (tgt := 7) hx hb dX1_leastFrom_95 (by decide) ?_
                exact ih_7 (0 : Int32) x3 i15 (by omega) (by omega) ls (lv_sub hl [0, 4, 1, 5, 6] rfl)
        · refine lv_iload_n hx hb dX1_leastFrom_36 rfl (lv_at hl 2 rfl) ?_
          exact hret 37 ls v2_7 dX1_leastFrom_37 trivial
  exact L7 ((if pc0.toInt ≤ 150 then 151 - pc0.toInt else 0) + 1).toNat (-1 : Int32) (-1 : Int32) pc0 (by omega) (by omega) ls hl

set_option maxHeartbeats 4000000 in
set_option maxRecDepth 100000 in
theorem kX1_leastRaggedness (l : Launch) (g : gG) (a_y : Nat → Nat) (I_y : Nat → Nat → Int32) (hL : LI I_y) : EffI l g yX1_leastRaggedness wsX1_leastRaggedness 1 [.ref (a_y 0)] (wX1 g a_y I_y) (fun (u : (Nat → Nat → Int32)) => wX1 g a_y u) (fun r (u : (Nat → Nat → Int32)) => LI (u)) := by
  refine EffI.st (cc := cX1_leastRaggedness) (maxL := 2) (by decide) rfl (Nat.le_of_ble_eq_true rfl) (fun p e s m args below meth c A Q ls fx hK hP hD hA hS hl hret => ?_)
  have hx := fx.1
  have hb := fx.2.1
  have hml := fx.2.2.1
  have hown := fx.2.2.2.1
  have hts := fx.2.2.2.2
  have hl : lv_has ls 2 [(0, .ref (a_y 0))] := hl
  have hP : va_P g.1 vwCl (wX1 g a_y I_y) s.heap := hP
  have hf_9 := hts _ (uT _ _ u_121)
  have hf_18 := hts _ (uT _ _ u_123)
  have hf_34 := hts _ (uT _ _ u_128)
  have hf_37 := hts _ (uT _ _ u_129)
  have hi_X1 : ∀ w ∈ wsX10, w.before args s = true := fun w h => hts w (uT _ w (u_wsX10 w h))
  have lm1 : (-1 : Int32).toInt = -1 := by decide
  have lm0 : (0 : Int32).toInt = 0 := by decide
  have lm2 : (1 : Int32).toInt = 1 := by decide
  have hpc := LI.pc hL
  have hln := LI.ln hL
  have hwd := LI.wd hL
  refine lv_aload_n hx hb dX1_leastRaggedness_0 rfl (lv_at hl 0 rfl) ?_
  refine va_get (D := g.1) (ci := 1) (v := .ref (a_y 6)) (C := RX1) (T := TX1) (N := 9) hx hb hi_X1 (fun _ h => h) hown hK.1 hP 0 rfl rfl 8 (by decide) hf_37 (fun _ h9 => h9) rfl dX1_leastRaggedness_1 ?_
  refine lv_aload_n hx hb dX1_leastRaggedness_4 rfl (lv_at hl 0 rfl) ?_
  refine va_get (D := g.1) (ci := 1) (v := .int (I_y 0 2)) (C := RX1) (T := TX1) (N := 9) hx hb hi_X1 (fun _ h => h) hown hK.1 hP 0 rfl rfl 2 (by decide) hf_18 (fun _ h9 => h9) rfl dX1_leastRaggedness_5 ?_
  refine lv_iconst (v := 0) hx hb dX1_leastRaggedness_8 (by decide) ?_
  have n_9 : vp_in (I_y 0 2) 151 := (t_in (by omega))
  obtain ⟨f1, e_f1⟩ : ∃ z, z = upd (I_y 6) (I_y 0 2).toNatClampNeg (0 : Int32) := ⟨_, rfl⟩
  refine va_iast hx hb hK.1 hP hD hS 6 0 rfl rfl n_9 dX1_leastRaggedness_9 (fun H locs hP hD hS => ?_)
  have hP : va_P g.1 vwCl (wX1 g a_y (uR I_y 6 f1)) H := by rw [e_f1]; exact hP
  have hD : va_D A (wX1 g a_y (uR I_y 6 f1)) := by rw [e_f1]; exact hD
  have hc_9 : LI (uR I_y 6 f1) := LI.of hL hpc rfl rfl rfl rfl rfl
  refine lv_aload_n hx hb dX1_leastRaggedness_10 rfl (lv_at hl 0 rfl) ?_
  refine va_get (D := g.1) (ci := 1) (v := .int (I_y 0 2)) (C := RX1) (T := TX1) (N := 9) hx hb hi_X1 (fun _ h => h) hown hK.1 hP 0 rfl rfl 2 (by decide) hf_18 (fun _ h9 => h9) rfl dX1_leastRaggedness_11 ?_
  refine lv_iconst (v := 1) hx hb dX1_leastRaggedness_14 (by decide) ?_
  refine r_isub hx hb dX1_leastRaggedness_15 rfl (by decide : (1 : Int32).toInt = 1) (fun x2 e_x2 t_x2 => ?_)
  try have t_x2 := t_x2 (by omega)
  refine lv_istore_n (lv' := [(1, .int x2), (0, .ref (a_y 0))]) hx hb dX1_leastRaggedness_16 rfl hl (by decide) rfl (fun ls hl => ?_)
  have L17 : ∀ (nn : Nat) (v1_17 : Int32) (I_y_17 : Nat → Nat → Int32), (hv_17 : -1 ≤ v1_17.toInt ∧ v1_17.toInt ≤ 149) → (hL_17 : LI I_y_17) → ((v1_17.toInt + 1) < (nn : Int)) → ∀ (H : Heap) (locs : List Loc), va_P g.1 vwCl (wX1 g a_y I_y_17) H → va_D A (wX1 g a_y I_y_17) → va_S A s.heap H locs → ∀ ls : Array Slot, lv_has ls 2 [(1, .int v1_17), (0, .ref (a_y 0))] → W p l e (rm 1) s m args below meth c H locs 0 0 Q (F0 m 17 ls []) := by
    intro n_17
    induction n_17 with
    | zero =>
      intro v1_17 I_y_17 hv_17 hL_17 hms_17 H locs hP hD hS ls hl
      exfalso; omega
    | succ n_17 ih_17 =>
      intro v1_17 I_y_17 hv_17 hL_17 hms_17 H locs hP hD hS ls hl
      refine lv_iload_n hx hb dX1_leastRaggedness_17 rfl (lv_at hl 0 rfl) ?_
      refine q_if_lt (tgt := 53) hx hb dX1_leastRaggedness_18 (by decide) rfl (fun k_18 => ?_) (fun k_18 => ?_)
      · refine lv_aload_n hx hb dX1_leastRaggedness_53 rfl (lv_at hl 1 rfl) ?_
        refine va_get (D := g.1) (ci := 1) (v := .ref (a_y 6)) (C := RX1) (T := TX1) (N := 9) hx hb hi_X1 (fun _ h => h) hown hK.1 hP 0 rfl rfl 8 (by decide) hf_37 (fun _ h9 => h9) rfl dX1_leastRaggedness_54 ?_
        refine lv_iconst (v := 0) hx hb dX1_leastRaggedness_57 (by decide) ?_
        have n_58 : vp_in (0 : Int32) 151 := (t_in (by decide))
        refine va_iald hx hb hK.1 hP 6 0 rfl rfl n_58 dX1_leastRaggedness_58 ?_
        refine q_nm (fun x3 e_x3 => ?_)
        have e_x3 : x3 = (I_y_17 6) 0 := e_x3
        have g_x3 : x3.toInt = ((I_y_17 6) 0).toInt := congrArg _ e_x3
        refine hret 59 ls x3 _ _ I_y_17 dX1_leastRaggedness_59 hS hP hD ?_
        exact hL_17
      · refine lv_aload_n hx hb dX1_leastRaggedness_21 rfl (lv_at hl 1 rfl) ?_
        refine va_get (D := g.1) (ci := 1) (v := .ref (a_y 1)) (C := RX1) (T := TX1) (N := 9) hx hb hi_X1 (fun _ h => h) hown hK.1 hP 0 rfl rfl 0 (by decide) hf_9 (fun _ h9 => h9) rfl dX1_leastRaggedness_22 ?_
        refine lv_iload_n hx hb dX1_leastRaggedness_25 rfl (lv_at hl 0 rfl) ?_
        have n_26 : vp_in v1_17 150 := (t_in (by omega))
        refine va_iald hx hb hK.1 hP 1 0 rfl rfl n_26 dX1_leastRaggedness_26 ?_
        refine q_nm (fun x4 e_x4 => ?_)
        have e_x4 : x4 = (I_y_17 1) v1_17.toNatClampNeg := e_x4
        have g_x4 : x4.toInt = ((I_y_17 1) v1_17.toNatClampNeg).toInt := congrArg _ e_x4
        refine lv_aload_n hx hb dX1_leastRaggedness_27 rfl (lv_at hl 1 rfl) ?_
        refine va_get (D := g.1) (ci := 1) (v := .int (I_y_17 0 7)) (C := RX1) (T := TX1) (N := 9) hx hb hi_X1 (fun _ h => h) hown hK.1 hP 0 rfl rfl 7 (by decide) hf_34 (fun _ h9 => h9) rfl dX1_leastRaggedness_28 ?_
        refine q_icmp_le (tgt := 36) hx hb dX1_leastRaggedness_31 (by decide) rfl rfl (fun k_31 => ?_) (fun k_31 => ?_)
        · refine lv_aload_n hx hb dX1_leastRaggedness_36 rfl (lv_at hl 1 rfl) ?_
          refine va_get (D := g.1) (ci := 1) (v := .ref (a_y 6)) (C := RX1) (T := TX1) (N := 9) hx hb hi_X1 (fun _ h => h) hown hK.1 hP 0 rfl rfl 8 (by decide) hf_37 (fun _ h9 => h9) rfl dX1_leastRaggedness_37 ?_
          refine lv_iload_n hx hb dX1_leastRaggedness_40 rfl (lv_at hl 0 rfl) ?_
          refine lv_aload_n hx hb dX1_leastRaggedness_41 rfl (lv_at hl 1 rfl) ?_
          refine lv_iload_n hx hb dX1_leastRaggedness_42 rfl (lv_at hl 0 rfl) ?_
          refine PurI.cv (As := [.int v1_17]) (kX1_leastFrom l g a_y I_y_17 v1_17 hL_17 (by omega)) fx (gUV (uT _) u_1287 u_1288 u_1289 u_45 u_1290) rfl hdX1_leastFrom ⟨Nat.le_of_ble_eq_true rfl, Nat.le_of_ble_eq_true rfl⟩ hK hP [0, 1, 2, 3, 4, 5, 6] rfl rfl rfl rfl rfl hl.1 (Nat.le_of_ble_eq_true rfl) dX1_leastRaggedness_43 (fun r5 p_r5 => ?_)
          have n_46 : vp_in v1_17 151 := (t_in (by omega))
          obtain ⟨f6, e_f6⟩ : ∃ z, z = upd (I_y_17 6) v1_17.toNatClampNeg r5 := ⟨_, rfl⟩
          refine va_iast hx hb hK.1 hP hD hS 6 0 rfl rfl n_46 dX1_leastRaggedness_46 (fun H locs hP hD hS => ?_)
          have hP : va_P g.1 vwCl (wX1 g a_y (uR I_y_17 6 f6)) H := by rw [e_f6]; exact hP
          have hD : va_D A (wX1 g a_y (uR I_y_17 6 f6)) := by rw [e_f6]; exact hD
          have hc_46 : LI (uR I_y_17 6 f6) := LI.of hL_17 (LI.pc hL_17) rfl rfl rfl rfl rfl
          refine r_iinc (lv' := fun i7 => [(1, .int i7), (0, .ref (a_y 0))]) hx hb dX1_leastRaggedness_47 hl (k := 0) rfl (by decide) rfl (by decide) (fun _ => rfl) (fun i7 e_i7 t_i7 ls hl => ?_)
          try have t_i7 := t_i7 (by omega)
          refine lv_goto (tgt := 17) hx hb dX1_leastRaggedness_50 (by decide) ?_
          exact ih_17 i7 (uR I_y_17 6 f6) (by omega) hc_46 (by omega) _ _ hP hD hS ls hl
        · refine lv_iconst (v := -1) hx hb dX1_leastRaggedness_34 (by decide) ?_
          refine hret 35 ls (-1 : Int32) _ _ I_y_17 dX1_leastRaggedness_35 hS hP hD ?_
          exact hL_17
  exact L17 ((x2.toInt + 1) + 1).toNat x2 (uR I_y 6 f1) (by omega) hc_9 (by omega) _ _ hP hD hS ls hl

set_option maxHeartbeats 4000000 in
set_option maxRecDepth 100000 in
theorem kX1_layLines (l : Launch) (g : gG) (a_y : Nat → Nat) (I_y : Nat → Nat → Int32) (fr : Int32) (many : Int32) (hyp : Int32) (hL : LI I_y) (h_f : 0 ≤ fr.toInt ∧ 0 ≤ many.toInt ∧ fr.toInt + many.toInt ≤ 1200) (h_e : LE2 I_y fr.toInt) : EffV l g yX1_layLines wsX1_layLines 1 [.ref (a_y 0), .int fr, .int many, .int hyp] (wX1 g a_y I_y) (fun (u : (Nat → Nat → Int32)) => wX1 g a_y u) (fun (u : (Nat → Nat → Int32)) => LI (u) ∧ sameB 6 6 I_y (u) ∧ LE2 (u) (fr.toInt + many.toInt)) := by
  refine EffV.st (cc := cX1_layLines) (maxL := 7) (by decide) rfl (Nat.le_of_ble_eq_true rfl) (fun p e s m args below meth c A Q ls fx hK hP hD hA hS hl hret => ?_)
  have hx := fx.1
  have hb := fx.2.1
  have hml := fx.2.2.1
  have hown := fx.2.2.2.1
  have hts := fx.2.2.2.2
  have hl : lv_has ls 7 [(0, .ref (a_y 0)), (1, .int fr), (2, .int many), (3, .int hyp)] := hl
  have hP : va_P g.1 vwCl (wX1 g a_y I_y) s.heap := hP
  have hf_34 := hts _ (uT _ _ u_128)
  have hi_X1 : ∀ w ∈ wsX10, w.before args s = true := fun w h => hts w (uT _ w (u_wsX10 w h))
  have lm1 : (-1 : Int32).toInt = -1 := by decide
  have lm0 : (0 : Int32).toInt = 0 := by decide
  have lm2 : (1 : Int32).toInt = 1 := by decide
  have hpc := LI.pc hL
  have hln := LI.ln hL
  have hwd := LI.wd hL
  refine lv_iconst (v := 1) hx hb dX1_layLines_0 (by decide) ?_
  refine lv_iload_n hx hb dX1_layLines_1 rfl (lv_at hl 3 rfl) ?_
  refine q_if_eq (tgt := 14) hx hb dX1_layLines_2 (by decide) rfl (fun b_2 k_2 => ?_) (fun b_2 k_2 => ?_)
  · refine lv_aload_n hx hb dX1_layLines_14 rfl (lv_at hl 0 rfl) ?_
    refine va_get (D := g.1) (ci := 1) (v := .int (I_y 0 7)) (C := RX1) (T := TX1) (N := 9) hx hb hi_X1 (fun _ h => h) hown hK.1 hP 0 rfl rfl 7 (by decide) hf_34 (fun _ h9 => h9) rfl dX1_layLines_15 ?_
    refine va_mmax hx hb (hml.trans hl.1.symm) hown (hts _ (uT _ _ u_687)) (hts _ (uT _ _ u_688)) (hts _ (uT _ _ u_524)) (hts _ (uT _ _ u_689)) (Nat.le_of_ble_eq_true rfl) (Nat.le_of_ble_eq_true rfl) (Nat.zero_le _) (Nat.zero_le _) dX1_layLines_18 ?_
    refine q_nm (fun x1 e_x1 => ?_)
    have t_x1 := t_max e_x1 (by decide : (1 : Int32).toInt = 1) rfl
    refine lv_istore (lv' := [(4, .int x1), (0, .ref (a_y 0)), (1, .int fr), (2, .int many), (3, .int hyp)]) hx hb dX1_layLines_21 hl (by decide) rfl (fun ls hl => ?_)
    refine lv_iload_n hx hb dX1_layLines_23 rfl (lv_at hl 2 rfl) ?_
    refine lv_istore (lv' := [(5, .int fr), (4, .int x1), (0, .ref (a_y 0)), (1, .int fr), (2, .int many), (3, .int hyp)]) hx hb dX1_layLines_24 hl (by decide) rfl (fun ls hl => ?_)
    refine lv_iload_n hx hb dX1_layLines_26 rfl (lv_at hl 4 rfl) ?_
    refine lv_istore (lv' := [(6, .int many), (5, .int fr), (4, .int x1), (0, .ref (a_y 0)), (1, .int fr), (2, .int many), (3, .int hyp)]) hx hb dX1_layLines_27 hl (by decide) rfl (fun ls hl => ?_)
    have L29 : ∀ (nn : Nat) (v5_29 : Int32) (v6_29 : Int32) (I_y_29 : Nat → Nat → Int32), (hL_29 : LI I_y_29) → (hs_29 : sameB 6 6 I_y I_y_29) → (he_29 : LE2 I_y_29 v5_29.toInt) → (hv_29 : 0 ≤ v5_29.toInt ∧ 0 ≤ v6_29.toInt ∧ v5_29.toInt + v6_29.toInt = fr.toInt + many.toInt) → ((v6_29.toInt + 1) < (nn : Int)) → ∀ (H : Heap) (locs : List Loc), va_P g.1 vwCl (wX1 g a_y I_y_29) H → va_D A (wX1 g a_y I_y_29) → va_S A s.heap H locs → ∀ ls : Array Slot, lv_has ls 7 [(6, .int v6_29), (5, .int v5_29), (4, .int x1), (0, .ref (a_y 0)), (1, .int fr), (2, .int many), (3, .int hyp)] → W p l e (rm 1) s m args below meth c H locs 0 0 Q (F0 m 29 ls []) := by
      intro n_29
      induction n_29 with
      | zero =>
        intro v5_29 v6_29 I_y_29 hL_29 hs_29 he_29 hv_29 hms_29 H locs hP hD hS ls hl
        exfalso; omega
      | succ n_29 ih_29 =>
        intro v5_29 v6_29 I_y_29 hL_29 hs_29 he_29 hv_29 hms_29 H locs hP hD hS ls hl
        have hw29 := congrArg Int32.toInt (hs_29 7 (by decide) (by decide))
        refine lv_iload hx hb dX1_layLines_29 (lv_at hl 0 rfl) ?_
        refine lv_aload_n hx hb dX1_layLines_31 rfl (lv_at hl 3 rfl) ?_
        refine va_get (D := g.1) (ci := 1) (v := .int (I_y_29 0 7)) (C := RX1) (T := TX1) (N := 9) hx hb hi_X1 (fun _ h => h) hown hK.1 hP 0 rfl rfl 7 (by decide) hf_34 (fun _ h9 => h9) rfl dX1_layLines_32 ?_
        refine q_icmp_le (tgt := 72) hx hb dX1_layLines_35 (by decide) rfl rfl (fun k_35 => ?_) (fun k_35 => ?_)
        · refine lv_aload_n hx hb dX1_layLines_72 rfl (lv_at hl 3 rfl) ?_
          refine lv_iload hx hb dX1_layLines_73 (lv_at hl 1 rfl) ?_
          refine lv_iload hx hb dX1_layLines_75 (lv_at hl 0 rfl) ?_
          refine lv_iconst (v := 0) hx hb dX1_layLines_77 (by decide) ?_
          refine EffV.cv (wr := ([])) (w' := fun u3 => wX1 g a_y u3) (As := [.int v5_29, .int v6_29, .int (0 : Int32)]) (kX1_addLine l g a_y I_y_29 v5_29 v6_29 (0 : Int32) hL_29 (by omega)) fx (gUV (uT _) u_690 u_691 u_692 u_45 u_693) rfl hdX1_addLine ⟨Nat.le_of_ble_eq_true rfl, Nat.le_of_ble_eq_true rfl⟩ hK hP hD hS hA [0, 1, 2, 3, 4, 5, 6] [] [0, 1, 2, 3, 4, 5, 6] rfl rfl rfl rfl (by decide) rfl (fun _ => rfl) rfl rfl rfl rfl hl.1 (Nat.le_of_ble_eq_true rfl) dX1_layLines_78 (fun u3 H locs p_r2 hP hD hS => ?_)
          have hP : va_P g.1 vwCl (wX1 g a_y u3) H := hP
          have hD : va_D A (wX1 g a_y u3) := hD
          refine hret 81 ls _ _ u3 dX1_layLines_81 hS hP hD ?_
          exact ⟨p_r2.1, hs_29.tr p_r2.2.1, (p_r2.2.2 he_29).mono (by omega)⟩
        · refine lv_aload_n hx hb dX1_layLines_38 rfl (lv_at hl 3 rfl) ?_
          refine lv_iload hx hb dX1_layLines_39 (lv_at hl 1 rfl) ?_
          refine lv_iload hx hb dX1_layLines_41 (lv_at hl 2 rfl) ?_
          refine lv_iload_n hx hb dX1_layLines_43 rfl (lv_at hl 6 rfl) ?_
          refine q_if_eq (tgt := 51) hx hb dX1_layLines_44 (by decide) rfl (fun b_44 k_44 => ?_) (fun b_44 k_44 => ?_)
          · refine lv_iconst (v := 0) hx hb dX1_layLines_51 (by decide) ?_
            refine EffV.cv (wr := ([])) (w' := fun u5 => wX1 g a_y u5) (As := [.int v5_29, .int x1, .int (0 : Int32)]) (kX1_addLine l g a_y I_y_29 v5_29 x1 (0 : Int32) hL_29 (by omega)) fx (gUV (uT _) u_690 u_691 u_692 u_45 u_693) rfl hdX1_addLine ⟨Nat.le_of_ble_eq_true rfl, Nat.le_of_ble_eq_true rfl⟩ hK hP hD hS hA [0, 1, 2, 3, 4, 5, 6] [] [0, 1, 2, 3, 4, 5, 6] rfl rfl rfl rfl (by decide) rfl (fun _ => rfl) rfl rfl rfl rfl hl.1 (Nat.le_of_ble_eq_true rfl) dX1_layLines_52 (fun u5 H locs p_r4 hP hD hS => ?_)
            have hP : va_P g.1 vwCl (wX1 g a_y u5) H := hP
            have hD : va_D A (wX1 g a_y u5) := hD
            refine lv_iload hx hb dX1_layLines_55 (lv_at hl 1 rfl) ?_
            refine lv_iload hx hb dX1_layLines_57 (lv_at hl 2 rfl) ?_
            refine r_iadd hx hb dX1_layLines_59 rfl rfl (fun x6 e_x6 t_x6 => ?_)
            try have t_x6 := t_x6 (by omega)
            refine lv_istore (lv' := [(5, .int x6), (6, .int v6_29), (4, .int x1), (0, .ref (a_y 0)), (1, .int fr), (2, .int many), (3, .int hyp)]) hx hb dX1_layLines_60 hl (by decide) rfl (fun ls hl => ?_)
            refine lv_iload hx hb dX1_layLines_62 (lv_at hl 1 rfl) ?_
            refine lv_iload hx hb dX1_layLines_64 (lv_at hl 2 rfl) ?_
            refine r_isub hx hb dX1_layLines_66 rfl rfl (fun x7 e_x7 t_x7 => ?_)
            try have t_x7 := t_x7 (by omega)
            refine lv_istore (lv' := [(6, .int x7), (5, .int x6), (4, .int x1), (0, .ref (a_y 0)), (1, .int fr), (2, .int many), (3, .int hyp)]) hx hb dX1_layLines_67 hl (by decide) rfl (fun ls hl => ?_)
            refine lv_goto (tgt := 29) hx hb dX1_layLines_69 (by decide) ?_
            exact ih_29 x6 x7 u5 p_r4.1 (hs_29.tr p_r4.2.1) ((p_r4.2.2 he_29).mono (by omega)) (by omega) (by omega) _ _ hP hD hS ls hl
          · refine lv_iconst (v := 1) hx hb dX1_layLines_47 (by decide) ?_
            refine lv_goto (tgt := 52) hx hb dX1_layLines_48 (by decide) ?_
            refine EffV.cv (wr := ([])) (w' := fun u9 => wX1 g a_y u9) (As := [.int v5_29, .int x1, .int (1 : Int32)]) (kX1_addLine l g a_y I_y_29 v5_29 x1 (1 : Int32) hL_29 (by omega)) fx (gUV (uT _) u_690 u_691 u_692 u_45 u_693) rfl hdX1_addLine ⟨Nat.le_of_ble_eq_true rfl, Nat.le_of_ble_eq_true rfl⟩ hK hP hD hS hA [0, 1, 2, 3, 4, 5, 6] [] [0, 1, 2, 3, 4, 5, 6] rfl rfl rfl rfl (by decide) rfl (fun _ => rfl) rfl rfl rfl rfl hl.1 (Nat.le_of_ble_eq_true rfl) dX1_layLines_52 (fun u9 H locs p_r8 hP hD hS => ?_)
            have hP : va_P g.1 vwCl (wX1 g a_y u9) H := hP
            have hD : va_D A (wX1 g a_y u9) := hD
            refine lv_iload hx hb dX1_layLines_55 (lv_at hl 1 rfl) ?_
            refine lv_iload hx hb dX1_layLines_57 (lv_at hl 2 rfl) ?_
            refine r_iadd hx hb dX1_layLines_59 rfl rfl (fun x10 e_x10 t_x10 => ?_)
            try have t_x10 := t_x10 (by omega)
            refine lv_istore (lv' := [(5, .int x10), (6, .int v6_29), (4, .int x1), (0, .ref (a_y 0)), (1, .int fr), (2, .int many), (3, .int hyp)]) hx hb dX1_layLines_60 hl (by decide) rfl (fun ls hl => ?_)
            refine lv_iload hx hb dX1_layLines_62 (lv_at hl 1 rfl) ?_
            refine lv_iload hx hb dX1_layLines_64 (lv_at hl 2 rfl) ?_
            refine r_isub hx hb dX1_layLines_66 rfl rfl (fun x11 e_x11 t_x11 => ?_)
            try have t_x11 := t_x11 (by omega)
            refine lv_istore (lv' := [(6, .int x11), (5, .int x10), (4, .int x1), (0, .ref (a_y 0)), (1, .int fr), (2, .int many), (3, .int hyp)]) hx hb dX1_layLines_67 hl (by decide) rfl (fun ls hl => ?_)
            refine lv_goto (tgt := 29) hx hb dX1_layLines_69 (by decide) ?_
            exact ih_29 x10 x11 u9 p_r8.1 (hs_29.tr p_r8.2.1) ((p_r8.2.2 he_29).mono (by omega)) (by omega) (by omega) _ _ hP hD hS ls hl
    exact L29 ((many.toInt + 1) + 1).toNat fr many I_y hL (sameB.rf _ _ _) h_e (by omega) (by omega) _ _ hP hD hS ls hl
  · refine lv_aload_n hx hb dX1_layLines_5 rfl (lv_at hl 0 rfl) ?_
    refine va_get (D := g.1) (ci := 1) (v := .int (I_y 0 7)) (C := RX1) (T := TX1) (N := 9) hx hb hi_X1 (fun _ h => h) hown hK.1 hP 0 rfl rfl 7 (by decide) hf_34 (fun _ h9 => h9) rfl dX1_layLines_6 ?_
    refine lv_iconst (v := 1) hx hb dX1_layLines_9 (by decide) ?_
    refine r_isub hx hb dX1_layLines_10 rfl (by decide : (1 : Int32).toInt = 1) (fun x12 e_x12 t_x12 => ?_)
    try have t_x12 := t_x12 (by omega)
    refine lv_goto (tgt := 18) hx hb dX1_layLines_11 (by decide) ?_
    refine va_mmax hx hb (hml.trans hl.1.symm) hown (hts _ (uT _ _ u_687)) (hts _ (uT _ _ u_688)) (hts _ (uT _ _ u_524)) (hts _ (uT _ _ u_689)) (Nat.le_of_ble_eq_true rfl) (Nat.le_of_ble_eq_true rfl) (Nat.zero_le _) (Nat.zero_le _) dX1_layLines_18 ?_
    refine q_nm (fun x13 e_x13 => ?_)
    have t_x13 := t_max e_x13 (by decide : (1 : Int32).toInt = 1) rfl
    refine lv_istore (lv' := [(4, .int x13), (0, .ref (a_y 0)), (1, .int fr), (2, .int many), (3, .int hyp)]) hx hb dX1_layLines_21 hl (by decide) rfl (fun ls hl => ?_)
    refine lv_iload_n hx hb dX1_layLines_23 rfl (lv_at hl 2 rfl) ?_
    refine lv_istore (lv' := [(5, .int fr), (4, .int x13), (0, .ref (a_y 0)), (1, .int fr), (2, .int many), (3, .int hyp)]) hx hb dX1_layLines_24 hl (by decide) rfl (fun ls hl => ?_)
    refine lv_iload_n hx hb dX1_layLines_26 rfl (lv_at hl 4 rfl) ?_
    refine lv_istore (lv' := [(6, .int many), (5, .int fr), (4, .int x13), (0, .ref (a_y 0)), (1, .int fr), (2, .int many), (3, .int hyp)]) hx hb dX1_layLines_27 hl (by decide) rfl (fun ls hl => ?_)
    have L29 : ∀ (nn : Nat) (v5_29 : Int32) (v6_29 : Int32) (I_y_29 : Nat → Nat → Int32), (hL_29 : LI I_y_29) → (hs_29 : sameB 6 6 I_y I_y_29) → (he_29 : LE2 I_y_29 v5_29.toInt) → (hv_29 : 0 ≤ v5_29.toInt ∧ 0 ≤ v6_29.toInt ∧ v5_29.toInt + v6_29.toInt = fr.toInt + many.toInt) → ((v6_29.toInt + 1) < (nn : Int)) → ∀ (H : Heap) (locs : List Loc), va_P g.1 vwCl (wX1 g a_y I_y_29) H → va_D A (wX1 g a_y I_y_29) → va_S A s.heap H locs → ∀ ls : Array Slot, lv_has ls 7 [(6, .int v6_29), (5, .int v5_29), (4, .int x13), (0, .ref (a_y 0)), (1, .int fr), (2, .int many), (3, .int hyp)] → W p l e (rm 1) s m args below meth c H locs 0 0 Q (F0 m 29 ls []) := by
      intro n_29
      induction n_29 with
      | zero =>
        intro v5_29 v6_29 I_y_29 hL_29 hs_29 he_29 hv_29 hms_29 H locs hP hD hS ls hl
        exfalso; omega
      | succ n_29 ih_29 =>
        intro v5_29 v6_29 I_y_29 hL_29 hs_29 he_29 hv_29 hms_29 H locs hP hD hS ls hl
        have hw29 := congrArg Int32.toInt (hs_29 7 (by decide) (by decide))
        refine lv_iload hx hb dX1_layLines_29 (lv_at hl 0 rfl) ?_
        refine lv_aload_n hx hb dX1_layLines_31 rfl (lv_at hl 3 rfl) ?_
        refine va_get (D := g.1) (ci := 1) (v := .int (I_y_29 0 7)) (C := RX1) (T := TX1) (N := 9) hx hb hi_X1 (fun _ h => h) hown hK.1 hP 0 rfl rfl 7 (by decide) hf_34 (fun _ h9 => h9) rfl dX1_layLines_32 ?_
        refine q_icmp_le (tgt := 72) hx hb dX1_layLines_35 (by decide) rfl rfl (fun k_35 => ?_) (fun k_35 => ?_)
        · refine lv_aload_n hx hb dX1_layLines_72 rfl (lv_at hl 3 rfl) ?_
          refine lv_iload hx hb dX1_layLines_73 (lv_at hl 1 rfl) ?_
          refine lv_iload hx hb dX1_layLines_75 (lv_at hl 0 rfl) ?_
          refine lv_iconst (v := 0) hx hb dX1_layLines_77 (by decide) ?_
          refine EffV.cv (wr := ([])) (w' := fun u15 => wX1 g a_y u15) (As := [.int v5_29, .int v6_29, .int (0 : Int32)]) (kX1_addLine l g a_y I_y_29 v5_29 v6_29 (0 : Int32) hL_29 (by omega)) fx (gUV (uT _) u_690 u_691 u_692 u_45 u_693) rfl hdX1_addLine ⟨Nat.le_of_ble_eq_true rfl, Nat.le_of_ble_eq_true rfl⟩ hK hP hD hS hA [0, 1, 2, 3, 4, 5, 6] [] [0, 1, 2, 3, 4, 5, 6] rfl rfl rfl rfl (by decide) rfl (fun _ => rfl) rfl rfl rfl rfl hl.1 (Nat.le_of_ble_eq_true rfl) dX1_layLines_78 (fun u15 H locs p_r14 hP hD hS => ?_)
          have hP : va_P g.1 vwCl (wX1 g a_y u15) H := hP
          have hD : va_D A (wX1 g a_y u15) := hD
          refine hret 81 ls _ _ u15 dX1_layLines_81 hS hP hD ?_
          exact ⟨p_r14.1, hs_29.tr p_r14.2.1, (p_r14.2.2 he_29).mono (by omega)⟩
        · refine lv_aload_n hx hb dX1_layLines_38 rfl (lv_at hl 3 rfl) ?_
          refine lv_iload hx hb dX1_layLines_39 (lv_at hl 1 rfl) ?_
          refine lv_iload hx hb dX1_layLines_41 (lv_at hl 2 rfl) ?_
          refine lv_iload_n hx hb dX1_layLines_43 rfl (lv_at hl 6 rfl) ?_
          refine q_if_eq (tgt := 51) hx hb dX1_layLines_44 (by decide) rfl (fun b_44 k_44 => ?_) (fun b_44 k_44 => ?_)
          · refine lv_iconst (v := 0) hx hb dX1_layLines_51 (by decide) ?_
            refine EffV.cv (wr := ([])) (w' := fun u17 => wX1 g a_y u17) (As := [.int v5_29, .int x13, .int (0 : Int32)]) (kX1_addLine l g a_y I_y_29 v5_29 x13 (0 : Int32) hL_29 (by omega)) fx (gUV (uT _) u_690 u_691 u_692 u_45 u_693) rfl hdX1_addLine ⟨Nat.le_of_ble_eq_true rfl, Nat.le_of_ble_eq_true rfl⟩ hK hP hD hS hA [0, 1, 2, 3, 4, 5, 6] [] [0, 1, 2, 3, 4, 5, 6] rfl rfl rfl rfl (by decide) rfl (fun _ => rfl) rfl rfl rfl rfl hl.1 (Nat.le_of_ble_eq_true rfl) dX1_layLines_52 (fun u17 H locs p_r16 hP hD hS => ?_)
            have hP : va_P g.1 vwCl (wX1 g a_y u17) H := hP
            have hD : va_D A (wX1 g a_y u17) := hD
            refine lv_iload hx hb dX1_layLines_55 (lv_at hl 1 rfl) ?_
            refine lv_iload hx hb dX1_layLines_57 (lv_at hl 2 rfl) ?_
            refine r_iadd hx hb dX1_layLines_59 rfl rfl (fun x18 e_x18 t_x18 => ?_)
            try have t_x18 := t_x18 (by omega)
            refine lv_istore (lv' := [(5, .int x18), (6, .int v6_29), (4, .int x13), (0, .ref (a_y 0)), (1, .int fr), (2, .int many), (3, .int hyp)]) hx hb dX1_layLines_60 hl (by decide) rfl (fun ls hl => ?_)
            refine lv_iload hx hb dX1_layLines_62 (lv_at hl 1 rfl) ?_
            refine lv_iload hx hb dX1_layLines_64 (lv_at hl 2 rfl) ?_
            refine r_isub hx hb dX1_layLines_66 rfl rfl (fun x19 e_x19 t_x19 => ?_)
            try have t_x19 := t_x19 (by omega)
            refine lv_istore (lv' := [(6, .int x19), (5, .int x18), (4, .int x13), (0, .ref (a_y 0)), (1, .int fr), (2, .int many), (3, .int hyp)]) hx hb dX1_layLines_67 hl (by decide) rfl (fun ls hl => ?_)
            refine lv_goto (tgt := 29) hx hb dX1_layLines_69 (by decide) ?_
            exact ih_29 x18 x19 u17 p_r16.1 (hs_29.tr p_r16.2.1) ((p_r16.2.2 he_29).mono (by omega)) (by omega) (by omega) _ _ hP hD hS ls hl
          · refine lv_iconst (v := 1) hx hb dX1_layLines_47 (by decide) ?_
            refine lv_goto (tgt := 52) hx hb dX1_layLines_48 (by decide) ?_
            refine EffV.cv (wr := ([])) (w' := fun u21 => wX1 g a_y u21) (As := [.int v5_29, .int x13, .int (1 : Int32)]) (kX1_addLine l g a_y I_y_29 v5_29 x13 (1 : Int32) hL_29 (by omega)) fx (gUV (uT _) u_690 u_691 u_692 u_45 u_693) rfl hdX1_addLine ⟨Nat.le_of_ble_eq_true rfl, Nat.le_of_ble_eq_true rfl⟩ hK hP hD hS hA [0, 1, 2, 3, 4, 5, 6] [] [0, 1, 2, 3, 4, 5, 6] rfl rfl rfl rfl (by decide) rfl (fun _ => rfl) rfl rfl rfl rfl hl.1 (Nat.le_of_ble_eq_true rfl) dX1_layLines_52 (fun u21 H locs p_r20 hP hD hS => ?_)
            have hP : va_P g.1 vwCl (wX1 g a_y u21) H := hP
            have hD : va_D A (wX1 g a_y u21) := hD
            refine lv_iload hx hb dX1_layLines_55 (lv_at hl 1 rfl) ?_
            refine lv_iload hx hb dX1_layLines_57 (lv_at hl 2 rfl) ?_
            refine r_iadd hx hb dX1_layLines_59 rfl rfl (fun x22 e_x22 t_x22 => ?_)
            try have t_x22 := t_x22 (by omega)
            refine lv_istore (lv' := [(5, .int x22), (6, .int v6_29), (4, .int x13), (0, .ref (a_y 0)), (1, .int fr), (2, .int many), (3, .int hyp)]) hx hb dX1_layLines_60 hl (by decide) rfl (fun ls hl => ?_)
            refine lv_iload hx hb dX1_layLines_62 (lv_at hl 1 rfl) ?_
            refine lv_iload hx hb dX1_layLines_64 (lv_at hl 2 rfl) ?_
            refine r_isub hx hb dX1_layLines_66 rfl rfl (fun x23 e_x23 t_x23 => ?_)
            try have t_x23 := t_x23 (by omega)
            refine lv_istore (lv' := [(6, .int x23), (5, .int x22), (4, .int x13), (0, .ref (a_y 0)), (1, .int fr), (2, .int many), (3, .int hyp)]) hx hb dX1_layLines_67 hl (by decide) rfl (fun ls hl => ?_)
            refine lv_goto (tgt := 29) hx hb dX1_layLines_69 (by decide) ?_
            exact ih_29 x22 x23 u21 p_r20.1 (hs_29.tr p_r20.2.1) ((p_r20.2.2 he_29).mono (by omega)) (by omega) (by omega) _ _ hP hD hS ls hl
    exact L29 ((many.toInt + 1) + 1).toNat fr many I_y hL (sameB.rf _ _ _) h_e (by omega) (by omega) _ _ hP hD hS ls hl

set_option maxHeartbeats 4000000 in
set_option maxRecDepth 100000 in
theorem kX1_layPiece (l : Launch) (g : gG) (a_y : Nat → Nat) (I_y : Nat → Nat → Int32) (fr : Int32) (many : Int32) (hyp : Int32) (hL : LI I_y) (h_f : 0 ≤ fr.toInt ∧ 0 ≤ many.toInt ∧ fr.toInt + many.toInt ≤ 1200) (h_e : LE2 I_y (fr.toInt - 1)) : EffV l g yX1_layPiece wsX1_layPiece 2 [.ref (a_y 0), .int fr, .int many, .int hyp] (wX1 g a_y I_y) (fun (u : (Nat → Nat → Int32)) => wX1 g a_y u) (fun (u : (Nat → Nat → Int32)) => LI (u) ∧ LE2 (u) (fr.toInt + many.toInt)) := by
  refine EffV.st (cc := cX1_layPiece) (maxL := 5) (by decide) rfl (Nat.le_of_ble_eq_true rfl) (fun p e s m args below meth c A Q ls fx hK hP hD hA hS hl hret => ?_)
  have hx := fx.1
  have hb := fx.2.1
  have hml := fx.2.2.1
  have hown := fx.2.2.2.1
  have hts := fx.2.2.2.2
  have hl : lv_has ls 5 [(0, .ref (a_y 0)), (1, .int fr), (2, .int many), (3, .int hyp)] := hl
  have hP : va_P g.1 vwCl (wX1 g a_y I_y) s.heap := hP
  have hf_9 := hts _ (uT _ _ u_121)
  have hf_15 := hts _ (uT _ _ u_122)
  have hf_18 := hts _ (uT _ _ u_123)
  have hf_25 := hts _ (uT _ _ u_125)
  have hf_31 := hts _ (uT _ _ u_127)
  have hf_34 := hts _ (uT _ _ u_128)
  have hi_X1 : ∀ w ∈ wsX10, w.before args s = true := fun w h => hts w (uT _ w (u_wsX10 w h))
  have lm1 : (-1 : Int32).toInt = -1 := by decide
  have lm0 : (0 : Int32).toInt = 0 := by decide
  have lm2 : (1 : Int32).toInt = 1 := by decide
  have hpc := LI.pc hL
  have hln := LI.ln hL
  have hwd := LI.wd hL
  refine lv_aload_n hx hb dX1_layPiece_0 rfl (lv_at hl 0 rfl) ?_
  refine va_get (D := g.1) (ci := 1) (v := .int (I_y 0 2)) (C := RX1) (T := TX1) (N := 9) hx hb hi_X1 (fun _ h => h) hown hK.1 hP 0 rfl rfl 2 (by decide) hf_18 (fun _ h9 => h9) rfl dX1_layPiece_1 ?_
  refine lv_sipush (v := 150) hx hb dX1_layPiece_4 (by decide) ?_
  refine q_icmp_lt (tgt := 11) hx hb dX1_layPiece_7 (by decide) rfl (by decide : (150 : Int32).toInt = 150) (fun k_7 => ?_) (fun k_7 => ?_)
  · refine lv_aload_n hx hb dX1_layPiece_11 rfl (lv_at hl 0 rfl) ?_
    refine va_get (D := g.1) (ci := 1) (v := .ref (a_y 1)) (C := RX1) (T := TX1) (N := 9) hx hb hi_X1 (fun _ h => h) hown hK.1 hP 0 rfl rfl 0 (by decide) hf_9 (fun _ h9 => h9) rfl dX1_layPiece_12 ?_
    refine lv_aload_n hx hb dX1_layPiece_15 rfl (lv_at hl 0 rfl) ?_
    refine va_get (D := g.1) (ci := 1) (v := .int (I_y 0 2)) (C := RX1) (T := TX1) (N := 9) hx hb hi_X1 (fun _ h => h) hown hK.1 hP 0 rfl rfl 2 (by decide) hf_18 (fun _ h9 => h9) rfl dX1_layPiece_16 ?_
    refine lv_iload_n hx hb dX1_layPiece_19 rfl (lv_at hl 2 rfl) ?_
    have n_20 : vp_in (I_y 0 2) 150 := (t_in (by omega))
    obtain ⟨f1, e_f1⟩ : ∃ z, z = upd (I_y 1) (I_y 0 2).toNatClampNeg many := ⟨_, rfl⟩
    refine va_iast hx hb hK.1 hP hD hS 1 0 rfl rfl n_20 dX1_layPiece_20 (fun H locs hP hD hS => ?_)
    have hP : va_P g.1 vwCl (wX1 g a_y (uR I_y 1 f1)) H := by rw [e_f1]; exact hP
    have hD : va_D A (wX1 g a_y (uR I_y 1 f1)) := by rw [e_f1]; exact hD
    have hc_20 : LI (uR I_y 1 f1) := LI.of hL hpc rfl rfl rfl rfl rfl
    refine lv_aload_n hx hb dX1_layPiece_21 rfl (lv_at hl 0 rfl) ?_
    refine va_get (D := g.1) (ci := 1) (v := .int (I_y 0 6)) (C := RX1) (T := TX1) (N := 9) hx hb hi_X1 (fun _ h => h) hown hK.1 hP 0 rfl rfl 6 (by decide) hf_31 (fun _ h9 => h9) rfl dX1_layPiece_22 ?_
    refine lv_iconst (v := 1) hx hb dX1_layPiece_25 (by decide) ?_
    refine r_isub hx hb dX1_layPiece_26 rfl (by decide : (1 : Int32).toInt = 1) (fun x2 e_x2 t_x2 => ?_)
    try have t_x2 := t_x2 (by omega)
    refine lv_istore (lv' := [(4, .int x2), (0, .ref (a_y 0)), (1, .int fr), (2, .int many), (3, .int hyp)]) hx hb dX1_layPiece_27 hl (by decide) rfl (fun ls hl => ?_)
    refine lv_iload hx hb dX1_layPiece_29 (lv_at hl 0 rfl) ?_
    refine q_if_lt (tgt := 79) hx hb dX1_layPiece_31 (by decide) rfl (fun k_31 => ?_) (fun k_31 => ?_)
    · refine lv_aload_n hx hb dX1_layPiece_79 rfl (lv_at hl 1 rfl) ?_
      refine va_get (D := g.1) (ci := 1) (v := .ref (a_y 2)) (C := RX1) (T := TX1) (N := 9) hx hb hi_X1 (fun _ h => h) hown hK.1 hP 0 rfl rfl 1 (by decide) hf_15 (fun _ h9 => h9) rfl dX1_layPiece_80 ?_
      refine lv_aload_n hx hb dX1_layPiece_83 rfl (lv_at hl 1 rfl) ?_
      refine va_get (D := g.1) (ci := 1) (v := .int (I_y 0 2)) (C := RX1) (T := TX1) (N := 9) hx hb hi_X1 (fun _ h => h) hown hK.1 hP 0 rfl rfl 2 (by decide) hf_18 (fun _ h9 => h9) rfl dX1_layPiece_84 ?_
      refine lv_aload_n hx hb dX1_layPiece_87 rfl (lv_at hl 1 rfl) ?_
      refine va_get (D := g.1) (ci := 1) (v := .int (I_y 0 6)) (C := RX1) (T := TX1) (N := 9) hx hb hi_X1 (fun _ h => h) hown hK.1 hP 0 rfl rfl 6 (by decide) hf_31 (fun _ h9 => h9) rfl dX1_layPiece_88 ?_
      have n_91 : vp_in (I_y 0 2) 150 := (t_in (by omega))
      obtain ⟨f3, e_f3⟩ : ∃ z, z = upd (I_y 2) (I_y 0 2).toNatClampNeg (I_y 0 6) := ⟨_, rfl⟩
      refine va_iast hx hb hK.1 hP hD hS 2 0 rfl rfl n_91 dX1_layPiece_91 (fun H locs hP hD hS => ?_)
      have hP : va_P g.1 vwCl (wX1 g a_y (uR (uR I_y 1 f1) 2 f3)) H := by rw [e_f3]; exact hP
      have hD : va_D A (wX1 g a_y (uR (uR I_y 1 f1) 2 f3)) := by rw [e_f3]; exact hD
      have hc_91 : LI (uR (uR I_y 1 f1) 2 f3) := LI.of hL hpc rfl rfl rfl rfl rfl
      refine lv_aload_n hx hb dX1_layPiece_92 rfl (lv_at hl 1 rfl) ?_
      refine lv_iload_n hx hb dX1_layPiece_93 rfl (lv_at hl 2 rfl) ?_
      refine lv_iload_n hx hb dX1_layPiece_94 rfl (lv_at hl 3 rfl) ?_
      refine lv_iload_n hx hb dX1_layPiece_95 rfl (lv_at hl 4 rfl) ?_
      refine EffV.cv (wr := ([])) (w' := fun u5 => wX1 g a_y u5) (As := [.int fr, .int many, .int hyp]) (kX1_layLines l g a_y (uR (uR I_y 1 f1) 2 f3) fr many hyp hc_91 (by omega) ((h_e.mono (by omega)).of rfl rfl rfl)) fx (gUV (uT _) u_683 u_684 u_685 u_45 u_686) rfl hdX1_layLines ⟨Nat.le_of_ble_eq_true rfl, Nat.le_of_ble_eq_true rfl⟩ hK hP hD hS hA [0, 1, 2, 3, 4, 5, 6] [] [0, 1, 2, 3, 4, 5, 6] rfl rfl rfl rfl (by decide) rfl (fun _ => rfl) rfl rfl rfl rfl hl.1 (Nat.le_of_ble_eq_true rfl) dX1_layPiece_96 (fun u5 H locs p_r4 hP hD hS => ?_)
      have hP : va_P g.1 vwCl (wX1 g a_y u5) H := hP
      have hD : va_D A (wX1 g a_y u5) := hD
      have hq : (u5 0 2).toInt = (I_y 0 2).toInt := congrArg Int32.toInt (p_r4.2.1 2 (by decide) (by decide))
      refine lv_aload_n hx hb dX1_layPiece_99 rfl (lv_at hl 1 rfl) ?_
      refine lv_dup hx hb dX1_layPiece_100 rfl ?_
      refine va_get (D := g.1) (ci := 1) (v := .int (u5 0 2)) (C := RX1) (T := TX1) (N := 9) hx hb hi_X1 (fun _ h => h) hown hK.1 hP 0 rfl rfl 2 (by decide) hf_18 (fun _ h9 => h9) rfl dX1_layPiece_101 ?_
      refine lv_iconst (v := 1) hx hb dX1_layPiece_104 (by decide) ?_
      refine r_iadd hx hb dX1_layPiece_105 rfl (by decide : (1 : Int32).toInt = 1) (fun x6 e_x6 t_x6 => ?_)
      try have t_x6 := t_x6 (by omega)
      refine va_put (D := g.1) (ci := 1) (v := .int x6) (ty := .int) (C := RX1) (T := TX1) (N := 9) hx hb hi_X1 (fun _ h => h) tyX1 tyX1_ok nmX1 hown hK.1 hP hD hS 0 rfl rfl 2 (by decide) hf_18 (fun _ h9 => h9) rfl (by decide +kernel) rfl rfl (Nat.le_of_ble_eq_true rfl) dX1_layPiece_106 (fun H locs hP hD hS => ?_)
      have hP : va_P g.1 vwCl (wX1 g a_y (uF u5 0 2 x6)) H := hP
      have hD : va_D A (wX1 g a_y (uF u5 0 2 x6)) := hD
      refine hret 109 ls _ _ (uF u5 0 2 x6) dX1_layPiece_109 hS hP hD ?_
      exact (by (exact ⟨LI.of p_r4.1 (show 0 ≤ (x6).toInt ∧ (x6).toInt ≤ 150 from (by omega)) rfl rfl rfl rfl rfl, LE2.of p_r4.2.2 rfl rfl rfl⟩))
    · refine lv_aload_n hx hb dX1_layPiece_34 rfl (lv_at hl 1 rfl) ?_
      refine va_get (D := g.1) (ci := 1) (v := .ref (a_y 4)) (C := RX1) (T := TX1) (N := 9) hx hb hi_X1 (fun _ h => h) hown hK.1 hP 0 rfl rfl 4 (by decide) hf_25 (fun _ h9 => h9) rfl dX1_layPiece_35 ?_
      refine lv_iload hx hb dX1_layPiece_38 (lv_at hl 0 rfl) ?_
      have n_40 : vp_in x2 550 := (t_in (by omega))
      refine va_iald hx hb hK.1 hP 4 0 rfl rfl n_40 dX1_layPiece_40 ?_
      refine q_nm (fun x7 e_x7 => ?_)
      have e_x7 : x7 = (I_y 4) x2.toNatClampNeg := e_x7
      have g_x7 : x7.toInt = ((I_y 4) x2.toNatClampNeg).toInt := congrArg _ e_x7
      have f_x7 := LI.li hL x2.toNatClampNeg
      rw [← e_x7] at f_x7
      refine lv_iconst (v := 1) hx hb dX1_layPiece_41 (by decide) ?_
      refine r_iadd hx hb dX1_layPiece_42 rfl (by decide : (1 : Int32).toInt = 1) (fun x8 e_x8 t_x8 => ?_)
      try have t_x8 := t_x8 (by omega)
      refine lv_iload_n hx hb dX1_layPiece_43 rfl (lv_at hl 3 rfl) ?_
      refine r_iadd hx hb dX1_layPiece_44 rfl rfl (fun x9 e_x9 t_x9 => ?_)
      try have t_x9 := t_x9 (by omega)
      refine lv_aload_n hx hb dX1_layPiece_45 rfl (lv_at hl 1 rfl) ?_
      refine va_get (D := g.1) (ci := 1) (v := .int (I_y 0 7)) (C := RX1) (T := TX1) (N := 9) hx hb hi_X1 (fun _ h => h) hown hK.1 hP 0 rfl rfl 7 (by decide) hf_34 (fun _ h9 => h9) rfl dX1_layPiece_46 ?_
      refine q_icmp_gt (tgt := 79) hx hb dX1_layPiece_49 (by decide) rfl rfl (fun k_49 => ?_) (fun k_49 => ?_)
      · refine lv_aload_n hx hb dX1_layPiece_79 rfl (lv_at hl 1 rfl) ?_
        refine va_get (D := g.1) (ci := 1) (v := .ref (a_y 2)) (C := RX1) (T := TX1) (N := 9) hx hb hi_X1 (fun _ h => h) hown hK.1 hP 0 rfl rfl 1 (by decide) hf_15 (fun _ h9 => h9) rfl dX1_layPiece_80 ?_
        refine lv_aload_n hx hb dX1_layPiece_83 rfl (lv_at hl 1 rfl) ?_
        refine va_get (D := g.1) (ci := 1) (v := .int (I_y 0 2)) (C := RX1) (T := TX1) (N := 9) hx hb hi_X1 (fun _ h => h) hown hK.1 hP 0 rfl rfl 2 (by decide) hf_18 (fun _ h9 => h9) rfl dX1_layPiece_84 ?_
        refine lv_aload_n hx hb dX1_layPiece_87 rfl (lv_at hl 1 rfl) ?_
        refine va_get (D := g.1) (ci := 1) (v := .int (I_y 0 6)) (C := RX1) (T := TX1) (N := 9) hx hb hi_X1 (fun _ h => h) hown hK.1 hP 0 rfl rfl 6 (by decide) hf_31 (fun _ h9 => h9) rfl dX1_layPiece_88 ?_
        have n_91 : vp_in (I_y 0 2) 150 := (t_in (by omega))
        obtain ⟨f10, e_f10⟩ : ∃ z, z = upd (I_y 2) (I_y 0 2).toNatClampNeg (I_y 0 6) := ⟨_, rfl⟩
        refine va_iast hx hb hK.1 hP hD hS 2 0 rfl rfl n_91 dX1_layPiece_91 (fun H locs hP hD hS => ?_)
        have hP : va_P g.1 vwCl (wX1 g a_y (uR (uR I_y 1 f1) 2 f10)) H := by rw [e_f10]; exact hP
        have hD : va_D A (wX1 g a_y (uR (uR I_y 1 f1) 2 f10)) := by rw [e_f10]; exact hD
        have hc_91 : LI (uR (uR I_y 1 f1) 2 f10) := LI.of hL hpc rfl rfl rfl rfl rfl
        refine lv_aload_n hx hb dX1_layPiece_92 rfl (lv_at hl 1 rfl) ?_
        refine lv_iload_n hx hb dX1_layPiece_93 rfl (lv_at hl 2 rfl) ?_
        refine lv_iload_n hx hb dX1_layPiece_94 rfl (lv_at hl 3 rfl) ?_
        refine lv_iload_n hx hb dX1_layPiece_95 rfl (lv_at hl 4 rfl) ?_
        refine EffV.cv (wr := ([])) (w' := fun u12 => wX1 g a_y u12) (As := [.int fr, .int many, .int hyp]) (kX1_layLines l g a_y (uR (uR I_y 1 f1) 2 f10) fr many hyp hc_91 (by omega) ((h_e.mono (by omega)).of rfl rfl rfl)) fx (gUV (uT _) u_683 u_684 u_685 u_45 u_686) rfl hdX1_layLines ⟨Nat.le_of_ble_eq_true rfl, Nat.le_of_ble_eq_true rfl⟩ hK hP hD hS hA [0, 1, 2, 3, 4, 5, 6] [] [0, 1, 2, 3, 4, 5, 6] rfl rfl rfl rfl (by decide) rfl (fun _ => rfl) rfl rfl rfl rfl hl.1 (Nat.le_of_ble_eq_true rfl) dX1_layPiece_96 (fun u12 H locs p_r11 hP hD hS => ?_)
        have hP : va_P g.1 vwCl (wX1 g a_y u12) H := hP
        have hD : va_D A (wX1 g a_y u12) := hD
        have hq : (u12 0 2).toInt = (I_y 0 2).toInt := congrArg Int32.toInt (p_r11.2.1 2 (by decide) (by decide))
        refine lv_aload_n hx hb dX1_layPiece_99 rfl (lv_at hl 1 rfl) ?_
        refine lv_dup hx hb dX1_layPiece_100 rfl ?_
        refine va_get (D := g.1) (ci := 1) (v := .int (u12 0 2)) (C := RX1) (T := TX1) (N := 9) hx hb hi_X1 (fun _ h => h) hown hK.1 hP 0 rfl rfl 2 (by decide) hf_18 (fun _ h9 => h9) rfl dX1_layPiece_101 ?_
        refine lv_iconst (v := 1) hx hb dX1_layPiece_104 (by decide) ?_
        refine r_iadd hx hb dX1_layPiece_105 rfl (by decide : (1 : Int32).toInt = 1) (fun x13 e_x13 t_x13 => ?_)
        try have t_x13 := t_x13 (by omega)
        refine va_put (D := g.1) (ci := 1) (v := .int x13) (ty := .int) (C := RX1) (T := TX1) (N := 9) hx hb hi_X1 (fun _ h => h) tyX1 tyX1_ok nmX1 hown hK.1 hP hD hS 0 rfl rfl 2 (by decide) hf_18 (fun _ h9 => h9) rfl (by decide +kernel) rfl rfl (Nat.le_of_ble_eq_true rfl) dX1_layPiece_106 (fun H locs hP hD hS => ?_)
        have hP : va_P g.1 vwCl (wX1 g a_y (uF u12 0 2 x13)) H := hP
        have hD : va_D A (wX1 g a_y (uF u12 0 2 x13)) := hD
        refine hret 109 ls _ _ (uF u12 0 2 x13) dX1_layPiece_109 hS hP hD ?_
        exact (by (exact ⟨LI.of p_r11.1 (show 0 ≤ (x13).toInt ∧ (x13).toInt ≤ 150 from (by omega)) rfl rfl rfl rfl rfl, LE2.of p_r11.2.2 rfl rfl rfl⟩))
      · refine lv_aload_n hx hb dX1_layPiece_52 rfl (lv_at hl 1 rfl) ?_
        refine va_get (D := g.1) (ci := 1) (v := .ref (a_y 4)) (C := RX1) (T := TX1) (N := 9) hx hb hi_X1 (fun _ h => h) hown hK.1 hP 0 rfl rfl 4 (by decide) hf_25 (fun _ h9 => h9) rfl dX1_layPiece_53 ?_
        refine lv_iload hx hb dX1_layPiece_56 (lv_at hl 0 rfl) ?_
        refine lv_dup2_11 hx hb dX1_layPiece_58 rfl rfl ?_
        have n_59 : vp_in x2 550 := (t_in (by omega))
        refine va_iald hx hb hK.1 hP 4 0 rfl rfl n_59 dX1_layPiece_59 ?_
        refine q_nm (fun x14 e_x14 => ?_)
        have e_x14 : x14 = (I_y 4) x2.toNatClampNeg := e_x14
        have g_x14 : x14.toInt = ((I_y 4) x2.toNatClampNeg).toInt := congrArg _ e_x14
        have f_x14 := LI.li hL x2.toNatClampNeg
        rw [← e_x14] at f_x14
        refine lv_iconst (v := 1) hx hb dX1_layPiece_60 (by decide) ?_
        refine lv_iload_n hx hb dX1_layPiece_61 rfl (lv_at hl 3 rfl) ?_
        refine r_iadd hx hb dX1_layPiece_62 (by decide : (1 : Int32).toInt = 1) rfl (fun x15 e_x15 t_x15 => ?_)
        try have t_x15 := t_x15 (by omega)
        refine r_iadd hx hb dX1_layPiece_63 rfl rfl (fun x16 e_x16 t_x16 => ?_)
        try have t_x16 := t_x16 (by omega)
        have n_64 : vp_in x2 550 := (t_in (by omega))
        obtain ⟨f17, e_f17⟩ : ∃ z, z = upd (I_y 4) x2.toNatClampNeg x16 := ⟨_, rfl⟩
        refine va_iast hx hb hK.1 hP hD hS 4 0 rfl rfl n_64 dX1_layPiece_64 (fun H locs hP hD hS => ?_)
        have hP : va_P g.1 vwCl (wX1 g a_y (uR (uR I_y 1 f1) 4 f17)) H := by rw [e_f17]; exact hP
        have hD : va_D A (wX1 g a_y (uR (uR I_y 1 f1) 4 f17)) := by rw [e_f17]; exact hD
        refine lv_aload_n hx hb dX1_layPiece_65 rfl (lv_at hl 1 rfl) ?_
        refine va_get (D := g.1) (ci := 1) (v := .ref (a_y 2)) (C := RX1) (T := TX1) (N := 9) hx hb hi_X1 (fun _ h => h) hown hK.1 hP 0 rfl rfl 1 (by decide) hf_15 (fun _ h9 => h9) rfl dX1_layPiece_66 ?_
        refine lv_aload_n hx hb dX1_layPiece_69 rfl (lv_at hl 1 rfl) ?_
        refine va_get (D := g.1) (ci := 1) (v := .int (I_y 0 2)) (C := RX1) (T := TX1) (N := 9) hx hb hi_X1 (fun _ h => h) hown hK.1 hP 0 rfl rfl 2 (by decide) hf_18 (fun _ h9 => h9) rfl dX1_layPiece_70 ?_
        refine lv_iload hx hb dX1_layPiece_73 (lv_at hl 0 rfl) ?_
        have n_75 : vp_in (I_y 0 2) 150 := (t_in (by omega))
        obtain ⟨f18, e_f18⟩ : ∃ z, z = upd (I_y 2) (I_y 0 2).toNatClampNeg x2 := ⟨_, rfl⟩
        refine va_iast hx hb hK.1 hP hD hS 2 0 rfl rfl n_75 dX1_layPiece_75 (fun H locs hP hD hS => ?_)
        have hP : va_P g.1 vwCl (wX1 g a_y (uR (uR (uR I_y 1 f1) 4 f17) 2 f18)) H := by rw [e_f18]; exact hP
        have hD : va_D A (wX1 g a_y (uR (uR (uR I_y 1 f1) 4 f17) 2 f18)) := by rw [e_f18]; exact hD
        refine lv_goto (tgt := 99) hx hb dX1_layPiece_76 (by decide) ?_
        refine lv_aload_n hx hb dX1_layPiece_99 rfl (lv_at hl 1 rfl) ?_
        refine lv_dup hx hb dX1_layPiece_100 rfl ?_
        refine va_get (D := g.1) (ci := 1) (v := .int (I_y 0 2)) (C := RX1) (T := TX1) (N := 9) hx hb hi_X1 (fun _ h => h) hown hK.1 hP 0 rfl rfl 2 (by decide) hf_18 (fun _ h9 => h9) rfl dX1_layPiece_101 ?_
        refine lv_iconst (v := 1) hx hb dX1_layPiece_104 (by decide) ?_
        refine r_iadd hx hb dX1_layPiece_105 rfl (by decide : (1 : Int32).toInt = 1) (fun x19 e_x19 t_x19 => ?_)
        try have t_x19 := t_x19 (by omega)
        refine va_put (D := g.1) (ci := 1) (v := .int x19) (ty := .int) (C := RX1) (T := TX1) (N := 9) hx hb hi_X1 (fun _ h => h) tyX1 tyX1_ok nmX1 hown hK.1 hP hD hS 0 rfl rfl 2 (by decide) hf_18 (fun _ h9 => h9) rfl (by decide +kernel) rfl rfl (Nat.le_of_ble_eq_true rfl) dX1_layPiece_106 (fun H locs hP hD hS => ?_)
        have hP : va_P g.1 vwCl (wX1 g a_y (uF (uR (uR (uR I_y 1 f1) 4 f17) 2 f18) 0 2 x19)) H := hP
        have hD : va_D A (wX1 g a_y (uF (uR (uR (uR I_y 1 f1) 4 f17) 2 f18) 0 2 x19)) := hD
        refine hret 109 ls _ _ (uF (uR (uR (uR I_y 1 f1) 4 f17) 2 f18) 0 2 x19) dX1_layPiece_109 hS hP hD ?_
        exact (by (exact lp_join hL h_e e_f17 rfl (show 0 ≤ (x19).toInt ∧ (x19).toInt ≤ 150 from (by omega)) rfl rfl rfl (show (x2).toInt.toNat = _ from (by congr 1)) (by omega) (w := many.toInt) (show (x16).toInt = _ ∧ _ from (by omega)) (by omega)))
  · refine hret 10 ls _ _ I_y dX1_layPiece_10 hS hP hD ?_
    exact ⟨hL, h_e.mono (by omega)⟩

set_option maxHeartbeats 4000000 in
set_option maxRecDepth 100000 in
theorem kX1_lay (l : Launch) (g : gG) (a_y : Nat → Nat) (I_y : Nat → Nat → Int32) (a_e : Nat → Nat) (I_e : Nat → Nat → Int32) (a_t : Nat → Nat) (I_t : Nat → Nat → Int32) (hL : LI I_y) (hE : EI I_e) (hT : TI I_t) : EffV l g yX1_lay wsX1_lay 3 [.ref (a_y 0), .ref (a_e 0), .ref (a_t 0)] (wX1 g a_y I_y ++ (wX6 g a_e I_e ++ wX7 g a_t I_t)) (fun (u : (Nat → Nat → Int32)) => wX1 g a_y u ++ (wX6 g a_e I_e ++ wX7 g a_t I_t)) (fun (u : (Nat → Nat → Int32)) => LI (u)) := by
  refine EffV.st (cc := cX1_lay) (maxL := 5) (by decide) rfl (Nat.le_of_ble_eq_true rfl) (fun p e s m args below meth c A Q ls fx hK hP hD hA hS hl hret => ?_)
  have hx := fx.1
  have hb := fx.2.1
  have hml := fx.2.2.1
  have hown := fx.2.2.2.1
  have hts := fx.2.2.2.2
  have hl : lv_has ls 5 [(0, .ref (a_y 0)), (1, .ref (a_e 0)), (2, .ref (a_t 0))] := hl
  have hP : va_P g.1 vwCl (wX1 g a_y I_y ++ (wX6 g a_e I_e ++ wX7 g a_t I_t)) s.heap := hP
  have hf_18 := hts _ (uT _ _ u_123)
  have hf_31 := hts _ (uT _ _ u_127)
  have hf_34 := hts _ (uT _ _ u_128)
  have hf_40 := hts _ (uT _ _ u_676)
  have hf_45 := hts _ (uT _ _ u_677)
  have hf_50 := hts _ (uT _ _ u_678)
  have hi_X1 : ∀ w ∈ wsX10, w.before args s = true := fun w h => hts w (uT _ w (u_wsX10 w h))
  have hi_X6 : ∀ w ∈ wsX60, w.before args s = true := fun w h => hts w (uT _ w (u_wsX60 w h))
  have hi_X7 : ∀ w ∈ wsX70, w.before args s = true := fun w h => hts w (uT _ w (u_wsX70 w h))
  have lm1 : (-1 : Int32).toInt = -1 := by decide
  have lm0 : (0 : Int32).toInt = 0 := by decide
  have lm2 : (1 : Int32).toInt = 1 := by decide
  have hpc := LI.pc hL
  have hln := LI.ln hL
  have hwd := LI.wd hL
  have hE0 := hE.1
  have hE1 := hE.2
  have hlit := TI.li hT
  refine lv_aload_n hx hb dX1_lay_0 rfl (lv_at hl 0 rfl) ?_
  refine lv_iconst (v := 0) hx hb dX1_lay_1 (by decide) ?_
  refine va_put (D := g.1) (ci := 1) (v := .int (0 : Int32)) (ty := .int) (C := RX1) (T := TX1) (N := 9) hx hb hi_X1 (fun _ h => h) tyX1 tyX1_ok nmX1 hown hK.1 hP hD hS 0 rfl rfl 2 (by decide) hf_18 (fun _ h9 => h9) rfl (by decide +kernel) rfl rfl (Nat.le_of_ble_eq_true rfl) dX1_lay_2 (fun H locs hP hD hS => ?_)
  have hP : va_P g.1 vwCl (wX1 g a_y (uF I_y 0 2 (0 : Int32)) ++ (wX6 g a_e I_e ++ wX7 g a_t I_t)) H := hP
  have hD : va_D A (wX1 g a_y (uF I_y 0 2 (0 : Int32)) ++ (wX6 g a_e I_e ++ wX7 g a_t I_t)) := hD
  refine lv_aload_n hx hb dX1_lay_5 rfl (lv_at hl 0 rfl) ?_
  refine lv_iconst (v := 0) hx hb dX1_lay_6 (by decide) ?_
  refine va_put (D := g.1) (ci := 1) (v := .int (0 : Int32)) (ty := .int) (C := RX1) (T := TX1) (N := 9) hx hb hi_X1 (fun _ h => h) tyX1 tyX1_ok nmX1 hown hK.1 hP hD hS 0 rfl rfl 6 (by decide) hf_31 (fun _ h9 => h9) rfl (by decide +kernel) rfl rfl (Nat.le_of_ble_eq_true rfl) dX1_lay_7 (fun H locs hP hD hS => ?_)
  have hP : va_P g.1 vwCl (wX1 g a_y (uF (uF I_y 0 2 (0 : Int32)) 0 6 (0 : Int32)) ++ (wX6 g a_e I_e ++ wX7 g a_t I_t)) H := hP
  have hD : va_D A (wX1 g a_y (uF (uF I_y 0 2 (0 : Int32)) 0 6 (0 : Int32)) ++ (wX6 g a_e I_e ++ wX7 g a_t I_t)) := hD
  refine lv_aload_n hx hb dX1_lay_10 rfl (lv_at hl 0 rfl) ?_
  refine lv_aload_n hx hb dX1_lay_11 rfl (lv_at hl 2 rfl) ?_
  refine va_get (D := g.1) (ci := 7) (v := .ref (a_t 1)) (C := RX7) (T := TX7) (N := 8) hx hb hi_X7 (fun _ h => h) hown hK.1 hP 11 rfl rfl 2 (by decide) hf_40 (fun _ h9 => h9) rfl dX1_lay_12 ?_
  refine lv_iconst (v := 3) hx hb dX1_lay_15 (by decide) ?_
  have n_16 : vp_in (3 : Int32) 5 := (t_in (by decide))
  refine va_iald hx hb hK.1 hP 12 0 rfl rfl n_16 dX1_lay_16 ?_
  refine q_nm (fun x1 e_x1 => ?_)
  have e_x1 : x1 = (I_t 1) 3 := e_x1
  have g_x1 : x1.toInt = ((I_t 1) 3).toInt := congrArg _ e_x1
  have f_x1 := TI.sg hT 3
  rw [← e_x1] at f_x1
  refine va_put (D := g.1) (ci := 1) (v := .int x1) (ty := .int) (C := RX1) (T := TX1) (N := 9) hx hb hi_X1 (fun _ h => h) tyX1 tyX1_ok nmX1 hown hK.1 hP hD hS 0 rfl rfl 7 (by decide) hf_34 (fun _ h9 => h9) rfl (by decide +kernel) rfl rfl (Nat.le_of_ble_eq_true rfl) dX1_lay_17 (fun H locs hP hD hS => ?_)
  have hP : va_P g.1 vwCl (wX1 g a_y (uF (uF (uF I_y 0 2 (0 : Int32)) 0 6 (0 : Int32)) 0 7 x1) ++ (wX6 g a_e I_e ++ wX7 g a_t I_t)) H := hP
  have hD : va_D A (wX1 g a_y (uF (uF (uF I_y 0 2 (0 : Int32)) 0 6 (0 : Int32)) 0 7 x1) ++ (wX6 g a_e I_e ++ wX7 g a_t I_t)) := hD
  refine lv_iconst (v := 0) hx hb dX1_lay_20 (by decide) ?_
  refine lv_istore_n (lv' := [(3, .int (0 : Int32)), (0, .ref (a_y 0)), (1, .ref (a_e 0)), (2, .ref (a_t 0))]) hx hb dX1_lay_21 rfl hl (by decide) rfl (fun ls hl => ?_)
  refine lv_iconst (v := 1) hx hb dX1_lay_22 (by decide) ?_
  refine lv_istore (lv' := [(4, .int (1 : Int32)), (3, .int (0 : Int32)), (0, .ref (a_y 0)), (1, .ref (a_e 0)), (2, .ref (a_t 0))]) hx hb dX1_lay_23 hl (by decide) rfl (fun ls hl => ?_)
  have L25 : ∀ (nn : Nat) (v3_25 : Int32) (v4_25 : Int32) (I_y_25 : Nat → Nat → Int32), (hL_25 : LI I_y_25) → (he_25 : LE2 I_y_25 (v3_25.toInt - 1)) → (hv_25 : 0 ≤ v3_25.toInt ∧ v3_25.toInt ≤ v4_25.toInt ∧ 1 ≤ v4_25.toInt ∧ v4_25.toInt ≤ 1201) → ((1202 - v4_25.toInt) < (nn : Int)) → ∀ (H : Heap) (locs : List Loc), va_P g.1 vwCl (wX1 g a_y I_y_25 ++ (wX6 g a_e I_e ++ wX7 g a_t I_t)) H → va_D A (wX1 g a_y I_y_25 ++ (wX6 g a_e I_e ++ wX7 g a_t I_t)) → va_S A s.heap H locs → ∀ ls : Array Slot, lv_has ls 5 [(4, .int v4_25), (3, .int v3_25), (0, .ref (a_y 0)), (1, .ref (a_e 0)), (2, .ref (a_t 0))] → W p l e (rm 3) s m args below meth c H locs 0 0 Q (F0 m 25 ls []) := by
    intro n_25
    induction n_25 with
    | zero =>
      intro v3_25 v4_25 I_y_25 hL_25 he_25 hv_25 hms_25 H locs hP hD hS ls hl
      exfalso; omega
    | succ n_25 ih_25 =>
      intro v3_25 v4_25 I_y_25 hL_25 he_25 hv_25 hms_25 H locs hP hD hS ls hl
      refine lv_iload hx hb dX1_lay_25 (lv_at hl 0 rfl) ?_
      refine lv_aload_n hx hb dX1_lay_27 rfl (lv_at hl 3 rfl) ?_
      refine va_get (D := g.1) (ci := 6) (v := .int (I_e 0 3)) (C := RX6) (T := TX6) (N := 10) hx hb hi_X6 (fun _ h => h) hown hK.1 hP 7 rfl rfl 3 (by decide) hf_45 (fun _ h9 => h9) rfl dX1_lay_28 ?_
      refine q_icmp_gt (tgt := 87) hx hb dX1_lay_31 (by decide) rfl rfl (fun k_31 => ?_) (fun k_31 => ?_)
      · refine hret 87 ls _ _ I_y_25 dX1_lay_87 hS hP hD ?_
        exact hL_25
      · refine lv_iload hx hb dX1_lay_34 (lv_at hl 0 rfl) ?_
        refine lv_aload_n hx hb dX1_lay_36 rfl (lv_at hl 3 rfl) ?_
        refine va_get (D := g.1) (ci := 6) (v := .int (I_e 0 3)) (C := RX6) (T := TX6) (N := 10) hx hb hi_X6 (fun _ h => h) hown hK.1 hP 7 rfl rfl 3 (by decide) hf_45 (fun _ h9 => h9) rfl dX1_lay_37 ?_
        refine q_icmp_eq (tgt := 53) hx hb dX1_lay_40 (by decide) rfl rfl (fun k_40 => ?_) (fun k_40 => ?_)
        · refine lv_aload_n hx hb dX1_lay_53 rfl (lv_at hl 2 rfl) ?_
          refine lv_iload_n hx hb dX1_lay_54 rfl (lv_at hl 1 rfl) ?_
          refine lv_iload hx hb dX1_lay_55 (lv_at hl 0 rfl) ?_
          refine lv_iload_n hx hb dX1_lay_57 rfl (lv_at hl 1 rfl) ?_
          refine r_isub hx hb dX1_lay_58 rfl rfl (fun x2 e_x2 t_x2 => ?_)
          try have t_x2 := t_x2 (by omega)
          refine lv_aload_n hx hb dX1_lay_59 rfl (lv_at hl 4 rfl) ?_
          refine va_get (D := g.1) (ci := 7) (v := .ref (a_t 1)) (C := RX7) (T := TX7) (N := 8) hx hb hi_X7 (fun _ h => h) hown hK.1 hP 11 rfl rfl 2 (by decide) hf_40 (fun _ h9 => h9) rfl dX1_lay_60 ?_
          refine lv_iconst (v := 2) hx hb dX1_lay_63 (by decide) ?_
          have n_64 : vp_in (2 : Int32) 5 := (t_in (by decide))
          refine va_iald hx hb hK.1 hP 12 0 rfl rfl n_64 dX1_lay_64 ?_
          refine q_nm (fun x3 e_x3 => ?_)
          have e_x3 : x3 = (I_t 1) 2 := e_x3
          have g_x3 : x3.toInt = ((I_t 1) 2).toInt := congrArg _ e_x3
          have f_x3 := TI.sg hT 2
          rw [← e_x3] at f_x3
          refine q_if_eq (tgt := 72) hx hb dX1_lay_65 (by decide) rfl (fun b_65 k_65 => ?_) (fun b_65 k_65 => ?_)
          · refine lv_iconst (v := 0) hx hb dX1_lay_72 (by decide) ?_
            refine EffV.cv (wr := (wX6 g a_e I_e ++ wX7 g a_t I_t)) (w' := fun u5 => wX1 g a_y u5 ++ (wX6 g a_e I_e ++ wX7 g a_t I_t)) (As := [.int v3_25, .int x2, .int (0 : Int32)]) (kX1_layPiece l g a_y I_y_25 v3_25 x2 (0 : Int32) hL_25 (by omega) (by omega)) fx (gUV (uT _) u_679 u_680 u_681 u_45 u_682) rfl hdX1_layPiece ⟨Nat.le_of_ble_eq_true rfl, Nat.le_of_ble_eq_true rfl⟩ hK hP hD hS hA [0, 1, 2, 3, 4, 5, 6] [7, 8, 9, 10, 11, 12, 13, 14, 15, 16, 17] [11, 12, 13, 14, 15, 16, 17, 0, 1, 2, 3, 4, 5, 6, 7, 8, 9, 10] rfl rfl rfl rfl (by decide) rfl (fun _ => rfl) rfl rfl rfl rfl hl.1 (Nat.le_of_ble_eq_true rfl) dX1_lay_73 (fun u5 H locs p_r4 hP hD hS => ?_)
            have hP : va_P g.1 vwCl (wX1 g a_y u5 ++ (wX6 g a_e I_e ++ wX7 g a_t I_t)) H := hP
            have hD : va_D A (wX1 g a_y u5 ++ (wX6 g a_e I_e ++ wX7 g a_t I_t)) := hD
            refine lv_iload hx hb dX1_lay_76 (lv_at hl 0 rfl) ?_
            refine lv_iconst (v := 1) hx hb dX1_lay_78 (by decide) ?_
            refine r_iadd hx hb dX1_lay_79 rfl (by decide : (1 : Int32).toInt = 1) (fun x6 e_x6 t_x6 => ?_)
            try have t_x6 := t_x6 (by omega)
            refine lv_istore_n (lv' := [(3, .int x6), (4, .int v4_25), (0, .ref (a_y 0)), (1, .ref (a_e 0)), (2, .ref (a_t 0))]) hx hb dX1_lay_80 rfl hl (by decide) rfl (fun ls hl => ?_)
            refine r_iinc (lv' := fun i7 => [(4, .int i7), (3, .int x6), (0, .ref (a_y 0)), (1, .ref (a_e 0)), (2, .ref (a_t 0))]) hx hb dX1_lay_81 hl (k := 1) rfl (by decide) rfl (by decide) (fun _ => rfl) (fun i7 e_i7 t_i7 ls hl => ?_)
            try have t_i7 := t_i7 (by omega)
            refine lv_goto (tgt := 25) hx hb dX1_lay_84 (by decide) ?_
            exact ih_25 x6 i7 u5 p_r4.1 (by first | exact (p_r4.2).mono (by omega) | exact he_25) (by omega) (by omega) _ _ hP hD hS ls hl
          · refine lv_iconst (v := 1) hx hb dX1_lay_68 (by decide) ?_
            refine lv_goto (tgt := 73) hx hb dX1_lay_69 (by decide) ?_
            refine EffV.cv (wr := (wX6 g a_e I_e ++ wX7 g a_t I_t)) (w' := fun u9 => wX1 g a_y u9 ++ (wX6 g a_e I_e ++ wX7 g a_t I_t)) (As := [.int v3_25, .int x2, .int (1 : Int32)]) (kX1_layPiece l g a_y I_y_25 v3_25 x2 (1 : Int32) hL_25 (by omega) (by omega)) fx (gUV (uT _) u_679 u_680 u_681 u_45 u_682) rfl hdX1_layPiece ⟨Nat.le_of_ble_eq_true rfl, Nat.le_of_ble_eq_true rfl⟩ hK hP hD hS hA [0, 1, 2, 3, 4, 5, 6] [7, 8, 9, 10, 11, 12, 13, 14, 15, 16, 17] [11, 12, 13, 14, 15, 16, 17, 0, 1, 2, 3, 4, 5, 6, 7, 8, 9, 10] rfl rfl rfl rfl (by decide) rfl (fun _ => rfl) rfl rfl rfl rfl hl.1 (Nat.le_of_ble_eq_true rfl) dX1_lay_73 (fun u9 H locs p_r8 hP hD hS => ?_)
            have hP : va_P g.1 vwCl (wX1 g a_y u9 ++ (wX6 g a_e I_e ++ wX7 g a_t I_t)) H := hP
            have hD : va_D A (wX1 g a_y u9 ++ (wX6 g a_e I_e ++ wX7 g a_t I_t)) := hD
            refine lv_iload hx hb dX1_lay_76 (lv_at hl 0 rfl) ?_
            refine lv_iconst (v := 1) hx hb dX1_lay_78 (by decide) ?_
            refine r_iadd hx hb dX1_lay_79 rfl (by decide : (1 : Int32).toInt = 1) (fun x10 e_x10 t_x10 => ?_)
            try have t_x10 := t_x10 (by omega)
            refine lv_istore_n (lv' := [(3, .int x10), (4, .int v4_25), (0, .ref (a_y 0)), (1, .ref (a_e 0)), (2, .ref (a_t 0))]) hx hb dX1_lay_80 rfl hl (by decide) rfl (fun ls hl => ?_)
            refine r_iinc (lv' := fun i11 => [(4, .int i11), (3, .int x10), (0, .ref (a_y 0)), (1, .ref (a_e 0)), (2, .ref (a_t 0))]) hx hb dX1_lay_81 hl (k := 1) rfl (by decide) rfl (by decide) (fun _ => rfl) (fun i11 e_i11 t_i11 ls hl => ?_)
            try have t_i11 := t_i11 (by omega)
            refine lv_goto (tgt := 25) hx hb dX1_lay_84 (by decide) ?_
            exact ih_25 x10 i11 u9 p_r8.1 (by first | exact (p_r8.2).mono (by omega) | exact he_25) (by omega) (by omega) _ _ hP hD hS ls hl
        · refine lv_aload_n hx hb dX1_lay_43 rfl (lv_at hl 3 rfl) ?_
          refine va_get (D := g.1) (ci := 6) (v := .ref (a_e 1)) (C := RX6) (T := TX6) (N := 10) hx hb hi_X6 (fun _ h => h) hown hK.1 hP 7 rfl rfl 0 (by decide) hf_50 (fun _ h9 => h9) rfl dX1_lay_44 ?_
          refine lv_iload hx hb dX1_lay_47 (lv_at hl 0 rfl) ?_
          have n_49 : vp_in v4_25 1200 := (t_in (by omega))
          refine va_iald hx hb hK.1 hP 8 0 rfl rfl n_49 dX1_lay_49 ?_
          refine q_nm (fun x12 e_x12 => ?_)
          have e_x12 : x12 = (I_e 1) v4_25.toNatClampNeg := e_x12
          have g_x12 : x12.toInt = ((I_e 1) v4_25.toNatClampNeg).toInt := congrArg _ e_x12
          refine q_if_ne (tgt := 81) hx hb dX1_lay_50 (by decide) rfl (fun b_50 k_50 => ?_) (fun b_50 k_50 => ?_)
          · refine r_iinc (lv' := fun i13 => [(4, .int i13), (3, .int v3_25), (0, .ref (a_y 0)), (1, .ref (a_e 0)), (2, .ref (a_t 0))]) hx hb dX1_lay_81 hl (k := 0) rfl (by decide) rfl (by decide) (fun _ => rfl) (fun i13 e_i13 t_i13 ls hl => ?_)
            try have t_i13 := t_i13 (by omega)
            refine lv_goto (tgt := 25) hx hb dX1_lay_84 (by decide) ?_
            exact ih_25 v3_25 i13 I_y_25 hL_25 (by exact he_25) (by omega) (by omega) _ _ hP hD hS ls hl
          · refine lv_aload_n hx hb dX1_lay_53 rfl (lv_at hl 2 rfl) ?_
            refine lv_iload_n hx hb dX1_lay_54 rfl (lv_at hl 1 rfl) ?_
            refine lv_iload hx hb dX1_lay_55 (lv_at hl 0 rfl) ?_
            refine lv_iload_n hx hb dX1_lay_57 rfl (lv_at hl 1 rfl) ?_
            refine r_isub hx hb dX1_lay_58 rfl rfl (fun x14 e_x14 t_x14 => ?_)
            try have t_x14 := t_x14 (by omega)
            refine lv_aload_n hx hb dX1_lay_59 rfl (lv_at hl 4 rfl) ?_
            refine va_get (D := g.1) (ci := 7) (v := .ref (a_t 1)) (C := RX7) (T := TX7) (N := 8) hx hb hi_X7 (fun _ h => h) hown hK.1 hP 11 rfl rfl 2 (by decide) hf_40 (fun _ h9 => h9) rfl dX1_lay_60 ?_
            refine lv_iconst (v := 2) hx hb dX1_lay_63 (by decide) ?_
            have n_64 : vp_in (2 : Int32) 5 := (t_in (by decide))
            refine va_iald hx hb hK.1 hP 12 0 rfl rfl n_64 dX1_lay_64 ?_
            refine q_nm (fun x15 e_x15 => ?_)
            have e_x15 : x15 = (I_t 1) 2 := e_x15
            have g_x15 : x15.toInt = ((I_t 1) 2).toInt := congrArg _ e_x15
            have f_x15 := TI.sg hT 2
            rw [← e_x15] at f_x15
            refine q_if_eq (tgt := 72) hx hb dX1_lay_65 (by decide) rfl (fun b_65 k_65 => ?_) (fun b_65 k_65 => ?_)
            · refine lv_iconst (v := 0) hx hb dX1_lay_72 (by decide) ?_
              refine EffV.cv (wr := (wX6 g a_e I_e ++ wX7 g a_t I_t)) (w' := fun u17 => wX1 g a_y u17 ++ (wX6 g a_e I_e ++ wX7 g a_t I_t)) (As := [.int v3_25, .int x14, .int (0 : Int32)]) (kX1_layPiece l g a_y I_y_25 v3_25 x14 (0 : Int32) hL_25 (by omega) (by omega)) fx (gUV (uT _) u_679 u_680 u_681 u_45 u_682) rfl hdX1_layPiece ⟨Nat.le_of_ble_eq_true rfl, Nat.le_of_ble_eq_true rfl⟩ hK hP hD hS hA [0, 1, 2, 3, 4, 5, 6] [7, 8, 9, 10, 11, 12, 13, 14, 15, 16, 17] [11, 12, 13, 14, 15, 16, 17, 0, 1, 2, 3, 4, 5, 6, 7, 8, 9, 10] rfl rfl rfl rfl (by decide) rfl (fun _ => rfl) rfl rfl rfl rfl hl.1 (Nat.le_of_ble_eq_true rfl) dX1_lay_73 (fun u17 H locs p_r16 hP hD hS => ?_)
              have hP : va_P g.1 vwCl (wX1 g a_y u17 ++ (wX6 g a_e I_e ++ wX7 g a_t I_t)) H := hP
              have hD : va_D A (wX1 g a_y u17 ++ (wX6 g a_e I_e ++ wX7 g a_t I_t)) := hD
              refine lv_iload hx hb dX1_lay_76 (lv_at hl 0 rfl) ?_
              refine lv_iconst (v := 1) hx hb dX1_lay_78 (by decide) ?_
              refine r_iadd hx hb dX1_lay_79 rfl (by decide : (1 : Int32).toInt = 1) (fun x18 e_x18 t_x18 => ?_)
              try have t_x18 := t_x18 (by omega)
              refine lv_istore_n (lv' := [(3, .int x18), (4, .int v4_25), (0, .ref (a_y 0)), (1, .ref (a_e 0)), (2, .ref (a_t 0))]) hx hb dX1_lay_80 rfl hl (by decide) rfl (fun ls hl => ?_)
              refine r_iinc (lv' := fun i19 => [(4, .int i19), (3, .int x18), (0, .ref (a_y 0)), (1, .ref (a_e 0)), (2, .ref (a_t 0))]) hx hb dX1_lay_81 hl (k := 1) rfl (by decide) rfl (by decide) (fun _ => rfl) (fun i19 e_i19 t_i19 ls hl => ?_)
              try have t_i19 := t_i19 (by omega)
              refine lv_goto (tgt := 25) hx hb dX1_lay_84 (by decide) ?_
              exact ih_25 x18 i19 u17 p_r16.1 (by first | exact (p_r16.2).mono (by omega) | exact he_25) (by omega) (by omega) _ _ hP hD hS ls hl
            · refine lv_iconst (v := 1) hx hb dX1_lay_68 (by decide) ?_
              refine lv_goto (tgt := 73) hx hb dX1_lay_69 (by decide) ?_
              refine EffV.cv (wr := (wX6 g a_e I_e ++ wX7 g a_t I_t)) (w' := fun u21 => wX1 g a_y u21 ++ (wX6 g a_e I_e ++ wX7 g a_t I_t)) (As := [.int v3_25, .int x14, .int (1 : Int32)]) (kX1_layPiece l g a_y I_y_25 v3_25 x14 (1 : Int32) hL_25 (by omega) (by omega)) fx (gUV (uT _) u_679 u_680 u_681 u_45 u_682) rfl hdX1_layPiece ⟨Nat.le_of_ble_eq_true rfl, Nat.le_of_ble_eq_true rfl⟩ hK hP hD hS hA [0, 1, 2, 3, 4, 5, 6] [7, 8, 9, 10, 11, 12, 13, 14, 15, 16, 17] [11, 12, 13, 14, 15, 16, 17, 0, 1, 2, 3, 4, 5, 6, 7, 8, 9, 10] rfl rfl rfl rfl (by decide) rfl (fun _ => rfl) rfl rfl rfl rfl hl.1 (Nat.le_of_ble_eq_true rfl) dX1_lay_73 (fun u21 H locs p_r20 hP hD hS => ?_)
              have hP : va_P g.1 vwCl (wX1 g a_y u21 ++ (wX6 g a_e I_e ++ wX7 g a_t I_t)) H := hP
              have hD : va_D A (wX1 g a_y u21 ++ (wX6 g a_e I_e ++ wX7 g a_t I_t)) := hD
              refine lv_iload hx hb dX1_lay_76 (lv_at hl 0 rfl) ?_
              refine lv_iconst (v := 1) hx hb dX1_lay_78 (by decide) ?_
              refine r_iadd hx hb dX1_lay_79 rfl (by decide : (1 : Int32).toInt = 1) (fun x22 e_x22 t_x22 => ?_)
              try have t_x22 := t_x22 (by omega)
              refine lv_istore_n (lv' := [(3, .int x22), (4, .int v4_25), (0, .ref (a_y 0)), (1, .ref (a_e 0)), (2, .ref (a_t 0))]) hx hb dX1_lay_80 rfl hl (by decide) rfl (fun ls hl => ?_)
              refine r_iinc (lv' := fun i23 => [(4, .int i23), (3, .int x22), (0, .ref (a_y 0)), (1, .ref (a_e 0)), (2, .ref (a_t 0))]) hx hb dX1_lay_81 hl (k := 1) rfl (by decide) rfl (by decide) (fun _ => rfl) (fun i23 e_i23 t_i23 ls hl => ?_)
              try have t_i23 := t_i23 (by omega)
              refine lv_goto (tgt := 25) hx hb dX1_lay_84 (by decide) ?_
              exact ih_25 x22 i23 u21 p_r20.1 (by first | exact (p_r20.2).mono (by omega) | exact he_25) (by omega) (by omega) _ _ hP hD hS ls hl
  exact L25 ((1202 - (1 : Int32).toInt) + 1).toNat (0 : Int32) (1 : Int32) (uF (uF (uF I_y 0 2 (0 : Int32)) 0 6 (0 : Int32)) 0 7 x1) (LI.lay0 hL (show ((0 : Int32)).toInt = 0 from (by omega)) (show ((0 : Int32)).toInt = 0 from (by omega)) (show 0 ≤ (x1).toInt ∧ (x1).toInt ≤ 40 from (by omega)) rfl rfl rfl) (Or.inl (show ((0 : Int32)).toInt = 0 from (by omega))) (by omega) (by omega) _ _ hP hD hS ls hl
