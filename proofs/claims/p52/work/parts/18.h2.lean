set_option maxHeartbeats 4000000 in
set_option maxRecDepth 100000 in
theorem kX3_takeLetters (l : Launch) (g : gG) (a_r : Nat → Nat) (I_r : Nat → Nat → Int32) (a_x : Nat → Nat) (n_x : Nat) (I_x : Nat → Nat → Int32) (a_t : Nat → Nat) (I_t : Nat → Nat → Int32) (hl_r_table : a_r 100 = a_t 0) (h_r : 0 ≤ (I_r 0 4).toInt ∧ (I_r 0 4).toInt ≤ (I_r 0 5).toInt ∧ (I_r 0 5).toInt ≤ (n_x : Int) ∧ n_x ≤ 1000) (hT : TI I_t) (h_ru : (I_t 0 0).toInt < 24) (h_w : (I_r 0 3).toInt = 0 → ∀ j : Nat, (I_r 0 4).toInt ≤ (j : Int) → (j : Int) < (I_r 0 5).toInt → 97 ≤ fxB (I_x 0) j ∧ fxB (I_x 0) j ≤ 122) : EffI l g yX3_takeLetters wsX3_takeLetters 1 [.ref (a_r 0), .ref (a_x 0)] (wX3 g a_r I_r ++ (wArr g a_x n_x I_x ++ wX7 g a_t I_t)) (fun (u : ((Nat → Nat → Int32) × (Nat → Nat → Int32))) => wX3 g a_r (u.1) ++ (wArr g a_x n_x I_x ++ wX7 g a_t (u.2))) (fun r (u : ((Nat → Nat → Int32) × (Nat → Nat → Int32))) => TI (u.2) ∧ (r.toInt = 0 → QA ((u.1) 0 7).toInt ((u.2) 0 0).toInt ((u.1) 0 8).toInt) ∧ (u.1) 0 4 = I_r 0 4 ∧ (u.1) 0 5 = I_r 0 5 ∧ ((u.1) 0 3 = I_r 0 3 ∧ (u.1) 0 2 = I_r 0 2) ∧ (u.2) 0 1 = I_t 0 1 ∧ fxOut (fxLets (I_r 0 3).toInt (fxW (fxB (I_x 0)) (I_r 0 4).toInt (I_r 0 5).toInt) (fxTd (I_r 0 9)) (fxTc I_t)) r (fxSc (u.1) (u.2))) := by
  refine EffI.st (cc := cX3_takeLetters) (maxL := 5) (by decide) rfl (Nat.le_of_ble_eq_true rfl) (fun p e s m args below meth c A Q ls fx hK hP hD hA hS hl hret => ?_)
  have hx := fx.1
  have hb := fx.2.1
  have hml := fx.2.2.1
  have hown := fx.2.2.2.1
  have hts := fx.2.2.2.2
  have hl : lv_has ls 5 [(0, .ref (a_r 0)), (1, .ref (a_x 0))] := hl
  have hP : va_P g.1 vwCl (wX3 g a_r I_r ++ (wArr g a_x n_x I_x ++ wX7 g a_t I_t)) s.heap := hP
  have hf_12 := hts _ (uT _ _ u_76)
  have hf_25 := hts _ (uT _ _ u_79)
  have hf_28 := hts _ (uT _ _ u_80)
  have hf_31 := hts _ (uT _ _ u_81)
  have hf_37 := hts _ (uT _ _ u_83)
  have hf_106 := hts _ (uT _ _ u_388)
  have hf_122 := hts _ (uT _ _ u_450)
  have hf_126 := hts _ (uT _ _ u_451)
  have hf_129 := hts _ (uT _ _ u_452)
  have hi_X3 : ∀ w ∈ wsX30, w.before args s = true := fun w h => hts w (uT _ w (u_wsX30 w h))
  have hi_X7 : ∀ w ∈ wsX70, w.before args s = true := fun w h => hts w (uT _ w (u_wsX70 w h))
  have lm1 : (-1 : Int32).toInt = -1 := by decide
  have lm0 : (0 : Int32).toInt = 0 := by decide
  have lm2 : (1 : Int32).toInt = 1 := by decide
  have lq2 : (2 : Int32).toInt = 2 := by decide
  have lq6 : (6 : Int32).toInt = 6 := by decide
  have hru := TI.ru hT
  refine lv_aload_n hx hb dX3_takeLetters_0 rfl (lv_at hl 0 rfl) ?_
  refine va_get (D := g.1) (ci := 3) (v := .int (I_r 0 5)) (C := RX3) (T := TX3) (N := 10) hx hb hi_X3 (fun _ h => h) hown hK.1 hP 0 rfl rfl 5 (by decide) hf_31 (fun _ h9 => h9) rfl dX3_takeLetters_1 ?_
  refine lv_aload_n hx hb dX3_takeLetters_4 rfl (lv_at hl 0 rfl) ?_
  refine va_get (D := g.1) (ci := 3) (v := .int (I_r 0 4)) (C := RX3) (T := TX3) (N := 10) hx hb hi_X3 (fun _ h => h) hown hK.1 hP 0 rfl rfl 4 (by decide) hf_28 (fun _ h9 => h9) rfl dX3_takeLetters_5 ?_
  refine r_isub hx hb dX3_takeLetters_8 rfl rfl (fun x1 e_x1 t_x1 => ?_)
  try have t_x1 := t_x1 (by omega)
  refine lv_istore_n (lv' := [(2, .int x1), (0, .ref (a_r 0)), (1, .ref (a_x 0))]) hx hb dX3_takeLetters_9 rfl hl (by decide) rfl (fun ls hl => ?_)
  refine lv_aload_n hx hb dX3_takeLetters_10 rfl (lv_at hl 1 rfl) ?_
  refine va_get (D := g.1) (ci := 3) (v := .int (I_r 0 3)) (C := RX3) (T := TX3) (N := 10) hx hb hi_X3 (fun _ h => h) hown hK.1 hP 0 rfl rfl 3 (by decide) hf_25 (fun _ h9 => h9) rfl dX3_takeLetters_11 ?_
  refine q_if_ne (tgt := 23) hx hb dX3_takeLetters_14 (by decide) rfl (fun b_14 k_14 => ?_) (fun b_14 k_14 => ?_)
  · refine lv_iconst (v := 2) hx hb dX3_takeLetters_23 (by decide) ?_
    have lr : (2 : Int32).toInt = 2 := by decide
    refine hret 24 ls (2 : Int32) _ _ (I_r, I_t) dX3_takeLetters_24 hS hP hD ?_
    exact ⟨hT, fun hr0 => by omega, rfl, rfl, ⟨rfl, rfl⟩, rfl, fx_inl (by unfold fxLets; rw [if_neg (by rw [fxW.len]; omega)]) (by decide) (by decide)⟩
  · refine lv_iload_n hx hb dX3_takeLetters_17 rfl (lv_at hl 0 rfl) ?_
    refine lv_bipush (v := 6) hx hb dX3_takeLetters_18 (by decide) ?_
    refine q_icmp_le (tgt := 25) hx hb dX3_takeLetters_20 (by decide) rfl (by decide : (6 : Int32).toInt = 6) (fun k_20 => ?_) (fun k_20 => ?_)
    · refine lv_aload_n hx hb dX3_takeLetters_25 rfl (lv_at hl 1 rfl) ?_
      refine va_get (D := g.1) (ci := 3) (v := .ref (a_t 0)) (C := RX3) (T := TX3) (N := 10) hx hb hi_X3 (fun _ h => h) hown hK.1 hP 0 rfl rfl 0 (by decide) hf_12 (fun _ h9 => h9) (congrArg (fun z => some (Value.ref z)) hl_r_table) dX3_takeLetters_26 ?_
      refine va_get (D := g.1) (ci := 7) (v := .int (I_t 0 0)) (C := RX7) (T := TX7) (N := 8) hx hb hi_X7 (fun _ h => h) hown hK.1 hP 2 rfl rfl 0 (by decide) hf_106 (fun _ h9 => h9) rfl dX3_takeLetters_29 ?_
      refine lv_istore_n (lv' := [(3, .int (I_t 0 0)), (2, .int x1), (0, .ref (a_r 0)), (1, .ref (a_x 0))]) hx hb dX3_takeLetters_32 rfl hl (by decide) rfl (fun ls hl => ?_)
      refine lv_aload_n hx hb dX3_takeLetters_33 rfl (lv_at hl 2 rfl) ?_
      refine va_get (D := g.1) (ci := 3) (v := .ref (a_t 0)) (C := RX3) (T := TX3) (N := 10) hx hb hi_X3 (fun _ h => h) hown hK.1 hP 0 rfl rfl 0 (by decide) hf_12 (fun _ h9 => h9) (congrArg (fun z => some (Value.ref z)) hl_r_table) dX3_takeLetters_34 ?_
      refine va_get (D := g.1) (ci := 7) (v := .ref (a_t 2)) (C := RX7) (T := TX7) (N := 8) hx hb hi_X7 (fun _ h => h) hown hK.1 hP 2 rfl rfl 3 (by decide) hf_122 (fun _ h9 => h9) rfl dX3_takeLetters_37 ?_
      refine lv_iload_n hx hb dX3_takeLetters_40 rfl (lv_at hl 0 rfl) ?_
      refine lv_iload_n hx hb dX3_takeLetters_41 rfl (lv_at hl 1 rfl) ?_
      have n_42 : vp_in (I_t 0 0) 24 := (t_in (by omega))
      obtain ⟨f2, e_f2⟩ : ∃ z, z = upd (I_t 2) (I_t 0 0).toNatClampNeg x1 := ⟨_, rfl⟩
      refine va_iast hx hb hK.1 hP hD hS 4 0 rfl rfl n_42 dX3_takeLetters_42 (fun H locs hP hD hS => ?_)
      have hP : va_P g.1 vwCl (wX3 g a_r I_r ++ (wArr g a_x n_x I_x ++ wX7 g a_t (uR I_t 2 f2))) H := by rw [e_f2]; exact hP
      have hD : va_D A (wX3 g a_r I_r ++ (wArr g a_x n_x I_x ++ wX7 g a_t (uR I_t 2 f2))) := by rw [e_f2]; exact hD
      have hc_42 : TI (uR I_t 2 f2) := hT.u2 e_f2 (by omega) rfl rfl rfl rfl rfl rfl
      refine lv_aload_n hx hb dX3_takeLetters_43 rfl (lv_at hl 2 rfl) ?_
      refine va_get (D := g.1) (ci := 3) (v := .ref (a_t 0)) (C := RX3) (T := TX3) (N := 10) hx hb hi_X3 (fun _ h => h) hown hK.1 hP 0 rfl rfl 0 (by decide) hf_12 (fun _ h9 => h9) (congrArg (fun z => some (Value.ref z)) hl_r_table) dX3_takeLetters_44 ?_
      refine va_get (D := g.1) (ci := 7) (v := .ref (a_t 3)) (C := RX7) (T := TX7) (N := 8) hx hb hi_X7 (fun _ h => h) hown hK.1 hP 2 rfl rfl 4 (by decide) hf_126 (fun _ h9 => h9) rfl dX3_takeLetters_47 ?_
      refine lv_iload_n hx hb dX3_takeLetters_50 rfl (lv_at hl 0 rfl) ?_
      refine lv_iconst (v := 0) hx hb dX3_takeLetters_51 (by decide) ?_
      have n_52 : vp_in (I_t 0 0) 24 := (t_in (by omega))
      obtain ⟨f3, e_f3⟩ : ∃ z, z = upd (I_t 3) (I_t 0 0).toNatClampNeg (0 : Int32) := ⟨_, rfl⟩
      refine va_iast hx hb hK.1 hP hD hS 5 0 rfl rfl n_52 dX3_takeLetters_52 (fun H locs hP hD hS => ?_)
      have hP : va_P g.1 vwCl (wX3 g a_r I_r ++ (wArr g a_x n_x I_x ++ wX7 g a_t (uR (uR I_t 2 f2) 3 f3))) H := by rw [e_f3]; exact hP
      have hD : va_D A (wX3 g a_r I_r ++ (wArr g a_x n_x I_x ++ wX7 g a_t (uR (uR I_t 2 f2) 3 f3))) := by rw [e_f3]; exact hD
      have hc_52 : TI (uR (uR I_t 2 f2) 3 f3) := hc_42.u3 e_f3 (by decide) rfl rfl rfl rfl rfl rfl
      refine lv_aload_n hx hb dX3_takeLetters_53 rfl (lv_at hl 2 rfl) ?_
      refine va_get (D := g.1) (ci := 3) (v := .ref (a_t 0)) (C := RX3) (T := TX3) (N := 10) hx hb hi_X3 (fun _ h => h) hown hK.1 hP 0 rfl rfl 0 (by decide) hf_12 (fun _ h9 => h9) (congrArg (fun z => some (Value.ref z)) hl_r_table) dX3_takeLetters_54 ?_
      refine va_get (D := g.1) (ci := 7) (v := .ref (a_t 4)) (C := RX7) (T := TX7) (N := 8) hx hb hi_X7 (fun _ h => h) hown hK.1 hP 2 rfl rfl 5 (by decide) hf_129 (fun _ h9 => h9) rfl dX3_takeLetters_57 ?_
      refine lv_iload_n hx hb dX3_takeLetters_60 rfl (lv_at hl 0 rfl) ?_
      refine lv_iconst (v := 0) hx hb dX3_takeLetters_61 (by decide) ?_
      have n_62 : vp_in (I_t 0 0) 24 := (t_in (by omega))
      obtain ⟨f4, e_f4⟩ : ∃ z, z = upd (I_t 4) (I_t 0 0).toNatClampNeg (0 : Int32) := ⟨_, rfl⟩
      refine va_iast hx hb hK.1 hP hD hS 6 0 rfl rfl n_62 dX3_takeLetters_62 (fun H locs hP hD hS => ?_)
      have hP : va_P g.1 vwCl (wX3 g a_r I_r ++ (wArr g a_x n_x I_x ++ wX7 g a_t (uR (uR (uR I_t 2 f2) 3 f3) 4 f4))) H := by rw [e_f4]; exact hP
      have hD : va_D A (wX3 g a_r I_r ++ (wArr g a_x n_x I_x ++ wX7 g a_t (uR (uR (uR I_t 2 f2) 3 f3) 4 f4))) := by rw [e_f4]; exact hD
      have hc_62 : TI (uR (uR (uR I_t 2 f2) 3 f3) 4 f4) := hc_52.u4 e_f4 (by decide) rfl rfl rfl rfl rfl rfl
      refine lv_iconst (v := 0) hx hb dX3_takeLetters_63 (by decide) ?_
      refine lv_istore (lv' := [(4, .int (0 : Int32)), (3, .int (I_t 0 0)), (2, .int x1), (0, .ref (a_r 0)), (1, .ref (a_x 0))]) hx hb dX3_takeLetters_64 hl (by decide) rfl (fun ls hl => ?_)
      have L66 : ∀ (nn : Nat) (v4_66 : Int32) (I_t_66 : Nat → Nat → Int32), (hv_66 : 0 ≤ v4_66.toInt ∧ v4_66.toInt ≤ 6) → (hT_66 : TI I_t_66) → (ho_66 : I_t_66 0 = I_t 0) → (hz_66 : fxLt I_t I_t_66 (I_x 0) (I_t 0 0).toInt.toNat (I_r 0 4).toInt ((I_r 0 5).toInt - (I_r 0 4).toInt) v4_66.toInt) → ((7 - v4_66.toInt) < (nn : Int)) → ∀ (H : Heap) (locs : List Loc), va_P g.1 vwCl (wX3 g a_r I_r ++ (wArr g a_x n_x I_x ++ wX7 g a_t I_t_66)) H → va_D A (wX3 g a_r I_r ++ (wArr g a_x n_x I_x ++ wX7 g a_t I_t_66)) → va_S A s.heap H locs → ∀ ls : Array Slot, lv_has ls 5 [(4, .int v4_66), (3, .int (I_t 0 0)), (2, .int x1), (0, .ref (a_r 0)), (1, .ref (a_x 0))] → W p l e (rm 1) s m args below meth c H locs 0 0 Q (F0 m 66 ls []) := by
        intro n_66
        induction n_66 with
        | zero =>
          intro v4_66 I_t_66 hv_66 hT_66 ho_66 hz_66 hms_66 H locs hP hD hS ls hl
          exfalso; omega
        | succ n_66 ih_66 =>
          intro v4_66 I_t_66 hv_66 hT_66 ho_66 hz_66 hms_66 H locs hP hD hS ls hl
          refine lv_iload hx hb dX3_takeLetters_66 (lv_at hl 0 rfl) ?_
          refine lv_iload_n hx hb dX3_takeLetters_68 rfl (lv_at hl 2 rfl) ?_
          refine q_icmp_ge (tgt := 100) hx hb dX3_takeLetters_69 (by decide) rfl rfl (fun k_69 => ?_) (fun k_69 => ?_)
          · refine lv_aload_n hx hb dX3_takeLetters_100 rfl (lv_at hl 3 rfl) ?_
            refine lv_iconst (v := 2) hx hb dX3_takeLetters_101 (by decide) ?_
            refine va_put (D := g.1) (ci := 3) (v := .int (2 : Int32)) (ty := .int) (C := RX3) (T := TX3) (N := 10) hx hb hi_X3 (fun _ h => h) tyX3 tyX3_ok nmX3 hown hK.1 hP hD hS 0 rfl rfl 7 (by decide) hf_37 (fun _ h9 => h9) rfl (by decide +kernel) rfl rfl (Nat.le_of_ble_eq_true rfl) dX3_takeLetters_102 (fun H locs hP hD hS => ?_)
            have hP : va_P g.1 vwCl (wX3 g a_r (uF I_r 0 7 (2 : Int32)) ++ (wArr g a_x n_x I_x ++ wX7 g a_t I_t_66)) H := hP
            have hD : va_D A (wX3 g a_r (uF I_r 0 7 (2 : Int32)) ++ (wArr g a_x n_x I_x ++ wX7 g a_t I_t_66)) := hD
            refine lv_iconst (v := 0) hx hb dX3_takeLetters_105 (by decide) ?_
            refine hret 106 ls (0 : Int32) _ _ ((uF I_r 0 7 (2 : Int32)), I_t_66) dX3_takeLetters_106 hS hP hD ?_
            exact ⟨hT_66, (fun hr0 => (show QA ((2 : Int32)).toInt ((I_t_66 0 0)).toInt ((I_r 0 8)).toInt from (by have := congrArg Int32.toInt (congrFun ho_66 0); unfold QA; omega))), rfl, rfl, ⟨rfl, rfl⟩, congrFun ho_66 1, (by have o := fxLt.out hT (n := (I_t 0 0).toInt.toNat) (by omega) hz_66 (by omega); exact fx_inr (s' := (2, 0, (fxTd (I_r 0 9)), fxTc I_t, ((fxW (fxB (I_x 0)) (I_r 0 4).toInt (I_r 0 5).toInt).map (fun b => b - 96), [], 0))) (by unfold fxLets; rw [if_pos (by rw [fxW.len]; omega)]) (by decide) (fxSc.mk (show ((2 : Int32)).toInt = 2 from by decide) (if_neg (by decide)) rfl o.1 ((fxCu.is (by decide)).trans (show fxRc I_t_66 (I_t_66 0 0).toInt.toNat = _ from (by rw [show I_t_66 0 0 = I_t 0 0 from congrFun ho_66 0]; exact o.2)))))⟩
          · refine lv_aload_n hx hb dX3_takeLetters_72 rfl (lv_at hl 3 rfl) ?_
            refine va_get (D := g.1) (ci := 3) (v := .ref (a_t 0)) (C := RX3) (T := TX3) (N := 10) hx hb hi_X3 (fun _ h => h) hown hK.1 hP 0 rfl rfl 0 (by decide) hf_12 (fun _ h9 => h9) (congrArg (fun z => some (Value.ref z)) hl_r_table) dX3_takeLetters_73 ?_
            refine lv_iload_n hx hb dX3_takeLetters_76 rfl (lv_at hl 1 rfl) ?_
            refine lv_iload hx hb dX3_takeLetters_77 (lv_at hl 0 rfl) ?_
            refine lv_aload_n hx hb dX3_takeLetters_79 rfl (lv_at hl 4 rfl) ?_
            refine lv_aload_n hx hb dX3_takeLetters_80 rfl (lv_at hl 3 rfl) ?_
            refine va_get (D := g.1) (ci := 3) (v := .int (I_r 0 4)) (C := RX3) (T := TX3) (N := 10) hx hb hi_X3 (fun _ h => h) hown hK.1 hP 0 rfl rfl 4 (by decide) hf_28 (fun _ h9 => h9) rfl dX3_takeLetters_81 ?_
            refine lv_iload hx hb dX3_takeLetters_84 (lv_at hl 0 rfl) ?_
            refine r_iadd hx hb dX3_takeLetters_86 rfl rfl (fun x5 e_x5 t_x5 => ?_)
            try have t_x5 := t_x5 (by omega)
            have n_87 : vp_in x5 n_x := (t_in (by omega))
            refine va_iald hx hb hK.1 hP 1 0 rfl rfl n_87 dX3_takeLetters_87 ?_
            refine q_nm (fun x6 e_x6 => ?_)
            have e_x6 : x6 = (I_x 0) x5.toNatClampNeg := e_x6
            have g_x6 : x6.toInt = ((I_x 0) x5.toNatClampNeg).toInt := congrArg _ e_x6
            refine PurI.cn (C := RX10) (host := "RaisedPress") (As := [.int x6]) (kX10_letterOf l g x6) fx (gU (uT _) u_454) rfl hdX10_letterOf ⟨Nat.le_of_ble_eq_true rfl, Nat.le_of_ble_eq_true rfl⟩ hK hP [] rfl (nm_in_RX3_132) (uT _ _ u_453) (uT _ _ u_2) rfl rfl hl.1 (Nat.le_of_ble_eq_true rfl) dX3_takeLetters_88 (fun r7 p_r7 => ?_)
            refine EffV.cv (wr := (wX3 g a_r I_r ++ wArr g a_x n_x I_x)) (w' := fun u9 => wX3 g a_r I_r ++ (wArr g a_x n_x I_x ++ wX7 g a_t u9)) (As := [.int (I_t 0 0), .int v4_66, .int r7]) (kX7_putLetter l g a_t I_t_66 (I_t 0 0) v4_66 r7 (by omega) (by omega) (by omega) hT_66) fx (gUV (uT _) u_455 u_456 u_457 u_31 u_458) rfl hdX7_putLetter ⟨Nat.le_of_ble_eq_true rfl, Nat.le_of_ble_eq_true rfl⟩ hK hP hD hS hA [2, 3, 4, 5, 6, 7, 8] [0, 1] [0, 1, 2, 3, 4, 5, 6, 7, 8] rfl rfl rfl rfl (by decide) rfl (fun _ => rfl) rfl rfl rfl rfl hl.1 (Nat.le_of_ble_eq_true rfl) dX3_takeLetters_91 (fun u9 H locs p_r8 hP hD hS => ?_)
            have hP : va_P g.1 vwCl (wX3 g a_r I_r ++ (wArr g a_x n_x I_x ++ wX7 g a_t u9)) H := hP
            have hD : va_D A (wX3 g a_r I_r ++ (wArr g a_x n_x I_x ++ wX7 g a_t u9)) := hD
            refine r_iinc (lv' := fun i10 => [(4, .int i10), (3, .int (I_t 0 0)), (2, .int x1), (0, .ref (a_r 0)), (1, .ref (a_x 0))]) hx hb dX3_takeLetters_94 hl (k := 0) rfl (by decide) rfl (by decide) (fun _ => rfl) (fun i10 e_i10 t_i10 ls hl => ?_)
            try have t_i10 := t_i10 (by omega)
            refine lv_goto (tgt := 66) hx hb dX3_takeLetters_97 (by decide) ?_
            exact ih_66 i10 u9 (by omega) p_r8.1 (p_r8.2.1.trans ho_66) (fxLt.st hz_66 p_r8.2.2 (by omega) (by omega) p_r7.1 e_x6 (by omega) (by have w := h_w (by omega) x5.toNatClampNeg (by have := t_cl (i := x5) rfl (by omega); omega) (by have := t_cl (i := x5) rfl (by omega); omega); rw [e_x6]; exact w) (by omega)) (by omega) _ _ hP hD hS ls hl
      exact L66 ((7 - (0 : Int32).toInt) + 1).toNat (0 : Int32) (uR (uR (uR I_t 2 f2) 3 f3) 4 f4) (by omega) hc_62 rfl (fxLt.in e_f2 e_f3 e_f4 (by omega) (by decide) (by decide) (by omega)) (by omega) _ _ hP hD hS ls hl
    · refine lv_iconst (v := 2) hx hb dX3_takeLetters_23 (by decide) ?_
      have lr : (2 : Int32).toInt = 2 := by decide
      refine hret 24 ls (2 : Int32) _ _ (I_r, I_t) dX3_takeLetters_24 hS hP hD ?_
      exact ⟨hT, fun hr0 => by omega, rfl, rfl, ⟨rfl, rfl⟩, rfl, fx_inl (by unfold fxLets; rw [if_neg (by rw [fxW.len]; omega)]) (by decide) (by decide)⟩

set_option maxHeartbeats 4000000 in
set_option maxRecDepth 100000 in
theorem kX3_takeCell (l : Launch) (g : gG) (a_r : Nat → Nat) (I_r : Nat → Nat → Int32) (a_t : Nat → Nat) (I_t : Nat → Nat → Int32) (hl_r_table : a_r 100 = a_t 0) (hT : TI I_t) (h_ru : (I_t 0 0).toInt < 24) : EffI l g yX3_takeCell wsX3_takeCell 1 [.ref (a_r 0)] (wX3 g a_r I_r ++ wX7 g a_t I_t) (fun (u : ((Nat → Nat → Int32) × (Nat → Nat → Int32))) => wX3 g a_r (u.1) ++ wX7 g a_t (u.2)) (fun r (u : ((Nat → Nat → Int32) × (Nat → Nat → Int32))) => TI (u.2) ∧ (r.toInt = 0 → QA ((u.1) 0 7).toInt ((u.2) 0 0).toInt ((u.1) 0 8).toInt) ∧ (u.1) 0 4 = I_r 0 4 ∧ (u.1) 0 5 = I_r 0 5 ∧ ((u.1) 0 3 = I_r 0 3 ∧ (u.1) 0 2 = I_r 0 2) ∧ (u.2) 0 1 = I_t 0 1 ∧ fxOut (fxCell (I_r 0 6).toInt (fxTd (I_r 0 9)) (fxTc I_t) (fxRc I_t (I_t 0 0).toInt.toNat)) r (fxSc (u.1) (u.2))) := by
  refine EffI.st (cc := cX3_takeCell) (maxL := 3) (by decide) rfl (Nat.le_of_ble_eq_true rfl) (fun p e s m args below meth c A Q ls fx hK hP hD hA hS hl hret => ?_)
  have hx := fx.1
  have hb := fx.2.1
  have hml := fx.2.2.1
  have hown := fx.2.2.2.1
  have hts := fx.2.2.2.2
  have hl : lv_has ls 3 [(0, .ref (a_r 0))] := hl
  have hP : va_P g.1 vwCl (wX3 g a_r I_r ++ wX7 g a_t I_t) s.heap := hP
  have hf_12 := hts _ (uT _ _ u_76)
  have hf_34 := hts _ (uT _ _ u_82)
  have hf_37 := hts _ (uT _ _ u_83)
  have hf_106 := hts _ (uT _ _ u_388)
  have hf_126 := hts _ (uT _ _ u_451)
  have hi_X3 : ∀ w ∈ wsX30, w.before args s = true := fun w h => hts w (uT _ w (u_wsX30 w h))
  have hi_X7 : ∀ w ∈ wsX70, w.before args s = true := fun w h => hts w (uT _ w (u_wsX70 w h))
  have lm1 : (-1 : Int32).toInt = -1 := by decide
  have lm0 : (0 : Int32).toInt = 0 := by decide
  have lm2 : (1 : Int32).toInt = 1 := by decide
  have lq3 : (3 : Int32).toInt = 3 := by decide
  have lq4 : (4 : Int32).toInt = 4 := by decide
  have lq5 : (5 : Int32).toInt = 5 := by decide
  have hru := TI.ru hT
  refine lv_aload_n hx hb dX3_takeCell_0 rfl (lv_at hl 0 rfl) ?_
  refine va_get (D := g.1) (ci := 3) (v := .int (I_r 0 6)) (C := RX3) (T := TX3) (N := 10) hx hb hi_X3 (fun _ h => h) hown hK.1 hP 0 rfl rfl 6 (by decide) hf_34 (fun _ h9 => h9) rfl dX3_takeCell_1 ?_
  refine lv_iconst (v := 1) hx hb dX3_takeCell_4 (by decide) ?_
  refine q_icmp_lt (tgt := 17) hx hb dX3_takeCell_5 (by decide) rfl (by decide : (1 : Int32).toInt = 1) (fun k_5 => ?_) (fun k_5 => ?_)
  · refine lv_iconst (v := 4) hx hb dX3_takeCell_17 (by decide) ?_
    have lr : (4 : Int32).toInt = 4 := by decide
    refine hret 18 ls (4 : Int32) _ _ (I_r, I_t) dX3_takeCell_18 hS hP hD ?_
    exact ⟨hT, fun hr0 => by omega, rfl, rfl, ⟨rfl, rfl⟩, rfl, fx_inl (by unfold fxCell; rw [if_pos (by omega)]) (by decide) (by decide)⟩
  · refine lv_aload_n hx hb dX3_takeCell_8 rfl (lv_at hl 0 rfl) ?_
    refine va_get (D := g.1) (ci := 3) (v := .int (I_r 0 6)) (C := RX3) (T := TX3) (N := 10) hx hb hi_X3 (fun _ h => h) hown hK.1 hP 0 rfl rfl 6 (by decide) hf_34 (fun _ h9 => h9) rfl dX3_takeCell_9 ?_
    refine lv_bipush (v := 63) hx hb dX3_takeCell_12 (by decide) ?_
    refine q_icmp_le (tgt := 19) hx hb dX3_takeCell_14 (by decide) rfl (by decide : (63 : Int32).toInt = 63) (fun k_14 => ?_) (fun k_14 => ?_)
    · refine lv_aload_n hx hb dX3_takeCell_19 rfl (lv_at hl 0 rfl) ?_
      refine va_get (D := g.1) (ci := 3) (v := .ref (a_t 0)) (C := RX3) (T := TX3) (N := 10) hx hb hi_X3 (fun _ h => h) hown hK.1 hP 0 rfl rfl 0 (by decide) hf_12 (fun _ h9 => h9) (congrArg (fun z => some (Value.ref z)) hl_r_table) dX3_takeCell_20 ?_
      refine va_get (D := g.1) (ci := 7) (v := .int (I_t 0 0)) (C := RX7) (T := TX7) (N := 8) hx hb hi_X7 (fun _ h => h) hown hK.1 hP 1 rfl rfl 0 (by decide) hf_106 (fun _ h9 => h9) rfl dX3_takeCell_23 ?_
      refine lv_istore_n (lv' := [(1, .int (I_t 0 0)), (0, .ref (a_r 0))]) hx hb dX3_takeCell_26 rfl hl (by decide) rfl (fun ls hl => ?_)
      refine lv_aload_n hx hb dX3_takeCell_27 rfl (lv_at hl 1 rfl) ?_
      refine va_get (D := g.1) (ci := 3) (v := .ref (a_t 0)) (C := RX3) (T := TX3) (N := 10) hx hb hi_X3 (fun _ h => h) hown hK.1 hP 0 rfl rfl 0 (by decide) hf_12 (fun _ h9 => h9) (congrArg (fun z => some (Value.ref z)) hl_r_table) dX3_takeCell_28 ?_
      refine va_get (D := g.1) (ci := 7) (v := .ref (a_t 3)) (C := RX7) (T := TX7) (N := 8) hx hb hi_X7 (fun _ h => h) hown hK.1 hP 1 rfl rfl 4 (by decide) hf_126 (fun _ h9 => h9) rfl dX3_takeCell_31 ?_
      refine lv_iload_n hx hb dX3_takeCell_34 rfl (lv_at hl 0 rfl) ?_
      have n_35 : vp_in (I_t 0 0) 24 := (t_in (by omega))
      refine va_iald hx hb hK.1 hP 4 0 rfl rfl n_35 dX3_takeCell_35 ?_
      refine q_nm (fun x1 e_x1 => ?_)
      have e_x1 : x1 = (I_t 3) (I_t 0 0).toNatClampNeg := e_x1
      have g_x1 : x1.toInt = ((I_t 3) (I_t 0 0).toNatClampNeg).toInt := congrArg _ e_x1
      have f_x1 := TI.cc hT (I_t 0 0).toNatClampNeg
      rw [← e_x1] at f_x1
      refine lv_istore_n (lv' := [(2, .int x1), (1, .int (I_t 0 0)), (0, .ref (a_r 0))]) hx hb dX3_takeCell_36 rfl hl (by decide) rfl (fun ls hl => ?_)
      refine lv_iload_n hx hb dX3_takeCell_37 rfl (lv_at hl 0 rfl) ?_
      refine lv_iconst (v := 3) hx hb dX3_takeCell_38 (by decide) ?_
      refine q_icmp_lt (tgt := 44) hx hb dX3_takeCell_39 (by decide) rfl (by decide : (3 : Int32).toInt = 3) (fun k_39 => ?_) (fun k_39 => ?_)
      · refine lv_aload_n hx hb dX3_takeCell_44 rfl (lv_at hl 2 rfl) ?_
        refine va_get (D := g.1) (ci := 3) (v := .ref (a_t 0)) (C := RX3) (T := TX3) (N := 10) hx hb hi_X3 (fun _ h => h) hown hK.1 hP 0 rfl rfl 0 (by decide) hf_12 (fun _ h9 => h9) (congrArg (fun z => some (Value.ref z)) hl_r_table) dX3_takeCell_45 ?_
        refine lv_iload_n hx hb dX3_takeCell_48 rfl (lv_at hl 1 rfl) ?_
        refine lv_iload_n hx hb dX3_takeCell_49 rfl (lv_at hl 0 rfl) ?_
        refine lv_aload_n hx hb dX3_takeCell_50 rfl (lv_at hl 2 rfl) ?_
        refine va_get (D := g.1) (ci := 3) (v := .int (I_r 0 6)) (C := RX3) (T := TX3) (N := 10) hx hb hi_X3 (fun _ h => h) hown hK.1 hP 0 rfl rfl 6 (by decide) hf_34 (fun _ h9 => h9) rfl dX3_takeCell_51 ?_
        refine EffV.cv (wr := (wX3 g a_r I_r)) (w' := fun u3 => wX3 g a_r I_r ++ wX7 g a_t u3) (As := [.int (I_t 0 0), .int x1, .int (I_r 0 6)]) (kX7_putCell l g a_t I_t (I_t 0 0) x1 (I_r 0 6) (by omega) (by omega) (by omega) hT) fx (gUV (uT _) u_463 u_464 u_465 u_31 u_466) rfl hdX7_putCell ⟨Nat.le_of_ble_eq_true rfl, Nat.le_of_ble_eq_true rfl⟩ hK hP hD hS hA [1, 2, 3, 4, 5, 6, 7] [0] [0, 1, 2, 3, 4, 5, 6, 7] rfl rfl rfl rfl (by decide) rfl (fun _ => rfl) rfl rfl rfl rfl hl.1 (Nat.le_of_ble_eq_true rfl) dX3_takeCell_54 (fun u3 H locs p_r2 hP hD hS => ?_)
        have hP : va_P g.1 vwCl (wX3 g a_r I_r ++ wX7 g a_t u3) H := hP
        have hD : va_D A (wX3 g a_r I_r ++ wX7 g a_t u3) := hD
        refine lv_aload_n hx hb dX3_takeCell_57 rfl (lv_at hl 2 rfl) ?_
        refine va_get (D := g.1) (ci := 3) (v := .ref (a_t 0)) (C := RX3) (T := TX3) (N := 10) hx hb hi_X3 (fun _ h => h) hown hK.1 hP 0 rfl rfl 0 (by decide) hf_12 (fun _ h9 => h9) (congrArg (fun z => some (Value.ref z)) hl_r_table) dX3_takeCell_58 ?_
        refine va_get (D := g.1) (ci := 7) (v := .ref (a_t 3)) (C := RX7) (T := TX7) (N := 8) hx hb hi_X7 (fun _ h => h) hown hK.1 hP 1 rfl rfl 4 (by decide) hf_126 (fun _ h9 => h9) rfl dX3_takeCell_61 ?_
        refine lv_iload_n hx hb dX3_takeCell_64 rfl (lv_at hl 1 rfl) ?_
        refine lv_iload_n hx hb dX3_takeCell_65 rfl (lv_at hl 0 rfl) ?_
        refine lv_iconst (v := 1) hx hb dX3_takeCell_66 (by decide) ?_
        refine r_iadd hx hb dX3_takeCell_67 rfl (by decide : (1 : Int32).toInt = 1) (fun x4 e_x4 t_x4 => ?_)
        try have t_x4 := t_x4 (by omega)
        have n_68 : vp_in (I_t 0 0) 24 := (t_in (by omega))
        obtain ⟨f5, e_f5⟩ : ∃ z, z = upd (u3 3) (I_t 0 0).toNatClampNeg x4 := ⟨_, rfl⟩
        refine va_iast hx hb hK.1 hP hD hS 4 0 rfl rfl n_68 dX3_takeCell_68 (fun H locs hP hD hS => ?_)
        have hP : va_P g.1 vwCl (wX3 g a_r I_r ++ wX7 g a_t (uR u3 3 f5)) H := by rw [e_f5]; exact hP
        have hD : va_D A (wX3 g a_r I_r ++ wX7 g a_t (uR u3 3 f5)) := by rw [e_f5]; exact hD
        have hc_68 : TI (uR u3 3 f5) := TI.u3 p_r2.1 e_f5 (by omega) rfl rfl rfl rfl rfl rfl
        refine lv_aload_n hx hb dX3_takeCell_69 rfl (lv_at hl 2 rfl) ?_
        refine lv_iconst (v := 4) hx hb dX3_takeCell_70 (by decide) ?_
        refine va_put (D := g.1) (ci := 3) (v := .int (4 : Int32)) (ty := .int) (C := RX3) (T := TX3) (N := 10) hx hb hi_X3 (fun _ h => h) tyX3 tyX3_ok nmX3 hown hK.1 hP hD hS 0 rfl rfl 7 (by decide) hf_37 (fun _ h9 => h9) rfl (by decide +kernel) rfl rfl (Nat.le_of_ble_eq_true rfl) dX3_takeCell_71 (fun H locs hP hD hS => ?_)
        have hP : va_P g.1 vwCl (wX3 g a_r (uF I_r 0 7 (4 : Int32)) ++ wX7 g a_t (uR u3 3 f5)) H := hP
        have hD : va_D A (wX3 g a_r (uF I_r 0 7 (4 : Int32)) ++ wX7 g a_t (uR u3 3 f5)) := hD
        refine lv_iconst (v := 0) hx hb dX3_takeCell_74 (by decide) ?_
        refine hret 75 ls (0 : Int32) _ _ ((uF I_r 0 7 (4 : Int32)), (uR u3 3 f5)) dX3_takeCell_75 hS hP hD ?_
        exact ⟨hc_68, (fun hr0 => (show QA ((4 : Int32)).toInt ((u3 0 0)).toInt ((I_r 0 8)).toInt from (by have := congrArg Int32.toInt (congrFun p_r2.2.1 0); unfold QA; omega))), rfl, rfl, ⟨rfl, rfl⟩, congrFun p_r2.2.1 1, (by have o := fx_cell (I' := (uR u3 3 f5)) (n := (I_t 0 0).toInt.toNat) (c := x1.toInt.toNat) (v := I_r 0 6) (x := x4) hT (by omega) p_r2.2.1 (by rw [p_r2.2.2.2]; rfl) (by rw [p_r2.2.2.2]; rfl) (fx_uRe.trans (e_f5.trans (by rw [p_r2.2.2.1]; rfl))) (by rw [p_r2.2.2.2]; rfl) (by rw [p_r2.2.2.2]; rfl) (by rw [p_r2.2.2.2]; rfl) (by omega) (by rw [show (I_t 3 (I_t 0 0).toInt.toNat) = x1 from e_x1.symm]; omega) (by omega) (by omega); exact fx_inr (s' := (4, 0, (fxTd (I_r 0 9)), fxTc I_t, ((fxRc I_t (I_t 0 0).toInt.toNat).1, (fxRc I_t (I_t 0 0).toInt.toNat).2.1 ++ [(I_r 0 6).toInt], (fxRc I_t (I_t 0 0).toInt.toNat).2.2))) (by unfold fxCell; rw [if_neg (by omega), if_neg (by show ¬ 3 ≤ (fxCs I_t _).length; rw [fxCs.len, show (I_t 3 (I_t 0 0).toInt.toNat) = x1 from e_x1.symm]; omega)]) (by decide) (fxSc.mk (show ((4 : Int32)).toInt = 4 from by decide) (if_neg (by decide)) rfl o.1 ((fxCu.is (by decide)).trans (show fxRc (uR u3 3 f5) ((uR u3 3 f5) 0 0).toInt.toNat = _ from (by rw [show (uR u3 3 f5) 0 0 = I_t 0 0 from congrFun p_r2.2.1 0]; exact o.2)))))⟩
      · refine lv_iconst (v := 5) hx hb dX3_takeCell_42 (by decide) ?_
        have lr : (5 : Int32).toInt = 5 := by decide
        refine hret 43 ls (5 : Int32) _ _ (I_r, I_t) dX3_takeCell_43 hS hP hD ?_
        exact ⟨hT, fun hr0 => by omega, rfl, rfl, ⟨rfl, rfl⟩, rfl, fx_inl (by unfold fxCell; rw [if_neg (by omega), if_pos (by show 3 ≤ (fxCs I_t _).length; rw [fxCs.len, show (I_t 3 (I_t 0 0).toInt.toNat) = x1 from e_x1.symm]; omega)]) (by decide) (by decide)⟩
    · refine lv_iconst (v := 4) hx hb dX3_takeCell_17 (by decide) ?_
      have lr : (4 : Int32).toInt = 4 := by decide
      refine hret 18 ls (4 : Int32) _ _ (I_r, I_t) dX3_takeCell_18 hS hP hD ?_
      exact ⟨hT, fun hr0 => by omega, rfl, rfl, ⟨rfl, rfl⟩, rfl, fx_inl (by unfold fxCell; rw [if_pos (by omega)]) (by decide) (by decide)⟩

set_option maxHeartbeats 4000000 in
set_option maxRecDepth 100000 in
theorem kX3_takeRule (l : Launch) (g : gG) (a_r : Nat → Nat) (I_r : Nat → Nat → Int32) (a_t : Nat → Nat) (I_t : Nat → Nat → Int32) (hl_r_table : a_r 100 = a_t 0) (hT : TI I_t) (h_ru : (I_t 0 0).toInt < 24) : EffI l g yX3_takeRule wsX3_takeRule 2 [.ref (a_r 0)] (wX3 g a_r I_r ++ wX7 g a_t I_t) (fun (u : ((Nat → Nat → Int32) × (Nat → Nat → Int32))) => wX3 g a_r (u.1) ++ wX7 g a_t (u.2)) (fun r (u : ((Nat → Nat → Int32) × (Nat → Nat → Int32))) => TI (u.2) ∧ (r.toInt = 0 → QA ((u.1) 0 7).toInt ((u.2) 0 0).toInt ((u.1) 0 8).toInt) ∧ (u.1) 0 4 = I_r 0 4 ∧ (u.1) 0 5 = I_r 0 5 ∧ ((u.1) 0 3 = I_r 0 3 ∧ (u.1) 0 2 = I_r 0 2) ∧ (u.2) 0 1 = I_t 0 1 ∧ fxOut (fxRule (fxTd (I_r 0 9)) (fxTc I_t) (fxRc I_t (I_t 0 0).toInt.toNat)) r (fxSc (u.1) (u.2))) := by
  refine EffI.st (cc := cX3_takeRule) (maxL := 2) (by decide) rfl (Nat.le_of_ble_eq_true rfl) (fun p e s m args below meth c A Q ls fx hK hP hD hA hS hl hret => ?_)
  have hx := fx.1
  have hb := fx.2.1
  have hml := fx.2.2.1
  have hown := fx.2.2.2.1
  have hts := fx.2.2.2.2
  have hl : lv_has ls 2 [(0, .ref (a_r 0))] := hl
  have hP : va_P g.1 vwCl (wX3 g a_r I_r ++ wX7 g a_t I_t) s.heap := hP
  have hf_12 := hts _ (uT _ _ u_76)
  have hf_37 := hts _ (uT _ _ u_83)
  have hf_106 := hts _ (uT _ _ u_388)
  have hi_X3 : ∀ w ∈ wsX30, w.before args s = true := fun w h => hts w (uT _ w (u_wsX30 w h))
  have hi_X7 : ∀ w ∈ wsX70, w.before args s = true := fun w h => hts w (uT _ w (u_wsX70 w h))
  have lm1 : (-1 : Int32).toInt = -1 := by decide
  have lm0 : (0 : Int32).toInt = 0 := by decide
  have lm2 : (1 : Int32).toInt = 1 := by decide
  have lq3 : (3 : Int32).toInt = 3 := by decide
  have hru := TI.ru hT
  refine lv_iconst (v := 0) hx hb dX3_takeRule_0 (by decide) ?_
  refine lv_istore_n (lv' := [(1, .int (0 : Int32)), (0, .ref (a_r 0))]) hx hb dX3_takeRule_1 rfl hl (by decide) rfl (fun ls hl => ?_)
  have L2 : ∀ (nn : Nat) (v1_2 : Int32), (hv_2 : 0 ≤ v1_2.toInt ∧ v1_2.toInt ≤ 24) → (hn_2 : ∀ r : Nat, (r : Int) < v1_2.toInt → ¬ (fxLs I_t r = fxLs I_t (I_t 0 0).toInt.toNat ∧ (I_t 4 r).toInt = (I_t 4 (I_t 0 0).toInt.toNat).toInt)) → ((25 - v1_2.toInt) < (nn : Int)) → ∀ (H : Heap) (locs : List Loc), va_P g.1 vwCl (wX3 g a_r I_r ++ wX7 g a_t I_t) H → va_D A (wX3 g a_r I_r ++ wX7 g a_t I_t) → va_S A s.heap H locs → ∀ ls : Array Slot, lv_has ls 2 [(1, .int v1_2), (0, .ref (a_r 0))] → W p l e (rm 2) s m args below meth c H locs 0 0 Q (F0 m 2 ls []) := by
    intro n_2
    induction n_2 with
    | zero =>
      intro v1_2 hv_2 hn_2 hms_2 H locs hP hD hS ls hl
      exfalso; omega
    | succ n_2 ih_2 =>
      intro v1_2 hv_2 hn_2 hms_2 H locs hP hD hS ls hl
      refine lv_iload_n hx hb dX3_takeRule_2 rfl (lv_at hl 0 rfl) ?_
      refine lv_aload_n hx hb dX3_takeRule_3 rfl (lv_at hl 1 rfl) ?_
      refine va_get (D := g.1) (ci := 3) (v := .ref (a_t 0)) (C := RX3) (T := TX3) (N := 10) hx hb hi_X3 (fun _ h => h) hown hK.1 hP 0 rfl rfl 0 (by decide) hf_12 (fun _ h9 => h9) (congrArg (fun z => some (Value.ref z)) hl_r_table) dX3_takeRule_4 ?_
      refine va_get (D := g.1) (ci := 7) (v := .int (I_t 0 0)) (C := RX7) (T := TX7) (N := 8) hx hb hi_X7 (fun _ h => h) hown hK.1 hP 1 rfl rfl 0 (by decide) hf_106 (fun _ h9 => h9) rfl dX3_takeRule_7 ?_
      refine q_icmp_ge (tgt := 39) hx hb dX3_takeRule_10 (by decide) rfl rfl (fun k_10 => ?_) (fun k_10 => ?_)
      · refine lv_aload_n hx hb dX3_takeRule_39 rfl (lv_at hl 1 rfl) ?_
        refine va_get (D := g.1) (ci := 3) (v := .ref (a_t 0)) (C := RX3) (T := TX3) (N := 10) hx hb hi_X3 (fun _ h => h) hown hK.1 hP 0 rfl rfl 0 (by decide) hf_12 (fun _ h9 => h9) (congrArg (fun z => some (Value.ref z)) hl_r_table) dX3_takeRule_40 ?_
        refine lv_dup hx hb dX3_takeRule_43 rfl ?_
        refine va_get (D := g.1) (ci := 7) (v := .int (I_t 0 0)) (C := RX7) (T := TX7) (N := 8) hx hb hi_X7 (fun _ h => h) hown hK.1 hP 1 rfl rfl 0 (by decide) hf_106 (fun _ h9 => h9) rfl dX3_takeRule_44 ?_
        refine lv_iconst (v := 1) hx hb dX3_takeRule_47 (by decide) ?_
        refine r_iadd hx hb dX3_takeRule_48 rfl (by decide : (1 : Int32).toInt = 1) (fun x1 e_x1 t_x1 => ?_)
        try have t_x1 := t_x1 (by omega)
        refine va_put (D := g.1) (ci := 7) (v := .int x1) (ty := .int) (C := RX7) (T := TX7) (N := 8) hx hb hi_X7 (fun _ h => h) tyX7 tyX7_ok nmX7 hown hK.1 hP hD hS 1 rfl rfl 0 (by decide) hf_106 (fun _ h9 => h9) rfl (by decide +kernel) rfl rfl (Nat.le_of_ble_eq_true rfl) dX3_takeRule_49 (fun H locs hP hD hS => ?_)
        have hP : va_P g.1 vwCl (wX3 g a_r I_r ++ wX7 g a_t (uF I_t 0 0 x1)) H := hP
        have hD : va_D A (wX3 g a_r I_r ++ wX7 g a_t (uF I_t 0 0 x1)) := hD
        have hc_49 : TI (uF I_t 0 0 x1) := hT.ur (show 0 ≤ (x1).toInt ∧ (x1).toInt ≤ 24 from (by omega)) rfl rfl rfl rfl rfl rfl
        refine lv_aload_n hx hb dX3_takeRule_52 rfl (lv_at hl 1 rfl) ?_
        refine lv_iconst (v := 0) hx hb dX3_takeRule_53 (by decide) ?_
        refine va_put (D := g.1) (ci := 3) (v := .int (0 : Int32)) (ty := .int) (C := RX3) (T := TX3) (N := 10) hx hb hi_X3 (fun _ h => h) tyX3 tyX3_ok nmX3 hown hK.1 hP hD hS 0 rfl rfl 7 (by decide) hf_37 (fun _ h9 => h9) rfl (by decide +kernel) rfl rfl (Nat.le_of_ble_eq_true rfl) dX3_takeRule_54 (fun H locs hP hD hS => ?_)
        have hP : va_P g.1 vwCl (wX3 g a_r (uF I_r 0 7 (0 : Int32)) ++ wX7 g a_t (uF I_t 0 0 x1)) H := hP
        have hD : va_D A (wX3 g a_r (uF I_r 0 7 (0 : Int32)) ++ wX7 g a_t (uF I_t 0 0 x1)) := hD
        refine lv_iconst (v := 0) hx hb dX3_takeRule_57 (by decide) ?_
        refine hret 58 ls (0 : Int32) _ _ ((uF I_r 0 7 (0 : Int32)), (uF I_t 0 0 x1)) dX3_takeRule_58 hS hP hD ?_
        exact ⟨hc_49, (fun hr0 => (show QA ((0 : Int32)).toInt (x1).toInt ((I_r 0 8)).toInt from (by unfold QA; omega))), rfl, rfl, ⟨rfl, rfl⟩, rfl, fx_inr (s' := (0, 0, (fxTd (I_r 0 9)), (fxSg I_t, (fxTc I_t).2 ++ [(fxRc I_t (I_t 0 0).toInt.toNat)]), fxE)) (fxRule.new (by omega) (fun r hr q => hn_2 r (by omega) q)) (by decide) (fxSc.mk (show ((0 : Int32)).toInt = 0 from by decide) (if_neg (by decide)) rfl (fxTc.add (by omega) (show (x1).toInt = _ from (by omega)) (fun c hc => fx_uFc hc)) (fxCu.no (by decide)))⟩
      · refine lv_aload_n hx hb dX3_takeRule_13 rfl (lv_at hl 1 rfl) ?_
        refine va_get (D := g.1) (ci := 3) (v := .ref (a_t 0)) (C := RX3) (T := TX3) (N := 10) hx hb hi_X3 (fun _ h => h) hown hK.1 hP 0 rfl rfl 0 (by decide) hf_12 (fun _ h9 => h9) (congrArg (fun z => some (Value.ref z)) hl_r_table) dX3_takeRule_14 ?_
        refine lv_iload_n hx hb dX3_takeRule_17 rfl (lv_at hl 0 rfl) ?_
        refine lv_aload_n hx hb dX3_takeRule_18 rfl (lv_at hl 1 rfl) ?_
        refine va_get (D := g.1) (ci := 3) (v := .ref (a_t 0)) (C := RX3) (T := TX3) (N := 10) hx hb hi_X3 (fun _ h => h) hown hK.1 hP 0 rfl rfl 0 (by decide) hf_12 (fun _ h9 => h9) (congrArg (fun z => some (Value.ref z)) hl_r_table) dX3_takeRule_19 ?_
        refine va_get (D := g.1) (ci := 7) (v := .int (I_t 0 0)) (C := RX7) (T := TX7) (N := 8) hx hb hi_X7 (fun _ h => h) hown hK.1 hP 1 rfl rfl 0 (by decide) hf_106 (fun _ h9 => h9) rfl dX3_takeRule_22 ?_
        refine PurI.cv (As := [.int v1_2, .int (I_t 0 0)]) (kX7_isSameRule l g a_t I_t v1_2 (I_t 0 0) (by omega) (by omega) hT) fx (gUV (uT _) u_475 u_476 u_477 u_31 u_478) rfl hdX7_isSameRule ⟨Nat.le_of_ble_eq_true rfl, Nat.le_of_ble_eq_true rfl⟩ hK hP [1, 2, 3, 4, 5, 6, 7] rfl rfl rfl rfl rfl hl.1 (Nat.le_of_ble_eq_true rfl) dX3_takeRule_25 (fun r2 p_r2 => ?_)
        refine q_if_eq (tgt := 33) hx hb dX3_takeRule_28 (by decide) rfl (fun b_28 k_28 => ?_) (fun b_28 k_28 => ?_)
        · have q_28 := bP.f p_r2 b_28
          refine r_iinc (lv' := fun i3 => [(1, .int i3), (0, .ref (a_r 0))]) hx hb dX3_takeRule_33 hl (k := 0) rfl (by decide) rfl (by decide) (fun _ => rfl) (fun i3 e_i3 t_i3 ls hl => ?_)
          try have t_i3 := t_i3 (by omega)
          refine lv_goto (tgt := 2) hx hb dX3_takeRule_36 (by decide) ?_
          exact ih_2 i3 (by omega) (fun r q => by by_cases w : (r : Int) < v1_2.toInt; exact hn_2 r w; rw [show r = v1_2.toNatClampNeg by have := t_cl (i := v1_2) rfl (by omega); omega]; exact q_28) (by omega) _ _ hP hD hS ls hl
        · have q_28 := bP.t p_r2 b_28
          refine lv_iconst (v := 3) hx hb dX3_takeRule_31 (by decide) ?_
          have lr : (3 : Int32).toInt = 3 := by decide
          refine hret 32 ls (3 : Int32) _ _ (I_r, I_t) dX3_takeRule_32 hS hP hD ?_
          exact ⟨hT, fun hr0 => by omega, rfl, rfl, ⟨rfl, rfl⟩, rfl, fx_inl (fxRule.same (by omega) (by have := t_cl (i := v1_2) rfl (by omega); omega) q_28) (by decide) (by decide)⟩
  exact L2 ((25 - (0 : Int32).toInt) + 1).toNat (0 : Int32) (by omega) (fun r q => by rw [lm0] at q; omega) (by omega) _ _ hP hD hS ls hl

set_option maxHeartbeats 4000000 in
set_option maxRecDepth 100000 in
theorem kX3_takeSign (l : Launch) (g : gG) (a_r : Nat → Nat) (I_r : Nat → Nat → Int32) (a_t : Nat → Nat) (I_t : Nat → Nat → Int32) (hl_r_table : a_r 100 = a_t 0) (hT : TI I_t) (h_sg : 0 ≤ (I_r 0 8).toInt ∧ (I_r 0 8).toInt ≤ 4) : EffI l g yX3_takeSign wsX3_takeSign 0 [.ref (a_r 0)] (wX3 g a_r I_r ++ wX7 g a_t I_t) (fun (u : ((Nat → Nat → Int32) × (Nat → Nat → Int32))) => wX3 g a_r (u.1) ++ wX7 g a_t (u.2)) (fun r (u : ((Nat → Nat → Int32) × (Nat → Nat → Int32))) => TI (u.2) ∧ (r.toInt = 0 → QA ((u.1) 0 7).toInt ((u.2) 0 0).toInt ((u.1) 0 8).toInt) ∧ (u.1) 0 4 = I_r 0 4 ∧ (u.1) 0 5 = I_r 0 5 ∧ ((u.1) 0 3 = I_r 0 3 ∧ (u.1) 0 2 = I_r 0 2) ∧ (u.2) 0 1 = I_t 0 1 ∧ fxOut (fxSgv (I_r 0 6).toInt (I_r 0 8).toInt (fxTd (I_r 0 9)) (fxTc I_t)) r (fxSc (u.1) (u.2))) := by
  refine EffI.st (cc := cX3_takeSign) (maxL := 3) (by decide) rfl (Nat.le_of_ble_eq_true rfl) (fun p e s m args below meth c A Q ls fx hK hP hD hA hS hl hret => ?_)
  have hx := fx.1
  have hb := fx.2.1
  have hml := fx.2.2.1
  have hown := fx.2.2.2.1
  have hts := fx.2.2.2.2
  have hl : lv_has ls 3 [(0, .ref (a_r 0))] := hl
  have hP : va_P g.1 vwCl (wX3 g a_r I_r ++ wX7 g a_t I_t) s.heap := hP
  have hf_12 := hts _ (uT _ _ u_76)
  have hf_34 := hts _ (uT _ _ u_82)
  have hf_37 := hts _ (uT _ _ u_83)
  have hf_40 := hts _ (uT _ _ u_84)
  have hf_158 := hts _ (uT _ _ u_491)
  have hi_X3 : ∀ w ∈ wsX30, w.before args s = true := fun w h => hts w (uT _ w (u_wsX30 w h))
  have hi_X7 : ∀ w ∈ wsX70, w.before args s = true := fun w h => hts w (uT _ w (u_wsX70 w h))
  have lm1 : (-1 : Int32).toInt = -1 := by decide
  have lm0 : (0 : Int32).toInt = 0 := by decide
  have lm2 : (1 : Int32).toInt = 1 := by decide
  have lq2 : (2 : Int32).toInt = 2 := by decide
  have lq3 : (3 : Int32).toInt = 3 := by decide
  have lq4 : (4 : Int32).toInt = 4 := by decide
  have lq7 : (7 : Int32).toInt = 7 := by decide
  have hru := TI.ru hT
  have lq40 : (40 : Int32).toInt = 40 := by decide
  have lq30 : (30 : Int32).toInt = 30 := by decide
  have lq63 : (63 : Int32).toInt = 63 := by decide
  refine lv_iconst (v := 1) hx hb dX3_takeSign_0 (by decide) ?_
  refine lv_istore_n (lv' := [(1, .int (1 : Int32)), (0, .ref (a_r 0))]) hx hb dX3_takeSign_1 rfl hl (by decide) rfl (fun ls hl => ?_)
  refine lv_bipush (v := 63) hx hb dX3_takeSign_2 (by decide) ?_
  refine lv_istore_n (lv' := [(2, .int (63 : Int32)), (1, .int (1 : Int32)), (0, .ref (a_r 0))]) hx hb dX3_takeSign_4 rfl hl (by decide) rfl (fun ls hl => ?_)
  refine lv_aload_n hx hb dX3_takeSign_5 rfl (lv_at hl 2 rfl) ?_
  refine va_get (D := g.1) (ci := 3) (v := .int (I_r 0 8)) (C := RX3) (T := TX3) (N := 10) hx hb hi_X3 (fun _ h => h) hown hK.1 hP 0 rfl rfl 8 (by decide) hf_40 (fun _ h9 => h9) rfl dX3_takeSign_6 ?_
  refine lv_iconst (v := 3) hx hb dX3_takeSign_9 (by decide) ?_
  refine q_icmp_ne (tgt := 21) hx hb dX3_takeSign_10 (by decide) rfl (by decide : (3 : Int32).toInt = 3) (fun k_10 => ?_) (fun k_10 => ?_)
  · refine lv_aload_n hx hb dX3_takeSign_21 rfl (lv_at hl 2 rfl) ?_
    refine va_get (D := g.1) (ci := 3) (v := .int (I_r 0 8)) (C := RX3) (T := TX3) (N := 10) hx hb hi_X3 (fun _ h => h) hown hK.1 hP 0 rfl rfl 8 (by decide) hf_40 (fun _ h9 => h9) rfl dX3_takeSign_22 ?_
    refine lv_iconst (v := 4) hx hb dX3_takeSign_25 (by decide) ?_
    refine q_icmp_ne (tgt := 34) hx hb dX3_takeSign_26 (by decide) rfl (by decide : (4 : Int32).toInt = 4) (fun k_26 => ?_) (fun k_26 => ?_)
    · refine lv_aload_n hx hb dX3_takeSign_34 rfl (lv_at hl 2 rfl) ?_
      refine va_get (D := g.1) (ci := 3) (v := .int (I_r 0 6)) (C := RX3) (T := TX3) (N := 10) hx hb hi_X3 (fun _ h => h) hown hK.1 hP 0 rfl rfl 6 (by decide) hf_34 (fun _ h9 => h9) rfl dX3_takeSign_35 ?_
      refine lv_iload_n hx hb dX3_takeSign_38 rfl (lv_at hl 1 rfl) ?_
      refine q_icmp_lt (tgt := 50) hx hb dX3_takeSign_39 (by decide) rfl (by decide : (1 : Int32).toInt = 1) (fun k_39 => ?_) (fun k_39 => ?_)
      · refine lv_iconst (v := 4) hx hb dX3_takeSign_50 (by decide) ?_
        have lr : (4 : Int32).toInt = 4 := by decide
        refine hret 51 ls (4 : Int32) _ _ (I_r, I_t) dX3_takeSign_51 hS hP hD ?_
        exact ⟨hT, fun hr0 => by omega, rfl, rfl, ⟨rfl, rfl⟩, rfl, fx_inl (fxSgv.bad (by omega)) (by decide) (by decide)⟩
      · refine lv_aload_n hx hb dX3_takeSign_42 rfl (lv_at hl 2 rfl) ?_
        refine va_get (D := g.1) (ci := 3) (v := .int (I_r 0 6)) (C := RX3) (T := TX3) (N := 10) hx hb hi_X3 (fun _ h => h) hown hK.1 hP 0 rfl rfl 6 (by decide) hf_34 (fun _ h9 => h9) rfl dX3_takeSign_43 ?_
        refine lv_iload_n hx hb dX3_takeSign_46 rfl (lv_at hl 0 rfl) ?_
        refine q_icmp_le (tgt := 52) hx hb dX3_takeSign_47 (by decide) rfl (by decide : (63 : Int32).toInt = 63) (fun k_47 => ?_) (fun k_47 => ?_)
        · refine lv_aload_n hx hb dX3_takeSign_52 rfl (lv_at hl 2 rfl) ?_
          refine va_get (D := g.1) (ci := 3) (v := .ref (a_t 0)) (C := RX3) (T := TX3) (N := 10) hx hb hi_X3 (fun _ h => h) hown hK.1 hP 0 rfl rfl 0 (by decide) hf_12 (fun _ h9 => h9) (congrArg (fun z => some (Value.ref z)) hl_r_table) dX3_takeSign_53 ?_
          refine va_get (D := g.1) (ci := 7) (v := .ref (a_t 1)) (C := RX7) (T := TX7) (N := 8) hx hb hi_X7 (fun _ h => h) hown hK.1 hP 1 rfl rfl 2 (by decide) hf_158 (fun _ h9 => h9) rfl dX3_takeSign_56 ?_
          refine lv_aload_n hx hb dX3_takeSign_59 rfl (lv_at hl 2 rfl) ?_
          refine va_get (D := g.1) (ci := 3) (v := .int (I_r 0 8)) (C := RX3) (T := TX3) (N := 10) hx hb hi_X3 (fun _ h => h) hown hK.1 hP 0 rfl rfl 8 (by decide) hf_40 (fun _ h9 => h9) rfl dX3_takeSign_60 ?_
          refine lv_aload_n hx hb dX3_takeSign_63 rfl (lv_at hl 2 rfl) ?_
          refine va_get (D := g.1) (ci := 3) (v := .int (I_r 0 6)) (C := RX3) (T := TX3) (N := 10) hx hb hi_X3 (fun _ h => h) hown hK.1 hP 0 rfl rfl 6 (by decide) hf_34 (fun _ h9 => h9) rfl dX3_takeSign_64 ?_
          have n_67 : vp_in (I_r 0 8) 5 := (t_in (by omega))
          obtain ⟨f1, e_f1⟩ : ∃ z, z = upd (I_t 1) (I_r 0 8).toNatClampNeg (I_r 0 6) := ⟨_, rfl⟩
          refine va_iast hx hb hK.1 hP hD hS 2 0 rfl rfl n_67 dX3_takeSign_67 (fun H locs hP hD hS => ?_)
          have hP : va_P g.1 vwCl (wX3 g a_r I_r ++ wX7 g a_t (uR I_t 1 f1)) H := by rw [e_f1]; exact hP
          have hD : va_D A (wX3 g a_r I_r ++ wX7 g a_t (uR I_t 1 f1)) := by rw [e_f1]; exact hD
          have hc_67 : TI (uR I_t 1 f1) := hT.us e_f1 (by omega) (by omega) rfl rfl rfl rfl rfl rfl
          refine lv_aload_n hx hb dX3_takeSign_68 rfl (lv_at hl 2 rfl) ?_
          refine lv_bipush (v := 7) hx hb dX3_takeSign_69 (by decide) ?_
          refine va_put (D := g.1) (ci := 3) (v := .int (7 : Int32)) (ty := .int) (C := RX3) (T := TX3) (N := 10) hx hb hi_X3 (fun _ h => h) tyX3 tyX3_ok nmX3 hown hK.1 hP hD hS 0 rfl rfl 7 (by decide) hf_37 (fun _ h9 => h9) rfl (by decide +kernel) rfl rfl (Nat.le_of_ble_eq_true rfl) dX3_takeSign_71 (fun H locs hP hD hS => ?_)
          have hP : va_P g.1 vwCl (wX3 g a_r (uF I_r 0 7 (7 : Int32)) ++ wX7 g a_t (uR I_t 1 f1)) H := hP
          have hD : va_D A (wX3 g a_r (uF I_r 0 7 (7 : Int32)) ++ wX7 g a_t (uR I_t 1 f1)) := hD
          refine lv_iconst (v := 0) hx hb dX3_takeSign_74 (by decide) ?_
          refine hret 75 ls (0 : Int32) _ _ ((uF I_r 0 7 (7 : Int32)), (uR I_t 1 f1)) dX3_takeSign_75 hS hP hD ?_
          exact ⟨hc_67, (fun hr0 => (show QA ((7 : Int32)).toInt ((I_t 0 0)).toInt ((I_r 0 8)).toInt from (by unfold QA; omega))), rfl, rfl, ⟨rfl, rfl⟩, rfl, fx_inr (s' := (7, 0, (fxTd (I_r 0 9)), (fxUp (fxTc I_t).1 (I_r 0 8).toInt.toNat (I_r 0 6).toInt, (fxTc I_t).2), fxE)) (fxSgv.ok (by omega)) (by decide) (fxSc.mk (show ((7 : Int32)).toInt = 7 from by decide) (if_neg (by decide)) rfl (fxTc.sig hT (by omega) (fun c hc => fx_uRn hc) (show (uR I_t 1 f1) 1 = _ from fx_uRe.trans e_f1)) (fxCu.no (by decide)))⟩
        · refine lv_iconst (v := 4) hx hb dX3_takeSign_50 (by decide) ?_
          have lr : (4 : Int32).toInt = 4 := by decide
          refine hret 51 ls (4 : Int32) _ _ (I_r, I_t) dX3_takeSign_51 hS hP hD ?_
          exact ⟨hT, fun hr0 => by omega, rfl, rfl, ⟨rfl, rfl⟩, rfl, fx_inl (fxSgv.bad (by omega)) (by decide) (by decide)⟩
    · refine lv_iconst (v := 2) hx hb dX3_takeSign_29 (by decide) ?_
      refine lv_istore_n (lv' := [(1, .int (2 : Int32)), (2, .int (63 : Int32)), (0, .ref (a_r 0))]) hx hb dX3_takeSign_30 rfl hl (by decide) rfl (fun ls hl => ?_)
      refine lv_bipush (v := 30) hx hb dX3_takeSign_31 (by decide) ?_
      refine lv_istore_n (lv' := [(2, .int (30 : Int32)), (1, .int (2 : Int32)), (0, .ref (a_r 0))]) hx hb dX3_takeSign_33 rfl hl (by decide) rfl (fun ls hl => ?_)
      refine lv_aload_n hx hb dX3_takeSign_34 rfl (lv_at hl 2 rfl) ?_
      refine va_get (D := g.1) (ci := 3) (v := .int (I_r 0 6)) (C := RX3) (T := TX3) (N := 10) hx hb hi_X3 (fun _ h => h) hown hK.1 hP 0 rfl rfl 6 (by decide) hf_34 (fun _ h9 => h9) rfl dX3_takeSign_35 ?_
      refine lv_iload_n hx hb dX3_takeSign_38 rfl (lv_at hl 1 rfl) ?_
      refine q_icmp_lt (tgt := 50) hx hb dX3_takeSign_39 (by decide) rfl (by decide : (2 : Int32).toInt = 2) (fun k_39 => ?_) (fun k_39 => ?_)
      · refine lv_iconst (v := 4) hx hb dX3_takeSign_50 (by decide) ?_
        have lr : (4 : Int32).toInt = 4 := by decide
        refine hret 51 ls (4 : Int32) _ _ (I_r, I_t) dX3_takeSign_51 hS hP hD ?_
        exact ⟨hT, fun hr0 => by omega, rfl, rfl, ⟨rfl, rfl⟩, rfl, fx_inl (fxSgv.bad (by omega)) (by decide) (by decide)⟩
      · refine lv_aload_n hx hb dX3_takeSign_42 rfl (lv_at hl 2 rfl) ?_
        refine va_get (D := g.1) (ci := 3) (v := .int (I_r 0 6)) (C := RX3) (T := TX3) (N := 10) hx hb hi_X3 (fun _ h => h) hown hK.1 hP 0 rfl rfl 6 (by decide) hf_34 (fun _ h9 => h9) rfl dX3_takeSign_43 ?_
        refine lv_iload_n hx hb dX3_takeSign_46 rfl (lv_at hl 0 rfl) ?_
        refine q_icmp_le (tgt := 52) hx hb dX3_takeSign_47 (by decide) rfl (by decide : (30 : Int32).toInt = 30) (fun k_47 => ?_) (fun k_47 => ?_)
        · refine lv_aload_n hx hb dX3_takeSign_52 rfl (lv_at hl 2 rfl) ?_
          refine va_get (D := g.1) (ci := 3) (v := .ref (a_t 0)) (C := RX3) (T := TX3) (N := 10) hx hb hi_X3 (fun _ h => h) hown hK.1 hP 0 rfl rfl 0 (by decide) hf_12 (fun _ h9 => h9) (congrArg (fun z => some (Value.ref z)) hl_r_table) dX3_takeSign_53 ?_
          refine va_get (D := g.1) (ci := 7) (v := .ref (a_t 1)) (C := RX7) (T := TX7) (N := 8) hx hb hi_X7 (fun _ h => h) hown hK.1 hP 1 rfl rfl 2 (by decide) hf_158 (fun _ h9 => h9) rfl dX3_takeSign_56 ?_
          refine lv_aload_n hx hb dX3_takeSign_59 rfl (lv_at hl 2 rfl) ?_
          refine va_get (D := g.1) (ci := 3) (v := .int (I_r 0 8)) (C := RX3) (T := TX3) (N := 10) hx hb hi_X3 (fun _ h => h) hown hK.1 hP 0 rfl rfl 8 (by decide) hf_40 (fun _ h9 => h9) rfl dX3_takeSign_60 ?_
          refine lv_aload_n hx hb dX3_takeSign_63 rfl (lv_at hl 2 rfl) ?_
          refine va_get (D := g.1) (ci := 3) (v := .int (I_r 0 6)) (C := RX3) (T := TX3) (N := 10) hx hb hi_X3 (fun _ h => h) hown hK.1 hP 0 rfl rfl 6 (by decide) hf_34 (fun _ h9 => h9) rfl dX3_takeSign_64 ?_
          have n_67 : vp_in (I_r 0 8) 5 := (t_in (by omega))
          obtain ⟨f2, e_f2⟩ : ∃ z, z = upd (I_t 1) (I_r 0 8).toNatClampNeg (I_r 0 6) := ⟨_, rfl⟩
          refine va_iast hx hb hK.1 hP hD hS 2 0 rfl rfl n_67 dX3_takeSign_67 (fun H locs hP hD hS => ?_)
          have hP : va_P g.1 vwCl (wX3 g a_r I_r ++ wX7 g a_t (uR I_t 1 f2)) H := by rw [e_f2]; exact hP
          have hD : va_D A (wX3 g a_r I_r ++ wX7 g a_t (uR I_t 1 f2)) := by rw [e_f2]; exact hD
          have hc_67 : TI (uR I_t 1 f2) := hT.us e_f2 (by omega) (by omega) rfl rfl rfl rfl rfl rfl
          refine lv_aload_n hx hb dX3_takeSign_68 rfl (lv_at hl 2 rfl) ?_
          refine lv_bipush (v := 7) hx hb dX3_takeSign_69 (by decide) ?_
          refine va_put (D := g.1) (ci := 3) (v := .int (7 : Int32)) (ty := .int) (C := RX3) (T := TX3) (N := 10) hx hb hi_X3 (fun _ h => h) tyX3 tyX3_ok nmX3 hown hK.1 hP hD hS 0 rfl rfl 7 (by decide) hf_37 (fun _ h9 => h9) rfl (by decide +kernel) rfl rfl (Nat.le_of_ble_eq_true rfl) dX3_takeSign_71 (fun H locs hP hD hS => ?_)
          have hP : va_P g.1 vwCl (wX3 g a_r (uF I_r 0 7 (7 : Int32)) ++ wX7 g a_t (uR I_t 1 f2)) H := hP
          have hD : va_D A (wX3 g a_r (uF I_r 0 7 (7 : Int32)) ++ wX7 g a_t (uR I_t 1 f2)) := hD
          refine lv_iconst (v := 0) hx hb dX3_takeSign_74 (by decide) ?_
          refine hret 75 ls (0 : Int32) _ _ ((uF I_r 0 7 (7 : Int32)), (uR I_t 1 f2)) dX3_takeSign_75 hS hP hD ?_
          exact ⟨hc_67, (fun hr0 => (show QA ((7 : Int32)).toInt ((I_t 0 0)).toInt ((I_r 0 8)).toInt from (by unfold QA; omega))), rfl, rfl, ⟨rfl, rfl⟩, rfl, fx_inr (s' := (7, 0, (fxTd (I_r 0 9)), (fxUp (fxTc I_t).1 (I_r 0 8).toInt.toNat (I_r 0 6).toInt, (fxTc I_t).2), fxE)) (fxSgv.ok (by omega)) (by decide) (fxSc.mk (show ((7 : Int32)).toInt = 7 from by decide) (if_neg (by decide)) rfl (fxTc.sig hT (by omega) (fun c hc => fx_uRn hc) (show (uR I_t 1 f2) 1 = _ from fx_uRe.trans e_f2)) (fxCu.no (by decide)))⟩
        · refine lv_iconst (v := 4) hx hb dX3_takeSign_50 (by decide) ?_
          have lr : (4 : Int32).toInt = 4 := by decide
          refine hret 51 ls (4 : Int32) _ _ (I_r, I_t) dX3_takeSign_51 hS hP hD ?_
          exact ⟨hT, fun hr0 => by omega, rfl, rfl, ⟨rfl, rfl⟩, rfl, fx_inl (fxSgv.bad (by omega)) (by decide) (by decide)⟩
  · refine lv_iconst (v := 4) hx hb dX3_takeSign_13 (by decide) ?_
    refine lv_istore_n (lv' := [(1, .int (4 : Int32)), (2, .int (63 : Int32)), (0, .ref (a_r 0))]) hx hb dX3_takeSign_14 rfl hl (by decide) rfl (fun ls hl => ?_)
    refine lv_bipush (v := 40) hx hb dX3_takeSign_15 (by decide) ?_
    refine lv_istore_n (lv' := [(2, .int (40 : Int32)), (1, .int (4 : Int32)), (0, .ref (a_r 0))]) hx hb dX3_takeSign_17 rfl hl (by decide) rfl (fun ls hl => ?_)
    refine lv_goto (tgt := 34) hx hb dX3_takeSign_18 (by decide) ?_
    refine lv_aload_n hx hb dX3_takeSign_34 rfl (lv_at hl 2 rfl) ?_
    refine va_get (D := g.1) (ci := 3) (v := .int (I_r 0 6)) (C := RX3) (T := TX3) (N := 10) hx hb hi_X3 (fun _ h => h) hown hK.1 hP 0 rfl rfl 6 (by decide) hf_34 (fun _ h9 => h9) rfl dX3_takeSign_35 ?_
    refine lv_iload_n hx hb dX3_takeSign_38 rfl (lv_at hl 1 rfl) ?_
    refine q_icmp_lt (tgt := 50) hx hb dX3_takeSign_39 (by decide) rfl (by decide : (4 : Int32).toInt = 4) (fun k_39 => ?_) (fun k_39 => ?_)
    · refine lv_iconst (v := 4) hx hb dX3_takeSign_50 (by decide) ?_
      have lr : (4 : Int32).toInt = 4 := by decide
      refine hret 51 ls (4 : Int32) _ _ (I_r, I_t) dX3_takeSign_51 hS hP hD ?_
      exact ⟨hT, fun hr0 => by omega, rfl, rfl, ⟨rfl, rfl⟩, rfl, fx_inl (fxSgv.bad (by omega)) (by decide) (by decide)⟩
    · refine lv_aload_n hx hb dX3_takeSign_42 rfl (lv_at hl 2 rfl) ?_
      refine va_get (D := g.1) (ci := 3) (v := .int (I_r 0 6)) (C := RX3) (T := TX3) (N := 10) hx hb hi_X3 (fun _ h => h) hown hK.1 hP 0 rfl rfl 6 (by decide) hf_34 (fun _ h9 => h9) rfl dX3_takeSign_43 ?_
      refine lv_iload_n hx hb dX3_takeSign_46 rfl (lv_at hl 0 rfl) ?_
      refine q_icmp_le (tgt := 52) hx hb dX3_takeSign_47 (by decide) rfl (by decide : (40 : Int32).toInt = 40) (fun k_47 => ?_) (fun k_47 => ?_)
      · refine lv_aload_n hx hb dX3_takeSign_52 rfl (lv_at hl 2 rfl) ?_
        refine va_get (D := g.1) (ci := 3) (v := .ref (a_t 0)) (C := RX3) (T := TX3) (N := 10) hx hb hi_X3 (fun _ h => h) hown hK.1 hP 0 rfl rfl 0 (by decide) hf_12 (fun _ h9 => h9) (congrArg (fun z => some (Value.ref z)) hl_r_table) dX3_takeSign_53 ?_
        refine va_get (D := g.1) (ci := 7) (v := .ref (a_t 1)) (C := RX7) (T := TX7) (N := 8) hx hb hi_X7 (fun _ h => h) hown hK.1 hP 1 rfl rfl 2 (by decide) hf_158 (fun _ h9 => h9) rfl dX3_takeSign_56 ?_
        refine lv_aload_n hx hb dX3_takeSign_59 rfl (lv_at hl 2 rfl) ?_
        refine va_get (D := g.1) (ci := 3) (v := .int (I_r 0 8)) (C := RX3) (T := TX3) (N := 10) hx hb hi_X3 (fun _ h => h) hown hK.1 hP 0 rfl rfl 8 (by decide) hf_40 (fun _ h9 => h9) rfl dX3_takeSign_60 ?_
        refine lv_aload_n hx hb dX3_takeSign_63 rfl (lv_at hl 2 rfl) ?_
        refine va_get (D := g.1) (ci := 3) (v := .int (I_r 0 6)) (C := RX3) (T := TX3) (N := 10) hx hb hi_X3 (fun _ h => h) hown hK.1 hP 0 rfl rfl 6 (by decide) hf_34 (fun _ h9 => h9) rfl dX3_takeSign_64 ?_
        have n_67 : vp_in (I_r 0 8) 5 := (t_in (by omega))
        obtain ⟨f3, e_f3⟩ : ∃ z, z = upd (I_t 1) (I_r 0 8).toNatClampNeg (I_r 0 6) := ⟨_, rfl⟩
        refine va_iast hx hb hK.1 hP hD hS 2 0 rfl rfl n_67 dX3_takeSign_67 (fun H locs hP hD hS => ?_)
        have hP : va_P g.1 vwCl (wX3 g a_r I_r ++ wX7 g a_t (uR I_t 1 f3)) H := by rw [e_f3]; exact hP
        have hD : va_D A (wX3 g a_r I_r ++ wX7 g a_t (uR I_t 1 f3)) := by rw [e_f3]; exact hD
        have hc_67 : TI (uR I_t 1 f3) := hT.us e_f3 (by omega) (by omega) rfl rfl rfl rfl rfl rfl
        refine lv_aload_n hx hb dX3_takeSign_68 rfl (lv_at hl 2 rfl) ?_
        refine lv_bipush (v := 7) hx hb dX3_takeSign_69 (by decide) ?_
        refine va_put (D := g.1) (ci := 3) (v := .int (7 : Int32)) (ty := .int) (C := RX3) (T := TX3) (N := 10) hx hb hi_X3 (fun _ h => h) tyX3 tyX3_ok nmX3 hown hK.1 hP hD hS 0 rfl rfl 7 (by decide) hf_37 (fun _ h9 => h9) rfl (by decide +kernel) rfl rfl (Nat.le_of_ble_eq_true rfl) dX3_takeSign_71 (fun H locs hP hD hS => ?_)
        have hP : va_P g.1 vwCl (wX3 g a_r (uF I_r 0 7 (7 : Int32)) ++ wX7 g a_t (uR I_t 1 f3)) H := hP
        have hD : va_D A (wX3 g a_r (uF I_r 0 7 (7 : Int32)) ++ wX7 g a_t (uR I_t 1 f3)) := hD
        refine lv_iconst (v := 0) hx hb dX3_takeSign_74 (by decide) ?_
        refine hret 75 ls (0 : Int32) _ _ ((uF I_r 0 7 (7 : Int32)), (uR I_t 1 f3)) dX3_takeSign_75 hS hP hD ?_
        exact ⟨hc_67, (fun hr0 => (show QA ((7 : Int32)).toInt ((I_t 0 0)).toInt ((I_r 0 8)).toInt from (by unfold QA; omega))), rfl, rfl, ⟨rfl, rfl⟩, rfl, fx_inr (s' := (7, 0, (fxTd (I_r 0 9)), (fxUp (fxTc I_t).1 (I_r 0 8).toInt.toNat (I_r 0 6).toInt, (fxTc I_t).2), fxE)) (fxSgv.ok (by omega)) (by decide) (fxSc.mk (show ((7 : Int32)).toInt = 7 from by decide) (if_neg (by decide)) rfl (fxTc.sig hT (by omega) (fun c hc => fx_uRn hc) (show (uR I_t 1 f3) 1 = _ from fx_uRe.trans e_f3)) (fxCu.no (by decide)))⟩
      · refine lv_iconst (v := 4) hx hb dX3_takeSign_50 (by decide) ?_
        have lr : (4 : Int32).toInt = 4 := by decide
        refine hret 51 ls (4 : Int32) _ _ (I_r, I_t) dX3_takeSign_51 hS hP hD ?_
        exact ⟨hT, fun hr0 => by omega, rfl, rfl, ⟨rfl, rfl⟩, rfl, fx_inl (fxSgv.bad (by omega)) (by decide) (by decide)⟩
