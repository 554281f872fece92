set_option maxHeartbeats 4000000 in
set_option maxRecDepth 100000 in
theorem kX3_nextToken (l : Launch) (g : gG) (a_r : Nat → Nat) (I_r : Nat → Nat → Int32) (a_x : Nat → Nat) (n_x : Nat) (I_x : Nat → Nat → Int32) (n : Int32) (h_n : 0 ≤ (I_r 0 5).toInt ∧ (I_r 0 5).toInt ≤ n.toInt ∧ n.toInt ≤ (n_x : Int) ∧ n_x ≤ 1000) : EffV l g yX3_nextToken wsX3_nextToken 2 [.ref (a_r 0), .ref (a_x 0), .int n] (wX3 g a_r I_r ++ wArr g a_x n_x I_x) (fun (u : (Nat → Nat → Int32)) => wX3 g a_r u ++ wArr g a_x n_x I_x) (fun (u : (Nat → Nat → Int32)) => 0 ≤ ((u) 0 4).toInt ∧ ((u) 0 4).toInt ≤ ((u) 0 5).toInt ∧ ((u) 0 5).toInt ≤ n.toInt ∧ (u) 0 7 = I_r 0 7 ∧ (u) 0 8 = I_r 0 8 ∧ ((u) 0 9 = I_r 0 9 ∧ (u) 0 2 = I_r 0 2) ∧ fxLx (fxB (I_x 0)) n.toInt (I_r 0 5).toInt ((u) 0 3).toInt ((u) 0 4).toInt ((u) 0 5).toInt ((u) 0 6).toInt) := by
  refine EffV.st (cc := cX3_nextToken) (maxL := 3) (by decide) rfl (Nat.le_of_ble_eq_true rfl) (fun p e s m args below meth c A Q ls fx hK hP hD hA hS hl hret => ?_)
  have hx := fx.1
  have hb := fx.2.1
  have hml := fx.2.2.1
  have hown := fx.2.2.2.1
  have hts := fx.2.2.2.2
  have hl : lv_has ls 3 [(0, .ref (a_r 0)), (1, .ref (a_x 0)), (2, .int n)] := hl
  have hP : va_P g.1 vwCl (wX3 g a_r I_r ++ wArr g a_x n_x I_x) s.heap := hP
  have hf_25 := hts _ (uT _ _ u_79)
  have hf_28 := hts _ (uT _ _ u_80)
  have hf_31 := hts _ (uT _ _ u_81)
  have hf_34 := hts _ (uT _ _ u_82)
  have hi_X3 : ∀ w ∈ wsX30, w.before args s = true := fun w h => hts w (uT _ w (u_wsX30 w h))
  have lm1 : (-1 : Int32).toInt = -1 := by decide
  have lm0 : (0 : Int32).toInt = 0 := by decide
  have lm2 : (1 : Int32).toInt = 1 := by decide
  have lq2 : (2 : Int32).toInt = 2 := by decide
  have lq3 : (3 : Int32).toInt = 3 := by decide
  have lq4 : (4 : Int32).toInt = 4 := by decide
  refine lv_aload_n hx hb dX3_nextToken_0 rfl (lv_at hl 0 rfl) ?_
  refine lv_aload_n hx hb dX3_nextToken_1 rfl (lv_at hl 0 rfl) ?_
  refine va_get (D := g.1) (ci := 3) (v := .int (I_r 0 5)) (C := RX3) (T := TX3) (N := 10) hx hb hi_X3 (fun _ h => h) hown hK.1 hP 0 rfl rfl 5 (by decide) hf_31 (fun _ h9 => h9) rfl dX3_nextToken_2 ?_
  refine va_put (D := g.1) (ci := 3) (v := .int (I_r 0 5)) (ty := .int) (C := RX3) (T := TX3) (N := 10) hx hb hi_X3 (fun _ h => h) tyX3 tyX3_ok nmX3 hown hK.1 hP hD hS 0 rfl rfl 4 (by decide) hf_28 (fun _ h9 => h9) rfl (by decide +kernel) rfl rfl (Nat.le_of_ble_eq_true rfl) dX3_nextToken_5 (fun H locs hP hD hS => ?_)
  have hP : va_P g.1 vwCl (wX3 g a_r (uF I_r 0 4 (I_r 0 5)) ++ wArr g a_x n_x I_x) H := hP
  have hD : va_D A (wX3 g a_r (uF I_r 0 4 (I_r 0 5)) ++ wArr g a_x n_x I_x) := hD
  have L8 : ∀ (nn : Nat) (I_r_8 : Nat → Nat → Int32), (hs_8 : I_r_8 0 7 = I_r 0 7 ∧ I_r_8 0 8 = I_r 0 8 ∧ I_r_8 0 9 = I_r 0 9 ∧ I_r_8 0 2 = I_r 0 2) → (hv_8 : (I_r 0 5).toInt ≤ ((I_r_8 0 4)).toInt ∧ ((I_r_8 0 4)).toInt ≤ n.toInt) → (hb_8 : ∀ j : Nat, (I_r 0 5).toInt ≤ (j : Int) → (j : Int) < ((I_r_8 0 4)).toInt → fxB (I_x 0) j = 10 ∨ fxB (I_x 0) j = 32) → ((n.toInt + 1 - ((I_r_8 0 4)).toInt) < (nn : Int)) → ∀ (H : Heap) (locs : List Loc), va_P g.1 vwCl (wX3 g a_r I_r_8 ++ wArr g a_x n_x I_x) H → va_D A (wX3 g a_r I_r_8 ++ wArr g a_x n_x I_x) → va_S A s.heap H locs → ∀ ls : Array Slot, lv_has ls 3 [(0, .ref (a_r 0)), (1, .ref (a_x 0)), (2, .int n)] → W p l e (rm 2) s m args below meth c H locs 0 0 Q (F0 m 8 ls []) := by
    intro n_8
    induction n_8 with
    | zero =>
      intro I_r_8 hs_8 hv_8 hb_8 hms_8 H locs hP hD hS ls hl
      exfalso; omega
    | succ n_8 ih_8 =>
      intro I_r_8 hs_8 hv_8 hb_8 hms_8 H locs hP hD hS ls hl
      refine lv_aload_n hx hb dX3_nextToken_8 rfl (lv_at hl 0 rfl) ?_
      refine va_get (D := g.1) (ci := 3) (v := .int (I_r_8 0 4)) (C := RX3) (T := TX3) (N := 10) hx hb hi_X3 (fun _ h => h) hown hK.1 hP 0 rfl rfl 4 (by decide) hf_28 (fun _ h9 => h9) rfl dX3_nextToken_9 ?_
      refine lv_iload_n hx hb dX3_nextToken_12 rfl (lv_at hl 2 rfl) ?_
      refine q_icmp_ge (tgt := 41) hx hb dX3_nextToken_13 (by decide) rfl rfl (fun k_13 => ?_) (fun k_13 => ?_)
      · have hnb : ((I_r_8 0 4)).toInt < n.toInt → ¬ (fxB (I_x 0) ((I_r_8 0 4)).toInt.toNat = 10 ∨ fxB (I_x 0) ((I_r_8 0 4)).toInt.toNat = 32) := (fun q => by exfalso; omega)
        refine lv_aload_n hx hb dX3_nextToken_41 rfl (lv_at hl 0 rfl) ?_
        refine lv_aload_n hx hb dX3_nextToken_42 rfl (lv_at hl 0 rfl) ?_
        refine va_get (D := g.1) (ci := 3) (v := .int (I_r_8 0 4)) (C := RX3) (T := TX3) (N := 10) hx hb hi_X3 (fun _ h => h) hown hK.1 hP 0 rfl rfl 4 (by decide) hf_28 (fun _ h9 => h9) rfl dX3_nextToken_43 ?_
        refine va_put (D := g.1) (ci := 3) (v := .int (I_r_8 0 4)) (ty := .int) (C := RX3) (T := TX3) (N := 10) hx hb hi_X3 (fun _ h => h) tyX3 tyX3_ok nmX3 hown hK.1 hP hD hS 0 rfl rfl 5 (by decide) hf_31 (fun _ h9 => h9) rfl (by decide +kernel) rfl rfl (Nat.le_of_ble_eq_true rfl) dX3_nextToken_46 (fun H locs hP hD hS => ?_)
        have hP : va_P g.1 vwCl (wX3 g a_r (uF I_r_8 0 5 (I_r_8 0 4)) ++ wArr g a_x n_x I_x) H := hP
        have hD : va_D A (wX3 g a_r (uF I_r_8 0 5 (I_r_8 0 4)) ++ wArr g a_x n_x I_x) := hD
        refine lv_aload_n hx hb dX3_nextToken_49 rfl (lv_at hl 0 rfl) ?_
        refine lv_iconst (v := 0) hx hb dX3_nextToken_50 (by decide) ?_
        refine va_put (D := g.1) (ci := 3) (v := .int (0 : Int32)) (ty := .int) (C := RX3) (T := TX3) (N := 10) hx hb hi_X3 (fun _ h => h) tyX3 tyX3_ok nmX3 hown hK.1 hP hD hS 0 rfl rfl 6 (by decide) hf_34 (fun _ h9 => h9) rfl (by decide +kernel) rfl rfl (Nat.le_of_ble_eq_true rfl) dX3_nextToken_51 (fun H locs hP hD hS => ?_)
        have hP : va_P g.1 vwCl (wX3 g a_r (uF (uF I_r_8 0 5 (I_r_8 0 4)) 0 6 (0 : Int32)) ++ wArr g a_x n_x I_x) H := hP
        have hD : va_D A (wX3 g a_r (uF (uF I_r_8 0 5 (I_r_8 0 4)) 0 6 (0 : Int32)) ++ wArr g a_x n_x I_x) := hD
        refine lv_aload_n hx hb dX3_nextToken_54 rfl (lv_at hl 0 rfl) ?_
        refine va_get (D := g.1) (ci := 3) (v := .int (I_r_8 0 4)) (C := RX3) (T := TX3) (N := 10) hx hb hi_X3 (fun _ h => h) hown hK.1 hP 0 rfl rfl 4 (by decide) hf_28 (fun _ h9 => h9) rfl dX3_nextToken_55 ?_
        refine lv_iload_n hx hb dX3_nextToken_58 rfl (lv_at hl 2 rfl) ?_
        refine q_icmp_lt (tgt := 70) hx hb dX3_nextToken_59 (by decide) rfl rfl (fun k_59 => ?_) (fun k_59 => ?_)
        · refine lv_aload_n hx hb dX3_nextToken_70 rfl (lv_at hl 1 rfl) ?_
          refine lv_aload_n hx hb dX3_nextToken_71 rfl (lv_at hl 0 rfl) ?_
          refine va_get (D := g.1) (ci := 3) (v := .int (I_r_8 0 4)) (C := RX3) (T := TX3) (N := 10) hx hb hi_X3 (fun _ h => h) hown hK.1 hP 0 rfl rfl 4 (by decide) hf_28 (fun _ h9 => h9) rfl dX3_nextToken_72 ?_
          have n_75 : vp_in (I_r_8 0 4) n_x := (t_in (by omega))
          refine va_iald hx hb hK.1 hP 1 0 rfl rfl n_75 dX3_nextToken_75 ?_
          refine q_nm (fun x1 e_x1 => ?_)
          have e_x1 : x1 = (I_x 0) (I_r_8 0 4).toNatClampNeg := e_x1
          have g_x1 : x1.toInt = ((I_x 0) (I_r_8 0 4).toNatClampNeg).toInt := congrArg _ e_x1
          refine PurI.cn (C := RX10) (host := "RaisedPress") (As := [.int x1]) (kX10_isSmall l g x1) fx (gU (uT _) u_373) rfl hdX10_isSmall ⟨Nat.le_of_ble_eq_true rfl, Nat.le_of_ble_eq_true rfl⟩ hK hP [] rfl (nm_in_RX3_61) (uT _ _ u_372) (uT _ _ u_2) rfl rfl hl.1 (Nat.le_of_ble_eq_true rfl) dX3_nextToken_76 (fun r2 p_r2 => ?_)
          refine q_if_eq (tgt := 120) hx hb dX3_nextToken_79 (by decide) rfl (fun b_79 k_79 => ?_) (fun b_79 k_79 => ?_)
          · have q_79 := bP.f p_r2 b_79
            have hns8 : ¬ (97 ≤ fxB (I_x 0) (I_r_8 0 4).toInt.toNat ∧ fxB (I_x 0) (I_r_8 0 4).toInt.toNat ≤ 122) := (by have w := q_79; rw [e_x1] at w; exact w)
            refine lv_aload_n hx hb dX3_nextToken_120 rfl (lv_at hl 1 rfl) ?_
            refine lv_aload_n hx hb dX3_nextToken_121 rfl (lv_at hl 0 rfl) ?_
            refine va_get (D := g.1) (ci := 3) (v := .int (I_r_8 0 4)) (C := RX3) (T := TX3) (N := 10) hx hb hi_X3 (fun _ h => h) hown hK.1 hP 0 rfl rfl 4 (by decide) hf_28 (fun _ h9 => h9) rfl dX3_nextToken_122 ?_
            have n_125 : vp_in (I_r_8 0 4) n_x := (t_in (by omega))
            refine va_iald hx hb hK.1 hP 1 0 rfl rfl n_125 dX3_nextToken_125 ?_
            refine q_nm (fun x3 e_x3 => ?_)
            have e_x3 : x3 = (I_x 0) (I_r_8 0 4).toNatClampNeg := e_x3
            have g_x3 : x3.toInt = ((I_x 0) (I_r_8 0 4).toNatClampNeg).toInt := congrArg _ e_x3
            refine PurI.cn (C := RX10) (host := "RaisedPress") (As := [.int x3]) (kX10_isDigit l g x3) fx (gU (uT _) u_375) rfl hdX10_isDigit ⟨Nat.le_of_ble_eq_true rfl, Nat.le_of_ble_eq_true rfl⟩ hK hP [] rfl (nm_in_RX3_64) (uT _ _ u_374) (uT _ _ u_2) rfl rfl hl.1 (Nat.le_of_ble_eq_true rfl) dX3_nextToken_126 (fun r4 p_r4 => ?_)
            refine q_if_eq (tgt := 141) hx hb dX3_nextToken_129 (by decide) rfl (fun b_129 k_129 => ?_) (fun b_129 k_129 => ?_)
            · have q_129 := bP.f p_r4 b_129
              have hnd8 : ¬ (48 ≤ fxB (I_x 0) (I_r_8 0 4).toInt.toNat ∧ fxB (I_x 0) (I_r_8 0 4).toInt.toNat ≤ 57) := (by have w := q_129; rw [e_x3] at w; exact w)
              refine lv_aload_n hx hb dX3_nextToken_141 rfl (lv_at hl 0 rfl) ?_
              refine lv_aload_n hx hb dX3_nextToken_142 rfl (lv_at hl 1 rfl) ?_
              refine lv_aload_n hx hb dX3_nextToken_143 rfl (lv_at hl 0 rfl) ?_
              refine va_get (D := g.1) (ci := 3) (v := .int (I_r_8 0 4)) (C := RX3) (T := TX3) (N := 10) hx hb hi_X3 (fun _ h => h) hown hK.1 hP 0 rfl rfl 4 (by decide) hf_28 (fun _ h9 => h9) rfl dX3_nextToken_144 ?_
              have n_147 : vp_in (I_r_8 0 4) n_x := (t_in (by omega))
              refine va_iald hx hb hK.1 hP 1 0 rfl rfl n_147 dX3_nextToken_147 ?_
              refine q_nm (fun x5 e_x5 => ?_)
              have e_x5 : x5 = (I_x 0) (I_r_8 0 4).toNatClampNeg := e_x5
              have g_x5 : x5.toInt = ((I_x 0) (I_r_8 0 4).toNatClampNeg).toInt := congrArg _ e_x5
              refine lv_bipush (v := 59) hx hb dX3_nextToken_148 (by decide) ?_
              refine q_icmp_ne (tgt := 157) hx hb dX3_nextToken_150 (by decide) rfl (by decide : (59 : Int32).toInt = 59) (fun k_150 => ?_) (fun k_150 => ?_)
              · have hot : (fxB (I_x 0) (I_r_8 0 4).toInt.toNat = 59 ∧ ((4 : Int32)).toInt = 2) ∨ (fxB (I_x 0) (I_r_8 0 4).toInt.toNat ≠ 59 ∧ ((4 : Int32)).toInt = 4) := (Or.inr ⟨fun q => by have g := e_x5; have g2 := congrArg Int32.toInt g; exact k_150 (g2.trans q), (by decide)⟩)
                refine lv_iconst (v := 4) hx hb dX3_nextToken_157 (by decide) ?_
                refine va_put (D := g.1) (ci := 3) (v := .int (4 : Int32)) (ty := .int) (C := RX3) (T := TX3) (N := 10) hx hb hi_X3 (fun _ h => h) tyX3 tyX3_ok nmX3 hown hK.1 hP hD hS 0 rfl rfl 3 (by decide) hf_25 (fun _ h9 => h9) rfl (by decide +kernel) rfl rfl (Nat.le_of_ble_eq_true rfl) dX3_nextToken_158 (fun H locs hP hD hS => ?_)
                have hP : va_P g.1 vwCl (wX3 g a_r (uF (uF (uF I_r_8 0 5 (I_r_8 0 4)) 0 6 (0 : Int32)) 0 3 (4 : Int32)) ++ wArr g a_x n_x I_x) H := hP
                have hD : va_D A (wX3 g a_r (uF (uF (uF I_r_8 0 5 (I_r_8 0 4)) 0 6 (0 : Int32)) 0 3 (4 : Int32)) ++ wArr g a_x n_x I_x) := hD
                refine lv_aload_n hx hb dX3_nextToken_161 rfl (lv_at hl 0 rfl) ?_
                refine lv_dup hx hb dX3_nextToken_162 rfl ?_
                refine va_get (D := g.1) (ci := 3) (v := .int (I_r_8 0 4)) (C := RX3) (T := TX3) (N := 10) hx hb hi_X3 (fun _ h => h) hown hK.1 hP 0 rfl rfl 5 (by decide) hf_31 (fun _ h9 => h9) rfl dX3_nextToken_163 ?_
                refine lv_iconst (v := 1) hx hb dX3_nextToken_166 (by decide) ?_
                refine r_iadd hx hb dX3_nextToken_167 rfl (by decide : (1 : Int32).toInt = 1) (fun x6 e_x6 t_x6 => ?_)
                try have t_x6 := t_x6 (by omega)
                refine va_put (D := g.1) (ci := 3) (v := .int x6) (ty := .int) (C := RX3) (T := TX3) (N := 10) hx hb hi_X3 (fun _ h => h) tyX3 tyX3_ok nmX3 hown hK.1 hP hD hS 0 rfl rfl 5 (by decide) hf_31 (fun _ h9 => h9) rfl (by decide +kernel) rfl rfl (Nat.le_of_ble_eq_true rfl) dX3_nextToken_168 (fun H locs hP hD hS => ?_)
                have hP : va_P g.1 vwCl (wX3 g a_r (uF (uF (uF (uF I_r_8 0 5 (I_r_8 0 4)) 0 6 (0 : Int32)) 0 3 (4 : Int32)) 0 5 x6) ++ wArr g a_x n_x I_x) H := hP
                have hD : va_D A (wX3 g a_r (uF (uF (uF (uF I_r_8 0 5 (I_r_8 0 4)) 0 6 (0 : Int32)) 0 3 (4 : Int32)) 0 5 x6) ++ wArr g a_x n_x I_x) := hD
                have hLx9 : fxLx (fxB (I_x 0)) n.toInt (I_r 0 5).toInt ((4 : Int32)).toInt ((I_r_8 0 4)).toInt (x6).toInt ((0 : Int32)).toInt := (by first | exact hLx | exact ⟨⟨by omega, by omega, hb_8, hnb⟩, Or.inr (Or.inr (Or.inr ⟨by omega, hns8, hnd8, by omega, hot⟩))⟩)
                refine hret 171 ls _ _ (uF (uF (uF (uF I_r_8 0 5 (I_r_8 0 4)) 0 6 (0 : Int32)) 0 3 (4 : Int32)) 0 5 x6) dX3_nextToken_171 hS hP hD ?_
                exact (show 0 ≤ ((I_r_8 0 4)).toInt ∧ ((I_r_8 0 4)).toInt ≤ (x6).toInt ∧ (x6).toInt ≤ n.toInt ∧ _ ∧ _ ∧ _ ∧ _ from ⟨by omega, by omega, by omega, (by first | exact hs_87.1 | exact hs_8.1), (by first | exact hs_87.2.1 | exact hs_8.2.1), (by first | exact hs_87.2.2 | exact hs_8.2.2), hLx9⟩)
              · have hot : (fxB (I_x 0) (I_r_8 0 4).toInt.toNat = 59 ∧ ((2 : Int32)).toInt = 2) ∨ (fxB (I_x 0) (I_r_8 0 4).toInt.toNat ≠ 59 ∧ ((2 : Int32)).toInt = 4) := (Or.inl ⟨by have g := congrArg Int32.toInt e_x5; exact g.symm.trans k_150, (by decide)⟩)
                refine lv_iconst (v := 2) hx hb dX3_nextToken_153 (by decide) ?_
                refine lv_goto (tgt := 158) hx hb dX3_nextToken_154 (by decide) ?_
                refine va_put (D := g.1) (ci := 3) (v := .int (2 : Int32)) (ty := .int) (C := RX3) (T := TX3) (N := 10) hx hb hi_X3 (fun _ h => h) tyX3 tyX3_ok nmX3 hown hK.1 hP hD hS 0 rfl rfl 3 (by decide) hf_25 (fun _ h9 => h9) rfl (by decide +kernel) rfl rfl (Nat.le_of_ble_eq_true rfl) dX3_nextToken_158 (fun H locs hP hD hS => ?_)
                have hP : va_P g.1 vwCl (wX3 g a_r (uF (uF (uF I_r_8 0 5 (I_r_8 0 4)) 0 6 (0 : Int32)) 0 3 (2 : Int32)) ++ wArr g a_x n_x I_x) H := hP
                have hD : va_D A (wX3 g a_r (uF (uF (uF I_r_8 0 5 (I_r_8 0 4)) 0 6 (0 : Int32)) 0 3 (2 : Int32)) ++ wArr g a_x n_x I_x) := hD
                refine lv_aload_n hx hb dX3_nextToken_161 rfl (lv_at hl 0 rfl) ?_
                refine lv_dup hx hb dX3_nextToken_162 rfl ?_
                refine va_get (D := g.1) (ci := 3) (v := .int (I_r_8 0 4)) (C := RX3) (T := TX3) (N := 10) hx hb hi_X3 (fun _ h => h) hown hK.1 hP 0 rfl rfl 5 (by decide) hf_31 (fun _ h9 => h9) rfl dX3_nextToken_163 ?_
                refine lv_iconst (v := 1) hx hb dX3_nextToken_166 (by decide) ?_
                refine r_iadd hx hb dX3_nextToken_167 rfl (by decide : (1 : Int32).toInt = 1) (fun x7 e_x7 t_x7 => ?_)
                try have t_x7 := t_x7 (by omega)
                refine va_put (D := g.1) (ci := 3) (v := .int x7) (ty := .int) (C := RX3) (T := TX3) (N := 10) hx hb hi_X3 (fun _ h => h) tyX3 tyX3_ok nmX3 hown hK.1 hP hD hS 0 rfl rfl 5 (by decide) hf_31 (fun _ h9 => h9) rfl (by decide +kernel) rfl rfl (Nat.le_of_ble_eq_true rfl) dX3_nextToken_168 (fun H locs hP hD hS => ?_)
                have hP : va_P g.1 vwCl (wX3 g a_r (uF (uF (uF (uF I_r_8 0 5 (I_r_8 0 4)) 0 6 (0 : Int32)) 0 3 (2 : Int32)) 0 5 x7) ++ wArr g a_x n_x I_x) H := hP
                have hD : va_D A (wX3 g a_r (uF (uF (uF (uF I_r_8 0 5 (I_r_8 0 4)) 0 6 (0 : Int32)) 0 3 (2 : Int32)) 0 5 x7) ++ wArr g a_x n_x I_x) := hD
                have hLx9 : fxLx (fxB (I_x 0)) n.toInt (I_r 0 5).toInt ((2 : Int32)).toInt ((I_r_8 0 4)).toInt (x7).toInt ((0 : Int32)).toInt := (by first | exact hLx | exact ⟨⟨by omega, by omega, hb_8, hnb⟩, Or.inr (Or.inr (Or.inr ⟨by omega, hns8, hnd8, by omega, hot⟩))⟩)
                refine hret 171 ls _ _ (uF (uF (uF (uF I_r_8 0 5 (I_r_8 0 4)) 0 6 (0 : Int32)) 0 3 (2 : Int32)) 0 5 x7) dX3_nextToken_171 hS hP hD ?_
                exact (show 0 ≤ ((I_r_8 0 4)).toInt ∧ ((I_r_8 0 4)).toInt ≤ (x7).toInt ∧ (x7).toInt ≤ n.toInt ∧ _ ∧ _ ∧ _ ∧ _ from ⟨by omega, by omega, by omega, (by first | exact hs_87.1 | exact hs_8.1), (by first | exact hs_87.2.1 | exact hs_8.2.1), (by first | exact hs_87.2.2 | exact hs_8.2.2), hLx9⟩)
            · have q_129 := bP.t p_r4 b_129
              have hdg8 : 48 ≤ fxB (I_x 0) (I_r_8 0 4).toInt.toNat ∧ fxB (I_x 0) (I_r_8 0 4).toInt.toNat ≤ 57 := (by have w := q_129; rw [e_x3] at w; exact w)
              refine lv_aload_n hx hb dX3_nextToken_132 rfl (lv_at hl 0 rfl) ?_
              refine lv_aload_n hx hb dX3_nextToken_133 rfl (lv_at hl 1 rfl) ?_
              refine lv_iload_n hx hb dX3_nextToken_134 rfl (lv_at hl 2 rfl) ?_
              refine EffV.cv (wr := ([])) (w' := fun u9 => wX3 g a_r u9 ++ wArr g a_x n_x I_x) (As := [.ref (a_x 0), .int n]) (kX3_nextNumeral l g a_r (uF (uF I_r_8 0 5 (I_r_8 0 4)) 0 6 (0 : Int32)) a_x n_x I_x n (show 0 ≤ ((I_r_8 0 4)).toInt ∧ ((I_r_8 0 4)).toInt ≤ ((I_r_8 0 4)).toInt ∧ ((I_r_8 0 4)).toInt ≤ (n_x : Int) ∧ n_x ≤ 1000 from (by omega)) (show ((I_r_8 0 4)).toInt ≤ n.toInt ∧ n.toInt ≤ (n_x : Int) from (by omega)) ⟨(show ((0 : Int32)).toInt = 0 from (by decide)), rfl⟩) fx (gUV (uT _) u_376 u_377 u_378 u_27 u_379) rfl hdX3_nextNumeral ⟨Nat.le_of_ble_eq_true rfl, Nat.le_of_ble_eq_true rfl⟩ hK hP hD hS hA [0, 1] [] [0, 1] rfl rfl rfl rfl (by decide) rfl (fun _ => rfl) rfl rfl rfl rfl hl.1 (Nat.le_of_ble_eq_true rfl) dX3_nextToken_135 (fun u9 H locs p_r8 hP hD hS => ?_)
              have hP : va_P g.1 vwCl (wX3 g a_r u9 ++ wArr g a_x n_x I_x) H := hP
              have hD : va_D A (wX3 g a_r u9 ++ wArr g a_x n_x I_x) := hD
              have hn4 : (u9 0 4).toInt = ((I_r_8 0 4)).toInt := congrArg Int32.toInt p_r8.1
              have hn5 : ((I_r_8 0 4)).toInt ≤ (u9 0 5).toInt := p_r8.2.1
              have hn6 := p_r8.2.2.1
              have hLx : fxLx (fxB (I_x 0)) n.toInt (I_r 0 5).toInt (u9 0 3).toInt (u9 0 4).toInt (u9 0 5).toInt (u9 0 6).toInt := fx_nm (fr0 := (I_r_8 0 4).toInt) (by omega) (by omega) hb_8 hnb hdg8 (congrArg Int32.toInt p_r8.1) p_r8.2.1 p_r8.2.2.1 p_r8.2.2.2.2.2.2.1 p_r8.2.2.2.2.2.2.2.1 p_r8.2.2.2.2.2.2.2.2
              refine lv_goto (tgt := 171) hx hb dX3_nextToken_138 (by decide) ?_
              have hLx9 : fxLx (fxB (I_x 0)) n.toInt (I_r 0 5).toInt ((u9 0 3)).toInt ((u9 0 4)).toInt ((u9 0 5)).toInt ((u9 0 6)).toInt := (by first | exact hLx | exact ⟨⟨by omega, by omega, hb_8, hnb⟩, Or.inr (Or.inr (Or.inr ⟨by omega, hns8, hnd8, by omega, hot⟩))⟩)
              refine hret 171 ls _ _ u9 dX3_nextToken_171 hS hP hD ?_
              exact (show 0 ≤ ((u9 0 4)).toInt ∧ ((u9 0 4)).toInt ≤ ((u9 0 5)).toInt ∧ ((u9 0 5)).toInt ≤ n.toInt ∧ _ ∧ _ ∧ _ ∧ _ from ⟨by omega, by omega, by omega, (by first | exact hs_87.1 | exact p_r8.2.2.2.1.trans hs_8.1 | exact hs_8.1), (by first | exact hs_87.2.1 | exact p_r8.2.2.2.2.1.trans hs_8.2.1 | exact hs_8.2.1), (by first | exact hs_87.2.2 | exact ⟨p_r8.2.2.2.2.2.1.1.trans hs_8.2.2.1, p_r8.2.2.2.2.2.1.2.trans hs_8.2.2.2⟩ | exact hs_8.2.2), hLx9⟩)
          · have q_79 := bP.t p_r2 b_79
            have hsm8 : 97 ≤ fxB (I_x 0) (I_r_8 0 4).toInt.toNat ∧ fxB (I_x 0) (I_r_8 0 4).toInt.toNat ≤ 122 := (by have w := q_79; rw [e_x1] at w; exact w)
            refine lv_aload_n hx hb dX3_nextToken_82 rfl (lv_at hl 0 rfl) ?_
            refine lv_iconst (v := 0) hx hb dX3_nextToken_83 (by decide) ?_
            refine va_put (D := g.1) (ci := 3) (v := .int (0 : Int32)) (ty := .int) (C := RX3) (T := TX3) (N := 10) hx hb hi_X3 (fun _ h => h) tyX3 tyX3_ok nmX3 hown hK.1 hP hD hS 0 rfl rfl 3 (by decide) hf_25 (fun _ h9 => h9) rfl (by decide +kernel) rfl rfl (Nat.le_of_ble_eq_true rfl) dX3_nextToken_84 (fun H locs hP hD hS => ?_)
            have hP : va_P g.1 vwCl (wX3 g a_r (uF (uF (uF I_r_8 0 5 (I_r_8 0 4)) 0 6 (0 : Int32)) 0 3 (0 : Int32)) ++ wArr g a_x n_x I_x) H := hP
            have hD : va_D A (wX3 g a_r (uF (uF (uF I_r_8 0 5 (I_r_8 0 4)) 0 6 (0 : Int32)) 0 3 (0 : Int32)) ++ wArr g a_x n_x I_x) := hD
            have L87 : ∀ (nn : Nat) (I_r_87 : Nat → Nat → Int32), (hs_87 : I_r_87 0 7 = I_r 0 7 ∧ I_r_87 0 8 = I_r 0 8 ∧ I_r_87 0 9 = I_r 0 9 ∧ I_r_87 0 2 = I_r 0 2) → (ht_87 : ((I_r_87 0 4)).toInt = (I_r_8 0 4).toInt ∧ ((I_r_87 0 3)).toInt = 0) → (hv_87 : ((I_r_87 0 4)).toInt ≤ ((I_r_87 0 5)).toInt ∧ ((I_r_87 0 5)).toInt ≤ n.toInt) → (hw_87 : ∀ j : Nat, (I_r_8 0 4).toInt ≤ (j : Int) → (j : Int) < ((I_r_87 0 5)).toInt → 97 ≤ fxB (I_x 0) j ∧ fxB (I_x 0) j ≤ 122) → ((n.toInt + 1 - ((I_r_87 0 5)).toInt) < (nn : Int)) → ∀ (H : Heap) (locs : List Loc), va_P g.1 vwCl (wX3 g a_r I_r_87 ++ wArr g a_x n_x I_x) H → va_D A (wX3 g a_r I_r_87 ++ wArr g a_x n_x I_x) → va_S A s.heap H locs → ∀ ls : Array Slot, lv_has ls 3 [(0, .ref (a_r 0)), (1, .ref (a_x 0)), (2, .int n)] → W p l e (rm 2) s m args below meth c H locs 0 0 Q (F0 m 87 ls []) := by
              intro n_87
              induction n_87 with
              | zero =>
                intro I_r_87 hs_87 ht_87 hv_87 hw_87 hms_87 H locs hP hD hS ls hl
                exfalso; omega
              | succ n_87 ih_87 =>
                intro I_r_87 hs_87 ht_87 hv_87 hw_87 hms_87 H locs hP hD hS ls hl
                refine lv_aload_n hx hb dX3_nextToken_87 rfl (lv_at hl 0 rfl) ?_
                refine va_get (D := g.1) (ci := 3) (v := .int (I_r_87 0 5)) (C := RX3) (T := TX3) (N := 10) hx hb hi_X3 (fun _ h => h) hown hK.1 hP 0 rfl rfl 5 (by decide) hf_31 (fun _ h9 => h9) rfl dX3_nextToken_88 ?_
                refine lv_iload_n hx hb dX3_nextToken_91 rfl (lv_at hl 2 rfl) ?_
                refine q_icmp_ge (tgt := 171) hx hb dX3_nextToken_92 (by decide) rfl rfl (fun k_92 => ?_) (fun k_92 => ?_)
                · have ht9 := ht_87.1; have ht0 := ht_87.2; have hfe : ((I_r_87 0 4)).toInt.toNat = (I_r_8 0 4).toInt.toNat := by omega
                  have hlt9 : (I_r_8 0 4).toInt < ((I_r_87 0 5)).toInt := (by omega)
                  have hLx : fxLx (fxB (I_x 0)) n.toInt (I_r 0 5).toInt ((I_r_87 0 3)).toInt ((I_r_87 0 4)).toInt ((I_r_87 0 5)).toInt ((I_r_87 0 6)).toInt := (fx_wd (by omega) (by omega) hb_8 hnb hsm8 ht9 ht0 (by omega) hw_87 (fun q => by exfalso; omega))
                  have hLx9 : fxLx (fxB (I_x 0)) n.toInt (I_r 0 5).toInt ((I_r_87 0 3)).toInt ((I_r_87 0 4)).toInt ((I_r_87 0 5)).toInt ((I_r_87 0 6)).toInt := (by first | exact hLx | exact ⟨⟨by omega, by omega, hb_8, hnb⟩, Or.inr (Or.inr (Or.inr ⟨by omega, hns8, hnd8, by omega, hot⟩))⟩)
                  refine hret 171 ls _ _ I_r_87 dX3_nextToken_171 hS hP hD ?_
                  exact (show 0 ≤ ((I_r_87 0 4)).toInt ∧ ((I_r_87 0 4)).toInt ≤ ((I_r_87 0 5)).toInt ∧ ((I_r_87 0 5)).toInt ≤ n.toInt ∧ _ ∧ _ ∧ _ ∧ _ from ⟨by omega, by omega, by omega, (by first | exact hs_87.1 | exact hs_8.1), (by first | exact hs_87.2.1 | exact hs_8.2.1), (by first | exact hs_87.2.2 | exact hs_8.2.2), hLx9⟩)
                · refine lv_aload_n hx hb dX3_nextToken_95 rfl (lv_at hl 1 rfl) ?_
                  refine lv_aload_n hx hb dX3_nextToken_96 rfl (lv_at hl 0 rfl) ?_
                  refine va_get (D := g.1) (ci := 3) (v := .int (I_r_87 0 5)) (C := RX3) (T := TX3) (N := 10) hx hb hi_X3 (fun _ h => h) hown hK.1 hP 0 rfl rfl 5 (by decide) hf_31 (fun _ h9 => h9) rfl dX3_nextToken_97 ?_
                  have n_100 : vp_in (I_r_87 0 5) n_x := (t_in (by omega))
                  refine va_iald hx hb hK.1 hP 1 0 rfl rfl n_100 dX3_nextToken_100 ?_
                  refine q_nm (fun x10 e_x10 => ?_)
                  have e_x10 : x10 = (I_x 0) (I_r_87 0 5).toNatClampNeg := e_x10
                  have g_x10 : x10.toInt = ((I_x 0) (I_r_87 0 5).toNatClampNeg).toInt := congrArg _ e_x10
                  refine PurI.cn (C := RX10) (host := "RaisedPress") (As := [.int x10]) (kX10_isSmall l g x10) fx (gU (uT _) u_373) rfl hdX10_isSmall ⟨Nat.le_of_ble_eq_true rfl, Nat.le_of_ble_eq_true rfl⟩ hK hP [] rfl (nm_in_RX3_61) (uT _ _ u_372) (uT _ _ u_2) rfl rfl hl.1 (Nat.le_of_ble_eq_true rfl) dX3_nextToken_101 (fun r11 p_r11 => ?_)
                  refine q_if_eq (tgt := 171) hx hb dX3_nextToken_104 (by decide) rfl (fun b_104 k_104 => ?_) (fun b_104 k_104 => ?_)
                  · have q_104 := bP.f p_r11 b_104
                    have ht9 := ht_87.1; have ht0 := ht_87.2; have hfe : ((I_r_87 0 4)).toInt.toNat = (I_r_8 0 4).toInt.toNat := by omega
                    have hnw9 : ¬ (97 ≤ fxB (I_x 0) ((I_r_87 0 5)).toInt.toNat ∧ fxB (I_x 0) ((I_r_87 0 5)).toInt.toNat ≤ 122) := (by have w := q_104; rw [e_x10] at w; exact w)
                    have hlt9 : (I_r_8 0 4).toInt < ((I_r_87 0 5)).toInt := (by rcases Int.lt_or_le (I_r_8 0 4).toInt ((I_r_87 0 5)).toInt with q | q; exact q; exfalso; apply hnw9; rw [show ((I_r_87 0 5)).toInt.toNat = (I_r_8 0 4).toInt.toNat by omega]; exact hsm8)
                    have hLx : fxLx (fxB (I_x 0)) n.toInt (I_r 0 5).toInt ((I_r_87 0 3)).toInt ((I_r_87 0 4)).toInt ((I_r_87 0 5)).toInt ((I_r_87 0 6)).toInt := (fx_wd (by omega) (by omega) hb_8 hnb hsm8 ht9 ht0 (by omega) hw_87 (fun _ => hnw9))
                    have hLx9 : fxLx (fxB (I_x 0)) n.toInt (I_r 0 5).toInt ((I_r_87 0 3)).toInt ((I_r_87 0 4)).toInt ((I_r_87 0 5)).toInt ((I_r_87 0 6)).toInt := (by first | exact hLx | exact ⟨⟨by omega, by omega, hb_8, hnb⟩, Or.inr (Or.inr (Or.inr ⟨by omega, hns8, hnd8, by omega, hot⟩))⟩)
                    refine hret 171 ls _ _ I_r_87 dX3_nextToken_171 hS hP hD ?_
                    exact (show 0 ≤ ((I_r_87 0 4)).toInt ∧ ((I_r_87 0 4)).toInt ≤ ((I_r_87 0 5)).toInt ∧ ((I_r_87 0 5)).toInt ≤ n.toInt ∧ _ ∧ _ ∧ _ ∧ _ from ⟨by omega, by omega, by omega, (by first | exact hs_87.1 | exact hs_8.1), (by first | exact hs_87.2.1 | exact hs_8.2.1), (by first | exact hs_87.2.2 | exact hs_8.2.2), hLx9⟩)
                  · have q_104 := bP.t p_r11 b_104
                    refine lv_aload_n hx hb dX3_nextToken_107 rfl (lv_at hl 0 rfl) ?_
                    refine lv_dup hx hb dX3_nextToken_108 rfl ?_
                    refine va_get (D := g.1) (ci := 3) (v := .int (I_r_87 0 5)) (C := RX3) (T := TX3) (N := 10) hx hb hi_X3 (fun _ h => h) hown hK.1 hP 0 rfl rfl 5 (by decide) hf_31 (fun _ h9 => h9) rfl dX3_nextToken_109 ?_
                    refine lv_iconst (v := 1) hx hb dX3_nextToken_112 (by decide) ?_
                    refine r_iadd hx hb dX3_nextToken_113 rfl (by decide : (1 : Int32).toInt = 1) (fun x12 e_x12 t_x12 => ?_)
                    try have t_x12 := t_x12 (by omega)
                    refine va_put (D := g.1) (ci := 3) (v := .int x12) (ty := .int) (C := RX3) (T := TX3) (N := 10) hx hb hi_X3 (fun _ h => h) tyX3 tyX3_ok nmX3 hown hK.1 hP hD hS 0 rfl rfl 5 (by decide) hf_31 (fun _ h9 => h9) rfl (by decide +kernel) rfl rfl (Nat.le_of_ble_eq_true rfl) dX3_nextToken_114 (fun H locs hP hD hS => ?_)
                    have hP : va_P g.1 vwCl (wX3 g a_r (uF I_r_87 0 5 x12) ++ wArr g a_x n_x I_x) H := hP
                    have hD : va_D A (wX3 g a_r (uF I_r_87 0 5 x12) ++ wArr g a_x n_x I_x) := hD
                    refine lv_goto (tgt := 87) hx hb dX3_nextToken_117 (by decide) ?_
                    exact ih_87 (uF I_r_87 0 5 x12) hs_87 ht_87 (show ((I_r_87 0 4)).toInt ≤ (x12).toInt ∧ (x12).toInt ≤ n.toInt from (by omega)) (fx_all (P := fun b => 97 ≤ b ∧ b ≤ 122) hw_87 e_x10 rfl (by omega) q_104 (show (x12).toInt = _ from (by omega))) (show n.toInt + 1 - (x12).toInt < _ from (by omega)) _ _ hP hD hS ls hl
            exact L87 ((n.toInt + 1 - ((I_r_8 0 4)).toInt) + 1).toNat (uF (uF (uF I_r_8 0 5 (I_r_8 0 4)) 0 6 (0 : Int32)) 0 3 (0 : Int32)) hs_8 ⟨rfl, (show ((0 : Int32)).toInt = 0 from (by decide))⟩ (show ((I_r_8 0 4)).toInt ≤ ((I_r_8 0 4)).toInt ∧ ((I_r_8 0 4)).toInt ≤ n.toInt from (by omega)) (fun j h1 h2 => by have w : (j : Int) < ((I_r_8 0 4)).toInt := h2; exfalso; omega) (show n.toInt + 1 - ((I_r_8 0 4)).toInt < _ from (by omega)) _ _ hP hD hS ls hl
        · refine lv_aload_n hx hb dX3_nextToken_62 rfl (lv_at hl 0 rfl) ?_
          refine lv_iconst (v := 3) hx hb dX3_nextToken_63 (by decide) ?_
          refine va_put (D := g.1) (ci := 3) (v := .int (3 : Int32)) (ty := .int) (C := RX3) (T := TX3) (N := 10) hx hb hi_X3 (fun _ h => h) tyX3 tyX3_ok nmX3 hown hK.1 hP hD hS 0 rfl rfl 3 (by decide) hf_25 (fun _ h9 => h9) rfl (by decide +kernel) rfl rfl (Nat.le_of_ble_eq_true rfl) dX3_nextToken_64 (fun H locs hP hD hS => ?_)
          have hP : va_P g.1 vwCl (wX3 g a_r (uF (uF (uF I_r_8 0 5 (I_r_8 0 4)) 0 6 (0 : Int32)) 0 3 (3 : Int32)) ++ wArr g a_x n_x I_x) H := hP
          have hD : va_D A (wX3 g a_r (uF (uF (uF I_r_8 0 5 (I_r_8 0 4)) 0 6 (0 : Int32)) 0 3 (3 : Int32)) ++ wArr g a_x n_x I_x) := hD
          have hLx : fxLx (fxB (I_x 0)) n.toInt (I_r 0 5).toInt ((3 : Int32)).toInt ((I_r_8 0 4)).toInt ((I_r_8 0 4)).toInt ((0 : Int32)).toInt := ⟨⟨by omega, by omega, hb_8, hnb⟩, Or.inl ⟨by omega, (show ((3 : Int32)).toInt = 3 from (by decide)), rfl⟩⟩
          refine lv_goto (tgt := 171) hx hb dX3_nextToken_67 (by decide) ?_
          have hLx9 : fxLx (fxB (I_x 0)) n.toInt (I_r 0 5).toInt ((3 : Int32)).toInt ((I_r_8 0 4)).toInt ((I_r_8 0 4)).toInt ((0 : Int32)).toInt := (by first | exact hLx | exact ⟨⟨by omega, by omega, hb_8, hnb⟩, Or.inr (Or.inr (Or.inr ⟨by omega, hns8, hnd8, by omega, hot⟩))⟩)
          refine hret 171 ls _ _ (uF (uF (uF I_r_8 0 5 (I_r_8 0 4)) 0 6 (0 : Int32)) 0 3 (3 : Int32)) dX3_nextToken_171 hS hP hD ?_
          exact (show 0 ≤ ((I_r_8 0 4)).toInt ∧ ((I_r_8 0 4)).toInt ≤ ((I_r_8 0 4)).toInt ∧ ((I_r_8 0 4)).toInt ≤ n.toInt ∧ _ ∧ _ ∧ _ ∧ _ from ⟨by omega, by omega, by omega, (by first | exact hs_87.1 | exact hs_8.1), (by first | exact hs_87.2.1 | exact hs_8.2.1), (by first | exact hs_87.2.2 | exact hs_8.2.2), hLx9⟩)
      · refine lv_aload_n hx hb dX3_nextToken_16 rfl (lv_at hl 1 rfl) ?_
        refine lv_aload_n hx hb dX3_nextToken_17 rfl (lv_at hl 0 rfl) ?_
        refine va_get (D := g.1) (ci := 3) (v := .int (I_r_8 0 4)) (C := RX3) (T := TX3) (N := 10) hx hb hi_X3 (fun _ h => h) hown hK.1 hP 0 rfl rfl 4 (by decide) hf_28 (fun _ h9 => h9) rfl dX3_nextToken_18 ?_
        have n_21 : vp_in (I_r_8 0 4) n_x := (t_in (by omega))
        refine va_iald hx hb hK.1 hP 1 0 rfl rfl n_21 dX3_nextToken_21 ?_
        refine q_nm (fun x13 e_x13 => ?_)
        have e_x13 : x13 = (I_x 0) (I_r_8 0 4).toNatClampNeg := e_x13
        have g_x13 : x13.toInt = ((I_x 0) (I_r_8 0 4).toNatClampNeg).toInt := congrArg _ e_x13
        refine PurI.cn (C := RX10) (host := "RaisedPress") (As := [.int x13]) (kX10_isBlank l g x13) fx (gU (uT _) u_371) rfl hdX10_isBlank ⟨Nat.le_of_ble_eq_true rfl, Nat.le_of_ble_eq_true rfl⟩ hK hP [] rfl (nm_in_RX3_57) (uT _ _ u_370) (uT _ _ u_2) rfl rfl hl.1 (Nat.le_of_ble_eq_true rfl) dX3_nextToken_22 (fun r14 p_r14 => ?_)
        refine q_if_eq (tgt := 41) hx hb dX3_nextToken_25 (by decide) rfl (fun b_25 k_25 => ?_) (fun b_25 k_25 => ?_)
        · have q_25 := bP.f p_r14 b_25
          have hnb : ((I_r_8 0 4)).toInt < n.toInt → ¬ (fxB (I_x 0) ((I_r_8 0 4)).toInt.toNat = 10 ∨ fxB (I_x 0) ((I_r_8 0 4)).toInt.toNat = 32) := (fun _ => by have w := q_25; rw [e_x13] at w; exact w)
          refine lv_aload_n hx hb dX3_nextToken_41 rfl (lv_at hl 0 rfl) ?_
          refine lv_aload_n hx hb dX3_nextToken_42 rfl (lv_at hl 0 rfl) ?_
          refine va_get (D := g.1) (ci := 3) (v := .int (I_r_8 0 4)) (C := RX3) (T := TX3) (N := 10) hx hb hi_X3 (fun _ h => h) hown hK.1 hP 0 rfl rfl 4 (by decide) hf_28 (fun _ h9 => h9) rfl dX3_nextToken_43 ?_
          refine va_put (D := g.1) (ci := 3) (v := .int (I_r_8 0 4)) (ty := .int) (C := RX3) (T := TX3) (N := 10) hx hb hi_X3 (fun _ h => h) tyX3 tyX3_ok nmX3 hown hK.1 hP hD hS 0 rfl rfl 5 (by decide) hf_31 (fun _ h9 => h9) rfl (by decide +kernel) rfl rfl (Nat.le_of_ble_eq_true rfl) dX3_nextToken_46 (fun H locs hP hD hS => ?_)
          have hP : va_P g.1 vwCl (wX3 g a_r (uF I_r_8 0 5 (I_r_8 0 4)) ++ wArr g a_x n_x I_x) H := hP
          have hD : va_D A (wX3 g a_r (uF I_r_8 0 5 (I_r_8 0 4)) ++ wArr g a_x n_x I_x) := hD
          refine lv_aload_n hx hb dX3_nextToken_49 rfl (lv_at hl 0 rfl) ?_
          refine lv_iconst (v := 0) hx hb dX3_nextToken_50 (by decide) ?_
          refine va_put (D := g.1) (ci := 3) (v := .int (0 : Int32)) (ty := .int) (C := RX3) (T := TX3) (N := 10) hx hb hi_X3 (fun _ h => h) tyX3 tyX3_ok nmX3 hown hK.1 hP hD hS 0 rfl rfl 6 (by decide) hf_34 (fun _ h9 => h9) rfl (by decide +kernel) rfl rfl (Nat.le_of_ble_eq_true rfl) dX3_nextToken_51 (fun H locs hP hD hS => ?_)
          have hP : va_P g.1 vwCl (wX3 g a_r (uF (uF I_r_8 0 5 (I_r_8 0 4)) 0 6 (0 : Int32)) ++ wArr g a_x n_x I_x) H := hP
          have hD : va_D A (wX3 g a_r (uF (uF I_r_8 0 5 (I_r_8 0 4)) 0 6 (0 : Int32)) ++ wArr g a_x n_x I_x) := hD
          refine lv_aload_n hx hb dX3_nextToken_54 rfl (lv_at hl 0 rfl) ?_
          refine va_get (D := g.1) (ci := 3) (v := .int (I_r_8 0 4)) (C := RX3) (T := TX3) (N := 10) hx hb hi_X3 (fun _ h => h) hown hK.1 hP 0 rfl rfl 4 (by decide) hf_28 (fun _ h9 => h9) rfl dX3_nextToken_55 ?_
          refine lv_iload_n hx hb dX3_nextToken_58 rfl (lv_at hl 2 rfl) ?_
          refine q_icmp_lt (tgt := 70) hx hb dX3_nextToken_59 (by decide) rfl rfl (fun k_59 => ?_) (fun k_59 => ?_)
          · refine lv_aload_n hx hb dX3_nextToken_70 rfl (lv_at hl 1 rfl) ?_
            refine lv_aload_n hx hb dX3_nextToken_71 rfl (lv_at hl 0 rfl) ?_
            refine va_get (D := g.1) (ci := 3) (v := .int (I_r_8 0 4)) (C := RX3) (T := TX3) (N := 10) hx hb hi_X3 (fun _ h => h) hown hK.1 hP 0 rfl rfl 4 (by decide) hf_28 (fun _ h9 => h9) rfl dX3_nextToken_72 ?_
            have n_75 : vp_in (I_r_8 0 4) n_x := (t_in (by omega))
            refine va_iald hx hb hK.1 hP 1 0 rfl rfl n_75 dX3_nextToken_75 ?_
            refine q_nm (fun x15 e_x15 => ?_)
            have e_x15 : x15 = (I_x 0) (I_r_8 0 4).toNatClampNeg := e_x15
            have g_x15 : x15.toInt = ((I_x 0) (I_r_8 0 4).toNatClampNeg).toInt := congrArg _ e_x15
            refine PurI.cn (C := RX10) (host := "RaisedPress") (As := [.int x15]) (kX10_isSmall l g x15) fx (gU (uT _) u_373) rfl hdX10_isSmall ⟨Nat.le_of_ble_eq_true rfl, Nat.le_of_ble_eq_true rfl⟩ hK hP [] rfl (nm_in_RX3_61) (uT _ _ u_372) (uT _ _ u_2) rfl rfl hl.1 (Nat.le_of_ble_eq_true rfl) dX3_nextToken_76 (fun r16 p_r16 => ?_)
            refine q_if_eq (tgt := 120) hx hb dX3_nextToken_79 (by decide) rfl (fun b_79 k_79 => ?_) (fun b_79 k_79 => ?_)
            · have q_79 := bP.f p_r16 b_79
              have hns8 : ¬ (97 ≤ fxB (I_x 0) (I_r_8 0 4).toInt.toNat ∧ fxB (I_x 0) (I_r_8 0 4).toInt.toNat ≤ 122) := (by have w := q_79; rw [e_x15] at w; exact w)
              refine lv_aload_n hx hb dX3_nextToken_120 rfl (lv_at hl 1 rfl) ?_
              refine lv_aload_n hx hb dX3_nextToken_121 rfl (lv_at hl 0 rfl) ?_
              refine va_get (D := g.1) (ci := 3) (v := .int (I_r_8 0 4)) (C := RX3) (T := TX3) (N := 10) hx hb hi_X3 (fun _ h => h) hown hK.1 hP 0 rfl rfl 4 (by decide) hf_28 (fun _ h9 => h9) rfl dX3_nextToken_122 ?_
              have n_125 : vp_in (I_r_8 0 4) n_x := (t_in (by omega))
              refine va_iald hx hb hK.1 hP 1 0 rfl rfl n_125 dX3_nextToken_125 ?_
              refine q_nm (fun x17 e_x17 => ?_)
              have e_x17 : x17 = (I_x 0) (I_r_8 0 4).toNatClampNeg := e_x17
              have g_x17 : x17.toInt = ((I_x 0) (I_r_8 0 4).toNatClampNeg).toInt := congrArg _ e_x17
              refine PurI.cn (C := RX10) (host := "RaisedPress") (As := [.int x17]) (kX10_isDigit l g x17) fx (gU (uT _) u_375) rfl hdX10_isDigit ⟨Nat.le_of_ble_eq_true rfl, Nat.le_of_ble_eq_true rfl⟩ hK hP [] rfl (nm_in_RX3_64) (uT _ _ u_374) (uT _ _ u_2) rfl rfl hl.1 (Nat.le_of_ble_eq_true rfl) dX3_nextToken_126 (fun r18 p_r18 => ?_)
              refine q_if_eq (tgt := 141) hx hb dX3_nextToken_129 (by decide) rfl (fun b_129 k_129 => ?_) (fun b_129 k_129 => ?_)
              · have q_129 := bP.f p_r18 b_129
                have hnd8 : ¬ (48 ≤ fxB (I_x 0) (I_r_8 0 4).toInt.toNat ∧ fxB (I_x 0) (I_r_8 0 4).toInt.toNat ≤ 57) := (by have w := q_129; rw [e_x17] at w; exact w)
                refine lv_aload_n hx hb dX3_nextToken_141 rfl (lv_at hl 0 rfl) ?_
                refine lv_aload_n hx hb dX3_nextToken_142 rfl (lv_at hl 1 rfl) ?_
                refine lv_aload_n hx hb dX3_nextToken_143 rfl (lv_at hl 0 rfl) ?_
                refine va_get (D := g.1) (ci := 3) (v := .int (I_r_8 0 4)) (C := RX3) (T := TX3) (N := 10) hx hb hi_X3 (fun _ h => h) hown hK.1 hP 0 rfl rfl 4 (by decide) hf_28 (fun _ h9 => h9) rfl dX3_nextToken_144 ?_
                have n_147 : vp_in (I_r_8 0 4) n_x := (t_in (by omega))
                refine va_iald hx hb hK.1 hP 1 0 rfl rfl n_147 dX3_nextToken_147 ?_
                refine q_nm (fun x19 e_x19 => ?_)
                have e_x19 : x19 = (I_x 0) (I_r_8 0 4).toNatClampNeg := e_x19
                have g_x19 : x19.toInt = ((I_x 0) (I_r_8 0 4).toNatClampNeg).toInt := congrArg _ e_x19
                refine lv_bipush (v := 59) hx hb dX3_nextToken_148 (by decide) ?_
                refine q_icmp_ne (tgt := 157) hx hb dX3_nextToken_150 (by decide) rfl (by decide : (59 : Int32).toInt = 59) (fun k_150 => ?_) (fun k_150 => ?_)
                · have hot : (fxB (I_x 0) (I_r_8 0 4).toInt.toNat = 59 ∧ ((4 : Int32)).toInt = 2) ∨ (fxB (I_x 0) (I_r_8 0 4).toInt.toNat ≠ 59 ∧ ((4 : Int32)).toInt = 4) := (Or.inr ⟨fun q => by have g := e_x19; have g2 := congrArg Int32.toInt g; exact k_150 (g2.trans q), (by decide)⟩)
                  refine lv_iconst (v := 4) hx hb dX3_nextToken_157 (by decide) ?_
                  refine va_put (D := g.1) (ci := 3) (v := .int (4 : Int32)) (ty := .int) (C := RX3) (T := TX3) (N := 10) hx hb hi_X3 (fun _ h => h) tyX3 tyX3_ok nmX3 hown hK.1 hP hD hS 0 rfl rfl 3 (by decide) hf_25 (fun _ h9 => h9) rfl (by decide +kernel) rfl rfl (Nat.le_of_ble_eq_true rfl) dX3_nextToken_158 (fun H locs hP hD hS => ?_)
                  have hP : va_P g.1 vwCl (wX3 g a_r (uF (uF (uF I_r_8 0 5 (I_r_8 0 4)) 0 6 (0 : Int32)) 0 3 (4 : Int32)) ++ wArr g a_x n_x I_x) H := hP
                  have hD : va_D A (wX3 g a_r (uF (uF (uF I_r_8 0 5 (I_r_8 0 4)) 0 6 (0 : Int32)) 0 3 (4 : Int32)) ++ wArr g a_x n_x I_x) := hD
                  refine lv_aload_n hx hb dX3_nextToken_161 rfl (lv_at hl 0 rfl) ?_
                  refine lv_dup hx hb dX3_nextToken_162 rfl ?_
                  refine va_get (D := g.1) (ci := 3) (v := .int (I_r_8 0 4)) (C := RX3) (T := TX3) (N := 10) hx hb hi_X3 (fun _ h => h) hown hK.1 hP 0 rfl rfl 5 (by decide) hf_31 (fun _ h9 => h9) rfl dX3_nextToken_163 ?_
                  refine lv_iconst (v := 1) hx hb dX3_nextToken_166 (by decide) ?_
                  refine r_iadd hx hb dX3_nextToken_167 rfl (by decide : (1 : Int32).toInt = 1) (fun x20 e_x20 t_x20 => ?_)
                  try have t_x20 := t_x20 (by omega)
                  refine va_put (D := g.1) (ci := 3) (v := .int x20) (ty := .int) (C := RX3) (T := TX3) (N := 10) hx hb hi_X3 (fun _ h => h) tyX3 tyX3_ok nmX3 hown hK.1 hP hD hS 0 rfl rfl 5 (by decide) hf_31 (fun _ h9 => h9) rfl (by decide +kernel) rfl rfl (Nat.le_of_ble_eq_true rfl) dX3_nextToken_168 (fun H locs hP hD hS => ?_)
                  have hP : va_P g.1 vwCl (wX3 g a_r (uF (uF (uF (uF I_r_8 0 5 (I_r_8 0 4)) 0 6 (0 : Int32)) 0 3 (4 : Int32)) 0 5 x20) ++ wArr g a_x n_x I_x) H := hP
                  have hD : va_D A (wX3 g a_r (uF (uF (uF (uF I_r_8 0 5 (I_r_8 0 4)) 0 6 (0 : Int32)) 0 3 (4 : Int32)) 0 5 x20) ++ wArr g a_x n_x I_x) := hD
                  have hLx9 : fxLx (fxB (I_x 0)) n.toInt (I_r 0 5).toInt ((4 : Int32)).toInt ((I_r_8 0 4)).toInt (x20).toInt ((0 : Int32)).toInt := (by first | exact hLx | exact ⟨⟨by omega, by omega, hb_8, hnb⟩, Or.inr (Or.inr (Or.inr ⟨by omega, hns8, hnd8, by omega, hot⟩))⟩)
                  refine hret 171 ls _ _ (uF (uF (uF (uF I_r_8 0 5 (I_r_8 0 4)) 0 6 (0 : Int32)) 0 3 (4 : Int32)) 0 5 x20) dX3_nextToken_171 hS hP hD ?_
                  exact (show 0 ≤ ((I_r_8 0 4)).toInt ∧ ((I_r_8 0 4)).toInt ≤ (x20).toInt ∧ (x20).toInt ≤ n.toInt ∧ _ ∧ _ ∧ _ ∧ _ from ⟨by omega, by omega, by omega, (by first | exact hs_87.1 | exact hs_8.1), (by first | exact hs_87.2.1 | exact hs_8.2.1), (by first | exact hs_87.2.2 | exact hs_8.2.2), hLx9⟩)
                · have hot : (fxB (I_x 0) (I_r_8 0 4).toInt.toNat = 59 ∧ ((2 : Int32)).toInt = 2) ∨ (fxB (I_x 0) (I_r_8 0 4).toInt.toNat ≠ 59 ∧ ((2 : Int32)).toInt = 4) := (Or.inl ⟨by have g := congrArg Int32.toInt e_x19; exact g.symm.trans k_150, (by decide)⟩)
                  refine lv_iconst (v := 2) hx hb dX3_nextToken_153 (by decide) ?_
                  refine lv_goto (tgt := 158) hx hb dX3_nextToken_154 (by decide) ?_
                  refine va_put (D := g.1) (ci := 3) (v := .int (2 : Int32)) (ty := .int) (C := RX3) (T := TX3) (N := 10) hx hb hi_X3 (fun _ h => h) tyX3 tyX3_ok nmX3 hown hK.1 hP hD hS 0 rfl rfl 3 (by decide) hf_25 (fun _ h9 => h9) rfl (by decide +kernel) rfl rfl (Nat.le_of_ble_eq_true rfl) dX3_nextToken_158 (fun H locs hP hD hS => ?_)
                  have hP : va_P g.1 vwCl (wX3 g a_r (uF (uF (uF I_r_8 0 5 (I_r_8 0 4)) 0 6 (0 : Int32)) 0 3 (2 : Int32)) ++ wArr g a_x n_x I_x) H := hP
                  have hD : va_D A (wX3 g a_r (uF (uF (uF I_r_8 0 5 (I_r_8 0 4)) 0 6 (0 : Int32)) 0 3 (2 : Int32)) ++ wArr g a_x n_x I_x) := hD
                  refine lv_aload_n hx hb dX3_nextToken_161 rfl (lv_at hl 0 rfl) ?_
                  refine lv_dup hx hb dX3_nextToken_162 rfl ?_
                  refine va_get (D := g.1) (ci := 3) (v := .int (I_r_8 0 4)) (C := RX3) (T := TX3) (N := 10) hx hb hi_X3 (fun _ h => h) hown hK.1 hP 0 rfl rfl 5 (by decide) hf_31 (fun _ h9 => h9) rfl dX3_nextToken_163 ?_
                  refine lv_iconst (v := 1) hx hb dX3_nextToken_166 (by decide) ?_
                  refine r_iadd hx hb dX3_nextToken_167 rfl (by decide : (1 : Int32).toInt = 1) (fun x21 e_x21 t_x21 => ?_)
                  try have t_x21 := t_x21 (by omega)
                  refine va_put (D := g.1) (ci := 3) (v := .int x21) (ty := .int) (C := RX3) (T := TX3) (N := 10) hx hb hi_X3 (fun _ h => h) tyX3 tyX3_ok nmX3 hown hK.1 hP hD hS 0 rfl rfl 5 (by decide) hf_31 (fun _ h9 => h9) rfl (by decide +kernel) rfl rfl (Nat.le_of_ble_eq_true rfl) dX3_nextToken_168 (fun H locs hP hD hS => ?_)
                  have hP : va_P g.1 vwCl (wX3 g a_r (uF (uF (uF (uF I_r_8 0 5 (I_r_8 0 4)) 0 6 (0 : Int32)) 0 3 (2 : Int32)) 0 5 x21) ++ wArr g a_x n_x I_x) H := hP
                  have hD : va_D A (wX3 g a_r (uF (uF (uF (uF I_r_8 0 5 (I_r_8 0 4)) 0 6 (0 : Int32)) 0 3 (2 : Int32)) 0 5 x21) ++ wArr g a_x n_x I_x) := hD
                  have hLx9 : fxLx (fxB (I_x 0)) n.toInt (I_r 0 5).toInt ((2 : Int32)).toInt ((I_r_8 0 4)).toInt (x21).toInt ((0 : Int32)).toInt := (by first | exact hLx | exact ⟨⟨by omega, by omega, hb_8, hnb⟩, Or.inr (Or.inr (Or.inr ⟨by omega, hns8, hnd8, by omega, hot⟩))⟩)
                  refine hret 171 ls _ _ (uF (uF (uF (uF I_r_8 0 5 (I_r_8 0 4)) 0 6 (0 : Int32)) 0 3 (2 : Int32)) 0 5 x21) dX3_nextToken_171 hS hP hD ?_
                  exact (show 0 ≤ ((I_r_8 0 4)).toInt ∧ ((I_r_8 0 4)).toInt ≤ (x21).toInt ∧ (x21).toInt ≤ n.toInt ∧ _ ∧ _ ∧ _ ∧ _ from ⟨by omega, by omega, by omega, (by first | exact hs_87.1 | exact hs_8.1), (by first | exact hs_87.2.1 | exact hs_8.2.1), (by first | exact hs_87.2.2 | exact hs_8.2.2), hLx9⟩)
              · have q_129 := bP.t p_r18 b_129
                have hdg8 : 48 ≤ fxB (I_x 0) (I_r_8 0 4).toInt.toNat ∧ fxB (I_x 0) (I_r_8 0 4).toInt.toNat ≤ 57 := (by have w := q_129; rw [e_x17] at w; exact w)
                refine lv_aload_n hx hb dX3_nextToken_132 rfl (lv_at hl 0 rfl) ?_
                refine lv_aload_n hx hb dX3_nextToken_133 rfl (lv_at hl 1 rfl) ?_
                refine lv_iload_n hx hb dX3_nextToken_134 rfl (lv_at hl 2 rfl) ?_
                refine EffV.cv (wr := ([])) (w' := fun u23 => wX3 g a_r u23 ++ wArr g a_x n_x I_x) (As := [.ref (a_x 0), .int n]) (kX3_nextNumeral l g a_r (uF (uF I_r_8 0 5 (I_r_8 0 4)) 0 6 (0 : Int32)) a_x n_x I_x n (show 0 ≤ ((I_r_8 0 4)).toInt ∧ ((I_r_8 0 4)).toInt ≤ ((I_r_8 0 4)).toInt ∧ ((I_r_8 0 4)).toInt ≤ (n_x : Int) ∧ n_x ≤ 1000 from (by omega)) (show ((I_r_8 0 4)).toInt ≤ n.toInt ∧ n.toInt ≤ (n_x : Int) from (by omega)) ⟨(show ((0 : Int32)).toInt = 0 from (by decide)), rfl⟩) fx (gUV (uT _) u_376 u_377 u_378 u_27 u_379) rfl hdX3_nextNumeral ⟨Nat.le_of_ble_eq_true rfl, Nat.le_of_ble_eq_true rfl⟩ hK hP hD hS hA [0, 1] [] [0, 1] rfl rfl rfl rfl (by decide) rfl (fun _ => rfl) rfl rfl rfl rfl hl.1 (Nat.le_of_ble_eq_true rfl) dX3_nextToken_135 (fun u23 H locs p_r22 hP hD hS => ?_)
                have hP : va_P g.1 vwCl (wX3 g a_r u23 ++ wArr g a_x n_x I_x) H := hP
                have hD : va_D A (wX3 g a_r u23 ++ wArr g a_x n_x I_x) := hD
                have hn4 : (u23 0 4).toInt = ((I_r_8 0 4)).toInt := congrArg Int32.toInt p_r22.1
                have hn5 : ((I_r_8 0 4)).toInt ≤ (u23 0 5).toInt := p_r22.2.1
                have hn6 := p_r22.2.2.1
                have hLx : fxLx (fxB (I_x 0)) n.toInt (I_r 0 5).toInt (u23 0 3).toInt (u23 0 4).toInt (u23 0 5).toInt (u23 0 6).toInt := fx_nm (fr0 := (I_r_8 0 4).toInt) (by omega) (by omega) hb_8 hnb hdg8 (congrArg Int32.toInt p_r22.1) p_r22.2.1 p_r22.2.2.1 p_r22.2.2.2.2.2.2.1 p_r22.2.2.2.2.2.2.2.1 p_r22.2.2.2.2.2.2.2.2
                refine lv_goto (tgt := 171) hx hb dX3_nextToken_138 (by decide) ?_
                have hLx9 : fxLx (fxB (I_x 0)) n.toInt (I_r 0 5).toInt ((u23 0 3)).toInt ((u23 0 4)).toInt ((u23 0 5)).toInt ((u23 0 6)).toInt := (by first | exact hLx | exact ⟨⟨by omega, by omega, hb_8, hnb⟩, Or.inr (Or.inr (Or.inr ⟨by omega, hns8, hnd8, by omega, hot⟩))⟩)
                refine hret 171 ls _ _ u23 dX3_nextToken_171 hS hP hD ?_
                exact (show 0 ≤ ((u23 0 4)).toInt ∧ ((u23 0 4)).toInt ≤ ((u23 0 5)).toInt ∧ ((u23 0 5)).toInt ≤ n.toInt ∧ _ ∧ _ ∧ _ ∧ _ from ⟨by omega, by omega, by omega, (by first | exact hs_87.1 | exact p_r22.2.2.2.1.trans hs_8.1 | exact hs_8.1), (by first | exact hs_87.2.1 | exact p_r22.2.2.2.2.1.trans hs_8.2.1 | exact hs_8.2.1), (by first | exact hs_87.2.2 | exact ⟨p_r22.2.2.2.2.2.1.1.trans hs_8.2.2.1, p_r22.2.2.2.2.2.1.2.trans hs_8.2.2.2⟩ | exact hs_8.2.2), hLx9⟩)
            · have q_79 := bP.t p_r16 b_79
              have hsm8 : 97 ≤ fxB (I_x 0) (I_r_8 0 4).toInt.toNat ∧ fxB (I_x 0) (I_r_8 0 4).toInt.toNat ≤ 122 := (by have w := q_79; rw [e_x15] at w; exact w)
              refine lv_aload_n hx hb dX3_nextToken_82 rfl (lv_at hl 0 rfl) ?_
              refine lv_iconst (v := 0) hx hb dX3_nextToken_83 (by decide) ?_
              refine va_put (D := g.1) (ci := 3) (v := .int (0 : Int32)) (ty := .int) (C := RX3) (T := TX3) (N := 10) hx hb hi_X3 (fun _ h => h) tyX3 tyX3_ok nmX3 hown hK.1 hP hD hS 0 rfl rfl 3 (by decide) hf_25 (fun _ h9 => h9) rfl (by decide +kernel) rfl rfl (Nat.le_of_ble_eq_true rfl) dX3_nextToken_84 (fun H locs hP hD hS => ?_)
              have hP : va_P g.1 vwCl (wX3 g a_r (uF (uF (uF I_r_8 0 5 (I_r_8 0 4)) 0 6 (0 : Int32)) 0 3 (0 : Int32)) ++ wArr g a_x n_x I_x) H := hP
              have hD : va_D A (wX3 g a_r (uF (uF (uF I_r_8 0 5 (I_r_8 0 4)) 0 6 (0 : Int32)) 0 3 (0 : Int32)) ++ wArr g a_x n_x I_x) := hD
              have L87 : ∀ (nn : Nat) (I_r_87 : Nat → Nat → Int32), (hs_87 : I_r_87 0 7 = I_r 0 7 ∧ I_r_87 0 8 = I_r 0 8 ∧ I_r_87 0 9 = I_r 0 9 ∧ I_r_87 0 2 = I_r 0 2) → (ht_87 : ((I_r_87 0 4)).toInt = (I_r_8 0 4).toInt ∧ ((I_r_87 0 3)).toInt = 0) → (hv_87 : ((I_r_87 0 4)).toInt ≤ ((I_r_87 0 5)).toInt ∧ ((I_r_87 0 5)).toInt ≤ n.toInt) → (hw_87 : ∀ j : Nat, (I_r_8 0 4).toInt ≤ (j : Int) → (j : Int) < ((I_r_87 0 5)).toInt → 97 ≤ fxB (I_x 0) j ∧ fxB (I_x 0) j ≤ 122) → ((n.toInt + 1 - ((I_r_87 0 5)).toInt) < (nn : Int)) → ∀ (H : Heap) (locs : List Loc), va_P g.1 vwCl (wX3 g a_r I_r_87 ++ wArr g a_x n_x I_x) H → va_D A (wX3 g a_r I_r_87 ++ wArr g a_x n_x I_x) → va_S A s.heap H locs → ∀ ls : Array Slot, lv_has ls 3 [(0, .ref (a_r 0)), (1, .ref (a_x 0)), (2, .int n)] → W p l e (rm 2) s m args below meth c H locs 0 0 Q (F0 m 87 ls []) := by
                intro n_87
                induction n_87 with
                | zero =>
                  intro I_r_87 hs_87 ht_87 hv_87 hw_87 hms_87 H locs hP hD hS ls hl
                  exfalso; omega
                | succ n_87 ih_87 =>
                  intro I_r_87 hs_87 ht_87 hv_87 hw_87 hms_87 H locs hP hD hS ls hl
                  refine lv_aload_n hx hb dX3_nextToken_87 rfl (lv_at hl 0 rfl) ?_
                  refine va_get (D := g.1) (ci := 3) (v := .int (I_r_87 0 5)) (C := RX3) (T := TX3) (N := 10) hx hb hi_X3 (fun _ h => h) hown hK.1 hP 0 rfl rfl 5 (by decide) hf_31 (fun _ h9 => h9) rfl dX3_nextToken_88 ?_
                  refine lv_iload_n hx hb dX3_nextToken_91 rfl (lv_at hl 2 rfl) ?_
                  refine q_icmp_ge (tgt := 171) hx hb dX3_nextToken_92 (by decide) rfl rfl (fun k_92 => ?_) (fun k_92 => ?_)
                  · have ht9 := ht_87.1; have ht0 := ht_87.2; have hfe : ((I_r_87 0 4)).toInt.toNat = (I_r_8 0 4).toInt.toNat := by omega
                    have hlt9 : (I_r_8 0 4).toInt < ((I_r_87 0 5)).toInt := (by omega)
                    have hLx : fxLx (fxB (I_x 0)) n.toInt (I_r 0 5).toInt ((I_r_87 0 3)).toInt ((I_r_87 0 4)).toInt ((I_r_87 0 5)).toInt ((I_r_87 0 6)).toInt := (fx_wd (by omega) (by omega) hb_8 hnb hsm8 ht9 ht0 (by omega) hw_87 (fun q => by exfalso; omega))
                    have hLx9 : fxLx (fxB (I_x 0)) n.toInt (I_r 0 5).toInt ((I_r_87 0 3)).toInt ((I_r_87 0 4)).toInt ((I_r_87 0 5)).toInt ((I_r_87 0 6)).toInt := (by first | exact hLx | exact ⟨⟨by omega, by omega, hb_8, hnb⟩, Or.inr (Or.inr (Or.inr ⟨by omega, hns8, hnd8, by omega, hot⟩))⟩)
                    refine hret 171 ls _ _ I_r_87 dX3_nextToken_171 hS hP hD ?_
                    exact (show 0 ≤ ((I_r_87 0 4)).toInt ∧ ((I_r_87 0 4)).toInt ≤ ((I_r_87 0 5)).toInt ∧ ((I_r_87 0 5)).toInt ≤ n.toInt ∧ _ ∧ _ ∧ _ ∧ _ from ⟨by omega, by omega, by omega, (by first | exact hs_87.1 | exact hs_8.1), (by first | exact hs_87.2.1 | exact hs_8.2.1), (by first | exact hs_87.2.2 | exact hs_8.2.2), hLx9⟩)
                  · refine lv_aload_n hx hb dX3_nextToken_95 rfl (lv_at hl 1 rfl) ?_
                    refine lv_aload_n hx hb dX3_nextToken_96 rfl (lv_at hl 0 rfl) ?_
                    refine va_get (D := g.1) (ci := 3) (v := .int (I_r_87 0 5)) (C := RX3) (T := TX3) (N := 10) hx hb hi_X3 (fun _ h => h) hown hK.1 hP 0 rfl rfl 5 (by decide) hf_31 (fun _ h9 => h9) rfl dX3_nextToken_97 ?_
                    have n_100 : vp_in (I_r_87 0 5) n_x := (t_in (by omega))
                    refine va_iald hx hb hK.1 hP 1 0 rfl rfl n_100 dX3_nextToken_100 ?_
                    refine q_nm (fun x24 e_x24 => ?_)
                    have e_x24 : x24 = (I_x 0) (I_r_87 0 5).toNatClampNeg := e_x24
                    have g_x24 : x24.toInt = ((I_x 0) (I_r_87 0 5).toNatClampNeg).toInt := congrArg _ e_x24
                    refine PurI.cn (C := RX10) (host := "RaisedPress") (As := [.int x24]) (kX10_isSmall l g x24) fx (gU (uT _) u_373) rfl hdX10_isSmall ⟨Nat.le_of_ble_eq_true rfl, Nat.le_of_ble_eq_true rfl⟩ hK hP [] rfl (nm_in_RX3_61) (uT _ _ u_372) (uT _ _ u_2) rfl rfl hl.1 (Nat.le_of_ble_eq_true rfl) dX3_nextToken_101 (fun r25 p_r25 => ?_)
                    refine q_if_eq (tgt := 171) hx hb dX3_nextToken_104 (by decide) rfl (fun b_104 k_104 => ?_) (fun b_104 k_104 => ?_)
                    · have q_104 := bP.f p_r25 b_104
                      have ht9 := ht_87.1; have ht0 := ht_87.2; have hfe : ((I_r_87 0 4)).toInt.toNat = (I_r_8 0 4).toInt.toNat := by omega
                      have hnw9 : ¬ (97 ≤ fxB (I_x 0) ((I_r_87 0 5)).toInt.toNat ∧ fxB (I_x 0) ((I_r_87 0 5)).toInt.toNat ≤ 122) := (by have w := q_104; rw [e_x24] at w; exact w)
                      have hlt9 : (I_r_8 0 4).toInt < ((I_r_87 0 5)).toInt := (by rcases Int.lt_or_le (I_r_8 0 4).toInt ((I_r_87 0 5)).toInt with q | q; exact q; exfalso; apply hnw9; rw [show ((I_r_87 0 5)).toInt.toNat = (I_r_8 0 4).toInt.toNat by omega]; exact hsm8)
                      have hLx : fxLx (fxB (I_x 0)) n.toInt (I_r 0 5).toInt ((I_r_87 0 3)).toInt ((I_r_87 0 4)).toInt ((I_r_87 0 5)).toInt ((I_r_87 0 6)).toInt := (fx_wd (by omega) (by omega) hb_8 hnb hsm8 ht9 ht0 (by omega) hw_87 (fun _ => hnw9))
                      have hLx9 : fxLx (fxB (I_x 0)) n.toInt (I_r 0 5).toInt ((I_r_87 0 3)).toInt ((I_r_87 0 4)).toInt ((I_r_87 0 5)).toInt ((I_r_87 0 6)).toInt := (by first | exact hLx | exact ⟨⟨by omega, by omega, hb_8, hnb⟩, Or.inr (Or.inr (Or.inr ⟨by omega, hns8, hnd8, by omega, hot⟩))⟩)
                      refine hret 171 ls _ _ I_r_87 dX3_nextToken_171 hS hP hD ?_
                      exact (show 0 ≤ ((I_r_87 0 4)).toInt ∧ ((I_r_87 0 4)).toInt ≤ ((I_r_87 0 5)).toInt ∧ ((I_r_87 0 5)).toInt ≤ n.toInt ∧ _ ∧ _ ∧ _ ∧ _ from ⟨by omega, by omega, by omega, (by first | exact hs_87.1 | exact hs_8.1), (by first | exact hs_87.2.1 | exact hs_8.2.1), (by first | exact hs_87.2.2 | exact hs_8.2.2), hLx9⟩)
                    · have q_104 := bP.t p_r25 b_104
                      refine lv_aload_n hx hb dX3_nextToken_107 rfl (lv_at hl 0 rfl) ?_
                      refine lv_dup hx hb dX3_nextToken_108 rfl ?_
                      refine va_get (D := g.1) (ci := 3) (v := .int (I_r_87 0 5)) (C := RX3) (T := TX3) (N := 10) hx hb hi_X3 (fun _ h => h) hown hK.1 hP 0 rfl rfl 5 (by decide) hf_31 (fun _ h9 => h9) rfl dX3_nextToken_109 ?_
                      refine lv_iconst (v := 1) hx hb dX3_nextToken_112 (by decide) ?_
                      refine r_iadd hx hb dX3_nextToken_113 rfl (by decide : (1 : Int32).toInt = 1) (fun x26 e_x26 t_x26 => ?_)
                      try have t_x26 := t_x26 (by omega)
                      refine va_put (D := g.1) (ci := 3) (v := .int x26) (ty := .int) (C := RX3) (T := TX3) (N := 10) hx hb hi_X3 (fun _ h => h) tyX3 tyX3_ok nmX3 hown hK.1 hP hD hS 0 rfl rfl 5 (by decide) hf_31 (fun _ h9 => h9) rfl (by decide +kernel) rfl rfl (Nat.le_of_ble_eq_true rfl) dX3_nextToken_114 (fun H locs hP hD hS => ?_)
                      have hP : va_P g.1 vwCl (wX3 g a_r (uF I_r_87 0 5 x26) ++ wArr g a_x n_x I_x) H := hP
                      have hD : va_D A (wX3 g a_r (uF I_r_87 0 5 x26) ++ wArr g a_x n_x I_x) := hD
                      refine lv_goto (tgt := 87) hx hb dX3_nextToken_117 (by decide) ?_
                      exact ih_87 (uF I_r_87 0 5 x26) hs_87 ht_87 (show ((I_r_87 0 4)).toInt ≤ (x26).toInt ∧ (x26).toInt ≤ n.toInt from (by omega)) (fx_all (P := fun b => 97 ≤ b ∧ b ≤ 122) hw_87 e_x24 rfl (by omega) q_104 (show (x26).toInt = _ from (by omega))) (show n.toInt + 1 - (x26).toInt < _ from (by omega)) _ _ hP hD hS ls hl
              exact L87 ((n.toInt + 1 - ((I_r_8 0 4)).toInt) + 1).toNat (uF (uF (uF I_r_8 0 5 (I_r_8 0 4)) 0 6 (0 : Int32)) 0 3 (0 : Int32)) hs_8 ⟨rfl, (show ((0 : Int32)).toInt = 0 from (by decide))⟩ (show ((I_r_8 0 4)).toInt ≤ ((I_r_8 0 4)).toInt ∧ ((I_r_8 0 4)).toInt ≤ n.toInt from (by omega)) (fun j h1 h2 => by have w : (j : Int) < ((I_r_8 0 4)).toInt := h2; exfalso; omega) (show n.toInt + 1 - ((I_r_8 0 4)).toInt < _ from (by omega)) _ _ hP hD hS ls hl
          · refine lv_aload_n hx hb dX3_nextToken_62 rfl (lv_at hl 0 rfl) ?_
            refine lv_iconst (v := 3) hx hb dX3_nextToken_63 (by decide) ?_
            refine va_put (D := g.1) (ci := 3) (v := .int (3 : Int32)) (ty := .int) (C := RX3) (T := TX3) (N := 10) hx hb hi_X3 (fun _ h => h) tyX3 tyX3_ok nmX3 hown hK.1 hP hD hS 0 rfl rfl 3 (by decide) hf_25 (fun _ h9 => h9) rfl (by decide +kernel) rfl rfl (Nat.le_of_ble_eq_true rfl) dX3_nextToken_64 (fun H locs hP hD hS => ?_)
            have hP : va_P g.1 vwCl (wX3 g a_r (uF (uF (uF I_r_8 0 5 (I_r_8 0 4)) 0 6 (0 : Int32)) 0 3 (3 : Int32)) ++ wArr g a_x n_x I_x) H := hP
            have hD : va_D A (wX3 g a_r (uF (uF (uF I_r_8 0 5 (I_r_8 0 4)) 0 6 (0 : Int32)) 0 3 (3 : Int32)) ++ wArr g a_x n_x I_x) := hD
            have hLx : fxLx (fxB (I_x 0)) n.toInt (I_r 0 5).toInt ((3 : Int32)).toInt ((I_r_8 0 4)).toInt ((I_r_8 0 4)).toInt ((0 : Int32)).toInt := ⟨⟨by omega, by omega, hb_8, hnb⟩, Or.inl ⟨by omega, (show ((3 : Int32)).toInt = 3 from (by decide)), rfl⟩⟩
            refine lv_goto (tgt := 171) hx hb dX3_nextToken_67 (by decide) ?_
            have hLx9 : fxLx (fxB (I_x 0)) n.toInt (I_r 0 5).toInt ((3 : Int32)).toInt ((I_r_8 0 4)).toInt ((I_r_8 0 4)).toInt ((0 : Int32)).toInt := (by first | exact hLx | exact ⟨⟨by omega, by omega, hb_8, hnb⟩, Or.inr (Or.inr (Or.inr ⟨by omega, hns8, hnd8, by omega, hot⟩))⟩)
            refine hret 171 ls _ _ (uF (uF (uF I_r_8 0 5 (I_r_8 0 4)) 0 6 (0 : Int32)) 0 3 (3 : Int32)) dX3_nextToken_171 hS hP hD ?_
            exact (show 0 ≤ ((I_r_8 0 4)).toInt ∧ ((I_r_8 0 4)).toInt ≤ ((I_r_8 0 4)).toInt ∧ ((I_r_8 0 4)).toInt ≤ n.toInt ∧ _ ∧ _ ∧ _ ∧ _ from ⟨by omega, by omega, by omega, (by first | exact hs_87.1 | exact hs_8.1), (by first | exact hs_87.2.1 | exact hs_8.2.1), (by first | exact hs_87.2.2 | exact hs_8.2.2), hLx9⟩)
        · have q_25 := bP.t p_r14 b_25
          refine lv_aload_n hx hb dX3_nextToken_28 rfl (lv_at hl 0 rfl) ?_
          refine lv_dup hx hb dX3_nextToken_29 rfl ?_
          refine va_get (D := g.1) (ci := 3) (v := .int (I_r_8 0 4)) (C := RX3) (T := TX3) (N := 10) hx hb hi_X3 (fun _ h => h) hown hK.1 hP 0 rfl rfl 4 (by decide) hf_28 (fun _ h9 => h9) rfl dX3_nextToken_30 ?_
          refine lv_iconst (v := 1) hx hb dX3_nextToken_33 (by decide) ?_
          refine r_iadd hx hb dX3_nextToken_34 rfl (by decide : (1 : Int32).toInt = 1) (fun x27 e_x27 t_x27 => ?_)
          try have t_x27 := t_x27 (by omega)
          refine va_put (D := g.1) (ci := 3) (v := .int x27) (ty := .int) (C := RX3) (T := TX3) (N := 10) hx hb hi_X3 (fun _ h => h) tyX3 tyX3_ok nmX3 hown hK.1 hP hD hS 0 rfl rfl 4 (by decide) hf_28 (fun _ h9 => h9) rfl (by decide +kernel) rfl rfl (Nat.le_of_ble_eq_true rfl) dX3_nextToken_35 (fun H locs hP hD hS => ?_)
          have hP : va_P g.1 vwCl (wX3 g a_r (uF I_r_8 0 4 x27) ++ wArr g a_x n_x I_x) H := hP
          have hD : va_D A (wX3 g a_r (uF I_r_8 0 4 x27) ++ wArr g a_x n_x I_x) := hD
          refine lv_goto (tgt := 8) hx hb dX3_nextToken_38 (by decide) ?_
          exact ih_8 (uF I_r_8 0 4 x27) hs_8 (show (I_r 0 5).toInt ≤ (x27).toInt ∧ (x27).toInt ≤ n.toInt from (by omega)) (fx_all (P := fun b => b = 10 ∨ b = 32) hb_8 e_x13 rfl (by omega) q_25 (show (x27).toInt = _ from (by omega))) (show n.toInt + 1 - (x27).toInt < _ from (by omega)) _ _ hP hD hS ls hl
  exact L8 ((n.toInt + 1 - ((I_r 0 5)).toInt) + 1).toNat (uF I_r 0 4 (I_r 0 5)) ⟨rfl, rfl, rfl, rfl⟩ (show (I_r 0 5).toInt ≤ ((I_r 0 5)).toInt ∧ ((I_r 0 5)).toInt ≤ n.toInt from (by omega)) (fun j h1 h2 => by have w : (j : Int) < ((I_r 0 5)).toInt := h2; exfalso; omega) (show n.toInt + 1 - ((I_r 0 5)).toInt < _ from (by omega)) _ _ hP hD hS ls hl

set_option maxHeartbeats 4000000 in
set_option maxRecDepth 100000 in
theorem kX3_takes (l : Launch) (g : gG) (ad av : Nat → Nat) (a_r : Nat → Nat) (I_r : Nat → Nat → Int32) (a_x : Nat → Nat) (n_x : Nat) (I_x : Nat → Nat → Int32) (a_t : Nat → Nat) (I_t : Nat → Nat → Int32) (n : Int32) (hl_r_table : a_r 100 = a_t 0) (hT : TI I_t) (h_n : 0 ≤ n.toInt ∧ n.toInt ≤ (n_x : Int) ∧ n_x ≤ 1000) : EffIS l g ad av yX3_takes wsX3_takes 8 [.ref (a_r 0), .ref (a_x 0), .int n] (wX3 g a_r I_r ++ (wArr g a_x n_x I_x ++ wX7 g a_t I_t)) (fun (u : ((Nat → Nat → Int32) × (Nat → Nat → Int32))) => wX3 g a_r (u.1) ++ (wArr g a_x n_x I_x ++ wX7 g a_t (u.2))) (fun r (u : ((Nat → Nat → Int32) × (Nat → Nat → Int32))) => (r = 0 ∨ r = 1) ∧ TI (u.2) ∧ ((u.2) 0 1).toInt = 0 ∧ ∃ (c : Int × fxS) (pl : Int), fxRe (fxB (I_x 0)) n.toInt ((0 : Int), fxS0) c ∧ fxVd (fxB (I_x 0)) n.toInt c ((u.1) 0 1).toInt pl ∧ ((r = 1 ∧ ((u.1) 0 1).toInt = 0 ∧ ((u.1) 0 2).toInt = -1 ∧ c.2.2.2.2.1 = fxTc (u.2)) ∨ (r = 0 ∧ ((u.1) 0 1).toInt ≠ 0 ∧ ((u.1) 0 2).toInt = pl))) := by
  refine EffIS.sz (cc := cX3_takes) (maxL := 5) (by decide) rfl (Nat.le_of_ble_eq_true rfl) (fun p e s m args below meth c A Q ls fx hK hP hD hA hS hJ hl hret => ?_)
  have hx := fx.1
  have hb := fx.2.1
  have hml := fx.2.2.1
  have hown := fx.2.2.2.1
  have hts := fx.2.2.2.2
  have hl : lv_has ls 5 [(0, .ref (a_r 0)), (1, .ref (a_x 0)), (2, .int n)] := hl
  have hP : va_P g.1 vwCl (wX3 g a_r I_r ++ (wArr g a_x n_x I_x ++ wX7 g a_t I_t)) s.heap := hP
  have hf_12 := hts _ (uT _ _ u_76)
  have hf_18 := hts _ (uT _ _ u_77)
  have hf_22 := hts _ (uT _ _ u_78)
  have hf_25 := hts _ (uT _ _ u_79)
  have hf_28 := hts _ (uT _ _ u_80)
  have hf_31 := hts _ (uT _ _ u_81)
  have hf_37 := hts _ (uT _ _ u_83)
  have hf_43 := hts _ (uT _ _ u_85)
  have hi_X3 : ∀ w ∈ wsX30, w.before args s = true := fun w h => hts w (uT _ w (u_wsX30 w h))
  have lm1 : (-1 : Int32).toInt = -1 := by decide
  have lm0 : (0 : Int32).toInt = 0 := by decide
  have lm2 : (1 : Int32).toInt = 1 := by decide
  have lq3 : (3 : Int32).toInt = 3 := by decide
  refine lv_aload_n hx hb dX3_takes_0 rfl (lv_at hl 0 rfl) ?_
  refine va_get (D := g.1) (ci := 3) (v := .ref (a_t 0)) (C := RX3) (T := TX3) (N := 10) hx hb hi_X3 (fun _ h => h) hown hK.1 hP 0 rfl rfl 0 (by decide) hf_12 (fun _ h9 => h9) (congrArg (fun z => some (Value.ref z)) hl_r_table) dX3_takes_1 ?_
  refine EffV.cv (wr := (wX3 g a_r I_r ++ wArr g a_x n_x I_x)) (w' := fun u2 => wX3 g a_r I_r ++ (wArr g a_x n_x I_x ++ wX7 g a_t u2)) (As := []) (kX7_empty l g a_t I_t hT) fx (gUV (uT _) u_362 u_363 u_364 u_31 u_365) rfl hdX7_empty ⟨Nat.le_of_ble_eq_true rfl, Nat.le_of_ble_eq_true rfl⟩ hK hP hD hS hA [2, 3, 4, 5, 6, 7, 8] [0, 1] [0, 1, 2, 3, 4, 5, 6, 7, 8] rfl rfl rfl rfl (by decide) rfl (fun _ => rfl) rfl rfl rfl rfl hl.1 (Nat.le_of_ble_eq_true rfl) dX3_takes_4 (fun u2 H locs p_r1 hP hD hS => ?_)
  have hP : va_P g.1 vwCl (wX3 g a_r I_r ++ (wArr g a_x n_x I_x ++ wX7 g a_t u2)) H := hP
  have hD : va_D A (wX3 g a_r I_r ++ (wArr g a_x n_x I_x ++ wX7 g a_t u2)) := hD
  refine lv_aload_n hx hb dX3_takes_7 rfl (lv_at hl 0 rfl) ?_
  refine lv_iconst (v := 0) hx hb dX3_takes_8 (by decide) ?_
  refine va_put (D := g.1) (ci := 3) (v := .int (0 : Int32)) (ty := .int) (C := RX3) (T := TX3) (N := 10) hx hb hi_X3 (fun _ h => h) tyX3 tyX3_ok nmX3 hown hK.1 hP hD hS 0 rfl rfl 1 (by decide) hf_18 (fun _ h9 => h9) rfl (by decide +kernel) rfl rfl (Nat.le_of_ble_eq_true rfl) dX3_takes_9 (fun H locs hP hD hS => ?_)
  have hP : va_P g.1 vwCl (wX3 g a_r (uF I_r 0 1 (0 : Int32)) ++ (wArr g a_x n_x I_x ++ wX7 g a_t u2)) H := hP
  have hD : va_D A (wX3 g a_r (uF I_r 0 1 (0 : Int32)) ++ (wArr g a_x n_x I_x ++ wX7 g a_t u2)) := hD
  refine lv_aload_n hx hb dX3_takes_12 rfl (lv_at hl 0 rfl) ?_
  refine lv_iconst (v := -1) hx hb dX3_takes_13 (by decide) ?_
  refine va_put (D := g.1) (ci := 3) (v := .int (-1 : Int32)) (ty := .int) (C := RX3) (T := TX3) (N := 10) hx hb hi_X3 (fun _ h => h) tyX3 tyX3_ok nmX3 hown hK.1 hP hD hS 0 rfl rfl 2 (by decide) hf_22 (fun _ h9 => h9) rfl (by decide +kernel) rfl rfl (Nat.le_of_ble_eq_true rfl) dX3_takes_14 (fun H locs hP hD hS => ?_)
  have hP : va_P g.1 vwCl (wX3 g a_r (uF (uF I_r 0 1 (0 : Int32)) 0 2 (-1 : Int32)) ++ (wArr g a_x n_x I_x ++ wX7 g a_t u2)) H := hP
  have hD : va_D A (wX3 g a_r (uF (uF I_r 0 1 (0 : Int32)) 0 2 (-1 : Int32)) ++ (wArr g a_x n_x I_x ++ wX7 g a_t u2)) := hD
  refine lv_aload_n hx hb dX3_takes_17 rfl (lv_at hl 0 rfl) ?_
  refine lv_iconst (v := 0) hx hb dX3_takes_18 (by decide) ?_
  refine va_put (D := g.1) (ci := 3) (v := .int (0 : Int32)) (ty := .int) (C := RX3) (T := TX3) (N := 10) hx hb hi_X3 (fun _ h => h) tyX3 tyX3_ok nmX3 hown hK.1 hP hD hS 0 rfl rfl 5 (by decide) hf_31 (fun _ h9 => h9) rfl (by decide +kernel) rfl rfl (Nat.le_of_ble_eq_true rfl) dX3_takes_19 (fun H locs hP hD hS => ?_)
  have hP : va_P g.1 vwCl (wX3 g a_r (uF (uF (uF I_r 0 1 (0 : Int32)) 0 2 (-1 : Int32)) 0 5 (0 : Int32)) ++ (wArr g a_x n_x I_x ++ wX7 g a_t u2)) H := hP
  have hD : va_D A (wX3 g a_r (uF (uF (uF I_r 0 1 (0 : Int32)) 0 2 (-1 : Int32)) 0 5 (0 : Int32)) ++ (wArr g a_x n_x I_x ++ wX7 g a_t u2)) := hD
  refine lv_aload_n hx hb dX3_takes_22 rfl (lv_at hl 0 rfl) ?_
  refine lv_iconst (v := 0) hx hb dX3_takes_23 (by decide) ?_
  refine va_put (D := g.1) (ci := 3) (v := .int (0 : Int32)) (ty := .int) (C := RX3) (T := TX3) (N := 10) hx hb hi_X3 (fun _ h => h) tyX3 tyX3_ok nmX3 hown hK.1 hP hD hS 0 rfl rfl 7 (by decide) hf_37 (fun _ h9 => h9) rfl (by decide +kernel) rfl rfl (Nat.le_of_ble_eq_true rfl) dX3_takes_24 (fun H locs hP hD hS => ?_)
  have hP : va_P g.1 vwCl (wX3 g a_r (uF (uF (uF (uF I_r 0 1 (0 : Int32)) 0 2 (-1 : Int32)) 0 5 (0 : Int32)) 0 7 (0 : Int32)) ++ (wArr g a_x n_x I_x ++ wX7 g a_t u2)) H := hP
  have hD : va_D A (wX3 g a_r (uF (uF (uF (uF I_r 0 1 (0 : Int32)) 0 2 (-1 : Int32)) 0 5 (0 : Int32)) 0 7 (0 : Int32)) ++ (wArr g a_x n_x I_x ++ wX7 g a_t u2)) := hD
  refine lv_aload_n hx hb dX3_takes_27 rfl (lv_at hl 0 rfl) ?_
  refine lv_iconst (v := 0) hx hb dX3_takes_28 (by decide) ?_
  refine va_put (D := g.1) (ci := 3) (v := .int (0 : Int32)) (ty := .int) (C := RX3) (T := TX3) (N := 10) hx hb hi_X3 (fun _ h => h) tyX3 tyX3_ok nmX3 hown hK.1 hP hD hS 0 rfl rfl 9 (by decide) hf_43 (fun _ h9 => h9) rfl (by decide +kernel) rfl rfl (Nat.le_of_ble_eq_true rfl) dX3_takes_29 (fun H locs hP hD hS => ?_)
  have hP : va_P g.1 vwCl (wX3 g a_r (uF (uF (uF (uF (uF I_r 0 1 (0 : Int32)) 0 2 (-1 : Int32)) 0 5 (0 : Int32)) 0 7 (0 : Int32)) 0 9 (0 : Int32)) ++ (wArr g a_x n_x I_x ++ wX7 g a_t u2)) H := hP
  have hD : va_D A (wX3 g a_r (uF (uF (uF (uF (uF I_r 0 1 (0 : Int32)) 0 2 (-1 : Int32)) 0 5 (0 : Int32)) 0 7 (0 : Int32)) 0 9 (0 : Int32)) ++ (wArr g a_x n_x I_x ++ wX7 g a_t u2)) := hD
  refine lv_iconst (v := 1) hx hb dX3_takes_32 (by decide) ?_
  refine lv_istore_n (lv' := [(3, .int (1 : Int32)), (0, .ref (a_r 0)), (1, .ref (a_x 0)), (2, .int n)]) hx hb dX3_takes_33 rfl hl (by decide) rfl (fun ls hl => ?_)
  refine lv_iconst (v := 0) hx hb dX3_takes_34 (by decide) ?_
  refine lv_istore (lv' := [(4, .int (0 : Int32)), (3, .int (1 : Int32)), (0, .ref (a_r 0)), (1, .ref (a_x 0)), (2, .int n)]) hx hb dX3_takes_35 hl (by decide) rfl (fun ls hl => ?_)
  have L37 : ∀ (nn : Nat) (v3_37 : Int32) (v4_37 : Int32) (I_r_37 : Nat → Nat → Int32) (I_t_37 : Nat → Nat → Int32), (hT_37 : TI I_t_37) → (hv_37 : 0 ≤ v4_37.toInt ∧ v4_37.toInt ≤ n.toInt + 1) → (ht_37 : 0 ≤ ((I_r_37 0 5)).toInt ∧ ((I_r_37 0 5)).toInt ≤ n.toInt) → (hq_37 : v3_37.toInt ≠ 0 → QA ((I_r_37 0 7)).toInt ((I_t_37 0 0)).toInt ((I_r_37 0 8)).toInt) → (hre_37 : v3_37.toInt ≠ 0 → (fxRe (fxB (I_x 0)) n.toInt ((0 : Int), fxS0) (((I_r_37 0 5)).toInt, fxSc I_r_37 I_t_37) ∧ v4_37.toInt ≤ ((I_r_37 0 5)).toInt)) → (hen_37 : v3_37.toInt = 0 → ∃ c : Int × fxS, fxRe (fxB (I_x 0)) n.toInt ((0 : Int), fxS0) c ∧ fxVd (fxB (I_x 0)) n.toInt c ((I_r_37 0 1)).toInt ((I_r_37 0 4)).toInt ∧ (((I_r_37 0 1)).toInt = 0 → c.2.2.2.2.1 = fxTc I_t_37)) → (hdr_37 : (I_t_37 0 1).toInt = 0 ∧ ((I_r_37 0 2)).toInt = -1) → ((n.toInt + 2 - v4_37.toInt) < (nn : Int)) → ∀ (H : Heap) (locs : List Loc), va_P g.1 vwCl (wX3 g a_r I_r_37 ++ (wArr g a_x n_x I_x ++ wX7 g a_t I_t_37)) H → va_D A (wX3 g a_r I_r_37 ++ (wArr g a_x n_x I_x ++ wX7 g a_t I_t_37)) → va_S A s.heap H locs → ∀ ls : Array Slot, lv_has ls 5 [(4, .int v4_37), (3, .int v3_37), (0, .ref (a_r 0)), (1, .ref (a_x 0)), (2, .int n)] → W p l e (rm 8) s m args below meth c H locs 0 0 Q (F0 m 37 ls []) := by
    intro n_37
    induction n_37 with
    | zero =>
      intro v3_37 v4_37 I_r_37 I_t_37 hT_37 hv_37 ht_37 hq_37 hre_37 hen_37 hdr_37 hms_37 H locs hP hD hS ls hl
      exfalso; omega
    | succ n_37 ih_37 =>
      intro v3_37 v4_37 I_r_37 I_t_37 hT_37 hv_37 ht_37 hq_37 hre_37 hen_37 hdr_37 hms_37 H locs hP hD hS ls hl
      refine lv_iload hx hb dX3_takes_37 (lv_at hl 0 rfl) ?_
      refine lv_iload_n hx hb dX3_takes_39 rfl (lv_at hl 4 rfl) ?_
      refine q_icmp_gt (tgt := 89) hx hb dX3_takes_40 (by decide) rfl rfl (fun k_40 => ?_) (fun k_40 => ?_)
      · have hz3 : v3_37.toInt = 0 := (by by_cases w : v3_37.toInt = 0; exact w; exfalso; have w2 := (hre_37 w).2; omega)
        have hE := hen_37 hz3
        refine lv_aload_n hx hb dX3_takes_89 rfl (lv_at hl 2 rfl) ?_
        refine va_get (D := g.1) (ci := 3) (v := .int (I_r_37 0 1)) (C := RX3) (T := TX3) (N := 10) hx hb hi_X3 (fun _ h => h) hown hK.1 hP 0 rfl rfl 1 (by decide) hf_18 (fun _ h9 => h9) rfl dX3_takes_90 ?_
        refine q_if_eq (tgt := 104) hx hb dX3_takes_93 (by decide) rfl (fun b_93 k_93 => ?_) (fun b_93 k_93 => ?_)
        · refine lv_aload_n hx hb dX3_takes_104 rfl (lv_at hl 2 rfl) ?_
          refine va_get (D := g.1) (ci := 3) (v := .int (I_r_37 0 1)) (C := RX3) (T := TX3) (N := 10) hx hb hi_X3 (fun _ h => h) hown hK.1 hP 0 rfl rfl 1 (by decide) hf_18 (fun _ h9 => h9) rfl dX3_takes_105 ?_
          refine q_if_ne (tgt := 115) hx hb dX3_takes_108 (by decide) rfl (fun b_108 k_108 => ?_) (fun b_108 k_108 => ?_)
          · refine lv_iconst (v := 0) hx hb dX3_takes_115 (by decide) ?_
            refine hret 116 ls (0 : Int32) _ _ (I_r_37, I_t_37) dX3_takes_116 (Or.inl rfl) hS hP hD ?_
            exact (by obtain ⟨c9, g1, g2, g3⟩ := hE; first | exact ⟨Or.inr rfl, hT_37, hdr_37.1, c9, _, g1, g2, Or.inl ⟨rfl, (show ((I_r_37 0 1)).toInt = 0 from (by omega)), hdr_37.2, g3 (by omega)⟩⟩ | exact ⟨Or.inl rfl, hT_37, hdr_37.1, c9, _, g1, g2, Or.inr ⟨rfl, (show ((I_r_37 0 1)).toInt ≠ 0 from (by omega)), rfl⟩⟩ | (exfalso; omega))
          · refine lv_iconst (v := 1) hx hb dX3_takes_111 (by decide) ?_
            refine lv_goto (tgt := 116) hx hb dX3_takes_112 (by decide) ?_
            have lr : (1 : Int32).toInt = 1 := by decide
            refine hret 116 ls (1 : Int32) _ _ (I_r_37, I_t_37) dX3_takes_116 (Or.inr rfl) hS hP hD ?_
            exact (by obtain ⟨c9, g1, g2, g3⟩ := hE; first | exact ⟨Or.inr rfl, hT_37, hdr_37.1, c9, _, g1, g2, Or.inl ⟨rfl, (show ((I_r_37 0 1)).toInt = 0 from (by omega)), hdr_37.2, g3 (by omega)⟩⟩ | exact ⟨Or.inl rfl, hT_37, hdr_37.1, c9, _, g1, g2, Or.inr ⟨rfl, (show ((I_r_37 0 1)).toInt ≠ 0 from (by omega)), rfl⟩⟩ | (exfalso; omega))
        · refine lv_aload_n hx hb dX3_takes_96 rfl (lv_at hl 2 rfl) ?_
          refine lv_aload_n hx hb dX3_takes_97 rfl (lv_at hl 2 rfl) ?_
          refine va_get (D := g.1) (ci := 3) (v := .int (I_r_37 0 4)) (C := RX3) (T := TX3) (N := 10) hx hb hi_X3 (fun _ h => h) hown hK.1 hP 0 rfl rfl 4 (by decide) hf_28 (fun _ h9 => h9) rfl dX3_takes_98 ?_
          refine va_put (D := g.1) (ci := 3) (v := .int (I_r_37 0 4)) (ty := .int) (C := RX3) (T := TX3) (N := 10) hx hb hi_X3 (fun _ h => h) tyX3 tyX3_ok nmX3 hown hK.1 hP hD hS 0 rfl rfl 2 (by decide) hf_22 (fun _ h9 => h9) rfl (by decide +kernel) rfl rfl (Nat.le_of_ble_eq_true rfl) dX3_takes_101 (fun H locs hP hD hS => ?_)
          have hP : va_P g.1 vwCl (wX3 g a_r (uF I_r_37 0 2 (I_r_37 0 4)) ++ (wArr g a_x n_x I_x ++ wX7 g a_t I_t_37)) H := hP
          have hD : va_D A (wX3 g a_r (uF I_r_37 0 2 (I_r_37 0 4)) ++ (wArr g a_x n_x I_x ++ wX7 g a_t I_t_37)) := hD
          refine lv_aload_n hx hb dX3_takes_104 rfl (lv_at hl 2 rfl) ?_
          refine va_get (D := g.1) (ci := 3) (v := .int (I_r_37 0 1)) (C := RX3) (T := TX3) (N := 10) hx hb hi_X3 (fun _ h => h) hown hK.1 hP 0 rfl rfl 1 (by decide) hf_18 (fun _ h9 => h9) rfl dX3_takes_105 ?_
          refine q_if_ne (tgt := 115) hx hb dX3_takes_108 (by decide) rfl (fun b_108 k_108 => ?_) (fun b_108 k_108 => ?_)
          · refine lv_iconst (v := 0) hx hb dX3_takes_115 (by decide) ?_
            refine hret 116 ls (0 : Int32) _ _ ((uF I_r_37 0 2 (I_r_37 0 4)), I_t_37) dX3_takes_116 (Or.inl rfl) hS hP hD ?_
            exact (by obtain ⟨c9, g1, g2, g3⟩ := hE; first | exact ⟨Or.inr rfl, hT_37, hdr_37.1, c9, _, g1, g2, Or.inl ⟨rfl, (show ((I_r_37 0 1)).toInt = 0 from (by omega)), hdr_37.2, g3 (by omega)⟩⟩ | exact ⟨Or.inl rfl, hT_37, hdr_37.1, c9, _, g1, g2, Or.inr ⟨rfl, (show ((I_r_37 0 1)).toInt ≠ 0 from (by omega)), rfl⟩⟩ | (exfalso; omega))
          · refine lv_iconst (v := 1) hx hb dX3_takes_111 (by decide) ?_
            refine lv_goto (tgt := 116) hx hb dX3_takes_112 (by decide) ?_
            have lr : (1 : Int32).toInt = 1 := by decide
            refine hret 116 ls (1 : Int32) _ _ ((uF I_r_37 0 2 (I_r_37 0 4)), I_t_37) dX3_takes_116 (Or.inr rfl) hS hP hD ?_
            exact (by obtain ⟨c9, g1, g2, g3⟩ := hE; first | exact ⟨Or.inr rfl, hT_37, hdr_37.1, c9, _, g1, g2, Or.inl ⟨rfl, (show ((I_r_37 0 1)).toInt = 0 from (by omega)), hdr_37.2, g3 (by omega)⟩⟩ | exact ⟨Or.inl rfl, hT_37, hdr_37.1, c9, _, g1, g2, Or.inr ⟨rfl, (show ((I_r_37 0 1)).toInt ≠ 0 from (by omega)), rfl⟩⟩ | (exfalso; omega))
      · refine lv_iload_n hx hb dX3_takes_43 rfl (lv_at hl 1 rfl) ?_
        refine q_if_eq (tgt := 89) hx hb dX3_takes_44 (by decide) rfl (fun b_44 k_44 => ?_) (fun b_44 k_44 => ?_)
        · have hE := hen_37 k_44
          refine lv_aload_n hx hb dX3_takes_89 rfl (lv_at hl 2 rfl) ?_
          refine va_get (D := g.1) (ci := 3) (v := .int (I_r_37 0 1)) (C := RX3) (T := TX3) (N := 10) hx hb hi_X3 (fun _ h => h) hown hK.1 hP 0 rfl rfl 1 (by decide) hf_18 (fun _ h9 => h9) rfl dX3_takes_90 ?_
          refine q_if_eq (tgt := 104) hx hb dX3_takes_93 (by decide) rfl (fun b_93 k_93 => ?_) (fun b_93 k_93 => ?_)
          · refine lv_aload_n hx hb dX3_takes_104 rfl (lv_at hl 2 rfl) ?_
            refine va_get (D := g.1) (ci := 3) (v := .int (I_r_37 0 1)) (C := RX3) (T := TX3) (N := 10) hx hb hi_X3 (fun _ h => h) hown hK.1 hP 0 rfl rfl 1 (by decide) hf_18 (fun _ h9 => h9) rfl dX3_takes_105 ?_
            refine q_if_ne (tgt := 115) hx hb dX3_takes_108 (by decide) rfl (fun b_108 k_108 => ?_) (fun b_108 k_108 => ?_)
            · refine lv_iconst (v := 0) hx hb dX3_takes_115 (by decide) ?_
              refine hret 116 ls (0 : Int32) _ _ (I_r_37, I_t_37) dX3_takes_116 (Or.inl rfl) hS hP hD ?_
              exact (by obtain ⟨c9, g1, g2, g3⟩ := hE; first | exact ⟨Or.inr rfl, hT_37, hdr_37.1, c9, _, g1, g2, Or.inl ⟨rfl, (show ((I_r_37 0 1)).toInt = 0 from (by omega)), hdr_37.2, g3 (by omega)⟩⟩ | exact ⟨Or.inl rfl, hT_37, hdr_37.1, c9, _, g1, g2, Or.inr ⟨rfl, (show ((I_r_37 0 1)).toInt ≠ 0 from (by omega)), rfl⟩⟩ | (exfalso; omega))
            · refine lv_iconst (v := 1) hx hb dX3_takes_111 (by decide) ?_
              refine lv_goto (tgt := 116) hx hb dX3_takes_112 (by decide) ?_
              have lr : (1 : Int32).toInt = 1 := by decide
              refine hret 116 ls (1 : Int32) _ _ (I_r_37, I_t_37) dX3_takes_116 (Or.inr rfl) hS hP hD ?_
              exact (by obtain ⟨c9, g1, g2, g3⟩ := hE; first | exact ⟨Or.inr rfl, hT_37, hdr_37.1, c9, _, g1, g2, Or.inl ⟨rfl, (show ((I_r_37 0 1)).toInt = 0 from (by omega)), hdr_37.2, g3 (by omega)⟩⟩ | exact ⟨Or.inl rfl, hT_37, hdr_37.1, c9, _, g1, g2, Or.inr ⟨rfl, (show ((I_r_37 0 1)).toInt ≠ 0 from (by omega)), rfl⟩⟩ | (exfalso; omega))
          · refine lv_aload_n hx hb dX3_takes_96 rfl (lv_at hl 2 rfl) ?_
            refine lv_aload_n hx hb dX3_takes_97 rfl (lv_at hl 2 rfl) ?_
            refine va_get (D := g.1) (ci := 3) (v := .int (I_r_37 0 4)) (C := RX3) (T := TX3) (N := 10) hx hb hi_X3 (fun _ h => h) hown hK.1 hP 0 rfl rfl 4 (by decide) hf_28 (fun _ h9 => h9) rfl dX3_takes_98 ?_
            refine va_put (D := g.1) (ci := 3) (v := .int (I_r_37 0 4)) (ty := .int) (C := RX3) (T := TX3) (N := 10) hx hb hi_X3 (fun _ h => h) tyX3 tyX3_ok nmX3 hown hK.1 hP hD hS 0 rfl rfl 2 (by decide) hf_22 (fun _ h9 => h9) rfl (by decide +kernel) rfl rfl (Nat.le_of_ble_eq_true rfl) dX3_takes_101 (fun H locs hP hD hS => ?_)
            have hP : va_P g.1 vwCl (wX3 g a_r (uF I_r_37 0 2 (I_r_37 0 4)) ++ (wArr g a_x n_x I_x ++ wX7 g a_t I_t_37)) H := hP
            have hD : va_D A (wX3 g a_r (uF I_r_37 0 2 (I_r_37 0 4)) ++ (wArr g a_x n_x I_x ++ wX7 g a_t I_t_37)) := hD
            refine lv_aload_n hx hb dX3_takes_104 rfl (lv_at hl 2 rfl) ?_
            refine va_get (D := g.1) (ci := 3) (v := .int (I_r_37 0 1)) (C := RX3) (T := TX3) (N := 10) hx hb hi_X3 (fun _ h => h) hown hK.1 hP 0 rfl rfl 1 (by decide) hf_18 (fun _ h9 => h9) rfl dX3_takes_105 ?_
            refine q_if_ne (tgt := 115) hx hb dX3_takes_108 (by decide) rfl (fun b_108 k_108 => ?_) (fun b_108 k_108 => ?_)
            · refine lv_iconst (v := 0) hx hb dX3_takes_115 (by decide) ?_
              refine hret 116 ls (0 : Int32) _ _ ((uF I_r_37 0 2 (I_r_37 0 4)), I_t_37) dX3_takes_116 (Or.inl rfl) hS hP hD ?_
              exact (by obtain ⟨c9, g1, g2, g3⟩ := hE; first | exact ⟨Or.inr rfl, hT_37, hdr_37.1, c9, _, g1, g2, Or.inl ⟨rfl, (show ((I_r_37 0 1)).toInt = 0 from (by omega)), hdr_37.2, g3 (by omega)⟩⟩ | exact ⟨Or.inl rfl, hT_37, hdr_37.1, c9, _, g1, g2, Or.inr ⟨rfl, (show ((I_r_37 0 1)).toInt ≠ 0 from (by omega)), rfl⟩⟩ | (exfalso; omega))
            · refine lv_iconst (v := 1) hx hb dX3_takes_111 (by decide) ?_
              refine lv_goto (tgt := 116) hx hb dX3_takes_112 (by decide) ?_
              have lr : (1 : Int32).toInt = 1 := by decide
              refine hret 116 ls (1 : Int32) _ _ ((uF I_r_37 0 2 (I_r_37 0 4)), I_t_37) dX3_takes_116 (Or.inr rfl) hS hP hD ?_
              exact (by obtain ⟨c9, g1, g2, g3⟩ := hE; first | exact ⟨Or.inr rfl, hT_37, hdr_37.1, c9, _, g1, g2, Or.inl ⟨rfl, (show ((I_r_37 0 1)).toInt = 0 from (by omega)), hdr_37.2, g3 (by omega)⟩⟩ | exact ⟨Or.inl rfl, hT_37, hdr_37.1, c9, _, g1, g2, Or.inr ⟨rfl, (show ((I_r_37 0 1)).toInt ≠ 0 from (by omega)), rfl⟩⟩ | (exfalso; omega))
        · refine lv_aload_n hx hb dX3_takes_47 rfl (lv_at hl 2 rfl) ?_
          refine lv_aload_n hx hb dX3_takes_48 rfl (lv_at hl 3 rfl) ?_
          refine lv_iload_n hx hb dX3_takes_49 rfl (lv_at hl 4 rfl) ?_
          refine EffV.cv (wr := (wX7 g a_t I_t_37)) (w' := fun u4 => wX3 g a_r u4 ++ (wArr g a_x n_x I_x ++ wX7 g a_t I_t_37)) (As := [.ref (a_x 0), .int n]) (kX3_nextToken l g a_r I_r_37 a_x n_x I_x n (show 0 ≤ ((I_r_37 0 5)).toInt ∧ ((I_r_37 0 5)).toInt ≤ n.toInt ∧ n.toInt ≤ (n_x : Int) ∧ n_x ≤ 1000 from (by omega))) fx (gUV (uT _) u_366 u_367 u_368 u_27 u_369) rfl hdX3_nextToken ⟨Nat.le_of_ble_eq_true rfl, Nat.le_of_ble_eq_true rfl⟩ hK hP hD hS hA [0, 1] [2, 3, 4, 5, 6, 7, 8] [7, 8, 0, 1, 2, 3, 4, 5, 6] rfl rfl rfl rfl (by decide) rfl (fun _ => rfl) rfl rfl rfl rfl hl.1 (Nat.le_of_ble_eq_true rfl) dX3_takes_50 (fun u4 H locs p_r3 hP hD hS => ?_)
          have hP : va_P g.1 vwCl (wX3 g a_r u4 ++ (wArr g a_x n_x I_x ++ wX7 g a_t I_t_37)) H := hP
          have hD : va_D A (wX3 g a_r u4 ++ (wArr g a_x n_x I_x ++ wX7 g a_t I_t_37)) := hD
          refine lv_aload_n hx hb dX3_takes_53 rfl (lv_at hl 2 rfl) ?_
          refine lv_aload_n hx hb dX3_takes_54 rfl (lv_at hl 2 rfl) ?_
          refine lv_aload_n hx hb dX3_takes_55 rfl (lv_at hl 3 rfl) ?_
          refine EffIS.cv (wr := ([])) (w' := fun u6 => wX3 g a_r u6.1 ++ (wArr g a_x n_x I_x ++ wX7 g a_t u6.2)) (As := [.ref (a_x 0)]) (kX3_faultOfToken l g ad av a_r u4 a_x n_x I_x a_t I_t_37 hl_r_table (by have q := p_r3; omega) hT_37 (by rw [p_r3.2.2.2.1, p_r3.2.2.2.2.1]; exact hq_37 k_44) (fx_sm p_r3.2.2.2.2.2.2)) fx (gUV (uT _) u_380 u_381 u_382 u_27 u_383) rfl hdX3_faultOfToken ⟨Nat.le_of_ble_eq_true rfl, Nat.le_of_ble_eq_true rfl⟩ hJ hK hP hD hS hA [0, 1, 2, 3, 4, 5, 6, 7, 8] [] [0, 1, 2, 3, 4, 5, 6, 7, 8] rfl rfl rfl rfl (by decide) rfl (fun _ => rfl) rfl rfl rfl rfl hl.1 (Nat.le_of_ble_eq_true rfl) dX3_takes_56 (fun r5 u6 H locs p_r5 hP hD hS => ?_)
          obtain ⟨I7, I8⟩ := u6
          try dsimp only at p_r5
          have hP : va_P g.1 vwCl (wX3 g a_r I7 ++ (wArr g a_x n_x I_x ++ wX7 g a_t I8)) H := hP
          have hD : va_D A (wX3 g a_r I7 ++ (wArr g a_x n_x I_x ++ wX7 g a_t I8)) := hD
          have hp50 := p_r3
          have hr5 : (I7 0 5).toInt = (u4 0 5).toInt := congrArg Int32.toInt p_r5.2.2.2.1
          have hr4 : (I7 0 4).toInt = (u4 0 4).toInt := congrArg Int32.toInt p_r5.2.2.1
          have hLx := p_r3.2.2.2.2.2.2
          have hsame : fxSc u4 I_t_37 = fxSc I_r_37 I_t_37 := fxSc.of p_r3.2.2.2.1 p_r3.2.2.2.2.1 p_r3.2.2.2.2.2.1.1
          have hfo := p_r5.2.2.2.2.2.2
          rw [hsame] at hfo
          have hPl : I7 0 2 = I_r_37 0 2 := p_r5.2.2.2.2.1.2.trans p_r3.2.2.2.2.2.1.2
          have hk3 : (I7 0 3).toInt = (u4 0 3).toInt := congrArg Int32.toInt p_r5.2.2.2.2.1.1
          have hlr := hLx.rng
          refine va_put (D := g.1) (ci := 3) (v := .int r5) (ty := .int) (C := RX3) (T := TX3) (N := 10) hx hb hi_X3 (fun _ h => h) tyX3 tyX3_ok nmX3 hown hK.1 hP hD hS 0 rfl rfl 1 (by decide) hf_18 (fun _ h9 => h9) rfl (by decide +kernel) rfl rfl (Nat.le_of_ble_eq_true rfl) dX3_takes_59 (fun H locs hP hD hS => ?_)
          have hP : va_P g.1 vwCl (wX3 g a_r (uF I7 0 1 r5) ++ (wArr g a_x n_x I_x ++ wX7 g a_t I8)) H := hP
          have hD : va_D A (wX3 g a_r (uF I7 0 1 r5) ++ (wArr g a_x n_x I_x ++ wX7 g a_t I8)) := hD
          refine lv_aload_n hx hb dX3_takes_62 rfl (lv_at hl 2 rfl) ?_
          refine va_get (D := g.1) (ci := 3) (v := .int r5) (C := RX3) (T := TX3) (N := 10) hx hb hi_X3 (fun _ h => h) hown hK.1 hP 0 rfl rfl 1 (by decide) hf_18 (fun _ h9 => h9) rfl dX3_takes_63 ?_
          refine q_if_ne (tgt := 81) hx hb dX3_takes_66 (by decide) rfl (fun b_66 k_66 => ?_) (fun b_66 k_66 => ?_)
          · have hVd : ∃ c : Int × fxS, fxRe (fxB (I_x 0)) n.toInt ((0 : Int), fxS0) c ∧ fxVd (fxB (I_x 0)) n.toInt c (r5).toInt ((I7 0 4)).toInt ∧ ((r5).toInt = 0 → c.2.2.2.2.1 = fxTc I8) := fx_end (hre_37 k_44).1 hLx hfo (by omega) hr4
            refine lv_iconst (v := 0) hx hb dX3_takes_81 (by decide) ?_
            refine lv_istore_n (lv' := [(3, .int (0 : Int32)), (4, .int v4_37), (0, .ref (a_r 0)), (1, .ref (a_x 0)), (2, .int n)]) hx hb dX3_takes_82 rfl hl (by decide) rfl (fun ls hl => ?_)
            refine r_iinc (lv' := fun i9 => [(4, .int i9), (3, .int (0 : Int32)), (0, .ref (a_r 0)), (1, .ref (a_x 0)), (2, .int n)]) hx hb dX3_takes_83 hl (k := 1) rfl (by decide) rfl (by decide) (fun _ => rfl) (fun i9 e_i9 t_i9 ls hl => ?_)
            try have t_i9 := t_i9 (by omega)
            refine lv_goto (tgt := 37) hx hb dX3_takes_86 (by decide) ?_
            exact ih_37 (0 : Int32) i9 (uF I7 0 1 r5) I8 p_r5.1 (by omega) (show 0 ≤ ((I7 0 5)).toInt ∧ ((I7 0 5)).toInt ≤ n.toInt from (by omega)) (fun h0 => by first | exact absurd rfl h0 | exact p_r5.2.1 (by omega)) (fun h0 => by first | exact absurd rfl h0 | exact ⟨hNx, (show _ ≤ ((I7 0 5)).toInt from (by have w := hNy; omega))⟩) (fun h0 => by first | exact absurd h0 (by decide) | exact hVd) ⟨(by rw [p_r5.2.2.2.2.2.1]; exact hdr_37.1), (by rw [← hdr_37.2]; exact congrArg Int32.toInt hPl)⟩ (by omega) _ _ hP hD hS ls hl
          · refine lv_aload_n hx hb dX3_takes_69 rfl (lv_at hl 2 rfl) ?_
            refine va_get (D := g.1) (ci := 3) (v := .int (I7 0 3)) (C := RX3) (T := TX3) (N := 10) hx hb hi_X3 (fun _ h => h) hown hK.1 hP 0 rfl rfl 3 (by decide) hf_25 (fun _ h9 => h9) rfl dX3_takes_70 ?_
            refine lv_iconst (v := 3) hx hb dX3_takes_73 (by decide) ?_
            refine q_icmp_eq (tgt := 81) hx hb dX3_takes_74 (by decide) rfl (by decide : (3 : Int32).toInt = 3) (fun k_74 => ?_) (fun k_74 => ?_)
            · have hVd : ∃ c : Int × fxS, fxRe (fxB (I_x 0)) n.toInt ((0 : Int), fxS0) c ∧ fxVd (fxB (I_x 0)) n.toInt c (r5).toInt ((I7 0 4)).toInt ∧ ((r5).toInt = 0 → c.2.2.2.2.1 = fxTc I8) := fx_end (hre_37 k_44).1 hLx hfo (by omega) hr4
              refine lv_iconst (v := 0) hx hb dX3_takes_81 (by decide) ?_
              refine lv_istore_n (lv' := [(3, .int (0 : Int32)), (4, .int v4_37), (0, .ref (a_r 0)), (1, .ref (a_x 0)), (2, .int n)]) hx hb dX3_takes_82 rfl hl (by decide) rfl (fun ls hl => ?_)
              refine r_iinc (lv' := fun i10 => [(4, .int i10), (3, .int (0 : Int32)), (0, .ref (a_r 0)), (1, .ref (a_x 0)), (2, .int n)]) hx hb dX3_takes_83 hl (k := 1) rfl (by decide) rfl (by decide) (fun _ => rfl) (fun i10 e_i10 t_i10 ls hl => ?_)
              try have t_i10 := t_i10 (by omega)
              refine lv_goto (tgt := 37) hx hb dX3_takes_86 (by decide) ?_
              exact ih_37 (0 : Int32) i10 (uF I7 0 1 r5) I8 p_r5.1 (by omega) (show 0 ≤ ((I7 0 5)).toInt ∧ ((I7 0 5)).toInt ≤ n.toInt from (by omega)) (fun h0 => by first | exact absurd rfl h0 | exact p_r5.2.1 (by omega)) (fun h0 => by first | exact absurd rfl h0 | exact ⟨hNx, (show _ ≤ ((I7 0 5)).toInt from (by have w := hNy; omega))⟩) (fun h0 => by first | exact absurd h0 (by decide) | exact hVd) ⟨(by rw [p_r5.2.2.2.2.2.1]; exact hdr_37.1), (by rw [← hdr_37.2]; exact congrArg Int32.toInt hPl)⟩ (by omega) _ _ hP hD hS ls hl
            · have hNx : fxRe (fxB (I_x 0)) n.toInt ((0 : Int), fxS0) (((I7 0 5)).toInt, fxSc (uF I7 0 1 r5) I8) := (hre_37 k_44).1.st (fx_nx hr5 hLx hfo (by omega) (by omega))
              have hNy : v4_37.toInt + 1 ≤ ((I7 0 5)).toInt := (by have w := (hre_37 k_44).2; omega)
              refine lv_iconst (v := 1) hx hb dX3_takes_77 (by decide) ?_
              refine lv_goto (tgt := 82) hx hb dX3_takes_78 (by decide) ?_
              refine lv_istore_n (lv' := [(3, .int (1 : Int32)), (4, .int v4_37), (0, .ref (a_r 0)), (1, .ref (a_x 0)), (2, .int n)]) hx hb dX3_takes_82 rfl hl (by decide) rfl (fun ls hl => ?_)
              refine r_iinc (lv' := fun i11 => [(4, .int i11), (3, .int (1 : Int32)), (0, .ref (a_r 0)), (1, .ref (a_x 0)), (2, .int n)]) hx hb dX3_takes_83 hl (k := 1) rfl (by decide) rfl (by decide) (fun _ => rfl) (fun i11 e_i11 t_i11 ls hl => ?_)
              try have t_i11 := t_i11 (by omega)
              refine lv_goto (tgt := 37) hx hb dX3_takes_86 (by decide) ?_
              exact ih_37 (1 : Int32) i11 (uF I7 0 1 r5) I8 p_r5.1 (by omega) (show 0 ≤ ((I7 0 5)).toInt ∧ ((I7 0 5)).toInt ≤ n.toInt from (by omega)) (fun h0 => by first | exact absurd rfl h0 | exact p_r5.2.1 (by omega)) (fun h0 => by first | exact absurd rfl h0 | exact ⟨hNx, (show _ ≤ ((I7 0 5)).toInt from (by have w := hNy; omega))⟩) (fun h0 => by first | exact absurd h0 (by decide) | exact hVd) ⟨(by rw [p_r5.2.2.2.2.2.1]; exact hdr_37.1), (by rw [← hdr_37.2]; exact congrArg Int32.toInt hPl)⟩ (by omega) _ _ hP hD hS ls hl
  exact L37 ((n.toInt + 2 - (0 : Int32).toInt) + 1).toNat (1 : Int32) (0 : Int32) (uF (uF (uF (uF (uF I_r 0 1 (0 : Int32)) 0 2 (-1 : Int32)) 0 5 (0 : Int32)) 0 7 (0 : Int32)) 0 9 (0 : Int32)) u2 p_r1.1 (by omega) (show 0 ≤ ((0 : Int32)).toInt ∧ ((0 : Int32)).toInt ≤ n.toInt from (by omega)) (fun _ => (show QA ((0 : Int32)).toInt ((u2 0 0)).toInt ((I_r 0 8)).toInt from (by have := p_r1.2; unfold QA; omega))) (fun _ => ⟨by rw [show fxSc (uF (uF (uF (uF (uF I_r 0 1 (0 : Int32)) 0 2 (-1 : Int32)) 0 5 (0 : Int32)) 0 7 (0 : Int32)) 0 9 (0 : Int32)) u2 = fxS0 from fxSc.mk (show ((0 : Int32)).toInt = 0 from (by decide)) rfl (by funext k; unfold fxTd; rw [show (uF (uF (uF (uF (uF I_r 0 1 (0 : Int32)) 0 2 (-1 : Int32)) 0 5 (0 : Int32)) 0 7 (0 : Int32)) 0 9 (0 : Int32)) 0 9 = 0 from rfl, b_0, Bool.and_false]) p_r1.2.2.1 (fxCu.no (by decide))]; exact fxRe.rf, (show ((0 : Int32)).toInt ≤ ((0 : Int32)).toInt from Int.le_refl _)⟩) (fun q => absurd q (by decide)) ⟨p_r1.2.2.2, (show (((-1) : Int32)).toInt = -1 from (by decide))⟩ (by omega) _ _ hP hD hS ls hl
