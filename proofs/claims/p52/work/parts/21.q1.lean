set_option maxHeartbeats 4000000 in
set_option maxRecDepth 100000 in
theorem kX10_told (l : Launch) (g : gG) (a_p : Nat → Nat) (I_p : Nat → Nat → Int32) (J_p : Nat → Nat → Int64) (a_t : Nat → Nat) (I_t : Nat → Nat → Int32) (what : Int32) (hl_p_table : a_p 109 = a_t 0) (hPI : PI I_p) (hT : TI I_t) : EffI l g yX10_told wsX10_told 2 [.ref (a_p 0), .int what] (wX10 g a_p I_p J_p ++ wX7 g a_t I_t) (fun (u : (Nat → Nat → Int32)) => wX10 g a_p u J_p ++ wX7 g a_t I_t) (fun r (u : (Nat → Nat → Int32)) => PI (u) ∧ KP I_p (u) ∧ ((¬ (0 ≤ what.toInt ∧ what.toInt ≤ 6) ∧ r = -1) ∨ (what.toInt = 0 ∧ r = I_t 0 0) ∨ (what.toInt = 6 ∧ r = I_t 0 1) ∨ ((1 ≤ what.toInt ∧ what.toInt ≤ 5) ∧ (((I_t 1 (what.toInt - 1).toNat).toInt ≠ 0 ∧ r = (I_t 1 (what.toInt - 1).toNat)) ∨ ((I_t 1 (what.toInt - 1).toNat).toInt = 0 ∧ r = -1))))) := by
  refine EffI.st (cc := cX10_told) (maxL := 3) (by decide) rfl (Nat.le_of_ble_eq_true rfl) (fun p e s m args below meth c A Q ls fx hK hP hD hA hS hl hret => ?_)
  have hx := fx.1
  have hb := fx.2.1
  have hml := fx.2.2.1
  have hown := fx.2.2.2.1
  have hts := fx.2.2.2.2
  have hl : lv_has ls 3 [(0, .ref (a_p 0)), (1, .int what)] := hl
  have hP : va_P g.1 vwCl (wX10 g a_p I_p J_p ++ wX7 g a_t I_t) s.heap := hP
  have hf_50 := hts _ (uT _ _ u_32)
  have hf_181 := hts _ (uT _ _ u_357)
  have hf_184 := hts _ (uT _ _ u_593)
  have hf_206 := hts _ (uT _ _ u_780)
  have hi_X10 : ∀ w ∈ wsX100, w.before args s = true := fun w h => hts w (uT _ w (u_wsX100 w h))
  have hi_X7 : ∀ w ∈ wsX70, w.before args s = true := fun w h => hts w (uT _ w (u_wsX70 w h))
  have lm1 : (-1 : Int32).toInt = -1 := by decide
  have lm0 : (0 : Int32).toInt = 0 := by decide
  have lm2 : (1 : Int32).toInt = 1 := by decide
  have hp1 := hPI.1
  have hp2 := hPI.2.1
  have hru := TI.ru hT
  have hlt3 := TI.li hT
  have hlt4 := TI.pa hT
  have lq5 : (5 : Int32).toInt = 5 := by decide
  have lq6 : (6 : Int32).toInt = 6 := by decide
  refine lv_iload_n hx hb dX10_told_0 rfl (lv_at hl 1 rfl) ?_
  refine q_if_lt (tgt := 10) hx hb dX10_told_1 (by decide) rfl (fun k_1 => ?_) (fun k_1 => ?_)
  · refine lv_aload_n hx hb dX10_told_10 rfl (lv_at hl 0 rfl) ?_
    refine lv_iconst (v := 1) hx hb dX10_told_11 (by decide) ?_
    refine EffI.cv (wr := (wX7 g a_t I_t)) (w' := fun u2 => wX10 g a_p u2 J_p ++ wX7 g a_t I_t) (As := [.int (1 : Int32)]) (kX10_refuse l g a_p I_p J_p (1 : Int32)) fx (gUV (uT _) u_295 u_296 u_297 u_2 u_298) rfl hdX10_refuse ⟨Nat.le_of_ble_eq_true rfl, Nat.le_of_ble_eq_true rfl⟩ hK hP hD hS hA [0, 1] [2, 3, 4, 5, 6, 7, 8] [7, 8, 0, 1, 2, 3, 4, 5, 6] rfl rfl rfl rfl (by decide) rfl (fun _ => rfl) rfl rfl rfl rfl hl.1 (Nat.le_of_ble_eq_true rfl) dX10_told_12 (fun r1 u2 H locs p_r1 hP hD hS => ?_)
    have hP : va_P g.1 vwCl (wX10 g a_p u2 J_p ++ wX7 g a_t I_t) H := hP
    have hD : va_D A (wX10 g a_p u2 J_p ++ wX7 g a_t I_t) := hD
    refine hret 15 ls r1 _ _ u2 dX10_told_15 hS hP hD ?_
    exact ⟨(PI.st hPI p_r1.2), (KP.tr (KP.rf I_p) (KP.st p_r1.2)), (by exact Or.inl ⟨by omega, p_r1.1⟩)⟩
  · refine lv_iload_n hx hb dX10_told_4 rfl (lv_at hl 1 rfl) ?_
    refine lv_bipush (v := 6) hx hb dX10_told_5 (by decide) ?_
    refine q_icmp_le (tgt := 16) hx hb dX10_told_7 (by decide) rfl (by decide : (6 : Int32).toInt = 6) (fun k_7 => ?_) (fun k_7 => ?_)
    · refine lv_iload_n hx hb dX10_told_16 rfl (lv_at hl 1 rfl) ?_
      refine q_if_ne (tgt := 32) hx hb dX10_told_17 (by decide) rfl (fun b_17 k_17 => ?_) (fun b_17 k_17 => ?_)
      · refine lv_iload_n hx hb dX10_told_32 rfl (lv_at hl 1 rfl) ?_
        refine lv_iconst (v := 5) hx hb dX10_told_33 (by decide) ?_
        refine q_icmp_le (tgt := 49) hx hb dX10_told_34 (by decide) rfl (by decide : (5 : Int32).toInt = 5) (fun k_34 => ?_) (fun k_34 => ?_)
        · refine lv_aload_n hx hb dX10_told_49 rfl (lv_at hl 0 rfl) ?_
          refine va_get (D := g.1) (ci := 10) (v := .ref (a_t 0)) (C := RX10) (T := TX10) (N := 20) hx hb hi_X10 (fun _ h => h) hown hK.1 hP 0 rfl rfl 9 (by decide) hf_50 (fun _ h9 => h9) (congrArg (fun z => some (Value.ref z)) hl_p_table) dX10_told_50 ?_
          refine va_get (D := g.1) (ci := 7) (v := .ref (a_t 1)) (C := RX7) (T := TX7) (N := 8) hx hb hi_X7 (fun _ h => h) hown hK.1 hP 2 rfl rfl 2 (by decide) hf_206 (fun _ h9 => h9) rfl dX10_told_53 ?_
          refine lv_iload_n hx hb dX10_told_56 rfl (lv_at hl 1 rfl) ?_
          refine lv_iconst (v := 1) hx hb dX10_told_57 (by decide) ?_
          refine r_isub hx hb dX10_told_58 rfl (by decide : (1 : Int32).toInt = 1) (fun x3 e_x3 t_x3 => ?_)
          try have t_x3 := t_x3 (by omega)
          have n_59 : vp_in x3 5 := (t_in (by omega))
          refine va_iald hx hb hK.1 hP 3 0 rfl rfl n_59 dX10_told_59 ?_
          refine q_nm (fun x4 e_x4 => ?_)
          have e_x4 : x4 = (I_t 1) x3.toNatClampNeg := e_x4
          have g_x4 : x4.toInt = ((I_t 1) x3.toNatClampNeg).toInt := congrArg _ e_x4
          have f_x4 := TI.sg hT x3.toNatClampNeg
          rw [← e_x4] at f_x4
          refine lv_istore_n (lv' := [(2, .int x4), (0, .ref (a_p 0)), (1, .int what)]) hx hb dX10_told_60 rfl hl (by decide) rfl (fun ls hl => ?_)
          refine lv_aload_n hx hb dX10_told_61 rfl (lv_at hl 1 rfl) ?_
          refine lv_iload_n hx hb dX10_told_62 rfl (lv_at hl 0 rfl) ?_
          refine q_if_eq (tgt := 70) hx hb dX10_told_63 (by decide) rfl (fun b_63 k_63 => ?_) (fun b_63 k_63 => ?_)
          · refine lv_iconst (v := 0) hx hb dX10_told_70 (by decide) ?_
            refine lv_iload_n hx hb dX10_told_71 rfl (lv_at hl 0 rfl) ?_
            refine lv_bipush (v := 6) hx hb dX10_told_72 (by decide) ?_
            refine EffI.cv (wr := (wX7 g a_t I_t)) (w' := fun u6 => wX10 g a_p u6 J_p ++ wX7 g a_t I_t) (As := [.int (0 : Int32), .int x4, .int (6 : Int32)]) (kX10_answerOr l g a_p I_p J_p (0 : Int32) x4 (6 : Int32)) fx (gUV (uT _) u_781 u_782 u_783 u_2 u_784) rfl hdX10_answerOr ⟨Nat.le_of_ble_eq_true rfl, Nat.le_of_ble_eq_true rfl⟩ hK hP hD hS hA [0, 1] [2, 3, 4, 5, 6, 7, 8] [7, 8, 0, 1, 2, 3, 4, 5, 6] rfl rfl rfl rfl (by decide) rfl (fun _ => rfl) rfl rfl rfl rfl hl.1 (Nat.le_of_ble_eq_true rfl) dX10_told_74 (fun r5 u6 H locs p_r5 hP hD hS => ?_)
            have hP : va_P g.1 vwCl (wX10 g a_p u6 J_p ++ wX7 g a_t I_t) H := hP
            have hD : va_D A (wX10 g a_p u6 J_p ++ wX7 g a_t I_t) := hD
            refine hret 77 ls r5 _ _ u6 dX10_told_77 hS hP hD ?_
            exact ⟨(PI.st hPI p_r5.2.choose_spec), (KP.tr (KP.rf I_p) (KP.st p_r5.2.choose_spec)), (by (have hsg : x4 = I_t 1 (what.toInt - 1).toNat := by rw [e_x4]; show I_t 1 (x3).toInt.toNat = _; congr 2; first | done | omega); exact Or.inr (Or.inr (Or.inr ⟨by omega, by rw [← hsg]; rcases p_r5.1 with w | w; exact Or.inl ⟨by omega, w.2⟩; exact Or.inr ⟨by omega, w.2⟩⟩)))⟩
          · refine lv_iconst (v := 1) hx hb dX10_told_66 (by decide) ?_
            refine lv_goto (tgt := 71) hx hb dX10_told_67 (by decide) ?_
            refine lv_iload_n hx hb dX10_told_71 rfl (lv_at hl 0 rfl) ?_
            refine lv_bipush (v := 6) hx hb dX10_told_72 (by decide) ?_
            refine EffI.cv (wr := (wX7 g a_t I_t)) (w' := fun u8 => wX10 g a_p u8 J_p ++ wX7 g a_t I_t) (As := [.int (1 : Int32), .int x4, .int (6 : Int32)]) (kX10_answerOr l g a_p I_p J_p (1 : Int32) x4 (6 : Int32)) fx (gUV (uT _) u_781 u_782 u_783 u_2 u_784) rfl hdX10_answerOr ⟨Nat.le_of_ble_eq_true rfl, Nat.le_of_ble_eq_true rfl⟩ hK hP hD hS hA [0, 1] [2, 3, 4, 5, 6, 7, 8] [7, 8, 0, 1, 2, 3, 4, 5, 6] rfl rfl rfl rfl (by decide) rfl (fun _ => rfl) rfl rfl rfl rfl hl.1 (Nat.le_of_ble_eq_true rfl) dX10_told_74 (fun r7 u8 H locs p_r7 hP hD hS => ?_)
            have hP : va_P g.1 vwCl (wX10 g a_p u8 J_p ++ wX7 g a_t I_t) H := hP
            have hD : va_D A (wX10 g a_p u8 J_p ++ wX7 g a_t I_t) := hD
            refine hret 77 ls r7 _ _ u8 dX10_told_77 hS hP hD ?_
            exact ⟨(PI.st hPI p_r7.2.choose_spec), (KP.tr (KP.rf I_p) (KP.st p_r7.2.choose_spec)), (by (have hsg : x4 = I_t 1 (what.toInt - 1).toNat := by rw [e_x4]; show I_t 1 (x3).toInt.toNat = _; congr 2; first | done | omega); exact Or.inr (Or.inr (Or.inr ⟨by omega, by rw [← hsg]; rcases p_r7.1 with w | w; exact Or.inl ⟨by omega, w.2⟩; exact Or.inr ⟨by omega, w.2⟩⟩)))⟩
        · refine lv_aload_n hx hb dX10_told_37 rfl (lv_at hl 0 rfl) ?_
          refine lv_aload_n hx hb dX10_told_38 rfl (lv_at hl 0 rfl) ?_
          refine va_get (D := g.1) (ci := 10) (v := .ref (a_t 0)) (C := RX10) (T := TX10) (N := 20) hx hb hi_X10 (fun _ h => h) hown hK.1 hP 0 rfl rfl 9 (by decide) hf_50 (fun _ h9 => h9) (congrArg (fun z => some (Value.ref z)) hl_p_table) dX10_told_39 ?_
          refine va_get (D := g.1) (ci := 7) (v := .int (I_t 0 1)) (C := RX7) (T := TX7) (N := 8) hx hb hi_X7 (fun _ h => h) hown hK.1 hP 2 rfl rfl 1 (by decide) hf_184 (fun _ h9 => h9) rfl dX10_told_42 ?_
          refine EffI.cv (wr := (wX7 g a_t I_t)) (w' := fun u10 => wX10 g a_p u10 J_p ++ wX7 g a_t I_t) (As := [.int (I_t 0 1)]) (kX10_answer l g a_p I_p J_p (I_t 0 1)) fx (gUV (uT _) u_497 u_498 u_499 u_2 u_500) rfl hdX10_answer ⟨Nat.le_of_ble_eq_true rfl, Nat.le_of_ble_eq_true rfl⟩ hK hP hD hS hA [0, 1] [2, 3, 4, 5, 6, 7, 8] [7, 8, 0, 1, 2, 3, 4, 5, 6] rfl rfl rfl rfl (by decide) rfl (fun _ => rfl) rfl rfl rfl rfl hl.1 (Nat.le_of_ble_eq_true rfl) dX10_told_45 (fun r9 u10 H locs p_r9 hP hD hS => ?_)
          have hP : va_P g.1 vwCl (wX10 g a_p u10 J_p ++ wX7 g a_t I_t) H := hP
          have hD : va_D A (wX10 g a_p u10 J_p ++ wX7 g a_t I_t) := hD
          refine hret 48 ls r9 _ _ u10 dX10_told_48 hS hP hD ?_
          exact ⟨(PI.st hPI p_r9.2), (KP.tr (KP.rf I_p) (KP.st p_r9.2)), (by exact Or.inr (Or.inr (Or.inl ⟨by omega, p_r9.1⟩)))⟩
      · refine lv_aload_n hx hb dX10_told_20 rfl (lv_at hl 0 rfl) ?_
        refine lv_aload_n hx hb dX10_told_21 rfl (lv_at hl 0 rfl) ?_
        refine va_get (D := g.1) (ci := 10) (v := .ref (a_t 0)) (C := RX10) (T := TX10) (N := 20) hx hb hi_X10 (fun _ h => h) hown hK.1 hP 0 rfl rfl 9 (by decide) hf_50 (fun _ h9 => h9) (congrArg (fun z => some (Value.ref z)) hl_p_table) dX10_told_22 ?_
        refine va_get (D := g.1) (ci := 7) (v := .int (I_t 0 0)) (C := RX7) (T := TX7) (N := 8) hx hb hi_X7 (fun _ h => h) hown hK.1 hP 2 rfl rfl 0 (by decide) hf_181 (fun _ h9 => h9) rfl dX10_told_25 ?_
        refine EffI.cv (wr := (wX7 g a_t I_t)) (w' := fun u12 => wX10 g a_p u12 J_p ++ wX7 g a_t I_t) (As := [.int (I_t 0 0)]) (kX10_answer l g a_p I_p J_p (I_t 0 0)) fx (gUV (uT _) u_497 u_498 u_499 u_2 u_500) rfl hdX10_answer ⟨Nat.le_of_ble_eq_true rfl, Nat.le_of_ble_eq_true rfl⟩ hK hP hD hS hA [0, 1] [2, 3, 4, 5, 6, 7, 8] [7, 8, 0, 1, 2, 3, 4, 5, 6] rfl rfl rfl rfl (by decide) rfl (fun _ => rfl) rfl rfl rfl rfl hl.1 (Nat.le_of_ble_eq_true rfl) dX10_told_28 (fun r11 u12 H locs p_r11 hP hD hS => ?_)
        have hP : va_P g.1 vwCl (wX10 g a_p u12 J_p ++ wX7 g a_t I_t) H := hP
        have hD : va_D A (wX10 g a_p u12 J_p ++ wX7 g a_t I_t) := hD
        refine hret 31 ls r11 _ _ u12 dX10_told_31 hS hP hD ?_
        exact ⟨(PI.st hPI p_r11.2), (KP.tr (KP.rf I_p) (KP.st p_r11.2)), (by exact Or.inr (Or.inl ⟨by omega, p_r11.1⟩))⟩
    · refine lv_aload_n hx hb dX10_told_10 rfl (lv_at hl 0 rfl) ?_
      refine lv_iconst (v := 1) hx hb dX10_told_11 (by decide) ?_
      refine EffI.cv (wr := (wX7 g a_t I_t)) (w' := fun u14 => wX10 g a_p u14 J_p ++ wX7 g a_t I_t) (As := [.int (1 : Int32)]) (kX10_refuse l g a_p I_p J_p (1 : Int32)) fx (gUV (uT _) u_295 u_296 u_297 u_2 u_298) rfl hdX10_refuse ⟨Nat.le_of_ble_eq_true rfl, Nat.le_of_ble_eq_true rfl⟩ hK hP hD hS hA [0, 1] [2, 3, 4, 5, 6, 7, 8] [7, 8, 0, 1, 2, 3, 4, 5, 6] rfl rfl rfl rfl (by decide) rfl (fun _ => rfl) rfl rfl rfl rfl hl.1 (Nat.le_of_ble_eq_true rfl) dX10_told_12 (fun r13 u14 H locs p_r13 hP hD hS => ?_)
      have hP : va_P g.1 vwCl (wX10 g a_p u14 J_p ++ wX7 g a_t I_t) H := hP
      have hD : va_D A (wX10 g a_p u14 J_p ++ wX7 g a_t I_t) := hD
      refine hret 15 ls r13 _ _ u14 dX10_told_15 hS hP hD ?_
      exact ⟨(PI.st hPI p_r13.2), (KP.tr (KP.rf I_p) (KP.st p_r13.2)), (by exact Or.inl ⟨by omega, p_r13.1⟩)⟩

set_option maxHeartbeats 4000000 in
set_option maxRecDepth 100000 in
theorem kX10_rule (l : Launch) (g : gG) (a_p : Nat → Nat) (I_p : Nat → Nat → Int32) (J_p : Nat → Nat → Int64) (a_t : Nat → Nat) (I_t : Nat → Nat → Int32) (rule : Int32) (what : Int32) (hl_p_table : a_p 109 = a_t 0) (hPI : PI I_p) (hT : TI I_t) : EffI l g yX10_rule wsX10_rule 1 [.ref (a_p 0), .int rule, .int what] (wX10 g a_p I_p J_p ++ wX7 g a_t I_t) (fun (u : (Nat → Nat → Int32)) => wX10 g a_p u J_p ++ wX7 g a_t I_t) (fun r (u : (Nat → Nat → Int32)) => PI (u) ∧ KP I_p (u) ∧ ((¬ ((0 ≤ rule.toInt ∧ rule.toInt < (I_t 0 0).toInt) ∧ 0 ≤ what.toInt ∧ what.toInt ≤ 2) ∧ r = -1) ∨ ((0 ≤ rule.toInt ∧ rule.toInt < (I_t 0 0).toInt) ∧ ((what.toInt = 0 ∧ r = I_t 2 rule.toInt.toNat) ∨ (what.toInt = 1 ∧ r = I_t 3 rule.toInt.toNat) ∨ (what.toInt = 2 ∧ r = I_t 4 rule.toInt.toNat))))) := by
  refine EffI.st (cc := cX10_rule) (maxL := 3) (by decide) rfl (Nat.le_of_ble_eq_true rfl) (fun p e s m args below meth c A Q ls fx hK hP hD hA hS hl hret => ?_)
  have hx := fx.1
  have hb := fx.2.1
  have hml := fx.2.2.1
  have hown := fx.2.2.2.1
  have hts := fx.2.2.2.2
  have hl : lv_has ls 3 [(0, .ref (a_p 0)), (1, .int rule), (2, .int what)] := hl
  have hP : va_P g.1 vwCl (wX10 g a_p I_p J_p ++ wX7 g a_t I_t) s.heap := hP
  have hf_50 := hts _ (uT _ _ u_32)
  have hf_216 := hts _ (uT _ _ u_793)
  have hf_219 := hts _ (uT _ _ u_794)
  have hf_222 := hts _ (uT _ _ u_795)
  have hi_X10 : ∀ w ∈ wsX100, w.before args s = true := fun w h => hts w (uT _ w (u_wsX100 w h))
  have hi_X7 : ∀ w ∈ wsX70, w.before args s = true := fun w h => hts w (uT _ w (u_wsX70 w h))
  have lm1 : (-1 : Int32).toInt = -1 := by decide
  have lm0 : (0 : Int32).toInt = 0 := by decide
  have lm2 : (1 : Int32).toInt = 1 := by decide
  have hp1 := hPI.1
  have hp2 := hPI.2.1
  have hru := TI.ru hT
  have hlt3 := TI.li hT
  have hlt4 := TI.pa hT
  have lq2 : (2 : Int32).toInt = 2 := by decide
  refine lv_aload_n hx hb dX10_rule_0 rfl (lv_at hl 0 rfl) ?_
  refine va_get (D := g.1) (ci := 10) (v := .ref (a_t 0)) (C := RX10) (T := TX10) (N := 20) hx hb hi_X10 (fun _ h => h) hown hK.1 hP 0 rfl rfl 9 (by decide) hf_50 (fun _ h9 => h9) (congrArg (fun z => some (Value.ref z)) hl_p_table) dX10_rule_1 ?_
  refine lv_iload_n hx hb dX10_rule_4 rfl (lv_at hl 1 rfl) ?_
  refine PurI.cv (As := [.int rule]) (kX7_has l g a_t I_t rule) fx (gUV (uT _) u_796 u_797 u_798 u_31 u_799) rfl hdX7_has ⟨Nat.le_of_ble_eq_true rfl, Nat.le_of_ble_eq_true rfl⟩ hK hP [2, 3, 4, 5, 6, 7, 8] rfl rfl rfl rfl rfl hl.1 (Nat.le_of_ble_eq_true rfl) dX10_rule_5 (fun r1 p_r1 => ?_)
  refine q_if_eq (tgt := 20) hx hb dX10_rule_8 (by decide) rfl (fun b_8 k_8 => ?_) (fun b_8 k_8 => ?_)
  · have q_8 := bP.f p_r1 b_8
    refine lv_aload_n hx hb dX10_rule_20 rfl (lv_at hl 0 rfl) ?_
    refine lv_iconst (v := 1) hx hb dX10_rule_21 (by decide) ?_
    refine EffI.cv (wr := (wX7 g a_t I_t)) (w' := fun u3 => wX10 g a_p u3 J_p ++ wX7 g a_t I_t) (As := [.int (1 : Int32)]) (kX10_refuse l g a_p I_p J_p (1 : Int32)) fx (gUV (uT _) u_295 u_296 u_297 u_2 u_298) rfl hdX10_refuse ⟨Nat.le_of_ble_eq_true rfl, Nat.le_of_ble_eq_true rfl⟩ hK hP hD hS hA [0, 1] [2, 3, 4, 5, 6, 7, 8] [7, 8, 0, 1, 2, 3, 4, 5, 6] rfl rfl rfl rfl (by decide) rfl (fun _ => rfl) rfl rfl rfl rfl hl.1 (Nat.le_of_ble_eq_true rfl) dX10_rule_22 (fun r2 u3 H locs p_r2 hP hD hS => ?_)
    have hP : va_P g.1 vwCl (wX10 g a_p u3 J_p ++ wX7 g a_t I_t) H := hP
    have hD : va_D A (wX10 g a_p u3 J_p ++ wX7 g a_t I_t) := hD
    refine hret 25 ls r2 _ _ u3 dX10_rule_25 hS hP hD ?_
    exact ⟨(PI.st hPI p_r2.2), (KP.tr (KP.rf I_p) (KP.st p_r2.2)), (by exact Or.inl ⟨by omega, p_r2.1⟩)⟩
  · have q_8 := bP.t p_r1 b_8
    refine lv_iload_n hx hb dX10_rule_11 rfl (lv_at hl 2 rfl) ?_
    refine q_if_lt (tgt := 20) hx hb dX10_rule_12 (by decide) rfl (fun k_12 => ?_) (fun k_12 => ?_)
    · refine lv_aload_n hx hb dX10_rule_20 rfl (lv_at hl 0 rfl) ?_
      refine lv_iconst (v := 1) hx hb dX10_rule_21 (by decide) ?_
      refine EffI.cv (wr := (wX7 g a_t I_t)) (w' := fun u5 => wX10 g a_p u5 J_p ++ wX7 g a_t I_t) (As := [.int (1 : Int32)]) (kX10_refuse l g a_p I_p J_p (1 : Int32)) fx (gUV (uT _) u_295 u_296 u_297 u_2 u_298) rfl hdX10_refuse ⟨Nat.le_of_ble_eq_true rfl, Nat.le_of_ble_eq_true rfl⟩ hK hP hD hS hA [0, 1] [2, 3, 4, 5, 6, 7, 8] [7, 8, 0, 1, 2, 3, 4, 5, 6] rfl rfl rfl rfl (by decide) rfl (fun _ => rfl) rfl rfl rfl rfl hl.1 (Nat.le_of_ble_eq_true rfl) dX10_rule_22 (fun r4 u5 H locs p_r4 hP hD hS => ?_)
      have hP : va_P g.1 vwCl (wX10 g a_p u5 J_p ++ wX7 g a_t I_t) H := hP
      have hD : va_D A (wX10 g a_p u5 J_p ++ wX7 g a_t I_t) := hD
      refine hret 25 ls r4 _ _ u5 dX10_rule_25 hS hP hD ?_
      exact ⟨(PI.st hPI p_r4.2), (KP.tr (KP.rf I_p) (KP.st p_r4.2)), (by exact Or.inl ⟨by omega, p_r4.1⟩)⟩
    · refine lv_iload_n hx hb dX10_rule_15 rfl (lv_at hl 2 rfl) ?_
      refine lv_iconst (v := 2) hx hb dX10_rule_16 (by decide) ?_
      refine q_icmp_le (tgt := 26) hx hb dX10_rule_17 (by decide) rfl (by decide : (2 : Int32).toInt = 2) (fun k_17 => ?_) (fun k_17 => ?_)
      · refine lv_iload_n hx hb dX10_rule_26 rfl (lv_at hl 2 rfl) ?_
        refine q_if_ne (tgt := 44) hx hb dX10_rule_27 (by decide) rfl (fun b_27 k_27 => ?_) (fun b_27 k_27 => ?_)
        · refine lv_aload_n hx hb dX10_rule_44 rfl (lv_at hl 0 rfl) ?_
          refine lv_iload_n hx hb dX10_rule_45 rfl (lv_at hl 2 rfl) ?_
          refine lv_iconst (v := 1) hx hb dX10_rule_46 (by decide) ?_
          refine q_icmp_ne (tgt := 62) hx hb dX10_rule_47 (by decide) rfl (by decide : (1 : Int32).toInt = 1) (fun k_47 => ?_) (fun k_47 => ?_)
          · refine lv_aload_n hx hb dX10_rule_62 rfl (lv_at hl 0 rfl) ?_
            refine va_get (D := g.1) (ci := 10) (v := .ref (a_t 0)) (C := RX10) (T := TX10) (N := 20) hx hb hi_X10 (fun _ h => h) hown hK.1 hP 0 rfl rfl 9 (by decide) hf_50 (fun _ h9 => h9) (congrArg (fun z => some (Value.ref z)) hl_p_table) dX10_rule_63 ?_
            refine va_get (D := g.1) (ci := 7) (v := .ref (a_t 4)) (C := RX7) (T := TX7) (N := 8) hx hb hi_X7 (fun _ h => h) hown hK.1 hP 2 rfl rfl 5 (by decide) hf_222 (fun _ h9 => h9) rfl dX10_rule_66 ?_
            refine lv_iload_n hx hb dX10_rule_69 rfl (lv_at hl 1 rfl) ?_
            have n_70 : vp_in rule 24 := (t_in (by omega))
            refine va_iald hx hb hK.1 hP 6 0 rfl rfl n_70 dX10_rule_70 ?_
            refine q_nm (fun x6 e_x6 => ?_)
            have e_x6 : x6 = (I_t 4) rule.toNatClampNeg := e_x6
            have g_x6 : x6.toInt = ((I_t 4) rule.toNatClampNeg).toInt := congrArg _ e_x6
            have f_x6 := TI.cd hT rule.toNatClampNeg
            rw [← e_x6] at f_x6
            refine EffI.cv (wr := (wX7 g a_t I_t)) (w' := fun u8 => wX10 g a_p u8 J_p ++ wX7 g a_t I_t) (As := [.int x6]) (kX10_answer l g a_p I_p J_p x6) fx (gUV (uT _) u_497 u_498 u_499 u_2 u_500) rfl hdX10_answer ⟨Nat.le_of_ble_eq_true rfl, Nat.le_of_ble_eq_true rfl⟩ hK hP hD hS hA [0, 1] [2, 3, 4, 5, 6, 7, 8] [7, 8, 0, 1, 2, 3, 4, 5, 6] rfl rfl rfl rfl (by decide) rfl (fun _ => rfl) rfl rfl rfl rfl hl.1 (Nat.le_of_ble_eq_true rfl) dX10_rule_71 (fun r7 u8 H locs p_r7 hP hD hS => ?_)
            have hP : va_P g.1 vwCl (wX10 g a_p u8 J_p ++ wX7 g a_t I_t) H := hP
            have hD : va_D A (wX10 g a_p u8 J_p ++ wX7 g a_t I_t) := hD
            refine hret 74 ls r7 _ _ u8 dX10_rule_74 hS hP hD ?_
            exact ⟨(PI.st hPI p_r7.2), (KP.tr (KP.rf I_p) (KP.st p_r7.2)), (by exact Or.inr ⟨by omega, Or.inr (Or.inr ⟨by omega, p_r7.1.trans e_x6⟩)⟩)⟩
          · refine lv_aload_n hx hb dX10_rule_50 rfl (lv_at hl 0 rfl) ?_
            refine va_get (D := g.1) (ci := 10) (v := .ref (a_t 0)) (C := RX10) (T := TX10) (N := 20) hx hb hi_X10 (fun _ h => h) hown hK.1 hP 0 rfl rfl 9 (by decide) hf_50 (fun _ h9 => h9) (congrArg (fun z => some (Value.ref z)) hl_p_table) dX10_rule_51 ?_
            refine va_get (D := g.1) (ci := 7) (v := .ref (a_t 3)) (C := RX7) (T := TX7) (N := 8) hx hb hi_X7 (fun _ h => h) hown hK.1 hP 2 rfl rfl 4 (by decide) hf_219 (fun _ h9 => h9) rfl dX10_rule_54 ?_
            refine lv_iload_n hx hb dX10_rule_57 rfl (lv_at hl 1 rfl) ?_
            have n_58 : vp_in rule 24 := (t_in (by omega))
            refine va_iald hx hb hK.1 hP 5 0 rfl rfl n_58 dX10_rule_58 ?_
            refine q_nm (fun x9 e_x9 => ?_)
            have e_x9 : x9 = (I_t 3) rule.toNatClampNeg := e_x9
            have g_x9 : x9.toInt = ((I_t 3) rule.toNatClampNeg).toInt := congrArg _ e_x9
            have f_x9 := TI.cc hT rule.toNatClampNeg
            rw [← e_x9] at f_x9
            refine lv_goto (tgt := 71) hx hb dX10_rule_59 (by decide) ?_
            refine EffI.cv (wr := (wX7 g a_t I_t)) (w' := fun u11 => wX10 g a_p u11 J_p ++ wX7 g a_t I_t) (As := [.int x9]) (kX10_answer l g a_p I_p J_p x9) fx (gUV (uT _) u_497 u_498 u_499 u_2 u_500) rfl hdX10_answer ⟨Nat.le_of_ble_eq_true rfl, Nat.le_of_ble_eq_true rfl⟩ hK hP hD hS hA [0, 1] [2, 3, 4, 5, 6, 7, 8] [7, 8, 0, 1, 2, 3, 4, 5, 6] rfl rfl rfl rfl (by decide) rfl (fun _ => rfl) rfl rfl rfl rfl hl.1 (Nat.le_of_ble_eq_true rfl) dX10_rule_71 (fun r10 u11 H locs p_r10 hP hD hS => ?_)
            have hP : va_P g.1 vwCl (wX10 g a_p u11 J_p ++ wX7 g a_t I_t) H := hP
            have hD : va_D A (wX10 g a_p u11 J_p ++ wX7 g a_t I_t) := hD
            refine hret 74 ls r10 _ _ u11 dX10_rule_74 hS hP hD ?_
            exact ⟨(PI.st hPI p_r10.2), (KP.tr (KP.rf I_p) (KP.st p_r10.2)), (by exact Or.inr ⟨by omega, Or.inr (Or.inl ⟨by omega, p_r10.1.trans e_x9⟩)⟩)⟩
        · refine lv_aload_n hx hb dX10_rule_30 rfl (lv_at hl 0 rfl) ?_
          refine lv_aload_n hx hb dX10_rule_31 rfl (lv_at hl 0 rfl) ?_
          refine va_get (D := g.1) (ci := 10) (v := .ref (a_t 0)) (C := RX10) (T := TX10) (N := 20) hx hb hi_X10 (fun _ h => h) hown hK.1 hP 0 rfl rfl 9 (by decide) hf_50 (fun _ h9 => h9) (congrArg (fun z => some (Value.ref z)) hl_p_table) dX10_rule_32 ?_
          refine va_get (D := g.1) (ci := 7) (v := .ref (a_t 2)) (C := RX7) (T := TX7) (N := 8) hx hb hi_X7 (fun _ h => h) hown hK.1 hP 2 rfl rfl 3 (by decide) hf_216 (fun _ h9 => h9) rfl dX10_rule_35 ?_
          refine lv_iload_n hx hb dX10_rule_38 rfl (lv_at hl 1 rfl) ?_
          have n_39 : vp_in rule 24 := (t_in (by omega))
          refine va_iald hx hb hK.1 hP 4 0 rfl rfl n_39 dX10_rule_39 ?_
          refine q_nm (fun x12 e_x12 => ?_)
          have e_x12 : x12 = (I_t 2) rule.toNatClampNeg := e_x12
          have g_x12 : x12.toInt = ((I_t 2) rule.toNatClampNeg).toInt := congrArg _ e_x12
          have f_x12 := TI.lc hT rule.toNatClampNeg
          rw [← e_x12] at f_x12
          refine EffI.cv (wr := (wX7 g a_t I_t)) (w' := fun u14 => wX10 g a_p u14 J_p ++ wX7 g a_t I_t) (As := [.int x12]) (kX10_answer l g a_p I_p J_p x12) fx (gUV (uT _) u_497 u_498 u_499 u_2 u_500) rfl hdX10_answer ⟨Nat.le_of_ble_eq_true rfl, Nat.le_of_ble_eq_true rfl⟩ hK hP hD hS hA [0, 1] [2, 3, 4, 5, 6, 7, 8] [7, 8, 0, 1, 2, 3, 4, 5, 6] rfl rfl rfl rfl (by decide) rfl (fun _ => rfl) rfl rfl rfl rfl hl.1 (Nat.le_of_ble_eq_true rfl) dX10_rule_40 (fun r13 u14 H locs p_r13 hP hD hS => ?_)
          have hP : va_P g.1 vwCl (wX10 g a_p u14 J_p ++ wX7 g a_t I_t) H := hP
          have hD : va_D A (wX10 g a_p u14 J_p ++ wX7 g a_t I_t) := hD
          refine hret 43 ls r13 _ _ u14 dX10_rule_43 hS hP hD ?_
          exact ⟨(PI.st hPI p_r13.2), (KP.tr (KP.rf I_p) (KP.st p_r13.2)), (by exact Or.inr ⟨by omega, Or.inl ⟨by omega, p_r13.1.trans e_x12⟩⟩)⟩
      · refine lv_aload_n hx hb dX10_rule_20 rfl (lv_at hl 0 rfl) ?_
        refine lv_iconst (v := 1) hx hb dX10_rule_21 (by decide) ?_
        refine EffI.cv (wr := (wX7 g a_t I_t)) (w' := fun u16 => wX10 g a_p u16 J_p ++ wX7 g a_t I_t) (As := [.int (1 : Int32)]) (kX10_refuse l g a_p I_p J_p (1 : Int32)) fx (gUV (uT _) u_295 u_296 u_297 u_2 u_298) rfl hdX10_refuse ⟨Nat.le_of_ble_eq_true rfl, Nat.le_of_ble_eq_true rfl⟩ hK hP hD hS hA [0, 1] [2, 3, 4, 5, 6, 7, 8] [7, 8, 0, 1, 2, 3, 4, 5, 6] rfl rfl rfl rfl (by decide) rfl (fun _ => rfl) rfl rfl rfl rfl hl.1 (Nat.le_of_ble_eq_true rfl) dX10_rule_22 (fun r15 u16 H locs p_r15 hP hD hS => ?_)
        have hP : va_P g.1 vwCl (wX10 g a_p u16 J_p ++ wX7 g a_t I_t) H := hP
        have hD : va_D A (wX10 g a_p u16 J_p ++ wX7 g a_t I_t) := hD
        refine hret 25 ls r15 _ _ u16 dX10_rule_25 hS hP hD ?_
        exact ⟨(PI.st hPI p_r15.2), (KP.tr (KP.rf I_p) (KP.st p_r15.2)), (by exact Or.inl ⟨by omega, p_r15.1⟩)⟩

set_option maxHeartbeats 4000000 in
set_option maxRecDepth 100000 in
theorem kX10_letter (l : Launch) (g : gG) (a_p : Nat → Nat) (I_p : Nat → Nat → Int32) (J_p : Nat → Nat → Int64) (a_t : Nat → Nat) (I_t : Nat → Nat → Int32) (rule : Int32) (k : Int32) (hl_p_table : a_p 109 = a_t 0) (hPI : PI I_p) (hT : TI I_t) : EffI l g yX10_letter wsX10_letter 1 [.ref (a_p 0), .int rule, .int k] (wX10 g a_p I_p J_p ++ wX7 g a_t I_t) (fun (u : (Nat → Nat → Int32)) => wX10 g a_p u J_p ++ wX7 g a_t I_t) (fun r (u : (Nat → Nat → Int32)) => PI (u) ∧ KP I_p (u) ∧ ((¬ (0 ≤ rule.toInt ∧ rule.toInt < (I_t 0 0).toInt) ∧ r = -1) ∨ ((0 ≤ rule.toInt ∧ rule.toInt < (I_t 0 0).toInt) ∧ ((¬ (0 ≤ k.toInt ∧ k.toInt < (I_t 2 rule.toInt.toNat).toInt) ∧ r = -1) ∨ ((0 ≤ k.toInt ∧ k.toInt < (I_t 2 rule.toInt.toNat).toInt) ∧ r = I_t 5 (rule.toInt * 6 + k.toInt).toNat))))) := by
  refine EffI.st (cc := cX10_letter) (maxL := 3) (by decide) rfl (Nat.le_of_ble_eq_true rfl) (fun p e s m args below meth c A Q ls fx hK hP hD hA hS hl hret => ?_)
  have hx := fx.1
  have hb := fx.2.1
  have hml := fx.2.2.1
  have hown := fx.2.2.2.1
  have hts := fx.2.2.2.2
  have hl : lv_has ls 3 [(0, .ref (a_p 0)), (1, .int rule), (2, .int k)] := hl
  have hP : va_P g.1 vwCl (wX10 g a_p I_p J_p ++ wX7 g a_t I_t) s.heap := hP
  have hf_50 := hts _ (uT _ _ u_32)
  have hf_216 := hts _ (uT _ _ u_793)
  have hi_X10 : ∀ w ∈ wsX100, w.before args s = true := fun w h => hts w (uT _ w (u_wsX100 w h))
  have hi_X7 : ∀ w ∈ wsX70, w.before args s = true := fun w h => hts w (uT _ w (u_wsX70 w h))
  have lm1 : (-1 : Int32).toInt = -1 := by decide
  have lm0 : (0 : Int32).toInt = 0 := by decide
  have lm2 : (1 : Int32).toInt = 1 := by decide
  have hp1 := hPI.1
  have hp2 := hPI.2.1
  have hru := TI.ru hT
  have hlt3 := TI.li hT
  have hlt4 := TI.pa hT
  have lq6 : (6 : Int32).toInt = 6 := by decide
  refine lv_aload_n hx hb dX10_letter_0 rfl (lv_at hl 0 rfl) ?_
  refine va_get (D := g.1) (ci := 10) (v := .ref (a_t 0)) (C := RX10) (T := TX10) (N := 20) hx hb hi_X10 (fun _ h => h) hown hK.1 hP 0 rfl rfl 9 (by decide) hf_50 (fun _ h9 => h9) (congrArg (fun z => some (Value.ref z)) hl_p_table) dX10_letter_1 ?_
  refine lv_iload_n hx hb dX10_letter_4 rfl (lv_at hl 1 rfl) ?_
  refine PurI.cv (As := [.int rule]) (kX7_has l g a_t I_t rule) fx (gUV (uT _) u_796 u_797 u_798 u_31 u_799) rfl hdX7_has ⟨Nat.le_of_ble_eq_true rfl, Nat.le_of_ble_eq_true rfl⟩ hK hP [2, 3, 4, 5, 6, 7, 8] rfl rfl rfl rfl rfl hl.1 (Nat.le_of_ble_eq_true rfl) dX10_letter_5 (fun r1 p_r1 => ?_)
  refine q_if_ne (tgt := 17) hx hb dX10_letter_8 (by decide) rfl (fun b_8 k_8 => ?_) (fun b_8 k_8 => ?_)
  · have q_8 := bP.t p_r1 b_8
    refine lv_iload_n hx hb dX10_letter_17 rfl (lv_at hl 2 rfl) ?_
    refine q_if_lt (tgt := 34) hx hb dX10_letter_18 (by decide) rfl (fun k_18 => ?_) (fun k_18 => ?_)
    · refine lv_aload_n hx hb dX10_letter_34 rfl (lv_at hl 0 rfl) ?_
      refine lv_bipush (v := 6) hx hb dX10_letter_35 (by decide) ?_
      refine EffI.cv (wr := (wX7 g a_t I_t)) (w' := fun u3 => wX10 g a_p u3 J_p ++ wX7 g a_t I_t) (As := [.int (6 : Int32)]) (kX10_refuse l g a_p I_p J_p (6 : Int32)) fx (gUV (uT _) u_295 u_296 u_297 u_2 u_298) rfl hdX10_refuse ⟨Nat.le_of_ble_eq_true rfl, Nat.le_of_ble_eq_true rfl⟩ hK hP hD hS hA [0, 1] [2, 3, 4, 5, 6, 7, 8] [7, 8, 0, 1, 2, 3, 4, 5, 6] rfl rfl rfl rfl (by decide) rfl (fun _ => rfl) rfl rfl rfl rfl hl.1 (Nat.le_of_ble_eq_true rfl) dX10_letter_37 (fun r2 u3 H locs p_r2 hP hD hS => ?_)
      have hP : va_P g.1 vwCl (wX10 g a_p u3 J_p ++ wX7 g a_t I_t) H := hP
      have hD : va_D A (wX10 g a_p u3 J_p ++ wX7 g a_t I_t) := hD
      refine hret 40 ls r2 _ _ u3 dX10_letter_40 hS hP hD ?_
      exact ⟨(PI.st hPI p_r2.2), (KP.tr (KP.rf I_p) (KP.st p_r2.2)), (by exact Or.inr ⟨by omega, Or.inl ⟨by omega, p_r2.1⟩⟩)⟩
    · refine lv_iload_n hx hb dX10_letter_21 rfl (lv_at hl 2 rfl) ?_
      refine lv_aload_n hx hb dX10_letter_22 rfl (lv_at hl 0 rfl) ?_
      refine va_get (D := g.1) (ci := 10) (v := .ref (a_t 0)) (C := RX10) (T := TX10) (N := 20) hx hb hi_X10 (fun _ h => h) hown hK.1 hP 0 rfl rfl 9 (by decide) hf_50 (fun _ h9 => h9) (congrArg (fun z => some (Value.ref z)) hl_p_table) dX10_letter_23 ?_
      refine va_get (D := g.1) (ci := 7) (v := .ref (a_t 2)) (C := RX7) (T := TX7) (N := 8) hx hb hi_X7 (fun _ h => h) hown hK.1 hP 2 rfl rfl 3 (by decide) hf_216 (fun _ h9 => h9) rfl dX10_letter_26 ?_
      refine lv_iload_n hx hb dX10_letter_29 rfl (lv_at hl 1 rfl) ?_
      have n_30 : vp_in rule 24 := (t_in (by omega))
      refine va_iald hx hb hK.1 hP 4 0 rfl rfl n_30 dX10_letter_30 ?_
      refine q_nm (fun x4 e_x4 => ?_)
      have e_x4 : x4 = (I_t 2) rule.toNatClampNeg := e_x4
      have g_x4 : x4.toInt = ((I_t 2) rule.toNatClampNeg).toInt := congrArg _ e_x4
      have f_x4 := TI.lc hT rule.toNatClampNeg
      rw [← e_x4] at f_x4
      refine q_icmp_lt (tgt := 41) hx hb dX10_letter_31 (by decide) rfl rfl (fun k_31 => ?_) (fun k_31 => ?_)
      · refine lv_aload_n hx hb dX10_letter_41 rfl (lv_at hl 0 rfl) ?_
        refine lv_aload_n hx hb dX10_letter_42 rfl (lv_at hl 0 rfl) ?_
        refine va_get (D := g.1) (ci := 10) (v := .ref (a_t 0)) (C := RX10) (T := TX10) (N := 20) hx hb hi_X10 (fun _ h => h) hown hK.1 hP 0 rfl rfl 9 (by decide) hf_50 (fun _ h9 => h9) (congrArg (fun z => some (Value.ref z)) hl_p_table) dX10_letter_43 ?_
        refine lv_iload_n hx hb dX10_letter_46 rfl (lv_at hl 1 rfl) ?_
        refine lv_iload_n hx hb dX10_letter_47 rfl (lv_at hl 2 rfl) ?_
        refine PurI.cv (As := [.int rule, .int k]) (kX7_letterAt l g a_t I_t rule k (by omega) (by omega) hT) fx (gUV (uT _) u_812 u_480 u_481 u_31 u_482) rfl hdX7_letterAt ⟨Nat.le_of_ble_eq_true rfl, Nat.le_of_ble_eq_true rfl⟩ hK hP [2, 3, 4, 5, 6, 7, 8] rfl rfl rfl rfl rfl hl.1 (Nat.le_of_ble_eq_true rfl) dX10_letter_48 (fun r5 p_r5 => ?_)
        refine EffI.cv (wr := (wX7 g a_t I_t)) (w' := fun u7 => wX10 g a_p u7 J_p ++ wX7 g a_t I_t) (As := [.int r5]) (kX10_answer l g a_p I_p J_p r5) fx (gUV (uT _) u_497 u_498 u_499 u_2 u_500) rfl hdX10_answer ⟨Nat.le_of_ble_eq_true rfl, Nat.le_of_ble_eq_true rfl⟩ hK hP hD hS hA [0, 1] [2, 3, 4, 5, 6, 7, 8] [7, 8, 0, 1, 2, 3, 4, 5, 6] rfl rfl rfl rfl (by decide) rfl (fun _ => rfl) rfl rfl rfl rfl hl.1 (Nat.le_of_ble_eq_true rfl) dX10_letter_51 (fun r6 u7 H locs p_r6 hP hD hS => ?_)
        have hP : va_P g.1 vwCl (wX10 g a_p u7 J_p ++ wX7 g a_t I_t) H := hP
        have hD : va_D A (wX10 g a_p u7 J_p ++ wX7 g a_t I_t) := hD
        refine hret 54 ls r6 _ _ u7 dX10_letter_54 hS hP hD ?_
        exact ⟨(PI.st hPI p_r6.2), (KP.tr (KP.rf I_p) (KP.st p_r6.2)), (by (have hlc : x4 = I_t 2 rule.toInt.toNat := e_x4; exact Or.inr ⟨by omega, by rw [← hlc]; exact Or.inr ⟨by omega, p_r6.1.trans p_r5.1⟩⟩))⟩
      · refine lv_aload_n hx hb dX10_letter_34 rfl (lv_at hl 0 rfl) ?_
        refine lv_bipush (v := 6) hx hb dX10_letter_35 (by decide) ?_
        refine EffI.cv (wr := (wX7 g a_t I_t)) (w' := fun u9 => wX10 g a_p u9 J_p ++ wX7 g a_t I_t) (As := [.int (6 : Int32)]) (kX10_refuse l g a_p I_p J_p (6 : Int32)) fx (gUV (uT _) u_295 u_296 u_297 u_2 u_298) rfl hdX10_refuse ⟨Nat.le_of_ble_eq_true rfl, Nat.le_of_ble_eq_true rfl⟩ hK hP hD hS hA [0, 1] [2, 3, 4, 5, 6, 7, 8] [7, 8, 0, 1, 2, 3, 4, 5, 6] rfl rfl rfl rfl (by decide) rfl (fun _ => rfl) rfl rfl rfl rfl hl.1 (Nat.le_of_ble_eq_true rfl) dX10_letter_37 (fun r8 u9 H locs p_r8 hP hD hS => ?_)
        have hP : va_P g.1 vwCl (wX10 g a_p u9 J_p ++ wX7 g a_t I_t) H := hP
        have hD : va_D A (wX10 g a_p u9 J_p ++ wX7 g a_t I_t) := hD
        refine hret 40 ls r8 _ _ u9 dX10_letter_40 hS hP hD ?_
        exact ⟨(PI.st hPI p_r8.2), (KP.tr (KP.rf I_p) (KP.st p_r8.2)), (by first | (have hlc : x4 = I_t 2 rule.toInt.toNat := e_x4; exact Or.inr ⟨by omega, by rw [← hlc]; exact Or.inl ⟨by omega, p_r8.1⟩⟩) | exact Or.inr ⟨by omega, Or.inl ⟨by omega, p_r8.1⟩⟩)⟩
  · have q_8 := bP.f p_r1 b_8
    refine lv_aload_n hx hb dX10_letter_11 rfl (lv_at hl 0 rfl) ?_
    refine lv_iconst (v := 1) hx hb dX10_letter_12 (by decide) ?_
    refine EffI.cv (wr := (wX7 g a_t I_t)) (w' := fun u11 => wX10 g a_p u11 J_p ++ wX7 g a_t I_t) (As := [.int (1 : Int32)]) (kX10_refuse l g a_p I_p J_p (1 : Int32)) fx (gUV (uT _) u_295 u_296 u_297 u_2 u_298) rfl hdX10_refuse ⟨Nat.le_of_ble_eq_true rfl, Nat.le_of_ble_eq_true rfl⟩ hK hP hD hS hA [0, 1] [2, 3, 4, 5, 6, 7, 8] [7, 8, 0, 1, 2, 3, 4, 5, 6] rfl rfl rfl rfl (by decide) rfl (fun _ => rfl) rfl rfl rfl rfl hl.1 (Nat.le_of_ble_eq_true rfl) dX10_letter_13 (fun r10 u11 H locs p_r10 hP hD hS => ?_)
    have hP : va_P g.1 vwCl (wX10 g a_p u11 J_p ++ wX7 g a_t I_t) H := hP
    have hD : va_D A (wX10 g a_p u11 J_p ++ wX7 g a_t I_t) := hD
    refine hret 16 ls r10 _ _ u11 dX10_letter_16 hS hP hD ?_
    exact ⟨(PI.st hPI p_r10.2), (KP.tr (KP.rf I_p) (KP.st p_r10.2)), (by exact Or.inl ⟨by omega, p_r10.1⟩)⟩

set_option maxHeartbeats 4000000 in
set_option maxRecDepth 100000 in
theorem kX10_cellOf (l : Launch) (g : gG) (a_p : Nat → Nat) (I_p : Nat → Nat → Int32) (J_p : Nat → Nat → Int64) (a_t : Nat → Nat) (I_t : Nat → Nat → Int32) (rule : Int32) (k : Int32) (hl_p_table : a_p 109 = a_t 0) (hPI : PI I_p) (hT : TI I_t) : EffI l g yX10_cellOf wsX10_cellOf 1 [.ref (a_p 0), .int rule, .int k] (wX10 g a_p I_p J_p ++ wX7 g a_t I_t) (fun (u : (Nat → Nat → Int32)) => wX10 g a_p u J_p ++ wX7 g a_t I_t) (fun r (u : (Nat → Nat → Int32)) => PI (u) ∧ KP I_p (u) ∧ ((¬ (0 ≤ rule.toInt ∧ rule.toInt < (I_t 0 0).toInt) ∧ r = -1) ∨ ((0 ≤ rule.toInt ∧ rule.toInt < (I_t 0 0).toInt) ∧ ((¬ (0 ≤ k.toInt ∧ k.toInt < (I_t 3 rule.toInt.toNat).toInt) ∧ r = -1) ∨ ((0 ≤ k.toInt ∧ k.toInt < (I_t 3 rule.toInt.toNat).toInt) ∧ r = I_t 6 (rule.toInt * 3 + k.toInt).toNat))))) := by
  refine EffI.st (cc := cX10_cellOf) (maxL := 3) (by decide) rfl (Nat.le_of_ble_eq_true rfl) (fun p e s m args below meth c A Q ls fx hK hP hD hA hS hl hret => ?_)
  have hx := fx.1
  have hb := fx.2.1
  have hml := fx.2.2.1
  have hown := fx.2.2.2.1
  have hts := fx.2.2.2.2
  have hl : lv_has ls 3 [(0, .ref (a_p 0)), (1, .int rule), (2, .int k)] := hl
  have hP : va_P g.1 vwCl (wX10 g a_p I_p J_p ++ wX7 g a_t I_t) s.heap := hP
  have hf_50 := hts _ (uT _ _ u_32)
  have hf_219 := hts _ (uT _ _ u_794)
  have hi_X10 : ∀ w ∈ wsX100, w.before args s = true := fun w h => hts w (uT _ w (u_wsX100 w h))
  have hi_X7 : ∀ w ∈ wsX70, w.before args s = true := fun w h => hts w (uT _ w (u_wsX70 w h))
  have lm1 : (-1 : Int32).toInt = -1 := by decide
  have lm0 : (0 : Int32).toInt = 0 := by decide
  have lm2 : (1 : Int32).toInt = 1 := by decide
  have hp1 := hPI.1
  have hp2 := hPI.2.1
  have hru := TI.ru hT
  have hlt3 := TI.li hT
  have hlt4 := TI.pa hT
  have lq6 : (6 : Int32).toInt = 6 := by decide
  refine lv_aload_n hx hb dX10_cellOf_0 rfl (lv_at hl 0 rfl) ?_
  refine va_get (D := g.1) (ci := 10) (v := .ref (a_t 0)) (C := RX10) (T := TX10) (N := 20) hx hb hi_X10 (fun _ h => h) hown hK.1 hP 0 rfl rfl 9 (by decide) hf_50 (fun _ h9 => h9) (congrArg (fun z => some (Value.ref z)) hl_p_table) dX10_cellOf_1 ?_
  refine lv_iload_n hx hb dX10_cellOf_4 rfl (lv_at hl 1 rfl) ?_
  refine PurI.cv (As := [.int rule]) (kX7_has l g a_t I_t rule) fx (gUV (uT _) u_796 u_797 u_798 u_31 u_799) rfl hdX7_has ⟨Nat.le_of_ble_eq_true rfl, Nat.le_of_ble_eq_true rfl⟩ hK hP [2, 3, 4, 5, 6, 7, 8] rfl rfl rfl rfl rfl hl.1 (Nat.le_of_ble_eq_true rfl) dX10_cellOf_5 (fun r1 p_r1 => ?_)
  refine q_if_ne (tgt := 17) hx hb dX10_cellOf_8 (by decide) rfl (fun b_8 k_8 => ?_) (fun b_8 k_8 => ?_)
  · have q_8 := bP.t p_r1 b_8
    refine lv_iload_n hx hb dX10_cellOf_17 rfl (lv_at hl 2 rfl) ?_
    refine q_if_lt (tgt := 34) hx hb dX10_cellOf_18 (by decide) rfl (fun k_18 => ?_) (fun k_18 => ?_)
    · refine lv_aload_n hx hb dX10_cellOf_34 rfl (lv_at hl 0 rfl) ?_
      refine lv_bipush (v := 6) hx hb dX10_cellOf_35 (by decide) ?_
      refine EffI.cv (wr := (wX7 g a_t I_t)) (w' := fun u3 => wX10 g a_p u3 J_p ++ wX7 g a_t I_t) (As := [.int (6 : Int32)]) (kX10_refuse l g a_p I_p J_p (6 : Int32)) fx (gUV (uT _) u_295 u_296 u_297 u_2 u_298) rfl hdX10_refuse ⟨Nat.le_of_ble_eq_true rfl, Nat.le_of_ble_eq_true rfl⟩ hK hP hD hS hA [0, 1] [2, 3, 4, 5, 6, 7, 8] [7, 8, 0, 1, 2, 3, 4, 5, 6] rfl rfl rfl rfl (by decide) rfl (fun _ => rfl) rfl rfl rfl rfl hl.1 (Nat.le_of_ble_eq_true rfl) dX10_cellOf_37 (fun r2 u3 H locs p_r2 hP hD hS => ?_)
      have hP : va_P g.1 vwCl (wX10 g a_p u3 J_p ++ wX7 g a_t I_t) H := hP
      have hD : va_D A (wX10 g a_p u3 J_p ++ wX7 g a_t I_t) := hD
      refine hret 40 ls r2 _ _ u3 dX10_cellOf_40 hS hP hD ?_
      exact ⟨(PI.st hPI p_r2.2), (KP.tr (KP.rf I_p) (KP.st p_r2.2)), (by exact Or.inr ⟨by omega, Or.inl ⟨by omega, p_r2.1⟩⟩)⟩
    · refine lv_iload_n hx hb dX10_cellOf_21 rfl (lv_at hl 2 rfl) ?_
      refine lv_aload_n hx hb dX10_cellOf_22 rfl (lv_at hl 0 rfl) ?_
      refine va_get (D := g.1) (ci := 10) (v := .ref (a_t 0)) (C := RX10) (T := TX10) (N := 20) hx hb hi_X10 (fun _ h => h) hown hK.1 hP 0 rfl rfl 9 (by decide) hf_50 (fun _ h9 => h9) (congrArg (fun z => some (Value.ref z)) hl_p_table) dX10_cellOf_23 ?_
      refine va_get (D := g.1) (ci := 7) (v := .ref (a_t 3)) (C := RX7) (T := TX7) (N := 8) hx hb hi_X7 (fun _ h => h) hown hK.1 hP 2 rfl rfl 4 (by decide) hf_219 (fun _ h9 => h9) rfl dX10_cellOf_26 ?_
      refine lv_iload_n hx hb dX10_cellOf_29 rfl (lv_at hl 1 rfl) ?_
      have n_30 : vp_in rule 24 := (t_in (by omega))
      refine va_iald hx hb hK.1 hP 5 0 rfl rfl n_30 dX10_cellOf_30 ?_
      refine q_nm (fun x4 e_x4 => ?_)
      have e_x4 : x4 = (I_t 3) rule.toNatClampNeg := e_x4
      have g_x4 : x4.toInt = ((I_t 3) rule.toNatClampNeg).toInt := congrArg _ e_x4
      have f_x4 := TI.cc hT rule.toNatClampNeg
      rw [← e_x4] at f_x4
      refine q_icmp_lt (tgt := 41) hx hb dX10_cellOf_31 (by decide) rfl rfl (fun k_31 => ?_) (fun k_31 => ?_)
      · refine lv_aload_n hx hb dX10_cellOf_41 rfl (lv_at hl 0 rfl) ?_
        refine lv_aload_n hx hb dX10_cellOf_42 rfl (lv_at hl 0 rfl) ?_
        refine va_get (D := g.1) (ci := 10) (v := .ref (a_t 0)) (C := RX10) (T := TX10) (N := 20) hx hb hi_X10 (fun _ h => h) hown hK.1 hP 0 rfl rfl 9 (by decide) hf_50 (fun _ h9 => h9) (congrArg (fun z => some (Value.ref z)) hl_p_table) dX10_cellOf_43 ?_
        refine lv_iload_n hx hb dX10_cellOf_46 rfl (lv_at hl 1 rfl) ?_
        refine lv_iload_n hx hb dX10_cellOf_47 rfl (lv_at hl 2 rfl) ?_
        refine PurI.cv (As := [.int rule, .int k]) (kX7_cellAt l g a_t I_t rule k (by omega) (by omega) hT) fx (gUV (uT _) u_821 u_633 u_634 u_31 u_635) rfl hdX7_cellAt ⟨Nat.le_of_ble_eq_true rfl, Nat.le_of_ble_eq_true rfl⟩ hK hP [2, 3, 4, 5, 6, 7, 8] rfl rfl rfl rfl rfl hl.1 (Nat.le_of_ble_eq_true rfl) dX10_cellOf_48 (fun r5 p_r5 => ?_)
        refine EffI.cv (wr := (wX7 g a_t I_t)) (w' := fun u7 => wX10 g a_p u7 J_p ++ wX7 g a_t I_t) (As := [.int r5]) (kX10_answer l g a_p I_p J_p r5) fx (gUV (uT _) u_497 u_498 u_499 u_2 u_500) rfl hdX10_answer ⟨Nat.le_of_ble_eq_true rfl, Nat.le_of_ble_eq_true rfl⟩ hK hP hD hS hA [0, 1] [2, 3, 4, 5, 6, 7, 8] [7, 8, 0, 1, 2, 3, 4, 5, 6] rfl rfl rfl rfl (by decide) rfl (fun _ => rfl) rfl rfl rfl rfl hl.1 (Nat.le_of_ble_eq_true rfl) dX10_cellOf_51 (fun r6 u7 H locs p_r6 hP hD hS => ?_)
        have hP : va_P g.1 vwCl (wX10 g a_p u7 J_p ++ wX7 g a_t I_t) H := hP
        have hD : va_D A (wX10 g a_p u7 J_p ++ wX7 g a_t I_t) := hD
        refine hret 54 ls r6 _ _ u7 dX10_cellOf_54 hS hP hD ?_
        exact ⟨(PI.st hPI p_r6.2), (KP.tr (KP.rf I_p) (KP.st p_r6.2)), (by (have hlc : x4 = I_t 3 rule.toInt.toNat := e_x4; exact Or.inr ⟨by omega, by rw [← hlc]; exact Or.inr ⟨by omega, p_r6.1.trans p_r5.1⟩⟩))⟩
      · refine lv_aload_n hx hb dX10_cellOf_34 rfl (lv_at hl 0 rfl) ?_
        refine lv_bipush (v := 6) hx hb dX10_cellOf_35 (by decide) ?_
        refine EffI.cv (wr := (wX7 g a_t I_t)) (w' := fun u9 => wX10 g a_p u9 J_p ++ wX7 g a_t I_t) (As := [.int (6 : Int32)]) (kX10_refuse l g a_p I_p J_p (6 : Int32)) fx (gUV (uT _) u_295 u_296 u_297 u_2 u_298) rfl hdX10_refuse ⟨Nat.le_of_ble_eq_true rfl, Nat.le_of_ble_eq_true rfl⟩ hK hP hD hS hA [0, 1] [2, 3, 4, 5, 6, 7, 8] [7, 8, 0, 1, 2, 3, 4, 5, 6] rfl rfl rfl rfl (by decide) rfl (fun _ => rfl) rfl rfl rfl rfl hl.1 (Nat.le_of_ble_eq_true rfl) dX10_cellOf_37 (fun r8 u9 H locs p_r8 hP hD hS => ?_)
        have hP : va_P g.1 vwCl (wX10 g a_p u9 J_p ++ wX7 g a_t I_t) H := hP
        have hD : va_D A (wX10 g a_p u9 J_p ++ wX7 g a_t I_t) := hD
        refine hret 40 ls r8 _ _ u9 dX10_cellOf_40 hS hP hD ?_
        exact ⟨(PI.st hPI p_r8.2), (KP.tr (KP.rf I_p) (KP.st p_r8.2)), (by first | (have hlc : x4 = I_t 3 rule.toInt.toNat := e_x4; exact Or.inr ⟨by omega, by rw [← hlc]; exact Or.inl ⟨by omega, p_r8.1⟩⟩) | exact Or.inr ⟨by omega, Or.inl ⟨by omega, p_r8.1⟩⟩)⟩
  · have q_8 := bP.f p_r1 b_8
    refine lv_aload_n hx hb dX10_cellOf_11 rfl (lv_at hl 0 rfl) ?_
    refine lv_iconst (v := 1) hx hb dX10_cellOf_12 (by decide) ?_
    refine EffI.cv (wr := (wX7 g a_t I_t)) (w' := fun u11 => wX10 g a_p u11 J_p ++ wX7 g a_t I_t) (As := [.int (1 : Int32)]) (kX10_refuse l g a_p I_p J_p (1 : Int32)) fx (gUV (uT _) u_295 u_296 u_297 u_2 u_298) rfl hdX10_refuse ⟨Nat.le_of_ble_eq_true rfl, Nat.le_of_ble_eq_true rfl⟩ hK hP hD hS hA [0, 1] [2, 3, 4, 5, 6, 7, 8] [7, 8, 0, 1, 2, 3, 4, 5, 6] rfl rfl rfl rfl (by decide) rfl (fun _ => rfl) rfl rfl rfl rfl hl.1 (Nat.le_of_ble_eq_true rfl) dX10_cellOf_13 (fun r10 u11 H locs p_r10 hP hD hS => ?_)
    have hP : va_P g.1 vwCl (wX10 g a_p u11 J_p ++ wX7 g a_t I_t) H := hP
    have hD : va_D A (wX10 g a_p u11 J_p ++ wX7 g a_t I_t) := hD
    refine hret 16 ls r10 _ _ u11 dX10_cellOf_16 hS hP hD ?_
    exact ⟨(PI.st hPI p_r10.2), (KP.tr (KP.rf I_p) (KP.st p_r10.2)), (by exact Or.inl ⟨by omega, p_r10.1⟩)⟩

set_option maxHeartbeats 4000000 in
set_option maxRecDepth 100000 in
theorem kX10_pages (l : Launch) (g : gG) (a_p : Nat → Nat) (I_p : Nat → Nat → Int32) (J_p : Nat → Nat → Int64) (a_t : Nat → Nat) (I_t : Nat → Nat → Int32) (a_y : Nat → Nat) (I_y : Nat → Nat → Int32) (hl_p_table : a_p 109 = a_t 0) (hl_p_layout : a_p 114 = a_y 0) (hPI : PI I_p) (hT : TI I_t) (hL : LI I_y) : PurI l g yX10_pages wsX10_pages 1 [.ref (a_p 0)] (wX10 g a_p I_p J_p ++ (wX7 g a_t I_t ++ wX1 g a_y I_y)) (fun r => True) := by
  refine PurI.st (cc := cX10_pages) (maxL := 2) (by decide) rfl (Nat.le_of_ble_eq_true rfl) (fun p e s m args below meth c Q ls fx hK hP hl hret => ?_)
  have hx := fx.1
  have hb := fx.2.1
  have hml := fx.2.2.1
  have hown := fx.2.2.2.1
  have hts := fx.2.2.2.2
  have hl : lv_has ls 2 [(0, .ref (a_p 0))] := hl
  have hP : va_P g.1 vwCl (wX10 g a_p I_p J_p ++ (wX7 g a_t I_t ++ wX1 g a_y I_y)) s.heap := hP
  have hf_50 := hts _ (uT _ _ u_32)
  have hf_78 := hts _ (uT _ _ u_46)
  have hf_206 := hts _ (uT _ _ u_780)
  have hf_238 := hts _ (uT _ _ u_868)
  have hi_X1 : ∀ w ∈ wsX10, w.before args s = true := fun w h => hts w (uT _ w (u_wsX10 w h))
  have hi_X10 : ∀ w ∈ wsX100, w.before args s = true := fun w h => hts w (uT _ w (u_wsX100 w h))
  have hi_X7 : ∀ w ∈ wsX70, w.before args s = true := fun w h => hts w (uT _ w (u_wsX70 w h))
  have lm1 : (-1 : Int32).toInt = -1 := by decide
  have lm0 : (0 : Int32).toInt = 0 := by decide
  have lm2 : (1 : Int32).toInt = 1 := by decide
  have hp1 := hPI.1
  have hp2 := hPI.2.1
  have hru := TI.ru hT
  have hlt3 := TI.li hT
  have hlt4 := TI.pa hT
  have hpc := LI.pc hL
  have hln := LI.ln hL
  have hwd := LI.wd hL
  have lq4 : (4 : Int32).toInt = 4 := by decide
  refine lv_iconst (v := 1) hx hb dX10_pages_0 (by decide) ?_
  refine lv_aload_n hx hb dX10_pages_1 rfl (lv_at hl 0 rfl) ?_
  refine va_get (D := g.1) (ci := 10) (v := .ref (a_t 0)) (C := RX10) (T := TX10) (N := 20) hx hb hi_X10 (fun _ h => h) hown hK.1 hP 0 rfl rfl 9 (by decide) hf_50 (fun _ h9 => h9) (congrArg (fun z => some (Value.ref z)) hl_p_table) dX10_pages_2 ?_
  refine va_get (D := g.1) (ci := 7) (v := .ref (a_t 1)) (C := RX7) (T := TX7) (N := 8) hx hb hi_X7 (fun _ h => h) hown hK.1 hP 2 rfl rfl 2 (by decide) hf_206 (fun _ h9 => h9) rfl dX10_pages_5 ?_
  refine lv_iconst (v := 4) hx hb dX10_pages_8 (by decide) ?_
  have n_9 : vp_in (4 : Int32) 5 := (t_in (by decide))
  refine va_iald hx hb hK.1 hP 3 0 rfl rfl n_9 dX10_pages_9 ?_
  refine q_nm (fun x1 e_x1 => ?_)
  have e_x1 : x1 = (I_t 1) 4 := e_x1
  have g_x1 : x1.toInt = ((I_t 1) 4).toInt := congrArg _ e_x1
  have f_x1 := TI.sg hT 4
  rw [← e_x1] at f_x1
  refine va_mmax hx hb (hml.trans hl.1.symm) hown (hts _ (uT _ _ u_874)) (hts _ (uT _ _ u_688)) (hts _ (uT _ _ u_524)) (hts _ (uT _ _ u_689)) (Nat.le_of_ble_eq_true rfl) (Nat.le_of_ble_eq_true rfl) (Nat.zero_le _) (Nat.zero_le _) dX10_pages_10 ?_
  refine q_nm (fun x2 e_x2 => ?_)
  have t_x2 := t_max e_x2 (by decide : (1 : Int32).toInt = 1) rfl
  refine lv_istore_n (lv' := [(1, .int x2), (0, .ref (a_p 0))]) hx hb dX10_pages_13 rfl hl (by decide) rfl (fun ls hl => ?_)
  refine lv_aload_n hx hb dX10_pages_14 rfl (lv_at hl 1 rfl) ?_
  refine va_get (D := g.1) (ci := 10) (v := .ref (a_y 0)) (C := RX10) (T := TX10) (N := 20) hx hb hi_X10 (fun _ h => h) hown hK.1 hP 0 rfl rfl 14 (by decide) hf_78 (fun _ h9 => h9) (congrArg (fun z => some (Value.ref z)) hl_p_layout) dX10_pages_15 ?_
  refine va_get (D := g.1) (ci := 1) (v := .int (I_y 0 6)) (C := RX1) (T := TX1) (N := 9) hx hb hi_X1 (fun _ h => h) hown hK.1 hP 9 rfl rfl 6 (by decide) hf_238 (fun _ h9 => h9) rfl dX10_pages_18 ?_
  refine lv_iload_n hx hb dX10_pages_21 rfl (lv_at hl 0 rfl) ?_
  refine r_iadd hx hb dX10_pages_22 rfl rfl (fun x3 e_x3 t_x3 => ?_)
  try have t_x3 := t_x3 (by omega)
  refine lv_iconst (v := 1) hx hb dX10_pages_23 (by decide) ?_
  refine r_isub hx hb dX10_pages_24 rfl (by decide : (1 : Int32).toInt = 1) (fun x4 e_x4 t_x4 => ?_)
  try have t_x4 := t_x4 (by omega)
  refine lv_iload_n hx hb dX10_pages_25 rfl (lv_at hl 0 rfl) ?_
  refine lv_idiv hx hb dX10_pages_26 (fun h => by have := t_eq h rfl (by decide : (0 : Int32).toInt = 0); omega) ?_
  refine q_nm (fun x5 e_x5 => ?_)
  try have t_x5 := t_div e_x5 rfl rfl (by omega) (by omega)
  exact hret 27 ls x5 dX10_pages_27 trivial

set_option maxHeartbeats 4000000 in
set_option maxRecDepth 100000 in
theorem kX10_isSetCell (l : Launch) (g : gG) (a_p : Nat → Nat) (I_p : Nat → Nat → Int32) (J_p : Nat → Nat → Int64) (a_e : Nat → Nat) (I_e : Nat → Nat → Int32) (k : Int32) (hl_p_shown : a_p 112 = a_e 0) (hPI : PI I_p) (hE : EI I_e) : PurI l g yX10_isSetCell wsX10_isSetCell 0 [.ref (a_p 0), .int k] (wX10 g a_p I_p J_p ++ wX6 g a_e I_e) (fun r => bP (0 ≤ k.toInt ∧ k.toInt < (I_e 0 3).toInt) True r) := by
  refine PurI.sz (cc := cX10_isSetCell) (maxL := 2) (by decide) rfl (Nat.le_of_ble_eq_true rfl) (fun p e s m args below meth c Q ls fx hK hP hl hret => ?_)
  have hx := fx.1
  have hb := fx.2.1
  have hml := fx.2.2.1
  have hown := fx.2.2.2.1
  have hts := fx.2.2.2.2
  have hl : lv_has ls 2 [(0, .ref (a_p 0)), (1, .int k)] := hl
  have hP : va_P g.1 vwCl (wX10 g a_p I_p J_p ++ wX6 g a_e I_e) s.heap := hP
  have hf_61 := hts _ (uT _ _ u_37)
  have hf_68 := hts _ (uT _ _ u_41)
  have hf_200 := hts _ (uT _ _ u_596)
  have hi_X10 : ∀ w ∈ wsX100, w.before args s = true := fun w h => hts w (uT _ w (u_wsX100 w h))
  have hi_X6 : ∀ w ∈ wsX60, w.before args s = true := fun w h => hts w (uT _ w (u_wsX60 w h))
  have lm1 : (-1 : Int32).toInt = -1 := by decide
  have lm0 : (0 : Int32).toInt = 0 := by decide
  have lm2 : (1 : Int32).toInt = 1 := by decide
  have hp1 := hPI.1
  have hp2 := hPI.2.1
  have hE0 := hE.1
  have hE1 := hE.2
  refine lv_aload_n hx hb dX10_isSetCell_0 rfl (lv_at hl 0 rfl) ?_
  refine va_get (D := g.1) (ci := 10) (v := .int (I_p 0 11)) (C := RX10) (T := TX10) (N := 20) hx hb hi_X10 (fun _ h => h) hown hK.1 hP 0 rfl rfl 11 (by decide) hf_61 (fun _ h9 => h9) rfl dX10_isSetCell_1 ?_
  refine q_if_eq (tgt := 26) hx hb dX10_isSetCell_4 (by decide) rfl (fun b_4 k_4 => ?_) (fun b_4 k_4 => ?_)
  · refine lv_iconst (v := 0) hx hb dX10_isSetCell_26 (by decide) ?_
    exact hret 27 ls (0 : Int32) dX10_isSetCell_27 (Or.inl rfl) (by first | exact Or.inr ⟨rfl, trivial⟩ | exact Or.inl ⟨rfl, by omega⟩)
  · refine lv_iload_n hx hb dX10_isSetCell_7 rfl (lv_at hl 1 rfl) ?_
    refine q_if_lt (tgt := 26) hx hb dX10_isSetCell_8 (by decide) rfl (fun k_8 => ?_) (fun k_8 => ?_)
    · refine lv_iconst (v := 0) hx hb dX10_isSetCell_26 (by decide) ?_
      exact hret 27 ls (0 : Int32) dX10_isSetCell_27 (Or.inl rfl) (by first | exact Or.inr ⟨rfl, trivial⟩ | exact Or.inl ⟨rfl, by omega⟩)
    · refine lv_iload_n hx hb dX10_isSetCell_11 rfl (lv_at hl 1 rfl) ?_
      refine lv_aload_n hx hb dX10_isSetCell_12 rfl (lv_at hl 0 rfl) ?_
      refine va_get (D := g.1) (ci := 10) (v := .ref (a_e 0)) (C := RX10) (T := TX10) (N := 20) hx hb hi_X10 (fun _ h => h) hown hK.1 hP 0 rfl rfl 12 (by decide) hf_68 (fun _ h9 => h9) (congrArg (fun z => some (Value.ref z)) hl_p_shown) dX10_isSetCell_13 ?_
      refine va_get (D := g.1) (ci := 6) (v := .int (I_e 0 3)) (C := RX6) (T := TX6) (N := 10) hx hb hi_X6 (fun _ h => h) hown hK.1 hP 2 rfl rfl 3 (by decide) hf_200 (fun _ h9 => h9) rfl dX10_isSetCell_16 ?_
      refine q_icmp_ge (tgt := 26) hx hb dX10_isSetCell_19 (by decide) rfl rfl (fun k_19 => ?_) (fun k_19 => ?_)
      · refine lv_iconst (v := 0) hx hb dX10_isSetCell_26 (by decide) ?_
        exact hret 27 ls (0 : Int32) dX10_isSetCell_27 (Or.inl rfl) (by first | exact Or.inr ⟨rfl, trivial⟩ | exact Or.inl ⟨rfl, by omega⟩)
      · refine lv_iconst (v := 1) hx hb dX10_isSetCell_22 (by decide) ?_
        refine lv_goto (tgt := 27) hx hb dX10_isSetCell_23 (by decide) ?_
        have lr : (1 : Int32).toInt = 1 := by decide
        exact hret 27 ls (1 : Int32) dX10_isSetCell_27 (Or.inr rfl) (by first | exact Or.inr ⟨rfl, trivial⟩ | exact Or.inl ⟨rfl, by omega⟩)

set_option maxHeartbeats 4000000 in
set_option maxRecDepth 100000 in
theorem kX10_isLine (l : Launch) (g : gG) (a_p : Nat → Nat) (I_p : Nat → Nat → Int32) (J_p : Nat → Nat → Int64) (a_y : Nat → Nat) (I_y : Nat → Nat → Int32) (line : Int32) (hl_p_layout : a_p 114 = a_y 0) (hPI : PI I_p) (hL : LI I_y) : PurI l g yX10_isLine wsX10_isLine 0 [.ref (a_p 0), .int line] (wX10 g a_p I_p J_p ++ wX1 g a_y I_y) (fun r => bP (0 ≤ line.toInt ∧ line.toInt < (I_y 0 6).toInt) True r) := by
  refine PurI.sz (cc := cX10_isLine) (maxL := 2) (by decide) rfl (Nat.le_of_ble_eq_true rfl) (fun p e s m args below meth c Q ls fx hK hP hl hret => ?_)
  have hx := fx.1
  have hb := fx.2.1
  have hml := fx.2.2.1
  have hown := fx.2.2.2.1
  have hts := fx.2.2.2.2
  have hl : lv_has ls 2 [(0, .ref (a_p 0)), (1, .int line)] := hl
  have hP : va_P g.1 vwCl (wX10 g a_p I_p J_p ++ wX1 g a_y I_y) s.heap := hP
  have hf_61 := hts _ (uT _ _ u_37)
  have hf_78 := hts _ (uT _ _ u_46)
  have hf_238 := hts _ (uT _ _ u_868)
  have hi_X1 : ∀ w ∈ wsX10, w.before args s = true := fun w h => hts w (uT _ w (u_wsX10 w h))
  have hi_X10 : ∀ w ∈ wsX100, w.before args s = true := fun w h => hts w (uT _ w (u_wsX100 w h))
  have lm1 : (-1 : Int32).toInt = -1 := by decide
  have lm0 : (0 : Int32).toInt = 0 := by decide
  have lm2 : (1 : Int32).toInt = 1 := by decide
  have hp1 := hPI.1
  have hp2 := hPI.2.1
  have hpc := LI.pc hL
  have hln := LI.ln hL
  have hwd := LI.wd hL
  refine lv_aload_n hx hb dX10_isLine_0 rfl (lv_at hl 0 rfl) ?_
  refine va_get (D := g.1) (ci := 10) (v := .int (I_p 0 11)) (C := RX10) (T := TX10) (N := 20) hx hb hi_X10 (fun _ h => h) hown hK.1 hP 0 rfl rfl 11 (by decide) hf_61 (fun _ h9 => h9) rfl dX10_isLine_1 ?_
  refine q_if_eq (tgt := 26) hx hb dX10_isLine_4 (by decide) rfl (fun b_4 k_4 => ?_) (fun b_4 k_4 => ?_)
  · refine lv_iconst (v := 0) hx hb dX10_isLine_26 (by decide) ?_
    exact hret 27 ls (0 : Int32) dX10_isLine_27 (Or.inl rfl) (by first | exact Or.inr ⟨rfl, trivial⟩ | exact Or.inl ⟨rfl, by omega⟩)
  · refine lv_iload_n hx hb dX10_isLine_7 rfl (lv_at hl 1 rfl) ?_
    refine q_if_lt (tgt := 26) hx hb dX10_isLine_8 (by decide) rfl (fun k_8 => ?_) (fun k_8 => ?_)
    · refine lv_iconst (v := 0) hx hb dX10_isLine_26 (by decide) ?_
      exact hret 27 ls (0 : Int32) dX10_isLine_27 (Or.inl rfl) (by first | exact Or.inr ⟨rfl, trivial⟩ | exact Or.inl ⟨rfl, by omega⟩)
    · refine lv_iload_n hx hb dX10_isLine_11 rfl (lv_at hl 1 rfl) ?_
      refine lv_aload_n hx hb dX10_isLine_12 rfl (lv_at hl 0 rfl) ?_
      refine va_get (D := g.1) (ci := 10) (v := .ref (a_y 0)) (C := RX10) (T := TX10) (N := 20) hx hb hi_X10 (fun _ h => h) hown hK.1 hP 0 rfl rfl 14 (by decide) hf_78 (fun _ h9 => h9) (congrArg (fun z => some (Value.ref z)) hl_p_layout) dX10_isLine_13 ?_
      refine va_get (D := g.1) (ci := 1) (v := .int (I_y 0 6)) (C := RX1) (T := TX1) (N := 9) hx hb hi_X1 (fun _ h => h) hown hK.1 hP 2 rfl rfl 6 (by decide) hf_238 (fun _ h9 => h9) rfl dX10_isLine_16 ?_
      refine q_icmp_ge (tgt := 26) hx hb dX10_isLine_19 (by decide) rfl rfl (fun k_19 => ?_) (fun k_19 => ?_)
      · refine lv_iconst (v := 0) hx hb dX10_isLine_26 (by decide) ?_
        exact hret 27 ls (0 : Int32) dX10_isLine_27 (Or.inl rfl) (by first | exact Or.inr ⟨rfl, trivial⟩ | exact Or.inl ⟨rfl, by omega⟩)
      · refine lv_iconst (v := 1) hx hb dX10_isLine_22 (by decide) ?_
        refine lv_goto (tgt := 27) hx hb dX10_isLine_23 (by decide) ?_
        have lr : (1 : Int32).toInt = 1 := by decide
        exact hret 27 ls (1 : Int32) dX10_isLine_27 (Or.inr rfl) (by first | exact Or.inr ⟨rfl, trivial⟩ | exact Or.inl ⟨rfl, by omega⟩)

set_option maxHeartbeats 4000000 in
set_option maxRecDepth 100000 in
theorem kX10_cellInLine (l : Launch) (g : gG) (a_p : Nat → Nat) (I_p : Nat → Nat → Int32) (J_p : Nat → Nat → Int64) (a_t : Nat → Nat) (I_t : Nat → Nat → Int32) (a_e : Nat → Nat) (I_e : Nat → Nat → Int32) (a_y : Nat → Nat) (I_y : Nat → Nat → Int32) (line : Int32) (k : Int32) (hl_p_table : a_p 109 = a_t 0) (hl_p_shown : a_p 112 = a_e 0) (hl_p_layout : a_p 114 = a_y 0) (hPI : PI I_p) (hT : TI I_t) (hE : EI I_e) (hL : LI I_y) (h_l : 0 ≤ line.toInt ∧ line.toInt < 550) (h_k : 0 ≤ k.toInt) : PurI l g yX10_cellInLine wsX10_cellInLine 1 [.ref (a_p 0), .int line, .int k] (wX10 g a_p I_p J_p ++ (wX7 g a_t I_t ++ (wX6 g a_e I_e ++ wX1 g a_y I_y))) (fun r => True) := by
  refine PurI.st (cc := cX10_cellInLine) (maxL := 3) (by decide) rfl (Nat.le_of_ble_eq_true rfl) (fun p e s m args below meth c Q ls fx hK hP hl hret => ?_)
  have hx := fx.1
  have hb := fx.2.1
  have hml := fx.2.2.1
  have hown := fx.2.2.2.1
  have hts := fx.2.2.2.2
  have hl : lv_has ls 3 [(0, .ref (a_p 0)), (1, .int line), (2, .int k)] := hl
  have hP : va_P g.1 vwCl (wX10 g a_p I_p J_p ++ (wX7 g a_t I_t ++ (wX6 g a_e I_e ++ wX1 g a_y I_y))) s.heap := hP
  have hf_50 := hts _ (uT _ _ u_32)
  have hf_68 := hts _ (uT _ _ u_41)
  have hf_78 := hts _ (uT _ _ u_46)
  have hf_206 := hts _ (uT _ _ u_780)
  have hf_259 := hts _ (uT _ _ u_906)
  have hf_271 := hts _ (uT _ _ u_943)
  have hf_274 := hts _ (uT _ _ u_944)
  have hi_X1 : ∀ w ∈ wsX10, w.before args s = true := fun w h => hts w (uT _ w (u_wsX10 w h))
  have hi_X10 : ∀ w ∈ wsX100, w.before args s = true := fun w h => hts w (uT _ w (u_wsX100 w h))
  have hi_X6 : ∀ w ∈ wsX60, w.before args s = true := fun w h => hts w (uT _ w (u_wsX60 w h))
  have hi_X7 : ∀ w ∈ wsX70, w.before args s = true := fun w h => hts w (uT _ w (u_wsX70 w h))
  have lm1 : (-1 : Int32).toInt = -1 := by decide
  have lm0 : (0 : Int32).toInt = 0 := by decide
  have lm2 : (1 : Int32).toInt = 1 := by decide
  have hp1 := hPI.1
  have hp2 := hPI.2.1
  have hru := TI.ru hT
  have hlt3 := TI.li hT
  have hlt4 := TI.pa hT
  have hE0 := hE.1
  have hE1 := hE.2
  have hpc := LI.pc hL
  have hln := LI.ln hL
  have hwd := LI.wd hL
  have lq2 : (2 : Int32).toInt = 2 := by decide
  refine lv_iload_n hx hb dX10_cellInLine_0 rfl (lv_at hl 2 rfl) ?_
  refine lv_aload_n hx hb dX10_cellInLine_1 rfl (lv_at hl 0 rfl) ?_
  refine va_get (D := g.1) (ci := 10) (v := .ref (a_y 0)) (C := RX10) (T := TX10) (N := 20) hx hb hi_X10 (fun _ h => h) hown hK.1 hP 0 rfl rfl 14 (by decide) hf_78 (fun _ h9 => h9) (congrArg (fun z => some (Value.ref z)) hl_p_layout) dX10_cellInLine_2 ?_
  refine va_get (D := g.1) (ci := 1) (v := .ref (a_y 4)) (C := RX1) (T := TX1) (N := 9) hx hb hi_X1 (fun _ h => h) hown hK.1 hP 13 rfl rfl 4 (by decide) hf_271 (fun _ h9 => h9) rfl dX10_cellInLine_5 ?_
  refine lv_iload_n hx hb dX10_cellInLine_8 rfl (lv_at hl 1 rfl) ?_
  have n_9 : vp_in line 550 := (t_in (by omega))
  refine va_iald hx hb hK.1 hP 17 0 rfl rfl n_9 dX10_cellInLine_9 ?_
  refine q_nm (fun x1 e_x1 => ?_)
  have e_x1 : x1 = (I_y 4) line.toNatClampNeg := e_x1
  have g_x1 : x1.toInt = ((I_y 4) line.toNatClampNeg).toInt := congrArg _ e_x1
  have f_x1 := LI.li hL line.toNatClampNeg
  rw [← e_x1] at f_x1
  refine q_icmp_ge (tgt := 33) hx hb dX10_cellInLine_10 (by decide) rfl rfl (fun k_10 => ?_) (fun k_10 => ?_)
  · refine lv_iload_n hx hb dX10_cellInLine_33 rfl (lv_at hl 2 rfl) ?_
    refine lv_aload_n hx hb dX10_cellInLine_34 rfl (lv_at hl 0 rfl) ?_
    refine va_get (D := g.1) (ci := 10) (v := .ref (a_y 0)) (C := RX10) (T := TX10) (N := 20) hx hb hi_X10 (fun _ h => h) hown hK.1 hP 0 rfl rfl 14 (by decide) hf_78 (fun _ h9 => h9) (congrArg (fun z => some (Value.ref z)) hl_p_layout) dX10_cellInLine_35 ?_
    refine lv_iload_n hx hb dX10_cellInLine_38 rfl (lv_at hl 1 rfl) ?_
    refine PurI.cv (As := [.int line]) (kX1_lengthOf l g a_y I_y line hL (by omega)) fx (gUV (uT _) u_923 u_924 u_925 u_45 u_926) rfl hdX1_lengthOf ⟨Nat.le_of_ble_eq_true rfl, Nat.le_of_ble_eq_true rfl⟩ hK hP [13, 14, 15, 16, 17, 18, 19] rfl rfl rfl rfl rfl hl.1 (Nat.le_of_ble_eq_true rfl) dX10_cellInLine_39 (fun r2 p_r2 => ?_)
    refine q_icmp_ge (tgt := 57) hx hb dX10_cellInLine_42 (by decide) rfl rfl (fun k_42 => ?_) (fun k_42 => ?_)
    · refine lv_iconst (v := 0) hx hb dX10_cellInLine_57 (by decide) ?_
      exact hret 58 ls (0 : Int32) dX10_cellInLine_58 trivial
    · refine lv_aload_n hx hb dX10_cellInLine_45 rfl (lv_at hl 0 rfl) ?_
      refine va_get (D := g.1) (ci := 10) (v := .ref (a_t 0)) (C := RX10) (T := TX10) (N := 20) hx hb hi_X10 (fun _ h => h) hown hK.1 hP 0 rfl rfl 9 (by decide) hf_50 (fun _ h9 => h9) (congrArg (fun z => some (Value.ref z)) hl_p_table) dX10_cellInLine_46 ?_
      refine va_get (D := g.1) (ci := 7) (v := .ref (a_t 1)) (C := RX7) (T := TX7) (N := 8) hx hb hi_X7 (fun _ h => h) hown hK.1 hP 2 rfl rfl 2 (by decide) hf_206 (fun _ h9 => h9) rfl dX10_cellInLine_49 ?_
      refine lv_iconst (v := 2) hx hb dX10_cellInLine_52 (by decide) ?_
      have n_53 : vp_in (2 : Int32) 5 := (t_in (by decide))
      refine va_iald hx hb hK.1 hP 3 0 rfl rfl n_53 dX10_cellInLine_53 ?_
      refine q_nm (fun x3 e_x3 => ?_)
      have e_x3 : x3 = (I_t 1) 2 := e_x3
      have g_x3 : x3.toInt = ((I_t 1) 2).toInt := congrArg _ e_x3
      have f_x3 := TI.sg hT 2
      rw [← e_x3] at f_x3
      refine lv_goto (tgt := 58) hx hb dX10_cellInLine_54 (by decide) ?_
      exact hret 58 ls x3 dX10_cellInLine_58 trivial
  · refine lv_aload_n hx hb dX10_cellInLine_13 rfl (lv_at hl 0 rfl) ?_
    refine va_get (D := g.1) (ci := 10) (v := .ref (a_e 0)) (C := RX10) (T := TX10) (N := 20) hx hb hi_X10 (fun _ h => h) hown hK.1 hP 0 rfl rfl 12 (by decide) hf_68 (fun _ h9 => h9) (congrArg (fun z => some (Value.ref z)) hl_p_shown) dX10_cellInLine_14 ?_
    refine va_get (D := g.1) (ci := 6) (v := .ref (a_e 1)) (C := RX6) (T := TX6) (N := 10) hx hb hi_X6 (fun _ h => h) hown hK.1 hP 9 rfl rfl 0 (by decide) hf_259 (fun _ h9 => h9) rfl dX10_cellInLine_17 ?_
    refine lv_aload_n hx hb dX10_cellInLine_20 rfl (lv_at hl 0 rfl) ?_
    refine va_get (D := g.1) (ci := 10) (v := .ref (a_y 0)) (C := RX10) (T := TX10) (N := 20) hx hb hi_X10 (fun _ h => h) hown hK.1 hP 0 rfl rfl 14 (by decide) hf_78 (fun _ h9 => h9) (congrArg (fun z => some (Value.ref z)) hl_p_layout) dX10_cellInLine_21 ?_
    refine va_get (D := g.1) (ci := 1) (v := .ref (a_y 3)) (C := RX1) (T := TX1) (N := 9) hx hb hi_X1 (fun _ h => h) hown hK.1 hP 13 rfl rfl 3 (by decide) hf_274 (fun _ h9 => h9) rfl dX10_cellInLine_24 ?_
    refine lv_iload_n hx hb dX10_cellInLine_27 rfl (lv_at hl 1 rfl) ?_
    have n_28 : vp_in line 550 := (t_in (by omega))
    refine va_iald hx hb hK.1 hP 16 0 rfl rfl n_28 dX10_cellInLine_28 ?_
    refine q_nm (fun x4 e_x4 => ?_)
    have e_x4 : x4 = (I_y 3) line.toNatClampNeg := e_x4
    have g_x4 : x4.toInt = ((I_y 3) line.toNatClampNeg).toInt := congrArg _ e_x4
    have f_x4 := LI.li hL line.toNatClampNeg
    rw [← e_x4] at f_x4
    refine lv_iload_n hx hb dX10_cellInLine_29 rfl (lv_at hl 2 rfl) ?_
    refine r_iadd hx hb dX10_cellInLine_30 rfl rfl (fun x5 e_x5 t_x5 => ?_)
    try have t_x5 := t_x5 (by omega)
    have n_31 : vp_in x5 1200 := (t_in (by omega))
    refine va_iald hx hb hK.1 hP 10 0 rfl rfl n_31 dX10_cellInLine_31 ?_
    refine q_nm (fun x6 e_x6 => ?_)
    have e_x6 : x6 = (I_e 1) x5.toNatClampNeg := e_x6
    have g_x6 : x6.toInt = ((I_e 1) x5.toNatClampNeg).toInt := congrArg _ e_x6
    exact hret 32 ls x6 dX10_cellInLine_32 trivial

set_option maxHeartbeats 4000000 in
set_option maxRecDepth 100000 in
theorem kX10_size (l : Launch) (g : gG) (a_p : Nat → Nat) (I_p : Nat → Nat → Int32) (J_p : Nat → Nat → Int64) (a_t : Nat → Nat) (I_t : Nat → Nat → Int32) (a_e : Nat → Nat) (I_e : Nat → Nat → Int32) (a_y : Nat → Nat) (I_y : Nat → Nat → Int32) (what : Int32) (hl_p_table : a_p 109 = a_t 0) (hl_p_shown : a_p 112 = a_e 0) (hl_p_layout : a_p 114 = a_y 0) (hPI : PI I_p) (hT : TI I_t) (hE : EI I_e) (hL : LI I_y) : EffI l g yX10_size wsX10_size 2 [.ref (a_p 0), .int what] (wX10 g a_p I_p J_p ++ (wX7 g a_t I_t ++ (wX6 g a_e I_e ++ wX1 g a_y I_y))) (fun (u : (Nat → Nat → Int32)) => wX10 g a_p u J_p ++ (wX7 g a_t I_t ++ (wX6 g a_e I_e ++ wX1 g a_y I_y))) (fun r (u : (Nat → Nat → Int32)) => PI (u) ∧ KP I_p (u)) := by
  refine EffI.st (cc := cX10_size) (maxL := 2) (by decide) rfl (Nat.le_of_ble_eq_true rfl) (fun p e s m args below meth c A Q ls fx hK hP hD hA hS hl hret => ?_)
  have hx := fx.1
  have hb := fx.2.1
  have hml := fx.2.2.1
  have hown := fx.2.2.2.1
  have hts := fx.2.2.2.2
  have hl : lv_has ls 2 [(0, .ref (a_p 0)), (1, .int what)] := hl
  have hP : va_P g.1 vwCl (wX10 g a_p I_p J_p ++ (wX7 g a_t I_t ++ (wX6 g a_e I_e ++ wX1 g a_y I_y))) s.heap := hP
  have hf_61 := hts _ (uT _ _ u_37)
  have hf_68 := hts _ (uT _ _ u_41)
  have hf_78 := hts _ (uT _ _ u_46)
  have hf_200 := hts _ (uT _ _ u_596)
  have hf_238 := hts _ (uT _ _ u_868)
  have hf_245 := hts _ (uT _ _ u_869)
  have hi_X1 : ∀ w ∈ wsX10, w.before args s = true := fun w h => hts w (uT _ w (u_wsX10 w h))
  have hi_X10 : ∀ w ∈ wsX100, w.before args s = true := fun w h => hts w (uT _ w (u_wsX100 w h))
  have hi_X6 : ∀ w ∈ wsX60, w.before args s = true := fun w h => hts w (uT _ w (u_wsX60 w h))
  have lm1 : (-1 : Int32).toInt = -1 := by decide
  have lm0 : (0 : Int32).toInt = 0 := by decide
  have lm2 : (1 : Int32).toInt = 1 := by decide
  have hp1 := hPI.1
  have hp2 := hPI.2.1
  have hru := TI.ru hT
  have hlt3 := TI.li hT
  have hlt4 := TI.pa hT
  have hE0 := hE.1
  have hE1 := hE.2
  have hpc := LI.pc hL
  have hln := LI.ln hL
  have hwd := LI.wd hL
  have lq4 : (4 : Int32).toInt = 4 := by decide
  have lq6 : (6 : Int32).toInt = 6 := by decide
  refine lv_iload_n hx hb dX10_size_0 rfl (lv_at hl 1 rfl) ?_
  refine q_if_lt (tgt := 9) hx hb dX10_size_1 (by decide) rfl (fun k_1 => ?_) (fun k_1 => ?_)
  · refine lv_aload_n hx hb dX10_size_9 rfl (lv_at hl 0 rfl) ?_
    refine lv_iconst (v := 1) hx hb dX10_size_10 (by decide) ?_
    refine EffI.cv (wr := (wX7 g a_t I_t ++ wX6 g a_e I_e ++ wX1 g a_y I_y)) (w' := fun u2 => wX10 g a_p u2 J_p ++ (wX7 g a_t I_t ++ (wX6 g a_e I_e ++ wX1 g a_y I_y))) (As := [.int (1 : Int32)]) (kX10_refuse l g a_p I_p J_p (1 : Int32)) fx (gUV (uT _) u_295 u_296 u_297 u_2 u_298) rfl hdX10_refuse ⟨Nat.le_of_ble_eq_true rfl, Nat.le_of_ble_eq_true rfl⟩ hK hP hD hS hA [0, 1] [2, 3, 4, 5, 6, 7, 8, 9, 10, 11, 12, 13, 14, 15, 16, 17, 18, 19] [18, 19, 0, 1, 2, 3, 4, 5, 6, 7, 8, 9, 10, 11, 12, 13, 14, 15, 16, 17] rfl rfl rfl rfl (by decide) rfl (fun _ => rfl) rfl rfl rfl rfl hl.1 (Nat.le_of_ble_eq_true rfl) dX10_size_11 (fun r1 u2 H locs p_r1 hP hD hS => ?_)
    have hP : va_P g.1 vwCl (wX10 g a_p u2 J_p ++ (wX7 g a_t I_t ++ (wX6 g a_e I_e ++ wX1 g a_y I_y))) H := hP
    have hD : va_D A (wX10 g a_p u2 J_p ++ (wX7 g a_t I_t ++ (wX6 g a_e I_e ++ wX1 g a_y I_y))) := hD
    refine hret 14 ls r1 _ _ u2 dX10_size_14 hS hP hD ?_
    exact ⟨(PI.st hPI p_r1.2), (KP.tr (KP.rf I_p) (KP.st p_r1.2))⟩
  · refine lv_iload_n hx hb dX10_size_4 rfl (lv_at hl 1 rfl) ?_
    refine lv_iconst (v := 4) hx hb dX10_size_5 (by decide) ?_
    refine q_icmp_le (tgt := 15) hx hb dX10_size_6 (by decide) rfl (by decide : (4 : Int32).toInt = 4) (fun k_6 => ?_) (fun k_6 => ?_)
    · refine lv_aload_n hx hb dX10_size_15 rfl (lv_at hl 0 rfl) ?_
      refine va_get (D := g.1) (ci := 10) (v := .int (I_p 0 11)) (C := RX10) (T := TX10) (N := 20) hx hb hi_X10 (fun _ h => h) hown hK.1 hP 0 rfl rfl 11 (by decide) hf_61 (fun _ h9 => h9) rfl dX10_size_16 ?_
      refine q_if_ne (tgt := 29) hx hb dX10_size_19 (by decide) rfl (fun b_19 k_19 => ?_) (fun b_19 k_19 => ?_)
      · refine lv_iload_n hx hb dX10_size_29 rfl (lv_at hl 1 rfl) ?_
        have sw_30 : what.toInt < 0 ∨ 3 < what.toInt ∨ what.toInt = 0 ∨ what.toInt = 1 ∨ what.toInt = 2 ∨ what.toInt = 3 := by omega
        rcases sw_30 with k_30 | k_30 | k_30 | k_30 | k_30 | k_30
        · refine lv_tableOut (tgt := 105) hx hb dX10_size_30 (by omega) (by decide) ?_
          refine lv_aload_n hx hb dX10_size_105 rfl (lv_at hl 0 rfl) ?_
          refine lv_aload_n hx hb dX10_size_106 rfl (lv_at hl 0 rfl) ?_
          refine va_get (D := g.1) (ci := 10) (v := .ref (a_e 0)) (C := RX10) (T := TX10) (N := 20) hx hb hi_X10 (fun _ h => h) hown hK.1 hP 0 rfl rfl 12 (by decide) hf_68 (fun _ h9 => h9) (congrArg (fun z => some (Value.ref z)) hl_p_shown) dX10_size_107 ?_
          refine PurI.cv (As := []) (kX6_usedInAll l g a_e I_e) fx (gUV (uT _) u_875 u_876 u_877 u_40 u_878) rfl hdX6_usedInAll ⟨Nat.le_of_ble_eq_true rfl, Nat.le_of_ble_eq_true rfl⟩ hK hP [9, 10, 11, 12] rfl rfl rfl rfl rfl hl.1 (Nat.le_of_ble_eq_true rfl) dX10_size_110 (fun r3 p_r3 => ?_)
          refine EffI.cv (wr := (wX7 g a_t I_t ++ wX6 g a_e I_e ++ wX1 g a_y I_y)) (w' := fun u5 => wX10 g a_p u5 J_p ++ (wX7 g a_t I_t ++ (wX6 g a_e I_e ++ wX1 g a_y I_y))) (As := [.int r3]) (kX10_answer l g a_p I_p J_p r3) fx (gUV (uT _) u_497 u_498 u_499 u_2 u_500) rfl hdX10_answer ⟨Nat.le_of_ble_eq_true rfl, Nat.le_of_ble_eq_true rfl⟩ hK hP hD hS hA [0, 1] [2, 3, 4, 5, 6, 7, 8, 9, 10, 11, 12, 13, 14, 15, 16, 17, 18, 19] [18, 19, 0, 1, 2, 3, 4, 5, 6, 7, 8, 9, 10, 11, 12, 13, 14, 15, 16, 17] rfl rfl rfl rfl (by decide) rfl (fun _ => rfl) rfl rfl rfl rfl hl.1 (Nat.le_of_ble_eq_true rfl) dX10_size_113 (fun r4 u5 H locs p_r4 hP hD hS => ?_)
          have hP : va_P g.1 vwCl (wX10 g a_p u5 J_p ++ (wX7 g a_t I_t ++ (wX6 g a_e I_e ++ wX1 g a_y I_y))) H := hP
          have hD : va_D A (wX10 g a_p u5 J_p ++ (wX7 g a_t I_t ++ (wX6 g a_e I_e ++ wX1 g a_y I_y))) := hD
          refine hret 116 ls r4 _ _ u5 dX10_size_116 hS hP hD ?_
          exact ⟨(PI.st hPI p_r4.2), (KP.tr (KP.rf I_p) (KP.st p_r4.2))⟩
        · refine lv_tableOut (tgt := 105) hx hb dX10_size_30 (by omega) (by decide) ?_
          refine lv_aload_n hx hb dX10_size_105 rfl (lv_at hl 0 rfl) ?_
          refine lv_aload_n hx hb dX10_size_106 rfl (lv_at hl 0 rfl) ?_
          refine va_get (D := g.1) (ci := 10) (v := .ref (a_e 0)) (C := RX10) (T := TX10) (N := 20) hx hb hi_X10 (fun _ h => h) hown hK.1 hP 0 rfl rfl 12 (by decide) hf_68 (fun _ h9 => h9) (congrArg (fun z => some (Value.ref z)) hl_p_shown) dX10_size_107 ?_
          refine PurI.cv (As := []) (kX6_usedInAll l g a_e I_e) fx (gUV (uT _) u_875 u_876 u_877 u_40 u_878) rfl hdX6_usedInAll ⟨Nat.le_of_ble_eq_true rfl, Nat.le_of_ble_eq_true rfl⟩ hK hP [9, 10, 11, 12] rfl rfl rfl rfl rfl hl.1 (Nat.le_of_ble_eq_true rfl) dX10_size_110 (fun r6 p_r6 => ?_)
          refine EffI.cv (wr := (wX7 g a_t I_t ++ wX6 g a_e I_e ++ wX1 g a_y I_y)) (w' := fun u8 => wX10 g a_p u8 J_p ++ (wX7 g a_t I_t ++ (wX6 g a_e I_e ++ wX1 g a_y I_y))) (As := [.int r6]) (kX10_answer l g a_p I_p J_p r6) fx (gUV (uT _) u_497 u_498 u_499 u_2 u_500) rfl hdX10_answer ⟨Nat.le_of_ble_eq_true rfl, Nat.le_of_ble_eq_true rfl⟩ hK hP hD hS hA [0, 1] [2, 3, 4, 5, 6, 7, 8, 9, 10, 11, 12, 13, 14, 15, 16, 17, 18, 19] [18, 19, 0, 1, 2, 3, 4, 5, 6, 7, 8, 9, 10, 11, 12, 13, 14, 15, 16, 17] rfl rfl rfl rfl (by decide) rfl (fun _ => rfl) rfl rfl rfl rfl hl.1 (Nat.le_of_ble_eq_true rfl) dX10_size_113 (fun r7 u8 H locs p_r7 hP hD hS => ?_)
          have hP : va_P g.1 vwCl (wX10 g a_p u8 J_p ++ (wX7 g a_t I_t ++ (wX6 g a_e I_e ++ wX1 g a_y I_y))) H := hP
          have hD : va_D A (wX10 g a_p u8 J_p ++ (wX7 g a_t I_t ++ (wX6 g a_e I_e ++ wX1 g a_y I_y))) := hD
          refine hret 116 ls r7 _ _ u8 dX10_size_116 hS hP hD ?_
          exact ⟨(PI.st hPI p_r7.2), (KP.tr (KP.rf I_p) (KP.st p_r7.2))⟩
        · refine lv_tableIn (tgt := 60) hx hb dX10_size_30 (by omega) (by omega) (by rw [k_30]; rfl) (by decide) ?_
          refine lv_aload_n hx hb dX10_size_60 rfl (lv_at hl 0 rfl) ?_
          refine lv_aload_n hx hb dX10_size_61 rfl (lv_at hl 0 rfl) ?_
          refine va_get (D := g.1) (ci := 10) (v := .ref (a_e 0)) (C := RX10) (T := TX10) (N := 20) hx hb hi_X10 (fun _ h => h) hown hK.1 hP 0 rfl rfl 12 (by decide) hf_68 (fun _ h9 => h9) (congrArg (fun z => some (Value.ref z)) hl_p_shown) dX10_size_62 ?_
          refine va_get (D := g.1) (ci := 6) (v := .int (I_e 0 3)) (C := RX6) (T := TX6) (N := 10) hx hb hi_X6 (fun _ h => h) hown hK.1 hP 9 rfl rfl 3 (by decide) hf_200 (fun _ h9 => h9) rfl dX10_size_65 ?_
          refine EffI.cv (wr := (wX7 g a_t I_t ++ wX6 g a_e I_e ++ wX1 g a_y I_y)) (w' := fun u10 => wX10 g a_p u10 J_p ++ (wX7 g a_t I_t ++ (wX6 g a_e I_e ++ wX1 g a_y I_y))) (As := [.int (I_e 0 3)]) (kX10_answer l g a_p I_p J_p (I_e 0 3)) fx (gUV (uT _) u_497 u_498 u_499 u_2 u_500) rfl hdX10_answer ⟨Nat.le_of_ble_eq_true rfl, Nat.le_of_ble_eq_true rfl⟩ hK hP hD hS hA [0, 1] [2, 3, 4, 5, 6, 7, 8, 9, 10, 11, 12, 13, 14, 15, 16, 17, 18, 19] [18, 19, 0, 1, 2, 3, 4, 5, 6, 7, 8, 9, 10, 11, 12, 13, 14, 15, 16, 17] rfl rfl rfl rfl (by decide) rfl (fun _ => rfl) rfl rfl rfl rfl hl.1 (Nat.le_of_ble_eq_true rfl) dX10_size_68 (fun r9 u10 H locs p_r9 hP hD hS => ?_)
          have hP : va_P g.1 vwCl (wX10 g a_p u10 J_p ++ (wX7 g a_t I_t ++ (wX6 g a_e I_e ++ wX1 g a_y I_y))) H := hP
          have hD : va_D A (wX10 g a_p u10 J_p ++ (wX7 g a_t I_t ++ (wX6 g a_e I_e ++ wX1 g a_y I_y))) := hD
          refine hret 71 ls r9 _ _ u10 dX10_size_71 hS hP hD ?_
          exact ⟨(PI.st hPI p_r9.2), (KP.tr (KP.rf I_p) (KP.st p_r9.2))⟩
        · refine lv_tableIn (tgt := 72) hx hb dX10_size_30 (by omega) (by omega) (by rw [k_30]; rfl) (by decide) ?_
          refine lv_aload_n hx hb dX10_size_72 rfl (lv_at hl 0 rfl) ?_
          refine lv_aload_n hx hb dX10_size_73 rfl (lv_at hl 0 rfl) ?_
          refine va_get (D := g.1) (ci := 10) (v := .ref (a_y 0)) (C := RX10) (T := TX10) (N := 20) hx hb hi_X10 (fun _ h => h) hown hK.1 hP 0 rfl rfl 14 (by decide) hf_78 (fun _ h9 => h9) (congrArg (fun z => some (Value.ref z)) hl_p_layout) dX10_size_74 ?_
          refine va_get (D := g.1) (ci := 1) (v := .int (I_y 0 6)) (C := RX1) (T := TX1) (N := 9) hx hb hi_X1 (fun _ h => h) hown hK.1 hP 13 rfl rfl 6 (by decide) hf_238 (fun _ h9 => h9) rfl dX10_size_77 ?_
          refine EffI.cv (wr := (wX7 g a_t I_t ++ wX6 g a_e I_e ++ wX1 g a_y I_y)) (w' := fun u12 => wX10 g a_p u12 J_p ++ (wX7 g a_t I_t ++ (wX6 g a_e I_e ++ wX1 g a_y I_y))) (As := [.int (I_y 0 6)]) (kX10_answer l g a_p I_p J_p (I_y 0 6)) fx (gUV (uT _) u_497 u_498 u_499 u_2 u_500) rfl hdX10_answer ⟨Nat.le_of_ble_eq_true rfl, Nat.le_of_ble_eq_true rfl⟩ hK hP hD hS hA [0, 1] [2, 3, 4, 5, 6, 7, 8, 9, 10, 11, 12, 13, 14, 15, 16, 17, 18, 19] [18, 19, 0, 1, 2, 3, 4, 5, 6, 7, 8, 9, 10, 11, 12, 13, 14, 15, 16, 17] rfl rfl rfl rfl (by decide) rfl (fun _ => rfl) rfl rfl rfl rfl hl.1 (Nat.le_of_ble_eq_true rfl) dX10_size_80 (fun r11 u12 H locs p_r11 hP hD hS => ?_)
          have hP : va_P g.1 vwCl (wX10 g a_p u12 J_p ++ (wX7 g a_t I_t ++ (wX6 g a_e I_e ++ wX1 g a_y I_y))) H := hP
          have hD : va_D A (wX10 g a_p u12 J_p ++ (wX7 g a_t I_t ++ (wX6 g a_e I_e ++ wX1 g a_y I_y))) := hD
          refine hret 83 ls r11 _ _ u12 dX10_size_83 hS hP hD ?_
          exact ⟨(PI.st hPI p_r11.2), (KP.tr (KP.rf I_p) (KP.st p_r11.2))⟩
        · refine lv_tableIn (tgt := 84) hx hb dX10_size_30 (by omega) (by omega) (by rw [k_30]; rfl) (by decide) ?_
          refine lv_aload_n hx hb dX10_size_84 rfl (lv_at hl 0 rfl) ?_
          refine lv_aload_n hx hb dX10_size_85 rfl (lv_at hl 0 rfl) ?_
          refine PurI.cv (As := []) (kX10_pages l g a_p I_p J_p a_t I_t a_y I_y hl_p_table hl_p_layout hPI hT hL) fx (gUV (uT _) u_870 u_871 u_872 u_2 u_873) rfl hdX10_pages ⟨Nat.le_of_ble_eq_true rfl, Nat.le_of_ble_eq_true rfl⟩ hK hP [0, 1, 2, 3, 4, 5, 6, 7, 8, 13, 14, 15, 16, 17, 18, 19] rfl rfl rfl rfl rfl hl.1 (Nat.le_of_ble_eq_true rfl) dX10_size_86 (fun r13 p_r13 => ?_)
          refine EffI.cv (wr := (wX7 g a_t I_t ++ wX6 g a_e I_e ++ wX1 g a_y I_y)) (w' := fun u15 => wX10 g a_p u15 J_p ++ (wX7 g a_t I_t ++ (wX6 g a_e I_e ++ wX1 g a_y I_y))) (As := [.int r13]) (kX10_answer l g a_p I_p J_p r13) fx (gUV (uT _) u_497 u_498 u_499 u_2 u_500) rfl hdX10_answer ⟨Nat.le_of_ble_eq_true rfl, Nat.le_of_ble_eq_true rfl⟩ hK hP hD hS hA [0, 1] [2, 3, 4, 5, 6, 7, 8, 9, 10, 11, 12, 13, 14, 15, 16, 17, 18, 19] [18, 19, 0, 1, 2, 3, 4, 5, 6, 7, 8, 9, 10, 11, 12, 13, 14, 15, 16, 17] rfl rfl rfl rfl (by decide) rfl (fun _ => rfl) rfl rfl rfl rfl hl.1 (Nat.le_of_ble_eq_true rfl) dX10_size_89 (fun r14 u15 H locs p_r14 hP hD hS => ?_)
          have hP : va_P g.1 vwCl (wX10 g a_p u15 J_p ++ (wX7 g a_t I_t ++ (wX6 g a_e I_e ++ wX1 g a_y I_y))) H := hP
          have hD : va_D A (wX10 g a_p u15 J_p ++ (wX7 g a_t I_t ++ (wX6 g a_e I_e ++ wX1 g a_y I_y))) := hD
          refine hret 92 ls r14 _ _ u15 dX10_size_92 hS hP hD ?_
          exact ⟨(PI.st hPI p_r14.2), (KP.tr (KP.rf I_p) (KP.st p_r14.2))⟩
        · refine lv_tableIn (tgt := 93) hx hb dX10_size_30 (by omega) (by omega) (by rw [k_30]; rfl) (by decide) ?_
          refine lv_aload_n hx hb dX10_size_93 rfl (lv_at hl 0 rfl) ?_
          refine lv_aload_n hx hb dX10_size_94 rfl (lv_at hl 0 rfl) ?_
          refine va_get (D := g.1) (ci := 10) (v := .ref (a_y 0)) (C := RX10) (T := TX10) (N := 20) hx hb hi_X10 (fun _ h => h) hown hK.1 hP 0 rfl rfl 14 (by decide) hf_78 (fun _ h9 => h9) (congrArg (fun z => some (Value.ref z)) hl_p_layout) dX10_size_95 ?_
          refine va_get (D := g.1) (ci := 1) (v := .int (I_y 0 2)) (C := RX1) (T := TX1) (N := 9) hx hb hi_X1 (fun _ h => h) hown hK.1 hP 13 rfl rfl 2 (by decide) hf_245 (fun _ h9 => h9) rfl dX10_size_98 ?_
          refine EffI.cv (wr := (wX7 g a_t I_t ++ wX6 g a_e I_e ++ wX1 g a_y I_y)) (w' := fun u17 => wX10 g a_p u17 J_p ++ (wX7 g a_t I_t ++ (wX6 g a_e I_e ++ wX1 g a_y I_y))) (As := [.int (I_y 0 2)]) (kX10_answer l g a_p I_p J_p (I_y 0 2)) fx (gUV (uT _) u_497 u_498 u_499 u_2 u_500) rfl hdX10_answer ⟨Nat.le_of_ble_eq_true rfl, Nat.le_of_ble_eq_true rfl⟩ hK hP hD hS hA [0, 1] [2, 3, 4, 5, 6, 7, 8, 9, 10, 11, 12, 13, 14, 15, 16, 17, 18, 19] [18, 19, 0, 1, 2, 3, 4, 5, 6, 7, 8, 9, 10, 11, 12, 13, 14, 15, 16, 17] rfl rfl rfl rfl (by decide) rfl (fun _ => rfl) rfl rfl rfl rfl hl.1 (Nat.le_of_ble_eq_true rfl) dX10_size_101 (fun r16 u17 H locs p_r16 hP hD hS => ?_)
          have hP : va_P g.1 vwCl (wX10 g a_p u17 J_p ++ (wX7 g a_t I_t ++ (wX6 g a_e I_e ++ wX1 g a_y I_y))) H := hP
          have hD : va_D A (wX10 g a_p u17 J_p ++ (wX7 g a_t I_t ++ (wX6 g a_e I_e ++ wX1 g a_y I_y))) := hD
          refine hret 104 ls r16 _ _ u17 dX10_size_104 hS hP hD ?_
          exact ⟨(PI.st hPI p_r16.2), (KP.tr (KP.rf I_p) (KP.st p_r16.2))⟩
      · refine lv_aload_n hx hb dX10_size_22 rfl (lv_at hl 0 rfl) ?_
        refine lv_bipush (v := 6) hx hb dX10_size_23 (by decide) ?_
        refine EffI.cv (wr := (wX7 g a_t I_t ++ wX6 g a_e I_e ++ wX1 g a_y I_y)) (w' := fun u19 => wX10 g a_p u19 J_p ++ (wX7 g a_t I_t ++ (wX6 g a_e I_e ++ wX1 g a_y I_y))) (As := [.int (6 : Int32)]) (kX10_refuse l g a_p I_p J_p (6 : Int32)) fx (gUV (uT _) u_295 u_296 u_297 u_2 u_298) rfl hdX10_refuse ⟨Nat.le_of_ble_eq_true rfl, Nat.le_of_ble_eq_true rfl⟩ hK hP hD hS hA [0, 1] [2, 3, 4, 5, 6, 7, 8, 9, 10, 11, 12, 13, 14, 15, 16, 17, 18, 19] [18, 19, 0, 1, 2, 3, 4, 5, 6, 7, 8, 9, 10, 11, 12, 13, 14, 15, 16, 17] rfl rfl rfl rfl (by decide) rfl (fun _ => rfl) rfl rfl rfl rfl hl.1 (Nat.le_of_ble_eq_true rfl) dX10_size_25 (fun r18 u19 H locs p_r18 hP hD hS => ?_)
        have hP : va_P g.1 vwCl (wX10 g a_p u19 J_p ++ (wX7 g a_t I_t ++ (wX6 g a_e I_e ++ wX1 g a_y I_y))) H := hP
        have hD : va_D A (wX10 g a_p u19 J_p ++ (wX7 g a_t I_t ++ (wX6 g a_e I_e ++ wX1 g a_y I_y))) := hD
        refine hret 28 ls r18 _ _ u19 dX10_size_28 hS hP hD ?_
        exact ⟨(PI.st hPI p_r18.2), (KP.tr (KP.rf I_p) (KP.st p_r18.2))⟩
    · refine lv_aload_n hx hb dX10_size_9 rfl (lv_at hl 0 rfl) ?_
      refine lv_iconst (v := 1) hx hb dX10_size_10 (by decide) ?_
      refine EffI.cv (wr := (wX7 g a_t I_t ++ wX6 g a_e I_e ++ wX1 g a_y I_y)) (w' := fun u21 => wX10 g a_p u21 J_p ++ (wX7 g a_t I_t ++ (wX6 g a_e I_e ++ wX1 g a_y I_y))) (As := [.int (1 : Int32)]) (kX10_refuse l g a_p I_p J_p (1 : Int32)) fx (gUV (uT _) u_295 u_296 u_297 u_2 u_298) rfl hdX10_refuse ⟨Nat.le_of_ble_eq_true rfl, Nat.le_of_ble_eq_true rfl⟩ hK hP hD hS hA [0, 1] [2, 3, 4, 5, 6, 7, 8, 9, 10, 11, 12, 13, 14, 15, 16, 17, 18, 19] [18, 19, 0, 1, 2, 3, 4, 5, 6, 7, 8, 9, 10, 11, 12, 13, 14, 15, 16, 17] rfl rfl rfl rfl (by decide) rfl (fun _ => rfl) rfl rfl rfl rfl hl.1 (Nat.le_of_ble_eq_true rfl) dX10_size_11 (fun r20 u21 H locs p_r20 hP hD hS => ?_)
      have hP : va_P g.1 vwCl (wX10 g a_p u21 J_p ++ (wX7 g a_t I_t ++ (wX6 g a_e I_e ++ wX1 g a_y I_y))) H := hP
      have hD : va_D A (wX10 g a_p u21 J_p ++ (wX7 g a_t I_t ++ (wX6 g a_e I_e ++ wX1 g a_y I_y))) := hD
      refine hret 14 ls r20 _ _ u21 dX10_size_14 hS hP hD ?_
      exact ⟨(PI.st hPI p_r20.2), (KP.tr (KP.rf I_p) (KP.st p_r20.2))⟩

set_option maxHeartbeats 4000000 in
set_option maxRecDepth 100000 in
theorem kX10_cell (l : Launch) (g : gG) (a_p : Nat → Nat) (I_p : Nat → Nat → Int32) (J_p : Nat → Nat → Int64) (a_e : Nat → Nat) (I_e : Nat → Nat → Int32) (k : Int32) (hl_p_shown : a_p 112 = a_e 0) (hPI : PI I_p) (hE : EI I_e) : EffI l g yX10_cell wsX10_cell 1 [.ref (a_p 0), .int k] (wX10 g a_p I_p J_p ++ wX6 g a_e I_e) (fun (u : (Nat → Nat → Int32)) => wX10 g a_p u J_p ++ wX6 g a_e I_e) (fun r (u : (Nat → Nat → Int32)) => PI (u) ∧ KP I_p (u)) := by
  refine EffI.st (cc := cX10_cell) (maxL := 2) (by decide) rfl (Nat.le_of_ble_eq_true rfl) (fun p e s m args below meth c A Q ls fx hK hP hD hA hS hl hret => ?_)
  have hx := fx.1
  have hb := fx.2.1
  have hml := fx.2.2.1
  have hown := fx.2.2.2.1
  have hts := fx.2.2.2.2
  have hl : lv_has ls 2 [(0, .ref (a_p 0)), (1, .int k)] := hl
  have hP : va_P g.1 vwCl (wX10 g a_p I_p J_p ++ wX6 g a_e I_e) s.heap := hP
  have hf_68 := hts _ (uT _ _ u_41)
  have hf_259 := hts _ (uT _ _ u_906)
  have hi_X10 : ∀ w ∈ wsX100, w.before args s = true := fun w h => hts w (uT _ w (u_wsX100 w h))
  have hi_X6 : ∀ w ∈ wsX60, w.before args s = true := fun w h => hts w (uT _ w (u_wsX60 w h))
  have lm1 : (-1 : Int32).toInt = -1 := by decide
  have lm0 : (0 : Int32).toInt = 0 := by decide
  have lm2 : (1 : Int32).toInt = 1 := by decide
  have hp1 := hPI.1
  have hp2 := hPI.2.1
  have hE0 := hE.1
  have hE1 := hE.2
  have lq6 : (6 : Int32).toInt = 6 := by decide
  refine lv_aload_n hx hb dX10_cell_0 rfl (lv_at hl 0 rfl) ?_
  refine lv_iload_n hx hb dX10_cell_1 rfl (lv_at hl 1 rfl) ?_
  refine PurI.cv (As := [.int k]) (kX10_isSetCell l g a_p I_p J_p a_e I_e k hl_p_shown hPI hE) fx (gUV (uT _) u_907 u_908 u_909 u_2 u_910) rfl hdX10_isSetCell ⟨Nat.le_of_ble_eq_true rfl, Nat.le_of_ble_eq_true rfl⟩ hK hP [0, 1, 2, 3, 4, 5] rfl rfl rfl rfl rfl hl.1 (Nat.le_of_ble_eq_true rfl) dX10_cell_2 (fun r1 p_r1 => ?_)
  refine q_if_ne (tgt := 15) hx hb dX10_cell_5 (by decide) rfl (fun b_5 k_5 => ?_) (fun b_5 k_5 => ?_)
  · have q_5 := bP.t p_r1 b_5
    refine lv_aload_n hx hb dX10_cell_15 rfl (lv_at hl 0 rfl) ?_
    refine lv_aload_n hx hb dX10_cell_16 rfl (lv_at hl 0 rfl) ?_
    refine va_get (D := g.1) (ci := 10) (v := .ref (a_e 0)) (C := RX10) (T := TX10) (N := 20) hx hb hi_X10 (fun _ h => h) hown hK.1 hP 0 rfl rfl 12 (by decide) hf_68 (fun _ h9 => h9) (congrArg (fun z => some (Value.ref z)) hl_p_shown) dX10_cell_17 ?_
    refine va_get (D := g.1) (ci := 6) (v := .ref (a_e 1)) (C := RX6) (T := TX6) (N := 10) hx hb hi_X6 (fun _ h => h) hown hK.1 hP 2 rfl rfl 0 (by decide) hf_259 (fun _ h9 => h9) rfl dX10_cell_20 ?_
    refine lv_iload_n hx hb dX10_cell_23 rfl (lv_at hl 1 rfl) ?_
    have n_24 : vp_in k 1200 := (t_in (by omega))
    refine va_iald hx hb hK.1 hP 3 0 rfl rfl n_24 dX10_cell_24 ?_
    refine q_nm (fun x2 e_x2 => ?_)
    have e_x2 : x2 = (I_e 1) k.toNatClampNeg := e_x2
    have g_x2 : x2.toInt = ((I_e 1) k.toNatClampNeg).toInt := congrArg _ e_x2
    refine EffI.cv (wr := (wX6 g a_e I_e)) (w' := fun u4 => wX10 g a_p u4 J_p ++ wX6 g a_e I_e) (As := [.int x2]) (kX10_answer l g a_p I_p J_p x2) fx (gUV (uT _) u_497 u_498 u_499 u_2 u_500) rfl hdX10_answer ⟨Nat.le_of_ble_eq_true rfl, Nat.le_of_ble_eq_true rfl⟩ hK hP hD hS hA [0, 1] [2, 3, 4, 5] [4, 5, 0, 1, 2, 3] rfl rfl rfl rfl (by decide) rfl (fun _ => rfl) rfl rfl rfl rfl hl.1 (Nat.le_of_ble_eq_true rfl) dX10_cell_25 (fun r3 u4 H locs p_r3 hP hD hS => ?_)
    have hP : va_P g.1 vwCl (wX10 g a_p u4 J_p ++ wX6 g a_e I_e) H := hP
    have hD : va_D A (wX10 g a_p u4 J_p ++ wX6 g a_e I_e) := hD
    refine hret 28 ls r3 _ _ u4 dX10_cell_28 hS hP hD ?_
    exact ⟨(PI.st hPI p_r3.2), (KP.tr (KP.rf I_p) (KP.st p_r3.2))⟩
  · have q_5 := bP.f p_r1 b_5
    refine lv_aload_n hx hb dX10_cell_8 rfl (lv_at hl 0 rfl) ?_
    refine lv_bipush (v := 6) hx hb dX10_cell_9 (by decide) ?_
    refine EffI.cv (wr := (wX6 g a_e I_e)) (w' := fun u6 => wX10 g a_p u6 J_p ++ wX6 g a_e I_e) (As := [.int (6 : Int32)]) (kX10_refuse l g a_p I_p J_p (6 : Int32)) fx (gUV (uT _) u_295 u_296 u_297 u_2 u_298) rfl hdX10_refuse ⟨Nat.le_of_ble_eq_true rfl, Nat.le_of_ble_eq_true rfl⟩ hK hP hD hS hA [0, 1] [2, 3, 4, 5] [4, 5, 0, 1, 2, 3] rfl rfl rfl rfl (by decide) rfl (fun _ => rfl) rfl rfl rfl rfl hl.1 (Nat.le_of_ble_eq_true rfl) dX10_cell_11 (fun r5 u6 H locs p_r5 hP hD hS => ?_)
    have hP : va_P g.1 vwCl (wX10 g a_p u6 J_p ++ wX6 g a_e I_e) H := hP
    have hD : va_D A (wX10 g a_p u6 J_p ++ wX6 g a_e I_e) := hD
    refine hret 14 ls r5 _ _ u6 dX10_cell_14 hS hP hD ?_
    exact ⟨(PI.st hPI p_r5.2), (KP.tr (KP.rf I_p) (KP.st p_r5.2))⟩

set_option maxHeartbeats 4000000 in
set_option maxRecDepth 100000 in
theorem kX10_line (l : Launch) (g : gG) (a_p : Nat → Nat) (I_p : Nat → Nat → Int32) (J_p : Nat → Nat → Int64) (a_y : Nat → Nat) (I_y : Nat → Nat → Int32) (line : Int32) (hl_p_layout : a_p 114 = a_y 0) (hPI : PI I_p) (hL : LI I_y) : EffI l g yX10_line wsX10_line 1 [.ref (a_p 0), .int line] (wX10 g a_p I_p J_p ++ wX1 g a_y I_y) (fun (u : (Nat → Nat → Int32)) => wX10 g a_p u J_p ++ wX1 g a_y I_y) (fun r (u : (Nat → Nat → Int32)) => PI (u) ∧ KP I_p (u)) := by
  refine EffI.st (cc := cX10_line) (maxL := 2) (by decide) rfl (Nat.le_of_ble_eq_true rfl) (fun p e s m args below meth c A Q ls fx hK hP hD hA hS hl hret => ?_)
  have hx := fx.1
  have hb := fx.2.1
  have hml := fx.2.2.1
  have hown := fx.2.2.2.1
  have hts := fx.2.2.2.2
  have hl : lv_has ls 2 [(0, .ref (a_p 0)), (1, .int line)] := hl
  have hP : va_P g.1 vwCl (wX10 g a_p I_p J_p ++ wX1 g a_y I_y) s.heap := hP
  have hf_78 := hts _ (uT _ _ u_46)
  have hi_X10 : ∀ w ∈ wsX100, w.before args s = true := fun w h => hts w (uT _ w (u_wsX100 w h))
  have lm1 : (-1 : Int32).toInt = -1 := by decide
  have lm0 : (0 : Int32).toInt = 0 := by decide
  have lm2 : (1 : Int32).toInt = 1 := by decide
  have hp1 := hPI.1
  have hp2 := hPI.2.1
  have hpc := LI.pc hL
  have hln := LI.ln hL
  have hwd := LI.wd hL
  have lq6 : (6 : Int32).toInt = 6 := by decide
  refine lv_aload_n hx hb dX10_line_0 rfl (lv_at hl 0 rfl) ?_
  refine lv_iload_n hx hb dX10_line_1 rfl (lv_at hl 1 rfl) ?_
  refine PurI.cv (As := [.int line]) (kX10_isLine l g a_p I_p J_p a_y I_y line hl_p_layout hPI hL) fx (gUV (uT _) u_919 u_920 u_921 u_2 u_922) rfl hdX10_isLine ⟨Nat.le_of_ble_eq_true rfl, Nat.le_of_ble_eq_true rfl⟩ hK hP [0, 1, 2, 3, 4, 5, 6, 7, 8] rfl rfl rfl rfl rfl hl.1 (Nat.le_of_ble_eq_true rfl) dX10_line_2 (fun r1 p_r1 => ?_)
  refine q_if_ne (tgt := 15) hx hb dX10_line_5 (by decide) rfl (fun b_5 k_5 => ?_) (fun b_5 k_5 => ?_)
  · have q_5 := bP.t p_r1 b_5
    refine lv_aload_n hx hb dX10_line_15 rfl (lv_at hl 0 rfl) ?_
    refine lv_aload_n hx hb dX10_line_16 rfl (lv_at hl 0 rfl) ?_
    refine va_get (D := g.1) (ci := 10) (v := .ref (a_y 0)) (C := RX10) (T := TX10) (N := 20) hx hb hi_X10 (fun _ h => h) hown hK.1 hP 0 rfl rfl 14 (by decide) hf_78 (fun _ h9 => h9) (congrArg (fun z => some (Value.ref z)) hl_p_layout) dX10_line_17 ?_
    refine lv_iload_n hx hb dX10_line_20 rfl (lv_at hl 1 rfl) ?_
    refine PurI.cv (As := [.int line]) (kX1_lengthOf l g a_y I_y line hL (by omega)) fx (gUV (uT _) u_923 u_924 u_925 u_45 u_926) rfl hdX1_lengthOf ⟨Nat.le_of_ble_eq_true rfl, Nat.le_of_ble_eq_true rfl⟩ hK hP [2, 3, 4, 5, 6, 7, 8] rfl rfl rfl rfl rfl hl.1 (Nat.le_of_ble_eq_true rfl) dX10_line_21 (fun r2 p_r2 => ?_)
    refine EffI.cv (wr := (wX1 g a_y I_y)) (w' := fun u4 => wX10 g a_p u4 J_p ++ wX1 g a_y I_y) (As := [.int r2]) (kX10_answer l g a_p I_p J_p r2) fx (gUV (uT _) u_497 u_498 u_499 u_2 u_500) rfl hdX10_answer ⟨Nat.le_of_ble_eq_true rfl, Nat.le_of_ble_eq_true rfl⟩ hK hP hD hS hA [0, 1] [2, 3, 4, 5, 6, 7, 8] [7, 8, 0, 1, 2, 3, 4, 5, 6] rfl rfl rfl rfl (by decide) rfl (fun _ => rfl) rfl rfl rfl rfl hl.1 (Nat.le_of_ble_eq_true rfl) dX10_line_24 (fun r3 u4 H locs p_r3 hP hD hS => ?_)
    have hP : va_P g.1 vwCl (wX10 g a_p u4 J_p ++ wX1 g a_y I_y) H := hP
    have hD : va_D A (wX10 g a_p u4 J_p ++ wX1 g a_y I_y) := hD
    refine hret 27 ls r3 _ _ u4 dX10_line_27 hS hP hD ?_
    exact ⟨(PI.st hPI p_r3.2), (KP.tr (KP.rf I_p) (KP.st p_r3.2))⟩
  · have q_5 := bP.f p_r1 b_5
    refine lv_aload_n hx hb dX10_line_8 rfl (lv_at hl 0 rfl) ?_
    refine lv_bipush (v := 6) hx hb dX10_line_9 (by decide) ?_
    refine EffI.cv (wr := (wX1 g a_y I_y)) (w' := fun u6 => wX10 g a_p u6 J_p ++ wX1 g a_y I_y) (As := [.int (6 : Int32)]) (kX10_refuse l g a_p I_p J_p (6 : Int32)) fx (gUV (uT _) u_295 u_296 u_297 u_2 u_298) rfl hdX10_refuse ⟨Nat.le_of_ble_eq_true rfl, Nat.le_of_ble_eq_true rfl⟩ hK hP hD hS hA [0, 1] [2, 3, 4, 5, 6, 7, 8] [7, 8, 0, 1, 2, 3, 4, 5, 6] rfl rfl rfl rfl (by decide) rfl (fun _ => rfl) rfl rfl rfl rfl hl.1 (Nat.le_of_ble_eq_true rfl) dX10_line_11 (fun r5 u6 H locs p_r5 hP hD hS => ?_)
    have hP : va_P g.1 vwCl (wX10 g a_p u6 J_p ++ wX1 g a_y I_y) H := hP
    have hD : va_D A (wX10 g a_p u6 J_p ++ wX1 g a_y I_y) := hD
    refine hret 14 ls r5 _ _ u6 dX10_line_14 hS hP hD ?_
    exact ⟨(PI.st hPI p_r5.2), (KP.tr (KP.rf I_p) (KP.st p_r5.2))⟩

set_option maxHeartbeats 4000000 in
set_option maxRecDepth 100000 in
theorem kX10_lineAt (l : Launch) (g : gG) (a_p : Nat → Nat) (I_p : Nat → Nat → Int32) (J_p : Nat → Nat → Int64) (a_t : Nat → Nat) (I_t : Nat → Nat → Int32) (a_e : Nat → Nat) (I_e : Nat → Nat → Int32) (a_y : Nat → Nat) (I_y : Nat → Nat → Int32) (line : Int32) (k : Int32) (hl_p_table : a_p 109 = a_t 0) (hl_p_shown : a_p 112 = a_e 0) (hl_p_layout : a_p 114 = a_y 0) (hPI : PI I_p) (hT : TI I_t) (hE : EI I_e) (hL : LI I_y) : EffI l g yX10_lineAt wsX10_lineAt 2 [.ref (a_p 0), .int line, .int k] (wX10 g a_p I_p J_p ++ (wX7 g a_t I_t ++ (wX6 g a_e I_e ++ wX1 g a_y I_y))) (fun (u : (Nat → Nat → Int32)) => wX10 g a_p u J_p ++ (wX7 g a_t I_t ++ (wX6 g a_e I_e ++ wX1 g a_y I_y))) (fun r (u : (Nat → Nat → Int32)) => PI (u) ∧ KP I_p (u)) := by
  refine EffI.st (cc := cX10_lineAt) (maxL := 3) (by decide) rfl (Nat.le_of_ble_eq_true rfl) (fun p e s m args below meth c A Q ls fx hK hP hD hA hS hl hret => ?_)
  have hx := fx.1
  have hb := fx.2.1
  have hml := fx.2.2.1
  have hown := fx.2.2.2.1
  have hts := fx.2.2.2.2
  have hl : lv_has ls 3 [(0, .ref (a_p 0)), (1, .int line), (2, .int k)] := hl
  have hP : va_P g.1 vwCl (wX10 g a_p I_p J_p ++ (wX7 g a_t I_t ++ (wX6 g a_e I_e ++ wX1 g a_y I_y))) s.heap := hP
  have hf_78 := hts _ (uT _ _ u_46)
  have hi_X10 : ∀ w ∈ wsX100, w.before args s = true := fun w h => hts w (uT _ w (u_wsX100 w h))
  have lm1 : (-1 : Int32).toInt = -1 := by decide
  have lm0 : (0 : Int32).toInt = 0 := by decide
  have lm2 : (1 : Int32).toInt = 1 := by decide
  have hp1 := hPI.1
  have hp2 := hPI.2.1
  have hru := TI.ru hT
  have hlt3 := TI.li hT
  have hlt4 := TI.pa hT
  have hE0 := hE.1
  have hE1 := hE.2
  have hpc := LI.pc hL
  have hln := LI.ln hL
  have hwd := LI.wd hL
  have lq6 : (6 : Int32).toInt = 6 := by decide
  refine lv_aload_n hx hb dX10_lineAt_0 rfl (lv_at hl 0 rfl) ?_
  refine lv_iload_n hx hb dX10_lineAt_1 rfl (lv_at hl 1 rfl) ?_
  refine PurI.cv (As := [.int line]) (kX10_isLine l g a_p I_p J_p a_y I_y line hl_p_layout hPI hL) fx (gUV (uT _) u_919 u_920 u_921 u_2 u_922) rfl hdX10_isLine ⟨Nat.le_of_ble_eq_true rfl, Nat.le_of_ble_eq_true rfl⟩ hK hP [0, 1, 13, 14, 15, 16, 17, 18, 19] rfl rfl rfl rfl rfl hl.1 (Nat.le_of_ble_eq_true rfl) dX10_lineAt_2 (fun r1 p_r1 => ?_)
  refine q_if_eq (tgt := 24) hx hb dX10_lineAt_5 (by decide) rfl (fun b_5 k_5 => ?_) (fun b_5 k_5 => ?_)
  · have q_5 := bP.f p_r1 b_5
    refine lv_aload_n hx hb dX10_lineAt_24 rfl (lv_at hl 0 rfl) ?_
    refine lv_bipush (v := 6) hx hb dX10_lineAt_25 (by decide) ?_
    refine EffI.cv (wr := (wX7 g a_t I_t ++ wX6 g a_e I_e ++ wX1 g a_y I_y)) (w' := fun u3 => wX10 g a_p u3 J_p ++ (wX7 g a_t I_t ++ (wX6 g a_e I_e ++ wX1 g a_y I_y))) (As := [.int (6 : Int32)]) (kX10_refuse l g a_p I_p J_p (6 : Int32)) fx (gUV (uT _) u_295 u_296 u_297 u_2 u_298) rfl hdX10_refuse ⟨Nat.le_of_ble_eq_true rfl, Nat.le_of_ble_eq_true rfl⟩ hK hP hD hS hA [0, 1] [2, 3, 4, 5, 6, 7, 8, 9, 10, 11, 12, 13, 14, 15, 16, 17, 18, 19] [18, 19, 0, 1, 2, 3, 4, 5, 6, 7, 8, 9, 10, 11, 12, 13, 14, 15, 16, 17] rfl rfl rfl rfl (by decide) rfl (fun _ => rfl) rfl rfl rfl rfl hl.1 (Nat.le_of_ble_eq_true rfl) dX10_lineAt_27 (fun r2 u3 H locs p_r2 hP hD hS => ?_)
    have hP : va_P g.1 vwCl (wX10 g a_p u3 J_p ++ (wX7 g a_t I_t ++ (wX6 g a_e I_e ++ wX1 g a_y I_y))) H := hP
    have hD : va_D A (wX10 g a_p u3 J_p ++ (wX7 g a_t I_t ++ (wX6 g a_e I_e ++ wX1 g a_y I_y))) := hD
    refine hret 30 ls r2 _ _ u3 dX10_lineAt_30 hS hP hD ?_
    exact ⟨(PI.st hPI p_r2.2), (KP.tr (KP.rf I_p) (KP.st p_r2.2))⟩
  · have q_5 := bP.t p_r1 b_5
    refine lv_iload_n hx hb dX10_lineAt_8 rfl (lv_at hl 2 rfl) ?_
    refine q_if_lt (tgt := 24) hx hb dX10_lineAt_9 (by decide) rfl (fun k_9 => ?_) (fun k_9 => ?_)
    · refine lv_aload_n hx hb dX10_lineAt_24 rfl (lv_at hl 0 rfl) ?_
      refine lv_bipush (v := 6) hx hb dX10_lineAt_25 (by decide) ?_
      refine EffI.cv (wr := (wX7 g a_t I_t ++ wX6 g a_e I_e ++ wX1 g a_y I_y)) (w' := fun u5 => wX10 g a_p u5 J_p ++ (wX7 g a_t I_t ++ (wX6 g a_e I_e ++ wX1 g a_y I_y))) (As := [.int (6 : Int32)]) (kX10_refuse l g a_p I_p J_p (6 : Int32)) fx (gUV (uT _) u_295 u_296 u_297 u_2 u_298) rfl hdX10_refuse ⟨Nat.le_of_ble_eq_true rfl, Nat.le_of_ble_eq_true rfl⟩ hK hP hD hS hA [0, 1] [2, 3, 4, 5, 6, 7, 8, 9, 10, 11, 12, 13, 14, 15, 16, 17, 18, 19] [18, 19, 0, 1, 2, 3, 4, 5, 6, 7, 8, 9, 10, 11, 12, 13, 14, 15, 16, 17] rfl rfl rfl rfl (by decide) rfl (fun _ => rfl) rfl rfl rfl rfl hl.1 (Nat.le_of_ble_eq_true rfl) dX10_lineAt_27 (fun r4 u5 H locs p_r4 hP hD hS => ?_)
      have hP : va_P g.1 vwCl (wX10 g a_p u5 J_p ++ (wX7 g a_t I_t ++ (wX6 g a_e I_e ++ wX1 g a_y I_y))) H := hP
      have hD : va_D A (wX10 g a_p u5 J_p ++ (wX7 g a_t I_t ++ (wX6 g a_e I_e ++ wX1 g a_y I_y))) := hD
      refine hret 30 ls r4 _ _ u5 dX10_lineAt_30 hS hP hD ?_
      exact ⟨(PI.st hPI p_r4.2), (KP.tr (KP.rf I_p) (KP.st p_r4.2))⟩
    · refine lv_iload_n hx hb dX10_lineAt_12 rfl (lv_at hl 2 rfl) ?_
      refine lv_aload_n hx hb dX10_lineAt_13 rfl (lv_at hl 0 rfl) ?_
      refine va_get (D := g.1) (ci := 10) (v := .ref (a_y 0)) (C := RX10) (T := TX10) (N := 20) hx hb hi_X10 (fun _ h => h) hown hK.1 hP 0 rfl rfl 14 (by decide) hf_78 (fun _ h9 => h9) (congrArg (fun z => some (Value.ref z)) hl_p_layout) dX10_lineAt_14 ?_
      refine lv_iload_n hx hb dX10_lineAt_17 rfl (lv_at hl 1 rfl) ?_
      refine PurI.cv (As := [.int line]) (kX1_lengthOf l g a_y I_y line hL (by omega)) fx (gUV (uT _) u_923 u_924 u_925 u_45 u_926) rfl hdX1_lengthOf ⟨Nat.le_of_ble_eq_true rfl, Nat.le_of_ble_eq_true rfl⟩ hK hP [13, 14, 15, 16, 17, 18, 19] rfl rfl rfl rfl rfl hl.1 (Nat.le_of_ble_eq_true rfl) dX10_lineAt_18 (fun r6 p_r6 => ?_)
      refine q_icmp_lt (tgt := 31) hx hb dX10_lineAt_21 (by decide) rfl rfl (fun k_21 => ?_) (fun k_21 => ?_)
      · refine lv_aload_n hx hb dX10_lineAt_31 rfl (lv_at hl 0 rfl) ?_
        refine lv_aload_n hx hb dX10_lineAt_32 rfl (lv_at hl 0 rfl) ?_
        refine lv_iload_n hx hb dX10_lineAt_33 rfl (lv_at hl 1 rfl) ?_
        refine lv_iload_n hx hb dX10_lineAt_34 rfl (lv_at hl 2 rfl) ?_
        refine PurI.cv (As := [.int line, .int k]) (kX10_cellInLine l g a_p I_p J_p a_t I_t a_e I_e a_y I_y line k hl_p_table hl_p_shown hl_p_layout hPI hT hE hL (by omega) (by omega)) fx (gUV (uT _) u_939 u_940 u_941 u_2 u_942) rfl hdX10_cellInLine ⟨Nat.le_of_ble_eq_true rfl, Nat.le_of_ble_eq_true rfl⟩ hK hP [0, 1, 2, 3, 4, 5, 6, 7, 8, 9, 10, 11, 12, 13, 14, 15, 16, 17, 18, 19] rfl rfl rfl rfl rfl hl.1 (Nat.le_of_ble_eq_true rfl) dX10_lineAt_35 (fun r7 p_r7 => ?_)
        refine EffI.cv (wr := (wX7 g a_t I_t ++ wX6 g a_e I_e ++ wX1 g a_y I_y)) (w' := fun u9 => wX10 g a_p u9 J_p ++ (wX7 g a_t I_t ++ (wX6 g a_e I_e ++ wX1 g a_y I_y))) (As := [.int r7]) (kX10_answer l g a_p I_p J_p r7) fx (gUV (uT _) u_497 u_498 u_499 u_2 u_500) rfl hdX10_answer ⟨Nat.le_of_ble_eq_true rfl, Nat.le_of_ble_eq_true rfl⟩ hK hP hD hS hA [0, 1] [2, 3, 4, 5, 6, 7, 8, 9, 10, 11, 12, 13, 14, 15, 16, 17, 18, 19] [18, 19, 0, 1, 2, 3, 4, 5, 6, 7, 8, 9, 10, 11, 12, 13, 14, 15, 16, 17] rfl rfl rfl rfl (by decide) rfl (fun _ => rfl) rfl rfl rfl rfl hl.1 (Nat.le_of_ble_eq_true rfl) dX10_lineAt_38 (fun r8 u9 H locs p_r8 hP hD hS => ?_)
        have hP : va_P g.1 vwCl (wX10 g a_p u9 J_p ++ (wX7 g a_t I_t ++ (wX6 g a_e I_e ++ wX1 g a_y I_y))) H := hP
        have hD : va_D A (wX10 g a_p u9 J_p ++ (wX7 g a_t I_t ++ (wX6 g a_e I_e ++ wX1 g a_y I_y))) := hD
        refine hret 41 ls r8 _ _ u9 dX10_lineAt_41 hS hP hD ?_
        exact ⟨(PI.st hPI p_r8.2), (KP.tr (KP.rf I_p) (KP.st p_r8.2))⟩
      · refine lv_aload_n hx hb dX10_lineAt_24 rfl (lv_at hl 0 rfl) ?_
        refine lv_bipush (v := 6) hx hb dX10_lineAt_25 (by decide) ?_
        refine EffI.cv (wr := (wX7 g a_t I_t ++ wX6 g a_e I_e ++ wX1 g a_y I_y)) (w' := fun u11 => wX10 g a_p u11 J_p ++ (wX7 g a_t I_t ++ (wX6 g a_e I_e ++ wX1 g a_y I_y))) (As := [.int (6 : Int32)]) (kX10_refuse l g a_p I_p J_p (6 : Int32)) fx (gUV (uT _) u_295 u_296 u_297 u_2 u_298) rfl hdX10_refuse ⟨Nat.le_of_ble_eq_true rfl, Nat.le_of_ble_eq_true rfl⟩ hK hP hD hS hA [0, 1] [2, 3, 4, 5, 6, 7, 8, 9, 10, 11, 12, 13, 14, 15, 16, 17, 18, 19] [18, 19, 0, 1, 2, 3, 4, 5, 6, 7, 8, 9, 10, 11, 12, 13, 14, 15, 16, 17] rfl rfl rfl rfl (by decide) rfl (fun _ => rfl) rfl rfl rfl rfl hl.1 (Nat.le_of_ble_eq_true rfl) dX10_lineAt_27 (fun r10 u11 H locs p_r10 hP hD hS => ?_)
        have hP : va_P g.1 vwCl (wX10 g a_p u11 J_p ++ (wX7 g a_t I_t ++ (wX6 g a_e I_e ++ wX1 g a_y I_y))) H := hP
        have hD : va_D A (wX10 g a_p u11 J_p ++ (wX7 g a_t I_t ++ (wX6 g a_e I_e ++ wX1 g a_y I_y))) := hD
        refine hret 30 ls r10 _ _ u11 dX10_lineAt_30 hS hP hD ?_
        exact ⟨(PI.st hPI p_r10.2), (KP.tr (KP.rf I_p) (KP.st p_r10.2))⟩

set_option maxHeartbeats 4000000 in
set_option maxRecDepth 100000 in
theorem kX10_onPage (l : Launch) (g : gG) (a_p : Nat → Nat) (I_p : Nat → Nat → Int32) (J_p : Nat → Nat → Int64) (a_t : Nat → Nat) (I_t : Nat → Nat → Int32) (a_e : Nat → Nat) (I_e : Nat → Nat → Int32) (a_y : Nat → Nat) (I_y : Nat → Nat → Int32) (page : Int32) (line : Int32) (place : Int32) (hl_p_table : a_p 109 = a_t 0) (hl_p_shown : a_p 112 = a_e 0) (hl_p_layout : a_p 114 = a_y 0) (hPI : PI I_p) (hT : TI I_t) (hE : EI I_e) (hL : LI I_y) : EffI l g yX10_onPage wsX10_onPage 2 [.ref (a_p 0), .int page, .int line, .int place] (wX10 g a_p I_p J_p ++ (wX7 g a_t I_t ++ (wX6 g a_e I_e ++ wX1 g a_y I_y))) (fun (u : (Nat → Nat → Int32)) => wX10 g a_p u J_p ++ (wX7 g a_t I_t ++ (wX6 g a_e I_e ++ wX1 g a_y I_y))) (fun r (u : (Nat → Nat → Int32)) => PI (u) ∧ KP I_p (u)) := by
  refine EffI.st (cc := cX10_onPage) (maxL := 5) (by decide) rfl (Nat.le_of_ble_eq_true rfl) (fun p e s m args below meth c A Q ls fx hK hP hD hA hS hl hret => ?_)
  have hx := fx.1
  have hb := fx.2.1
  have hml := fx.2.2.1
  have hown := fx.2.2.2.1
  have hts := fx.2.2.2.2
  have hl : lv_has ls 5 [(0, .ref (a_p 0)), (1, .int page), (2, .int line), (3, .int place)] := hl
  have hP : va_P g.1 vwCl (wX10 g a_p I_p J_p ++ (wX7 g a_t I_t ++ (wX6 g a_e I_e ++ wX1 g a_y I_y))) s.heap := hP
  have hf_50 := hts _ (uT _ _ u_32)
  have hf_61 := hts _ (uT _ _ u_37)
  have hf_206 := hts _ (uT _ _ u_780)
  have hi_X10 : ∀ w ∈ wsX100, w.before args s = true := fun w h => hts w (uT _ w (u_wsX100 w h))
  have hi_X7 : ∀ w ∈ wsX70, w.before args s = true := fun w h => hts w (uT _ w (u_wsX70 w h))
  have lm1 : (-1 : Int32).toInt = -1 := by decide
  have lm0 : (0 : Int32).toInt = 0 := by decide
  have lm2 : (1 : Int32).toInt = 1 := by decide
  have hp1 := hPI.1
  have hp2 := hPI.2.1
  have hru := TI.ru hT
  have hlt3 := TI.li hT
  have hlt4 := TI.pa hT
  have hE0 := hE.1
  have hE1 := hE.2
  have hpc := LI.pc hL
  have hln := LI.ln hL
  have hwd := LI.wd hL
  have lq3 : (3 : Int32).toInt = 3 := by decide
  have lq4 : (4 : Int32).toInt = 4 := by decide
  have lq6 : (6 : Int32).toInt = 6 := by decide
  refine lv_aload_n hx hb dX10_onPage_0 rfl (lv_at hl 0 rfl) ?_
  refine va_get (D := g.1) (ci := 10) (v := .ref (a_t 0)) (C := RX10) (T := TX10) (N := 20) hx hb hi_X10 (fun _ h => h) hown hK.1 hP 0 rfl rfl 9 (by decide) hf_50 (fun _ h9 => h9) (congrArg (fun z => some (Value.ref z)) hl_p_table) dX10_onPage_1 ?_
  refine va_get (D := g.1) (ci := 7) (v := .ref (a_t 1)) (C := RX7) (T := TX7) (N := 8) hx hb hi_X7 (fun _ h => h) hown hK.1 hP 2 rfl rfl 2 (by decide) hf_206 (fun _ h9 => h9) rfl dX10_onPage_4 ?_
  refine lv_iconst (v := 4) hx hb dX10_onPage_7 (by decide) ?_
  have n_8 : vp_in (4 : Int32) 5 := (t_in (by decide))
  refine va_iald hx hb hK.1 hP 3 0 rfl rfl n_8 dX10_onPage_8 ?_
  refine q_nm (fun x1 e_x1 => ?_)
  have e_x1 : x1 = (I_t 1) 4 := e_x1
  have g_x1 : x1.toInt = ((I_t 1) 4).toInt := congrArg _ e_x1
  have f_x1 := TI.sg hT 4
  rw [← e_x1] at f_x1
  refine lv_istore (lv' := [(4, .int x1), (0, .ref (a_p 0)), (1, .int page), (2, .int line), (3, .int place)]) hx hb dX10_onPage_9 hl (by decide) rfl (fun ls hl => ?_)
  refine lv_iload_n hx hb dX10_onPage_11 rfl (lv_at hl 4 rfl) ?_
  refine q_if_lt (tgt := 38) hx hb dX10_onPage_12 (by decide) rfl (fun k_12 => ?_) (fun k_12 => ?_)
  · refine lv_aload_n hx hb dX10_onPage_38 rfl (lv_at hl 1 rfl) ?_
    refine lv_iconst (v := 1) hx hb dX10_onPage_39 (by decide) ?_
    refine EffI.cv (wr := (wX7 g a_t I_t ++ wX6 g a_e I_e ++ wX1 g a_y I_y)) (w' := fun u3 => wX10 g a_p u3 J_p ++ (wX7 g a_t I_t ++ (wX6 g a_e I_e ++ wX1 g a_y I_y))) (As := [.int (1 : Int32)]) (kX10_refuse l g a_p I_p J_p (1 : Int32)) fx (gUV (uT _) u_295 u_296 u_297 u_2 u_298) rfl hdX10_refuse ⟨Nat.le_of_ble_eq_true rfl, Nat.le_of_ble_eq_true rfl⟩ hK hP hD hS hA [0, 1] [2, 3, 4, 5, 6, 7, 8, 9, 10, 11, 12, 13, 14, 15, 16, 17, 18, 19] [18, 19, 0, 1, 2, 3, 4, 5, 6, 7, 8, 9, 10, 11, 12, 13, 14, 15, 16, 17] rfl rfl rfl rfl (by decide) rfl (fun _ => rfl) rfl rfl rfl rfl hl.1 (Nat.le_of_ble_eq_true rfl) dX10_onPage_40 (fun r2 u3 H locs p_r2 hP hD hS => ?_)
    have hP : va_P g.1 vwCl (wX10 g a_p u3 J_p ++ (wX7 g a_t I_t ++ (wX6 g a_e I_e ++ wX1 g a_y I_y))) H := hP
    have hD : va_D A (wX10 g a_p u3 J_p ++ (wX7 g a_t I_t ++ (wX6 g a_e I_e ++ wX1 g a_y I_y))) := hD
    refine hret 43 ls r2 _ _ u3 dX10_onPage_43 hS hP hD ?_
    exact ⟨(PI.st hPI p_r2.2), (KP.tr (KP.rf I_p) (KP.st p_r2.2))⟩
  · refine lv_iload_n hx hb dX10_onPage_15 rfl (lv_at hl 4 rfl) ?_
    refine lv_aload_n hx hb dX10_onPage_16 rfl (lv_at hl 1 rfl) ?_
    refine va_get (D := g.1) (ci := 10) (v := .ref (a_t 0)) (C := RX10) (T := TX10) (N := 20) hx hb hi_X10 (fun _ h => h) hown hK.1 hP 0 rfl rfl 9 (by decide) hf_50 (fun _ h9 => h9) (congrArg (fun z => some (Value.ref z)) hl_p_table) dX10_onPage_17 ?_
    refine va_get (D := g.1) (ci := 7) (v := .ref (a_t 1)) (C := RX7) (T := TX7) (N := 8) hx hb hi_X7 (fun _ h => h) hown hK.1 hP 2 rfl rfl 2 (by decide) hf_206 (fun _ h9 => h9) rfl dX10_onPage_20 ?_
    refine lv_iconst (v := 3) hx hb dX10_onPage_23 (by decide) ?_
    have n_24 : vp_in (3 : Int32) 5 := (t_in (by decide))
    refine va_iald hx hb hK.1 hP 3 0 rfl rfl n_24 dX10_onPage_24 ?_
    refine q_nm (fun x4 e_x4 => ?_)
    have e_x4 : x4 = (I_t 1) 3 := e_x4
    have g_x4 : x4.toInt = ((I_t 1) 3).toInt := congrArg _ e_x4
    have f_x4 := TI.sg hT 3
    rw [← e_x4] at f_x4
    refine q_icmp_ge (tgt := 38) hx hb dX10_onPage_25 (by decide) rfl rfl (fun k_25 => ?_) (fun k_25 => ?_)
    · refine lv_aload_n hx hb dX10_onPage_38 rfl (lv_at hl 1 rfl) ?_
      refine lv_iconst (v := 1) hx hb dX10_onPage_39 (by decide) ?_
      refine EffI.cv (wr := (wX7 g a_t I_t ++ wX6 g a_e I_e ++ wX1 g a_y I_y)) (w' := fun u6 => wX10 g a_p u6 J_p ++ (wX7 g a_t I_t ++ (wX6 g a_e I_e ++ wX1 g a_y I_y))) (As := [.int (1 : Int32)]) (kX10_refuse l g a_p I_p J_p (1 : Int32)) fx (gUV (uT _) u_295 u_296 u_297 u_2 u_298) rfl hdX10_refuse ⟨Nat.le_of_ble_eq_true rfl, Nat.le_of_ble_eq_true rfl⟩ hK hP hD hS hA [0, 1] [2, 3, 4, 5, 6, 7, 8, 9, 10, 11, 12, 13, 14, 15, 16, 17, 18, 19] [18, 19, 0, 1, 2, 3, 4, 5, 6, 7, 8, 9, 10, 11, 12, 13, 14, 15, 16, 17] rfl rfl rfl rfl (by decide) rfl (fun _ => rfl) rfl rfl rfl rfl hl.1 (Nat.le_of_ble_eq_true rfl) dX10_onPage_40 (fun r5 u6 H locs p_r5 hP hD hS => ?_)
      have hP : va_P g.1 vwCl (wX10 g a_p u6 J_p ++ (wX7 g a_t I_t ++ (wX6 g a_e I_e ++ wX1 g a_y I_y))) H := hP
      have hD : va_D A (wX10 g a_p u6 J_p ++ (wX7 g a_t I_t ++ (wX6 g a_e I_e ++ wX1 g a_y I_y))) := hD
      refine hret 43 ls r5 _ _ u6 dX10_onPage_43 hS hP hD ?_
      exact ⟨(PI.st hPI p_r5.2), (KP.tr (KP.rf I_p) (KP.st p_r5.2))⟩
    · refine lv_iload_n hx hb dX10_onPage_28 rfl (lv_at hl 3 rfl) ?_
      refine q_if_lt (tgt := 38) hx hb dX10_onPage_29 (by decide) rfl (fun k_29 => ?_) (fun k_29 => ?_)
      · refine lv_aload_n hx hb dX10_onPage_38 rfl (lv_at hl 1 rfl) ?_
        refine lv_iconst (v := 1) hx hb dX10_onPage_39 (by decide) ?_
        refine EffI.cv (wr := (wX7 g a_t I_t ++ wX6 g a_e I_e ++ wX1 g a_y I_y)) (w' := fun u8 => wX10 g a_p u8 J_p ++ (wX7 g a_t I_t ++ (wX6 g a_e I_e ++ wX1 g a_y I_y))) (As := [.int (1 : Int32)]) (kX10_refuse l g a_p I_p J_p (1 : Int32)) fx (gUV (uT _) u_295 u_296 u_297 u_2 u_298) rfl hdX10_refuse ⟨Nat.le_of_ble_eq_true rfl, Nat.le_of_ble_eq_true rfl⟩ hK hP hD hS hA [0, 1] [2, 3, 4, 5, 6, 7, 8, 9, 10, 11, 12, 13, 14, 15, 16, 17, 18, 19] [18, 19, 0, 1, 2, 3, 4, 5, 6, 7, 8, 9, 10, 11, 12, 13, 14, 15, 16, 17] rfl rfl rfl rfl (by decide) rfl (fun _ => rfl) rfl rfl rfl rfl hl.1 (Nat.le_of_ble_eq_true rfl) dX10_onPage_40 (fun r7 u8 H locs p_r7 hP hD hS => ?_)
        have hP : va_P g.1 vwCl (wX10 g a_p u8 J_p ++ (wX7 g a_t I_t ++ (wX6 g a_e I_e ++ wX1 g a_y I_y))) H := hP
        have hD : va_D A (wX10 g a_p u8 J_p ++ (wX7 g a_t I_t ++ (wX6 g a_e I_e ++ wX1 g a_y I_y))) := hD
        refine hret 43 ls r7 _ _ u8 dX10_onPage_43 hS hP hD ?_
        exact ⟨(PI.st hPI p_r7.2), (KP.tr (KP.rf I_p) (KP.st p_r7.2))⟩
      · refine lv_iload_n hx hb dX10_onPage_32 rfl (lv_at hl 3 rfl) ?_
        refine lv_iload hx hb dX10_onPage_33 (lv_at hl 0 rfl) ?_
        refine q_icmp_lt (tgt := 44) hx hb dX10_onPage_35 (by decide) rfl rfl (fun k_35 => ?_) (fun k_35 => ?_)
        · refine lv_aload_n hx hb dX10_onPage_44 rfl (lv_at hl 1 rfl) ?_
          refine va_get (D := g.1) (ci := 10) (v := .int (I_p 0 11)) (C := RX10) (T := TX10) (N := 20) hx hb hi_X10 (fun _ h => h) hown hK.1 hP 0 rfl rfl 11 (by decide) hf_61 (fun _ h9 => h9) rfl dX10_onPage_45 ?_
          refine q_if_eq (tgt := 76) hx hb dX10_onPage_48 (by decide) rfl (fun b_48 k_48 => ?_) (fun b_48 k_48 => ?_)
          · refine lv_aload_n hx hb dX10_onPage_76 rfl (lv_at hl 1 rfl) ?_
            refine lv_bipush (v := 6) hx hb dX10_onPage_77 (by decide) ?_
            refine EffI.cv (wr := (wX7 g a_t I_t ++ wX6 g a_e I_e ++ wX1 g a_y I_y)) (w' := fun u10 => wX10 g a_p u10 J_p ++ (wX7 g a_t I_t ++ (wX6 g a_e I_e ++ wX1 g a_y I_y))) (As := [.int (6 : Int32)]) (kX10_refuse l g a_p I_p J_p (6 : Int32)) fx (gUV (uT _) u_295 u_296 u_297 u_2 u_298) rfl hdX10_refuse ⟨Nat.le_of_ble_eq_true rfl, Nat.le_of_ble_eq_true rfl⟩ hK hP hD hS hA [0, 1] [2, 3, 4, 5, 6, 7, 8, 9, 10, 11, 12, 13, 14, 15, 16, 17, 18, 19] [18, 19, 0, 1, 2, 3, 4, 5, 6, 7, 8, 9, 10, 11, 12, 13, 14, 15, 16, 17] rfl rfl rfl rfl (by decide) rfl (fun _ => rfl) rfl rfl rfl rfl hl.1 (Nat.le_of_ble_eq_true rfl) dX10_onPage_79 (fun r9 u10 H locs p_r9 hP hD hS => ?_)
            have hP : va_P g.1 vwCl (wX10 g a_p u10 J_p ++ (wX7 g a_t I_t ++ (wX6 g a_e I_e ++ wX1 g a_y I_y))) H := hP
            have hD : va_D A (wX10 g a_p u10 J_p ++ (wX7 g a_t I_t ++ (wX6 g a_e I_e ++ wX1 g a_y I_y))) := hD
            refine hret 82 ls r9 _ _ u10 dX10_onPage_82 hS hP hD ?_
            exact ⟨(PI.st hPI p_r9.2), (KP.tr (KP.rf I_p) (KP.st p_r9.2))⟩
          · refine lv_iload_n hx hb dX10_onPage_51 rfl (lv_at hl 2 rfl) ?_
            refine q_if_lt (tgt := 76) hx hb dX10_onPage_52 (by decide) rfl (fun k_52 => ?_) (fun k_52 => ?_)
            · refine lv_aload_n hx hb dX10_onPage_76 rfl (lv_at hl 1 rfl) ?_
              refine lv_bipush (v := 6) hx hb dX10_onPage_77 (by decide) ?_
              refine EffI.cv (wr := (wX7 g a_t I_t ++ wX6 g a_e I_e ++ wX1 g a_y I_y)) (w' := fun u12 => wX10 g a_p u12 J_p ++ (wX7 g a_t I_t ++ (wX6 g a_e I_e ++ wX1 g a_y I_y))) (As := [.int (6 : Int32)]) (kX10_refuse l g a_p I_p J_p (6 : Int32)) fx (gUV (uT _) u_295 u_296 u_297 u_2 u_298) rfl hdX10_refuse ⟨Nat.le_of_ble_eq_true rfl, Nat.le_of_ble_eq_true rfl⟩ hK hP hD hS hA [0, 1] [2, 3, 4, 5, 6, 7, 8, 9, 10, 11, 12, 13, 14, 15, 16, 17, 18, 19] [18, 19, 0, 1, 2, 3, 4, 5, 6, 7, 8, 9, 10, 11, 12, 13, 14, 15, 16, 17] rfl rfl rfl rfl (by decide) rfl (fun _ => rfl) rfl rfl rfl rfl hl.1 (Nat.le_of_ble_eq_true rfl) dX10_onPage_79 (fun r11 u12 H locs p_r11 hP hD hS => ?_)
              have hP : va_P g.1 vwCl (wX10 g a_p u12 J_p ++ (wX7 g a_t I_t ++ (wX6 g a_e I_e ++ wX1 g a_y I_y))) H := hP
              have hD : va_D A (wX10 g a_p u12 J_p ++ (wX7 g a_t I_t ++ (wX6 g a_e I_e ++ wX1 g a_y I_y))) := hD
              refine hret 82 ls r11 _ _ u12 dX10_onPage_82 hS hP hD ?_
              exact ⟨(PI.st hPI p_r11.2), (KP.tr (KP.rf I_p) (KP.st p_r11.2))⟩
            · refine lv_iload_n hx hb dX10_onPage_55 rfl (lv_at hl 2 rfl) ?_
              refine lv_aload_n hx hb dX10_onPage_56 rfl (lv_at hl 1 rfl) ?_
              refine PurI.cv (As := []) (kX10_pages l g a_p I_p J_p a_t I_t a_y I_y hl_p_table hl_p_layout hPI hT hL) fx (gUV (uT _) u_870 u_871 u_872 u_2 u_873) rfl hdX10_pages ⟨Nat.le_of_ble_eq_true rfl, Nat.le_of_ble_eq_true rfl⟩ hK hP [0, 1, 2, 3, 4, 5, 6, 7, 8, 13, 14, 15, 16, 17, 18, 19] rfl rfl rfl rfl rfl hl.1 (Nat.le_of_ble_eq_true rfl) dX10_onPage_57 (fun r13 p_r13 => ?_)
              refine q_icmp_ge (tgt := 76) hx hb dX10_onPage_60 (by decide) rfl rfl (fun k_60 => ?_) (fun k_60 => ?_)
              · refine lv_aload_n hx hb dX10_onPage_76 rfl (lv_at hl 1 rfl) ?_
                refine lv_bipush (v := 6) hx hb dX10_onPage_77 (by decide) ?_
                refine EffI.cv (wr := (wX7 g a_t I_t ++ wX6 g a_e I_e ++ wX1 g a_y I_y)) (w' := fun u15 => wX10 g a_p u15 J_p ++ (wX7 g a_t I_t ++ (wX6 g a_e I_e ++ wX1 g a_y I_y))) (As := [.int (6 : Int32)]) (kX10_refuse l g a_p I_p J_p (6 : Int32)) fx (gUV (uT _) u_295 u_296 u_297 u_2 u_298) rfl hdX10_refuse ⟨Nat.le_of_ble_eq_true rfl, Nat.le_of_ble_eq_true rfl⟩ hK hP hD hS hA [0, 1] [2, 3, 4, 5, 6, 7, 8, 9, 10, 11, 12, 13, 14, 15, 16, 17, 18, 19] [18, 19, 0, 1, 2, 3, 4, 5, 6, 7, 8, 9, 10, 11, 12, 13, 14, 15, 16, 17] rfl rfl rfl rfl (by decide) rfl (fun _ => rfl) rfl rfl rfl rfl hl.1 (Nat.le_of_ble_eq_true rfl) dX10_onPage_79 (fun r14 u15 H locs p_r14 hP hD hS => ?_)
                have hP : va_P g.1 vwCl (wX10 g a_p u15 J_p ++ (wX7 g a_t I_t ++ (wX6 g a_e I_e ++ wX1 g a_y I_y))) H := hP
                have hD : va_D A (wX10 g a_p u15 J_p ++ (wX7 g a_t I_t ++ (wX6 g a_e I_e ++ wX1 g a_y I_y))) := hD
                refine hret 82 ls r14 _ _ u15 dX10_onPage_82 hS hP hD ?_
                exact ⟨(PI.st hPI p_r14.2), (KP.tr (KP.rf I_p) (KP.st p_r14.2))⟩
              · refine lv_aload_n hx hb dX10_onPage_63 rfl (lv_at hl 1 rfl) ?_
                refine lv_iload_n hx hb dX10_onPage_64 rfl (lv_at hl 2 rfl) ?_
                refine lv_iload hx hb dX10_onPage_65 (lv_at hl 0 rfl) ?_
                refine r_imul hx hb dX10_onPage_67 rfl rfl (fun x16 e_x16 t_x16 => ?_)
                try have t_x16 := t_x16 (by omega)
                refine lv_iload_n hx hb dX10_onPage_68 rfl (lv_at hl 3 rfl) ?_
                refine r_iadd hx hb dX10_onPage_69 rfl rfl (fun x17 e_x17 t_x17 => ?_)
                try have t_x17 := t_x17 (by omega)
                refine PurI.cv (As := [.int x17]) (kX10_isLine l g a_p I_p J_p a_y I_y x17 hl_p_layout hPI hL) fx (gUV (uT _) u_919 u_920 u_921 u_2 u_922) rfl hdX10_isLine ⟨Nat.le_of_ble_eq_true rfl, Nat.le_of_ble_eq_true rfl⟩ hK hP [0, 1, 13, 14, 15, 16, 17, 18, 19] rfl rfl rfl rfl rfl hl.1 (Nat.le_of_ble_eq_true rfl) dX10_onPage_70 (fun r18 p_r18 => ?_)
                refine q_if_ne (tgt := 83) hx hb dX10_onPage_73 (by decide) rfl (fun b_73 k_73 => ?_) (fun b_73 k_73 => ?_)
                · have q_73 := bP.t p_r18 b_73
                  refine lv_aload_n hx hb dX10_onPage_83 rfl (lv_at hl 1 rfl) ?_
                  refine lv_aload_n hx hb dX10_onPage_84 rfl (lv_at hl 1 rfl) ?_
                  refine lv_iload_n hx hb dX10_onPage_85 rfl (lv_at hl 2 rfl) ?_
                  refine lv_iload hx hb dX10_onPage_86 (lv_at hl 0 rfl) ?_
                  refine r_imul hx hb dX10_onPage_88 rfl rfl (fun x19 e_x19 t_x19 => ?_)
                  try have t_x19 := t_x19 (by omega)
                  refine lv_iload_n hx hb dX10_onPage_89 rfl (lv_at hl 3 rfl) ?_
                  refine r_iadd hx hb dX10_onPage_90 rfl rfl (fun x20 e_x20 t_x20 => ?_)
                  try have t_x20 := t_x20 (by omega)
                  refine lv_iload_n hx hb dX10_onPage_91 rfl (lv_at hl 4 rfl) ?_
                  have hsm : x20 = x17 := by rw [e_x20, e_x19, e_x17, e_x16]
                  refine PurI.cv (As := [.int x20, .int place]) (kX10_cellInLine l g a_p I_p J_p a_t I_t a_e I_e a_y I_y x20 place hl_p_table hl_p_shown hl_p_layout hPI hT hE hL (by rw [hsm]; omega) (by omega)) fx (gUV (uT _) u_939 u_940 u_941 u_2 u_942) rfl hdX10_cellInLine ⟨Nat.le_of_ble_eq_true rfl, Nat.le_of_ble_eq_true rfl⟩ hK hP [0, 1, 2, 3, 4, 5, 6, 7, 8, 9, 10, 11, 12, 13, 14, 15, 16, 17, 18, 19] rfl rfl rfl rfl rfl hl.1 (Nat.le_of_ble_eq_true rfl) dX10_onPage_92 (fun r21 p_r21 => ?_)
                  refine EffI.cv (wr := (wX7 g a_t I_t ++ wX6 g a_e I_e ++ wX1 g a_y I_y)) (w' := fun u23 => wX10 g a_p u23 J_p ++ (wX7 g a_t I_t ++ (wX6 g a_e I_e ++ wX1 g a_y I_y))) (As := [.int r21]) (kX10_answer l g a_p I_p J_p r21) fx (gUV (uT _) u_497 u_498 u_499 u_2 u_500) rfl hdX10_answer ⟨Nat.le_of_ble_eq_true rfl, Nat.le_of_ble_eq_true rfl⟩ hK hP hD hS hA [0, 1] [2, 3, 4, 5, 6, 7, 8, 9, 10, 11, 12, 13, 14, 15, 16, 17, 18, 19] [18, 19, 0, 1, 2, 3, 4, 5, 6, 7, 8, 9, 10, 11, 12, 13, 14, 15, 16, 17] rfl rfl rfl rfl (by decide) rfl (fun _ => rfl) rfl rfl rfl rfl hl.1 (Nat.le_of_ble_eq_true rfl) dX10_onPage_95 (fun r22 u23 H locs p_r22 hP hD hS => ?_)
                  have hP : va_P g.1 vwCl (wX10 g a_p u23 J_p ++ (wX7 g a_t I_t ++ (wX6 g a_e I_e ++ wX1 g a_y I_y))) H := hP
                  have hD : va_D A (wX10 g a_p u23 J_p ++ (wX7 g a_t I_t ++ (wX6 g a_e I_e ++ wX1 g a_y I_y))) := hD
                  refine hret 98 ls r22 _ _ u23 dX10_onPage_98 hS hP hD ?_
                  exact ⟨(PI.st hPI p_r22.2), (KP.tr (KP.rf I_p) (KP.st p_r22.2))⟩
                · have q_73 := bP.f p_r18 b_73
                  refine lv_aload_n hx hb dX10_onPage_76 rfl (lv_at hl 1 rfl) ?_
                  refine lv_bipush (v := 6) hx hb dX10_onPage_77 (by decide) ?_
                  refine EffI.cv (wr := (wX7 g a_t I_t ++ wX6 g a_e I_e ++ wX1 g a_y I_y)) (w' := fun u25 => wX10 g a_p u25 J_p ++ (wX7 g a_t I_t ++ (wX6 g a_e I_e ++ wX1 g a_y I_y))) (As := [.int (6 : Int32)]) (kX10_refuse l g a_p I_p J_p (6 : Int32)) fx (gUV (uT _) u_295 u_296 u_297 u_2 u_298) rfl hdX10_refuse ⟨Nat.le_of_ble_eq_true rfl, Nat.le_of_ble_eq_true rfl⟩ hK hP hD hS hA [0, 1] [2, 3, 4, 5, 6, 7, 8, 9, 10, 11, 12, 13, 14, 15, 16, 17, 18, 19] [18, 19, 0, 1, 2, 3, 4, 5, 6, 7, 8, 9, 10, 11, 12, 13, 14, 15, 16, 17] rfl rfl rfl rfl (by decide) rfl (fun _ => rfl) rfl rfl rfl rfl hl.1 (Nat.le_of_ble_eq_true rfl) dX10_onPage_79 (fun r24 u25 H locs p_r24 hP hD hS => ?_)
                  have hP : va_P g.1 vwCl (wX10 g a_p u25 J_p ++ (wX7 g a_t I_t ++ (wX6 g a_e I_e ++ wX1 g a_y I_y))) H := hP
                  have hD : va_D A (wX10 g a_p u25 J_p ++ (wX7 g a_t I_t ++ (wX6 g a_e I_e ++ wX1 g a_y I_y))) := hD
                  refine hret 82 ls r24 _ _ u25 dX10_onPage_82 hS hP hD ?_
                  exact ⟨(PI.st hPI p_r24.2), (KP.tr (KP.rf I_p) (KP.st p_r24.2))⟩
        · refine lv_aload_n hx hb dX10_onPage_38 rfl (lv_at hl 1 rfl) ?_
          refine lv_iconst (v := 1) hx hb dX10_onPage_39 (by decide) ?_
          refine EffI.cv (wr := (wX7 g a_t I_t ++ wX6 g a_e I_e ++ wX1 g a_y I_y)) (w' := fun u27 => wX10 g a_p u27 J_p ++ (wX7 g a_t I_t ++ (wX6 g a_e I_e ++ wX1 g a_y I_y))) (As := [.int (1 : Int32)]) (kX10_refuse l g a_p I_p J_p (1 : Int32)) fx (gUV (uT _) u_295 u_296 u_297 u_2 u_298) rfl hdX10_refuse ⟨Nat.le_of_ble_eq_true rfl, Nat.le_of_ble_eq_true rfl⟩ hK hP hD hS hA [0, 1] [2, 3, 4, 5, 6, 7, 8, 9, 10, 11, 12, 13, 14, 15, 16, 17, 18, 19] [18, 19, 0, 1, 2, 3, 4, 5, 6, 7, 8, 9, 10, 11, 12, 13, 14, 15, 16, 17] rfl rfl rfl rfl (by decide) rfl (fun _ => rfl) rfl rfl rfl rfl hl.1 (Nat.le_of_ble_eq_true rfl) dX10_onPage_40 (fun r26 u27 H locs p_r26 hP hD hS => ?_)
          have hP : va_P g.1 vwCl (wX10 g a_p u27 J_p ++ (wX7 g a_t I_t ++ (wX6 g a_e I_e ++ wX1 g a_y I_y))) H := hP
          have hD : va_D A (wX10 g a_p u27 J_p ++ (wX7 g a_t I_t ++ (wX6 g a_e I_e ++ wX1 g a_y I_y))) := hD
          refine hret 43 ls r26 _ _ u27 dX10_onPage_43 hS hP hD ?_
          exact ⟨(PI.st hPI p_r26.2), (KP.tr (KP.rf I_p) (KP.st p_r26.2))⟩

set_option maxHeartbeats 4000000 in
set_option maxRecDepth 100000 in
theorem kX10_hyphens (l : Launch) (g : gG) (a_p : Nat → Nat) (I_p : Nat → Nat → Int32) (J_p : Nat → Nat → Int64) (a_y : Nat → Nat) (I_y : Nat → Nat → Int32) (hl_p_layout : a_p 114 = a_y 0) (hPI : PI I_p) (hL : LI I_y) : EffI l g yX10_hyphens wsX10_hyphens 2 [.ref (a_p 0)] (wX10 g a_p I_p J_p ++ wX1 g a_y I_y) (fun (u : (Nat → Nat → Int32)) => wX10 g a_p u J_p ++ wX1 g a_y I_y) (fun r (u : (Nat → Nat → Int32)) => PI (u) ∧ KP I_p (u)) := by
  refine EffI.st (cc := cX10_hyphens) (maxL := 1) (by decide) rfl (Nat.le_of_ble_eq_true rfl) (fun p e s m args below meth c A Q ls fx hK hP hD hA hS hl hret => ?_)
  have hx := fx.1
  have hb := fx.2.1
  have hml := fx.2.2.1
  have hown := fx.2.2.2.1
  have hts := fx.2.2.2.2
  have hl : lv_has ls 1 [(0, .ref (a_p 0))] := hl
  have hP : va_P g.1 vwCl (wX10 g a_p I_p J_p ++ wX1 g a_y I_y) s.heap := hP
  have hf_61 := hts _ (uT _ _ u_37)
  have hf_78 := hts _ (uT _ _ u_46)
  have hi_X10 : ∀ w ∈ wsX100, w.before args s = true := fun w h => hts w (uT _ w (u_wsX100 w h))
  have lm1 : (-1 : Int32).toInt = -1 := by decide
  have lm0 : (0 : Int32).toInt = 0 := by decide
  have lm2 : (1 : Int32).toInt = 1 := by decide
  have hp1 := hPI.1
  have hp2 := hPI.2.1
  have hpc := LI.pc hL
  have hln := LI.ln hL
  have hwd := LI.wd hL
  have lq6 : (6 : Int32).toInt = 6 := by decide
  refine lv_aload_n hx hb dX10_hyphens_0 rfl (lv_at hl 0 rfl) ?_
  refine lv_aload_n hx hb dX10_hyphens_1 rfl (lv_at hl 0 rfl) ?_
  refine va_get (D := g.1) (ci := 10) (v := .int (I_p 0 11)) (C := RX10) (T := TX10) (N := 20) hx hb hi_X10 (fun _ h => h) hown hK.1 hP 0 rfl rfl 11 (by decide) hf_61 (fun _ h9 => h9) rfl dX10_hyphens_2 ?_
  refine lv_aload_n hx hb dX10_hyphens_5 rfl (lv_at hl 0 rfl) ?_
  refine va_get (D := g.1) (ci := 10) (v := .ref (a_y 0)) (C := RX10) (T := TX10) (N := 20) hx hb hi_X10 (fun _ h => h) hown hK.1 hP 0 rfl rfl 14 (by decide) hf_78 (fun _ h9 => h9) (congrArg (fun z => some (Value.ref z)) hl_p_layout) dX10_hyphens_6 ?_
  refine PurI.cv (As := []) (kX1_hyphenCount l g a_y I_y hL) fx (gUV (uT _) u_961 u_962 u_963 u_45 u_964) rfl hdX1_hyphenCount ⟨Nat.le_of_ble_eq_true rfl, Nat.le_of_ble_eq_true rfl⟩ hK hP [2, 3, 4, 5, 6, 7, 8] rfl rfl rfl rfl rfl hl.1 (Nat.le_of_ble_eq_true rfl) dX10_hyphens_9 (fun r1 p_r1 => ?_)
  refine lv_bipush (v := 6) hx hb dX10_hyphens_12 (by decide) ?_
  refine EffI.cv (wr := (wX1 g a_y I_y)) (w' := fun u3 => wX10 g a_p u3 J_p ++ wX1 g a_y I_y) (As := [.int (I_p 0 11), .int r1, .int (6 : Int32)]) (kX10_answerOr l g a_p I_p J_p (I_p 0 11) r1 (6 : Int32)) fx (gUV (uT _) u_781 u_782 u_783 u_2 u_784) rfl hdX10_answerOr ⟨Nat.le_of_ble_eq_true rfl, Nat.le_of_ble_eq_true rfl⟩ hK hP hD hS hA [0, 1] [2, 3, 4, 5, 6, 7, 8] [7, 8, 0, 1, 2, 3, 4, 5, 6] rfl rfl rfl rfl (by decide) rfl (fun _ => rfl) rfl rfl rfl rfl hl.1 (Nat.le_of_ble_eq_true rfl) dX10_hyphens_14 (fun r2 u3 H locs p_r2 hP hD hS => ?_)
  have hP : va_P g.1 vwCl (wX10 g a_p u3 J_p ++ wX1 g a_y I_y) H := hP
  have hD : va_D A (wX10 g a_p u3 J_p ++ wX1 g a_y I_y) := hD
  refine hret 17 ls r2 _ _ u3 dX10_hyphens_17 hS hP hD ?_
  exact ⟨(PI.st hPI p_r2.2.choose_spec), (KP.tr (KP.rf I_p) (KP.st p_r2.2.choose_spec))⟩

set_option maxHeartbeats 4000000 in
set_option maxRecDepth 100000 in
theorem kX10_used (l : Launch) (g : gG) (a_p : Nat → Nat) (I_p : Nat → Nat → Int32) (J_p : Nat → Nat → Int64) (a_t : Nat → Nat) (I_t : Nat → Nat → Int32) (a_e : Nat → Nat) (I_e : Nat → Nat → Int32) (rule : Int32) (hl_p_table : a_p 109 = a_t 0) (hl_p_shown : a_p 112 = a_e 0) (hPI : PI I_p) (hT : TI I_t) (hE : EI I_e) : EffI l g yX10_used wsX10_used 2 [.ref (a_p 0), .int rule] (wX10 g a_p I_p J_p ++ (wX7 g a_t I_t ++ wX6 g a_e I_e)) (fun (u : (Nat → Nat → Int32)) => wX10 g a_p u J_p ++ (wX7 g a_t I_t ++ wX6 g a_e I_e)) (fun r (u : (Nat → Nat → Int32)) => PI (u) ∧ KP I_p (u)) := by
  refine EffI.st (cc := cX10_used) (maxL := 2) (by decide) rfl (Nat.le_of_ble_eq_true rfl) (fun p e s m args below meth c A Q ls fx hK hP hD hA hS hl hret => ?_)
  have hx := fx.1
  have hb := fx.2.1
  have hml := fx.2.2.1
  have hown := fx.2.2.2.1
  have hts := fx.2.2.2.2
  have hl : lv_has ls 2 [(0, .ref (a_p 0)), (1, .int rule)] := hl
  have hP : va_P g.1 vwCl (wX10 g a_p I_p J_p ++ (wX7 g a_t I_t ++ wX6 g a_e I_e)) s.heap := hP
  have hf_50 := hts _ (uT _ _ u_32)
  have hf_61 := hts _ (uT _ _ u_37)
  have hf_68 := hts _ (uT _ _ u_41)
  have hf_280 := hts _ (uT _ _ u_973)
  have hi_X10 : ∀ w ∈ wsX100, w.before args s = true := fun w h => hts w (uT _ w (u_wsX100 w h))
  have hi_X6 : ∀ w ∈ wsX60, w.before args s = true := fun w h => hts w (uT _ w (u_wsX60 w h))
  have lm1 : (-1 : Int32).toInt = -1 := by decide
  have lm0 : (0 : Int32).toInt = 0 := by decide
  have lm2 : (1 : Int32).toInt = 1 := by decide
  have hp1 := hPI.1
  have hp2 := hPI.2.1
  have hru := TI.ru hT
  have hlt3 := TI.li hT
  have hlt4 := TI.pa hT
  have hE0 := hE.1
  have hE1 := hE.2
  have lq6 : (6 : Int32).toInt = 6 := by decide
  refine lv_aload_n hx hb dX10_used_0 rfl (lv_at hl 0 rfl) ?_
  refine va_get (D := g.1) (ci := 10) (v := .ref (a_t 0)) (C := RX10) (T := TX10) (N := 20) hx hb hi_X10 (fun _ h => h) hown hK.1 hP 0 rfl rfl 9 (by decide) hf_50 (fun _ h9 => h9) (congrArg (fun z => some (Value.ref z)) hl_p_table) dX10_used_1 ?_
  refine lv_iload_n hx hb dX10_used_4 rfl (lv_at hl 1 rfl) ?_
  refine PurI.cv (As := [.int rule]) (kX7_has l g a_t I_t rule) fx (gUV (uT _) u_796 u_797 u_798 u_31 u_799) rfl hdX7_has ⟨Nat.le_of_ble_eq_true rfl, Nat.le_of_ble_eq_true rfl⟩ hK hP [2, 3, 4, 5, 6, 7, 8] rfl rfl rfl rfl rfl hl.1 (Nat.le_of_ble_eq_true rfl) dX10_used_5 (fun r1 p_r1 => ?_)
  refine q_if_ne (tgt := 17) hx hb dX10_used_8 (by decide) rfl (fun b_8 k_8 => ?_) (fun b_8 k_8 => ?_)
  · have q_8 := bP.t p_r1 b_8
    refine lv_aload_n hx hb dX10_used_17 rfl (lv_at hl 0 rfl) ?_
    refine lv_aload_n hx hb dX10_used_18 rfl (lv_at hl 0 rfl) ?_
    refine va_get (D := g.1) (ci := 10) (v := .int (I_p 0 11)) (C := RX10) (T := TX10) (N := 20) hx hb hi_X10 (fun _ h => h) hown hK.1 hP 0 rfl rfl 11 (by decide) hf_61 (fun _ h9 => h9) rfl dX10_used_19 ?_
    refine lv_aload_n hx hb dX10_used_22 rfl (lv_at hl 0 rfl) ?_
    refine va_get (D := g.1) (ci := 10) (v := .ref (a_e 0)) (C := RX10) (T := TX10) (N := 20) hx hb hi_X10 (fun _ h => h) hown hK.1 hP 0 rfl rfl 12 (by decide) hf_68 (fun _ h9 => h9) (congrArg (fun z => some (Value.ref z)) hl_p_shown) dX10_used_23 ?_
    refine va_get (D := g.1) (ci := 6) (v := .ref (a_e 3)) (C := RX6) (T := TX6) (N := 10) hx hb hi_X6 (fun _ h => h) hown hK.1 hP 9 rfl rfl 2 (by decide) hf_280 (fun _ h9 => h9) rfl dX10_used_26 ?_
    refine lv_iload_n hx hb dX10_used_29 rfl (lv_at hl 1 rfl) ?_
    have n_30 : vp_in rule 24 := (t_in (by omega))
    refine va_iald hx hb hK.1 hP 12 0 rfl rfl n_30 dX10_used_30 ?_
    refine q_nm (fun x2 e_x2 => ?_)
    have e_x2 : x2 = (I_e 3) rule.toNatClampNeg := e_x2
    have g_x2 : x2.toInt = ((I_e 3) rule.toNatClampNeg).toInt := congrArg _ e_x2
    refine lv_bipush (v := 6) hx hb dX10_used_31 (by decide) ?_
    refine EffI.cv (wr := (wX7 g a_t I_t ++ wX6 g a_e I_e)) (w' := fun u4 => wX10 g a_p u4 J_p ++ (wX7 g a_t I_t ++ wX6 g a_e I_e)) (As := [.int (I_p 0 11), .int x2, .int (6 : Int32)]) (kX10_answerOr l g a_p I_p J_p (I_p 0 11) x2 (6 : Int32)) fx (gUV (uT _) u_781 u_782 u_783 u_2 u_784) rfl hdX10_answerOr ⟨Nat.le_of_ble_eq_true rfl, Nat.le_of_ble_eq_true rfl⟩ hK hP hD hS hA [0, 1] [2, 3, 4, 5, 6, 7, 8, 9, 10, 11, 12] [11, 12, 0, 1, 2, 3, 4, 5, 6, 7, 8, 9, 10] rfl rfl rfl rfl (by decide) rfl (fun _ => rfl) rfl rfl rfl rfl hl.1 (Nat.le_of_ble_eq_true rfl) dX10_used_33 (fun r3 u4 H locs p_r3 hP hD hS => ?_)
    have hP : va_P g.1 vwCl (wX10 g a_p u4 J_p ++ (wX7 g a_t I_t ++ wX6 g a_e I_e)) H := hP
    have hD : va_D A (wX10 g a_p u4 J_p ++ (wX7 g a_t I_t ++ wX6 g a_e I_e)) := hD
    refine hret 36 ls r3 _ _ u4 dX10_used_36 hS hP hD ?_
    exact ⟨(PI.st hPI p_r3.2.choose_spec), (KP.tr (KP.rf I_p) (KP.st p_r3.2.choose_spec))⟩
  · have q_8 := bP.f p_r1 b_8
    refine lv_aload_n hx hb dX10_used_11 rfl (lv_at hl 0 rfl) ?_
    refine lv_iconst (v := 1) hx hb dX10_used_12 (by decide) ?_
    refine EffI.cv (wr := (wX7 g a_t I_t ++ wX6 g a_e I_e)) (w' := fun u6 => wX10 g a_p u6 J_p ++ (wX7 g a_t I_t ++ wX6 g a_e I_e)) (As := [.int (1 : Int32)]) (kX10_refuse l g a_p I_p J_p (1 : Int32)) fx (gUV (uT _) u_295 u_296 u_297 u_2 u_298) rfl hdX10_refuse ⟨Nat.le_of_ble_eq_true rfl, Nat.le_of_ble_eq_true rfl⟩ hK hP hD hS hA [0, 1] [2, 3, 4, 5, 6, 7, 8, 9, 10, 11, 12] [11, 12, 0, 1, 2, 3, 4, 5, 6, 7, 8, 9, 10] rfl rfl rfl rfl (by decide) rfl (fun _ => rfl) rfl rfl rfl rfl hl.1 (Nat.le_of_ble_eq_true rfl) dX10_used_13 (fun r5 u6 H locs p_r5 hP hD hS => ?_)
    have hP : va_P g.1 vwCl (wX10 g a_p u6 J_p ++ (wX7 g a_t I_t ++ wX6 g a_e I_e)) H := hP
    have hD : va_D A (wX10 g a_p u6 J_p ++ (wX7 g a_t I_t ++ wX6 g a_e I_e)) := hD
    refine hret 16 ls r5 _ _ u6 dX10_used_16 hS hP hD ?_
    exact ⟨(PI.st hPI p_r5.2), (KP.tr (KP.rf I_p) (KP.st p_r5.2))⟩

set_option maxHeartbeats 4000000 in
set_option maxRecDepth 100000 in
theorem kX10_useless (l : Launch) (g : gG) (a_p : Nat → Nat) (I_p : Nat → Nat → Int32) (J_p : Nat → Nat → Int64) (a_t : Nat → Nat) (I_t : Nat → Nat → Int32) (a_e : Nat → Nat) (I_e : Nat → Nat → Int32) (hl_p_table : a_p 109 = a_t 0) (hl_p_shown : a_p 112 = a_e 0) (hPI : PI I_p) (hT : TI I_t) (hE : EI I_e) : EffI l g yX10_useless wsX10_useless 2 [.ref (a_p 0)] (wX10 g a_p I_p J_p ++ (wX7 g a_t I_t ++ wX6 g a_e I_e)) (fun (u : (Nat → Nat → Int32)) => wX10 g a_p u J_p ++ (wX7 g a_t I_t ++ wX6 g a_e I_e)) (fun r (u : (Nat → Nat → Int32)) => PI (u) ∧ KP I_p (u)) := by
  refine EffI.st (cc := cX10_useless) (maxL := 3) (by decide) rfl (Nat.le_of_ble_eq_true rfl) (fun p e s m args below meth c A Q ls fx hK hP hD hA hS hl hret => ?_)
  have hx := fx.1
  have hb := fx.2.1
  have hml := fx.2.2.1
  have hown := fx.2.2.2.1
  have hts := fx.2.2.2.2
  have hl : lv_has ls 3 [(0, .ref (a_p 0))] := hl
  have hP : va_P g.1 vwCl (wX10 g a_p I_p J_p ++ (wX7 g a_t I_t ++ wX6 g a_e I_e)) s.heap := hP
  have hf_50 := hts _ (uT _ _ u_32)
  have hf_61 := hts _ (uT _ _ u_37)
  have hf_68 := hts _ (uT _ _ u_41)
  have hf_181 := hts _ (uT _ _ u_357)
  have hf_280 := hts _ (uT _ _ u_973)
  have hi_X10 : ∀ w ∈ wsX100, w.before args s = true := fun w h => hts w (uT _ w (u_wsX100 w h))
  have hi_X6 : ∀ w ∈ wsX60, w.before args s = true := fun w h => hts w (uT _ w (u_wsX60 w h))
  have hi_X7 : ∀ w ∈ wsX70, w.before args s = true := fun w h => hts w (uT _ w (u_wsX70 w h))
  have lm1 : (-1 : Int32).toInt = -1 := by decide
  have lm0 : (0 : Int32).toInt = 0 := by decide
  have lm2 : (1 : Int32).toInt = 1 := by decide
  have hp1 := hPI.1
  have hp2 := hPI.2.1
  have hru := TI.ru hT
  have hlt3 := TI.li hT
  have hlt4 := TI.pa hT
  have hE0 := hE.1
  have hE1 := hE.2
  have lq6 : (6 : Int32).toInt = 6 := by decide
  refine lv_aload_n hx hb dX10_useless_0 rfl (lv_at hl 0 rfl) ?_
  refine va_get (D := g.1) (ci := 10) (v := .int (I_p 0 11)) (C := RX10) (T := TX10) (N := 20) hx hb hi_X10 (fun _ h => h) hown hK.1 hP 0 rfl rfl 11 (by decide) hf_61 (fun _ h9 => h9) rfl dX10_useless_1 ?_
  refine q_if_ne (tgt := 14) hx hb dX10_useless_4 (by decide) rfl (fun b_4 k_4 => ?_) (fun b_4 k_4 => ?_)
  · refine lv_iconst (v := 0) hx hb dX10_useless_14 (by decide) ?_
    refine lv_istore_n (lv' := [(1, .int (0 : Int32)), (0, .ref (a_p 0))]) hx hb dX10_useless_15 rfl hl (by decide) rfl (fun ls hl => ?_)
    refine lv_iconst (v := 0) hx hb dX10_useless_16 (by decide) ?_
    refine lv_istore_n (lv' := [(2, .int (0 : Int32)), (1, .int (0 : Int32)), (0, .ref (a_p 0))]) hx hb dX10_useless_17 rfl hl (by decide) rfl (fun ls hl => ?_)
    have L18 : ∀ (nn : Nat) (v1_18 : Int32) (v2_18 : Int32), (hv_18 : 0 ≤ v2_18.toInt ∧ v2_18.toInt ≤ 24) → ((25 - v2_18.toInt) < (nn : Int)) → ∀ (H : Heap) (locs : List Loc), va_P g.1 vwCl (wX10 g a_p I_p J_p ++ (wX7 g a_t I_t ++ wX6 g a_e I_e)) H → va_D A (wX10 g a_p I_p J_p ++ (wX7 g a_t I_t ++ wX6 g a_e I_e)) → va_S A s.heap H locs → ∀ ls : Array Slot, lv_has ls 3 [(2, .int v2_18), (1, .int v1_18), (0, .ref (a_p 0))] → W p l e (rm 2) s m args below meth c H locs 0 0 Q (F0 m 18 ls []) := by
      intro n_18
      induction n_18 with
      | zero =>
        intro v1_18 v2_18 hv_18 hms_18 H locs hP hD hS ls hl
        exfalso; omega
      | succ n_18 ih_18 =>
        intro v1_18 v2_18 hv_18 hms_18 H locs hP hD hS ls hl
        refine lv_iload_n hx hb dX10_useless_18 rfl (lv_at hl 0 rfl) ?_
        refine lv_aload_n hx hb dX10_useless_19 rfl (lv_at hl 2 rfl) ?_
        refine va_get (D := g.1) (ci := 10) (v := .ref (a_t 0)) (C := RX10) (T := TX10) (N := 20) hx hb hi_X10 (fun _ h => h) hown hK.1 hP 0 rfl rfl 9 (by decide) hf_50 (fun _ h9 => h9) (congrArg (fun z => some (Value.ref z)) hl_p_table) dX10_useless_20 ?_
        refine va_get (D := g.1) (ci := 7) (v := .int (I_t 0 0)) (C := RX7) (T := TX7) (N := 8) hx hb hi_X7 (fun _ h => h) hown hK.1 hP 2 rfl rfl 0 (by decide) hf_181 (fun _ h9 => h9) rfl dX10_useless_23 ?_
        refine q_icmp_ge (tgt := 64) hx hb dX10_useless_26 (by decide) rfl rfl (fun k_26 => ?_) (fun k_26 => ?_)
        · refine lv_aload_n hx hb dX10_useless_64 rfl (lv_at hl 2 rfl) ?_
          refine lv_iload_n hx hb dX10_useless_65 rfl (lv_at hl 1 rfl) ?_
          refine EffI.cv (wr := (wX7 g a_t I_t ++ wX6 g a_e I_e)) (w' := fun u2 => wX10 g a_p u2 J_p ++ (wX7 g a_t I_t ++ wX6 g a_e I_e)) (As := [.int v1_18]) (kX10_answer l g a_p I_p J_p v1_18) fx (gUV (uT _) u_497 u_498 u_499 u_2 u_500) rfl hdX10_answer ⟨Nat.le_of_ble_eq_true rfl, Nat.le_of_ble_eq_true rfl⟩ hK hP hD hS hA [0, 1] [2, 3, 4, 5, 6, 7, 8, 9, 10, 11, 12] [11, 12, 0, 1, 2, 3, 4, 5, 6, 7, 8, 9, 10] rfl rfl rfl rfl (by decide) rfl (fun _ => rfl) rfl rfl rfl rfl hl.1 (Nat.le_of_ble_eq_true rfl) dX10_useless_66 (fun r1 u2 H locs p_r1 hP hD hS => ?_)
          have hP : va_P g.1 vwCl (wX10 g a_p u2 J_p ++ (wX7 g a_t I_t ++ wX6 g a_e I_e)) H := hP
          have hD : va_D A (wX10 g a_p u2 J_p ++ (wX7 g a_t I_t ++ wX6 g a_e I_e)) := hD
          refine hret 69 ls r1 _ _ u2 dX10_useless_69 hS hP hD ?_
          exact ⟨(PI.st hPI p_r1.2), (KP.tr (KP.rf I_p) (KP.st p_r1.2))⟩
        · refine lv_aload_n hx hb dX10_useless_29 rfl (lv_at hl 2 rfl) ?_
          refine va_get (D := g.1) (ci := 10) (v := .ref (a_t 0)) (C := RX10) (T := TX10) (N := 20) hx hb hi_X10 (fun _ h => h) hown hK.1 hP 0 rfl rfl 9 (by decide) hf_50 (fun _ h9 => h9) (congrArg (fun z => some (Value.ref z)) hl_p_table) dX10_useless_30 ?_
          refine lv_iload_n hx hb dX10_useless_33 rfl (lv_at hl 0 rfl) ?_
          refine PurI.cv (As := [.int v2_18]) (kX7_isThere l g a_t I_t v2_18) fx (gUV (uT _) u_982 u_983 u_984 u_31 u_985) rfl hdX7_isThere ⟨Nat.le_of_ble_eq_true rfl, Nat.le_of_ble_eq_true rfl⟩ hK hP [2, 3, 4, 5, 6, 7, 8] rfl rfl rfl rfl rfl hl.1 (Nat.le_of_ble_eq_true rfl) dX10_useless_34 (fun r3 p_r3 => ?_)
          refine q_if_eq (tgt := 58) hx hb dX10_useless_37 (by decide) rfl (fun b_37 k_37 => ?_) (fun b_37 k_37 => ?_)
          · have q_37 := bP.f p_r3 b_37
            refine r_iinc (lv' := fun i4 => [(2, .int i4), (1, .int v1_18), (0, .ref (a_p 0))]) hx hb dX10_useless_58 hl (k := 0) rfl (by decide) rfl (by decide) (fun _ => rfl) (fun i4 e_i4 t_i4 ls hl => ?_)
            try have t_i4 := t_i4 (by omega)
            refine lv_goto (tgt := 18) hx hb dX10_useless_61 (by decide) ?_
            exact ih_18 v1_18 i4 (by omega) (by omega) _ _ hP hD hS ls hl
          · have q_37 := bP.t p_r3 b_37
            refine lv_aload_n hx hb dX10_useless_40 rfl (lv_at hl 2 rfl) ?_
            refine va_get (D := g.1) (ci := 10) (v := .ref (a_e 0)) (C := RX10) (T := TX10) (N := 20) hx hb hi_X10 (fun _ h => h) hown hK.1 hP 0 rfl rfl 12 (by decide) hf_68 (fun _ h9 => h9) (congrArg (fun z => some (Value.ref z)) hl_p_shown) dX10_useless_41 ?_
            refine va_get (D := g.1) (ci := 6) (v := .ref (a_e 3)) (C := RX6) (T := TX6) (N := 10) hx hb hi_X6 (fun _ h => h) hown hK.1 hP 9 rfl rfl 2 (by decide) hf_280 (fun _ h9 => h9) rfl dX10_useless_44 ?_
            refine lv_iload_n hx hb dX10_useless_47 rfl (lv_at hl 0 rfl) ?_
            have n_48 : vp_in v2_18 24 := (t_in (by omega))
            refine va_iald hx hb hK.1 hP 12 0 rfl rfl n_48 dX10_useless_48 ?_
            refine q_nm (fun x5 e_x5 => ?_)
            have e_x5 : x5 = (I_e 3) v2_18.toNatClampNeg := e_x5
            have g_x5 : x5.toInt = ((I_e 3) v2_18.toNatClampNeg).toInt := congrArg _ e_x5
            refine q_if_ne (tgt := 58) hx hb dX10_useless_49 (by decide) rfl (fun b_49 k_49 => ?_) (fun b_49 k_49 => ?_)
            · refine r_iinc (lv' := fun i6 => [(2, .int i6), (1, .int v1_18), (0, .ref (a_p 0))]) hx hb dX10_useless_58 hl (k := 0) rfl (by decide) rfl (by decide) (fun _ => rfl) (fun i6 e_i6 t_i6 ls hl => ?_)
              try have t_i6 := t_i6 (by omega)
              refine lv_goto (tgt := 18) hx hb dX10_useless_61 (by decide) ?_
              exact ih_18 v1_18 i6 (by omega) (by omega) _ _ hP hD hS ls hl
            · refine lv_iload_n hx hb dX10_useless_52 rfl (lv_at hl 1 rfl) ?_
              refine lv_iconst (v := 1) hx hb dX10_useless_53 (by decide) ?_
              refine lv_iload_n hx hb dX10_useless_54 rfl (lv_at hl 0 rfl) ?_
              refine lv_ishl hx hb dX10_useless_55 ?_
              refine q_nm (fun x7 e_x7 => ?_)
              refine lv_ior hx hb dX10_useless_56 ?_
              refine q_nm (fun x8 e_x8 => ?_)
              refine lv_istore_n (lv' := [(1, .int x8), (2, .int v2_18), (0, .ref (a_p 0))]) hx hb dX10_useless_57 rfl hl (by decide) rfl (fun ls hl => ?_)
              refine r_iinc (lv' := fun i9 => [(2, .int i9), (1, .int x8), (0, .ref (a_p 0))]) hx hb dX10_useless_58 hl (k := 1) rfl (by decide) rfl (by decide) (fun _ => rfl) (fun i9 e_i9 t_i9 ls hl => ?_)
              try have t_i9 := t_i9 (by omega)
              refine lv_goto (tgt := 18) hx hb dX10_useless_61 (by decide) ?_
              exact ih_18 x8 i9 (by omega) (by omega) _ _ hP hD hS ls hl
    exact L18 ((25 - (0 : Int32).toInt) + 1).toNat (0 : Int32) (0 : Int32) (by omega) (by omega) _ _ hP hD hS ls hl
  · refine lv_aload_n hx hb dX10_useless_7 rfl (lv_at hl 0 rfl) ?_
    refine lv_bipush (v := 6) hx hb dX10_useless_8 (by decide) ?_
    refine EffI.cv (wr := (wX7 g a_t I_t ++ wX6 g a_e I_e)) (w' := fun u11 => wX10 g a_p u11 J_p ++ (wX7 g a_t I_t ++ wX6 g a_e I_e)) (As := [.int (6 : Int32)]) (kX10_refuse l g a_p I_p J_p (6 : Int32)) fx (gUV (uT _) u_295 u_296 u_297 u_2 u_298) rfl hdX10_refuse ⟨Nat.le_of_ble_eq_true rfl, Nat.le_of_ble_eq_true rfl⟩ hK hP hD hS hA [0, 1] [2, 3, 4, 5, 6, 7, 8, 9, 10, 11, 12] [11, 12, 0, 1, 2, 3, 4, 5, 6, 7, 8, 9, 10] rfl rfl rfl rfl (by decide) rfl (fun _ => rfl) rfl rfl rfl rfl hl.1 (Nat.le_of_ble_eq_true rfl) dX10_useless_10 (fun r10 u11 H locs p_r10 hP hD hS => ?_)
    have hP : va_P g.1 vwCl (wX10 g a_p u11 J_p ++ (wX7 g a_t I_t ++ wX6 g a_e I_e)) H := hP
    have hD : va_D A (wX10 g a_p u11 J_p ++ (wX7 g a_t I_t ++ wX6 g a_e I_e)) := hD
    refine hret 13 ls r10 _ _ u11 dX10_useless_13 hS hP hD ?_
    exact ⟨(PI.st hPI p_r10.2), (KP.tr (KP.rf I_p) (KP.st p_r10.2))⟩

set_option maxHeartbeats 4000000 in
set_option maxRecDepth 100000 in
theorem kX10_dots (l : Launch) (g : gG) (a_p : Nat → Nat) (I_p : Nat → Nat → Int32) (J_p : Nat → Nat → Int64) (a_e : Nat → Nat) (I_e : Nat → Nat → Int32) (hl_p_shown : a_p 112 = a_e 0) (hPI : PI I_p) (hE : EI I_e) : EffI l g yX10_dots wsX10_dots 2 [.ref (a_p 0)] (wX10 g a_p I_p J_p ++ wX6 g a_e I_e) (fun (u : (Nat → Nat → Int32)) => wX10 g a_p u J_p ++ wX6 g a_e I_e) (fun r (u : (Nat → Nat → Int32)) => PI (u) ∧ KP I_p (u)) := by
  refine EffI.st (cc := cX10_dots) (maxL := 1) (by decide) rfl (Nat.le_of_ble_eq_true rfl) (fun p e s m args below meth c A Q ls fx hK hP hD hA hS hl hret => ?_)
  have hx := fx.1
  have hb := fx.2.1
  have hml := fx.2.2.1
  have hown := fx.2.2.2.1
  have hts := fx.2.2.2.2
  have hl : lv_has ls 1 [(0, .ref (a_p 0))] := hl
  have hP : va_P g.1 vwCl (wX10 g a_p I_p J_p ++ wX6 g a_e I_e) s.heap := hP
  have hf_61 := hts _ (uT _ _ u_37)
  have hf_68 := hts _ (uT _ _ u_41)
  have hf_200 := hts _ (uT _ _ u_596)
  have hi_X10 : ∀ w ∈ wsX100, w.before args s = true := fun w h => hts w (uT _ w (u_wsX100 w h))
  have hi_X6 : ∀ w ∈ wsX60, w.before args s = true := fun w h => hts w (uT _ w (u_wsX60 w h))
  have lm1 : (-1 : Int32).toInt = -1 := by decide
  have lm0 : (0 : Int32).toInt = 0 := by decide
  have lm2 : (1 : Int32).toInt = 1 := by decide
  have hp1 := hPI.1
  have hp2 := hPI.2.1
  have hE0 := hE.1
  have hE1 := hE.2
  have lq6 : (6 : Int32).toInt = 6 := by decide
  refine lv_aload_n hx hb dX10_dots_0 rfl (lv_at hl 0 rfl) ?_
  refine va_get (D := g.1) (ci := 10) (v := .int (I_p 0 11)) (C := RX10) (T := TX10) (N := 20) hx hb hi_X10 (fun _ h => h) hown hK.1 hP 0 rfl rfl 11 (by decide) hf_61 (fun _ h9 => h9) rfl dX10_dots_1 ?_
  refine q_if_ne (tgt := 14) hx hb dX10_dots_4 (by decide) rfl (fun b_4 k_4 => ?_) (fun b_4 k_4 => ?_)
  · refine lv_aload_n hx hb dX10_dots_14 rfl (lv_at hl 0 rfl) ?_
    refine lv_aload_n hx hb dX10_dots_15 rfl (lv_at hl 0 rfl) ?_
    refine va_get (D := g.1) (ci := 10) (v := .ref (a_e 0)) (C := RX10) (T := TX10) (N := 20) hx hb hi_X10 (fun _ h => h) hown hK.1 hP 0 rfl rfl 12 (by decide) hf_68 (fun _ h9 => h9) (congrArg (fun z => some (Value.ref z)) hl_p_shown) dX10_dots_16 ?_
    refine lv_iconst (v := 0) hx hb dX10_dots_19 (by decide) ?_
    refine lv_aload_n hx hb dX10_dots_20 rfl (lv_at hl 0 rfl) ?_
    refine va_get (D := g.1) (ci := 10) (v := .ref (a_e 0)) (C := RX10) (T := TX10) (N := 20) hx hb hi_X10 (fun _ h => h) hown hK.1 hP 0 rfl rfl 12 (by decide) hf_68 (fun _ h9 => h9) (congrArg (fun z => some (Value.ref z)) hl_p_shown) dX10_dots_21 ?_
    refine va_get (D := g.1) (ci := 6) (v := .int (I_e 0 3)) (C := RX6) (T := TX6) (N := 10) hx hb hi_X6 (fun _ h => h) hown hK.1 hP 2 rfl rfl 3 (by decide) hf_200 (fun _ h9 => h9) rfl dX10_dots_24 ?_
    refine PurI.cv (As := [.int (0 : Int32), .int (I_e 0 3)]) (kX6_dotsOf l g a_e I_e (0 : Int32) (I_e 0 3) (by omega)) fx (gUV (uT _) u_994 u_995 u_996 u_40 u_997) rfl hdX6_dotsOf ⟨Nat.le_of_ble_eq_true rfl, Nat.le_of_ble_eq_true rfl⟩ hK hP [2, 3, 4, 5] rfl rfl rfl rfl rfl hl.1 (Nat.le_of_ble_eq_true rfl) dX10_dots_27 (fun r1 p_r1 => ?_)
    refine EffI.cv (wr := (wX6 g a_e I_e)) (w' := fun u3 => wX10 g a_p u3 J_p ++ wX6 g a_e I_e) (As := [.int r1]) (kX10_answer l g a_p I_p J_p r1) fx (gUV (uT _) u_497 u_498 u_499 u_2 u_500) rfl hdX10_answer ⟨Nat.le_of_ble_eq_true rfl, Nat.le_of_ble_eq_true rfl⟩ hK hP hD hS hA [0, 1] [2, 3, 4, 5] [4, 5, 0, 1, 2, 3] rfl rfl rfl rfl (by decide) rfl (fun _ => rfl) rfl rfl rfl rfl hl.1 (Nat.le_of_ble_eq_true rfl) dX10_dots_30 (fun r2 u3 H locs p_r2 hP hD hS => ?_)
    have hP : va_P g.1 vwCl (wX10 g a_p u3 J_p ++ wX6 g a_e I_e) H := hP
    have hD : va_D A (wX10 g a_p u3 J_p ++ wX6 g a_e I_e) := hD
    refine hret 33 ls r2 _ _ u3 dX10_dots_33 hS hP hD ?_
    exact ⟨(PI.st hPI p_r2.2), (KP.tr (KP.rf I_p) (KP.st p_r2.2))⟩
  · refine lv_aload_n hx hb dX10_dots_7 rfl (lv_at hl 0 rfl) ?_
    refine lv_bipush (v := 6) hx hb dX10_dots_8 (by decide) ?_
    refine EffI.cv (wr := (wX6 g a_e I_e)) (w' := fun u5 => wX10 g a_p u5 J_p ++ wX6 g a_e I_e) (As := [.int (6 : Int32)]) (kX10_refuse l g a_p I_p J_p (6 : Int32)) fx (gUV (uT _) u_295 u_296 u_297 u_2 u_298) rfl hdX10_refuse ⟨Nat.le_of_ble_eq_true rfl, Nat.le_of_ble_eq_true rfl⟩ hK hP hD hS hA [0, 1] [2, 3, 4, 5] [4, 5, 0, 1, 2, 3] rfl rfl rfl rfl (by decide) rfl (fun _ => rfl) rfl rfl rfl rfl hl.1 (Nat.le_of_ble_eq_true rfl) dX10_dots_10 (fun r4 u5 H locs p_r4 hP hD hS => ?_)
    have hP : va_P g.1 vwCl (wX10 g a_p u5 J_p ++ wX6 g a_e I_e) H := hP
    have hD : va_D A (wX10 g a_p u5 J_p ++ wX6 g a_e I_e) := hD
    refine hret 13 ls r4 _ _ u5 dX10_dots_13 hS hP hD ?_
    exact ⟨(PI.st hPI p_r4.2), (KP.tr (KP.rf I_p) (KP.st p_r4.2))⟩

set_option maxHeartbeats 4000000 in
set_option maxRecDepth 100000 in
theorem kX10_cellsBesideLetters (l : Launch) (g : gG) (a_p : Nat → Nat) (I_p : Nat → Nat → Int32) (J_p : Nat → Nat → Int64) (a_e : Nat → Nat) (I_e : Nat → Nat → Int32) (hl_p_shown : a_p 112 = a_e 0) (hPI : PI I_p) (hE : EI I_e) : PurI l g yX10_cellsBesideLetters wsX10_cellsBesideLetters 0 [.ref (a_p 0)] (wX10 g a_p I_p J_p ++ wX6 g a_e I_e) (fun r => True) := by
  refine PurI.st (cc := cX10_cellsBesideLetters) (maxL := 1) (by decide) rfl (Nat.le_of_ble_eq_true rfl) (fun p e s m args below meth c Q ls fx hK hP hl hret => ?_)
  have hx := fx.1
  have hb := fx.2.1
  have hml := fx.2.2.1
  have hown := fx.2.2.2.1
  have hts := fx.2.2.2.2
  have hl : lv_has ls 1 [(0, .ref (a_p 0))] := hl
  have hP : va_P g.1 vwCl (wX10 g a_p I_p J_p ++ wX6 g a_e I_e) s.heap := hP
  have hf_68 := hts _ (uT _ _ u_41)
  have hf_200 := hts _ (uT _ _ u_596)
  have hf_298 := hts _ (uT _ _ u_1031)
  have hi_X10 : ∀ w ∈ wsX100, w.before args s = true := fun w h => hts w (uT _ w (u_wsX100 w h))
  have hi_X6 : ∀ w ∈ wsX60, w.before args s = true := fun w h => hts w (uT _ w (u_wsX60 w h))
  have lm1 : (-1 : Int32).toInt = -1 := by decide
  have lm0 : (0 : Int32).toInt = 0 := by decide
  have lm2 : (1 : Int32).toInt = 1 := by decide
  have hp1 := hPI.1
  have hp2 := hPI.2.1
  have hE0 := hE.1
  have hE1 := hE.2
  refine lv_aload_n hx hb dX10_cellsBesideLetters_0 rfl (lv_at hl 0 rfl) ?_
  refine va_get (D := g.1) (ci := 10) (v := .ref (a_e 0)) (C := RX10) (T := TX10) (N := 20) hx hb hi_X10 (fun _ h => h) hown hK.1 hP 0 rfl rfl 12 (by decide) hf_68 (fun _ h9 => h9) (congrArg (fun z => some (Value.ref z)) hl_p_shown) dX10_cellsBesideLetters_1 ?_
  refine va_get (D := g.1) (ci := 6) (v := .int (I_e 0 3)) (C := RX6) (T := TX6) (N := 10) hx hb hi_X6 (fun _ h => h) hown hK.1 hP 2 rfl rfl 3 (by decide) hf_200 (fun _ h9 => h9) rfl dX10_cellsBesideLetters_4 ?_
  refine lv_aload_n hx hb dX10_cellsBesideLetters_7 rfl (lv_at hl 0 rfl) ?_
  refine va_get (D := g.1) (ci := 10) (v := .ref (a_e 0)) (C := RX10) (T := TX10) (N := 20) hx hb hi_X10 (fun _ h => h) hown hK.1 hP 0 rfl rfl 12 (by decide) hf_68 (fun _ h9 => h9) (congrArg (fun z => some (Value.ref z)) hl_p_shown) dX10_cellsBesideLetters_8 ?_
  refine va_get (D := g.1) (ci := 6) (v := .int (I_e 0 4)) (C := RX6) (T := TX6) (N := 10) hx hb hi_X6 (fun _ h => h) hown hK.1 hP 2 rfl rfl 4 (by decide) hf_298 (fun _ h9 => h9) rfl dX10_cellsBesideLetters_11 ?_
  refine r_isub hx hb dX10_cellsBesideLetters_14 rfl rfl (fun x1 e_x1 t_x1 => ?_)
  try have t_x1 := t_x1 (by omega)
  exact hret 15 ls x1 dX10_cellsBesideLetters_15 trivial

set_option maxHeartbeats 4000000 in
set_option maxRecDepth 100000 in
theorem kX10_plainCells (l : Launch) (g : gG) (a_p : Nat → Nat) (I_p : Nat → Nat → Int32) (J_p : Nat → Nat → Int64) (a_t : Nat → Nat) (I_t : Nat → Nat → Int32) (a_s : Nat → Nat) (I_s : Nat → Nat → Int32) (a_e : Nat → Nat) (I_e : Nat → Nat → Int32) (hl_p_table : a_p 109 = a_t 0) (hl_p_script : a_p 110 = a_s 0) (hl_p_shown : a_p 112 = a_e 0) (hPI : PI I_p) (hT : TI I_t) (hSI : SI I_s) (hE : EI I_e) : PurI l g yX10_plainCells wsX10_plainCells 3 [.ref (a_p 0)] (wX10 g a_p I_p J_p ++ (wX7 g a_t I_t ++ (wX5 g a_s I_s ++ wX6 g a_e I_e))) (fun r => True) := by
  refine PurI.st (cc := cX10_plainCells) (maxL := 2) (by decide) rfl (Nat.le_of_ble_eq_true rfl) (fun p e s m args below meth c Q ls fx hK hP hl hret => ?_)
  have hx := fx.1
  have hb := fx.2.1
  have hml := fx.2.2.1
  have hown := fx.2.2.2.1
  have hts := fx.2.2.2.2
  have hl : lv_has ls 2 [(0, .ref (a_p 0))] := hl
  have hP : va_P g.1 vwCl (wX10 g a_p I_p J_p ++ (wX7 g a_t I_t ++ (wX5 g a_s I_s ++ wX6 g a_e I_e))) s.heap := hP
  have hf_50 := hts _ (uT _ _ u_32)
  have hf_57 := hts _ (uT _ _ u_36)
  have hi_X10 : ∀ w ∈ wsX100, w.before args s = true := fun w h => hts w (uT _ w (u_wsX100 w h))
  have lm1 : (-1 : Int32).toInt = -1 := by decide
  have lm0 : (0 : Int32).toInt = 0 := by decide
  have lm2 : (1 : Int32).toInt = 1 := by decide
  have hp1 := hPI.1
  have hp2 := hPI.2.1
  have hru := TI.ru hT
  have hlt3 := TI.li hT
  have hlt4 := TI.pa hT
  have hs0 := hSI.1
  have hs1 := hSI.2
  have hE0 := hE.1
  have hE1 := hE.2
  refine lv_aload_n hx hb dX10_plainCells_0 rfl (lv_at hl 0 rfl) ?_
  refine va_get (D := g.1) (ci := 10) (v := .ref (a_s 0)) (C := RX10) (T := TX10) (N := 20) hx hb hi_X10 (fun _ h => h) hown hK.1 hP 0 rfl rfl 10 (by decide) hf_57 (fun _ h9 => h9) (congrArg (fun z => some (Value.ref z)) hl_p_script) dX10_plainCells_1 ?_
  refine lv_aload_n hx hb dX10_plainCells_4 rfl (lv_at hl 0 rfl) ?_
  refine va_get (D := g.1) (ci := 10) (v := .ref (a_t 0)) (C := RX10) (T := TX10) (N := 20) hx hb hi_X10 (fun _ h => h) hown hK.1 hP 0 rfl rfl 9 (by decide) hf_50 (fun _ h9 => h9) (congrArg (fun z => some (Value.ref z)) hl_p_table) dX10_plainCells_5 ?_
  refine PurI.cv (As := [.ref (a_t 0)]) (kX5_plainLetterCells l g a_s I_s a_t I_t hT hSI) fx (gUV (uT _) u_1020 u_1021 u_1022 u_35 u_1023) rfl hdX5_plainLetterCells ⟨Nat.le_of_ble_eq_true rfl, Nat.le_of_ble_eq_true rfl⟩ hK hP [9, 10, 11, 2, 3, 4, 5, 6, 7, 8] rfl rfl rfl rfl rfl hl.1 (Nat.le_of_ble_eq_true rfl) dX10_plainCells_8 (fun r1 p_r1 => ?_)
  refine lv_istore_n (lv' := [(1, .int r1), (0, .ref (a_p 0))]) hx hb dX10_plainCells_11 rfl hl (by decide) rfl (fun ls hl => ?_)
  refine lv_iload_n hx hb dX10_plainCells_12 rfl (lv_at hl 0 rfl) ?_
  refine lv_iconst (v := -1) hx hb dX10_plainCells_13 (by decide) ?_
  refine q_icmp_ne (tgt := 21) hx hb dX10_plainCells_14 (by decide) rfl (by decide : (-1 : Int32).toInt = -1) (fun k_14 => ?_) (fun k_14 => ?_)
  · refine lv_iload_n hx hb dX10_plainCells_21 rfl (lv_at hl 0 rfl) ?_
    refine lv_aload_n hx hb dX10_plainCells_22 rfl (lv_at hl 1 rfl) ?_
    refine PurI.cv (As := []) (kX10_cellsBesideLetters l g a_p I_p J_p a_e I_e hl_p_shown hPI hE) fx (gUV (uT _) u_1027 u_1028 u_1029 u_2 u_1030) rfl hdX10_cellsBesideLetters ⟨Nat.le_of_ble_eq_true rfl, Nat.le_of_ble_eq_true rfl⟩ hK hP [0, 1, 12, 13, 14, 15] rfl rfl rfl rfl rfl hl.1 (Nat.le_of_ble_eq_true rfl) dX10_plainCells_23 (fun r2 p_r2 => ?_)
    refine r_iadd hx hb dX10_plainCells_26 rfl rfl (fun x3 e_x3 t_x3 => ?_)
    try have t_x3 := t_x3 (by omega)
    exact hret 27 ls x3 dX10_plainCells_27 trivial
  · refine lv_iconst (v := -1) hx hb dX10_plainCells_17 (by decide) ?_
    refine lv_goto (tgt := 27) hx hb dX10_plainCells_18 (by decide) ?_
    exact hret 27 ls (-1 : Int32) dX10_plainCells_27 trivial

set_option maxHeartbeats 4000000 in
set_option maxRecDepth 100000 in
theorem kX10_plain (l : Launch) (g : gG) (a_p : Nat → Nat) (I_p : Nat → Nat → Int32) (J_p : Nat → Nat → Int64) (a_t : Nat → Nat) (I_t : Nat → Nat → Int32) (a_s : Nat → Nat) (I_s : Nat → Nat → Int32) (a_e : Nat → Nat) (I_e : Nat → Nat → Int32) (hl_p_table : a_p 109 = a_t 0) (hl_p_script : a_p 110 = a_s 0) (hl_p_shown : a_p 112 = a_e 0) (hPI : PI I_p) (hT : TI I_t) (hSI : SI I_s) (hE : EI I_e) : EffI l g yX10_plain wsX10_plain 4 [.ref (a_p 0)] (wX10 g a_p I_p J_p ++ (wX7 g a_t I_t ++ (wX5 g a_s I_s ++ wX6 g a_e I_e))) (fun (u : (Nat → Nat → Int32)) => wX10 g a_p u J_p ++ (wX7 g a_t I_t ++ (wX5 g a_s I_s ++ wX6 g a_e I_e))) (fun r (u : (Nat → Nat → Int32)) => PI (u) ∧ KP I_p (u)) := by
  refine EffI.st (cc := cX10_plain) (maxL := 2) (by decide) rfl (Nat.le_of_ble_eq_true rfl) (fun p e s m args below meth c A Q ls fx hK hP hD hA hS hl hret => ?_)
  have hx := fx.1
  have hb := fx.2.1
  have hml := fx.2.2.1
  have hown := fx.2.2.2.1
  have hts := fx.2.2.2.2
  have hl : lv_has ls 2 [(0, .ref (a_p 0))] := hl
  have hP : va_P g.1 vwCl (wX10 g a_p I_p J_p ++ (wX7 g a_t I_t ++ (wX5 g a_s I_s ++ wX6 g a_e I_e))) s.heap := hP
  have hf_61 := hts _ (uT _ _ u_37)
  have hi_X10 : ∀ w ∈ wsX100, w.before args s = true := fun w h => hts w (uT _ w (u_wsX100 w h))
  have lm1 : (-1 : Int32).toInt = -1 := by decide
  have lm0 : (0 : Int32).toInt = 0 := by decide
  have lm2 : (1 : Int32).toInt = 1 := by decide
  have hp1 := hPI.1
  have hp2 := hPI.2.1
  have hru := TI.ru hT
  have hlt3 := TI.li hT
  have hlt4 := TI.pa hT
  have hs0 := hSI.1
  have hs1 := hSI.2
  have hE0 := hE.1
  have hE1 := hE.2
  have lq6 : (6 : Int32).toInt = 6 := by decide
  have lq7 : (7 : Int32).toInt = 7 := by decide
  refine lv_aload_n hx hb dX10_plain_0 rfl (lv_at hl 0 rfl) ?_
  refine va_get (D := g.1) (ci := 10) (v := .int (I_p 0 11)) (C := RX10) (T := TX10) (N := 20) hx hb hi_X10 (fun _ h => h) hown hK.1 hP 0 rfl rfl 11 (by decide) hf_61 (fun _ h9 => h9) rfl dX10_plain_1 ?_
  refine q_if_ne (tgt := 14) hx hb dX10_plain_4 (by decide) rfl (fun b_4 k_4 => ?_) (fun b_4 k_4 => ?_)
  · refine lv_aload_n hx hb dX10_plain_14 rfl (lv_at hl 0 rfl) ?_
    refine PurI.cv (As := []) (kX10_plainCells l g a_p I_p J_p a_t I_t a_s I_s a_e I_e hl_p_table hl_p_script hl_p_shown hPI hT hSI hE) fx (gUV (uT _) u_1016 u_1017 u_1018 u_2 u_1019) rfl hdX10_plainCells ⟨Nat.le_of_ble_eq_true rfl, Nat.le_of_ble_eq_true rfl⟩ hK hP [0, 1, 2, 3, 4, 5, 6, 7, 8, 9, 10, 11, 12, 13, 14, 15] rfl rfl rfl rfl rfl hl.1 (Nat.le_of_ble_eq_true rfl) dX10_plain_15 (fun r1 p_r1 => ?_)
    refine lv_istore_n (lv' := [(1, .int r1), (0, .ref (a_p 0))]) hx hb dX10_plain_18 rfl hl (by decide) rfl (fun ls hl => ?_)
    refine lv_aload_n hx hb dX10_plain_19 rfl (lv_at hl 1 rfl) ?_
    refine lv_iload_n hx hb dX10_plain_20 rfl (lv_at hl 0 rfl) ?_
    refine lv_iconst (v := -1) hx hb dX10_plain_21 (by decide) ?_
    refine q_icmp_eq (tgt := 29) hx hb dX10_plain_22 (by decide) rfl (by decide : (-1 : Int32).toInt = -1) (fun k_22 => ?_) (fun k_22 => ?_)
    · refine lv_iconst (v := 0) hx hb dX10_plain_29 (by decide) ?_
      refine lv_iload_n hx hb dX10_plain_30 rfl (lv_at hl 0 rfl) ?_
      refine lv_bipush (v := 7) hx hb dX10_plain_31 (by decide) ?_
      refine EffI.cv (wr := (wX7 g a_t I_t ++ wX5 g a_s I_s ++ wX6 g a_e I_e)) (w' := fun u3 => wX10 g a_p u3 J_p ++ (wX7 g a_t I_t ++ (wX5 g a_s I_s ++ wX6 g a_e I_e))) (As := [.int (0 : Int32), .int r1, .int (7 : Int32)]) (kX10_answerOr l g a_p I_p J_p (0 : Int32) r1 (7 : Int32)) fx (gUV (uT _) u_781 u_782 u_783 u_2 u_784) rfl hdX10_answerOr ⟨Nat.le_of_ble_eq_true rfl, Nat.le_of_ble_eq_true rfl⟩ hK hP hD hS hA [0, 1] [2, 3, 4, 5, 6, 7, 8, 9, 10, 11, 12, 13, 14, 15] [14, 15, 0, 1, 2, 3, 4, 5, 6, 7, 8, 9, 10, 11, 12, 13] rfl rfl rfl rfl (by decide) rfl (fun _ => rfl) rfl rfl rfl rfl hl.1 (Nat.le_of_ble_eq_true rfl) dX10_plain_33 (fun r2 u3 H locs p_r2 hP hD hS => ?_)
      have hP : va_P g.1 vwCl (wX10 g a_p u3 J_p ++ (wX7 g a_t I_t ++ (wX5 g a_s I_s ++ wX6 g a_e I_e))) H := hP
      have hD : va_D A (wX10 g a_p u3 J_p ++ (wX7 g a_t I_t ++ (wX5 g a_s I_s ++ wX6 g a_e I_e))) := hD
      refine hret 36 ls r2 _ _ u3 dX10_plain_36 hS hP hD ?_
      exact ⟨(PI.st hPI p_r2.2.choose_spec), (KP.tr (KP.rf I_p) (KP.st p_r2.2.choose_spec))⟩
    · refine lv_iconst (v := 1) hx hb dX10_plain_25 (by decide) ?_
      refine lv_goto (tgt := 30) hx hb dX10_plain_26 (by decide) ?_
      refine lv_iload_n hx hb dX10_plain_30 rfl (lv_at hl 0 rfl) ?_
      refine lv_bipush (v := 7) hx hb dX10_plain_31 (by decide) ?_
      refine EffI.cv (wr := (wX7 g a_t I_t ++ wX5 g a_s I_s ++ wX6 g a_e I_e)) (w' := fun u5 => wX10 g a_p u5 J_p ++ (wX7 g a_t I_t ++ (wX5 g a_s I_s ++ wX6 g a_e I_e))) (As := [.int (1 : Int32), .int r1, .int (7 : Int32)]) (kX10_answerOr l g a_p I_p J_p (1 : Int32) r1 (7 : Int32)) fx (gUV (uT _) u_781 u_782 u_783 u_2 u_784) rfl hdX10_answerOr ⟨Nat.le_of_ble_eq_true rfl, Nat.le_of_ble_eq_true rfl⟩ hK hP hD hS hA [0, 1] [2, 3, 4, 5, 6, 7, 8, 9, 10, 11, 12, 13, 14, 15] [14, 15, 0, 1, 2, 3, 4, 5, 6, 7, 8, 9, 10, 11, 12, 13] rfl rfl rfl rfl (by decide) rfl (fun _ => rfl) rfl rfl rfl rfl hl.1 (Nat.le_of_ble_eq_true rfl) dX10_plain_33 (fun r4 u5 H locs p_r4 hP hD hS => ?_)
      have hP : va_P g.1 vwCl (wX10 g a_p u5 J_p ++ (wX7 g a_t I_t ++ (wX5 g a_s I_s ++ wX6 g a_e I_e))) H := hP
      have hD : va_D A (wX10 g a_p u5 J_p ++ (wX7 g a_t I_t ++ (wX5 g a_s I_s ++ wX6 g a_e I_e))) := hD
      refine hret 36 ls r4 _ _ u5 dX10_plain_36 hS hP hD ?_
      exact ⟨(PI.st hPI p_r4.2.choose_spec), (KP.tr (KP.rf I_p) (KP.st p_r4.2.choose_spec))⟩
  · refine lv_aload_n hx hb dX10_plain_7 rfl (lv_at hl 0 rfl) ?_
    refine lv_bipush (v := 6) hx hb dX10_plain_8 (by decide) ?_
    refine EffI.cv (wr := (wX7 g a_t I_t ++ wX5 g a_s I_s ++ wX6 g a_e I_e)) (w' := fun u7 => wX10 g a_p u7 J_p ++ (wX7 g a_t I_t ++ (wX5 g a_s I_s ++ wX6 g a_e I_e))) (As := [.int (6 : Int32)]) (kX10_refuse l g a_p I_p J_p (6 : Int32)) fx (gUV (uT _) u_295 u_296 u_297 u_2 u_298) rfl hdX10_refuse ⟨Nat.le_of_ble_eq_true rfl, Nat.le_of_ble_eq_true rfl⟩ hK hP hD hS hA [0, 1] [2, 3, 4, 5, 6, 7, 8, 9, 10, 11, 12, 13, 14, 15] [14, 15, 0, 1, 2, 3, 4, 5, 6, 7, 8, 9, 10, 11, 12, 13] rfl rfl rfl rfl (by decide) rfl (fun _ => rfl) rfl rfl rfl rfl hl.1 (Nat.le_of_ble_eq_true rfl) dX10_plain_10 (fun r6 u7 H locs p_r6 hP hD hS => ?_)
    have hP : va_P g.1 vwCl (wX10 g a_p u7 J_p ++ (wX7 g a_t I_t ++ (wX5 g a_s I_s ++ wX6 g a_e I_e))) H := hP
    have hD : va_D A (wX10 g a_p u7 J_p ++ (wX7 g a_t I_t ++ (wX5 g a_s I_s ++ wX6 g a_e I_e))) := hD
    refine hret 13 ls r6 _ _ u7 dX10_plain_13 hS hP hD ?_
    exact ⟨(PI.st hPI p_r6.2), (KP.tr (KP.rf I_p) (KP.st p_r6.2))⟩

set_option maxHeartbeats 4000000 in
set_option maxRecDepth 100000 in
theorem kX10_saved (l : Launch) (g : gG) (a_p : Nat → Nat) (I_p : Nat → Nat → Int32) (J_p : Nat → Nat → Int64) (a_t : Nat → Nat) (I_t : Nat → Nat → Int32) (a_s : Nat → Nat) (I_s : Nat → Nat → Int32) (a_e : Nat → Nat) (I_e : Nat → Nat → Int32) (hl_p_table : a_p 109 = a_t 0) (hl_p_script : a_p 110 = a_s 0) (hl_p_shown : a_p 112 = a_e 0) (hPI : PI I_p) (hT : TI I_t) (hSI : SI I_s) (hE : EI I_e) : EffI l g yX10_saved wsX10_saved 4 [.ref (a_p 0)] (wX10 g a_p I_p J_p ++ (wX7 g a_t I_t ++ (wX5 g a_s I_s ++ wX6 g a_e I_e))) (fun (u : (Nat → Nat → Int32)) => wX10 g a_p u J_p ++ (wX7 g a_t I_t ++ (wX5 g a_s I_s ++ wX6 g a_e I_e))) (fun r (u : (Nat → Nat → Int32)) => PI (u) ∧ KP I_p (u)) := by
  refine EffI.st (cc := cX10_saved) (maxL := 2) (by decide) rfl (Nat.le_of_ble_eq_true rfl) (fun p e s m args below meth c A Q ls fx hK hP hD hA hS hl hret => ?_)
  have hx := fx.1
  have hb := fx.2.1
  have hml := fx.2.2.1
  have hown := fx.2.2.2.1
  have hts := fx.2.2.2.2
  have hl : lv_has ls 2 [(0, .ref (a_p 0))] := hl
  have hP : va_P g.1 vwCl (wX10 g a_p I_p J_p ++ (wX7 g a_t I_t ++ (wX5 g a_s I_s ++ wX6 g a_e I_e))) s.heap := hP
  have hf_61 := hts _ (uT _ _ u_37)
  have hf_68 := hts _ (uT _ _ u_41)
  have hf_200 := hts _ (uT _ _ u_596)
  have hi_X10 : ∀ w ∈ wsX100, w.before args s = true := fun w h => hts w (uT _ w (u_wsX100 w h))
  have hi_X6 : ∀ w ∈ wsX60, w.before args s = true := fun w h => hts w (uT _ w (u_wsX60 w h))
  have lm1 : (-1 : Int32).toInt = -1 := by decide
  have lm0 : (0 : Int32).toInt = 0 := by decide
  have lm2 : (1 : Int32).toInt = 1 := by decide
  have hp1 := hPI.1
  have hp2 := hPI.2.1
  have hru := TI.ru hT
  have hlt3 := TI.li hT
  have hlt4 := TI.pa hT
  have hs0 := hSI.1
  have hs1 := hSI.2
  have hE0 := hE.1
  have hE1 := hE.2
  have lq6 : (6 : Int32).toInt = 6 := by decide
  have lq7 : (7 : Int32).toInt = 7 := by decide
  refine lv_aload_n hx hb dX10_saved_0 rfl (lv_at hl 0 rfl) ?_
  refine va_get (D := g.1) (ci := 10) (v := .int (I_p 0 11)) (C := RX10) (T := TX10) (N := 20) hx hb hi_X10 (fun _ h => h) hown hK.1 hP 0 rfl rfl 11 (by decide) hf_61 (fun _ h9 => h9) rfl dX10_saved_1 ?_
  refine q_if_ne (tgt := 14) hx hb dX10_saved_4 (by decide) rfl (fun b_4 k_4 => ?_) (fun b_4 k_4 => ?_)
  · refine lv_aload_n hx hb dX10_saved_14 rfl (lv_at hl 0 rfl) ?_
    refine PurI.cv (As := []) (kX10_plainCells l g a_p I_p J_p a_t I_t a_s I_s a_e I_e hl_p_table hl_p_script hl_p_shown hPI hT hSI hE) fx (gUV (uT _) u_1016 u_1017 u_1018 u_2 u_1019) rfl hdX10_plainCells ⟨Nat.le_of_ble_eq_true rfl, Nat.le_of_ble_eq_true rfl⟩ hK hP [0, 1, 2, 3, 4, 5, 6, 7, 8, 9, 10, 11, 12, 13, 14, 15] rfl rfl rfl rfl rfl hl.1 (Nat.le_of_ble_eq_true rfl) dX10_saved_15 (fun r1 p_r1 => ?_)
    refine lv_istore_n (lv' := [(1, .int r1), (0, .ref (a_p 0))]) hx hb dX10_saved_18 rfl hl (by decide) rfl (fun ls hl => ?_)
    refine lv_aload_n hx hb dX10_saved_19 rfl (lv_at hl 1 rfl) ?_
    refine lv_iload_n hx hb dX10_saved_20 rfl (lv_at hl 0 rfl) ?_
    refine lv_iconst (v := -1) hx hb dX10_saved_21 (by decide) ?_
    refine q_icmp_eq (tgt := 29) hx hb dX10_saved_22 (by decide) rfl (by decide : (-1 : Int32).toInt = -1) (fun k_22 => ?_) (fun k_22 => ?_)
    · refine lv_iconst (v := 0) hx hb dX10_saved_29 (by decide) ?_
      refine lv_iload_n hx hb dX10_saved_30 rfl (lv_at hl 0 rfl) ?_
      refine lv_aload_n hx hb dX10_saved_31 rfl (lv_at hl 1 rfl) ?_
      refine va_get (D := g.1) (ci := 10) (v := .ref (a_e 0)) (C := RX10) (T := TX10) (N := 20) hx hb hi_X10 (fun _ h => h) hown hK.1 hP 0 rfl rfl 12 (by decide) hf_68 (fun _ h9 => h9) (congrArg (fun z => some (Value.ref z)) hl_p_shown) dX10_saved_32 ?_
      refine va_get (D := g.1) (ci := 6) (v := .int (I_e 0 3)) (C := RX6) (T := TX6) (N := 10) hx hb hi_X6 (fun _ h => h) hown hK.1 hP 12 rfl rfl 3 (by decide) hf_200 (fun _ h9 => h9) rfl dX10_saved_35 ?_
      refine r_isub hx hb dX10_saved_38 rfl rfl (fun x2 e_x2 t_x2 => ?_)
      try have t_x2 := t_x2 (by omega)
      refine lv_bipush (v := 7) hx hb dX10_saved_39 (by decide) ?_
      refine EffI.cv (wr := (wX7 g a_t I_t ++ wX5 g a_s I_s ++ wX6 g a_e I_e)) (w' := fun u4 => wX10 g a_p u4 J_p ++ (wX7 g a_t I_t ++ (wX5 g a_s I_s ++ wX6 g a_e I_e))) (As := [.int (0 : Int32), .int x2, .int (7 : Int32)]) (kX10_answerOr l g a_p I_p J_p (0 : Int32) x2 (7 : Int32)) fx (gUV (uT _) u_781 u_782 u_783 u_2 u_784) rfl hdX10_answerOr ⟨Nat.le_of_ble_eq_true rfl, Nat.le_of_ble_eq_true rfl⟩ hK hP hD hS hA [0, 1] [2, 3, 4, 5, 6, 7, 8, 9, 10, 11, 12, 13, 14, 15] [14, 15, 0, 1, 2, 3, 4, 5, 6, 7, 8, 9, 10, 11, 12, 13] rfl rfl rfl rfl (by decide) rfl (fun _ => rfl) rfl rfl rfl rfl hl.1 (Nat.le_of_ble_eq_true rfl) dX10_saved_41 (fun r3 u4 H locs p_r3 hP hD hS => ?_)
      have hP : va_P g.1 vwCl (wX10 g a_p u4 J_p ++ (wX7 g a_t I_t ++ (wX5 g a_s I_s ++ wX6 g a_e I_e))) H := hP
      have hD : va_D A (wX10 g a_p u4 J_p ++ (wX7 g a_t I_t ++ (wX5 g a_s I_s ++ wX6 g a_e I_e))) := hD
      refine hret 44 ls r3 _ _ u4 dX10_saved_44 hS hP hD ?_
      exact ⟨(PI.st hPI p_r3.2.choose_spec), (KP.tr (KP.rf I_p) (KP.st p_r3.2.choose_spec))⟩
    · refine lv_iconst (v := 1) hx hb dX10_saved_25 (by decide) ?_
      refine lv_goto (tgt := 30) hx hb dX10_saved_26 (by decide) ?_
      refine lv_iload_n hx hb dX10_saved_30 rfl (lv_at hl 0 rfl) ?_
      refine lv_aload_n hx hb dX10_saved_31 rfl (lv_at hl 1 rfl) ?_
      refine va_get (D := g.1) (ci := 10) (v := .ref (a_e 0)) (C := RX10) (T := TX10) (N := 20) hx hb hi_X10 (fun _ h => h) hown hK.1 hP 0 rfl rfl 12 (by decide) hf_68 (fun _ h9 => h9) (congrArg (fun z => some (Value.ref z)) hl_p_shown) dX10_saved_32 ?_
      refine va_get (D := g.1) (ci := 6) (v := .int (I_e 0 3)) (C := RX6) (T := TX6) (N := 10) hx hb hi_X6 (fun _ h => h) hown hK.1 hP 12 rfl rfl 3 (by decide) hf_200 (fun _ h9 => h9) rfl dX10_saved_35 ?_
      refine r_isub hx hb dX10_saved_38 rfl rfl (fun x5 e_x5 t_x5 => ?_)
      try have t_x5 := t_x5 (by omega)
      refine lv_bipush (v := 7) hx hb dX10_saved_39 (by decide) ?_
      refine EffI.cv (wr := (wX7 g a_t I_t ++ wX5 g a_s I_s ++ wX6 g a_e I_e)) (w' := fun u7 => wX10 g a_p u7 J_p ++ (wX7 g a_t I_t ++ (wX5 g a_s I_s ++ wX6 g a_e I_e))) (As := [.int (1 : Int32), .int x5, .int (7 : Int32)]) (kX10_answerOr l g a_p I_p J_p (1 : Int32) x5 (7 : Int32)) fx (gUV (uT _) u_781 u_782 u_783 u_2 u_784) rfl hdX10_answerOr ⟨Nat.le_of_ble_eq_true rfl, Nat.le_of_ble_eq_true rfl⟩ hK hP hD hS hA [0, 1] [2, 3, 4, 5, 6, 7, 8, 9, 10, 11, 12, 13, 14, 15] [14, 15, 0, 1, 2, 3, 4, 5, 6, 7, 8, 9, 10, 11, 12, 13] rfl rfl rfl rfl (by decide) rfl (fun _ => rfl) rfl rfl rfl rfl hl.1 (Nat.le_of_ble_eq_true rfl) dX10_saved_41 (fun r6 u7 H locs p_r6 hP hD hS => ?_)
      have hP : va_P g.1 vwCl (wX10 g a_p u7 J_p ++ (wX7 g a_t I_t ++ (wX5 g a_s I_s ++ wX6 g a_e I_e))) H := hP
      have hD : va_D A (wX10 g a_p u7 J_p ++ (wX7 g a_t I_t ++ (wX5 g a_s I_s ++ wX6 g a_e I_e))) := hD
      refine hret 44 ls r6 _ _ u7 dX10_saved_44 hS hP hD ?_
      exact ⟨(PI.st hPI p_r6.2.choose_spec), (KP.tr (KP.rf I_p) (KP.st p_r6.2.choose_spec))⟩
  · refine lv_aload_n hx hb dX10_saved_7 rfl (lv_at hl 0 rfl) ?_
    refine lv_bipush (v := 6) hx hb dX10_saved_8 (by decide) ?_
    refine EffI.cv (wr := (wX7 g a_t I_t ++ wX5 g a_s I_s ++ wX6 g a_e I_e)) (w' := fun u9 => wX10 g a_p u9 J_p ++ (wX7 g a_t I_t ++ (wX5 g a_s I_s ++ wX6 g a_e I_e))) (As := [.int (6 : Int32)]) (kX10_refuse l g a_p I_p J_p (6 : Int32)) fx (gUV (uT _) u_295 u_296 u_297 u_2 u_298) rfl hdX10_refuse ⟨Nat.le_of_ble_eq_true rfl, Nat.le_of_ble_eq_true rfl⟩ hK hP hD hS hA [0, 1] [2, 3, 4, 5, 6, 7, 8, 9, 10, 11, 12, 13, 14, 15] [14, 15, 0, 1, 2, 3, 4, 5, 6, 7, 8, 9, 10, 11, 12, 13] rfl rfl rfl rfl (by decide) rfl (fun _ => rfl) rfl rfl rfl rfl hl.1 (Nat.le_of_ble_eq_true rfl) dX10_saved_10 (fun r8 u9 H locs p_r8 hP hD hS => ?_)
    have hP : va_P g.1 vwCl (wX10 g a_p u9 J_p ++ (wX7 g a_t I_t ++ (wX5 g a_s I_s ++ wX6 g a_e I_e))) H := hP
    have hD : va_D A (wX10 g a_p u9 J_p ++ (wX7 g a_t I_t ++ (wX5 g a_s I_s ++ wX6 g a_e I_e))) := hD
    refine hret 13 ls r8 _ _ u9 dX10_saved_13 hS hP hD ?_
    exact ⟨(PI.st hPI p_r8.2), (KP.tr (KP.rf I_p) (KP.st p_r8.2))⟩

set_option maxHeartbeats 4000000 in
set_option maxRecDepth 100000 in
theorem kX10_cellsWith (l : Launch) (g : gG) (a_p : Nat → Nat) (I_p : Nat → Nat → Int32) (J_p : Nat → Nat → Int64) (a_t : Nat → Nat) (I_t : Nat → Nat → Int32) (a_s : Nat → Nat) (I_s : Nat → Nat → Int32) (a_f : Nat → Nat) (I_f : Nat → Nat → Int32) (dropped : Int32) (hl_p_table : a_p 109 = a_t 0) (hl_p_script : a_p 110 = a_s 0) (hl_p_spare : a_p 113 = a_f 0) (hPI : PI I_p) (hT : TI I_t) (hSI : SI I_s) (hF : EI I_f) : EffI l g yX10_cellsWith wsX10_cellsWith 5 [.ref (a_p 0), .int dropped] (wX10 g a_p I_p J_p ++ (wX7 g a_t I_t ++ (wX5 g a_s I_s ++ wX6 g a_f I_f))) (fun (u : (Nat → Nat → Int32)) => wX10 g a_p I_p J_p ++ (wX7 g a_t I_t ++ (wX5 g a_s I_s ++ wX6 g a_f u))) (fun r (u : (Nat → Nat → Int32)) => EI (u)) := by
  refine EffI.st (cc := cX10_cellsWith) (maxL := 2) (by decide) rfl (Nat.le_of_ble_eq_true rfl) (fun p e s m args below meth c A Q ls fx hK hP hD hA hS hl hret => ?_)
  have hx := fx.1
  have hb := fx.2.1
  have hml := fx.2.2.1
  have hown := fx.2.2.2.1
  have hts := fx.2.2.2.2
  have hl : lv_has ls 2 [(0, .ref (a_p 0)), (1, .int dropped)] := hl
  have hP : va_P g.1 vwCl (wX10 g a_p I_p J_p ++ (wX7 g a_t I_t ++ (wX5 g a_s I_s ++ wX6 g a_f I_f))) s.heap := hP
  have hf_50 := hts _ (uT _ _ u_32)
  have hf_57 := hts _ (uT _ _ u_36)
  have hf_72 := hts _ (uT _ _ u_42)
  have hf_200 := hts _ (uT _ _ u_596)
  have hf_234 := hts _ (uT _ _ u_846)
  have hf_237 := hts _ (uT _ _ u_847)
  have hi_X10 : ∀ w ∈ wsX100, w.before args s = true := fun w h => hts w (uT _ w (u_wsX100 w h))
  have hi_X5 : ∀ w ∈ wsX50, w.before args s = true := fun w h => hts w (uT _ w (u_wsX50 w h))
  have hi_X6 : ∀ w ∈ wsX60, w.before args s = true := fun w h => hts w (uT _ w (u_wsX60 w h))
  have lm1 : (-1 : Int32).toInt = -1 := by decide
  have lm0 : (0 : Int32).toInt = 0 := by decide
  have lm2 : (1 : Int32).toInt = 1 := by decide
  have hp1 := hPI.1
  have hp2 := hPI.2.1
  have hru := TI.ru hT
  have hlt3 := TI.li hT
  have hlt4 := TI.pa hT
  have hs0 := hSI.1
  have hs1 := hSI.2
  refine lv_aload_n hx hb dX10_cellsWith_0 rfl (lv_at hl 0 rfl) ?_
  refine va_get (D := g.1) (ci := 10) (v := .ref (a_f 0)) (C := RX10) (T := TX10) (N := 20) hx hb hi_X10 (fun _ h => h) hown hK.1 hP 0 rfl rfl 13 (by decide) hf_72 (fun _ h9 => h9) (congrArg (fun z => some (Value.ref z)) hl_p_spare) dX10_cellsWith_1 ?_
  refine lv_aload_n hx hb dX10_cellsWith_4 rfl (lv_at hl 0 rfl) ?_
  refine va_get (D := g.1) (ci := 10) (v := .ref (a_s 0)) (C := RX10) (T := TX10) (N := 20) hx hb hi_X10 (fun _ h => h) hown hK.1 hP 0 rfl rfl 10 (by decide) hf_57 (fun _ h9 => h9) (congrArg (fun z => some (Value.ref z)) hl_p_script) dX10_cellsWith_5 ?_
  refine va_get (D := g.1) (ci := 5) (v := .ref (a_s 1)) (C := RX5) (T := TX5) (N := 3) hx hb hi_X5 (fun _ h => h) hown hK.1 hP 9 rfl rfl 0 (by decide) hf_234 (fun _ h9 => h9) rfl dX10_cellsWith_8 ?_
  refine lv_aload_n hx hb dX10_cellsWith_11 rfl (lv_at hl 0 rfl) ?_
  refine va_get (D := g.1) (ci := 10) (v := .ref (a_s 0)) (C := RX10) (T := TX10) (N := 20) hx hb hi_X10 (fun _ h => h) hown hK.1 hP 0 rfl rfl 10 (by decide) hf_57 (fun _ h9 => h9) (congrArg (fun z => some (Value.ref z)) hl_p_script) dX10_cellsWith_12 ?_
  refine va_get (D := g.1) (ci := 5) (v := .int (I_s 0 1)) (C := RX5) (T := TX5) (N := 3) hx hb hi_X5 (fun _ h => h) hown hK.1 hP 9 rfl rfl 1 (by decide) hf_237 (fun _ h9 => h9) rfl dX10_cellsWith_15 ?_
  refine lv_aload_n hx hb dX10_cellsWith_18 rfl (lv_at hl 0 rfl) ?_
  refine va_get (D := g.1) (ci := 10) (v := .ref (a_t 0)) (C := RX10) (T := TX10) (N := 20) hx hb hi_X10 (fun _ h => h) hown hK.1 hP 0 rfl rfl 9 (by decide) hf_50 (fun _ h9 => h9) (congrArg (fun z => some (Value.ref z)) hl_p_table) dX10_cellsWith_19 ?_
  refine lv_iload_n hx hb dX10_cellsWith_22 rfl (lv_at hl 1 rfl) ?_
  refine EffI.cv (wr := (wX10 g a_p I_p J_p ++ ([0, 2].filterMap (fun i => (wX5 g a_s I_s)[i]?)))) (w' := fun u2 => wX10 g a_p I_p J_p ++ (wX7 g a_t I_t ++ (wX5 g a_s I_s ++ wX6 g a_f u2))) (As := [.ref (a_s 1), .int (I_s 0 1), .ref (a_t 0), .int dropped]) (kX6_sets l g a_f I_f (fun k => a_s (k + 1)) 300 (fun k => I_s (k + 1)) a_t I_t (I_s 0 1) dropped hT hF (by omega)) fx (gUV (uT _) u_597 u_598 u_599 u_40 u_600) rfl hdX6_sets ⟨Nat.le_of_ble_eq_true rfl, Nat.le_of_ble_eq_true rfl⟩ hK hP hD hS hA [12, 13, 14, 15, 10, 2, 3, 4, 5, 6, 7, 8] [0, 1, 9, 11] [0, 1, 9, 10, 11, 12, 13, 14, 15, 2, 8, 3, 4, 5, 6, 7] rfl rfl rfl rfl (by decide) rfl (fun _ => rfl) rfl rfl rfl rfl hl.1 (Nat.le_of_ble_eq_true rfl) dX10_cellsWith_23 (fun r1 u2 H locs p_r1 hP hD hS => ?_)
  have hP : va_P g.1 vwCl (wX10 g a_p I_p J_p ++ (wX7 g a_t I_t ++ (wX5 g a_s I_s ++ wX6 g a_f u2))) H := hP
  have hD : va_D A (wX10 g a_p I_p J_p ++ (wX7 g a_t I_t ++ (wX5 g a_s I_s ++ wX6 g a_f u2))) := hD
  refine q_if_eq (tgt := 39) hx hb dX10_cellsWith_26 (by decide) rfl (fun b_26 k_26 => ?_) (fun b_26 k_26 => ?_)
  · refine lv_iconst (v := -1) hx hb dX10_cellsWith_39 (by decide) ?_
    refine hret 40 ls (-1 : Int32) _ _ u2 dX10_cellsWith_40 hS hP hD ?_
    exact p_r1.2.1
  · refine lv_aload_n hx hb dX10_cellsWith_29 rfl (lv_at hl 0 rfl) ?_
    refine va_get (D := g.1) (ci := 10) (v := .ref (a_f 0)) (C := RX10) (T := TX10) (N := 20) hx hb hi_X10 (fun _ h => h) hown hK.1 hP 0 rfl rfl 13 (by decide) hf_72 (fun _ h9 => h9) (congrArg (fun z => some (Value.ref z)) hl_p_spare) dX10_cellsWith_30 ?_
    refine va_get (D := g.1) (ci := 6) (v := .int (u2 0 3)) (C := RX6) (T := TX6) (N := 10) hx hb hi_X6 (fun _ h => h) hown hK.1 hP 12 rfl rfl 3 (by decide) hf_200 (fun _ h9 => h9) rfl dX10_cellsWith_33 ?_
    refine lv_goto (tgt := 40) hx hb dX10_cellsWith_36 (by decide) ?_
    refine hret 40 ls (u2 0 3) _ _ u2 dX10_cellsWith_40 hS hP hD ?_
    exact p_r1.2.1

set_option maxHeartbeats 4000000 in
set_option maxRecDepth 100000 in
theorem kX10_fewest (l : Launch) (g : gG) (a_p : Nat → Nat) (I_p : Nat → Nat → Int32) (J_p : Nat → Nat → Int64) (a_t : Nat → Nat) (I_t : Nat → Nat → Int32) (a_s : Nat → Nat) (I_s : Nat → Nat → Int32) (a_e : Nat → Nat) (I_e : Nat → Nat → Int32) (a_f : Nat → Nat) (I_f : Nat → Nat → Int32) (hl_p_table : a_p 109 = a_t 0) (hl_p_script : a_p 110 = a_s 0) (hl_p_shown : a_p 112 = a_e 0) (hl_p_spare : a_p 113 = a_f 0) (hPI : PI I_p) (hT : TI I_t) (hSI : SI I_s) (hE : EI I_e) (hF : EI I_f) : EffI l g yX10_fewest wsX10_fewest 6 [.ref (a_p 0)] (wX10 g a_p I_p J_p ++ (wX7 g a_t I_t ++ (wX5 g a_s I_s ++ (wX6 g a_e I_e ++ wX6 g a_f I_f)))) (fun (u : ((Nat → Nat → Int32) × (Nat → Nat → Int32) × (Nat → Nat → Int32))) => wX10 g a_p (u.1) J_p ++ (wX7 g a_t I_t ++ (wX5 g a_s (u.2.1) ++ (wX6 g a_e I_e ++ wX6 g a_f (u.2.2))))) (fun r (u : ((Nat → Nat → Int32) × (Nat → Nat → Int32) × (Nat → Nat → Int32))) => PI (u.1) ∧ SI (u.2.1) ∧ EI (u.2.2) ∧ KP I_p (u.1)) := by
  refine EffI.st (cc := cX10_fewest) (maxL := 1) (by decide) rfl (Nat.le_of_ble_eq_true rfl) (fun p e s m args below meth c A Q ls fx hK hP hD hA hS hl hret => ?_)
  have hx := fx.1
  have hb := fx.2.1
  have hml := fx.2.2.1
  have hown := fx.2.2.2.1
  have hts := fx.2.2.2.2
  have hl : lv_has ls 1 [(0, .ref (a_p 0))] := hl
  have hP : va_P g.1 vwCl (wX10 g a_p I_p J_p ++ (wX7 g a_t I_t ++ (wX5 g a_s I_s ++ (wX6 g a_e I_e ++ wX6 g a_f I_f)))) s.heap := hP
  have hf_50 := hts _ (uT _ _ u_32)
  have hf_57 := hts _ (uT _ _ u_36)
  have hf_61 := hts _ (uT _ _ u_37)
  have hf_184 := hts _ (uT _ _ u_593)
  have hi_X10 : ∀ w ∈ wsX100, w.before args s = true := fun w h => hts w (uT _ w (u_wsX100 w h))
  have hi_X7 : ∀ w ∈ wsX70, w.before args s = true := fun w h => hts w (uT _ w (u_wsX70 w h))
  have lm1 : (-1 : Int32).toInt = -1 := by decide
  have lm0 : (0 : Int32).toInt = 0 := by decide
  have lm2 : (1 : Int32).toInt = 1 := by decide
  have hp1 := hPI.1
  have hp2 := hPI.2.1
  have hru := TI.ru hT
  have hlt3 := TI.li hT
  have hlt4 := TI.pa hT
  have hs0 := hSI.1
  have hs1 := hSI.2
  have hE0 := hE.1
  have hE1 := hE.2
  have lq6 : (6 : Int32).toInt = 6 := by decide
  have lq7 : (7 : Int32).toInt = 7 := by decide
  refine lv_aload_n hx hb dX10_fewest_0 rfl (lv_at hl 0 rfl) ?_
  refine va_get (D := g.1) (ci := 10) (v := .int (I_p 0 11)) (C := RX10) (T := TX10) (N := 20) hx hb hi_X10 (fun _ h => h) hown hK.1 hP 0 rfl rfl 11 (by decide) hf_61 (fun _ h9 => h9) rfl dX10_fewest_1 ?_
  refine q_if_ne (tgt := 14) hx hb dX10_fewest_4 (by decide) rfl (fun b_4 k_4 => ?_) (fun b_4 k_4 => ?_)
  · refine lv_aload_n hx hb dX10_fewest_14 rfl (lv_at hl 0 rfl) ?_
    refine lv_aload_n hx hb dX10_fewest_15 rfl (lv_at hl 0 rfl) ?_
    refine va_get (D := g.1) (ci := 10) (v := .ref (a_t 0)) (C := RX10) (T := TX10) (N := 20) hx hb hi_X10 (fun _ h => h) hown hK.1 hP 0 rfl rfl 9 (by decide) hf_50 (fun _ h9 => h9) (congrArg (fun z => some (Value.ref z)) hl_p_table) dX10_fewest_16 ?_
    refine va_get (D := g.1) (ci := 7) (v := .int (I_t 0 1)) (C := RX7) (T := TX7) (N := 8) hx hb hi_X7 (fun _ h => h) hown hK.1 hP 2 rfl rfl 1 (by decide) hf_184 (fun _ h9 => h9) rfl dX10_fewest_19 ?_
    refine EffI.cv (wr := (wX6 g a_e I_e)) (w' := fun u2 => wX10 g a_p I_p J_p ++ (wX7 g a_t I_t ++ (wX5 g a_s I_s ++ (wX6 g a_e I_e ++ wX6 g a_f u2)))) (As := [.int (I_t 0 1)]) (kX10_cellsWith l g a_p I_p J_p a_t I_t a_s I_s a_f I_f (I_t 0 1) hl_p_table hl_p_script hl_p_spare hPI hT hSI hF) fx (gUV (uT _) u_1044 u_1045 u_1046 u_2 u_1047) rfl hdX10_cellsWith ⟨Nat.le_of_ble_eq_true rfl, Nat.le_of_ble_eq_true rfl⟩ hK hP hD hS hA [0, 1, 2, 3, 4, 5, 6, 7, 8, 9, 10, 11, 16, 17, 18, 19] [12, 13, 14, 15] [4, 5, 6, 7, 8, 9, 10, 11, 12, 13, 14, 15, 0, 1, 2, 3, 16, 17, 18, 19] rfl rfl rfl rfl (by decide) rfl (fun _ => rfl) rfl rfl rfl rfl hl.1 (Nat.le_of_ble_eq_true rfl) dX10_fewest_22 (fun r1 u2 H locs p_r1 hP hD hS => ?_)
    have hP : va_P g.1 vwCl (wX10 g a_p I_p J_p ++ (wX7 g a_t I_t ++ (wX5 g a_s I_s ++ (wX6 g a_e I_e ++ wX6 g a_f u2)))) H := hP
    have hD : va_D A (wX10 g a_p I_p J_p ++ (wX7 g a_t I_t ++ (wX5 g a_s I_s ++ (wX6 g a_e I_e ++ wX6 g a_f u2)))) := hD
    refine lv_iconst (v := -1) hx hb dX10_fewest_25 (by decide) ?_
    refine q_icmp_ne (tgt := 36) hx hb dX10_fewest_26 (by decide) rfl (by decide : (-1 : Int32).toInt = -1) (fun k_26 => ?_) (fun k_26 => ?_)
    · refine lv_aload_n hx hb dX10_fewest_36 rfl (lv_at hl 0 rfl) ?_
      refine lv_aload_n hx hb dX10_fewest_37 rfl (lv_at hl 0 rfl) ?_
      refine va_get (D := g.1) (ci := 10) (v := .ref (a_s 0)) (C := RX10) (T := TX10) (N := 20) hx hb hi_X10 (fun _ h => h) hown hK.1 hP 0 rfl rfl 10 (by decide) hf_57 (fun _ h9 => h9) (congrArg (fun z => some (Value.ref z)) hl_p_script) dX10_fewest_38 ?_
      refine lv_aload_n hx hb dX10_fewest_41 rfl (lv_at hl 0 rfl) ?_
      refine va_get (D := g.1) (ci := 10) (v := .ref (a_t 0)) (C := RX10) (T := TX10) (N := 20) hx hb hi_X10 (fun _ h => h) hown hK.1 hP 0 rfl rfl 9 (by decide) hf_50 (fun _ h9 => h9) (congrArg (fun z => some (Value.ref z)) hl_p_table) dX10_fewest_42 ?_
      refine EffI.cv (wr := (wX10 g a_p I_p J_p ++ wX6 g a_e I_e ++ wX6 g a_f u2)) (w' := fun u4 => wX10 g a_p I_p J_p ++ (wX7 g a_t I_t ++ (wX5 g a_s u4 ++ (wX6 g a_e I_e ++ wX6 g a_f u2)))) (As := [.ref (a_t 0)]) (kX5_fewestLetterCells l g a_s I_s a_t I_t hT hSI) fx (gUV (uT _) u_1048 u_1049 u_1050 u_35 u_1051) rfl hdX5_fewestLetterCells ⟨Nat.le_of_ble_eq_true rfl, Nat.le_of_ble_eq_true rfl⟩ hK hP hD hS hA [9, 10, 11, 2, 3, 4, 5, 6, 7, 8] [0, 1, 12, 13, 14, 15, 16, 17, 18, 19] [0, 1, 13, 14, 15, 16, 17, 18, 19, 10, 11, 12, 2, 3, 4, 5, 6, 7, 8, 9] rfl rfl rfl rfl (by decide) rfl (fun _ => rfl) rfl rfl rfl rfl hl.1 (Nat.le_of_ble_eq_true rfl) dX10_fewest_45 (fun r3 u4 H locs p_r3 hP hD hS => ?_)
      have hP : va_P g.1 vwCl (wX10 g a_p I_p J_p ++ (wX7 g a_t I_t ++ (wX5 g a_s u4 ++ (wX6 g a_e I_e ++ wX6 g a_f u2)))) H := hP
      have hD : va_D A (wX10 g a_p I_p J_p ++ (wX7 g a_t I_t ++ (wX5 g a_s u4 ++ (wX6 g a_e I_e ++ wX6 g a_f u2)))) := hD
      refine lv_aload_n hx hb dX10_fewest_48 rfl (lv_at hl 0 rfl) ?_
      refine PurI.cv (As := []) (kX10_cellsBesideLetters l g a_p I_p J_p a_e I_e hl_p_shown hPI hE) fx (gUV (uT _) u_1027 u_1028 u_1029 u_2 u_1030) rfl hdX10_cellsBesideLetters ⟨Nat.le_of_ble_eq_true rfl, Nat.le_of_ble_eq_true rfl⟩ hK hP [0, 1, 12, 13, 14, 15] rfl rfl rfl rfl rfl hl.1 (Nat.le_of_ble_eq_true rfl) dX10_fewest_49 (fun r5 p_r5 => ?_)
      refine r_iadd hx hb dX10_fewest_52 rfl rfl (fun x6 e_x6 t_x6 => ?_)
      try have t_x6 := t_x6 (by omega)
      refine EffI.cv (wr := (wX7 g a_t I_t ++ wX5 g a_s u4 ++ wX6 g a_e I_e ++ wX6 g a_f u2)) (w' := fun u8 => wX10 g a_p u8 J_p ++ (wX7 g a_t I_t ++ (wX5 g a_s u4 ++ (wX6 g a_e I_e ++ wX6 g a_f u2)))) (As := [.int x6]) (kX10_answer l g a_p I_p J_p x6) fx (gUV (uT _) u_497 u_498 u_499 u_2 u_500) rfl hdX10_answer ⟨Nat.le_of_ble_eq_true rfl, Nat.le_of_ble_eq_true rfl⟩ hK hP hD hS hA [0, 1] [2, 3, 4, 5, 6, 7, 8, 9, 10, 11, 12, 13, 14, 15, 16, 17, 18, 19] [18, 19, 0, 1, 2, 3, 4, 5, 6, 7, 8, 9, 10, 11, 12, 13, 14, 15, 16, 17] rfl rfl rfl rfl (by decide) rfl (fun _ => rfl) rfl rfl rfl rfl hl.1 (Nat.le_of_ble_eq_true rfl) dX10_fewest_53 (fun r7 u8 H locs p_r7 hP hD hS => ?_)
      have hP : va_P g.1 vwCl (wX10 g a_p u8 J_p ++ (wX7 g a_t I_t ++ (wX5 g a_s u4 ++ (wX6 g a_e I_e ++ wX6 g a_f u2)))) H := hP
      have hD : va_D A (wX10 g a_p u8 J_p ++ (wX7 g a_t I_t ++ (wX5 g a_s u4 ++ (wX6 g a_e I_e ++ wX6 g a_f u2)))) := hD
      refine hret 56 ls r7 _ _ (u8, u4, u2) dX10_fewest_56 hS hP hD ?_
      exact ⟨(PI.st hPI p_r7.2), p_r3.1, (p_r1), (KP.tr (KP.rf I_p) (KP.st p_r7.2))⟩
    · refine lv_aload_n hx hb dX10_fewest_29 rfl (lv_at hl 0 rfl) ?_
      refine lv_bipush (v := 7) hx hb dX10_fewest_30 (by decide) ?_
      refine EffI.cv (wr := (wX7 g a_t I_t ++ wX5 g a_s I_s ++ wX6 g a_e I_e ++ wX6 g a_f u2)) (w' := fun u10 => wX10 g a_p u10 J_p ++ (wX7 g a_t I_t ++ (wX5 g a_s I_s ++ (wX6 g a_e I_e ++ wX6 g a_f u2)))) (As := [.int (7 : Int32)]) (kX10_refuse l g a_p I_p J_p (7 : Int32)) fx (gUV (uT _) u_295 u_296 u_297 u_2 u_298) rfl hdX10_refuse ⟨Nat.le_of_ble_eq_true rfl, Nat.le_of_ble_eq_true rfl⟩ hK hP hD hS hA [0, 1] [2, 3, 4, 5, 6, 7, 8, 9, 10, 11, 12, 13, 14, 15, 16, 17, 18, 19] [18, 19, 0, 1, 2, 3, 4, 5, 6, 7, 8, 9, 10, 11, 12, 13, 14, 15, 16, 17] rfl rfl rfl rfl (by decide) rfl (fun _ => rfl) rfl rfl rfl rfl hl.1 (Nat.le_of_ble_eq_true rfl) dX10_fewest_32 (fun r9 u10 H locs p_r9 hP hD hS => ?_)
      have hP : va_P g.1 vwCl (wX10 g a_p u10 J_p ++ (wX7 g a_t I_t ++ (wX5 g a_s I_s ++ (wX6 g a_e I_e ++ wX6 g a_f u2)))) H := hP
      have hD : va_D A (wX10 g a_p u10 J_p ++ (wX7 g a_t I_t ++ (wX5 g a_s I_s ++ (wX6 g a_e I_e ++ wX6 g a_f u2)))) := hD
      refine hret 35 ls r9 _ _ (u10, I_s, u2) dX10_fewest_35 hS hP hD ?_
      exact ⟨(PI.st hPI p_r9.2), hSI, (p_r1), (KP.tr (KP.rf I_p) (KP.st p_r9.2))⟩
  · refine lv_aload_n hx hb dX10_fewest_7 rfl (lv_at hl 0 rfl) ?_
    refine lv_bipush (v := 6) hx hb dX10_fewest_8 (by decide) ?_
    refine EffI.cv (wr := (wX7 g a_t I_t ++ wX5 g a_s I_s ++ wX6 g a_e I_e ++ wX6 g a_f I_f)) (w' := fun u12 => wX10 g a_p u12 J_p ++ (wX7 g a_t I_t ++ (wX5 g a_s I_s ++ (wX6 g a_e I_e ++ wX6 g a_f I_f)))) (As := [.int (6 : Int32)]) (kX10_refuse l g a_p I_p J_p (6 : Int32)) fx (gUV (uT _) u_295 u_296 u_297 u_2 u_298) rfl hdX10_refuse ⟨Nat.le_of_ble_eq_true rfl, Nat.le_of_ble_eq_true rfl⟩ hK hP hD hS hA [0, 1] [2, 3, 4, 5, 6, 7, 8, 9, 10, 11, 12, 13, 14, 15, 16, 17, 18, 19] [18, 19, 0, 1, 2, 3, 4, 5, 6, 7, 8, 9, 10, 11, 12, 13, 14, 15, 16, 17] rfl rfl rfl rfl (by decide) rfl (fun _ => rfl) rfl rfl rfl rfl hl.1 (Nat.le_of_ble_eq_true rfl) dX10_fewest_10 (fun r11 u12 H locs p_r11 hP hD hS => ?_)
    have hP : va_P g.1 vwCl (wX10 g a_p u12 J_p ++ (wX7 g a_t I_t ++ (wX5 g a_s I_s ++ (wX6 g a_e I_e ++ wX6 g a_f I_f)))) H := hP
    have hD : va_D A (wX10 g a_p u12 J_p ++ (wX7 g a_t I_t ++ (wX5 g a_s I_s ++ (wX6 g a_e I_e ++ wX6 g a_f I_f)))) := hD
    refine hret 13 ls r11 _ _ (u12, I_s, I_f) dX10_fewest_13 hS hP hD ?_
    exact ⟨(PI.st hPI p_r11.2), hSI, hF, (KP.tr (KP.rf I_p) (KP.st p_r11.2))⟩

set_option maxHeartbeats 4000000 in
set_option maxRecDepth 100000 in
theorem kX10_saving (l : Launch) (g : gG) (a_p : Nat → Nat) (I_p : Nat → Nat → Int32) (J_p : Nat → Nat → Int64) (a_t : Nat → Nat) (I_t : Nat → Nat → Int32) (a_s : Nat → Nat) (I_s : Nat → Nat → Int32) (a_f : Nat → Nat) (I_f : Nat → Nat → Int32) (rule : Int32) (hl_p_table : a_p 109 = a_t 0) (hl_p_script : a_p 110 = a_s 0) (hl_p_spare : a_p 113 = a_f 0) (hPI : PI I_p) (hT : TI I_t) (hSI : SI I_s) (hF : EI I_f) : EffI l g yX10_saving wsX10_saving 6 [.ref (a_p 0), .int rule] (wX10 g a_p I_p J_p ++ (wX7 g a_t I_t ++ (wX5 g a_s I_s ++ wX6 g a_f I_f))) (fun (u : ((Nat → Nat → Int32) × (Nat → Nat → Int32))) => wX10 g a_p (u.1) J_p ++ (wX7 g a_t I_t ++ (wX5 g a_s I_s ++ wX6 g a_f (u.2)))) (fun r (u : ((Nat → Nat → Int32) × (Nat → Nat → Int32))) => PI (u.1) ∧ EI (u.2) ∧ KP I_p (u.1)) := by
  refine EffI.st (cc := cX10_saving) (maxL := 4) (by decide) rfl (Nat.le_of_ble_eq_true rfl) (fun p e s m args below meth c A Q ls fx hK hP hD hA hS hl hret => ?_)
  have hx := fx.1
  have hb := fx.2.1
  have hml := fx.2.2.1
  have hown := fx.2.2.2.1
  have hts := fx.2.2.2.2
  have hl : lv_has ls 4 [(0, .ref (a_p 0)), (1, .int rule)] := hl
  have hP : va_P g.1 vwCl (wX10 g a_p I_p J_p ++ (wX7 g a_t I_t ++ (wX5 g a_s I_s ++ wX6 g a_f I_f))) s.heap := hP
  have hf_50 := hts _ (uT _ _ u_32)
  have hf_61 := hts _ (uT _ _ u_37)
  have hf_184 := hts _ (uT _ _ u_593)
  have hi_X10 : ∀ w ∈ wsX100, w.before args s = true := fun w h => hts w (uT _ w (u_wsX100 w h))
  have hi_X7 : ∀ w ∈ wsX70, w.before args s = true := fun w h => hts w (uT _ w (u_wsX70 w h))
  have lm1 : (-1 : Int32).toInt = -1 := by decide
  have lm0 : (0 : Int32).toInt = 0 := by decide
  have lm2 : (1 : Int32).toInt = 1 := by decide
  have hp1 := hPI.1
  have hp2 := hPI.2.1
  have hru := TI.ru hT
  have hlt3 := TI.li hT
  have hlt4 := TI.pa hT
  have hs0 := hSI.1
  have hs1 := hSI.2
  have lq6 : (6 : Int32).toInt = 6 := by decide
  have lq7 : (7 : Int32).toInt = 7 := by decide
  refine lv_aload_n hx hb dX10_saving_0 rfl (lv_at hl 0 rfl) ?_
  refine va_get (D := g.1) (ci := 10) (v := .ref (a_t 0)) (C := RX10) (T := TX10) (N := 20) hx hb hi_X10 (fun _ h => h) hown hK.1 hP 0 rfl rfl 9 (by decide) hf_50 (fun _ h9 => h9) (congrArg (fun z => some (Value.ref z)) hl_p_table) dX10_saving_1 ?_
  refine lv_iload_n hx hb dX10_saving_4 rfl (lv_at hl 1 rfl) ?_
  refine PurI.cv (As := [.int rule]) (kX7_has l g a_t I_t rule) fx (gUV (uT _) u_796 u_797 u_798 u_31 u_799) rfl hdX7_has ⟨Nat.le_of_ble_eq_true rfl, Nat.le_of_ble_eq_true rfl⟩ hK hP [2, 3, 4, 5, 6, 7, 8] rfl rfl rfl rfl rfl hl.1 (Nat.le_of_ble_eq_true rfl) dX10_saving_5 (fun r1 p_r1 => ?_)
  refine q_if_ne (tgt := 17) hx hb dX10_saving_8 (by decide) rfl (fun b_8 k_8 => ?_) (fun b_8 k_8 => ?_)
  · have q_8 := bP.t p_r1 b_8
    refine lv_aload_n hx hb dX10_saving_17 rfl (lv_at hl 0 rfl) ?_
    refine va_get (D := g.1) (ci := 10) (v := .int (I_p 0 11)) (C := RX10) (T := TX10) (N := 20) hx hb hi_X10 (fun _ h => h) hown hK.1 hP 0 rfl rfl 11 (by decide) hf_61 (fun _ h9 => h9) rfl dX10_saving_18 ?_
    refine q_if_ne (tgt := 31) hx hb dX10_saving_21 (by decide) rfl (fun b_21 k_21 => ?_) (fun b_21 k_21 => ?_)
    · refine lv_aload_n hx hb dX10_saving_31 rfl (lv_at hl 0 rfl) ?_
      refine lv_aload_n hx hb dX10_saving_32 rfl (lv_at hl 0 rfl) ?_
      refine va_get (D := g.1) (ci := 10) (v := .ref (a_t 0)) (C := RX10) (T := TX10) (N := 20) hx hb hi_X10 (fun _ h => h) hown hK.1 hP 0 rfl rfl 9 (by decide) hf_50 (fun _ h9 => h9) (congrArg (fun z => some (Value.ref z)) hl_p_table) dX10_saving_33 ?_
      refine va_get (D := g.1) (ci := 7) (v := .int (I_t 0 1)) (C := RX7) (T := TX7) (N := 8) hx hb hi_X7 (fun _ h => h) hown hK.1 hP 2 rfl rfl 1 (by decide) hf_184 (fun _ h9 => h9) rfl dX10_saving_36 ?_
      refine EffI.cv (wr := ([])) (w' := fun u3 => wX10 g a_p I_p J_p ++ (wX7 g a_t I_t ++ (wX5 g a_s I_s ++ wX6 g a_f u3))) (As := [.int (I_t 0 1)]) (kX10_cellsWith l g a_p I_p J_p a_t I_t a_s I_s a_f I_f (I_t 0 1) hl_p_table hl_p_script hl_p_spare hPI hT hSI hF) fx (gUV (uT _) u_1044 u_1045 u_1046 u_2 u_1047) rfl hdX10_cellsWith ⟨Nat.le_of_ble_eq_true rfl, Nat.le_of_ble_eq_true rfl⟩ hK hP hD hS hA [0, 1, 2, 3, 4, 5, 6, 7, 8, 9, 10, 11, 12, 13, 14, 15] [] [0, 1, 2, 3, 4, 5, 6, 7, 8, 9, 10, 11, 12, 13, 14, 15] rfl rfl rfl rfl (by decide) rfl (fun _ => rfl) rfl rfl rfl rfl hl.1 (Nat.le_of_ble_eq_true rfl) dX10_saving_39 (fun r2 u3 H locs p_r2 hP hD hS => ?_)
      have hP : va_P g.1 vwCl (wX10 g a_p I_p J_p ++ (wX7 g a_t I_t ++ (wX5 g a_s I_s ++ wX6 g a_f u3))) H := hP
      have hD : va_D A (wX10 g a_p I_p J_p ++ (wX7 g a_t I_t ++ (wX5 g a_s I_s ++ wX6 g a_f u3))) := hD
      refine lv_istore_n (lv' := [(2, .int r2), (0, .ref (a_p 0)), (1, .int rule)]) hx hb dX10_saving_42 rfl hl (by decide) rfl (fun ls hl => ?_)
      refine lv_iload_n hx hb dX10_saving_43 rfl (lv_at hl 0 rfl) ?_
      refine lv_iconst (v := -1) hx hb dX10_saving_44 (by decide) ?_
      refine q_icmp_ne (tgt := 55) hx hb dX10_saving_45 (by decide) rfl (by decide : (-1 : Int32).toInt = -1) (fun k_45 => ?_) (fun k_45 => ?_)
      · refine lv_aload_n hx hb dX10_saving_55 rfl (lv_at hl 1 rfl) ?_
        refine lv_aload_n hx hb dX10_saving_56 rfl (lv_at hl 1 rfl) ?_
        refine va_get (D := g.1) (ci := 10) (v := .ref (a_t 0)) (C := RX10) (T := TX10) (N := 20) hx hb hi_X10 (fun _ h => h) hown hK.1 hP 0 rfl rfl 9 (by decide) hf_50 (fun _ h9 => h9) (congrArg (fun z => some (Value.ref z)) hl_p_table) dX10_saving_57 ?_
        refine va_get (D := g.1) (ci := 7) (v := .int (I_t 0 1)) (C := RX7) (T := TX7) (N := 8) hx hb hi_X7 (fun _ h => h) hown hK.1 hP 2 rfl rfl 1 (by decide) hf_184 (fun _ h9 => h9) rfl dX10_saving_60 ?_
        refine lv_iconst (v := 1) hx hb dX10_saving_63 (by decide) ?_
        refine lv_iload_n hx hb dX10_saving_64 rfl (lv_at hl 2 rfl) ?_
        refine lv_ishl hx hb dX10_saving_65 ?_
        refine q_nm (fun x4 e_x4 => ?_)
        refine lv_ior hx hb dX10_saving_66 ?_
        refine q_nm (fun x5 e_x5 => ?_)
        refine EffI.cv (wr := ([])) (w' := fun u7 => wX10 g a_p I_p J_p ++ (wX7 g a_t I_t ++ (wX5 g a_s I_s ++ wX6 g a_f u7))) (As := [.int x5]) (kX10_cellsWith l g a_p I_p J_p a_t I_t a_s I_s a_f u3 x5 hl_p_table hl_p_script hl_p_spare hPI hT hSI (p_r2)) fx (gUV (uT _) u_1044 u_1045 u_1046 u_2 u_1047) rfl hdX10_cellsWith ⟨Nat.le_of_ble_eq_true rfl, Nat.le_of_ble_eq_true rfl⟩ hK hP hD hS hA [0, 1, 2, 3, 4, 5, 6, 7, 8, 9, 10, 11, 12, 13, 14, 15] [] [0, 1, 2, 3, 4, 5, 6, 7, 8, 9, 10, 11, 12, 13, 14, 15] rfl rfl rfl rfl (by decide) rfl (fun _ => rfl) rfl rfl rfl rfl hl.1 (Nat.le_of_ble_eq_true rfl) dX10_saving_67 (fun r6 u7 H locs p_r6 hP hD hS => ?_)
        have hP : va_P g.1 vwCl (wX10 g a_p I_p J_p ++ (wX7 g a_t I_t ++ (wX5 g a_s I_s ++ wX6 g a_f u7))) H := hP
        have hD : va_D A (wX10 g a_p I_p J_p ++ (wX7 g a_t I_t ++ (wX5 g a_s I_s ++ wX6 g a_f u7))) := hD
        refine lv_istore_n (lv' := [(3, .int r6), (2, .int r2), (0, .ref (a_p 0)), (1, .int rule)]) hx hb dX10_saving_70 rfl hl (by decide) rfl (fun ls hl => ?_)
        refine lv_aload_n hx hb dX10_saving_71 rfl (lv_at hl 2 rfl) ?_
        refine lv_iload_n hx hb dX10_saving_72 rfl (lv_at hl 0 rfl) ?_
        refine lv_iconst (v := -1) hx hb dX10_saving_73 (by decide) ?_
        refine q_icmp_eq (tgt := 81) hx hb dX10_saving_74 (by decide) rfl (by decide : (-1 : Int32).toInt = -1) (fun k_74 => ?_) (fun k_74 => ?_)
        · refine lv_iconst (v := 0) hx hb dX10_saving_81 (by decide) ?_
          refine lv_iload_n hx hb dX10_saving_82 rfl (lv_at hl 0 rfl) ?_
          refine lv_iload_n hx hb dX10_saving_83 rfl (lv_at hl 1 rfl) ?_
          refine r_isub hx hb dX10_saving_84 rfl rfl (fun x8 e_x8 t_x8 => ?_)
          try have t_x8 := t_x8 (by omega)
          refine lv_bipush (v := 7) hx hb dX10_saving_85 (by decide) ?_
          refine EffI.cv (wr := (wX7 g a_t I_t ++ wX5 g a_s I_s ++ wX6 g a_f u7)) (w' := fun u10 => wX10 g a_p u10 J_p ++ (wX7 g a_t I_t ++ (wX5 g a_s I_s ++ wX6 g a_f u7))) (As := [.int (0 : Int32), .int x8, .int (7 : Int32)]) (kX10_answerOr l g a_p I_p J_p (0 : Int32) x8 (7 : Int32)) fx (gUV (uT _) u_781 u_782 u_783 u_2 u_784) rfl hdX10_answerOr ⟨Nat.le_of_ble_eq_true rfl, Nat.le_of_ble_eq_true rfl⟩ hK hP hD hS hA [0, 1] [2, 3, 4, 5, 6, 7, 8, 9, 10, 11, 12, 13, 14, 15] [14, 15, 0, 1, 2, 3, 4, 5, 6, 7, 8, 9, 10, 11, 12, 13] rfl rfl rfl rfl (by decide) rfl (fun _ => rfl) rfl rfl rfl rfl hl.1 (Nat.le_of_ble_eq_true rfl) dX10_saving_87 (fun r9 u10 H locs p_r9 hP hD hS => ?_)
          have hP : va_P g.1 vwCl (wX10 g a_p u10 J_p ++ (wX7 g a_t I_t ++ (wX5 g a_s I_s ++ wX6 g a_f u7))) H := hP
          have hD : va_D A (wX10 g a_p u10 J_p ++ (wX7 g a_t I_t ++ (wX5 g a_s I_s ++ wX6 g a_f u7))) := hD
          refine hret 90 ls r9 _ _ (u10, u7) dX10_saving_90 hS hP hD ?_
          exact ⟨(PI.st hPI p_r9.2.choose_spec), (p_r6), (KP.tr (KP.rf I_p) (KP.st p_r9.2.choose_spec))⟩
        · refine lv_iconst (v := 1) hx hb dX10_saving_77 (by decide) ?_
          refine lv_goto (tgt := 82) hx hb dX10_saving_78 (by decide) ?_
          refine lv_iload_n hx hb dX10_saving_82 rfl (lv_at hl 0 rfl) ?_
          refine lv_iload_n hx hb dX10_saving_83 rfl (lv_at hl 1 rfl) ?_
          refine r_isub hx hb dX10_saving_84 rfl rfl (fun x11 e_x11 t_x11 => ?_)
          try have t_x11 := t_x11 (by omega)
          refine lv_bipush (v := 7) hx hb dX10_saving_85 (by decide) ?_
          refine EffI.cv (wr := (wX7 g a_t I_t ++ wX5 g a_s I_s ++ wX6 g a_f u7)) (w' := fun u13 => wX10 g a_p u13 J_p ++ (wX7 g a_t I_t ++ (wX5 g a_s I_s ++ wX6 g a_f u7))) (As := [.int (1 : Int32), .int x11, .int (7 : Int32)]) (kX10_answerOr l g a_p I_p J_p (1 : Int32) x11 (7 : Int32)) fx (gUV (uT _) u_781 u_782 u_783 u_2 u_784) rfl hdX10_answerOr ⟨Nat.le_of_ble_eq_true rfl, Nat.le_of_ble_eq_true rfl⟩ hK hP hD hS hA [0, 1] [2, 3, 4, 5, 6, 7, 8, 9, 10, 11, 12, 13, 14, 15] [14, 15, 0, 1, 2, 3, 4, 5, 6, 7, 8, 9, 10, 11, 12, 13] rfl rfl rfl rfl (by decide) rfl (fun _ => rfl) rfl rfl rfl rfl hl.1 (Nat.le_of_ble_eq_true rfl) dX10_saving_87 (fun r12 u13 H locs p_r12 hP hD hS => ?_)
          have hP : va_P g.1 vwCl (wX10 g a_p u13 J_p ++ (wX7 g a_t I_t ++ (wX5 g a_s I_s ++ wX6 g a_f u7))) H := hP
          have hD : va_D A (wX10 g a_p u13 J_p ++ (wX7 g a_t I_t ++ (wX5 g a_s I_s ++ wX6 g a_f u7))) := hD
          refine hret 90 ls r12 _ _ (u13, u7) dX10_saving_90 hS hP hD ?_
          exact ⟨(PI.st hPI p_r12.2.choose_spec), (p_r6), (KP.tr (KP.rf I_p) (KP.st p_r12.2.choose_spec))⟩
      · refine lv_aload_n hx hb dX10_saving_48 rfl (lv_at hl 1 rfl) ?_
        refine lv_bipush (v := 7) hx hb dX10_saving_49 (by decide) ?_
        refine EffI.cv (wr := (wX7 g a_t I_t ++ wX5 g a_s I_s ++ wX6 g a_f u3)) (w' := fun u15 => wX10 g a_p u15 J_p ++ (wX7 g a_t I_t ++ (wX5 g a_s I_s ++ wX6 g a_f u3))) (As := [.int (7 : Int32)]) (kX10_refuse l g a_p I_p J_p (7 : Int32)) fx (gUV (uT _) u_295 u_296 u_297 u_2 u_298) rfl hdX10_refuse ⟨Nat.le_of_ble_eq_true rfl, Nat.le_of_ble_eq_true rfl⟩ hK hP hD hS hA [0, 1] [2, 3, 4, 5, 6, 7, 8, 9, 10, 11, 12, 13, 14, 15] [14, 15, 0, 1, 2, 3, 4, 5, 6, 7, 8, 9, 10, 11, 12, 13] rfl rfl rfl rfl (by decide) rfl (fun _ => rfl) rfl rfl rfl rfl hl.1 (Nat.le_of_ble_eq_true rfl) dX10_saving_51 (fun r14 u15 H locs p_r14 hP hD hS => ?_)
        have hP : va_P g.1 vwCl (wX10 g a_p u15 J_p ++ (wX7 g a_t I_t ++ (wX5 g a_s I_s ++ wX6 g a_f u3))) H := hP
        have hD : va_D A (wX10 g a_p u15 J_p ++ (wX7 g a_t I_t ++ (wX5 g a_s I_s ++ wX6 g a_f u3))) := hD
        refine hret 54 ls r14 _ _ (u15, u3) dX10_saving_54 hS hP hD ?_
        exact ⟨(PI.st hPI p_r14.2), (p_r2), (KP.tr (KP.rf I_p) (KP.st p_r14.2))⟩
    · refine lv_aload_n hx hb dX10_saving_24 rfl (lv_at hl 0 rfl) ?_
      refine lv_bipush (v := 6) hx hb dX10_saving_25 (by decide) ?_
      refine EffI.cv (wr := (wX7 g a_t I_t ++ wX5 g a_s I_s ++ wX6 g a_f I_f)) (w' := fun u17 => wX10 g a_p u17 J_p ++ (wX7 g a_t I_t ++ (wX5 g a_s I_s ++ wX6 g a_f I_f))) (As := [.int (6 : Int32)]) (kX10_refuse l g a_p I_p J_p (6 : Int32)) fx (gUV (uT _) u_295 u_296 u_297 u_2 u_298) rfl hdX10_refuse ⟨Nat.le_of_ble_eq_true rfl, Nat.le_of_ble_eq_true rfl⟩ hK hP hD hS hA [0, 1] [2, 3, 4, 5, 6, 7, 8, 9, 10, 11, 12, 13, 14, 15] [14, 15, 0, 1, 2, 3, 4, 5, 6, 7, 8, 9, 10, 11, 12, 13] rfl rfl rfl rfl (by decide) rfl (fun _ => rfl) rfl rfl rfl rfl hl.1 (Nat.le_of_ble_eq_true rfl) dX10_saving_27 (fun r16 u17 H locs p_r16 hP hD hS => ?_)
      have hP : va_P g.1 vwCl (wX10 g a_p u17 J_p ++ (wX7 g a_t I_t ++ (wX5 g a_s I_s ++ wX6 g a_f I_f))) H := hP
      have hD : va_D A (wX10 g a_p u17 J_p ++ (wX7 g a_t I_t ++ (wX5 g a_s I_s ++ wX6 g a_f I_f))) := hD
      refine hret 30 ls r16 _ _ (u17, I_f) dX10_saving_30 hS hP hD ?_
      exact ⟨(PI.st hPI p_r16.2), hF, (KP.tr (KP.rf I_p) (KP.st p_r16.2))⟩
  · have q_8 := bP.f p_r1 b_8
    refine lv_aload_n hx hb dX10_saving_11 rfl (lv_at hl 0 rfl) ?_
    refine lv_iconst (v := 1) hx hb dX10_saving_12 (by decide) ?_
    refine EffI.cv (wr := (wX7 g a_t I_t ++ wX5 g a_s I_s ++ wX6 g a_f I_f)) (w' := fun u19 => wX10 g a_p u19 J_p ++ (wX7 g a_t I_t ++ (wX5 g a_s I_s ++ wX6 g a_f I_f))) (As := [.int (1 : Int32)]) (kX10_refuse l g a_p I_p J_p (1 : Int32)) fx (gUV (uT _) u_295 u_296 u_297 u_2 u_298) rfl hdX10_refuse ⟨Nat.le_of_ble_eq_true rfl, Nat.le_of_ble_eq_true rfl⟩ hK hP hD hS hA [0, 1] [2, 3, 4, 5, 6, 7, 8, 9, 10, 11, 12, 13, 14, 15] [14, 15, 0, 1, 2, 3, 4, 5, 6, 7, 8, 9, 10, 11, 12, 13] rfl rfl rfl rfl (by decide) rfl (fun _ => rfl) rfl rfl rfl rfl hl.1 (Nat.le_of_ble_eq_true rfl) dX10_saving_13 (fun r18 u19 H locs p_r18 hP hD hS => ?_)
    have hP : va_P g.1 vwCl (wX10 g a_p u19 J_p ++ (wX7 g a_t I_t ++ (wX5 g a_s I_s ++ wX6 g a_f I_f))) H := hP
    have hD : va_D A (wX10 g a_p u19 J_p ++ (wX7 g a_t I_t ++ (wX5 g a_s I_s ++ wX6 g a_f I_f))) := hD
    refine hret 16 ls r18 _ _ (u19, I_f) dX10_saving_16 hS hP hD ?_
    exact ⟨(PI.st hPI p_r18.2), hF, (KP.tr (KP.rf I_p) (KP.st p_r18.2))⟩

set_option maxHeartbeats 4000000 in
set_option maxRecDepth 100000 in
theorem kX10_cheapest (l : Launch) (g : gG) (a_p : Nat → Nat) (I_p : Nat → Nat → Int32) (J_p : Nat → Nat → Int64) (a_t : Nat → Nat) (I_t : Nat → Nat → Int32) (a_s : Nat → Nat) (I_s : Nat → Nat → Int32) (a_f : Nat → Nat) (I_f : Nat → Nat → Int32) (hl_p_table : a_p 109 = a_t 0) (hl_p_script : a_p 110 = a_s 0) (hl_p_spare : a_p 113 = a_f 0) (hPI : PI I_p) (hT : TI I_t) (hSI : SI I_s) (hF : EI I_f) : EffI l g yX10_cheapest wsX10_cheapest 6 [.ref (a_p 0)] (wX10 g a_p I_p J_p ++ (wX7 g a_t I_t ++ (wX5 g a_s I_s ++ wX6 g a_f I_f))) (fun (u : ((Nat → Nat → Int32) × (Nat → Nat → Int32))) => wX10 g a_p (u.1) J_p ++ (wX7 g a_t I_t ++ (wX5 g a_s I_s ++ wX6 g a_f (u.2)))) (fun r (u : ((Nat → Nat → Int32) × (Nat → Nat → Int32))) => PI (u.1) ∧ EI (u.2) ∧ KP I_p (u.1)) := by
  refine EffI.st (cc := cX10_cheapest) (maxL := 5) (by decide) rfl (Nat.le_of_ble_eq_true rfl) (fun p e s m args below meth c A Q ls fx hK hP hD hA hS hl hret => ?_)
  have hx := fx.1
  have hb := fx.2.1
  have hml := fx.2.2.1
  have hown := fx.2.2.2.1
  have hts := fx.2.2.2.2
  have hl : lv_has ls 5 [(0, .ref (a_p 0))] := hl
  have hP : va_P g.1 vwCl (wX10 g a_p I_p J_p ++ (wX7 g a_t I_t ++ (wX5 g a_s I_s ++ wX6 g a_f I_f))) s.heap := hP
  have hf_50 := hts _ (uT _ _ u_32)
  have hf_61 := hts _ (uT _ _ u_37)
  have hf_181 := hts _ (uT _ _ u_357)
  have hf_184 := hts _ (uT _ _ u_593)
  have hi_X10 : ∀ w ∈ wsX100, w.before args s = true := fun w h => hts w (uT _ w (u_wsX100 w h))
  have hi_X7 : ∀ w ∈ wsX70, w.before args s = true := fun w h => hts w (uT _ w (u_wsX70 w h))
  have lm1 : (-1 : Int32).toInt = -1 := by decide
  have lm0 : (0 : Int32).toInt = 0 := by decide
  have lm2 : (1 : Int32).toInt = 1 := by decide
  have hp1 := hPI.1
  have hp2 := hPI.2.1
  have hru := TI.ru hT
  have hlt3 := TI.li hT
  have hlt4 := TI.pa hT
  have hs0 := hSI.1
  have hs1 := hSI.2
  have lq6 : (6 : Int32).toInt = 6 := by decide
  have lq7 : (7 : Int32).toInt = 7 := by decide
  refine lv_aload_n hx hb dX10_cheapest_0 rfl (lv_at hl 0 rfl) ?_
  refine va_get (D := g.1) (ci := 10) (v := .int (I_p 0 11)) (C := RX10) (T := TX10) (N := 20) hx hb hi_X10 (fun _ h => h) hown hK.1 hP 0 rfl rfl 11 (by decide) hf_61 (fun _ h9 => h9) rfl dX10_cheapest_1 ?_
  refine q_if_ne (tgt := 14) hx hb dX10_cheapest_4 (by decide) rfl (fun b_4 k_4 => ?_) (fun b_4 k_4 => ?_)
  · refine lv_iconst (v := -1) hx hb dX10_cheapest_14 (by decide) ?_
    refine lv_istore_n (lv' := [(1, .int (-1 : Int32)), (0, .ref (a_p 0))]) hx hb dX10_cheapest_15 rfl hl (by decide) rfl (fun ls hl => ?_)
    refine lv_iconst (v := 0) hx hb dX10_cheapest_16 (by decide) ?_
    refine lv_istore_n (lv' := [(2, .int (0 : Int32)), (1, .int (-1 : Int32)), (0, .ref (a_p 0))]) hx hb dX10_cheapest_17 rfl hl (by decide) rfl (fun ls hl => ?_)
    refine lv_iconst (v := 0) hx hb dX10_cheapest_18 (by decide) ?_
    refine lv_istore_n (lv' := [(3, .int (0 : Int32)), (2, .int (0 : Int32)), (1, .int (-1 : Int32)), (0, .ref (a_p 0))]) hx hb dX10_cheapest_19 rfl hl (by decide) rfl (fun ls hl => ?_)
    have L20 : ∀ (nn : Nat) (v1_20 : Int32) (v2_20 : Int32) (v3_20 : Int32) (I_f_20 : Nat → Nat → Int32), (hv_20 : 0 ≤ v3_20.toInt ∧ v3_20.toInt ≤ 24) → (hF_20 : EI I_f_20) → ((25 - v3_20.toInt) < (nn : Int)) → ∀ (H : Heap) (locs : List Loc), va_P g.1 vwCl (wX10 g a_p I_p J_p ++ (wX7 g a_t I_t ++ (wX5 g a_s I_s ++ wX6 g a_f I_f_20))) H → va_D A (wX10 g a_p I_p J_p ++ (wX7 g a_t I_t ++ (wX5 g a_s I_s ++ wX6 g a_f I_f_20))) → va_S A s.heap H locs → ∀ ls : Array Slot, lv_has ls 5 [(3, .int v3_20), (2, .int v2_20), (1, .int v1_20), (0, .ref (a_p 0))] → W p l e (rm 6) s m args below meth c H locs 0 0 Q (F0 m 20 ls []) := by
      intro n_20
      induction n_20 with
      | zero =>
        intro v1_20 v2_20 v3_20 I_f_20 hv_20 hF_20 hms_20 H locs hP hD hS ls hl
        exfalso; omega
      | succ n_20 ih_20 =>
        intro v1_20 v2_20 v3_20 I_f_20 hv_20 hF_20 hms_20 H locs hP hD hS ls hl
        refine lv_iload_n hx hb dX10_cheapest_20 rfl (lv_at hl 0 rfl) ?_
        refine lv_aload_n hx hb dX10_cheapest_21 rfl (lv_at hl 3 rfl) ?_
        refine va_get (D := g.1) (ci := 10) (v := .ref (a_t 0)) (C := RX10) (T := TX10) (N := 20) hx hb hi_X10 (fun _ h => h) hown hK.1 hP 0 rfl rfl 9 (by decide) hf_50 (fun _ h9 => h9) (congrArg (fun z => some (Value.ref z)) hl_p_table) dX10_cheapest_22 ?_
        refine va_get (D := g.1) (ci := 7) (v := .int (I_t 0 0)) (C := RX7) (T := TX7) (N := 8) hx hb hi_X7 (fun _ h => h) hown hK.1 hP 2 rfl rfl 0 (by decide) hf_181 (fun _ h9 => h9) rfl dX10_cheapest_25 ?_
        refine q_icmp_ge (tgt := 91) hx hb dX10_cheapest_28 (by decide) rfl rfl (fun k_28 => ?_) (fun k_28 => ?_)
        · refine lv_iload_n hx hb dX10_cheapest_91 rfl (lv_at hl 2 rfl) ?_
          refine lv_iconst (v := -1) hx hb dX10_cheapest_92 (by decide) ?_
          refine q_icmp_ne (tgt := 103) hx hb dX10_cheapest_93 (by decide) rfl (by decide : (-1 : Int32).toInt = -1) (fun k_93 => ?_) (fun k_93 => ?_)
          · refine lv_aload_n hx hb dX10_cheapest_103 rfl (lv_at hl 3 rfl) ?_
            refine lv_aload_n hx hb dX10_cheapest_104 rfl (lv_at hl 3 rfl) ?_
            refine lv_aload_n hx hb dX10_cheapest_105 rfl (lv_at hl 3 rfl) ?_
            refine va_get (D := g.1) (ci := 10) (v := .ref (a_t 0)) (C := RX10) (T := TX10) (N := 20) hx hb hi_X10 (fun _ h => h) hown hK.1 hP 0 rfl rfl 9 (by decide) hf_50 (fun _ h9 => h9) (congrArg (fun z => some (Value.ref z)) hl_p_table) dX10_cheapest_106 ?_
            refine va_get (D := g.1) (ci := 7) (v := .int (I_t 0 1)) (C := RX7) (T := TX7) (N := 8) hx hb hi_X7 (fun _ h => h) hown hK.1 hP 2 rfl rfl 1 (by decide) hf_184 (fun _ h9 => h9) rfl dX10_cheapest_109 ?_
            refine EffI.cv (wr := ([])) (w' := fun u2 => wX10 g a_p I_p J_p ++ (wX7 g a_t I_t ++ (wX5 g a_s I_s ++ wX6 g a_f u2))) (As := [.int (I_t 0 1)]) (kX10_cellsWith l g a_p I_p J_p a_t I_t a_s I_s a_f I_f_20 (I_t 0 1) hl_p_table hl_p_script hl_p_spare hPI hT hSI hF_20) fx (gUV (uT _) u_1044 u_1045 u_1046 u_2 u_1047) rfl hdX10_cellsWith ⟨Nat.le_of_ble_eq_true rfl, Nat.le_of_ble_eq_true rfl⟩ hK hP hD hS hA [0, 1, 2, 3, 4, 5, 6, 7, 8, 9, 10, 11, 12, 13, 14, 15] [] [0, 1, 2, 3, 4, 5, 6, 7, 8, 9, 10, 11, 12, 13, 14, 15] rfl rfl rfl rfl (by decide) rfl (fun _ => rfl) rfl rfl rfl rfl hl.1 (Nat.le_of_ble_eq_true rfl) dX10_cheapest_112 (fun r1 u2 H locs p_r1 hP hD hS => ?_)
            have hP : va_P g.1 vwCl (wX10 g a_p I_p J_p ++ (wX7 g a_t I_t ++ (wX5 g a_s I_s ++ wX6 g a_f u2))) H := hP
            have hD : va_D A (wX10 g a_p I_p J_p ++ (wX7 g a_t I_t ++ (wX5 g a_s I_s ++ wX6 g a_f u2))) := hD
            refine lv_iconst (v := -1) hx hb dX10_cheapest_115 (by decide) ?_
            refine q_icmp_eq (tgt := 123) hx hb dX10_cheapest_116 (by decide) rfl (by decide : (-1 : Int32).toInt = -1) (fun k_116 => ?_) (fun k_116 => ?_)
            · refine lv_iconst (v := 0) hx hb dX10_cheapest_123 (by decide) ?_
              refine lv_iload_n hx hb dX10_cheapest_124 rfl (lv_at hl 2 rfl) ?_
              refine lv_bipush (v := 7) hx hb dX10_cheapest_125 (by decide) ?_
              refine EffI.cv (wr := (wX7 g a_t I_t ++ wX5 g a_s I_s ++ wX6 g a_f u2)) (w' := fun u4 => wX10 g a_p u4 J_p ++ (wX7 g a_t I_t ++ (wX5 g a_s I_s ++ wX6 g a_f u2))) (As := [.int (0 : Int32), .int v1_20, .int (7 : Int32)]) (kX10_answerOr l g a_p I_p J_p (0 : Int32) v1_20 (7 : Int32)) fx (gUV (uT _) u_781 u_782 u_783 u_2 u_784) rfl hdX10_answerOr ⟨Nat.le_of_ble_eq_true rfl, Nat.le_of_ble_eq_true rfl⟩ hK hP hD hS hA [0, 1] [2, 3, 4, 5, 6, 7, 8, 9, 10, 11, 12, 13, 14, 15] [14, 15, 0, 1, 2, 3, 4, 5, 6, 7, 8, 9, 10, 11, 12, 13] rfl rfl rfl rfl (by decide) rfl (fun _ => rfl) rfl rfl rfl rfl hl.1 (Nat.le_of_ble_eq_true rfl) dX10_cheapest_127 (fun r3 u4 H locs p_r3 hP hD hS => ?_)
              have hP : va_P g.1 vwCl (wX10 g a_p u4 J_p ++ (wX7 g a_t I_t ++ (wX5 g a_s I_s ++ wX6 g a_f u2))) H := hP
              have hD : va_D A (wX10 g a_p u4 J_p ++ (wX7 g a_t I_t ++ (wX5 g a_s I_s ++ wX6 g a_f u2))) := hD
              refine hret 130 ls r3 _ _ (u4, u2) dX10_cheapest_130 hS hP hD ?_
              exact ⟨(PI.st hPI p_r3.2.choose_spec), (p_r1), (KP.tr (KP.rf I_p) (KP.st p_r3.2.choose_spec))⟩
            · refine lv_iconst (v := 1) hx hb dX10_cheapest_119 (by decide) ?_
              refine lv_goto (tgt := 124) hx hb dX10_cheapest_120 (by decide) ?_
              refine lv_iload_n hx hb dX10_cheapest_124 rfl (lv_at hl 2 rfl) ?_
              refine lv_bipush (v := 7) hx hb dX10_cheapest_125 (by decide) ?_
              refine EffI.cv (wr := (wX7 g a_t I_t ++ wX5 g a_s I_s ++ wX6 g a_f u2)) (w' := fun u6 => wX10 g a_p u6 J_p ++ (wX7 g a_t I_t ++ (wX5 g a_s I_s ++ wX6 g a_f u2))) (As := [.int (1 : Int32), .int v1_20, .int (7 : Int32)]) (kX10_answerOr l g a_p I_p J_p (1 : Int32) v1_20 (7 : Int32)) fx (gUV (uT _) u_781 u_782 u_783 u_2 u_784) rfl hdX10_answerOr ⟨Nat.le_of_ble_eq_true rfl, Nat.le_of_ble_eq_true rfl⟩ hK hP hD hS hA [0, 1] [2, 3, 4, 5, 6, 7, 8, 9, 10, 11, 12, 13, 14, 15] [14, 15, 0, 1, 2, 3, 4, 5, 6, 7, 8, 9, 10, 11, 12, 13] rfl rfl rfl rfl (by decide) rfl (fun _ => rfl) rfl rfl rfl rfl hl.1 (Nat.le_of_ble_eq_true rfl) dX10_cheapest_127 (fun r5 u6 H locs p_r5 hP hD hS => ?_)
              have hP : va_P g.1 vwCl (wX10 g a_p u6 J_p ++ (wX7 g a_t I_t ++ (wX5 g a_s I_s ++ wX6 g a_f u2))) H := hP
              have hD : va_D A (wX10 g a_p u6 J_p ++ (wX7 g a_t I_t ++ (wX5 g a_s I_s ++ wX6 g a_f u2))) := hD
              refine hret 130 ls r5 _ _ (u6, u2) dX10_cheapest_130 hS hP hD ?_
              exact ⟨(PI.st hPI p_r5.2.choose_spec), (p_r1), (KP.tr (KP.rf I_p) (KP.st p_r5.2.choose_spec))⟩
          · refine lv_aload_n hx hb dX10_cheapest_96 rfl (lv_at hl 3 rfl) ?_
            refine lv_bipush (v := 6) hx hb dX10_cheapest_97 (by decide) ?_
            refine EffI.cv (wr := (wX7 g a_t I_t ++ wX5 g a_s I_s ++ wX6 g a_f I_f_20)) (w' := fun u8 => wX10 g a_p u8 J_p ++ (wX7 g a_t I_t ++ (wX5 g a_s I_s ++ wX6 g a_f I_f_20))) (As := [.int (6 : Int32)]) (kX10_refuse l g a_p I_p J_p (6 : Int32)) fx (gUV (uT _) u_295 u_296 u_297 u_2 u_298) rfl hdX10_refuse ⟨Nat.le_of_ble_eq_true rfl, Nat.le_of_ble_eq_true rfl⟩ hK hP hD hS hA [0, 1] [2, 3, 4, 5, 6, 7, 8, 9, 10, 11, 12, 13, 14, 15] [14, 15, 0, 1, 2, 3, 4, 5, 6, 7, 8, 9, 10, 11, 12, 13] rfl rfl rfl rfl (by decide) rfl (fun _ => rfl) rfl rfl rfl rfl hl.1 (Nat.le_of_ble_eq_true rfl) dX10_cheapest_99 (fun r7 u8 H locs p_r7 hP hD hS => ?_)
            have hP : va_P g.1 vwCl (wX10 g a_p u8 J_p ++ (wX7 g a_t I_t ++ (wX5 g a_s I_s ++ wX6 g a_f I_f_20))) H := hP
            have hD : va_D A (wX10 g a_p u8 J_p ++ (wX7 g a_t I_t ++ (wX5 g a_s I_s ++ wX6 g a_f I_f_20))) := hD
            refine hret 102 ls r7 _ _ (u8, I_f_20) dX10_cheapest_102 hS hP hD ?_
            exact ⟨(PI.st hPI p_r7.2), hF_20, (KP.tr (KP.rf I_p) (KP.st p_r7.2))⟩
        · refine lv_aload_n hx hb dX10_cheapest_31 rfl (lv_at hl 3 rfl) ?_
          refine va_get (D := g.1) (ci := 10) (v := .ref (a_t 0)) (C := RX10) (T := TX10) (N := 20) hx hb hi_X10 (fun _ h => h) hown hK.1 hP 0 rfl rfl 9 (by decide) hf_50 (fun _ h9 => h9) (congrArg (fun z => some (Value.ref z)) hl_p_table) dX10_cheapest_32 ?_
          refine lv_iload_n hx hb dX10_cheapest_35 rfl (lv_at hl 0 rfl) ?_
          refine PurI.cv (As := [.int v3_20]) (kX7_isThere l g a_t I_t v3_20) fx (gUV (uT _) u_982 u_983 u_984 u_31 u_985) rfl hdX7_isThere ⟨Nat.le_of_ble_eq_true rfl, Nat.le_of_ble_eq_true rfl⟩ hK hP [2, 3, 4, 5, 6, 7, 8] rfl rfl rfl rfl rfl hl.1 (Nat.le_of_ble_eq_true rfl) dX10_cheapest_36 (fun r9 p_r9 => ?_)
          refine q_if_eq (tgt := 60) hx hb dX10_cheapest_39 (by decide) rfl (fun b_39 k_39 => ?_) (fun b_39 k_39 => ?_)
          · have q_39 := bP.f p_r9 b_39
            refine lv_iconst (v := -1) hx hb dX10_cheapest_60 (by decide) ?_
            refine lv_istore (lv' := [(4, .int (-1 : Int32)), (3, .int v3_20), (2, .int v2_20), (1, .int v1_20), (0, .ref (a_p 0))]) hx hb dX10_cheapest_61 hl (by decide) rfl (fun ls hl => ?_)
            refine lv_iload hx hb dX10_cheapest_63 (lv_at hl 0 rfl) ?_
            refine lv_iconst (v := -1) hx hb dX10_cheapest_65 (by decide) ?_
            refine q_icmp_eq (tgt := 85) hx hb dX10_cheapest_66 (by decide) (by decide : (-1 : Int32).toInt = -1) (by decide : (-1 : Int32).toInt = -1) (fun k_66 => ?_) (fun k_66 => ?_)
            · refine r_iinc (lv' := fun i10 => [(3, .int i10), (4, .int (-1 : Int32)), (2, .int v2_20), (1, .int v1_20), (0, .ref (a_p 0))]) hx hb dX10_cheapest_85 hl (k := 1) rfl (by decide) rfl (by decide) (fun _ => rfl) (fun i10 e_i10 t_i10 ls hl => ?_)
              try have t_i10 := t_i10 (by omega)
              refine lv_goto (tgt := 20) hx hb dX10_cheapest_88 (by decide) ?_
              exact ih_20 v1_20 v2_20 i10 I_f_20 (by omega) hF_20 (by omega) _ _ hP hD hS ls (lv_sub hl [0, 2, 3, 4] rfl)
            · exfalso
              omega
          · have q_39 := bP.t p_r9 b_39
            refine lv_aload_n hx hb dX10_cheapest_42 rfl (lv_at hl 3 rfl) ?_
            refine lv_aload_n hx hb dX10_cheapest_43 rfl (lv_at hl 3 rfl) ?_
            refine va_get (D := g.1) (ci := 10) (v := .ref (a_t 0)) (C := RX10) (T := TX10) (N := 20) hx hb hi_X10 (fun _ h => h) hown hK.1 hP 0 rfl rfl 9 (by decide) hf_50 (fun _ h9 => h9) (congrArg (fun z => some (Value.ref z)) hl_p_table) dX10_cheapest_44 ?_
            refine va_get (D := g.1) (ci := 7) (v := .int (I_t 0 1)) (C := RX7) (T := TX7) (N := 8) hx hb hi_X7 (fun _ h => h) hown hK.1 hP 2 rfl rfl 1 (by decide) hf_184 (fun _ h9 => h9) rfl dX10_cheapest_47 ?_
            refine lv_iconst (v := 1) hx hb dX10_cheapest_50 (by decide) ?_
            refine lv_iload_n hx hb dX10_cheapest_51 rfl (lv_at hl 0 rfl) ?_
            refine lv_ishl hx hb dX10_cheapest_52 ?_
            refine q_nm (fun x11 e_x11 => ?_)
            refine lv_ior hx hb dX10_cheapest_53 ?_
            refine q_nm (fun x12 e_x12 => ?_)
            refine EffI.cv (wr := ([])) (w' := fun u14 => wX10 g a_p I_p J_p ++ (wX7 g a_t I_t ++ (wX5 g a_s I_s ++ wX6 g a_f u14))) (As := [.int x12]) (kX10_cellsWith l g a_p I_p J_p a_t I_t a_s I_s a_f I_f_20 x12 hl_p_table hl_p_script hl_p_spare hPI hT hSI hF_20) fx (gUV (uT _) u_1044 u_1045 u_1046 u_2 u_1047) rfl hdX10_cellsWith ⟨Nat.le_of_ble_eq_true rfl, Nat.le_of_ble_eq_true rfl⟩ hK hP hD hS hA [0, 1, 2, 3, 4, 5, 6, 7, 8, 9, 10, 11, 12, 13, 14, 15] [] [0, 1, 2, 3, 4, 5, 6, 7, 8, 9, 10, 11, 12, 13, 14, 15] rfl rfl rfl rfl (by decide) rfl (fun _ => rfl) rfl rfl rfl rfl hl.1 (Nat.le_of_ble_eq_true rfl) dX10_cheapest_54 (fun r13 u14 H locs p_r13 hP hD hS => ?_)
            have hP : va_P g.1 vwCl (wX10 g a_p I_p J_p ++ (wX7 g a_t I_t ++ (wX5 g a_s I_s ++ wX6 g a_f u14))) H := hP
            have hD : va_D A (wX10 g a_p I_p J_p ++ (wX7 g a_t I_t ++ (wX5 g a_s I_s ++ wX6 g a_f u14))) := hD
            refine lv_goto (tgt := 61) hx hb dX10_cheapest_57 (by decide) ?_
            refine lv_istore (lv' := [(4, .int r13), (3, .int v3_20), (2, .int v2_20), (1, .int v1_20), (0, .ref (a_p 0))]) hx hb dX10_cheapest_61 hl (by decide) rfl (fun ls hl => ?_)
            refine lv_iload hx hb dX10_cheapest_63 (lv_at hl 0 rfl) ?_
            refine lv_iconst (v := -1) hx hb dX10_cheapest_65 (by decide) ?_
            refine q_icmp_eq (tgt := 85) hx hb dX10_cheapest_66 (by decide) rfl (by decide : (-1 : Int32).toInt = -1) (fun k_66 => ?_) (fun k_66 => ?_)
            · refine r_iinc (lv' := fun i15 => [(3, .int i15), (4, .int r13), (2, .int v2_20), (1, .int v1_20), (0, .ref (a_p 0))]) hx hb dX10_cheapest_85 hl (k := 1) rfl (by decide) rfl (by decide) (fun _ => rfl) (fun i15 e_i15 t_i15 ls hl => ?_)
              try have t_i15 := t_i15 (by omega)
              refine lv_goto (tgt := 20) hx hb dX10_cheapest_88 (by decide) ?_
              exact ih_20 v1_20 v2_20 i15 u14 (by omega) (p_r13) (by omega) _ _ hP hD hS ls (lv_sub hl [0, 2, 3, 4] rfl)
            · refine lv_iload_n hx hb dX10_cheapest_69 rfl (lv_at hl 3 rfl) ?_
              refine lv_iconst (v := -1) hx hb dX10_cheapest_70 (by decide) ?_
              refine q_icmp_eq (tgt := 80) hx hb dX10_cheapest_71 (by decide) rfl (by decide : (-1 : Int32).toInt = -1) (fun k_71 => ?_) (fun k_71 => ?_)
              · refine lv_iload_n hx hb dX10_cheapest_80 rfl (lv_at hl 1 rfl) ?_
                refine lv_istore_n (lv' := [(1, .int v3_20), (4, .int r13), (3, .int v3_20), (2, .int v2_20), (0, .ref (a_p 0))]) hx hb dX10_cheapest_81 rfl hl (by decide) rfl (fun ls hl => ?_)
                refine lv_iload hx hb dX10_cheapest_82 (lv_at hl 1 rfl) ?_
                refine lv_istore_n (lv' := [(2, .int r13), (1, .int v3_20), (4, .int r13), (3, .int v3_20), (0, .ref (a_p 0))]) hx hb dX10_cheapest_84 rfl hl (by decide) rfl (fun ls hl => ?_)
                refine r_iinc (lv' := fun i16 => [(3, .int i16), (2, .int r13), (1, .int v3_20), (4, .int r13), (0, .ref (a_p 0))]) hx hb dX10_cheapest_85 hl (k := 3) rfl (by decide) rfl (by decide) (fun _ => rfl) (fun i16 e_i16 t_i16 ls hl => ?_)
                try have t_i16 := t_i16 (by omega)
                refine lv_goto (tgt := 20) hx hb dX10_cheapest_88 (by decide) ?_
                exact ih_20 v3_20 r13 i16 u14 (by omega) (p_r13) (by omega) _ _ hP hD hS ls (lv_sub hl [0, 1, 2, 4] rfl)
              · refine lv_iload hx hb dX10_cheapest_74 (lv_at hl 0 rfl) ?_
                refine lv_iload_n hx hb dX10_cheapest_76 rfl (lv_at hl 2 rfl) ?_
                refine q_icmp_ge (tgt := 85) hx hb dX10_cheapest_77 (by decide) rfl rfl (fun k_77 => ?_) (fun k_77 => ?_)
                · refine r_iinc (lv' := fun i17 => [(3, .int i17), (4, .int r13), (2, .int v2_20), (1, .int v1_20), (0, .ref (a_p 0))]) hx hb dX10_cheapest_85 hl (k := 1) rfl (by decide) rfl (by decide) (fun _ => rfl) (fun i17 e_i17 t_i17 ls hl => ?_)
                  try have t_i17 := t_i17 (by omega)
                  refine lv_goto (tgt := 20) hx hb dX10_cheapest_88 (by decide) ?_
                  exact ih_20 v1_20 v2_20 i17 u14 (by omega) (p_r13) (by omega) _ _ hP hD hS ls (lv_sub hl [0, 2, 3, 4] rfl)
                · refine lv_iload_n hx hb dX10_cheapest_80 rfl (lv_at hl 1 rfl) ?_
                  refine lv_istore_n (lv' := [(1, .int v3_20), (4, .int r13), (3, .int v3_20), (2, .int v2_20), (0, .ref (a_p 0))]) hx hb dX10_cheapest_81 rfl hl (by decide) rfl (fun ls hl => ?_)
                  refine lv_iload hx hb dX10_cheapest_82 (lv_at hl 1 rfl) ?_
                  refine lv_istore_n (lv' := [(2, .int r13), (1, .int v3_20), (4, .int r13), (3, .int v3_20), (0, .ref (a_p 0))]) hx hb dX10_cheapest_84 rfl hl (by decide) rfl (fun ls hl => ?_)
                  refine r_iinc (lv' := fun i18 => [(3, .int i18), (2, .int r13), (1, .int v3_20), (4, .int r13), (0, .ref (a_p 0))]) hx hb dX10_cheapest_85 hl (k := 3) rfl (by decide) rfl (by decide) (fun _ => rfl) (fun i18 e_i18 t_i18 ls hl => ?_)
                  try have t_i18 := t_i18 (by omega)
                  refine lv_goto (tgt := 20) hx hb dX10_cheapest_88 (by decide) ?_
                  exact ih_20 v3_20 r13 i18 u14 (by omega) (p_r13) (by omega) _ _ hP hD hS ls (lv_sub hl [0, 1, 2, 4] rfl)
    exact L20 ((25 - (0 : Int32).toInt) + 1).toNat (-1 : Int32) (0 : Int32) (0 : Int32) I_f (by omega) hF (by omega) _ _ hP hD hS ls hl
  · refine lv_aload_n hx hb dX10_cheapest_7 rfl (lv_at hl 0 rfl) ?_
    refine lv_bipush (v := 6) hx hb dX10_cheapest_8 (by decide) ?_
    refine EffI.cv (wr := (wX7 g a_t I_t ++ wX5 g a_s I_s ++ wX6 g a_f I_f)) (w' := fun u20 => wX10 g a_p u20 J_p ++ (wX7 g a_t I_t ++ (wX5 g a_s I_s ++ wX6 g a_f I_f))) (As := [.int (6 : Int32)]) (kX10_refuse l g a_p I_p J_p (6 : Int32)) fx (gUV (uT _) u_295 u_296 u_297 u_2 u_298) rfl hdX10_refuse ⟨Nat.le_of_ble_eq_true rfl, Nat.le_of_ble_eq_true rfl⟩ hK hP hD hS hA [0, 1] [2, 3, 4, 5, 6, 7, 8, 9, 10, 11, 12, 13, 14, 15] [14, 15, 0, 1, 2, 3, 4, 5, 6, 7, 8, 9, 10, 11, 12, 13] rfl rfl rfl rfl (by decide) rfl (fun _ => rfl) rfl rfl rfl rfl hl.1 (Nat.le_of_ble_eq_true rfl) dX10_cheapest_10 (fun r19 u20 H locs p_r19 hP hD hS => ?_)
    have hP : va_P g.1 vwCl (wX10 g a_p u20 J_p ++ (wX7 g a_t I_t ++ (wX5 g a_s I_s ++ wX6 g a_f I_f))) H := hP
    have hD : va_D A (wX10 g a_p u20 J_p ++ (wX7 g a_t I_t ++ (wX5 g a_s I_s ++ wX6 g a_f I_f))) := hD
    refine hret 13 ls r19 _ _ (u20, I_f) dX10_cheapest_13 hS hP hD ?_
    exact ⟨(PI.st hPI p_r19.2), hF, (KP.tr (KP.rf I_p) (KP.st p_r19.2))⟩

set_option maxHeartbeats 4000000 in
set_option maxRecDepth 100000 in
theorem kX10_piece (l : Launch) (g : gG) (a_p : Nat → Nat) (I_p : Nat → Nat → Int32) (J_p : Nat → Nat → Int64) (a_y : Nat → Nat) (I_y : Nat → Nat → Int32) (k : Int32) (what : Int32) (hl_p_layout : a_p 114 = a_y 0) (hPI : PI I_p) (hL : LI I_y) : EffI l g yX10_piece wsX10_piece 1 [.ref (a_p 0), .int k, .int what] (wX10 g a_p I_p J_p ++ wX1 g a_y I_y) (fun (u : (Nat → Nat → Int32)) => wX10 g a_p u J_p ++ wX1 g a_y I_y) (fun r (u : (Nat → Nat → Int32)) => PI (u) ∧ KP I_p (u)) := by
  refine EffI.st (cc := cX10_piece) (maxL := 3) (by decide) rfl (Nat.le_of_ble_eq_true rfl) (fun p e s m args below meth c A Q ls fx hK hP hD hA hS hl hret => ?_)
  have hx := fx.1
  have hb := fx.2.1
  have hml := fx.2.2.1
  have hown := fx.2.2.2.1
  have hts := fx.2.2.2.2
  have hl : lv_has ls 3 [(0, .ref (a_p 0)), (1, .int k), (2, .int what)] := hl
  have hP : va_P g.1 vwCl (wX10 g a_p I_p J_p ++ wX1 g a_y I_y) s.heap := hP
  have hf_61 := hts _ (uT _ _ u_37)
  have hf_78 := hts _ (uT _ _ u_46)
  have hf_245 := hts _ (uT _ _ u_869)
  have hf_307 := hts _ (uT _ _ u_1101)
  have hf_310 := hts _ (uT _ _ u_1102)
  have hi_X1 : ∀ w ∈ wsX10, w.before args s = true := fun w h => hts w (uT _ w (u_wsX10 w h))
  have hi_X10 : ∀ w ∈ wsX100, w.before args s = true := fun w h => hts w (uT _ w (u_wsX100 w h))
  have lm1 : (-1 : Int32).toInt = -1 := by decide
  have lm0 : (0 : Int32).toInt = 0 := by decide
  have lm2 : (1 : Int32).toInt = 1 := by decide
  have hp1 := hPI.1
  have hp2 := hPI.2.1
  have hpc := LI.pc hL
  have hln := LI.ln hL
  have hwd := LI.wd hL
  have lq6 : (6 : Int32).toInt = 6 := by decide
  refine lv_iload_n hx hb dX10_piece_0 rfl (lv_at hl 2 rfl) ?_
  refine q_if_lt (tgt := 9) hx hb dX10_piece_1 (by decide) rfl (fun k_1 => ?_) (fun k_1 => ?_)
  · refine lv_aload_n hx hb dX10_piece_9 rfl (lv_at hl 0 rfl) ?_
    refine lv_iconst (v := 1) hx hb dX10_piece_10 (by decide) ?_
    refine EffI.cv (wr := (wX1 g a_y I_y)) (w' := fun u2 => wX10 g a_p u2 J_p ++ wX1 g a_y I_y) (As := [.int (1 : Int32)]) (kX10_refuse l g a_p I_p J_p (1 : Int32)) fx (gUV (uT _) u_295 u_296 u_297 u_2 u_298) rfl hdX10_refuse ⟨Nat.le_of_ble_eq_true rfl, Nat.le_of_ble_eq_true rfl⟩ hK hP hD hS hA [0, 1] [2, 3, 4, 5, 6, 7, 8] [7, 8, 0, 1, 2, 3, 4, 5, 6] rfl rfl rfl rfl (by decide) rfl (fun _ => rfl) rfl rfl rfl rfl hl.1 (Nat.le_of_ble_eq_true rfl) dX10_piece_11 (fun r1 u2 H locs p_r1 hP hD hS => ?_)
    have hP : va_P g.1 vwCl (wX10 g a_p u2 J_p ++ wX1 g a_y I_y) H := hP
    have hD : va_D A (wX10 g a_p u2 J_p ++ wX1 g a_y I_y) := hD
    refine hret 14 ls r1 _ _ u2 dX10_piece_14 hS hP hD ?_
    exact ⟨(PI.st hPI p_r1.2), (KP.tr (KP.rf I_p) (KP.st p_r1.2))⟩
  · refine lv_iload_n hx hb dX10_piece_4 rfl (lv_at hl 2 rfl) ?_
    refine lv_iconst (v := 1) hx hb dX10_piece_5 (by decide) ?_
    refine q_icmp_le (tgt := 15) hx hb dX10_piece_6 (by decide) rfl (by decide : (1 : Int32).toInt = 1) (fun k_6 => ?_) (fun k_6 => ?_)
    · refine lv_aload_n hx hb dX10_piece_15 rfl (lv_at hl 0 rfl) ?_
      refine va_get (D := g.1) (ci := 10) (v := .int (I_p 0 11)) (C := RX10) (T := TX10) (N := 20) hx hb hi_X10 (fun _ h => h) hown hK.1 hP 0 rfl rfl 11 (by decide) hf_61 (fun _ h9 => h9) rfl dX10_piece_16 ?_
      refine q_if_eq (tgt := 37) hx hb dX10_piece_19 (by decide) rfl (fun b_19 k_19 => ?_) (fun b_19 k_19 => ?_)
      · refine lv_aload_n hx hb dX10_piece_37 rfl (lv_at hl 0 rfl) ?_
        refine lv_bipush (v := 6) hx hb dX10_piece_38 (by decide) ?_
        refine EffI.cv (wr := (wX1 g a_y I_y)) (w' := fun u4 => wX10 g a_p u4 J_p ++ wX1 g a_y I_y) (As := [.int (6 : Int32)]) (kX10_refuse l g a_p I_p J_p (6 : Int32)) fx (gUV (uT _) u_295 u_296 u_297 u_2 u_298) rfl hdX10_refuse ⟨Nat.le_of_ble_eq_true rfl, Nat.le_of_ble_eq_true rfl⟩ hK hP hD hS hA [0, 1] [2, 3, 4, 5, 6, 7, 8] [7, 8, 0, 1, 2, 3, 4, 5, 6] rfl rfl rfl rfl (by decide) rfl (fun _ => rfl) rfl rfl rfl rfl hl.1 (Nat.le_of_ble_eq_true rfl) dX10_piece_40 (fun r3 u4 H locs p_r3 hP hD hS => ?_)
        have hP : va_P g.1 vwCl (wX10 g a_p u4 J_p ++ wX1 g a_y I_y) H := hP
        have hD : va_D A (wX10 g a_p u4 J_p ++ wX1 g a_y I_y) := hD
        refine hret 43 ls r3 _ _ u4 dX10_piece_43 hS hP hD ?_
        exact ⟨(PI.st hPI p_r3.2), (KP.tr (KP.rf I_p) (KP.st p_r3.2))⟩
      · refine lv_iload_n hx hb dX10_piece_22 rfl (lv_at hl 1 rfl) ?_
        refine q_if_lt (tgt := 37) hx hb dX10_piece_23 (by decide) rfl (fun k_23 => ?_) (fun k_23 => ?_)
        · refine lv_aload_n hx hb dX10_piece_37 rfl (lv_at hl 0 rfl) ?_
          refine lv_bipush (v := 6) hx hb dX10_piece_38 (by decide) ?_
          refine EffI.cv (wr := (wX1 g a_y I_y)) (w' := fun u6 => wX10 g a_p u6 J_p ++ wX1 g a_y I_y) (As := [.int (6 : Int32)]) (kX10_refuse l g a_p I_p J_p (6 : Int32)) fx (gUV (uT _) u_295 u_296 u_297 u_2 u_298) rfl hdX10_refuse ⟨Nat.le_of_ble_eq_true rfl, Nat.le_of_ble_eq_true rfl⟩ hK hP hD hS hA [0, 1] [2, 3, 4, 5, 6, 7, 8] [7, 8, 0, 1, 2, 3, 4, 5, 6] rfl rfl rfl rfl (by decide) rfl (fun _ => rfl) rfl rfl rfl rfl hl.1 (Nat.le_of_ble_eq_true rfl) dX10_piece_40 (fun r5 u6 H locs p_r5 hP hD hS => ?_)
          have hP : va_P g.1 vwCl (wX10 g a_p u6 J_p ++ wX1 g a_y I_y) H := hP
          have hD : va_D A (wX10 g a_p u6 J_p ++ wX1 g a_y I_y) := hD
          refine hret 43 ls r5 _ _ u6 dX10_piece_43 hS hP hD ?_
          exact ⟨(PI.st hPI p_r5.2), (KP.tr (KP.rf I_p) (KP.st p_r5.2))⟩
        · refine lv_iload_n hx hb dX10_piece_26 rfl (lv_at hl 1 rfl) ?_
          refine lv_aload_n hx hb dX10_piece_27 rfl (lv_at hl 0 rfl) ?_
          refine va_get (D := g.1) (ci := 10) (v := .ref (a_y 0)) (C := RX10) (T := TX10) (N := 20) hx hb hi_X10 (fun _ h => h) hown hK.1 hP 0 rfl rfl 14 (by decide) hf_78 (fun _ h9 => h9) (congrArg (fun z => some (Value.ref z)) hl_p_layout) dX10_piece_28 ?_
          refine va_get (D := g.1) (ci := 1) (v := .int (I_y 0 2)) (C := RX1) (T := TX1) (N := 9) hx hb hi_X1 (fun _ h => h) hown hK.1 hP 2 rfl rfl 2 (by decide) hf_245 (fun _ h9 => h9) rfl dX10_piece_31 ?_
          refine q_icmp_lt (tgt := 44) hx hb dX10_piece_34 (by decide) rfl rfl (fun k_34 => ?_) (fun k_34 => ?_)
          · refine lv_aload_n hx hb dX10_piece_44 rfl (lv_at hl 0 rfl) ?_
            refine lv_iload_n hx hb dX10_piece_45 rfl (lv_at hl 2 rfl) ?_
            refine q_if_ne (tgt := 61) hx hb dX10_piece_46 (by decide) rfl (fun b_46 k_46 => ?_) (fun b_46 k_46 => ?_)
            · refine lv_aload_n hx hb dX10_piece_61 rfl (lv_at hl 0 rfl) ?_
              refine va_get (D := g.1) (ci := 10) (v := .ref (a_y 0)) (C := RX10) (T := TX10) (N := 20) hx hb hi_X10 (fun _ h => h) hown hK.1 hP 0 rfl rfl 14 (by decide) hf_78 (fun _ h9 => h9) (congrArg (fun z => some (Value.ref z)) hl_p_layout) dX10_piece_62 ?_
              refine va_get (D := g.1) (ci := 1) (v := .ref (a_y 2)) (C := RX1) (T := TX1) (N := 9) hx hb hi_X1 (fun _ h => h) hown hK.1 hP 2 rfl rfl 1 (by decide) hf_310 (fun _ h9 => h9) rfl dX10_piece_65 ?_
              refine lv_iload_n hx hb dX10_piece_68 rfl (lv_at hl 1 rfl) ?_
              have n_69 : vp_in k 150 := (t_in (by omega))
              refine va_iald hx hb hK.1 hP 4 0 rfl rfl n_69 dX10_piece_69 ?_
              refine q_nm (fun x7 e_x7 => ?_)
              have e_x7 : x7 = (I_y 2) k.toNatClampNeg := e_x7
              have g_x7 : x7.toInt = ((I_y 2) k.toNatClampNeg).toInt := congrArg _ e_x7
              refine EffI.cv (wr := (wX1 g a_y I_y)) (w' := fun u9 => wX10 g a_p u9 J_p ++ wX1 g a_y I_y) (As := [.int x7]) (kX10_answer l g a_p I_p J_p x7) fx (gUV (uT _) u_497 u_498 u_499 u_2 u_500) rfl hdX10_answer ⟨Nat.le_of_ble_eq_true rfl, Nat.le_of_ble_eq_true rfl⟩ hK hP hD hS hA [0, 1] [2, 3, 4, 5, 6, 7, 8] [7, 8, 0, 1, 2, 3, 4, 5, 6] rfl rfl rfl rfl (by decide) rfl (fun _ => rfl) rfl rfl rfl rfl hl.1 (Nat.le_of_ble_eq_true rfl) dX10_piece_70 (fun r8 u9 H locs p_r8 hP hD hS => ?_)
              have hP : va_P g.1 vwCl (wX10 g a_p u9 J_p ++ wX1 g a_y I_y) H := hP
              have hD : va_D A (wX10 g a_p u9 J_p ++ wX1 g a_y I_y) := hD
              refine hret 73 ls r8 _ _ u9 dX10_piece_73 hS hP hD ?_
              exact ⟨(PI.st hPI p_r8.2), (KP.tr (KP.rf I_p) (KP.st p_r8.2))⟩
            · refine lv_aload_n hx hb dX10_piece_49 rfl (lv_at hl 0 rfl) ?_
              refine va_get (D := g.1) (ci := 10) (v := .ref (a_y 0)) (C := RX10) (T := TX10) (N := 20) hx hb hi_X10 (fun _ h => h) hown hK.1 hP 0 rfl rfl 14 (by decide) hf_78 (fun _ h9 => h9) (congrArg (fun z => some (Value.ref z)) hl_p_layout) dX10_piece_50 ?_
              refine va_get (D := g.1) (ci := 1) (v := .ref (a_y 1)) (C := RX1) (T := TX1) (N := 9) hx hb hi_X1 (fun _ h => h) hown hK.1 hP 2 rfl rfl 0 (by decide) hf_307 (fun _ h9 => h9) rfl dX10_piece_53 ?_
              refine lv_iload_n hx hb dX10_piece_56 rfl (lv_at hl 1 rfl) ?_
              have n_57 : vp_in k 150 := (t_in (by omega))
              refine va_iald hx hb hK.1 hP 3 0 rfl rfl n_57 dX10_piece_57 ?_
              refine q_nm (fun x10 e_x10 => ?_)
              have e_x10 : x10 = (I_y 1) k.toNatClampNeg := e_x10
              have g_x10 : x10.toInt = ((I_y 1) k.toNatClampNeg).toInt := congrArg _ e_x10
              refine lv_goto (tgt := 70) hx hb dX10_piece_58 (by decide) ?_
              refine EffI.cv (wr := (wX1 g a_y I_y)) (w' := fun u12 => wX10 g a_p u12 J_p ++ wX1 g a_y I_y) (As := [.int x10]) (kX10_answer l g a_p I_p J_p x10) fx (gUV (uT _) u_497 u_498 u_499 u_2 u_500) rfl hdX10_answer ⟨Nat.le_of_ble_eq_true rfl, Nat.le_of_ble_eq_true rfl⟩ hK hP hD hS hA [0, 1] [2, 3, 4, 5, 6, 7, 8] [7, 8, 0, 1, 2, 3, 4, 5, 6] rfl rfl rfl rfl (by decide) rfl (fun _ => rfl) rfl rfl rfl rfl hl.1 (Nat.le_of_ble_eq_true rfl) dX10_piece_70 (fun r11 u12 H locs p_r11 hP hD hS => ?_)
              have hP : va_P g.1 vwCl (wX10 g a_p u12 J_p ++ wX1 g a_y I_y) H := hP
              have hD : va_D A (wX10 g a_p u12 J_p ++ wX1 g a_y I_y) := hD
              refine hret 73 ls r11 _ _ u12 dX10_piece_73 hS hP hD ?_
              exact ⟨(PI.st hPI p_r11.2), (KP.tr (KP.rf I_p) (KP.st p_r11.2))⟩
          · refine lv_aload_n hx hb dX10_piece_37 rfl (lv_at hl 0 rfl) ?_
            refine lv_bipush (v := 6) hx hb dX10_piece_38 (by decide) ?_
            refine EffI.cv (wr := (wX1 g a_y I_y)) (w' := fun u14 => wX10 g a_p u14 J_p ++ wX1 g a_y I_y) (As := [.int (6 : Int32)]) (kX10_refuse l g a_p I_p J_p (6 : Int32)) fx (gUV (uT _) u_295 u_296 u_297 u_2 u_298) rfl hdX10_refuse ⟨Nat.le_of_ble_eq_true rfl, Nat.le_of_ble_eq_true rfl⟩ hK hP hD hS hA [0, 1] [2, 3, 4, 5, 6, 7, 8] [7, 8, 0, 1, 2, 3, 4, 5, 6] rfl rfl rfl rfl (by decide) rfl (fun _ => rfl) rfl rfl rfl rfl hl.1 (Nat.le_of_ble_eq_true rfl) dX10_piece_40 (fun r13 u14 H locs p_r13 hP hD hS => ?_)
            have hP : va_P g.1 vwCl (wX10 g a_p u14 J_p ++ wX1 g a_y I_y) H := hP
            have hD : va_D A (wX10 g a_p u14 J_p ++ wX1 g a_y I_y) := hD
            refine hret 43 ls r13 _ _ u14 dX10_piece_43 hS hP hD ?_
            exact ⟨(PI.st hPI p_r13.2), (KP.tr (KP.rf I_p) (KP.st p_r13.2))⟩
    · refine lv_aload_n hx hb dX10_piece_9 rfl (lv_at hl 0 rfl) ?_
      refine lv_iconst (v := 1) hx hb dX10_piece_10 (by decide) ?_
      refine EffI.cv (wr := (wX1 g a_y I_y)) (w' := fun u16 => wX10 g a_p u16 J_p ++ wX1 g a_y I_y) (As := [.int (1 : Int32)]) (kX10_refuse l g a_p I_p J_p (1 : Int32)) fx (gUV (uT _) u_295 u_296 u_297 u_2 u_298) rfl hdX10_refuse ⟨Nat.le_of_ble_eq_true rfl, Nat.le_of_ble_eq_true rfl⟩ hK hP hD hS hA [0, 1] [2, 3, 4, 5, 6, 7, 8] [7, 8, 0, 1, 2, 3, 4, 5, 6] rfl rfl rfl rfl (by decide) rfl (fun _ => rfl) rfl rfl rfl rfl hl.1 (Nat.le_of_ble_eq_true rfl) dX10_piece_11 (fun r15 u16 H locs p_r15 hP hD hS => ?_)
      have hP : va_P g.1 vwCl (wX10 g a_p u16 J_p ++ wX1 g a_y I_y) H := hP
      have hD : va_D A (wX10 g a_p u16 J_p ++ wX1 g a_y I_y) := hD
      refine hret 14 ls r15 _ _ u16 dX10_piece_14 hS hP hD ?_
      exact ⟨(PI.st hPI p_r15.2), (KP.tr (KP.rf I_p) (KP.st p_r15.2))⟩

set_option maxHeartbeats 4000000 in
set_option maxRecDepth 100000 in
theorem kX10_by (l : Launch) (g : gG) (a_p : Nat → Nat) (I_p : Nat → Nat → Int32) (J_p : Nat → Nat → Int64) (a_e : Nat → Nat) (I_e : Nat → Nat → Int32) (k : Int32) (hl_p_shown : a_p 112 = a_e 0) (hPI : PI I_p) (hE : EI I_e) : EffI l g yX10_by wsX10_by 2 [.ref (a_p 0), .int k] (wX10 g a_p I_p J_p ++ wX6 g a_e I_e) (fun (u : (Nat → Nat → Int32)) => wX10 g a_p u J_p ++ wX6 g a_e I_e) (fun r (u : (Nat → Nat → Int32)) => PI (u) ∧ KP I_p (u)) := by
  refine EffI.st (cc := cX10_by) (maxL := 2) (by decide) rfl (Nat.le_of_ble_eq_true rfl) (fun p e s m args below meth c A Q ls fx hK hP hD hA hS hl hret => ?_)
  have hx := fx.1
  have hb := fx.2.1
  have hml := fx.2.2.1
  have hown := fx.2.2.2.1
  have hts := fx.2.2.2.2
  have hl : lv_has ls 2 [(0, .ref (a_p 0)), (1, .int k)] := hl
  have hP : va_P g.1 vwCl (wX10 g a_p I_p J_p ++ wX6 g a_e I_e) s.heap := hP
  have hf_68 := hts _ (uT _ _ u_41)
  have hf_313 := hts _ (uT _ _ u_1111)
  have hi_X10 : ∀ w ∈ wsX100, w.before args s = true := fun w h => hts w (uT _ w (u_wsX100 w h))
  have hi_X6 : ∀ w ∈ wsX60, w.before args s = true := fun w h => hts w (uT _ w (u_wsX60 w h))
  have lm1 : (-1 : Int32).toInt = -1 := by decide
  have lm0 : (0 : Int32).toInt = 0 := by decide
  have lm2 : (1 : Int32).toInt = 1 := by decide
  have hp1 := hPI.1
  have hp2 := hPI.2.1
  have hE0 := hE.1
  have hE1 := hE.2
  have lq6 : (6 : Int32).toInt = 6 := by decide
  refine lv_aload_n hx hb dX10_by_0 rfl (lv_at hl 0 rfl) ?_
  refine lv_iload_n hx hb dX10_by_1 rfl (lv_at hl 1 rfl) ?_
  refine PurI.cv (As := [.int k]) (kX10_isSetCell l g a_p I_p J_p a_e I_e k hl_p_shown hPI hE) fx (gUV (uT _) u_907 u_908 u_909 u_2 u_910) rfl hdX10_isSetCell ⟨Nat.le_of_ble_eq_true rfl, Nat.le_of_ble_eq_true rfl⟩ hK hP [0, 1, 2, 3, 4, 5] rfl rfl rfl rfl rfl hl.1 (Nat.le_of_ble_eq_true rfl) dX10_by_2 (fun r1 p_r1 => ?_)
  refine q_if_ne (tgt := 15) hx hb dX10_by_5 (by decide) rfl (fun b_5 k_5 => ?_) (fun b_5 k_5 => ?_)
  · have q_5 := bP.t p_r1 b_5
    refine lv_aload_n hx hb dX10_by_15 rfl (lv_at hl 0 rfl) ?_
    refine lv_aload_n hx hb dX10_by_16 rfl (lv_at hl 0 rfl) ?_
    refine va_get (D := g.1) (ci := 10) (v := .ref (a_e 0)) (C := RX10) (T := TX10) (N := 20) hx hb hi_X10 (fun _ h => h) hown hK.1 hP 0 rfl rfl 12 (by decide) hf_68 (fun _ h9 => h9) (congrArg (fun z => some (Value.ref z)) hl_p_shown) dX10_by_17 ?_
    refine va_get (D := g.1) (ci := 6) (v := .ref (a_e 2)) (C := RX6) (T := TX6) (N := 10) hx hb hi_X6 (fun _ h => h) hown hK.1 hP 2 rfl rfl 1 (by decide) hf_313 (fun _ h9 => h9) rfl dX10_by_20 ?_
    refine lv_iload_n hx hb dX10_by_23 rfl (lv_at hl 1 rfl) ?_
    have n_24 : vp_in k 1200 := (t_in (by omega))
    refine va_iald hx hb hK.1 hP 4 0 rfl rfl n_24 dX10_by_24 ?_
    refine q_nm (fun x2 e_x2 => ?_)
    have e_x2 : x2 = (I_e 2) k.toNatClampNeg := e_x2
    have g_x2 : x2.toInt = ((I_e 2) k.toNatClampNeg).toInt := congrArg _ e_x2
    refine lv_iconst (v := -1) hx hb dX10_by_25 (by decide) ?_
    refine q_icmp_eq (tgt := 33) hx hb dX10_by_26 (by decide) rfl (by decide : (-1 : Int32).toInt = -1) (fun k_26 => ?_) (fun k_26 => ?_)
    · refine lv_iconst (v := 0) hx hb dX10_by_33 (by decide) ?_
      refine lv_aload_n hx hb dX10_by_34 rfl (lv_at hl 0 rfl) ?_
      refine va_get (D := g.1) (ci := 10) (v := .ref (a_e 0)) (C := RX10) (T := TX10) (N := 20) hx hb hi_X10 (fun _ h => h) hown hK.1 hP 0 rfl rfl 12 (by decide) hf_68 (fun _ h9 => h9) (congrArg (fun z => some (Value.ref z)) hl_p_shown) dX10_by_35 ?_
      refine va_get (D := g.1) (ci := 6) (v := .ref (a_e 2)) (C := RX6) (T := TX6) (N := 10) hx hb hi_X6 (fun _ h => h) hown hK.1 hP 2 rfl rfl 1 (by decide) hf_313 (fun _ h9 => h9) rfl dX10_by_38 ?_
      refine lv_iload_n hx hb dX10_by_41 rfl (lv_at hl 1 rfl) ?_
      have n_42 : vp_in k 1200 := (t_in (by omega))
      refine va_iald hx hb hK.1 hP 4 0 rfl rfl n_42 dX10_by_42 ?_
      refine q_nm (fun x3 e_x3 => ?_)
      have e_x3 : x3 = (I_e 2) k.toNatClampNeg := e_x3
      have g_x3 : x3.toInt = ((I_e 2) k.toNatClampNeg).toInt := congrArg _ e_x3
      refine lv_bipush (v := 6) hx hb dX10_by_43 (by decide) ?_
      refine EffI.cv (wr := (wX6 g a_e I_e)) (w' := fun u5 => wX10 g a_p u5 J_p ++ wX6 g a_e I_e) (As := [.int (0 : Int32), .int x3, .int (6 : Int32)]) (kX10_answerOr l g a_p I_p J_p (0 : Int32) x3 (6 : Int32)) fx (gUV (uT _) u_781 u_782 u_783 u_2 u_784) rfl hdX10_answerOr ⟨Nat.le_of_ble_eq_true rfl, Nat.le_of_ble_eq_true rfl⟩ hK hP hD hS hA [0, 1] [2, 3, 4, 5] [4, 5, 0, 1, 2, 3] rfl rfl rfl rfl (by decide) rfl (fun _ => rfl) rfl rfl rfl rfl hl.1 (Nat.le_of_ble_eq_true rfl) dX10_by_45 (fun r4 u5 H locs p_r4 hP hD hS => ?_)
      have hP : va_P g.1 vwCl (wX10 g a_p u5 J_p ++ wX6 g a_e I_e) H := hP
      have hD : va_D A (wX10 g a_p u5 J_p ++ wX6 g a_e I_e) := hD
      refine hret 48 ls r4 _ _ u5 dX10_by_48 hS hP hD ?_
      exact ⟨(PI.st hPI p_r4.2.choose_spec), (KP.tr (KP.rf I_p) (KP.st p_r4.2.choose_spec))⟩
    · refine lv_iconst (v := 1) hx hb dX10_by_29 (by decide) ?_
      refine lv_goto (tgt := 34) hx hb dX10_by_30 (by decide) ?_
      refine lv_aload_n hx hb dX10_by_34 rfl (lv_at hl 0 rfl) ?_
      refine va_get (D := g.1) (ci := 10) (v := .ref (a_e 0)) (C := RX10) (T := TX10) (N := 20) hx hb hi_X10 (fun _ h => h) hown hK.1 hP 0 rfl rfl 12 (by decide) hf_68 (fun _ h9 => h9) (congrArg (fun z => some (Value.ref z)) hl_p_shown) dX10_by_35 ?_
      refine va_get (D := g.1) (ci := 6) (v := .ref (a_e 2)) (C := RX6) (T := TX6) (N := 10) hx hb hi_X6 (fun _ h => h) hown hK.1 hP 2 rfl rfl 1 (by decide) hf_313 (fun _ h9 => h9) rfl dX10_by_38 ?_
      refine lv_iload_n hx hb dX10_by_41 rfl (lv_at hl 1 rfl) ?_
      have n_42 : vp_in k 1200 := (t_in (by omega))
      refine va_iald hx hb hK.1 hP 4 0 rfl rfl n_42 dX10_by_42 ?_
      refine q_nm (fun x6 e_x6 => ?_)
      have e_x6 : x6 = (I_e 2) k.toNatClampNeg := e_x6
      have g_x6 : x6.toInt = ((I_e 2) k.toNatClampNeg).toInt := congrArg _ e_x6
      refine lv_bipush (v := 6) hx hb dX10_by_43 (by decide) ?_
      refine EffI.cv (wr := (wX6 g a_e I_e)) (w' := fun u8 => wX10 g a_p u8 J_p ++ wX6 g a_e I_e) (As := [.int (1 : Int32), .int x6, .int (6 : Int32)]) (kX10_answerOr l g a_p I_p J_p (1 : Int32) x6 (6 : Int32)) fx (gUV (uT _) u_781 u_782 u_783 u_2 u_784) rfl hdX10_answerOr ⟨Nat.le_of_ble_eq_true rfl, Nat.le_of_ble_eq_true rfl⟩ hK hP hD hS hA [0, 1] [2, 3, 4, 5] [4, 5, 0, 1, 2, 3] rfl rfl rfl rfl (by decide) rfl (fun _ => rfl) rfl rfl rfl rfl hl.1 (Nat.le_of_ble_eq_true rfl) dX10_by_45 (fun r7 u8 H locs p_r7 hP hD hS => ?_)
      have hP : va_P g.1 vwCl (wX10 g a_p u8 J_p ++ wX6 g a_e I_e) H := hP
      have hD : va_D A (wX10 g a_p u8 J_p ++ wX6 g a_e I_e) := hD
      refine hret 48 ls r7 _ _ u8 dX10_by_48 hS hP hD ?_
      exact ⟨(PI.st hPI p_r7.2.choose_spec), (KP.tr (KP.rf I_p) (KP.st p_r7.2.choose_spec))⟩
  · have q_5 := bP.f p_r1 b_5
    refine lv_aload_n hx hb dX10_by_8 rfl (lv_at hl 0 rfl) ?_
    refine lv_bipush (v := 6) hx hb dX10_by_9 (by decide) ?_
    refine EffI.cv (wr := (wX6 g a_e I_e)) (w' := fun u10 => wX10 g a_p u10 J_p ++ wX6 g a_e I_e) (As := [.int (6 : Int32)]) (kX10_refuse l g a_p I_p J_p (6 : Int32)) fx (gUV (uT _) u_295 u_296 u_297 u_2 u_298) rfl hdX10_refuse ⟨Nat.le_of_ble_eq_true rfl, Nat.le_of_ble_eq_true rfl⟩ hK hP hD hS hA [0, 1] [2, 3, 4, 5] [4, 5, 0, 1, 2, 3] rfl rfl rfl rfl (by decide) rfl (fun _ => rfl) rfl rfl rfl rfl hl.1 (Nat.le_of_ble_eq_true rfl) dX10_by_11 (fun r9 u10 H locs p_r9 hP hD hS => ?_)
    have hP : va_P g.1 vwCl (wX10 g a_p u10 J_p ++ wX6 g a_e I_e) H := hP
    have hD : va_D A (wX10 g a_p u10 J_p ++ wX6 g a_e I_e) := hD
    refine hret 14 ls r9 _ _ u10 dX10_by_14 hS hP hD ?_
    exact ⟨(PI.st hPI p_r9.2), (KP.tr (KP.rf I_p) (KP.st p_r9.2))⟩

set_option maxHeartbeats 4000000 in
set_option maxRecDepth 100000 in
theorem kX10_dense (l : Launch) (g : gG) (a_p : Nat → Nat) (I_p : Nat → Nat → Int32) (J_p : Nat → Nat → Int64) (a_e : Nat → Nat) (I_e : Nat → Nat → Int32) (cells : Int32) (hl_p_shown : a_p 112 = a_e 0) (hPI : PI I_p) (hE : EI I_e) : EffI l g yX10_dense wsX10_dense 3 [.ref (a_p 0), .int cells] (wX10 g a_p I_p J_p ++ wX6 g a_e I_e) (fun (u : (Nat → Nat → Int32)) => wX10 g a_p u J_p ++ wX6 g a_e I_e) (fun r (u : (Nat → Nat → Int32)) => PI (u) ∧ KP I_p (u)) := by
  refine EffI.st (cc := cX10_dense) (maxL := 2) (by decide) rfl (Nat.le_of_ble_eq_true rfl) (fun p e s m args below meth c A Q ls fx hK hP hD hA hS hl hret => ?_)
  have hx := fx.1
  have hb := fx.2.1
  have hml := fx.2.2.1
  have hown := fx.2.2.2.1
  have hts := fx.2.2.2.2
  have hl : lv_has ls 2 [(0, .ref (a_p 0)), (1, .int cells)] := hl
  have hP : va_P g.1 vwCl (wX10 g a_p I_p J_p ++ wX6 g a_e I_e) s.heap := hP
  have hf_61 := hts _ (uT _ _ u_37)
  have hf_68 := hts _ (uT _ _ u_41)
  have hf_200 := hts _ (uT _ _ u_596)
  have hi_X10 : ∀ w ∈ wsX100, w.before args s = true := fun w h => hts w (uT _ w (u_wsX100 w h))
  have hi_X6 : ∀ w ∈ wsX60, w.before args s = true := fun w h => hts w (uT _ w (u_wsX60 w h))
  have lm1 : (-1 : Int32).toInt = -1 := by decide
  have lm0 : (0 : Int32).toInt = 0 := by decide
  have lm2 : (1 : Int32).toInt = 1 := by decide
  have hp1 := hPI.1
  have hp2 := hPI.2.1
  have hE0 := hE.1
  have hE1 := hE.2
  have lq6 : (6 : Int32).toInt = 6 := by decide
  have lq7 : (7 : Int32).toInt = 7 := by decide
  refine lv_iload_n hx hb dX10_dense_0 rfl (lv_at hl 1 rfl) ?_
  refine lv_iconst (v := 1) hx hb dX10_dense_1 (by decide) ?_
  refine q_icmp_lt (tgt := 11) hx hb dX10_dense_2 (by decide) rfl (by decide : (1 : Int32).toInt = 1) (fun k_2 => ?_) (fun k_2 => ?_)
  · refine lv_aload_n hx hb dX10_dense_11 rfl (lv_at hl 0 rfl) ?_
    refine lv_iconst (v := 1) hx hb dX10_dense_12 (by decide) ?_
    refine EffI.cv (wr := (wX6 g a_e I_e)) (w' := fun u2 => wX10 g a_p u2 J_p ++ wX6 g a_e I_e) (As := [.int (1 : Int32)]) (kX10_refuse l g a_p I_p J_p (1 : Int32)) fx (gUV (uT _) u_295 u_296 u_297 u_2 u_298) rfl hdX10_refuse ⟨Nat.le_of_ble_eq_true rfl, Nat.le_of_ble_eq_true rfl⟩ hK hP hD hS hA [0, 1] [2, 3, 4, 5] [4, 5, 0, 1, 2, 3] rfl rfl rfl rfl (by decide) rfl (fun _ => rfl) rfl rfl rfl rfl hl.1 (Nat.le_of_ble_eq_true rfl) dX10_dense_13 (fun r1 u2 H locs p_r1 hP hD hS => ?_)
    have hP : va_P g.1 vwCl (wX10 g a_p u2 J_p ++ wX6 g a_e I_e) H := hP
    have hD : va_D A (wX10 g a_p u2 J_p ++ wX6 g a_e I_e) := hD
    refine hret 16 ls r1 _ _ u2 dX10_dense_16 hS hP hD ?_
    exact ⟨(PI.st hPI p_r1.2), (KP.tr (KP.rf I_p) (KP.st p_r1.2))⟩
  · refine lv_iload_n hx hb dX10_dense_5 rfl (lv_at hl 1 rfl) ?_
    refine lv_bipush (v := 40) hx hb dX10_dense_6 (by decide) ?_
    refine q_icmp_le (tgt := 17) hx hb dX10_dense_8 (by decide) rfl (by decide : (40 : Int32).toInt = 40) (fun k_8 => ?_) (fun k_8 => ?_)
    · refine lv_aload_n hx hb dX10_dense_17 rfl (lv_at hl 0 rfl) ?_
      refine va_get (D := g.1) (ci := 10) (v := .int (I_p 0 11)) (C := RX10) (T := TX10) (N := 20) hx hb hi_X10 (fun _ h => h) hown hK.1 hP 0 rfl rfl 11 (by decide) hf_61 (fun _ h9 => h9) rfl dX10_dense_18 ?_
      refine q_if_ne (tgt := 31) hx hb dX10_dense_21 (by decide) rfl (fun b_21 k_21 => ?_) (fun b_21 k_21 => ?_)
      · refine lv_aload_n hx hb dX10_dense_31 rfl (lv_at hl 0 rfl) ?_
        refine lv_iload_n hx hb dX10_dense_32 rfl (lv_at hl 1 rfl) ?_
        refine lv_aload_n hx hb dX10_dense_33 rfl (lv_at hl 0 rfl) ?_
        refine va_get (D := g.1) (ci := 10) (v := .ref (a_e 0)) (C := RX10) (T := TX10) (N := 20) hx hb hi_X10 (fun _ h => h) hown hK.1 hP 0 rfl rfl 12 (by decide) hf_68 (fun _ h9 => h9) (congrArg (fun z => some (Value.ref z)) hl_p_shown) dX10_dense_34 ?_
        refine va_get (D := g.1) (ci := 6) (v := .int (I_e 0 3)) (C := RX6) (T := TX6) (N := 10) hx hb hi_X6 (fun _ h => h) hown hK.1 hP 2 rfl rfl 3 (by decide) hf_200 (fun _ h9 => h9) rfl dX10_dense_37 ?_
        refine q_icmp_gt (tgt := 47) hx hb dX10_dense_40 (by decide) rfl rfl (fun k_40 => ?_) (fun k_40 => ?_)
        · refine lv_iconst (v := 0) hx hb dX10_dense_47 (by decide) ?_
          refine lv_aload_n hx hb dX10_dense_48 rfl (lv_at hl 0 rfl) ?_
          refine va_get (D := g.1) (ci := 10) (v := .ref (a_e 0)) (C := RX10) (T := TX10) (N := 20) hx hb hi_X10 (fun _ h => h) hown hK.1 hP 0 rfl rfl 12 (by decide) hf_68 (fun _ h9 => h9) (congrArg (fun z => some (Value.ref z)) hl_p_shown) dX10_dense_49 ?_
          refine lv_iload_n hx hb dX10_dense_52 rfl (lv_at hl 1 rfl) ?_
          refine PurI.cv (As := [.int cells]) (kX6_densest l g a_e I_e cells hE (by omega)) fx (gUV (uT _) u_1120 u_1121 u_1122 u_40 u_1123) rfl hdX6_densest ⟨Nat.le_of_ble_eq_true rfl, Nat.le_of_ble_eq_true rfl⟩ hK hP [2, 3, 4, 5] rfl rfl rfl rfl rfl hl.1 (Nat.le_of_ble_eq_true rfl) dX10_dense_53 (fun r3 p_r3 => ?_)
          refine lv_bipush (v := 7) hx hb dX10_dense_56 (by decide) ?_
          refine EffI.cv (wr := (wX6 g a_e I_e)) (w' := fun u5 => wX10 g a_p u5 J_p ++ wX6 g a_e I_e) (As := [.int (0 : Int32), .int r3, .int (7 : Int32)]) (kX10_answerOr l g a_p I_p J_p (0 : Int32) r3 (7 : Int32)) fx (gUV (uT _) u_781 u_782 u_783 u_2 u_784) rfl hdX10_answerOr ⟨Nat.le_of_ble_eq_true rfl, Nat.le_of_ble_eq_true rfl⟩ hK hP hD hS hA [0, 1] [2, 3, 4, 5] [4, 5, 0, 1, 2, 3] rfl rfl rfl rfl (by decide) rfl (fun _ => rfl) rfl rfl rfl rfl hl.1 (Nat.le_of_ble_eq_true rfl) dX10_dense_58 (fun r4 u5 H locs p_r4 hP hD hS => ?_)
          have hP : va_P g.1 vwCl (wX10 g a_p u5 J_p ++ wX6 g a_e I_e) H := hP
          have hD : va_D A (wX10 g a_p u5 J_p ++ wX6 g a_e I_e) := hD
          refine hret 61 ls r4 _ _ u5 dX10_dense_61 hS hP hD ?_
          exact ⟨(PI.st hPI p_r4.2.choose_spec), (KP.tr (KP.rf I_p) (KP.st p_r4.2.choose_spec))⟩
        · refine lv_iconst (v := 1) hx hb dX10_dense_43 (by decide) ?_
          refine lv_goto (tgt := 48) hx hb dX10_dense_44 (by decide) ?_
          refine lv_aload_n hx hb dX10_dense_48 rfl (lv_at hl 0 rfl) ?_
          refine va_get (D := g.1) (ci := 10) (v := .ref (a_e 0)) (C := RX10) (T := TX10) (N := 20) hx hb hi_X10 (fun _ h => h) hown hK.1 hP 0 rfl rfl 12 (by decide) hf_68 (fun _ h9 => h9) (congrArg (fun z => some (Value.ref z)) hl_p_shown) dX10_dense_49 ?_
          refine lv_iload_n hx hb dX10_dense_52 rfl (lv_at hl 1 rfl) ?_
          refine PurI.cv (As := [.int cells]) (kX6_densest l g a_e I_e cells hE (by omega)) fx (gUV (uT _) u_1120 u_1121 u_1122 u_40 u_1123) rfl hdX6_densest ⟨Nat.le_of_ble_eq_true rfl, Nat.le_of_ble_eq_true rfl⟩ hK hP [2, 3, 4, 5] rfl rfl rfl rfl rfl hl.1 (Nat.le_of_ble_eq_true rfl) dX10_dense_53 (fun r6 p_r6 => ?_)
          refine lv_bipush (v := 7) hx hb dX10_dense_56 (by decide) ?_
          refine EffI.cv (wr := (wX6 g a_e I_e)) (w' := fun u8 => wX10 g a_p u8 J_p ++ wX6 g a_e I_e) (As := [.int (1 : Int32), .int r6, .int (7 : Int32)]) (kX10_answerOr l g a_p I_p J_p (1 : Int32) r6 (7 : Int32)) fx (gUV (uT _) u_781 u_782 u_783 u_2 u_784) rfl hdX10_answerOr ⟨Nat.le_of_ble_eq_true rfl, Nat.le_of_ble_eq_true rfl⟩ hK hP hD hS hA [0, 1] [2, 3, 4, 5] [4, 5, 0, 1, 2, 3] rfl rfl rfl rfl (by decide) rfl (fun _ => rfl) rfl rfl rfl rfl hl.1 (Nat.le_of_ble_eq_true rfl) dX10_dense_58 (fun r7 u8 H locs p_r7 hP hD hS => ?_)
          have hP : va_P g.1 vwCl (wX10 g a_p u8 J_p ++ wX6 g a_e I_e) H := hP
          have hD : va_D A (wX10 g a_p u8 J_p ++ wX6 g a_e I_e) := hD
          refine hret 61 ls r7 _ _ u8 dX10_dense_61 hS hP hD ?_
          exact ⟨(PI.st hPI p_r7.2.choose_spec), (KP.tr (KP.rf I_p) (KP.st p_r7.2.choose_spec))⟩
      · refine lv_aload_n hx hb dX10_dense_24 rfl (lv_at hl 0 rfl) ?_
        refine lv_bipush (v := 6) hx hb dX10_dense_25 (by decide) ?_
        refine EffI.cv (wr := (wX6 g a_e I_e)) (w' := fun u10 => wX10 g a_p u10 J_p ++ wX6 g a_e I_e) (As := [.int (6 : Int32)]) (kX10_refuse l g a_p I_p J_p (6 : Int32)) fx (gUV (uT _) u_295 u_296 u_297 u_2 u_298) rfl hdX10_refuse ⟨Nat.le_of_ble_eq_true rfl, Nat.le_of_ble_eq_true rfl⟩ hK hP hD hS hA [0, 1] [2, 3, 4, 5] [4, 5, 0, 1, 2, 3] rfl rfl rfl rfl (by decide) rfl (fun _ => rfl) rfl rfl rfl rfl hl.1 (Nat.le_of_ble_eq_true rfl) dX10_dense_27 (fun r9 u10 H locs p_r9 hP hD hS => ?_)
        have hP : va_P g.1 vwCl (wX10 g a_p u10 J_p ++ wX6 g a_e I_e) H := hP
        have hD : va_D A (wX10 g a_p u10 J_p ++ wX6 g a_e I_e) := hD
        refine hret 30 ls r9 _ _ u10 dX10_dense_30 hS hP hD ?_
        exact ⟨(PI.st hPI p_r9.2), (KP.tr (KP.rf I_p) (KP.st p_r9.2))⟩
    · refine lv_aload_n hx hb dX10_dense_11 rfl (lv_at hl 0 rfl) ?_
      refine lv_iconst (v := 1) hx hb dX10_dense_12 (by decide) ?_
      refine EffI.cv (wr := (wX6 g a_e I_e)) (w' := fun u12 => wX10 g a_p u12 J_p ++ wX6 g a_e I_e) (As := [.int (1 : Int32)]) (kX10_refuse l g a_p I_p J_p (1 : Int32)) fx (gUV (uT _) u_295 u_296 u_297 u_2 u_298) rfl hdX10_refuse ⟨Nat.le_of_ble_eq_true rfl, Nat.le_of_ble_eq_true rfl⟩ hK hP hD hS hA [0, 1] [2, 3, 4, 5] [4, 5, 0, 1, 2, 3] rfl rfl rfl rfl (by decide) rfl (fun _ => rfl) rfl rfl rfl rfl hl.1 (Nat.le_of_ble_eq_true rfl) dX10_dense_13 (fun r11 u12 H locs p_r11 hP hD hS => ?_)
      have hP : va_P g.1 vwCl (wX10 g a_p u12 J_p ++ wX6 g a_e I_e) H := hP
      have hD : va_D A (wX10 g a_p u12 J_p ++ wX6 g a_e I_e) := hD
      refine hret 16 ls r11 _ _ u12 dX10_dense_16 hS hP hD ?_
      exact ⟨(PI.st hPI p_r11.2), (KP.tr (KP.rf I_p) (KP.st p_r11.2))⟩

set_option maxHeartbeats 4000000 in
set_option maxRecDepth 100000 in
theorem kX10_alike (l : Launch) (g : gG) (a_p : Nat → Nat) (I_p : Nat → Nat → Int32) (J_p : Nat → Nat → Int64) (a_t : Nat → Nat) (I_t : Nat → Nat → Int32) (a_e : Nat → Nat) (I_e : Nat → Nat → Int32) (a_y : Nat → Nat) (I_y : Nat → Nat → Int32) (la : Int32) (lb : Int32) (hl_p_table : a_p 109 = a_t 0) (hl_p_shown : a_p 112 = a_e 0) (hl_p_layout : a_p 114 = a_y 0) (hPI : PI I_p) (hT : TI I_t) (hE : EI I_e) (hL : LI I_y) : EffI l g yX10_alike wsX10_alike 2 [.ref (a_p 0), .int la, .int lb] (wX10 g a_p I_p J_p ++ (wX7 g a_t I_t ++ (wX6 g a_e I_e ++ wX1 g a_y I_y))) (fun (u : (Nat → Nat → Int32)) => wX10 g a_p u J_p ++ (wX7 g a_t I_t ++ (wX6 g a_e I_e ++ wX1 g a_y I_y))) (fun r (u : (Nat → Nat → Int32)) => PI (u) ∧ KP I_p (u)) := by
  refine EffI.st (cc := cX10_alike) (maxL := 6) (by decide) rfl (Nat.le_of_ble_eq_true rfl) (fun p e s m args below meth c A Q ls fx hK hP hD hA hS hl hret => ?_)
  have hx := fx.1
  have hb := fx.2.1
  have hml := fx.2.2.1
  have hown := fx.2.2.2.1
  have hts := fx.2.2.2.2
  have hl : lv_has ls 6 [(0, .ref (a_p 0)), (1, .int la), (2, .int lb)] := hl
  have hP : va_P g.1 vwCl (wX10 g a_p I_p J_p ++ (wX7 g a_t I_t ++ (wX6 g a_e I_e ++ wX1 g a_y I_y))) s.heap := hP
  have hf_78 := hts _ (uT _ _ u_46)
  have hi_X10 : ∀ w ∈ wsX100, w.before args s = true := fun w h => hts w (uT _ w (u_wsX100 w h))
  have lm1 : (-1 : Int32).toInt = -1 := by decide
  have lm0 : (0 : Int32).toInt = 0 := by decide
  have lm2 : (1 : Int32).toInt = 1 := by decide
  have hp1 := hPI.1
  have hp2 := hPI.2.1
  have hru := TI.ru hT
  have hlt3 := TI.li hT
  have hlt4 := TI.pa hT
  have hE0 := hE.1
  have hE1 := hE.2
  have hpc := LI.pc hL
  have hln := LI.ln hL
  have hwd := LI.wd hL
  have lq6 : (6 : Int32).toInt = 6 := by decide
  refine lv_aload_n hx hb dX10_alike_0 rfl (lv_at hl 0 rfl) ?_
  refine lv_iload_n hx hb dX10_alike_1 rfl (lv_at hl 1 rfl) ?_
  refine PurI.cv (As := [.int la]) (kX10_isLine l g a_p I_p J_p a_y I_y la hl_p_layout hPI hL) fx (gUV (uT _) u_919 u_920 u_921 u_2 u_922) rfl hdX10_isLine ⟨Nat.le_of_ble_eq_true rfl, Nat.le_of_ble_eq_true rfl⟩ hK hP [0, 1, 13, 14, 15, 16, 17, 18, 19] rfl rfl rfl rfl rfl hl.1 (Nat.le_of_ble_eq_true rfl) dX10_alike_2 (fun r1 p_r1 => ?_)
  refine q_if_eq (tgt := 16) hx hb dX10_alike_5 (by decide) rfl (fun b_5 k_5 => ?_) (fun b_5 k_5 => ?_)
  · have q_5 := bP.f p_r1 b_5
    refine lv_aload_n hx hb dX10_alike_16 rfl (lv_at hl 0 rfl) ?_
    refine lv_bipush (v := 6) hx hb dX10_alike_17 (by decide) ?_
    refine EffI.cv (wr := (wX7 g a_t I_t ++ wX6 g a_e I_e ++ wX1 g a_y I_y)) (w' := fun u3 => wX10 g a_p u3 J_p ++ (wX7 g a_t I_t ++ (wX6 g a_e I_e ++ wX1 g a_y I_y))) (As := [.int (6 : Int32)]) (kX10_refuse l g a_p I_p J_p (6 : Int32)) fx (gUV (uT _) u_295 u_296 u_297 u_2 u_298) rfl hdX10_refuse ⟨Nat.le_of_ble_eq_true rfl, Nat.le_of_ble_eq_true rfl⟩ hK hP hD hS hA [0, 1] [2, 3, 4, 5, 6, 7, 8, 9, 10, 11, 12, 13, 14, 15, 16, 17, 18, 19] [18, 19, 0, 1, 2, 3, 4, 5, 6, 7, 8, 9, 10, 11, 12, 13, 14, 15, 16, 17] rfl rfl rfl rfl (by decide) rfl (fun _ => rfl) rfl rfl rfl rfl hl.1 (Nat.le_of_ble_eq_true rfl) dX10_alike_19 (fun r2 u3 H locs p_r2 hP hD hS => ?_)
    have hP : va_P g.1 vwCl (wX10 g a_p u3 J_p ++ (wX7 g a_t I_t ++ (wX6 g a_e I_e ++ wX1 g a_y I_y))) H := hP
    have hD : va_D A (wX10 g a_p u3 J_p ++ (wX7 g a_t I_t ++ (wX6 g a_e I_e ++ wX1 g a_y I_y))) := hD
    refine hret 22 ls r2 _ _ u3 dX10_alike_22 hS hP hD ?_
    exact ⟨(PI.st hPI p_r2.2), (KP.tr (KP.rf I_p) (KP.st p_r2.2))⟩
  · have q_5 := bP.t p_r1 b_5
    refine lv_aload_n hx hb dX10_alike_8 rfl (lv_at hl 0 rfl) ?_
    refine lv_iload_n hx hb dX10_alike_9 rfl (lv_at hl 2 rfl) ?_
    refine PurI.cv (As := [.int lb]) (kX10_isLine l g a_p I_p J_p a_y I_y lb hl_p_layout hPI hL) fx (gUV (uT _) u_919 u_920 u_921 u_2 u_922) rfl hdX10_isLine ⟨Nat.le_of_ble_eq_true rfl, Nat.le_of_ble_eq_true rfl⟩ hK hP [0, 1, 13, 14, 15, 16, 17, 18, 19] rfl rfl rfl rfl rfl hl.1 (Nat.le_of_ble_eq_true rfl) dX10_alike_10 (fun r4 p_r4 => ?_)
    refine q_if_ne (tgt := 23) hx hb dX10_alike_13 (by decide) rfl (fun b_13 k_13 => ?_) (fun b_13 k_13 => ?_)
    · have q_13 := bP.t p_r4 b_13
      refine lv_aload_n hx hb dX10_alike_23 rfl (lv_at hl 0 rfl) ?_
      refine va_get (D := g.1) (ci := 10) (v := .ref (a_y 0)) (C := RX10) (T := TX10) (N := 20) hx hb hi_X10 (fun _ h => h) hown hK.1 hP 0 rfl rfl 14 (by decide) hf_78 (fun _ h9 => h9) (congrArg (fun z => some (Value.ref z)) hl_p_layout) dX10_alike_24 ?_
      refine lv_iload_n hx hb dX10_alike_27 rfl (lv_at hl 1 rfl) ?_
      refine PurI.cv (As := [.int la]) (kX1_lengthOf l g a_y I_y la hL (by omega)) fx (gUV (uT _) u_923 u_924 u_925 u_45 u_926) rfl hdX1_lengthOf ⟨Nat.le_of_ble_eq_true rfl, Nat.le_of_ble_eq_true rfl⟩ hK hP [13, 14, 15, 16, 17, 18, 19] rfl rfl rfl rfl rfl hl.1 (Nat.le_of_ble_eq_true rfl) dX10_alike_28 (fun r5 p_r5 => ?_)
      refine lv_aload_n hx hb dX10_alike_31 rfl (lv_at hl 0 rfl) ?_
      refine va_get (D := g.1) (ci := 10) (v := .ref (a_y 0)) (C := RX10) (T := TX10) (N := 20) hx hb hi_X10 (fun _ h => h) hown hK.1 hP 0 rfl rfl 14 (by decide) hf_78 (fun _ h9 => h9) (congrArg (fun z => some (Value.ref z)) hl_p_layout) dX10_alike_32 ?_
      refine lv_iload_n hx hb dX10_alike_35 rfl (lv_at hl 2 rfl) ?_
      refine PurI.cv (As := [.int lb]) (kX1_lengthOf l g a_y I_y lb hL (by omega)) fx (gUV (uT _) u_923 u_924 u_925 u_45 u_926) rfl hdX1_lengthOf ⟨Nat.le_of_ble_eq_true rfl, Nat.le_of_ble_eq_true rfl⟩ hK hP [13, 14, 15, 16, 17, 18, 19] rfl rfl rfl rfl rfl hl.1 (Nat.le_of_ble_eq_true rfl) dX10_alike_36 (fun r6 p_r6 => ?_)
      refine va_mmin hx hb (hml.trans hl.1.symm) hown (hts _ (uT _ _ u_1139)) (hts _ (uT _ _ u_523)) (hts _ (uT _ _ u_524)) (hts _ (uT _ _ u_525)) (Nat.le_of_ble_eq_true rfl) (Nat.le_of_ble_eq_true rfl) (Nat.zero_le _) (Nat.zero_le _) dX10_alike_39 ?_
      refine q_nm (fun x7 e_x7 => ?_)
      have t_x7 := t_min e_x7 rfl rfl
      refine lv_istore_n (lv' := [(3, .int x7), (0, .ref (a_p 0)), (1, .int la), (2, .int lb)]) hx hb dX10_alike_42 rfl hl (by decide) rfl (fun ls hl => ?_)
      refine lv_iconst (v := 0) hx hb dX10_alike_43 (by decide) ?_
      refine lv_istore (lv' := [(4, .int (0 : Int32)), (3, .int x7), (0, .ref (a_p 0)), (1, .int la), (2, .int lb)]) hx hb dX10_alike_44 hl (by decide) rfl (fun ls hl => ?_)
      refine lv_iconst (v := 0) hx hb dX10_alike_46 (by decide) ?_
      refine lv_istore (lv' := [(5, .int (0 : Int32)), (4, .int (0 : Int32)), (3, .int x7), (0, .ref (a_p 0)), (1, .int la), (2, .int lb)]) hx hb dX10_alike_47 hl (by decide) rfl (fun ls hl => ?_)
      have L49 : ∀ (nn : Nat) (v4_49 : Int32) (v5_49 : Int32), (hv_49 : 0 ≤ v5_49.toInt ∧ v5_49.toInt ≤ 1300) → ((1301 - v5_49.toInt) < (nn : Int)) → ∀ (H : Heap) (locs : List Loc), va_P g.1 vwCl (wX10 g a_p I_p J_p ++ (wX7 g a_t I_t ++ (wX6 g a_e I_e ++ wX1 g a_y I_y))) H → va_D A (wX10 g a_p I_p J_p ++ (wX7 g a_t I_t ++ (wX6 g a_e I_e ++ wX1 g a_y I_y))) → va_S A s.heap H locs → ∀ ls : Array Slot, lv_has ls 6 [(5, .int v5_49), (4, .int v4_49), (3, .int x7), (0, .ref (a_p 0)), (1, .int la), (2, .int lb)] → W p l e (rm 2) s m args below meth c H locs 0 0 Q (F0 m 49 ls []) := by
        intro n_49
        induction n_49 with
        | zero =>
          intro v4_49 v5_49 hv_49 hms_49 H locs hP hD hS ls hl
          exfalso; omega
        | succ n_49 ih_49 =>
          intro v4_49 v5_49 hv_49 hms_49 H locs hP hD hS ls hl
          refine lv_iload hx hb dX10_alike_49 (lv_at hl 0 rfl) ?_
          refine lv_iload_n hx hb dX10_alike_51 rfl (lv_at hl 2 rfl) ?_
          refine q_icmp_ge (tgt := 81) hx hb dX10_alike_52 (by decide) rfl rfl (fun k_52 => ?_) (fun k_52 => ?_)
          · refine lv_aload_n hx hb dX10_alike_81 rfl (lv_at hl 3 rfl) ?_
            refine lv_iload hx hb dX10_alike_82 (lv_at hl 1 rfl) ?_
            refine EffI.cv (wr := (wX7 g a_t I_t ++ wX6 g a_e I_e ++ wX1 g a_y I_y)) (w' := fun u9 => wX10 g a_p u9 J_p ++ (wX7 g a_t I_t ++ (wX6 g a_e I_e ++ wX1 g a_y I_y))) (As := [.int v4_49]) (kX10_answer l g a_p I_p J_p v4_49) fx (gUV (uT _) u_497 u_498 u_499 u_2 u_500) rfl hdX10_answer ⟨Nat.le_of_ble_eq_true rfl, Nat.le_of_ble_eq_true rfl⟩ hK hP hD hS hA [0, 1] [2, 3, 4, 5, 6, 7, 8, 9, 10, 11, 12, 13, 14, 15, 16, 17, 18, 19] [18, 19, 0, 1, 2, 3, 4, 5, 6, 7, 8, 9, 10, 11, 12, 13, 14, 15, 16, 17] rfl rfl rfl rfl (by decide) rfl (fun _ => rfl) rfl rfl rfl rfl hl.1 (Nat.le_of_ble_eq_true rfl) dX10_alike_84 (fun r8 u9 H locs p_r8 hP hD hS => ?_)
            have hP : va_P g.1 vwCl (wX10 g a_p u9 J_p ++ (wX7 g a_t I_t ++ (wX6 g a_e I_e ++ wX1 g a_y I_y))) H := hP
            have hD : va_D A (wX10 g a_p u9 J_p ++ (wX7 g a_t I_t ++ (wX6 g a_e I_e ++ wX1 g a_y I_y))) := hD
            refine hret 87 ls r8 _ _ u9 dX10_alike_87 hS hP hD ?_
            exact ⟨(PI.st hPI p_r8.2), (KP.tr (KP.rf I_p) (KP.st p_r8.2))⟩
          · refine lv_aload_n hx hb dX10_alike_55 rfl (lv_at hl 3 rfl) ?_
            refine lv_iload_n hx hb dX10_alike_56 rfl (lv_at hl 4 rfl) ?_
            refine lv_iload hx hb dX10_alike_57 (lv_at hl 0 rfl) ?_
            refine PurI.cv (As := [.int la, .int v5_49]) (kX10_cellInLine l g a_p I_p J_p a_t I_t a_e I_e a_y I_y la v5_49 hl_p_table hl_p_shown hl_p_layout hPI hT hE hL (by omega) (by omega)) fx (gUV (uT _) u_939 u_940 u_941 u_2 u_942) rfl hdX10_cellInLine ⟨Nat.le_of_ble_eq_true rfl, Nat.le_of_ble_eq_true rfl⟩ hK hP [0, 1, 2, 3, 4, 5, 6, 7, 8, 9, 10, 11, 12, 13, 14, 15, 16, 17, 18, 19] rfl rfl rfl rfl rfl hl.1 (Nat.le_of_ble_eq_true rfl) dX10_alike_59 (fun r10 p_r10 => ?_)
            refine lv_aload_n hx hb dX10_alike_62 rfl (lv_at hl 3 rfl) ?_
            refine lv_iload_n hx hb dX10_alike_63 rfl (lv_at hl 5 rfl) ?_
            refine lv_iload hx hb dX10_alike_64 (lv_at hl 0 rfl) ?_
            refine PurI.cv (As := [.int lb, .int v5_49]) (kX10_cellInLine l g a_p I_p J_p a_t I_t a_e I_e a_y I_y lb v5_49 hl_p_table hl_p_shown hl_p_layout hPI hT hE hL (by omega) (by omega)) fx (gUV (uT _) u_939 u_940 u_941 u_2 u_942) rfl hdX10_cellInLine ⟨Nat.le_of_ble_eq_true rfl, Nat.le_of_ble_eq_true rfl⟩ hK hP [0, 1, 2, 3, 4, 5, 6, 7, 8, 9, 10, 11, 12, 13, 14, 15, 16, 17, 18, 19] rfl rfl rfl rfl rfl hl.1 (Nat.le_of_ble_eq_true rfl) dX10_alike_66 (fun r11 p_r11 => ?_)
            refine q_icmp_ne (tgt := 75) hx hb dX10_alike_69 (by decide) rfl rfl (fun k_69 => ?_) (fun k_69 => ?_)
            · refine r_iinc (lv' := fun i12 => [(5, .int i12), (4, .int v4_49), (3, .int x7), (0, .ref (a_p 0)), (1, .int la), (2, .int lb)]) hx hb dX10_alike_75 hl (k := 0) rfl (by decide) rfl (by decide) (fun _ => rfl) (fun i12 e_i12 t_i12 ls hl => ?_)
              try have t_i12 := t_i12 (by omega)
              refine lv_goto (tgt := 49) hx hb dX10_alike_78 (by decide) ?_
              exact ih_49 v4_49 i12 (by omega) (by omega) _ _ hP hD hS ls hl
            · refine r_iinc (lv' := fun i13 => [(4, .int i13), (5, .int v5_49), (3, .int x7), (0, .ref (a_p 0)), (1, .int la), (2, .int lb)]) hx hb dX10_alike_72 hl (k := 1) rfl (by decide) rfl (by decide) (fun _ => rfl) (fun i13 e_i13 t_i13 ls hl => ?_)
              try have t_i13 := t_i13 (by omega)
              refine r_iinc (lv' := fun i14 => [(5, .int i14), (4, .int i13), (3, .int x7), (0, .ref (a_p 0)), (1, .int la), (2, .int lb)]) hx hb dX10_alike_75 hl (k := 1) rfl (by decide) rfl (by decide) (fun _ => rfl) (fun i14 e_i14 t_i14 ls hl => ?_)
              try have t_i14 := t_i14 (by omega)
              refine lv_goto (tgt := 49) hx hb dX10_alike_78 (by decide) ?_
              exact ih_49 i13 i14 (by omega) (by omega) _ _ hP hD hS ls hl
      exact L49 ((1301 - (0 : Int32).toInt) + 1).toNat (0 : Int32) (0 : Int32) (by omega) (by omega) _ _ hP hD hS ls hl
    · have q_13 := bP.f p_r4 b_13
      refine lv_aload_n hx hb dX10_alike_16 rfl (lv_at hl 0 rfl) ?_
      refine lv_bipush (v := 6) hx hb dX10_alike_17 (by decide) ?_
      refine EffI.cv (wr := (wX7 g a_t I_t ++ wX6 g a_e I_e ++ wX1 g a_y I_y)) (w' := fun u16 => wX10 g a_p u16 J_p ++ (wX7 g a_t I_t ++ (wX6 g a_e I_e ++ wX1 g a_y I_y))) (As := [.int (6 : Int32)]) (kX10_refuse l g a_p I_p J_p (6 : Int32)) fx (gUV (uT _) u_295 u_296 u_297 u_2 u_298) rfl hdX10_refuse ⟨Nat.le_of_ble_eq_true rfl, Nat.le_of_ble_eq_true rfl⟩ hK hP hD hS hA [0, 1] [2, 3, 4, 5, 6, 7, 8, 9, 10, 11, 12, 13, 14, 15, 16, 17, 18, 19] [18, 19, 0, 1, 2, 3, 4, 5, 6, 7, 8, 9, 10, 11, 12, 13, 14, 15, 16, 17] rfl rfl rfl rfl (by decide) rfl (fun _ => rfl) rfl rfl rfl rfl hl.1 (Nat.le_of_ble_eq_true rfl) dX10_alike_19 (fun r15 u16 H locs p_r15 hP hD hS => ?_)
      have hP : va_P g.1 vwCl (wX10 g a_p u16 J_p ++ (wX7 g a_t I_t ++ (wX6 g a_e I_e ++ wX1 g a_y I_y))) H := hP
      have hD : va_D A (wX10 g a_p u16 J_p ++ (wX7 g a_t I_t ++ (wX6 g a_e I_e ++ wX1 g a_y I_y))) := hD
      refine hret 22 ls r15 _ _ u16 dX10_alike_22 hS hP hD ?_
      exact ⟨(PI.st hPI p_r15.2), (KP.tr (KP.rf I_p) (KP.st p_r15.2))⟩

set_option maxHeartbeats 4000000 in
set_option maxRecDepth 100000 in
theorem kX10_longest (l : Launch) (g : gG) (a_p : Nat → Nat) (I_p : Nat → Nat → Int32) (J_p : Nat → Nat → Int64) (a_y : Nat → Nat) (I_y : Nat → Nat → Int32) (hl_p_layout : a_p 114 = a_y 0) (hPI : PI I_p) (hL : LI I_y) : EffI l g yX10_longest wsX10_longest 1 [.ref (a_p 0)] (wX10 g a_p I_p J_p ++ wX1 g a_y I_y) (fun (u : (Nat → Nat → Int32)) => wX10 g a_p u J_p ++ wX1 g a_y I_y) (fun r (u : (Nat → Nat → Int32)) => PI (u) ∧ KP I_p (u)) := by
  refine EffI.st (cc := cX10_longest) (maxL := 1) (by decide) rfl (Nat.le_of_ble_eq_true rfl) (fun p e s m args below meth c A Q ls fx hK hP hD hA hS hl hret => ?_)
  have hx := fx.1
  have hb := fx.2.1
  have hml := fx.2.2.1
  have hown := fx.2.2.2.1
  have hts := fx.2.2.2.2
  have hl : lv_has ls 1 [(0, .ref (a_p 0))] := hl
  have hP : va_P g.1 vwCl (wX10 g a_p I_p J_p ++ wX1 g a_y I_y) s.heap := hP
  have hf_61 := hts _ (uT _ _ u_37)
  have hf_78 := hts _ (uT _ _ u_46)
  have hf_245 := hts _ (uT _ _ u_869)
  have hi_X1 : ∀ w ∈ wsX10, w.before args s = true := fun w h => hts w (uT _ w (u_wsX10 w h))
  have hi_X10 : ∀ w ∈ wsX100, w.before args s = true := fun w h => hts w (uT _ w (u_wsX100 w h))
  have lm1 : (-1 : Int32).toInt = -1 := by decide
  have lm0 : (0 : Int32).toInt = 0 := by decide
  have lm2 : (1 : Int32).toInt = 1 := by decide
  have hp1 := hPI.1
  have hp2 := hPI.2.1
  have hpc := LI.pc hL
  have hln := LI.ln hL
  have hwd := LI.wd hL
  have lq6 : (6 : Int32).toInt = 6 := by decide
  refine lv_aload_n hx hb dX10_longest_0 rfl (lv_at hl 0 rfl) ?_
  refine va_get (D := g.1) (ci := 10) (v := .int (I_p 0 11)) (C := RX10) (T := TX10) (N := 20) hx hb hi_X10 (fun _ h => h) hown hK.1 hP 0 rfl rfl 11 (by decide) hf_61 (fun _ h9 => h9) rfl dX10_longest_1 ?_
  refine q_if_eq (tgt := 17) hx hb dX10_longest_4 (by decide) rfl (fun b_4 k_4 => ?_) (fun b_4 k_4 => ?_)
  · refine lv_aload_n hx hb dX10_longest_17 rfl (lv_at hl 0 rfl) ?_
    refine lv_bipush (v := 6) hx hb dX10_longest_18 (by decide) ?_
    refine EffI.cv (wr := (wX1 g a_y I_y)) (w' := fun u2 => wX10 g a_p u2 J_p ++ wX1 g a_y I_y) (As := [.int (6 : Int32)]) (kX10_refuse l g a_p I_p J_p (6 : Int32)) fx (gUV (uT _) u_295 u_296 u_297 u_2 u_298) rfl hdX10_refuse ⟨Nat.le_of_ble_eq_true rfl, Nat.le_of_ble_eq_true rfl⟩ hK hP hD hS hA [0, 1] [2, 3, 4, 5, 6, 7, 8] [7, 8, 0, 1, 2, 3, 4, 5, 6] rfl rfl rfl rfl (by decide) rfl (fun _ => rfl) rfl rfl rfl rfl hl.1 (Nat.le_of_ble_eq_true rfl) dX10_longest_20 (fun r1 u2 H locs p_r1 hP hD hS => ?_)
    have hP : va_P g.1 vwCl (wX10 g a_p u2 J_p ++ wX1 g a_y I_y) H := hP
    have hD : va_D A (wX10 g a_p u2 J_p ++ wX1 g a_y I_y) := hD
    refine hret 23 ls r1 _ _ u2 dX10_longest_23 hS hP hD ?_
    exact ⟨(PI.st hPI p_r1.2), (KP.tr (KP.rf I_p) (KP.st p_r1.2))⟩
  · refine lv_aload_n hx hb dX10_longest_7 rfl (lv_at hl 0 rfl) ?_
    refine va_get (D := g.1) (ci := 10) (v := .ref (a_y 0)) (C := RX10) (T := TX10) (N := 20) hx hb hi_X10 (fun _ h => h) hown hK.1 hP 0 rfl rfl 14 (by decide) hf_78 (fun _ h9 => h9) (congrArg (fun z => some (Value.ref z)) hl_p_layout) dX10_longest_8 ?_
    refine va_get (D := g.1) (ci := 1) (v := .int (I_y 0 2)) (C := RX1) (T := TX1) (N := 9) hx hb hi_X1 (fun _ h => h) hown hK.1 hP 2 rfl rfl 2 (by decide) hf_245 (fun _ h9 => h9) rfl dX10_longest_11 ?_
    refine q_if_ne (tgt := 24) hx hb dX10_longest_14 (by decide) rfl (fun b_14 k_14 => ?_) (fun b_14 k_14 => ?_)
    · refine lv_aload_n hx hb dX10_longest_24 rfl (lv_at hl 0 rfl) ?_
      refine lv_aload_n hx hb dX10_longest_25 rfl (lv_at hl 0 rfl) ?_
      refine va_get (D := g.1) (ci := 10) (v := .ref (a_y 0)) (C := RX10) (T := TX10) (N := 20) hx hb hi_X10 (fun _ h => h) hown hK.1 hP 0 rfl rfl 14 (by decide) hf_78 (fun _ h9 => h9) (congrArg (fun z => some (Value.ref z)) hl_p_layout) dX10_longest_26 ?_
      refine PurI.cv (As := []) (kX1_longestPiece l g a_y I_y hL) fx (gUV (uT _) u_1148 u_1149 u_1150 u_45 u_1151) rfl hdX1_longestPiece ⟨Nat.le_of_ble_eq_true rfl, Nat.le_of_ble_eq_true rfl⟩ hK hP [2, 3, 4, 5, 6, 7, 8] rfl rfl rfl rfl rfl hl.1 (Nat.le_of_ble_eq_true rfl) dX10_longest_29 (fun r3 p_r3 => ?_)
      refine EffI.cv (wr := (wX1 g a_y I_y)) (w' := fun u5 => wX10 g a_p u5 J_p ++ wX1 g a_y I_y) (As := [.int r3]) (kX10_answer l g a_p I_p J_p r3) fx (gUV (uT _) u_497 u_498 u_499 u_2 u_500) rfl hdX10_answer ⟨Nat.le_of_ble_eq_true rfl, Nat.le_of_ble_eq_true rfl⟩ hK hP hD hS hA [0, 1] [2, 3, 4, 5, 6, 7, 8] [7, 8, 0, 1, 2, 3, 4, 5, 6] rfl rfl rfl rfl (by decide) rfl (fun _ => rfl) rfl rfl rfl rfl hl.1 (Nat.le_of_ble_eq_true rfl) dX10_longest_32 (fun r4 u5 H locs p_r4 hP hD hS => ?_)
      have hP : va_P g.1 vwCl (wX10 g a_p u5 J_p ++ wX1 g a_y I_y) H := hP
      have hD : va_D A (wX10 g a_p u5 J_p ++ wX1 g a_y I_y) := hD
      refine hret 35 ls r4 _ _ u5 dX10_longest_35 hS hP hD ?_
      exact ⟨(PI.st hPI p_r4.2), (KP.tr (KP.rf I_p) (KP.st p_r4.2))⟩
    · refine lv_aload_n hx hb dX10_longest_17 rfl (lv_at hl 0 rfl) ?_
      refine lv_bipush (v := 6) hx hb dX10_longest_18 (by decide) ?_
      refine EffI.cv (wr := (wX1 g a_y I_y)) (w' := fun u7 => wX10 g a_p u7 J_p ++ wX1 g a_y I_y) (As := [.int (6 : Int32)]) (kX10_refuse l g a_p I_p J_p (6 : Int32)) fx (gUV (uT _) u_295 u_296 u_297 u_2 u_298) rfl hdX10_refuse ⟨Nat.le_of_ble_eq_true rfl, Nat.le_of_ble_eq_true rfl⟩ hK hP hD hS hA [0, 1] [2, 3, 4, 5, 6, 7, 8] [7, 8, 0, 1, 2, 3, 4, 5, 6] rfl rfl rfl rfl (by decide) rfl (fun _ => rfl) rfl rfl rfl rfl hl.1 (Nat.le_of_ble_eq_true rfl) dX10_longest_20 (fun r6 u7 H locs p_r6 hP hD hS => ?_)
      have hP : va_P g.1 vwCl (wX10 g a_p u7 J_p ++ wX1 g a_y I_y) H := hP
      have hD : va_D A (wX10 g a_p u7 J_p ++ wX1 g a_y I_y) := hD
      refine hret 23 ls r6 _ _ u7 dX10_longest_23 hS hP hD ?_
      exact ⟨(PI.st hPI p_r6.2), (KP.tr (KP.rf I_p) (KP.st p_r6.2))⟩

set_option maxHeartbeats 4000000 in
set_option maxRecDepth 100000 in
theorem kX10_inLine (l : Launch) (g : gG) (a_p : Nat → Nat) (I_p : Nat → Nat → Int32) (J_p : Nat → Nat → Int64) (a_t : Nat → Nat) (I_t : Nat → Nat → Int32) (a_e : Nat → Nat) (I_e : Nat → Nat → Int32) (a_y : Nat → Nat) (I_y : Nat → Nat → Int32) (line : Int32) (hl_p_table : a_p 109 = a_t 0) (hl_p_shown : a_p 112 = a_e 0) (hl_p_layout : a_p 114 = a_y 0) (hPI : PI I_p) (hT : TI I_t) (hE : EI I_e) (hL : LI I_y) : EffI l g yX10_inLine wsX10_inLine 2 [.ref (a_p 0), .int line] (wX10 g a_p I_p J_p ++ (wX7 g a_t I_t ++ (wX6 g a_e I_e ++ wX1 g a_y I_y))) (fun (u : (Nat → Nat → Int32)) => wX10 g a_p u J_p ++ (wX7 g a_t I_t ++ (wX6 g a_e I_e ++ wX1 g a_y I_y))) (fun r (u : (Nat → Nat → Int32)) => PI (u) ∧ KP I_p (u)) := by
  refine EffI.st (cc := cX10_inLine) (maxL := 4) (by decide) rfl (Nat.le_of_ble_eq_true rfl) (fun p e s m args below meth c A Q ls fx hK hP hD hA hS hl hret => ?_)
  have hx := fx.1
  have hb := fx.2.1
  have hml := fx.2.2.1
  have hown := fx.2.2.2.1
  have hts := fx.2.2.2.2
  have hl : lv_has ls 4 [(0, .ref (a_p 0)), (1, .int line)] := hl
  have hP : va_P g.1 vwCl (wX10 g a_p I_p J_p ++ (wX7 g a_t I_t ++ (wX6 g a_e I_e ++ wX1 g a_y I_y))) s.heap := hP
  have hf_78 := hts _ (uT _ _ u_46)
  have hf_271 := hts _ (uT _ _ u_943)
  have hi_X1 : ∀ w ∈ wsX10, w.before args s = true := fun w h => hts w (uT _ w (u_wsX10 w h))
  have hi_X10 : ∀ w ∈ wsX100, w.before args s = true := fun w h => hts w (uT _ w (u_wsX100 w h))
  have lm1 : (-1 : Int32).toInt = -1 := by decide
  have lm0 : (0 : Int32).toInt = 0 := by decide
  have lm2 : (1 : Int32).toInt = 1 := by decide
  have hp1 := hPI.1
  have hp2 := hPI.2.1
  have hru := TI.ru hT
  have hlt3 := TI.li hT
  have hlt4 := TI.pa hT
  have hE0 := hE.1
  have hE1 := hE.2
  have hpc := LI.pc hL
  have hln := LI.ln hL
  have hwd := LI.wd hL
  have lq6 : (6 : Int32).toInt = 6 := by decide
  refine lv_aload_n hx hb dX10_inLine_0 rfl (lv_at hl 0 rfl) ?_
  refine lv_iload_n hx hb dX10_inLine_1 rfl (lv_at hl 1 rfl) ?_
  refine PurI.cv (As := [.int line]) (kX10_isLine l g a_p I_p J_p a_y I_y line hl_p_layout hPI hL) fx (gUV (uT _) u_919 u_920 u_921 u_2 u_922) rfl hdX10_isLine ⟨Nat.le_of_ble_eq_true rfl, Nat.le_of_ble_eq_true rfl⟩ hK hP [0, 1, 13, 14, 15, 16, 17, 18, 19] rfl rfl rfl rfl rfl hl.1 (Nat.le_of_ble_eq_true rfl) dX10_inLine_2 (fun r1 p_r1 => ?_)
  refine q_if_ne (tgt := 15) hx hb dX10_inLine_5 (by decide) rfl (fun b_5 k_5 => ?_) (fun b_5 k_5 => ?_)
  · have q_5 := bP.t p_r1 b_5
    refine lv_iconst (v := 1) hx hb dX10_inLine_15 (by decide) ?_
    refine lv_istore_n (lv' := [(2, .int (1 : Int32)), (0, .ref (a_p 0)), (1, .int line)]) hx hb dX10_inLine_16 rfl hl (by decide) rfl (fun ls hl => ?_)
    refine lv_iconst (v := 0) hx hb dX10_inLine_17 (by decide) ?_
    refine lv_istore_n (lv' := [(3, .int (0 : Int32)), (2, .int (1 : Int32)), (0, .ref (a_p 0)), (1, .int line)]) hx hb dX10_inLine_18 rfl hl (by decide) rfl (fun ls hl => ?_)
    have L19 : ∀ (nn : Nat) (v2_19 : Int32) (v3_19 : Int32), (hv_19 : 0 ≤ v3_19.toInt ∧ v3_19.toInt ≤ 1300) → ((1301 - v3_19.toInt) < (nn : Int)) → ∀ (H : Heap) (locs : List Loc), va_P g.1 vwCl (wX10 g a_p I_p J_p ++ (wX7 g a_t I_t ++ (wX6 g a_e I_e ++ wX1 g a_y I_y))) H → va_D A (wX10 g a_p I_p J_p ++ (wX7 g a_t I_t ++ (wX6 g a_e I_e ++ wX1 g a_y I_y))) → va_S A s.heap H locs → ∀ ls : Array Slot, lv_has ls 4 [(3, .int v3_19), (2, .int v2_19), (0, .ref (a_p 0)), (1, .int line)] → W p l e (rm 2) s m args below meth c H locs 0 0 Q (F0 m 19 ls []) := by
      intro n_19
      induction n_19 with
      | zero =>
        intro v2_19 v3_19 hv_19 hms_19 H locs hP hD hS ls hl
        exfalso; omega
      | succ n_19 ih_19 =>
        intro v2_19 v3_19 hv_19 hms_19 H locs hP hD hS ls hl
        refine lv_iload_n hx hb dX10_inLine_19 rfl (lv_at hl 0 rfl) ?_
        refine lv_aload_n hx hb dX10_inLine_20 rfl (lv_at hl 2 rfl) ?_
        refine va_get (D := g.1) (ci := 10) (v := .ref (a_y 0)) (C := RX10) (T := TX10) (N := 20) hx hb hi_X10 (fun _ h => h) hown hK.1 hP 0 rfl rfl 14 (by decide) hf_78 (fun _ h9 => h9) (congrArg (fun z => some (Value.ref z)) hl_p_layout) dX10_inLine_21 ?_
        refine va_get (D := g.1) (ci := 1) (v := .ref (a_y 4)) (C := RX1) (T := TX1) (N := 9) hx hb hi_X1 (fun _ h => h) hown hK.1 hP 13 rfl rfl 4 (by decide) hf_271 (fun _ h9 => h9) rfl dX10_inLine_24 ?_
        refine lv_iload_n hx hb dX10_inLine_27 rfl (lv_at hl 3 rfl) ?_
        have n_28 : vp_in line 550 := (t_in (by omega))
        refine va_iald hx hb hK.1 hP 17 0 rfl rfl n_28 dX10_inLine_28 ?_
        refine q_nm (fun x2 e_x2 => ?_)
        have e_x2 : x2 = (I_y 4) line.toNatClampNeg := e_x2
        have g_x2 : x2.toInt = ((I_y 4) line.toNatClampNeg).toInt := congrArg _ e_x2
        have f_x2 := LI.li hL line.toNatClampNeg
        rw [← e_x2] at f_x2
        refine q_icmp_ge (tgt := 50) hx hb dX10_inLine_29 (by decide) rfl rfl (fun k_29 => ?_) (fun k_29 => ?_)
        · refine lv_aload_n hx hb dX10_inLine_50 rfl (lv_at hl 2 rfl) ?_
          refine lv_iload_n hx hb dX10_inLine_51 rfl (lv_at hl 1 rfl) ?_
          refine EffI.cv (wr := (wX7 g a_t I_t ++ wX6 g a_e I_e ++ wX1 g a_y I_y)) (w' := fun u4 => wX10 g a_p u4 J_p ++ (wX7 g a_t I_t ++ (wX6 g a_e I_e ++ wX1 g a_y I_y))) (As := [.int v2_19]) (kX10_answer l g a_p I_p J_p v2_19) fx (gUV (uT _) u_497 u_498 u_499 u_2 u_500) rfl hdX10_answer ⟨Nat.le_of_ble_eq_true rfl, Nat.le_of_ble_eq_true rfl⟩ hK hP hD hS hA [0, 1] [2, 3, 4, 5, 6, 7, 8, 9, 10, 11, 12, 13, 14, 15, 16, 17, 18, 19] [18, 19, 0, 1, 2, 3, 4, 5, 6, 7, 8, 9, 10, 11, 12, 13, 14, 15, 16, 17] rfl rfl rfl rfl (by decide) rfl (fun _ => rfl) rfl rfl rfl rfl hl.1 (Nat.le_of_ble_eq_true rfl) dX10_inLine_52 (fun r3 u4 H locs p_r3 hP hD hS => ?_)
          have hP : va_P g.1 vwCl (wX10 g a_p u4 J_p ++ (wX7 g a_t I_t ++ (wX6 g a_e I_e ++ wX1 g a_y I_y))) H := hP
          have hD : va_D A (wX10 g a_p u4 J_p ++ (wX7 g a_t I_t ++ (wX6 g a_e I_e ++ wX1 g a_y I_y))) := hD
          refine hret 55 ls r3 _ _ u4 dX10_inLine_55 hS hP hD ?_
          exact ⟨(PI.st hPI p_r3.2), (KP.tr (KP.rf I_p) (KP.st p_r3.2))⟩
        · refine lv_aload_n hx hb dX10_inLine_32 rfl (lv_at hl 2 rfl) ?_
          refine lv_iload_n hx hb dX10_inLine_33 rfl (lv_at hl 3 rfl) ?_
          refine lv_iload_n hx hb dX10_inLine_34 rfl (lv_at hl 0 rfl) ?_
          refine PurI.cv (As := [.int line, .int v3_19]) (kX10_cellInLine l g a_p I_p J_p a_t I_t a_e I_e a_y I_y line v3_19 hl_p_table hl_p_shown hl_p_layout hPI hT hE hL (by omega) (by omega)) fx (gUV (uT _) u_939 u_940 u_941 u_2 u_942) rfl hdX10_cellInLine ⟨Nat.le_of_ble_eq_true rfl, Nat.le_of_ble_eq_true rfl⟩ hK hP [0, 1, 2, 3, 4, 5, 6, 7, 8, 9, 10, 11, 12, 13, 14, 15, 16, 17, 18, 19] rfl rfl rfl rfl rfl hl.1 (Nat.le_of_ble_eq_true rfl) dX10_inLine_35 (fun r5 p_r5 => ?_)
          refine q_if_ne (tgt := 44) hx hb dX10_inLine_38 (by decide) rfl (fun b_38 k_38 => ?_) (fun b_38 k_38 => ?_)
          · refine r_iinc (lv' := fun i6 => [(3, .int i6), (2, .int v2_19), (0, .ref (a_p 0)), (1, .int line)]) hx hb dX10_inLine_44 hl (k := 0) rfl (by decide) rfl (by decide) (fun _ => rfl) (fun i6 e_i6 t_i6 ls hl => ?_)
            try have t_i6 := t_i6 (by omega)
            refine lv_goto (tgt := 19) hx hb dX10_inLine_47 (by decide) ?_
            exact ih_19 v2_19 i6 (by omega) (by omega) _ _ hP hD hS ls hl
          · refine r_iinc (lv' := fun i7 => [(2, .int i7), (3, .int v3_19), (0, .ref (a_p 0)), (1, .int line)]) hx hb dX10_inLine_41 hl (k := 1) rfl (by decide) rfl (by decide) (fun _ => rfl) (fun i7 e_i7 t_i7 ls hl => ?_)
            try have t_i7 := t_i7 (by omega)
            refine r_iinc (lv' := fun i8 => [(3, .int i8), (2, .int i7), (0, .ref (a_p 0)), (1, .int line)]) hx hb dX10_inLine_44 hl (k := 1) rfl (by decide) rfl (by decide) (fun _ => rfl) (fun i8 e_i8 t_i8 ls hl => ?_)
            try have t_i8 := t_i8 (by omega)
            refine lv_goto (tgt := 19) hx hb dX10_inLine_47 (by decide) ?_
            exact ih_19 i7 i8 (by omega) (by omega) _ _ hP hD hS ls hl
    exact L19 ((1301 - (0 : Int32).toInt) + 1).toNat (1 : Int32) (0 : Int32) (by omega) (by omega) _ _ hP hD hS ls hl
  · have q_5 := bP.f p_r1 b_5
    refine lv_aload_n hx hb dX10_inLine_8 rfl (lv_at hl 0 rfl) ?_
    refine lv_bipush (v := 6) hx hb dX10_inLine_9 (by decide) ?_
    refine EffI.cv (wr := (wX7 g a_t I_t ++ wX6 g a_e I_e ++ wX1 g a_y I_y)) (w' := fun u10 => wX10 g a_p u10 J_p ++ (wX7 g a_t I_t ++ (wX6 g a_e I_e ++ wX1 g a_y I_y))) (As := [.int (6 : Int32)]) (kX10_refuse l g a_p I_p J_p (6 : Int32)) fx (gUV (uT _) u_295 u_296 u_297 u_2 u_298) rfl hdX10_refuse ⟨Nat.le_of_ble_eq_true rfl, Nat.le_of_ble_eq_true rfl⟩ hK hP hD hS hA [0, 1] [2, 3, 4, 5, 6, 7, 8, 9, 10, 11, 12, 13, 14, 15, 16, 17, 18, 19] [18, 19, 0, 1, 2, 3, 4, 5, 6, 7, 8, 9, 10, 11, 12, 13, 14, 15, 16, 17] rfl rfl rfl rfl (by decide) rfl (fun _ => rfl) rfl rfl rfl rfl hl.1 (Nat.le_of_ble_eq_true rfl) dX10_inLine_11 (fun r9 u10 H locs p_r9 hP hD hS => ?_)
    have hP : va_P g.1 vwCl (wX10 g a_p u10 J_p ++ (wX7 g a_t I_t ++ (wX6 g a_e I_e ++ wX1 g a_y I_y))) H := hP
    have hD : va_D A (wX10 g a_p u10 J_p ++ (wX7 g a_t I_t ++ (wX6 g a_e I_e ++ wX1 g a_y I_y))) := hD
    refine hret 14 ls r9 _ _ u10 dX10_inLine_14 hS hP hD ?_
    exact ⟨(PI.st hPI p_r9.2), (KP.tr (KP.rf I_p) (KP.st p_r9.2))⟩

set_option maxHeartbeats 4000000 in
set_option maxRecDepth 100000 in
theorem kX10_wasted (l : Launch) (g : gG) (a_p : Nat → Nat) (I_p : Nat → Nat → Int32) (J_p : Nat → Nat → Int64) (a_y : Nat → Nat) (I_y : Nat → Nat → Int32) (line : Int32) (hl_p_layout : a_p 114 = a_y 0) (hPI : PI I_p) (hL : LI I_y) : EffI l g yX10_wasted wsX10_wasted 2 [.ref (a_p 0), .int line] (wX10 g a_p I_p J_p ++ wX1 g a_y I_y) (fun (u : (Nat → Nat → Int32)) => wX10 g a_p u J_p ++ wX1 g a_y I_y) (fun r (u : (Nat → Nat → Int32)) => PI (u) ∧ KP I_p (u)) := by
  refine EffI.st (cc := cX10_wasted) (maxL := 2) (by decide) rfl (Nat.le_of_ble_eq_true rfl) (fun p e s m args below meth c A Q ls fx hK hP hD hA hS hl hret => ?_)
  have hx := fx.1
  have hb := fx.2.1
  have hml := fx.2.2.1
  have hown := fx.2.2.2.1
  have hts := fx.2.2.2.2
  have hl : lv_has ls 2 [(0, .ref (a_p 0)), (1, .int line)] := hl
  have hP : va_P g.1 vwCl (wX10 g a_p I_p J_p ++ wX1 g a_y I_y) s.heap := hP
  have hf_78 := hts _ (uT _ _ u_46)
  have hi_X10 : ∀ w ∈ wsX100, w.before args s = true := fun w h => hts w (uT _ w (u_wsX100 w h))
  have lm1 : (-1 : Int32).toInt = -1 := by decide
  have lm0 : (0 : Int32).toInt = 0 := by decide
  have lm2 : (1 : Int32).toInt = 1 := by decide
  have hp1 := hPI.1
  have hp2 := hPI.2.1
  have hpc := LI.pc hL
  have hln := LI.ln hL
  have hwd := LI.wd hL
  have lq6 : (6 : Int32).toInt = 6 := by decide
  refine lv_aload_n hx hb dX10_wasted_0 rfl (lv_at hl 0 rfl) ?_
  refine lv_iload_n hx hb dX10_wasted_1 rfl (lv_at hl 1 rfl) ?_
  refine PurI.cv (As := [.int line]) (kX10_isLine l g a_p I_p J_p a_y I_y line hl_p_layout hPI hL) fx (gUV (uT _) u_919 u_920 u_921 u_2 u_922) rfl hdX10_isLine ⟨Nat.le_of_ble_eq_true rfl, Nat.le_of_ble_eq_true rfl⟩ hK hP [0, 1, 2, 3, 4, 5, 6, 7, 8] rfl rfl rfl rfl rfl hl.1 (Nat.le_of_ble_eq_true rfl) dX10_wasted_2 (fun r1 p_r1 => ?_)
  refine q_if_ne (tgt := 15) hx hb dX10_wasted_5 (by decide) rfl (fun b_5 k_5 => ?_) (fun b_5 k_5 => ?_)
  · have q_5 := bP.t p_r1 b_5
    refine lv_aload_n hx hb dX10_wasted_15 rfl (lv_at hl 0 rfl) ?_
    refine lv_aload_n hx hb dX10_wasted_16 rfl (lv_at hl 0 rfl) ?_
    refine va_get (D := g.1) (ci := 10) (v := .ref (a_y 0)) (C := RX10) (T := TX10) (N := 20) hx hb hi_X10 (fun _ h => h) hown hK.1 hP 0 rfl rfl 14 (by decide) hf_78 (fun _ h9 => h9) (congrArg (fun z => some (Value.ref z)) hl_p_layout) dX10_wasted_17 ?_
    refine lv_iload_n hx hb dX10_wasted_20 rfl (lv_at hl 1 rfl) ?_
    refine PurI.cv (As := [.int line]) (kX1_shortBy l g a_y I_y line hL (by omega)) fx (gUV (uT _) u_1168 u_1169 u_1170 u_45 u_1171) rfl hdX1_shortBy ⟨Nat.le_of_ble_eq_true rfl, Nat.le_of_ble_eq_true rfl⟩ hK hP [2, 3, 4, 5, 6, 7, 8] rfl rfl rfl rfl rfl hl.1 (Nat.le_of_ble_eq_true rfl) dX10_wasted_21 (fun r2 p_r2 => ?_)
    refine EffI.cv (wr := (wX1 g a_y I_y)) (w' := fun u4 => wX10 g a_p u4 J_p ++ wX1 g a_y I_y) (As := [.int r2]) (kX10_answer l g a_p I_p J_p r2) fx (gUV (uT _) u_497 u_498 u_499 u_2 u_500) rfl hdX10_answer ⟨Nat.le_of_ble_eq_true rfl, Nat.le_of_ble_eq_true rfl⟩ hK hP hD hS hA [0, 1] [2, 3, 4, 5, 6, 7, 8] [7, 8, 0, 1, 2, 3, 4, 5, 6] rfl rfl rfl rfl (by decide) rfl (fun _ => rfl) rfl rfl rfl rfl hl.1 (Nat.le_of_ble_eq_true rfl) dX10_wasted_24 (fun r3 u4 H locs p_r3 hP hD hS => ?_)
    have hP : va_P g.1 vwCl (wX10 g a_p u4 J_p ++ wX1 g a_y I_y) H := hP
    have hD : va_D A (wX10 g a_p u4 J_p ++ wX1 g a_y I_y) := hD
    refine hret 27 ls r3 _ _ u4 dX10_wasted_27 hS hP hD ?_
    exact ⟨(PI.st hPI p_r3.2), (KP.tr (KP.rf I_p) (KP.st p_r3.2))⟩
  · have q_5 := bP.f p_r1 b_5
    refine lv_aload_n hx hb dX10_wasted_8 rfl (lv_at hl 0 rfl) ?_
    refine lv_bipush (v := 6) hx hb dX10_wasted_9 (by decide) ?_
    refine EffI.cv (wr := (wX1 g a_y I_y)) (w' := fun u6 => wX10 g a_p u6 J_p ++ wX1 g a_y I_y) (As := [.int (6 : Int32)]) (kX10_refuse l g a_p I_p J_p (6 : Int32)) fx (gUV (uT _) u_295 u_296 u_297 u_2 u_298) rfl hdX10_refuse ⟨Nat.le_of_ble_eq_true rfl, Nat.le_of_ble_eq_true rfl⟩ hK hP hD hS hA [0, 1] [2, 3, 4, 5, 6, 7, 8] [7, 8, 0, 1, 2, 3, 4, 5, 6] rfl rfl rfl rfl (by decide) rfl (fun _ => rfl) rfl rfl rfl rfl hl.1 (Nat.le_of_ble_eq_true rfl) dX10_wasted_11 (fun r5 u6 H locs p_r5 hP hD hS => ?_)
    have hP : va_P g.1 vwCl (wX10 g a_p u6 J_p ++ wX1 g a_y I_y) H := hP
    have hD : va_D A (wX10 g a_p u6 J_p ++ wX1 g a_y I_y) := hD
    refine hret 14 ls r5 _ _ u6 dX10_wasted_14 hS hP hD ?_
    exact ⟨(PI.st hPI p_r5.2), (KP.tr (KP.rf I_p) (KP.st p_r5.2))⟩

set_option maxHeartbeats 4000000 in
set_option maxRecDepth 100000 in
theorem kX10_frequent (l : Launch) (g : gG) (a_p : Nat → Nat) (I_p : Nat → Nat → Int32) (J_p : Nat → Nat → Int64) (a_s : Nat → Nat) (I_s : Nat → Nat → Int32) (hl_p_script : a_p 110 = a_s 0) (hPI : PI I_p) (hSI : SI I_s) : EffI l g yX10_frequent wsX10_frequent 3 [.ref (a_p 0)] (wX10 g a_p I_p J_p ++ wX5 g a_s I_s) (fun (u : ((Nat → Nat → Int32) × (Nat → Nat → Int32))) => wX10 g a_p (u.1) J_p ++ wX5 g a_s (u.2)) (fun r (u : ((Nat → Nat → Int32) × (Nat → Nat → Int32))) => PI (u.1) ∧ SI (u.2) ∧ KP I_p (u.1)) := by
  refine EffI.st (cc := cX10_frequent) (maxL := 2) (by decide) rfl (Nat.le_of_ble_eq_true rfl) (fun p e s m args below meth c A Q ls fx hK hP hD hA hS hl hret => ?_)
  have hx := fx.1
  have hb := fx.2.1
  have hml := fx.2.2.1
  have hown := fx.2.2.2.1
  have hts := fx.2.2.2.2
  have hl : lv_has ls 2 [(0, .ref (a_p 0))] := hl
  have hP : va_P g.1 vwCl (wX10 g a_p I_p J_p ++ wX5 g a_s I_s) s.heap := hP
  have hf_57 := hts _ (uT _ _ u_36)
  have hf_61 := hts _ (uT _ _ u_37)
  have hi_X10 : ∀ w ∈ wsX100, w.before args s = true := fun w h => hts w (uT _ w (u_wsX100 w h))
  have lm1 : (-1 : Int32).toInt = -1 := by decide
  have lm0 : (0 : Int32).toInt = 0 := by decide
  have lm2 : (1 : Int32).toInt = 1 := by decide
  have hp1 := hPI.1
  have hp2 := hPI.2.1
  have hs0 := hSI.1
  have hs1 := hSI.2
  have lq6 : (6 : Int32).toInt = 6 := by decide
  refine lv_aload_n hx hb dX10_frequent_0 rfl (lv_at hl 0 rfl) ?_
  refine va_get (D := g.1) (ci := 10) (v := .int (I_p 0 11)) (C := RX10) (T := TX10) (N := 20) hx hb hi_X10 (fun _ h => h) hown hK.1 hP 0 rfl rfl 11 (by decide) hf_61 (fun _ h9 => h9) rfl dX10_frequent_1 ?_
  refine q_if_eq (tgt := 17) hx hb dX10_frequent_4 (by decide) rfl (fun b_4 k_4 => ?_) (fun b_4 k_4 => ?_)
  · refine lv_iconst (v := 0) hx hb dX10_frequent_17 (by decide) ?_
    refine lv_istore_n (lv' := [(1, .int (0 : Int32)), (0, .ref (a_p 0))]) hx hb dX10_frequent_18 rfl hl (by decide) rfl (fun ls hl => ?_)
    refine lv_aload_n hx hb dX10_frequent_19 rfl (lv_at hl 1 rfl) ?_
    refine lv_iload_n hx hb dX10_frequent_20 rfl (lv_at hl 0 rfl) ?_
    refine q_if_eq (tgt := 28) hx hb dX10_frequent_21 (by decide) (by decide : (0 : Int32).toInt = 0) (fun b_21 k_21 => ?_) (fun b_21 k_21 => ?_)
    · refine lv_iconst (v := 0) hx hb dX10_frequent_28 (by decide) ?_
      refine lv_iload_n hx hb dX10_frequent_29 rfl (lv_at hl 0 rfl) ?_
      refine lv_bipush (v := 6) hx hb dX10_frequent_30 (by decide) ?_
      refine EffI.cv (wr := (wX5 g a_s I_s)) (w' := fun u2 => wX10 g a_p u2 J_p ++ wX5 g a_s I_s) (As := [.int (0 : Int32), .int (0 : Int32), .int (6 : Int32)]) (kX10_answerOr l g a_p I_p J_p (0 : Int32) (0 : Int32) (6 : Int32)) fx (gUV (uT _) u_781 u_782 u_783 u_2 u_784) rfl hdX10_answerOr ⟨Nat.le_of_ble_eq_true rfl, Nat.le_of_ble_eq_true rfl⟩ hK hP hD hS hA [0, 1] [2, 3, 4] [3, 4, 0, 1, 2] rfl rfl rfl rfl (by decide) rfl (fun _ => rfl) rfl rfl rfl rfl hl.1 (Nat.le_of_ble_eq_true rfl) dX10_frequent_32 (fun r1 u2 H locs p_r1 hP hD hS => ?_)
      have hP : va_P g.1 vwCl (wX10 g a_p u2 J_p ++ wX5 g a_s I_s) H := hP
      have hD : va_D A (wX10 g a_p u2 J_p ++ wX5 g a_s I_s) := hD
      refine hret 35 ls r1 _ _ (u2, I_s) dX10_frequent_35 hS hP hD ?_
      exact ⟨(PI.st hPI p_r1.2.choose_spec), hSI, (KP.tr (KP.rf I_p) (KP.st p_r1.2.choose_spec))⟩
    · exfalso
      omega
  · refine lv_aload_n hx hb dX10_frequent_7 rfl (lv_at hl 0 rfl) ?_
    refine va_get (D := g.1) (ci := 10) (v := .ref (a_s 0)) (C := RX10) (T := TX10) (N := 20) hx hb hi_X10 (fun _ h => h) hown hK.1 hP 0 rfl rfl 10 (by decide) hf_57 (fun _ h9 => h9) (congrArg (fun z => some (Value.ref z)) hl_p_script) dX10_frequent_8 ?_
    refine EffI.cv (wr := (wX10 g a_p I_p J_p)) (w' := fun u4 => wX10 g a_p I_p J_p ++ wX5 g a_s u4) (As := []) (kX5_mostOftenLetter l g a_s I_s hSI) fx (gUV (uT _) u_1189 u_1190 u_1191 u_35 u_1192) rfl hdX5_mostOftenLetter ⟨Nat.le_of_ble_eq_true rfl, Nat.le_of_ble_eq_true rfl⟩ hK hP hD hS hA [2, 3, 4] [0, 1] [0, 1, 2, 3, 4] rfl rfl rfl rfl (by decide) rfl (fun _ => rfl) rfl rfl rfl rfl hl.1 (Nat.le_of_ble_eq_true rfl) dX10_frequent_11 (fun r3 u4 H locs p_r3 hP hD hS => ?_)
    have hP : va_P g.1 vwCl (wX10 g a_p I_p J_p ++ wX5 g a_s u4) H := hP
    have hD : va_D A (wX10 g a_p I_p J_p ++ wX5 g a_s u4) := hD
    refine lv_goto (tgt := 18) hx hb dX10_frequent_14 (by decide) ?_
    refine lv_istore_n (lv' := [(1, .int r3), (0, .ref (a_p 0))]) hx hb dX10_frequent_18 rfl hl (by decide) rfl (fun ls hl => ?_)
    refine lv_aload_n hx hb dX10_frequent_19 rfl (lv_at hl 1 rfl) ?_
    refine lv_iload_n hx hb dX10_frequent_20 rfl (lv_at hl 0 rfl) ?_
    refine q_if_eq (tgt := 28) hx hb dX10_frequent_21 (by decide) rfl (fun b_21 k_21 => ?_) (fun b_21 k_21 => ?_)
    · refine lv_iconst (v := 0) hx hb dX10_frequent_28 (by decide) ?_
      refine lv_iload_n hx hb dX10_frequent_29 rfl (lv_at hl 0 rfl) ?_
      refine lv_bipush (v := 6) hx hb dX10_frequent_30 (by decide) ?_
      refine EffI.cv (wr := (wX5 g a_s u4)) (w' := fun u6 => wX10 g a_p u6 J_p ++ wX5 g a_s u4) (As := [.int (0 : Int32), .int r3, .int (6 : Int32)]) (kX10_answerOr l g a_p I_p J_p (0 : Int32) r3 (6 : Int32)) fx (gUV (uT _) u_781 u_782 u_783 u_2 u_784) rfl hdX10_answerOr ⟨Nat.le_of_ble_eq_true rfl, Nat.le_of_ble_eq_true rfl⟩ hK hP hD hS hA [0, 1] [2, 3, 4] [3, 4, 0, 1, 2] rfl rfl rfl rfl (by decide) rfl (fun _ => rfl) rfl rfl rfl rfl hl.1 (Nat.le_of_ble_eq_true rfl) dX10_frequent_32 (fun r5 u6 H locs p_r5 hP hD hS => ?_)
      have hP : va_P g.1 vwCl (wX10 g a_p u6 J_p ++ wX5 g a_s u4) H := hP
      have hD : va_D A (wX10 g a_p u6 J_p ++ wX5 g a_s u4) := hD
      refine hret 35 ls r5 _ _ (u6, u4) dX10_frequent_35 hS hP hD ?_
      exact ⟨(PI.st hPI p_r5.2.choose_spec), p_r3.1, (KP.tr (KP.rf I_p) (KP.st p_r5.2.choose_spec))⟩
    · refine lv_iconst (v := 1) hx hb dX10_frequent_24 (by decide) ?_
      refine lv_goto (tgt := 29) hx hb dX10_frequent_25 (by decide) ?_
      refine lv_iload_n hx hb dX10_frequent_29 rfl (lv_at hl 0 rfl) ?_
      refine lv_bipush (v := 6) hx hb dX10_frequent_30 (by decide) ?_
      refine EffI.cv (wr := (wX5 g a_s u4)) (w' := fun u8 => wX10 g a_p u8 J_p ++ wX5 g a_s u4) (As := [.int (1 : Int32), .int r3, .int (6 : Int32)]) (kX10_answerOr l g a_p I_p J_p (1 : Int32) r3 (6 : Int32)) fx (gUV (uT _) u_781 u_782 u_783 u_2 u_784) rfl hdX10_answerOr ⟨Nat.le_of_ble_eq_true rfl, Nat.le_of_ble_eq_true rfl⟩ hK hP hD hS hA [0, 1] [2, 3, 4] [3, 4, 0, 1, 2] rfl rfl rfl rfl (by decide) rfl (fun _ => rfl) rfl rfl rfl rfl hl.1 (Nat.le_of_ble_eq_true rfl) dX10_frequent_32 (fun r7 u8 H locs p_r7 hP hD hS => ?_)
      have hP : va_P g.1 vwCl (wX10 g a_p u8 J_p ++ wX5 g a_s u4) H := hP
      have hD : va_D A (wX10 g a_p u8 J_p ++ wX5 g a_s u4) := hD
      refine hret 35 ls r7 _ _ (u8, u4) dX10_frequent_35 hS hP hD ?_
      exact ⟨(PI.st hPI p_r7.2.choose_spec), p_r3.1, (KP.tr (KP.rf I_p) (KP.st p_r7.2.choose_spec))⟩

set_option maxHeartbeats 4000000 in
set_option maxRecDepth 100000 in
theorem kX10_pieceOf (l : Launch) (g : gG) (a_p : Nat → Nat) (I_p : Nat → Nat → Int32) (J_p : Nat → Nat → Int64) (a_e : Nat → Nat) (I_e : Nat → Nat → Int32) (k : Int32) (hl_p_shown : a_p 112 = a_e 0) (hPI : PI I_p) (hE : EI I_e) : EffI l g yX10_pieceOf wsX10_pieceOf 1 [.ref (a_p 0), .int k] (wX10 g a_p I_p J_p ++ wX6 g a_e I_e) (fun (u : (Nat → Nat → Int32)) => wX10 g a_p u J_p ++ wX6 g a_e I_e) (fun r (u : (Nat → Nat → Int32)) => PI (u) ∧ KP I_p (u)) := by
  refine EffI.st (cc := cX10_pieceOf) (maxL := 4) (by decide) rfl (Nat.le_of_ble_eq_true rfl) (fun p e s m args below meth c A Q ls fx hK hP hD hA hS hl hret => ?_)
  have hx := fx.1
  have hb := fx.2.1
  have hml := fx.2.2.1
  have hown := fx.2.2.2.1
  have hts := fx.2.2.2.2
  have hl : lv_has ls 4 [(0, .ref (a_p 0)), (1, .int k)] := hl
  have hP : va_P g.1 vwCl (wX10 g a_p I_p J_p ++ wX6 g a_e I_e) s.heap := hP
  have hf_68 := hts _ (uT _ _ u_41)
  have hf_259 := hts _ (uT _ _ u_906)
  have hi_X10 : ∀ w ∈ wsX100, w.before args s = true := fun w h => hts w (uT _ w (u_wsX100 w h))
  have hi_X6 : ∀ w ∈ wsX60, w.before args s = true := fun w h => hts w (uT _ w (u_wsX60 w h))
  have lm1 : (-1 : Int32).toInt = -1 := by decide
  have lm0 : (0 : Int32).toInt = 0 := by decide
  have lm2 : (1 : Int32).toInt = 1 := by decide
  have hp1 := hPI.1
  have hp2 := hPI.2.1
  have hE0 := hE.1
  have hE1 := hE.2
  have lq6 : (6 : Int32).toInt = 6 := by decide
  refine lv_aload_n hx hb dX10_pieceOf_0 rfl (lv_at hl 0 rfl) ?_
  refine lv_iload_n hx hb dX10_pieceOf_1 rfl (lv_at hl 1 rfl) ?_
  refine PurI.cv (As := [.int k]) (kX10_isSetCell l g a_p I_p J_p a_e I_e k hl_p_shown hPI hE) fx (gUV (uT _) u_907 u_908 u_909 u_2 u_910) rfl hdX10_isSetCell ⟨Nat.le_of_ble_eq_true rfl, Nat.le_of_ble_eq_true rfl⟩ hK hP [0, 1, 2, 3, 4, 5] rfl rfl rfl rfl rfl hl.1 (Nat.le_of_ble_eq_true rfl) dX10_pieceOf_2 (fun r1 p_r1 => ?_)
  refine q_if_eq (tgt := 20) hx hb dX10_pieceOf_5 (by decide) rfl (fun b_5 k_5 => ?_) (fun b_5 k_5 => ?_)
  · have q_5 := bP.f p_r1 b_5
    refine lv_aload_n hx hb dX10_pieceOf_20 rfl (lv_at hl 0 rfl) ?_
    refine lv_bipush (v := 6) hx hb dX10_pieceOf_21 (by decide) ?_
    refine EffI.cv (wr := (wX6 g a_e I_e)) (w' := fun u3 => wX10 g a_p u3 J_p ++ wX6 g a_e I_e) (As := [.int (6 : Int32)]) (kX10_refuse l g a_p I_p J_p (6 : Int32)) fx (gUV (uT _) u_295 u_296 u_297 u_2 u_298) rfl hdX10_refuse ⟨Nat.le_of_ble_eq_true rfl, Nat.le_of_ble_eq_true rfl⟩ hK hP hD hS hA [0, 1] [2, 3, 4, 5] [4, 5, 0, 1, 2, 3] rfl rfl rfl rfl (by decide) rfl (fun _ => rfl) rfl rfl rfl rfl hl.1 (Nat.le_of_ble_eq_true rfl) dX10_pieceOf_23 (fun r2 u3 H locs p_r2 hP hD hS => ?_)
    have hP : va_P g.1 vwCl (wX10 g a_p u3 J_p ++ wX6 g a_e I_e) H := hP
    have hD : va_D A (wX10 g a_p u3 J_p ++ wX6 g a_e I_e) := hD
    refine hret 26 ls r2 _ _ u3 dX10_pieceOf_26 hS hP hD ?_
    exact ⟨(PI.st hPI p_r2.2), (KP.tr (KP.rf I_p) (KP.st p_r2.2))⟩
  · have q_5 := bP.t p_r1 b_5
    refine lv_aload_n hx hb dX10_pieceOf_8 rfl (lv_at hl 0 rfl) ?_
    refine va_get (D := g.1) (ci := 10) (v := .ref (a_e 0)) (C := RX10) (T := TX10) (N := 20) hx hb hi_X10 (fun _ h => h) hown hK.1 hP 0 rfl rfl 12 (by decide) hf_68 (fun _ h9 => h9) (congrArg (fun z => some (Value.ref z)) hl_p_shown) dX10_pieceOf_9 ?_
    refine va_get (D := g.1) (ci := 6) (v := .ref (a_e 1)) (C := RX6) (T := TX6) (N := 10) hx hb hi_X6 (fun _ h => h) hown hK.1 hP 2 rfl rfl 0 (by decide) hf_259 (fun _ h9 => h9) rfl dX10_pieceOf_12 ?_
    refine lv_iload_n hx hb dX10_pieceOf_15 rfl (lv_at hl 1 rfl) ?_
    have n_16 : vp_in k 1200 := (t_in (by omega))
    refine va_iald hx hb hK.1 hP 3 0 rfl rfl n_16 dX10_pieceOf_16 ?_
    refine q_nm (fun x4 e_x4 => ?_)
    have e_x4 : x4 = (I_e 1) k.toNatClampNeg := e_x4
    have g_x4 : x4.toInt = ((I_e 1) k.toNatClampNeg).toInt := congrArg _ e_x4
    refine q_if_ne (tgt := 27) hx hb dX10_pieceOf_17 (by decide) rfl (fun b_17 k_17 => ?_) (fun b_17 k_17 => ?_)
    · refine lv_iconst (v := 0) hx hb dX10_pieceOf_27 (by decide) ?_
      refine lv_istore_n (lv' := [(2, .int (0 : Int32)), (0, .ref (a_p 0)), (1, .int k)]) hx hb dX10_pieceOf_28 rfl hl (by decide) rfl (fun ls hl => ?_)
      refine lv_iconst (v := 0) hx hb dX10_pieceOf_29 (by decide) ?_
      refine lv_istore_n (lv' := [(3, .int (0 : Int32)), (2, .int (0 : Int32)), (0, .ref (a_p 0)), (1, .int k)]) hx hb dX10_pieceOf_30 rfl hl (by decide) rfl (fun ls hl => ?_)
      have L31 : ∀ (nn : Nat) (v2_31 : Int32) (v3_31 : Int32), (hv_31 : 0 ≤ v3_31.toInt ∧ v3_31.toInt ≤ 1200) → ((1201 - v3_31.toInt) < (nn : Int)) → ∀ (H : Heap) (locs : List Loc), va_P g.1 vwCl (wX10 g a_p I_p J_p ++ wX6 g a_e I_e) H → va_D A (wX10 g a_p I_p J_p ++ wX6 g a_e I_e) → va_S A s.heap H locs → ∀ ls : Array Slot, lv_has ls 4 [(3, .int v3_31), (2, .int v2_31), (0, .ref (a_p 0)), (1, .int k)] → W p l e (rm 1) s m args below meth c H locs 0 0 Q (F0 m 31 ls []) := by
        intro n_31
        induction n_31 with
        | zero =>
          intro v2_31 v3_31 hv_31 hms_31 H locs hP hD hS ls hl
          exfalso; omega
        | succ n_31 ih_31 =>
          intro v2_31 v3_31 hv_31 hms_31 H locs hP hD hS ls hl
          refine lv_iload_n hx hb dX10_pieceOf_31 rfl (lv_at hl 0 rfl) ?_
          refine lv_iload_n hx hb dX10_pieceOf_32 rfl (lv_at hl 3 rfl) ?_
          refine q_icmp_ge (tgt := 57) hx hb dX10_pieceOf_33 (by decide) rfl rfl (fun k_33 => ?_) (fun k_33 => ?_)
          · refine lv_aload_n hx hb dX10_pieceOf_57 rfl (lv_at hl 2 rfl) ?_
            refine lv_iload_n hx hb dX10_pieceOf_58 rfl (lv_at hl 1 rfl) ?_
            refine EffI.cv (wr := (wX6 g a_e I_e)) (w' := fun u6 => wX10 g a_p u6 J_p ++ wX6 g a_e I_e) (As := [.int v2_31]) (kX10_answer l g a_p I_p J_p v2_31) fx (gUV (uT _) u_497 u_498 u_499 u_2 u_500) rfl hdX10_answer ⟨Nat.le_of_ble_eq_true rfl, Nat.le_of_ble_eq_true rfl⟩ hK hP hD hS hA [0, 1] [2, 3, 4, 5] [4, 5, 0, 1, 2, 3] rfl rfl rfl rfl (by decide) rfl (fun _ => rfl) rfl rfl rfl rfl hl.1 (Nat.le_of_ble_eq_true rfl) dX10_pieceOf_59 (fun r5 u6 H locs p_r5 hP hD hS => ?_)
            have hP : va_P g.1 vwCl (wX10 g a_p u6 J_p ++ wX6 g a_e I_e) H := hP
            have hD : va_D A (wX10 g a_p u6 J_p ++ wX6 g a_e I_e) := hD
            refine hret 62 ls r5 _ _ u6 dX10_pieceOf_62 hS hP hD ?_
            exact ⟨(PI.st hPI p_r5.2), (KP.tr (KP.rf I_p) (KP.st p_r5.2))⟩
          · refine lv_aload_n hx hb dX10_pieceOf_36 rfl (lv_at hl 2 rfl) ?_
            refine va_get (D := g.1) (ci := 10) (v := .ref (a_e 0)) (C := RX10) (T := TX10) (N := 20) hx hb hi_X10 (fun _ h => h) hown hK.1 hP 0 rfl rfl 12 (by decide) hf_68 (fun _ h9 => h9) (congrArg (fun z => some (Value.ref z)) hl_p_shown) dX10_pieceOf_37 ?_
            refine va_get (D := g.1) (ci := 6) (v := .ref (a_e 1)) (C := RX6) (T := TX6) (N := 10) hx hb hi_X6 (fun _ h => h) hown hK.1 hP 2 rfl rfl 0 (by decide) hf_259 (fun _ h9 => h9) rfl dX10_pieceOf_40 ?_
            refine lv_iload_n hx hb dX10_pieceOf_43 rfl (lv_at hl 0 rfl) ?_
            have n_44 : vp_in v3_31 1200 := (t_in (by omega))
            refine va_iald hx hb hK.1 hP 3 0 rfl rfl n_44 dX10_pieceOf_44 ?_
            refine q_nm (fun x7 e_x7 => ?_)
            have e_x7 : x7 = (I_e 1) v3_31.toNatClampNeg := e_x7
            have g_x7 : x7.toInt = ((I_e 1) v3_31.toNatClampNeg).toInt := congrArg _ e_x7
            refine q_if_ne (tgt := 51) hx hb dX10_pieceOf_45 (by decide) rfl (fun b_45 k_45 => ?_) (fun b_45 k_45 => ?_)
            · refine r_iinc (lv' := fun i8 => [(3, .int i8), (2, .int v2_31), (0, .ref (a_p 0)), (1, .int k)]) hx hb dX10_pieceOf_51 hl (k := 0) rfl (by decide) rfl (by decide) (fun _ => rfl) (fun i8 e_i8 t_i8 ls hl => ?_)
              try have t_i8 := t_i8 (by omega)
              refine lv_goto (tgt := 31) hx hb dX10_pieceOf_54 (by decide) ?_
              exact ih_31 v2_31 i8 (by omega) (by omega) _ _ hP hD hS ls hl
            · refine r_iinc (lv' := fun i9 => [(2, .int i9), (3, .int v3_31), (0, .ref (a_p 0)), (1, .int k)]) hx hb dX10_pieceOf_48 hl (k := 1) rfl (by decide) rfl (by decide) (fun _ => rfl) (fun i9 e_i9 t_i9 ls hl => ?_)
              try have t_i9 := t_i9 (by omega)
              refine r_iinc (lv' := fun i10 => [(3, .int i10), (2, .int i9), (0, .ref (a_p 0)), (1, .int k)]) hx hb dX10_pieceOf_51 hl (k := 1) rfl (by decide) rfl (by decide) (fun _ => rfl) (fun i10 e_i10 t_i10 ls hl => ?_)
              try have t_i10 := t_i10 (by omega)
              refine lv_goto (tgt := 31) hx hb dX10_pieceOf_54 (by decide) ?_
              exact ih_31 i9 i10 (by omega) (by omega) _ _ hP hD hS ls hl
      exact L31 ((1201 - (0 : Int32).toInt) + 1).toNat (0 : Int32) (0 : Int32) (by omega) (by omega) _ _ hP hD hS ls hl
    · refine lv_aload_n hx hb dX10_pieceOf_20 rfl (lv_at hl 0 rfl) ?_
      refine lv_bipush (v := 6) hx hb dX10_pieceOf_21 (by decide) ?_
      refine EffI.cv (wr := (wX6 g a_e I_e)) (w' := fun u12 => wX10 g a_p u12 J_p ++ wX6 g a_e I_e) (As := [.int (6 : Int32)]) (kX10_refuse l g a_p I_p J_p (6 : Int32)) fx (gUV (uT _) u_295 u_296 u_297 u_2 u_298) rfl hdX10_refuse ⟨Nat.le_of_ble_eq_true rfl, Nat.le_of_ble_eq_true rfl⟩ hK hP hD hS hA [0, 1] [2, 3, 4, 5] [4, 5, 0, 1, 2, 3] rfl rfl rfl rfl (by decide) rfl (fun _ => rfl) rfl rfl rfl rfl hl.1 (Nat.le_of_ble_eq_true rfl) dX10_pieceOf_23 (fun r11 u12 H locs p_r11 hP hD hS => ?_)
      have hP : va_P g.1 vwCl (wX10 g a_p u12 J_p ++ wX6 g a_e I_e) H := hP
      have hD : va_D A (wX10 g a_p u12 J_p ++ wX6 g a_e I_e) := hD
      refine hret 26 ls r11 _ _ u12 dX10_pieceOf_26 hS hP hD ?_
      exact ⟨(PI.st hPI p_r11.2), (KP.tr (KP.rf I_p) (KP.st p_r11.2))⟩

set_option maxHeartbeats 4000000 in
set_option maxRecDepth 100000 in
theorem kX10_signs (l : Launch) (g : gG) (a_p : Nat → Nat) (I_p : Nat → Nat → Int32) (J_p : Nat → Nat → Int64) (a_s : Nat → Nat) (I_s : Nat → Nat → Int32) (what : Int32) (hl_p_script : a_p 110 = a_s 0) (hPI : PI I_p) (hSI : SI I_s) : EffI l g yX10_signs wsX10_signs 3 [.ref (a_p 0), .int what] (wX10 g a_p I_p J_p ++ wX5 g a_s I_s) (fun (u : (Nat → Nat → Int32)) => wX10 g a_p u J_p ++ wX5 g a_s I_s) (fun r (u : (Nat → Nat → Int32)) => PI (u) ∧ KP I_p (u)) := by
  refine EffI.st (cc := cX10_signs) (maxL := 2) (by decide) rfl (Nat.le_of_ble_eq_true rfl) (fun p e s m args below meth c A Q ls fx hK hP hD hA hS hl hret => ?_)
  have hx := fx.1
  have hb := fx.2.1
  have hml := fx.2.2.1
  have hown := fx.2.2.2.1
  have hts := fx.2.2.2.2
  have hl : lv_has ls 2 [(0, .ref (a_p 0)), (1, .int what)] := hl
  have hP : va_P g.1 vwCl (wX10 g a_p I_p J_p ++ wX5 g a_s I_s) s.heap := hP
  have hf_57 := hts _ (uT _ _ u_36)
  have hf_61 := hts _ (uT _ _ u_37)
  have hi_X10 : ∀ w ∈ wsX100, w.before args s = true := fun w h => hts w (uT _ w (u_wsX100 w h))
  have lm1 : (-1 : Int32).toInt = -1 := by decide
  have lm0 : (0 : Int32).toInt = 0 := by decide
  have lm2 : (1 : Int32).toInt = 1 := by decide
  have hp1 := hPI.1
  have hp2 := hPI.2.1
  have hs0 := hSI.1
  have hs1 := hSI.2
  have lq6 : (6 : Int32).toInt = 6 := by decide
  refine lv_iload_n hx hb dX10_signs_0 rfl (lv_at hl 1 rfl) ?_
  refine q_if_lt (tgt := 9) hx hb dX10_signs_1 (by decide) rfl (fun k_1 => ?_) (fun k_1 => ?_)
  · refine lv_aload_n hx hb dX10_signs_9 rfl (lv_at hl 0 rfl) ?_
    refine lv_iconst (v := 1) hx hb dX10_signs_10 (by decide) ?_
    refine EffI.cv (wr := (wX5 g a_s I_s)) (w' := fun u2 => wX10 g a_p u2 J_p ++ wX5 g a_s I_s) (As := [.int (1 : Int32)]) (kX10_refuse l g a_p I_p J_p (1 : Int32)) fx (gUV (uT _) u_295 u_296 u_297 u_2 u_298) rfl hdX10_refuse ⟨Nat.le_of_ble_eq_true rfl, Nat.le_of_ble_eq_true rfl⟩ hK hP hD hS hA [0, 1] [2, 3, 4] [3, 4, 0, 1, 2] rfl rfl rfl rfl (by decide) rfl (fun _ => rfl) rfl rfl rfl rfl hl.1 (Nat.le_of_ble_eq_true rfl) dX10_signs_11 (fun r1 u2 H locs p_r1 hP hD hS => ?_)
    have hP : va_P g.1 vwCl (wX10 g a_p u2 J_p ++ wX5 g a_s I_s) H := hP
    have hD : va_D A (wX10 g a_p u2 J_p ++ wX5 g a_s I_s) := hD
    refine hret 14 ls r1 _ _ u2 dX10_signs_14 hS hP hD ?_
    exact ⟨(PI.st hPI p_r1.2), (KP.tr (KP.rf I_p) (KP.st p_r1.2))⟩
  · refine lv_iload_n hx hb dX10_signs_4 rfl (lv_at hl 1 rfl) ?_
    refine lv_iconst (v := 1) hx hb dX10_signs_5 (by decide) ?_
    refine q_icmp_le (tgt := 15) hx hb dX10_signs_6 (by decide) rfl (by decide : (1 : Int32).toInt = 1) (fun k_6 => ?_) (fun k_6 => ?_)
    · refine lv_aload_n hx hb dX10_signs_15 rfl (lv_at hl 0 rfl) ?_
      refine va_get (D := g.1) (ci := 10) (v := .int (I_p 0 11)) (C := RX10) (T := TX10) (N := 20) hx hb hi_X10 (fun _ h => h) hown hK.1 hP 0 rfl rfl 11 (by decide) hf_61 (fun _ h9 => h9) rfl dX10_signs_16 ?_
      refine q_if_ne (tgt := 29) hx hb dX10_signs_19 (by decide) rfl (fun b_19 k_19 => ?_) (fun b_19 k_19 => ?_)
      · refine lv_aload_n hx hb dX10_signs_29 rfl (lv_at hl 0 rfl) ?_
        refine lv_iload_n hx hb dX10_signs_30 rfl (lv_at hl 1 rfl) ?_
        refine q_if_ne (tgt := 44) hx hb dX10_signs_31 (by decide) rfl (fun b_31 k_31 => ?_) (fun b_31 k_31 => ?_)
        · refine lv_aload_n hx hb dX10_signs_44 rfl (lv_at hl 0 rfl) ?_
          refine va_get (D := g.1) (ci := 10) (v := .ref (a_s 0)) (C := RX10) (T := TX10) (N := 20) hx hb hi_X10 (fun _ h => h) hown hK.1 hP 0 rfl rfl 10 (by decide) hf_57 (fun _ h9 => h9) (congrArg (fun z => some (Value.ref z)) hl_p_script) dX10_signs_45 ?_
          refine PurI.cv (As := []) (kX5_figures l g a_s I_s hSI) fx (gUV (uT _) u_1213 u_1214 u_1215 u_35 u_1216) rfl hdX5_figures ⟨Nat.le_of_ble_eq_true rfl, Nat.le_of_ble_eq_true rfl⟩ hK hP [2, 3, 4] rfl rfl rfl rfl rfl hl.1 (Nat.le_of_ble_eq_true rfl) dX10_signs_48 (fun r3 p_r3 => ?_)
          refine EffI.cv (wr := (wX5 g a_s I_s)) (w' := fun u5 => wX10 g a_p u5 J_p ++ wX5 g a_s I_s) (As := [.int r3]) (kX10_answer l g a_p I_p J_p r3) fx (gUV (uT _) u_497 u_498 u_499 u_2 u_500) rfl hdX10_answer ⟨Nat.le_of_ble_eq_true rfl, Nat.le_of_ble_eq_true rfl⟩ hK hP hD hS hA [0, 1] [2, 3, 4] [3, 4, 0, 1, 2] rfl rfl rfl rfl (by decide) rfl (fun _ => rfl) rfl rfl rfl rfl hl.1 (Nat.le_of_ble_eq_true rfl) dX10_signs_51 (fun r4 u5 H locs p_r4 hP hD hS => ?_)
          have hP : va_P g.1 vwCl (wX10 g a_p u5 J_p ++ wX5 g a_s I_s) H := hP
          have hD : va_D A (wX10 g a_p u5 J_p ++ wX5 g a_s I_s) := hD
          refine hret 54 ls r4 _ _ u5 dX10_signs_54 hS hP hD ?_
          exact ⟨(PI.st hPI p_r4.2), (KP.tr (KP.rf I_p) (KP.st p_r4.2))⟩
        · refine lv_aload_n hx hb dX10_signs_34 rfl (lv_at hl 0 rfl) ?_
          refine va_get (D := g.1) (ci := 10) (v := .ref (a_s 0)) (C := RX10) (T := TX10) (N := 20) hx hb hi_X10 (fun _ h => h) hown hK.1 hP 0 rfl rfl 10 (by decide) hf_57 (fun _ h9 => h9) (congrArg (fun z => some (Value.ref z)) hl_p_script) dX10_signs_35 ?_
          refine PurI.cv (As := []) (kX5_greatLetters l g a_s I_s hSI) fx (gUV (uT _) u_1209 u_1210 u_1211 u_35 u_1212) rfl hdX5_greatLetters ⟨Nat.le_of_ble_eq_true rfl, Nat.le_of_ble_eq_true rfl⟩ hK hP [2, 3, 4] rfl rfl rfl rfl rfl hl.1 (Nat.le_of_ble_eq_true rfl) dX10_signs_38 (fun r6 p_r6 => ?_)
          refine lv_goto (tgt := 51) hx hb dX10_signs_41 (by decide) ?_
          refine EffI.cv (wr := (wX5 g a_s I_s)) (w' := fun u8 => wX10 g a_p u8 J_p ++ wX5 g a_s I_s) (As := [.int r6]) (kX10_answer l g a_p I_p J_p r6) fx (gUV (uT _) u_497 u_498 u_499 u_2 u_500) rfl hdX10_answer ⟨Nat.le_of_ble_eq_true rfl, Nat.le_of_ble_eq_true rfl⟩ hK hP hD hS hA [0, 1] [2, 3, 4] [3, 4, 0, 1, 2] rfl rfl rfl rfl (by decide) rfl (fun _ => rfl) rfl rfl rfl rfl hl.1 (Nat.le_of_ble_eq_true rfl) dX10_signs_51 (fun r7 u8 H locs p_r7 hP hD hS => ?_)
          have hP : va_P g.1 vwCl (wX10 g a_p u8 J_p ++ wX5 g a_s I_s) H := hP
          have hD : va_D A (wX10 g a_p u8 J_p ++ wX5 g a_s I_s) := hD
          refine hret 54 ls r7 _ _ u8 dX10_signs_54 hS hP hD ?_
          exact ⟨(PI.st hPI p_r7.2), (KP.tr (KP.rf I_p) (KP.st p_r7.2))⟩
      · refine lv_aload_n hx hb dX10_signs_22 rfl (lv_at hl 0 rfl) ?_
        refine lv_bipush (v := 6) hx hb dX10_signs_23 (by decide) ?_
        refine EffI.cv (wr := (wX5 g a_s I_s)) (w' := fun u10 => wX10 g a_p u10 J_p ++ wX5 g a_s I_s) (As := [.int (6 : Int32)]) (kX10_refuse l g a_p I_p J_p (6 : Int32)) fx (gUV (uT _) u_295 u_296 u_297 u_2 u_298) rfl hdX10_refuse ⟨Nat.le_of_ble_eq_true rfl, Nat.le_of_ble_eq_true rfl⟩ hK hP hD hS hA [0, 1] [2, 3, 4] [3, 4, 0, 1, 2] rfl rfl rfl rfl (by decide) rfl (fun _ => rfl) rfl rfl rfl rfl hl.1 (Nat.le_of_ble_eq_true rfl) dX10_signs_25 (fun r9 u10 H locs p_r9 hP hD hS => ?_)
        have hP : va_P g.1 vwCl (wX10 g a_p u10 J_p ++ wX5 g a_s I_s) H := hP
        have hD : va_D A (wX10 g a_p u10 J_p ++ wX5 g a_s I_s) := hD
        refine hret 28 ls r9 _ _ u10 dX10_signs_28 hS hP hD ?_
        exact ⟨(PI.st hPI p_r9.2), (KP.tr (KP.rf I_p) (KP.st p_r9.2))⟩
    · refine lv_aload_n hx hb dX10_signs_9 rfl (lv_at hl 0 rfl) ?_
      refine lv_iconst (v := 1) hx hb dX10_signs_10 (by decide) ?_
      refine EffI.cv (wr := (wX5 g a_s I_s)) (w' := fun u12 => wX10 g a_p u12 J_p ++ wX5 g a_s I_s) (As := [.int (1 : Int32)]) (kX10_refuse l g a_p I_p J_p (1 : Int32)) fx (gUV (uT _) u_295 u_296 u_297 u_2 u_298) rfl hdX10_refuse ⟨Nat.le_of_ble_eq_true rfl, Nat.le_of_ble_eq_true rfl⟩ hK hP hD hS hA [0, 1] [2, 3, 4] [3, 4, 0, 1, 2] rfl rfl rfl rfl (by decide) rfl (fun _ => rfl) rfl rfl rfl rfl hl.1 (Nat.le_of_ble_eq_true rfl) dX10_signs_11 (fun r11 u12 H locs p_r11 hP hD hS => ?_)
      have hP : va_P g.1 vwCl (wX10 g a_p u12 J_p ++ wX5 g a_s I_s) H := hP
      have hD : va_D A (wX10 g a_p u12 J_p ++ wX5 g a_s I_s) := hD
      refine hret 14 ls r11 _ _ u12 dX10_signs_14 hS hP hD ?_
      exact ⟨(PI.st hPI p_r11.2), (KP.tr (KP.rf I_p) (KP.st p_r11.2))⟩

set_option maxHeartbeats 4000000 in
set_option maxRecDepth 100000 in
theorem kX10_covers (l : Launch) (g : gG) (a_p : Nat → Nat) (I_p : Nat → Nat → Int32) (J_p : Nat → Nat → Int64) (a_t : Nat → Nat) (I_t : Nat → Nat → Int32) (a_s : Nat → Nat) (I_s : Nat → Nat → Int32) (rule : Int32) (hl_p_table : a_p 109 = a_t 0) (hl_p_script : a_p 110 = a_s 0) (hPI : PI I_p) (hT : TI I_t) (hSI : SI I_s) : EffI l g yX10_covers wsX10_covers 4 [.ref (a_p 0), .int rule] (wX10 g a_p I_p J_p ++ (wX7 g a_t I_t ++ wX5 g a_s I_s)) (fun (u : (Nat → Nat → Int32)) => wX10 g a_p u J_p ++ (wX7 g a_t I_t ++ wX5 g a_s I_s)) (fun r (u : (Nat → Nat → Int32)) => PI (u) ∧ KP I_p (u)) := by
  refine EffI.st (cc := cX10_covers) (maxL := 2) (by decide) rfl (Nat.le_of_ble_eq_true rfl) (fun p e s m args below meth c A Q ls fx hK hP hD hA hS hl hret => ?_)
  have hx := fx.1
  have hb := fx.2.1
  have hml := fx.2.2.1
  have hown := fx.2.2.2.1
  have hts := fx.2.2.2.2
  have hl : lv_has ls 2 [(0, .ref (a_p 0)), (1, .int rule)] := hl
  have hP : va_P g.1 vwCl (wX10 g a_p I_p J_p ++ (wX7 g a_t I_t ++ wX5 g a_s I_s)) s.heap := hP
  have hf_50 := hts _ (uT _ _ u_32)
  have hf_57 := hts _ (uT _ _ u_36)
  have hf_61 := hts _ (uT _ _ u_37)
  have hi_X10 : ∀ w ∈ wsX100, w.before args s = true := fun w h => hts w (uT _ w (u_wsX100 w h))
  have lm1 : (-1 : Int32).toInt = -1 := by decide
  have lm0 : (0 : Int32).toInt = 0 := by decide
  have lm2 : (1 : Int32).toInt = 1 := by decide
  have hp1 := hPI.1
  have hp2 := hPI.2.1
  have hru := TI.ru hT
  have hlt3 := TI.li hT
  have hlt4 := TI.pa hT
  have hs0 := hSI.1
  have hs1 := hSI.2
  have lq6 : (6 : Int32).toInt = 6 := by decide
  refine lv_aload_n hx hb dX10_covers_0 rfl (lv_at hl 0 rfl) ?_
  refine va_get (D := g.1) (ci := 10) (v := .ref (a_t 0)) (C := RX10) (T := TX10) (N := 20) hx hb hi_X10 (fun _ h => h) hown hK.1 hP 0 rfl rfl 9 (by decide) hf_50 (fun _ h9 => h9) (congrArg (fun z => some (Value.ref z)) hl_p_table) dX10_covers_1 ?_
  refine lv_iload_n hx hb dX10_covers_4 rfl (lv_at hl 1 rfl) ?_
  refine PurI.cv (As := [.int rule]) (kX7_has l g a_t I_t rule) fx (gUV (uT _) u_796 u_797 u_798 u_31 u_799) rfl hdX7_has ⟨Nat.le_of_ble_eq_true rfl, Nat.le_of_ble_eq_true rfl⟩ hK hP [2, 3, 4, 5, 6, 7, 8] rfl rfl rfl rfl rfl hl.1 (Nat.le_of_ble_eq_true rfl) dX10_covers_5 (fun r1 p_r1 => ?_)
  refine q_if_ne (tgt := 17) hx hb dX10_covers_8 (by decide) rfl (fun b_8 k_8 => ?_) (fun b_8 k_8 => ?_)
  · have q_8 := bP.t p_r1 b_8
    refine lv_aload_n hx hb dX10_covers_17 rfl (lv_at hl 0 rfl) ?_
    refine va_get (D := g.1) (ci := 10) (v := .int (I_p 0 11)) (C := RX10) (T := TX10) (N := 20) hx hb hi_X10 (fun _ h => h) hown hK.1 hP 0 rfl rfl 11 (by decide) hf_61 (fun _ h9 => h9) rfl dX10_covers_18 ?_
    refine q_if_ne (tgt := 31) hx hb dX10_covers_21 (by decide) rfl (fun b_21 k_21 => ?_) (fun b_21 k_21 => ?_)
    · refine lv_aload_n hx hb dX10_covers_31 rfl (lv_at hl 0 rfl) ?_
      refine lv_aload_n hx hb dX10_covers_32 rfl (lv_at hl 0 rfl) ?_
      refine va_get (D := g.1) (ci := 10) (v := .ref (a_t 0)) (C := RX10) (T := TX10) (N := 20) hx hb hi_X10 (fun _ h => h) hown hK.1 hP 0 rfl rfl 9 (by decide) hf_50 (fun _ h9 => h9) (congrArg (fun z => some (Value.ref z)) hl_p_table) dX10_covers_33 ?_
      refine lv_iload_n hx hb dX10_covers_36 rfl (lv_at hl 1 rfl) ?_
      refine PurI.cv (As := [.int rule]) (kX7_isThere l g a_t I_t rule) fx (gUV (uT _) u_982 u_983 u_984 u_31 u_985) rfl hdX7_isThere ⟨Nat.le_of_ble_eq_true rfl, Nat.le_of_ble_eq_true rfl⟩ hK hP [2, 3, 4, 5, 6, 7, 8] rfl rfl rfl rfl rfl hl.1 (Nat.le_of_ble_eq_true rfl) dX10_covers_37 (fun r2 p_r2 => ?_)
      refine q_if_eq (tgt := 58) hx hb dX10_covers_40 (by decide) rfl (fun b_40 k_40 => ?_) (fun b_40 k_40 => ?_)
      · have q_40 := bP.f p_r2 b_40
        refine lv_iconst (v := 0) hx hb dX10_covers_58 (by decide) ?_
        refine EffI.cv (wr := (wX7 g a_t I_t ++ wX5 g a_s I_s)) (w' := fun u4 => wX10 g a_p u4 J_p ++ (wX7 g a_t I_t ++ wX5 g a_s I_s)) (As := [.int (0 : Int32)]) (kX10_answer l g a_p I_p J_p (0 : Int32)) fx (gUV (uT _) u_497 u_498 u_499 u_2 u_500) rfl hdX10_answer ⟨Nat.le_of_ble_eq_true rfl, Nat.le_of_ble_eq_true rfl⟩ hK hP hD hS hA [0, 1] [2, 3, 4, 5, 6, 7, 8, 9, 10, 11] [10, 11, 0, 1, 2, 3, 4, 5, 6, 7, 8, 9] rfl rfl rfl rfl (by decide) rfl (fun _ => rfl) rfl rfl rfl rfl hl.1 (Nat.le_of_ble_eq_true rfl) dX10_covers_59 (fun r3 u4 H locs p_r3 hP hD hS => ?_)
        have hP : va_P g.1 vwCl (wX10 g a_p u4 J_p ++ (wX7 g a_t I_t ++ wX5 g a_s I_s)) H := hP
        have hD : va_D A (wX10 g a_p u4 J_p ++ (wX7 g a_t I_t ++ wX5 g a_s I_s)) := hD
        refine hret 62 ls r3 _ _ u4 dX10_covers_62 hS hP hD ?_
        exact ⟨(PI.st hPI p_r3.2), (KP.tr (KP.rf I_p) (KP.st p_r3.2))⟩
      · have q_40 := bP.t p_r2 b_40
        refine lv_aload_n hx hb dX10_covers_43 rfl (lv_at hl 0 rfl) ?_
        refine va_get (D := g.1) (ci := 10) (v := .ref (a_s 0)) (C := RX10) (T := TX10) (N := 20) hx hb hi_X10 (fun _ h => h) hown hK.1 hP 0 rfl rfl 10 (by decide) hf_57 (fun _ h9 => h9) (congrArg (fun z => some (Value.ref z)) hl_p_script) dX10_covers_44 ?_
        refine lv_iload_n hx hb dX10_covers_47 rfl (lv_at hl 1 rfl) ?_
        refine lv_aload_n hx hb dX10_covers_48 rfl (lv_at hl 0 rfl) ?_
        refine va_get (D := g.1) (ci := 10) (v := .ref (a_t 0)) (C := RX10) (T := TX10) (N := 20) hx hb hi_X10 (fun _ h => h) hown hK.1 hP 0 rfl rfl 9 (by decide) hf_50 (fun _ h9 => h9) (congrArg (fun z => some (Value.ref z)) hl_p_table) dX10_covers_49 ?_
        refine PurI.cv (As := [.int rule, .ref (a_t 0)]) (kX5_placesOf l g a_s I_s a_t I_t rule (by omega) hT hSI) fx (gUV (uT _) u_1229 u_1230 u_1231 u_35 u_1232) rfl hdX5_placesOf ⟨Nat.le_of_ble_eq_true rfl, Nat.le_of_ble_eq_true rfl⟩ hK hP [9, 10, 11, 2, 3, 4, 5, 6, 7, 8] rfl rfl rfl rfl rfl hl.1 (Nat.le_of_ble_eq_true rfl) dX10_covers_52 (fun r5 p_r5 => ?_)
        refine lv_goto (tgt := 59) hx hb dX10_covers_55 (by decide) ?_
        refine EffI.cv (wr := (wX7 g a_t I_t ++ wX5 g a_s I_s)) (w' := fun u7 => wX10 g a_p u7 J_p ++ (wX7 g a_t I_t ++ wX5 g a_s I_s)) (As := [.int r5]) (kX10_answer l g a_p I_p J_p r5) fx (gUV (uT _) u_497 u_498 u_499 u_2 u_500) rfl hdX10_answer ⟨Nat.le_of_ble_eq_true rfl, Nat.le_of_ble_eq_true rfl⟩ hK hP hD hS hA [0, 1] [2, 3, 4, 5, 6, 7, 8, 9, 10, 11] [10, 11, 0, 1, 2, 3, 4, 5, 6, 7, 8, 9] rfl rfl rfl rfl (by decide) rfl (fun _ => rfl) rfl rfl rfl rfl hl.1 (Nat.le_of_ble_eq_true rfl) dX10_covers_59 (fun r6 u7 H locs p_r6 hP hD hS => ?_)
        have hP : va_P g.1 vwCl (wX10 g a_p u7 J_p ++ (wX7 g a_t I_t ++ wX5 g a_s I_s)) H := hP
        have hD : va_D A (wX10 g a_p u7 J_p ++ (wX7 g a_t I_t ++ wX5 g a_s I_s)) := hD
        refine hret 62 ls r6 _ _ u7 dX10_covers_62 hS hP hD ?_
        exact ⟨(PI.st hPI p_r6.2), (KP.tr (KP.rf I_p) (KP.st p_r6.2))⟩
    · refine lv_aload_n hx hb dX10_covers_24 rfl (lv_at hl 0 rfl) ?_
      refine lv_bipush (v := 6) hx hb dX10_covers_25 (by decide) ?_
      refine EffI.cv (wr := (wX7 g a_t I_t ++ wX5 g a_s I_s)) (w' := fun u9 => wX10 g a_p u9 J_p ++ (wX7 g a_t I_t ++ wX5 g a_s I_s)) (As := [.int (6 : Int32)]) (kX10_refuse l g a_p I_p J_p (6 : Int32)) fx (gUV (uT _) u_295 u_296 u_297 u_2 u_298) rfl hdX10_refuse ⟨Nat.le_of_ble_eq_true rfl, Nat.le_of_ble_eq_true rfl⟩ hK hP hD hS hA [0, 1] [2, 3, 4, 5, 6, 7, 8, 9, 10, 11] [10, 11, 0, 1, 2, 3, 4, 5, 6, 7, 8, 9] rfl rfl rfl rfl (by decide) rfl (fun _ => rfl) rfl rfl rfl rfl hl.1 (Nat.le_of_ble_eq_true rfl) dX10_covers_27 (fun r8 u9 H locs p_r8 hP hD hS => ?_)
      have hP : va_P g.1 vwCl (wX10 g a_p u9 J_p ++ (wX7 g a_t I_t ++ wX5 g a_s I_s)) H := hP
      have hD : va_D A (wX10 g a_p u9 J_p ++ (wX7 g a_t I_t ++ wX5 g a_s I_s)) := hD
      refine hret 30 ls r8 _ _ u9 dX10_covers_30 hS hP hD ?_
      exact ⟨(PI.st hPI p_r8.2), (KP.tr (KP.rf I_p) (KP.st p_r8.2))⟩
  · have q_8 := bP.f p_r1 b_8
    refine lv_aload_n hx hb dX10_covers_11 rfl (lv_at hl 0 rfl) ?_
    refine lv_iconst (v := 1) hx hb dX10_covers_12 (by decide) ?_
    refine EffI.cv (wr := (wX7 g a_t I_t ++ wX5 g a_s I_s)) (w' := fun u11 => wX10 g a_p u11 J_p ++ (wX7 g a_t I_t ++ wX5 g a_s I_s)) (As := [.int (1 : Int32)]) (kX10_refuse l g a_p I_p J_p (1 : Int32)) fx (gUV (uT _) u_295 u_296 u_297 u_2 u_298) rfl hdX10_refuse ⟨Nat.le_of_ble_eq_true rfl, Nat.le_of_ble_eq_true rfl⟩ hK hP hD hS hA [0, 1] [2, 3, 4, 5, 6, 7, 8, 9, 10, 11] [10, 11, 0, 1, 2, 3, 4, 5, 6, 7, 8, 9] rfl rfl rfl rfl (by decide) rfl (fun _ => rfl) rfl rfl rfl rfl hl.1 (Nat.le_of_ble_eq_true rfl) dX10_covers_13 (fun r10 u11 H locs p_r10 hP hD hS => ?_)
    have hP : va_P g.1 vwCl (wX10 g a_p u11 J_p ++ (wX7 g a_t I_t ++ wX5 g a_s I_s)) H := hP
    have hD : va_D A (wX10 g a_p u11 J_p ++ (wX7 g a_t I_t ++ wX5 g a_s I_s)) := hD
    refine hret 16 ls r10 _ _ u11 dX10_covers_16 hS hP hD ?_
    exact ⟨(PI.st hPI p_r10.2), (KP.tr (KP.rf I_p) (KP.st p_r10.2))⟩

set_option maxHeartbeats 4000000 in
set_option maxRecDepth 100000 in
theorem kX10_often (l : Launch) (g : gG) (a_p : Nat → Nat) (I_p : Nat → Nat → Int32) (J_p : Nat → Nat → Int64) (a_e : Nat → Nat) (I_e : Nat → Nat → Int32) (cell : Int32) (hl_p_shown : a_p 112 = a_e 0) (hPI : PI I_p) (hE : EI I_e) : EffI l g yX10_often wsX10_often 1 [.ref (a_p 0), .int cell] (wX10 g a_p I_p J_p ++ wX6 g a_e I_e) (fun (u : (Nat → Nat → Int32)) => wX10 g a_p u J_p ++ wX6 g a_e I_e) (fun r (u : (Nat → Nat → Int32)) => PI (u) ∧ KP I_p (u)) := by
  refine EffI.st (cc := cX10_often) (maxL := 2) (by decide) rfl (Nat.le_of_ble_eq_true rfl) (fun p e s m args below meth c A Q ls fx hK hP hD hA hS hl hret => ?_)
  have hx := fx.1
  have hb := fx.2.1
  have hml := fx.2.2.1
  have hown := fx.2.2.2.1
  have hts := fx.2.2.2.2
  have hl : lv_has ls 2 [(0, .ref (a_p 0)), (1, .int cell)] := hl
  have hP : va_P g.1 vwCl (wX10 g a_p I_p J_p ++ wX6 g a_e I_e) s.heap := hP
  have hf_61 := hts _ (uT _ _ u_37)
  have hf_68 := hts _ (uT _ _ u_41)
  have hi_X10 : ∀ w ∈ wsX100, w.before args s = true := fun w h => hts w (uT _ w (u_wsX100 w h))
  have lm1 : (-1 : Int32).toInt = -1 := by decide
  have lm0 : (0 : Int32).toInt = 0 := by decide
  have lm2 : (1 : Int32).toInt = 1 := by decide
  have hp1 := hPI.1
  have hp2 := hPI.2.1
  have hE0 := hE.1
  have hE1 := hE.2
  have lq6 : (6 : Int32).toInt = 6 := by decide
  refine lv_iload_n hx hb dX10_often_0 rfl (lv_at hl 1 rfl) ?_
  refine q_if_lt (tgt := 10) hx hb dX10_often_1 (by decide) rfl (fun k_1 => ?_) (fun k_1 => ?_)
  · refine lv_aload_n hx hb dX10_often_10 rfl (lv_at hl 0 rfl) ?_
    refine lv_iconst (v := 1) hx hb dX10_often_11 (by decide) ?_
    refine EffI.cv (wr := (wX6 g a_e I_e)) (w' := fun u2 => wX10 g a_p u2 J_p ++ wX6 g a_e I_e) (As := [.int (1 : Int32)]) (kX10_refuse l g a_p I_p J_p (1 : Int32)) fx (gUV (uT _) u_295 u_296 u_297 u_2 u_298) rfl hdX10_refuse ⟨Nat.le_of_ble_eq_true rfl, Nat.le_of_ble_eq_true rfl⟩ hK hP hD hS hA [0, 1] [2, 3, 4, 5] [4, 5, 0, 1, 2, 3] rfl rfl rfl rfl (by decide) rfl (fun _ => rfl) rfl rfl rfl rfl hl.1 (Nat.le_of_ble_eq_true rfl) dX10_often_12 (fun r1 u2 H locs p_r1 hP hD hS => ?_)
    have hP : va_P g.1 vwCl (wX10 g a_p u2 J_p ++ wX6 g a_e I_e) H := hP
    have hD : va_D A (wX10 g a_p u2 J_p ++ wX6 g a_e I_e) := hD
    refine hret 15 ls r1 _ _ u2 dX10_often_15 hS hP hD ?_
    exact ⟨(PI.st hPI p_r1.2), (KP.tr (KP.rf I_p) (KP.st p_r1.2))⟩
  · refine lv_iload_n hx hb dX10_often_4 rfl (lv_at hl 1 rfl) ?_
    refine lv_bipush (v := 63) hx hb dX10_often_5 (by decide) ?_
    refine q_icmp_le (tgt := 16) hx hb dX10_often_7 (by decide) rfl (by decide : (63 : Int32).toInt = 63) (fun k_7 => ?_) (fun k_7 => ?_)
    · refine lv_aload_n hx hb dX10_often_16 rfl (lv_at hl 0 rfl) ?_
      refine va_get (D := g.1) (ci := 10) (v := .int (I_p 0 11)) (C := RX10) (T := TX10) (N := 20) hx hb hi_X10 (fun _ h => h) hown hK.1 hP 0 rfl rfl 11 (by decide) hf_61 (fun _ h9 => h9) rfl dX10_often_17 ?_
      refine q_if_ne (tgt := 30) hx hb dX10_often_20 (by decide) rfl (fun b_20 k_20 => ?_) (fun b_20 k_20 => ?_)
      · refine lv_aload_n hx hb dX10_often_30 rfl (lv_at hl 0 rfl) ?_
        refine lv_aload_n hx hb dX10_often_31 rfl (lv_at hl 0 rfl) ?_
        refine va_get (D := g.1) (ci := 10) (v := .ref (a_e 0)) (C := RX10) (T := TX10) (N := 20) hx hb hi_X10 (fun _ h => h) hown hK.1 hP 0 rfl rfl 12 (by decide) hf_68 (fun _ h9 => h9) (congrArg (fun z => some (Value.ref z)) hl_p_shown) dX10_often_32 ?_
        refine lv_iload_n hx hb dX10_often_35 rfl (lv_at hl 1 rfl) ?_
        refine PurI.cv (As := [.int cell]) (kX6_timesOf l g a_e I_e cell hE) fx (gUV (uT _) u_1241 u_1242 u_1243 u_40 u_1244) rfl hdX6_timesOf ⟨Nat.le_of_ble_eq_true rfl, Nat.le_of_ble_eq_true rfl⟩ hK hP [2, 3, 4, 5] rfl rfl rfl rfl rfl hl.1 (Nat.le_of_ble_eq_true rfl) dX10_often_36 (fun r3 p_r3 => ?_)
        refine EffI.cv (wr := (wX6 g a_e I_e)) (w' := fun u5 => wX10 g a_p u5 J_p ++ wX6 g a_e I_e) (As := [.int r3]) (kX10_answer l g a_p I_p J_p r3) fx (gUV (uT _) u_497 u_498 u_499 u_2 u_500) rfl hdX10_answer ⟨Nat.le_of_ble_eq_true rfl, Nat.le_of_ble_eq_true rfl⟩ hK hP hD hS hA [0, 1] [2, 3, 4, 5] [4, 5, 0, 1, 2, 3] rfl rfl rfl rfl (by decide) rfl (fun _ => rfl) rfl rfl rfl rfl hl.1 (Nat.le_of_ble_eq_true rfl) dX10_often_39 (fun r4 u5 H locs p_r4 hP hD hS => ?_)
        have hP : va_P g.1 vwCl (wX10 g a_p u5 J_p ++ wX6 g a_e I_e) H := hP
        have hD : va_D A (wX10 g a_p u5 J_p ++ wX6 g a_e I_e) := hD
        refine hret 42 ls r4 _ _ u5 dX10_often_42 hS hP hD ?_
        exact ⟨(PI.st hPI p_r4.2), (KP.tr (KP.rf I_p) (KP.st p_r4.2))⟩
      · refine lv_aload_n hx hb dX10_often_23 rfl (lv_at hl 0 rfl) ?_
        refine lv_bipush (v := 6) hx hb dX10_often_24 (by decide) ?_
        refine EffI.cv (wr := (wX6 g a_e I_e)) (w' := fun u7 => wX10 g a_p u7 J_p ++ wX6 g a_e I_e) (As := [.int (6 : Int32)]) (kX10_refuse l g a_p I_p J_p (6 : Int32)) fx (gUV (uT _) u_295 u_296 u_297 u_2 u_298) rfl hdX10_refuse ⟨Nat.le_of_ble_eq_true rfl, Nat.le_of_ble_eq_true rfl⟩ hK hP hD hS hA [0, 1] [2, 3, 4, 5] [4, 5, 0, 1, 2, 3] rfl rfl rfl rfl (by decide) rfl (fun _ => rfl) rfl rfl rfl rfl hl.1 (Nat.le_of_ble_eq_true rfl) dX10_often_26 (fun r6 u7 H locs p_r6 hP hD hS => ?_)
        have hP : va_P g.1 vwCl (wX10 g a_p u7 J_p ++ wX6 g a_e I_e) H := hP
        have hD : va_D A (wX10 g a_p u7 J_p ++ wX6 g a_e I_e) := hD
        refine hret 29 ls r6 _ _ u7 dX10_often_29 hS hP hD ?_
        exact ⟨(PI.st hPI p_r6.2), (KP.tr (KP.rf I_p) (KP.st p_r6.2))⟩
    · refine lv_aload_n hx hb dX10_often_10 rfl (lv_at hl 0 rfl) ?_
      refine lv_iconst (v := 1) hx hb dX10_often_11 (by decide) ?_
      refine EffI.cv (wr := (wX6 g a_e I_e)) (w' := fun u9 => wX10 g a_p u9 J_p ++ wX6 g a_e I_e) (As := [.int (1 : Int32)]) (kX10_refuse l g a_p I_p J_p (1 : Int32)) fx (gUV (uT _) u_295 u_296 u_297 u_2 u_298) rfl hdX10_refuse ⟨Nat.le_of_ble_eq_true rfl, Nat.le_of_ble_eq_true rfl⟩ hK hP hD hS hA [0, 1] [2, 3, 4, 5] [4, 5, 0, 1, 2, 3] rfl rfl rfl rfl (by decide) rfl (fun _ => rfl) rfl rfl rfl rfl hl.1 (Nat.le_of_ble_eq_true rfl) dX10_often_12 (fun r8 u9 H locs p_r8 hP hD hS => ?_)
      have hP : va_P g.1 vwCl (wX10 g a_p u9 J_p ++ wX6 g a_e I_e) H := hP
      have hD : va_D A (wX10 g a_p u9 J_p ++ wX6 g a_e I_e) := hD
      refine hret 15 ls r8 _ _ u9 dX10_often_15 hS hP hD ?_
      exact ⟨(PI.st hPI p_r8.2), (KP.tr (KP.rf I_p) (KP.st p_r8.2))⟩

set_option maxHeartbeats 4000000 in
set_option maxRecDepth 100000 in
theorem kX10_commonest (l : Launch) (g : gG) (a_p : Nat → Nat) (I_p : Nat → Nat → Int32) (J_p : Nat → Nat → Int64) (a_e : Nat → Nat) (I_e : Nat → Nat → Int32) (hl_p_shown : a_p 112 = a_e 0) (hPI : PI I_p) (hE : EI I_e) : EffI l g yX10_commonest wsX10_commonest 2 [.ref (a_p 0)] (wX10 g a_p I_p J_p ++ wX6 g a_e I_e) (fun (u : (Nat → Nat → Int32)) => wX10 g a_p u J_p ++ wX6 g a_e I_e) (fun r (u : (Nat → Nat → Int32)) => PI (u) ∧ KP I_p (u)) := by
  refine EffI.st (cc := cX10_commonest) (maxL := 5) (by decide) rfl (Nat.le_of_ble_eq_true rfl) (fun p e s m args below meth c A Q ls fx hK hP hD hA hS hl hret => ?_)
  have hx := fx.1
  have hb := fx.2.1
  have hml := fx.2.2.1
  have hown := fx.2.2.2.1
  have hts := fx.2.2.2.2
  have hl : lv_has ls 5 [(0, .ref (a_p 0))] := hl
  have hP : va_P g.1 vwCl (wX10 g a_p I_p J_p ++ wX6 g a_e I_e) s.heap := hP
  have hf_61 := hts _ (uT _ _ u_37)
  have hf_68 := hts _ (uT _ _ u_41)
  have hi_X10 : ∀ w ∈ wsX100, w.before args s = true := fun w h => hts w (uT _ w (u_wsX100 w h))
  have lm1 : (-1 : Int32).toInt = -1 := by decide
  have lm0 : (0 : Int32).toInt = 0 := by decide
  have lm2 : (1 : Int32).toInt = 1 := by decide
  have hp1 := hPI.1
  have hp2 := hPI.2.1
  have hE0 := hE.1
  have hE1 := hE.2
  have lq6 : (6 : Int32).toInt = 6 := by decide
  refine lv_iconst (v := 0) hx hb dX10_commonest_0 (by decide) ?_
  refine lv_istore_n (lv' := [(1, .int (0 : Int32)), (0, .ref (a_p 0))]) hx hb dX10_commonest_1 rfl hl (by decide) rfl (fun ls hl => ?_)
  refine lv_iconst (v := 0) hx hb dX10_commonest_2 (by decide) ?_
  refine lv_istore_n (lv' := [(2, .int (0 : Int32)), (1, .int (0 : Int32)), (0, .ref (a_p 0))]) hx hb dX10_commonest_3 rfl hl (by decide) rfl (fun ls hl => ?_)
  refine lv_iconst (v := 1) hx hb dX10_commonest_4 (by decide) ?_
  refine lv_istore_n (lv' := [(3, .int (1 : Int32)), (2, .int (0 : Int32)), (1, .int (0 : Int32)), (0, .ref (a_p 0))]) hx hb dX10_commonest_5 rfl hl (by decide) rfl (fun ls hl => ?_)
  have L6 : ∀ (nn : Nat) (v1_6 : Int32) (v2_6 : Int32) (v3_6 : Int32), (hv_6 : 1 ≤ v3_6.toInt ∧ v3_6.toInt ≤ 64) → ((65 - v3_6.toInt) < (nn : Int)) → ∀ (H : Heap) (locs : List Loc), va_P g.1 vwCl (wX10 g a_p I_p J_p ++ wX6 g a_e I_e) H → va_D A (wX10 g a_p I_p J_p ++ wX6 g a_e I_e) → va_S A s.heap H locs → ∀ ls : Array Slot, lv_has ls 5 [(3, .int v3_6), (2, .int v2_6), (1, .int v1_6), (0, .ref (a_p 0))] → W p l e (rm 2) s m args below meth c H locs 0 0 Q (F0 m 6 ls []) := by
    intro n_6
    induction n_6 with
    | zero =>
      intro v1_6 v2_6 v3_6 hv_6 hms_6 H locs hP hD hS ls hl
      exfalso; omega
    | succ n_6 ih_6 =>
      intro v1_6 v2_6 v3_6 hv_6 hms_6 H locs hP hD hS ls hl
      refine lv_aload_n hx hb dX10_commonest_6 rfl (lv_at hl 3 rfl) ?_
      refine va_get (D := g.1) (ci := 10) (v := .int (I_p 0 11)) (C := RX10) (T := TX10) (N := 20) hx hb hi_X10 (fun _ h => h) hown hK.1 hP 0 rfl rfl 11 (by decide) hf_61 (fun _ h9 => h9) rfl dX10_commonest_7 ?_
      refine q_if_eq (tgt := 46) hx hb dX10_commonest_10 (by decide) rfl (fun b_10 k_10 => ?_) (fun b_10 k_10 => ?_)
      · refine lv_aload_n hx hb dX10_commonest_46 rfl (lv_at hl 3 rfl) ?_
        refine lv_iload_n hx hb dX10_commonest_47 rfl (lv_at hl 2 rfl) ?_
        refine q_if_eq (tgt := 55) hx hb dX10_commonest_48 (by decide) rfl (fun b_48 k_48 => ?_) (fun b_48 k_48 => ?_)
        · refine lv_iconst (v := 0) hx hb dX10_commonest_55 (by decide) ?_
          refine lv_iload_n hx hb dX10_commonest_56 rfl (lv_at hl 2 rfl) ?_
          refine lv_bipush (v := 6) hx hb dX10_commonest_57 (by decide) ?_
          refine EffI.cv (wr := (wX6 g a_e I_e)) (w' := fun u2 => wX10 g a_p u2 J_p ++ wX6 g a_e I_e) (As := [.int (0 : Int32), .int v1_6, .int (6 : Int32)]) (kX10_answerOr l g a_p I_p J_p (0 : Int32) v1_6 (6 : Int32)) fx (gUV (uT _) u_781 u_782 u_783 u_2 u_784) rfl hdX10_answerOr ⟨Nat.le_of_ble_eq_true rfl, Nat.le_of_ble_eq_true rfl⟩ hK hP hD hS hA [0, 1] [2, 3, 4, 5] [4, 5, 0, 1, 2, 3] rfl rfl rfl rfl (by decide) rfl (fun _ => rfl) rfl rfl rfl rfl hl.1 (Nat.le_of_ble_eq_true rfl) dX10_commonest_59 (fun r1 u2 H locs p_r1 hP hD hS => ?_)
          have hP : va_P g.1 vwCl (wX10 g a_p u2 J_p ++ wX6 g a_e I_e) H := hP
          have hD : va_D A (wX10 g a_p u2 J_p ++ wX6 g a_e I_e) := hD
          refine hret 62 ls r1 _ _ u2 dX10_commonest_62 hS hP hD ?_
          exact ⟨(PI.st hPI p_r1.2.choose_spec), (KP.tr (KP.rf I_p) (KP.st p_r1.2.choose_spec))⟩
        · refine lv_iconst (v := 1) hx hb dX10_commonest_51 (by decide) ?_
          refine lv_goto (tgt := 56) hx hb dX10_commonest_52 (by decide) ?_
          refine lv_iload_n hx hb dX10_commonest_56 rfl (lv_at hl 2 rfl) ?_
          refine lv_bipush (v := 6) hx hb dX10_commonest_57 (by decide) ?_
          refine EffI.cv (wr := (wX6 g a_e I_e)) (w' := fun u4 => wX10 g a_p u4 J_p ++ wX6 g a_e I_e) (As := [.int (1 : Int32), .int v1_6, .int (6 : Int32)]) (kX10_answerOr l g a_p I_p J_p (1 : Int32) v1_6 (6 : Int32)) fx (gUV (uT _) u_781 u_782 u_783 u_2 u_784) rfl hdX10_answerOr ⟨Nat.le_of_ble_eq_true rfl, Nat.le_of_ble_eq_true rfl⟩ hK hP hD hS hA [0, 1] [2, 3, 4, 5] [4, 5, 0, 1, 2, 3] rfl rfl rfl rfl (by decide) rfl (fun _ => rfl) rfl rfl rfl rfl hl.1 (Nat.le_of_ble_eq_true rfl) dX10_commonest_59 (fun r3 u4 H locs p_r3 hP hD hS => ?_)
          have hP : va_P g.1 vwCl (wX10 g a_p u4 J_p ++ wX6 g a_e I_e) H := hP
          have hD : va_D A (wX10 g a_p u4 J_p ++ wX6 g a_e I_e) := hD
          refine hret 62 ls r3 _ _ u4 dX10_commonest_62 hS hP hD ?_
          exact ⟨(PI.st hPI p_r3.2.choose_spec), (KP.tr (KP.rf I_p) (KP.st p_r3.2.choose_spec))⟩
      · refine lv_iload_n hx hb dX10_commonest_13 rfl (lv_at hl 0 rfl) ?_
        refine lv_bipush (v := 63) hx hb dX10_commonest_14 (by decide) ?_
        refine q_icmp_gt (tgt := 46) hx hb dX10_commonest_16 (by decide) rfl (by decide : (63 : Int32).toInt = 63) (fun k_16 => ?_) (fun k_16 => ?_)
        · refine lv_aload_n hx hb dX10_commonest_46 rfl (lv_at hl 3 rfl) ?_
          refine lv_iload_n hx hb dX10_commonest_47 rfl (lv_at hl 2 rfl) ?_
          refine q_if_eq (tgt := 55) hx hb dX10_commonest_48 (by decide) rfl (fun b_48 k_48 => ?_) (fun b_48 k_48 => ?_)
          · refine lv_iconst (v := 0) hx hb dX10_commonest_55 (by decide) ?_
            refine lv_iload_n hx hb dX10_commonest_56 rfl (lv_at hl 2 rfl) ?_
            refine lv_bipush (v := 6) hx hb dX10_commonest_57 (by decide) ?_
            refine EffI.cv (wr := (wX6 g a_e I_e)) (w' := fun u6 => wX10 g a_p u6 J_p ++ wX6 g a_e I_e) (As := [.int (0 : Int32), .int v1_6, .int (6 : Int32)]) (kX10_answerOr l g a_p I_p J_p (0 : Int32) v1_6 (6 : Int32)) fx (gUV (uT _) u_781 u_782 u_783 u_2 u_784) rfl hdX10_answerOr ⟨Nat.le_of_ble_eq_true rfl, Nat.le_of_ble_eq_true rfl⟩ hK hP hD hS hA [0, 1] [2, 3, 4, 5] [4, 5, 0, 1, 2, 3] rfl rfl rfl rfl (by decide) rfl (fun _ => rfl) rfl rfl rfl rfl hl.1 (Nat.le_of_ble_eq_true rfl) dX10_commonest_59 (fun r5 u6 H locs p_r5 hP hD hS => ?_)
            have hP : va_P g.1 vwCl (wX10 g a_p u6 J_p ++ wX6 g a_e I_e) H := hP
            have hD : va_D A (wX10 g a_p u6 J_p ++ wX6 g a_e I_e) := hD
            refine hret 62 ls r5 _ _ u6 dX10_commonest_62 hS hP hD ?_
            exact ⟨(PI.st hPI p_r5.2.choose_spec), (KP.tr (KP.rf I_p) (KP.st p_r5.2.choose_spec))⟩
          · refine lv_iconst (v := 1) hx hb dX10_commonest_51 (by decide) ?_
            refine lv_goto (tgt := 56) hx hb dX10_commonest_52 (by decide) ?_
            refine lv_iload_n hx hb dX10_commonest_56 rfl (lv_at hl 2 rfl) ?_
            refine lv_bipush (v := 6) hx hb dX10_commonest_57 (by decide) ?_
            refine EffI.cv (wr := (wX6 g a_e I_e)) (w' := fun u8 => wX10 g a_p u8 J_p ++ wX6 g a_e I_e) (As := [.int (1 : Int32), .int v1_6, .int (6 : Int32)]) (kX10_answerOr l g a_p I_p J_p (1 : Int32) v1_6 (6 : Int32)) fx (gUV (uT _) u_781 u_782 u_783 u_2 u_784) rfl hdX10_answerOr ⟨Nat.le_of_ble_eq_true rfl, Nat.le_of_ble_eq_true rfl⟩ hK hP hD hS hA [0, 1] [2, 3, 4, 5] [4, 5, 0, 1, 2, 3] rfl rfl rfl rfl (by decide) rfl (fun _ => rfl) rfl rfl rfl rfl hl.1 (Nat.le_of_ble_eq_true rfl) dX10_commonest_59 (fun r7 u8 H locs p_r7 hP hD hS => ?_)
            have hP : va_P g.1 vwCl (wX10 g a_p u8 J_p ++ wX6 g a_e I_e) H := hP
            have hD : va_D A (wX10 g a_p u8 J_p ++ wX6 g a_e I_e) := hD
            refine hret 62 ls r7 _ _ u8 dX10_commonest_62 hS hP hD ?_
            exact ⟨(PI.st hPI p_r7.2.choose_spec), (KP.tr (KP.rf I_p) (KP.st p_r7.2.choose_spec))⟩
        · refine lv_aload_n hx hb dX10_commonest_19 rfl (lv_at hl 3 rfl) ?_
          refine va_get (D := g.1) (ci := 10) (v := .ref (a_e 0)) (C := RX10) (T := TX10) (N := 20) hx hb hi_X10 (fun _ h => h) hown hK.1 hP 0 rfl rfl 12 (by decide) hf_68 (fun _ h9 => h9) (congrArg (fun z => some (Value.ref z)) hl_p_shown) dX10_commonest_20 ?_
          refine lv_iload_n hx hb dX10_commonest_23 rfl (lv_at hl 0 rfl) ?_
          refine PurI.cv (As := [.int v3_6]) (kX6_timesOf l g a_e I_e v3_6 hE) fx (gUV (uT _) u_1241 u_1242 u_1243 u_40 u_1244) rfl hdX6_timesOf ⟨Nat.le_of_ble_eq_true rfl, Nat.le_of_ble_eq_true rfl⟩ hK hP [2, 3, 4, 5] rfl rfl rfl rfl rfl hl.1 (Nat.le_of_ble_eq_true rfl) dX10_commonest_24 (fun r9 p_r9 => ?_)
          refine lv_istore (lv' := [(4, .int r9), (3, .int v3_6), (2, .int v2_6), (1, .int v1_6), (0, .ref (a_p 0))]) hx hb dX10_commonest_27 hl (by decide) rfl (fun ls hl => ?_)
          refine lv_iload hx hb dX10_commonest_29 (lv_at hl 0 rfl) ?_
          refine lv_iload_n hx hb dX10_commonest_31 rfl (lv_at hl 2 rfl) ?_
          refine q_icmp_le (tgt := 40) hx hb dX10_commonest_32 (by decide) rfl rfl (fun k_32 => ?_) (fun k_32 => ?_)
          · refine r_iinc (lv' := fun i10 => [(3, .int i10), (4, .int r9), (2, .int v2_6), (1, .int v1_6), (0, .ref (a_p 0))]) hx hb dX10_commonest_40 hl (k := 1) rfl (by decide) rfl (by decide) (fun _ => rfl) (fun i10 e_i10 t_i10 ls hl => ?_)
            try have t_i10 := t_i10 (by omega)
            refine lv_goto (tgt := 6) hx hb dX10_commonest_43 (by decide) ?_
            exact ih_6 v1_6 v2_6 i10 (by omega) (by omega) _ _ hP hD hS ls (lv_sub hl [0, 2, 3, 4] rfl)
          · refine lv_iload_n hx hb dX10_commonest_35 rfl (lv_at hl 1 rfl) ?_
            refine lv_istore_n (lv' := [(1, .int v3_6), (4, .int r9), (3, .int v3_6), (2, .int v2_6), (0, .ref (a_p 0))]) hx hb dX10_commonest_36 rfl hl (by decide) rfl (fun ls hl => ?_)
            refine lv_iload hx hb dX10_commonest_37 (lv_at hl 1 rfl) ?_
            refine lv_istore_n (lv' := [(2, .int r9), (1, .int v3_6), (4, .int r9), (3, .int v3_6), (0, .ref (a_p 0))]) hx hb dX10_commonest_39 rfl hl (by decide) rfl (fun ls hl => ?_)
            refine r_iinc (lv' := fun i11 => [(3, .int i11), (2, .int r9), (1, .int v3_6), (4, .int r9), (0, .ref (a_p 0))]) hx hb dX10_commonest_40 hl (k := 3) rfl (by decide) rfl (by decide) (fun _ => rfl) (fun i11 e_i11 t_i11 ls hl => ?_)
            try have t_i11 := t_i11 (by omega)
            refine lv_goto (tgt := 6) hx hb dX10_commonest_43 (by decide) ?_
            exact ih_6 v3_6 r9 i11 (by omega) (by omega) _ _ hP hD hS ls (lv_sub hl [0, 1, 2, 4] rfl)
  exact L6 ((65 - (1 : Int32).toInt) + 1).toNat (0 : Int32) (0 : Int32) (1 : Int32) (by omega) (by omega) _ _ hP hD hS ls hl

set_option maxHeartbeats 4000000 in
set_option maxRecDepth 100000 in
theorem kX10_ragged (l : Launch) (g : gG) (a_p : Nat → Nat) (I_p : Nat → Nat → Int32) (J_p : Nat → Nat → Int64) (a_y : Nat → Nat) (I_y : Nat → Nat → Int32) (hl_p_layout : a_p 114 = a_y 0) (hPI : PI I_p) (hL : LI I_y) : EffI l g yX10_ragged wsX10_ragged 3 [.ref (a_p 0)] (wX10 g a_p I_p J_p ++ wX1 g a_y I_y) (fun (u : (Nat → Nat → Int32)) => wX10 g a_p u J_p ++ wX1 g a_y I_y) (fun r (u : (Nat → Nat → Int32)) => PI (u) ∧ KP I_p (u)) := by
  refine EffI.st (cc := cX10_ragged) (maxL := 1) (by decide) rfl (Nat.le_of_ble_eq_true rfl) (fun p e s m args below meth c A Q ls fx hK hP hD hA hS hl hret => ?_)
  have hx := fx.1
  have hb := fx.2.1
  have hml := fx.2.2.1
  have hown := fx.2.2.2.1
  have hts := fx.2.2.2.2
  have hl : lv_has ls 1 [(0, .ref (a_p 0))] := hl
  have hP : va_P g.1 vwCl (wX10 g a_p I_p J_p ++ wX1 g a_y I_y) s.heap := hP
  have hf_61 := hts _ (uT _ _ u_37)
  have hf_78 := hts _ (uT _ _ u_46)
  have hi_X10 : ∀ w ∈ wsX100, w.before args s = true := fun w h => hts w (uT _ w (u_wsX100 w h))
  have lm1 : (-1 : Int32).toInt = -1 := by decide
  have lm0 : (0 : Int32).toInt = 0 := by decide
  have lm2 : (1 : Int32).toInt = 1 := by decide
  have hp1 := hPI.1
  have hp2 := hPI.2.1
  have hpc := LI.pc hL
  have hln := LI.ln hL
  have hwd := LI.wd hL
  have lq6 : (6 : Int32).toInt = 6 := by decide
  refine lv_aload_n hx hb dX10_ragged_0 rfl (lv_at hl 0 rfl) ?_
  refine lv_aload_n hx hb dX10_ragged_1 rfl (lv_at hl 0 rfl) ?_
  refine va_get (D := g.1) (ci := 10) (v := .int (I_p 0 11)) (C := RX10) (T := TX10) (N := 20) hx hb hi_X10 (fun _ h => h) hown hK.1 hP 0 rfl rfl 11 (by decide) hf_61 (fun _ h9 => h9) rfl dX10_ragged_2 ?_
  refine lv_aload_n hx hb dX10_ragged_5 rfl (lv_at hl 0 rfl) ?_
  refine va_get (D := g.1) (ci := 10) (v := .ref (a_y 0)) (C := RX10) (T := TX10) (N := 20) hx hb hi_X10 (fun _ h => h) hown hK.1 hP 0 rfl rfl 14 (by decide) hf_78 (fun _ h9 => h9) (congrArg (fun z => some (Value.ref z)) hl_p_layout) dX10_ragged_6 ?_
  refine PurI.cv (As := []) (kX1_raggedness l g a_y I_y hL) fx (gUV (uT _) u_1266 u_1267 u_1268 u_45 u_1269) rfl hdX1_raggedness ⟨Nat.le_of_ble_eq_true rfl, Nat.le_of_ble_eq_true rfl⟩ hK hP [2, 3, 4, 5, 6, 7, 8] rfl rfl rfl rfl rfl hl.1 (Nat.le_of_ble_eq_true rfl) dX10_ragged_9 (fun r1 p_r1 => ?_)
  refine lv_bipush (v := 6) hx hb dX10_ragged_12 (by decide) ?_
  refine EffI.cv (wr := (wX1 g a_y I_y)) (w' := fun u3 => wX10 g a_p u3 J_p ++ wX1 g a_y I_y) (As := [.int (I_p 0 11), .int r1, .int (6 : Int32)]) (kX10_answerOr l g a_p I_p J_p (I_p 0 11) r1 (6 : Int32)) fx (gUV (uT _) u_781 u_782 u_783 u_2 u_784) rfl hdX10_answerOr ⟨Nat.le_of_ble_eq_true rfl, Nat.le_of_ble_eq_true rfl⟩ hK hP hD hS hA [0, 1] [2, 3, 4, 5, 6, 7, 8] [7, 8, 0, 1, 2, 3, 4, 5, 6] rfl rfl rfl rfl (by decide) rfl (fun _ => rfl) rfl rfl rfl rfl hl.1 (Nat.le_of_ble_eq_true rfl) dX10_ragged_14 (fun r2 u3 H locs p_r2 hP hD hS => ?_)
  have hP : va_P g.1 vwCl (wX10 g a_p u3 J_p ++ wX1 g a_y I_y) H := hP
  have hD : va_D A (wX10 g a_p u3 J_p ++ wX1 g a_y I_y) := hD
  refine hret 17 ls r2 _ _ u3 dX10_ragged_17 hS hP hD ?_
  exact ⟨(PI.st hPI p_r2.2.choose_spec), (KP.tr (KP.rf I_p) (KP.st p_r2.2.choose_spec))⟩

set_option maxHeartbeats 4000000 in
set_option maxRecDepth 100000 in
theorem kX10_leastRagged (l : Launch) (g : gG) (a_p : Nat → Nat) (I_p : Nat → Nat → Int32) (J_p : Nat → Nat → Int64) (a_y : Nat → Nat) (I_y : Nat → Nat → Int32) (hl_p_layout : a_p 114 = a_y 0) (hPI : PI I_p) (hL : LI I_y) : EffI l g yX10_leastRagged wsX10_leastRagged 2 [.ref (a_p 0)] (wX10 g a_p I_p J_p ++ wX1 g a_y I_y) (fun (u : ((Nat → Nat → Int32) × (Nat → Nat → Int32))) => wX10 g a_p (u.1) J_p ++ wX1 g a_y (u.2)) (fun r (u : ((Nat → Nat → Int32) × (Nat → Nat → Int32))) => PI (u.1) ∧ LI (u.2) ∧ KP I_p (u.1)) := by
  refine EffI.st (cc := cX10_leastRagged) (maxL := 2) (by decide) rfl (Nat.le_of_ble_eq_true rfl) (fun p e s m args below meth c A Q ls fx hK hP hD hA hS hl hret => ?_)
  have hx := fx.1
  have hb := fx.2.1
  have hml := fx.2.2.1
  have hown := fx.2.2.2.1
  have hts := fx.2.2.2.2
  have hl : lv_has ls 2 [(0, .ref (a_p 0))] := hl
  have hP : va_P g.1 vwCl (wX10 g a_p I_p J_p ++ wX1 g a_y I_y) s.heap := hP
  have hf_61 := hts _ (uT _ _ u_37)
  have hf_78 := hts _ (uT _ _ u_46)
  have hi_X10 : ∀ w ∈ wsX100, w.before args s = true := fun w h => hts w (uT _ w (u_wsX100 w h))
  have lm1 : (-1 : Int32).toInt = -1 := by decide
  have lm0 : (0 : Int32).toInt = 0 := by decide
  have lm2 : (1 : Int32).toInt = 1 := by decide
  have hp1 := hPI.1
  have hp2 := hPI.2.1
  have hpc := LI.pc hL
  have hln := LI.ln hL
  have hwd := LI.wd hL
  have lq6 : (6 : Int32).toInt = 6 := by decide
  have lq7 : (7 : Int32).toInt = 7 := by decide
  refine lv_aload_n hx hb dX10_leastRagged_0 rfl (lv_at hl 0 rfl) ?_
  refine va_get (D := g.1) (ci := 10) (v := .int (I_p 0 11)) (C := RX10) (T := TX10) (N := 20) hx hb hi_X10 (fun _ h => h) hown hK.1 hP 0 rfl rfl 11 (by decide) hf_61 (fun _ h9 => h9) rfl dX10_leastRagged_1 ?_
  refine q_if_ne (tgt := 14) hx hb dX10_leastRagged_4 (by decide) rfl (fun b_4 k_4 => ?_) (fun b_4 k_4 => ?_)
  · refine lv_aload_n hx hb dX10_leastRagged_14 rfl (lv_at hl 0 rfl) ?_
    refine va_get (D := g.1) (ci := 10) (v := .ref (a_y 0)) (C := RX10) (T := TX10) (N := 20) hx hb hi_X10 (fun _ h => h) hown hK.1 hP 0 rfl rfl 14 (by decide) hf_78 (fun _ h9 => h9) (congrArg (fun z => some (Value.ref z)) hl_p_layout) dX10_leastRagged_15 ?_
    refine EffI.cv (wr := (wX10 g a_p I_p J_p)) (w' := fun u2 => wX10 g a_p I_p J_p ++ wX1 g a_y u2) (As := []) (kX1_leastRaggedness l g a_y I_y hL) fx (gUV (uT _) u_1283 u_1284 u_1285 u_45 u_1286) rfl hdX1_leastRaggedness ⟨Nat.le_of_ble_eq_true rfl, Nat.le_of_ble_eq_true rfl⟩ hK hP hD hS hA [2, 3, 4, 5, 6, 7, 8] [0, 1] [0, 1, 2, 3, 4, 5, 6, 7, 8] rfl rfl rfl rfl (by decide) rfl (fun _ => rfl) rfl rfl rfl rfl hl.1 (Nat.le_of_ble_eq_true rfl) dX10_leastRagged_18 (fun r1 u2 H locs p_r1 hP hD hS => ?_)
    have hP : va_P g.1 vwCl (wX10 g a_p I_p J_p ++ wX1 g a_y u2) H := hP
    have hD : va_D A (wX10 g a_p I_p J_p ++ wX1 g a_y u2) := hD
    refine lv_istore_n (lv' := [(1, .int r1), (0, .ref (a_p 0))]) hx hb dX10_leastRagged_21 rfl hl (by decide) rfl (fun ls hl => ?_)
    refine lv_aload_n hx hb dX10_leastRagged_22 rfl (lv_at hl 1 rfl) ?_
    refine lv_iload_n hx hb dX10_leastRagged_23 rfl (lv_at hl 0 rfl) ?_
    refine lv_iconst (v := -1) hx hb dX10_leastRagged_24 (by decide) ?_
    refine q_icmp_eq (tgt := 32) hx hb dX10_leastRagged_25 (by decide) rfl (by decide : (-1 : Int32).toInt = -1) (fun k_25 => ?_) (fun k_25 => ?_)
    · refine lv_iconst (v := 0) hx hb dX10_leastRagged_32 (by decide) ?_
      refine lv_iload_n hx hb dX10_leastRagged_33 rfl (lv_at hl 0 rfl) ?_
      refine lv_bipush (v := 7) hx hb dX10_leastRagged_34 (by decide) ?_
      refine EffI.cv (wr := (wX1 g a_y u2)) (w' := fun u4 => wX10 g a_p u4 J_p ++ wX1 g a_y u2) (As := [.int (0 : Int32), .int r1, .int (7 : Int32)]) (kX10_answerOr l g a_p I_p J_p (0 : Int32) r1 (7 : Int32)) fx (gUV (uT _) u_781 u_782 u_783 u_2 u_784) rfl hdX10_answerOr ⟨Nat.le_of_ble_eq_true rfl, Nat.le_of_ble_eq_true rfl⟩ hK hP hD hS hA [0, 1] [2, 3, 4, 5, 6, 7, 8] [7, 8, 0, 1, 2, 3, 4, 5, 6] rfl rfl rfl rfl (by decide) rfl (fun _ => rfl) rfl rfl rfl rfl hl.1 (Nat.le_of_ble_eq_true rfl) dX10_leastRagged_36 (fun r3 u4 H locs p_r3 hP hD hS => ?_)
      have hP : va_P g.1 vwCl (wX10 g a_p u4 J_p ++ wX1 g a_y u2) H := hP
      have hD : va_D A (wX10 g a_p u4 J_p ++ wX1 g a_y u2) := hD
      refine hret 39 ls r3 _ _ (u4, u2) dX10_leastRagged_39 hS hP hD ?_
      exact ⟨(PI.st hPI p_r3.2.choose_spec), p_r1, (KP.tr (KP.rf I_p) (KP.st p_r3.2.choose_spec))⟩
    · refine lv_iconst (v := 1) hx hb dX10_leastRagged_28 (by decide) ?_
      refine lv_goto (tgt := 33) hx hb dX10_leastRagged_29 (by decide) ?_
      refine lv_iload_n hx hb dX10_leastRagged_33 rfl (lv_at hl 0 rfl) ?_
      refine lv_bipush (v := 7) hx hb dX10_leastRagged_34 (by decide) ?_
      refine EffI.cv (wr := (wX1 g a_y u2)) (w' := fun u6 => wX10 g a_p u6 J_p ++ wX1 g a_y u2) (As := [.int (1 : Int32), .int r1, .int (7 : Int32)]) (kX10_answerOr l g a_p I_p J_p (1 : Int32) r1 (7 : Int32)) fx (gUV (uT _) u_781 u_782 u_783 u_2 u_784) rfl hdX10_answerOr ⟨Nat.le_of_ble_eq_true rfl, Nat.le_of_ble_eq_true rfl⟩ hK hP hD hS hA [0, 1] [2, 3, 4, 5, 6, 7, 8] [7, 8, 0, 1, 2, 3, 4, 5, 6] rfl rfl rfl rfl (by decide) rfl (fun _ => rfl) rfl rfl rfl rfl hl.1 (Nat.le_of_ble_eq_true rfl) dX10_leastRagged_36 (fun r5 u6 H locs p_r5 hP hD hS => ?_)
      have hP : va_P g.1 vwCl (wX10 g a_p u6 J_p ++ wX1 g a_y u2) H := hP
      have hD : va_D A (wX10 g a_p u6 J_p ++ wX1 g a_y u2) := hD
      refine hret 39 ls r5 _ _ (u6, u2) dX10_leastRagged_39 hS hP hD ?_
      exact ⟨(PI.st hPI p_r5.2.choose_spec), p_r1, (KP.tr (KP.rf I_p) (KP.st p_r5.2.choose_spec))⟩
  · refine lv_aload_n hx hb dX10_leastRagged_7 rfl (lv_at hl 0 rfl) ?_
    refine lv_bipush (v := 6) hx hb dX10_leastRagged_8 (by decide) ?_
    refine EffI.cv (wr := (wX1 g a_y I_y)) (w' := fun u8 => wX10 g a_p u8 J_p ++ wX1 g a_y I_y) (As := [.int (6 : Int32)]) (kX10_refuse l g a_p I_p J_p (6 : Int32)) fx (gUV (uT _) u_295 u_296 u_297 u_2 u_298) rfl hdX10_refuse ⟨Nat.le_of_ble_eq_true rfl, Nat.le_of_ble_eq_true rfl⟩ hK hP hD hS hA [0, 1] [2, 3, 4, 5, 6, 7, 8] [7, 8, 0, 1, 2, 3, 4, 5, 6] rfl rfl rfl rfl (by decide) rfl (fun _ => rfl) rfl rfl rfl rfl hl.1 (Nat.le_of_ble_eq_true rfl) dX10_leastRagged_10 (fun r7 u8 H locs p_r7 hP hD hS => ?_)
    have hP : va_P g.1 vwCl (wX10 g a_p u8 J_p ++ wX1 g a_y I_y) H := hP
    have hD : va_D A (wX10 g a_p u8 J_p ++ wX1 g a_y I_y) := hD
    refine hret 13 ls r7 _ _ (u8, I_y) dX10_leastRagged_13 hS hP hD ?_
    exact ⟨(PI.st hPI p_r7.2), hL, (KP.tr (KP.rf I_p) (KP.st p_r7.2))⟩

set_option maxHeartbeats 4000000 in
set_option maxRecDepth 100000 in
theorem kX10_mirror (l : Launch) (g : gG) (a_p : Nat → Nat) (I_p : Nat → Nat → Int32) (J_p : Nat → Nat → Int64) (cell : Int32) (hPI : PI I_p) : EffI l g yX10_mirror wsX10_mirror 1 [.ref (a_p 0), .int cell] (wX10 g a_p I_p J_p) (fun (u : (Nat → Nat → Int32)) => wX10 g a_p u J_p) (fun r (u : (Nat → Nat → Int32)) => PI (u) ∧ KP I_p (u)) := by
  refine EffI.st (cc := cX10_mirror) (maxL := 2) (by decide) rfl (Nat.le_of_ble_eq_true rfl) (fun p e s m args below meth c A Q ls fx hK hP hD hA hS hl hret => ?_)
  have hx := fx.1
  have hb := fx.2.1
  have hml := fx.2.2.1
  have hown := fx.2.2.2.1
  have hts := fx.2.2.2.2
  have hl : lv_has ls 2 [(0, .ref (a_p 0)), (1, .int cell)] := hl
  have hP : va_P g.1 vwCl (wX10 g a_p I_p J_p) s.heap := hP
  have lm1 : (-1 : Int32).toInt = -1 := by decide
  have lm0 : (0 : Int32).toInt = 0 := by decide
  have lm2 : (1 : Int32).toInt = 1 := by decide
  have hp1 := hPI.1
  have hp2 := hPI.2.1
  refine lv_iload_n hx hb dX10_mirror_0 rfl (lv_at hl 1 rfl) ?_
  refine lv_iconst (v := 1) hx hb dX10_mirror_1 (by decide) ?_
  refine q_icmp_lt (tgt := 11) hx hb dX10_mirror_2 (by decide) rfl (by decide : (1 : Int32).toInt = 1) (fun k_2 => ?_) (fun k_2 => ?_)
  · refine lv_aload_n hx hb dX10_mirror_11 rfl (lv_at hl 0 rfl) ?_
    refine lv_iconst (v := 1) hx hb dX10_mirror_12 (by decide) ?_
    refine EffI.cv (wr := ([])) (w' := fun u2 => wX10 g a_p u2 J_p) (As := [.int (1 : Int32)]) (kX10_refuse l g a_p I_p J_p (1 : Int32)) fx (gUV (uT _) u_295 u_296 u_297 u_2 u_298) rfl hdX10_refuse ⟨Nat.le_of_ble_eq_true rfl, Nat.le_of_ble_eq_true rfl⟩ hK hP hD hS hA [0, 1] [] [0, 1] rfl rfl rfl rfl (by decide) rfl (fun _ => rfl) rfl rfl rfl rfl hl.1 (Nat.le_of_ble_eq_true rfl) dX10_mirror_13 (fun r1 u2 H locs p_r1 hP hD hS => ?_)
    have hP : va_P g.1 vwCl (wX10 g a_p u2 J_p) H := hP
    have hD : va_D A (wX10 g a_p u2 J_p) := hD
    refine hret 16 ls r1 _ _ u2 dX10_mirror_16 hS hP hD ?_
    exact ⟨(PI.st hPI p_r1.2), (KP.tr (KP.rf I_p) (KP.st p_r1.2))⟩
  · refine lv_iload_n hx hb dX10_mirror_5 rfl (lv_at hl 1 rfl) ?_
    refine lv_bipush (v := 63) hx hb dX10_mirror_6 (by decide) ?_
    refine q_icmp_le (tgt := 17) hx hb dX10_mirror_8 (by decide) rfl (by decide : (63 : Int32).toInt = 63) (fun k_8 => ?_) (fun k_8 => ?_)
    · refine lv_aload_n hx hb dX10_mirror_17 rfl (lv_at hl 0 rfl) ?_
      refine lv_iload_n hx hb dX10_mirror_18 rfl (lv_at hl 1 rfl) ?_
      refine PurI.cs (C := RX10) (As := [.int cell]) (kX10_mirrorOf l g cell) fx (gUS (uT _) u_1449 u_1450 u_2 u_1451) rfl hdX10_mirrorOf ⟨Nat.le_of_ble_eq_true rfl, Nat.le_of_ble_eq_true rfl⟩ hK hP [] rfl rfl rfl hl.1 (Nat.le_of_ble_eq_true rfl) dX10_mirror_19 (fun r3 p_r3 => ?_)
      refine EffI.cv (wr := ([])) (w' := fun u5 => wX10 g a_p u5 J_p) (As := [.int r3]) (kX10_answer l g a_p I_p J_p r3) fx (gUV (uT _) u_497 u_498 u_499 u_2 u_500) rfl hdX10_answer ⟨Nat.le_of_ble_eq_true rfl, Nat.le_of_ble_eq_true rfl⟩ hK hP hD hS hA [0, 1] [] [0, 1] rfl rfl rfl rfl (by decide) rfl (fun _ => rfl) rfl rfl rfl rfl hl.1 (Nat.le_of_ble_eq_true rfl) dX10_mirror_22 (fun r4 u5 H locs p_r4 hP hD hS => ?_)
      have hP : va_P g.1 vwCl (wX10 g a_p u5 J_p) H := hP
      have hD : va_D A (wX10 g a_p u5 J_p) := hD
      refine hret 25 ls r4 _ _ u5 dX10_mirror_25 hS hP hD ?_
      exact ⟨(PI.st hPI p_r4.2), (KP.tr (KP.rf I_p) (KP.st p_r4.2))⟩
    · refine lv_aload_n hx hb dX10_mirror_11 rfl (lv_at hl 0 rfl) ?_
      refine lv_iconst (v := 1) hx hb dX10_mirror_12 (by decide) ?_
      refine EffI.cv (wr := ([])) (w' := fun u7 => wX10 g a_p u7 J_p) (As := [.int (1 : Int32)]) (kX10_refuse l g a_p I_p J_p (1 : Int32)) fx (gUV (uT _) u_295 u_296 u_297 u_2 u_298) rfl hdX10_refuse ⟨Nat.le_of_ble_eq_true rfl, Nat.le_of_ble_eq_true rfl⟩ hK hP hD hS hA [0, 1] [] [0, 1] rfl rfl rfl rfl (by decide) rfl (fun _ => rfl) rfl rfl rfl rfl hl.1 (Nat.le_of_ble_eq_true rfl) dX10_mirror_13 (fun r6 u7 H locs p_r6 hP hD hS => ?_)
      have hP : va_P g.1 vwCl (wX10 g a_p u7 J_p) H := hP
      have hD : va_D A (wX10 g a_p u7 J_p) := hD
      refine hret 16 ls r6 _ _ u7 dX10_mirror_16 hS hP hD ?_
      exact ⟨(PI.st hPI p_r6.2), (KP.tr (KP.rf I_p) (KP.st p_r6.2))⟩

set_option maxHeartbeats 4000000 in
set_option maxRecDepth 100000 in
theorem kX10_turned (l : Launch) (g : gG) (a_p : Nat → Nat) (I_p : Nat → Nat → Int32) (J_p : Nat → Nat → Int64) (a_t : Nat → Nat) (I_t : Nat → Nat → Int32) (rule : Int32) (hl_p_table : a_p 109 = a_t 0) (hPI : PI I_p) (hT : TI I_t) : EffI l g yX10_turned wsX10_turned 2 [.ref (a_p 0), .int rule] (wX10 g a_p I_p J_p ++ wX7 g a_t I_t) (fun (u : (Nat → Nat → Int32)) => wX10 g a_p u J_p ++ wX7 g a_t I_t) (fun r (u : (Nat → Nat → Int32)) => PI (u) ∧ KP I_p (u) ∧ ((¬ (0 ≤ rule.toInt ∧ rule.toInt < (I_t 0 0).toInt) ∧ r = -1) ∨ ((0 ≤ rule.toInt ∧ rule.toInt < (I_t 0 0).toInt) ∧ tbFst (tbMir (cC I_t) (cL I_t) rule.toInt.toNat) (I_t 0 0).toInt r))) := by
  refine EffI.st (cc := cX10_turned) (maxL := 3) (by decide) rfl (Nat.le_of_ble_eq_true rfl) (fun p e s m args below meth c A Q ls fx hK hP hD hA hS hl hret => ?_)
  have hx := fx.1
  have hb := fx.2.1
  have hml := fx.2.2.1
  have hown := fx.2.2.2.1
  have hts := fx.2.2.2.2
  have hl : lv_has ls 3 [(0, .ref (a_p 0)), (1, .int rule)] := hl
  have hP : va_P g.1 vwCl (wX10 g a_p I_p J_p ++ wX7 g a_t I_t) s.heap := hP
  have hf_50 := hts _ (uT _ _ u_32)
  have hf_181 := hts _ (uT _ _ u_357)
  have hi_X10 : ∀ w ∈ wsX100, w.before args s = true := fun w h => hts w (uT _ w (u_wsX100 w h))
  have hi_X7 : ∀ w ∈ wsX70, w.before args s = true := fun w h => hts w (uT _ w (u_wsX70 w h))
  have lm1 : (-1 : Int32).toInt = -1 := by decide
  have lm0 : (0 : Int32).toInt = 0 := by decide
  have lm2 : (1 : Int32).toInt = 1 := by decide
  have hp1 := hPI.1
  have hp2 := hPI.2.1
  have hru := TI.ru hT
  have hlt3 := TI.li hT
  have hlt4 := TI.pa hT
  have lq6 : (6 : Int32).toInt = 6 := by decide
  refine lv_aload_n hx hb dX10_turned_0 rfl (lv_at hl 0 rfl) ?_
  refine va_get (D := g.1) (ci := 10) (v := .ref (a_t 0)) (C := RX10) (T := TX10) (N := 20) hx hb hi_X10 (fun _ h => h) hown hK.1 hP 0 rfl rfl 9 (by decide) hf_50 (fun _ h9 => h9) (congrArg (fun z => some (Value.ref z)) hl_p_table) dX10_turned_1 ?_
  refine lv_iload_n hx hb dX10_turned_4 rfl (lv_at hl 1 rfl) ?_
  refine PurI.cv (As := [.int rule]) (kX7_has l g a_t I_t rule) fx (gUV (uT _) u_796 u_797 u_798 u_31 u_799) rfl hdX7_has ⟨Nat.le_of_ble_eq_true rfl, Nat.le_of_ble_eq_true rfl⟩ hK hP [2, 3, 4, 5, 6, 7, 8] rfl rfl rfl rfl rfl hl.1 (Nat.le_of_ble_eq_true rfl) dX10_turned_5 (fun r1 p_r1 => ?_)
  refine q_if_ne (tgt := 17) hx hb dX10_turned_8 (by decide) rfl (fun b_8 k_8 => ?_) (fun b_8 k_8 => ?_)
  · have q_8 := bP.t p_r1 b_8
    refine lv_iconst (v := 0) hx hb dX10_turned_17 (by decide) ?_
    refine lv_istore_n (lv' := [(2, .int (0 : Int32)), (0, .ref (a_p 0)), (1, .int rule)]) hx hb dX10_turned_18 rfl hl (by decide) rfl (fun ls hl => ?_)
    have L19 : ∀ (nn : Nat) (v2_19 : Int32), (hv_19 : 0 ≤ v2_19.toInt ∧ v2_19.toInt ≤ 24) → (hno_19 : ∀ i : Nat, (i : Int) < v2_19.toInt → ¬ tbMir (cC I_t) (cL I_t) rule.toInt.toNat i) → ((25 - v2_19.toInt) < (nn : Int)) → ∀ (H : Heap) (locs : List Loc), va_P g.1 vwCl (wX10 g a_p I_p J_p ++ wX7 g a_t I_t) H → va_D A (wX10 g a_p I_p J_p ++ wX7 g a_t I_t) → va_S A s.heap H locs → ∀ ls : Array Slot, lv_has ls 3 [(2, .int v2_19), (0, .ref (a_p 0)), (1, .int rule)] → W p l e (rm 2) s m args below meth c H locs 0 0 Q (F0 m 19 ls []) := by
      intro n_19
      induction n_19 with
      | zero =>
        intro v2_19 hv_19 hno_19 hms_19 H locs hP hD hS ls hl
        exfalso; omega
      | succ n_19 ih_19 =>
        intro v2_19 hv_19 hno_19 hms_19 H locs hP hD hS ls hl
        refine lv_iload_n hx hb dX10_turned_19 rfl (lv_at hl 0 rfl) ?_
        refine lv_aload_n hx hb dX10_turned_20 rfl (lv_at hl 1 rfl) ?_
        refine va_get (D := g.1) (ci := 10) (v := .ref (a_t 0)) (C := RX10) (T := TX10) (N := 20) hx hb hi_X10 (fun _ h => h) hown hK.1 hP 0 rfl rfl 9 (by decide) hf_50 (fun _ h9 => h9) (congrArg (fun z => some (Value.ref z)) hl_p_table) dX10_turned_21 ?_
        refine va_get (D := g.1) (ci := 7) (v := .int (I_t 0 0)) (C := RX7) (T := TX7) (N := 8) hx hb hi_X7 (fun _ h => h) hown hK.1 hP 2 rfl rfl 0 (by decide) hf_181 (fun _ h9 => h9) rfl dX10_turned_24 ?_
        refine q_icmp_ge (tgt := 54) hx hb dX10_turned_27 (by decide) rfl rfl (fun k_27 => ?_) (fun k_27 => ?_)
        · refine lv_aload_n hx hb dX10_turned_54 rfl (lv_at hl 1 rfl) ?_
          refine lv_bipush (v := 6) hx hb dX10_turned_55 (by decide) ?_
          refine EffI.cv (wr := (wX7 g a_t I_t)) (w' := fun u3 => wX10 g a_p u3 J_p ++ wX7 g a_t I_t) (As := [.int (6 : Int32)]) (kX10_refuse l g a_p I_p J_p (6 : Int32)) fx (gUV (uT _) u_295 u_296 u_297 u_2 u_298) rfl hdX10_refuse ⟨Nat.le_of_ble_eq_true rfl, Nat.le_of_ble_eq_true rfl⟩ hK hP hD hS hA [0, 1] [2, 3, 4, 5, 6, 7, 8] [7, 8, 0, 1, 2, 3, 4, 5, 6] rfl rfl rfl rfl (by decide) rfl (fun _ => rfl) rfl rfl rfl rfl hl.1 (Nat.le_of_ble_eq_true rfl) dX10_turned_57 (fun r2 u3 H locs p_r2 hP hD hS => ?_)
          have hP : va_P g.1 vwCl (wX10 g a_p u3 J_p ++ wX7 g a_t I_t) H := hP
          have hD : va_D A (wX10 g a_p u3 J_p ++ wX7 g a_t I_t) := hD
          refine hret 60 ls r2 _ _ u3 dX10_turned_60 hS hP hD ?_
          exact ⟨(PI.st hPI p_r2.2), (KP.tr (KP.rf I_p) (KP.st p_r2.2)), (by exact Or.inr ⟨by omega, Or.inr ⟨fun i hi => hno_19 i (by omega), p_r2.1⟩⟩)⟩
        · refine lv_aload_n hx hb dX10_turned_30 rfl (lv_at hl 1 rfl) ?_
          refine va_get (D := g.1) (ci := 10) (v := .ref (a_t 0)) (C := RX10) (T := TX10) (N := 20) hx hb hi_X10 (fun _ h => h) hown hK.1 hP 0 rfl rfl 9 (by decide) hf_50 (fun _ h9 => h9) (congrArg (fun z => some (Value.ref z)) hl_p_table) dX10_turned_31 ?_
          refine lv_iload_n hx hb dX10_turned_34 rfl (lv_at hl 2 rfl) ?_
          refine lv_iload_n hx hb dX10_turned_35 rfl (lv_at hl 0 rfl) ?_
          refine PurI.cv (As := [.int rule, .int v2_19]) (kX7_areMirrors l g a_t I_t rule v2_19 (by omega) (by omega) hT) fx (gUV (uT _) u_1463 u_1464 u_1465 u_31 u_1466) rfl hdX7_areMirrors ⟨Nat.le_of_ble_eq_true rfl, Nat.le_of_ble_eq_true rfl⟩ hK hP [2, 3, 4, 5, 6, 7, 8] rfl rfl rfl rfl rfl hl.1 (Nat.le_of_ble_eq_true rfl) dX10_turned_36 (fun r4 p_r4 => ?_)
          refine q_if_eq (tgt := 48) hx hb dX10_turned_39 (by decide) rfl (fun b_39 k_39 => ?_) (fun b_39 k_39 => ?_)
          · have q_39 := bP.f p_r4 b_39
            refine r_iinc (lv' := fun i5 => [(2, .int i5), (0, .ref (a_p 0)), (1, .int rule)]) hx hb dX10_turned_48 hl (k := 0) rfl (by decide) rfl (by decide) (fun _ => rfl) (fun i5 e_i5 t_i5 ls hl => ?_)
            try have t_i5 := t_i5 (by omega)
            refine lv_goto (tgt := 19) hx hb dX10_turned_51 (by decide) ?_
            exact ih_19 i5 (by omega) (tq_ext (P := fun i => ¬ tbMir (cC I_t) (cL I_t) rule.toInt.toNat i) hno_19 (by omega) (by omega) q_39) (by omega) _ _ hP hD hS ls hl
          · have q_39 := bP.t p_r4 b_39
            refine lv_aload_n hx hb dX10_turned_42 rfl (lv_at hl 1 rfl) ?_
            refine lv_iload_n hx hb dX10_turned_43 rfl (lv_at hl 0 rfl) ?_
            refine EffI.cv (wr := (wX7 g a_t I_t)) (w' := fun u7 => wX10 g a_p u7 J_p ++ wX7 g a_t I_t) (As := [.int v2_19]) (kX10_answer l g a_p I_p J_p v2_19) fx (gUV (uT _) u_497 u_498 u_499 u_2 u_500) rfl hdX10_answer ⟨Nat.le_of_ble_eq_true rfl, Nat.le_of_ble_eq_true rfl⟩ hK hP hD hS hA [0, 1] [2, 3, 4, 5, 6, 7, 8] [7, 8, 0, 1, 2, 3, 4, 5, 6] rfl rfl rfl rfl (by decide) rfl (fun _ => rfl) rfl rfl rfl rfl hl.1 (Nat.le_of_ble_eq_true rfl) dX10_turned_44 (fun r6 u7 H locs p_r6 hP hD hS => ?_)
            have hP : va_P g.1 vwCl (wX10 g a_p u7 J_p ++ wX7 g a_t I_t) H := hP
            have hD : va_D A (wX10 g a_p u7 J_p ++ wX7 g a_t I_t) := hD
            refine hret 47 ls r6 _ _ u7 dX10_turned_47 hS hP hD ?_
            exact ⟨(PI.st hPI p_r6.2), (KP.tr (KP.rf I_p) (KP.st p_r6.2)), (by exact Or.inr ⟨by omega, Or.inl ⟨v2_19.toInt.toNat, by omega, q_39, fun i hi => hno_19 i (by omega), by rw [p_r6.1]; omega⟩⟩)⟩
    exact L19 ((25 - (0 : Int32).toInt) + 1).toNat (0 : Int32) (by omega) (fun i q => by rw [lm0] at q; exfalso; omega) (by omega) _ _ hP hD hS ls hl
  · have q_8 := bP.f p_r1 b_8
    refine lv_aload_n hx hb dX10_turned_11 rfl (lv_at hl 0 rfl) ?_
    refine lv_iconst (v := 1) hx hb dX10_turned_12 (by decide) ?_
    refine EffI.cv (wr := (wX7 g a_t I_t)) (w' := fun u9 => wX10 g a_p u9 J_p ++ wX7 g a_t I_t) (As := [.int (1 : Int32)]) (kX10_refuse l g a_p I_p J_p (1 : Int32)) fx (gUV (uT _) u_295 u_296 u_297 u_2 u_298) rfl hdX10_refuse ⟨Nat.le_of_ble_eq_true rfl, Nat.le_of_ble_eq_true rfl⟩ hK hP hD hS hA [0, 1] [2, 3, 4, 5, 6, 7, 8] [7, 8, 0, 1, 2, 3, 4, 5, 6] rfl rfl rfl rfl (by decide) rfl (fun _ => rfl) rfl rfl rfl rfl hl.1 (Nat.le_of_ble_eq_true rfl) dX10_turned_13 (fun r8 u9 H locs p_r8 hP hD hS => ?_)
    have hP : va_P g.1 vwCl (wX10 g a_p u9 J_p ++ wX7 g a_t I_t) H := hP
    have hD : va_D A (wX10 g a_p u9 J_p ++ wX7 g a_t I_t) := hD
    refine hret 16 ls r8 _ _ u9 dX10_turned_16 hS hP hD ?_
    exact ⟨(PI.st hPI p_r8.2), (KP.tr (KP.rf I_p) (KP.st p_r8.2)), (by exact Or.inl ⟨by omega, p_r8.1⟩)⟩

set_option maxHeartbeats 4000000 in
set_option maxRecDepth 100000 in
theorem kX10_twins (l : Launch) (g : gG) (a_p : Nat → Nat) (I_p : Nat → Nat → Int32) (J_p : Nat → Nat → Int64) (a_t : Nat → Nat) (I_t : Nat → Nat → Int32) (hl_p_table : a_p 109 = a_t 0) (hPI : PI I_p) (hT : TI I_t) : EffI l g yX10_twins wsX10_twins 4 [.ref (a_p 0)] (wX10 g a_p I_p J_p ++ wX7 g a_t I_t) (fun (u : (Nat → Nat → Int32)) => wX10 g a_p u J_p ++ wX7 g a_t I_t) (fun r (u : (Nat → Nat → Int32)) => PI (u) ∧ KP I_p (u) ∧ r.toInt = sumN (twR (I_t 0 1) (cC I_t) (cL I_t) (I_t 0 0).toInt.toNat) (I_t 0 0).toInt.toNat) := by
  refine EffI.st (cc := cX10_twins) (maxL := 1) (by decide) rfl (Nat.le_of_ble_eq_true rfl) (fun p e s m args below meth c A Q ls fx hK hP hD hA hS hl hret => ?_)
  have hx := fx.1
  have hb := fx.2.1
  have hml := fx.2.2.1
  have hown := fx.2.2.2.1
  have hts := fx.2.2.2.2
  have hl : lv_has ls 1 [(0, .ref (a_p 0))] := hl
  have hP : va_P g.1 vwCl (wX10 g a_p I_p J_p ++ wX7 g a_t I_t) s.heap := hP
  have hf_50 := hts _ (uT _ _ u_32)
  have hi_X10 : ∀ w ∈ wsX100, w.before args s = true := fun w h => hts w (uT _ w (u_wsX100 w h))
  have lm1 : (-1 : Int32).toInt = -1 := by decide
  have lm0 : (0 : Int32).toInt = 0 := by decide
  have lm2 : (1 : Int32).toInt = 1 := by decide
  have hp1 := hPI.1
  have hp2 := hPI.2.1
  have hru := TI.ru hT
  have hlt3 := TI.li hT
  have hlt4 := TI.pa hT
  refine lv_aload_n hx hb dX10_twins_0 rfl (lv_at hl 0 rfl) ?_
  refine lv_aload_n hx hb dX10_twins_1 rfl (lv_at hl 0 rfl) ?_
  refine va_get (D := g.1) (ci := 10) (v := .ref (a_t 0)) (C := RX10) (T := TX10) (N := 20) hx hb hi_X10 (fun _ h => h) hown hK.1 hP 0 rfl rfl 9 (by decide) hf_50 (fun _ h9 => h9) (congrArg (fun z => some (Value.ref z)) hl_p_table) dX10_twins_2 ?_
  refine PurI.cv (As := []) (kX7_twinCouples l g a_t I_t hT) fx (gUV (uT _) u_1480 u_1481 u_1482 u_31 u_1483) rfl hdX7_twinCouples ⟨Nat.le_of_ble_eq_true rfl, Nat.le_of_ble_eq_true rfl⟩ hK hP [2, 3, 4, 5, 6, 7, 8] rfl rfl rfl rfl rfl hl.1 (Nat.le_of_ble_eq_true rfl) dX10_twins_5 (fun r1 p_r1 => ?_)
  refine EffI.cv (wr := (wX7 g a_t I_t)) (w' := fun u3 => wX10 g a_p u3 J_p ++ wX7 g a_t I_t) (As := [.int r1]) (kX10_answer l g a_p I_p J_p r1) fx (gUV (uT _) u_497 u_498 u_499 u_2 u_500) rfl hdX10_answer ⟨Nat.le_of_ble_eq_true rfl, Nat.le_of_ble_eq_true rfl⟩ hK hP hD hS hA [0, 1] [2, 3, 4, 5, 6, 7, 8] [7, 8, 0, 1, 2, 3, 4, 5, 6] rfl rfl rfl rfl (by decide) rfl (fun _ => rfl) rfl rfl rfl rfl hl.1 (Nat.le_of_ble_eq_true rfl) dX10_twins_8 (fun r2 u3 H locs p_r2 hP hD hS => ?_)
  have hP : va_P g.1 vwCl (wX10 g a_p u3 J_p ++ wX7 g a_t I_t) H := hP
  have hD : va_D A (wX10 g a_p u3 J_p ++ wX7 g a_t I_t) := hD
  refine hret 11 ls r2 _ _ u3 dX10_twins_11 hS hP hD ?_
  exact ⟨(PI.st hPI p_r2.2), (KP.tr (KP.rf I_p) (KP.st p_r2.2)), (by rw [p_r2.1]; exact p_r1)⟩

set_option maxHeartbeats 4000000 in
set_option maxRecDepth 100000 in
theorem kX10_near (l : Launch) (g : gG) (a_p : Nat → Nat) (I_p : Nat → Nat → Int32) (J_p : Nat → Nat → Int64) (a_t : Nat → Nat) (I_t : Nat → Nat → Int32) (ra : Int32) (rb : Int32) (hl_p_table : a_p 109 = a_t 0) (hPI : PI I_p) (hT : TI I_t) : EffI l g yX10_near wsX10_near 2 [.ref (a_p 0), .int ra, .int rb] (wX10 g a_p I_p J_p ++ wX7 g a_t I_t) (fun (u : (Nat → Nat → Int32)) => wX10 g a_p u J_p ++ wX7 g a_t I_t) (fun r (u : (Nat → Nat → Int32)) => PI (u) ∧ KP I_p (u) ∧ ((¬ ((0 ≤ ra.toInt ∧ ra.toInt < (I_t 0 0).toInt) ∧ 0 ≤ rb.toInt ∧ rb.toInt < (I_t 0 0).toInt) ∧ r = -1) ∨ (((0 ≤ ra.toInt ∧ ra.toInt < (I_t 0 0).toInt) ∧ 0 ≤ rb.toInt ∧ rb.toInt < (I_t 0 0).toInt) ∧ ((((cC I_t ra.toInt.toNat).toInt ≠ (cC I_t rb.toInt.toNat).toInt) ∧ r = -1) ∨ (((cC I_t ra.toInt.toNat).toInt = (cC I_t rb.toInt.toNat).toInt) ∧ r.toInt = nrR (cL I_t) ra.toInt.toNat rb.toInt.toNat (cC I_t ra.toInt.toNat).toInt.toNat))))) := by
  refine EffI.st (cc := cX10_near) (maxL := 3) (by decide) rfl (Nat.le_of_ble_eq_true rfl) (fun p e s m args below meth c A Q ls fx hK hP hD hA hS hl hret => ?_)
  have hx := fx.1
  have hb := fx.2.1
  have hml := fx.2.2.1
  have hown := fx.2.2.2.1
  have hts := fx.2.2.2.2
  have hl : lv_has ls 3 [(0, .ref (a_p 0)), (1, .int ra), (2, .int rb)] := hl
  have hP : va_P g.1 vwCl (wX10 g a_p I_p J_p ++ wX7 g a_t I_t) s.heap := hP
  have hf_50 := hts _ (uT _ _ u_32)
  have hf_219 := hts _ (uT _ _ u_794)
  have hi_X10 : ∀ w ∈ wsX100, w.before args s = true := fun w h => hts w (uT _ w (u_wsX100 w h))
  have hi_X7 : ∀ w ∈ wsX70, w.before args s = true := fun w h => hts w (uT _ w (u_wsX70 w h))
  have lm1 : (-1 : Int32).toInt = -1 := by decide
  have lm0 : (0 : Int32).toInt = 0 := by decide
  have lm2 : (1 : Int32).toInt = 1 := by decide
  have hp1 := hPI.1
  have hp2 := hPI.2.1
  have hru := TI.ru hT
  have hlt3 := TI.li hT
  have hlt4 := TI.pa hT
  have lq7 : (7 : Int32).toInt = 7 := by decide
  refine lv_aload_n hx hb dX10_near_0 rfl (lv_at hl 0 rfl) ?_
  refine va_get (D := g.1) (ci := 10) (v := .ref (a_t 0)) (C := RX10) (T := TX10) (N := 20) hx hb hi_X10 (fun _ h => h) hown hK.1 hP 0 rfl rfl 9 (by decide) hf_50 (fun _ h9 => h9) (congrArg (fun z => some (Value.ref z)) hl_p_table) dX10_near_1 ?_
  refine lv_iload_n hx hb dX10_near_4 rfl (lv_at hl 1 rfl) ?_
  refine PurI.cv (As := [.int ra]) (kX7_has l g a_t I_t ra) fx (gUV (uT _) u_796 u_797 u_798 u_31 u_799) rfl hdX7_has ⟨Nat.le_of_ble_eq_true rfl, Nat.le_of_ble_eq_true rfl⟩ hK hP [2, 3, 4, 5, 6, 7, 8] rfl rfl rfl rfl rfl hl.1 (Nat.le_of_ble_eq_true rfl) dX10_near_5 (fun r1 p_r1 => ?_)
  refine q_if_eq (tgt := 22) hx hb dX10_near_8 (by decide) rfl (fun b_8 k_8 => ?_) (fun b_8 k_8 => ?_)
  · have q_8 := bP.f p_r1 b_8
    refine lv_aload_n hx hb dX10_near_22 rfl (lv_at hl 0 rfl) ?_
    refine lv_iconst (v := 1) hx hb dX10_near_23 (by decide) ?_
    refine EffI.cv (wr := (wX7 g a_t I_t)) (w' := fun u3 => wX10 g a_p u3 J_p ++ wX7 g a_t I_t) (As := [.int (1 : Int32)]) (kX10_refuse l g a_p I_p J_p (1 : Int32)) fx (gUV (uT _) u_295 u_296 u_297 u_2 u_298) rfl hdX10_refuse ⟨Nat.le_of_ble_eq_true rfl, Nat.le_of_ble_eq_true rfl⟩ hK hP hD hS hA [0, 1] [2, 3, 4, 5, 6, 7, 8] [7, 8, 0, 1, 2, 3, 4, 5, 6] rfl rfl rfl rfl (by decide) rfl (fun _ => rfl) rfl rfl rfl rfl hl.1 (Nat.le_of_ble_eq_true rfl) dX10_near_24 (fun r2 u3 H locs p_r2 hP hD hS => ?_)
    have hP : va_P g.1 vwCl (wX10 g a_p u3 J_p ++ wX7 g a_t I_t) H := hP
    have hD : va_D A (wX10 g a_p u3 J_p ++ wX7 g a_t I_t) := hD
    refine hret 27 ls r2 _ _ u3 dX10_near_27 hS hP hD ?_
    exact ⟨(PI.st hPI p_r2.2), (KP.tr (KP.rf I_p) (KP.st p_r2.2)), (by exact Or.inl ⟨by omega, p_r2.1⟩)⟩
  · have q_8 := bP.t p_r1 b_8
    refine lv_aload_n hx hb dX10_near_11 rfl (lv_at hl 0 rfl) ?_
    refine va_get (D := g.1) (ci := 10) (v := .ref (a_t 0)) (C := RX10) (T := TX10) (N := 20) hx hb hi_X10 (fun _ h => h) hown hK.1 hP 0 rfl rfl 9 (by decide) hf_50 (fun _ h9 => h9) (congrArg (fun z => some (Value.ref z)) hl_p_table) dX10_near_12 ?_
    refine lv_iload_n hx hb dX10_near_15 rfl (lv_at hl 2 rfl) ?_
    refine PurI.cv (As := [.int rb]) (kX7_has l g a_t I_t rb) fx (gUV (uT _) u_796 u_797 u_798 u_31 u_799) rfl hdX7_has ⟨Nat.le_of_ble_eq_true rfl, Nat.le_of_ble_eq_true rfl⟩ hK hP [2, 3, 4, 5, 6, 7, 8] rfl rfl rfl rfl rfl hl.1 (Nat.le_of_ble_eq_true rfl) dX10_near_16 (fun r4 p_r4 => ?_)
    refine q_if_ne (tgt := 28) hx hb dX10_near_19 (by decide) rfl (fun b_19 k_19 => ?_) (fun b_19 k_19 => ?_)
    · have q_19 := bP.t p_r4 b_19
      refine lv_aload_n hx hb dX10_near_28 rfl (lv_at hl 0 rfl) ?_
      refine va_get (D := g.1) (ci := 10) (v := .ref (a_t 0)) (C := RX10) (T := TX10) (N := 20) hx hb hi_X10 (fun _ h => h) hown hK.1 hP 0 rfl rfl 9 (by decide) hf_50 (fun _ h9 => h9) (congrArg (fun z => some (Value.ref z)) hl_p_table) dX10_near_29 ?_
      refine va_get (D := g.1) (ci := 7) (v := .ref (a_t 3)) (C := RX7) (T := TX7) (N := 8) hx hb hi_X7 (fun _ h => h) hown hK.1 hP 2 rfl rfl 4 (by decide) hf_219 (fun _ h9 => h9) rfl dX10_near_32 ?_
      refine lv_iload_n hx hb dX10_near_35 rfl (lv_at hl 1 rfl) ?_
      have n_36 : vp_in ra 24 := (t_in (by omega))
      refine va_iald hx hb hK.1 hP 5 0 rfl rfl n_36 dX10_near_36 ?_
      refine q_nm (fun x5 e_x5 => ?_)
      have e_x5 : x5 = (I_t 3) ra.toNatClampNeg := e_x5
      have g_x5 : x5.toInt = ((I_t 3) ra.toNatClampNeg).toInt := congrArg _ e_x5
      have f_x5 := TI.cc hT ra.toNatClampNeg
      rw [← e_x5] at f_x5
      refine lv_aload_n hx hb dX10_near_37 rfl (lv_at hl 0 rfl) ?_
      refine va_get (D := g.1) (ci := 10) (v := .ref (a_t 0)) (C := RX10) (T := TX10) (N := 20) hx hb hi_X10 (fun _ h => h) hown hK.1 hP 0 rfl rfl 9 (by decide) hf_50 (fun _ h9 => h9) (congrArg (fun z => some (Value.ref z)) hl_p_table) dX10_near_38 ?_
      refine va_get (D := g.1) (ci := 7) (v := .ref (a_t 3)) (C := RX7) (T := TX7) (N := 8) hx hb hi_X7 (fun _ h => h) hown hK.1 hP 2 rfl rfl 4 (by decide) hf_219 (fun _ h9 => h9) rfl dX10_near_41 ?_
      refine lv_iload_n hx hb dX10_near_44 rfl (lv_at hl 2 rfl) ?_
      have n_45 : vp_in rb 24 := (t_in (by omega))
      refine va_iald hx hb hK.1 hP 5 0 rfl rfl n_45 dX10_near_45 ?_
      refine q_nm (fun x6 e_x6 => ?_)
      have e_x6 : x6 = (I_t 3) rb.toNatClampNeg := e_x6
      have g_x6 : x6.toInt = ((I_t 3) rb.toNatClampNeg).toInt := congrArg _ e_x6
      have f_x6 := TI.cc hT rb.toNatClampNeg
      rw [← e_x6] at f_x6
      refine q_icmp_eq (tgt := 56) hx hb dX10_near_46 (by decide) rfl rfl (fun k_46 => ?_) (fun k_46 => ?_)
      · refine lv_aload_n hx hb dX10_near_56 rfl (lv_at hl 0 rfl) ?_
        refine lv_aload_n hx hb dX10_near_57 rfl (lv_at hl 0 rfl) ?_
        refine va_get (D := g.1) (ci := 10) (v := .ref (a_t 0)) (C := RX10) (T := TX10) (N := 20) hx hb hi_X10 (fun _ h => h) hown hK.1 hP 0 rfl rfl 9 (by decide) hf_50 (fun _ h9 => h9) (congrArg (fun z => some (Value.ref z)) hl_p_table) dX10_near_58 ?_
        refine lv_iload_n hx hb dX10_near_61 rfl (lv_at hl 1 rfl) ?_
        refine lv_iload_n hx hb dX10_near_62 rfl (lv_at hl 2 rfl) ?_
        refine PurI.cv (As := [.int ra, .int rb]) (kX7_unlikeDots l g a_t I_t ra rb (by omega) (by omega) hT) fx (gUV (uT _) u_1509 u_1510 u_1511 u_31 u_1512) rfl hdX7_unlikeDots ⟨Nat.le_of_ble_eq_true rfl, Nat.le_of_ble_eq_true rfl⟩ hK hP [2, 3, 4, 5, 6, 7, 8] rfl rfl rfl rfl rfl hl.1 (Nat.le_of_ble_eq_true rfl) dX10_near_63 (fun r7 p_r7 => ?_)
        refine EffI.cv (wr := (wX7 g a_t I_t)) (w' := fun u9 => wX10 g a_p u9 J_p ++ wX7 g a_t I_t) (As := [.int r7]) (kX10_answer l g a_p I_p J_p r7) fx (gUV (uT _) u_497 u_498 u_499 u_2 u_500) rfl hdX10_answer ⟨Nat.le_of_ble_eq_true rfl, Nat.le_of_ble_eq_true rfl⟩ hK hP hD hS hA [0, 1] [2, 3, 4, 5, 6, 7, 8] [7, 8, 0, 1, 2, 3, 4, 5, 6] rfl rfl rfl rfl (by decide) rfl (fun _ => rfl) rfl rfl rfl rfl hl.1 (Nat.le_of_ble_eq_true rfl) dX10_near_66 (fun r8 u9 H locs p_r8 hP hD hS => ?_)
        have hP : va_P g.1 vwCl (wX10 g a_p u9 J_p ++ wX7 g a_t I_t) H := hP
        have hD : va_D A (wX10 g a_p u9 J_p ++ wX7 g a_t I_t) := hD
        refine hret 69 ls r8 _ _ u9 dX10_near_69 hS hP hD ?_
        exact ⟨(PI.st hPI p_r8.2), (KP.tr (KP.rf I_p) (KP.st p_r8.2)), (by (have c36 : (cC I_t ra.toInt.toNat).toInt = (x5).toInt := congrArg Int32.toInt e_x5.symm; have c45 : (cC I_t rb.toInt.toNat).toInt = (x6).toInt := congrArg Int32.toInt e_x6.symm; exact Or.inr ⟨by omega, Or.inr ⟨by omega, by rw [p_r8.1]; exact p_r7⟩⟩))⟩
      · refine lv_aload_n hx hb dX10_near_49 rfl (lv_at hl 0 rfl) ?_
        refine lv_bipush (v := 7) hx hb dX10_near_50 (by decide) ?_
        refine EffI.cv (wr := (wX7 g a_t I_t)) (w' := fun u11 => wX10 g a_p u11 J_p ++ wX7 g a_t I_t) (As := [.int (7 : Int32)]) (kX10_refuse l g a_p I_p J_p (7 : Int32)) fx (gUV (uT _) u_295 u_296 u_297 u_2 u_298) rfl hdX10_refuse ⟨Nat.le_of_ble_eq_true rfl, Nat.le_of_ble_eq_true rfl⟩ hK hP hD hS hA [0, 1] [2, 3, 4, 5, 6, 7, 8] [7, 8, 0, 1, 2, 3, 4, 5, 6] rfl rfl rfl rfl (by decide) rfl (fun _ => rfl) rfl rfl rfl rfl hl.1 (Nat.le_of_ble_eq_true rfl) dX10_near_52 (fun r10 u11 H locs p_r10 hP hD hS => ?_)
        have hP : va_P g.1 vwCl (wX10 g a_p u11 J_p ++ wX7 g a_t I_t) H := hP
        have hD : va_D A (wX10 g a_p u11 J_p ++ wX7 g a_t I_t) := hD
        refine hret 55 ls r10 _ _ u11 dX10_near_55 hS hP hD ?_
        exact ⟨(PI.st hPI p_r10.2), (KP.tr (KP.rf I_p) (KP.st p_r10.2)), (by (have c36 : (cC I_t ra.toInt.toNat).toInt = (x5).toInt := congrArg Int32.toInt e_x5.symm; have c45 : (cC I_t rb.toInt.toNat).toInt = (x6).toInt := congrArg Int32.toInt e_x6.symm; exact Or.inr ⟨by omega, Or.inl ⟨by omega, p_r10.1⟩⟩))⟩
    · have q_19 := bP.f p_r4 b_19
      refine lv_aload_n hx hb dX10_near_22 rfl (lv_at hl 0 rfl) ?_
      refine lv_iconst (v := 1) hx hb dX10_near_23 (by decide) ?_
      refine EffI.cv (wr := (wX7 g a_t I_t)) (w' := fun u13 => wX10 g a_p u13 J_p ++ wX7 g a_t I_t) (As := [.int (1 : Int32)]) (kX10_refuse l g a_p I_p J_p (1 : Int32)) fx (gUV (uT _) u_295 u_296 u_297 u_2 u_298) rfl hdX10_refuse ⟨Nat.le_of_ble_eq_true rfl, Nat.le_of_ble_eq_true rfl⟩ hK hP hD hS hA [0, 1] [2, 3, 4, 5, 6, 7, 8] [7, 8, 0, 1, 2, 3, 4, 5, 6] rfl rfl rfl rfl (by decide) rfl (fun _ => rfl) rfl rfl rfl rfl hl.1 (Nat.le_of_ble_eq_true rfl) dX10_near_24 (fun r12 u13 H locs p_r12 hP hD hS => ?_)
      have hP : va_P g.1 vwCl (wX10 g a_p u13 J_p ++ wX7 g a_t I_t) H := hP
      have hD : va_D A (wX10 g a_p u13 J_p ++ wX7 g a_t I_t) := hD
      refine hret 27 ls r12 _ _ u13 dX10_near_27 hS hP hD ?_
      exact ⟨(PI.st hPI p_r12.2), (KP.tr (KP.rf I_p) (KP.st p_r12.2)), (by exact Or.inl ⟨by omega, p_r12.1⟩)⟩

set_option maxHeartbeats 4000000 in
set_option maxRecDepth 100000 in
theorem kX10_clash (l : Launch) (g : gG) (a_p : Nat → Nat) (I_p : Nat → Nat → Int32) (J_p : Nat → Nat → Int64) (a_t : Nat → Nat) (I_t : Nat → Nat → Int32) (ra : Int32) (rb : Int32) (hl_p_table : a_p 109 = a_t 0) (hPI : PI I_p) (hT : TI I_t) : EffI l g yX10_clash wsX10_clash 3 [.ref (a_p 0), .int ra, .int rb] (wX10 g a_p I_p J_p ++ wX7 g a_t I_t) (fun (u : (Nat → Nat → Int32)) => wX10 g a_p u J_p ++ wX7 g a_t I_t) (fun r (u : (Nat → Nat → Int32)) => PI (u) ∧ KP I_p (u) ∧ ((¬ ((0 ≤ ra.toInt ∧ ra.toInt < (I_t 0 0).toInt) ∧ 0 ≤ rb.toInt ∧ rb.toInt < (I_t 0 0).toInt) ∧ r = -1) ∨ (((0 ≤ ra.toInt ∧ ra.toInt < (I_t 0 0).toInt) ∧ 0 ≤ rb.toInt ∧ rb.toInt < (I_t 0 0).toInt) ∧ r.toInt = bI (begB (cC I_t) (cL I_t) ra.toInt.toNat rb.toInt.toNat)))) := by
  refine EffI.st (cc := cX10_clash) (maxL := 3) (by decide) rfl (Nat.le_of_ble_eq_true rfl) (fun p e s m args below meth c A Q ls fx hK hP hD hA hS hl hret => ?_)
  have hx := fx.1
  have hb := fx.2.1
  have hml := fx.2.2.1
  have hown := fx.2.2.2.1
  have hts := fx.2.2.2.2
  have hl : lv_has ls 3 [(0, .ref (a_p 0)), (1, .int ra), (2, .int rb)] := hl
  have hP : va_P g.1 vwCl (wX10 g a_p I_p J_p ++ wX7 g a_t I_t) s.heap := hP
  have hf_50 := hts _ (uT _ _ u_32)
  have hi_X10 : ∀ w ∈ wsX100, w.before args s = true := fun w h => hts w (uT _ w (u_wsX100 w h))
  have lm1 : (-1 : Int32).toInt = -1 := by decide
  have lm0 : (0 : Int32).toInt = 0 := by decide
  have lm2 : (1 : Int32).toInt = 1 := by decide
  have hp1 := hPI.1
  have hp2 := hPI.2.1
  have hru := TI.ru hT
  have hlt3 := TI.li hT
  have hlt4 := TI.pa hT
  refine lv_aload_n hx hb dX10_clash_0 rfl (lv_at hl 0 rfl) ?_
  refine va_get (D := g.1) (ci := 10) (v := .ref (a_t 0)) (C := RX10) (T := TX10) (N := 20) hx hb hi_X10 (fun _ h => h) hown hK.1 hP 0 rfl rfl 9 (by decide) hf_50 (fun _ h9 => h9) (congrArg (fun z => some (Value.ref z)) hl_p_table) dX10_clash_1 ?_
  refine lv_iload_n hx hb dX10_clash_4 rfl (lv_at hl 1 rfl) ?_
  refine PurI.cv (As := [.int ra]) (kX7_has l g a_t I_t ra) fx (gUV (uT _) u_796 u_797 u_798 u_31 u_799) rfl hdX7_has ⟨Nat.le_of_ble_eq_true rfl, Nat.le_of_ble_eq_true rfl⟩ hK hP [2, 3, 4, 5, 6, 7, 8] rfl rfl rfl rfl rfl hl.1 (Nat.le_of_ble_eq_true rfl) dX10_clash_5 (fun r1 p_r1 => ?_)
  refine q_if_eq (tgt := 22) hx hb dX10_clash_8 (by decide) rfl (fun b_8 k_8 => ?_) (fun b_8 k_8 => ?_)
  · have q_8 := bP.f p_r1 b_8
    refine lv_aload_n hx hb dX10_clash_22 rfl (lv_at hl 0 rfl) ?_
    refine lv_iconst (v := 1) hx hb dX10_clash_23 (by decide) ?_
    refine EffI.cv (wr := (wX7 g a_t I_t)) (w' := fun u3 => wX10 g a_p u3 J_p ++ wX7 g a_t I_t) (As := [.int (1 : Int32)]) (kX10_refuse l g a_p I_p J_p (1 : Int32)) fx (gUV (uT _) u_295 u_296 u_297 u_2 u_298) rfl hdX10_refuse ⟨Nat.le_of_ble_eq_true rfl, Nat.le_of_ble_eq_true rfl⟩ hK hP hD hS hA [0, 1] [2, 3, 4, 5, 6, 7, 8] [7, 8, 0, 1, 2, 3, 4, 5, 6] rfl rfl rfl rfl (by decide) rfl (fun _ => rfl) rfl rfl rfl rfl hl.1 (Nat.le_of_ble_eq_true rfl) dX10_clash_24 (fun r2 u3 H locs p_r2 hP hD hS => ?_)
    have hP : va_P g.1 vwCl (wX10 g a_p u3 J_p ++ wX7 g a_t I_t) H := hP
    have hD : va_D A (wX10 g a_p u3 J_p ++ wX7 g a_t I_t) := hD
    refine hret 27 ls r2 _ _ u3 dX10_clash_27 hS hP hD ?_
    exact ⟨(PI.st hPI p_r2.2), (KP.tr (KP.rf I_p) (KP.st p_r2.2)), (by exact Or.inl ⟨by omega, p_r2.1⟩)⟩
  · have q_8 := bP.t p_r1 b_8
    refine lv_aload_n hx hb dX10_clash_11 rfl (lv_at hl 0 rfl) ?_
    refine va_get (D := g.1) (ci := 10) (v := .ref (a_t 0)) (C := RX10) (T := TX10) (N := 20) hx hb hi_X10 (fun _ h => h) hown hK.1 hP 0 rfl rfl 9 (by decide) hf_50 (fun _ h9 => h9) (congrArg (fun z => some (Value.ref z)) hl_p_table) dX10_clash_12 ?_
    refine lv_iload_n hx hb dX10_clash_15 rfl (lv_at hl 2 rfl) ?_
    refine PurI.cv (As := [.int rb]) (kX7_has l g a_t I_t rb) fx (gUV (uT _) u_796 u_797 u_798 u_31 u_799) rfl hdX7_has ⟨Nat.le_of_ble_eq_true rfl, Nat.le_of_ble_eq_true rfl⟩ hK hP [2, 3, 4, 5, 6, 7, 8] rfl rfl rfl rfl rfl hl.1 (Nat.le_of_ble_eq_true rfl) dX10_clash_16 (fun r4 p_r4 => ?_)
    refine q_if_ne (tgt := 28) hx hb dX10_clash_19 (by decide) rfl (fun b_19 k_19 => ?_) (fun b_19 k_19 => ?_)
    · have q_19 := bP.t p_r4 b_19
      refine lv_aload_n hx hb dX10_clash_28 rfl (lv_at hl 0 rfl) ?_
      refine lv_aload_n hx hb dX10_clash_29 rfl (lv_at hl 0 rfl) ?_
      refine va_get (D := g.1) (ci := 10) (v := .ref (a_t 0)) (C := RX10) (T := TX10) (N := 20) hx hb hi_X10 (fun _ h => h) hown hK.1 hP 0 rfl rfl 9 (by decide) hf_50 (fun _ h9 => h9) (congrArg (fun z => some (Value.ref z)) hl_p_table) dX10_clash_30 ?_
      refine lv_iload_n hx hb dX10_clash_33 rfl (lv_at hl 1 rfl) ?_
      refine lv_iload_n hx hb dX10_clash_34 rfl (lv_at hl 2 rfl) ?_
      refine PurI.cv (As := [.int ra, .int rb]) (kX7_begins l g a_t I_t ra rb (by omega) (by omega) hT) fx (gUV (uT _) u_1522 u_1486 u_1487 u_31 u_1488) rfl hdX7_begins ⟨Nat.le_of_ble_eq_true rfl, Nat.le_of_ble_eq_true rfl⟩ hK hP [2, 3, 4, 5, 6, 7, 8] rfl rfl rfl rfl rfl hl.1 (Nat.le_of_ble_eq_true rfl) dX10_clash_35 (fun r5 p_r5 => ?_)
      refine q_if_eq (tgt := 45) hx hb dX10_clash_38 (by decide) rfl (fun b_38 k_38 => ?_) (fun b_38 k_38 => ?_)
      · have q_38 := bP.f p_r5 b_38
        refine lv_iconst (v := 0) hx hb dX10_clash_45 (by decide) ?_
        refine EffI.cv (wr := (wX7 g a_t I_t)) (w' := fun u7 => wX10 g a_p u7 J_p ++ wX7 g a_t I_t) (As := [.int (0 : Int32)]) (kX10_answer l g a_p I_p J_p (0 : Int32)) fx (gUV (uT _) u_497 u_498 u_499 u_2 u_500) rfl hdX10_answer ⟨Nat.le_of_ble_eq_true rfl, Nat.le_of_ble_eq_true rfl⟩ hK hP hD hS hA [0, 1] [2, 3, 4, 5, 6, 7, 8] [7, 8, 0, 1, 2, 3, 4, 5, 6] rfl rfl rfl rfl (by decide) rfl (fun _ => rfl) rfl rfl rfl rfl hl.1 (Nat.le_of_ble_eq_true rfl) dX10_clash_46 (fun r6 u7 H locs p_r6 hP hD hS => ?_)
        have hP : va_P g.1 vwCl (wX10 g a_p u7 J_p ++ wX7 g a_t I_t) H := hP
        have hD : va_D A (wX10 g a_p u7 J_p ++ wX7 g a_t I_t) := hD
        refine hret 49 ls r6 _ _ u7 dX10_clash_49 hS hP hD ?_
        exact ⟨(PI.st hPI p_r6.2), (KP.tr (KP.rf I_p) (KP.st p_r6.2)), (by first | exact Or.inr ⟨by omega, by rw [p_r6.1, bI.t q_38.2]; rfl⟩ | exact Or.inr ⟨by omega, by rw [p_r6.1, bI.f q_38]; rfl⟩)⟩
      · have q_38 := bP.t p_r5 b_38
        refine lv_iconst (v := 1) hx hb dX10_clash_41 (by decide) ?_
        refine lv_goto (tgt := 46) hx hb dX10_clash_42 (by decide) ?_
        refine EffI.cv (wr := (wX7 g a_t I_t)) (w' := fun u9 => wX10 g a_p u9 J_p ++ wX7 g a_t I_t) (As := [.int (1 : Int32)]) (kX10_answer l g a_p I_p J_p (1 : Int32)) fx (gUV (uT _) u_497 u_498 u_499 u_2 u_500) rfl hdX10_answer ⟨Nat.le_of_ble_eq_true rfl, Nat.le_of_ble_eq_true rfl⟩ hK hP hD hS hA [0, 1] [2, 3, 4, 5, 6, 7, 8] [7, 8, 0, 1, 2, 3, 4, 5, 6] rfl rfl rfl rfl (by decide) rfl (fun _ => rfl) rfl rfl rfl rfl hl.1 (Nat.le_of_ble_eq_true rfl) dX10_clash_46 (fun r8 u9 H locs p_r8 hP hD hS => ?_)
        have hP : va_P g.1 vwCl (wX10 g a_p u9 J_p ++ wX7 g a_t I_t) H := hP
        have hD : va_D A (wX10 g a_p u9 J_p ++ wX7 g a_t I_t) := hD
        refine hret 49 ls r8 _ _ u9 dX10_clash_49 hS hP hD ?_
        exact ⟨(PI.st hPI p_r8.2), (KP.tr (KP.rf I_p) (KP.st p_r8.2)), (by first | exact Or.inr ⟨by omega, by rw [p_r8.1, bI.t q_38.2]; rfl⟩ | exact Or.inr ⟨by omega, by rw [p_r8.1, bI.f q_38]; rfl⟩)⟩
    · have q_19 := bP.f p_r4 b_19
      refine lv_aload_n hx hb dX10_clash_22 rfl (lv_at hl 0 rfl) ?_
      refine lv_iconst (v := 1) hx hb dX10_clash_23 (by decide) ?_
      refine EffI.cv (wr := (wX7 g a_t I_t)) (w' := fun u11 => wX10 g a_p u11 J_p ++ wX7 g a_t I_t) (As := [.int (1 : Int32)]) (kX10_refuse l g a_p I_p J_p (1 : Int32)) fx (gUV (uT _) u_295 u_296 u_297 u_2 u_298) rfl hdX10_refuse ⟨Nat.le_of_ble_eq_true rfl, Nat.le_of_ble_eq_true rfl⟩ hK hP hD hS hA [0, 1] [2, 3, 4, 5, 6, 7, 8] [7, 8, 0, 1, 2, 3, 4, 5, 6] rfl rfl rfl rfl (by decide) rfl (fun _ => rfl) rfl rfl rfl rfl hl.1 (Nat.le_of_ble_eq_true rfl) dX10_clash_24 (fun r10 u11 H locs p_r10 hP hD hS => ?_)
      have hP : va_P g.1 vwCl (wX10 g a_p u11 J_p ++ wX7 g a_t I_t) H := hP
      have hD : va_D A (wX10 g a_p u11 J_p ++ wX7 g a_t I_t) := hD
      refine hret 27 ls r10 _ _ u11 dX10_clash_27 hS hP hD ?_
      exact ⟨(PI.st hPI p_r10.2), (KP.tr (KP.rf I_p) (KP.st p_r10.2)), (by exact Or.inl ⟨by omega, p_r10.1⟩)⟩

set_option maxHeartbeats 4000000 in
set_option maxRecDepth 100000 in
theorem kX10_clashes (l : Launch) (g : gG) (a_p : Nat → Nat) (I_p : Nat → Nat → Int32) (J_p : Nat → Nat → Int64) (a_t : Nat → Nat) (I_t : Nat → Nat → Int32) (hl_p_table : a_p 109 = a_t 0) (hPI : PI I_p) (hT : TI I_t) : EffI l g yX10_clashes wsX10_clashes 4 [.ref (a_p 0)] (wX10 g a_p I_p J_p ++ wX7 g a_t I_t) (fun (u : (Nat → Nat → Int32)) => wX10 g a_p u J_p ++ wX7 g a_t I_t) (fun r (u : (Nat → Nat → Int32)) => PI (u) ∧ KP I_p (u) ∧ r.toInt = sumN (clR (I_t 0 1) (cC I_t) (cL I_t) (I_t 0 0).toInt.toNat) (I_t 0 0).toInt.toNat) := by
  refine EffI.st (cc := cX10_clashes) (maxL := 1) (by decide) rfl (Nat.le_of_ble_eq_true rfl) (fun p e s m args below meth c A Q ls fx hK hP hD hA hS hl hret => ?_)
  have hx := fx.1
  have hb := fx.2.1
  have hml := fx.2.2.1
  have hown := fx.2.2.2.1
  have hts := fx.2.2.2.2
  have hl : lv_has ls 1 [(0, .ref (a_p 0))] := hl
  have hP : va_P g.1 vwCl (wX10 g a_p I_p J_p ++ wX7 g a_t I_t) s.heap := hP
  have hf_50 := hts _ (uT _ _ u_32)
  have hi_X10 : ∀ w ∈ wsX100, w.before args s = true := fun w h => hts w (uT _ w (u_wsX100 w h))
  have lm1 : (-1 : Int32).toInt = -1 := by decide
  have lm0 : (0 : Int32).toInt = 0 := by decide
  have lm2 : (1 : Int32).toInt = 1 := by decide
  have hp1 := hPI.1
  have hp2 := hPI.2.1
  have hru := TI.ru hT
  have hlt3 := TI.li hT
  have hlt4 := TI.pa hT
  refine lv_aload_n hx hb dX10_clashes_0 rfl (lv_at hl 0 rfl) ?_
  refine lv_aload_n hx hb dX10_clashes_1 rfl (lv_at hl 0 rfl) ?_
  refine va_get (D := g.1) (ci := 10) (v := .ref (a_t 0)) (C := RX10) (T := TX10) (N := 20) hx hb hi_X10 (fun _ h => h) hown hK.1 hP 0 rfl rfl 9 (by decide) hf_50 (fun _ h9 => h9) (congrArg (fun z => some (Value.ref z)) hl_p_table) dX10_clashes_2 ?_
  refine PurI.cv (As := []) (kX7_clashingCouples l g a_t I_t hT) fx (gUV (uT _) u_1531 u_1532 u_1533 u_31 u_1534) rfl hdX7_clashingCouples ⟨Nat.le_of_ble_eq_true rfl, Nat.le_of_ble_eq_true rfl⟩ hK hP [2, 3, 4, 5, 6, 7, 8] rfl rfl rfl rfl rfl hl.1 (Nat.le_of_ble_eq_true rfl) dX10_clashes_5 (fun r1 p_r1 => ?_)
  refine EffI.cv (wr := (wX7 g a_t I_t)) (w' := fun u3 => wX10 g a_p u3 J_p ++ wX7 g a_t I_t) (As := [.int r1]) (kX10_answer l g a_p I_p J_p r1) fx (gUV (uT _) u_497 u_498 u_499 u_2 u_500) rfl hdX10_answer ⟨Nat.le_of_ble_eq_true rfl, Nat.le_of_ble_eq_true rfl⟩ hK hP hD hS hA [0, 1] [2, 3, 4, 5, 6, 7, 8] [7, 8, 0, 1, 2, 3, 4, 5, 6] rfl rfl rfl rfl (by decide) rfl (fun _ => rfl) rfl rfl rfl rfl hl.1 (Nat.le_of_ble_eq_true rfl) dX10_clashes_8 (fun r2 u3 H locs p_r2 hP hD hS => ?_)
  have hP : va_P g.1 vwCl (wX10 g a_p u3 J_p ++ wX7 g a_t I_t) H := hP
  have hD : va_D A (wX10 g a_p u3 J_p ++ wX7 g a_t I_t) := hD
  refine hret 11 ls r2 _ _ u3 dX10_clashes_11 hS hP hD ?_
  exact ⟨(PI.st hPI p_r2.2), (KP.tr (KP.rf I_p) (KP.st p_r2.2)), (by rw [p_r2.1]; exact p_r1)⟩

set_option maxHeartbeats 4000000 in
set_option maxRecDepth 100000 in
theorem kX10_clear (l : Launch) (g : gG) (a_p : Nat → Nat) (I_p : Nat → Nat → Int32) (J_p : Nat → Nat → Int64) (a_t : Nat → Nat) (I_t : Nat → Nat → Int32) (a_c : Nat → Nat) (I_c : Nat → Nat → Int32) (hl_p_table : a_p 109 = a_t 0) (hl_p_code : a_p 116 = a_c 0) (hPI : PI I_p) (hT : TI I_t) (h_cc : gwH (I_t 0 0).toInt.toNat (cC I_t)) : EffI l g yX10_clear wsX10_clear 5 [.ref (a_p 0)] (wX10 g a_p I_p J_p ++ (wX7 g a_t I_t ++ wX0 g a_c I_c)) (fun (u : ((Nat → Nat → Int32) × (Nat → Nat → Int32))) => wX10 g a_p (u.1) J_p ++ (wX7 g a_t I_t ++ wX0 g a_c (u.2))) (fun r (u : ((Nat → Nat → Int32) × (Nat → Nat → Int32))) => PI (u.1) ∧ KP I_p (u.1) ∧ ((r = 1 ∧ gwL (I_t 0 0).toInt.toNat (I_t 0 1) (cC I_t) (cL I_t) 1000000) ∨ (r = 0 ∧ ∃ x : Int, x ≠ 1000000 ∧ gwL (I_t 0 0).toInt.toNat (I_t 0 1) (cC I_t) (cL I_t) x))) := by
  refine EffI.st (cc := cX10_clear) (maxL := 1) (by decide) rfl (Nat.le_of_ble_eq_true rfl) (fun p e s m args below meth c A Q ls fx hK hP hD hA hS hl hret => ?_)
  have hx := fx.1
  have hb := fx.2.1
  have hml := fx.2.2.1
  have hown := fx.2.2.2.1
  have hts := fx.2.2.2.2
  have hl : lv_has ls 1 [(0, .ref (a_p 0))] := hl
  have hP : va_P g.1 vwCl (wX10 g a_p I_p J_p ++ (wX7 g a_t I_t ++ wX0 g a_c I_c)) s.heap := hP
  have hf_50 := hts _ (uT _ _ u_32)
  have hf_92 := hts _ (uT _ _ u_54)
  have hi_X10 : ∀ w ∈ wsX100, w.before args s = true := fun w h => hts w (uT _ w (u_wsX100 w h))
  have lm1 : (-1 : Int32).toInt = -1 := by decide
  have lm0 : (0 : Int32).toInt = 0 := by decide
  have lm2 : (1 : Int32).toInt = 1 := by decide
  have hp1 := hPI.1
  have hp2 := hPI.2.1
  have hru := TI.ru hT
  have hlt3 := TI.li hT
  have hlt4 := TI.pa hT
  refine lv_aload_n hx hb dX10_clear_0 rfl (lv_at hl 0 rfl) ?_
  refine lv_aload_n hx hb dX10_clear_1 rfl (lv_at hl 0 rfl) ?_
  refine va_get (D := g.1) (ci := 10) (v := .ref (a_c 0)) (C := RX10) (T := TX10) (N := 20) hx hb hi_X10 (fun _ h => h) hown hK.1 hP 0 rfl rfl 16 (by decide) hf_92 (fun _ h9 => h9) (congrArg (fun z => some (Value.ref z)) hl_p_code) dX10_clear_2 ?_
  refine lv_aload_n hx hb dX10_clear_5 rfl (lv_at hl 0 rfl) ?_
  refine va_get (D := g.1) (ci := 10) (v := .ref (a_t 0)) (C := RX10) (T := TX10) (N := 20) hx hb hi_X10 (fun _ h => h) hown hK.1 hP 0 rfl rfl 9 (by decide) hf_50 (fun _ h9 => h9) (congrArg (fun z => some (Value.ref z)) hl_p_table) dX10_clear_6 ?_
  refine EffI.cv (wr := (wX10 g a_p I_p J_p)) (w' := fun u2 => wX10 g a_p I_p J_p ++ (wX7 g a_t I_t ++ wX0 g a_c u2)) (As := [.ref (a_t 0)]) (kX0_shortestTwin l g a_c I_c a_t I_t hT h_cc) fx (gUV (uT _) u_1543 u_1544 u_1545 u_53 u_1546) rfl hdX0_shortestTwin ⟨Nat.le_of_ble_eq_true rfl, Nat.le_of_ble_eq_true rfl⟩ hK hP hD hS hA [9, 10, 2, 3, 4, 5, 6, 7, 8] [0, 1] [0, 1, 4, 5, 6, 7, 8, 9, 10, 2, 3] rfl rfl rfl rfl (by decide) rfl (fun _ => rfl) rfl rfl rfl rfl hl.1 (Nat.le_of_ble_eq_true rfl) dX10_clear_9 (fun r1 u2 H locs p_r1 hP hD hS => ?_)
  have hP : va_P g.1 vwCl (wX10 g a_p I_p J_p ++ (wX7 g a_t I_t ++ wX0 g a_c u2)) H := hP
  have hD : va_D A (wX10 g a_p I_p J_p ++ (wX7 g a_t I_t ++ wX0 g a_c u2)) := hD
  refine lv_iconst (v := -1) hx hb dX10_clear_12 (by decide) ?_
  refine q_icmp_ne (tgt := 20) hx hb dX10_clear_13 (by decide) rfl (by decide : (-1 : Int32).toInt = -1) (fun k_13 => ?_) (fun k_13 => ?_)
  · refine lv_iconst (v := 0) hx hb dX10_clear_20 (by decide) ?_
    refine EffI.cv (wr := (wX7 g a_t I_t ++ wX0 g a_c u2)) (w' := fun u4 => wX10 g a_p u4 J_p ++ (wX7 g a_t I_t ++ wX0 g a_c u2)) (As := [.int (0 : Int32)]) (kX10_answer l g a_p I_p J_p (0 : Int32)) fx (gUV (uT _) u_497 u_498 u_499 u_2 u_500) rfl hdX10_answer ⟨Nat.le_of_ble_eq_true rfl, Nat.le_of_ble_eq_true rfl⟩ hK hP hD hS hA [0, 1] [2, 3, 4, 5, 6, 7, 8, 9, 10] [9, 10, 0, 1, 2, 3, 4, 5, 6, 7, 8] rfl rfl rfl rfl (by decide) rfl (fun _ => rfl) rfl rfl rfl rfl hl.1 (Nat.le_of_ble_eq_true rfl) dX10_clear_21 (fun r3 u4 H locs p_r3 hP hD hS => ?_)
    have hP : va_P g.1 vwCl (wX10 g a_p u4 J_p ++ (wX7 g a_t I_t ++ wX0 g a_c u2)) H := hP
    have hD : va_D A (wX10 g a_p u4 J_p ++ (wX7 g a_t I_t ++ wX0 g a_c u2)) := hD
    refine hret 24 ls r3 _ _ (u4, u2) dX10_clear_24 hS hP hD ?_
    exact ⟨(PI.st hPI p_r3.2), (KP.tr (KP.rf I_p) (KP.st p_r3.2)), (by rcases p_r1 with w | w; (first | exact Or.inl ⟨p_r3.1, w.2⟩ | (exfalso; have := congrArg Int32.toInt w.1; omega)); (first | exact Or.inr ⟨p_r3.1, _, w.2.1, w.2.2⟩ | (exfalso; have := w.1; omega)))⟩
  · refine lv_iconst (v := 1) hx hb dX10_clear_16 (by decide) ?_
    refine lv_goto (tgt := 21) hx hb dX10_clear_17 (by decide) ?_
    refine EffI.cv (wr := (wX7 g a_t I_t ++ wX0 g a_c u2)) (w' := fun u6 => wX10 g a_p u6 J_p ++ (wX7 g a_t I_t ++ wX0 g a_c u2)) (As := [.int (1 : Int32)]) (kX10_answer l g a_p I_p J_p (1 : Int32)) fx (gUV (uT _) u_497 u_498 u_499 u_2 u_500) rfl hdX10_answer ⟨Nat.le_of_ble_eq_true rfl, Nat.le_of_ble_eq_true rfl⟩ hK hP hD hS hA [0, 1] [2, 3, 4, 5, 6, 7, 8, 9, 10] [9, 10, 0, 1, 2, 3, 4, 5, 6, 7, 8] rfl rfl rfl rfl (by decide) rfl (fun _ => rfl) rfl rfl rfl rfl hl.1 (Nat.le_of_ble_eq_true rfl) dX10_clear_21 (fun r5 u6 H locs p_r5 hP hD hS => ?_)
    have hP : va_P g.1 vwCl (wX10 g a_p u6 J_p ++ (wX7 g a_t I_t ++ wX0 g a_c u2)) H := hP
    have hD : va_D A (wX10 g a_p u6 J_p ++ (wX7 g a_t I_t ++ wX0 g a_c u2)) := hD
    refine hret 24 ls r5 _ _ (u6, u2) dX10_clear_24 hS hP hD ?_
    exact ⟨(PI.st hPI p_r5.2), (KP.tr (KP.rf I_p) (KP.st p_r5.2)), (by rcases p_r1 with w | w; (first | exact Or.inl ⟨p_r5.1, w.2⟩ | (exfalso; have := congrArg Int32.toInt w.1; omega)); (first | exact Or.inr ⟨p_r5.1, _, w.2.1, w.2.2⟩ | (exfalso; have := w.1; omega)))⟩

set_option maxHeartbeats 4000000 in
set_option maxRecDepth 100000 in
theorem kX10_twin (l : Launch) (g : gG) (a_p : Nat → Nat) (I_p : Nat → Nat → Int32) (J_p : Nat → Nat → Int64) (a_t : Nat → Nat) (I_t : Nat → Nat → Int32) (a_c : Nat → Nat) (I_c : Nat → Nat → Int32) (hl_p_table : a_p 109 = a_t 0) (hl_p_code : a_p 116 = a_c 0) (hPI : PI I_p) (hT : TI I_t) (h_cc : gwH (I_t 0 0).toInt.toNat (cC I_t)) : EffI l g yX10_twin wsX10_twin 5 [.ref (a_p 0)] (wX10 g a_p I_p J_p ++ (wX7 g a_t I_t ++ wX0 g a_c I_c)) (fun (u : ((Nat → Nat → Int32) × (Nat → Nat → Int32))) => wX10 g a_p (u.1) J_p ++ (wX7 g a_t I_t ++ wX0 g a_c (u.2))) (fun r (u : ((Nat → Nat → Int32) × (Nat → Nat → Int32))) => PI (u.1) ∧ KP I_p (u.1) ∧ ((r = -1 ∧ gwL (I_t 0 0).toInt.toNat (I_t 0 1) (cC I_t) (cL I_t) 1000000) ∨ (r.toInt ≠ -1 ∧ r.toInt ≠ 1000000 ∧ gwL (I_t 0 0).toInt.toNat (I_t 0 1) (cC I_t) (cL I_t) r.toInt))) := by
  refine EffI.st (cc := cX10_twin) (maxL := 2) (by decide) rfl (Nat.le_of_ble_eq_true rfl) (fun p e s m args below meth c A Q ls fx hK hP hD hA hS hl hret => ?_)
  have hx := fx.1
  have hb := fx.2.1
  have hml := fx.2.2.1
  have hown := fx.2.2.2.1
  have hts := fx.2.2.2.2
  have hl : lv_has ls 2 [(0, .ref (a_p 0))] := hl
  have hP : va_P g.1 vwCl (wX10 g a_p I_p J_p ++ (wX7 g a_t I_t ++ wX0 g a_c I_c)) s.heap := hP
  have hf_50 := hts _ (uT _ _ u_32)
  have hf_92 := hts _ (uT _ _ u_54)
  have hi_X10 : ∀ w ∈ wsX100, w.before args s = true := fun w h => hts w (uT _ w (u_wsX100 w h))
  have lm1 : (-1 : Int32).toInt = -1 := by decide
  have lm0 : (0 : Int32).toInt = 0 := by decide
  have lm2 : (1 : Int32).toInt = 1 := by decide
  have hp1 := hPI.1
  have hp2 := hPI.2.1
  have hru := TI.ru hT
  have hlt3 := TI.li hT
  have hlt4 := TI.pa hT
  have lq6 : (6 : Int32).toInt = 6 := by decide
  refine lv_aload_n hx hb dX10_twin_0 rfl (lv_at hl 0 rfl) ?_
  refine va_get (D := g.1) (ci := 10) (v := .ref (a_c 0)) (C := RX10) (T := TX10) (N := 20) hx hb hi_X10 (fun _ h => h) hown hK.1 hP 0 rfl rfl 16 (by decide) hf_92 (fun _ h9 => h9) (congrArg (fun z => some (Value.ref z)) hl_p_code) dX10_twin_1 ?_
  refine lv_aload_n hx hb dX10_twin_4 rfl (lv_at hl 0 rfl) ?_
  refine va_get (D := g.1) (ci := 10) (v := .ref (a_t 0)) (C := RX10) (T := TX10) (N := 20) hx hb hi_X10 (fun _ h => h) hown hK.1 hP 0 rfl rfl 9 (by decide) hf_50 (fun _ h9 => h9) (congrArg (fun z => some (Value.ref z)) hl_p_table) dX10_twin_5 ?_
  refine EffI.cv (wr := (wX10 g a_p I_p J_p)) (w' := fun u2 => wX10 g a_p I_p J_p ++ (wX7 g a_t I_t ++ wX0 g a_c u2)) (As := [.ref (a_t 0)]) (kX0_shortestTwin l g a_c I_c a_t I_t hT h_cc) fx (gUV (uT _) u_1543 u_1544 u_1545 u_53 u_1546) rfl hdX0_shortestTwin ⟨Nat.le_of_ble_eq_true rfl, Nat.le_of_ble_eq_true rfl⟩ hK hP hD hS hA [9, 10, 2, 3, 4, 5, 6, 7, 8] [0, 1] [0, 1, 4, 5, 6, 7, 8, 9, 10, 2, 3] rfl rfl rfl rfl (by decide) rfl (fun _ => rfl) rfl rfl rfl rfl hl.1 (Nat.le_of_ble_eq_true rfl) dX10_twin_8 (fun r1 u2 H locs p_r1 hP hD hS => ?_)
  have hP : va_P g.1 vwCl (wX10 g a_p I_p J_p ++ (wX7 g a_t I_t ++ wX0 g a_c u2)) H := hP
  have hD : va_D A (wX10 g a_p I_p J_p ++ (wX7 g a_t I_t ++ wX0 g a_c u2)) := hD
  refine lv_istore_n (lv' := [(1, .int r1), (0, .ref (a_p 0))]) hx hb dX10_twin_11 rfl hl (by decide) rfl (fun ls hl => ?_)
  refine lv_aload_n hx hb dX10_twin_12 rfl (lv_at hl 1 rfl) ?_
  refine lv_iload_n hx hb dX10_twin_13 rfl (lv_at hl 0 rfl) ?_
  refine lv_iconst (v := -1) hx hb dX10_twin_14 (by decide) ?_
  refine q_icmp_eq (tgt := 22) hx hb dX10_twin_15 (by decide) rfl (by decide : (-1 : Int32).toInt = -1) (fun k_15 => ?_) (fun k_15 => ?_)
  · refine lv_iconst (v := 0) hx hb dX10_twin_22 (by decide) ?_
    refine lv_iload_n hx hb dX10_twin_23 rfl (lv_at hl 0 rfl) ?_
    refine lv_bipush (v := 6) hx hb dX10_twin_24 (by decide) ?_
    refine EffI.cv (wr := (wX7 g a_t I_t ++ wX0 g a_c u2)) (w' := fun u4 => wX10 g a_p u4 J_p ++ (wX7 g a_t I_t ++ wX0 g a_c u2)) (As := [.int (0 : Int32), .int r1, .int (6 : Int32)]) (kX10_answerOr l g a_p I_p J_p (0 : Int32) r1 (6 : Int32)) fx (gUV (uT _) u_781 u_782 u_783 u_2 u_784) rfl hdX10_answerOr ⟨Nat.le_of_ble_eq_true rfl, Nat.le_of_ble_eq_true rfl⟩ hK hP hD hS hA [0, 1] [2, 3, 4, 5, 6, 7, 8, 9, 10] [9, 10, 0, 1, 2, 3, 4, 5, 6, 7, 8] rfl rfl rfl rfl (by decide) rfl (fun _ => rfl) rfl rfl rfl rfl hl.1 (Nat.le_of_ble_eq_true rfl) dX10_twin_26 (fun r3 u4 H locs p_r3 hP hD hS => ?_)
    have hP : va_P g.1 vwCl (wX10 g a_p u4 J_p ++ (wX7 g a_t I_t ++ wX0 g a_c u2)) H := hP
    have hD : va_D A (wX10 g a_p u4 J_p ++ (wX7 g a_t I_t ++ wX0 g a_c u2)) := hD
    refine hret 29 ls r3 _ _ (u4, u2) dX10_twin_29 hS hP hD ?_
    exact ⟨(PI.st hPI p_r3.2.choose_spec), (KP.tr (KP.rf I_p) (KP.st p_r3.2.choose_spec)), (by rcases p_r1 with y | y <;> rcases p_r3.1 with w | w <;> first | (exfalso; have := congrArg Int32.toInt y.1; omega) | (exfalso; omega) | exact Or.inl ⟨w.2, y.2⟩ | exact Or.inr ⟨by rw [w.2]; exact y.1, by rw [w.2]; exact y.2.1, by rw [w.2]; exact y.2.2⟩)⟩
  · refine lv_iconst (v := 1) hx hb dX10_twin_18 (by decide) ?_
    refine lv_goto (tgt := 23) hx hb dX10_twin_19 (by decide) ?_
    refine lv_iload_n hx hb dX10_twin_23 rfl (lv_at hl 0 rfl) ?_
    refine lv_bipush (v := 6) hx hb dX10_twin_24 (by decide) ?_
    refine EffI.cv (wr := (wX7 g a_t I_t ++ wX0 g a_c u2)) (w' := fun u6 => wX10 g a_p u6 J_p ++ (wX7 g a_t I_t ++ wX0 g a_c u2)) (As := [.int (1 : Int32), .int r1, .int (6 : Int32)]) (kX10_answerOr l g a_p I_p J_p (1 : Int32) r1 (6 : Int32)) fx (gUV (uT _) u_781 u_782 u_783 u_2 u_784) rfl hdX10_answerOr ⟨Nat.le_of_ble_eq_true rfl, Nat.le_of_ble_eq_true rfl⟩ hK hP hD hS hA [0, 1] [2, 3, 4, 5, 6, 7, 8, 9, 10] [9, 10, 0, 1, 2, 3, 4, 5, 6, 7, 8] rfl rfl rfl rfl (by decide) rfl (fun _ => rfl) rfl rfl rfl rfl hl.1 (Nat.le_of_ble_eq_true rfl) dX10_twin_26 (fun r5 u6 H locs p_r5 hP hD hS => ?_)
    have hP : va_P g.1 vwCl (wX10 g a_p u6 J_p ++ (wX7 g a_t I_t ++ wX0 g a_c u2)) H := hP
    have hD : va_D A (wX10 g a_p u6 J_p ++ (wX7 g a_t I_t ++ wX0 g a_c u2)) := hD
    refine hret 29 ls r5 _ _ (u6, u2) dX10_twin_29 hS hP hD ?_
    exact ⟨(PI.st hPI p_r5.2.choose_spec), (KP.tr (KP.rf I_p) (KP.st p_r5.2.choose_spec)), (by rcases p_r1 with y | y <;> rcases p_r5.1 with w | w <;> first | (exfalso; have := congrArg Int32.toInt y.1; omega) | (exfalso; omega) | exact Or.inl ⟨w.2, y.2⟩ | exact Or.inr ⟨by rw [w.2]; exact y.1, by rw [w.2]; exact y.2.1, by rw [w.2]; exact y.2.2⟩)⟩

set_option maxHeartbeats 4000000 in
set_option maxRecDepth 100000 in
theorem kX10_lacks (l : Launch) (g : gG) (a_p : Nat → Nat) (I_p : Nat → Nat → Int32) (J_p : Nat → Nat → Int64) (a_t : Nat → Nat) (I_t : Nat → Nat → Int32) (hl_p_table : a_p 109 = a_t 0) (hPI : PI I_p) (hT : TI I_t) : EffI l g yX10_lacks wsX10_lacks 2 [.ref (a_p 0)] (wX10 g a_p I_p J_p ++ wX7 g a_t I_t) (fun (u : (Nat → Nat → Int32)) => wX10 g a_p u J_p ++ wX7 g a_t I_t) (fun r (u : (Nat → Nat → Int32)) => PI (u) ∧ KP I_p (u) ∧ r = jsB (fun k => jsN (I_t 0 1) (I_t 2) (I_t 4) (fun i => I_t 5 (6 * i)) (nI k) (I_t 0 0).toInt.toNat) 26) := by
  refine EffI.st (cc := cX10_lacks) (maxL := 3) (by decide) rfl (Nat.le_of_ble_eq_true rfl) (fun p e s m args below meth c A Q ls fx hK hP hD hA hS hl hret => ?_)
  have hx := fx.1
  have hb := fx.2.1
  have hml := fx.2.2.1
  have hown := fx.2.2.2.1
  have hts := fx.2.2.2.2
  have hl : lv_has ls 3 [(0, .ref (a_p 0))] := hl
  have hP : va_P g.1 vwCl (wX10 g a_p I_p J_p ++ wX7 g a_t I_t) s.heap := hP
  have hf_50 := hts _ (uT _ _ u_32)
  have hf_184 := hts _ (uT _ _ u_593)
  have hi_X10 : ∀ w ∈ wsX100, w.before args s = true := fun w h => hts w (uT _ w (u_wsX100 w h))
  have hi_X7 : ∀ w ∈ wsX70, w.before args s = true := fun w h => hts w (uT _ w (u_wsX70 w h))
  have lm1 : (-1 : Int32).toInt = -1 := by decide
  have lm0 : (0 : Int32).toInt = 0 := by decide
  have lm2 : (1 : Int32).toInt = 1 := by decide
  have hp1 := hPI.1
  have hp2 := hPI.2.1
  have hru := TI.ru hT
  have hlt3 := TI.li hT
  have hlt4 := TI.pa hT
  refine lv_iconst (v := 0) hx hb dX10_lacks_0 (by decide) ?_
  refine lv_istore_n (lv' := [(1, .int (0 : Int32)), (0, .ref (a_p 0))]) hx hb dX10_lacks_1 rfl hl (by decide) rfl (fun ls hl => ?_)
  refine lv_iconst (v := 1) hx hb dX10_lacks_2 (by decide) ?_
  refine lv_istore_n (lv' := [(2, .int (1 : Int32)), (1, .int (0 : Int32)), (0, .ref (a_p 0))]) hx hb dX10_lacks_3 rfl hl (by decide) rfl (fun ls hl => ?_)
  have L4 : ∀ (nn : Nat) (v1_4 : Int32) (v2_4 : Int32), (hv_4 : 1 ≤ v2_4.toInt ∧ v2_4.toInt ≤ 27) → (hs_4 : v1_4 = jsB (fun k => jsN (I_t 0 1) (I_t 2) (I_t 4) (fun i => I_t 5 (6 * i)) (nI k) (I_t 0 0).toInt.toNat) (v2_4.toInt.toNat - 1)) → ((28 - v2_4.toInt) < (nn : Int)) → ∀ (H : Heap) (locs : List Loc), va_P g.1 vwCl (wX10 g a_p I_p J_p ++ wX7 g a_t I_t) H → va_D A (wX10 g a_p I_p J_p ++ wX7 g a_t I_t) → va_S A s.heap H locs → ∀ ls : Array Slot, lv_has ls 3 [(2, .int v2_4), (1, .int v1_4), (0, .ref (a_p 0))] → W p l e (rm 2) s m args below meth c H locs 0 0 Q (F0 m 4 ls []) := by
    intro n_4
    induction n_4 with
    | zero =>
      intro v1_4 v2_4 hv_4 hs_4 hms_4 H locs hP hD hS ls hl
      exfalso; omega
    | succ n_4 ih_4 =>
      intro v1_4 v2_4 hv_4 hs_4 hms_4 H locs hP hD hS ls hl
      refine lv_iload_n hx hb dX10_lacks_4 rfl (lv_at hl 0 rfl) ?_
      refine lv_bipush (v := 26) hx hb dX10_lacks_5 (by decide) ?_
      refine q_icmp_gt (tgt := 43) hx hb dX10_lacks_7 (by decide) rfl (by decide : (26 : Int32).toInt = 26) (fun k_7 => ?_) (fun k_7 => ?_)
      · refine lv_aload_n hx hb dX10_lacks_43 rfl (lv_at hl 2 rfl) ?_
        refine lv_iload_n hx hb dX10_lacks_44 rfl (lv_at hl 1 rfl) ?_
        refine EffI.cv (wr := (wX7 g a_t I_t)) (w' := fun u2 => wX10 g a_p u2 J_p ++ wX7 g a_t I_t) (As := [.int v1_4]) (kX10_answer l g a_p I_p J_p v1_4) fx (gUV (uT _) u_497 u_498 u_499 u_2 u_500) rfl hdX10_answer ⟨Nat.le_of_ble_eq_true rfl, Nat.le_of_ble_eq_true rfl⟩ hK hP hD hS hA [0, 1] [2, 3, 4, 5, 6, 7, 8] [7, 8, 0, 1, 2, 3, 4, 5, 6] rfl rfl rfl rfl (by decide) rfl (fun _ => rfl) rfl rfl rfl rfl hl.1 (Nat.le_of_ble_eq_true rfl) dX10_lacks_45 (fun r1 u2 H locs p_r1 hP hD hS => ?_)
        have hP : va_P g.1 vwCl (wX10 g a_p u2 J_p ++ wX7 g a_t I_t) H := hP
        have hD : va_D A (wX10 g a_p u2 J_p ++ wX7 g a_t I_t) := hD
        refine hret 48 ls r1 _ _ u2 dX10_lacks_48 hS hP hD ?_
        exact ⟨(PI.st hPI p_r1.2), (KP.tr (KP.rf I_p) (KP.st p_r1.2)), (by rw [p_r1.1, hs_4, show v2_4.toInt.toNat - 1 = 26 by omega])⟩
      · refine lv_aload_n hx hb dX10_lacks_10 rfl (lv_at hl 2 rfl) ?_
        refine va_get (D := g.1) (ci := 10) (v := .ref (a_t 0)) (C := RX10) (T := TX10) (N := 20) hx hb hi_X10 (fun _ h => h) hown hK.1 hP 0 rfl rfl 9 (by decide) hf_50 (fun _ h9 => h9) (congrArg (fun z => some (Value.ref z)) hl_p_table) dX10_lacks_11 ?_
        refine lv_iload_n hx hb dX10_lacks_14 rfl (lv_at hl 0 rfl) ?_
        refine lv_aload_n hx hb dX10_lacks_15 rfl (lv_at hl 2 rfl) ?_
        refine va_get (D := g.1) (ci := 10) (v := .ref (a_t 0)) (C := RX10) (T := TX10) (N := 20) hx hb hi_X10 (fun _ h => h) hown hK.1 hP 0 rfl rfl 9 (by decide) hf_50 (fun _ h9 => h9) (congrArg (fun z => some (Value.ref z)) hl_p_table) dX10_lacks_16 ?_
        refine va_get (D := g.1) (ci := 7) (v := .int (I_t 0 1)) (C := RX7) (T := TX7) (N := 8) hx hb hi_X7 (fun _ h => h) hown hK.1 hP 2 rfl rfl 1 (by decide) hf_184 (fun _ h9 => h9) rfl dX10_lacks_19 ?_
        refine PurI.cv (As := [.int v2_4, .int (I_t 0 1)]) (kX7_plainRule l g a_t I_t v2_4 (I_t 0 1) hT) fx (gUV (uT _) u_1603 u_617 u_618 u_31 u_619) rfl hdX7_plainRule ⟨Nat.le_of_ble_eq_true rfl, Nat.le_of_ble_eq_true rfl⟩ hK hP [2, 3, 4, 5, 6, 7, 8] rfl rfl rfl rfl rfl hl.1 (Nat.le_of_ble_eq_true rfl) dX10_lacks_22 (fun r3 p_r3 => ?_)
        refine lv_iconst (v := -1) hx hb dX10_lacks_25 (by decide) ?_
        refine q_icmp_ne (tgt := 37) hx hb dX10_lacks_26 (by decide) rfl (by decide : (-1 : Int32).toInt = -1) (fun k_26 => ?_) (fun k_26 => ?_)
        · refine r_iinc (lv' := fun i4 => [(2, .int i4), (1, .int v1_4), (0, .ref (a_p 0))]) hx hb dX10_lacks_37 hl (k := 0) rfl (by decide) rfl (by decide) (fun _ => rfl) (fun i4 e_i4 t_i4 ls hl => ?_)
          try have t_i4 := t_i4 (by omega)
          refine lv_goto (tgt := 4) hx hb dX10_lacks_40 (by decide) ?_
          exact ih_4 v1_4 i4 (by omega) (by rw [show (i4).toInt.toNat - 1 = v2_4.toInt.toNat - 1 + 1 by omega, jsB]; have en : nI (v2_4.toInt.toNat - 1 + 1) = v2_4 := (by rw [show v2_4.toInt.toNat - 1 + 1 = v2_4.toInt.toNat by omega]; exact (t_nI (x := v2_4) rfl (by omega)).1.symm); rw [en]; rcases p_r3.2.2.1 with w | w; (rw [if_pos w.2, ← hs_4]; (exfalso; omega)); (rw [if_neg (by rw [w.2]; decide), ← hs_4]; try first | rfl | (exfalso; omega))) (by omega) _ _ hP hD hS ls hl
        · refine lv_iload_n hx hb dX10_lacks_29 rfl (lv_at hl 1 rfl) ?_
          refine lv_iconst (v := 1) hx hb dX10_lacks_30 (by decide) ?_
          refine lv_iload_n hx hb dX10_lacks_31 rfl (lv_at hl 0 rfl) ?_
          refine lv_iconst (v := 1) hx hb dX10_lacks_32 (by decide) ?_
          refine r_isub hx hb dX10_lacks_33 rfl (by decide : (1 : Int32).toInt = 1) (fun x5 e_x5 t_x5 => ?_)
          try have t_x5 := t_x5 (by omega)
          refine lv_ishl hx hb dX10_lacks_34 ?_
          refine q_nm (fun x6 e_x6 => ?_)
          refine lv_ior hx hb dX10_lacks_35 ?_
          refine q_nm (fun x7 e_x7 => ?_)
          refine lv_istore_n (lv' := [(1, .int x7), (2, .int v2_4), (0, .ref (a_p 0))]) hx hb dX10_lacks_36 rfl hl (by decide) rfl (fun ls hl => ?_)
          refine r_iinc (lv' := fun i8 => [(2, .int i8), (1, .int x7), (0, .ref (a_p 0))]) hx hb dX10_lacks_37 hl (k := 1) rfl (by decide) rfl (by decide) (fun _ => rfl) (fun i8 e_i8 t_i8 ls hl => ?_)
          try have t_i8 := t_i8 (by omega)
          refine lv_goto (tgt := 4) hx hb dX10_lacks_40 (by decide) ?_
          exact ih_4 x7 i8 (by omega) (by rw [show (i8).toInt.toNat - 1 = v2_4.toInt.toNat - 1 + 1 by omega, jsB]; have en : nI (v2_4.toInt.toNat - 1 + 1) = v2_4 := (by rw [show v2_4.toInt.toNat - 1 + 1 = v2_4.toInt.toNat by omega]; exact (t_nI (x := v2_4) rfl (by omega)).1.symm); rw [en]; rcases p_r3.2.2.1 with w | w; (rw [if_pos w.2, ← hs_4]; first | (exfalso; omega) | (rw [e_x7, e_x6, show nI (v2_4.toInt.toNat - 1) = x5 from (by rw [show v2_4.toInt.toNat - 1 = (v2_4.toInt - 1).toNat by omega]; exact (t_nI (x := x5) (by omega) (by omega)).1.symm)])); (rw [if_neg (by rw [w.2]; decide), ← hs_4]; try first | rfl | (exfalso; omega))) (by omega) _ _ hP hD hS ls hl
  exact L4 ((28 - (1 : Int32).toInt) + 1).toNat (0 : Int32) (1 : Int32) (by omega) rfl (by omega) _ _ hP hD hS ls hl

set_option maxHeartbeats 4000000 in
set_option maxRecDepth 100000 in
theorem kX10_worn (l : Launch) (g : gG) (a_p : Nat → Nat) (I_p : Nat → Nat → Int32) (J_p : Nat → Nat → Int64) (a_e : Nat → Nat) (I_e : Nat → Nat → Int32) (a_z : Nat → Nat) (I_z : Nat → Nat → Int32) (seed : Int32) (six : Int32) (hl_p_shown : a_p 112 = a_e 0) (hl_p_wear : a_p 117 = a_z 0) (hPI : PI I_p) (hE : EI I_e) (hW : WI I_z) : EffI l g yX10_worn wsX10_worn 2 [.ref (a_p 0), .int seed, .int six] (wX10 g a_p I_p J_p ++ (wX6 g a_e I_e ++ wX9 g a_z I_z)) (fun (u : ((Nat → Nat → Int32) × (Nat → Nat → Int32))) => wX10 g a_p (u.1) J_p ++ (wX6 g a_e I_e ++ wX9 g a_z (u.2))) (fun r (u : ((Nat → Nat → Int32) × (Nat → Nat → Int32))) => PI (u.1) ∧ WI (u.2) ∧ KP I_p (u.1)) := by
  refine EffI.st (cc := cX10_worn) (maxL := 3) (by decide) rfl (Nat.le_of_ble_eq_true rfl) (fun p e s m args below meth c A Q ls fx hK hP hD hA hS hl hret => ?_)
  have hx := fx.1
  have hb := fx.2.1
  have hml := fx.2.2.1
  have hown := fx.2.2.2.1
  have hts := fx.2.2.2.2
  have hl : lv_has ls 3 [(0, .ref (a_p 0)), (1, .int seed), (2, .int six)] := hl
  have hP : va_P g.1 vwCl (wX10 g a_p I_p J_p ++ (wX6 g a_e I_e ++ wX9 g a_z I_z)) s.heap := hP
  have hf_61 := hts _ (uT _ _ u_37)
  have hf_68 := hts _ (uT _ _ u_41)
  have hf_99 := hts _ (uT _ _ u_58)
  have hi_X10 : ∀ w ∈ wsX100, w.before args s = true := fun w h => hts w (uT _ w (u_wsX100 w h))
  have lm1 : (-1 : Int32).toInt = -1 := by decide
  have lm0 : (0 : Int32).toInt = 0 := by decide
  have lm2 : (1 : Int32).toInt = 1 := by decide
  have hp1 := hPI.1
  have hp2 := hPI.2.1
  have hE0 := hE.1
  have hE1 := hE.2
  have hw0 := hW.1
  have hw1 := hW.2
  have lq6 : (6 : Int32).toInt = 6 := by decide
  refine lv_iload_n hx hb dX10_worn_0 rfl (lv_at hl 1 rfl) ?_
  refine lv_iload_n hx hb dX10_worn_1 rfl (lv_at hl 2 rfl) ?_
  refine PurI.cs (C := RX10) (As := [.int seed, .int six]) (kX10_areDraws l g seed six) fx (gUS (uT _) u_1612 u_1613 u_2 u_1614) rfl hdX10_areDraws ⟨Nat.le_of_ble_eq_true rfl, Nat.le_of_ble_eq_true rfl⟩ hK hP [] rfl rfl rfl hl.1 (Nat.le_of_ble_eq_true rfl) dX10_worn_2 (fun r1 p_r1 => ?_)
  refine q_if_ne (tgt := 14) hx hb dX10_worn_5 (by decide) rfl (fun b_5 k_5 => ?_) (fun b_5 k_5 => ?_)
  · have q_5 := bP.t p_r1 b_5
    refine lv_aload_n hx hb dX10_worn_14 rfl (lv_at hl 0 rfl) ?_
    refine va_get (D := g.1) (ci := 10) (v := .int (I_p 0 11)) (C := RX10) (T := TX10) (N := 20) hx hb hi_X10 (fun _ h => h) hown hK.1 hP 0 rfl rfl 11 (by decide) hf_61 (fun _ h9 => h9) rfl dX10_worn_15 ?_
    refine q_if_ne (tgt := 28) hx hb dX10_worn_18 (by decide) rfl (fun b_18 k_18 => ?_) (fun b_18 k_18 => ?_)
    · refine lv_aload_n hx hb dX10_worn_28 rfl (lv_at hl 0 rfl) ?_
      refine lv_aload_n hx hb dX10_worn_29 rfl (lv_at hl 0 rfl) ?_
      refine va_get (D := g.1) (ci := 10) (v := .ref (a_z 0)) (C := RX10) (T := TX10) (N := 20) hx hb hi_X10 (fun _ h => h) hown hK.1 hP 0 rfl rfl 17 (by decide) hf_99 (fun _ h9 => h9) (congrArg (fun z => some (Value.ref z)) hl_p_wear) dX10_worn_30 ?_
      refine lv_aload_n hx hb dX10_worn_33 rfl (lv_at hl 0 rfl) ?_
      refine va_get (D := g.1) (ci := 10) (v := .ref (a_e 0)) (C := RX10) (T := TX10) (N := 20) hx hb hi_X10 (fun _ h => h) hown hK.1 hP 0 rfl rfl 12 (by decide) hf_68 (fun _ h9 => h9) (congrArg (fun z => some (Value.ref z)) hl_p_shown) dX10_worn_34 ?_
      refine lv_iload_n hx hb dX10_worn_37 rfl (lv_at hl 1 rfl) ?_
      refine lv_iload_n hx hb dX10_worn_38 rfl (lv_at hl 2 rfl) ?_
      refine EffI.cv (wr := (wX10 g a_p I_p J_p)) (w' := fun u3 => wX10 g a_p I_p J_p ++ (wX6 g a_e I_e ++ wX9 g a_z u3)) (As := [.ref (a_e 0), .int seed, .int six]) (kX9_wearOff l g a_z I_z a_e I_e seed six hE) fx (gUV (uT _) u_1615 u_1616 u_1617 u_57 u_1618) rfl hdX9_wearOff ⟨Nat.le_of_ble_eq_true rfl, Nat.le_of_ble_eq_true rfl⟩ hK hP hD hS hA [6, 7, 2, 3, 4, 5] [0, 1] [0, 1, 4, 5, 6, 7, 2, 3] rfl rfl rfl rfl (by decide) rfl (fun _ => rfl) rfl rfl rfl rfl hl.1 (Nat.le_of_ble_eq_true rfl) dX10_worn_39 (fun r2 u3 H locs p_r2 hP hD hS => ?_)
      have hP : va_P g.1 vwCl (wX10 g a_p I_p J_p ++ (wX6 g a_e I_e ++ wX9 g a_z u3)) H := hP
      have hD : va_D A (wX10 g a_p I_p J_p ++ (wX6 g a_e I_e ++ wX9 g a_z u3)) := hD
      refine EffI.cv (wr := (wX6 g a_e I_e ++ wX9 g a_z u3)) (w' := fun u5 => wX10 g a_p u5 J_p ++ (wX6 g a_e I_e ++ wX9 g a_z u3)) (As := [.int r2]) (kX10_answer l g a_p I_p J_p r2) fx (gUV (uT _) u_497 u_498 u_499 u_2 u_500) rfl hdX10_answer ⟨Nat.le_of_ble_eq_true rfl, Nat.le_of_ble_eq_true rfl⟩ hK hP hD hS hA [0, 1] [2, 3, 4, 5, 6, 7] [6, 7, 0, 1, 2, 3, 4, 5] rfl rfl rfl rfl (by decide) rfl (fun _ => rfl) rfl rfl rfl rfl hl.1 (Nat.le_of_ble_eq_true rfl) dX10_worn_42 (fun r4 u5 H locs p_r4 hP hD hS => ?_)
      have hP : va_P g.1 vwCl (wX10 g a_p u5 J_p ++ (wX6 g a_e I_e ++ wX9 g a_z u3)) H := hP
      have hD : va_D A (wX10 g a_p u5 J_p ++ (wX6 g a_e I_e ++ wX9 g a_z u3)) := hD
      refine hret 45 ls r4 _ _ (u5, u3) dX10_worn_45 hS hP hD ?_
      exact ⟨(PI.st hPI p_r4.2), p_r2, (KP.tr (KP.rf I_p) (KP.st p_r4.2))⟩
    · refine lv_aload_n hx hb dX10_worn_21 rfl (lv_at hl 0 rfl) ?_
      refine lv_bipush (v := 6) hx hb dX10_worn_22 (by decide) ?_
      refine EffI.cv (wr := (wX6 g a_e I_e ++ wX9 g a_z I_z)) (w' := fun u7 => wX10 g a_p u7 J_p ++ (wX6 g a_e I_e ++ wX9 g a_z I_z)) (As := [.int (6 : Int32)]) (kX10_refuse l g a_p I_p J_p (6 : Int32)) fx (gUV (uT _) u_295 u_296 u_297 u_2 u_298) rfl hdX10_refuse ⟨Nat.le_of_ble_eq_true rfl, Nat.le_of_ble_eq_true rfl⟩ hK hP hD hS hA [0, 1] [2, 3, 4, 5, 6, 7] [6, 7, 0, 1, 2, 3, 4, 5] rfl rfl rfl rfl (by decide) rfl (fun _ => rfl) rfl rfl rfl rfl hl.1 (Nat.le_of_ble_eq_true rfl) dX10_worn_24 (fun r6 u7 H locs p_r6 hP hD hS => ?_)
      have hP : va_P g.1 vwCl (wX10 g a_p u7 J_p ++ (wX6 g a_e I_e ++ wX9 g a_z I_z)) H := hP
      have hD : va_D A (wX10 g a_p u7 J_p ++ (wX6 g a_e I_e ++ wX9 g a_z I_z)) := hD
      refine hret 27 ls r6 _ _ (u7, I_z) dX10_worn_27 hS hP hD ?_
      exact ⟨(PI.st hPI p_r6.2), hW, (KP.tr (KP.rf I_p) (KP.st p_r6.2))⟩
  · have q_5 := bP.f p_r1 b_5
    refine lv_aload_n hx hb dX10_worn_8 rfl (lv_at hl 0 rfl) ?_
    refine lv_iconst (v := 1) hx hb dX10_worn_9 (by decide) ?_
    refine EffI.cv (wr := (wX6 g a_e I_e ++ wX9 g a_z I_z)) (w' := fun u9 => wX10 g a_p u9 J_p ++ (wX6 g a_e I_e ++ wX9 g a_z I_z)) (As := [.int (1 : Int32)]) (kX10_refuse l g a_p I_p J_p (1 : Int32)) fx (gUV (uT _) u_295 u_296 u_297 u_2 u_298) rfl hdX10_refuse ⟨Nat.le_of_ble_eq_true rfl, Nat.le_of_ble_eq_true rfl⟩ hK hP hD hS hA [0, 1] [2, 3, 4, 5, 6, 7] [6, 7, 0, 1, 2, 3, 4, 5] rfl rfl rfl rfl (by decide) rfl (fun _ => rfl) rfl rfl rfl rfl hl.1 (Nat.le_of_ble_eq_true rfl) dX10_worn_10 (fun r8 u9 H locs p_r8 hP hD hS => ?_)
    have hP : va_P g.1 vwCl (wX10 g a_p u9 J_p ++ (wX6 g a_e I_e ++ wX9 g a_z I_z)) H := hP
    have hD : va_D A (wX10 g a_p u9 J_p ++ (wX6 g a_e I_e ++ wX9 g a_z I_z)) := hD
    refine hret 13 ls r8 _ _ (u9, I_z) dX10_worn_13 hS hP hD ?_
    exact ⟨(PI.st hPI p_r8.2), hW, (KP.tr (KP.rf I_p) (KP.st p_r8.2))⟩

set_option maxHeartbeats 4000000 in
set_option maxRecDepth 100000 in
theorem kX10_wornAt (l : Launch) (g : gG) (a_p : Nat → Nat) (I_p : Nat → Nat → Int32) (J_p : Nat → Nat → Int64) (a_z : Nat → Nat) (I_z : Nat → Nat → Int32) (k : Int32) (hl_p_wear : a_p 117 = a_z 0) (hPI : PI I_p) (hW : WI I_z) : EffI l g yX10_wornAt wsX10_wornAt 1 [.ref (a_p 0), .int k] (wX10 g a_p I_p J_p ++ wX9 g a_z I_z) (fun (u : (Nat → Nat → Int32)) => wX10 g a_p u J_p ++ wX9 g a_z I_z) (fun r (u : (Nat → Nat → Int32)) => PI (u) ∧ KP I_p (u)) := by
  refine EffI.st (cc := cX10_wornAt) (maxL := 2) (by decide) rfl (Nat.le_of_ble_eq_true rfl) (fun p e s m args below meth c A Q ls fx hK hP hD hA hS hl hret => ?_)
  have hx := fx.1
  have hb := fx.2.1
  have hml := fx.2.2.1
  have hown := fx.2.2.2.1
  have hts := fx.2.2.2.2
  have hl : lv_has ls 2 [(0, .ref (a_p 0)), (1, .int k)] := hl
  have hP : va_P g.1 vwCl (wX10 g a_p I_p J_p ++ wX9 g a_z I_z) s.heap := hP
  have hf_99 := hts _ (uT _ _ u_58)
  have hf_419 := hts _ (uT _ _ u_1647)
  have hf_420 := hts _ (uT _ _ u_1648)
  have hi_X10 : ∀ w ∈ wsX100, w.before args s = true := fun w h => hts w (uT _ w (u_wsX100 w h))
  have hi_X9 : ∀ w ∈ wsX90, w.before args s = true := fun w h => hts w (uT _ w (u_wsX90 w h))
  have lm1 : (-1 : Int32).toInt = -1 := by decide
  have lm0 : (0 : Int32).toInt = 0 := by decide
  have lm2 : (1 : Int32).toInt = 1 := by decide
  have hp1 := hPI.1
  have hp2 := hPI.2.1
  have hw0 := hW.1
  have hw1 := hW.2
  have lq6 : (6 : Int32).toInt = 6 := by decide
  refine lv_iload_n hx hb dX10_wornAt_0 rfl (lv_at hl 1 rfl) ?_
  refine q_if_lt (tgt := 15) hx hb dX10_wornAt_1 (by decide) rfl (fun k_1 => ?_) (fun k_1 => ?_)
  · refine lv_aload_n hx hb dX10_wornAt_15 rfl (lv_at hl 0 rfl) ?_
    refine lv_bipush (v := 6) hx hb dX10_wornAt_16 (by decide) ?_
    refine EffI.cv (wr := (wX9 g a_z I_z)) (w' := fun u2 => wX10 g a_p u2 J_p ++ wX9 g a_z I_z) (As := [.int (6 : Int32)]) (kX10_refuse l g a_p I_p J_p (6 : Int32)) fx (gUV (uT _) u_295 u_296 u_297 u_2 u_298) rfl hdX10_refuse ⟨Nat.le_of_ble_eq_true rfl, Nat.le_of_ble_eq_true rfl⟩ hK hP hD hS hA [0, 1] [2, 3] [2, 3, 0, 1] rfl rfl rfl rfl (by decide) rfl (fun _ => rfl) rfl rfl rfl rfl hl.1 (Nat.le_of_ble_eq_true rfl) dX10_wornAt_18 (fun r1 u2 H locs p_r1 hP hD hS => ?_)
    have hP : va_P g.1 vwCl (wX10 g a_p u2 J_p ++ wX9 g a_z I_z) H := hP
    have hD : va_D A (wX10 g a_p u2 J_p ++ wX9 g a_z I_z) := hD
    refine hret 21 ls r1 _ _ u2 dX10_wornAt_21 hS hP hD ?_
    exact ⟨(PI.st hPI p_r1.2), (KP.tr (KP.rf I_p) (KP.st p_r1.2))⟩
  · refine lv_iload_n hx hb dX10_wornAt_4 rfl (lv_at hl 1 rfl) ?_
    refine lv_aload_n hx hb dX10_wornAt_5 rfl (lv_at hl 0 rfl) ?_
    refine va_get (D := g.1) (ci := 10) (v := .ref (a_z 0)) (C := RX10) (T := TX10) (N := 20) hx hb hi_X10 (fun _ h => h) hown hK.1 hP 0 rfl rfl 17 (by decide) hf_99 (fun _ h9 => h9) (congrArg (fun z => some (Value.ref z)) hl_p_wear) dX10_wornAt_6 ?_
    refine va_get (D := g.1) (ci := 9) (v := .int (I_z 0 1)) (C := RX9) (T := TX9) (N := 3) hx hb hi_X9 (fun _ h => h) hown hK.1 hP 2 rfl rfl 1 (by decide) hf_419 (fun _ h9 => h9) rfl dX10_wornAt_9 ?_
    refine q_icmp_lt (tgt := 22) hx hb dX10_wornAt_12 (by decide) rfl rfl (fun k_12 => ?_) (fun k_12 => ?_)
    · refine lv_aload_n hx hb dX10_wornAt_22 rfl (lv_at hl 0 rfl) ?_
      refine lv_aload_n hx hb dX10_wornAt_23 rfl (lv_at hl 0 rfl) ?_
      refine va_get (D := g.1) (ci := 10) (v := .ref (a_z 0)) (C := RX10) (T := TX10) (N := 20) hx hb hi_X10 (fun _ h => h) hown hK.1 hP 0 rfl rfl 17 (by decide) hf_99 (fun _ h9 => h9) (congrArg (fun z => some (Value.ref z)) hl_p_wear) dX10_wornAt_24 ?_
      refine va_get (D := g.1) (ci := 9) (v := .ref (a_z 1)) (C := RX9) (T := TX9) (N := 3) hx hb hi_X9 (fun _ h => h) hown hK.1 hP 2 rfl rfl 0 (by decide) hf_420 (fun _ h9 => h9) rfl dX10_wornAt_27 ?_
      refine lv_iload_n hx hb dX10_wornAt_30 rfl (lv_at hl 1 rfl) ?_
      have n_31 : vp_in k 1200 := (t_in (by omega))
      refine va_iald hx hb hK.1 hP 3 0 rfl rfl n_31 dX10_wornAt_31 ?_
      refine q_nm (fun x3 e_x3 => ?_)
      have e_x3 : x3 = (I_z 1) k.toNatClampNeg := e_x3
      have g_x3 : x3.toInt = ((I_z 1) k.toNatClampNeg).toInt := congrArg _ e_x3
      refine EffI.cv (wr := (wX9 g a_z I_z)) (w' := fun u5 => wX10 g a_p u5 J_p ++ wX9 g a_z I_z) (As := [.int x3]) (kX10_answer l g a_p I_p J_p x3) fx (gUV (uT _) u_497 u_498 u_499 u_2 u_500) rfl hdX10_answer ⟨Nat.le_of_ble_eq_true rfl, Nat.le_of_ble_eq_true rfl⟩ hK hP hD hS hA [0, 1] [2, 3] [2, 3, 0, 1] rfl rfl rfl rfl (by decide) rfl (fun _ => rfl) rfl rfl rfl rfl hl.1 (Nat.le_of_ble_eq_true rfl) dX10_wornAt_32 (fun r4 u5 H locs p_r4 hP hD hS => ?_)
      have hP : va_P g.1 vwCl (wX10 g a_p u5 J_p ++ wX9 g a_z I_z) H := hP
      have hD : va_D A (wX10 g a_p u5 J_p ++ wX9 g a_z I_z) := hD
      refine hret 35 ls r4 _ _ u5 dX10_wornAt_35 hS hP hD ?_
      exact ⟨(PI.st hPI p_r4.2), (KP.tr (KP.rf I_p) (KP.st p_r4.2))⟩
    · refine lv_aload_n hx hb dX10_wornAt_15 rfl (lv_at hl 0 rfl) ?_
      refine lv_bipush (v := 6) hx hb dX10_wornAt_16 (by decide) ?_
      refine EffI.cv (wr := (wX9 g a_z I_z)) (w' := fun u7 => wX10 g a_p u7 J_p ++ wX9 g a_z I_z) (As := [.int (6 : Int32)]) (kX10_refuse l g a_p I_p J_p (6 : Int32)) fx (gUV (uT _) u_295 u_296 u_297 u_2 u_298) rfl hdX10_refuse ⟨Nat.le_of_ble_eq_true rfl, Nat.le_of_ble_eq_true rfl⟩ hK hP hD hS hA [0, 1] [2, 3] [2, 3, 0, 1] rfl rfl rfl rfl (by decide) rfl (fun _ => rfl) rfl rfl rfl rfl hl.1 (Nat.le_of_ble_eq_true rfl) dX10_wornAt_18 (fun r6 u7 H locs p_r6 hP hD hS => ?_)
      have hP : va_P g.1 vwCl (wX10 g a_p u7 J_p ++ wX9 g a_z I_z) H := hP
      have hD : va_D A (wX10 g a_p u7 J_p ++ wX9 g a_z I_z) := hD
      refine hret 21 ls r6 _ _ u7 dX10_wornAt_21 hS hP hD ?_
      exact ⟨(PI.st hPI p_r6.2), (KP.tr (KP.rf I_p) (KP.st p_r6.2))⟩

set_option maxHeartbeats 4000000 in
set_option maxRecDepth 100000 in
theorem kX10_tellFraction (l : Launch) (g : gG) (a_p : Nat → Nat) (I_p : Nat → Nat → Int32) (J_p : Nat → Nat → Int64) (over : Int32) (under : Int32) (h_u : 0 ≤ over.toInt ∧ over.toInt ≤ 20 ∧ 1 ≤ under.toInt ∧ under.toInt ≤ 20) : EffV l g yX10_tellFraction wsX10_tellFraction 0 [.ref (a_p 0), .int over, .int under] (wX10 g a_p I_p J_p) (fun (u : (Nat → Nat → Int64)) => wX10 g a_p I_p u) (fun (u : (Nat → Nat → Int64)) => True) := by
  refine EffV.st (cc := cX10_tellFraction) (maxL := 5) (by decide) rfl (Nat.le_of_ble_eq_true rfl) (fun p e s m args below meth c A Q ls fx hK hP hD hA hS hl hret => ?_)
  have hx := fx.1
  have hb := fx.2.1
  have hml := fx.2.2.1
  have hown := fx.2.2.2.1
  have hts := fx.2.2.2.2
  have hl : lv_has ls 5 [(0, .ref (a_p 0)), (1, .int over), (2, .int under)] := hl
  have hP : va_P g.1 vwCl (wX10 g a_p I_p J_p) s.heap := hP
  have hf_26 := hts _ (uT _ _ u_19)
  have hf_30 := hts _ (uT _ _ u_20)
  have hi_X10 : ∀ w ∈ wsX100, w.before args s = true := fun w h => hts w (uT _ w (u_wsX100 w h))
  have lm1 : (-1 : Int32).toInt = -1 := by decide
  have lm0 : (0 : Int32).toInt = 0 := by decide
  have lm2 : (1 : Int32).toInt = 1 := by decide
  have lq2 : (2 : Int32).toInt = 2 := by decide
  refine lv_iconst (v := 1) hx hb dX10_tellFraction_0 (by decide) ?_
  refine lv_istore_n (lv' := [(3, .int (1 : Int32)), (0, .ref (a_p 0)), (1, .int over), (2, .int under)]) hx hb dX10_tellFraction_1 rfl hl (by decide) rfl (fun ls hl => ?_)
  refine lv_iconst (v := 2) hx hb dX10_tellFraction_2 (by decide) ?_
  refine lv_istore (lv' := [(4, .int (2 : Int32)), (3, .int (1 : Int32)), (0, .ref (a_p 0)), (1, .int over), (2, .int under)]) hx hb dX10_tellFraction_3 hl (by decide) rfl (fun ls hl => ?_)
  have L5 : ∀ (nn : Nat) (v3_5 : Int32) (v4_5 : Int32), (hv_5 : 1 ≤ v3_5.toInt ∧ 2 ≤ v4_5.toInt ∧ v4_5.toInt ≤ 21) → ((22 - v4_5.toInt) < (nn : Int)) → ∀ (H : Heap) (locs : List Loc), va_P g.1 vwCl (wX10 g a_p I_p J_p) H → va_D A (wX10 g a_p I_p J_p) → va_S A s.heap H locs → ∀ ls : Array Slot, lv_has ls 5 [(4, .int v4_5), (3, .int v3_5), (0, .ref (a_p 0)), (1, .int over), (2, .int under)] → W p l e (rm 0) s m args below meth c H locs 0 0 Q (F0 m 5 ls []) := by
    intro n_5
    induction n_5 with
    | zero =>
      intro v3_5 v4_5 hv_5 hms_5 H locs hP hD hS ls hl
      exfalso; omega
    | succ n_5 ih_5 =>
      intro v3_5 v4_5 hv_5 hms_5 H locs hP hD hS ls hl
      refine lv_iload hx hb dX10_tellFraction_5 (lv_at hl 0 rfl) ?_
      refine lv_iload_n hx hb dX10_tellFraction_7 rfl (lv_at hl 4 rfl) ?_
      refine q_icmp_gt (tgt := 34) hx hb dX10_tellFraction_8 (by decide) rfl rfl (fun k_8 => ?_) (fun k_8 => ?_)
      · refine lv_aload_n hx hb dX10_tellFraction_34 rfl (lv_at hl 2 rfl) ?_
        refine lv_iload_n hx hb dX10_tellFraction_35 rfl (lv_at hl 3 rfl) ?_
        refine lv_iload_n hx hb dX10_tellFraction_36 rfl (lv_at hl 1 rfl) ?_
        refine lv_idiv hx hb dX10_tellFraction_37 (fun h => by have := t_eq h rfl (by decide : (0 : Int32).toInt = 0); omega) ?_
        refine q_nm (fun x1 e_x1 => ?_)
        try have t_x1 := t_div e_x1 rfl rfl (by omega) (by omega)
        refine lv_i2l hx hb dX10_tellFraction_38 rfl ?_
        refine q_nml (fun w2 e_w2 => ?_)
        refine va_put (D := g.1) (ci := 10) (v := .long w2) (ty := .long) (C := RX10) (T := TX10) (N := 20) hx hb hi_X10 (fun _ h => h) tyX10 tyX10_ok nmX10 hown hK.1 hP hD hS 0 rfl rfl 5 (by decide) hf_26 (fun _ h9 => h9) rfl (by decide +kernel) rfl rfl (Nat.le_of_ble_eq_true rfl) dX10_tellFraction_39 (fun H locs hP hD hS => ?_)
        have hP : va_P g.1 vwCl (wX10 g a_p I_p (vF J_p 0 5 w2)) H := hP
        have hD : va_D A (wX10 g a_p I_p (vF J_p 0 5 w2)) := hD
        refine lv_aload_n hx hb dX10_tellFraction_42 rfl (lv_at hl 2 rfl) ?_
        refine lv_iload_n hx hb dX10_tellFraction_43 rfl (lv_at hl 4 rfl) ?_
        refine lv_iload_n hx hb dX10_tellFraction_44 rfl (lv_at hl 1 rfl) ?_
        refine lv_idiv hx hb dX10_tellFraction_45 (fun h => by have := t_eq h rfl (by decide : (0 : Int32).toInt = 0); omega) ?_
        refine q_nm (fun x3 e_x3 => ?_)
        try have t_x3 := t_div e_x3 rfl rfl (by omega) (by omega)
        refine lv_i2l hx hb dX10_tellFraction_46 rfl ?_
        refine q_nml (fun w4 e_w4 => ?_)
        refine va_put (D := g.1) (ci := 10) (v := .long w4) (ty := .long) (C := RX10) (T := TX10) (N := 20) hx hb hi_X10 (fun _ h => h) tyX10 tyX10_ok nmX10 hown hK.1 hP hD hS 0 rfl rfl 6 (by decide) hf_30 (fun _ h9 => h9) rfl (by decide +kernel) rfl rfl (Nat.le_of_ble_eq_true rfl) dX10_tellFraction_47 (fun H locs hP hD hS => ?_)
        have hP : va_P g.1 vwCl (wX10 g a_p I_p (vF (vF J_p 0 5 w2) 0 6 w4)) H := hP
        have hD : va_D A (wX10 g a_p I_p (vF (vF J_p 0 5 w2) 0 6 w4)) := hD
        refine hret 50 ls _ _ (vF (vF J_p 0 5 w2) 0 6 w4) dX10_tellFraction_50 hS hP hD ?_
        exact trivial
      · refine lv_iload_n hx hb dX10_tellFraction_11 rfl (lv_at hl 3 rfl) ?_
        refine lv_iload hx hb dX10_tellFraction_12 (lv_at hl 0 rfl) ?_
        refine lv_irem hx hb dX10_tellFraction_14 (fun h => by have := t_eq h rfl (by decide : (0 : Int32).toInt = 0); omega) ?_
        refine q_nm (fun x5 e_x5 => ?_)
        try have t_x5 := t_rem e_x5 rfl rfl (by omega) (by omega)
        refine q_if_ne (tgt := 28) hx hb dX10_tellFraction_15 (by decide) rfl (fun b_15 k_15 => ?_) (fun b_15 k_15 => ?_)
        · refine r_iinc (lv' := fun i6 => [(4, .int i6), (3, .int v3_5), (0, .ref (a_p 0)), (1, .int over), (2, .int under)]) hx hb dX10_tellFraction_28 hl (k := 0) rfl (by decide) rfl (by decide) (fun _ => rfl) (fun i6 e_i6 t_i6 ls hl => ?_)
          try have t_i6 := t_i6 (by omega)
          refine lv_goto (tgt := 5) hx hb dX10_tellFraction_31 (by decide) ?_
          exact ih_5 v3_5 i6 (by omega) (by omega) _ _ hP hD hS ls hl
        · refine lv_iload_n hx hb dX10_tellFraction_18 rfl (lv_at hl 4 rfl) ?_
          refine lv_iload hx hb dX10_tellFraction_19 (lv_at hl 0 rfl) ?_
          refine lv_irem hx hb dX10_tellFraction_21 (fun h => by have := t_eq h rfl (by decide : (0 : Int32).toInt = 0); omega) ?_
          refine q_nm (fun x7 e_x7 => ?_)
          try have t_x7 := t_rem e_x7 rfl rfl (by omega) (by omega)
          refine q_if_ne (tgt := 28) hx hb dX10_tellFraction_22 (by decide) rfl (fun b_22 k_22 => ?_) (fun b_22 k_22 => ?_)
          · refine r_iinc (lv' := fun i8 => [(4, .int i8), (3, .int v3_5), (0, .ref (a_p 0)), (1, .int over), (2, .int under)]) hx hb dX10_tellFraction_28 hl (k := 0) rfl (by decide) rfl (by decide) (fun _ => rfl) (fun i8 e_i8 t_i8 ls hl => ?_)
            try have t_i8 := t_i8 (by omega)
            refine lv_goto (tgt := 5) hx hb dX10_tellFraction_31 (by decide) ?_
            exact ih_5 v3_5 i8 (by omega) (by omega) _ _ hP hD hS ls hl
          · refine lv_iload hx hb dX10_tellFraction_25 (lv_at hl 0 rfl) ?_
            refine lv_istore_n (lv' := [(3, .int v4_5), (4, .int v4_5), (0, .ref (a_p 0)), (1, .int over), (2, .int under)]) hx hb dX10_tellFraction_27 rfl hl (by decide) rfl (fun ls hl => ?_)
            refine r_iinc (lv' := fun i9 => [(4, .int i9), (3, .int v4_5), (0, .ref (a_p 0)), (1, .int over), (2, .int under)]) hx hb dX10_tellFraction_28 hl (k := 1) rfl (by decide) rfl (by decide) (fun _ => rfl) (fun i9 e_i9 t_i9 ls hl => ?_)
            try have t_i9 := t_i9 (by omega)
            refine lv_goto (tgt := 5) hx hb dX10_tellFraction_31 (by decide) ?_
            exact ih_5 v4_5 i9 (by omega) (by omega) _ _ hP hD hS ls hl
  exact L5 ((22 - (2 : Int32).toInt) + 1).toNat (1 : Int32) (2 : Int32) (by omega) (by omega) _ _ hP hD hS ls hl
