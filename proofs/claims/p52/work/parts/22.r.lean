set_option maxHeartbeats 4000000 in
set_option maxRecDepth 100000 in
theorem kX10_whyNoRow (l : Launch) (g : gG) (a_p : Nat → Nat) (I_p : Nat → Nat → Int32) (J_p : Nat → Nat → Int64) (a_d : Nat → Nat) (I_d : Nat → Nat → Int32) (J_d : Nat → Nat → Int64) (tray : Int32) (many : Int32) (hl_p_trays : a_p 107 = a_d 0) (hPI : PI I_p) (hDI : DI I_d) : PurI l g yX10_whyNoRow wsX10_whyNoRow 2 [.ref (a_p 0), .int tray, .int many] (wX10 g a_p I_p J_p ++ wX8 g a_d I_d J_d) (fun r => (r.toInt = 0 → (0 ≤ tray.toInt ∧ tray.toInt < 4) ∧ 1 ≤ many.toInt ∧ many.toInt ≤ 20) ∧ ((r.toInt = 0 ∧ okRow (I_d 3) (J_d 1) tray many 1) ∨ (r.toInt ≠ 0 ∧ ¬ okRow (I_d 3) (J_d 1) tray many 1))) := by
  refine PurI.st (cc := cX10_whyNoRow) (maxL := 3) (by decide) rfl (Nat.le_of_ble_eq_true rfl) (fun p e s m args below meth c Q ls fx hK hP hl hret => ?_)
  have hx := fx.1
  have hb := fx.2.1
  have hml := fx.2.2.1
  have hown := fx.2.2.2.1
  have hts := fx.2.2.2.2
  have hl : lv_has ls 3 [(0, .ref (a_p 0)), (1, .int tray), (2, .int many)] := hl
  have hP : va_P g.1 vwCl (wX10 g a_p I_p J_p ++ wX8 g a_d I_d J_d) s.heap := hP
  have hf_36 := hts _ (uT _ _ u_24)
  have hi_X10 : ∀ w ∈ wsX100, w.before args s = true := fun w h => hts w (uT _ w (u_wsX100 w h))
  have lm1 : (-1 : Int32).toInt = -1 := by decide
  have lm0 : (0 : Int32).toInt = 0 := by decide
  have lm2 : (1 : Int32).toInt = 1 := by decide
  have hp1 := hPI.1
  have hp2 := hPI.2.1
  have lq2 : (2 : Int32).toInt = 2 := by decide
  have lq3 : (3 : Int32).toInt = 3 := by decide
  have lq5 : (5 : Int32).toInt = 5 := by decide
  refine lv_aload_n hx hb dX10_whyNoRow_0 rfl (lv_at hl 0 rfl) ?_
  refine va_get (D := g.1) (ci := 10) (v := .ref (a_d 0)) (C := RX10) (T := TX10) (N := 20) hx hb hi_X10 (fun _ h => h) hown hK.1 hP 0 rfl rfl 7 (by decide) hf_36 (fun _ h9 => h9) (congrArg (fun z => some (Value.ref z)) hl_p_trays) dX10_whyNoRow_1 ?_
  refine lv_iload_n hx hb dX10_whyNoRow_4 rfl (lv_at hl 1 rfl) ?_
  refine PurI.cv (As := [.int tray]) (kX8_isTray l g a_d I_d J_d tray) fx (gUV (uT _) u_232 u_233 u_234 u_23 u_235) rfl hdX8_isTray ⟨Nat.le_of_ble_eq_true rfl, Nat.le_of_ble_eq_true rfl⟩ hK hP [2, 3, 4, 5] rfl rfl rfl rfl rfl hl.1 (Nat.le_of_ble_eq_true rfl) dX10_whyNoRow_5 (fun r1 p_r1 => ?_)
  refine q_if_eq (tgt := 22) hx hb dX10_whyNoRow_8 (by decide) rfl (fun b_8 k_8 => ?_) (fun b_8 k_8 => ?_)
  · have q_8 := bP.f p_r1 b_8
    refine lv_iconst (v := 1) hx hb dX10_whyNoRow_22 (by decide) ?_
    have lr : (1 : Int32).toInt = 1 := by decide
    exact hret 23 ls (1 : Int32) dX10_whyNoRow_23 ⟨fun w => absurd w (by decide), Or.inr ⟨by decide, fun q => by have q1 := q.1; omega⟩⟩
  · have q_8 := bP.t p_r1 b_8
    refine lv_iload_n hx hb dX10_whyNoRow_11 rfl (lv_at hl 2 rfl) ?_
    refine lv_iconst (v := 1) hx hb dX10_whyNoRow_12 (by decide) ?_
    refine q_icmp_lt (tgt := 22) hx hb dX10_whyNoRow_13 (by decide) rfl (by decide : (1 : Int32).toInt = 1) (fun k_13 => ?_) (fun k_13 => ?_)
    · refine lv_iconst (v := 1) hx hb dX10_whyNoRow_22 (by decide) ?_
      have lr : (1 : Int32).toInt = 1 := by decide
      exact hret 23 ls (1 : Int32) dX10_whyNoRow_23 ⟨fun w => absurd w (by decide), Or.inr ⟨by decide, fun q => by have q1 := q.1; omega⟩⟩
    · refine lv_iload_n hx hb dX10_whyNoRow_16 rfl (lv_at hl 2 rfl) ?_
      refine lv_bipush (v := 20) hx hb dX10_whyNoRow_17 (by decide) ?_
      refine q_icmp_le (tgt := 24) hx hb dX10_whyNoRow_19 (by decide) rfl (by decide : (20 : Int32).toInt = 20) (fun k_19 => ?_) (fun k_19 => ?_)
      · refine lv_aload_n hx hb dX10_whyNoRow_24 rfl (lv_at hl 0 rfl) ?_
        refine va_get (D := g.1) (ci := 10) (v := .ref (a_d 0)) (C := RX10) (T := TX10) (N := 20) hx hb hi_X10 (fun _ h => h) hown hK.1 hP 0 rfl rfl 7 (by decide) hf_36 (fun _ h9 => h9) (congrArg (fun z => some (Value.ref z)) hl_p_trays) dX10_whyNoRow_25 ?_
        refine lv_iload_n hx hb dX10_whyNoRow_28 rfl (lv_at hl 1 rfl) ?_
        refine PurI.cv (As := [.int tray]) (kX8_isMissing l g a_d I_d J_d tray (by omega)) fx (gUV (uT _) u_312 u_273 u_274 u_23 u_275) rfl hdX8_isMissing ⟨Nat.le_of_ble_eq_true rfl, Nat.le_of_ble_eq_true rfl⟩ hK hP [2, 3, 4, 5] rfl rfl rfl rfl rfl hl.1 (Nat.le_of_ble_eq_true rfl) dX10_whyNoRow_29 (fun r2 p_r2 => ?_)
        refine q_if_eq (tgt := 37) hx hb dX10_whyNoRow_32 (by decide) rfl (fun b_32 k_32 => ?_) (fun b_32 k_32 => ?_)
        · have q_32 := bP.f p_r2 b_32
          refine lv_aload_n hx hb dX10_whyNoRow_37 rfl (lv_at hl 0 rfl) ?_
          refine va_get (D := g.1) (ci := 10) (v := .ref (a_d 0)) (C := RX10) (T := TX10) (N := 20) hx hb hi_X10 (fun _ h => h) hown hK.1 hP 0 rfl rfl 7 (by decide) hf_36 (fun _ h9 => h9) (congrArg (fun z => some (Value.ref z)) hl_p_trays) dX10_whyNoRow_38 ?_
          refine lv_iload_n hx hb dX10_whyNoRow_41 rfl (lv_at hl 1 rfl) ?_
          refine lv_iconst (v := 0) hx hb dX10_whyNoRow_42 (by decide) ?_
          refine lv_iload_n hx hb dX10_whyNoRow_43 rfl (lv_at hl 2 rfl) ?_
          refine PurI.cv (As := [.int tray, .int (0 : Int32), .int many]) (kX8_hasFrom l g a_d I_d J_d tray (0 : Int32) many (by omega) hDI) fx (gUV (uT _) u_317 u_318 u_319 u_23 u_320) rfl hdX8_hasFrom ⟨Nat.le_of_ble_eq_true rfl, Nat.le_of_ble_eq_true rfl⟩ hK hP [2, 3, 4, 5] rfl rfl rfl rfl rfl hl.1 (Nat.le_of_ble_eq_true rfl) dX10_whyNoRow_44 (fun r3 p_r3 => ?_)
          refine q_if_ne (tgt := 52) hx hb dX10_whyNoRow_47 (by decide) rfl (fun b_47 k_47 => ?_) (fun b_47 k_47 => ?_)
          · have q_47 := bP.t p_r3 b_47
            refine lv_aload_n hx hb dX10_whyNoRow_52 rfl (lv_at hl 0 rfl) ?_
            refine va_get (D := g.1) (ci := 10) (v := .ref (a_d 0)) (C := RX10) (T := TX10) (N := 20) hx hb hi_X10 (fun _ h => h) hown hK.1 hP 0 rfl rfl 7 (by decide) hf_36 (fun _ h9 => h9) (congrArg (fun z => some (Value.ref z)) hl_p_trays) dX10_whyNoRow_53 ?_
            refine lv_iload_n hx hb dX10_whyNoRow_56 rfl (lv_at hl 1 rfl) ?_
            refine lv_iload_n hx hb dX10_whyNoRow_57 rfl (lv_at hl 2 rfl) ?_
            refine lv_iconst (v := 1) hx hb dX10_whyNoRow_58 (by decide) ?_
            refine PurI.cv (As := [.int tray, .int many, .int (1 : Int32)]) (kX8_areWithin l g a_d I_d J_d tray many (1 : Int32) (by omega) (by omega)) fx (gUV (uT _) u_1304 u_1305 u_1306 u_23 u_1307) rfl hdX8_areWithin ⟨Nat.le_of_ble_eq_true rfl, Nat.le_of_ble_eq_true rfl⟩ hK hP [2, 3, 4, 5] rfl rfl rfl rfl rfl hl.1 (Nat.le_of_ble_eq_true rfl) dX10_whyNoRow_59 (fun r4 p_r4 => ?_)
            refine q_if_eq (tgt := 69) hx hb dX10_whyNoRow_62 (by decide) rfl (fun b_62 k_62 => ?_) (fun b_62 k_62 => ?_)
            · have q_62 := bP.f p_r4 b_62
              refine lv_iconst (v := 5) hx hb dX10_whyNoRow_69 (by decide) ?_
              have lr : (5 : Int32).toInt = 5 := by decide
              exact hret 70 ls (5 : Int32) dX10_whyNoRow_70 (by first | exact ⟨fun _ => by omega, Or.inl ⟨by decide, by omega, by omega, fun k hk => by have w := q_62 k hk; rw [lm2] at w; exact w⟩⟩ | exact ⟨fun w => absurd w (by decide), Or.inr ⟨by decide, fun q => q_62 (fun k hk => by rw [lm2]; exact q.2.2 k hk)⟩⟩)
            · have q_62 := bP.t p_r4 b_62
              refine lv_iconst (v := 0) hx hb dX10_whyNoRow_65 (by decide) ?_
              refine lv_goto (tgt := 70) hx hb dX10_whyNoRow_66 (by decide) ?_
              exact hret 70 ls (0 : Int32) dX10_whyNoRow_70 (by first | exact ⟨fun _ => by omega, Or.inl ⟨by decide, by omega, by omega, fun k hk => by have w := q_62 k hk; rw [lm2] at w; exact w⟩⟩ | exact ⟨fun w => absurd w (by decide), Or.inr ⟨by decide, fun q => q_62 (fun k hk => by rw [lm2]; exact q.2.2 k hk)⟩⟩)
          · have q_47 := bP.f p_r3 b_47
            refine lv_iconst (v := 3) hx hb dX10_whyNoRow_50 (by decide) ?_
            have lr : (3 : Int32).toInt = 3 := by decide
            exact hret 51 ls (3 : Int32) dX10_whyNoRow_51 ⟨fun w => absurd w (by decide), Or.inr ⟨by decide, fun q => by have q1 := q.1; have q2 := q.2.1; omega⟩⟩
        · have q_32 := bP.t p_r2 b_32
          refine lv_iconst (v := 2) hx hb dX10_whyNoRow_35 (by decide) ?_
          have lr : (2 : Int32).toInt = 2 := by decide
          exact hret 36 ls (2 : Int32) dX10_whyNoRow_36 ⟨fun w => absurd w (by decide), Or.inr ⟨by decide, fun q => by have q1 := q.1; have q2 := q.2.1; omega⟩⟩
      · refine lv_iconst (v := 1) hx hb dX10_whyNoRow_22 (by decide) ?_
        have lr : (1 : Int32).toInt = 1 := by decide
        exact hret 23 ls (1 : Int32) dX10_whyNoRow_23 ⟨fun w => absurd w (by decide), Or.inr ⟨by decide, fun q => by have q1 := q.1; omega⟩⟩

set_option maxHeartbeats 4000000 in
set_option maxRecDepth 100000 in
theorem kX10_whyNoFailed (l : Launch) (g : gG) (a_p : Nat → Nat) (I_p : Nat → Nat → Int32) (J_p : Nat → Nat → Int64) (a_d : Nat → Nat) (I_d : Nat → Nat → Int32) (J_d : Nat → Nat → Int64) (tray : Int32) (dots : Int32) (many : Int32) (hl_p_trays : a_p 107 = a_d 0) (hPI : PI I_p) (hDI : DI I_d) : PurI l g yX10_whyNoFailed wsX10_whyNoFailed 2 [.ref (a_p 0), .int tray, .int dots, .int many] (wX10 g a_p I_p J_p ++ wX8 g a_d I_d J_d) (fun r => (r.toInt = 0 → (0 ≤ tray.toInt ∧ tray.toInt < 4) ∧ (0 ≤ dots.toInt ∧ dots.toInt < 4) ∧ 1 ≤ many.toInt ∧ many.toInt ≤ 20) ∧ ((r.toInt = 0 ∧ (okRow (I_d 3) (J_d 1) tray many 1 ∧ okRow (I_d 3) (J_d 1) dots many 0)) ∨ (r.toInt ≠ 0 ∧ ¬ (okRow (I_d 3) (J_d 1) tray many 1 ∧ okRow (I_d 3) (J_d 1) dots many 0)))) := by
  refine PurI.st (cc := cX10_whyNoFailed) (maxL := 5) (by decide) rfl (Nat.le_of_ble_eq_true rfl) (fun p e s m args below meth c Q ls fx hK hP hl hret => ?_)
  have hx := fx.1
  have hb := fx.2.1
  have hml := fx.2.2.1
  have hown := fx.2.2.2.1
  have hts := fx.2.2.2.2
  have hl : lv_has ls 5 [(0, .ref (a_p 0)), (1, .int tray), (2, .int dots), (3, .int many)] := hl
  have hP : va_P g.1 vwCl (wX10 g a_p I_p J_p ++ wX8 g a_d I_d J_d) s.heap := hP
  have hf_36 := hts _ (uT _ _ u_24)
  have hi_X10 : ∀ w ∈ wsX100, w.before args s = true := fun w h => hts w (uT _ w (u_wsX100 w h))
  have lm1 : (-1 : Int32).toInt = -1 := by decide
  have lm0 : (0 : Int32).toInt = 0 := by decide
  have lm2 : (1 : Int32).toInt = 1 := by decide
  have hp1 := hPI.1
  have hp2 := hPI.2.1
  have lq2 : (2 : Int32).toInt = 2 := by decide
  have lq3 : (3 : Int32).toInt = 3 := by decide
  have lq5 : (5 : Int32).toInt = 5 := by decide
  refine lv_aload_n hx hb dX10_whyNoFailed_0 rfl (lv_at hl 0 rfl) ?_
  refine va_get (D := g.1) (ci := 10) (v := .ref (a_d 0)) (C := RX10) (T := TX10) (N := 20) hx hb hi_X10 (fun _ h => h) hown hK.1 hP 0 rfl rfl 7 (by decide) hf_36 (fun _ h9 => h9) (congrArg (fun z => some (Value.ref z)) hl_p_trays) dX10_whyNoFailed_1 ?_
  refine lv_iload_n hx hb dX10_whyNoFailed_4 rfl (lv_at hl 1 rfl) ?_
  refine PurI.cv (As := [.int tray]) (kX8_isTray l g a_d I_d J_d tray) fx (gUV (uT _) u_232 u_233 u_234 u_23 u_235) rfl hdX8_isTray ⟨Nat.le_of_ble_eq_true rfl, Nat.le_of_ble_eq_true rfl⟩ hK hP [2, 3, 4, 5] rfl rfl rfl rfl rfl hl.1 (Nat.le_of_ble_eq_true rfl) dX10_whyNoFailed_5 (fun r1 p_r1 => ?_)
  refine q_if_eq (tgt := 33) hx hb dX10_whyNoFailed_8 (by decide) rfl (fun b_8 k_8 => ?_) (fun b_8 k_8 => ?_)
  · have q_8 := bP.f p_r1 b_8
    refine lv_iconst (v := 1) hx hb dX10_whyNoFailed_33 (by decide) ?_
    have lr : (1 : Int32).toInt = 1 := by decide
    exact hret 34 ls (1 : Int32) dX10_whyNoFailed_34 ⟨fun w => absurd w (by decide), Or.inr ⟨by decide, fun q => by have q1 := q.1.1; have q2 := q.2.1; omega⟩⟩
  · have q_8 := bP.t p_r1 b_8
    refine lv_aload_n hx hb dX10_whyNoFailed_11 rfl (lv_at hl 0 rfl) ?_
    refine va_get (D := g.1) (ci := 10) (v := .ref (a_d 0)) (C := RX10) (T := TX10) (N := 20) hx hb hi_X10 (fun _ h => h) hown hK.1 hP 0 rfl rfl 7 (by decide) hf_36 (fun _ h9 => h9) (congrArg (fun z => some (Value.ref z)) hl_p_trays) dX10_whyNoFailed_12 ?_
    refine lv_iload_n hx hb dX10_whyNoFailed_15 rfl (lv_at hl 2 rfl) ?_
    refine PurI.cv (As := [.int dots]) (kX8_isTray l g a_d I_d J_d dots) fx (gUV (uT _) u_232 u_233 u_234 u_23 u_235) rfl hdX8_isTray ⟨Nat.le_of_ble_eq_true rfl, Nat.le_of_ble_eq_true rfl⟩ hK hP [2, 3, 4, 5] rfl rfl rfl rfl rfl hl.1 (Nat.le_of_ble_eq_true rfl) dX10_whyNoFailed_16 (fun r2 p_r2 => ?_)
    refine q_if_eq (tgt := 33) hx hb dX10_whyNoFailed_19 (by decide) rfl (fun b_19 k_19 => ?_) (fun b_19 k_19 => ?_)
    · have q_19 := bP.f p_r2 b_19
      refine lv_iconst (v := 1) hx hb dX10_whyNoFailed_33 (by decide) ?_
      have lr : (1 : Int32).toInt = 1 := by decide
      exact hret 34 ls (1 : Int32) dX10_whyNoFailed_34 ⟨fun w => absurd w (by decide), Or.inr ⟨by decide, fun q => by have q1 := q.1.1; have q2 := q.2.1; omega⟩⟩
    · have q_19 := bP.t p_r2 b_19
      refine lv_iload_n hx hb dX10_whyNoFailed_22 rfl (lv_at hl 3 rfl) ?_
      refine lv_iconst (v := 1) hx hb dX10_whyNoFailed_23 (by decide) ?_
      refine q_icmp_lt (tgt := 33) hx hb dX10_whyNoFailed_24 (by decide) rfl (by decide : (1 : Int32).toInt = 1) (fun k_24 => ?_) (fun k_24 => ?_)
      · refine lv_iconst (v := 1) hx hb dX10_whyNoFailed_33 (by decide) ?_
        have lr : (1 : Int32).toInt = 1 := by decide
        exact hret 34 ls (1 : Int32) dX10_whyNoFailed_34 ⟨fun w => absurd w (by decide), Or.inr ⟨by decide, fun q => by have q1 := q.1.1; have q2 := q.2.1; omega⟩⟩
      · refine lv_iload_n hx hb dX10_whyNoFailed_27 rfl (lv_at hl 3 rfl) ?_
        refine lv_bipush (v := 20) hx hb dX10_whyNoFailed_28 (by decide) ?_
        refine q_icmp_le (tgt := 35) hx hb dX10_whyNoFailed_30 (by decide) rfl (by decide : (20 : Int32).toInt = 20) (fun k_30 => ?_) (fun k_30 => ?_)
        · refine lv_aload_n hx hb dX10_whyNoFailed_35 rfl (lv_at hl 0 rfl) ?_
          refine va_get (D := g.1) (ci := 10) (v := .ref (a_d 0)) (C := RX10) (T := TX10) (N := 20) hx hb hi_X10 (fun _ h => h) hown hK.1 hP 0 rfl rfl 7 (by decide) hf_36 (fun _ h9 => h9) (congrArg (fun z => some (Value.ref z)) hl_p_trays) dX10_whyNoFailed_36 ?_
          refine lv_iload_n hx hb dX10_whyNoFailed_39 rfl (lv_at hl 1 rfl) ?_
          refine PurI.cv (As := [.int tray]) (kX8_isMissing l g a_d I_d J_d tray (by omega)) fx (gUV (uT _) u_312 u_273 u_274 u_23 u_275) rfl hdX8_isMissing ⟨Nat.le_of_ble_eq_true rfl, Nat.le_of_ble_eq_true rfl⟩ hK hP [2, 3, 4, 5] rfl rfl rfl rfl rfl hl.1 (Nat.le_of_ble_eq_true rfl) dX10_whyNoFailed_40 (fun r3 p_r3 => ?_)
          refine q_if_ne (tgt := 57) hx hb dX10_whyNoFailed_43 (by decide) rfl (fun b_43 k_43 => ?_) (fun b_43 k_43 => ?_)
          · have q_43 := bP.t p_r3 b_43
            refine lv_iconst (v := 2) hx hb dX10_whyNoFailed_57 (by decide) ?_
            have lr : (2 : Int32).toInt = 2 := by decide
            exact hret 58 ls (2 : Int32) dX10_whyNoFailed_58 ⟨fun w => absurd w (by decide), Or.inr ⟨by decide, fun q => by have q0 := q.1.1; have q1 := q.1.2.1; have q2 := q.2.2.1; omega⟩⟩
          · have q_43 := bP.f p_r3 b_43
            refine lv_aload_n hx hb dX10_whyNoFailed_46 rfl (lv_at hl 0 rfl) ?_
            refine va_get (D := g.1) (ci := 10) (v := .ref (a_d 0)) (C := RX10) (T := TX10) (N := 20) hx hb hi_X10 (fun _ h => h) hown hK.1 hP 0 rfl rfl 7 (by decide) hf_36 (fun _ h9 => h9) (congrArg (fun z => some (Value.ref z)) hl_p_trays) dX10_whyNoFailed_47 ?_
            refine lv_iload_n hx hb dX10_whyNoFailed_50 rfl (lv_at hl 2 rfl) ?_
            refine PurI.cv (As := [.int dots]) (kX8_isMissing l g a_d I_d J_d dots (by omega)) fx (gUV (uT _) u_312 u_273 u_274 u_23 u_275) rfl hdX8_isMissing ⟨Nat.le_of_ble_eq_true rfl, Nat.le_of_ble_eq_true rfl⟩ hK hP [2, 3, 4, 5] rfl rfl rfl rfl rfl hl.1 (Nat.le_of_ble_eq_true rfl) dX10_whyNoFailed_51 (fun r4 p_r4 => ?_)
            refine q_if_eq (tgt := 59) hx hb dX10_whyNoFailed_54 (by decide) rfl (fun b_54 k_54 => ?_) (fun b_54 k_54 => ?_)
            · have q_54 := bP.f p_r4 b_54
              refine lv_aload_n hx hb dX10_whyNoFailed_59 rfl (lv_at hl 0 rfl) ?_
              refine va_get (D := g.1) (ci := 10) (v := .ref (a_d 0)) (C := RX10) (T := TX10) (N := 20) hx hb hi_X10 (fun _ h => h) hown hK.1 hP 0 rfl rfl 7 (by decide) hf_36 (fun _ h9 => h9) (congrArg (fun z => some (Value.ref z)) hl_p_trays) dX10_whyNoFailed_60 ?_
              refine lv_iload_n hx hb dX10_whyNoFailed_63 rfl (lv_at hl 1 rfl) ?_
              refine lv_iconst (v := 0) hx hb dX10_whyNoFailed_64 (by decide) ?_
              refine lv_iload_n hx hb dX10_whyNoFailed_65 rfl (lv_at hl 3 rfl) ?_
              refine PurI.cv (As := [.int tray, .int (0 : Int32), .int many]) (kX8_hasFrom l g a_d I_d J_d tray (0 : Int32) many (by omega) hDI) fx (gUV (uT _) u_317 u_318 u_319 u_23 u_320) rfl hdX8_hasFrom ⟨Nat.le_of_ble_eq_true rfl, Nat.le_of_ble_eq_true rfl⟩ hK hP [2, 3, 4, 5] rfl rfl rfl rfl rfl hl.1 (Nat.le_of_ble_eq_true rfl) dX10_whyNoFailed_66 (fun r5 p_r5 => ?_)
              refine q_if_eq (tgt := 85) hx hb dX10_whyNoFailed_69 (by decide) rfl (fun b_69 k_69 => ?_) (fun b_69 k_69 => ?_)
              · have q_69 := bP.f p_r5 b_69
                refine lv_iconst (v := 3) hx hb dX10_whyNoFailed_85 (by decide) ?_
                have lr : (3 : Int32).toInt = 3 := by decide
                exact hret 86 ls (3 : Int32) dX10_whyNoFailed_86 ⟨fun w => absurd w (by decide), Or.inr ⟨by decide, fun q => by have q0 := q.1.1; have q1 := q.1.2.1; have q2 := q.2.2.1; omega⟩⟩
              · have q_69 := bP.t p_r5 b_69
                refine lv_aload_n hx hb dX10_whyNoFailed_72 rfl (lv_at hl 0 rfl) ?_
                refine va_get (D := g.1) (ci := 10) (v := .ref (a_d 0)) (C := RX10) (T := TX10) (N := 20) hx hb hi_X10 (fun _ h => h) hown hK.1 hP 0 rfl rfl 7 (by decide) hf_36 (fun _ h9 => h9) (congrArg (fun z => some (Value.ref z)) hl_p_trays) dX10_whyNoFailed_73 ?_
                refine lv_iload_n hx hb dX10_whyNoFailed_76 rfl (lv_at hl 2 rfl) ?_
                refine lv_iconst (v := 0) hx hb dX10_whyNoFailed_77 (by decide) ?_
                refine lv_iload_n hx hb dX10_whyNoFailed_78 rfl (lv_at hl 3 rfl) ?_
                refine PurI.cv (As := [.int dots, .int (0 : Int32), .int many]) (kX8_hasFrom l g a_d I_d J_d dots (0 : Int32) many (by omega) hDI) fx (gUV (uT _) u_317 u_318 u_319 u_23 u_320) rfl hdX8_hasFrom ⟨Nat.le_of_ble_eq_true rfl, Nat.le_of_ble_eq_true rfl⟩ hK hP [2, 3, 4, 5] rfl rfl rfl rfl rfl hl.1 (Nat.le_of_ble_eq_true rfl) dX10_whyNoFailed_79 (fun r6 p_r6 => ?_)
                refine q_if_ne (tgt := 87) hx hb dX10_whyNoFailed_82 (by decide) rfl (fun b_82 k_82 => ?_) (fun b_82 k_82 => ?_)
                · have q_82 := bP.t p_r6 b_82
                  refine lv_aload_n hx hb dX10_whyNoFailed_87 rfl (lv_at hl 0 rfl) ?_
                  refine va_get (D := g.1) (ci := 10) (v := .ref (a_d 0)) (C := RX10) (T := TX10) (N := 20) hx hb hi_X10 (fun _ h => h) hown hK.1 hP 0 rfl rfl 7 (by decide) hf_36 (fun _ h9 => h9) (congrArg (fun z => some (Value.ref z)) hl_p_trays) dX10_whyNoFailed_88 ?_
                  refine lv_iload_n hx hb dX10_whyNoFailed_91 rfl (lv_at hl 1 rfl) ?_
                  refine lv_iload_n hx hb dX10_whyNoFailed_92 rfl (lv_at hl 3 rfl) ?_
                  refine lv_iconst (v := 1) hx hb dX10_whyNoFailed_93 (by decide) ?_
                  refine PurI.cv (As := [.int tray, .int many, .int (1 : Int32)]) (kX8_areWithin l g a_d I_d J_d tray many (1 : Int32) (by omega) (by omega)) fx (gUV (uT _) u_1304 u_1305 u_1306 u_23 u_1307) rfl hdX8_areWithin ⟨Nat.le_of_ble_eq_true rfl, Nat.le_of_ble_eq_true rfl⟩ hK hP [2, 3, 4, 5] rfl rfl rfl rfl rfl hl.1 (Nat.le_of_ble_eq_true rfl) dX10_whyNoFailed_94 (fun r7 p_r7 => ?_)
                  refine q_if_eq (tgt := 117) hx hb dX10_whyNoFailed_97 (by decide) rfl (fun b_97 k_97 => ?_) (fun b_97 k_97 => ?_)
                  · have q_97 := bP.f p_r7 b_97
                    refine lv_iconst (v := 0) hx hb dX10_whyNoFailed_117 (by decide) ?_
                    refine lv_istore (lv' := [(4, .int (0 : Int32)), (0, .ref (a_p 0)), (1, .int tray), (2, .int dots), (3, .int many)]) hx hb dX10_whyNoFailed_118 hl (by decide) rfl (fun ls hl => ?_)
                    refine lv_iload hx hb dX10_whyNoFailed_120 (lv_at hl 0 rfl) ?_
                    refine q_if_eq (tgt := 129) hx hb dX10_whyNoFailed_122 (by decide) (by decide : (0 : Int32).toInt = 0) (fun b_122 k_122 => ?_) (fun b_122 k_122 => ?_)
                    · refine lv_iconst (v := 5) hx hb dX10_whyNoFailed_129 (by decide) ?_
                      have lr : (5 : Int32).toInt = 5 := by decide
                      exact hret 130 ls (5 : Int32) dX10_whyNoFailed_130 (by first | exact ⟨fun _ => by omega, Or.inl ⟨by decide, ⟨by omega, by omega, fun k hk => by have w := q_97 k hk; rw [lm2] at w; exact w⟩, ⟨by omega, by omega, fun k hk => by have w := q_110 k hk; rw [lm0] at w; exact w⟩⟩⟩ | exact ⟨fun w => absurd w (by decide), Or.inr ⟨by decide, fun q => q_97 (fun k hk => by rw [lm2]; exact q.1.2.2 k hk)⟩⟩ | exact ⟨fun w => absurd w (by decide), Or.inr ⟨by decide, fun q => q_110 (fun k hk => by rw [lm0]; exact q.2.2.2 k hk)⟩⟩)
                    · exfalso
                      omega
                  · have q_97 := bP.t p_r7 b_97
                    refine lv_aload_n hx hb dX10_whyNoFailed_100 rfl (lv_at hl 0 rfl) ?_
                    refine va_get (D := g.1) (ci := 10) (v := .ref (a_d 0)) (C := RX10) (T := TX10) (N := 20) hx hb hi_X10 (fun _ h => h) hown hK.1 hP 0 rfl rfl 7 (by decide) hf_36 (fun _ h9 => h9) (congrArg (fun z => some (Value.ref z)) hl_p_trays) dX10_whyNoFailed_101 ?_
                    refine lv_iload_n hx hb dX10_whyNoFailed_104 rfl (lv_at hl 2 rfl) ?_
                    refine lv_iload_n hx hb dX10_whyNoFailed_105 rfl (lv_at hl 3 rfl) ?_
                    refine lv_iconst (v := 0) hx hb dX10_whyNoFailed_106 (by decide) ?_
                    refine PurI.cv (As := [.int dots, .int many, .int (0 : Int32)]) (kX8_areWithin l g a_d I_d J_d dots many (0 : Int32) (by omega) (by omega)) fx (gUV (uT _) u_1304 u_1305 u_1306 u_23 u_1307) rfl hdX8_areWithin ⟨Nat.le_of_ble_eq_true rfl, Nat.le_of_ble_eq_true rfl⟩ hK hP [2, 3, 4, 5] rfl rfl rfl rfl rfl hl.1 (Nat.le_of_ble_eq_true rfl) dX10_whyNoFailed_107 (fun r8 p_r8 => ?_)
                    refine q_if_eq (tgt := 117) hx hb dX10_whyNoFailed_110 (by decide) rfl (fun b_110 k_110 => ?_) (fun b_110 k_110 => ?_)
                    · have q_110 := bP.f p_r8 b_110
                      refine lv_iconst (v := 0) hx hb dX10_whyNoFailed_117 (by decide) ?_
                      refine lv_istore (lv' := [(4, .int (0 : Int32)), (0, .ref (a_p 0)), (1, .int tray), (2, .int dots), (3, .int many)]) hx hb dX10_whyNoFailed_118 hl (by decide) rfl (fun ls hl => ?_)
                      refine lv_iload hx hb dX10_whyNoFailed_120 (lv_at hl 0 rfl) ?_
                      refine q_if_eq (tgt := 129) hx hb dX10_whyNoFailed_122 (by decide) (by decide : (0 : Int32).toInt = 0) (fun b_122 k_122 => ?_) (fun b_122 k_122 => ?_)
                      · refine lv_iconst (v := 5) hx hb dX10_whyNoFailed_129 (by decide) ?_
                        have lr : (5 : Int32).toInt = 5 := by decide
                        exact hret 130 ls (5 : Int32) dX10_whyNoFailed_130 (by first | exact ⟨fun _ => by omega, Or.inl ⟨by decide, ⟨by omega, by omega, fun k hk => by have w := q_97 k hk; rw [lm2] at w; exact w⟩, ⟨by omega, by omega, fun k hk => by have w := q_110 k hk; rw [lm0] at w; exact w⟩⟩⟩ | exact ⟨fun w => absurd w (by decide), Or.inr ⟨by decide, fun q => q_97 (fun k hk => by rw [lm2]; exact q.1.2.2 k hk)⟩⟩ | exact ⟨fun w => absurd w (by decide), Or.inr ⟨by decide, fun q => q_110 (fun k hk => by rw [lm0]; exact q.2.2.2 k hk)⟩⟩)
                      · exfalso
                        omega
                    · have q_110 := bP.t p_r8 b_110
                      refine lv_iconst (v := 1) hx hb dX10_whyNoFailed_113 (by decide) ?_
                      refine lv_goto (tgt := 118) hx hb dX10_whyNoFailed_114 (by decide) ?_
                      refine lv_istore (lv' := [(4, .int (1 : Int32)), (0, .ref (a_p 0)), (1, .int tray), (2, .int dots), (3, .int many)]) hx hb dX10_whyNoFailed_118 hl (by decide) rfl (fun ls hl => ?_)
                      refine lv_iload hx hb dX10_whyNoFailed_120 (lv_at hl 0 rfl) ?_
                      refine q_if_eq (tgt := 129) hx hb dX10_whyNoFailed_122 (by decide) (by decide : (1 : Int32).toInt = 1) (fun b_122 k_122 => ?_) (fun b_122 k_122 => ?_)
                      · exfalso
                        omega
                      · refine lv_iconst (v := 0) hx hb dX10_whyNoFailed_125 (by decide) ?_
                        refine lv_goto (tgt := 130) hx hb dX10_whyNoFailed_126 (by decide) ?_
                        exact hret 130 ls (0 : Int32) dX10_whyNoFailed_130 (by first | exact ⟨fun _ => by omega, Or.inl ⟨by decide, ⟨by omega, by omega, fun k hk => by have w := q_97 k hk; rw [lm2] at w; exact w⟩, ⟨by omega, by omega, fun k hk => by have w := q_110 k hk; rw [lm0] at w; exact w⟩⟩⟩ | exact ⟨fun w => absurd w (by decide), Or.inr ⟨by decide, fun q => q_97 (fun k hk => by rw [lm2]; exact q.1.2.2 k hk)⟩⟩ | exact ⟨fun w => absurd w (by decide), Or.inr ⟨by decide, fun q => q_110 (fun k hk => by rw [lm0]; exact q.2.2.2 k hk)⟩⟩)
                · have q_82 := bP.f p_r6 b_82
                  refine lv_iconst (v := 3) hx hb dX10_whyNoFailed_85 (by decide) ?_
                  have lr : (3 : Int32).toInt = 3 := by decide
                  exact hret 86 ls (3 : Int32) dX10_whyNoFailed_86 ⟨fun w => absurd w (by decide), Or.inr ⟨by decide, fun q => by have q0 := q.1.1; have q1 := q.1.2.1; have q2 := q.2.2.1; omega⟩⟩
            · have q_54 := bP.t p_r4 b_54
              refine lv_iconst (v := 2) hx hb dX10_whyNoFailed_57 (by decide) ?_
              have lr : (2 : Int32).toInt = 2 := by decide
              exact hret 58 ls (2 : Int32) dX10_whyNoFailed_58 ⟨fun w => absurd w (by decide), Or.inr ⟨by decide, fun q => by have q0 := q.1.1; have q1 := q.1.2.1; have q2 := q.2.2.1; omega⟩⟩
        · refine lv_iconst (v := 1) hx hb dX10_whyNoFailed_33 (by decide) ?_
          have lr : (1 : Int32).toInt = 1 := by decide
          exact hret 34 ls (1 : Int32) dX10_whyNoFailed_34 ⟨fun w => absurd w (by decide), Or.inr ⟨by decide, fun q => by have q1 := q.1.1; have q2 := q.2.1; omega⟩⟩

set_option maxHeartbeats 4000000 in
set_option maxRecDepth 100000 in
theorem kX10_takeRow (l : Launch) (g : gG) (a_p : Nat → Nat) (I_p : Nat → Nat → Int32) (J_p : Nat → Nat → Int64) (a_d : Nat → Nat) (I_d : Nat → Nat → Int32) (J_d : Nat → Nat → Int64) (a_t : Nat → Nat) (I_t : Nat → Nat → Int32) (a_w : Nat → Nat) (I_w : Nat → Nat → Int32) (tray : Int32) (dots : Int32) (many : Int32) (hl_p_trays : a_p 107 = a_d 0) (hl_p_table : a_p 109 = a_t 0) (hl_p_rows : a_p 115 = a_w 0) (hPI : PI I_p) (hDI : DI I_d) (hT : TI I_t) (hR : RI I_w) (h_t : 0 ≤ tray.toInt ∧ tray.toInt < 4) (h_d : dots.toInt = -1 ∨ (0 ≤ dots.toInt ∧ dots.toInt < 4)) (h_m : 1 ≤ many.toInt ∧ many.toInt ≤ 20) (h_cc : (HY I_t)) (h_wb : (WB I_w)) : EffV l g yX10_takeRow wsX10_takeRow 4 [.ref (a_p 0), .int tray, .int dots, .int many] (wX10 g a_p I_p J_p ++ (wX8 g a_d I_d J_d ++ (wX7 g a_t I_t ++ wX4 g a_w I_w))) (fun (u : (Nat → Nat → Int32)) => wX10 g a_p I_p J_p ++ (wX8 g a_d I_d J_d ++ (wX7 g a_t I_t ++ wX4 g a_w u))) (fun (u : (Nat → Nat → Int32)) => RI (u) ∧ rowP (J_d 1) tray.toInt dots.toInt ((u) 2) ((u) 3) many.toInt ∧ frW I_w (u) ∧ WB (u) ∧ cntP I_t (u) many) := by
  refine EffV.st (cc := cX10_takeRow) (maxL := 6) (by decide) rfl (Nat.le_of_ble_eq_true rfl) (fun p e s m args below meth c A Q ls fx hK hP hD hA hS hl hret => ?_)
  have hx := fx.1
  have hb := fx.2.1
  have hml := fx.2.2.1
  have hown := fx.2.2.2.1
  have hts := fx.2.2.2.2
  have hl : lv_has ls 6 [(0, .ref (a_p 0)), (1, .int tray), (2, .int dots), (3, .int many)] := hl
  have hP : va_P g.1 vwCl (wX10 g a_p I_p J_p ++ (wX8 g a_d I_d J_d ++ (wX7 g a_t I_t ++ wX4 g a_w I_w))) s.heap := hP
  have hf_36 := hts _ (uT _ _ u_24)
  have hf_50 := hts _ (uT _ _ u_32)
  have hf_85 := hts _ (uT _ _ u_50)
  have hi_X10 : ∀ w ∈ wsX100, w.before args s = true := fun w h => hts w (uT _ w (u_wsX100 w h))
  have lm1 : (-1 : Int32).toInt = -1 := by decide
  have lm0 : (0 : Int32).toInt = 0 := by decide
  have lm2 : (1 : Int32).toInt = 1 := by decide
  have hp1 := hPI.1
  have hp2 := hPI.2.1
  have hru := TI.ru hT
  have hlt3 := TI.li hT
  have hlt4 := TI.pa hT
  have hfm := RI.fm hR
  have hmn := RI.mn hR
  refine lv_iconst (v := 0) hx hb dX10_takeRow_0 (by decide) ?_
  refine lv_istore (lv' := [(4, .int (0 : Int32)), (0, .ref (a_p 0)), (1, .int tray), (2, .int dots), (3, .int many)]) hx hb dX10_takeRow_1 hl (by decide) rfl (fun ls hl => ?_)
  have L3 : ∀ (nn : Nat) (v4_3 : Int32) (I_w_3 : Nat → Nat → Int32), (hv_3 : 0 ≤ v4_3.toInt ∧ v4_3.toInt ≤ 20 ∧ v4_3.toInt ≤ many.toInt) → (hR_3 : RI I_w_3) → (hrp_3 : rowP (J_d 1) tray.toInt dots.toInt (I_w_3 2) (I_w_3 3) v4_3.toInt) → (hfr_3 : frW I_w I_w_3) → (hwb_3 : (WB I_w_3)) → ((21 - v4_3.toInt) < (nn : Int)) → ∀ (H : Heap) (locs : List Loc), va_P g.1 vwCl (wX10 g a_p I_p J_p ++ (wX8 g a_d I_d J_d ++ (wX7 g a_t I_t ++ wX4 g a_w I_w_3))) H → va_D A (wX10 g a_p I_p J_p ++ (wX8 g a_d I_d J_d ++ (wX7 g a_t I_t ++ wX4 g a_w I_w_3))) → va_S A s.heap H locs → ∀ ls : Array Slot, lv_has ls 6 [(4, .int v4_3), (0, .ref (a_p 0)), (1, .int tray), (2, .int dots), (3, .int many)] → W p l e (rm 4) s m args below meth c H locs 0 0 Q (F0 m 3 ls []) := by
    intro n_3
    induction n_3 with
    | zero =>
      intro v4_3 I_w_3 hv_3 hR_3 hrp_3 hfr_3 hwb_3 hms_3 H locs hP hD hS ls hl
      exfalso; omega
    | succ n_3 ih_3 =>
      intro v4_3 I_w_3 hv_3 hR_3 hrp_3 hfr_3 hwb_3 hms_3 H locs hP hD hS ls hl
      refine lv_iload hx hb dX10_takeRow_3 (lv_at hl 0 rfl) ?_
      refine lv_iload_n hx hb dX10_takeRow_5 rfl (lv_at hl 4 rfl) ?_
      refine q_icmp_ge (tgt := 59) hx hb dX10_takeRow_6 (by decide) rfl rfl (fun k_6 => ?_) (fun k_6 => ?_)
      · refine lv_aload_n hx hb dX10_takeRow_59 rfl (lv_at hl 1 rfl) ?_
        refine va_get (D := g.1) (ci := 10) (v := .ref (a_w 0)) (C := RX10) (T := TX10) (N := 20) hx hb hi_X10 (fun _ h => h) hown hK.1 hP 0 rfl rfl 15 (by decide) hf_85 (fun _ h9 => h9) (congrArg (fun z => some (Value.ref z)) hl_p_rows) dX10_takeRow_60 ?_
        refine lv_iload_n hx hb dX10_takeRow_63 rfl (lv_at hl 4 rfl) ?_
        refine lv_aload_n hx hb dX10_takeRow_64 rfl (lv_at hl 1 rfl) ?_
        refine va_get (D := g.1) (ci := 10) (v := .ref (a_t 0)) (C := RX10) (T := TX10) (N := 20) hx hb hi_X10 (fun _ h => h) hown hK.1 hP 0 rfl rfl 9 (by decide) hf_50 (fun _ h9 => h9) (congrArg (fun z => some (Value.ref z)) hl_p_table) dX10_takeRow_65 ?_
        refine EffV.cv (wr := (wX10 g a_p I_p J_p ++ wX8 g a_d I_d J_d)) (w' := fun u2 => wX10 g a_p I_p J_p ++ (wX8 g a_d I_d J_d ++ (wX7 g a_t I_t ++ wX4 g a_w u2))) (As := [.int many, .ref (a_t 0)]) (kX4_count l g a_w I_w_3 a_t I_t many hT hR_3 h_m h_cc hwb_3) fx (gUV (uT _) u_1318 u_1319 u_1320 u_49 u_1321) rfl hdX4_count ⟨Nat.le_of_ble_eq_true rfl, Nat.le_of_ble_eq_true rfl⟩ hK hP hD hS hA [13, 14, 15, 16, 17, 18, 19, 20, 21, 6, 7, 8, 9, 10, 11, 12] [0, 1, 2, 3, 4, 5] [0, 1, 2, 3, 4, 5, 15, 16, 17, 18, 19, 20, 21, 6, 7, 8, 9, 10, 11, 12, 13, 14] rfl rfl rfl rfl (by decide) rfl (fun _ => rfl) rfl rfl rfl rfl hl.1 (Nat.le_of_ble_eq_true rfl) dX10_takeRow_68 (fun u2 H locs p_r1 hP hD hS => ?_)
        have hP : va_P g.1 vwCl (wX10 g a_p I_p J_p ++ (wX8 g a_d I_d J_d ++ (wX7 g a_t I_t ++ wX4 g a_w u2))) H := hP
        have hD : va_D A (wX10 g a_p I_p J_p ++ (wX8 g a_d I_d J_d ++ (wX7 g a_t I_t ++ wX4 g a_w u2))) := hD
        refine hret 71 ls _ _ u2 dX10_takeRow_71 hS hP hD ?_
        exact ⟨p_r1.1, (by have c9 := p_r1; exact ⟨(by rw [c9.2.1.1, c9.2.1.2]; intro k hk; exact hrp_3 k (by omega)), hfr_3.tr c9.2.2.1, c9.2.2.2.1, c9.2.2.2.2⟩)⟩
      · refine lv_iload_n hx hb dX10_takeRow_9 rfl (lv_at hl 3 rfl) ?_
        refine lv_iconst (v := -1) hx hb dX10_takeRow_10 (by decide) ?_
        refine q_icmp_ne (tgt := 18) hx hb dX10_takeRow_11 (by decide) rfl (by decide : (-1 : Int32).toInt = -1) (fun k_11 => ?_) (fun k_11 => ?_)
        · refine lv_aload_n hx hb dX10_takeRow_18 rfl (lv_at hl 1 rfl) ?_
          refine va_get (D := g.1) (ci := 10) (v := .ref (a_d 0)) (C := RX10) (T := TX10) (N := 20) hx hb hi_X10 (fun _ h => h) hown hK.1 hP 0 rfl rfl 7 (by decide) hf_36 (fun _ h9 => h9) (congrArg (fun z => some (Value.ref z)) hl_p_trays) dX10_takeRow_19 ?_
          refine lv_iload_n hx hb dX10_takeRow_22 rfl (lv_at hl 3 rfl) ?_
          refine lv_iload hx hb dX10_takeRow_23 (lv_at hl 0 rfl) ?_
          refine PurL.cv (As := [.int dots, .int v4_3]) (kX8_numberAt l g a_d I_d J_d dots v4_3 (by omega) (by omega)) fx (gUV (uT _) u_299 u_300 u_301 u_23 u_302) rfl hdX8_numberAt ⟨Nat.le_of_ble_eq_true rfl, Nat.le_of_ble_eq_true rfl⟩ hK hP [2, 3, 4, 5] rfl rfl rfl rfl rfl hl.1 (Nat.le_of_ble_eq_true rfl) dX10_takeRow_25 (fun w3 p_w3 => ?_)
          refine lv_l2i hx hb dX10_takeRow_28 rfl ?_
          refine q_nm (fun x4 e_x4 => ?_)
          refine lv_istore (lv' := [(5, .int x4), (4, .int v4_3), (0, .ref (a_p 0)), (1, .int tray), (2, .int dots), (3, .int many)]) hx hb dX10_takeRow_29 hl (by decide) rfl (fun ls hl => ?_)
          refine lv_aload_n hx hb dX10_takeRow_31 rfl (lv_at hl 2 rfl) ?_
          refine va_get (D := g.1) (ci := 10) (v := .ref (a_w 0)) (C := RX10) (T := TX10) (N := 20) hx hb hi_X10 (fun _ h => h) hown hK.1 hP 0 rfl rfl 15 (by decide) hf_85 (fun _ h9 => h9) (congrArg (fun z => some (Value.ref z)) hl_p_rows) dX10_takeRow_32 ?_
          refine lv_iload hx hb dX10_takeRow_35 (lv_at hl 1 rfl) ?_
          refine lv_aload_n hx hb dX10_takeRow_37 rfl (lv_at hl 2 rfl) ?_
          refine va_get (D := g.1) (ci := 10) (v := .ref (a_d 0)) (C := RX10) (T := TX10) (N := 20) hx hb hi_X10 (fun _ h => h) hown hK.1 hP 0 rfl rfl 7 (by decide) hf_36 (fun _ h9 => h9) (congrArg (fun z => some (Value.ref z)) hl_p_trays) dX10_takeRow_38 ?_
          refine lv_iload_n hx hb dX10_takeRow_41 rfl (lv_at hl 3 rfl) ?_
          refine lv_iload hx hb dX10_takeRow_42 (lv_at hl 1 rfl) ?_
          refine PurL.cv (As := [.int tray, .int v4_3]) (kX8_numberAt l g a_d I_d J_d tray v4_3 (by omega) (by omega)) fx (gUV (uT _) u_299 u_300 u_301 u_23 u_302) rfl hdX8_numberAt ⟨Nat.le_of_ble_eq_true rfl, Nat.le_of_ble_eq_true rfl⟩ hK hP [2, 3, 4, 5] rfl rfl rfl rfl rfl hl.1 (Nat.le_of_ble_eq_true rfl) dX10_takeRow_44 (fun w5 p_w5 => ?_)
          refine lv_l2i hx hb dX10_takeRow_47 rfl ?_
          refine q_nm (fun x6 e_x6 => ?_)
          refine lv_iload hx hb dX10_takeRow_48 (lv_at hl 0 rfl) ?_
          refine EffV.cv (wr := (wX10 g a_p I_p J_p ++ wX8 g a_d I_d J_d ++ wX7 g a_t I_t)) (w' := fun u8 => wX10 g a_p I_p J_p ++ (wX8 g a_d I_d J_d ++ (wX7 g a_t I_t ++ wX4 g a_w u8))) (As := [.int v4_3, .int x6, .int x4]) (kX4_put l g a_w I_w_3 v4_3 x6 x4 hR_3 (by omega)) fx (gUV (uT _) u_1314 u_1315 u_1316 u_49 u_1317) rfl hdX4_put ⟨Nat.le_of_ble_eq_true rfl, Nat.le_of_ble_eq_true rfl⟩ hK hP hD hS hA [13, 14, 15, 16, 17, 18, 19, 20, 21] [0, 1, 2, 3, 4, 5, 6, 7, 8, 9, 10, 11, 12] [0, 1, 2, 3, 4, 5, 6, 7, 8, 9, 10, 11, 12, 13, 14, 15, 16, 17, 18, 19, 20, 21] rfl rfl rfl rfl (by decide) rfl (fun _ => rfl) rfl rfl rfl rfl hl.1 (Nat.le_of_ble_eq_true rfl) dX10_takeRow_50 (fun u8 H locs p_r7 hP hD hS => ?_)
          have hP : va_P g.1 vwCl (wX10 g a_p I_p J_p ++ (wX8 g a_d I_d J_d ++ (wX7 g a_t I_t ++ wX4 g a_w u8))) H := hP
          have hD : va_D A (wX10 g a_p I_p J_p ++ (wX8 g a_d I_d J_d ++ (wX7 g a_t I_t ++ wX4 g a_w u8))) := hD
          refine r_iinc (lv' := fun i9 => [(4, .int i9), (5, .int x4), (0, .ref (a_p 0)), (1, .int tray), (2, .int dots), (3, .int many)]) hx hb dX10_takeRow_53 hl (k := 1) rfl (by decide) rfl (by decide) (fun _ => rfl) (fun i9 e_i9 t_i9 ls hl => ?_)
          try have t_i9 := t_i9 (by omega)
          refine lv_goto (tgt := 3) hx hb dX10_takeRow_56 (by decide) ?_
          exact ih_3 i9 u8 (by omega) p_r7.1 (rowP.st hrp_3 p_r7.2.1 p_r7.2.2.1 rfl (by omega) (by omega) (by rw [e_x6, p_w5]) (by first | rw [if_pos (by omega)] | rw [if_neg (by omega), e_x4, p_w3])) (hfr_3.tr ⟨p_r7.2.2.2 1 (by decide) (by decide), congrFun (p_r7.2.2.2 0 (by decide) (by decide)) 0, congrFun (p_r7.2.2.2 0 (by decide) (by decide)) 1⟩) (fun j => by rw [p_r7.2.2.2 4 (by decide) (by decide)]; exact hwb_3 j) (by omega) _ _ hP hD hS ls (lv_sub hl [0, 2, 3, 4, 5] rfl)
        · refine lv_iconst (v := 0) hx hb dX10_takeRow_14 (by decide) ?_
          refine lv_goto (tgt := 29) hx hb dX10_takeRow_15 (by decide) ?_
          refine lv_istore (lv' := [(5, .int (0 : Int32)), (4, .int v4_3), (0, .ref (a_p 0)), (1, .int tray), (2, .int dots), (3, .int many)]) hx hb dX10_takeRow_29 hl (by decide) rfl (fun ls hl => ?_)
          refine lv_aload_n hx hb dX10_takeRow_31 rfl (lv_at hl 2 rfl) ?_
          refine va_get (D := g.1) (ci := 10) (v := .ref (a_w 0)) (C := RX10) (T := TX10) (N := 20) hx hb hi_X10 (fun _ h => h) hown hK.1 hP 0 rfl rfl 15 (by decide) hf_85 (fun _ h9 => h9) (congrArg (fun z => some (Value.ref z)) hl_p_rows) dX10_takeRow_32 ?_
          refine lv_iload hx hb dX10_takeRow_35 (lv_at hl 1 rfl) ?_
          refine lv_aload_n hx hb dX10_takeRow_37 rfl (lv_at hl 2 rfl) ?_
          refine va_get (D := g.1) (ci := 10) (v := .ref (a_d 0)) (C := RX10) (T := TX10) (N := 20) hx hb hi_X10 (fun _ h => h) hown hK.1 hP 0 rfl rfl 7 (by decide) hf_36 (fun _ h9 => h9) (congrArg (fun z => some (Value.ref z)) hl_p_trays) dX10_takeRow_38 ?_
          refine lv_iload_n hx hb dX10_takeRow_41 rfl (lv_at hl 3 rfl) ?_
          refine lv_iload hx hb dX10_takeRow_42 (lv_at hl 1 rfl) ?_
          refine PurL.cv (As := [.int tray, .int v4_3]) (kX8_numberAt l g a_d I_d J_d tray v4_3 (by omega) (by omega)) fx (gUV (uT _) u_299 u_300 u_301 u_23 u_302) rfl hdX8_numberAt ⟨Nat.le_of_ble_eq_true rfl, Nat.le_of_ble_eq_true rfl⟩ hK hP [2, 3, 4, 5] rfl rfl rfl rfl rfl hl.1 (Nat.le_of_ble_eq_true rfl) dX10_takeRow_44 (fun w10 p_w10 => ?_)
          refine lv_l2i hx hb dX10_takeRow_47 rfl ?_
          refine q_nm (fun x11 e_x11 => ?_)
          refine lv_iload hx hb dX10_takeRow_48 (lv_at hl 0 rfl) ?_
          refine EffV.cv (wr := (wX10 g a_p I_p J_p ++ wX8 g a_d I_d J_d ++ wX7 g a_t I_t)) (w' := fun u13 => wX10 g a_p I_p J_p ++ (wX8 g a_d I_d J_d ++ (wX7 g a_t I_t ++ wX4 g a_w u13))) (As := [.int v4_3, .int x11, .int (0 : Int32)]) (kX4_put l g a_w I_w_3 v4_3 x11 (0 : Int32) hR_3 (by omega)) fx (gUV (uT _) u_1314 u_1315 u_1316 u_49 u_1317) rfl hdX4_put ⟨Nat.le_of_ble_eq_true rfl, Nat.le_of_ble_eq_true rfl⟩ hK hP hD hS hA [13, 14, 15, 16, 17, 18, 19, 20, 21] [0, 1, 2, 3, 4, 5, 6, 7, 8, 9, 10, 11, 12] [0, 1, 2, 3, 4, 5, 6, 7, 8, 9, 10, 11, 12, 13, 14, 15, 16, 17, 18, 19, 20, 21] rfl rfl rfl rfl (by decide) rfl (fun _ => rfl) rfl rfl rfl rfl hl.1 (Nat.le_of_ble_eq_true rfl) dX10_takeRow_50 (fun u13 H locs p_r12 hP hD hS => ?_)
          have hP : va_P g.1 vwCl (wX10 g a_p I_p J_p ++ (wX8 g a_d I_d J_d ++ (wX7 g a_t I_t ++ wX4 g a_w u13))) H := hP
          have hD : va_D A (wX10 g a_p I_p J_p ++ (wX8 g a_d I_d J_d ++ (wX7 g a_t I_t ++ wX4 g a_w u13))) := hD
          refine r_iinc (lv' := fun i14 => [(4, .int i14), (5, .int (0 : Int32)), (0, .ref (a_p 0)), (1, .int tray), (2, .int dots), (3, .int many)]) hx hb dX10_takeRow_53 hl (k := 1) rfl (by decide) rfl (by decide) (fun _ => rfl) (fun i14 e_i14 t_i14 ls hl => ?_)
          try have t_i14 := t_i14 (by omega)
          refine lv_goto (tgt := 3) hx hb dX10_takeRow_56 (by decide) ?_
          exact ih_3 i14 u13 (by omega) p_r12.1 (rowP.st hrp_3 p_r12.2.1 p_r12.2.2.1 rfl (by omega) (by omega) (by rw [e_x11, p_w10]) (by rw [if_pos (by omega)])) (hfr_3.tr ⟨p_r12.2.2.2 1 (by decide) (by decide), congrFun (p_r12.2.2.2 0 (by decide) (by decide)) 0, congrFun (p_r12.2.2.2 0 (by decide) (by decide)) 1⟩) (fun j => by rw [p_r12.2.2.2 4 (by decide) (by decide)]; exact hwb_3 j) (by omega) _ _ hP hD hS ls (lv_sub hl [0, 2, 3, 4, 5] rfl)
  exact L3 ((21 - (0 : Int32).toInt) + 1).toNat (0 : Int32) I_w (by omega) hR (rowP.zero (by omega)) (frW.rf I_w) h_wb (by omega) _ _ hP hD hS ls hl

set_option maxHeartbeats 4000000 in
set_option maxRecDepth 100000 in
theorem kX10_ways (l : Launch) (g : gG) (a_p : Nat → Nat) (I_p : Nat → Nat → Int32) (J_p : Nat → Nat → Int64) (a_d : Nat → Nat) (I_d : Nat → Nat → Int32) (J_d : Nat → Nat → Int64) (a_t : Nat → Nat) (I_t : Nat → Nat → Int32) (a_w : Nat → Nat) (I_w : Nat → Nat → Int32) (tray : Int32) (many : Int32) (hl_p_trays : a_p 107 = a_d 0) (hl_p_table : a_p 109 = a_t 0) (hl_p_rows : a_p 115 = a_w 0) (hPI : PI I_p) (hDI : DI I_d) (hT : TI I_t) (hR : RI I_w) (h_cc : (HY I_t)) (h_wb : (WB I_w)) : EffI l g yX10_ways wsX10_ways 5 [.ref (a_p 0), .int tray, .int many] (wX10 g a_p I_p J_p ++ (wX8 g a_d I_d J_d ++ (wX7 g a_t I_t ++ wX4 g a_w I_w))) (fun (u : ((Nat → Nat → Int32) × (Nat → Nat → Int32))) => wX10 g a_p (u.1) J_p ++ (wX8 g a_d I_d J_d ++ (wX7 g a_t I_t ++ wX4 g a_w (u.2)))) (fun r (u : ((Nat → Nat → Int32) × (Nat → Nat → Int32))) => PI (u.1) ∧ RI (u.2) ∧ KP I_p (u.1) ∧ ((¬ okRow (I_d 3) (J_d 1) tray many 1 ∧ r = -1) ∨ (okRow (I_d 3) (J_d 1) tray many 1 ∧ r = (u.2) 4 0 ∧ rowP (J_d 1) tray.toInt (-1 : Int32).toInt ((u.2) 2) ((u.2) 3) many.toInt ∧ cntP I_t (u.2) many)) ∧ frW I_w (u.2) ∧ WB (u.2)) := by
  refine EffI.st (cc := cX10_ways) (maxL := 4) (by decide) rfl (Nat.le_of_ble_eq_true rfl) (fun p e s m args below meth c A Q ls fx hK hP hD hA hS hl hret => ?_)
  have hx := fx.1
  have hb := fx.2.1
  have hml := fx.2.2.1
  have hown := fx.2.2.2.1
  have hts := fx.2.2.2.2
  have hl : lv_has ls 4 [(0, .ref (a_p 0)), (1, .int tray), (2, .int many)] := hl
  have hP : va_P g.1 vwCl (wX10 g a_p I_p J_p ++ (wX8 g a_d I_d J_d ++ (wX7 g a_t I_t ++ wX4 g a_w I_w))) s.heap := hP
  have hf_85 := hts _ (uT _ _ u_50)
  have hi_X10 : ∀ w ∈ wsX100, w.before args s = true := fun w h => hts w (uT _ w (u_wsX100 w h))
  have lm1 : (-1 : Int32).toInt = -1 := by decide
  have lm0 : (0 : Int32).toInt = 0 := by decide
  have lm2 : (1 : Int32).toInt = 1 := by decide
  have hp1 := hPI.1
  have hp2 := hPI.2.1
  have hru := TI.ru hT
  have hlt3 := TI.li hT
  have hlt4 := TI.pa hT
  have hfm := RI.fm hR
  have hmn := RI.mn hR
  refine lv_aload_n hx hb dX10_ways_0 rfl (lv_at hl 0 rfl) ?_
  refine lv_iload_n hx hb dX10_ways_1 rfl (lv_at hl 1 rfl) ?_
  refine lv_iload_n hx hb dX10_ways_2 rfl (lv_at hl 2 rfl) ?_
  refine PurI.cv (As := [.int tray, .int many]) (kX10_whyNoRow l g a_p I_p J_p a_d I_d J_d tray many hl_p_trays hPI hDI) fx (gUV (uT _) u_1300 u_1301 u_1302 u_2 u_1303) rfl hdX10_whyNoRow ⟨Nat.le_of_ble_eq_true rfl, Nat.le_of_ble_eq_true rfl⟩ hK hP [0, 1, 2, 3, 4, 5] rfl rfl rfl rfl rfl hl.1 (Nat.le_of_ble_eq_true rfl) dX10_ways_3 (fun r1 p_r1 => ?_)
  have hw3 := p_r1.1
  refine lv_istore_n (lv' := [(3, .int r1), (0, .ref (a_p 0)), (1, .int tray), (2, .int many)]) hx hb dX10_ways_6 rfl hl (by decide) rfl (fun ls hl => ?_)
  refine lv_iload_n hx hb dX10_ways_7 rfl (lv_at hl 0 rfl) ?_
  refine q_if_eq (tgt := 17) hx hb dX10_ways_8 (by decide) rfl (fun b_8 k_8 => ?_) (fun b_8 k_8 => ?_)
  · refine lv_aload_n hx hb dX10_ways_17 rfl (lv_at hl 1 rfl) ?_
    refine lv_iload_n hx hb dX10_ways_18 rfl (lv_at hl 2 rfl) ?_
    refine lv_iconst (v := -1) hx hb dX10_ways_19 (by decide) ?_
    refine lv_iload_n hx hb dX10_ways_20 rfl (lv_at hl 3 rfl) ?_
    refine EffV.cv (wr := ([])) (w' := fun u3 => wX10 g a_p I_p J_p ++ (wX8 g a_d I_d J_d ++ (wX7 g a_t I_t ++ wX4 g a_w u3))) (As := [.int tray, .int (-1 : Int32), .int many]) (kX10_takeRow l g a_p I_p J_p a_d I_d J_d a_t I_t a_w I_w tray (-1 : Int32) many hl_p_trays hl_p_table hl_p_rows hPI hDI hT hR (by omega) (by omega) (by omega) h_cc h_wb) fx (gUV (uT _) u_1310 u_1311 u_1312 u_2 u_1313) rfl hdX10_takeRow ⟨Nat.le_of_ble_eq_true rfl, Nat.le_of_ble_eq_true rfl⟩ hK hP hD hS hA [0, 1, 2, 3, 4, 5, 6, 7, 8, 9, 10, 11, 12, 13, 14, 15, 16, 17, 18, 19, 20, 21] [] [0, 1, 2, 3, 4, 5, 6, 7, 8, 9, 10, 11, 12, 13, 14, 15, 16, 17, 18, 19, 20, 21] rfl rfl rfl rfl (by decide) rfl (fun _ => rfl) rfl rfl rfl rfl hl.1 (Nat.le_of_ble_eq_true rfl) dX10_ways_21 (fun u3 H locs p_r2 hP hD hS => ?_)
    have hP : va_P g.1 vwCl (wX10 g a_p I_p J_p ++ (wX8 g a_d I_d J_d ++ (wX7 g a_t I_t ++ wX4 g a_w u3))) H := hP
    have hD : va_D A (wX10 g a_p I_p J_p ++ (wX8 g a_d I_d J_d ++ (wX7 g a_t I_t ++ wX4 g a_w u3))) := hD
    refine lv_aload_n hx hb dX10_ways_24 rfl (lv_at hl 1 rfl) ?_
    refine lv_aload_n hx hb dX10_ways_25 rfl (lv_at hl 1 rfl) ?_
    refine va_get (D := g.1) (ci := 10) (v := .ref (a_w 0)) (C := RX10) (T := TX10) (N := 20) hx hb hi_X10 (fun _ h => h) hown hK.1 hP 0 rfl rfl 15 (by decide) hf_85 (fun _ h9 => h9) (congrArg (fun z => some (Value.ref z)) hl_p_rows) dX10_ways_26 ?_
    refine PurI.cv (As := []) (kX4_readings l g a_w u3) fx (gUV (uT _) u_1333 u_1334 u_1335 u_49 u_1336) rfl hdX4_readings ⟨Nat.le_of_ble_eq_true rfl, Nat.le_of_ble_eq_true rfl⟩ hK hP [13, 14, 15, 16, 17, 18, 19, 20, 21] rfl rfl rfl rfl rfl hl.1 (Nat.le_of_ble_eq_true rfl) dX10_ways_29 (fun r4 p_r4 => ?_)
    refine EffI.cv (wr := (wX8 g a_d I_d J_d ++ wX7 g a_t I_t ++ wX4 g a_w u3)) (w' := fun u6 => wX10 g a_p u6 J_p ++ (wX8 g a_d I_d J_d ++ (wX7 g a_t I_t ++ wX4 g a_w u3))) (As := [.int r4]) (kX10_answer l g a_p I_p J_p r4) fx (gUV (uT _) u_497 u_498 u_499 u_2 u_500) rfl hdX10_answer ⟨Nat.le_of_ble_eq_true rfl, Nat.le_of_ble_eq_true rfl⟩ hK hP hD hS hA [0, 1] [2, 3, 4, 5, 6, 7, 8, 9, 10, 11, 12, 13, 14, 15, 16, 17, 18, 19, 20, 21] [20, 21, 0, 1, 2, 3, 4, 5, 6, 7, 8, 9, 10, 11, 12, 13, 14, 15, 16, 17, 18, 19] rfl rfl rfl rfl (by decide) rfl (fun _ => rfl) rfl rfl rfl rfl hl.1 (Nat.le_of_ble_eq_true rfl) dX10_ways_32 (fun r5 u6 H locs p_r5 hP hD hS => ?_)
    have hP : va_P g.1 vwCl (wX10 g a_p u6 J_p ++ (wX8 g a_d I_d J_d ++ (wX7 g a_t I_t ++ wX4 g a_w u3))) H := hP
    have hD : va_D A (wX10 g a_p u6 J_p ++ (wX8 g a_d I_d J_d ++ (wX7 g a_t I_t ++ wX4 g a_w u3))) := hD
    refine hret 35 ls r5 _ _ (u6, u3) dX10_ways_35 hS hP hD ?_
    exact ⟨(PI.st hPI p_r5.2), (p_r2.1), (KP.tr (KP.rf I_p) (KP.st p_r5.2)), (by exact ⟨Or.inr ⟨(p_r1.2.resolve_right (fun q => q.1 k_8)).2, p_r5.1.trans p_r4, p_r2.2.1, p_r2.2.2.2.2⟩, p_r2.2.2.1, p_r2.2.2.2.1⟩)⟩
  · refine lv_aload_n hx hb dX10_ways_11 rfl (lv_at hl 1 rfl) ?_
    refine lv_iload_n hx hb dX10_ways_12 rfl (lv_at hl 0 rfl) ?_
    refine EffI.cv (wr := (wX8 g a_d I_d J_d ++ wX7 g a_t I_t ++ wX4 g a_w I_w)) (w' := fun u8 => wX10 g a_p u8 J_p ++ (wX8 g a_d I_d J_d ++ (wX7 g a_t I_t ++ wX4 g a_w I_w))) (As := [.int r1]) (kX10_refuse l g a_p I_p J_p r1) fx (gUV (uT _) u_295 u_296 u_297 u_2 u_298) rfl hdX10_refuse ⟨Nat.le_of_ble_eq_true rfl, Nat.le_of_ble_eq_true rfl⟩ hK hP hD hS hA [0, 1] [2, 3, 4, 5, 6, 7, 8, 9, 10, 11, 12, 13, 14, 15, 16, 17, 18, 19, 20, 21] [20, 21, 0, 1, 2, 3, 4, 5, 6, 7, 8, 9, 10, 11, 12, 13, 14, 15, 16, 17, 18, 19] rfl rfl rfl rfl (by decide) rfl (fun _ => rfl) rfl rfl rfl rfl hl.1 (Nat.le_of_ble_eq_true rfl) dX10_ways_13 (fun r7 u8 H locs p_r7 hP hD hS => ?_)
    have hP : va_P g.1 vwCl (wX10 g a_p u8 J_p ++ (wX8 g a_d I_d J_d ++ (wX7 g a_t I_t ++ wX4 g a_w I_w))) H := hP
    have hD : va_D A (wX10 g a_p u8 J_p ++ (wX8 g a_d I_d J_d ++ (wX7 g a_t I_t ++ wX4 g a_w I_w))) := hD
    refine hret 16 ls r7 _ _ (u8, I_w) dX10_ways_16 hS hP hD ?_
    exact ⟨(PI.st hPI p_r7.2), hR, (KP.tr (KP.rf I_p) (KP.st p_r7.2)), (by exact ⟨Or.inl ⟨(p_r1.2.resolve_left (fun q => k_8 q.1)).2, p_r7.1⟩, frW.rf I_w, h_wb⟩)⟩

set_option maxHeartbeats 4000000 in
set_option maxRecDepth 100000 in
theorem kX10_first (l : Launch) (g : gG) (a_p : Nat → Nat) (I_p : Nat → Nat → Int32) (J_p : Nat → Nat → Int64) (a_d : Nat → Nat) (I_d : Nat → Nat → Int32) (J_d : Nat → Nat → Int64) (a_t : Nat → Nat) (I_t : Nat → Nat → Int32) (a_w : Nat → Nat) (I_w : Nat → Nat → Int32) (tray : Int32) (many : Int32) (hl_p_trays : a_p 107 = a_d 0) (hl_p_table : a_p 109 = a_t 0) (hl_p_rows : a_p 115 = a_w 0) (hPI : PI I_p) (hDI : DI I_d) (hT : TI I_t) (hR : RI I_w) (h_cc : (HY I_t)) (h_wb : (WB I_w)) : EffI l g yX10_first wsX10_first 5 [.ref (a_p 0), .int tray, .int many] (wX10 g a_p I_p J_p ++ (wX8 g a_d I_d J_d ++ (wX7 g a_t I_t ++ wX4 g a_w I_w))) (fun (u : ((Nat → Nat → Int32) × (Nat → Nat → Int32))) => wX10 g a_p (u.1) J_p ++ (wX8 g a_d I_d J_d ++ (wX7 g a_t I_t ++ wX4 g a_w (u.2)))) (fun r (u : ((Nat → Nat → Int32) × (Nat → Nat → Int32))) => PI (u.1) ∧ RI (u.2) ∧ KP I_p (u.1) ∧ ((r = -1 ∧ frW I_w (u.2) ∧ (¬ okRow (I_d 3) (J_d 1) tray many 1 ∨ (okRow (I_d 3) (J_d 1) tray many 1 ∧ ((u.2) 4 0).toInt = 0 ∧ rowP (J_d 1) tray.toInt (-1 : Int32).toInt ((u.2) 2) ((u.2) 3) many.toInt ∧ cntP I_t (u.2) many))) ∨ (okRow (I_d 3) (J_d 1) tray many 1 ∧ r = (u.2) 0 0 ∧ ((u.2) 4 0).toInt ≠ 0 ∧ rowP (J_d 1) tray.toInt (-1 : Int32).toInt ((u.2) 2) ((u.2) 3) many.toInt ∧ cntP I_t (u.2) many ∧ fsC I_t (u.2) (u.2) many)) ∧ WB (u.2)) := by
  refine EffI.st (cc := cX10_first) (maxL := 4) (by decide) rfl (Nat.le_of_ble_eq_true rfl) (fun p e s m args below meth c A Q ls fx hK hP hD hA hS hl hret => ?_)
  have hx := fx.1
  have hb := fx.2.1
  have hml := fx.2.2.1
  have hown := fx.2.2.2.1
  have hts := fx.2.2.2.2
  have hl : lv_has ls 4 [(0, .ref (a_p 0)), (1, .int tray), (2, .int many)] := hl
  have hP : va_P g.1 vwCl (wX10 g a_p I_p J_p ++ (wX8 g a_d I_d J_d ++ (wX7 g a_t I_t ++ wX4 g a_w I_w))) s.heap := hP
  have hf_50 := hts _ (uT _ _ u_32)
  have hf_85 := hts _ (uT _ _ u_50)
  have hf_371 := hts _ (uT _ _ u_1362)
  have hi_X10 : ∀ w ∈ wsX100, w.before args s = true := fun w h => hts w (uT _ w (u_wsX100 w h))
  have hi_X4 : ∀ w ∈ wsX40, w.before args s = true := fun w h => hts w (uT _ w (u_wsX40 w h))
  have lm1 : (-1 : Int32).toInt = -1 := by decide
  have lm0 : (0 : Int32).toInt = 0 := by decide
  have lm2 : (1 : Int32).toInt = 1 := by decide
  have hp1 := hPI.1
  have hp2 := hPI.2.1
  have hru := TI.ru hT
  have hlt3 := TI.li hT
  have hlt4 := TI.pa hT
  have hfm := RI.fm hR
  have hmn := RI.mn hR
  have lq6 : (6 : Int32).toInt = 6 := by decide
  refine lv_aload_n hx hb dX10_first_0 rfl (lv_at hl 0 rfl) ?_
  refine lv_iload_n hx hb dX10_first_1 rfl (lv_at hl 1 rfl) ?_
  refine lv_iload_n hx hb dX10_first_2 rfl (lv_at hl 2 rfl) ?_
  refine PurI.cv (As := [.int tray, .int many]) (kX10_whyNoRow l g a_p I_p J_p a_d I_d J_d tray many hl_p_trays hPI hDI) fx (gUV (uT _) u_1300 u_1301 u_1302 u_2 u_1303) rfl hdX10_whyNoRow ⟨Nat.le_of_ble_eq_true rfl, Nat.le_of_ble_eq_true rfl⟩ hK hP [0, 1, 2, 3, 4, 5] rfl rfl rfl rfl rfl hl.1 (Nat.le_of_ble_eq_true rfl) dX10_first_3 (fun r1 p_r1 => ?_)
  have hw3 := p_r1.1
  refine lv_istore_n (lv' := [(3, .int r1), (0, .ref (a_p 0)), (1, .int tray), (2, .int many)]) hx hb dX10_first_6 rfl hl (by decide) rfl (fun ls hl => ?_)
  refine lv_iload_n hx hb dX10_first_7 rfl (lv_at hl 0 rfl) ?_
  refine q_if_eq (tgt := 17) hx hb dX10_first_8 (by decide) rfl (fun b_8 k_8 => ?_) (fun b_8 k_8 => ?_)
  · refine lv_aload_n hx hb dX10_first_17 rfl (lv_at hl 1 rfl) ?_
    refine lv_iload_n hx hb dX10_first_18 rfl (lv_at hl 2 rfl) ?_
    refine lv_iconst (v := -1) hx hb dX10_first_19 (by decide) ?_
    refine lv_iload_n hx hb dX10_first_20 rfl (lv_at hl 3 rfl) ?_
    refine EffV.cv (wr := ([])) (w' := fun u3 => wX10 g a_p I_p J_p ++ (wX8 g a_d I_d J_d ++ (wX7 g a_t I_t ++ wX4 g a_w u3))) (As := [.int tray, .int (-1 : Int32), .int many]) (kX10_takeRow l g a_p I_p J_p a_d I_d J_d a_t I_t a_w I_w tray (-1 : Int32) many hl_p_trays hl_p_table hl_p_rows hPI hDI hT hR (by omega) (by omega) (by omega) h_cc h_wb) fx (gUV (uT _) u_1310 u_1311 u_1312 u_2 u_1313) rfl hdX10_takeRow ⟨Nat.le_of_ble_eq_true rfl, Nat.le_of_ble_eq_true rfl⟩ hK hP hD hS hA [0, 1, 2, 3, 4, 5, 6, 7, 8, 9, 10, 11, 12, 13, 14, 15, 16, 17, 18, 19, 20, 21] [] [0, 1, 2, 3, 4, 5, 6, 7, 8, 9, 10, 11, 12, 13, 14, 15, 16, 17, 18, 19, 20, 21] rfl rfl rfl rfl (by decide) rfl (fun _ => rfl) rfl rfl rfl rfl hl.1 (Nat.le_of_ble_eq_true rfl) dX10_first_21 (fun u3 H locs p_r2 hP hD hS => ?_)
    have hP : va_P g.1 vwCl (wX10 g a_p I_p J_p ++ (wX8 g a_d I_d J_d ++ (wX7 g a_t I_t ++ wX4 g a_w u3))) H := hP
    have hD : va_D A (wX10 g a_p I_p J_p ++ (wX8 g a_d I_d J_d ++ (wX7 g a_t I_t ++ wX4 g a_w u3))) := hD
    refine lv_aload_n hx hb dX10_first_24 rfl (lv_at hl 1 rfl) ?_
    refine va_get (D := g.1) (ci := 10) (v := .ref (a_w 0)) (C := RX10) (T := TX10) (N := 20) hx hb hi_X10 (fun _ h => h) hown hK.1 hP 0 rfl rfl 15 (by decide) hf_85 (fun _ h9 => h9) (congrArg (fun z => some (Value.ref z)) hl_p_rows) dX10_first_25 ?_
    refine PurI.cv (As := []) (kX4_readings l g a_w u3) fx (gUV (uT _) u_1333 u_1334 u_1335 u_49 u_1336) rfl hdX4_readings ⟨Nat.le_of_ble_eq_true rfl, Nat.le_of_ble_eq_true rfl⟩ hK hP [13, 14, 15, 16, 17, 18, 19, 20, 21] rfl rfl rfl rfl rfl hl.1 (Nat.le_of_ble_eq_true rfl) dX10_first_28 (fun r4 p_r4 => ?_)
    have hr28 : (r4).toInt = (u3 4 0).toInt := congrArg Int32.toInt p_r4
    refine q_if_ne (tgt := 41) hx hb dX10_first_31 (by decide) rfl (fun b_31 k_31 => ?_) (fun b_31 k_31 => ?_)
    · refine lv_aload_n hx hb dX10_first_41 rfl (lv_at hl 1 rfl) ?_
      refine va_get (D := g.1) (ci := 10) (v := .ref (a_w 0)) (C := RX10) (T := TX10) (N := 20) hx hb hi_X10 (fun _ h => h) hown hK.1 hP 0 rfl rfl 15 (by decide) hf_85 (fun _ h9 => h9) (congrArg (fun z => some (Value.ref z)) hl_p_rows) dX10_first_42 ?_
      refine lv_aload_n hx hb dX10_first_45 rfl (lv_at hl 1 rfl) ?_
      refine va_get (D := g.1) (ci := 10) (v := .ref (a_t 0)) (C := RX10) (T := TX10) (N := 20) hx hb hi_X10 (fun _ h => h) hown hK.1 hP 0 rfl rfl 9 (by decide) hf_50 (fun _ h9 => h9) (congrArg (fun z => some (Value.ref z)) hl_p_table) dX10_first_46 ?_
      refine EffV.cv (wr := (wX10 g a_p I_p J_p ++ wX8 g a_d I_d J_d)) (w' := fun u6 => wX10 g a_p I_p J_p ++ (wX8 g a_d I_d J_d ++ (wX7 g a_t I_t ++ wX4 g a_w u6))) (As := [.ref (a_t 0)]) (kX4_findFirst l g a_w u3 a_t I_t hT (p_r2.1) h_cc p_r2.2.2.2.1 (by rw [p_r2.2.2.2.2.1]; exact p_r2.2.2.2.2) (by omega)) fx (gUV (uT _) u_1363 u_1364 u_1365 u_49 u_1366) rfl hdX4_findFirst ⟨Nat.le_of_ble_eq_true rfl, Nat.le_of_ble_eq_true rfl⟩ hK hP hD hS hA [13, 14, 15, 16, 17, 18, 19, 20, 21, 6, 7, 8, 9, 10, 11, 12] [0, 1, 2, 3, 4, 5] [0, 1, 2, 3, 4, 5, 15, 16, 17, 18, 19, 20, 21, 6, 7, 8, 9, 10, 11, 12, 13, 14] rfl rfl rfl rfl (by decide) rfl (fun _ => rfl) rfl rfl rfl rfl hl.1 (Nat.le_of_ble_eq_true rfl) dX10_first_49 (fun u6 H locs p_r5 hP hD hS => ?_)
      have hP : va_P g.1 vwCl (wX10 g a_p I_p J_p ++ (wX8 g a_d I_d J_d ++ (wX7 g a_t I_t ++ wX4 g a_w u6))) H := hP
      have hD : va_D A (wX10 g a_p I_p J_p ++ (wX8 g a_d I_d J_d ++ (wX7 g a_t I_t ++ wX4 g a_w u6))) := hD
      refine lv_aload_n hx hb dX10_first_52 rfl (lv_at hl 1 rfl) ?_
      refine lv_aload_n hx hb dX10_first_53 rfl (lv_at hl 1 rfl) ?_
      refine va_get (D := g.1) (ci := 10) (v := .ref (a_w 0)) (C := RX10) (T := TX10) (N := 20) hx hb hi_X10 (fun _ h => h) hown hK.1 hP 0 rfl rfl 15 (by decide) hf_85 (fun _ h9 => h9) (congrArg (fun z => some (Value.ref z)) hl_p_rows) dX10_first_54 ?_
      refine va_get (D := g.1) (ci := 4) (v := .int (u6 0 0)) (C := RX4) (T := TX4) (N := 11) hx hb hi_X4 (fun _ h => h) hown hK.1 hP 13 rfl rfl 0 (by decide) hf_371 (fun _ h9 => h9) rfl dX10_first_57 ?_
      refine EffI.cv (wr := (wX8 g a_d I_d J_d ++ wX7 g a_t I_t ++ wX4 g a_w u6)) (w' := fun u8 => wX10 g a_p u8 J_p ++ (wX8 g a_d I_d J_d ++ (wX7 g a_t I_t ++ wX4 g a_w u6))) (As := [.int (u6 0 0)]) (kX10_answer l g a_p I_p J_p (u6 0 0)) fx (gUV (uT _) u_497 u_498 u_499 u_2 u_500) rfl hdX10_answer ⟨Nat.le_of_ble_eq_true rfl, Nat.le_of_ble_eq_true rfl⟩ hK hP hD hS hA [0, 1] [2, 3, 4, 5, 6, 7, 8, 9, 10, 11, 12, 13, 14, 15, 16, 17, 18, 19, 20, 21] [20, 21, 0, 1, 2, 3, 4, 5, 6, 7, 8, 9, 10, 11, 12, 13, 14, 15, 16, 17, 18, 19] rfl rfl rfl rfl (by decide) rfl (fun _ => rfl) rfl rfl rfl rfl hl.1 (Nat.le_of_ble_eq_true rfl) dX10_first_60 (fun r7 u8 H locs p_r7 hP hD hS => ?_)
      have hP : va_P g.1 vwCl (wX10 g a_p u8 J_p ++ (wX8 g a_d I_d J_d ++ (wX7 g a_t I_t ++ wX4 g a_w u6))) H := hP
      have hD : va_D A (wX10 g a_p u8 J_p ++ (wX8 g a_d I_d J_d ++ (wX7 g a_t I_t ++ wX4 g a_w u6))) := hD
      refine hret 63 ls r7 _ _ (u8, u6) dX10_first_63 hS hP hD ?_
      dsimp only
      exact ⟨(PI.st hPI p_r7.2), p_r5.1, (KP.tr (KP.rf I_p) (KP.st p_r7.2)), (by (have hW3 := (p_r1.2.resolve_right (fun q => q.1 k_8)).2; have c49 := p_r5; have m49 := p_r2.2.2.2.2.1; exact ⟨Or.inr ⟨hW3, p_r7.1, (by rw [c49.2.1.2.2.1]; omega), (by rw [c49.2.1.1, c49.2.1.2.1]; exact p_r2.2.1), (cntP.of p_r2.2.2.2.2 c49.2.1.1 c49.2.1.2.1 c49.2.1.2.2.1 c49.2.1.2.2.2), (by have w := c49.2.2; rw [m49] at w; exact fsC.of w c49.2.1.1 c49.2.1.2.1 c49.2.1.2.2.1 c49.2.1.2.2.2)⟩, (fun j => by rw [c49.2.1.2.2.1]; exact p_r2.2.2.2.1 j)⟩))⟩
    · refine lv_aload_n hx hb dX10_first_34 rfl (lv_at hl 1 rfl) ?_
      refine lv_bipush (v := 6) hx hb dX10_first_35 (by decide) ?_
      refine EffI.cv (wr := (wX8 g a_d I_d J_d ++ wX7 g a_t I_t ++ wX4 g a_w u3)) (w' := fun u10 => wX10 g a_p u10 J_p ++ (wX8 g a_d I_d J_d ++ (wX7 g a_t I_t ++ wX4 g a_w u3))) (As := [.int (6 : Int32)]) (kX10_refuse l g a_p I_p J_p (6 : Int32)) fx (gUV (uT _) u_295 u_296 u_297 u_2 u_298) rfl hdX10_refuse ⟨Nat.le_of_ble_eq_true rfl, Nat.le_of_ble_eq_true rfl⟩ hK hP hD hS hA [0, 1] [2, 3, 4, 5, 6, 7, 8, 9, 10, 11, 12, 13, 14, 15, 16, 17, 18, 19, 20, 21] [20, 21, 0, 1, 2, 3, 4, 5, 6, 7, 8, 9, 10, 11, 12, 13, 14, 15, 16, 17, 18, 19] rfl rfl rfl rfl (by decide) rfl (fun _ => rfl) rfl rfl rfl rfl hl.1 (Nat.le_of_ble_eq_true rfl) dX10_first_37 (fun r9 u10 H locs p_r9 hP hD hS => ?_)
      have hP : va_P g.1 vwCl (wX10 g a_p u10 J_p ++ (wX8 g a_d I_d J_d ++ (wX7 g a_t I_t ++ wX4 g a_w u3))) H := hP
      have hD : va_D A (wX10 g a_p u10 J_p ++ (wX8 g a_d I_d J_d ++ (wX7 g a_t I_t ++ wX4 g a_w u3))) := hD
      refine hret 40 ls r9 _ _ (u10, u3) dX10_first_40 hS hP hD ?_
      dsimp only
      exact ⟨(PI.st hPI p_r9.2), (p_r2.1), (KP.tr (KP.rf I_p) (KP.st p_r9.2)), (by exact ⟨Or.inl ⟨p_r9.1, p_r2.2.2.1, Or.inr ⟨(p_r1.2.resolve_right (fun q => q.1 k_8)).2, by omega, p_r2.2.1, p_r2.2.2.2.2⟩⟩, p_r2.2.2.2.1⟩)⟩
  · refine lv_aload_n hx hb dX10_first_11 rfl (lv_at hl 1 rfl) ?_
    refine lv_iload_n hx hb dX10_first_12 rfl (lv_at hl 0 rfl) ?_
    refine EffI.cv (wr := (wX8 g a_d I_d J_d ++ wX7 g a_t I_t ++ wX4 g a_w I_w)) (w' := fun u12 => wX10 g a_p u12 J_p ++ (wX8 g a_d I_d J_d ++ (wX7 g a_t I_t ++ wX4 g a_w I_w))) (As := [.int r1]) (kX10_refuse l g a_p I_p J_p r1) fx (gUV (uT _) u_295 u_296 u_297 u_2 u_298) rfl hdX10_refuse ⟨Nat.le_of_ble_eq_true rfl, Nat.le_of_ble_eq_true rfl⟩ hK hP hD hS hA [0, 1] [2, 3, 4, 5, 6, 7, 8, 9, 10, 11, 12, 13, 14, 15, 16, 17, 18, 19, 20, 21] [20, 21, 0, 1, 2, 3, 4, 5, 6, 7, 8, 9, 10, 11, 12, 13, 14, 15, 16, 17, 18, 19] rfl rfl rfl rfl (by decide) rfl (fun _ => rfl) rfl rfl rfl rfl hl.1 (Nat.le_of_ble_eq_true rfl) dX10_first_13 (fun r11 u12 H locs p_r11 hP hD hS => ?_)
    have hP : va_P g.1 vwCl (wX10 g a_p u12 J_p ++ (wX8 g a_d I_d J_d ++ (wX7 g a_t I_t ++ wX4 g a_w I_w))) H := hP
    have hD : va_D A (wX10 g a_p u12 J_p ++ (wX8 g a_d I_d J_d ++ (wX7 g a_t I_t ++ wX4 g a_w I_w))) := hD
    refine hret 16 ls r11 _ _ (u12, I_w) dX10_first_16 hS hP hD ?_
    dsimp only
    exact ⟨(PI.st hPI p_r11.2), hR, (KP.tr (KP.rf I_p) (KP.st p_r11.2)), (by exact ⟨Or.inl ⟨p_r11.1, frW.rf I_w, Or.inl (p_r1.2.resolve_left (fun q => k_8 q.1)).2⟩, h_wb⟩)⟩

set_option maxHeartbeats 4000000 in
set_option maxRecDepth 100000 in
theorem kX10_firstAt (l : Launch) (g : gG) (a_p : Nat → Nat) (I_p : Nat → Nat → Int32) (J_p : Nat → Nat → Int64) (a_w : Nat → Nat) (I_w : Nat → Nat → Int32) (k : Int32) (hl_p_rows : a_p 115 = a_w 0) (hPI : PI I_p) (hR : RI I_w) : EffI l g yX10_firstAt wsX10_firstAt 1 [.ref (a_p 0), .int k] (wX10 g a_p I_p J_p ++ wX4 g a_w I_w) (fun (u : (Nat → Nat → Int32)) => wX10 g a_p u J_p ++ wX4 g a_w I_w) (fun r (u : (Nat → Nat → Int32)) => PI (u) ∧ KP I_p (u) ∧ (((0 ≤ k.toInt ∧ k.toInt < (I_w 0 0).toInt) ∧ r = I_w 1 k.toInt.toNat) ∨ (¬ (0 ≤ k.toInt ∧ k.toInt < (I_w 0 0).toInt) ∧ r = -1))) := by
  refine EffI.st (cc := cX10_firstAt) (maxL := 2) (by decide) rfl (Nat.le_of_ble_eq_true rfl) (fun p e s m args below meth c A Q ls fx hK hP hD hA hS hl hret => ?_)
  have hx := fx.1
  have hb := fx.2.1
  have hml := fx.2.2.1
  have hown := fx.2.2.2.1
  have hts := fx.2.2.2.2
  have hl : lv_has ls 2 [(0, .ref (a_p 0)), (1, .int k)] := hl
  have hP : va_P g.1 vwCl (wX10 g a_p I_p J_p ++ wX4 g a_w I_w) s.heap := hP
  have hf_85 := hts _ (uT _ _ u_50)
  have hf_371 := hts _ (uT _ _ u_1362)
  have hf_374 := hts _ (uT _ _ u_1381)
  have hi_X10 : ∀ w ∈ wsX100, w.before args s = true := fun w h => hts w (uT _ w (u_wsX100 w h))
  have hi_X4 : ∀ w ∈ wsX40, w.before args s = true := fun w h => hts w (uT _ w (u_wsX40 w h))
  have lm1 : (-1 : Int32).toInt = -1 := by decide
  have lm0 : (0 : Int32).toInt = 0 := by decide
  have lm2 : (1 : Int32).toInt = 1 := by decide
  have hp1 := hPI.1
  have hp2 := hPI.2.1
  have hfm := RI.fm hR
  have hmn := RI.mn hR
  have lq6 : (6 : Int32).toInt = 6 := by decide
  refine lv_iload_n hx hb dX10_firstAt_0 rfl (lv_at hl 1 rfl) ?_
  refine q_if_lt (tgt := 15) hx hb dX10_firstAt_1 (by decide) rfl (fun k_1 => ?_) (fun k_1 => ?_)
  · refine lv_aload_n hx hb dX10_firstAt_15 rfl (lv_at hl 0 rfl) ?_
    refine lv_bipush (v := 6) hx hb dX10_firstAt_16 (by decide) ?_
    refine EffI.cv (wr := (wX4 g a_w I_w)) (w' := fun u2 => wX10 g a_p u2 J_p ++ wX4 g a_w I_w) (As := [.int (6 : Int32)]) (kX10_refuse l g a_p I_p J_p (6 : Int32)) fx (gUV (uT _) u_295 u_296 u_297 u_2 u_298) rfl hdX10_refuse ⟨Nat.le_of_ble_eq_true rfl, Nat.le_of_ble_eq_true rfl⟩ hK hP hD hS hA [0, 1] [2, 3, 4, 5, 6, 7, 8, 9, 10] [9, 10, 0, 1, 2, 3, 4, 5, 6, 7, 8] rfl rfl rfl rfl (by decide) rfl (fun _ => rfl) rfl rfl rfl rfl hl.1 (Nat.le_of_ble_eq_true rfl) dX10_firstAt_18 (fun r1 u2 H locs p_r1 hP hD hS => ?_)
    have hP : va_P g.1 vwCl (wX10 g a_p u2 J_p ++ wX4 g a_w I_w) H := hP
    have hD : va_D A (wX10 g a_p u2 J_p ++ wX4 g a_w I_w) := hD
    refine hret 21 ls r1 _ _ u2 dX10_firstAt_21 hS hP hD ?_
    exact ⟨(PI.st hPI p_r1.2), (KP.tr (KP.rf I_p) (KP.st p_r1.2)), (by exact Or.inr ⟨by omega, p_r1.1⟩)⟩
  · refine lv_iload_n hx hb dX10_firstAt_4 rfl (lv_at hl 1 rfl) ?_
    refine lv_aload_n hx hb dX10_firstAt_5 rfl (lv_at hl 0 rfl) ?_
    refine va_get (D := g.1) (ci := 10) (v := .ref (a_w 0)) (C := RX10) (T := TX10) (N := 20) hx hb hi_X10 (fun _ h => h) hown hK.1 hP 0 rfl rfl 15 (by decide) hf_85 (fun _ h9 => h9) (congrArg (fun z => some (Value.ref z)) hl_p_rows) dX10_firstAt_6 ?_
    refine va_get (D := g.1) (ci := 4) (v := .int (I_w 0 0)) (C := RX4) (T := TX4) (N := 11) hx hb hi_X4 (fun _ h => h) hown hK.1 hP 2 rfl rfl 0 (by decide) hf_371 (fun _ h9 => h9) rfl dX10_firstAt_9 ?_
    refine q_icmp_lt (tgt := 22) hx hb dX10_firstAt_12 (by decide) rfl rfl (fun k_12 => ?_) (fun k_12 => ?_)
    · refine lv_aload_n hx hb dX10_firstAt_22 rfl (lv_at hl 0 rfl) ?_
      refine lv_aload_n hx hb dX10_firstAt_23 rfl (lv_at hl 0 rfl) ?_
      refine va_get (D := g.1) (ci := 10) (v := .ref (a_w 0)) (C := RX10) (T := TX10) (N := 20) hx hb hi_X10 (fun _ h => h) hown hK.1 hP 0 rfl rfl 15 (by decide) hf_85 (fun _ h9 => h9) (congrArg (fun z => some (Value.ref z)) hl_p_rows) dX10_firstAt_24 ?_
      refine va_get (D := g.1) (ci := 4) (v := .ref (a_w 1)) (C := RX4) (T := TX4) (N := 11) hx hb hi_X4 (fun _ h => h) hown hK.1 hP 2 rfl rfl 2 (by decide) hf_374 (fun _ h9 => h9) rfl dX10_firstAt_27 ?_
      refine lv_iload_n hx hb dX10_firstAt_30 rfl (lv_at hl 1 rfl) ?_
      have n_31 : vp_in k 20 := (t_in (by omega))
      refine va_iald hx hb hK.1 hP 3 0 rfl rfl n_31 dX10_firstAt_31 ?_
      refine q_nm (fun x3 e_x3 => ?_)
      have e_x3 : x3 = (I_w 1) k.toNatClampNeg := e_x3
      have g_x3 : x3.toInt = ((I_w 1) k.toNatClampNeg).toInt := congrArg _ e_x3
      refine EffI.cv (wr := (wX4 g a_w I_w)) (w' := fun u5 => wX10 g a_p u5 J_p ++ wX4 g a_w I_w) (As := [.int x3]) (kX10_answer l g a_p I_p J_p x3) fx (gUV (uT _) u_497 u_498 u_499 u_2 u_500) rfl hdX10_answer ⟨Nat.le_of_ble_eq_true rfl, Nat.le_of_ble_eq_true rfl⟩ hK hP hD hS hA [0, 1] [2, 3, 4, 5, 6, 7, 8, 9, 10] [9, 10, 0, 1, 2, 3, 4, 5, 6, 7, 8] rfl rfl rfl rfl (by decide) rfl (fun _ => rfl) rfl rfl rfl rfl hl.1 (Nat.le_of_ble_eq_true rfl) dX10_firstAt_32 (fun r4 u5 H locs p_r4 hP hD hS => ?_)
      have hP : va_P g.1 vwCl (wX10 g a_p u5 J_p ++ wX4 g a_w I_w) H := hP
      have hD : va_D A (wX10 g a_p u5 J_p ++ wX4 g a_w I_w) := hD
      refine hret 35 ls r4 _ _ u5 dX10_firstAt_35 hS hP hD ?_
      exact ⟨(PI.st hPI p_r4.2), (KP.tr (KP.rf I_p) (KP.st p_r4.2)), (by exact Or.inl ⟨by omega, p_r4.1.trans e_x3⟩)⟩
    · refine lv_aload_n hx hb dX10_firstAt_15 rfl (lv_at hl 0 rfl) ?_
      refine lv_bipush (v := 6) hx hb dX10_firstAt_16 (by decide) ?_
      refine EffI.cv (wr := (wX4 g a_w I_w)) (w' := fun u7 => wX10 g a_p u7 J_p ++ wX4 g a_w I_w) (As := [.int (6 : Int32)]) (kX10_refuse l g a_p I_p J_p (6 : Int32)) fx (gUV (uT _) u_295 u_296 u_297 u_2 u_298) rfl hdX10_refuse ⟨Nat.le_of_ble_eq_true rfl, Nat.le_of_ble_eq_true rfl⟩ hK hP hD hS hA [0, 1] [2, 3, 4, 5, 6, 7, 8, 9, 10] [9, 10, 0, 1, 2, 3, 4, 5, 6, 7, 8] rfl rfl rfl rfl (by decide) rfl (fun _ => rfl) rfl rfl rfl rfl hl.1 (Nat.le_of_ble_eq_true rfl) dX10_firstAt_18 (fun r6 u7 H locs p_r6 hP hD hS => ?_)
      have hP : va_P g.1 vwCl (wX10 g a_p u7 J_p ++ wX4 g a_w I_w) H := hP
      have hD : va_D A (wX10 g a_p u7 J_p ++ wX4 g a_w I_w) := hD
      refine hret 21 ls r6 _ _ u7 dX10_firstAt_21 hS hP hD ?_
      exact ⟨(PI.st hPI p_r6.2), (KP.tr (KP.rf I_p) (KP.st p_r6.2)), (by exact Or.inr ⟨by omega, p_r6.1⟩)⟩

set_option maxHeartbeats 4000000 in
set_option maxRecDepth 100000 in
theorem kX10_letters (l : Launch) (g : gG) (a_p : Nat → Nat) (I_p : Nat → Nat → Int32) (J_p : Nat → Nat → Int64) (a_w : Nat → Nat) (I_w : Nat → Nat → Int32) (hl_p_rows : a_p 115 = a_w 0) (hPI : PI I_p) (hR : RI I_w) : EffI l g yX10_letters wsX10_letters 2 [.ref (a_p 0)] (wX10 g a_p I_p J_p ++ wX4 g a_w I_w) (fun (u : (Nat → Nat → Int32)) => wX10 g a_p u J_p ++ wX4 g a_w I_w) (fun r (u : (Nat → Nat → Int32)) => PI (u) ∧ KP I_p (u) ∧ ((0 < (I_w 0 0).toInt ∧ r = I_w 0 1) ∨ ((I_w 0 0).toInt ≤ 0 ∧ r = -1))) := by
  refine EffI.st (cc := cX10_letters) (maxL := 1) (by decide) rfl (Nat.le_of_ble_eq_true rfl) (fun p e s m args below meth c A Q ls fx hK hP hD hA hS hl hret => ?_)
  have hx := fx.1
  have hb := fx.2.1
  have hml := fx.2.2.1
  have hown := fx.2.2.2.1
  have hts := fx.2.2.2.2
  have hl : lv_has ls 1 [(0, .ref (a_p 0))] := hl
  have hP : va_P g.1 vwCl (wX10 g a_p I_p J_p ++ wX4 g a_w I_w) s.heap := hP
  have hf_85 := hts _ (uT _ _ u_50)
  have hf_371 := hts _ (uT _ _ u_1362)
  have hf_377 := hts _ (uT _ _ u_1390)
  have hi_X10 : ∀ w ∈ wsX100, w.before args s = true := fun w h => hts w (uT _ w (u_wsX100 w h))
  have hi_X4 : ∀ w ∈ wsX40, w.before args s = true := fun w h => hts w (uT _ w (u_wsX40 w h))
  have lm1 : (-1 : Int32).toInt = -1 := by decide
  have lm0 : (0 : Int32).toInt = 0 := by decide
  have lm2 : (1 : Int32).toInt = 1 := by decide
  have hp1 := hPI.1
  have hp2 := hPI.2.1
  have hfm := RI.fm hR
  have hmn := RI.mn hR
  have lq6 : (6 : Int32).toInt = 6 := by decide
  refine lv_aload_n hx hb dX10_letters_0 rfl (lv_at hl 0 rfl) ?_
  refine lv_aload_n hx hb dX10_letters_1 rfl (lv_at hl 0 rfl) ?_
  refine va_get (D := g.1) (ci := 10) (v := .ref (a_w 0)) (C := RX10) (T := TX10) (N := 20) hx hb hi_X10 (fun _ h => h) hown hK.1 hP 0 rfl rfl 15 (by decide) hf_85 (fun _ h9 => h9) (congrArg (fun z => some (Value.ref z)) hl_p_rows) dX10_letters_2 ?_
  refine va_get (D := g.1) (ci := 4) (v := .int (I_w 0 0)) (C := RX4) (T := TX4) (N := 11) hx hb hi_X4 (fun _ h => h) hown hK.1 hP 2 rfl rfl 0 (by decide) hf_371 (fun _ h9 => h9) rfl dX10_letters_5 ?_
  refine q_if_le (tgt := 15) hx hb dX10_letters_8 (by decide) rfl (fun k_8 => ?_) (fun k_8 => ?_)
  · refine lv_iconst (v := 0) hx hb dX10_letters_15 (by decide) ?_
    refine lv_aload_n hx hb dX10_letters_16 rfl (lv_at hl 0 rfl) ?_
    refine va_get (D := g.1) (ci := 10) (v := .ref (a_w 0)) (C := RX10) (T := TX10) (N := 20) hx hb hi_X10 (fun _ h => h) hown hK.1 hP 0 rfl rfl 15 (by decide) hf_85 (fun _ h9 => h9) (congrArg (fun z => some (Value.ref z)) hl_p_rows) dX10_letters_17 ?_
    refine va_get (D := g.1) (ci := 4) (v := .int (I_w 0 1)) (C := RX4) (T := TX4) (N := 11) hx hb hi_X4 (fun _ h => h) hown hK.1 hP 2 rfl rfl 1 (by decide) hf_377 (fun _ h9 => h9) rfl dX10_letters_20 ?_
    refine lv_bipush (v := 6) hx hb dX10_letters_23 (by decide) ?_
    refine EffI.cv (wr := (wX4 g a_w I_w)) (w' := fun u2 => wX10 g a_p u2 J_p ++ wX4 g a_w I_w) (As := [.int (0 : Int32), .int (I_w 0 1), .int (6 : Int32)]) (kX10_answerOr l g a_p I_p J_p (0 : Int32) (I_w 0 1) (6 : Int32)) fx (gUV (uT _) u_781 u_782 u_783 u_2 u_784) rfl hdX10_answerOr ⟨Nat.le_of_ble_eq_true rfl, Nat.le_of_ble_eq_true rfl⟩ hK hP hD hS hA [0, 1] [2, 3, 4, 5, 6, 7, 8, 9, 10] [9, 10, 0, 1, 2, 3, 4, 5, 6, 7, 8] rfl rfl rfl rfl (by decide) rfl (fun _ => rfl) rfl rfl rfl rfl hl.1 (Nat.le_of_ble_eq_true rfl) dX10_letters_25 (fun r1 u2 H locs p_r1 hP hD hS => ?_)
    have hP : va_P g.1 vwCl (wX10 g a_p u2 J_p ++ wX4 g a_w I_w) H := hP
    have hD : va_D A (wX10 g a_p u2 J_p ++ wX4 g a_w I_w) := hD
    refine hret 28 ls r1 _ _ u2 dX10_letters_28 hS hP hD ?_
    exact ⟨(PI.st hPI p_r1.2.choose_spec), (KP.tr (KP.rf I_p) (KP.st p_r1.2.choose_spec)), (by rcases p_r1.1 with w | w; (first | exact Or.inl ⟨by omega, w.2⟩ | (exfalso; omega)); (first | exact Or.inr ⟨by omega, w.2⟩ | (exfalso; omega)))⟩
  · refine lv_iconst (v := 1) hx hb dX10_letters_11 (by decide) ?_
    refine lv_goto (tgt := 16) hx hb dX10_letters_12 (by decide) ?_
    refine lv_aload_n hx hb dX10_letters_16 rfl (lv_at hl 0 rfl) ?_
    refine va_get (D := g.1) (ci := 10) (v := .ref (a_w 0)) (C := RX10) (T := TX10) (N := 20) hx hb hi_X10 (fun _ h => h) hown hK.1 hP 0 rfl rfl 15 (by decide) hf_85 (fun _ h9 => h9) (congrArg (fun z => some (Value.ref z)) hl_p_rows) dX10_letters_17 ?_
    refine va_get (D := g.1) (ci := 4) (v := .int (I_w 0 1)) (C := RX4) (T := TX4) (N := 11) hx hb hi_X4 (fun _ h => h) hown hK.1 hP 2 rfl rfl 1 (by decide) hf_377 (fun _ h9 => h9) rfl dX10_letters_20 ?_
    refine lv_bipush (v := 6) hx hb dX10_letters_23 (by decide) ?_
    refine EffI.cv (wr := (wX4 g a_w I_w)) (w' := fun u4 => wX10 g a_p u4 J_p ++ wX4 g a_w I_w) (As := [.int (1 : Int32), .int (I_w 0 1), .int (6 : Int32)]) (kX10_answerOr l g a_p I_p J_p (1 : Int32) (I_w 0 1) (6 : Int32)) fx (gUV (uT _) u_781 u_782 u_783 u_2 u_784) rfl hdX10_answerOr ⟨Nat.le_of_ble_eq_true rfl, Nat.le_of_ble_eq_true rfl⟩ hK hP hD hS hA [0, 1] [2, 3, 4, 5, 6, 7, 8, 9, 10] [9, 10, 0, 1, 2, 3, 4, 5, 6, 7, 8] rfl rfl rfl rfl (by decide) rfl (fun _ => rfl) rfl rfl rfl rfl hl.1 (Nat.le_of_ble_eq_true rfl) dX10_letters_25 (fun r3 u4 H locs p_r3 hP hD hS => ?_)
    have hP : va_P g.1 vwCl (wX10 g a_p u4 J_p ++ wX4 g a_w I_w) H := hP
    have hD : va_D A (wX10 g a_p u4 J_p ++ wX4 g a_w I_w) := hD
    refine hret 28 ls r3 _ _ u4 dX10_letters_28 hS hP hD ?_
    exact ⟨(PI.st hPI p_r3.2.choose_spec), (KP.tr (KP.rf I_p) (KP.st p_r3.2.choose_spec)), (by rcases p_r3.1 with w | w; (first | exact Or.inl ⟨by omega, w.2⟩ | (exfalso; omega)); (first | exact Or.inr ⟨by omega, w.2⟩ | (exfalso; omega)))⟩

set_option maxHeartbeats 4000000 in
set_option maxRecDepth 100000 in
theorem kX10_truths (l : Launch) (g : gG) (a_p : Nat → Nat) (I_p : Nat → Nat → Int32) (J_p : Nat → Nat → Int64) (a_d : Nat → Nat) (I_d : Nat → Nat → Int32) (J_d : Nat → Nat → Int64) (a_t : Nat → Nat) (I_t : Nat → Nat → Int32) (a_w : Nat → Nat) (I_w : Nat → Nat → Int32) (tray : Int32) (many : Int32) (hl_p_trays : a_p 107 = a_d 0) (hl_p_table : a_p 109 = a_t 0) (hl_p_rows : a_p 115 = a_w 0) (hPI : PI I_p) (hDI : DI I_d) (hT : TI I_t) (hR : RI I_w) (h_cc : (HY I_t)) (h_wb : (WB I_w)) : EffI l g yX10_truths wsX10_truths 28 [.ref (a_p 0), .int tray, .int many] (wX10 g a_p I_p J_p ++ (wX8 g a_d I_d J_d ++ (wX7 g a_t I_t ++ wX4 g a_w I_w))) (fun (u : ((Nat → Nat → Int32) × (Nat → Nat → Int32))) => wX10 g a_p (u.1) J_p ++ (wX8 g a_d I_d J_d ++ (wX7 g a_t I_t ++ wX4 g a_w (u.2)))) (fun r (u : ((Nat → Nat → Int32) × (Nat → Nat → Int32))) => PI (u.1) ∧ RI (u.2) ∧ KP I_p (u.1) ∧ frW I_w (u.2) ∧ WB (u.2) ∧ ((¬ okRow (I_d 3) (J_d 1) tray many 1 ∧ r = -1) ∨ (okRow (I_d 3) (J_d 1) tray many 1 ∧ rowP (J_d 1) tray.toInt (-1 : Int32).toInt ((u.2) 2) ((u.2) 3) many.toInt ∧ cntP I_t (u.2) many ∧ ((9999 < ((u.2) 4 0).toInt ∧ r = -1) ∨ (((u.2) 4 0).toInt ≤ 9999 ∧ (HL1 I_t → pqL I_t → r.toInt = tQ I_t (u.2) 0 [])))))) := by
  refine EffI.st (cc := cX10_truths) (maxL := 4) (by decide) rfl (Nat.le_of_ble_eq_true rfl) (fun p e s m args below meth c A Q ls fx hK hP hD hA hS hl hret => ?_)
  have hx := fx.1
  have hb := fx.2.1
  have hml := fx.2.2.1
  have hown := fx.2.2.2.1
  have hts := fx.2.2.2.2
  have hl : lv_has ls 4 [(0, .ref (a_p 0)), (1, .int tray), (2, .int many)] := hl
  have hP : va_P g.1 vwCl (wX10 g a_p I_p J_p ++ (wX8 g a_d I_d J_d ++ (wX7 g a_t I_t ++ wX4 g a_w I_w))) s.heap := hP
  have hf_50 := hts _ (uT _ _ u_32)
  have hf_85 := hts _ (uT _ _ u_50)
  have hi_X10 : ∀ w ∈ wsX100, w.before args s = true := fun w h => hts w (uT _ w (u_wsX100 w h))
  have lm1 : (-1 : Int32).toInt = -1 := by decide
  have lm0 : (0 : Int32).toInt = 0 := by decide
  have lm2 : (1 : Int32).toInt = 1 := by decide
  have hp1 := hPI.1
  have hp2 := hPI.2.1
  have hru := TI.ru hT
  have hlt3 := TI.li hT
  have hlt4 := TI.pa hT
  have hfm := RI.fm hR
  have hmn := RI.mn hR
  have lq7 : (7 : Int32).toInt = 7 := by decide
  refine lv_aload_n hx hb dX10_truths_0 rfl (lv_at hl 0 rfl) ?_
  refine lv_iload_n hx hb dX10_truths_1 rfl (lv_at hl 1 rfl) ?_
  refine lv_iload_n hx hb dX10_truths_2 rfl (lv_at hl 2 rfl) ?_
  refine PurI.cv (As := [.int tray, .int many]) (kX10_whyNoRow l g a_p I_p J_p a_d I_d J_d tray many hl_p_trays hPI hDI) fx (gUV (uT _) u_1300 u_1301 u_1302 u_2 u_1303) rfl hdX10_whyNoRow ⟨Nat.le_of_ble_eq_true rfl, Nat.le_of_ble_eq_true rfl⟩ hK hP [0, 1, 2, 3, 4, 5] rfl rfl rfl rfl rfl hl.1 (Nat.le_of_ble_eq_true rfl) dX10_truths_3 (fun r1 p_r1 => ?_)
  have hw3 := p_r1.1
  refine lv_istore_n (lv' := [(3, .int r1), (0, .ref (a_p 0)), (1, .int tray), (2, .int many)]) hx hb dX10_truths_6 rfl hl (by decide) rfl (fun ls hl => ?_)
  refine lv_iload_n hx hb dX10_truths_7 rfl (lv_at hl 0 rfl) ?_
  refine q_if_eq (tgt := 17) hx hb dX10_truths_8 (by decide) rfl (fun b_8 k_8 => ?_) (fun b_8 k_8 => ?_)
  · refine lv_aload_n hx hb dX10_truths_17 rfl (lv_at hl 1 rfl) ?_
    refine lv_iload_n hx hb dX10_truths_18 rfl (lv_at hl 2 rfl) ?_
    refine lv_iconst (v := -1) hx hb dX10_truths_19 (by decide) ?_
    refine lv_iload_n hx hb dX10_truths_20 rfl (lv_at hl 3 rfl) ?_
    refine EffV.cv (wr := ([])) (w' := fun u3 => wX10 g a_p I_p J_p ++ (wX8 g a_d I_d J_d ++ (wX7 g a_t I_t ++ wX4 g a_w u3))) (As := [.int tray, .int (-1 : Int32), .int many]) (kX10_takeRow l g a_p I_p J_p a_d I_d J_d a_t I_t a_w I_w tray (-1 : Int32) many hl_p_trays hl_p_table hl_p_rows hPI hDI hT hR (by omega) (by omega) (by omega) h_cc h_wb) fx (gUV (uT _) u_1310 u_1311 u_1312 u_2 u_1313) rfl hdX10_takeRow ⟨Nat.le_of_ble_eq_true rfl, Nat.le_of_ble_eq_true rfl⟩ hK hP hD hS hA [0, 1, 2, 3, 4, 5, 6, 7, 8, 9, 10, 11, 12, 13, 14, 15, 16, 17, 18, 19, 20, 21] [] [0, 1, 2, 3, 4, 5, 6, 7, 8, 9, 10, 11, 12, 13, 14, 15, 16, 17, 18, 19, 20, 21] rfl rfl rfl rfl (by decide) rfl (fun _ => rfl) rfl rfl rfl rfl hl.1 (Nat.le_of_ble_eq_true rfl) dX10_truths_21 (fun u3 H locs p_r2 hP hD hS => ?_)
    have hP : va_P g.1 vwCl (wX10 g a_p I_p J_p ++ (wX8 g a_d I_d J_d ++ (wX7 g a_t I_t ++ wX4 g a_w u3))) H := hP
    have hD : va_D A (wX10 g a_p I_p J_p ++ (wX8 g a_d I_d J_d ++ (wX7 g a_t I_t ++ wX4 g a_w u3))) := hD
    refine lv_aload_n hx hb dX10_truths_24 rfl (lv_at hl 1 rfl) ?_
    refine va_get (D := g.1) (ci := 10) (v := .ref (a_w 0)) (C := RX10) (T := TX10) (N := 20) hx hb hi_X10 (fun _ h => h) hown hK.1 hP 0 rfl rfl 15 (by decide) hf_85 (fun _ h9 => h9) (congrArg (fun z => some (Value.ref z)) hl_p_rows) dX10_truths_25 ?_
    refine PurI.cv (As := []) (kX4_readings l g a_w u3) fx (gUV (uT _) u_1333 u_1334 u_1335 u_49 u_1336) rfl hdX4_readings ⟨Nat.le_of_ble_eq_true rfl, Nat.le_of_ble_eq_true rfl⟩ hK hP [13, 14, 15, 16, 17, 18, 19, 20, 21] rfl rfl rfl rfl rfl hl.1 (Nat.le_of_ble_eq_true rfl) dX10_truths_28 (fun r4 p_r4 => ?_)
    refine lv_sipush (v := 9999) hx hb dX10_truths_31 (by decide) ?_
    refine q_icmp_le (tgt := 44) hx hb dX10_truths_34 (by decide) rfl (by decide : (9999 : Int32).toInt = 9999) (fun k_34 => ?_) (fun k_34 => ?_)
    · refine lv_aload_n hx hb dX10_truths_44 rfl (lv_at hl 1 rfl) ?_
      refine lv_aload_n hx hb dX10_truths_45 rfl (lv_at hl 1 rfl) ?_
      refine va_get (D := g.1) (ci := 10) (v := .ref (a_w 0)) (C := RX10) (T := TX10) (N := 20) hx hb hi_X10 (fun _ h => h) hown hK.1 hP 0 rfl rfl 15 (by decide) hf_85 (fun _ h9 => h9) (congrArg (fun z => some (Value.ref z)) hl_p_rows) dX10_truths_46 ?_
      refine lv_aload_n hx hb dX10_truths_49 rfl (lv_at hl 1 rfl) ?_
      refine va_get (D := g.1) (ci := 10) (v := .ref (a_t 0)) (C := RX10) (T := TX10) (N := 20) hx hb hi_X10 (fun _ h => h) hown hK.1 hP 0 rfl rfl 9 (by decide) hf_50 (fun _ h9 => h9) (congrArg (fun z => some (Value.ref z)) hl_p_table) dX10_truths_50 ?_
      refine EffI.cv (wr := (wX10 g a_p I_p J_p ++ wX8 g a_d I_d J_d)) (w' := fun u6 => wX10 g a_p I_p J_p ++ (wX8 g a_d I_d J_d ++ (wX7 g a_t I_t ++ wX4 g a_w u6))) (As := [.ref (a_t 0)]) (kX4_trueReadings l g a_w u3 a_t I_t hT (p_r2.1)) fx (gUV (uT _) u_1399 u_1400 u_1401 u_49 u_1402) rfl hdX4_trueReadings ⟨Nat.le_of_ble_eq_true rfl, Nat.le_of_ble_eq_true rfl⟩ hK hP hD hS hA [13, 14, 15, 16, 17, 18, 19, 20, 21, 6, 7, 8, 9, 10, 11, 12] [0, 1, 2, 3, 4, 5] [0, 1, 2, 3, 4, 5, 15, 16, 17, 18, 19, 20, 21, 6, 7, 8, 9, 10, 11, 12, 13, 14] rfl rfl rfl rfl (by decide) rfl (fun _ => rfl) rfl rfl rfl rfl hl.1 (Nat.le_of_ble_eq_true rfl) dX10_truths_53 (fun r5 u6 H locs p_r5 hP hD hS => ?_)
      have hP : va_P g.1 vwCl (wX10 g a_p I_p J_p ++ (wX8 g a_d I_d J_d ++ (wX7 g a_t I_t ++ wX4 g a_w u6))) H := hP
      have hD : va_D A (wX10 g a_p I_p J_p ++ (wX8 g a_d I_d J_d ++ (wX7 g a_t I_t ++ wX4 g a_w u6))) := hD
      refine EffI.cv (wr := (wX8 g a_d I_d J_d ++ wX7 g a_t I_t ++ wX4 g a_w u6)) (w' := fun u8 => wX10 g a_p u8 J_p ++ (wX8 g a_d I_d J_d ++ (wX7 g a_t I_t ++ wX4 g a_w u6))) (As := [.int r5]) (kX10_answer l g a_p I_p J_p r5) fx (gUV (uT _) u_497 u_498 u_499 u_2 u_500) rfl hdX10_answer ⟨Nat.le_of_ble_eq_true rfl, Nat.le_of_ble_eq_true rfl⟩ hK hP hD hS hA [0, 1] [2, 3, 4, 5, 6, 7, 8, 9, 10, 11, 12, 13, 14, 15, 16, 17, 18, 19, 20, 21] [20, 21, 0, 1, 2, 3, 4, 5, 6, 7, 8, 9, 10, 11, 12, 13, 14, 15, 16, 17, 18, 19] rfl rfl rfl rfl (by decide) rfl (fun _ => rfl) rfl rfl rfl rfl hl.1 (Nat.le_of_ble_eq_true rfl) dX10_truths_56 (fun r7 u8 H locs p_r7 hP hD hS => ?_)
      have hP : va_P g.1 vwCl (wX10 g a_p u8 J_p ++ (wX8 g a_d I_d J_d ++ (wX7 g a_t I_t ++ wX4 g a_w u6))) H := hP
      have hD : va_D A (wX10 g a_p u8 J_p ++ (wX8 g a_d I_d J_d ++ (wX7 g a_t I_t ++ wX4 g a_w u6))) := hD
      refine hret 59 ls r7 _ _ (u8, u6) dX10_truths_59 hS hP hD ?_
      dsimp only
      exact ⟨(PI.st hPI p_r7.2), p_r5.1, (KP.tr (KP.rf I_p) (KP.st p_r7.2)), frW.tr p_r2.2.2.1 ⟨p_r5.2.2.1.1, congrFun p_r5.2.1 0, congrFun p_r5.2.1 1⟩, (fun j => by rw [p_r5.2.2.1.2.2.2]; exact p_r2.2.2.2.1 j), Or.inr ⟨(p_r1.2.resolve_right (fun q => q.1 k_8)).2, (by rw [p_r5.2.2.1.2.1, p_r5.2.2.1.2.2.1]; exact p_r2.2.1), cntP.of p_r2.2.2.2.2 p_r5.2.2.1.2.1 p_r5.2.2.1.2.2.1 p_r5.2.2.1.2.2.2 (congrFun p_r5.2.1 5), Or.inr ⟨(by rw [p_r5.2.2.1.2.2.2]; have y := congrArg Int32.toInt p_r4; omega), fun a q => (by have z0 := RI.z0 p_r2.1; have y := congrArg Int32.toInt p_r4; rw [p_r7.1, tQ.cg p_r5.2.1 p_r5.2.2.1.2.1 p_r5.2.2.1.2.2.1 p_r5.2.2.1.2.2.2]; exact p_r5.2.2.2.2 a h_cc q (Int.le_refl _) (Nat.zero_le _) [] (tI.in z0.1 z0.2.1 z0.2.2) (tQ.le p_r2.2.2.2.2 h_cc (by omega)))⟩⟩⟩
    · refine lv_aload_n hx hb dX10_truths_37 rfl (lv_at hl 1 rfl) ?_
      refine lv_bipush (v := 7) hx hb dX10_truths_38 (by decide) ?_
      refine EffI.cv (wr := (wX8 g a_d I_d J_d ++ wX7 g a_t I_t ++ wX4 g a_w u3)) (w' := fun u10 => wX10 g a_p u10 J_p ++ (wX8 g a_d I_d J_d ++ (wX7 g a_t I_t ++ wX4 g a_w u3))) (As := [.int (7 : Int32)]) (kX10_refuse l g a_p I_p J_p (7 : Int32)) fx (gUV (uT _) u_295 u_296 u_297 u_2 u_298) rfl hdX10_refuse ⟨Nat.le_of_ble_eq_true rfl, Nat.le_of_ble_eq_true rfl⟩ hK hP hD hS hA [0, 1] [2, 3, 4, 5, 6, 7, 8, 9, 10, 11, 12, 13, 14, 15, 16, 17, 18, 19, 20, 21] [20, 21, 0, 1, 2, 3, 4, 5, 6, 7, 8, 9, 10, 11, 12, 13, 14, 15, 16, 17, 18, 19] rfl rfl rfl rfl (by decide) rfl (fun _ => rfl) rfl rfl rfl rfl hl.1 (Nat.le_of_ble_eq_true rfl) dX10_truths_40 (fun r9 u10 H locs p_r9 hP hD hS => ?_)
      have hP : va_P g.1 vwCl (wX10 g a_p u10 J_p ++ (wX8 g a_d I_d J_d ++ (wX7 g a_t I_t ++ wX4 g a_w u3))) H := hP
      have hD : va_D A (wX10 g a_p u10 J_p ++ (wX8 g a_d I_d J_d ++ (wX7 g a_t I_t ++ wX4 g a_w u3))) := hD
      refine hret 43 ls r9 _ _ (u10, u3) dX10_truths_43 hS hP hD ?_
      dsimp only
      exact ⟨(PI.st hPI p_r9.2), (p_r2.1), (KP.tr (KP.rf I_p) (KP.st p_r9.2)), p_r2.2.2.1, p_r2.2.2.2.1, Or.inr ⟨(p_r1.2.resolve_right (fun q => q.1 k_8)).2, p_r2.2.1, p_r2.2.2.2.2, Or.inl ⟨(by have y := congrArg Int32.toInt p_r4; omega), p_r9.1⟩⟩⟩
  · refine lv_aload_n hx hb dX10_truths_11 rfl (lv_at hl 1 rfl) ?_
    refine lv_iload_n hx hb dX10_truths_12 rfl (lv_at hl 0 rfl) ?_
    refine EffI.cv (wr := (wX8 g a_d I_d J_d ++ wX7 g a_t I_t ++ wX4 g a_w I_w)) (w' := fun u12 => wX10 g a_p u12 J_p ++ (wX8 g a_d I_d J_d ++ (wX7 g a_t I_t ++ wX4 g a_w I_w))) (As := [.int r1]) (kX10_refuse l g a_p I_p J_p r1) fx (gUV (uT _) u_295 u_296 u_297 u_2 u_298) rfl hdX10_refuse ⟨Nat.le_of_ble_eq_true rfl, Nat.le_of_ble_eq_true rfl⟩ hK hP hD hS hA [0, 1] [2, 3, 4, 5, 6, 7, 8, 9, 10, 11, 12, 13, 14, 15, 16, 17, 18, 19, 20, 21] [20, 21, 0, 1, 2, 3, 4, 5, 6, 7, 8, 9, 10, 11, 12, 13, 14, 15, 16, 17, 18, 19] rfl rfl rfl rfl (by decide) rfl (fun _ => rfl) rfl rfl rfl rfl hl.1 (Nat.le_of_ble_eq_true rfl) dX10_truths_13 (fun r11 u12 H locs p_r11 hP hD hS => ?_)
    have hP : va_P g.1 vwCl (wX10 g a_p u12 J_p ++ (wX8 g a_d I_d J_d ++ (wX7 g a_t I_t ++ wX4 g a_w I_w))) H := hP
    have hD : va_D A (wX10 g a_p u12 J_p ++ (wX8 g a_d I_d J_d ++ (wX7 g a_t I_t ++ wX4 g a_w I_w))) := hD
    refine hret 16 ls r11 _ _ (u12, I_w) dX10_truths_16 hS hP hD ?_
    dsimp only
    exact ⟨(PI.st hPI p_r11.2), hR, (KP.tr (KP.rf I_p) (KP.st p_r11.2)), frW.rf I_w, h_wb, Or.inl ⟨(p_r1.2.resolve_left (fun q => k_8 q.1)).2, p_r11.1⟩⟩

set_option maxHeartbeats 4000000 in
set_option maxRecDepth 100000 in
theorem kX10_failed (l : Launch) (g : gG) (a_p : Nat → Nat) (I_p : Nat → Nat → Int32) (J_p : Nat → Nat → Int64) (a_d : Nat → Nat) (I_d : Nat → Nat → Int32) (J_d : Nat → Nat → Int64) (a_t : Nat → Nat) (I_t : Nat → Nat → Int32) (a_w : Nat → Nat) (I_w : Nat → Nat → Int32) (tray : Int32) (dots : Int32) (many : Int32) (hl_p_trays : a_p 107 = a_d 0) (hl_p_table : a_p 109 = a_t 0) (hl_p_rows : a_p 115 = a_w 0) (hPI : PI I_p) (hDI : DI I_d) (hT : TI I_t) (hR : RI I_w) (h_cc : (HY I_t)) (h_wb : (WB I_w)) : EffI l g yX10_failed wsX10_failed 5 [.ref (a_p 0), .int tray, .int dots, .int many] (wX10 g a_p I_p J_p ++ (wX8 g a_d I_d J_d ++ (wX7 g a_t I_t ++ wX4 g a_w I_w))) (fun (u : ((Nat → Nat → Int32) × (Nat → Nat → Int32))) => wX10 g a_p (u.1) J_p ++ (wX8 g a_d I_d J_d ++ (wX7 g a_t I_t ++ wX4 g a_w (u.2)))) (fun r (u : ((Nat → Nat → Int32) × (Nat → Nat → Int32))) => PI (u.1) ∧ RI (u.2) ∧ KP I_p (u.1) ∧ ((¬ (okRow (I_d 3) (J_d 1) tray many 1 ∧ okRow (I_d 3) (J_d 1) dots many 0) ∧ r = -1) ∨ ((okRow (I_d 3) (J_d 1) tray many 1 ∧ okRow (I_d 3) (J_d 1) dots many 0) ∧ r = (u.2) 4 0 ∧ rowP (J_d 1) tray.toInt dots.toInt ((u.2) 2) ((u.2) 3) many.toInt ∧ cntP I_t (u.2) many)) ∧ frW I_w (u.2) ∧ WB (u.2)) := by
  refine EffI.st (cc := cX10_failed) (maxL := 5) (by decide) rfl (Nat.le_of_ble_eq_true rfl) (fun p e s m args below meth c A Q ls fx hK hP hD hA hS hl hret => ?_)
  have hx := fx.1
  have hb := fx.2.1
  have hml := fx.2.2.1
  have hown := fx.2.2.2.1
  have hts := fx.2.2.2.2
  have hl : lv_has ls 5 [(0, .ref (a_p 0)), (1, .int tray), (2, .int dots), (3, .int many)] := hl
  have hP : va_P g.1 vwCl (wX10 g a_p I_p J_p ++ (wX8 g a_d I_d J_d ++ (wX7 g a_t I_t ++ wX4 g a_w I_w))) s.heap := hP
  have hf_85 := hts _ (uT _ _ u_50)
  have hi_X10 : ∀ w ∈ wsX100, w.before args s = true := fun w h => hts w (uT _ w (u_wsX100 w h))
  have lm1 : (-1 : Int32).toInt = -1 := by decide
  have lm0 : (0 : Int32).toInt = 0 := by decide
  have lm2 : (1 : Int32).toInt = 1 := by decide
  have hp1 := hPI.1
  have hp2 := hPI.2.1
  have hru := TI.ru hT
  have hlt3 := TI.li hT
  have hlt4 := TI.pa hT
  have hfm := RI.fm hR
  have hmn := RI.mn hR
  refine lv_aload_n hx hb dX10_failed_0 rfl (lv_at hl 0 rfl) ?_
  refine lv_iload_n hx hb dX10_failed_1 rfl (lv_at hl 1 rfl) ?_
  refine lv_iload_n hx hb dX10_failed_2 rfl (lv_at hl 2 rfl) ?_
  refine lv_iload_n hx hb dX10_failed_3 rfl (lv_at hl 3 rfl) ?_
  refine PurI.cv (As := [.int tray, .int dots, .int many]) (kX10_whyNoFailed l g a_p I_p J_p a_d I_d J_d tray dots many hl_p_trays hPI hDI) fx (gUV (uT _) u_1437 u_1438 u_1439 u_2 u_1440) rfl hdX10_whyNoFailed ⟨Nat.le_of_ble_eq_true rfl, Nat.le_of_ble_eq_true rfl⟩ hK hP [0, 1, 2, 3, 4, 5] rfl rfl rfl rfl rfl hl.1 (Nat.le_of_ble_eq_true rfl) dX10_failed_4 (fun r1 p_r1 => ?_)
  have hw3 := p_r1.1
  refine lv_istore (lv' := [(4, .int r1), (0, .ref (a_p 0)), (1, .int tray), (2, .int dots), (3, .int many)]) hx hb dX10_failed_7 hl (by decide) rfl (fun ls hl => ?_)
  refine lv_iload hx hb dX10_failed_9 (lv_at hl 0 rfl) ?_
  refine q_if_eq (tgt := 21) hx hb dX10_failed_11 (by decide) rfl (fun b_11 k_11 => ?_) (fun b_11 k_11 => ?_)
  · refine lv_aload_n hx hb dX10_failed_21 rfl (lv_at hl 1 rfl) ?_
    refine lv_iload_n hx hb dX10_failed_22 rfl (lv_at hl 2 rfl) ?_
    refine lv_iload_n hx hb dX10_failed_23 rfl (lv_at hl 3 rfl) ?_
    refine lv_iload_n hx hb dX10_failed_24 rfl (lv_at hl 4 rfl) ?_
    refine EffV.cv (wr := ([])) (w' := fun u3 => wX10 g a_p I_p J_p ++ (wX8 g a_d I_d J_d ++ (wX7 g a_t I_t ++ wX4 g a_w u3))) (As := [.int tray, .int dots, .int many]) (kX10_takeRow l g a_p I_p J_p a_d I_d J_d a_t I_t a_w I_w tray dots many hl_p_trays hl_p_table hl_p_rows hPI hDI hT hR (by omega) (by omega) (by omega) h_cc h_wb) fx (gUV (uT _) u_1310 u_1311 u_1312 u_2 u_1313) rfl hdX10_takeRow ⟨Nat.le_of_ble_eq_true rfl, Nat.le_of_ble_eq_true rfl⟩ hK hP hD hS hA [0, 1, 2, 3, 4, 5, 6, 7, 8, 9, 10, 11, 12, 13, 14, 15, 16, 17, 18, 19, 20, 21] [] [0, 1, 2, 3, 4, 5, 6, 7, 8, 9, 10, 11, 12, 13, 14, 15, 16, 17, 18, 19, 20, 21] rfl rfl rfl rfl (by decide) rfl (fun _ => rfl) rfl rfl rfl rfl hl.1 (Nat.le_of_ble_eq_true rfl) dX10_failed_25 (fun u3 H locs p_r2 hP hD hS => ?_)
    have hP : va_P g.1 vwCl (wX10 g a_p I_p J_p ++ (wX8 g a_d I_d J_d ++ (wX7 g a_t I_t ++ wX4 g a_w u3))) H := hP
    have hD : va_D A (wX10 g a_p I_p J_p ++ (wX8 g a_d I_d J_d ++ (wX7 g a_t I_t ++ wX4 g a_w u3))) := hD
    refine lv_aload_n hx hb dX10_failed_28 rfl (lv_at hl 1 rfl) ?_
    refine lv_aload_n hx hb dX10_failed_29 rfl (lv_at hl 1 rfl) ?_
    refine va_get (D := g.1) (ci := 10) (v := .ref (a_w 0)) (C := RX10) (T := TX10) (N := 20) hx hb hi_X10 (fun _ h => h) hown hK.1 hP 0 rfl rfl 15 (by decide) hf_85 (fun _ h9 => h9) (congrArg (fun z => some (Value.ref z)) hl_p_rows) dX10_failed_30 ?_
    refine PurI.cv (As := []) (kX4_readings l g a_w u3) fx (gUV (uT _) u_1333 u_1334 u_1335 u_49 u_1336) rfl hdX4_readings ⟨Nat.le_of_ble_eq_true rfl, Nat.le_of_ble_eq_true rfl⟩ hK hP [13, 14, 15, 16, 17, 18, 19, 20, 21] rfl rfl rfl rfl rfl hl.1 (Nat.le_of_ble_eq_true rfl) dX10_failed_33 (fun r4 p_r4 => ?_)
    refine EffI.cv (wr := (wX8 g a_d I_d J_d ++ wX7 g a_t I_t ++ wX4 g a_w u3)) (w' := fun u6 => wX10 g a_p u6 J_p ++ (wX8 g a_d I_d J_d ++ (wX7 g a_t I_t ++ wX4 g a_w u3))) (As := [.int r4]) (kX10_answer l g a_p I_p J_p r4) fx (gUV (uT _) u_497 u_498 u_499 u_2 u_500) rfl hdX10_answer ⟨Nat.le_of_ble_eq_true rfl, Nat.le_of_ble_eq_true rfl⟩ hK hP hD hS hA [0, 1] [2, 3, 4, 5, 6, 7, 8, 9, 10, 11, 12, 13, 14, 15, 16, 17, 18, 19, 20, 21] [20, 21, 0, 1, 2, 3, 4, 5, 6, 7, 8, 9, 10, 11, 12, 13, 14, 15, 16, 17, 18, 19] rfl rfl rfl rfl (by decide) rfl (fun _ => rfl) rfl rfl rfl rfl hl.1 (Nat.le_of_ble_eq_true rfl) dX10_failed_36 (fun r5 u6 H locs p_r5 hP hD hS => ?_)
    have hP : va_P g.1 vwCl (wX10 g a_p u6 J_p ++ (wX8 g a_d I_d J_d ++ (wX7 g a_t I_t ++ wX4 g a_w u3))) H := hP
    have hD : va_D A (wX10 g a_p u6 J_p ++ (wX8 g a_d I_d J_d ++ (wX7 g a_t I_t ++ wX4 g a_w u3))) := hD
    refine hret 39 ls r5 _ _ (u6, u3) dX10_failed_39 hS hP hD ?_
    exact ⟨(PI.st hPI p_r5.2), (p_r2.1), (KP.tr (KP.rf I_p) (KP.st p_r5.2)), (by exact ⟨Or.inr ⟨(p_r1.2.resolve_right (fun q => q.1 k_11)).2, p_r5.1.trans p_r4, p_r2.2.1, p_r2.2.2.2.2⟩, p_r2.2.2.1, p_r2.2.2.2.1⟩)⟩
  · refine lv_aload_n hx hb dX10_failed_14 rfl (lv_at hl 1 rfl) ?_
    refine lv_iload hx hb dX10_failed_15 (lv_at hl 0 rfl) ?_
    refine EffI.cv (wr := (wX8 g a_d I_d J_d ++ wX7 g a_t I_t ++ wX4 g a_w I_w)) (w' := fun u8 => wX10 g a_p u8 J_p ++ (wX8 g a_d I_d J_d ++ (wX7 g a_t I_t ++ wX4 g a_w I_w))) (As := [.int r1]) (kX10_refuse l g a_p I_p J_p r1) fx (gUV (uT _) u_295 u_296 u_297 u_2 u_298) rfl hdX10_refuse ⟨Nat.le_of_ble_eq_true rfl, Nat.le_of_ble_eq_true rfl⟩ hK hP hD hS hA [0, 1] [2, 3, 4, 5, 6, 7, 8, 9, 10, 11, 12, 13, 14, 15, 16, 17, 18, 19, 20, 21] [20, 21, 0, 1, 2, 3, 4, 5, 6, 7, 8, 9, 10, 11, 12, 13, 14, 15, 16, 17, 18, 19] rfl rfl rfl rfl (by decide) rfl (fun _ => rfl) rfl rfl rfl rfl hl.1 (Nat.le_of_ble_eq_true rfl) dX10_failed_17 (fun r7 u8 H locs p_r7 hP hD hS => ?_)
    have hP : va_P g.1 vwCl (wX10 g a_p u8 J_p ++ (wX8 g a_d I_d J_d ++ (wX7 g a_t I_t ++ wX4 g a_w I_w))) H := hP
    have hD : va_D A (wX10 g a_p u8 J_p ++ (wX8 g a_d I_d J_d ++ (wX7 g a_t I_t ++ wX4 g a_w I_w))) := hD
    refine hret 20 ls r7 _ _ (u8, I_w) dX10_failed_20 hS hP hD ?_
    exact ⟨(PI.st hPI p_r7.2), hR, (KP.tr (KP.rf I_p) (KP.st p_r7.2)), (by exact ⟨Or.inl ⟨(p_r1.2.resolve_left (fun q => k_11 q.1)).2, p_r7.1⟩, frW.rf I_w, h_wb⟩)⟩

set_option maxHeartbeats 4000000 in
set_option maxRecDepth 100000 in
theorem kX10_odds (l : Launch) (g : gG) (a_p : Nat → Nat) (I_p : Nat → Nat → Int32) (J_p : Nat → Nat → Int64) (a_e : Nat → Nat) (I_e : Nat → Nat → Int32) (a_z : Nat → Nat) (I_z : Nat → Nat → Int32) (seed : Int32) (many : Int32) (six : Int32) (hl_p_shown : a_p 112 = a_e 0) (hl_p_wear : a_p 117 = a_z 0) (hPI : PI I_p) (hE : EI I_e) (hW : WI I_z) : EffI l g yX10_odds wsX10_odds 2 [.ref (a_p 0), .int seed, .int many, .int six] (wX10 g a_p I_p J_p ++ (wX6 g a_e I_e ++ wX9 g a_z I_z)) (fun (u : ((Nat → Nat → Int32) × (Nat → Nat → Int32) × (Nat → Nat → Int64))) => wX10 g a_p (u.1) (u.2.2) ++ (wX6 g a_e I_e ++ wX9 g a_z (u.2.1))) (fun r (u : ((Nat → Nat → Int32) × (Nat → Nat → Int32) × (Nat → Nat → Int64))) => PI (u.1) ∧ WI (u.2.1) ∧ KP I_p (u.1)) := by
  refine EffI.sz (cc := cX10_odds) (maxL := 7) (by decide) rfl (Nat.le_of_ble_eq_true rfl) (fun p e s m args below meth c A Q ls fx hK hP hD hA hS hl hret => ?_)
  have hx := fx.1
  have hb := fx.2.1
  have hml := fx.2.2.1
  have hown := fx.2.2.2.1
  have hts := fx.2.2.2.2
  have hl : lv_has ls 7 [(0, .ref (a_p 0)), (1, .int seed), (2, .int many), (3, .int six)] := hl
  have hP : va_P g.1 vwCl (wX10 g a_p I_p J_p ++ (wX6 g a_e I_e ++ wX9 g a_z I_z)) s.heap := hP
  have hf_61 := hts _ (uT _ _ u_37)
  have hf_68 := hts _ (uT _ _ u_41)
  have hf_99 := hts _ (uT _ _ u_58)
  have hi_X10 : ∀ w ∈ wsX100, w.before args s = true := fun w h => hts w (uT _ w (u_wsX100 w h))
  have lm1 : (-1 : Int32).toInt = -1 := by decide
  have lm0 : (0 : Int32).toInt = 0 := by decide
  have lm2 : (1 : Int32).toInt = 1 := by decide
  have hp1 := hPI.1
  have hp2 := hPI.2.1
  have hE0 := hE.1
  have hE1 := hE.2
  have hw0 := hW.1
  have hw1 := hW.2
  have lq6 : (6 : Int32).toInt = 6 := by decide
  refine lv_iload_n hx hb dX10_odds_0 rfl (lv_at hl 1 rfl) ?_
  refine lv_iload_n hx hb dX10_odds_1 rfl (lv_at hl 3 rfl) ?_
  refine PurI.cs (C := RX10) (As := [.int seed, .int six]) (kX10_areDraws l g seed six) fx (gUS (uT _) u_1612 u_1613 u_2 u_1614) rfl hdX10_areDraws ⟨Nat.le_of_ble_eq_true rfl, Nat.le_of_ble_eq_true rfl⟩ hK hP [] rfl rfl rfl hl.1 (Nat.le_of_ble_eq_true rfl) dX10_odds_2 (fun r1 p_r1 => ?_)
  refine q_if_eq (tgt := 23) hx hb dX10_odds_5 (by decide) rfl (fun b_5 k_5 => ?_) (fun b_5 k_5 => ?_)
  · have q_5 := bP.f p_r1 b_5
    refine lv_iconst (v := 0) hx hb dX10_odds_23 (by decide) ?_
    refine lv_istore (lv' := [(4, .int (0 : Int32)), (0, .ref (a_p 0)), (1, .int seed), (2, .int many), (3, .int six)]) hx hb dX10_odds_24 hl (by decide) rfl (fun ls hl => ?_)
    refine lv_iload hx hb dX10_odds_26 (lv_at hl 0 rfl) ?_
    refine q_if_eq (tgt := 42) hx hb dX10_odds_28 (by decide) (by decide : (0 : Int32).toInt = 0) (fun b_28 k_28 => ?_) (fun b_28 k_28 => ?_)
    · refine lv_aload_n hx hb dX10_odds_42 rfl (lv_at hl 1 rfl) ?_
      refine lv_iconst (v := 1) hx hb dX10_odds_43 (by decide) ?_
      refine EffI.cv (wr := (wX6 g a_e I_e ++ wX9 g a_z I_z)) (w' := fun u3 => wX10 g a_p u3 J_p ++ (wX6 g a_e I_e ++ wX9 g a_z I_z)) (As := [.int (1 : Int32)]) (kX10_didNot l g a_p I_p J_p (1 : Int32)) fx (gUV (uT _) u_240 u_241 u_242 u_2 u_243) rfl hdX10_didNot ⟨Nat.le_of_ble_eq_true rfl, Nat.le_of_ble_eq_true rfl⟩ hK hP hD hS hA [0, 1] [2, 3, 4, 5, 6, 7] [6, 7, 0, 1, 2, 3, 4, 5] rfl rfl rfl rfl (by decide) rfl (fun _ => rfl) rfl rfl rfl rfl hl.1 (Nat.le_of_ble_eq_true rfl) dX10_odds_44 (fun r2 u3 H locs p_r2 hP hD hS => ?_)
      have hP : va_P g.1 vwCl (wX10 g a_p u3 J_p ++ (wX6 g a_e I_e ++ wX9 g a_z I_z)) H := hP
      have hD : va_D A (wX10 g a_p u3 J_p ++ (wX6 g a_e I_e ++ wX9 g a_z I_z)) := hD
      refine hret 47 ls r2 _ _ (u3, I_z, J_p) dX10_odds_47 (Or.inl p_r2.1) hS hP hD ?_
      exact ⟨(PI.st hPI p_r2.2), hW, (KP.tr (KP.rf I_p) (KP.st p_r2.2))⟩
    · exfalso
      omega
  · have q_5 := bP.t p_r1 b_5
    refine lv_iload_n hx hb dX10_odds_8 rfl (lv_at hl 2 rfl) ?_
    refine lv_iconst (v := 1) hx hb dX10_odds_9 (by decide) ?_
    refine q_icmp_lt (tgt := 23) hx hb dX10_odds_10 (by decide) rfl (by decide : (1 : Int32).toInt = 1) (fun k_10 => ?_) (fun k_10 => ?_)
    · refine lv_iconst (v := 0) hx hb dX10_odds_23 (by decide) ?_
      refine lv_istore (lv' := [(4, .int (0 : Int32)), (0, .ref (a_p 0)), (1, .int seed), (2, .int many), (3, .int six)]) hx hb dX10_odds_24 hl (by decide) rfl (fun ls hl => ?_)
      refine lv_iload hx hb dX10_odds_26 (lv_at hl 0 rfl) ?_
      refine q_if_eq (tgt := 42) hx hb dX10_odds_28 (by decide) (by decide : (0 : Int32).toInt = 0) (fun b_28 k_28 => ?_) (fun b_28 k_28 => ?_)
      · refine lv_aload_n hx hb dX10_odds_42 rfl (lv_at hl 1 rfl) ?_
        refine lv_iconst (v := 1) hx hb dX10_odds_43 (by decide) ?_
        refine EffI.cv (wr := (wX6 g a_e I_e ++ wX9 g a_z I_z)) (w' := fun u5 => wX10 g a_p u5 J_p ++ (wX6 g a_e I_e ++ wX9 g a_z I_z)) (As := [.int (1 : Int32)]) (kX10_didNot l g a_p I_p J_p (1 : Int32)) fx (gUV (uT _) u_240 u_241 u_242 u_2 u_243) rfl hdX10_didNot ⟨Nat.le_of_ble_eq_true rfl, Nat.le_of_ble_eq_true rfl⟩ hK hP hD hS hA [0, 1] [2, 3, 4, 5, 6, 7] [6, 7, 0, 1, 2, 3, 4, 5] rfl rfl rfl rfl (by decide) rfl (fun _ => rfl) rfl rfl rfl rfl hl.1 (Nat.le_of_ble_eq_true rfl) dX10_odds_44 (fun r4 u5 H locs p_r4 hP hD hS => ?_)
        have hP : va_P g.1 vwCl (wX10 g a_p u5 J_p ++ (wX6 g a_e I_e ++ wX9 g a_z I_z)) H := hP
        have hD : va_D A (wX10 g a_p u5 J_p ++ (wX6 g a_e I_e ++ wX9 g a_z I_z)) := hD
        refine hret 47 ls r4 _ _ (u5, I_z, J_p) dX10_odds_47 (Or.inl p_r4.1) hS hP hD ?_
        exact ⟨(PI.st hPI p_r4.2), hW, (KP.tr (KP.rf I_p) (KP.st p_r4.2))⟩
      · exfalso
        omega
    · refine lv_iload_n hx hb dX10_odds_13 rfl (lv_at hl 2 rfl) ?_
      refine lv_bipush (v := 20) hx hb dX10_odds_14 (by decide) ?_
      refine q_icmp_gt (tgt := 23) hx hb dX10_odds_16 (by decide) rfl (by decide : (20 : Int32).toInt = 20) (fun k_16 => ?_) (fun k_16 => ?_)
      · refine lv_iconst (v := 0) hx hb dX10_odds_23 (by decide) ?_
        refine lv_istore (lv' := [(4, .int (0 : Int32)), (0, .ref (a_p 0)), (1, .int seed), (2, .int many), (3, .int six)]) hx hb dX10_odds_24 hl (by decide) rfl (fun ls hl => ?_)
        refine lv_iload hx hb dX10_odds_26 (lv_at hl 0 rfl) ?_
        refine q_if_eq (tgt := 42) hx hb dX10_odds_28 (by decide) (by decide : (0 : Int32).toInt = 0) (fun b_28 k_28 => ?_) (fun b_28 k_28 => ?_)
        · refine lv_aload_n hx hb dX10_odds_42 rfl (lv_at hl 1 rfl) ?_
          refine lv_iconst (v := 1) hx hb dX10_odds_43 (by decide) ?_
          refine EffI.cv (wr := (wX6 g a_e I_e ++ wX9 g a_z I_z)) (w' := fun u7 => wX10 g a_p u7 J_p ++ (wX6 g a_e I_e ++ wX9 g a_z I_z)) (As := [.int (1 : Int32)]) (kX10_didNot l g a_p I_p J_p (1 : Int32)) fx (gUV (uT _) u_240 u_241 u_242 u_2 u_243) rfl hdX10_didNot ⟨Nat.le_of_ble_eq_true rfl, Nat.le_of_ble_eq_true rfl⟩ hK hP hD hS hA [0, 1] [2, 3, 4, 5, 6, 7] [6, 7, 0, 1, 2, 3, 4, 5] rfl rfl rfl rfl (by decide) rfl (fun _ => rfl) rfl rfl rfl rfl hl.1 (Nat.le_of_ble_eq_true rfl) dX10_odds_44 (fun r6 u7 H locs p_r6 hP hD hS => ?_)
          have hP : va_P g.1 vwCl (wX10 g a_p u7 J_p ++ (wX6 g a_e I_e ++ wX9 g a_z I_z)) H := hP
          have hD : va_D A (wX10 g a_p u7 J_p ++ (wX6 g a_e I_e ++ wX9 g a_z I_z)) := hD
          refine hret 47 ls r6 _ _ (u7, I_z, J_p) dX10_odds_47 (Or.inl p_r6.1) hS hP hD ?_
          exact ⟨(PI.st hPI p_r6.2), hW, (KP.tr (KP.rf I_p) (KP.st p_r6.2))⟩
        · exfalso
          omega
      · refine lv_iconst (v := 1) hx hb dX10_odds_19 (by decide) ?_
        refine lv_goto (tgt := 24) hx hb dX10_odds_20 (by decide) ?_
        refine lv_istore (lv' := [(4, .int (1 : Int32)), (0, .ref (a_p 0)), (1, .int seed), (2, .int many), (3, .int six)]) hx hb dX10_odds_24 hl (by decide) rfl (fun ls hl => ?_)
        refine lv_iload hx hb dX10_odds_26 (lv_at hl 0 rfl) ?_
        refine q_if_eq (tgt := 42) hx hb dX10_odds_28 (by decide) (by decide : (1 : Int32).toInt = 1) (fun b_28 k_28 => ?_) (fun b_28 k_28 => ?_)
        · exfalso
          omega
        · refine lv_iload_n hx hb dX10_odds_31 rfl (lv_at hl 2 rfl) ?_
          refine lv_iload_n hx hb dX10_odds_32 rfl (lv_at hl 3 rfl) ?_
          refine r_iadd hx hb dX10_odds_33 rfl rfl (fun x8 e_x8 t_x8 => ?_)
          try have t_x8 := t_x8 (by omega)
          refine lv_iconst (v := 1) hx hb dX10_odds_34 (by decide) ?_
          refine r_isub hx hb dX10_odds_35 rfl (by decide : (1 : Int32).toInt = 1) (fun x9 e_x9 t_x9 => ?_)
          try have t_x9 := t_x9 (by omega)
          refine lv_sipush (v := 9999) hx hb dX10_odds_36 (by decide) ?_
          refine q_icmp_le (tgt := 48) hx hb dX10_odds_39 (by decide) rfl (by decide : (9999 : Int32).toInt = 9999) (fun k_39 => ?_) (fun k_39 => ?_)
          · refine lv_aload_n hx hb dX10_odds_48 rfl (lv_at hl 1 rfl) ?_
            refine va_get (D := g.1) (ci := 10) (v := .int (I_p 0 11)) (C := RX10) (T := TX10) (N := 20) hx hb hi_X10 (fun _ h => h) hown hK.1 hP 0 rfl rfl 11 (by decide) hf_61 (fun _ h9 => h9) rfl dX10_odds_49 ?_
            refine q_if_ne (tgt := 62) hx hb dX10_odds_52 (by decide) rfl (fun b_52 k_52 => ?_) (fun b_52 k_52 => ?_)
            · refine lv_iconst (v := 0) hx hb dX10_odds_62 (by decide) ?_
              refine lv_istore (lv' := [(5, .int (0 : Int32)), (4, .int (1 : Int32)), (0, .ref (a_p 0)), (1, .int seed), (2, .int many), (3, .int six)]) hx hb dX10_odds_63 hl (by decide) rfl (fun ls hl => ?_)
              refine lv_iconst (v := 0) hx hb dX10_odds_65 (by decide) ?_
              refine lv_istore (lv' := [(6, .int (0 : Int32)), (5, .int (0 : Int32)), (4, .int (1 : Int32)), (0, .ref (a_p 0)), (1, .int seed), (2, .int many), (3, .int six)]) hx hb dX10_odds_66 hl (by decide) rfl (fun ls hl => ?_)
              have L68 : ∀ (nn : Nat) (v5_68 : Int32) (v6_68 : Int32) (I_z_68 : Nat → Nat → Int32), (hv_68 : 0 ≤ v6_68.toInt ∧ v6_68.toInt ≤ many.toInt ∧ 0 ≤ v5_68.toInt ∧ v5_68.toInt ≤ v6_68.toInt) → (hW_68 : WI I_z_68) → ((21 - v6_68.toInt) < (nn : Int)) → ∀ (H : Heap) (locs : List Loc), va_P g.1 vwCl (wX10 g a_p I_p J_p ++ (wX6 g a_e I_e ++ wX9 g a_z I_z_68)) H → va_D A (wX10 g a_p I_p J_p ++ (wX6 g a_e I_e ++ wX9 g a_z I_z_68)) → va_S A s.heap H locs → ∀ ls : Array Slot, lv_has ls 7 [(6, .int v6_68), (5, .int v5_68), (4, .int (1 : Int32)), (0, .ref (a_p 0)), (1, .int seed), (2, .int many), (3, .int six)] → W p l e (rm 2) s m args below meth c H locs 0 0 Q (F0 m 68 ls []) := by
                intro n_68
                induction n_68 with
                | zero =>
                  intro v5_68 v6_68 I_z_68 hv_68 hW_68 hms_68 H locs hP hD hS ls hl
                  exfalso; omega
                | succ n_68 ih_68 =>
                  intro v5_68 v6_68 I_z_68 hv_68 hW_68 hms_68 H locs hP hD hS ls hl
                  refine lv_iload hx hb dX10_odds_68 (lv_at hl 0 rfl) ?_
                  refine lv_iload_n hx hb dX10_odds_70 rfl (lv_at hl 5 rfl) ?_
                  refine q_icmp_ge (tgt := 102) hx hb dX10_odds_71 (by decide) rfl rfl (fun k_71 => ?_) (fun k_71 => ?_)
                  · refine lv_aload_n hx hb dX10_odds_102 rfl (lv_at hl 3 rfl) ?_
                    refine lv_iload hx hb dX10_odds_103 (lv_at hl 1 rfl) ?_
                    refine lv_iload_n hx hb dX10_odds_105 rfl (lv_at hl 5 rfl) ?_
                    refine EffV.cv (wr := (wX6 g a_e I_e ++ wX9 g a_z I_z_68)) (w' := fun u11 => wX10 g a_p I_p u11 ++ (wX6 g a_e I_e ++ wX9 g a_z I_z_68)) (As := [.int v5_68, .int many]) (kX10_tellFraction l g a_p I_p J_p v5_68 many (by omega)) fx (gUV (uT _) u_1661 u_1662 u_1663 u_2 u_1664) rfl hdX10_tellFraction ⟨Nat.le_of_ble_eq_true rfl, Nat.le_of_ble_eq_true rfl⟩ hK hP hD hS hA [0, 1] [2, 3, 4, 5, 6, 7] [6, 7, 0, 1, 2, 3, 4, 5] rfl rfl rfl rfl (by decide) rfl (fun _ => rfl) rfl rfl rfl rfl hl.1 (Nat.le_of_ble_eq_true rfl) dX10_odds_106 (fun u11 H locs p_r10 hP hD hS => ?_)
                    have hP : va_P g.1 vwCl (wX10 g a_p I_p u11 ++ (wX6 g a_e I_e ++ wX9 g a_z I_z_68)) H := hP
                    have hD : va_D A (wX10 g a_p I_p u11 ++ (wX6 g a_e I_e ++ wX9 g a_z I_z_68)) := hD
                    refine lv_aload_n hx hb dX10_odds_109 rfl (lv_at hl 3 rfl) ?_
                    refine EffI.cv (wr := (wX6 g a_e I_e ++ wX9 g a_z I_z_68)) (w' := fun u13 => wX10 g a_p u13 u11 ++ (wX6 g a_e I_e ++ wX9 g a_z I_z_68)) (As := []) (kX10_did l g a_p I_p u11) fx (gUV (uT _) u_248 u_249 u_250 u_2 u_251) rfl hdX10_did ⟨Nat.le_of_ble_eq_true rfl, Nat.le_of_ble_eq_true rfl⟩ hK hP hD hS hA [0, 1] [2, 3, 4, 5, 6, 7] [6, 7, 0, 1, 2, 3, 4, 5] rfl rfl rfl rfl (by decide) rfl (fun _ => rfl) rfl rfl rfl rfl hl.1 (Nat.le_of_ble_eq_true rfl) dX10_odds_110 (fun r12 u13 H locs p_r12 hP hD hS => ?_)
                    have hP : va_P g.1 vwCl (wX10 g a_p u13 u11 ++ (wX6 g a_e I_e ++ wX9 g a_z I_z_68)) H := hP
                    have hD : va_D A (wX10 g a_p u13 u11 ++ (wX6 g a_e I_e ++ wX9 g a_z I_z_68)) := hD
                    refine hret 113 ls r12 _ _ (u13, I_z_68, u11) dX10_odds_113 (Or.inr p_r12.1) hS hP hD ?_
                    exact ⟨(PI.st hPI p_r12.2), hW_68, (KP.tr (KP.rf I_p) (KP.st p_r12.2))⟩
                  · refine lv_aload_n hx hb dX10_odds_74 rfl (lv_at hl 3 rfl) ?_
                    refine va_get (D := g.1) (ci := 10) (v := .ref (a_z 0)) (C := RX10) (T := TX10) (N := 20) hx hb hi_X10 (fun _ h => h) hown hK.1 hP 0 rfl rfl 17 (by decide) hf_99 (fun _ h9 => h9) (congrArg (fun z => some (Value.ref z)) hl_p_wear) dX10_odds_75 ?_
                    refine lv_aload_n hx hb dX10_odds_78 rfl (lv_at hl 3 rfl) ?_
                    refine va_get (D := g.1) (ci := 10) (v := .ref (a_e 0)) (C := RX10) (T := TX10) (N := 20) hx hb hi_X10 (fun _ h => h) hown hK.1 hP 0 rfl rfl 12 (by decide) hf_68 (fun _ h9 => h9) (congrArg (fun z => some (Value.ref z)) hl_p_shown) dX10_odds_79 ?_
                    refine lv_iload_n hx hb dX10_odds_82 rfl (lv_at hl 4 rfl) ?_
                    refine lv_iload hx hb dX10_odds_83 (lv_at hl 0 rfl) ?_
                    refine r_iadd hx hb dX10_odds_85 rfl rfl (fun x14 e_x14 t_x14 => ?_)
                    try have t_x14 := t_x14 (by omega)
                    refine lv_iload_n hx hb dX10_odds_86 rfl (lv_at hl 6 rfl) ?_
                    refine EffI.cv (wr := (wX10 g a_p I_p J_p)) (w' := fun u16 => wX10 g a_p I_p J_p ++ (wX6 g a_e I_e ++ wX9 g a_z u16)) (As := [.ref (a_e 0), .int x14, .int six]) (kX9_leavesNoneBare l g a_z I_z_68 a_e I_e x14 six hE hW_68) fx (gUV (uT _) u_1657 u_1658 u_1659 u_57 u_1660) rfl hdX9_leavesNoneBare ⟨Nat.le_of_ble_eq_true rfl, Nat.le_of_ble_eq_true rfl⟩ hK hP hD hS hA [6, 7, 2, 3, 4, 5] [0, 1] [0, 1, 4, 5, 6, 7, 2, 3] rfl rfl rfl rfl (by decide) rfl (fun _ => rfl) rfl rfl rfl rfl hl.1 (Nat.le_of_ble_eq_true rfl) dX10_odds_87 (fun r15 u16 H locs p_r15 hP hD hS => ?_)
                    have hP : va_P g.1 vwCl (wX10 g a_p I_p J_p ++ (wX6 g a_e I_e ++ wX9 g a_z u16)) H := hP
                    have hD : va_D A (wX10 g a_p I_p J_p ++ (wX6 g a_e I_e ++ wX9 g a_z u16)) := hD
                    refine q_if_eq (tgt := 96) hx hb dX10_odds_90 (by decide) rfl (fun b_90 k_90 => ?_) (fun b_90 k_90 => ?_)
                    · refine r_iinc (lv' := fun i17 => [(6, .int i17), (5, .int v5_68), (4, .int (1 : Int32)), (0, .ref (a_p 0)), (1, .int seed), (2, .int many), (3, .int six)]) hx hb dX10_odds_96 hl (k := 0) rfl (by decide) rfl (by decide) (fun _ => rfl) (fun i17 e_i17 t_i17 ls hl => ?_)
                      try have t_i17 := t_i17 (by omega)
                      refine lv_goto (tgt := 68) hx hb dX10_odds_99 (by decide) ?_
                      exact ih_68 v5_68 i17 u16 (by omega) p_r15.2 (by omega) _ _ hP hD hS ls hl
                    · refine r_iinc (lv' := fun i18 => [(5, .int i18), (6, .int v6_68), (4, .int (1 : Int32)), (0, .ref (a_p 0)), (1, .int seed), (2, .int many), (3, .int six)]) hx hb dX10_odds_93 hl (k := 1) rfl (by decide) rfl (by decide) (fun _ => rfl) (fun i18 e_i18 t_i18 ls hl => ?_)
                      try have t_i18 := t_i18 (by omega)
                      refine r_iinc (lv' := fun i19 => [(6, .int i19), (5, .int i18), (4, .int (1 : Int32)), (0, .ref (a_p 0)), (1, .int seed), (2, .int many), (3, .int six)]) hx hb dX10_odds_96 hl (k := 1) rfl (by decide) rfl (by decide) (fun _ => rfl) (fun i19 e_i19 t_i19 ls hl => ?_)
                      try have t_i19 := t_i19 (by omega)
                      refine lv_goto (tgt := 68) hx hb dX10_odds_99 (by decide) ?_
                      exact ih_68 i18 i19 u16 (by omega) p_r15.2 (by omega) _ _ hP hD hS ls hl
              exact L68 ((21 - (0 : Int32).toInt) + 1).toNat (0 : Int32) (0 : Int32) I_z (by omega) hW (by omega) _ _ hP hD hS ls hl
            · refine lv_aload_n hx hb dX10_odds_55 rfl (lv_at hl 1 rfl) ?_
              refine lv_bipush (v := 6) hx hb dX10_odds_56 (by decide) ?_
              refine EffI.cv (wr := (wX6 g a_e I_e ++ wX9 g a_z I_z)) (w' := fun u21 => wX10 g a_p u21 J_p ++ (wX6 g a_e I_e ++ wX9 g a_z I_z)) (As := [.int (6 : Int32)]) (kX10_didNot l g a_p I_p J_p (6 : Int32)) fx (gUV (uT _) u_240 u_241 u_242 u_2 u_243) rfl hdX10_didNot ⟨Nat.le_of_ble_eq_true rfl, Nat.le_of_ble_eq_true rfl⟩ hK hP hD hS hA [0, 1] [2, 3, 4, 5, 6, 7] [6, 7, 0, 1, 2, 3, 4, 5] rfl rfl rfl rfl (by decide) rfl (fun _ => rfl) rfl rfl rfl rfl hl.1 (Nat.le_of_ble_eq_true rfl) dX10_odds_58 (fun r20 u21 H locs p_r20 hP hD hS => ?_)
              have hP : va_P g.1 vwCl (wX10 g a_p u21 J_p ++ (wX6 g a_e I_e ++ wX9 g a_z I_z)) H := hP
              have hD : va_D A (wX10 g a_p u21 J_p ++ (wX6 g a_e I_e ++ wX9 g a_z I_z)) := hD
              refine hret 61 ls r20 _ _ (u21, I_z, J_p) dX10_odds_61 (Or.inl p_r20.1) hS hP hD ?_
              exact ⟨(PI.st hPI p_r20.2), hW, (KP.tr (KP.rf I_p) (KP.st p_r20.2))⟩
          · refine lv_aload_n hx hb dX10_odds_42 rfl (lv_at hl 1 rfl) ?_
            refine lv_iconst (v := 1) hx hb dX10_odds_43 (by decide) ?_
            refine EffI.cv (wr := (wX6 g a_e I_e ++ wX9 g a_z I_z)) (w' := fun u23 => wX10 g a_p u23 J_p ++ (wX6 g a_e I_e ++ wX9 g a_z I_z)) (As := [.int (1 : Int32)]) (kX10_didNot l g a_p I_p J_p (1 : Int32)) fx (gUV (uT _) u_240 u_241 u_242 u_2 u_243) rfl hdX10_didNot ⟨Nat.le_of_ble_eq_true rfl, Nat.le_of_ble_eq_true rfl⟩ hK hP hD hS hA [0, 1] [2, 3, 4, 5, 6, 7] [6, 7, 0, 1, 2, 3, 4, 5] rfl rfl rfl rfl (by decide) rfl (fun _ => rfl) rfl rfl rfl rfl hl.1 (Nat.le_of_ble_eq_true rfl) dX10_odds_44 (fun r22 u23 H locs p_r22 hP hD hS => ?_)
            have hP : va_P g.1 vwCl (wX10 g a_p u23 J_p ++ (wX6 g a_e I_e ++ wX9 g a_z I_z)) H := hP
            have hD : va_D A (wX10 g a_p u23 J_p ++ (wX6 g a_e I_e ++ wX9 g a_z I_z)) := hD
            refine hret 47 ls r22 _ _ (u23, I_z, J_p) dX10_odds_47 (Or.inl p_r22.1) hS hP hD ?_
            exact ⟨(PI.st hPI p_r22.2), hW, (KP.tr (KP.rf I_p) (KP.st p_r22.2))⟩

set_option maxHeartbeats 4000000 in
set_option maxRecDepth 100000 in
theorem kX10_drop (l : Launch) (g : gG) (a_p : Nat → Nat) (I_p : Nat → Nat → Int32) (J_p : Nat → Nat → Int64) (a_t : Nat → Nat) (I_t : Nat → Nat → Int32) (rule : Int32) (isd : Int32) (hl_p_table : a_p 109 = a_t 0) (hPI : PI I_p) (hT : TI I_t) : EffI l g yX10_drop wsX10_drop 1 [.ref (a_p 0), .int rule, .int isd] (wX10 g a_p I_p J_p ++ wX7 g a_t I_t) (fun (u : ((Nat → Nat → Int32) × (Nat → Nat → Int32))) => wX10 g a_p (u.1) J_p ++ wX7 g a_t (u.2)) (fun r (u : ((Nat → Nat → Int32) × (Nat → Nat → Int32))) => PI (u.1) ∧ TI (u.2) ∧ KP I_p (u.1) ∧ ((r = 1 ∧ (0 ≤ rule.toInt ∧ rule.toInt < (I_t 0 0).toInt) ∧ (u.2) = uF I_t 0 1 (dpC (I_t 0 1) rule isd)) ∨ (r = 0 ∧ ¬ (0 ≤ rule.toInt ∧ rule.toInt < (I_t 0 0).toInt) ∧ (u.2) = I_t))) := by
  refine EffI.sz (cc := cX10_drop) (maxL := 4) (by decide) rfl (Nat.le_of_ble_eq_true rfl) (fun p e s m args below meth c A Q ls fx hK hP hD hA hS hl hret => ?_)
  have hx := fx.1
  have hb := fx.2.1
  have hml := fx.2.2.1
  have hown := fx.2.2.2.1
  have hts := fx.2.2.2.2
  have hl : lv_has ls 4 [(0, .ref (a_p 0)), (1, .int rule), (2, .int isd)] := hl
  have hP : va_P g.1 vwCl (wX10 g a_p I_p J_p ++ wX7 g a_t I_t) s.heap := hP
  have hf_50 := hts _ (uT _ _ u_32)
  have hf_184 := hts _ (uT _ _ u_593)
  have hi_X10 : ∀ w ∈ wsX100, w.before args s = true := fun w h => hts w (uT _ w (u_wsX100 w h))
  have hi_X7 : ∀ w ∈ wsX70, w.before args s = true := fun w h => hts w (uT _ w (u_wsX70 w h))
  have lm1 : (-1 : Int32).toInt = -1 := by decide
  have lm0 : (0 : Int32).toInt = 0 := by decide
  have lm2 : (1 : Int32).toInt = 1 := by decide
  have hp1 := hPI.1
  have hp2 := hPI.2.1
  have hru := TI.ru hT
  have hlt3 := TI.li hT
  have hlt4 := TI.pa hT
  refine lv_aload_n hx hb dX10_drop_0 rfl (lv_at hl 0 rfl) ?_
  refine va_get (D := g.1) (ci := 10) (v := .ref (a_t 0)) (C := RX10) (T := TX10) (N := 20) hx hb hi_X10 (fun _ h => h) hown hK.1 hP 0 rfl rfl 9 (by decide) hf_50 (fun _ h9 => h9) (congrArg (fun z => some (Value.ref z)) hl_p_table) dX10_drop_1 ?_
  refine lv_iload_n hx hb dX10_drop_4 rfl (lv_at hl 1 rfl) ?_
  refine PurI.cv (As := [.int rule]) (kX7_has l g a_t I_t rule) fx (gUV (uT _) u_796 u_797 u_798 u_31 u_799) rfl hdX7_has ⟨Nat.le_of_ble_eq_true rfl, Nat.le_of_ble_eq_true rfl⟩ hK hP [2, 3, 4, 5, 6, 7, 8] rfl rfl rfl rfl rfl hl.1 (Nat.le_of_ble_eq_true rfl) dX10_drop_5 (fun r1 p_r1 => ?_)
  refine q_if_ne (tgt := 17) hx hb dX10_drop_8 (by decide) rfl (fun b_8 k_8 => ?_) (fun b_8 k_8 => ?_)
  · have q_8 := bP.t p_r1 b_8
    refine lv_iconst (v := 1) hx hb dX10_drop_17 (by decide) ?_
    refine lv_iload_n hx hb dX10_drop_18 rfl (lv_at hl 1 rfl) ?_
    refine lv_ishl hx hb dX10_drop_19 ?_
    refine q_nm (fun x2 e_x2 => ?_)
    refine lv_istore_n (lv' := [(3, .int x2), (0, .ref (a_p 0)), (1, .int rule), (2, .int isd)]) hx hb dX10_drop_20 rfl hl (by decide) rfl (fun ls hl => ?_)
    refine lv_aload_n hx hb dX10_drop_21 rfl (lv_at hl 1 rfl) ?_
    refine va_get (D := g.1) (ci := 10) (v := .ref (a_t 0)) (C := RX10) (T := TX10) (N := 20) hx hb hi_X10 (fun _ h => h) hown hK.1 hP 0 rfl rfl 9 (by decide) hf_50 (fun _ h9 => h9) (congrArg (fun z => some (Value.ref z)) hl_p_table) dX10_drop_22 ?_
    refine lv_iload_n hx hb dX10_drop_25 rfl (lv_at hl 3 rfl) ?_
    refine q_if_eq (tgt := 41) hx hb dX10_drop_26 (by decide) rfl (fun b_26 k_26 => ?_) (fun b_26 k_26 => ?_)
    · refine lv_aload_n hx hb dX10_drop_41 rfl (lv_at hl 1 rfl) ?_
      refine va_get (D := g.1) (ci := 10) (v := .ref (a_t 0)) (C := RX10) (T := TX10) (N := 20) hx hb hi_X10 (fun _ h => h) hown hK.1 hP 0 rfl rfl 9 (by decide) hf_50 (fun _ h9 => h9) (congrArg (fun z => some (Value.ref z)) hl_p_table) dX10_drop_42 ?_
      refine va_get (D := g.1) (ci := 7) (v := .int (I_t 0 1)) (C := RX7) (T := TX7) (N := 8) hx hb hi_X7 (fun _ h => h) hown hK.1 hP 2 rfl rfl 1 (by decide) hf_184 (fun _ h9 => h9) rfl dX10_drop_45 ?_
      refine lv_iload_n hx hb dX10_drop_48 rfl (lv_at hl 0 rfl) ?_
      refine lv_iconst (v := -1) hx hb dX10_drop_49 (by decide) ?_
      refine lv_ixor hx hb dX10_drop_50 ?_
      refine q_nm (fun x3 e_x3 => ?_)
      refine lv_iand hx hb dX10_drop_51 ?_
      refine q_nm (fun x4 e_x4 => ?_)
      refine va_put (D := g.1) (ci := 7) (v := .int x4) (ty := .int) (C := RX7) (T := TX7) (N := 8) hx hb hi_X7 (fun _ h => h) tyX7 tyX7_ok nmX7 hown hK.1 hP hD hS 2 rfl rfl 1 (by decide) hf_184 (fun _ h9 => h9) rfl (by decide +kernel) rfl rfl (Nat.le_of_ble_eq_true rfl) dX10_drop_52 (fun H locs hP hD hS => ?_)
      have hP : va_P g.1 vwCl (wX10 g a_p I_p J_p ++ wX7 g a_t (uF I_t 0 1 x4)) H := hP
      have hD : va_D A (wX10 g a_p I_p J_p ++ wX7 g a_t (uF I_t 0 1 x4)) := hD
      have hc_52 : TI (uF I_t 0 1 x4) := hT.ur (show 0 ≤ ((I_t 0 0)).toInt ∧ ((I_t 0 0)).toInt ≤ 24 from hru) rfl rfl rfl rfl rfl rfl
      refine lv_aload_n hx hb dX10_drop_55 rfl (lv_at hl 1 rfl) ?_
      refine EffI.cv (wr := (wX7 g a_t (uF I_t 0 1 x4))) (w' := fun u6 => wX10 g a_p u6 J_p ++ wX7 g a_t (uF I_t 0 1 x4)) (As := []) (kX10_did l g a_p I_p J_p) fx (gUV (uT _) u_248 u_249 u_250 u_2 u_251) rfl hdX10_did ⟨Nat.le_of_ble_eq_true rfl, Nat.le_of_ble_eq_true rfl⟩ hK hP hD hS hA [0, 1] [2, 3, 4, 5, 6, 7, 8] [7, 8, 0, 1, 2, 3, 4, 5, 6] rfl rfl rfl rfl (by decide) rfl (fun _ => rfl) rfl rfl rfl rfl hl.1 (Nat.le_of_ble_eq_true rfl) dX10_drop_56 (fun r5 u6 H locs p_r5 hP hD hS => ?_)
      have hP : va_P g.1 vwCl (wX10 g a_p u6 J_p ++ wX7 g a_t (uF I_t 0 1 x4)) H := hP
      have hD : va_D A (wX10 g a_p u6 J_p ++ wX7 g a_t (uF I_t 0 1 x4)) := hD
      refine hret 59 ls r5 _ _ (u6, (uF I_t 0 1 x4)) dX10_drop_59 (Or.inr p_r5.1) hS hP hD ?_
      exact ⟨(PI.st hPI p_r5.2), hc_52, (KP.tr (KP.rf I_p) (KP.st p_r5.2)), (by exact Or.inl ⟨p_r5.1, by omega, congrArg (uF I_t 0 1) (by unfold dpC; first | (rw [if_neg (by omega), e_x4]; subst_vars; rfl) | (rw [if_pos (by omega), e_x4]; subst_vars; rfl))⟩)⟩
    · refine lv_aload_n hx hb dX10_drop_29 rfl (lv_at hl 1 rfl) ?_
      refine va_get (D := g.1) (ci := 10) (v := .ref (a_t 0)) (C := RX10) (T := TX10) (N := 20) hx hb hi_X10 (fun _ h => h) hown hK.1 hP 0 rfl rfl 9 (by decide) hf_50 (fun _ h9 => h9) (congrArg (fun z => some (Value.ref z)) hl_p_table) dX10_drop_30 ?_
      refine va_get (D := g.1) (ci := 7) (v := .int (I_t 0 1)) (C := RX7) (T := TX7) (N := 8) hx hb hi_X7 (fun _ h => h) hown hK.1 hP 2 rfl rfl 1 (by decide) hf_184 (fun _ h9 => h9) rfl dX10_drop_33 ?_
      refine lv_iload_n hx hb dX10_drop_36 rfl (lv_at hl 0 rfl) ?_
      refine lv_ior hx hb dX10_drop_37 ?_
      refine q_nm (fun x7 e_x7 => ?_)
      refine lv_goto (tgt := 52) hx hb dX10_drop_38 (by decide) ?_
      refine va_put (D := g.1) (ci := 7) (v := .int x7) (ty := .int) (C := RX7) (T := TX7) (N := 8) hx hb hi_X7 (fun _ h => h) tyX7 tyX7_ok nmX7 hown hK.1 hP hD hS 2 rfl rfl 1 (by decide) hf_184 (fun _ h9 => h9) rfl (by decide +kernel) rfl rfl (Nat.le_of_ble_eq_true rfl) dX10_drop_52 (fun H locs hP hD hS => ?_)
      have hP : va_P g.1 vwCl (wX10 g a_p I_p J_p ++ wX7 g a_t (uF I_t 0 1 x7)) H := hP
      have hD : va_D A (wX10 g a_p I_p J_p ++ wX7 g a_t (uF I_t 0 1 x7)) := hD
      have hc_52 : TI (uF I_t 0 1 x7) := hT.ur (show 0 ≤ ((I_t 0 0)).toInt ∧ ((I_t 0 0)).toInt ≤ 24 from hru) rfl rfl rfl rfl rfl rfl
      refine lv_aload_n hx hb dX10_drop_55 rfl (lv_at hl 1 rfl) ?_
      refine EffI.cv (wr := (wX7 g a_t (uF I_t 0 1 x7))) (w' := fun u9 => wX10 g a_p u9 J_p ++ wX7 g a_t (uF I_t 0 1 x7)) (As := []) (kX10_did l g a_p I_p J_p) fx (gUV (uT _) u_248 u_249 u_250 u_2 u_251) rfl hdX10_did ⟨Nat.le_of_ble_eq_true rfl, Nat.le_of_ble_eq_true rfl⟩ hK hP hD hS hA [0, 1] [2, 3, 4, 5, 6, 7, 8] [7, 8, 0, 1, 2, 3, 4, 5, 6] rfl rfl rfl rfl (by decide) rfl (fun _ => rfl) rfl rfl rfl rfl hl.1 (Nat.le_of_ble_eq_true rfl) dX10_drop_56 (fun r8 u9 H locs p_r8 hP hD hS => ?_)
      have hP : va_P g.1 vwCl (wX10 g a_p u9 J_p ++ wX7 g a_t (uF I_t 0 1 x7)) H := hP
      have hD : va_D A (wX10 g a_p u9 J_p ++ wX7 g a_t (uF I_t 0 1 x7)) := hD
      refine hret 59 ls r8 _ _ (u9, (uF I_t 0 1 x7)) dX10_drop_59 (Or.inr p_r8.1) hS hP hD ?_
      exact ⟨(PI.st hPI p_r8.2), hc_52, (KP.tr (KP.rf I_p) (KP.st p_r8.2)), (by exact Or.inl ⟨p_r8.1, by omega, congrArg (uF I_t 0 1) (by unfold dpC; first | (rw [if_neg (by omega), e_x7]; subst_vars; rfl) | (rw [if_pos (by omega), e_x7]; subst_vars; rfl))⟩)⟩
  · have q_8 := bP.f p_r1 b_8
    refine lv_aload_n hx hb dX10_drop_11 rfl (lv_at hl 0 rfl) ?_
    refine lv_iconst (v := 1) hx hb dX10_drop_12 (by decide) ?_
    refine EffI.cv (wr := (wX7 g a_t I_t)) (w' := fun u11 => wX10 g a_p u11 J_p ++ wX7 g a_t I_t) (As := [.int (1 : Int32)]) (kX10_didNot l g a_p I_p J_p (1 : Int32)) fx (gUV (uT _) u_240 u_241 u_242 u_2 u_243) rfl hdX10_didNot ⟨Nat.le_of_ble_eq_true rfl, Nat.le_of_ble_eq_true rfl⟩ hK hP hD hS hA [0, 1] [2, 3, 4, 5, 6, 7, 8] [7, 8, 0, 1, 2, 3, 4, 5, 6] rfl rfl rfl rfl (by decide) rfl (fun _ => rfl) rfl rfl rfl rfl hl.1 (Nat.le_of_ble_eq_true rfl) dX10_drop_13 (fun r10 u11 H locs p_r10 hP hD hS => ?_)
    have hP : va_P g.1 vwCl (wX10 g a_p u11 J_p ++ wX7 g a_t I_t) H := hP
    have hD : va_D A (wX10 g a_p u11 J_p ++ wX7 g a_t I_t) := hD
    refine hret 16 ls r10 _ _ (u11, I_t) dX10_drop_16 (Or.inl p_r10.1) hS hP hD ?_
    exact ⟨(PI.st hPI p_r10.2), hT, (KP.tr (KP.rf I_p) (KP.st p_r10.2)), (by exact Or.inr ⟨p_r10.1, by omega, rfl⟩)⟩

set_option maxHeartbeats 4000000 in
set_option maxRecDepth 100000 in
theorem kX10_feedInt (l : Launch) (g : gG) (a_p : Nat → Nat) (I_p : Nat → Nat → Int32) (J_p : Nat → Nat → Int64) (v : Int32) (hPI : PI I_p) : EffV l g yX10_feedInt wsX10_feedInt 0 [.ref (a_p 0), .int v] (wX10 g a_p I_p J_p) (fun (u : (Nat → Nat → Int32)) => wX10 g a_p u J_p) (fun (u : (Nat → Nat → Int32)) => PI (u) ∧ ((u) 0 1).toInt = min 900 ((I_p 0 1).toInt + 4) ∧ (u) 0 19 = I_p 0 19 ∧ ((I_p 0 1).toInt ≤ 896 → fxFd fxB (I_p 1) ((u) 1) (I_p 0 1).toInt.toNat [v]) ∧ (u) 0 3 = I_p 0 3 ∧ (u) 0 4 = I_p 0 4) := by
  refine EffV.st (cc := cX10_feedInt) (maxL := 3) (by decide) rfl (Nat.le_of_ble_eq_true rfl) (fun p e s m args below meth c A Q ls fx hK hP hD hA hS hl hret => ?_)
  have hx := fx.1
  have hb := fx.2.1
  have hml := fx.2.2.1
  have hown := fx.2.2.2.1
  have hts := fx.2.2.2.2
  have hl : lv_has ls 3 [(0, .ref (a_p 0)), (1, .int v)] := hl
  have hP : va_P g.1 vwCl (wX10 g a_p I_p J_p) s.heap := hP
  have hf_9 := hts _ (uT _ _ u_14)
  have hf_13 := hts _ (uT _ _ u_15)
  have hi_X10 : ∀ w ∈ wsX100, w.before args s = true := fun w h => hts w (uT _ w (u_wsX100 w h))
  have lm1 : (-1 : Int32).toInt = -1 := by decide
  have lm0 : (0 : Int32).toInt = 0 := by decide
  have lm2 : (1 : Int32).toInt = 1 := by decide
  have hp1 := hPI.1
  have hp2 := hPI.2.1
  have lq24 : (24 : Int32).toInt = 24 := by decide
  refine lv_bipush (v := 24) hx hb dX10_feedInt_0 (by decide) ?_
  refine lv_istore_n (lv' := [(2, .int (24 : Int32)), (0, .ref (a_p 0)), (1, .int v)]) hx hb dX10_feedInt_2 rfl hl (by decide) rfl (fun ls hl => ?_)
  have L3 : ∀ (nn : Nat) (v2_3 : Int32) (I_p_3 : Nat → Nat → Int32), (hv_3 : -8 ≤ v2_3.toInt ∧ v2_3.toInt ≤ 24 ∧ v2_3.toInt % 8 = 0) → (hPI_3 : PI I_p_3) → (ht_3 : 8 * ((((I_p_3 0 1)).toInt)) = 8 * (min 900 ((I_p 0 1).toInt + (24 - v2_3.toInt) / 8))) → (hm_3 : I_p_3 0 19 = I_p 0 19) → (hs_3 : (I_p 0 1).toInt ≤ 896 → fxFs fxB (I_p 1) (I_p_3 1) (I_p 0 1).toInt.toNat v v2_3.toInt) → (hq3_3 : I_p_3 0 3 = I_p 0 3 ∧ I_p_3 0 4 = I_p 0 4) → ((v2_3.toInt + 9) < (nn : Int)) → ∀ (H : Heap) (locs : List Loc), va_P g.1 vwCl (wX10 g a_p I_p_3 J_p) H → va_D A (wX10 g a_p I_p_3 J_p) → va_S A s.heap H locs → ∀ ls : Array Slot, lv_has ls 3 [(2, .int v2_3), (0, .ref (a_p 0)), (1, .int v)] → W p l e (rm 0) s m args below meth c H locs 0 0 Q (F0 m 3 ls []) := by
    intro n_3
    induction n_3 with
    | zero =>
      intro v2_3 I_p_3 hv_3 hPI_3 ht_3 hm_3 hs_3 hq3_3 hms_3 H locs hP hD hS ls hl
      exfalso; omega
    | succ n_3 ih_3 =>
      intro v2_3 I_p_3 hv_3 hPI_3 ht_3 hm_3 hs_3 hq3_3 hms_3 H locs hP hD hS ls hl
      have hp3 := hPI_3.1
      refine lv_iload_n hx hb dX10_feedInt_3 rfl (lv_at hl 0 rfl) ?_
      refine q_if_lt (tgt := 49) hx hb dX10_feedInt_4 (by decide) rfl (fun k_4 => ?_) (fun k_4 => ?_)
      · refine hret 49 ls _ _ I_p_3 dX10_feedInt_49 hS hP hD ?_
        exact ⟨hPI_3, by omega, hm_3, fun q => (hs_3 q).out (by omega), hq3_3⟩
      · refine lv_aload_n hx hb dX10_feedInt_7 rfl (lv_at hl 1 rfl) ?_
        refine va_get (D := g.1) (ci := 10) (v := .int (I_p_3 0 1)) (C := RX10) (T := TX10) (N := 20) hx hb hi_X10 (fun _ h => h) hown hK.1 hP 0 rfl rfl 1 (by decide) hf_13 (fun _ h9 => h9) rfl dX10_feedInt_8 ?_
        refine lv_sipush (v := 900) hx hb dX10_feedInt_11 (by decide) ?_
        refine q_icmp_ge (tgt := 43) hx hb dX10_feedInt_14 (by decide) rfl (by decide : (900 : Int32).toInt = 900) (fun k_14 => ?_) (fun k_14 => ?_)
        · refine r_iinc (lv' := fun i1 => [(2, .int i1), (0, .ref (a_p 0)), (1, .int v)]) hx hb dX10_feedInt_43 hl (k := 0) rfl (by decide) rfl (by decide) (fun _ => rfl) (fun i1 e_i1 t_i1 ls hl => ?_)
          try have t_i1 := t_i1 (by omega)
          refine lv_goto (tgt := 3) hx hb dX10_feedInt_46 (by decide) ?_
          exact ih_3 i1 I_p_3 (by omega) hPI_3 (show 8 * (((I_p_3 0 1)).toInt) = _ from (by omega)) hm_3 (fun q => by (exfalso; omega)) hq3_3 (by omega) _ _ hP hD hS ls hl
        · refine lv_aload_n hx hb dX10_feedInt_17 rfl (lv_at hl 1 rfl) ?_
          refine va_get (D := g.1) (ci := 10) (v := .ref (a_p 1)) (C := RX10) (T := TX10) (N := 20) hx hb hi_X10 (fun _ h => h) hown hK.1 hP 0 rfl rfl 0 (by decide) hf_9 (fun _ h9 => h9) rfl dX10_feedInt_18 ?_
          refine lv_aload_n hx hb dX10_feedInt_21 rfl (lv_at hl 1 rfl) ?_
          refine va_get (D := g.1) (ci := 10) (v := .int (I_p_3 0 1)) (C := RX10) (T := TX10) (N := 20) hx hb hi_X10 (fun _ h => h) hown hK.1 hP 0 rfl rfl 1 (by decide) hf_13 (fun _ h9 => h9) rfl dX10_feedInt_22 ?_
          refine lv_iload_n hx hb dX10_feedInt_25 rfl (lv_at hl 2 rfl) ?_
          refine lv_iload_n hx hb dX10_feedInt_26 rfl (lv_at hl 0 rfl) ?_
          refine lv_iushr hx hb dX10_feedInt_27 rfl ?_
          refine q_nm (fun x2 e_x2 => ?_)
          refine lv_sipush (v := 255) hx hb dX10_feedInt_28 (by decide) ?_
          refine lv_iand hx hb dX10_feedInt_31 ?_
          refine q_nm (fun x3 e_x3 => ?_)
          have n_32 : vp_in (I_p_3 0 1) 900 := (t_in (by omega))
          obtain ⟨f4, e_f4⟩ : ∃ z, z = upd (I_p_3 1) (I_p_3 0 1).toNatClampNeg x3 := ⟨_, rfl⟩
          refine va_iast hx hb hK.1 hP hD hS 1 0 rfl rfl n_32 dX10_feedInt_32 (fun H locs hP hD hS => ?_)
          have hP : va_P g.1 vwCl (wX10 g a_p (uR I_p_3 1 f4) J_p) H := by rw [e_f4]; exact hP
          have hD : va_D A (wX10 g a_p (uR I_p_3 1 f4) J_p) := by rw [e_f4]; exact hD
          have hc_32 : PI (uR I_p_3 1 f4) := hPI_3
          refine lv_aload_n hx hb dX10_feedInt_33 rfl (lv_at hl 1 rfl) ?_
          refine lv_dup hx hb dX10_feedInt_34 rfl ?_
          refine va_get (D := g.1) (ci := 10) (v := .int (I_p_3 0 1)) (C := RX10) (T := TX10) (N := 20) hx hb hi_X10 (fun _ h => h) hown hK.1 hP 0 rfl rfl 1 (by decide) hf_13 (fun _ h9 => h9) rfl dX10_feedInt_35 ?_
          refine lv_iconst (v := 1) hx hb dX10_feedInt_38 (by decide) ?_
          refine r_iadd hx hb dX10_feedInt_39 rfl (by decide : (1 : Int32).toInt = 1) (fun x5 e_x5 t_x5 => ?_)
          try have t_x5 := t_x5 (by omega)
          refine va_put (D := g.1) (ci := 10) (v := .int x5) (ty := .int) (C := RX10) (T := TX10) (N := 20) hx hb hi_X10 (fun _ h => h) tyX10 tyX10_ok nmX10 hown hK.1 hP hD hS 0 rfl rfl 1 (by decide) hf_13 (fun _ h9 => h9) rfl (by decide +kernel) rfl rfl (Nat.le_of_ble_eq_true rfl) dX10_feedInt_40 (fun H locs hP hD hS => ?_)
          have hP : va_P g.1 vwCl (wX10 g a_p (uF (uR I_p_3 1 f4) 0 1 x5) J_p) H := hP
          have hD : va_D A (wX10 g a_p (uF (uR I_p_3 1 f4) 0 1 x5) J_p) := hD
          have hc_40 : PI (uF (uR I_p_3 1 f4) 0 1 x5) := ⟨(show 0 ≤ (x5).toInt ∧ (x5).toInt ≤ 900 from (by omega)), hPI_3.2⟩
          refine r_iinc (lv' := fun i6 => [(2, .int i6), (0, .ref (a_p 0)), (1, .int v)]) hx hb dX10_feedInt_43 hl (k := 0) rfl (by decide) rfl (by decide) (fun _ => rfl) (fun i6 e_i6 t_i6 ls hl => ?_)
          try have t_i6 := t_i6 (by omega)
          refine lv_goto (tgt := 3) hx hb dX10_feedInt_46 (by decide) ?_
          exact ih_3 i6 (uF (uR I_p_3 1 f4) 0 1 x5) (by omega) hc_40 (show 8 * ((x5).toInt) = _ from (by omega)) hm_3 (fun q => by first | (have g32 := fx_by1 (k := ((24 - v2_3.toInt) / 8).toNat) e_x2 e_x3 (by omega) (by omega); exact fxFs.st (z := x3) fxB.pt (hs_3 q) (show (uR I_p_3 1 f4) 1 = _ from fx_uRe.trans e_f4) (by omega) (by omega) (fun k hk => by show ((uR I_p_3 1 f4) 1 _).toInt = _; rw [fx_uRe, e_f4, fx_ua rfl, show k = ((24 - v2_3.toInt) / 8).toNat by omega]; exact g32) (by omega)) | (exfalso; omega)) hq3_3 (by omega) _ _ hP hD hS ls hl
  exact L3 (((24 : Int32).toInt + 9) + 1).toNat (24 : Int32) I_p (by omega) hPI (show 8 * (((I_p 0 1)).toInt) = _ from (by omega)) rfl (fun _ => ⟨fun _ _ => rfl, fun k q => by exfalso; omega⟩) ⟨rfl, rfl⟩ (by omega) _ _ hP hD hS ls hl

set_option maxHeartbeats 4000000 in
set_option maxRecDepth 100000 in
theorem kX10_feed (l : Launch) (g : gG) (a_p : Nat → Nat) (I_p : Nat → Nat → Int32) (J_p : Nat → Nat → Int64) (ia : Int32) (ib : Int32) (ic : Int32) (idd : Int32) (ie : Int32) (hPI : PI I_p) : EffI l g yX10_feed wsX10_feed 1 [.ref (a_p 0), .int ia, .int ib, .int ic, .int idd, .int ie] (wX10 g a_p I_p J_p) (fun (u : (Nat → Nat → Int32)) => wX10 g a_p u J_p) (fun r (u : (Nat → Nat → Int32)) => PI (u) ∧ (u) 0 19 = I_p 0 19 ∧ ((880 < (I_p 0 1).toInt ∧ r = -1 ∧ (u) = I_p) ∨ ((I_p 0 1).toInt ≤ 880 ∧ r = (u) 0 1 ∧ ((u) 0 1).toInt = (I_p 0 1).toInt + 20)) ∧ ((I_p 0 1).toInt ≤ 880 → fxFd fxB (I_p 1) ((u) 1) (I_p 0 1).toInt.toNat [ia, ib, ic, idd, ie]) ∧ (u) 0 3 = I_p 0 3 ∧ (u) 0 4 = I_p 0 4) := by
  refine EffI.st (cc := cX10_feed) (maxL := 6) (by decide) rfl (Nat.le_of_ble_eq_true rfl) (fun p e s m args below meth c A Q ls fx hK hP hD hA hS hl hret => ?_)
  have hx := fx.1
  have hb := fx.2.1
  have hml := fx.2.2.1
  have hown := fx.2.2.2.1
  have hts := fx.2.2.2.2
  have hl : lv_has ls 6 [(0, .ref (a_p 0)), (1, .int ia), (2, .int ib), (3, .int ic), (4, .int idd), (5, .int ie)] := hl
  have hP : va_P g.1 vwCl (wX10 g a_p I_p J_p) s.heap := hP
  have hf_13 := hts _ (uT _ _ u_15)
  have hi_X10 : ∀ w ∈ wsX100, w.before args s = true := fun w h => hts w (uT _ w (u_wsX100 w h))
  have lm1 : (-1 : Int32).toInt = -1 := by decide
  have lm0 : (0 : Int32).toInt = 0 := by decide
  have lm2 : (1 : Int32).toInt = 1 := by decide
  have hp1 := hPI.1
  have hp2 := hPI.2.1
  refine lv_aload_n hx hb dX10_feed_0 rfl (lv_at hl 0 rfl) ?_
  refine va_get (D := g.1) (ci := 10) (v := .int (I_p 0 1)) (C := RX10) (T := TX10) (N := 20) hx hb hi_X10 (fun _ h => h) hown hK.1 hP 0 rfl rfl 1 (by decide) hf_13 (fun _ h9 => h9) rfl dX10_feed_1 ?_
  refine lv_bipush (v := 20) hx hb dX10_feed_4 (by decide) ?_
  refine r_iadd hx hb dX10_feed_6 rfl (by decide : (20 : Int32).toInt = 20) (fun x1 e_x1 t_x1 => ?_)
  try have t_x1 := t_x1 (by omega)
  refine lv_sipush (v := 900) hx hb dX10_feed_7 (by decide) ?_
  refine q_icmp_le (tgt := 15) hx hb dX10_feed_10 (by decide) rfl (by decide : (900 : Int32).toInt = 900) (fun k_10 => ?_) (fun k_10 => ?_)
  · refine lv_aload_n hx hb dX10_feed_15 rfl (lv_at hl 0 rfl) ?_
    refine lv_iload_n hx hb dX10_feed_16 rfl (lv_at hl 1 rfl) ?_
    refine EffV.cv (wr := ([])) (w' := fun u3 => wX10 g a_p u3 J_p) (As := [.int ia]) (kX10_feedInt l g a_p I_p J_p ia hPI) fx (gUV (uT _) u_337 u_338 u_339 u_2 u_340) rfl hdX10_feedInt ⟨Nat.le_of_ble_eq_true rfl, Nat.le_of_ble_eq_true rfl⟩ hK hP hD hS hA [0, 1] [] [0, 1] rfl rfl rfl rfl (by decide) rfl (fun _ => rfl) rfl rfl rfl rfl hl.1 (Nat.le_of_ble_eq_true rfl) dX10_feed_17 (fun u3 H locs p_r2 hP hD hS => ?_)
    have hP : va_P g.1 vwCl (wX10 g a_p u3 J_p) H := hP
    have hD : va_D A (wX10 g a_p u3 J_p) := hD
    refine lv_aload_n hx hb dX10_feed_20 rfl (lv_at hl 0 rfl) ?_
    refine lv_iload_n hx hb dX10_feed_21 rfl (lv_at hl 2 rfl) ?_
    refine EffV.cv (wr := ([])) (w' := fun u5 => wX10 g a_p u5 J_p) (As := [.int ib]) (kX10_feedInt l g a_p u3 J_p ib p_r2.1) fx (gUV (uT _) u_337 u_338 u_339 u_2 u_340) rfl hdX10_feedInt ⟨Nat.le_of_ble_eq_true rfl, Nat.le_of_ble_eq_true rfl⟩ hK hP hD hS hA [0, 1] [] [0, 1] rfl rfl rfl rfl (by decide) rfl (fun _ => rfl) rfl rfl rfl rfl hl.1 (Nat.le_of_ble_eq_true rfl) dX10_feed_22 (fun u5 H locs p_r4 hP hD hS => ?_)
    have hP : va_P g.1 vwCl (wX10 g a_p u5 J_p) H := hP
    have hD : va_D A (wX10 g a_p u5 J_p) := hD
    refine lv_aload_n hx hb dX10_feed_25 rfl (lv_at hl 0 rfl) ?_
    refine lv_iload_n hx hb dX10_feed_26 rfl (lv_at hl 3 rfl) ?_
    refine EffV.cv (wr := ([])) (w' := fun u7 => wX10 g a_p u7 J_p) (As := [.int ic]) (kX10_feedInt l g a_p u5 J_p ic p_r4.1) fx (gUV (uT _) u_337 u_338 u_339 u_2 u_340) rfl hdX10_feedInt ⟨Nat.le_of_ble_eq_true rfl, Nat.le_of_ble_eq_true rfl⟩ hK hP hD hS hA [0, 1] [] [0, 1] rfl rfl rfl rfl (by decide) rfl (fun _ => rfl) rfl rfl rfl rfl hl.1 (Nat.le_of_ble_eq_true rfl) dX10_feed_27 (fun u7 H locs p_r6 hP hD hS => ?_)
    have hP : va_P g.1 vwCl (wX10 g a_p u7 J_p) H := hP
    have hD : va_D A (wX10 g a_p u7 J_p) := hD
    refine lv_aload_n hx hb dX10_feed_30 rfl (lv_at hl 0 rfl) ?_
    refine lv_iload hx hb dX10_feed_31 (lv_at hl 4 rfl) ?_
    refine EffV.cv (wr := ([])) (w' := fun u9 => wX10 g a_p u9 J_p) (As := [.int idd]) (kX10_feedInt l g a_p u7 J_p idd p_r6.1) fx (gUV (uT _) u_337 u_338 u_339 u_2 u_340) rfl hdX10_feedInt ⟨Nat.le_of_ble_eq_true rfl, Nat.le_of_ble_eq_true rfl⟩ hK hP hD hS hA [0, 1] [] [0, 1] rfl rfl rfl rfl (by decide) rfl (fun _ => rfl) rfl rfl rfl rfl hl.1 (Nat.le_of_ble_eq_true rfl) dX10_feed_33 (fun u9 H locs p_r8 hP hD hS => ?_)
    have hP : va_P g.1 vwCl (wX10 g a_p u9 J_p) H := hP
    have hD : va_D A (wX10 g a_p u9 J_p) := hD
    refine lv_aload_n hx hb dX10_feed_36 rfl (lv_at hl 0 rfl) ?_
    refine lv_iload hx hb dX10_feed_37 (lv_at hl 5 rfl) ?_
    refine EffV.cv (wr := ([])) (w' := fun u11 => wX10 g a_p u11 J_p) (As := [.int ie]) (kX10_feedInt l g a_p u9 J_p ie p_r8.1) fx (gUV (uT _) u_337 u_338 u_339 u_2 u_340) rfl hdX10_feedInt ⟨Nat.le_of_ble_eq_true rfl, Nat.le_of_ble_eq_true rfl⟩ hK hP hD hS hA [0, 1] [] [0, 1] rfl rfl rfl rfl (by decide) rfl (fun _ => rfl) rfl rfl rfl rfl hl.1 (Nat.le_of_ble_eq_true rfl) dX10_feed_39 (fun u11 H locs p_r10 hP hD hS => ?_)
    have hP : va_P g.1 vwCl (wX10 g a_p u11 J_p) H := hP
    have hD : va_D A (wX10 g a_p u11 J_p) := hD
    refine lv_aload_n hx hb dX10_feed_42 rfl (lv_at hl 0 rfl) ?_
    refine va_get (D := g.1) (ci := 10) (v := .int (u11 0 1)) (C := RX10) (T := TX10) (N := 20) hx hb hi_X10 (fun _ h => h) hown hK.1 hP 0 rfl rfl 1 (by decide) hf_13 (fun _ h9 => h9) rfl dX10_feed_43 ?_
    refine hret 46 ls (u11 0 1) _ _ u11 dX10_feed_46 hS hP hD ?_
    exact ⟨p_r10.1, p_r10.2.2.1.trans (p_r8.2.2.1.trans (p_r6.2.2.1.trans (p_r4.2.2.1.trans p_r2.2.2.1))), Or.inr ⟨by omega, rfl, (by have a1 := p_r2.2.1; have a2 := p_r4.2.1; have a3 := p_r6.2.1; have a4 := p_r8.2.1; have a5 := p_r10.2.1; omega)⟩, fun q => (by have a1 := p_r2.2.1; have a2 := p_r4.2.1; have a3 := p_r6.2.1; have a4 := p_r8.2.1; have a5 := p_r10.2.1; exact fxFd.app fxB.pt (fxFd.app fxB.pt (fxFd.app fxB.pt (fxFd.app fxB.pt (p_r2.2.2.2.1 (by omega)) (p_r4.2.2.2.1 (by omega)) (by show _ = _ + 4; omega)) (p_r6.2.2.2.1 (by omega)) (by show _ = _ + 8; omega)) (p_r8.2.2.2.1 (by omega)) (by show _ = _ + 12; omega)) (p_r10.2.2.2.1 (by omega)) (by show _ = _ + 16; omega)), (p_r10.2.2.2.2.1.trans (p_r8.2.2.2.2.1.trans (p_r6.2.2.2.2.1.trans (p_r4.2.2.2.2.1.trans (p_r2.2.2.2.2.1))))), (p_r10.2.2.2.2.2.trans (p_r8.2.2.2.2.2.trans (p_r6.2.2.2.2.2.trans (p_r4.2.2.2.2.2.trans (p_r2.2.2.2.2.2)))))⟩
  · refine lv_iconst (v := -1) hx hb dX10_feed_13 (by decide) ?_
    refine hret 14 ls (-1 : Int32) _ _ I_p dX10_feed_14 hS hP hD ?_
    exact ⟨hPI, rfl, Or.inl ⟨by omega, rfl, rfl⟩, fun q => by exfalso; omega, rfl, rfl⟩
