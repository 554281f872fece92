set_option maxHeartbeats 4000000 in
set_option maxRecDepth 100000 in
theorem kX11_wrongRow (l : Launch) (g : gG) (a_m : Nat → Nat) (I_m : Nat → Nat → Int32) (J_m : Nat → Nat → Int64) (tray : Int32) (many : Int32) (least : Int32) (hM : MI I_m) : PurI l g yX11_wrongRow wsX11_wrongRow 1 [.ref (a_m 0), .int tray, .int many, .int least] (wX11 g a_m I_m J_m) (fun r => (0 ≤ r.toInt ∧ r.toInt ≤ 5 ∧ (r.toInt = 1 ∨ ((0 ≤ tray.toInt ∧ tray.toInt < 4) ∧ 1 ≤ many.toInt ∧ many.toInt ≤ 20))) ∧ ((r.toInt = 0 ∧ okRow (I_m 3) (J_m 4) tray many least.toInt) ∨ (r.toInt ≠ 0 ∧ ¬ okRow (I_m 3) (J_m 4) tray many least.toInt))) := by
  refine PurI.st (cc := cX11_wrongRow) (maxL := 5) (by decide) rfl (Nat.le_of_ble_eq_true rfl) (fun p e s m args below meth c Q ls fx hK hP hl hret => ?_)
  have hx := fx.1
  have hb := fx.2.1
  have hml := fx.2.2.1
  have hown := fx.2.2.2.1
  have hts := fx.2.2.2.2
  have hl : lv_has ls 5 [(0, .ref (a_m 0)), (1, .int tray), (2, .int many), (3, .int least)] := hl
  have hP : va_P g.1 vwCl (wX11 g a_m I_m J_m) s.heap := hP
  have hf_20 := hts _ (uT _ _ u_173)
  have hf_23 := hts _ (uT _ _ u_174)
  have hi_X11 : ∀ w ∈ wsX110, w.before args s = true := fun w h => hts w (uT _ w (u_wsX110 w h))
  have lm1 : (-1 : Int32).toInt = -1 := by decide
  have lm0 : (0 : Int32).toInt = 0 := by decide
  have lm2 : (1 : Int32).toInt = 1 := by decide
  have lq2 : (2 : Int32).toInt = 2 := by decide
  have lq3 : (3 : Int32).toInt = 3 := by decide
  have lq5 : (5 : Int32).toInt = 5 := by decide
  have lq20 : (20 : Int32).toInt = 20 := by decide
  have lq1 : (1 : Int32).toInt = 1 := by decide
  have hdz := hM.tm tray.toNatClampNeg
  have lq60 : (60 : Int32).toInt = 60 := by decide
  refine lv_iload_n hx hb dX11_wrongRow_0 rfl (lv_at hl 1 rfl) ?_
  refine PurI.cs (C := RX11) (As := [.int tray]) (kX11_isTray l g tray) fx (gUS (uT _) u_256 u_257 u_5 u_258) rfl hdX11_isTray ⟨Nat.le_of_ble_eq_true rfl, Nat.le_of_ble_eq_true rfl⟩ hK hP [] rfl rfl rfl hl.1 (Nat.le_of_ble_eq_true rfl) dX11_wrongRow_1 (fun r1 p_r1 => ?_)
  refine q_if_eq (tgt := 18) hx hb dX11_wrongRow_4 (by decide) rfl (fun b_4 k_4 => ?_) (fun b_4 k_4 => ?_)
  · have q_4 := bP.f p_r1 b_4
    refine lv_iconst (v := 1) hx hb dX11_wrongRow_18 (by decide) ?_
    have lr : (1 : Int32).toInt = 1 := by decide
    exact hret 19 ls (1 : Int32) dX11_wrongRow_19 ⟨by omega, Or.inr ⟨by omega, fun q => by have q1 := q.1; omega⟩⟩
  · have q_4 := bP.t p_r1 b_4
    refine lv_iload_n hx hb dX11_wrongRow_7 rfl (lv_at hl 2 rfl) ?_
    refine lv_iconst (v := 1) hx hb dX11_wrongRow_8 (by decide) ?_
    refine q_icmp_lt (tgt := 18) hx hb dX11_wrongRow_9 (by decide) rfl (by decide : (1 : Int32).toInt = 1) (fun k_9 => ?_) (fun k_9 => ?_)
    · refine lv_iconst (v := 1) hx hb dX11_wrongRow_18 (by decide) ?_
      have lr : (1 : Int32).toInt = 1 := by decide
      exact hret 19 ls (1 : Int32) dX11_wrongRow_19 ⟨by omega, Or.inr ⟨by omega, fun q => by have q1 := q.1; omega⟩⟩
    · refine lv_iload_n hx hb dX11_wrongRow_12 rfl (lv_at hl 2 rfl) ?_
      refine lv_bipush (v := 20) hx hb dX11_wrongRow_13 (by decide) ?_
      refine q_icmp_le (tgt := 20) hx hb dX11_wrongRow_15 (by decide) rfl (by decide : (20 : Int32).toInt = 20) (fun k_15 => ?_) (fun k_15 => ?_)
      · refine lv_aload_n hx hb dX11_wrongRow_20 rfl (lv_at hl 0 rfl) ?_
        refine va_get (D := g.1) (ci := 11) (v := .ref (a_m 3)) (C := RX11) (T := TX11) (N := 46) hx hb hi_X11 (fun _ h => h) hown hK.1 hP 0 rfl rfl 5 (by decide) hf_20 (fun _ h9 => h9) rfl dX11_wrongRow_21 ?_
        refine lv_iload_n hx hb dX11_wrongRow_24 rfl (lv_at hl 1 rfl) ?_
        have n_25 : vp_in tray 4 := (t_in (by omega))
        refine va_iald hx hb hK.1 hP 3 0 rfl rfl n_25 dX11_wrongRow_25 ?_
        refine q_nm (fun x2 e_x2 => ?_)
        have e_x2 : x2 = (I_m 3) tray.toNatClampNeg := e_x2
        have g_x2 : x2.toInt = ((I_m 3) tray.toNatClampNeg).toInt := congrArg _ e_x2
        refine lv_iconst (v := -1) hx hb dX11_wrongRow_26 (by decide) ?_
        refine q_icmp_ne (tgt := 32) hx hb dX11_wrongRow_27 (by decide) rfl (by decide : (-1 : Int32).toInt = -1) (fun k_27 => ?_) (fun k_27 => ?_)
        · refine lv_aload_n hx hb dX11_wrongRow_32 rfl (lv_at hl 0 rfl) ?_
          refine va_get (D := g.1) (ci := 11) (v := .ref (a_m 3)) (C := RX11) (T := TX11) (N := 46) hx hb hi_X11 (fun _ h => h) hown hK.1 hP 0 rfl rfl 5 (by decide) hf_20 (fun _ h9 => h9) rfl dX11_wrongRow_33 ?_
          refine lv_iload_n hx hb dX11_wrongRow_36 rfl (lv_at hl 1 rfl) ?_
          have n_37 : vp_in tray 4 := (t_in (by omega))
          refine va_iald hx hb hK.1 hP 3 0 rfl rfl n_37 dX11_wrongRow_37 ?_
          refine q_nm (fun x3 e_x3 => ?_)
          have e_x3 : x3 = (I_m 3) tray.toNatClampNeg := e_x3
          have g_x3 : x3.toInt = ((I_m 3) tray.toNatClampNeg).toInt := congrArg _ e_x3
          refine lv_iload_n hx hb dX11_wrongRow_38 rfl (lv_at hl 2 rfl) ?_
          refine q_icmp_ge (tgt := 44) hx hb dX11_wrongRow_39 (by decide) rfl rfl (fun k_39 => ?_) (fun k_39 => ?_)
          · refine lv_iconst (v := 0) hx hb dX11_wrongRow_44 (by decide) ?_
            refine lv_istore (lv' := [(4, .int (0 : Int32)), (0, .ref (a_m 0)), (1, .int tray), (2, .int many), (3, .int least)]) hx hb dX11_wrongRow_45 hl (by decide) rfl (fun ls hl => ?_)
            have L47 : ∀ (nn : Nat) (v4_47 : Int32), (hv_47 : 0 ≤ v4_47.toInt ∧ v4_47.toInt ≤ 20) → (hq_47 : ∀ k : Nat, (k : Int) < v4_47.toInt → least.toInt ≤ (J_m 4 (tray.toInt * 60 + (k : Int)).toNat).toInt ∧ (J_m 4 (tray.toInt * 60 + (k : Int)).toNat).toInt ≤ 63) → ((21 - v4_47.toInt) < (nn : Int)) → ∀ ls : Array Slot, lv_has ls 5 [(4, .int v4_47), (0, .ref (a_m 0)), (1, .int tray), (2, .int many), (3, .int least)] → W p l e (rm 1) s m args below meth c s.heap [] 0 0 Q (F0 m 47 ls []) := by
              intro n_47
              induction n_47 with
              | zero =>
                intro v4_47 hv_47 hq_47 hms_47 ls hl
                exfalso; omega
              | succ n_47 ih_47 =>
                intro v4_47 hv_47 hq_47 hms_47 ls hl
                refine lv_iload hx hb dX11_wrongRow_47 (lv_at hl 0 rfl) ?_
                refine lv_iload_n hx hb dX11_wrongRow_49 rfl (lv_at hl 3 rfl) ?_
                refine q_icmp_ge (tgt := 84) hx hb dX11_wrongRow_50 (by decide) rfl rfl (fun k_50 => ?_) (fun k_50 => ?_)
                · refine lv_iconst (v := 0) hx hb dX11_wrongRow_84 (by decide) ?_
                  exact hret 85 ls (0 : Int32) dX11_wrongRow_85 ⟨by omega, Or.inl ⟨by decide, ⟨by omega, (by show many.toInt ≤ (I_m 3 tray.toNatClampNeg).toInt; rw [← e_x3]; omega), fun k hk => hq_47 k (by omega)⟩⟩⟩
                · refine lv_aload_n hx hb dX11_wrongRow_53 rfl (lv_at hl 1 rfl) ?_
                  refine va_get (D := g.1) (ci := 11) (v := .ref (a_m 4)) (C := RX11) (T := TX11) (N := 46) hx hb hi_X11 (fun _ h => h) hown hK.1 hP 0 rfl rfl 6 (by decide) hf_23 (fun _ h9 => h9) rfl dX11_wrongRow_54 ?_
                  refine lv_bipush (v := 60) hx hb dX11_wrongRow_57 (by decide) ?_
                  refine lv_iload_n hx hb dX11_wrongRow_59 rfl (lv_at hl 2 rfl) ?_
                  refine r_imul hx hb dX11_wrongRow_60 (by decide : (60 : Int32).toInt = 60) rfl (fun x4 e_x4 t_x4 => ?_)
                  try have t_x4 := t_x4 (by omega)
                  refine lv_iload hx hb dX11_wrongRow_61 (lv_at hl 0 rfl) ?_
                  refine r_iadd hx hb dX11_wrongRow_63 rfl rfl (fun x5 e_x5 t_x5 => ?_)
                  try have t_x5 := t_x5 (by omega)
                  have n_64 : vp_in x5 240 := (t_in (by omega))
                  refine va_lald hx hb hK.1 hP 4 1 rfl rfl n_64 dX11_wrongRow_64 ?_
                  refine q_nml (fun w6 e_w6 => ?_)
                  have e_w6 : w6 = (J_m 4) x5.toNatClampNeg := e_w6
                  refine lv_iload_n hx hb dX11_wrongRow_65 rfl (lv_at hl 4 rfl) ?_
                  refine lv_i2l hx hb dX11_wrongRow_66 rfl ?_
                  refine q_nml (fun w7 e_w7 => ?_)
                  refine lv_ldc2 hx hb hown (hts _ (uT _ _ u_1249)) dX11_wrongRow_67 ?_
                  refine PurI.cs (C := RX11) (As := [.long w6, .long w7, .long (63 : Int64)]) (kX11_isFrom l g w6 w7 (63 : Int64)) fx (gUS (uT _) u_1132 u_1133 u_5 u_1134) rfl hdX11_isFrom ⟨Nat.le_of_ble_eq_true rfl, Nat.le_of_ble_eq_true rfl⟩ hK hP [] rfl rfl rfl hl.1 (Nat.le_of_ble_eq_true rfl) dX11_wrongRow_70 (fun r8 p_r8 => ?_)
                  refine q_if_ne (tgt := 78) hx hb dX11_wrongRow_73 (by decide) rfl (fun b_73 k_73 => ?_) (fun b_73 k_73 => ?_)
                  · have q_73 := bP.t p_r8 b_73
                    have i66 : (w7).toInt = least.toInt := by rw [e_w7, Int32.toInt_toInt64]
                    have i67 : ((63 : Int64)).toInt = 63 := by decide
                    refine r_iinc (lv' := fun i9 => [(4, .int i9), (0, .ref (a_m 0)), (1, .int tray), (2, .int many), (3, .int least)]) hx hb dX11_wrongRow_78 hl (k := 0) rfl (by decide) rfl (by decide) (fun _ => rfl) (fun i9 e_i9 t_i9 ls hl => ?_)
                    try have t_i9 := t_i9 (by omega)
                    refine lv_goto (tgt := 47) hx hb dX11_wrongRow_81 (by decide) ?_
                    exact ih_47 i9 (by omega) (tq_ext (P := fun k : Nat => least.toInt ≤ (J_m 4 (tray.toInt * 60 + (k : Int)).toNat).toInt ∧ (J_m 4 (tray.toInt * 60 + (k : Int)).toNat).toInt ≤ 63) hq_47 (by omega) (by omega) (by show least.toInt ≤ (J_m 4 (tray.toInt * 60 + (((v4_47.toInt.toNat : Nat) : Int) : Int)).toNat).toInt ∧ (J_m 4 (tray.toInt * 60 + (((v4_47.toInt.toNat : Nat) : Int) : Int)).toNat).toInt ≤ 63; rw [show (tray.toInt * 60 + ((v4_47.toInt.toNat : Nat) : Int)).toNat = (x5).toNatClampNeg from (by show _ = (x5).toInt.toNat; omega), ← show w6 = J_m 4 (x5).toNatClampNeg from e_w6]; rw [i66, i67] at q_73; exact q_73)) (by omega) ls hl
                  · have q_73 := bP.f p_r8 b_73
                    have i66 : (w7).toInt = least.toInt := by rw [e_w7, Int32.toInt_toInt64]
                    have i67 : ((63 : Int64)).toInt = 63 := by decide
                    refine lv_iconst (v := 5) hx hb dX11_wrongRow_76 (by decide) ?_
                    have lr : (5 : Int32).toInt = 5 := by decide
                    exact hret 77 ls (5 : Int32) dX11_wrongRow_77 ⟨by omega, Or.inr ⟨by omega, fun q => q_73 (by have w := q.2.2 v4_47.toInt.toNat (by omega); rw [show (tray.toInt * 60 + ((v4_47.toInt.toNat : Nat) : Int)).toNat = (x5).toNatClampNeg from (by show _ = (x5).toInt.toNat; omega), ← show w6 = J_m 4 (x5).toNatClampNeg from e_w6] at w; rw [i66, i67]; exact w)⟩⟩
            exact L47 ((21 - (0 : Int32).toInt) + 1).toNat (0 : Int32) (by omega) (fun k q => by rw [lm0] at q; exfalso; omega) (by omega) ls hl
          · refine lv_iconst (v := 3) hx hb dX11_wrongRow_42 (by decide) ?_
            have lr : (3 : Int32).toInt = 3 := by decide
            exact hret 43 ls (3 : Int32) dX11_wrongRow_43 ⟨by omega, Or.inr ⟨by omega, fun q => by have q2 : many.toInt ≤ (I_m 3 tray.toNatClampNeg).toInt := q.2.1; rw [← e_x3] at q2; omega⟩⟩
        · refine lv_iconst (v := 2) hx hb dX11_wrongRow_30 (by decide) ?_
          have lr : (2 : Int32).toInt = 2 := by decide
          exact hret 31 ls (2 : Int32) dX11_wrongRow_31 ⟨by omega, Or.inr ⟨by omega, fun q => by have q1 := q.1; have q2 : many.toInt ≤ (I_m 3 tray.toNatClampNeg).toInt := q.2.1; rw [← e_x2] at q2; omega⟩⟩
      · refine lv_iconst (v := 1) hx hb dX11_wrongRow_18 (by decide) ?_
        have lr : (1 : Int32).toInt = 1 := by decide
        exact hret 19 ls (1 : Int32) dX11_wrongRow_19 ⟨by omega, Or.inr ⟨by omega, fun q => by have q1 := q.1; omega⟩⟩

set_option maxHeartbeats 4000000 in
set_option maxRecDepth 100000 in
theorem kX11_laysRow (l : Launch) (g : gG) (a_m : Nat → Nat) (I_m : Nat → Nat → Int32) (J_m : Nat → Nat → Int64) (tray : Int32) (many : Int32) (hM : MI I_m) (h_t : 0 ≤ tray.toInt ∧ tray.toInt < 4) (h_m : 0 ≤ many.toInt ∧ many.toInt ≤ 20) : EffV l g yX11_laysRow wsX11_laysRow 0 [.ref (a_m 0), .int tray, .int many] (wX11 g a_m I_m J_m) (fun (u : (Nat → Nat → Int32)) => wX11 g a_m u J_m) (fun (u : (Nat → Nat → Int32)) => KK [14, 15] [] I_m (u) ∧ rowP (J_m 4) tray.toInt (-1 : Int32).toInt ((u) 14) ((u) 15) many.toInt) := by
  refine EffV.st (cc := cX11_laysRow) (maxL := 4) (by decide) rfl (Nat.le_of_ble_eq_true rfl) (fun p e s m args below meth c A Q ls fx hK hP hD hA hS hl hret => ?_)
  have hx := fx.1
  have hb := fx.2.1
  have hml := fx.2.2.1
  have hown := fx.2.2.2.1
  have hts := fx.2.2.2.2
  have hl : lv_has ls 4 [(0, .ref (a_m 0)), (1, .int tray), (2, .int many)] := hl
  have hP : va_P g.1 vwCl (wX11 g a_m I_m J_m) s.heap := hP
  have hf_23 := hts _ (uT _ _ u_174)
  have hf_62 := hts _ (uT _ _ u_187)
  have hf_65 := hts _ (uT _ _ u_188)
  have hi_X11 : ∀ w ∈ wsX110, w.before args s = true := fun w h => hts w (uT _ w (u_wsX110 w h))
  have lm1 : (-1 : Int32).toInt = -1 := by decide
  have lm0 : (0 : Int32).toInt = 0 := by decide
  have lm2 : (1 : Int32).toInt = 1 := by decide
  have lq1 : (1 : Int32).toInt = 1 := by decide
  have lq60 : (60 : Int32).toInt = 60 := by decide
  refine lv_iconst (v := 0) hx hb dX11_laysRow_0 (by decide) ?_
  refine lv_istore_n (lv' := [(3, .int (0 : Int32)), (0, .ref (a_m 0)), (1, .int tray), (2, .int many)]) hx hb dX11_laysRow_1 rfl hl (by decide) rfl (fun ls hl => ?_)
  have L2 : ∀ (nn : Nat) (v3_2 : Int32) (I_m_2 : Nat → Nat → Int32), (hM_2 : MI I_m_2) → (hk_2 : KK [14, 15] [] I_m I_m_2) → (hv_2 : 0 ≤ v3_2.toInt ∧ v3_2.toInt ≤ 20) → (hrp_2 : rowP (J_m 4) tray.toInt (-1 : Int32).toInt (I_m_2 14) (I_m_2 15) v3_2.toInt) → ((21 - v3_2.toInt) < (nn : Int)) → ∀ (H : Heap) (locs : List Loc), va_P g.1 vwCl (wX11 g a_m I_m_2 J_m) H → va_D A (wX11 g a_m I_m_2 J_m) → va_S A s.heap H locs → ∀ ls : Array Slot, lv_has ls 4 [(3, .int v3_2), (0, .ref (a_m 0)), (1, .int tray), (2, .int many)] → W p l e (rm 0) s m args below meth c H locs 0 0 Q (F0 m 2 ls []) := by
    intro n_2
    induction n_2 with
    | zero =>
      intro v3_2 I_m_2 hM_2 hk_2 hv_2 hrp_2 hms_2 H locs hP hD hS ls hl
      exfalso; omega
    | succ n_2 ih_2 =>
      intro v3_2 I_m_2 hM_2 hk_2 hv_2 hrp_2 hms_2 H locs hP hD hS ls hl
      refine lv_iload_n hx hb dX11_laysRow_2 rfl (lv_at hl 0 rfl) ?_
      refine lv_iload_n hx hb dX11_laysRow_3 rfl (lv_at hl 3 rfl) ?_
      refine q_icmp_ge (tgt := 38) hx hb dX11_laysRow_4 (by decide) rfl rfl (fun k_4 => ?_) (fun k_4 => ?_)
      · refine hret 38 ls _ _ I_m_2 dX11_laysRow_38 hS hP hD ?_
        exact ⟨hk_2, (by intro k hk; exact hrp_2 k (by omega))⟩
      · refine lv_aload_n hx hb dX11_laysRow_7 rfl (lv_at hl 1 rfl) ?_
        refine va_get (D := g.1) (ci := 11) (v := .ref (a_m 14)) (C := RX11) (T := TX11) (N := 46) hx hb hi_X11 (fun _ h => h) hown hK.1 hP 0 rfl rfl 32 (by decide) hf_62 (fun _ h9 => h9) rfl dX11_laysRow_8 ?_
        refine lv_iload_n hx hb dX11_laysRow_11 rfl (lv_at hl 0 rfl) ?_
        refine lv_aload_n hx hb dX11_laysRow_12 rfl (lv_at hl 1 rfl) ?_
        refine va_get (D := g.1) (ci := 11) (v := .ref (a_m 4)) (C := RX11) (T := TX11) (N := 46) hx hb hi_X11 (fun _ h => h) hown hK.1 hP 0 rfl rfl 6 (by decide) hf_23 (fun _ h9 => h9) rfl dX11_laysRow_13 ?_
        refine lv_bipush (v := 60) hx hb dX11_laysRow_16 (by decide) ?_
        refine lv_iload_n hx hb dX11_laysRow_18 rfl (lv_at hl 2 rfl) ?_
        refine r_imul hx hb dX11_laysRow_19 (by decide : (60 : Int32).toInt = 60) rfl (fun x1 e_x1 t_x1 => ?_)
        try have t_x1 := t_x1 (by omega)
        refine lv_iload_n hx hb dX11_laysRow_20 rfl (lv_at hl 0 rfl) ?_
        refine r_iadd hx hb dX11_laysRow_21 rfl rfl (fun x2 e_x2 t_x2 => ?_)
        try have t_x2 := t_x2 (by omega)
        have n_22 : vp_in x2 240 := (t_in (by omega))
        refine va_lald hx hb hK.1 hP 4 1 rfl rfl n_22 dX11_laysRow_22 ?_
        refine q_nml (fun w3 e_w3 => ?_)
        have e_w3 : w3 = (J_m 4) x2.toNatClampNeg := e_w3
        refine lv_l2i hx hb dX11_laysRow_23 rfl ?_
        refine q_nm (fun x4 e_x4 => ?_)
        have n_24 : vp_in v3_2 20 := (t_in (by omega))
        obtain ⟨f5, e_f5⟩ : ∃ z, z = upd (I_m_2 14) v3_2.toNatClampNeg x4 := ⟨_, rfl⟩
        refine va_iast hx hb hK.1 hP hD hS 14 0 rfl rfl n_24 dX11_laysRow_24 (fun H locs hP hD hS => ?_)
        have hP : va_P g.1 vwCl (wX11 g a_m (uR I_m_2 14 f5) J_m) H := by rw [e_f5]; exact hP
        have hD : va_D A (wX11 g a_m (uR I_m_2 14 f5) J_m) := by rw [e_f5]; exact hD
        have hc_24 : MI (uR I_m_2 14 f5) := MI.ur hM_2 (by decide)
        have hk_24 : KK [14, 15] [] I_m (uR I_m_2 14 f5) := KK.ur hk_2 (by decide) (by decide)
        refine lv_aload_n hx hb dX11_laysRow_25 rfl (lv_at hl 1 rfl) ?_
        refine va_get (D := g.1) (ci := 11) (v := .ref (a_m 15)) (C := RX11) (T := TX11) (N := 46) hx hb hi_X11 (fun _ h => h) hown hK.1 hP 0 rfl rfl 33 (by decide) hf_65 (fun _ h9 => h9) rfl dX11_laysRow_26 ?_
        refine lv_iload_n hx hb dX11_laysRow_29 rfl (lv_at hl 0 rfl) ?_
        refine lv_iconst (v := 0) hx hb dX11_laysRow_30 (by decide) ?_
        have n_31 : vp_in v3_2 20 := (t_in (by omega))
        obtain ⟨f6, e_f6⟩ : ∃ z, z = upd (I_m_2 15) v3_2.toNatClampNeg (0 : Int32) := ⟨_, rfl⟩
        refine va_iast hx hb hK.1 hP hD hS 15 0 rfl rfl n_31 dX11_laysRow_31 (fun H locs hP hD hS => ?_)
        have hP : va_P g.1 vwCl (wX11 g a_m (uR (uR I_m_2 14 f5) 15 f6) J_m) H := by rw [e_f6]; exact hP
        have hD : va_D A (wX11 g a_m (uR (uR I_m_2 14 f5) 15 f6) J_m) := by rw [e_f6]; exact hD
        have hc_31 : MI (uR (uR I_m_2 14 f5) 15 f6) := MI.ur hc_24 (by decide)
        have hk_31 : KK [14, 15] [] I_m (uR (uR I_m_2 14 f5) 15 f6) := KK.ur hk_24 (by decide) (by decide)
        refine r_iinc (lv' := fun i7 => [(3, .int i7), (0, .ref (a_m 0)), (1, .int tray), (2, .int many)]) hx hb dX11_laysRow_32 hl (k := 0) rfl (by decide) rfl (by decide) (fun _ => rfl) (fun i7 e_i7 t_i7 ls hl => ?_)
        try have t_i7 := t_i7 (by omega)
        refine lv_goto (tgt := 2) hx hb dX11_laysRow_35 (by decide) ?_
        exact ih_2 i7 (uR (uR I_m_2 14 f5) 15 f6) hc_31 hk_31 (by omega) (rowP.st hrp_2 (R' := (uR (uR I_m_2 14 f5) 15 f6) 14) (Z' := (uR (uR I_m_2 14 f5) 15 f6) 15) (by show f5 = _; exact e_f5) (by show f6 = _; exact e_f6) rfl (by omega) (by omega) (by rw [e_x4, e_w3, show (x2).toNatClampNeg = (tray.toInt * 60 + v3_2.toInt).toNat from (by show (x2).toInt.toNat = _; omega)]) (by rw [if_pos lm1])) (by omega) _ _ hP hD hS ls hl
  exact L2 ((21 - (0 : Int32).toInt) + 1).toNat (0 : Int32) I_m hM (KK.rf I_m) (by omega) (rowP.zero (by omega)) (by omega) _ _ hP hD hS ls hl

set_option maxHeartbeats 4000000 in
set_option maxRecDepth 100000 in
theorem kX11_reads (l : Launch) (g : gG) (a_m : Nat → Nat) (I_m : Nat → Nat → Int32) (J_m : Nat → Nat → Int64) (rule : Int32) (ia : Int32) (many : Int32) (hM : MI I_m) (h_rule : 0 ≤ rule.toInt ∧ rule.toInt < 24) (h_p : 0 ≤ ia.toInt ∧ ia.toInt ≤ 20 ∧ many.toInt ≤ 20) : PurI l g yX11_reads wsX11_reads 2 [.ref (a_m 0), .int rule, .int ia, .int many] (wX11 g a_m I_m J_m) (fun r => bP (RD I_m rule ia.toInt many.toInt) (¬ RD I_m rule ia.toInt many.toInt) r) := by
  refine PurI.sz (cc := cX11_reads) (maxL := 5) (by decide) rfl (Nat.le_of_ble_eq_true rfl) (fun p e s m args below meth c Q ls fx hK hP hl hret => ?_)
  have hx := fx.1
  have hb := fx.2.1
  have hml := fx.2.2.1
  have hown := fx.2.2.2.1
  have hts := fx.2.2.2.2
  have hl : lv_has ls 5 [(0, .ref (a_m 0)), (1, .int rule), (2, .int ia), (3, .int many)] := hl
  have hP : va_P g.1 vwCl (wX11 g a_m I_m J_m) s.heap := hP
  have hf_7 := hts _ (uT _ _ u_170)
  have hf_62 := hts _ (uT _ _ u_187)
  have hf_65 := hts _ (uT _ _ u_188)
  have hi_X11 : ∀ w ∈ wsX110, w.before args s = true := fun w h => hts w (uT _ w (u_wsX110 w h))
  have lm1 : (-1 : Int32).toInt = -1 := by decide
  have lm0 : (0 : Int32).toInt = 0 := by decide
  have lm2 : (1 : Int32).toInt = 1 := by decide
  have lq6 : (6 : Int32).toInt = 6 := by decide
  have lq11 : (11 : Int32).toInt = 11 := by decide
  have lq1 : (1 : Int32).toInt = 1 := by decide
  refine lv_aload_n hx hb dX11_reads_0 rfl (lv_at hl 0 rfl) ?_
  refine va_get (D := g.1) (ci := 11) (v := .ref (a_m 1)) (C := RX11) (T := TX11) (N := 46) hx hb hi_X11 (fun _ h => h) hown hK.1 hP 0 rfl rfl 0 (by decide) hf_7 (fun _ h9 => h9) rfl dX11_reads_1 ?_
  refine lv_bipush (v := 6) hx hb dX11_reads_4 (by decide) ?_
  have n_6 : vp_in (6 : Int32) 19800 := (t_in (by decide))
  refine va_iald hx hb hK.1 hP 1 0 rfl rfl n_6 dX11_reads_6 ?_
  refine q_nm (fun x1 e_x1 => ?_)
  have e_x1 : x1 = (I_m 1) 6 := e_x1
  have g_x1 : x1.toInt = ((I_m 1) 6).toInt := congrArg _ e_x1
  refine lv_iload_n hx hb dX11_reads_7 rfl (lv_at hl 1 rfl) ?_
  refine PurI.cs (C := RX11) (As := [.int x1, .int rule]) (kX11_isOut l g x1 rule) fx (gUS (uT _) u_740 u_741 u_5 u_742) rfl hdX11_isOut ⟨Nat.le_of_ble_eq_true rfl, Nat.le_of_ble_eq_true rfl⟩ hK hP [] rfl rfl rfl hl.1 (Nat.le_of_ble_eq_true rfl) dX11_reads_8 (fun r2 p_r2 => ?_)
  refine q_if_ne (tgt := 25) hx hb dX11_reads_11 (by decide) rfl (fun b_11 k_11 => ?_) (fun b_11 k_11 => ?_)
  · have q_11 := bP.t p_r2 b_11
    refine lv_iconst (v := 0) hx hb dX11_reads_25 (by decide) ?_
    exact hret 26 ls (0 : Int32) dX11_reads_26 (Or.inl rfl) (by first | exact Or.inr ⟨rfl, fun q => q.1 (by rw [← e_x1]; exact q_11)⟩ | exact Or.inr ⟨rfl, fun q => by have w := q.2.1; omega⟩)
  · have q_11 := bP.f p_r2 b_11
    refine lv_iload_n hx hb dX11_reads_14 rfl (lv_at hl 2 rfl) ?_
    refine lv_aload_n hx hb dX11_reads_15 rfl (lv_at hl 0 rfl) ?_
    refine lv_iload_n hx hb dX11_reads_16 rfl (lv_at hl 1 rfl) ?_
    refine PurI.cv (As := [.int rule]) (kX11_cellsOf l g a_m I_m J_m rule hM (by omega)) fx (gUV (uT _) u_826 u_827 u_828 u_5 u_829) rfl hdX11_cellsOf ⟨Nat.le_of_ble_eq_true rfl, Nat.le_of_ble_eq_true rfl⟩ hK hP [0, 1, 2, 3, 4, 5, 6, 7, 8, 9, 10, 11, 12, 13, 14, 15, 16, 17, 18, 19, 20, 21, 22] rfl rfl rfl rfl rfl hl.1 (Nat.le_of_ble_eq_true rfl) dX11_reads_17 (fun r3 p_r3 => ?_)
    have hc17 := p_r3
    refine r_iadd hx hb dX11_reads_20 rfl rfl (fun x4 e_x4 t_x4 => ?_)
    try have t_x4 := t_x4 (by omega)
    refine lv_iload_n hx hb dX11_reads_21 rfl (lv_at hl 3 rfl) ?_
    refine q_icmp_le (tgt := 27) hx hb dX11_reads_22 (by decide) rfl rfl (fun k_22 => ?_) (fun k_22 => ?_)
    · refine lv_iconst (v := 0) hx hb dX11_reads_27 (by decide) ?_
      refine lv_istore (lv' := [(4, .int (0 : Int32)), (0, .ref (a_m 0)), (1, .int rule), (2, .int ia), (3, .int many)]) hx hb dX11_reads_28 hl (by decide) rfl (fun ls hl => ?_)
      have L30 : ∀ (nn : Nat) (v4_30 : Int32), (hv_30 : 0 ≤ v4_30.toInt ∧ v4_30.toInt ≤ 3) → (hr_30 : ∀ k : Nat, (k : Int) < v4_30.toInt → RB I_m rule ia.toInt k) → ((4 - v4_30.toInt) < (nn : Int)) → ∀ ls : Array Slot, lv_has ls 5 [(4, .int v4_30), (0, .ref (a_m 0)), (1, .int rule), (2, .int ia), (3, .int many)] → W p l e (rm 2) s m args below meth c s.heap [] 0 0 Q (F0 m 30 ls []) := by
        intro n_30
        induction n_30 with
        | zero =>
          intro v4_30 hv_30 hr_30 hms_30 ls hl
          exfalso; omega
        | succ n_30 ih_30 =>
          intro v4_30 hv_30 hr_30 hms_30 ls hl
          refine lv_iload hx hb dX11_reads_30 (lv_at hl 0 rfl) ?_
          refine lv_aload_n hx hb dX11_reads_32 rfl (lv_at hl 1 rfl) ?_
          refine lv_iload_n hx hb dX11_reads_33 rfl (lv_at hl 2 rfl) ?_
          refine PurI.cv (As := [.int rule]) (kX11_cellsOf l g a_m I_m J_m rule hM (by omega)) fx (gUV (uT _) u_826 u_827 u_828 u_5 u_829) rfl hdX11_cellsOf ⟨Nat.le_of_ble_eq_true rfl, Nat.le_of_ble_eq_true rfl⟩ hK hP [0, 1, 2, 3, 4, 5, 6, 7, 8, 9, 10, 11, 12, 13, 14, 15, 16, 17, 18, 19, 20, 21, 22] rfl rfl rfl rfl rfl hl.1 (Nat.le_of_ble_eq_true rfl) dX11_reads_34 (fun r5 p_r5 => ?_)
          have hc34 := p_r5
          refine q_icmp_ge (tgt := 80) hx hb dX11_reads_37 (by decide) rfl rfl (fun k_37 => ?_) (fun k_37 => ?_)
          · refine lv_aload_n hx hb dX11_reads_80 rfl (lv_at hl 1 rfl) ?_
            refine va_get (D := g.1) (ci := 11) (v := .ref (a_m 1)) (C := RX11) (T := TX11) (N := 46) hx hb hi_X11 (fun _ h => h) hown hK.1 hP 0 rfl rfl 0 (by decide) hf_7 (fun _ h9 => h9) rfl dX11_reads_81 ?_
            refine lv_iconst (v := 0) hx hb dX11_reads_84 (by decide) ?_
            refine lv_iload_n hx hb dX11_reads_85 rfl (lv_at hl 2 rfl) ?_
            refine PurI.cs (C := RX11) (As := [.int (0 : Int32), .int rule]) (kX11_ruleAt l g (0 : Int32) rule (by omega) (by omega)) fx (gUS (uT _) u_554 u_555 u_5 u_556) rfl hdX11_ruleAt ⟨Nat.le_of_ble_eq_true rfl, Nat.le_of_ble_eq_true rfl⟩ hK hP [] rfl rfl rfl hl.1 (Nat.le_of_ble_eq_true rfl) dX11_reads_86 (fun r6 p_r6 => ?_)
            refine lv_bipush (v := 11) hx hb dX11_reads_89 (by decide) ?_
            refine r_iadd hx hb dX11_reads_91 rfl (by decide : (11 : Int32).toInt = 11) (fun x7 e_x7 t_x7 => ?_)
            try have t_x7 := t_x7 (by omega)
            have n_92 : vp_in x7 19800 := (t_in (by omega))
            refine va_iald hx hb hK.1 hP 1 0 rfl rfl n_92 dX11_reads_92 ?_
            refine q_nm (fun x8 e_x8 => ?_)
            have e_x8 : x8 = (I_m 1) x7.toNatClampNeg := e_x8
            have g_x8 : x8.toInt = ((I_m 1) x7.toNatClampNeg).toInt := congrArg _ e_x8
            have m_x8 : x8 = I_m 1 (12 * rule.toInt.toNat + 23) := at_ix e_x8 (by omega)
            refine lv_iload_n hx hb dX11_reads_93 rfl (lv_at hl 3 rfl) ?_
            refine q_if_ne (tgt := 101) hx hb dX11_reads_94 (by decide) rfl (fun b_94 k_94 => ?_) (fun b_94 k_94 => ?_)
            · refine lv_iconst (v := 0) hx hb dX11_reads_101 (by decide) ?_
              refine lv_iload_n hx hb dX11_reads_102 rfl (lv_at hl 3 rfl) ?_
              refine lv_aload_n hx hb dX11_reads_103 rfl (lv_at hl 1 rfl) ?_
              refine lv_iload_n hx hb dX11_reads_104 rfl (lv_at hl 2 rfl) ?_
              refine PurI.cv (As := [.int rule]) (kX11_cellsOf l g a_m I_m J_m rule hM (by omega)) fx (gUV (uT _) u_826 u_827 u_828 u_5 u_829) rfl hdX11_cellsOf ⟨Nat.le_of_ble_eq_true rfl, Nat.le_of_ble_eq_true rfl⟩ hK hP [0, 1, 2, 3, 4, 5, 6, 7, 8, 9, 10, 11, 12, 13, 14, 15, 16, 17, 18, 19, 20, 21, 22] rfl rfl rfl rfl rfl hl.1 (Nat.le_of_ble_eq_true rfl) dX11_reads_105 (fun r9 p_r9 => ?_)
              have hc105 := p_r9
              refine r_iadd hx hb dX11_reads_108 rfl rfl (fun x10 e_x10 t_x10 => ?_)
              try have t_x10 := t_x10 (by omega)
              refine lv_iload_n hx hb dX11_reads_109 rfl (lv_at hl 4 rfl) ?_
              refine q_icmp_ne (tgt := 117) hx hb dX11_reads_110 (by decide) rfl rfl (fun k_110 => ?_) (fun k_110 => ?_)
              · refine lv_iconst (v := 0) hx hb dX11_reads_117 (by decide) ?_
                refine PurI.cs (C := RX11) (As := [.int x8, .int (0 : Int32), .int (0 : Int32)]) (kX11_holds l g x8 (0 : Int32) (0 : Int32)) fx (gUS (uT _) u_750 u_751 u_5 u_752) rfl hdX11_holds ⟨Nat.le_of_ble_eq_true rfl, Nat.le_of_ble_eq_true rfl⟩ hK hP [] rfl rfl rfl hl.1 (Nat.le_of_ble_eq_true rfl) dX11_reads_118 (fun r11 p_r11 => ?_)
                exact hret 121 ls r11 dX11_reads_121 (bP.z p_r11) (bP.imp p_r11 (fun q => ⟨by rw [← e_x1]; exact q_11, by omega, fun k hk => hr_30 k (by omega), by rw [← m_x8]; exact hoQ.of q (by omega) (by omega)⟩) (fun q w => q (by have u := w.2.2.2; rw [← m_x8] at u; exact u.to (by omega) (by omega))))
              · refine lv_iconst (v := 1) hx hb dX11_reads_113 (by decide) ?_
                refine lv_goto (tgt := 118) hx hb dX11_reads_114 (by decide) ?_
                refine PurI.cs (C := RX11) (As := [.int x8, .int (0 : Int32), .int (1 : Int32)]) (kX11_holds l g x8 (0 : Int32) (1 : Int32)) fx (gUS (uT _) u_750 u_751 u_5 u_752) rfl hdX11_holds ⟨Nat.le_of_ble_eq_true rfl, Nat.le_of_ble_eq_true rfl⟩ hK hP [] rfl rfl rfl hl.1 (Nat.le_of_ble_eq_true rfl) dX11_reads_118 (fun r12 p_r12 => ?_)
                exact hret 121 ls r12 dX11_reads_121 (bP.z p_r12) (bP.imp p_r12 (fun q => ⟨by rw [← e_x1]; exact q_11, by omega, fun k hk => hr_30 k (by omega), by rw [← m_x8]; exact hoQ.of q (by omega) (by omega)⟩) (fun q w => q (by have u := w.2.2.2; rw [← m_x8] at u; exact u.to (by omega) (by omega))))
            · refine lv_iconst (v := 1) hx hb dX11_reads_97 (by decide) ?_
              refine lv_goto (tgt := 102) hx hb dX11_reads_98 (by decide) ?_
              refine lv_iload_n hx hb dX11_reads_102 rfl (lv_at hl 3 rfl) ?_
              refine lv_aload_n hx hb dX11_reads_103 rfl (lv_at hl 1 rfl) ?_
              refine lv_iload_n hx hb dX11_reads_104 rfl (lv_at hl 2 rfl) ?_
              refine PurI.cv (As := [.int rule]) (kX11_cellsOf l g a_m I_m J_m rule hM (by omega)) fx (gUV (uT _) u_826 u_827 u_828 u_5 u_829) rfl hdX11_cellsOf ⟨Nat.le_of_ble_eq_true rfl, Nat.le_of_ble_eq_true rfl⟩ hK hP [0, 1, 2, 3, 4, 5, 6, 7, 8, 9, 10, 11, 12, 13, 14, 15, 16, 17, 18, 19, 20, 21, 22] rfl rfl rfl rfl rfl hl.1 (Nat.le_of_ble_eq_true rfl) dX11_reads_105 (fun r13 p_r13 => ?_)
              have hc105 := p_r13
              refine r_iadd hx hb dX11_reads_108 rfl rfl (fun x14 e_x14 t_x14 => ?_)
              try have t_x14 := t_x14 (by omega)
              refine lv_iload_n hx hb dX11_reads_109 rfl (lv_at hl 4 rfl) ?_
              refine q_icmp_ne (tgt := 117) hx hb dX11_reads_110 (by decide) rfl rfl (fun k_110 => ?_) (fun k_110 => ?_)
              · refine lv_iconst (v := 0) hx hb dX11_reads_117 (by decide) ?_
                refine PurI.cs (C := RX11) (As := [.int x8, .int (1 : Int32), .int (0 : Int32)]) (kX11_holds l g x8 (1 : Int32) (0 : Int32)) fx (gUS (uT _) u_750 u_751 u_5 u_752) rfl hdX11_holds ⟨Nat.le_of_ble_eq_true rfl, Nat.le_of_ble_eq_true rfl⟩ hK hP [] rfl rfl rfl hl.1 (Nat.le_of_ble_eq_true rfl) dX11_reads_118 (fun r15 p_r15 => ?_)
                exact hret 121 ls r15 dX11_reads_121 (bP.z p_r15) (bP.imp p_r15 (fun q => ⟨by rw [← e_x1]; exact q_11, by omega, fun k hk => hr_30 k (by omega), by rw [← m_x8]; exact hoQ.of q (by omega) (by omega)⟩) (fun q w => q (by have u := w.2.2.2; rw [← m_x8] at u; exact u.to (by omega) (by omega))))
              · refine lv_iconst (v := 1) hx hb dX11_reads_113 (by decide) ?_
                refine lv_goto (tgt := 118) hx hb dX11_reads_114 (by decide) ?_
                refine PurI.cs (C := RX11) (As := [.int x8, .int (1 : Int32), .int (1 : Int32)]) (kX11_holds l g x8 (1 : Int32) (1 : Int32)) fx (gUS (uT _) u_750 u_751 u_5 u_752) rfl hdX11_holds ⟨Nat.le_of_ble_eq_true rfl, Nat.le_of_ble_eq_true rfl⟩ hK hP [] rfl rfl rfl hl.1 (Nat.le_of_ble_eq_true rfl) dX11_reads_118 (fun r16 p_r16 => ?_)
                exact hret 121 ls r16 dX11_reads_121 (bP.z p_r16) (bP.imp p_r16 (fun q => ⟨by rw [← e_x1]; exact q_11, by omega, fun k hk => hr_30 k (by omega), by rw [← m_x8]; exact hoQ.of q (by omega) (by omega)⟩) (fun q w => q (by have u := w.2.2.2; rw [← m_x8] at u; exact u.to (by omega) (by omega))))
          · refine lv_aload_n hx hb dX11_reads_40 rfl (lv_at hl 1 rfl) ?_
            refine lv_iload_n hx hb dX11_reads_41 rfl (lv_at hl 2 rfl) ?_
            refine lv_iload hx hb dX11_reads_42 (lv_at hl 0 rfl) ?_
            refine PurI.cv (As := [.int rule, .int v4_30]) (kX11_cellAt l g a_m I_m J_m rule v4_30 hM (by omega) (by omega)) fx (gUV (uT _) u_830 u_831 u_832 u_5 u_833) rfl hdX11_cellAt ⟨Nat.le_of_ble_eq_true rfl, Nat.le_of_ble_eq_true rfl⟩ hK hP [0, 1, 2, 3, 4, 5, 6, 7, 8, 9, 10, 11, 12, 13, 14, 15, 16, 17, 18, 19, 20, 21, 22] rfl rfl rfl rfl rfl hl.1 (Nat.le_of_ble_eq_true rfl) dX11_reads_44 (fun r17 p_r17 => ?_)
            refine lv_aload_n hx hb dX11_reads_47 rfl (lv_at hl 1 rfl) ?_
            refine va_get (D := g.1) (ci := 11) (v := .ref (a_m 14)) (C := RX11) (T := TX11) (N := 46) hx hb hi_X11 (fun _ h => h) hown hK.1 hP 0 rfl rfl 32 (by decide) hf_62 (fun _ h9 => h9) rfl dX11_reads_48 ?_
            refine lv_iload_n hx hb dX11_reads_51 rfl (lv_at hl 3 rfl) ?_
            refine lv_iload hx hb dX11_reads_52 (lv_at hl 0 rfl) ?_
            refine r_iadd hx hb dX11_reads_54 rfl rfl (fun x18 e_x18 t_x18 => ?_)
            try have t_x18 := t_x18 (by omega)
            have n_55 : vp_in x18 20 := (t_in (by omega))
            refine va_iald hx hb hK.1 hP 14 0 rfl rfl n_55 dX11_reads_55 ?_
            refine q_nm (fun x19 e_x19 => ?_)
            have e_x19 : x19 = (I_m 14) x18.toNatClampNeg := e_x19
            have g_x19 : x19.toInt = ((I_m 14) x18.toNatClampNeg).toInt := congrArg _ e_x19
            refine lv_ixor hx hb dX11_reads_56 ?_
            refine q_nm (fun x20 e_x20 => ?_)
            refine lv_aload_n hx hb dX11_reads_57 rfl (lv_at hl 1 rfl) ?_
            refine va_get (D := g.1) (ci := 11) (v := .ref (a_m 15)) (C := RX11) (T := TX11) (N := 46) hx hb hi_X11 (fun _ h => h) hown hK.1 hP 0 rfl rfl 33 (by decide) hf_65 (fun _ h9 => h9) rfl dX11_reads_58 ?_
            refine lv_iload_n hx hb dX11_reads_61 rfl (lv_at hl 3 rfl) ?_
            refine lv_iload hx hb dX11_reads_62 (lv_at hl 0 rfl) ?_
            refine r_iadd hx hb dX11_reads_64 rfl rfl (fun x21 e_x21 t_x21 => ?_)
            try have t_x21 := t_x21 (by omega)
            have n_65 : vp_in x21 20 := (t_in (by omega))
            refine va_iald hx hb hK.1 hP 15 0 rfl rfl n_65 dX11_reads_65 ?_
            refine q_nm (fun x22 e_x22 => ?_)
            have e_x22 : x22 = (I_m 15) x21.toNatClampNeg := e_x22
            have g_x22 : x22.toInt = ((I_m 15) x21.toNatClampNeg).toInt := congrArg _ e_x22
            refine lv_iconst (v := -1) hx hb dX11_reads_66 (by decide) ?_
            refine lv_ixor hx hb dX11_reads_67 ?_
            refine q_nm (fun x23 e_x23 => ?_)
            refine lv_iand hx hb dX11_reads_68 ?_
            refine q_nm (fun x24 e_x24 => ?_)
            have hb68 : (RB I_m rule ia.toInt (v4_30).toInt.toNat) = (x24 = 0) := by unfold RB; rw [e_x24, e_x20, e_x23, p_r17.2, at_ix (k := ia.toInt.toNat + (v4_30).toInt.toNat) e_x19 (by omega), at_ix (k := ia.toInt.toNat + (v4_30).toInt.toNat) e_x22 (by omega)]
            refine q_if_eq (tgt := 74) hx hb dX11_reads_69 (by decide) rfl (fun b_69 k_69 => ?_) (fun b_69 k_69 => ?_)
            · refine r_iinc (lv' := fun i25 => [(4, .int i25), (0, .ref (a_m 0)), (1, .int rule), (2, .int ia), (3, .int many)]) hx hb dX11_reads_74 hl (k := 0) rfl (by decide) rfl (by decide) (fun _ => rfl) (fun i25 e_i25 t_i25 ls hl => ?_)
              try have t_i25 := t_i25 (by omega)
              refine lv_goto (tgt := 30) hx hb dX11_reads_77 (by decide) ?_
              exact ih_30 i25 (by omega) (fun k q => by by_cases w : (k : Int) < v4_30.toInt; exact hr_30 k w; rw [show k = v4_30.toInt.toNat by omega, hb68]; exact b_69) (by omega) ls hl
            · refine lv_iconst (v := 0) hx hb dX11_reads_72 (by decide) ?_
              exact hret 73 ls (0 : Int32) dX11_reads_73 (Or.inl rfl) (Or.inr ⟨rfl, fun q => b_69 (by rw [← hb68]; exact q.2.2.1 _ (by omega))⟩)
      exact L30 ((4 - (0 : Int32).toInt) + 1).toNat (0 : Int32) (by omega) (fun k q => by exfalso; omega) (by omega) ls hl
    · refine lv_iconst (v := 0) hx hb dX11_reads_25 (by decide) ?_
      exact hret 26 ls (0 : Int32) dX11_reads_26 (Or.inl rfl) (by first | exact Or.inr ⟨rfl, fun q => q.1 (by rw [← e_x1]; exact q_11)⟩ | exact Or.inr ⟨rfl, fun q => by have w := q.2.1; omega⟩)

set_option maxHeartbeats 4000000 in
set_option maxRecDepth 100000 in
theorem kX11_countsWays (l : Launch) (g : gG) (a_m : Nat → Nat) (I_m : Nat → Nat → Int32) (J_m : Nat → Nat → Int64) (many : Int32) (hM : MI I_m) (h_m : 1 ≤ many.toInt ∧ many.toInt ≤ 20) : EffI l g yX11_countsWays wsX11_countsWays 3 [.ref (a_m 0), .int many] (wX11 g a_m I_m J_m) (fun (u : (Nat → Nat → Int32)) => wX11 g a_m u J_m) (fun r (u : (Nat → Nat → Int32)) => KK [16] [] I_m (u) ∧ r = (u) 16 0 ∧ WW (u) many.toInt ∧ cntM (I_m 1) (I_m 14) (I_m 15) ((u) 16) many) := by
  refine EffI.st (cc := cX11_countsWays) (maxL := 5) (by decide) rfl (Nat.le_of_ble_eq_true rfl) (fun p e s m args below meth c A Q ls fx hK hP hD hA hS hl hret => ?_)
  have hx := fx.1
  have hb := fx.2.1
  have hml := fx.2.2.1
  have hown := fx.2.2.2.1
  have hts := fx.2.2.2.2
  have hl : lv_has ls 5 [(0, .ref (a_m 0)), (1, .int many)] := hl
  have hP : va_P g.1 vwCl (wX11 g a_m I_m J_m) s.heap := hP
  have hf_7 := hts _ (uT _ _ u_170)
  have hf_68 := hts _ (uT _ _ u_189)
  have hi_X11 : ∀ w ∈ wsX110, w.before args s = true := fun w h => hts w (uT _ w (u_wsX110 w h))
  have hc_372 := hts _ (uT _ _ u_1353)
  have lm1 : (-1 : Int32).toInt = -1 := by decide
  have lm0 : (0 : Int32).toInt = 0 := by decide
  have lm2 : (1 : Int32).toInt = 1 := by decide
  have lq1 : (1 : Int32).toInt = 1 := by decide
  have hmn := hM.many rfl
  refine lv_aload_n hx hb dX11_countsWays_0 rfl (lv_at hl 0 rfl) ?_
  refine va_get (D := g.1) (ci := 11) (v := .ref (a_m 16)) (C := RX11) (T := TX11) (N := 46) hx hb hi_X11 (fun _ h => h) hown hK.1 hP 0 rfl rfl 34 (by decide) hf_68 (fun _ h9 => h9) rfl dX11_countsWays_1 ?_
  refine lv_iload_n hx hb dX11_countsWays_4 rfl (lv_at hl 1 rfl) ?_
  refine lv_iconst (v := 1) hx hb dX11_countsWays_5 (by decide) ?_
  have n_6 : vp_in many 21 := (t_in (by omega))
  obtain ⟨f1, e_f1⟩ : ∃ z, z = upd (I_m 16) many.toNatClampNeg (1 : Int32) := ⟨_, rfl⟩
  refine va_iast hx hb hK.1 hP hD hS 16 0 rfl rfl n_6 dX11_countsWays_6 (fun H locs hP hD hS => ?_)
  have hP : va_P g.1 vwCl (wX11 g a_m (uR I_m 16 f1) J_m) H := by rw [e_f1]; exact hP
  have hD : va_D A (wX11 g a_m (uR I_m 16 f1) J_m) := by rw [e_f1]; exact hD
  have hc_6 : MI (uR I_m 16 f1) := MI.ur hM (by decide)
  have hk_6 : KK [16] [] I_m (uR I_m 16 f1) := KK.ur (KK.rf I_m) (by decide) (by decide)
  refine lv_iload_n hx hb dX11_countsWays_7 rfl (lv_at hl 1 rfl) ?_
  refine lv_iconst (v := 1) hx hb dX11_countsWays_8 (by decide) ?_
  refine r_isub hx hb dX11_countsWays_9 rfl (by decide : (1 : Int32).toInt = 1) (fun x2 e_x2 t_x2 => ?_)
  try have t_x2 := t_x2 (by omega)
  refine lv_istore_n (lv' := [(2, .int x2), (0, .ref (a_m 0)), (1, .int many)]) hx hb dX11_countsWays_10 rfl hl (by decide) rfl (fun ls hl => ?_)
  have L11 : ∀ (nn : Nat) (v2_11 : Int32) (I_m_11 : Nat → Nat → Int32), (hM_11 : MI I_m_11) → (hk_11 : KK [16] [] I_m I_m_11) → (hv_11 : -1 ≤ v2_11.toInt ∧ v2_11.toInt < many.toInt) → (hb_11 : ∀ j : Int, v2_11.toInt < j → j ≤ many.toInt → 0 ≤ (I_m_11 16 j.toNat).toInt ∧ (I_m_11 16 j.toNat).toInt ≤ 999999) → (hww_11 : ∀ p : Int, v2_11.toInt < p → p < many.toInt → (I_m_11 16 p.toNat).toInt ≠ 0 → ∃ r, WX I_m_11 p many.toInt r) → (hwy_11 : wyP (I_m 1 0).toInt.toNat many.toInt.toNat (okM (I_m 1) (I_m 14) (I_m 15) many.toInt.toNat) (mN (I_m 1)) (fun j => (I_m_11 16 j).toInt) (v2_11.toInt + 1).toNat) → ((v2_11.toInt + 2) < (nn : Int)) → ∀ (H : Heap) (locs : List Loc), va_P g.1 vwCl (wX11 g a_m I_m_11 J_m) H → va_D A (wX11 g a_m I_m_11 J_m) → va_S A s.heap H locs → ∀ ls : Array Slot, lv_has ls 5 [(2, .int v2_11), (0, .ref (a_m 0)), (1, .int many)] → W p l e (rm 3) s m args below meth c H locs 0 0 Q (F0 m 11 ls []) := by
    intro n_11
    induction n_11 with
    | zero =>
      intro v2_11 I_m_11 hM_11 hk_11 hv_11 hb_11 hww_11 hwy_11 hms_11 H locs hP hD hS ls hl
      exfalso; omega
    | succ n_11 ih_11 =>
      intro v2_11 I_m_11 hM_11 hk_11 hv_11 hb_11 hww_11 hwy_11 hms_11 H locs hP hD hS ls hl
      have hmn11 := hM_11.many rfl
      refine lv_iload_n hx hb dX11_countsWays_11 rfl (lv_at hl 0 rfl) ?_
      refine q_if_lt (tgt := 83) hx hb dX11_countsWays_12 (by decide) rfl (fun k_12 => ?_) (fun k_12 => ?_)
      · refine lv_aload_n hx hb dX11_countsWays_83 rfl (lv_at hl 1 rfl) ?_
        refine va_get (D := g.1) (ci := 11) (v := .ref (a_m 16)) (C := RX11) (T := TX11) (N := 46) hx hb hi_X11 (fun _ h => h) hown hK.1 hP 0 rfl rfl 34 (by decide) hf_68 (fun _ h9 => h9) rfl dX11_countsWays_84 ?_
        refine lv_iconst (v := 0) hx hb dX11_countsWays_87 (by decide) ?_
        have n_88 : vp_in (0 : Int32) 21 := (t_in (by decide))
        refine va_iald hx hb hK.1 hP 16 0 rfl rfl n_88 dX11_countsWays_88 ?_
        refine q_nm (fun x3 e_x3 => ?_)
        have e_x3 : x3 = (I_m_11 16) 0 := e_x3
        have g_x3 : x3.toInt = ((I_m_11 16) 0).toInt := congrArg _ e_x3
        refine hret 89 ls x3 _ _ I_m_11 dX11_countsWays_89 hS hP hD ?_
        exact ⟨hk_11, ⟨e_x3, fun p h0 h1 h2 => hww_11 p (by omega) h1 h2, by have w := hwy_11; rw [show (v2_11.toInt + 1).toNat = 0 by omega] at w; exact w⟩⟩
      · refine lv_iconst (v := 0) hx hb dX11_countsWays_15 (by decide) ?_
        refine lv_istore_n (lv' := [(3, .int (0 : Int32)), (2, .int v2_11), (0, .ref (a_m 0)), (1, .int many)]) hx hb dX11_countsWays_16 rfl hl (by decide) rfl (fun ls hl => ?_)
        refine lv_iconst (v := 0) hx hb dX11_countsWays_17 (by decide) ?_
        refine lv_istore (lv' := [(4, .int (0 : Int32)), (3, .int (0 : Int32)), (2, .int v2_11), (0, .ref (a_m 0)), (1, .int many)]) hx hb dX11_countsWays_18 hl (by decide) rfl (fun ls hl => ?_)
        have L20 : ∀ (nn : Nat) (v3_20 : Int32) (v4_20 : Int32), (hu_20 : 0 ≤ v4_20.toInt ∧ v4_20.toInt ≤ 24 ∧ v4_20.toInt ≤ (I_m_11 1 0).toInt ∧ 0 ≤ v3_20.toInt ∧ v3_20.toInt ≤ 999999) → (hx_20 : v3_20.toInt ≠ 0 → ∃ r, WX I_m_11 v2_11.toInt many.toInt r) → (hws_20 : wsR (fun r => okM (I_m 1) (I_m 14) (I_m 15) many.toInt.toNat r v2_11.toInt.toNat) (fun r => (I_m_11 16 (v2_11.toInt.toNat + mN (I_m 1) r)).toInt) v4_20.toInt.toNat v3_20.toInt) → ((25 - v4_20.toInt) < (nn : Int)) → ∀ (H : Heap) (locs : List Loc), va_P g.1 vwCl (wX11 g a_m I_m_11 J_m) H → va_D A (wX11 g a_m I_m_11 J_m) → va_S A s.heap H locs → ∀ ls : Array Slot, lv_has ls 5 [(4, .int v4_20), (3, .int v3_20), (2, .int v2_11), (0, .ref (a_m 0)), (1, .int many)] → W p l e (rm 3) s m args below meth c H locs 0 0 Q (F0 m 20 ls []) := by
          intro n_20
          induction n_20 with
          | zero =>
            intro v3_20 v4_20 hu_20 hx_20 hws_20 hms_20 H locs hP hD hS ls hl
            exfalso; omega
          | succ n_20 ih_20 =>
            intro v3_20 v4_20 hu_20 hx_20 hws_20 hms_20 H locs hP hD hS ls hl
            have hmn20 := hM_11.many rfl
            refine lv_iload hx hb dX11_countsWays_20 (lv_at hl 0 rfl) ?_
            refine lv_aload_n hx hb dX11_countsWays_22 rfl (lv_at hl 3 rfl) ?_
            refine va_get (D := g.1) (ci := 11) (v := .ref (a_m 1)) (C := RX11) (T := TX11) (N := 46) hx hb hi_X11 (fun _ h => h) hown hK.1 hP 0 rfl rfl 0 (by decide) hf_7 (fun _ h9 => h9) rfl dX11_countsWays_23 ?_
            refine lv_iconst (v := 0) hx hb dX11_countsWays_26 (by decide) ?_
            have n_27 : vp_in (0 : Int32) 19800 := (t_in (by decide))
            refine va_iald hx hb hK.1 hP 1 0 rfl rfl n_27 dX11_countsWays_27 ?_
            refine q_nm (fun x4 e_x4 => ?_)
            have e_x4 : x4 = (I_m_11 1) 0 := e_x4
            have g_x4 : x4.toInt = ((I_m_11 1) 0).toInt := congrArg _ e_x4
            have f_x4 := MI.many hM_11 e_x4
            refine q_icmp_ge (tgt := 70) hx hb dX11_countsWays_28 (by decide) rfl rfl (fun k_28 => ?_) (fun k_28 => ?_)
            · refine lv_aload_n hx hb dX11_countsWays_70 rfl (lv_at hl 3 rfl) ?_
              refine va_get (D := g.1) (ci := 11) (v := .ref (a_m 16)) (C := RX11) (T := TX11) (N := 46) hx hb hi_X11 (fun _ h => h) hown hK.1 hP 0 rfl rfl 34 (by decide) hf_68 (fun _ h9 => h9) rfl dX11_countsWays_71 ?_
              refine lv_iload_n hx hb dX11_countsWays_74 rfl (lv_at hl 2 rfl) ?_
              refine lv_iload_n hx hb dX11_countsWays_75 rfl (lv_at hl 1 rfl) ?_
              have n_76 : vp_in v2_11 21 := (t_in (by omega))
              obtain ⟨f5, e_f5⟩ : ∃ z, z = upd (I_m_11 16) v2_11.toNatClampNeg v3_20 := ⟨_, rfl⟩
              refine va_iast hx hb hK.1 hP hD hS 16 0 rfl rfl n_76 dX11_countsWays_76 (fun H locs hP hD hS => ?_)
              have hP : va_P g.1 vwCl (wX11 g a_m (uR I_m_11 16 f5) J_m) H := by rw [e_f5]; exact hP
              have hD : va_D A (wX11 g a_m (uR I_m_11 16 f5) J_m) := by rw [e_f5]; exact hD
              have hc_76 : MI (uR I_m_11 16 f5) := MI.ur hM_11 (by decide)
              have hk_76 : KK [16] [] I_m (uR I_m_11 16 f5) := KK.ur hk_11 (by decide) (by decide)
              refine r_iinc (lv' := fun i6 => [(2, .int i6), (4, .int v4_20), (3, .int v3_20), (0, .ref (a_m 0)), (1, .int many)]) hx hb dX11_countsWays_77 hl (k := 2) rfl (by decide) rfl (by decide) (fun _ => rfl) (fun i6 e_i6 t_i6 ls hl => ?_)
              try have t_i6 := t_i6 (by omega)
              refine lv_goto (tgt := 11) hx hb dX11_countsWays_80 (by decide) ?_
              exact ih_11 i6 (uR I_m_11 16 f5) hc_76 hk_76 (by omega) (fun j q1 q2 => wb_st (m := many.toInt) (q := v2_11.toInt) hb_11 (by omega) e_f5 rfl (by omega) j (by omega) q2) (fun p q1 q2 q3 => WW.st (m := many.toInt) (q := v2_11.toInt) hM_11 hww_11 hx_20 e_f5 rfl (by omega) p (by omega) q2 q3) (wyP.up hwy_11 (fun r hr => hM.mN hr) (show _ = upd (I_m_11 16) _ _ from e_f5) rfl (by omega) (by omega) (by rw [← show v4_20.toInt.toNat = (I_m 1 0).toInt.toNat by rw [show I_m 1 = I_m_11 1 from (hk_11.row 1 (by decide)).symm]; omega]; exact hws_20)) (by omega) _ _ hP hD hS ls (lv_sub hl [0, 3, 4] rfl)
            · refine lv_aload_n hx hb dX11_countsWays_31 rfl (lv_at hl 3 rfl) ?_
              refine lv_iload hx hb dX11_countsWays_32 (lv_at hl 0 rfl) ?_
              refine lv_iload_n hx hb dX11_countsWays_34 rfl (lv_at hl 2 rfl) ?_
              refine lv_iload_n hx hb dX11_countsWays_35 rfl (lv_at hl 4 rfl) ?_
              have rif36 := (RD.iff (I := I_m_11) (rule := (v4_20)) (p := (v2_11).toInt) (many := many.toInt) (by omega) (by omega) (by omega) (TS.cc (hM_11).t0 (x := nI (12 * (v4_20).toInt.toNat + 19)) (r := (v4_20).toInt) (by rw [nI_clamp (by omega)]) (by omega) (by rw [nI_toInt (by omega)]; omega)).1)
              rw [show I_m_11 1 = I_m 1 from hk_11.row 1 (by decide), show I_m_11 14 = I_m 14 from hk_11.row 14 (by decide), show I_m_11 15 = I_m 15 from hk_11.row 15 (by decide)] at rif36
              refine PurI.cv (As := [.int v4_20, .int v2_11, .int many]) (kX11_reads l g a_m I_m_11 J_m v4_20 v2_11 many hM_11 (by omega) (by omega)) fx (gUV (uT _) u_1354 u_1355 u_1356 u_5 u_1357) rfl hdX11_reads ⟨Nat.le_of_ble_eq_true rfl, Nat.le_of_ble_eq_true rfl⟩ hK hP [0, 1, 2, 3, 4, 5, 6, 7, 8, 9, 10, 11, 12, 13, 14, 15, 16, 17, 18, 19, 20, 21, 22] rfl rfl rfl rfl rfl hl.1 (Nat.le_of_ble_eq_true rfl) dX11_countsWays_36 (fun r7 p_r7 => ?_)
              refine q_if_eq (tgt := 64) hx hb dX11_countsWays_39 (by decide) rfl (fun b_39 k_39 => ?_) (fun b_39 k_39 => ?_)
              · have q_39 := bP.f p_r7 b_39
                have o39 := fun w => q_39 (rif36.2 w)
                refine r_iinc (lv' := fun i8 => [(4, .int i8), (3, .int v3_20), (2, .int v2_11), (0, .ref (a_m 0)), (1, .int many)]) hx hb dX11_countsWays_64 hl (k := 0) rfl (by decide) rfl (by decide) (fun _ => rfl) (fun i8 e_i8 t_i8 ls hl => ?_)
                try have t_i8 := t_i8 (by omega)
                refine lv_goto (tgt := 20) hx hb dX11_countsWays_67 (by decide) ?_
                exact ih_20 v3_20 i8 (by omega) (by exact hx_20) (by rw [show (i8).toInt.toNat = v4_20.toInt.toNat + 1 by omega]; exact wsR.no hws_20 o39 rfl) (by omega) _ _ hP hD hS ls hl
              · have q_39 := bP.t p_r7 b_39
                have hl39 : (v2_11).toInt + (I_m_11 1 (12 * (v4_20).toInt.toNat + 19)).toInt ≤ many.toInt := q_39.2.1
                have o39 := rif36.1 q_39
                refine lv_ldcw hx hb hown hc_372 dX11_countsWays_42 ?_
                refine lv_iload_n hx hb dX11_countsWays_45 rfl (lv_at hl 1 rfl) ?_
                refine lv_aload_n hx hb dX11_countsWays_46 rfl (lv_at hl 3 rfl) ?_
                refine va_get (D := g.1) (ci := 11) (v := .ref (a_m 16)) (C := RX11) (T := TX11) (N := 46) hx hb hi_X11 (fun _ h => h) hown hK.1 hP 0 rfl rfl 34 (by decide) hf_68 (fun _ h9 => h9) rfl dX11_countsWays_47 ?_
                refine lv_iload_n hx hb dX11_countsWays_50 rfl (lv_at hl 2 rfl) ?_
                refine lv_aload_n hx hb dX11_countsWays_51 rfl (lv_at hl 3 rfl) ?_
                refine lv_iload hx hb dX11_countsWays_52 (lv_at hl 0 rfl) ?_
                refine PurI.cv (As := [.int v4_20]) (kX11_cellsOf l g a_m I_m_11 J_m v4_20 hM_11 (by omega)) fx (gUV (uT _) u_826 u_827 u_828 u_5 u_829) rfl hdX11_cellsOf ⟨Nat.le_of_ble_eq_true rfl, Nat.le_of_ble_eq_true rfl⟩ hK hP [0, 1, 2, 3, 4, 5, 6, 7, 8, 9, 10, 11, 12, 13, 14, 15, 16, 17, 18, 19, 20, 21, 22] rfl rfl rfl rfl rfl hl.1 (Nat.le_of_ble_eq_true rfl) dX11_countsWays_54 (fun r9 p_r9 => ?_)
                have hc54 := p_r9
                refine r_iadd hx hb dX11_countsWays_57 rfl rfl (fun x10 e_x10 t_x10 => ?_)
                try have t_x10 := t_x10 (by omega)
                have n_58 : vp_in x10 21 := (t_in (by omega))
                refine va_iald hx hb hK.1 hP 16 0 rfl rfl n_58 dX11_countsWays_58 ?_
                refine q_nm (fun x11 e_x11 => ?_)
                have e_x11 : x11 = (I_m_11 16) x10.toNatClampNeg := e_x11
                have g_x11 : x11.toInt = ((I_m_11 16) x10.toNatClampNeg).toInt := congrArg _ e_x11
                have m_x11 : x11 = I_m_11 16 ((v2_11).toInt + (I_m_11 1 (12 * (v4_20).toInt.toNat + 19)).toInt).toNat := at_ix e_x11 (by omega)
                have f_x11 := hb_11 ((v2_11).toInt + (I_m_11 1 (12 * (v4_20).toInt.toNat + 19)).toInt) (by omega) (by omega)
                rw [← m_x11] at f_x11
                have k58 : v2_11.toInt.toNat + mN (I_m 1) (v4_20).toInt.toNat = (v2_11.toInt + (I_m_11 1 (12 * (v4_20).toInt.toNat + 19)).toInt).toNat := by show v2_11.toInt.toNat + (I_m 1 (12 * (v4_20).toInt.toNat + 19)).toInt.toNat = _; rw [show I_m_11 1 = I_m 1 from hk_11.row 1 (by decide)] at hc54 ⊢; omega
                refine r_iadd hx hb dX11_countsWays_59 rfl rfl (fun x12 e_x12 t_x12 => ?_)
                try have t_x12 := t_x12 (by omega)
                refine va_mmin hx hb (hml.trans hl.1.symm) hown (hts _ (uT _ _ u_522)) (hts _ (uT _ _ u_523)) (hts _ (uT _ _ u_524)) (hts _ (uT _ _ u_525)) (Nat.le_of_ble_eq_true rfl) (Nat.le_of_ble_eq_true rfl) (Nat.zero_le _) (Nat.zero_le _) dX11_countsWays_60 ?_
                refine q_nm (fun x13 e_x13 => ?_)
                have t_x13 := t_min e_x13 (by decide : (999999 : Int32).toInt = 999999) rfl
                refine lv_istore_n (lv' := [(3, .int x13), (4, .int v4_20), (2, .int v2_11), (0, .ref (a_m 0)), (1, .int many)]) hx hb dX11_countsWays_63 rfl hl (by decide) rfl (fun ls hl => ?_)
                refine r_iinc (lv' := fun i14 => [(4, .int i14), (3, .int x13), (2, .int v2_11), (0, .ref (a_m 0)), (1, .int many)]) hx hb dX11_countsWays_64 hl (k := 1) rfl (by decide) rfl (by decide) (fun _ => rfl) (fun i14 e_i14 t_i14 ls hl => ?_)
                try have t_i14 := t_i14 (by omega)
                refine lv_goto (tgt := 20) hx hb dX11_countsWays_67 (by decide) ?_
                exact ih_20 x13 i14 (by omega) (by first | exact fun q => (by by_cases w0 : v3_20.toInt = 0; exact ⟨v4_20, ⟨by omega, by omega⟩, q_39, by rw [← m_x11]; omega⟩; exact hx_20 w0) | exact hx_20) (by rw [show (i14).toInt.toNat = v4_20.toInt.toNat + 1 by omega]; first | exact wsR.yes hws_20 o39 (by show _ = min 999999 (_ + (I_m_11 16 (v2_11.toInt.toNat + mN (I_m 1) v4_20.toInt.toNat)).toInt); rw [k58, ← m_x11]; omega) | exact wsR.no hws_20 o39 rfl) (by omega) _ _ hP hD hS ls hl
        exact L20 ((25 - (0 : Int32).toInt) + 1).toNat (0 : Int32) (0 : Int32) (by omega) (fun q => by exfalso; omega) (by rw [lm0]; rfl) (by omega) _ _ hP hD hS ls hl
  exact L11 ((x2.toInt + 2) + 1).toNat x2 (uR I_m 16 f1) hc_6 hk_6 (by omega) (fun j q1 q2 => by show 0 ≤ (f1 j.toNat).toInt ∧ (f1 j.toNat).toInt ≤ 999999; rw [e_f1, upd_at (by show _ = many.toInt.toNat; omega)]; omega) (fun p q1 q2 => by exfalso; omega) ⟨(by show (f1 many.toInt.toNat).toInt = 1; rw [e_f1, upd_at (show many.toInt.toNat = many.toNatClampNeg from rfl)]; exact lm2), fun p h1 h2 => by exfalso; omega⟩ (by omega) _ _ hP hD hS ls hl

set_option maxHeartbeats 4000000 in
set_option maxRecDepth 100000 in
theorem kX11_ways (l : Launch) (g : gG) (a_m : Nat → Nat) (I_m : Nat → Nat → Int32) (J_m : Nat → Nat → Int64) (tray : Int32) (many : Int32) (hM : MI I_m) : EffI l g yX11_ways wsX11_ways 4 [.ref (a_m 0), .int tray, .int many] (wX11 g a_m I_m J_m) (fun (u : (Nat → Nat → Int32)) => wX11 g a_m u J_m) (fun r (u : (Nat → Nat → Int32)) => KK [14, 15, 16] [1] I_m (u) ∧ ((¬ okRow (I_m 3) (J_m 4) tray many 1 ∧ r = -1) ∨ (okRow (I_m 3) (J_m 4) tray many 1 ∧ r = (u) 16 0 ∧ rowP (J_m 4) tray.toInt (-1 : Int32).toInt ((u) 14) ((u) 15) many.toInt ∧ cntM (I_m 1) ((u) 14) ((u) 15) ((u) 16) many))) := by
  refine EffI.st (cc := cX11_ways) (maxL := 4) (by decide) rfl (Nat.le_of_ble_eq_true rfl) (fun p e s m args below meth c A Q ls fx hK hP hD hA hS hl hret => ?_)
  have hx := fx.1
  have hb := fx.2.1
  have hml := fx.2.2.1
  have hown := fx.2.2.2.1
  have hts := fx.2.2.2.2
  have hl : lv_has ls 4 [(0, .ref (a_m 0)), (1, .int tray), (2, .int many)] := hl
  have hP : va_P g.1 vwCl (wX11 g a_m I_m J_m) s.heap := hP
  have lm1 : (-1 : Int32).toInt = -1 := by decide
  have lm0 : (0 : Int32).toInt = 0 := by decide
  have lm2 : (1 : Int32).toInt = 1 := by decide
  have lq1 : (1 : Int32).toInt = 1 := by decide
  refine lv_aload_n hx hb dX11_ways_0 rfl (lv_at hl 0 rfl) ?_
  refine lv_iload_n hx hb dX11_ways_1 rfl (lv_at hl 1 rfl) ?_
  refine lv_iload_n hx hb dX11_ways_2 rfl (lv_at hl 2 rfl) ?_
  refine lv_iconst (v := 1) hx hb dX11_ways_3 (by decide) ?_
  refine PurI.cv (As := [.int tray, .int many, .int (1 : Int32)]) (kX11_wrongRow l g a_m I_m J_m tray many (1 : Int32) hM) fx (gUV (uT _) u_1341 u_1342 u_1343 u_5 u_1344) rfl hdX11_wrongRow ⟨Nat.le_of_ble_eq_true rfl, Nat.le_of_ble_eq_true rfl⟩ hK hP [0, 1, 2, 3, 4, 5, 6, 7, 8, 9, 10, 11, 12, 13, 14, 15, 16, 17, 18, 19, 20, 21, 22] rfl rfl rfl rfl rfl hl.1 (Nat.le_of_ble_eq_true rfl) dX11_ways_4 (fun r1 p_r1 => ?_)
  have hw4 := p_r1.1
  refine lv_istore_n (lv' := [(3, .int r1), (0, .ref (a_m 0)), (1, .int tray), (2, .int many)]) hx hb dX11_ways_7 rfl hl (by decide) rfl (fun ls hl => ?_)
  refine lv_iload_n hx hb dX11_ways_8 rfl (lv_at hl 0 rfl) ?_
  refine q_if_le (tgt := 18) hx hb dX11_ways_9 (by decide) rfl (fun k_9 => ?_) (fun k_9 => ?_)
  · refine lv_aload_n hx hb dX11_ways_18 rfl (lv_at hl 1 rfl) ?_
    refine lv_iload_n hx hb dX11_ways_19 rfl (lv_at hl 2 rfl) ?_
    refine lv_iload_n hx hb dX11_ways_20 rfl (lv_at hl 3 rfl) ?_
    refine EffV.cv (wr := ([])) (w' := fun u3 => wX11 g a_m u3 J_m) (As := [.int tray, .int many]) (kX11_laysRow l g a_m I_m J_m tray many hM (by omega) (by omega)) fx (gUV (uT _) u_1345 u_1346 u_1347 u_5 u_1348) rfl hdX11_laysRow ⟨Nat.le_of_ble_eq_true rfl, Nat.le_of_ble_eq_true rfl⟩ hK hP hD hS hA [0, 1, 2, 3, 4, 5, 6, 7, 8, 9, 10, 11, 12, 13, 14, 15, 16, 17, 18, 19, 20, 21, 22] [] [0, 1, 2, 3, 4, 5, 6, 7, 8, 9, 10, 11, 12, 13, 14, 15, 16, 17, 18, 19, 20, 21, 22] rfl rfl rfl rfl (by decide) rfl (fun _ => rfl) rfl rfl rfl rfl hl.1 (Nat.le_of_ble_eq_true rfl) dX11_ways_21 (fun u3 H locs p_r2 hP hD hS => ?_)
    have hP : va_P g.1 vwCl (wX11 g a_m u3 J_m) H := hP
    have hD : va_D A (wX11 g a_m u3 J_m) := hD
    refine lv_aload_n hx hb dX11_ways_24 rfl (lv_at hl 1 rfl) ?_
    refine lv_aload_n hx hb dX11_ways_25 rfl (lv_at hl 1 rfl) ?_
    refine lv_iload_n hx hb dX11_ways_26 rfl (lv_at hl 3 rfl) ?_
    refine EffI.cv (wr := ([])) (w' := fun u5 => wX11 g a_m u5 J_m) (As := [.int many]) (kX11_countsWays l g a_m u3 J_m many (MI.kk hM p_r2.1 (by decide) (by decide)) (by omega)) fx (gUV (uT _) u_1349 u_1350 u_1351 u_5 u_1352) rfl hdX11_countsWays ⟨Nat.le_of_ble_eq_true rfl, Nat.le_of_ble_eq_true rfl⟩ hK hP hD hS hA [0, 1, 2, 3, 4, 5, 6, 7, 8, 9, 10, 11, 12, 13, 14, 15, 16, 17, 18, 19, 20, 21, 22] [] [0, 1, 2, 3, 4, 5, 6, 7, 8, 9, 10, 11, 12, 13, 14, 15, 16, 17, 18, 19, 20, 21, 22] rfl rfl rfl rfl (by decide) rfl (fun _ => rfl) rfl rfl rfl rfl hl.1 (Nat.le_of_ble_eq_true rfl) dX11_ways_27 (fun r4 u5 H locs p_r4 hP hD hS => ?_)
    have hP : va_P g.1 vwCl (wX11 g a_m u5 J_m) H := hP
    have hD : va_D A (wX11 g a_m u5 J_m) := hD
    refine EffI.cv (wr := ([])) (w' := fun u7 => wX11 g a_m u7 J_m) (As := [.int r4]) (kX11_gives l g a_m u5 J_m r4) fx (gUV (uT _) u_585 u_586 u_587 u_5 u_588) rfl hdX11_gives ⟨Nat.le_of_ble_eq_true rfl, Nat.le_of_ble_eq_true rfl⟩ hK hP hD hS hA [0, 1, 2, 3, 4, 5, 6, 7, 8, 9, 10, 11, 12, 13, 14, 15, 16, 17, 18, 19, 20, 21, 22] [] [0, 1, 2, 3, 4, 5, 6, 7, 8, 9, 10, 11, 12, 13, 14, 15, 16, 17, 18, 19, 20, 21, 22] rfl rfl rfl rfl (by decide) rfl (fun _ => rfl) rfl rfl rfl rfl hl.1 (Nat.le_of_ble_eq_true rfl) dX11_ways_30 (fun r6 u7 H locs p_r6 hP hD hS => ?_)
    have hP : va_P g.1 vwCl (wX11 g a_m u7 J_m) H := hP
    have hD : va_D A (wX11 g a_m u7 J_m) := hD
    refine hret 33 ls r6 _ _ u7 dX11_ways_33 hS hP hD ?_
    exact ⟨(KK.st (KK.tr (KK.tr (KK.rf I_m) p_r2.1 (by decide) (by decide)) p_r4.1 (by decide) (by decide)) p_r6.2 (by decide)), Or.inr ⟨(by have w9 := (p_r1.2.resolve_right (fun q => by have := q.1; omega)).2; rw [lm2] at w9; exact w9), p_r6.1.trans (p_r4.2.1.trans (congrFun (ST.row p_r6.2 16 (by decide)) 0).symm), rowP.of p_r2.2 ((ST.row p_r6.2 14 (by decide)).trans (p_r4.1.row 14 (by decide))) ((ST.row p_r6.2 15 (by decide)).trans (p_r4.1.row 15 (by decide))), cntM.of p_r4.2.2.2 (p_r2.1.row 1 (by decide)).symm ((ST.row p_r6.2 14 (by decide)).trans (p_r4.1.row 14 (by decide))) ((ST.row p_r6.2 15 (by decide)).trans (p_r4.1.row 15 (by decide))) (ST.row p_r6.2 16 (by decide))⟩⟩
  · refine lv_aload_n hx hb dX11_ways_12 rfl (lv_at hl 1 rfl) ?_
    refine lv_iload_n hx hb dX11_ways_13 rfl (lv_at hl 0 rfl) ?_
    refine EffI.cv (wr := ([])) (w' := fun u9 => wX11 g a_m u9 J_m) (As := [.int r1]) (kX11_refuse l g a_m I_m J_m r1) fx (gUV (uT _) u_536 u_537 u_538 u_5 u_539) rfl hdX11_refuse ⟨Nat.le_of_ble_eq_true rfl, Nat.le_of_ble_eq_true rfl⟩ hK hP hD hS hA [0, 1, 2, 3, 4, 5, 6, 7, 8, 9, 10, 11, 12, 13, 14, 15, 16, 17, 18, 19, 20, 21, 22] [] [0, 1, 2, 3, 4, 5, 6, 7, 8, 9, 10, 11, 12, 13, 14, 15, 16, 17, 18, 19, 20, 21, 22] rfl rfl rfl rfl (by decide) rfl (fun _ => rfl) rfl rfl rfl rfl hl.1 (Nat.le_of_ble_eq_true rfl) dX11_ways_14 (fun r8 u9 H locs p_r8 hP hD hS => ?_)
    have hP : va_P g.1 vwCl (wX11 g a_m u9 J_m) H := hP
    have hD : va_D A (wX11 g a_m u9 J_m) := hD
    refine hret 17 ls r8 _ _ u9 dX11_ways_17 hS hP hD ?_
    exact ⟨(KK.st (KK.rf I_m) p_r8.2 (by decide)), Or.inl ⟨(by have w9 := (p_r1.2.resolve_left (fun q => by have := q.1; omega)).2; rw [lm2] at w9; exact w9), p_r8.1⟩⟩

set_option maxHeartbeats 4000000 in
set_option maxRecDepth 100000 in
theorem kX11_first (l : Launch) (g : gG) (a_m : Nat → Nat) (I_m : Nat → Nat → Int32) (J_m : Nat → Nat → Int64) (tray : Int32) (many : Int32) (hM : MI I_m) : EffI l g yX11_first wsX11_first 4 [.ref (a_m 0), .int tray, .int many] (wX11 g a_m I_m J_m) (fun (u : (Nat → Nat → Int32)) => wX11 g a_m u J_m) (fun r (u : (Nat → Nat → Int32)) => MI (u) ∧ KK [14, 15, 16, 17] [1, 36, 37] I_m (u) ∧ ((r = -1 ∧ ((u) 17 = I_m 17 ∧ (u) 0 36 = I_m 0 36 ∧ (u) 0 37 = I_m 0 37) ∧ (¬ okRow (I_m 3) (J_m 4) tray many 1 ∨ (okRow (I_m 3) (J_m 4) tray many 1 ∧ ((u) 16 0).toInt = 0 ∧ rowP (J_m 4) tray.toInt (-1 : Int32).toInt ((u) 14) ((u) 15) many.toInt ∧ cntM (I_m 1) ((u) 14) ((u) 15) ((u) 16) many))) ∨ (okRow (I_m 3) (J_m 4) tray many 1 ∧ r = (u) 0 36 ∧ ((u) 16 0).toInt ≠ 0 ∧ rowP (J_m 4) tray.toInt (-1 : Int32).toInt ((u) 14) ((u) 15) many.toInt ∧ cntM (I_m 1) ((u) 14) ((u) 15) ((u) 16) many ∧ fsM (I_m 1) ((u) 14) ((u) 15) ((u) 16) ((u) 17) ((u) 0 36) ((u) 0 37) many.toInt.toNat))) := by
  refine EffI.st (cc := cX11_first) (maxL := 6) (by decide) rfl (Nat.le_of_ble_eq_true rfl) (fun p e s m args below meth c A Q ls fx hK hP hD hA hS hl hret => ?_)
  have hx := fx.1
  have hb := fx.2.1
  have hml := fx.2.2.1
  have hown := fx.2.2.2.1
  have hts := fx.2.2.2.2
  have hl : lv_has ls 6 [(0, .ref (a_m 0)), (1, .int tray), (2, .int many)] := hl
  have hP : va_P g.1 vwCl (wX11 g a_m I_m J_m) s.heap := hP
  have hf_7 := hts _ (uT _ _ u_170)
  have hf_68 := hts _ (uT _ _ u_189)
  have hf_71 := hts _ (uT _ _ u_190)
  have hf_74 := hts _ (uT _ _ u_191)
  have hf_383 := hts _ (uT _ _ u_1376)
  have hi_X11 : ∀ w ∈ wsX110, w.before args s = true := fun w h => hts w (uT _ w (u_wsX110 w h))
  have lm1 : (-1 : Int32).toInt = -1 := by decide
  have lm0 : (0 : Int32).toInt = 0 := by decide
  have lm2 : (1 : Int32).toInt = 1 := by decide
  have lq6 : (6 : Int32).toInt = 6 := by decide
  have lq1 : (1 : Int32).toInt = 1 := by decide
  refine lv_aload_n hx hb dX11_first_0 rfl (lv_at hl 0 rfl) ?_
  refine lv_iload_n hx hb dX11_first_1 rfl (lv_at hl 1 rfl) ?_
  refine lv_iload_n hx hb dX11_first_2 rfl (lv_at hl 2 rfl) ?_
  refine lv_iconst (v := 1) hx hb dX11_first_3 (by decide) ?_
  refine PurI.cv (As := [.int tray, .int many, .int (1 : Int32)]) (kX11_wrongRow l g a_m I_m J_m tray many (1 : Int32) hM) fx (gUV (uT _) u_1341 u_1342 u_1343 u_5 u_1344) rfl hdX11_wrongRow ⟨Nat.le_of_ble_eq_true rfl, Nat.le_of_ble_eq_true rfl⟩ hK hP [0, 1, 2, 3, 4, 5, 6, 7, 8, 9, 10, 11, 12, 13, 14, 15, 16, 17, 18, 19, 20, 21, 22] rfl rfl rfl rfl rfl hl.1 (Nat.le_of_ble_eq_true rfl) dX11_first_4 (fun r1 p_r1 => ?_)
  have hw4 := p_r1.1
  refine lv_istore_n (lv' := [(3, .int r1), (0, .ref (a_m 0)), (1, .int tray), (2, .int many)]) hx hb dX11_first_7 rfl hl (by decide) rfl (fun ls hl => ?_)
  refine lv_iload_n hx hb dX11_first_8 rfl (lv_at hl 0 rfl) ?_
  refine q_if_le (tgt := 18) hx hb dX11_first_9 (by decide) rfl (fun k_9 => ?_) (fun k_9 => ?_)
  · refine lv_aload_n hx hb dX11_first_18 rfl (lv_at hl 1 rfl) ?_
    refine lv_iload_n hx hb dX11_first_19 rfl (lv_at hl 2 rfl) ?_
    refine lv_iload_n hx hb dX11_first_20 rfl (lv_at hl 3 rfl) ?_
    refine EffV.cv (wr := ([])) (w' := fun u3 => wX11 g a_m u3 J_m) (As := [.int tray, .int many]) (kX11_laysRow l g a_m I_m J_m tray many hM (by omega) (by omega)) fx (gUV (uT _) u_1345 u_1346 u_1347 u_5 u_1348) rfl hdX11_laysRow ⟨Nat.le_of_ble_eq_true rfl, Nat.le_of_ble_eq_true rfl⟩ hK hP hD hS hA [0, 1, 2, 3, 4, 5, 6, 7, 8, 9, 10, 11, 12, 13, 14, 15, 16, 17, 18, 19, 20, 21, 22] [] [0, 1, 2, 3, 4, 5, 6, 7, 8, 9, 10, 11, 12, 13, 14, 15, 16, 17, 18, 19, 20, 21, 22] rfl rfl rfl rfl (by decide) rfl (fun _ => rfl) rfl rfl rfl rfl hl.1 (Nat.le_of_ble_eq_true rfl) dX11_first_21 (fun u3 H locs p_r2 hP hD hS => ?_)
    have hP : va_P g.1 vwCl (wX11 g a_m u3 J_m) H := hP
    have hD : va_D A (wX11 g a_m u3 J_m) := hD
    refine lv_aload_n hx hb dX11_first_24 rfl (lv_at hl 1 rfl) ?_
    refine lv_iload_n hx hb dX11_first_25 rfl (lv_at hl 3 rfl) ?_
    refine EffI.cv (wr := ([])) (w' := fun u5 => wX11 g a_m u5 J_m) (As := [.int many]) (kX11_countsWays l g a_m u3 J_m many (MI.kk hM p_r2.1 (by decide) (by decide)) (by omega)) fx (gUV (uT _) u_1349 u_1350 u_1351 u_5 u_1352) rfl hdX11_countsWays ⟨Nat.le_of_ble_eq_true rfl, Nat.le_of_ble_eq_true rfl⟩ hK hP hD hS hA [0, 1, 2, 3, 4, 5, 6, 7, 8, 9, 10, 11, 12, 13, 14, 15, 16, 17, 18, 19, 20, 21, 22] [] [0, 1, 2, 3, 4, 5, 6, 7, 8, 9, 10, 11, 12, 13, 14, 15, 16, 17, 18, 19, 20, 21, 22] rfl rfl rfl rfl (by decide) rfl (fun _ => rfl) rfl rfl rfl rfl hl.1 (Nat.le_of_ble_eq_true rfl) dX11_first_26 (fun r4 u5 H locs p_r4 hP hD hS => ?_)
    have hP : va_P g.1 vwCl (wX11 g a_m u5 J_m) H := hP
    have hD : va_D A (wX11 g a_m u5 J_m) := hD
    have hM27 := (MI.kk (MI.kk hM p_r2.1 (by decide) (by decide)) p_r4.1 (by decide) (by decide))
    have hW27 := p_r4.2.2.1
    have hR27 := congrArg Int32.toInt p_r4.2.1
    have hC27 := cntM.of p_r4.2.2.2 (p_r2.1.row 1 (by decide)).symm (p_r4.1.row 14 (by decide)) (p_r4.1.row 15 (by decide)) rfl
    have hrp27 := rowP.of p_r2.2 (p_r4.1.row 14 (by decide)) (p_r4.1.row 15 (by decide))
    have hR1 : u5 1 = I_m 1 := (p_r4.1.row 1 (by decide)).trans (p_r2.1.row 1 (by decide))
    obtain ⟨R14, hR14⟩ : ∃ f, f = u5 14 := ⟨_, rfl⟩
    obtain ⟨R15, hR15⟩ : ∃ f, f = u5 15 := ⟨_, rfl⟩
    obtain ⟨R16, hR16⟩ : ∃ f, f = u5 16 := ⟨_, rfl⟩
    have h1727 : u5 17 = I_m 17 := (p_r4.1.row 17 (by decide)).trans (p_r2.1.row 17 (by decide))
    have hn27 : u5 0 36 = I_m 0 36 ∧ u5 0 37 = I_m 0 37 := ⟨(p_r4.1.num 36 (by decide)).trans (p_r2.1.num 36 (by decide)), (p_r4.1.num 37 (by decide)).trans (p_r2.1.num 37 (by decide))⟩
    refine q_if_ne (tgt := 39) hx hb dX11_first_29 (by decide) rfl (fun b_29 k_29 => ?_) (fun b_29 k_29 => ?_)
    · refine lv_aload_n hx hb dX11_first_39 rfl (lv_at hl 1 rfl) ?_
      refine lv_iconst (v := 0) hx hb dX11_first_40 (by decide) ?_
      refine va_put (D := g.1) (ci := 11) (v := .int (0 : Int32)) (ty := .int) (C := RX11) (T := TX11) (N := 46) hx hb hi_X11 (fun _ h => h) tyX11 tyX11_ok nmX11 hown hK.1 hP hD hS 0 rfl rfl 36 (by decide) hf_74 (fun _ h9 => h9) rfl (by decide +kernel) rfl rfl (Nat.le_of_ble_eq_true rfl) dX11_first_41 (fun H locs hP hD hS => ?_)
      have hP : va_P g.1 vwCl (wX11 g a_m (uF u5 0 36 (0 : Int32)) J_m) H := hP
      have hD : va_D A (wX11 g a_m (uF u5 0 36 (0 : Int32)) J_m) := hD
      have hk_41 : KK [14, 15, 16, 17] [1, 36, 37] I_m (uF u5 0 36 (0 : Int32)) := KK.uf (KK.tr (KK.tr (KK.rf I_m) p_r2.1 (by decide) (by decide)) p_r4.1 (by decide) (by decide)) (by decide)
      have hc_41 : MI (uF u5 0 36 (0 : Int32)) := MI.fmd hM27 (by omega)
      refine lv_aload_n hx hb dX11_first_44 rfl (lv_at hl 1 rfl) ?_
      refine lv_iconst (v := 0) hx hb dX11_first_45 (by decide) ?_
      refine va_put (D := g.1) (ci := 11) (v := .int (0 : Int32)) (ty := .int) (C := RX11) (T := TX11) (N := 46) hx hb hi_X11 (fun _ h => h) tyX11 tyX11_ok nmX11 hown hK.1 hP hD hS 0 rfl rfl 37 (by decide) hf_383 (fun _ h9 => h9) rfl (by decide +kernel) rfl rfl (Nat.le_of_ble_eq_true rfl) dX11_first_46 (fun H locs hP hD hS => ?_)
      have hP : va_P g.1 vwCl (wX11 g a_m (uF (uF u5 0 36 (0 : Int32)) 0 37 (0 : Int32)) J_m) H := hP
      have hD : va_D A (wX11 g a_m (uF (uF u5 0 36 (0 : Int32)) 0 37 (0 : Int32)) J_m) := hD
      have hc_46 : MI (uF (uF u5 0 36 (0 : Int32)) 0 37 (0 : Int32)) := MI.uf hc_41 (by decide)
      have hk_46 : KK [14, 15, 16, 17] [1, 36, 37] I_m (uF (uF u5 0 36 (0 : Int32)) 0 37 (0 : Int32)) := KK.uf hk_41 (by decide)
      refine lv_iconst (v := 0) hx hb dX11_first_49 (by decide) ?_
      refine lv_istore (lv' := [(4, .int (0 : Int32)), (3, .int r1), (0, .ref (a_m 0)), (1, .int tray), (2, .int many)]) hx hb dX11_first_50 hl (by decide) rfl (fun ls hl => ?_)
      have L52 : ∀ (nn : Nat) (v4_52 : Int32) (I_m_52 : Nat → Nat → Int32), (hM_52 : MI I_m_52) → (hk_52 : KK [14, 15, 16, 17] [1, 36, 37] I_m I_m_52) → (hv_52 : 0 ≤ v4_52.toInt ∧ v4_52.toInt ≤ many.toInt) → (hf_52 : 0 ≤ (I_m_52 0 36).toInt ∧ (I_m_52 0 36).toInt ≤ v4_52.toInt) → (hww_52 : WW I_m_52 many.toInt) → (hn_52 : v4_52.toInt < many.toInt → (I_m_52 16 v4_52.toInt.toNat).toInt ≠ 0) → (hrw_52 : I_m_52 14 = R14 ∧ I_m_52 15 = R15 ∧ I_m_52 16 = R16 ∧ I_m_52 1 = I_m 1) → (hfi_52 : fiP (gM (I_m 1) R14 R15 R16 many.toInt.toNat) (mN (I_m 1)) (fun r => (I_m 1 (12 * r + 12)).toInt) many.toInt.toNat (I_m 1 0).toInt.toNat (I_m_52 17) (I_m_52 0 36) (I_m_52 0 37) v4_52.toInt.toNat) → (hlt_52 : 0 ≤ (I_m_52 0 37).toInt ∧ (I_m_52 0 37).toInt ≤ 6 * v4_52.toInt) → ((21 - v4_52.toInt) < (nn : Int)) → ∀ (H : Heap) (locs : List Loc), va_P g.1 vwCl (wX11 g a_m I_m_52 J_m) H → va_D A (wX11 g a_m I_m_52 J_m) → va_S A s.heap H locs → ∀ ls : Array Slot, lv_has ls 6 [(4, .int v4_52), (3, .int r1), (0, .ref (a_m 0)), (1, .int tray), (2, .int many)] → W p l e (rm 4) s m args below meth c H locs 0 0 Q (F0 m 52 ls []) := by
        intro n_52
        induction n_52 with
        | zero =>
          intro v4_52 I_m_52 hM_52 hk_52 hv_52 hf_52 hww_52 hn_52 hrw_52 hfi_52 hlt_52 hms_52 H locs hP hD hS ls hl
          exfalso; omega
        | succ n_52 ih_52 =>
          intro v4_52 I_m_52 hM_52 hk_52 hv_52 hf_52 hww_52 hn_52 hrw_52 hfi_52 hlt_52 hms_52 H locs hP hD hS ls hl
          refine lv_iload hx hb dX11_first_52 (lv_at hl 0 rfl) ?_
          refine lv_iload_n hx hb dX11_first_54 rfl (lv_at hl 4 rfl) ?_
          refine q_icmp_ge (tgt := 151) hx hb dX11_first_55 (by decide) rfl rfl (fun k_55 => ?_) (fun k_55 => ?_)
          · refine lv_aload_n hx hb dX11_first_151 rfl (lv_at hl 2 rfl) ?_
            refine lv_aload_n hx hb dX11_first_152 rfl (lv_at hl 2 rfl) ?_
            refine va_get (D := g.1) (ci := 11) (v := .int (I_m_52 0 36)) (C := RX11) (T := TX11) (N := 46) hx hb hi_X11 (fun _ h => h) hown hK.1 hP 0 rfl rfl 36 (by decide) hf_74 (fun _ h9 => h9) rfl dX11_first_153 ?_
            refine EffI.cv (wr := ([])) (w' := fun u7 => wX11 g a_m u7 J_m) (As := [.int (I_m_52 0 36)]) (kX11_gives l g a_m I_m_52 J_m (I_m_52 0 36)) fx (gUV (uT _) u_585 u_586 u_587 u_5 u_588) rfl hdX11_gives ⟨Nat.le_of_ble_eq_true rfl, Nat.le_of_ble_eq_true rfl⟩ hK hP hD hS hA [0, 1, 2, 3, 4, 5, 6, 7, 8, 9, 10, 11, 12, 13, 14, 15, 16, 17, 18, 19, 20, 21, 22] [] [0, 1, 2, 3, 4, 5, 6, 7, 8, 9, 10, 11, 12, 13, 14, 15, 16, 17, 18, 19, 20, 21, 22] rfl rfl rfl rfl (by decide) rfl (fun _ => rfl) rfl rfl rfl rfl hl.1 (Nat.le_of_ble_eq_true rfl) dX11_first_156 (fun r6 u7 H locs p_r6 hP hD hS => ?_)
            have hP : va_P g.1 vwCl (wX11 g a_m u7 J_m) H := hP
            have hD : va_D A (wX11 g a_m u7 J_m) := hD
            refine hret 159 ls r6 _ _ u7 dX11_first_159 hS hP hD ?_
            exact ⟨(MI.st hM_52 p_r6.2), (KK.st hk_52 p_r6.2 (by decide)), Or.inr ⟨(by have w9 := (p_r1.2.resolve_right (fun q => by have := q.1; omega)).2; rw [lm2] at w9; exact w9), p_r6.1.trans (ST.num p_r6.2 36 (by decide)).symm, (by rw [(ST.row p_r6.2 16 (by decide)), hrw_52.2.2.1, hR16]; omega), rowP.of (by rw [hR14, hR15]; exact hrp27) ((ST.row p_r6.2 14 (by decide)).trans hrw_52.1) ((ST.row p_r6.2 15 (by decide)).trans hrw_52.2.1), cntM.of (by rw [hR14, hR15, hR16]; exact hC27) rfl ((ST.row p_r6.2 14 (by decide)).trans hrw_52.1) ((ST.row p_r6.2 15 (by decide)).trans hrw_52.2.1) ((ST.row p_r6.2 16 (by decide)).trans hrw_52.2.2.1), (by rw [(ST.row p_r6.2 14 (by decide)), (ST.row p_r6.2 15 (by decide)), (ST.row p_r6.2 16 (by decide)), (ST.row p_r6.2 17 (by decide)), ST.num p_r6.2 36 (by decide), ST.num p_r6.2 37 (by decide), hrw_52.1, hrw_52.2.1, hrw_52.2.2.1]; have w := hfi_52; rw [show v4_52.toInt.toNat = many.toInt.toNat by omega] at w; exact w)⟩⟩
          · refine lv_iconst (v := 0) hx hb dX11_first_58 (by decide) ?_
            refine lv_istore (lv' := [(5, .int (0 : Int32)), (4, .int v4_52), (3, .int r1), (0, .ref (a_m 0)), (1, .int tray), (2, .int many)]) hx hb dX11_first_59 hl (by decide) rfl (fun ls hl => ?_)
            have L61 : ∀ (nn : Nat) (v5_61 : Int32), (hu_61 : 0 ≤ v5_61.toInt ∧ v5_61.toInt ≤ 24) → (hx_61 : ∃ r : Int32, v5_61.toInt ≤ r.toInt ∧ WX I_m_52 v4_52.toInt many.toInt r) → (hno_61 : ∀ i : Nat, (i : Int) < v5_61.toInt → ¬ gM (I_m 1) R14 R15 R16 many.toInt.toNat i v4_52.toInt.toNat) → ((25 - v5_61.toInt) < (nn : Int)) → ∀ (H : Heap) (locs : List Loc), va_P g.1 vwCl (wX11 g a_m I_m_52 J_m) H → va_D A (wX11 g a_m I_m_52 J_m) → va_S A s.heap H locs → ∀ ls : Array Slot, lv_has ls 6 [(5, .int v5_61), (4, .int v4_52), (3, .int r1), (0, .ref (a_m 0)), (1, .int tray), (2, .int many)] → W p l e (rm 4) s m args below meth c H locs 0 0 Q (F0 m 61 ls []) := by
              intro n_61
              induction n_61 with
              | zero =>
                intro v5_61 hu_61 hx_61 hno_61 hms_61 H locs hP hD hS ls hl
                exfalso; omega
              | succ n_61 ih_61 =>
                intro v5_61 hu_61 hx_61 hno_61 hms_61 H locs hP hD hS ls hl
                obtain ⟨w61, hw61, hx61⟩ := hx_61
                have hw62 := hx61.1
                have hmn61 := hM_52.many rfl
                refine lv_aload_n hx hb dX11_first_61 rfl (lv_at hl 3 rfl) ?_
                refine lv_iload hx hb dX11_first_62 (lv_at hl 0 rfl) ?_
                refine lv_iload hx hb dX11_first_64 (lv_at hl 1 rfl) ?_
                have rif66 := (RD.iff (I := I_m_52) (rule := (v5_61)) (p := (v4_52).toInt) (many := many.toInt) (by omega) (by omega) (by omega) (TS.cc (hM_52).t0 (x := nI (12 * (v5_61).toInt.toNat + 19)) (r := (v5_61).toInt) (by rw [nI_clamp (by omega)]) (by omega) (by rw [nI_toInt (by omega)]; omega)).1)
                rw [hrw_52.1, hrw_52.2.1, hrw_52.2.2.2] at rif66
                refine lv_iload_n hx hb dX11_first_66 rfl (lv_at hl 5 rfl) ?_
                refine PurI.cv (As := [.int v5_61, .int v4_52, .int many]) (kX11_reads l g a_m I_m_52 J_m v5_61 v4_52 many hM_52 (by omega) (by omega)) fx (gUV (uT _) u_1354 u_1355 u_1356 u_5 u_1357) rfl hdX11_reads ⟨Nat.le_of_ble_eq_true rfl, Nat.le_of_ble_eq_true rfl⟩ hK hP [0, 1, 2, 3, 4, 5, 6, 7, 8, 9, 10, 11, 12, 13, 14, 15, 16, 17, 18, 19, 20, 21, 22] rfl rfl rfl rfl rfl hl.1 (Nat.le_of_ble_eq_true rfl) dX11_first_67 (fun r8 p_r8 => ?_)
                have hmn67 := hM_52.many rfl
                refine q_if_eq (tgt := 90) hx hb dX11_first_70 (by decide) rfl (fun b_70 k_70 => ?_) (fun b_70 k_70 => ?_)
                · have q_70 := bP.f p_r8 b_70
                  have hne61 : v5_61.toInt < w61.toInt := by by_cases u : v5_61.toInt < w61.toInt; exact u; have e9 : w61 = v5_61 := t_inj (by omega); rw [e9] at hx61; exact absurd hx61.2.1 q_70
                  have hng : ¬ gM (I_m 1) R14 R15 R16 many.toInt.toNat v5_61.toInt.toNat v4_52.toInt.toNat := fun q => q_70 (rif66.2 q.1)
                  refine r_iinc (lv' := fun i9 => [(5, .int i9), (4, .int v4_52), (3, .int r1), (0, .ref (a_m 0)), (1, .int tray), (2, .int many)]) hx hb dX11_first_90 hl (k := 0) rfl (by decide) rfl (by decide) (fun _ => rfl) (fun i9 e_i9 t_i9 ls hl => ?_)
                  try have t_i9 := t_i9 (by omega)
                  refine lv_goto (tgt := 61) hx hb dX11_first_93 (by decide) ?_
                  exact ih_61 i9 (by omega) ⟨w61, by omega, hx61⟩ (tq_ext (P := fun i => ¬ gM (I_m 1) R14 R15 R16 many.toInt.toNat i v4_52.toInt.toNat) hno_61 (by omega) (by omega) hng) (by omega) _ _ hP hD hS ls hl
                · have q_70 := bP.t p_r8 b_70
                  have hl70 : (v4_52).toInt + (I_m_52 1 (12 * (v5_61).toInt.toNat + 19)).toInt ≤ many.toInt := q_70.2.1
                  have o70 := rif66.1 q_70
                  refine lv_aload_n hx hb dX11_first_73 rfl (lv_at hl 3 rfl) ?_
                  refine va_get (D := g.1) (ci := 11) (v := .ref (a_m 16)) (C := RX11) (T := TX11) (N := 46) hx hb hi_X11 (fun _ h => h) hown hK.1 hP 0 rfl rfl 34 (by decide) hf_68 (fun _ h9 => h9) rfl dX11_first_74 ?_
                  refine lv_iload hx hb dX11_first_77 (lv_at hl 1 rfl) ?_
                  refine lv_aload_n hx hb dX11_first_79 rfl (lv_at hl 3 rfl) ?_
                  refine lv_iload hx hb dX11_first_80 (lv_at hl 0 rfl) ?_
                  refine PurI.cv (As := [.int v5_61]) (kX11_cellsOf l g a_m I_m_52 J_m v5_61 hM_52 (by omega)) fx (gUV (uT _) u_826 u_827 u_828 u_5 u_829) rfl hdX11_cellsOf ⟨Nat.le_of_ble_eq_true rfl, Nat.le_of_ble_eq_true rfl⟩ hK hP [0, 1, 2, 3, 4, 5, 6, 7, 8, 9, 10, 11, 12, 13, 14, 15, 16, 17, 18, 19, 20, 21, 22] rfl rfl rfl rfl rfl hl.1 (Nat.le_of_ble_eq_true rfl) dX11_first_82 (fun r10 p_r10 => ?_)
                  have hc82 := p_r10
                  refine r_iadd hx hb dX11_first_85 rfl rfl (fun x11 e_x11 t_x11 => ?_)
                  try have t_x11 := t_x11 (by omega)
                  have n_86 : vp_in x11 21 := (t_in (by omega))
                  refine va_iald hx hb hK.1 hP 16 0 rfl rfl n_86 dX11_first_86 ?_
                  refine q_nm (fun x12 e_x12 => ?_)
                  have e_x12 : x12 = (I_m_52 16) x11.toNatClampNeg := e_x12
                  have g_x12 : x12.toInt = ((I_m_52 16) x11.toNatClampNeg).toInt := congrArg _ e_x12
                  have m_x12 : x12 = I_m_52 16 ((v4_52).toInt + (I_m_52 1 (12 * (v5_61).toInt.toNat + 19)).toInt).toNat := at_ix e_x12 (by omega)
                  have k86 : v4_52.toInt.toNat + mN (I_m 1) (v5_61).toInt.toNat = (v4_52.toInt + (I_m_52 1 (12 * (v5_61).toInt.toNat + 19)).toInt).toNat := by show v4_52.toInt.toNat + (I_m 1 (12 * (v5_61).toInt.toNat + 19)).toInt.toNat = _; rw [show I_m_52 1 = I_m 1 from hrw_52.2.2.2] at hc82 ⊢; omega
                  refine q_if_ne (tgt := 96) hx hb dX11_first_87 (by decide) rfl (fun b_87 k_87 => ?_) (fun b_87 k_87 => ?_)
                  · have g87 : gM (I_m 1) R14 R15 R16 many.toInt.toNat v5_61.toInt.toNat v4_52.toInt.toNat := ⟨o70, by rw [k86, ← hrw_52.2.2.1, ← m_x12]; omega⟩
                    refine lv_aload_n hx hb dX11_first_96 rfl (lv_at hl 3 rfl) ?_
                    refine va_get (D := g.1) (ci := 11) (v := .ref (a_m 17)) (C := RX11) (T := TX11) (N := 46) hx hb hi_X11 (fun _ h => h) hown hK.1 hP 0 rfl rfl 35 (by decide) hf_71 (fun _ h9 => h9) rfl dX11_first_97 ?_
                    refine lv_aload_n hx hb dX11_first_100 rfl (lv_at hl 3 rfl) ?_
                    refine va_get (D := g.1) (ci := 11) (v := .int (I_m_52 0 36)) (C := RX11) (T := TX11) (N := 46) hx hb hi_X11 (fun _ h => h) hown hK.1 hP 0 rfl rfl 36 (by decide) hf_74 (fun _ h9 => h9) rfl dX11_first_101 ?_
                    refine lv_iload hx hb dX11_first_104 (lv_at hl 0 rfl) ?_
                    have n_106 : vp_in (I_m_52 0 36) 20 := (t_in (by omega))
                    obtain ⟨f13, e_f13⟩ : ∃ z, z = upd (I_m_52 17) (I_m_52 0 36).toNatClampNeg v5_61 := ⟨_, rfl⟩
                    refine va_iast hx hb hK.1 hP hD hS 17 0 rfl rfl n_106 dX11_first_106 (fun H locs hP hD hS => ?_)
                    have hP : va_P g.1 vwCl (wX11 g a_m (uR I_m_52 17 f13) J_m) H := by rw [e_f13]; exact hP
                    have hD : va_D A (wX11 g a_m (uR I_m_52 17 f13) J_m) := by rw [e_f13]; exact hD
                    have hc_106 : MI (uR I_m_52 17 f13) := MI.ur hM_52 (by decide)
                    have hk_106 : KK [14, 15, 16, 17] [1, 36, 37] I_m (uR I_m_52 17 f13) := KK.ur hk_52 (by decide) (by decide)
                    refine lv_aload_n hx hb dX11_first_107 rfl (lv_at hl 3 rfl) ?_
                    refine lv_dup hx hb dX11_first_108 rfl ?_
                    refine va_get (D := g.1) (ci := 11) (v := .int (I_m_52 0 36)) (C := RX11) (T := TX11) (N := 46) hx hb hi_X11 (fun _ h => h) hown hK.1 hP 0 rfl rfl 36 (by decide) hf_74 (fun _ h9 => h9) rfl dX11_first_109 ?_
                    refine lv_iconst (v := 1) hx hb dX11_first_112 (by decide) ?_
                    refine r_iadd hx hb dX11_first_113 rfl (by decide : (1 : Int32).toInt = 1) (fun x14 e_x14 t_x14 => ?_)
                    try have t_x14 := t_x14 (by omega)
                    refine va_put (D := g.1) (ci := 11) (v := .int x14) (ty := .int) (C := RX11) (T := TX11) (N := 46) hx hb hi_X11 (fun _ h => h) tyX11 tyX11_ok nmX11 hown hK.1 hP hD hS 0 rfl rfl 36 (by decide) hf_74 (fun _ h9 => h9) rfl (by decide +kernel) rfl rfl (Nat.le_of_ble_eq_true rfl) dX11_first_114 (fun H locs hP hD hS => ?_)
                    have hP : va_P g.1 vwCl (wX11 g a_m (uF (uR I_m_52 17 f13) 0 36 x14) J_m) H := hP
                    have hD : va_D A (wX11 g a_m (uF (uR I_m_52 17 f13) 0 36 x14) J_m) := hD
                    have hk_114 : KK [14, 15, 16, 17] [1, 36, 37] I_m (uF (uR I_m_52 17 f13) 0 36 x14) := KK.uf hk_106 (by decide)
                    have hc_114 : MI (uF (uR I_m_52 17 f13) 0 36 x14) := MI.fmd hc_106 (by omega)
                    refine lv_aload_n hx hb dX11_first_117 rfl (lv_at hl 3 rfl) ?_
                    refine lv_dup hx hb dX11_first_118 rfl ?_
                    refine va_get (D := g.1) (ci := 11) (v := .int (I_m_52 0 37)) (C := RX11) (T := TX11) (N := 46) hx hb hi_X11 (fun _ h => h) hown hK.1 hP 0 rfl rfl 37 (by decide) hf_383 (fun _ h9 => h9) rfl dX11_first_119 ?_
                    refine lv_aload_n hx hb dX11_first_122 rfl (lv_at hl 3 rfl) ?_
                    refine va_get (D := g.1) (ci := 11) (v := .ref (a_m 1)) (C := RX11) (T := TX11) (N := 46) hx hb hi_X11 (fun _ h => h) hown hK.1 hP 0 rfl rfl 0 (by decide) hf_7 (fun _ h9 => h9) rfl dX11_first_123 ?_
                    refine lv_iconst (v := 0) hx hb dX11_first_126 (by decide) ?_
                    refine lv_iload hx hb dX11_first_127 (lv_at hl 0 rfl) ?_
                    refine PurI.cs (C := RX11) (As := [.int (0 : Int32), .int v5_61]) (kX11_ruleAt l g (0 : Int32) v5_61 (by omega) (by omega)) fx (gUS (uT _) u_554 u_555 u_5 u_556) rfl hdX11_ruleAt ⟨Nat.le_of_ble_eq_true rfl, Nat.le_of_ble_eq_true rfl⟩ hK hP [] rfl rfl rfl hl.1 (Nat.le_of_ble_eq_true rfl) dX11_first_129 (fun r15 p_r15 => ?_)
                    have n_132 : vp_in r15 19800 := (t_in (by omega))
                    refine va_iald hx hb hK.1 hP 1 0 rfl rfl n_132 dX11_first_132 ?_
                    refine q_nm (fun x16 e_x16 => ?_)
                    have e_x16 : x16 = (I_m_52 1) r15.toNatClampNeg := e_x16
                    have g_x16 : x16.toInt = ((I_m_52 1) r15.toNatClampNeg).toInt := congrArg _ e_x16
                    have l132 : (I_m 1 (12 * v5_61.toInt.toNat + 12)).toInt = x16.toInt := by have w := at_ix (k := 12 * v5_61.toInt.toNat + 12) e_x16 (by omega); rw [w]; show _ = (I_m_52 1 _).toInt; rw [hrw_52.2.2.2]
                    have f132 := hM_52.t0.lc e_x16 (r := v5_61.toInt) (by omega) (by omega)
                    refine r_iadd hx hb dX11_first_133 rfl rfl (fun x17 e_x17 t_x17 => ?_)
                    try have t_x17 := t_x17 (by omega)
                    refine va_put (D := g.1) (ci := 11) (v := .int x17) (ty := .int) (C := RX11) (T := TX11) (N := 46) hx hb hi_X11 (fun _ h => h) tyX11 tyX11_ok nmX11 hown hK.1 hP hD hS 0 rfl rfl 37 (by decide) hf_383 (fun _ h9 => h9) rfl (by decide +kernel) rfl rfl (Nat.le_of_ble_eq_true rfl) dX11_first_134 (fun H locs hP hD hS => ?_)
                    have hP : va_P g.1 vwCl (wX11 g a_m (uF (uF (uR I_m_52 17 f13) 0 36 x14) 0 37 x17) J_m) H := hP
                    have hD : va_D A (wX11 g a_m (uF (uF (uR I_m_52 17 f13) 0 36 x14) 0 37 x17) J_m) := hD
                    have hc_134 : MI (uF (uF (uR I_m_52 17 f13) 0 36 x14) 0 37 x17) := MI.uf hc_114 (by decide)
                    have hk_134 : KK [14, 15, 16, 17] [1, 36, 37] I_m (uF (uF (uR I_m_52 17 f13) 0 36 x14) 0 37 x17) := KK.uf hk_114 (by decide)
                    refine lv_iload hx hb dX11_first_137 (lv_at hl 1 rfl) ?_
                    refine lv_aload_n hx hb dX11_first_139 rfl (lv_at hl 3 rfl) ?_
                    refine lv_iload hx hb dX11_first_140 (lv_at hl 0 rfl) ?_
                    refine PurI.cv (As := [.int v5_61]) (kX11_cellsOf l g a_m (uF (uF (uR I_m_52 17 f13) 0 36 x14) 0 37 x17) J_m v5_61 hc_134 (by omega)) fx (gUV (uT _) u_826 u_827 u_828 u_5 u_829) rfl hdX11_cellsOf ⟨Nat.le_of_ble_eq_true rfl, Nat.le_of_ble_eq_true rfl⟩ hK hP [0, 1, 2, 3, 4, 5, 6, 7, 8, 9, 10, 11, 12, 13, 14, 15, 16, 17, 18, 19, 20, 21, 22] rfl rfl rfl rfl rfl hl.1 (Nat.le_of_ble_eq_true rfl) dX11_first_142 (fun r18 p_r18 => ?_)
                    have p_r18 : ((v5_61).toInt = -1) ∨ (0 ≤ (v5_61).toInt ∧ r18.toInt = ((I_m_52 1) (12 * (v5_61).toInt.toNat + 19)).toInt ∧ 0 ≤ r18.toInt ∧ r18.toInt ≤ 3 ∧ ((I_m_52 1 0).toInt ≤ (v5_61).toInt ∨ 1 ≤ r18.toInt)) := p_r18
                    have hc142 := p_r18
                    refine r_iadd hx hb dX11_first_145 rfl rfl (fun x19 e_x19 t_x19 => ?_)
                    try have t_x19 := t_x19 (by omega)
                    have hlt145 : 0 ≤ ((uF (uF (uR I_m_52 17 f13) 0 36 x14) 0 37 x17) 0 37).toInt ∧ ((uF (uF (uR I_m_52 17 f13) 0 36 x14) 0 37 x17) 0 37).toInt ≤ 6 * (x19).toInt := (show 0 ≤ (x17).toInt ∧ (x17).toInt ≤ 6 * _ from (by omega))
                    have hfi145 : fiP (gM (I_m 1) R14 R15 R16 many.toInt.toNat) (mN (I_m 1)) (fun r => (I_m 1 (12 * r + 12)).toInt) many.toInt.toNat (I_m 1 0).toInt.toNat ((uF (uF (uR I_m_52 17 f13) 0 36 x14) 0 37 x17) 17) ((uF (uF (uR I_m_52 17 f13) 0 36 x14) 0 37 x17) 0 36) ((uF (uF (uR I_m_52 17 f13) 0 36 x14) 0 37 x17) 0 37) (x19).toInt.toNat := fiP.st hfi_52 (by omega) g87 (fun j hj => hno_61 j (by omega)) (by rw [show I_m 1 = I_m_52 1 from hrw_52.2.2.2.symm]; omega) (show _ = upd _ _ _ from e_f13) (by omega) (show (v5_61).toInt = ((v5_61.toInt.toNat : Nat) : Int) from (by omega)) (show (x14).toInt = _ from (by omega)) (show (x17).toInt = _ from (by omega)) (by show _ = _ + (I_m 1 (12 * v5_61.toInt.toNat + 19)).toInt.toNat; have q9 := hc142; rw [show (I_m_52 1 (12 * (v5_61).toInt.toNat + 19)) = I_m 1 (12 * v5_61.toInt.toNat + 19) by rw [hrw_52.2.2.2]] at *; omega)
                    refine lv_istore (lv' := [(4, .int x19), (5, .int v5_61), (3, .int r1), (0, .ref (a_m 0)), (1, .int tray), (2, .int many)]) hx hb dX11_first_146 hl (by decide) rfl (fun ls hl => ?_)
                    refine lv_goto (tgt := 52) hx hb dX11_first_148 (by decide) ?_
                    exact ih_52 x19 (uF (uF (uR I_m_52 17 f13) 0 36 x14) 0 37 x17) hc_134 hk_134 (by omega) (show 0 ≤ (x14).toInt ∧ (x14).toInt ≤ _ from (by omega)) (hww_52.row rfl rfl rfl rfl) (fun _ => by show (I_m_52 16 _).toInt ≠ 0; rw [show (x19).toInt = v4_52.toInt + (I_m_52 1 (12 * (v5_61).toInt.toNat + 19)).toInt by omega, ← m_x12]; omega) hrw_52 hfi145 hlt145 (by omega) _ _ hP hD hS ls (lv_sub hl [0, 2, 3, 4, 5] rfl)
                  · have hne61 : v5_61.toInt < w61.toInt := by by_cases u : v5_61.toInt < w61.toInt; exact u; have e9 : w61 = v5_61 := t_inj (by omega); rw [e9] at hx61; have q := hx61.2.2; rw [← m_x12] at q; exfalso; omega
                    have hng : ¬ gM (I_m 1) R14 R15 R16 many.toInt.toNat v5_61.toInt.toNat v4_52.toInt.toNat := fun q => q.2 (by rw [k86, ← hrw_52.2.2.1, ← m_x12]; omega)
                    refine r_iinc (lv' := fun i20 => [(5, .int i20), (4, .int v4_52), (3, .int r1), (0, .ref (a_m 0)), (1, .int tray), (2, .int many)]) hx hb dX11_first_90 hl (k := 0) rfl (by decide) rfl (by decide) (fun _ => rfl) (fun i20 e_i20 t_i20 ls hl => ?_)
                    try have t_i20 := t_i20 (by omega)
                    refine lv_goto (tgt := 61) hx hb dX11_first_93 (by decide) ?_
                    exact ih_61 i20 (by omega) ⟨w61, by omega, hx61⟩ (tq_ext (P := fun i => ¬ gM (I_m 1) R14 R15 R16 many.toInt.toNat i v4_52.toInt.toNat) hno_61 (by omega) (by omega) hng) (by omega) _ _ hP hD hS ls hl
            exact L61 ((25 - (0 : Int32).toInt) + 1).toNat (0 : Int32) (by omega) (by obtain ⟨r, hr⟩ := hww_52 (v4_52).toInt (by omega) (by omega) (hn_52 (by omega)); exact ⟨r, by have := hr.1; omega, hr⟩) (fun i q => by rw [lm0] at q; exfalso; omega) (by omega) _ _ hP hD hS ls hl
      exact L52 ((21 - (0 : Int32).toInt) + 1).toNat (0 : Int32) (uF (uF u5 0 36 (0 : Int32)) 0 37 (0 : Int32)) hc_46 hk_46 (by omega) (show 0 ≤ ((0 : Int32)).toInt ∧ ((0 : Int32)).toInt ≤ _ from (by omega)) (hW27.row rfl rfl rfl rfl) (fun _ => by rw [lm0]; show ((u5 16) 0).toInt ≠ 0; omega) ⟨hR14.symm, hR15.symm, hR16.symm, hR1⟩ (fiP.in (show ((0 : Int32)).toInt = 0 from lm0) lm0) (show 0 ≤ ((0 : Int32)).toInt ∧ ((0 : Int32)).toInt ≤ 6 * ((0 : Int32)).toInt from (by omega)) (by omega) _ _ hP hD hS ls hl
    · refine lv_aload_n hx hb dX11_first_32 rfl (lv_at hl 1 rfl) ?_
      refine lv_bipush (v := 6) hx hb dX11_first_33 (by decide) ?_
      refine EffI.cv (wr := ([])) (w' := fun u22 => wX11 g a_m u22 J_m) (As := [.int (6 : Int32)]) (kX11_refuse l g a_m u5 J_m (6 : Int32)) fx (gUV (uT _) u_536 u_537 u_538 u_5 u_539) rfl hdX11_refuse ⟨Nat.le_of_ble_eq_true rfl, Nat.le_of_ble_eq_true rfl⟩ hK hP hD hS hA [0, 1, 2, 3, 4, 5, 6, 7, 8, 9, 10, 11, 12, 13, 14, 15, 16, 17, 18, 19, 20, 21, 22] [] [0, 1, 2, 3, 4, 5, 6, 7, 8, 9, 10, 11, 12, 13, 14, 15, 16, 17, 18, 19, 20, 21, 22] rfl rfl rfl rfl (by decide) rfl (fun _ => rfl) rfl rfl rfl rfl hl.1 (Nat.le_of_ble_eq_true rfl) dX11_first_35 (fun r21 u22 H locs p_r21 hP hD hS => ?_)
      have hP : va_P g.1 vwCl (wX11 g a_m u22 J_m) H := hP
      have hD : va_D A (wX11 g a_m u22 J_m) := hD
      refine hret 38 ls r21 _ _ u22 dX11_first_38 hS hP hD ?_
      exact ⟨(MI.st (MI.kk (MI.kk hM p_r2.1 (by decide) (by decide)) p_r4.1 (by decide) (by decide)) p_r21.2), (KK.st (KK.tr (KK.tr (KK.rf I_m) p_r2.1 (by decide) (by decide)) p_r4.1 (by decide) (by decide)) p_r21.2 (by decide)), Or.inl ⟨p_r21.1, ⟨(ST.row p_r21.2 17 (by decide)).trans h1727, (ST.num p_r21.2 36 (by decide)).trans hn27.1, (ST.num p_r21.2 37 (by decide)).trans hn27.2⟩, Or.inr ⟨(by have w9 := (p_r1.2.resolve_right (fun q => by have := q.1; omega)).2; rw [lm2] at w9; exact w9), by rw [(ST.row p_r21.2 16 (by decide))]; omega, rowP.of hrp27 (ST.row p_r21.2 14 (by decide)) (ST.row p_r21.2 15 (by decide)), cntM.of hC27 rfl (ST.row p_r21.2 14 (by decide)) (ST.row p_r21.2 15 (by decide)) (ST.row p_r21.2 16 (by decide))⟩⟩⟩
  · refine lv_aload_n hx hb dX11_first_12 rfl (lv_at hl 1 rfl) ?_
    refine lv_iload_n hx hb dX11_first_13 rfl (lv_at hl 0 rfl) ?_
    refine EffI.cv (wr := ([])) (w' := fun u24 => wX11 g a_m u24 J_m) (As := [.int r1]) (kX11_refuse l g a_m I_m J_m r1) fx (gUV (uT _) u_536 u_537 u_538 u_5 u_539) rfl hdX11_refuse ⟨Nat.le_of_ble_eq_true rfl, Nat.le_of_ble_eq_true rfl⟩ hK hP hD hS hA [0, 1, 2, 3, 4, 5, 6, 7, 8, 9, 10, 11, 12, 13, 14, 15, 16, 17, 18, 19, 20, 21, 22] [] [0, 1, 2, 3, 4, 5, 6, 7, 8, 9, 10, 11, 12, 13, 14, 15, 16, 17, 18, 19, 20, 21, 22] rfl rfl rfl rfl (by decide) rfl (fun _ => rfl) rfl rfl rfl rfl hl.1 (Nat.le_of_ble_eq_true rfl) dX11_first_14 (fun r23 u24 H locs p_r23 hP hD hS => ?_)
    have hP : va_P g.1 vwCl (wX11 g a_m u24 J_m) H := hP
    have hD : va_D A (wX11 g a_m u24 J_m) := hD
    refine hret 17 ls r23 _ _ u24 dX11_first_17 hS hP hD ?_
    exact ⟨(MI.st hM p_r23.2), (KK.st (KK.rf I_m) p_r23.2 (by decide)), Or.inl ⟨p_r23.1, ⟨(ST.row p_r23.2 17 (by decide)), ST.num p_r23.2 36 (by decide), ST.num p_r23.2 37 (by decide)⟩, Or.inl (by have w9 := (p_r1.2.resolve_left (fun q => by have := q.1; omega)).2; rw [lm2] at w9; exact w9)⟩⟩

set_option maxHeartbeats 4000000 in
set_option maxRecDepth 100000 in
theorem kX11_firstAt (l : Launch) (g : gG) (a_m : Nat → Nat) (I_m : Nat → Nat → Int32) (J_m : Nat → Nat → Int64) (k : Int32) (hM : MI I_m) : EffI l g yX11_firstAt wsX11_firstAt 1 [.ref (a_m 0), .int k] (wX11 g a_m I_m J_m) (fun (u : (Nat → Nat → Int32)) => wX11 g a_m u J_m) (fun r (u : (Nat → Nat → Int32)) => KK [] [1] I_m (u) ∧ (((0 ≤ k.toInt ∧ k.toInt < (I_m 0 36).toInt) ∧ r = I_m 17 k.toInt.toNat) ∨ (¬ (0 ≤ k.toInt ∧ k.toInt < (I_m 0 36).toInt) ∧ r = -1))) := by
  refine EffI.st (cc := cX11_firstAt) (maxL := 2) (by decide) rfl (Nat.le_of_ble_eq_true rfl) (fun p e s m args below meth c A Q ls fx hK hP hD hA hS hl hret => ?_)
  have hx := fx.1
  have hb := fx.2.1
  have hml := fx.2.2.1
  have hown := fx.2.2.2.1
  have hts := fx.2.2.2.2
  have hl : lv_has ls 2 [(0, .ref (a_m 0)), (1, .int k)] := hl
  have hP : va_P g.1 vwCl (wX11 g a_m I_m J_m) s.heap := hP
  have hf_71 := hts _ (uT _ _ u_190)
  have hf_74 := hts _ (uT _ _ u_191)
  have hi_X11 : ∀ w ∈ wsX110, w.before args s = true := fun w h => hts w (uT _ w (u_wsX110 w h))
  have lm1 : (-1 : Int32).toInt = -1 := by decide
  have lm0 : (0 : Int32).toInt = 0 := by decide
  have lm2 : (1 : Int32).toInt = 1 := by decide
  have lq6 : (6 : Int32).toInt = 6 := by decide
  have lq1 : (1 : Int32).toInt = 1 := by decide
  have hfm := hM.fm
  refine lv_iload_n hx hb dX11_firstAt_0 rfl (lv_at hl 1 rfl) ?_
  refine q_if_lt (tgt := 12) hx hb dX11_firstAt_1 (by decide) rfl (fun k_1 => ?_) (fun k_1 => ?_)
  · refine lv_aload_n hx hb dX11_firstAt_12 rfl (lv_at hl 0 rfl) ?_
    refine lv_bipush (v := 6) hx hb dX11_firstAt_13 (by decide) ?_
    refine EffI.cv (wr := ([])) (w' := fun u2 => wX11 g a_m u2 J_m) (As := [.int (6 : Int32)]) (kX11_refuse l g a_m I_m J_m (6 : Int32)) fx (gUV (uT _) u_536 u_537 u_538 u_5 u_539) rfl hdX11_refuse ⟨Nat.le_of_ble_eq_true rfl, Nat.le_of_ble_eq_true rfl⟩ hK hP hD hS hA [0, 1, 2, 3, 4, 5, 6, 7, 8, 9, 10, 11, 12, 13, 14, 15, 16, 17, 18, 19, 20, 21, 22] [] [0, 1, 2, 3, 4, 5, 6, 7, 8, 9, 10, 11, 12, 13, 14, 15, 16, 17, 18, 19, 20, 21, 22] rfl rfl rfl rfl (by decide) rfl (fun _ => rfl) rfl rfl rfl rfl hl.1 (Nat.le_of_ble_eq_true rfl) dX11_firstAt_15 (fun r1 u2 H locs p_r1 hP hD hS => ?_)
    have hP : va_P g.1 vwCl (wX11 g a_m u2 J_m) H := hP
    have hD : va_D A (wX11 g a_m u2 J_m) := hD
    refine lv_goto (tgt := 31) hx hb dX11_firstAt_18 (by decide) ?_
    refine hret 31 ls r1 _ _ u2 dX11_firstAt_31 hS hP hD ?_
    exact ⟨(KK.st (KK.rf I_m) p_r1.2 (by decide)), (by exact Or.inr ⟨by omega, p_r1.1⟩)⟩
  · refine lv_iload_n hx hb dX11_firstAt_4 rfl (lv_at hl 1 rfl) ?_
    refine lv_aload_n hx hb dX11_firstAt_5 rfl (lv_at hl 0 rfl) ?_
    refine va_get (D := g.1) (ci := 11) (v := .int (I_m 0 36)) (C := RX11) (T := TX11) (N := 46) hx hb hi_X11 (fun _ h => h) hown hK.1 hP 0 rfl rfl 36 (by decide) hf_74 (fun _ h9 => h9) rfl dX11_firstAt_6 ?_
    refine q_icmp_lt (tgt := 21) hx hb dX11_firstAt_9 (by decide) rfl rfl (fun k_9 => ?_) (fun k_9 => ?_)
    · refine lv_aload_n hx hb dX11_firstAt_21 rfl (lv_at hl 0 rfl) ?_
      refine lv_aload_n hx hb dX11_firstAt_22 rfl (lv_at hl 0 rfl) ?_
      refine va_get (D := g.1) (ci := 11) (v := .ref (a_m 17)) (C := RX11) (T := TX11) (N := 46) hx hb hi_X11 (fun _ h => h) hown hK.1 hP 0 rfl rfl 35 (by decide) hf_71 (fun _ h9 => h9) rfl dX11_firstAt_23 ?_
      refine lv_iload_n hx hb dX11_firstAt_26 rfl (lv_at hl 1 rfl) ?_
      have n_27 : vp_in k 20 := (t_in (by omega))
      refine va_iald hx hb hK.1 hP 17 0 rfl rfl n_27 dX11_firstAt_27 ?_
      refine q_nm (fun x3 e_x3 => ?_)
      have e_x3 : x3 = (I_m 17) k.toNatClampNeg := e_x3
      have g_x3 : x3.toInt = ((I_m 17) k.toNatClampNeg).toInt := congrArg _ e_x3
      refine EffI.cv (wr := ([])) (w' := fun u5 => wX11 g a_m u5 J_m) (As := [.int x3]) (kX11_gives l g a_m I_m J_m x3) fx (gUV (uT _) u_585 u_586 u_587 u_5 u_588) rfl hdX11_gives ⟨Nat.le_of_ble_eq_true rfl, Nat.le_of_ble_eq_true rfl⟩ hK hP hD hS hA [0, 1, 2, 3, 4, 5, 6, 7, 8, 9, 10, 11, 12, 13, 14, 15, 16, 17, 18, 19, 20, 21, 22] [] [0, 1, 2, 3, 4, 5, 6, 7, 8, 9, 10, 11, 12, 13, 14, 15, 16, 17, 18, 19, 20, 21, 22] rfl rfl rfl rfl (by decide) rfl (fun _ => rfl) rfl rfl rfl rfl hl.1 (Nat.le_of_ble_eq_true rfl) dX11_firstAt_28 (fun r4 u5 H locs p_r4 hP hD hS => ?_)
      have hP : va_P g.1 vwCl (wX11 g a_m u5 J_m) H := hP
      have hD : va_D A (wX11 g a_m u5 J_m) := hD
      refine hret 31 ls r4 _ _ u5 dX11_firstAt_31 hS hP hD ?_
      exact ⟨(KK.st (KK.rf I_m) p_r4.2 (by decide)), (by exact Or.inl ⟨by omega, p_r4.1.trans e_x3⟩)⟩
    · refine lv_aload_n hx hb dX11_firstAt_12 rfl (lv_at hl 0 rfl) ?_
      refine lv_bipush (v := 6) hx hb dX11_firstAt_13 (by decide) ?_
      refine EffI.cv (wr := ([])) (w' := fun u7 => wX11 g a_m u7 J_m) (As := [.int (6 : Int32)]) (kX11_refuse l g a_m I_m J_m (6 : Int32)) fx (gUV (uT _) u_536 u_537 u_538 u_5 u_539) rfl hdX11_refuse ⟨Nat.le_of_ble_eq_true rfl, Nat.le_of_ble_eq_true rfl⟩ hK hP hD hS hA [0, 1, 2, 3, 4, 5, 6, 7, 8, 9, 10, 11, 12, 13, 14, 15, 16, 17, 18, 19, 20, 21, 22] [] [0, 1, 2, 3, 4, 5, 6, 7, 8, 9, 10, 11, 12, 13, 14, 15, 16, 17, 18, 19, 20, 21, 22] rfl rfl rfl rfl (by decide) rfl (fun _ => rfl) rfl rfl rfl rfl hl.1 (Nat.le_of_ble_eq_true rfl) dX11_firstAt_15 (fun r6 u7 H locs p_r6 hP hD hS => ?_)
      have hP : va_P g.1 vwCl (wX11 g a_m u7 J_m) H := hP
      have hD : va_D A (wX11 g a_m u7 J_m) := hD
      refine lv_goto (tgt := 31) hx hb dX11_firstAt_18 (by decide) ?_
      refine hret 31 ls r6 _ _ u7 dX11_firstAt_31 hS hP hD ?_
      exact ⟨(KK.st (KK.rf I_m) p_r6.2 (by decide)), (by exact Or.inr ⟨by omega, p_r6.1⟩)⟩

set_option maxHeartbeats 4000000 in
set_option maxRecDepth 100000 in
theorem kX11_letters (l : Launch) (g : gG) (a_m : Nat → Nat) (I_m : Nat → Nat → Int32) (J_m : Nat → Nat → Int64) (hM : MI I_m) : EffI l g yX11_letters wsX11_letters 1 [.ref (a_m 0)] (wX11 g a_m I_m J_m) (fun (u : (Nat → Nat → Int32)) => wX11 g a_m u J_m) (fun r (u : (Nat → Nat → Int32)) => KK [] [1] I_m (u) ∧ (((I_m 0 36).toInt ≠ -1 ∧ r = I_m 0 37) ∨ ((I_m 0 36).toInt = -1 ∧ r = -1))) := by
  refine EffI.st (cc := cX11_letters) (maxL := 1) (by decide) rfl (Nat.le_of_ble_eq_true rfl) (fun p e s m args below meth c A Q ls fx hK hP hD hA hS hl hret => ?_)
  have hx := fx.1
  have hb := fx.2.1
  have hml := fx.2.2.1
  have hown := fx.2.2.2.1
  have hts := fx.2.2.2.2
  have hl : lv_has ls 1 [(0, .ref (a_m 0))] := hl
  have hP : va_P g.1 vwCl (wX11 g a_m I_m J_m) s.heap := hP
  have hf_74 := hts _ (uT _ _ u_191)
  have hf_383 := hts _ (uT _ _ u_1376)
  have hi_X11 : ∀ w ∈ wsX110, w.before args s = true := fun w h => hts w (uT _ w (u_wsX110 w h))
  have lm1 : (-1 : Int32).toInt = -1 := by decide
  have lm0 : (0 : Int32).toInt = 0 := by decide
  have lm2 : (1 : Int32).toInt = 1 := by decide
  have lq6 : (6 : Int32).toInt = 6 := by decide
  have lq1 : (1 : Int32).toInt = 1 := by decide
  refine lv_aload_n hx hb dX11_letters_0 rfl (lv_at hl 0 rfl) ?_
  refine va_get (D := g.1) (ci := 11) (v := .int (I_m 0 36)) (C := RX11) (T := TX11) (N := 46) hx hb hi_X11 (fun _ h => h) hown hK.1 hP 0 rfl rfl 36 (by decide) hf_74 (fun _ h9 => h9) rfl dX11_letters_1 ?_
  refine lv_iconst (v := -1) hx hb dX11_letters_4 (by decide) ?_
  refine q_icmp_ne (tgt := 17) hx hb dX11_letters_5 (by decide) rfl (by decide : (-1 : Int32).toInt = -1) (fun k_5 => ?_) (fun k_5 => ?_)
  · refine lv_aload_n hx hb dX11_letters_17 rfl (lv_at hl 0 rfl) ?_
    refine lv_aload_n hx hb dX11_letters_18 rfl (lv_at hl 0 rfl) ?_
    refine va_get (D := g.1) (ci := 11) (v := .int (I_m 0 37)) (C := RX11) (T := TX11) (N := 46) hx hb hi_X11 (fun _ h => h) hown hK.1 hP 0 rfl rfl 37 (by decide) hf_383 (fun _ h9 => h9) rfl dX11_letters_19 ?_
    refine EffI.cv (wr := ([])) (w' := fun u2 => wX11 g a_m u2 J_m) (As := [.int (I_m 0 37)]) (kX11_gives l g a_m I_m J_m (I_m 0 37)) fx (gUV (uT _) u_585 u_586 u_587 u_5 u_588) rfl hdX11_gives ⟨Nat.le_of_ble_eq_true rfl, Nat.le_of_ble_eq_true rfl⟩ hK hP hD hS hA [0, 1, 2, 3, 4, 5, 6, 7, 8, 9, 10, 11, 12, 13, 14, 15, 16, 17, 18, 19, 20, 21, 22] [] [0, 1, 2, 3, 4, 5, 6, 7, 8, 9, 10, 11, 12, 13, 14, 15, 16, 17, 18, 19, 20, 21, 22] rfl rfl rfl rfl (by decide) rfl (fun _ => rfl) rfl rfl rfl rfl hl.1 (Nat.le_of_ble_eq_true rfl) dX11_letters_22 (fun r1 u2 H locs p_r1 hP hD hS => ?_)
    have hP : va_P g.1 vwCl (wX11 g a_m u2 J_m) H := hP
    have hD : va_D A (wX11 g a_m u2 J_m) := hD
    refine hret 25 ls r1 _ _ u2 dX11_letters_25 hS hP hD ?_
    exact ⟨(KK.st (KK.rf I_m) p_r1.2 (by decide)), (by exact Or.inl ⟨by omega, p_r1.1⟩)⟩
  · refine lv_aload_n hx hb dX11_letters_8 rfl (lv_at hl 0 rfl) ?_
    refine lv_bipush (v := 6) hx hb dX11_letters_9 (by decide) ?_
    refine EffI.cv (wr := ([])) (w' := fun u4 => wX11 g a_m u4 J_m) (As := [.int (6 : Int32)]) (kX11_refuse l g a_m I_m J_m (6 : Int32)) fx (gUV (uT _) u_536 u_537 u_538 u_5 u_539) rfl hdX11_refuse ⟨Nat.le_of_ble_eq_true rfl, Nat.le_of_ble_eq_true rfl⟩ hK hP hD hS hA [0, 1, 2, 3, 4, 5, 6, 7, 8, 9, 10, 11, 12, 13, 14, 15, 16, 17, 18, 19, 20, 21, 22] [] [0, 1, 2, 3, 4, 5, 6, 7, 8, 9, 10, 11, 12, 13, 14, 15, 16, 17, 18, 19, 20, 21, 22] rfl rfl rfl rfl (by decide) rfl (fun _ => rfl) rfl rfl rfl rfl hl.1 (Nat.le_of_ble_eq_true rfl) dX11_letters_11 (fun r3 u4 H locs p_r3 hP hD hS => ?_)
    have hP : va_P g.1 vwCl (wX11 g a_m u4 J_m) H := hP
    have hD : va_D A (wX11 g a_m u4 J_m) := hD
    refine lv_goto (tgt := 25) hx hb dX11_letters_14 (by decide) ?_
    refine hret 25 ls r3 _ _ u4 dX11_letters_25 hS hP hD ?_
    exact ⟨(KK.st (KK.rf I_m) p_r3.2 (by decide)), (by exact Or.inr ⟨by omega, p_r3.1⟩)⟩

set_option maxHeartbeats 4000000 in
set_option maxRecDepth 100000 in
theorem kX11_isTrue (l : Launch) (g : gG) (a_m : Nat → Nat) (I_m : Nat → Nat → Int32) (J_m : Nat → Nat → Int64) (rules : Int32) (many : Int32) (hM : MI I_m) (h_r : 0 ≤ rules.toInt ∧ rules.toInt ≤ 20 ∧ many.toInt ≤ 20) (h_t : ∀ k : Nat, (k : Int) < rules.toInt → 0 ≤ (I_m 18 k).toInt ∧ (I_m 18 k).toInt < 24) : EffI l g yX11_isTrue wsX11_isTrue 6 [.ref (a_m 0), .int rules, .int many] (wX11 g a_m I_m J_m) (fun (u : (Nat → Nat → Int32)) => wX11 g a_m u J_m) (fun r (u : (Nat → Nat → Int32)) => MI (u) ∧ WK I_m (u) ∧ KK [1] [20, 21] I_m (u) ∧ (r = 0 ∨ r = 1) ∧ ((1 ≤ rules.toInt ∧ 0 ≤ many.toInt ∧ pqM I_m ∧ ∀ k : Nat, (k : Int) < rules.toInt → (I_m 18 k).toInt < (I_m 1 0).toInt) → (r = 1 ∧ tTr (uTM I_m) (I_m 1 6) (rwM (I_m 14) many.toInt.toNat) (tRs (I_m 18) rules.toInt.toNat)) ∨ (r = 0 ∧ ¬ tTr (uTM I_m) (I_m 1 6) (rwM (I_m 14) many.toInt.toNat) (tRs (I_m 18) rules.toInt.toNat)))) := by
  refine EffI.sz (cc := cX11_isTrue) (maxL := 7) (by decide) rfl (Nat.le_of_ble_eq_true rfl) (fun p e s m args below meth c A Q ls fx hK hP hD hA hS hl hret => ?_)
  have hx := fx.1
  have hb := fx.2.1
  have hml := fx.2.2.1
  have hown := fx.2.2.2.1
  have hts := fx.2.2.2.2
  have hl : lv_has ls 7 [(0, .ref (a_m 0)), (1, .int rules), (2, .int many)] := hl
  have hP : va_P g.1 vwCl (wX11 g a_m I_m J_m) s.heap := hP
  have hf_7 := hts _ (uT _ _ u_170)
  have hf_62 := hts _ (uT _ _ u_187)
  have hf_77 := hts _ (uT _ _ u_192)
  have hi_X11 : ∀ w ∈ wsX110, w.before args s = true := fun w h => hts w (uT _ w (u_wsX110 w h))
  have lm1 : (-1 : Int32).toInt = -1 := by decide
  have lm0 : (0 : Int32).toInt = 0 := by decide
  have lm2 : (1 : Int32).toInt = 1 := by decide
  have lq6 : (6 : Int32).toInt = 6 := by decide
  have lq16507 : (16507 : Int32).toInt = 16507 := by decide
  have lq16508 : (16508 : Int32).toInt = 16508 := by decide
  have lq16800 : (16800 : Int32).toInt = 16800 := by decide
  have lq17100 : (17100 : Int32).toInt = 17100 := by decide
  have lq97 : (97 : Int32).toInt = 97 := by decide
  have lq1 : (1 : Int32).toInt = 1 := by decide
  refine lv_iconst (v := 0) hx hb dX11_isTrue_0 (by decide) ?_
  refine lv_istore_n (lv' := [(3, .int (0 : Int32)), (0, .ref (a_m 0)), (1, .int rules), (2, .int many)]) hx hb dX11_isTrue_1 rfl hl (by decide) rfl (fun ls hl => ?_)
  refine lv_iconst (v := 0) hx hb dX11_isTrue_2 (by decide) ?_
  refine lv_istore (lv' := [(4, .int (0 : Int32)), (3, .int (0 : Int32)), (0, .ref (a_m 0)), (1, .int rules), (2, .int many)]) hx hb dX11_isTrue_3 hl (by decide) rfl (fun ls hl => ?_)
  have L5 : ∀ (nn : Nat) (v3_5 : Int32) (v4_5 : Int32) (I_m_5 : Nat → Nat → Int32), (hM_5 : MI I_m_5) → (hw_5 : WK I_m I_m_5) → (hk_5 : KK [1] [20, 21] I_m I_m_5) → (hv_5 : 0 ≤ v4_5.toInt ∧ v4_5.toInt ≤ 20 ∧ 0 ≤ v3_5.toInt ∧ v3_5.toInt ≤ 6 * v4_5.toInt) → (hvr_5 : v4_5.toInt ≤ rules.toInt) → (hL_5 : (1 ≤ rules.toInt ∧ 0 ≤ many.toInt ∧ pqM I_m ∧ ∀ k : Nat, (k : Int) < rules.toInt → (I_m 18 k).toInt < (I_m 1 0).toInt) → v3_5.toInt = ((tWd (uTM I_m) (tRs (I_m 18) v4_5.toInt.toNat)).length : Int) ∧ tTx (I_m_5 1) (tWd (uTM I_m) (tRs (I_m 18) v4_5.toInt.toNat)) v3_5.toInt) → ((21 - v4_5.toInt) < (nn : Int)) → ∀ (H : Heap) (locs : List Loc), va_P g.1 vwCl (wX11 g a_m I_m_5 J_m) H → va_D A (wX11 g a_m I_m_5 J_m) → va_S A s.heap H locs → ∀ ls : Array Slot, lv_has ls 7 [(4, .int v4_5), (3, .int v3_5), (0, .ref (a_m 0)), (1, .int rules), (2, .int many)] → W p l e (rm 6) s m args below meth c H locs 0 0 Q (F0 m 5 ls []) := by
    intro n_5
    induction n_5 with
    | zero =>
      intro v3_5 v4_5 I_m_5 hM_5 hw_5 hk_5 hv_5 hvr_5 hL_5 hms_5 H locs hP hD hS ls hl
      exfalso; omega
    | succ n_5 ih_5 =>
      intro v3_5 v4_5 I_m_5 hM_5 hw_5 hk_5 hv_5 hvr_5 hL_5 hms_5 H locs hP hD hS ls hl
      refine lv_iload hx hb dX11_isTrue_5 (lv_at hl 0 rfl) ?_
      refine lv_iload_n hx hb dX11_isTrue_7 rfl (lv_at hl 3 rfl) ?_
      refine q_icmp_ge (tgt := 81) hx hb dX11_isTrue_8 (by decide) rfl rfl (fun k_8 => ?_) (fun k_8 => ?_)
      · refine lv_aload_n hx hb dX11_isTrue_81 rfl (lv_at hl 2 rfl) ?_
        refine va_get (D := g.1) (ci := 11) (v := .ref (a_m 1)) (C := RX11) (T := TX11) (N := 46) hx hb hi_X11 (fun _ h => h) hown hK.1 hP 0 rfl rfl 0 (by decide) hf_7 (fun _ h9 => h9) rfl dX11_isTrue_82 ?_
        refine lv_sipush (v := 16507) hx hb dX11_isTrue_85 (by decide) ?_
        refine lv_iload_n hx hb dX11_isTrue_88 rfl (lv_at hl 1 rfl) ?_
        have n_89 : vp_in (16507 : Int32) 19800 := (t_in (by decide))
        obtain ⟨f1, e_f1⟩ : ∃ z, z = upd (I_m_5 1) (16507 : Int32).toNatClampNeg v3_5 := ⟨_, rfl⟩
        refine va_iast hx hb hK.1 hP hD hS 1 0 rfl rfl n_89 dX11_isTrue_89 (fun H locs hP hD hS => ?_)
        have hP : va_P g.1 vwCl (wX11 g a_m (uR I_m_5 1 f1) J_m) H := by rw [e_f1]; exact hP
        have hD : va_D A (wX11 g a_m (uR I_m_5 1 f1) J_m) := by rw [e_f1]; exact hD
        have hk_89 : KK [1] [20, 21] I_m (uR I_m_5 1 f1) := KK.ur hk_5 (by decide) (by decide)
        have hw_89 : WK I_m (uR I_m_5 1 f1) := WK.ua hw_5 e_f1 (by decide : (16507 : Int32).toInt = 16507) (by omega)
        have hc_89 : MI (uR I_m_5 1 f1) := hM_5.ub e_f1 (by omega)
        refine lv_aload_n hx hb dX11_isTrue_90 rfl (lv_at hl 2 rfl) ?_
        refine lv_aload_n hx hb dX11_isTrue_91 rfl (lv_at hl 2 rfl) ?_
        refine va_get (D := g.1) (ci := 11) (v := .ref (a_m 1)) (C := RX11) (T := TX11) (N := 46) hx hb hi_X11 (fun _ h => h) hown hK.1 hP 0 rfl rfl 0 (by decide) hf_7 (fun _ h9 => h9) rfl dX11_isTrue_92 ?_
        refine lv_bipush (v := 6) hx hb dX11_isTrue_95 (by decide) ?_
        have n_97 : vp_in (6 : Int32) 19800 := (t_in (by decide))
        refine va_iald hx hb hK.1 hP 1 0 rfl rfl n_97 dX11_isTrue_97 ?_
        refine q_nm (fun x2 e_x2 => ?_)
        have e_x2 : x2 = f1 6 := e_x2
        have g_x2 : x2.toInt = (f1 6).toInt := congrArg _ e_x2
        refine EffI.cv (wr := ([])) (w' := fun u4 => wX11 g a_m u4 J_m) (As := [.int x2]) (kX11_setsAll l g a_m (uR I_m_5 1 f1) J_m x2 hc_89) fx (gUV (uT _) u_700 u_701 u_702 u_5 u_703) rfl hdX11_setsAll ⟨Nat.le_of_ble_eq_true rfl, Nat.le_of_ble_eq_true rfl⟩ hK hP hD hS hA [0, 1, 2, 3, 4, 5, 6, 7, 8, 9, 10, 11, 12, 13, 14, 15, 16, 17, 18, 19, 20, 21, 22] [] [0, 1, 2, 3, 4, 5, 6, 7, 8, 9, 10, 11, 12, 13, 14, 15, 16, 17, 18, 19, 20, 21, 22] rfl rfl rfl rfl (by decide) rfl (fun _ => rfl) rfl rfl rfl rfl hl.1 (Nat.le_of_ble_eq_true rfl) dX11_isTrue_98 (fun r3 u4 H locs p_r3 hP hD hS => ?_)
        have hP : va_P g.1 vwCl (wX11 g a_m u4 J_m) H := hP
        have hD : va_D A (wX11 g a_m u4 J_m) := hD
        have p_r3 : MI u4 ∧ WK (uR I_m_5 1 f1) u4 ∧ KK [1] [20, 21] (uR I_m_5 1 f1) u4 ∧ (r3 = 0 ∨ r3 = 1) ∧ BS (uR I_m_5 1 f1) u4 ∧ (r3 = 1 → WQ u4 ∧ (u4 1 16508).toInt ≤ 1200 ∧ (u4 1 16509).toInt ≤ 150) ∧ (∃ (c v : Int × Int), gRe (uNx (uTM (uR I_m_5 1 f1)) (x2) (uBM (uR I_m_5 1 f1)) (f1 16507).toInt) (0, 0) c ∧ uVd (uTM (uR I_m_5 1 f1)) (x2) (uBM (uR I_m_5 1 f1)) (f1 16507).toInt c v ∧ ((r3 = 1 ∧ v = (0, -1) ∧ (u4 1 16508).toInt = c.2) ∨ (r3 = 0 ∧ v = ((u4 0 20).toInt, (u4 0 21).toInt) ∧ v.1 ≠ 0))) ∧ ((0 < (f1 16507).toInt ∧ tSm (uBM (uR I_m_5 1 f1)) (f1 16507).toInt) → (r3 = 1 ∧ tWs (uTM (uR I_m_5 1 f1)) (x2) (uBM (uR I_m_5 1 f1)) (f1 16507).toInt (u4 1) (f1 16507).toInt) ∨ (r3 = 0 ∧ tWn (uTM (uR I_m_5 1 f1)) (x2) (uBM (uR I_m_5 1 f1)) (f1 16507).toInt)) := p_r3
        have x98 := p_r3.2.2.2.2.2.2.2
        have t98 : uTM (uR I_m_5 1 f1) = uTM I_m := uTM.of hw_89 hM
        have g98 : x2 = I_m 1 6 := (show x2 = (uR I_m_5 1 f1) 1 6 from e_x2).trans (hw_89 6 (by decide))
        have n98 : (f1 16507) = v3_5 := (congrFun e_f1 _).trans (upd_at rfl)
        have f98 : ∀ j : Nat, f1 (16800 + j) = I_m_5 1 (16800 + j) := fun j => (congrFun e_f1 _).trans (pk_un (by show _ ≠ 16507; omega))
        have b98 : ∀ j : Nat, (j : Int) < v3_5.toInt → uBM (uR I_m_5 1 f1) j = (f1 (16800 + j)).toInt := fun j hj => uB.at (F := fun j => (f1 (16800 + j)).toInt) (n := (f1 16507).toInt) (by rw [n98]; exact hj)
        rw [t98, g98, n98] at x98
        have y98 : (1 ≤ rules.toInt ∧ 0 ≤ many.toInt ∧ pqM I_m ∧ ∀ k : Nat, (k : Int) < rules.toInt → (I_m 18 k).toInt < (I_m 1 0).toInt) → (r3 = 1 ∧ ∃ l, tMc (u4 1) l ∧ ∀ row, l = row ↔ tTr (uTM I_m) (I_m 1 6) row (tRs (I_m 18) rules.toInt.toNat)) ∨ (r3 = 0 ∧ ∀ row, ¬ tTr (uTM I_m) (I_m 1 6) row (tRs (I_m 18) rules.toInt.toNat)) := fun w => by have q := hL_5 w; rw [show v4_5.toInt.toNat = rules.toInt.toNat by omega] at q; have eB : ∀ j : Nat, (j : Int) < v3_5.toInt → uBM (uR I_m_5 1 f1) j = tBy (tWd (uTM I_m) (tRs (I_m 18) rules.toInt.toNat)) j := fun j hj => (by rw [b98 j hj, f98 j]; exact q.2.2 j hj); have p9 := tWd.pos (T := (uTM I_m)) (F := (I_m 18)) (k := rules.toInt.toNat) (by have w1 := w.1; omega) (fun i hi => uTM.l1 hM (by have a9 := h_t i (by omega); have b9 := w.2.2.2 i (by omega); omega)); have sm : tSm (uBM (uR I_m_5 1 f1)) v3_5.toInt := fun j hj => (by rw [eB j hj]; exact tBy.lg w.2.2.1 (by omega)); rcases x98 ⟨by omega, sm⟩ with ⟨a, b⟩ | ⟨a, b⟩; (exact Or.inl ⟨a, b.tr q.1 eB⟩); (exact Or.inr ⟨a, fun row => b.tr q.1 eB⟩)
        refine q_if_eq (tgt := 116) hx hb dX11_isTrue_101 (by decide) rfl (fun b_101 k_101 => ?_) (fun b_101 k_101 => ?_)
        · refine lv_iconst (v := 0) hx hb dX11_isTrue_116 (by decide) ?_
          refine hret 117 ls (0 : Int32) _ _ u4 dX11_isTrue_117 (Or.inl rfl) hS hP hD ?_
          exact ⟨(p_r3.1), (WK.tr hw_89 p_r3.2.1), (KK.tr hk_89 p_r3.2.2.1 (by decide) (by decide)), Or.inl rfl, (by exact (fun w => Or.inr ⟨rfl, fun t9 => ((y98 w).resolve_left (fun z => absurd b_101 (by rw [z.1]; decide))).2 _ t9⟩))⟩
        · refine lv_aload_n hx hb dX11_isTrue_104 rfl (lv_at hl 2 rfl) ?_
          refine va_get (D := g.1) (ci := 11) (v := .ref (a_m 1)) (C := RX11) (T := TX11) (N := 46) hx hb hi_X11 (fun _ h => h) hown hK.1 hP 0 rfl rfl 0 (by decide) hf_7 (fun _ h9 => h9) rfl dX11_isTrue_105 ?_
          refine lv_sipush (v := 16508) hx hb dX11_isTrue_108 (by decide) ?_
          have n_111 : vp_in (16508 : Int32) 19800 := (t_in (by decide))
          refine va_iald hx hb hK.1 hP 1 0 rfl rfl n_111 dX11_isTrue_111 ?_
          refine q_nm (fun x5 e_x5 => ?_)
          have e_x5 : x5 = (u4 1) 16508 := e_x5
          have g_x5 : x5.toInt = ((u4 1) 16508).toInt := congrArg _ e_x5
          refine lv_iload_n hx hb dX11_isTrue_112 rfl (lv_at hl 4 rfl) ?_
          refine q_icmp_eq (tgt := 118) hx hb dX11_isTrue_113 (by decide) rfl rfl (fun k_113 => ?_) (fun k_113 => ?_)
          · refine lv_iconst (v := 0) hx hb dX11_isTrue_118 (by decide) ?_
            refine lv_istore (lv' := [(4, .int (0 : Int32)), (3, .int v3_5), (0, .ref (a_m 0)), (1, .int rules), (2, .int many)]) hx hb dX11_isTrue_119 hl (by decide) rfl (fun ls hl => ?_)
            have L121 : ∀ (nn : Nat) (v4_121 : Int32), (hy_121 : 0 ≤ v4_121.toInt ∧ v4_121.toInt ≤ 20) → (hcm_121 : ∀ k : Nat, (k : Int) < v4_121.toInt → u4 1 (17100 + k) = u4 14 k) → ((21 - v4_121.toInt) < (nn : Int)) → ∀ (H : Heap) (locs : List Loc), va_P g.1 vwCl (wX11 g a_m u4 J_m) H → va_D A (wX11 g a_m u4 J_m) → va_S A s.heap H locs → ∀ ls : Array Slot, lv_has ls 7 [(4, .int v4_121), (3, .int v3_5), (0, .ref (a_m 0)), (1, .int rules), (2, .int many)] → W p l e (rm 6) s m args below meth c H locs 0 0 Q (F0 m 121 ls []) := by
              intro n_121
              induction n_121 with
              | zero =>
                intro v4_121 hy_121 hcm_121 hms_121 H locs hP hD hS ls hl
                exfalso; omega
              | succ n_121 ih_121 =>
                intro v4_121 hy_121 hcm_121 hms_121 H locs hP hD hS ls hl
                refine lv_iload hx hb dX11_isTrue_121 (lv_at hl 0 rfl) ?_
                refine lv_iload_n hx hb dX11_isTrue_123 rfl (lv_at hl 4 rfl) ?_
                refine q_icmp_ge (tgt := 156) hx hb dX11_isTrue_124 (by decide) rfl rfl (fun k_124 => ?_) (fun k_124 => ?_)
                · refine lv_iconst (v := 1) hx hb dX11_isTrue_156 (by decide) ?_
                  have lr : (1 : Int32).toInt = 1 := by decide
                  refine hret 157 ls (1 : Int32) _ _ u4 dX11_isTrue_157 (Or.inr rfl) hS hP hD ?_
                  exact ⟨(p_r3.1), (WK.tr hw_89 p_r3.2.1), (KK.tr hk_89 p_r3.2.2.1 (by decide) (by decide)), Or.inr rfl, (fun w => Or.inl ⟨rfl, (by have r14 : u4 14 = I_m 14 := (KK.tr hk_89 p_r3.2.2.1 (by decide) (by decide)).row 14 (by decide); have n111 : (x5).toInt = (u4 1 16508).toInt := congrArg Int32.toInt (show x5 = u4 1 16508 from e_x5); rcases y98 w with ⟨a, l, b, c⟩ | ⟨a, _⟩; (exact (c _).1 (b.eq.2 ⟨by have w1 := w.2.1; omega, fun k hk => by rw [hcm_121 k (by omega), r14]⟩)); (exact absurd a b_101))⟩)⟩
                · refine lv_aload_n hx hb dX11_isTrue_127 rfl (lv_at hl 2 rfl) ?_
                  refine va_get (D := g.1) (ci := 11) (v := .ref (a_m 1)) (C := RX11) (T := TX11) (N := 46) hx hb hi_X11 (fun _ h => h) hown hK.1 hP 0 rfl rfl 0 (by decide) hf_7 (fun _ h9 => h9) rfl dX11_isTrue_128 ?_
                  refine lv_sipush (v := 17100) hx hb dX11_isTrue_131 (by decide) ?_
                  refine lv_iload hx hb dX11_isTrue_134 (lv_at hl 0 rfl) ?_
                  refine r_iadd hx hb dX11_isTrue_136 (by decide : (17100 : Int32).toInt = 17100) rfl (fun x6 e_x6 t_x6 => ?_)
                  try have t_x6 := t_x6 (by omega)
                  have n_137 : vp_in x6 19800 := (t_in (by omega))
                  refine va_iald hx hb hK.1 hP 1 0 rfl rfl n_137 dX11_isTrue_137 ?_
                  refine q_nm (fun x7 e_x7 => ?_)
                  have e_x7 : x7 = (u4 1) x6.toNatClampNeg := e_x7
                  have g_x7 : x7.toInt = ((u4 1) x6.toNatClampNeg).toInt := congrArg _ e_x7
                  refine lv_aload_n hx hb dX11_isTrue_138 rfl (lv_at hl 2 rfl) ?_
                  refine va_get (D := g.1) (ci := 11) (v := .ref (a_m 14)) (C := RX11) (T := TX11) (N := 46) hx hb hi_X11 (fun _ h => h) hown hK.1 hP 0 rfl rfl 32 (by decide) hf_62 (fun _ h9 => h9) rfl dX11_isTrue_139 ?_
                  refine lv_iload hx hb dX11_isTrue_142 (lv_at hl 0 rfl) ?_
                  have n_144 : vp_in v4_121 20 := (t_in (by omega))
                  refine va_iald hx hb hK.1 hP 14 0 rfl rfl n_144 dX11_isTrue_144 ?_
                  refine q_nm (fun x8 e_x8 => ?_)
                  have e_x8 : x8 = (u4 14) v4_121.toNatClampNeg := e_x8
                  have g_x8 : x8.toInt = ((u4 14) v4_121.toNatClampNeg).toInt := congrArg _ e_x8
                  refine q_icmp_eq (tgt := 150) hx hb dX11_isTrue_145 (by decide) rfl rfl (fun k_145 => ?_) (fun k_145 => ?_)
                  · refine r_iinc (lv' := fun i9 => [(4, .int i9), (3, .int v3_5), (0, .ref (a_m 0)), (1, .int rules), (2, .int many)]) hx hb dX11_isTrue_150 hl (k := 0) rfl (by decide) rfl (by decide) (fun _ => rfl) (fun i9 e_i9 t_i9 ls hl => ?_)
                    try have t_i9 := t_i9 (by omega)
                    refine lv_goto (tgt := 121) hx hb dX11_isTrue_153 (by decide) ?_
                    exact ih_121 i9 (by omega) (tq_ext (P := fun k : Nat => u4 1 (17100 + k) = u4 14 k) hcm_121 (by omega) (by omega) (by have c137 : x7 = u4 1 (17100 + v4_121.toInt.toNat) := at_ix (k := 17100 + v4_121.toInt.toNat) e_x7 (by omega); have c144 : x8 = u4 14 v4_121.toInt.toNat := at_ix (k := v4_121.toInt.toNat) e_x8 (by omega); rw [← c137, ← c144]; exact t_inj (by omega))) (by omega) _ _ hP hD hS ls hl
                  · refine lv_iconst (v := 0) hx hb dX11_isTrue_148 (by decide) ?_
                    refine hret 149 ls (0 : Int32) _ _ u4 dX11_isTrue_149 (Or.inl rfl) hS hP hD ?_
                    exact ⟨(p_r3.1), (WK.tr hw_89 p_r3.2.1), (KK.tr hk_89 p_r3.2.2.1 (by decide) (by decide)), Or.inl rfl, (fun w => Or.inr ⟨rfl, fun t9 => (by have r14 : u4 14 = I_m 14 := (KK.tr hk_89 p_r3.2.2.1 (by decide) (by decide)).row 14 (by decide); have c137 : x7 = u4 1 (17100 + v4_121.toInt.toNat) := at_ix (k := 17100 + v4_121.toInt.toNat) e_x7 (by omega); have c144 : x8 = u4 14 v4_121.toInt.toNat := at_ix (k := v4_121.toInt.toNat) e_x8 (by omega); rcases y98 w with ⟨a, l, b, c⟩ | ⟨a, _⟩; (have d9 := (b.eq.1 ((c _).2 t9)).2 v4_121.toInt.toNat (by omega); rw [← r14] at d9; exact k_145 (by rw [c137, c144]; exact d9)); (exact absurd a b_101))⟩)⟩
            exact L121 ((21 - (0 : Int32).toInt) + 1).toNat (0 : Int32) (by omega) (fun k q => by rw [lm0] at q; exfalso; omega) (by omega) _ _ hP hD hS ls hl
          · refine lv_iconst (v := 0) hx hb dX11_isTrue_116 (by decide) ?_
            refine hret 117 ls (0 : Int32) _ _ u4 dX11_isTrue_117 (Or.inl rfl) hS hP hD ?_
            exact ⟨(p_r3.1), (WK.tr hw_89 p_r3.2.1), (KK.tr hk_89 p_r3.2.2.1 (by decide) (by decide)), Or.inl rfl, (by first | exact (fun w => Or.inr ⟨rfl, fun t9 => by have n111 : (x5).toInt = (u4 1 16508).toInt := congrArg Int32.toInt (show x5 = u4 1 16508 from e_x5); rcases y98 w with ⟨a, l, b, c⟩ | ⟨a, _⟩; (have d9 := (b.eq.1 ((c _).2 t9)).1; have w1 := w.2.1; exact k_113 (by omega)); (exact absurd a b_101)⟩) | exact (fun w => Or.inr ⟨rfl, fun t9 => ((y98 w).resolve_left (fun z => absurd b_101 (by rw [z.1]; decide))).2 _ t9⟩))⟩
      · refine lv_iconst (v := 0) hx hb dX11_isTrue_11 (by decide) ?_
        refine lv_aload_n hx hb dX11_isTrue_12 rfl (lv_at hl 2 rfl) ?_
        refine va_get (D := g.1) (ci := 11) (v := .ref (a_m 18)) (C := RX11) (T := TX11) (N := 46) hx hb hi_X11 (fun _ h => h) hown hK.1 hP 0 rfl rfl 38 (by decide) hf_77 (fun _ h9 => h9) rfl dX11_isTrue_13 ?_
        refine lv_iload hx hb dX11_isTrue_16 (lv_at hl 0 rfl) ?_
        have n_18 : vp_in v4_5 21 := (t_in (by omega))
        refine va_iald hx hb hK.1 hP 18 0 rfl rfl n_18 dX11_isTrue_18 ?_
        refine q_nm (fun x10 e_x10 => ?_)
        have e_x10 : x10 = (I_m_5 18) v4_5.toNatClampNeg := e_x10
        have g_x10 : x10.toInt = ((I_m_5 18) v4_5.toNatClampNeg).toInt := congrArg _ e_x10
        have m_x10 : x10 = I_m 18 (v4_5).toInt.toNat := by rw [at_ix (k := (v4_5).toInt.toNat) e_x10 (by omega), hk_5.row 18 (by decide)]
        have f_x10 := h_t (v4_5).toInt.toNat (by omega)
        rw [← m_x10] at f_x10
        refine PurI.cs (C := RX11) (As := [.int (0 : Int32), .int x10]) (kX11_ruleAt l g (0 : Int32) x10 (by omega) (by omega)) fx (gUS (uT _) u_554 u_555 u_5 u_556) rfl hdX11_ruleAt ⟨Nat.le_of_ble_eq_true rfl, Nat.le_of_ble_eq_true rfl⟩ hK hP [] rfl rfl rfl hl.1 (Nat.le_of_ble_eq_true rfl) dX11_isTrue_19 (fun r11 p_r11 => ?_)
        refine lv_istore (lv' := [(5, .int r11), (4, .int v4_5), (3, .int v3_5), (0, .ref (a_m 0)), (1, .int rules), (2, .int many)]) hx hb dX11_isTrue_22 hl (by decide) rfl (fun ls hl => ?_)
        refine lv_iconst (v := 0) hx hb dX11_isTrue_24 (by decide) ?_
        refine lv_istore (lv' := [(6, .int (0 : Int32)), (5, .int r11), (4, .int v4_5), (3, .int v3_5), (0, .ref (a_m 0)), (1, .int rules), (2, .int many)]) hx hb dX11_isTrue_25 hl (by decide) rfl (fun ls hl => ?_)
        have L27 : ∀ (nn : Nat) (v3_27 : Int32) (v6_27 : Int32) (I_m_27 : Nat → Nat → Int32), (hM_27 : MI I_m_27) → (hw_27 : WK I_m I_m_27) → (hk_27 : KK [1] [20, 21] I_m I_m_27) → (hu_27 : 0 ≤ v6_27.toInt ∧ v6_27.toInt ≤ 6 ∧ 0 ≤ v3_27.toInt ∧ v3_27.toInt ≤ 6 * v4_5.toInt + v6_27.toInt) → (hI_27 : (1 ≤ rules.toInt ∧ 0 ≤ many.toInt ∧ pqM I_m ∧ ∀ k : Nat, (k : Int) < rules.toInt → (I_m 18 k).toInt < (I_m 1 0).toInt) → 0 ≤ v6_27.toInt ∧ v6_27.toInt ≤ (uLC (uTM I_m) (I_m 18 v4_5.toInt.toNat).toInt.toNat : Int) ∧ v3_27.toInt = ((tWd (uTM I_m) (tRs (I_m 18) v4_5.toInt.toNat)).length : Int) + v6_27.toInt ∧ tTx (I_m_27 1) ((tWd (uTM I_m) (tRs (I_m 18) v4_5.toInt.toNat)) ++ tLs (uTM I_m) (I_m 18 v4_5.toInt.toNat).toInt.toNat) v3_27.toInt) → ((7 - v6_27.toInt) < (nn : Int)) → ∀ (H : Heap) (locs : List Loc), va_P g.1 vwCl (wX11 g a_m I_m_27 J_m) H → va_D A (wX11 g a_m I_m_27 J_m) → va_S A s.heap H locs → ∀ ls : Array Slot, lv_has ls 7 [(6, .int v6_27), (5, .int r11), (4, .int v4_5), (3, .int v3_27), (0, .ref (a_m 0)), (1, .int rules), (2, .int many)] → W p l e (rm 6) s m args below meth c H locs 0 0 Q (F0 m 27 ls []) := by
          intro n_27
          induction n_27 with
          | zero =>
            intro v3_27 v6_27 I_m_27 hM_27 hw_27 hk_27 hu_27 hI_27 hms_27 H locs hP hD hS ls hl
            exfalso; omega
          | succ n_27 ih_27 =>
            intro v3_27 v6_27 I_m_27 hM_27 hw_27 hk_27 hu_27 hI_27 hms_27 H locs hP hD hS ls hl
            refine lv_iload hx hb dX11_isTrue_27 (lv_at hl 0 rfl) ?_
            refine lv_aload_n hx hb dX11_isTrue_29 rfl (lv_at hl 4 rfl) ?_
            refine va_get (D := g.1) (ci := 11) (v := .ref (a_m 1)) (C := RX11) (T := TX11) (N := 46) hx hb hi_X11 (fun _ h => h) hown hK.1 hP 0 rfl rfl 0 (by decide) hf_7 (fun _ h9 => h9) rfl dX11_isTrue_30 ?_
            refine lv_iload hx hb dX11_isTrue_33 (lv_at hl 1 rfl) ?_
            have n_35 : vp_in r11 19800 := (t_in (by omega))
            refine va_iald hx hb hK.1 hP 1 0 rfl rfl n_35 dX11_isTrue_35 ?_
            refine q_nm (fun x12 e_x12 => ?_)
            have e_x12 : x12 = (I_m_27 1) r11.toNatClampNeg := e_x12
            have g_x12 : x12.toInt = ((I_m_27 1) r11.toNatClampNeg).toInt := congrArg _ e_x12
            have f_x12 := TS.lc hM_27.t0 (r := (x10).toInt) e_x12 (by omega) (by omega)
            refine q_icmp_ge (tgt := 75) hx hb dX11_isTrue_36 (by decide) rfl rfl (fun k_36 => ?_) (fun k_36 => ?_)
            · refine r_iinc (lv' := fun i13 => [(4, .int i13), (6, .int v6_27), (5, .int r11), (3, .int v3_27), (0, .ref (a_m 0)), (1, .int rules), (2, .int many)]) hx hb dX11_isTrue_75 hl (k := 2) rfl (by decide) rfl (by decide) (fun _ => rfl) (fun i13 e_i13 t_i13 ls hl => ?_)
              try have t_i13 := t_i13 (by omega)
              refine lv_goto (tgt := 5) hx hb dX11_isTrue_78 (by decide) ?_
              exact ih_5 v3_27 i13 I_m_27 hM_27 hw_27 hk_27 (by omega) (by omega) (fun w => by have q := hI_27 w; have t9 := h_t v4_5.toInt.toNat (by omega); have hr9 : (((I_m 18 v4_5.toInt.toNat).toInt.toNat : Nat) : Int) < (I_m 1 0).toInt := (by have a9 := h_t v4_5.toInt.toNat (by omega); have b9 := w.2.2.2 v4_5.toInt.toNat (by omega); omega); have lc := uTM.lc (I := I_m) hr9; have n35 : (x12).toInt = (I_m 1 (12 * (I_m 18 v4_5.toInt.toNat).toInt.toNat + 12)).toInt := (by rw [at_ix (k := 12 * (I_m 18 v4_5.toInt.toNat).toInt.toNat + 12) e_x12 (by have a9 := congrArg Int32.toInt m_x10; omega)]; exact congrArg Int32.toInt (hw_27 _ (by omega))); rw [show (i13).toInt.toNat = v4_5.toInt.toNat + 1 by omega, tRs.sn, tWd.sn]; exact ⟨(by rw [List.length_append, tLs.len]; omega), q.2.2.2⟩) (by omega) _ _ hP hD hS ls (lv_sub hl [0, 3, 4, 5, 6] rfl)
            · refine lv_aload_n hx hb dX11_isTrue_39 rfl (lv_at hl 4 rfl) ?_
              refine va_get (D := g.1) (ci := 11) (v := .ref (a_m 1)) (C := RX11) (T := TX11) (N := 46) hx hb hi_X11 (fun _ h => h) hown hK.1 hP 0 rfl rfl 0 (by decide) hf_7 (fun _ h9 => h9) rfl dX11_isTrue_40 ?_
              refine lv_sipush (v := 16800) hx hb dX11_isTrue_43 (by decide) ?_
              refine lv_iload_n hx hb dX11_isTrue_46 rfl (lv_at hl 3 rfl) ?_
              refine r_iadd hx hb dX11_isTrue_47 (by decide : (16800 : Int32).toInt = 16800) rfl (fun x14 e_x14 t_x14 => ?_)
              try have t_x14 := t_x14 (by omega)
              refine lv_bipush (v := 97) hx hb dX11_isTrue_48 (by decide) ?_
              refine lv_aload_n hx hb dX11_isTrue_50 rfl (lv_at hl 4 rfl) ?_
              refine va_get (D := g.1) (ci := 11) (v := .ref (a_m 1)) (C := RX11) (T := TX11) (N := 46) hx hb hi_X11 (fun _ h => h) hown hK.1 hP 0 rfl rfl 0 (by decide) hf_7 (fun _ h9 => h9) rfl dX11_isTrue_51 ?_
              refine lv_iload hx hb dX11_isTrue_54 (lv_at hl 1 rfl) ?_
              refine lv_iconst (v := 1) hx hb dX11_isTrue_56 (by decide) ?_
              refine r_iadd hx hb dX11_isTrue_57 rfl (by decide : (1 : Int32).toInt = 1) (fun x15 e_x15 t_x15 => ?_)
              try have t_x15 := t_x15 (by omega)
              refine lv_iload hx hb dX11_isTrue_58 (lv_at hl 0 rfl) ?_
              refine r_iadd hx hb dX11_isTrue_60 rfl rfl (fun x16 e_x16 t_x16 => ?_)
              try have t_x16 := t_x16 (by omega)
              have n_61 : vp_in x16 19800 := (t_in (by omega))
              refine va_iald hx hb hK.1 hP 1 0 rfl rfl n_61 dX11_isTrue_61 ?_
              refine q_nm (fun x17 e_x17 => ?_)
              have e_x17 : x17 = (I_m_27 1) x16.toNatClampNeg := e_x17
              have g_x17 : x17.toInt = ((I_m_27 1) x16.toNatClampNeg).toInt := congrArg _ e_x17
              refine r_iadd hx hb dX11_isTrue_62 (by decide : (97 : Int32).toInt = 97) rfl (fun x18 e_x18 t_x18 => ?_)
              try have t_x18 := t_x18 (by omega)
              refine lv_iconst (v := 1) hx hb dX11_isTrue_63 (by decide) ?_
              refine r_isub hx hb dX11_isTrue_64 rfl (by decide : (1 : Int32).toInt = 1) (fun x19 e_x19 t_x19 => ?_)
              try have t_x19 := t_x19 (by omega)
              have n_65 : vp_in x14 19800 := (t_in (by omega))
              obtain ⟨f20, e_f20⟩ : ∃ z, z = upd (I_m_27 1) x14.toNatClampNeg x19 := ⟨_, rfl⟩
              refine va_iast hx hb hK.1 hP hD hS 1 0 rfl rfl n_65 dX11_isTrue_65 (fun H locs hP hD hS => ?_)
              have hP : va_P g.1 vwCl (wX11 g a_m (uR I_m_27 1 f20) J_m) H := by rw [e_f20]; exact hP
              have hD : va_D A (wX11 g a_m (uR I_m_27 1 f20) J_m) := by rw [e_f20]; exact hD
              have hc_65 : MI (uR I_m_27 1 f20) := MI.ua hM_27 e_f20 rfl (by omega) (by omega)
              have hk_65 : KK [1] [20, 21] I_m (uR I_m_27 1 f20) := KK.ur hk_27 (by decide) (by decide)
              have hw_65 : WK I_m (uR I_m_27 1 f20) := WK.ua hw_27 e_f20 rfl (by omega)
              refine r_iinc (lv' := fun i21 => [(3, .int i21), (6, .int v6_27), (5, .int r11), (4, .int v4_5), (0, .ref (a_m 0)), (1, .int rules), (2, .int many)]) hx hb dX11_isTrue_66 hl (k := 3) rfl (by decide) rfl (by decide) (fun _ => rfl) (fun i21 e_i21 t_i21 ls hl => ?_)
              try have t_i21 := t_i21 (by omega)
              refine r_iinc (lv' := fun i22 => [(6, .int i22), (3, .int i21), (5, .int r11), (4, .int v4_5), (0, .ref (a_m 0)), (1, .int rules), (2, .int many)]) hx hb dX11_isTrue_69 hl (k := 1) rfl (by decide) rfl (by decide) (fun _ => rfl) (fun i22 e_i22 t_i22 ls hl => ?_)
              try have t_i22 := t_i22 (by omega)
              refine lv_goto (tgt := 27) hx hb dX11_isTrue_72 (by decide) ?_
              exact ih_27 i21 i22 (uR I_m_27 1 f20) hc_65 hw_65 hk_65 (by omega) (fun w => by have q := hI_27 w; have t9 := h_t v4_5.toInt.toNat (by omega); have hr9 : (((I_m 18 v4_5.toInt.toNat).toInt.toNat : Nat) : Int) < (I_m 1 0).toInt := (by have a9 := h_t v4_5.toInt.toNat (by omega); have b9 := w.2.2.2 v4_5.toInt.toNat (by omega); omega); have lc := uTM.lc (I := I_m) hr9; have n35 : (x12).toInt = (I_m 1 (12 * (I_m 18 v4_5.toInt.toNat).toInt.toNat + 12)).toInt := (by rw [at_ix (k := 12 * (I_m 18 v4_5.toInt.toNat).toInt.toNat + 12) e_x12 (by have a9 := congrArg Int32.toInt m_x10; omega)]; exact congrArg Int32.toInt (hw_27 _ (by omega))); have k9 : v6_27.toInt.toNat < uLC (uTM I_m) (I_m 18 v4_5.toInt.toNat).toInt.toNat := (by omega); have lg := uLT.lg (T := (uTM I_m)) (r := (I_m 18 v4_5.toInt.toNat).toInt.toNat) w.2.2.1 k9; have lt := uTM.lt (I := I_m) hr9 (k := v6_27.toInt.toNat) (by omega); have n61 : (x17).toInt = (I_m 1 (12 * (I_m 18 v4_5.toInt.toNat).toInt.toNat + 13 + v6_27.toInt.toNat)).toInt := (by rw [at_ix (k := 12 * (I_m 18 v4_5.toInt.toNat).toInt.toNat + 13 + v6_27.toInt.toNat) e_x17 (by have a9 := congrArg Int32.toInt m_x10; omega)]; exact congrArg Int32.toInt (hw_27 _ (by omega))); have z62 := t_add e_x18 (show (97 : Int32).toInt = 97 from by decide) rfl (by omega); have z64 := t_sub e_x19 rfl lm2 (by omega); exact ⟨by omega, by omega, by omega, tTx.sn (k := v6_27.toInt) q.2.2.2 (by omega) (by omega) (by omega) e_f20 (by omega) (by omega) (by omega)⟩) (by omega) _ _ hP hD hS ls (lv_sub hl [0, 2, 3, 1, 4, 5, 6] rfl)
        exact L27 ((7 - (0 : Int32).toInt) + 1).toNat v3_5 (0 : Int32) I_m_5 hM_5 hw_5 hk_5 (by omega) (fun w => by have q := hL_5 w; rw [lm0]; exact ⟨by omega, by omega, by omega, q.2.up⟩) (by omega) _ _ hP hD hS ls hl
  exact L5 ((21 - (0 : Int32).toInt) + 1).toNat (0 : Int32) (0 : Int32) I_m hM (WK.rf I_m) (KK.rf I_m) (by omega) (by omega) (fun _ => by rw [lm0]; exact ⟨rfl, tTx.in rfl⟩) (by omega) _ _ hP hD hS ls hl
