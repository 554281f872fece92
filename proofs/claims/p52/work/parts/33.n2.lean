set_option maxHeartbeats 4000000 in
set_option maxRecDepth 100000 in
theorem kX11_aRule (l : Launch) (g : gG) (ad av : Nat → Nat) (a_m : Nat → Nat) (I_m : Nat → Nat → Int32) (J_m : Nat → Nat → Int64) (hM : MI I_m) (hN : NS I_m) (h_p : PS I_m) (h17 : (I_m 0 17).toInt = 0) : EffIS l g ad av yX11_aRule wsX11_aRule 6 [.ref (a_m 0)] (wX11 g a_m I_m J_m) (fun (u : (Nat → Nat → Int32)) => wX11 g a_m u J_m) (fun r (u : (Nat → Nat → Int32)) => MI (u) ∧ KK [1] [11, 12, 13, 14, 16, 17] I_m (u) ∧ PQ I_m (u) ∧ (r = 0 ∨ r = 1) ∧ (r = 1 → AD I_m (u)) ∧ NS (u) ∧ fxLow I_m (u) ∧ ∀ p : Int, fxLM I_m p → fxIs (fxKm (I_m 0 11).toInt) (fxWm I_m) 0 → fxMo I_m (u) r p (fxS0M I_m) (fxS0M (u))) := by
  refine EffIS.sz (cc := cX11_aRule) (maxL := 5) (by decide) rfl (Nat.le_of_ble_eq_true rfl) (fun p e s m args below meth c A Q ls fx hK hP hD hA hS hJ hl hret => ?_)
  have hx := fx.1
  have hb := fx.2.1
  have hml := fx.2.2.1
  have hown := fx.2.2.2.1
  have hts := fx.2.2.2.2
  have hl : lv_has ls 5 [(0, .ref (a_m 0))] := hl
  have hP : va_P g.1 vwCl (wX11 g a_m I_m J_m) s.heap := hP
  have hf_7 := hts _ (uT _ _ u_170)
  have hf_131 := hts _ (uT _ _ u_513)
  have hf_138 := hts _ (uT _ _ u_519)
  have hf_141 := hts _ (uT _ _ u_520)
  have hf_144 := hts _ (uT _ _ u_506)
  have hi_X11 : ∀ w ∈ wsX110, w.before args s = true := fun w h => hts w (uT _ w (u_wsX110 w h))
  have lm1 : (-1 : Int32).toInt = -1 := by decide
  have lm0 : (0 : Int32).toInt = 0 := by decide
  have lm2 : (1 : Int32).toInt = 1 := by decide
  have lq2 : (2 : Int32).toInt = 2 := by decide
  have lq3 : (3 : Int32).toInt = 3 := by decide
  have lq4 : (4 : Int32).toInt = 4 := by decide
  have lq5 : (5 : Int32).toInt = 5 := by decide
  have lq6 : (6 : Int32).toInt = 6 := by decide
  have lq7 : (7 : Int32).toInt = 7 := by decide
  have lq10 : (10 : Int32).toInt = 10 := by decide
  have lq13200 : (13200 : Int32).toInt = 13200 := by decide
  have lq24 : (24 : Int32).toInt = 24 := by decide
  have lq63 : (63 : Int32).toInt = 63 := by decide
  refine lv_aload_n hx hb dX11_aRule_0 rfl (lv_at hl 0 rfl) ?_
  refine va_get (D := g.1) (ci := 11) (v := .ref (a_m 1)) (C := RX11) (T := TX11) (N := 46) hx hb hi_X11 (fun _ h => h) hown hK.1 hP 0 rfl rfl 0 (by decide) hf_7 (fun _ h9 => h9) rfl dX11_aRule_1 ?_
  refine lv_sipush (v := 13200) hx hb dX11_aRule_4 (by decide) ?_
  have n_7 : vp_in (13200 : Int32) 19800 := (t_in (by decide))
  refine va_iald hx hb hK.1 hP 1 0 rfl rfl n_7 dX11_aRule_7 ?_
  refine q_nm (fun x1 e_x1 => ?_)
  have e_x1 : x1 = (I_m 1) 13200 := e_x1
  have g_x1 : x1.toInt = ((I_m 1) 13200).toInt := congrArg _ e_x1
  have f_x1 := hN.many e_x1
  have hn7 : (I_m 1 13200).toInt = x1.toInt := congrArg Int32.toInt e_x1.symm
  refine lv_istore_n (lv' := [(1, .int x1), (0, .ref (a_m 0))]) hx hb dX11_aRule_8 rfl hl (by decide) rfl (fun ls hl => ?_)
  refine lv_sipush (v := 13200) hx hb dX11_aRule_9 (by decide) ?_
  refine lv_iload_n hx hb dX11_aRule_12 rfl (lv_at hl 0 rfl) ?_
  refine PurI.cs (C := RX11) (As := [.int (13200 : Int32), .int x1]) (kX11_ruleAt l g (13200 : Int32) x1 (by omega) (by omega)) fx (gUS (uT _) u_554 u_555 u_5 u_556) rfl hdX11_ruleAt ⟨Nat.le_of_ble_eq_true rfl, Nat.le_of_ble_eq_true rfl⟩ hK hP [] rfl rfl rfl hl.1 (Nat.le_of_ble_eq_true rfl) dX11_aRule_13 (fun r2 p_r2 => ?_)
  refine lv_istore_n (lv' := [(2, .int r2), (1, .int x1), (0, .ref (a_m 0))]) hx hb dX11_aRule_16 rfl hl (by decide) rfl (fun ls hl => ?_)
  refine lv_iload_n hx hb dX11_aRule_17 rfl (lv_at hl 1 rfl) ?_
  refine lv_bipush (v := 24) hx hb dX11_aRule_18 (by decide) ?_
  refine q_icmp_ne (tgt := 30) hx hb dX11_aRule_20 (by decide) rfl (by decide : (24 : Int32).toInt = 24) (fun k_20 => ?_) (fun k_20 => ?_)
  · have hA20 : RA I_m ((x1).toInt) 0 0 := RA.mk hN (by rw [← e_x1]) (by omega)
    refine lv_aload_n hx hb dX11_aRule_30 rfl (lv_at hl 2 rfl) ?_
    refine EffV.cv (wr := ([])) (w' := fun u4 => wX11 g a_m u4 J_m) (As := []) (kX11_ahead l g a_m I_m J_m (PQ.rf h_p).1.1) fx (gUV (uT _) u_515 u_516 u_517 u_5 u_518) rfl hdX11_ahead ⟨Nat.le_of_ble_eq_true rfl, Nat.le_of_ble_eq_true rfl⟩ hK hP hD hS hA [0, 1, 2, 3, 4, 5, 6, 7, 8, 9, 10, 11, 12, 13, 14, 15, 16, 17, 18, 19, 20, 21, 22] [] [0, 1, 2, 3, 4, 5, 6, 7, 8, 9, 10, 11, 12, 13, 14, 15, 16, 17, 18, 19, 20, 21, 22] rfl rfl rfl rfl (by decide) rfl (fun _ => rfl) rfl rfl rfl rfl hl.1 (Nat.le_of_ble_eq_true rfl) dX11_aRule_31 (fun u4 H locs p_r3 hP hD hS => ?_)
    have hP : va_P g.1 vwCl (wX11 g a_m u4 J_m) H := hP
    have hD : va_D A (wX11 g a_m u4 J_m) := hD
    have hA31 := hA20.kk p_r3.1 (by decide)
    have hps31 := p_r3.2.1.1.1.1
    have hpt31 := p_r3.2.1.1.1.2
    have hpu31 := p_r3.2.1.1.2.1
    have hpv31 := p_r3.2.1.1.2.2.2
    have hR31 : u4 6 = I_m 6 ∧ u4 0 10 = I_m 0 10 := ⟨(show KK [1] [11, 12, 13, 14, 16, 17] I_m u4 from (KK.tr (KK.rf I_m) p_r3.1 (by decide) (by decide))).row 6 (by decide), (show KK [1] [11, 12, 13, 14, 16, 17] I_m u4 from (KK.tr (KK.rf I_m) p_r3.1 (by decide) (by decide))).num 10 (by decide)⟩
    have hL31 : fxLM u4 (I_m 0 13).toInt := p_r3.2.2
    have h31 : (u4 0 17).toInt = 0 := by rw [p_r3.1.num 17 (by decide)]; exact h17
    have hG31 : ∀ p : Int, fxLM I_m p → fxIs (fxKm (I_m 0 11).toInt) (fxWm I_m) 0 → fxRe (fxBm (I_m 6)) (I_m 0 10).toInt (p, fxS0M I_m) ((I_m 0 13).toInt, (1, 0, (fxTdM (I_m 0 19)), (fxTM (I_m 1) 13200), fxE)) := fun p l hw => fx_tk l p_r3.2.2 rfl rfl fxRe.rf (fx_s1 hw (by rw [fxTM.len]; omega))
    have hF31 : fxRf I_m u4 (x1).toInt := fxRf.kk (fun _ _ => rfl) p_r3.1 (by decide)
    refine lv_aload_n hx hb dX11_aRule_34 rfl (lv_at hl 2 rfl) ?_
    refine va_get (D := g.1) (ci := 11) (v := .int (u4 0 11)) (C := RX11) (T := TX11) (N := 46) hx hb hi_X11 (fun _ h => h) hown hK.1 hP 0 rfl rfl 11 (by decide) hf_144 (fun _ h9 => h9) rfl dX11_aRule_35 ?_
    refine lv_iconst (v := 2) hx hb dX11_aRule_38 (by decide) ?_
    refine q_icmp_ne (tgt := 56) hx hb dX11_aRule_39 (by decide) rfl (by decide : (2 : Int32).toInt = 2) (fun k_39 => ?_) (fun k_39 => ?_)
    · refine lv_aload_n hx hb dX11_aRule_56 rfl (lv_at hl 2 rfl) ?_
      refine lv_iconst (v := 2) hx hb dX11_aRule_57 (by decide) ?_
      refine EffI.cv (wr := ([])) (w' := fun u6 => wX11 g a_m u6 J_m) (As := [.int (2 : Int32)]) (kX11_fails l g a_m u4 J_m (2 : Int32)) fx (gUV (uT _) u_557 u_558 u_559 u_5 u_560) rfl hdX11_fails ⟨Nat.le_of_ble_eq_true rfl, Nat.le_of_ble_eq_true rfl⟩ hK hP hD hS hA [0, 1, 2, 3, 4, 5, 6, 7, 8, 9, 10, 11, 12, 13, 14, 15, 16, 17, 18, 19, 20, 21, 22] [] [0, 1, 2, 3, 4, 5, 6, 7, 8, 9, 10, 11, 12, 13, 14, 15, 16, 17, 18, 19, 20, 21, 22] rfl rfl rfl rfl (by decide) rfl (fun _ => rfl) rfl rfl rfl rfl hl.1 (Nat.le_of_ble_eq_true rfl) dX11_aRule_58 (fun r5 u6 H locs p_r5 hP hD hS => ?_)
      have hP : va_P g.1 vwCl (wX11 g a_m u6 J_m) H := hP
      have hD : va_D A (wX11 g a_m u6 J_m) := hD
      refine hret 61 ls r5 _ _ u6 dX11_aRule_61 (Or.inl p_r5.2.1) hS hP hD ?_
      exact ⟨(MI.kk (MI.kk hM p_r3.1 (by decide) (by decide)) p_r5.1 (by decide) (by decide)), (KK.tr (KK.tr (KK.rf I_m) p_r3.1 (by decide) (by decide)) p_r5.1 (by decide) (by decide)), (PQ.fl (PQ.ah (PQ.rf h_p) p_r3.2.1 p_r3.1 (by decide)) p_r5.1 (by decide) (p_r5.2.2.2 (by decide))), Or.inl p_r5.2.1, fun q => absurd (q.symm.trans p_r5.2.1) (by decide), (hA31.kk p_r5.1 (by decide)).1, (hF31.low (by omega)).kk p_r5.1 (by decide), fun p l hw => fxMo.fail p_r5 h31 (by decide) hL31 hR31.1 hR31.2 (hG31 p l hw) (fun q => (fx_s2f hL31.2.2 q (by omega)).trans (congrArg Sum.inl (by decide)))⟩
    · have he31 := hpv31 k_39
      refine lv_aload_n hx hb dX11_aRule_42 rfl (lv_at hl 2 rfl) ?_
      refine va_get (D := g.1) (ci := 11) (v := .int (u4 0 13)) (C := RX11) (T := TX11) (N := 46) hx hb hi_X11 (fun _ h => h) hown hK.1 hP 0 rfl rfl 13 (by decide) hf_131 (fun _ h9 => h9) rfl dX11_aRule_43 ?_
      refine lv_aload_n hx hb dX11_aRule_46 rfl (lv_at hl 2 rfl) ?_
      refine va_get (D := g.1) (ci := 11) (v := .int (u4 0 12)) (C := RX11) (T := TX11) (N := 46) hx hb hi_X11 (fun _ h => h) hown hK.1 hP 0 rfl rfl 12 (by decide) hf_138 (fun _ h9 => h9) rfl dX11_aRule_47 ?_
      refine r_isub hx hb dX11_aRule_50 rfl rfl (fun x7 e_x7 t_x7 => ?_)
      try have t_x7 := t_x7 (by omega)
      refine lv_bipush (v := 6) hx hb dX11_aRule_51 (by decide) ?_
      refine q_icmp_le (tgt := 62) hx hb dX11_aRule_53 (by decide) rfl (by decide : (6 : Int32).toInt = 6) (fun k_53 => ?_) (fun k_53 => ?_)
      · refine lv_aload_n hx hb dX11_aRule_62 rfl (lv_at hl 2 rfl) ?_
        refine va_get (D := g.1) (ci := 11) (v := .ref (a_m 1)) (C := RX11) (T := TX11) (N := 46) hx hb hi_X11 (fun _ h => h) hown hK.1 hP 0 rfl rfl 0 (by decide) hf_7 (fun _ h9 => h9) rfl dX11_aRule_63 ?_
        refine lv_iload_n hx hb dX11_aRule_66 rfl (lv_at hl 0 rfl) ?_
        refine lv_aload_n hx hb dX11_aRule_67 rfl (lv_at hl 2 rfl) ?_
        refine va_get (D := g.1) (ci := 11) (v := .int (u4 0 13)) (C := RX11) (T := TX11) (N := 46) hx hb hi_X11 (fun _ h => h) hown hK.1 hP 0 rfl rfl 13 (by decide) hf_131 (fun _ h9 => h9) rfl dX11_aRule_68 ?_
        refine lv_aload_n hx hb dX11_aRule_71 rfl (lv_at hl 2 rfl) ?_
        refine va_get (D := g.1) (ci := 11) (v := .int (u4 0 12)) (C := RX11) (T := TX11) (N := 46) hx hb hi_X11 (fun _ h => h) hown hK.1 hP 0 rfl rfl 12 (by decide) hf_138 (fun _ h9 => h9) rfl dX11_aRule_72 ?_
        refine r_isub hx hb dX11_aRule_75 rfl rfl (fun x8 e_x8 t_x8 => ?_)
        try have t_x8 := t_x8 (by omega)
        have n_76 : vp_in r2 19800 := (t_in (by omega))
        obtain ⟨f9, e_f9⟩ : ∃ z, z = upd (u4 1) r2.toNatClampNeg x8 := ⟨_, rfl⟩
        refine va_iast hx hb hK.1 hP hD hS 1 0 rfl rfl n_76 dX11_aRule_76 (fun H locs hP hD hS => ?_)
        have hP : va_P g.1 vwCl (wX11 g a_m (uR u4 1 f9) J_m) H := by rw [e_f9]; exact hP
        have hD : va_D A (wX11 g a_m (uR u4 1 f9) J_m) := by rw [e_f9]; exact hD
        have hc_76 : MI (uR u4 1 f9) := MI.ua (MI.kk hM p_r3.1 (by decide) (by decide)) e_f9 rfl (by omega) (by omega)
        have hk_76 : KK [1] [11, 12, 13, 14, 16, 17] I_m (uR u4 1 f9) := KK.ur (KK.tr (KK.rf I_m) p_r3.1 (by decide) (by decide)) (by decide) (by decide)
        have hp_76 : PQ I_m (uR u4 1 f9) := PQ.ur (PQ.ah (PQ.rf h_p) p_r3.2.1 p_r3.1 (by decide)) (by decide)
        have hA76 : RA (uR u4 1 f9) ((x1).toInt) 1 0 := hA31.put (o := 0) 1 0 e_f9 rfl (by omega) (by omega) (by omega) (by omega) (by omega)
        have hF76 : fxRf I_m (uR u4 1 f9) (x1).toInt := hF31.put e_f9 rfl (by omega) (by omega)
        refine lv_iconst (v := 0) hx hb dX11_aRule_77 (by decide) ?_
        refine lv_istore_n (lv' := [(3, .int (0 : Int32)), (2, .int r2), (1, .int x1), (0, .ref (a_m 0))]) hx hb dX11_aRule_78 rfl hl (by decide) rfl (fun ls hl => ?_)
        have L79 : ∀ (nn : Nat) (v3_79 : Int32) (I_m_79 : Nat → Nat → Int32), (hM_79 : MI I_m_79) → (hk_79 : KK [1] [11, 12, 13, 14, 16, 17] I_m I_m_79) → (hA_79 : RA I_m_79 ((x1).toInt) 1 0) → (hv_79 : 0 ≤ v3_79.toInt ∧ v3_79.toInt ≤ 6) → (hp_79 : PQ I_m I_m_79) → (hL_79 : fxLM I_m_79 (I_m 0 13).toInt) → (hT2_79 : (I_m_79 0 11).toInt = 2 ∧ ((I_m_79 0 13).toInt - (I_m_79 0 12).toInt) ≤ 6) → (hF_79 : fxRf I_m I_m_79 (x1).toInt) → (hS_79 : (I_m_79 1 (13212 + 12 * (x1).toInt.toNat)).toInt = (I_m_79 0 13).toInt - (I_m_79 0 12).toInt ∧ ∀ k : Nat, (k : Int) < v3_79.toInt → (k : Int) < (I_m_79 0 13).toInt - (I_m_79 0 12).toInt → (I_m_79 1 ((13212 + 12 * (x1).toInt.toNat) + 1 + k)).toInt = fxBm (I_m 6) ((I_m_79 0 12).toInt.toNat + k) - 96) → (h7_79 : (I_m_79 0 17).toInt = 0) → ((7 - v3_79.toInt) < (nn : Int)) → ∀ (H : Heap) (locs : List Loc), va_P g.1 vwCl (wX11 g a_m I_m_79 J_m) H → va_D A (wX11 g a_m I_m_79 J_m) → va_S A s.heap H locs → ∀ ls : Array Slot, lv_has ls 5 [(3, .int v3_79), (2, .int r2), (1, .int x1), (0, .ref (a_m 0))] → W p l e (rm 6) s m args below meth c H locs 0 0 Q (F0 m 79 ls []) := by
          intro n_79
          induction n_79 with
          | zero =>
            intro v3_79 I_m_79 hM_79 hk_79 hA_79 hv_79 hp_79 hL_79 hT2_79 hF_79 hS_79 h7_79 hms_79 H locs hP hD hS ls hl
            exfalso; omega
          | succ n_79 ih_79 =>
            intro v3_79 I_m_79 hM_79 hk_79 hA_79 hv_79 hp_79 hL_79 hT2_79 hF_79 hS_79 h7_79 hms_79 H locs hP hD hS ls hl
            have hps79 := hp_79.1.1.1
            have hpt79 := hp_79.1.1.2
            have hpu79 := hp_79.1.2.1
            have hpv79 := hp_79.1.2.2.2
            have hr79 : I_m_79 6 = I_m 6 := hk_79.row 6 (by decide)
            have hz79 : (I_m_79 0 10).toInt = (I_m 0 10).toInt := congrArg Int32.toInt (hk_79.num 10 (by decide))
            have hps79 := hL_79.1.rng
            have hS79 := hS_79.1
            have hT79 := hT2_79.2
            refine lv_iload_n hx hb dX11_aRule_79 rfl (lv_at hl 0 rfl) ?_
            refine lv_bipush (v := 6) hx hb dX11_aRule_80 (by decide) ?_
            refine q_icmp_ge (tgt := 130) hx hb dX11_aRule_82 (by decide) rfl (by decide : (6 : Int32).toInt = 6) (fun k_82 => ?_) (fun k_82 => ?_)
            · refine lv_aload_n hx hb dX11_aRule_130 rfl (lv_at hl 3 rfl) ?_
              refine EffV.cv (wr := ([])) (w' := fun u11 => wX11 g a_m u11 J_m) (As := []) (kX11_ahead l g a_m I_m_79 J_m hp_79.1.1) fx (gUV (uT _) u_515 u_516 u_517 u_5 u_518) rfl hdX11_ahead ⟨Nat.le_of_ble_eq_true rfl, Nat.le_of_ble_eq_true rfl⟩ hK hP hD hS hA [0, 1, 2, 3, 4, 5, 6, 7, 8, 9, 10, 11, 12, 13, 14, 15, 16, 17, 18, 19, 20, 21, 22] [] [0, 1, 2, 3, 4, 5, 6, 7, 8, 9, 10, 11, 12, 13, 14, 15, 16, 17, 18, 19, 20, 21, 22] rfl rfl rfl rfl (by decide) rfl (fun _ => rfl) rfl rfl rfl rfl hl.1 (Nat.le_of_ble_eq_true rfl) dX11_aRule_131 (fun u11 H locs p_r10 hP hD hS => ?_)
              have hP : va_P g.1 vwCl (wX11 g a_m u11 J_m) H := hP
              have hD : va_D A (wX11 g a_m u11 J_m) := hD
              have hA131 := hA_79.kk p_r10.1 (by decide)
              have hR131 : u11 6 = I_m 6 ∧ u11 0 10 = I_m 0 10 := ⟨(show KK [1] [11, 12, 13, 14, 16, 17] I_m u11 from (KK.tr hk_79 p_r10.1 (by decide) (by decide))).row 6 (by decide), (show KK [1] [11, 12, 13, 14, 16, 17] I_m u11 from (KK.tr hk_79 p_r10.1 (by decide) (by decide))).num 10 (by decide)⟩
              have hL131 : fxLM u11 (I_m_79 0 13).toInt := p_r10.2.2
              have h131 : (u11 0 17).toInt = 0 := by rw [p_r10.1.num 17 (by decide)]; exact h7_79
              have hF131 : fxRf I_m u11 (x1).toInt := hF_79.kk p_r10.1 (by decide)
              have hG131 : ∀ p : Int, fxLM I_m p → fxIs (fxKm (I_m 0 11).toInt) (fxWm I_m) 0 → fxRe (fxBm (I_m 6)) (I_m 0 10).toInt (p, fxS0M I_m) ((I_m_79 0 13).toInt, (2, 0, (fxTdM (I_m 0 19)), (fxTM (I_m 1) 13200), (fxLsM (u11 1) (13212 + 12 * (x1).toInt.toNat), [], 0))) := fun p l hw => fx_tk hL_79 p_r10.2.2 hr79 (hk_79.num 10 (by decide)) (hG31 p l hw) (fx_s2 hT2_79.1 hT2_79.2 (by rw [p_r10.1.row 1 (by decide), fx_lsMx hS_79 (by omega)]; unfold fxWm; rw [hr79]))
              refine lv_aload_n hx hb dX11_aRule_134 rfl (lv_at hl 3 rfl) ?_
              refine va_ldcS hx hb hown (jF.l0 hJ) dX11_aRule_135 ?_
              refine lv_bipush (v := 6) hx hb dX11_aRule_137 (by decide) ?_
              refine EffIS.cv (wr := ([])) (w' := fun u13 => wX11 g a_m u13 J_m) (As := [.ref (ad 0), .int (6 : Int32)]) (kX11_wantWord l g ad av a_m u11 J_m 0 (6 : Int32) (by decide) (by omega) (PQ.ah hp_79 p_r10.2.1 p_r10.1 (by decide)).1) fx (gUV (uT _) u_561 u_562 u_563 u_5 u_564) rfl hdX11_wantWord ⟨Nat.le_of_ble_eq_true rfl, Nat.le_of_ble_eq_true rfl⟩ hJ hK hP hD hS hA [0, 1, 2, 3, 4, 5, 6, 7, 8, 9, 10, 11, 12, 13, 14, 15, 16, 17, 18, 19, 20, 21, 22] [] [0, 1, 2, 3, 4, 5, 6, 7, 8, 9, 10, 11, 12, 13, 14, 15, 16, 17, 18, 19, 20, 21, 22] rfl rfl rfl rfl (by decide) rfl (fun _ => rfl) rfl rfl rfl rfl hl.1 (Nat.le_of_ble_eq_true rfl) dX11_aRule_139 (fun r12 u13 H locs p_r12 hP hD hS => ?_)
              have hP : va_P g.1 vwCl (wX11 g a_m u13 J_m) H := hP
              have hD : va_D A (wX11 g a_m u13 J_m) := hD
              have hA139 := hA131.kk p_r12.1 (by decide)
              have hR139 : u13 6 = I_m 6 ∧ u13 0 10 = I_m 0 10 := ⟨(show KK [1] [11, 12, 13, 14, 16, 17] I_m u13 from (KK.tr (KK.tr hk_79 p_r10.1 (by decide) (by decide)) p_r12.1 (by decide) (by decide))).row 6 (by decide), (show KK [1] [11, 12, 13, 14, 16, 17] I_m u13 from (KK.tr (KK.tr hk_79 p_r10.1 (by decide) (by decide)) p_r12.1 (by decide) (by decide))).num 10 (by decide)⟩
              have hF139 : fxRf I_m u13 (x1).toInt := hF131.kk p_r12.1 (by decide)
              have hM139 := p_r12.2.2.2.2 _ (fxTdM (I_m 0 19)) (fxTM (I_m 1) 13200) (fxLsM (u13 1) (13212 + 12 * (x1).toInt.toNat), [], 0) hL131 h131 (by decide)
              have hG139 : ∀ p : Int, fxLM I_m p → fxIs (fxKm (I_m 0 11).toInt) (fxWm I_m) 0 → fxRe (fxBm (I_m 6)) (I_m 0 10).toInt (p, fxS0M I_m) ((I_m_79 0 13).toInt, (2, 0, (fxTdM (I_m 0 19)), (fxTM (I_m 1) 13200), (fxLsM (u13 1) (13212 + 12 * (x1).toInt.toNat), [], 0))) := fun p l hw => by rw [p_r12.1.row 1 (by decide)]; exact hG131 p l hw
              refine q_if_ne (tgt := 147) hx hb dX11_aRule_142 (by decide) rfl (fun b_142 k_142 => ?_) (fun b_142 k_142 => ?_)
              · have hv139 := hM139.one b_142
                refine lv_aload_n hx hb dX11_aRule_147 rfl (lv_at hl 3 rfl) ?_
                refine va_get (D := g.1) (ci := 11) (v := .int (u13 0 11)) (C := RX11) (T := TX11) (N := 46) hx hb hi_X11 (fun _ h => h) hown hK.1 hP 0 rfl rfl 11 (by decide) hf_144 (fun _ h9 => h9) rfl dX11_aRule_148 ?_
                refine lv_iconst (v := 3) hx hb dX11_aRule_151 (by decide) ?_
                refine q_icmp_eq (tgt := 161) hx hb dX11_aRule_152 (by decide) rfl (by decide : (3 : Int32).toInt = 3) (fun k_152 => ?_) (fun k_152 => ?_)
                · refine lv_aload_n hx hb dX11_aRule_161 rfl (lv_at hl 3 rfl) ?_
                  refine va_get (D := g.1) (ci := 11) (v := .ref (a_m 1)) (C := RX11) (T := TX11) (N := 46) hx hb hi_X11 (fun _ h => h) hown hK.1 hP 0 rfl rfl 0 (by decide) hf_7 (fun _ h9 => h9) rfl dX11_aRule_162 ?_
                  refine lv_iload_n hx hb dX11_aRule_165 rfl (lv_at hl 1 rfl) ?_
                  refine lv_bipush (v := 7) hx hb dX11_aRule_166 (by decide) ?_
                  refine r_iadd hx hb dX11_aRule_168 rfl (by decide : (7 : Int32).toInt = 7) (fun x14 e_x14 t_x14 => ?_)
                  try have t_x14 := t_x14 (by omega)
                  refine lv_iconst (v := 0) hx hb dX11_aRule_169 (by decide) ?_
                  have n_170 : vp_in x14 19800 := (t_in (by omega))
                  obtain ⟨f15, e_f15⟩ : ∃ z, z = upd (u13 1) x14.toNatClampNeg (0 : Int32) := ⟨_, rfl⟩
                  refine va_iast hx hb hK.1 hP hD hS 1 0 rfl rfl n_170 dX11_aRule_170 (fun H locs hP hD hS => ?_)
                  have hP : va_P g.1 vwCl (wX11 g a_m (uR u13 1 f15) J_m) H := by rw [e_f15]; exact hP
                  have hD : va_D A (wX11 g a_m (uR u13 1 f15) J_m) := by rw [e_f15]; exact hD
                  have hc_170 : MI (uR u13 1 f15) := MI.ua (MI.kk (MI.kk hM_79 p_r10.1 (by decide) (by decide)) p_r12.1 (by decide) (by decide)) e_f15 rfl (by omega) (by omega)
                  have hk_170 : KK [1] [11, 12, 13, 14, 16, 17] I_m (uR u13 1 f15) := KK.ur (KK.tr (KK.tr hk_79 p_r10.1 (by decide) (by decide)) p_r12.1 (by decide) (by decide)) (by decide) (by decide)
                  have hp_170 : PQ I_m (uR u13 1 f15) := PQ.ur (PQ.tr (PQ.ah hp_79 p_r10.2.1 p_r10.1 (by decide)) p_r12.2.1) (by decide)
                  have hA170 : RA (uR u13 1 f15) ((x1).toInt) 1 0 := hA139.put (o := 7) 1 0 e_f15 rfl (by omega) (by omega) (by omega) (by omega) (by omega)
                  obtain ⟨LS, hLS⟩ : ∃ y : List Int, y = fxLsM ((uR u13 1 f15) 1) (13212 + 12 * (x1).toInt.toNat) := ⟨_, rfl⟩
                  have hLs170 : fxLsM ((uR u13 1 f15) 1) (13212 + 12 * (x1).toInt.toNat) = LS := hLS.symm
                  have hls139 := fxLsM.upd (b := (13212 + 12 * (x1).toInt.toNat)) e_f15 (a := (x1).toInt * 12 + 13219) (by omega) (by omega) hA139.lc.2 (by omega)
                  have hF170 : fxRf I_m (uR u13 1 f15) (x1).toInt := hF139.put e_f15 (a := (x1).toInt * 12 + 13219) (by omega) (by omega) (by omega)
                  have hz170 : ((uR u13 1 f15) 1 ((13212 + 12 * (x1).toInt.toNat) + 7)).toInt = 0 := (congrArg Int32.toInt (fx_atx (b := (13212 + 12 * (x1).toInt.toNat) + 7) e_f15 (by omega))).trans lm0
                  have hq170 : ∃ q aw : Int, ((aw = 3 ∧ ((uR u13 1 f15) 1 ((13212 + 12 * (x1).toInt.toNat) + 7)).toInt = 0) ∨ (aw = 4 ∧ 1 ≤ ((uR u13 1 f15) 1 ((13212 + 12 * (x1).toInt.toNat) + 7)).toInt)) ∧ fxLM (uR u13 1 f15) q ∧ ∀ p : Int, fxLM I_m p → fxIs (fxKm (I_m 0 11).toInt) (fxWm I_m) 0 → fxRe (fxBm (I_m 6)) (I_m 0 10).toInt (p, fxS0M I_m) (q, (aw, 0, (fxTdM (I_m 0 19)), (fxTM (I_m 1) 13200), (LS, fxCsM ((uR u13 1 f15) 1) (13212 + 12 * (x1).toInt.toNat), 0))) := (by obtain ⟨_, q3, g3, l3⟩ := hv139; exact ⟨q3, 3, Or.inl ⟨rfl, hz170⟩, l3.of rfl rfl rfl rfl rfl rfl, fun p l hw => by rw [fxCsM.nil (A := (uR u13 1 f15) 1) (b := (13212 + 12 * (x1).toInt.toNat)) (by omega), ← hLs170, show fxLsM ((uR u13 1 f15) 1) (13212 + 12 * (x1).toInt.toNat) = _ from hls139]; rw [hR131.1, hR131.2] at g3; exact (hG139 p l hw).tr g3⟩)
                  have L171 : ∀ (nn : Nat) (I_m_171 : Nat → Nat → Int32), (hM_171 : MI I_m_171) → (hk_171 : KK [1] [11, 12, 13, 14, 16, 17] I_m I_m_171) → (hA_171 : RA I_m_171 ((x1).toInt) 1 0) → (hc_171 : (I_m_171 0 11).toInt = 3 ∨ 1 ≤ (I_m_171 1 (13219 + 12 * ((x1).toInt).toNat)).toInt) → (hp_171 : PQ I_m I_m_171) → (hF_171 : fxRf I_m I_m_171 (x1).toInt) → (hLs_171 : fxLsM (I_m_171 1) (13212 + 12 * (x1).toInt.toNat) = LS) → (hq_171 : ∃ q aw : Int, ((aw = 3 ∧ (I_m_171 1 ((13212 + 12 * (x1).toInt.toNat) + 7)).toInt = 0) ∨ (aw = 4 ∧ 1 ≤ (I_m_171 1 ((13212 + 12 * (x1).toInt.toNat) + 7)).toInt)) ∧ fxLM I_m_171 q ∧ ∀ p : Int, fxLM I_m p → fxIs (fxKm (I_m 0 11).toInt) (fxWm I_m) 0 → fxRe (fxBm (I_m 6)) (I_m 0 10).toInt (p, fxS0M I_m) (q, (aw, 0, (fxTdM (I_m 0 19)), (fxTM (I_m 1) 13200), (LS, fxCsM (I_m_171 1) (13212 + 12 * (x1).toInt.toNat), 0)))) → (h7_171 : (I_m_171 0 17).toInt = 0) → ((4 - (I_m_171 1 (13219 + 12 * ((x1).toInt).toNat)).toInt) < (nn : Int)) → ∀ (H : Heap) (locs : List Loc), va_P g.1 vwCl (wX11 g a_m I_m_171 J_m) H → va_D A (wX11 g a_m I_m_171 J_m) → va_S A s.heap H locs → ∀ ls : Array Slot, lv_has ls 5 [(3, .int v3_79), (2, .int r2), (1, .int x1), (0, .ref (a_m 0))] → W p l e (rm 6) s m args below meth c H locs 0 0 Q (F0 m 171 ls []) := by
                    intro n_171
                    induction n_171 with
                    | zero =>
                      intro I_m_171 hM_171 hk_171 hA_171 hc_171 hp_171 hF_171 hLs_171 hq_171 h7_171 hms_171 H locs hP hD hS ls hl
                      have q171 := RA.cb hA_171; exfalso; omega
                    | succ n_171 ih_171 =>
                      intro I_m_171 hM_171 hk_171 hA_171 hc_171 hp_171 hF_171 hLs_171 hq_171 h7_171 hms_171 H locs hP hD hS ls hl
                      obtain ⟨q9, aw9, haw9, hL9, hG9⟩ := hq_171
                      have hR171 : I_m_171 6 = I_m 6 ∧ I_m_171 0 10 = I_m 0 10 := ⟨hk_171.row 6 (by decide), hk_171.num 10 (by decide)⟩
                      have hqA171 := RA.cb hA_171
                      have hcc171 : (I_m_171 1 ((13212 + 12 * (x1).toInt.toNat) + 7)).toInt = (I_m_171 1 (13219 + 12 * ((x1).toInt).toNat)).toInt := by rw [show (13212 + 12 * (x1).toInt.toNat) + 7 = (13219 + 12 * ((x1).toInt).toNat) by omega]
                      have hlc171 : (I_m_171 1 (13212 + 12 * (x1).toInt.toNat)).toInt ≤ 6 := by have w := (hA_171.1.1.2.2.2.2.1 (x1).toInt.toNat (by have := hA_171.2.2.1; omega)).1.2; rwa [show 13200 + (12 * (x1).toInt.toNat + 12) = (13212 + 12 * (x1).toInt.toNat) by omega] at w
                      have hps171 := hL9.2.2
                      refine lv_aload_n hx hb dX11_aRule_171 rfl (lv_at hl 3 rfl) ?_
                      refine va_get (D := g.1) (ci := 11) (v := .int (I_m_171 0 11)) (C := RX11) (T := TX11) (N := 46) hx hb hi_X11 (fun _ h => h) hown hK.1 hP 0 rfl rfl 11 (by decide) hf_144 (fun _ h9 => h9) rfl dX11_aRule_172 ?_
                      refine lv_iconst (v := 3) hx hb dX11_aRule_175 (by decide) ?_
                      refine q_icmp_ne (tgt := 266) hx hb dX11_aRule_176 (by decide) rfl (by decide : (3 : Int32).toInt = 3) (fun k_176 => ?_) (fun k_176 => ?_)
                      · have hB176 : RA I_m_171 ((x1).toInt) 1 1 := hA_171.up (by rcases hc_171 with q | q; exfalso; omega; exact q)
                        have haw9 : aw9 = 4 ∧ 1 ≤ (I_m_171 1 (13219 + 12 * ((x1).toInt).toNat)).toInt := (by rcases haw9 with w | w; (exfalso; rcases hc_171 with q | q; omega; omega); exact ⟨w.1, by omega⟩)
                        refine lv_aload_n hx hb dX11_aRule_266 rfl (lv_at hl 3 rfl) ?_
                        refine va_ldcS hx hb hown (jF.l0 hJ) dX11_aRule_267 ?_
                        refine PurIS.cv (As := [.ref (ad 0)]) (kX11_inWords l g ad av a_m I_m_171 J_m 0 (by decide) hp_171.1 (by omega)) fx (gUV (uT _) u_544 u_545 u_546 u_5 u_547) rfl hdX11_inWords ⟨Nat.le_of_ble_eq_true rfl, Nat.le_of_ble_eq_true rfl⟩ hJ hS hK hP [0, 1, 2, 3, 4, 5, 6, 7, 8, 9, 10, 11, 12, 13, 14, 15, 16, 17, 18, 19, 20, 21, 22] rfl rfl rfl rfl rfl hl.1 (Nat.le_of_ble_eq_true rfl) dX11_aRule_269 (fun r16 p_r16 => ?_)
                        refine lv_istore_n (lv' := [(3, .int r16), (2, .int r2), (1, .int x1), (0, .ref (a_m 0))]) hx hb dX11_aRule_272 rfl hl (by decide) rfl (fun ls hl => ?_)
                        refine lv_aload_n hx hb dX11_aRule_273 rfl (lv_at hl 3 rfl) ?_
                        refine va_get (D := g.1) (ci := 11) (v := .ref (a_m 1)) (C := RX11) (T := TX11) (N := 46) hx hb hi_X11 (fun _ h => h) hown hK.1 hP 0 rfl rfl 0 (by decide) hf_7 (fun _ h9 => h9) rfl dX11_aRule_274 ?_
                        refine lv_iload_n hx hb dX11_aRule_277 rfl (lv_at hl 1 rfl) ?_
                        refine lv_bipush (v := 11) hx hb dX11_aRule_278 (by decide) ?_
                        refine r_iadd hx hb dX11_aRule_280 rfl (by decide : (11 : Int32).toInt = 11) (fun x17 e_x17 t_x17 => ?_)
                        try have t_x17 := t_x17 (by omega)
                        refine lv_iload_n hx hb dX11_aRule_281 rfl (lv_at hl 0 rfl) ?_
                        refine lv_bipush (v := 7) hx hb dX11_aRule_282 (by decide) ?_
                        refine q_icmp_lt (tgt := 302) hx hb dX11_aRule_284 (by decide) rfl (by decide : (7 : Int32).toInt = 7) (fun k_284 => ?_) (fun k_284 => ?_)
                        · refine lv_iconst (v := 0) hx hb dX11_aRule_302 (by decide) ?_
                          have n_303 : vp_in x17 19800 := (t_in (by omega))
                          obtain ⟨f18, e_f18⟩ : ∃ z, z = upd (I_m_171 1) x17.toNatClampNeg (0 : Int32) := ⟨_, rfl⟩
                          refine va_iast hx hb hK.1 hP hD hS 1 0 rfl rfl n_303 dX11_aRule_303 (fun H locs hP hD hS => ?_)
                          have hP : va_P g.1 vwCl (wX11 g a_m (uR I_m_171 1 f18) J_m) H := by rw [e_f18]; exact hP
                          have hD : va_D A (wX11 g a_m (uR I_m_171 1 f18) J_m) := by rw [e_f18]; exact hD
                          have hc_303 : MI (uR I_m_171 1 f18) := MI.ua hM_171 e_f18 rfl (by omega) (by omega)
                          have hk_303 : KK [1] [11, 12, 13, 14, 16, 17] I_m (uR I_m_171 1 f18) := KK.ur hk_171 (by decide) (by decide)
                          have hp_303 : PQ I_m (uR I_m_171 1 f18) := PQ.ur hp_171 (by decide)
                          have hB303 : RA (uR I_m_171 1 f18) ((x1).toInt) 1 1 := hB176.put (o := 11) 1 1 e_f18 rfl (by omega) (by omega) (by omega) (by omega) (by omega)
                          have hF303 : fxRf I_m (uR I_m_171 1 f18) (x1).toInt := hF_171.put e_f18 (a := (x1).toInt * 12 + 13223) (by omega) (by omega) (by omega)
                          have hls303 : fxLsM ((uR I_m_171 1 f18) 1) (13212 + 12 * (x1).toInt.toNat) = LS := (fxLsM.upd (b := (13212 + 12 * (x1).toInt.toNat)) e_f18 (a := (x1).toInt * 12 + 13223) (by omega) (by omega) hlc171 (by omega)).trans hLs_171
                          have hcs303 : fxCsM ((uR I_m_171 1 f18) 1) (13212 + 12 * (x1).toInt.toNat) = fxCsM (I_m_171 1) (13212 + 12 * (x1).toInt.toNat) := fxCsM.upd (b := (13212 + 12 * (x1).toInt.toNat)) e_f18 (a := (x1).toInt * 12 + 13223) (by omega) (by omega) (by omega) (by omega)
                          have hcd303 : ((uR I_m_171 1 f18) 1 ((13212 + 12 * (x1).toInt.toNat) + 11)).toInt = ((0 : Int32)).toInt := congrArg Int32.toInt (fx_atx (b := (13212 + 12 * (x1).toInt.toNat) + 11) e_f18 (by omega))
                          refine lv_aload_n hx hb dX11_aRule_304 rfl (lv_at hl 3 rfl) ?_
                          refine va_get (D := g.1) (ci := 11) (v := .ref (a_m 1)) (C := RX11) (T := TX11) (N := 46) hx hb hi_X11 (fun _ h => h) hown hK.1 hP 0 rfl rfl 0 (by decide) hf_7 (fun _ h9 => h9) rfl dX11_aRule_305 ?_
                          refine lv_iload_n hx hb dX11_aRule_308 rfl (lv_at hl 1 rfl) ?_
                          refine lv_bipush (v := 11) hx hb dX11_aRule_309 (by decide) ?_
                          refine r_iadd hx hb dX11_aRule_311 rfl (by decide : (11 : Int32).toInt = 11) (fun x19 e_x19 t_x19 => ?_)
                          try have t_x19 := t_x19 (by omega)
                          have n_312 : vp_in x19 19800 := (t_in (by omega))
                          refine va_iald hx hb hK.1 hP 1 0 rfl rfl n_312 dX11_aRule_312 ?_
                          refine q_nm (fun x20 e_x20 => ?_)
                          have e_x20 : x20 = f18 x19.toNatClampNeg := e_x20
                          have g_x20 : x20.toInt = (f18 x19.toNatClampNeg).toInt := congrArg _ e_x20
                          have hrd312 : (x20).toInt = (f18 ((13212 + 12 * (x1).toInt.toNat) + 11)).toInt := congrArg Int32.toInt (at_ix (k := (13212 + 12 * (x1).toInt.toNat) + 11) e_x20 (by omega))
                          have hcf303 : (f18 ((13212 + 12 * (x1).toInt.toNat) + 11)).toInt = ((0 : Int32)).toInt := hcd303
                          refine q_if_le (tgt := 320) hx hb dX11_aRule_313 (by decide) rfl (fun k_313 => ?_) (fun k_313 => ?_)
                          · have hB317 := hB303
                            have hR317 : (uR I_m_171 1 f18) 6 = I_m 6 ∧ (uR I_m_171 1 f18) 0 10 = I_m 0 10 := hR171
                            have hF317 := hF303
                            have h317 : ((uR I_m_171 1 f18) 0 17).toInt = 0 := h7_171
                            have hE317 : ∃ q aw : Int, ((aw = 4 ∧ fxKm ((uR I_m_171 1 f18) 0 11).toInt ≠ 1 ∧ ∀ k : Nat, 7 ≤ k → k ≤ 10 → ¬ (fxKm ((uR I_m_171 1 f18) 0 11).toInt = 0 ∧ fxWm (uR I_m_171 1 f18) = fxK k)) ∨ aw = 5) ∧ fxLM (uR I_m_171 1 f18) q ∧ ∀ p : Int, fxLM I_m p → fxIs (fxKm (I_m 0 11).toInt) (fxWm I_m) 0 → fxRe (fxBm (I_m 6)) (I_m 0 10).toInt (p, fxS0M I_m) (q, (aw, 0, (fxTdM (I_m 0 19)), (fxTM (I_m 1) 13200), (fxLsM ((uR I_m_171 1 f18) 1) (13212 + 12 * (x1).toInt.toNat), fxCsM ((uR I_m_171 1 f18) 1) (13212 + 12 * (x1).toInt.toNat), ((uR I_m_171 1 f18) 1 ((13212 + 12 * (x1).toInt.toNat) + 11)).toInt))) := (by first | (exfalso; omega) | exact ⟨q9, 4, Or.inl ⟨rfl, fun z => absurd ((fxKm_all hL9.2.2).2.2.2.1.mpr z) (by omega), fx_nc p_r16 (by omega)⟩, hL9.of rfl rfl rfl rfl rfl rfl, fun p l hw => by rw [hls303, hcs303, hcd303, show (((0 : Int32) : Int32)).toInt = 0 from lm0]; have w := hG9 p l hw; rw [haw9.1] at w; exact w⟩)
                            refine lv_aload_n hx hb dX11_aRule_320 rfl (lv_at hl 3 rfl) ?_
                            refine lv_bipush (v := 59) hx hb dX11_aRule_321 (by decide) ?_
                            refine PurI.cv (As := [.int (59 : Int32)]) (kX11_isSign l g a_m (uR I_m_171 1 f18) J_m (59 : Int32)) fx (gUV (uT _) u_565 u_566 u_567 u_5 u_568) rfl hdX11_isSign ⟨Nat.le_of_ble_eq_true rfl, Nat.le_of_ble_eq_true rfl⟩ hK hP [0, 1, 2, 3, 4, 5, 6, 7, 8, 9, 10, 11, 12, 13, 14, 15, 16, 17, 18, 19, 20, 21, 22] rfl rfl rfl rfl rfl hl.1 (Nat.le_of_ble_eq_true rfl) dX11_aRule_323 (fun r21 p_r21 => ?_)
                            have p_r21 : bP ((I_m_171 0 11).toInt = 4 ∧ (I_m_171 0 14).toInt = ((59 : Int32)).toInt) (¬ ((I_m_171 0 11).toInt = 4 ∧ (I_m_171 0 14).toInt = ((59 : Int32)).toInt)) r21 := p_r21
                            refine q_if_ne (tgt := 335) hx hb dX11_aRule_326 (by decide) rfl (fun b_326 k_326 => ?_) (fun b_326 k_326 => ?_)
                            · have q_326 := bP.t p_r21 b_326
                              obtain ⟨q5, aw5, haw5, hL5, hG5⟩ := hE317
                              refine lv_iconst (v := 0) hx hb dX11_aRule_335 (by decide) ?_
                              refine lv_istore (lv' := [(4, .int (0 : Int32)), (3, .int r16), (2, .int r2), (1, .int x1), (0, .ref (a_m 0))]) hx hb dX11_aRule_336 hl (by decide) rfl (fun ls hl => ?_)
                              have L338 : ∀ (nn : Nat) (v4_338 : Int32), (hv_338 : 0 ≤ v4_338.toInt ∧ v4_338.toInt ≤ (x1).toInt) → (hno_338 : ∀ r : Nat, (r : Int) < v4_338.toInt → ¬ (fxLsM ((uR I_m_171 1 f18) 1) (13212 + 12 * r) = fxLsM ((uR I_m_171 1 f18) 1) (13212 + 12 * (x1).toInt.toNat) ∧ ((uR I_m_171 1 f18) 1 (13212 + 12 * r + 11)).toInt = ((uR I_m_171 1 f18) 1 ((13212 + 12 * (x1).toInt.toNat) + 11)).toInt)) → ((25 - v4_338.toInt) < (nn : Int)) → ∀ (H : Heap) (locs : List Loc), va_P g.1 vwCl (wX11 g a_m (uR I_m_171 1 f18) J_m) H → va_D A (wX11 g a_m (uR I_m_171 1 f18) J_m) → va_S A s.heap H locs → ∀ ls : Array Slot, lv_has ls 5 [(4, .int v4_338), (3, .int r16), (2, .int r2), (1, .int x1), (0, .ref (a_m 0))] → W p l e (rm 6) s m args below meth c H locs 0 0 Q (F0 m 338 ls []) := by
                                intro n_338
                                induction n_338 with
                                | zero =>
                                  intro v4_338 hv_338 hno_338 hms_338 H locs hP hD hS ls hl
                                  exfalso; omega
                                | succ n_338 ih_338 =>
                                  intro v4_338 hv_338 hno_338 hms_338 H locs hP hD hS ls hl
                                  refine lv_iload hx hb dX11_aRule_338 (lv_at hl 0 rfl) ?_
                                  refine lv_iload_n hx hb dX11_aRule_340 rfl (lv_at hl 3 rfl) ?_
                                  refine q_icmp_ge (tgt := 372) hx hb dX11_aRule_341 (by decide) rfl rfl (fun k_341 => ?_) (fun k_341 => ?_)
                                  · obtain ⟨cu5, hcu5⟩ : ∃ y : fxR, y = (fxLsM ((uR I_m_171 1 f18) 1) (13212 + 12 * (x1).toInt.toNat), fxCsM ((uR I_m_171 1 f18) 1) (13212 + 12 * (x1).toInt.toNat), ((uR I_m_171 1 f18) 1 ((13212 + 12 * (x1).toInt.toNat) + 11)).toInt) := ⟨_, rfl⟩
                                    have hT5 := (hF317.T hN.1 hn7)
                                    have hcn5 : ((uR I_m_171 1 f18) 1 13200).toInt = (I_m 1 13200).toInt := congrArg Int32.toInt (hF317 13200 (by omega))
                                    have hru5 : fxRule (fxTdM (I_m 0 19)) (fxTM (I_m 1) 13200) cu5 = .inr (0, 0, (fxTdM (I_m 0 19)), ((fxTM (I_m 1) 13200).1, (fxTM (I_m 1) 13200).2 ++ [cu5]), fxE) := (by rw [hcu5, ← hT5]; exact fxRule.newM (n := (x1).toInt.toNat) (by omega) (fun r hr => hno_338 r (by omega)))
                                    refine lv_aload_n hx hb dX11_aRule_372 rfl (lv_at hl 4 rfl) ?_
                                    refine va_get (D := g.1) (ci := 11) (v := .ref (a_m 1)) (C := RX11) (T := TX11) (N := 46) hx hb hi_X11 (fun _ h => h) hown hK.1 hP 0 rfl rfl 0 (by decide) hf_7 (fun _ h9 => h9) rfl dX11_aRule_373 ?_
                                    refine lv_sipush (v := 13200) hx hb dX11_aRule_376 (by decide) ?_
                                    refine lv_dup2_11 hx hb dX11_aRule_379 rfl rfl ?_
                                    have n_380 : vp_in (13200 : Int32) 19800 := (t_in (by decide))
                                    refine va_iald hx hb hK.1 hP 1 0 rfl rfl n_380 dX11_aRule_380 ?_
                                    refine q_nm (fun x22 e_x22 => ?_)
                                    have e_x22 : x22 = f18 13200 := e_x22
                                    have g_x22 : x22.toInt = (f18 13200).toInt := congrArg _ e_x22
                                    have hbm : x22.toInt = ((x1).toInt) := by rw [e_x22]; exact hB317.2.1
                                    refine lv_iconst (v := 1) hx hb dX11_aRule_381 (by decide) ?_
                                    refine r_iadd hx hb dX11_aRule_382 rfl (by decide : (1 : Int32).toInt = 1) (fun x23 e_x23 t_x23 => ?_)
                                    try have t_x23 := t_x23 (by omega)
                                    have n_383 : vp_in (13200 : Int32) 19800 := (t_in (by decide))
                                    obtain ⟨f24, e_f24⟩ : ∃ z, z = upd f18 (13200 : Int32).toNatClampNeg x23 := ⟨_, rfl⟩
                                    refine va_iast hx hb hK.1 hP hD hS 1 0 rfl rfl n_383 dX11_aRule_383 (fun H locs hP hD hS => ?_)
                                    have hP : va_P g.1 vwCl (wX11 g a_m (uR (uR I_m_171 1 f18) 1 f24) J_m) H := by rw [e_f24]; exact hP
                                    have hD : va_D A (wX11 g a_m (uR (uR I_m_171 1 f18) 1 f24) J_m) := by rw [e_f24]; exact hD
                                    have hc_383 : MI (uR (uR I_m_171 1 f18) 1 f24) := MI.ua hc_303 e_f24 (by decide : (13200 : Int32).toInt = 13200) (by omega) (by omega)
                                    have hk_383 : KK [1] [11, 12, 13, 14, 16, 17] I_m (uR (uR I_m_171 1 f18) 1 f24) := KK.ur hk_303 (by decide) (by decide)
                                    have hp_383 : PQ I_m (uR (uR I_m_171 1 f18) 1 f24) := PQ.ur hp_303 (by decide)
                                    have hN383 : NS (uR (uR I_m_171 1 f18) 1 f24) := hB317.fin e_f24 (by omega)
                                    refine lv_aload_n hx hb dX11_aRule_384 rfl (lv_at hl 4 rfl) ?_
                                    refine lv_bipush (v := 59) hx hb dX11_aRule_385 (by decide) ?_
                                    have hq387 : PQ I_m (uR (uR I_m_171 1 f18) 1 f24) := hp_383
                                    have hT383 : fxTM ((uR (uR I_m_171 1 f18) 1 f24) 1) 13200 = ((fxTM (I_m 1) 13200).1, (fxTM (I_m 1) 13200).2 ++ [cu5]) := (by rw [hcu5, ← hT5]; exact fxTM.add hB317.1.1 (hcn5.trans hn7) (uR_eq.trans e_f24) (by omega) (by omega))
                                    have hL387 : fxLM (uR (uR I_m_171 1 f18) 1 f24) q5 := hL5.of rfl rfl rfl rfl rfl rfl
                                    have hR387 : (uR (uR I_m_171 1 f18) 1 f24) 6 = I_m 6 ∧ (uR (uR I_m_171 1 f18) 1 f24) 0 10 = I_m 0 10 := hR317
                                    refine EffI.cv (wr := ([])) (w' := fun u26 => wX11 g a_m u26 J_m) (As := [.int (59 : Int32)]) (kX11_wantSign l g a_m (uR (uR I_m_171 1 f18) 1 f24) J_m (59 : Int32) hp_383.1) fx (gUV (uT _) u_573 u_574 u_575 u_5 u_576) rfl hdX11_wantSign ⟨Nat.le_of_ble_eq_true rfl, Nat.le_of_ble_eq_true rfl⟩ hK hP hD hS hA [0, 1, 2, 3, 4, 5, 6, 7, 8, 9, 10, 11, 12, 13, 14, 15, 16, 17, 18, 19, 20, 21, 22] [] [0, 1, 2, 3, 4, 5, 6, 7, 8, 9, 10, 11, 12, 13, 14, 15, 16, 17, 18, 19, 20, 21, 22] rfl rfl rfl rfl (by decide) rfl (fun _ => rfl) rfl rfl rfl rfl hl.1 (Nat.le_of_ble_eq_true rfl) dX11_aRule_387 (fun r25 u26 H locs p_r25 hP hD hS => ?_)
                                    have hP : va_P g.1 vwCl (wX11 g a_m u26 J_m) H := hP
                                    have hD : va_D A (wX11 g a_m u26 J_m) := hD
                                    have p_r25 : KK [] [11, 12, 13, 14, 16, 17] (uR (uR I_m_171 1 f18) 1 f24) u26 ∧ PQ (uR (uR I_m_171 1 f18) 1 f24) u26 ∧ (r25 = 0 ∨ r25 = 1) ∧ (r25 = 1 → AD (uR (uR I_m_171 1 f18) 1 f24) u26) ∧ ∀ (p : Int) (S S' : fxS), fxLM (uR (uR I_m_171 1 f18) 1 f24) p → (I_m_171 0 17).toInt = 0 → ((59 : Int32)).toInt = 59 → ((I_m_171 0 11).toInt = 4 → ∀ va : Int, fxSt 2 (fxWm (uR (uR I_m_171 1 f18) 1 f24)) va S = .inr S') → ((I_m_171 0 11).toInt ≠ 4 → (I_m_171 0 11).toInt ≠ 1 → fxSt (fxKm (I_m_171 0 11).toInt) (fxWm (uR (uR I_m_171 1 f18) 1 f24)) (I_m_171 0 14).toInt S = .inl 2) → fxMo (uR (uR I_m_171 1 f18) 1 f24) u26 r25 p S S' := p_r25
                                    have hfin387 : ∀ p : Int, fxLM I_m p → fxIs (fxKm (I_m 0 11).toInt) (fxWm I_m) 0 → fxMo I_m u26 r25 p (fxS0M I_m) (fxS0M u26) := fun p l hw => ((p_r25.2.2.2.2 q5 (aw5, 0, (fxTdM (I_m 0 19)), (fxTM (I_m 1) 13200), cu5) (0, 0, (fxTdM (I_m 0 19)), ((fxTM (I_m 1) 13200).1, (fxTM (I_m 1) 13200).2 ++ [cu5]), fxE) hL387 h317 (by decide) (fun _ va => by rw [fx_st45 (haw5.imp And.left id) rfl]; exact hru5) (fun z => absurd q_326.1 z)).then hR387.1 hR387.2 (by rw [hcu5]; exact hG5 p l hw)).as (by rw [← hT383]; unfold fxS0M; rw [p_r25.1.row 1 (by decide), (show KK [1] [11, 12, 13, 14, 16, 17] I_m u26 from (KK.tr hk_383 p_r25.1 (by decide) (by decide))).num 19 (by decide)])
                                    refine hret 390 ls r25 _ _ u26 dX11_aRule_390 p_r25.2.2.1 hS hP hD ?_
                                    exact ⟨(MI.kk hc_383 p_r25.1 (by decide) (by decide)), (KK.tr hk_383 p_r25.1 (by decide) (by decide)), (PQ.tr hp_383 p_r25.2.1), p_r25.2.2.1, fun q => PQ.ad hq387 (p_r25.2.2.2.1 q), hN383.row (p_r25.1.row 1 (by decide)), ((hF317.low (by omega)).put e_f24 (by decide : (13200 : Int32).toInt = 13200) (by omega)).kk p_r25.1 (by decide), hfin387⟩
                                  · refine lv_aload_n hx hb dX11_aRule_344 rfl (lv_at hl 4 rfl) ?_
                                    refine lv_sipush (v := 13200) hx hb dX11_aRule_345 (by decide) ?_
                                    refine lv_iload hx hb dX11_aRule_348 (lv_at hl 0 rfl) ?_
                                    refine PurI.cs (C := RX11) (As := [.int (13200 : Int32), .int v4_338]) (kX11_ruleAt l g (13200 : Int32) v4_338 (by omega) (by omega)) fx (gUS (uT _) u_554 u_555 u_5 u_556) rfl hdX11_ruleAt ⟨Nat.le_of_ble_eq_true rfl, Nat.le_of_ble_eq_true rfl⟩ hK hP [] rfl rfl rfl hl.1 (Nat.le_of_ble_eq_true rfl) dX11_aRule_350 (fun r27 p_r27 => ?_)
                                    refine lv_iload_n hx hb dX11_aRule_353 rfl (lv_at hl 2 rfl) ?_
                                    refine PurI.cv (As := [.int r27, .int r2]) (kX11_likeRule l g a_m (uR I_m_171 1 f18) J_m r27 r2 (by omega) (TS.lc hB317.1.1 (x := r27) (r := v4_338.toInt) rfl (by omega) (by omega)).2 ⟨(TS.lc hB317.1.1 (x := r27) (r := v4_338.toInt) rfl (by omega) (by omega)).1, (TS.lc hB317.1.1 (x := r2) (r := (x1).toInt) rfl (by omega) (by omega)).1⟩) fx (gUV (uT _) u_569 u_570 u_571 u_5 u_572) rfl hdX11_likeRule ⟨Nat.le_of_ble_eq_true rfl, Nat.le_of_ble_eq_true rfl⟩ hK hP [0, 1, 2, 3, 4, 5, 6, 7, 8, 9, 10, 11, 12, 13, 14, 15, 16, 17, 18, 19, 20, 21, 22] rfl rfl rfl rfl rfl hl.1 (Nat.le_of_ble_eq_true rfl) dX11_aRule_354 (fun r28 p_r28 => ?_)
                                    have p_r28 : bP (fxLsM (f18) (r27).toNatClampNeg = fxLsM (f18) (r2).toNatClampNeg ∧ (f18 ((r27).toNatClampNeg + 11)).toInt = (f18 ((r2).toNatClampNeg + 11)).toInt) (¬ (fxLsM (f18) (r27).toNatClampNeg = fxLsM (f18) (r2).toNatClampNeg ∧ (f18 ((r27).toNatClampNeg + 11)).toInt = (f18 ((r2).toNatClampNeg + 11)).toInt)) r28 := p_r28
                                    have hk326 : fxKm ((uR I_m_171 1 f18) 0 11).toInt = 2 := fxKm_4 q_326.1
                                    refine q_if_eq (tgt := 366) hx hb dX11_aRule_357 (by decide) rfl (fun b_357 k_357 => ?_) (fun b_357 k_357 => ?_)
                                    · have q_357 := bP.f p_r28 b_357
                                      refine r_iinc (lv' := fun i29 => [(4, .int i29), (3, .int r16), (2, .int r2), (1, .int x1), (0, .ref (a_m 0))]) hx hb dX11_aRule_366 hl (k := 0) rfl (by decide) rfl (by decide) (fun _ => rfl) (fun i29 e_i29 t_i29 ls hl => ?_)
                                      try have t_i29 := t_i29 (by omega)
                                      refine lv_goto (tgt := 338) hx hb dX11_aRule_369 (by decide) ?_
                                      exact ih_338 i29 (by omega) (fun r q => by by_cases w : (r : Int) < v4_338.toInt; exact hno_338 r w; have i4 := t_cl (i := r27) rfl (by omega); have i2 := t_cl (i := r2) rfl (by omega); rw [show 13212 + 12 * r = (r27).toNatClampNeg by omega, show (13212 + 12 * (x1).toInt.toNat) = (r2).toNatClampNeg by omega]; exact q_357) (by omega) _ _ hP hD hS ls hl
                                    · have q_357 := bP.t p_r28 b_357
                                      refine lv_aload_n hx hb dX11_aRule_360 rfl (lv_at hl 4 rfl) ?_
                                      refine lv_iconst (v := 3) hx hb dX11_aRule_361 (by decide) ?_
                                      refine EffI.cv (wr := ([])) (w' := fun u31 => wX11 g a_m u31 J_m) (As := [.int (3 : Int32)]) (kX11_fails l g a_m (uR I_m_171 1 f18) J_m (3 : Int32)) fx (gUV (uT _) u_557 u_558 u_559 u_5 u_560) rfl hdX11_fails ⟨Nat.le_of_ble_eq_true rfl, Nat.le_of_ble_eq_true rfl⟩ hK hP hD hS hA [0, 1, 2, 3, 4, 5, 6, 7, 8, 9, 10, 11, 12, 13, 14, 15, 16, 17, 18, 19, 20, 21, 22] [] [0, 1, 2, 3, 4, 5, 6, 7, 8, 9, 10, 11, 12, 13, 14, 15, 16, 17, 18, 19, 20, 21, 22] rfl rfl rfl rfl (by decide) rfl (fun _ => rfl) rfl rfl rfl rfl hl.1 (Nat.le_of_ble_eq_true rfl) dX11_aRule_362 (fun r30 u31 H locs p_r30 hP hD hS => ?_)
                                      have hP : va_P g.1 vwCl (wX11 g a_m u31 J_m) H := hP
                                      have hD : va_D A (wX11 g a_m u31 J_m) := hD
                                      have p_r30 : KK [] [16, 17] (uR I_m_171 1 f18) u31 ∧ r30 = 0 ∧ ((I_m_171 0 17).toInt = 0 → (u31 0 17).toInt = (if (I_m_171 0 11).toInt = 1 then 1 else ((3 : Int32)).toInt) ∧ u31 0 16 = (I_m_171 0 12)) ∧ (((3 : Int32)).toInt ≠ 0 → (u31 0 17).toInt ≠ 0) := p_r30
                                      refine hret 365 ls r30 _ _ u31 dX11_aRule_365 (Or.inl p_r30.2.1) hS hP hD ?_
                                      exact ⟨(MI.kk hc_303 p_r30.1 (by decide) (by decide)), (KK.tr hk_303 p_r30.1 (by decide) (by decide)), (PQ.fl hp_303 p_r30.1 (by decide) (p_r30.2.2.2 (by decide))), Or.inl p_r30.2.1, fun q => absurd (q.symm.trans p_r30.2.1) (by decide), (hB317.kk p_r30.1 (by decide)).1, (hF317.low (by omega)).kk p_r30.1 (by decide), fun p l hw => fxMo.fail p_r30 h317 (by decide) hL5 hR317.1 hR317.2 (hG5 p l hw) (fun q => by refine Eq.trans (b := Sum.inl (3 : Int)) ?_ (congrArg Sum.inl (by decide)); rw [fx_st45 (haw5.imp And.left id) hk326, ← (hF317.T hN.1 hn7)]; exact fxRule.sameM (n := (x1).toInt.toNat) (r := (v4_338).toInt.toNat) (by rw [hF317 13200 (by omega), hn7]; omega) (by omega) (by have i4 := t_cl (i := r27) rfl (by omega); have i2 := t_cl (i := r2) rfl (by omega); rw [show 13212 + 12 * (v4_338).toInt.toNat = (r27).toNatClampNeg by omega, show (13212 + 12 * (x1).toInt.toNat) = (r2).toNatClampNeg by omega]; exact q_357))⟩
                              exact L338 ((25 - (0 : Int32).toInt) + 1).toNat (0 : Int32) (by omega) (fun r q => by rw [lm0] at q; omega) (by omega) _ _ hP hD hS ls hl
                            · have q_326 := bP.f p_r21 b_326
                              obtain ⟨q5, aw5, haw5, hL5, hG5⟩ := hE317
                              refine lv_aload_n hx hb dX11_aRule_329 rfl (lv_at hl 3 rfl) ?_
                              refine lv_iconst (v := 2) hx hb dX11_aRule_330 (by decide) ?_
                              refine EffI.cv (wr := ([])) (w' := fun u33 => wX11 g a_m u33 J_m) (As := [.int (2 : Int32)]) (kX11_fails l g a_m (uR I_m_171 1 f18) J_m (2 : Int32)) fx (gUV (uT _) u_557 u_558 u_559 u_5 u_560) rfl hdX11_fails ⟨Nat.le_of_ble_eq_true rfl, Nat.le_of_ble_eq_true rfl⟩ hK hP hD hS hA [0, 1, 2, 3, 4, 5, 6, 7, 8, 9, 10, 11, 12, 13, 14, 15, 16, 17, 18, 19, 20, 21, 22] [] [0, 1, 2, 3, 4, 5, 6, 7, 8, 9, 10, 11, 12, 13, 14, 15, 16, 17, 18, 19, 20, 21, 22] rfl rfl rfl rfl (by decide) rfl (fun _ => rfl) rfl rfl rfl rfl hl.1 (Nat.le_of_ble_eq_true rfl) dX11_aRule_331 (fun r32 u33 H locs p_r32 hP hD hS => ?_)
                              have hP : va_P g.1 vwCl (wX11 g a_m u33 J_m) H := hP
                              have hD : va_D A (wX11 g a_m u33 J_m) := hD
                              have p_r32 : KK [] [16, 17] (uR I_m_171 1 f18) u33 ∧ r32 = 0 ∧ ((I_m_171 0 17).toInt = 0 → (u33 0 17).toInt = (if (I_m_171 0 11).toInt = 1 then 1 else ((2 : Int32)).toInt) ∧ u33 0 16 = (I_m_171 0 12)) ∧ (((2 : Int32)).toInt ≠ 0 → (u33 0 17).toInt ≠ 0) := p_r32
                              refine hret 334 ls r32 _ _ u33 dX11_aRule_334 (Or.inl p_r32.2.1) hS hP hD ?_
                              exact ⟨(MI.kk hc_303 p_r32.1 (by decide) (by decide)), (KK.tr hk_303 p_r32.1 (by decide) (by decide)), (PQ.fl hp_303 p_r32.1 (by decide) (p_r32.2.2.2 (by decide))), Or.inl p_r32.2.1, fun q => absurd (q.symm.trans p_r32.2.1) (by decide), (hB317.kk p_r32.1 (by decide)).1, (hF317.low (by omega)).kk p_r32.1 (by decide), fun p l hw => fxMo.fail p_r32 h317 (by decide) hL5 hR317.1 hR317.2 (hG5 p l hw) (fun q => (fx_st45n haw5 (fun z => q ((fxKm_all hL5.2.2).2.1.mpr z)) (fun z => q_326 ⟨(fxKm_all hL5.2.2).2.2.2.2.mpr z, hL5.2.1 ((fxKm_all hL5.2.2).2.2.2.2.mpr z)⟩)).trans (congrArg Sum.inl (by decide)))⟩
                          · refine lv_aload_n hx hb dX11_aRule_316 rfl (lv_at hl 3 rfl) ?_
                            refine EffV.cv (wr := ([])) (w' := fun u35 => wX11 g a_m u35 J_m) (As := []) (kX11_ahead l g a_m (uR I_m_171 1 f18) J_m hp_303.1.1) fx (gUV (uT _) u_515 u_516 u_517 u_5 u_518) rfl hdX11_ahead ⟨Nat.le_of_ble_eq_true rfl, Nat.le_of_ble_eq_true rfl⟩ hK hP hD hS hA [0, 1, 2, 3, 4, 5, 6, 7, 8, 9, 10, 11, 12, 13, 14, 15, 16, 17, 18, 19, 20, 21, 22] [] [0, 1, 2, 3, 4, 5, 6, 7, 8, 9, 10, 11, 12, 13, 14, 15, 16, 17, 18, 19, 20, 21, 22] rfl rfl rfl rfl (by decide) rfl (fun _ => rfl) rfl rfl rfl rfl hl.1 (Nat.le_of_ble_eq_true rfl) dX11_aRule_317 (fun u35 H locs p_r34 hP hD hS => ?_)
                            have hP : va_P g.1 vwCl (wX11 g a_m u35 J_m) H := hP
                            have hD : va_D A (wX11 g a_m u35 J_m) := hD
                            have p_r34 : KK [] [11, 12, 13, 14] (uR I_m_171 1 f18) u35 ∧ AH (uR I_m_171 1 f18) u35 ∧ fxLM u35 (I_m_171 0 13).toInt := p_r34
                            have hB317 := hB303.kk p_r34.1 (by decide)
                            have hR317 : u35 6 = I_m 6 ∧ u35 0 10 = I_m 0 10 := ⟨(show KK [1] [11, 12, 13, 14, 16, 17] I_m u35 from (KK.tr hk_303 p_r34.1 (by decide) (by decide))).row 6 (by decide), (show KK [1] [11, 12, 13, 14, 16, 17] I_m u35 from (KK.tr hk_303 p_r34.1 (by decide) (by decide))).num 10 (by decide)⟩
                            have hF317 : fxRf I_m u35 (x1).toInt := hF303.kk p_r34.1 (by decide)
                            have h317 : (u35 0 17).toInt = 0 := by rw [p_r34.1.num 17 (by decide)]; exact h7_171
                            have hr317 : u35 1 = (uR I_m_171 1 f18) 1 := p_r34.1.row 1 (by decide)
                            have hE317 : ∃ q aw : Int, ((aw = 4 ∧ fxKm (u35 0 11).toInt ≠ 1 ∧ ∀ k : Nat, 7 ≤ k → k ≤ 10 → ¬ (fxKm (u35 0 11).toInt = 0 ∧ fxWm u35 = fxK k)) ∨ aw = 5) ∧ fxLM u35 q ∧ ∀ p : Int, fxLM I_m p → fxIs (fxKm (I_m 0 11).toInt) (fxWm I_m) 0 → fxRe (fxBm (I_m 6)) (I_m 0 10).toInt (p, fxS0M I_m) (q, (aw, 0, (fxTdM (I_m 0 19)), (fxTM (I_m 1) 13200), (fxLsM (u35 1) (13212 + 12 * (x1).toInt.toNat), fxCsM (u35 1) (13212 + 12 * (x1).toInt.toNat), (u35 1 ((13212 + 12 * (x1).toInt.toNat) + 11)).toInt))) := (by first | (exfalso; omega) | exact ⟨(I_m_171 0 13).toInt, 5, Or.inr rfl, p_r34.2.2, fun p l hw => by rw [hr317, hls303, hcs303, hcd303]; exact fx_tk hL9 p_r34.2.2 hR171.1 hR171.2 (hG9 p l hw) (fx_s5 haw9.1 p_r16 (by omega) (by omega))⟩)
                            refine lv_aload_n hx hb dX11_aRule_320 rfl (lv_at hl 3 rfl) ?_
                            refine lv_bipush (v := 59) hx hb dX11_aRule_321 (by decide) ?_
                            refine PurI.cv (As := [.int (59 : Int32)]) (kX11_isSign l g a_m u35 J_m (59 : Int32)) fx (gUV (uT _) u_565 u_566 u_567 u_5 u_568) rfl hdX11_isSign ⟨Nat.le_of_ble_eq_true rfl, Nat.le_of_ble_eq_true rfl⟩ hK hP [0, 1, 2, 3, 4, 5, 6, 7, 8, 9, 10, 11, 12, 13, 14, 15, 16, 17, 18, 19, 20, 21, 22] rfl rfl rfl rfl rfl hl.1 (Nat.le_of_ble_eq_true rfl) dX11_aRule_323 (fun r36 p_r36 => ?_)
                            refine q_if_ne (tgt := 335) hx hb dX11_aRule_326 (by decide) rfl (fun b_326 k_326 => ?_) (fun b_326 k_326 => ?_)
                            · have q_326 := bP.t p_r36 b_326
                              obtain ⟨q5, aw5, haw5, hL5, hG5⟩ := hE317
                              refine lv_iconst (v := 0) hx hb dX11_aRule_335 (by decide) ?_
                              refine lv_istore (lv' := [(4, .int (0 : Int32)), (3, .int r16), (2, .int r2), (1, .int x1), (0, .ref (a_m 0))]) hx hb dX11_aRule_336 hl (by decide) rfl (fun ls hl => ?_)
                              have L338 : ∀ (nn : Nat) (v4_338 : Int32), (hv_338 : 0 ≤ v4_338.toInt ∧ v4_338.toInt ≤ (x1).toInt) → (hno_338 : ∀ r : Nat, (r : Int) < v4_338.toInt → ¬ (fxLsM (u35 1) (13212 + 12 * r) = fxLsM (u35 1) (13212 + 12 * (x1).toInt.toNat) ∧ (u35 1 (13212 + 12 * r + 11)).toInt = (u35 1 ((13212 + 12 * (x1).toInt.toNat) + 11)).toInt)) → ((25 - v4_338.toInt) < (nn : Int)) → ∀ (H : Heap) (locs : List Loc), va_P g.1 vwCl (wX11 g a_m u35 J_m) H → va_D A (wX11 g a_m u35 J_m) → va_S A s.heap H locs → ∀ ls : Array Slot, lv_has ls 5 [(4, .int v4_338), (3, .int r16), (2, .int r2), (1, .int x1), (0, .ref (a_m 0))] → W p l e (rm 6) s m args below meth c H locs 0 0 Q (F0 m 338 ls []) := by
                                intro n_338
                                induction n_338 with
                                | zero =>
                                  intro v4_338 hv_338 hno_338 hms_338 H locs hP hD hS ls hl
                                  exfalso; omega
                                | succ n_338 ih_338 =>
                                  intro v4_338 hv_338 hno_338 hms_338 H locs hP hD hS ls hl
                                  refine lv_iload hx hb dX11_aRule_338 (lv_at hl 0 rfl) ?_
                                  refine lv_iload_n hx hb dX11_aRule_340 rfl (lv_at hl 3 rfl) ?_
                                  refine q_icmp_ge (tgt := 372) hx hb dX11_aRule_341 (by decide) rfl rfl (fun k_341 => ?_) (fun k_341 => ?_)
                                  · obtain ⟨cu5, hcu5⟩ : ∃ y : fxR, y = (fxLsM (u35 1) (13212 + 12 * (x1).toInt.toNat), fxCsM (u35 1) (13212 + 12 * (x1).toInt.toNat), (u35 1 ((13212 + 12 * (x1).toInt.toNat) + 11)).toInt) := ⟨_, rfl⟩
                                    have hT5 := (hF317.T hN.1 hn7)
                                    have hcn5 : (u35 1 13200).toInt = (I_m 1 13200).toInt := congrArg Int32.toInt (hF317 13200 (by omega))
                                    have hru5 : fxRule (fxTdM (I_m 0 19)) (fxTM (I_m 1) 13200) cu5 = .inr (0, 0, (fxTdM (I_m 0 19)), ((fxTM (I_m 1) 13200).1, (fxTM (I_m 1) 13200).2 ++ [cu5]), fxE) := (by rw [hcu5, ← hT5]; exact fxRule.newM (n := (x1).toInt.toNat) (by omega) (fun r hr => hno_338 r (by omega)))
                                    refine lv_aload_n hx hb dX11_aRule_372 rfl (lv_at hl 4 rfl) ?_
                                    refine va_get (D := g.1) (ci := 11) (v := .ref (a_m 1)) (C := RX11) (T := TX11) (N := 46) hx hb hi_X11 (fun _ h => h) hown hK.1 hP 0 rfl rfl 0 (by decide) hf_7 (fun _ h9 => h9) rfl dX11_aRule_373 ?_
                                    refine lv_sipush (v := 13200) hx hb dX11_aRule_376 (by decide) ?_
                                    refine lv_dup2_11 hx hb dX11_aRule_379 rfl rfl ?_
                                    have n_380 : vp_in (13200 : Int32) 19800 := (t_in (by decide))
                                    refine va_iald hx hb hK.1 hP 1 0 rfl rfl n_380 dX11_aRule_380 ?_
                                    refine q_nm (fun x37 e_x37 => ?_)
                                    have e_x37 : x37 = (u35 1) 13200 := e_x37
                                    have g_x37 : x37.toInt = ((u35 1) 13200).toInt := congrArg _ e_x37
                                    have hbm : x37.toInt = ((x1).toInt) := by rw [e_x37]; exact hB317.2.1
                                    refine lv_iconst (v := 1) hx hb dX11_aRule_381 (by decide) ?_
                                    refine r_iadd hx hb dX11_aRule_382 rfl (by decide : (1 : Int32).toInt = 1) (fun x38 e_x38 t_x38 => ?_)
                                    try have t_x38 := t_x38 (by omega)
                                    have n_383 : vp_in (13200 : Int32) 19800 := (t_in (by decide))
                                    obtain ⟨f39, e_f39⟩ : ∃ z, z = upd (u35 1) (13200 : Int32).toNatClampNeg x38 := ⟨_, rfl⟩
                                    refine va_iast hx hb hK.1 hP hD hS 1 0 rfl rfl n_383 dX11_aRule_383 (fun H locs hP hD hS => ?_)
                                    have hP : va_P g.1 vwCl (wX11 g a_m (uR u35 1 f39) J_m) H := by rw [e_f39]; exact hP
                                    have hD : va_D A (wX11 g a_m (uR u35 1 f39) J_m) := by rw [e_f39]; exact hD
                                    have hc_383 : MI (uR u35 1 f39) := MI.ua (MI.kk hc_303 p_r34.1 (by decide) (by decide)) e_f39 (by decide : (13200 : Int32).toInt = 13200) (by omega) (by omega)
                                    have hk_383 : KK [1] [11, 12, 13, 14, 16, 17] I_m (uR u35 1 f39) := KK.ur (KK.tr hk_303 p_r34.1 (by decide) (by decide)) (by decide) (by decide)
                                    have hp_383 : PQ I_m (uR u35 1 f39) := PQ.ur (PQ.ah hp_303 p_r34.2.1 p_r34.1 (by decide)) (by decide)
                                    have hN383 : NS (uR u35 1 f39) := hB317.fin e_f39 (by omega)
                                    refine lv_aload_n hx hb dX11_aRule_384 rfl (lv_at hl 4 rfl) ?_
                                    refine lv_bipush (v := 59) hx hb dX11_aRule_385 (by decide) ?_
                                    have hq387 : PQ I_m (uR u35 1 f39) := hp_383
                                    have hT383 : fxTM ((uR u35 1 f39) 1) 13200 = ((fxTM (I_m 1) 13200).1, (fxTM (I_m 1) 13200).2 ++ [cu5]) := (by rw [hcu5, ← hT5]; exact fxTM.add hB317.1.1 (hcn5.trans hn7) (uR_eq.trans e_f39) (by omega) (by omega))
                                    have hL387 : fxLM (uR u35 1 f39) q5 := hL5.of rfl rfl rfl rfl rfl rfl
                                    have hR387 : (uR u35 1 f39) 6 = I_m 6 ∧ (uR u35 1 f39) 0 10 = I_m 0 10 := hR317
                                    refine EffI.cv (wr := ([])) (w' := fun u41 => wX11 g a_m u41 J_m) (As := [.int (59 : Int32)]) (kX11_wantSign l g a_m (uR u35 1 f39) J_m (59 : Int32) hp_383.1) fx (gUV (uT _) u_573 u_574 u_575 u_5 u_576) rfl hdX11_wantSign ⟨Nat.le_of_ble_eq_true rfl, Nat.le_of_ble_eq_true rfl⟩ hK hP hD hS hA [0, 1, 2, 3, 4, 5, 6, 7, 8, 9, 10, 11, 12, 13, 14, 15, 16, 17, 18, 19, 20, 21, 22] [] [0, 1, 2, 3, 4, 5, 6, 7, 8, 9, 10, 11, 12, 13, 14, 15, 16, 17, 18, 19, 20, 21, 22] rfl rfl rfl rfl (by decide) rfl (fun _ => rfl) rfl rfl rfl rfl hl.1 (Nat.le_of_ble_eq_true rfl) dX11_aRule_387 (fun r40 u41 H locs p_r40 hP hD hS => ?_)
                                    have hP : va_P g.1 vwCl (wX11 g a_m u41 J_m) H := hP
                                    have hD : va_D A (wX11 g a_m u41 J_m) := hD
                                    have p_r40 : KK [] [11, 12, 13, 14, 16, 17] (uR u35 1 f39) u41 ∧ PQ (uR u35 1 f39) u41 ∧ (r40 = 0 ∨ r40 = 1) ∧ (r40 = 1 → AD (uR u35 1 f39) u41) ∧ ∀ (p : Int) (S S' : fxS), fxLM (uR u35 1 f39) p → (u35 0 17).toInt = 0 → ((59 : Int32)).toInt = 59 → ((u35 0 11).toInt = 4 → ∀ va : Int, fxSt 2 (fxWm (uR u35 1 f39)) va S = .inr S') → ((u35 0 11).toInt ≠ 4 → (u35 0 11).toInt ≠ 1 → fxSt (fxKm (u35 0 11).toInt) (fxWm (uR u35 1 f39)) (u35 0 14).toInt S = .inl 2) → fxMo (uR u35 1 f39) u41 r40 p S S' := p_r40
                                    have hfin387 : ∀ p : Int, fxLM I_m p → fxIs (fxKm (I_m 0 11).toInt) (fxWm I_m) 0 → fxMo I_m u41 r40 p (fxS0M I_m) (fxS0M u41) := fun p l hw => ((p_r40.2.2.2.2 q5 (aw5, 0, (fxTdM (I_m 0 19)), (fxTM (I_m 1) 13200), cu5) (0, 0, (fxTdM (I_m 0 19)), ((fxTM (I_m 1) 13200).1, (fxTM (I_m 1) 13200).2 ++ [cu5]), fxE) hL387 h317 (by decide) (fun _ va => by rw [fx_st45 (haw5.imp And.left id) rfl]; exact hru5) (fun z => absurd q_326.1 z)).then hR387.1 hR387.2 (by rw [hcu5]; exact hG5 p l hw)).as (by rw [← hT383]; unfold fxS0M; rw [p_r40.1.row 1 (by decide), (show KK [1] [11, 12, 13, 14, 16, 17] I_m u41 from (KK.tr hk_383 p_r40.1 (by decide) (by decide))).num 19 (by decide)])
                                    refine hret 390 ls r40 _ _ u41 dX11_aRule_390 p_r40.2.2.1 hS hP hD ?_
                                    exact ⟨(MI.kk hc_383 p_r40.1 (by decide) (by decide)), (KK.tr hk_383 p_r40.1 (by decide) (by decide)), (PQ.tr hp_383 p_r40.2.1), p_r40.2.2.1, fun q => PQ.ad hq387 (p_r40.2.2.2.1 q), hN383.row (p_r40.1.row 1 (by decide)), ((hF317.low (by omega)).put e_f39 (by decide : (13200 : Int32).toInt = 13200) (by omega)).kk p_r40.1 (by decide), hfin387⟩
                                  · refine lv_aload_n hx hb dX11_aRule_344 rfl (lv_at hl 4 rfl) ?_
                                    refine lv_sipush (v := 13200) hx hb dX11_aRule_345 (by decide) ?_
                                    refine lv_iload hx hb dX11_aRule_348 (lv_at hl 0 rfl) ?_
                                    refine PurI.cs (C := RX11) (As := [.int (13200 : Int32), .int v4_338]) (kX11_ruleAt l g (13200 : Int32) v4_338 (by omega) (by omega)) fx (gUS (uT _) u_554 u_555 u_5 u_556) rfl hdX11_ruleAt ⟨Nat.le_of_ble_eq_true rfl, Nat.le_of_ble_eq_true rfl⟩ hK hP [] rfl rfl rfl hl.1 (Nat.le_of_ble_eq_true rfl) dX11_aRule_350 (fun r42 p_r42 => ?_)
                                    refine lv_iload_n hx hb dX11_aRule_353 rfl (lv_at hl 2 rfl) ?_
                                    refine PurI.cv (As := [.int r42, .int r2]) (kX11_likeRule l g a_m u35 J_m r42 r2 (by omega) (TS.lc hB317.1.1 (x := r42) (r := v4_338.toInt) rfl (by omega) (by omega)).2 ⟨(TS.lc hB317.1.1 (x := r42) (r := v4_338.toInt) rfl (by omega) (by omega)).1, (TS.lc hB317.1.1 (x := r2) (r := (x1).toInt) rfl (by omega) (by omega)).1⟩) fx (gUV (uT _) u_569 u_570 u_571 u_5 u_572) rfl hdX11_likeRule ⟨Nat.le_of_ble_eq_true rfl, Nat.le_of_ble_eq_true rfl⟩ hK hP [0, 1, 2, 3, 4, 5, 6, 7, 8, 9, 10, 11, 12, 13, 14, 15, 16, 17, 18, 19, 20, 21, 22] rfl rfl rfl rfl rfl hl.1 (Nat.le_of_ble_eq_true rfl) dX11_aRule_354 (fun r43 p_r43 => ?_)
                                    have hk326 : fxKm (u35 0 11).toInt = 2 := fxKm_4 q_326.1
                                    refine q_if_eq (tgt := 366) hx hb dX11_aRule_357 (by decide) rfl (fun b_357 k_357 => ?_) (fun b_357 k_357 => ?_)
                                    · have q_357 := bP.f p_r43 b_357
                                      refine r_iinc (lv' := fun i44 => [(4, .int i44), (3, .int r16), (2, .int r2), (1, .int x1), (0, .ref (a_m 0))]) hx hb dX11_aRule_366 hl (k := 0) rfl (by decide) rfl (by decide) (fun _ => rfl) (fun i44 e_i44 t_i44 ls hl => ?_)
                                      try have t_i44 := t_i44 (by omega)
                                      refine lv_goto (tgt := 338) hx hb dX11_aRule_369 (by decide) ?_
                                      exact ih_338 i44 (by omega) (fun r q => by by_cases w : (r : Int) < v4_338.toInt; exact hno_338 r w; have i4 := t_cl (i := r42) rfl (by omega); have i2 := t_cl (i := r2) rfl (by omega); rw [show 13212 + 12 * r = (r42).toNatClampNeg by omega, show (13212 + 12 * (x1).toInt.toNat) = (r2).toNatClampNeg by omega]; exact q_357) (by omega) _ _ hP hD hS ls hl
                                    · have q_357 := bP.t p_r43 b_357
                                      refine lv_aload_n hx hb dX11_aRule_360 rfl (lv_at hl 4 rfl) ?_
                                      refine lv_iconst (v := 3) hx hb dX11_aRule_361 (by decide) ?_
                                      refine EffI.cv (wr := ([])) (w' := fun u46 => wX11 g a_m u46 J_m) (As := [.int (3 : Int32)]) (kX11_fails l g a_m u35 J_m (3 : Int32)) fx (gUV (uT _) u_557 u_558 u_559 u_5 u_560) rfl hdX11_fails ⟨Nat.le_of_ble_eq_true rfl, Nat.le_of_ble_eq_true rfl⟩ hK hP hD hS hA [0, 1, 2, 3, 4, 5, 6, 7, 8, 9, 10, 11, 12, 13, 14, 15, 16, 17, 18, 19, 20, 21, 22] [] [0, 1, 2, 3, 4, 5, 6, 7, 8, 9, 10, 11, 12, 13, 14, 15, 16, 17, 18, 19, 20, 21, 22] rfl rfl rfl rfl (by decide) rfl (fun _ => rfl) rfl rfl rfl rfl hl.1 (Nat.le_of_ble_eq_true rfl) dX11_aRule_362 (fun r45 u46 H locs p_r45 hP hD hS => ?_)
                                      have hP : va_P g.1 vwCl (wX11 g a_m u46 J_m) H := hP
                                      have hD : va_D A (wX11 g a_m u46 J_m) := hD
                                      refine hret 365 ls r45 _ _ u46 dX11_aRule_365 (Or.inl p_r45.2.1) hS hP hD ?_
                                      exact ⟨(MI.kk (MI.kk hc_303 p_r34.1 (by decide) (by decide)) p_r45.1 (by decide) (by decide)), (KK.tr (KK.tr hk_303 p_r34.1 (by decide) (by decide)) p_r45.1 (by decide) (by decide)), (PQ.fl (PQ.ah hp_303 p_r34.2.1 p_r34.1 (by decide)) p_r45.1 (by decide) (p_r45.2.2.2 (by decide))), Or.inl p_r45.2.1, fun q => absurd (q.symm.trans p_r45.2.1) (by decide), (hB317.kk p_r45.1 (by decide)).1, (hF317.low (by omega)).kk p_r45.1 (by decide), fun p l hw => fxMo.fail p_r45 h317 (by decide) hL5 hR317.1 hR317.2 (hG5 p l hw) (fun q => by refine Eq.trans (b := Sum.inl (3 : Int)) ?_ (congrArg Sum.inl (by decide)); rw [fx_st45 (haw5.imp And.left id) hk326, ← (hF317.T hN.1 hn7)]; exact fxRule.sameM (n := (x1).toInt.toNat) (r := (v4_338).toInt.toNat) (by rw [hF317 13200 (by omega), hn7]; omega) (by omega) (by have i4 := t_cl (i := r42) rfl (by omega); have i2 := t_cl (i := r2) rfl (by omega); rw [show 13212 + 12 * (v4_338).toInt.toNat = (r42).toNatClampNeg by omega, show (13212 + 12 * (x1).toInt.toNat) = (r2).toNatClampNeg by omega]; exact q_357))⟩
                              exact L338 ((25 - (0 : Int32).toInt) + 1).toNat (0 : Int32) (by omega) (fun r q => by rw [lm0] at q; omega) (by omega) _ _ hP hD hS ls hl
                            · have q_326 := bP.f p_r36 b_326
                              obtain ⟨q5, aw5, haw5, hL5, hG5⟩ := hE317
                              refine lv_aload_n hx hb dX11_aRule_329 rfl (lv_at hl 3 rfl) ?_
                              refine lv_iconst (v := 2) hx hb dX11_aRule_330 (by decide) ?_
                              refine EffI.cv (wr := ([])) (w' := fun u48 => wX11 g a_m u48 J_m) (As := [.int (2 : Int32)]) (kX11_fails l g a_m u35 J_m (2 : Int32)) fx (gUV (uT _) u_557 u_558 u_559 u_5 u_560) rfl hdX11_fails ⟨Nat.le_of_ble_eq_true rfl, Nat.le_of_ble_eq_true rfl⟩ hK hP hD hS hA [0, 1, 2, 3, 4, 5, 6, 7, 8, 9, 10, 11, 12, 13, 14, 15, 16, 17, 18, 19, 20, 21, 22] [] [0, 1, 2, 3, 4, 5, 6, 7, 8, 9, 10, 11, 12, 13, 14, 15, 16, 17, 18, 19, 20, 21, 22] rfl rfl rfl rfl (by decide) rfl (fun _ => rfl) rfl rfl rfl rfl hl.1 (Nat.le_of_ble_eq_true rfl) dX11_aRule_331 (fun r47 u48 H locs p_r47 hP hD hS => ?_)
                              have hP : va_P g.1 vwCl (wX11 g a_m u48 J_m) H := hP
                              have hD : va_D A (wX11 g a_m u48 J_m) := hD
                              refine hret 334 ls r47 _ _ u48 dX11_aRule_334 (Or.inl p_r47.2.1) hS hP hD ?_
                              exact ⟨(MI.kk (MI.kk hc_303 p_r34.1 (by decide) (by decide)) p_r47.1 (by decide) (by decide)), (KK.tr (KK.tr hk_303 p_r34.1 (by decide) (by decide)) p_r47.1 (by decide) (by decide)), (PQ.fl (PQ.ah hp_303 p_r34.2.1 p_r34.1 (by decide)) p_r47.1 (by decide) (p_r47.2.2.2 (by decide))), Or.inl p_r47.2.1, fun q => absurd (q.symm.trans p_r47.2.1) (by decide), (hB317.kk p_r47.1 (by decide)).1, (hF317.low (by omega)).kk p_r47.1 (by decide), fun p l hw => fxMo.fail p_r47 h317 (by decide) hL5 hR317.1 hR317.2 (hG5 p l hw) (fun q => (fx_st45n haw5 (fun z => q ((fxKm_all hL5.2.2).2.1.mpr z)) (fun z => q_326 ⟨(fxKm_all hL5.2.2).2.2.2.2.mpr z, hL5.2.1 ((fxKm_all hL5.2.2).2.2.2.2.mpr z)⟩)).trans (congrArg Sum.inl (by decide)))⟩
                        · refine lv_iload_n hx hb dX11_aRule_287 rfl (lv_at hl 0 rfl) ?_
                          refine lv_bipush (v := 10) hx hb dX11_aRule_288 (by decide) ?_
                          refine q_icmp_gt (tgt := 302) hx hb dX11_aRule_290 (by decide) rfl (by decide : (10 : Int32).toInt = 10) (fun k_290 => ?_) (fun k_290 => ?_)
                          · refine lv_iconst (v := 0) hx hb dX11_aRule_302 (by decide) ?_
                            have n_303 : vp_in x17 19800 := (t_in (by omega))
                            obtain ⟨f49, e_f49⟩ : ∃ z, z = upd (I_m_171 1) x17.toNatClampNeg (0 : Int32) := ⟨_, rfl⟩
                            refine va_iast hx hb hK.1 hP hD hS 1 0 rfl rfl n_303 dX11_aRule_303 (fun H locs hP hD hS => ?_)
                            have hP : va_P g.1 vwCl (wX11 g a_m (uR I_m_171 1 f49) J_m) H := by rw [e_f49]; exact hP
                            have hD : va_D A (wX11 g a_m (uR I_m_171 1 f49) J_m) := by rw [e_f49]; exact hD
                            have hc_303 : MI (uR I_m_171 1 f49) := MI.ua hM_171 e_f49 rfl (by omega) (by omega)
                            have hk_303 : KK [1] [11, 12, 13, 14, 16, 17] I_m (uR I_m_171 1 f49) := KK.ur hk_171 (by decide) (by decide)
                            have hp_303 : PQ I_m (uR I_m_171 1 f49) := PQ.ur hp_171 (by decide)
                            have hB303 : RA (uR I_m_171 1 f49) ((x1).toInt) 1 1 := hB176.put (o := 11) 1 1 e_f49 rfl (by omega) (by omega) (by omega) (by omega) (by omega)
                            have hF303 : fxRf I_m (uR I_m_171 1 f49) (x1).toInt := hF_171.put e_f49 (a := (x1).toInt * 12 + 13223) (by omega) (by omega) (by omega)
                            have hls303 : fxLsM ((uR I_m_171 1 f49) 1) (13212 + 12 * (x1).toInt.toNat) = LS := (fxLsM.upd (b := (13212 + 12 * (x1).toInt.toNat)) e_f49 (a := (x1).toInt * 12 + 13223) (by omega) (by omega) hlc171 (by omega)).trans hLs_171
                            have hcs303 : fxCsM ((uR I_m_171 1 f49) 1) (13212 + 12 * (x1).toInt.toNat) = fxCsM (I_m_171 1) (13212 + 12 * (x1).toInt.toNat) := fxCsM.upd (b := (13212 + 12 * (x1).toInt.toNat)) e_f49 (a := (x1).toInt * 12 + 13223) (by omega) (by omega) (by omega) (by omega)
                            have hcd303 : ((uR I_m_171 1 f49) 1 ((13212 + 12 * (x1).toInt.toNat) + 11)).toInt = ((0 : Int32)).toInt := congrArg Int32.toInt (fx_atx (b := (13212 + 12 * (x1).toInt.toNat) + 11) e_f49 (by omega))
                            refine lv_aload_n hx hb dX11_aRule_304 rfl (lv_at hl 3 rfl) ?_
                            refine va_get (D := g.1) (ci := 11) (v := .ref (a_m 1)) (C := RX11) (T := TX11) (N := 46) hx hb hi_X11 (fun _ h => h) hown hK.1 hP 0 rfl rfl 0 (by decide) hf_7 (fun _ h9 => h9) rfl dX11_aRule_305 ?_
                            refine lv_iload_n hx hb dX11_aRule_308 rfl (lv_at hl 1 rfl) ?_
                            refine lv_bipush (v := 11) hx hb dX11_aRule_309 (by decide) ?_
                            refine r_iadd hx hb dX11_aRule_311 rfl (by decide : (11 : Int32).toInt = 11) (fun x50 e_x50 t_x50 => ?_)
                            try have t_x50 := t_x50 (by omega)
                            have n_312 : vp_in x50 19800 := (t_in (by omega))
                            refine va_iald hx hb hK.1 hP 1 0 rfl rfl n_312 dX11_aRule_312 ?_
                            refine q_nm (fun x51 e_x51 => ?_)
                            have e_x51 : x51 = f49 x50.toNatClampNeg := e_x51
                            have g_x51 : x51.toInt = (f49 x50.toNatClampNeg).toInt := congrArg _ e_x51
                            have hrd312 : (x51).toInt = (f49 ((13212 + 12 * (x1).toInt.toNat) + 11)).toInt := congrArg Int32.toInt (at_ix (k := (13212 + 12 * (x1).toInt.toNat) + 11) e_x51 (by omega))
                            have hcf303 : (f49 ((13212 + 12 * (x1).toInt.toNat) + 11)).toInt = ((0 : Int32)).toInt := hcd303
                            refine q_if_le (tgt := 320) hx hb dX11_aRule_313 (by decide) rfl (fun k_313 => ?_) (fun k_313 => ?_)
                            · have hB317 := hB303
                              have hR317 : (uR I_m_171 1 f49) 6 = I_m 6 ∧ (uR I_m_171 1 f49) 0 10 = I_m 0 10 := hR171
                              have hF317 := hF303
                              have h317 : ((uR I_m_171 1 f49) 0 17).toInt = 0 := h7_171
                              have hE317 : ∃ q aw : Int, ((aw = 4 ∧ fxKm ((uR I_m_171 1 f49) 0 11).toInt ≠ 1 ∧ ∀ k : Nat, 7 ≤ k → k ≤ 10 → ¬ (fxKm ((uR I_m_171 1 f49) 0 11).toInt = 0 ∧ fxWm (uR I_m_171 1 f49) = fxK k)) ∨ aw = 5) ∧ fxLM (uR I_m_171 1 f49) q ∧ ∀ p : Int, fxLM I_m p → fxIs (fxKm (I_m 0 11).toInt) (fxWm I_m) 0 → fxRe (fxBm (I_m 6)) (I_m 0 10).toInt (p, fxS0M I_m) (q, (aw, 0, (fxTdM (I_m 0 19)), (fxTM (I_m 1) 13200), (fxLsM ((uR I_m_171 1 f49) 1) (13212 + 12 * (x1).toInt.toNat), fxCsM ((uR I_m_171 1 f49) 1) (13212 + 12 * (x1).toInt.toNat), ((uR I_m_171 1 f49) 1 ((13212 + 12 * (x1).toInt.toNat) + 11)).toInt))) := (by first | (exfalso; omega) | exact ⟨q9, 4, Or.inl ⟨rfl, fun z => absurd ((fxKm_all hL9.2.2).2.2.2.1.mpr z) (by omega), fx_nc p_r16 (by omega)⟩, hL9.of rfl rfl rfl rfl rfl rfl, fun p l hw => by rw [hls303, hcs303, hcd303, show (((0 : Int32) : Int32)).toInt = 0 from lm0]; have w := hG9 p l hw; rw [haw9.1] at w; exact w⟩)
                              refine lv_aload_n hx hb dX11_aRule_320 rfl (lv_at hl 3 rfl) ?_
                              refine lv_bipush (v := 59) hx hb dX11_aRule_321 (by decide) ?_
                              refine PurI.cv (As := [.int (59 : Int32)]) (kX11_isSign l g a_m (uR I_m_171 1 f49) J_m (59 : Int32)) fx (gUV (uT _) u_565 u_566 u_567 u_5 u_568) rfl hdX11_isSign ⟨Nat.le_of_ble_eq_true rfl, Nat.le_of_ble_eq_true rfl⟩ hK hP [0, 1, 2, 3, 4, 5, 6, 7, 8, 9, 10, 11, 12, 13, 14, 15, 16, 17, 18, 19, 20, 21, 22] rfl rfl rfl rfl rfl hl.1 (Nat.le_of_ble_eq_true rfl) dX11_aRule_323 (fun r52 p_r52 => ?_)
                              have p_r52 : bP ((I_m_171 0 11).toInt = 4 ∧ (I_m_171 0 14).toInt = ((59 : Int32)).toInt) (¬ ((I_m_171 0 11).toInt = 4 ∧ (I_m_171 0 14).toInt = ((59 : Int32)).toInt)) r52 := p_r52
                              refine q_if_ne (tgt := 335) hx hb dX11_aRule_326 (by decide) rfl (fun b_326 k_326 => ?_) (fun b_326 k_326 => ?_)
                              · have q_326 := bP.t p_r52 b_326
                                obtain ⟨q5, aw5, haw5, hL5, hG5⟩ := hE317
                                refine lv_iconst (v := 0) hx hb dX11_aRule_335 (by decide) ?_
                                refine lv_istore (lv' := [(4, .int (0 : Int32)), (3, .int r16), (2, .int r2), (1, .int x1), (0, .ref (a_m 0))]) hx hb dX11_aRule_336 hl (by decide) rfl (fun ls hl => ?_)
                                have L338 : ∀ (nn : Nat) (v4_338 : Int32), (hv_338 : 0 ≤ v4_338.toInt ∧ v4_338.toInt ≤ (x1).toInt) → (hno_338 : ∀ r : Nat, (r : Int) < v4_338.toInt → ¬ (fxLsM ((uR I_m_171 1 f49) 1) (13212 + 12 * r) = fxLsM ((uR I_m_171 1 f49) 1) (13212 + 12 * (x1).toInt.toNat) ∧ ((uR I_m_171 1 f49) 1 (13212 + 12 * r + 11)).toInt = ((uR I_m_171 1 f49) 1 ((13212 + 12 * (x1).toInt.toNat) + 11)).toInt)) → ((25 - v4_338.toInt) < (nn : Int)) → ∀ (H : Heap) (locs : List Loc), va_P g.1 vwCl (wX11 g a_m (uR I_m_171 1 f49) J_m) H → va_D A (wX11 g a_m (uR I_m_171 1 f49) J_m) → va_S A s.heap H locs → ∀ ls : Array Slot, lv_has ls 5 [(4, .int v4_338), (3, .int r16), (2, .int r2), (1, .int x1), (0, .ref (a_m 0))] → W p l e (rm 6) s m args below meth c H locs 0 0 Q (F0 m 338 ls []) := by
                                  intro n_338
                                  induction n_338 with
                                  | zero =>
                                    intro v4_338 hv_338 hno_338 hms_338 H locs hP hD hS ls hl
                                    exfalso; omega
                                  | succ n_338 ih_338 =>
                                    intro v4_338 hv_338 hno_338 hms_338 H locs hP hD hS ls hl
                                    refine lv_iload hx hb dX11_aRule_338 (lv_at hl 0 rfl) ?_
                                    refine lv_iload_n hx hb dX11_aRule_340 rfl (lv_at hl 3 rfl) ?_
                                    refine q_icmp_ge (tgt := 372) hx hb dX11_aRule_341 (by decide) rfl rfl (fun k_341 => ?_) (fun k_341 => ?_)
                                    · obtain ⟨cu5, hcu5⟩ : ∃ y : fxR, y = (fxLsM ((uR I_m_171 1 f49) 1) (13212 + 12 * (x1).toInt.toNat), fxCsM ((uR I_m_171 1 f49) 1) (13212 + 12 * (x1).toInt.toNat), ((uR I_m_171 1 f49) 1 ((13212 + 12 * (x1).toInt.toNat) + 11)).toInt) := ⟨_, rfl⟩
                                      have hT5 := (hF317.T hN.1 hn7)
                                      have hcn5 : ((uR I_m_171 1 f49) 1 13200).toInt = (I_m 1 13200).toInt := congrArg Int32.toInt (hF317 13200 (by omega))
                                      have hru5 : fxRule (fxTdM (I_m 0 19)) (fxTM (I_m 1) 13200) cu5 = .inr (0, 0, (fxTdM (I_m 0 19)), ((fxTM (I_m 1) 13200).1, (fxTM (I_m 1) 13200).2 ++ [cu5]), fxE) := (by rw [hcu5, ← hT5]; exact fxRule.newM (n := (x1).toInt.toNat) (by omega) (fun r hr => hno_338 r (by omega)))
                                      refine lv_aload_n hx hb dX11_aRule_372 rfl (lv_at hl 4 rfl) ?_
                                      refine va_get (D := g.1) (ci := 11) (v := .ref (a_m 1)) (C := RX11) (T := TX11) (N := 46) hx hb hi_X11 (fun _ h => h) hown hK.1 hP 0 rfl rfl 0 (by decide) hf_7 (fun _ h9 => h9) rfl dX11_aRule_373 ?_
                                      refine lv_sipush (v := 13200) hx hb dX11_aRule_376 (by decide) ?_
                                      refine lv_dup2_11 hx hb dX11_aRule_379 rfl rfl ?_
                                      have n_380 : vp_in (13200 : Int32) 19800 := (t_in (by decide))
                                      refine va_iald hx hb hK.1 hP 1 0 rfl rfl n_380 dX11_aRule_380 ?_
                                      refine q_nm (fun x53 e_x53 => ?_)
                                      have e_x53 : x53 = f49 13200 := e_x53
                                      have g_x53 : x53.toInt = (f49 13200).toInt := congrArg _ e_x53
                                      have hbm : x53.toInt = ((x1).toInt) := by rw [e_x53]; exact hB317.2.1
                                      refine lv_iconst (v := 1) hx hb dX11_aRule_381 (by decide) ?_
                                      refine r_iadd hx hb dX11_aRule_382 rfl (by decide : (1 : Int32).toInt = 1) (fun x54 e_x54 t_x54 => ?_)
                                      try have t_x54 := t_x54 (by omega)
                                      have n_383 : vp_in (13200 : Int32) 19800 := (t_in (by decide))
                                      obtain ⟨f55, e_f55⟩ : ∃ z, z = upd f49 (13200 : Int32).toNatClampNeg x54 := ⟨_, rfl⟩
                                      refine va_iast hx hb hK.1 hP hD hS 1 0 rfl rfl n_383 dX11_aRule_383 (fun H locs hP hD hS => ?_)
                                      have hP : va_P g.1 vwCl (wX11 g a_m (uR (uR I_m_171 1 f49) 1 f55) J_m) H := by rw [e_f55]; exact hP
                                      have hD : va_D A (wX11 g a_m (uR (uR I_m_171 1 f49) 1 f55) J_m) := by rw [e_f55]; exact hD
                                      have hc_383 : MI (uR (uR I_m_171 1 f49) 1 f55) := MI.ua hc_303 e_f55 (by decide : (13200 : Int32).toInt = 13200) (by omega) (by omega)
                                      have hk_383 : KK [1] [11, 12, 13, 14, 16, 17] I_m (uR (uR I_m_171 1 f49) 1 f55) := KK.ur hk_303 (by decide) (by decide)
                                      have hp_383 : PQ I_m (uR (uR I_m_171 1 f49) 1 f55) := PQ.ur hp_303 (by decide)
                                      have hN383 : NS (uR (uR I_m_171 1 f49) 1 f55) := hB317.fin e_f55 (by omega)
                                      refine lv_aload_n hx hb dX11_aRule_384 rfl (lv_at hl 4 rfl) ?_
                                      refine lv_bipush (v := 59) hx hb dX11_aRule_385 (by decide) ?_
                                      have hq387 : PQ I_m (uR (uR I_m_171 1 f49) 1 f55) := hp_383
                                      have hT383 : fxTM ((uR (uR I_m_171 1 f49) 1 f55) 1) 13200 = ((fxTM (I_m 1) 13200).1, (fxTM (I_m 1) 13200).2 ++ [cu5]) := (by rw [hcu5, ← hT5]; exact fxTM.add hB317.1.1 (hcn5.trans hn7) (uR_eq.trans e_f55) (by omega) (by omega))
                                      have hL387 : fxLM (uR (uR I_m_171 1 f49) 1 f55) q5 := hL5.of rfl rfl rfl rfl rfl rfl
                                      have hR387 : (uR (uR I_m_171 1 f49) 1 f55) 6 = I_m 6 ∧ (uR (uR I_m_171 1 f49) 1 f55) 0 10 = I_m 0 10 := hR317
                                      refine EffI.cv (wr := ([])) (w' := fun u57 => wX11 g a_m u57 J_m) (As := [.int (59 : Int32)]) (kX11_wantSign l g a_m (uR (uR I_m_171 1 f49) 1 f55) J_m (59 : Int32) hp_383.1) fx (gUV (uT _) u_573 u_574 u_575 u_5 u_576) rfl hdX11_wantSign ⟨Nat.le_of_ble_eq_true rfl, Nat.le_of_ble_eq_true rfl⟩ hK hP hD hS hA [0, 1, 2, 3, 4, 5, 6, 7, 8, 9, 10, 11, 12, 13, 14, 15, 16, 17, 18, 19, 20, 21, 22] [] [0, 1, 2, 3, 4, 5, 6, 7, 8, 9, 10, 11, 12, 13, 14, 15, 16, 17, 18, 19, 20, 21, 22] rfl rfl rfl rfl (by decide) rfl (fun _ => rfl) rfl rfl rfl rfl hl.1 (Nat.le_of_ble_eq_true rfl) dX11_aRule_387 (fun r56 u57 H locs p_r56 hP hD hS => ?_)
                                      have hP : va_P g.1 vwCl (wX11 g a_m u57 J_m) H := hP
                                      have hD : va_D A (wX11 g a_m u57 J_m) := hD
                                      have p_r56 : KK [] [11, 12, 13, 14, 16, 17] (uR (uR I_m_171 1 f49) 1 f55) u57 ∧ PQ (uR (uR I_m_171 1 f49) 1 f55) u57 ∧ (r56 = 0 ∨ r56 = 1) ∧ (r56 = 1 → AD (uR (uR I_m_171 1 f49) 1 f55) u57) ∧ ∀ (p : Int) (S S' : fxS), fxLM (uR (uR I_m_171 1 f49) 1 f55) p → (I_m_171 0 17).toInt = 0 → ((59 : Int32)).toInt = 59 → ((I_m_171 0 11).toInt = 4 → ∀ va : Int, fxSt 2 (fxWm (uR (uR I_m_171 1 f49) 1 f55)) va S = .inr S') → ((I_m_171 0 11).toInt ≠ 4 → (I_m_171 0 11).toInt ≠ 1 → fxSt (fxKm (I_m_171 0 11).toInt) (fxWm (uR (uR I_m_171 1 f49) 1 f55)) (I_m_171 0 14).toInt S = .inl 2) → fxMo (uR (uR I_m_171 1 f49) 1 f55) u57 r56 p S S' := p_r56
                                      have hfin387 : ∀ p : Int, fxLM I_m p → fxIs (fxKm (I_m 0 11).toInt) (fxWm I_m) 0 → fxMo I_m u57 r56 p (fxS0M I_m) (fxS0M u57) := fun p l hw => ((p_r56.2.2.2.2 q5 (aw5, 0, (fxTdM (I_m 0 19)), (fxTM (I_m 1) 13200), cu5) (0, 0, (fxTdM (I_m 0 19)), ((fxTM (I_m 1) 13200).1, (fxTM (I_m 1) 13200).2 ++ [cu5]), fxE) hL387 h317 (by decide) (fun _ va => by rw [fx_st45 (haw5.imp And.left id) rfl]; exact hru5) (fun z => absurd q_326.1 z)).then hR387.1 hR387.2 (by rw [hcu5]; exact hG5 p l hw)).as (by rw [← hT383]; unfold fxS0M; rw [p_r56.1.row 1 (by decide), (show KK [1] [11, 12, 13, 14, 16, 17] I_m u57 from (KK.tr hk_383 p_r56.1 (by decide) (by decide))).num 19 (by decide)])
                                      refine hret 390 ls r56 _ _ u57 dX11_aRule_390 p_r56.2.2.1 hS hP hD ?_
                                      exact ⟨(MI.kk hc_383 p_r56.1 (by decide) (by decide)), (KK.tr hk_383 p_r56.1 (by decide) (by decide)), (PQ.tr hp_383 p_r56.2.1), p_r56.2.2.1, fun q => PQ.ad hq387 (p_r56.2.2.2.1 q), hN383.row (p_r56.1.row 1 (by decide)), ((hF317.low (by omega)).put e_f55 (by decide : (13200 : Int32).toInt = 13200) (by omega)).kk p_r56.1 (by decide), hfin387⟩
                                    · refine lv_aload_n hx hb dX11_aRule_344 rfl (lv_at hl 4 rfl) ?_
                                      refine lv_sipush (v := 13200) hx hb dX11_aRule_345 (by decide) ?_
                                      refine lv_iload hx hb dX11_aRule_348 (lv_at hl 0 rfl) ?_
                                      refine PurI.cs (C := RX11) (As := [.int (13200 : Int32), .int v4_338]) (kX11_ruleAt l g (13200 : Int32) v4_338 (by omega) (by omega)) fx (gUS (uT _) u_554 u_555 u_5 u_556) rfl hdX11_ruleAt ⟨Nat.le_of_ble_eq_true rfl, Nat.le_of_ble_eq_true rfl⟩ hK hP [] rfl rfl rfl hl.1 (Nat.le_of_ble_eq_true rfl) dX11_aRule_350 (fun r58 p_r58 => ?_)
                                      refine lv_iload_n hx hb dX11_aRule_353 rfl (lv_at hl 2 rfl) ?_
                                      refine PurI.cv (As := [.int r58, .int r2]) (kX11_likeRule l g a_m (uR I_m_171 1 f49) J_m r58 r2 (by omega) (TS.lc hB317.1.1 (x := r58) (r := v4_338.toInt) rfl (by omega) (by omega)).2 ⟨(TS.lc hB317.1.1 (x := r58) (r := v4_338.toInt) rfl (by omega) (by omega)).1, (TS.lc hB317.1.1 (x := r2) (r := (x1).toInt) rfl (by omega) (by omega)).1⟩) fx (gUV (uT _) u_569 u_570 u_571 u_5 u_572) rfl hdX11_likeRule ⟨Nat.le_of_ble_eq_true rfl, Nat.le_of_ble_eq_true rfl⟩ hK hP [0, 1, 2, 3, 4, 5, 6, 7, 8, 9, 10, 11, 12, 13, 14, 15, 16, 17, 18, 19, 20, 21, 22] rfl rfl rfl rfl rfl hl.1 (Nat.le_of_ble_eq_true rfl) dX11_aRule_354 (fun r59 p_r59 => ?_)
                                      have p_r59 : bP (fxLsM (f49) (r58).toNatClampNeg = fxLsM (f49) (r2).toNatClampNeg ∧ (f49 ((r58).toNatClampNeg + 11)).toInt = (f49 ((r2).toNatClampNeg + 11)).toInt) (¬ (fxLsM (f49) (r58).toNatClampNeg = fxLsM (f49) (r2).toNatClampNeg ∧ (f49 ((r58).toNatClampNeg + 11)).toInt = (f49 ((r2).toNatClampNeg + 11)).toInt)) r59 := p_r59
                                      have hk326 : fxKm ((uR I_m_171 1 f49) 0 11).toInt = 2 := fxKm_4 q_326.1
                                      refine q_if_eq (tgt := 366) hx hb dX11_aRule_357 (by decide) rfl (fun b_357 k_357 => ?_) (fun b_357 k_357 => ?_)
                                      · have q_357 := bP.f p_r59 b_357
                                        refine r_iinc (lv' := fun i60 => [(4, .int i60), (3, .int r16), (2, .int r2), (1, .int x1), (0, .ref (a_m 0))]) hx hb dX11_aRule_366 hl (k := 0) rfl (by decide) rfl (by decide) (fun _ => rfl) (fun i60 e_i60 t_i60 ls hl => ?_)
                                        try have t_i60 := t_i60 (by omega)
                                        refine lv_goto (tgt := 338) hx hb dX11_aRule_369 (by decide) ?_
                                        exact ih_338 i60 (by omega) (fun r q => by by_cases w : (r : Int) < v4_338.toInt; exact hno_338 r w; have i4 := t_cl (i := r58) rfl (by omega); have i2 := t_cl (i := r2) rfl (by omega); rw [show 13212 + 12 * r = (r58).toNatClampNeg by omega, show (13212 + 12 * (x1).toInt.toNat) = (r2).toNatClampNeg by omega]; exact q_357) (by omega) _ _ hP hD hS ls hl
                                      · have q_357 := bP.t p_r59 b_357
                                        refine lv_aload_n hx hb dX11_aRule_360 rfl (lv_at hl 4 rfl) ?_
                                        refine lv_iconst (v := 3) hx hb dX11_aRule_361 (by decide) ?_
                                        refine EffI.cv (wr := ([])) (w' := fun u62 => wX11 g a_m u62 J_m) (As := [.int (3 : Int32)]) (kX11_fails l g a_m (uR I_m_171 1 f49) J_m (3 : Int32)) fx (gUV (uT _) u_557 u_558 u_559 u_5 u_560) rfl hdX11_fails ⟨Nat.le_of_ble_eq_true rfl, Nat.le_of_ble_eq_true rfl⟩ hK hP hD hS hA [0, 1, 2, 3, 4, 5, 6, 7, 8, 9, 10, 11, 12, 13, 14, 15, 16, 17, 18, 19, 20, 21, 22] [] [0, 1, 2, 3, 4, 5, 6, 7, 8, 9, 10, 11, 12, 13, 14, 15, 16, 17, 18, 19, 20, 21, 22] rfl rfl rfl rfl (by decide) rfl (fun _ => rfl) rfl rfl rfl rfl hl.1 (Nat.le_of_ble_eq_true rfl) dX11_aRule_362 (fun r61 u62 H locs p_r61 hP hD hS => ?_)
                                        have hP : va_P g.1 vwCl (wX11 g a_m u62 J_m) H := hP
                                        have hD : va_D A (wX11 g a_m u62 J_m) := hD
                                        have p_r61 : KK [] [16, 17] (uR I_m_171 1 f49) u62 ∧ r61 = 0 ∧ ((I_m_171 0 17).toInt = 0 → (u62 0 17).toInt = (if (I_m_171 0 11).toInt = 1 then 1 else ((3 : Int32)).toInt) ∧ u62 0 16 = (I_m_171 0 12)) ∧ (((3 : Int32)).toInt ≠ 0 → (u62 0 17).toInt ≠ 0) := p_r61
                                        refine hret 365 ls r61 _ _ u62 dX11_aRule_365 (Or.inl p_r61.2.1) hS hP hD ?_
                                        exact ⟨(MI.kk hc_303 p_r61.1 (by decide) (by decide)), (KK.tr hk_303 p_r61.1 (by decide) (by decide)), (PQ.fl hp_303 p_r61.1 (by decide) (p_r61.2.2.2 (by decide))), Or.inl p_r61.2.1, fun q => absurd (q.symm.trans p_r61.2.1) (by decide), (hB317.kk p_r61.1 (by decide)).1, (hF317.low (by omega)).kk p_r61.1 (by decide), fun p l hw => fxMo.fail p_r61 h317 (by decide) hL5 hR317.1 hR317.2 (hG5 p l hw) (fun q => by refine Eq.trans (b := Sum.inl (3 : Int)) ?_ (congrArg Sum.inl (by decide)); rw [fx_st45 (haw5.imp And.left id) hk326, ← (hF317.T hN.1 hn7)]; exact fxRule.sameM (n := (x1).toInt.toNat) (r := (v4_338).toInt.toNat) (by rw [hF317 13200 (by omega), hn7]; omega) (by omega) (by have i4 := t_cl (i := r58) rfl (by omega); have i2 := t_cl (i := r2) rfl (by omega); rw [show 13212 + 12 * (v4_338).toInt.toNat = (r58).toNatClampNeg by omega, show (13212 + 12 * (x1).toInt.toNat) = (r2).toNatClampNeg by omega]; exact q_357))⟩
                                exact L338 ((25 - (0 : Int32).toInt) + 1).toNat (0 : Int32) (by omega) (fun r q => by rw [lm0] at q; omega) (by omega) _ _ hP hD hS ls hl
                              · have q_326 := bP.f p_r52 b_326
                                obtain ⟨q5, aw5, haw5, hL5, hG5⟩ := hE317
                                refine lv_aload_n hx hb dX11_aRule_329 rfl (lv_at hl 3 rfl) ?_
                                refine lv_iconst (v := 2) hx hb dX11_aRule_330 (by decide) ?_
                                refine EffI.cv (wr := ([])) (w' := fun u64 => wX11 g a_m u64 J_m) (As := [.int (2 : Int32)]) (kX11_fails l g a_m (uR I_m_171 1 f49) J_m (2 : Int32)) fx (gUV (uT _) u_557 u_558 u_559 u_5 u_560) rfl hdX11_fails ⟨Nat.le_of_ble_eq_true rfl, Nat.le_of_ble_eq_true rfl⟩ hK hP hD hS hA [0, 1, 2, 3, 4, 5, 6, 7, 8, 9, 10, 11, 12, 13, 14, 15, 16, 17, 18, 19, 20, 21, 22] [] [0, 1, 2, 3, 4, 5, 6, 7, 8, 9, 10, 11, 12, 13, 14, 15, 16, 17, 18, 19, 20, 21, 22] rfl rfl rfl rfl (by decide) rfl (fun _ => rfl) rfl rfl rfl rfl hl.1 (Nat.le_of_ble_eq_true rfl) dX11_aRule_331 (fun r63 u64 H locs p_r63 hP hD hS => ?_)
                                have hP : va_P g.1 vwCl (wX11 g a_m u64 J_m) H := hP
                                have hD : va_D A (wX11 g a_m u64 J_m) := hD
                                have p_r63 : KK [] [16, 17] (uR I_m_171 1 f49) u64 ∧ r63 = 0 ∧ ((I_m_171 0 17).toInt = 0 → (u64 0 17).toInt = (if (I_m_171 0 11).toInt = 1 then 1 else ((2 : Int32)).toInt) ∧ u64 0 16 = (I_m_171 0 12)) ∧ (((2 : Int32)).toInt ≠ 0 → (u64 0 17).toInt ≠ 0) := p_r63
                                refine hret 334 ls r63 _ _ u64 dX11_aRule_334 (Or.inl p_r63.2.1) hS hP hD ?_
                                exact ⟨(MI.kk hc_303 p_r63.1 (by decide) (by decide)), (KK.tr hk_303 p_r63.1 (by decide) (by decide)), (PQ.fl hp_303 p_r63.1 (by decide) (p_r63.2.2.2 (by decide))), Or.inl p_r63.2.1, fun q => absurd (q.symm.trans p_r63.2.1) (by decide), (hB317.kk p_r63.1 (by decide)).1, (hF317.low (by omega)).kk p_r63.1 (by decide), fun p l hw => fxMo.fail p_r63 h317 (by decide) hL5 hR317.1 hR317.2 (hG5 p l hw) (fun q => (fx_st45n haw5 (fun z => q ((fxKm_all hL5.2.2).2.1.mpr z)) (fun z => q_326 ⟨(fxKm_all hL5.2.2).2.2.2.2.mpr z, hL5.2.1 ((fxKm_all hL5.2.2).2.2.2.2.mpr z)⟩)).trans (congrArg Sum.inl (by decide)))⟩
                            · refine lv_aload_n hx hb dX11_aRule_316 rfl (lv_at hl 3 rfl) ?_
                              refine EffV.cv (wr := ([])) (w' := fun u66 => wX11 g a_m u66 J_m) (As := []) (kX11_ahead l g a_m (uR I_m_171 1 f49) J_m hp_303.1.1) fx (gUV (uT _) u_515 u_516 u_517 u_5 u_518) rfl hdX11_ahead ⟨Nat.le_of_ble_eq_true rfl, Nat.le_of_ble_eq_true rfl⟩ hK hP hD hS hA [0, 1, 2, 3, 4, 5, 6, 7, 8, 9, 10, 11, 12, 13, 14, 15, 16, 17, 18, 19, 20, 21, 22] [] [0, 1, 2, 3, 4, 5, 6, 7, 8, 9, 10, 11, 12, 13, 14, 15, 16, 17, 18, 19, 20, 21, 22] rfl rfl rfl rfl (by decide) rfl (fun _ => rfl) rfl rfl rfl rfl hl.1 (Nat.le_of_ble_eq_true rfl) dX11_aRule_317 (fun u66 H locs p_r65 hP hD hS => ?_)
                              have hP : va_P g.1 vwCl (wX11 g a_m u66 J_m) H := hP
                              have hD : va_D A (wX11 g a_m u66 J_m) := hD
                              have p_r65 : KK [] [11, 12, 13, 14] (uR I_m_171 1 f49) u66 ∧ AH (uR I_m_171 1 f49) u66 ∧ fxLM u66 (I_m_171 0 13).toInt := p_r65
                              have hB317 := hB303.kk p_r65.1 (by decide)
                              have hR317 : u66 6 = I_m 6 ∧ u66 0 10 = I_m 0 10 := ⟨(show KK [1] [11, 12, 13, 14, 16, 17] I_m u66 from (KK.tr hk_303 p_r65.1 (by decide) (by decide))).row 6 (by decide), (show KK [1] [11, 12, 13, 14, 16, 17] I_m u66 from (KK.tr hk_303 p_r65.1 (by decide) (by decide))).num 10 (by decide)⟩
                              have hF317 : fxRf I_m u66 (x1).toInt := hF303.kk p_r65.1 (by decide)
                              have h317 : (u66 0 17).toInt = 0 := by rw [p_r65.1.num 17 (by decide)]; exact h7_171
                              have hr317 : u66 1 = (uR I_m_171 1 f49) 1 := p_r65.1.row 1 (by decide)
                              have hE317 : ∃ q aw : Int, ((aw = 4 ∧ fxKm (u66 0 11).toInt ≠ 1 ∧ ∀ k : Nat, 7 ≤ k → k ≤ 10 → ¬ (fxKm (u66 0 11).toInt = 0 ∧ fxWm u66 = fxK k)) ∨ aw = 5) ∧ fxLM u66 q ∧ ∀ p : Int, fxLM I_m p → fxIs (fxKm (I_m 0 11).toInt) (fxWm I_m) 0 → fxRe (fxBm (I_m 6)) (I_m 0 10).toInt (p, fxS0M I_m) (q, (aw, 0, (fxTdM (I_m 0 19)), (fxTM (I_m 1) 13200), (fxLsM (u66 1) (13212 + 12 * (x1).toInt.toNat), fxCsM (u66 1) (13212 + 12 * (x1).toInt.toNat), (u66 1 ((13212 + 12 * (x1).toInt.toNat) + 11)).toInt))) := (by first | (exfalso; omega) | exact ⟨(I_m_171 0 13).toInt, 5, Or.inr rfl, p_r65.2.2, fun p l hw => by rw [hr317, hls303, hcs303, hcd303]; exact fx_tk hL9 p_r65.2.2 hR171.1 hR171.2 (hG9 p l hw) (fx_s5 haw9.1 p_r16 (by omega) (by omega))⟩)
                              refine lv_aload_n hx hb dX11_aRule_320 rfl (lv_at hl 3 rfl) ?_
                              refine lv_bipush (v := 59) hx hb dX11_aRule_321 (by decide) ?_
                              refine PurI.cv (As := [.int (59 : Int32)]) (kX11_isSign l g a_m u66 J_m (59 : Int32)) fx (gUV (uT _) u_565 u_566 u_567 u_5 u_568) rfl hdX11_isSign ⟨Nat.le_of_ble_eq_true rfl, Nat.le_of_ble_eq_true rfl⟩ hK hP [0, 1, 2, 3, 4, 5, 6, 7, 8, 9, 10, 11, 12, 13, 14, 15, 16, 17, 18, 19, 20, 21, 22] rfl rfl rfl rfl rfl hl.1 (Nat.le_of_ble_eq_true rfl) dX11_aRule_323 (fun r67 p_r67 => ?_)
                              refine q_if_ne (tgt := 335) hx hb dX11_aRule_326 (by decide) rfl (fun b_326 k_326 => ?_) (fun b_326 k_326 => ?_)
                              · have q_326 := bP.t p_r67 b_326
                                obtain ⟨q5, aw5, haw5, hL5, hG5⟩ := hE317
                                refine lv_iconst (v := 0) hx hb dX11_aRule_335 (by decide) ?_
                                refine lv_istore (lv' := [(4, .int (0 : Int32)), (3, .int r16), (2, .int r2), (1, .int x1), (0, .ref (a_m 0))]) hx hb dX11_aRule_336 hl (by decide) rfl (fun ls hl => ?_)
                                have L338 : ∀ (nn : Nat) (v4_338 : Int32), (hv_338 : 0 ≤ v4_338.toInt ∧ v4_338.toInt ≤ (x1).toInt) → (hno_338 : ∀ r : Nat, (r : Int) < v4_338.toInt → ¬ (fxLsM (u66 1) (13212 + 12 * r) = fxLsM (u66 1) (13212 + 12 * (x1).toInt.toNat) ∧ (u66 1 (13212 + 12 * r + 11)).toInt = (u66 1 ((13212 + 12 * (x1).toInt.toNat) + 11)).toInt)) → ((25 - v4_338.toInt) < (nn : Int)) → ∀ (H : Heap) (locs : List Loc), va_P g.1 vwCl (wX11 g a_m u66 J_m) H → va_D A (wX11 g a_m u66 J_m) → va_S A s.heap H locs → ∀ ls : Array Slot, lv_has ls 5 [(4, .int v4_338), (3, .int r16), (2, .int r2), (1, .int x1), (0, .ref (a_m 0))] → W p l e (rm 6) s m args below meth c H locs 0 0 Q (F0 m 338 ls []) := by
                                  intro n_338
                                  induction n_338 with
                                  | zero =>
                                    intro v4_338 hv_338 hno_338 hms_338 H locs hP hD hS ls hl
                                    exfalso; omega
                                  | succ n_338 ih_338 =>
                                    intro v4_338 hv_338 hno_338 hms_338 H locs hP hD hS ls hl
                                    refine lv_iload hx hb dX11_aRule_338 (lv_at hl 0 rfl) ?_
                                    refine lv_iload_n hx hb dX11_aRule_340 rfl (lv_at hl 3 rfl) ?_
                                    refine q_icmp_ge (tgt := 372) hx hb dX11_aRule_341 (by decide) rfl rfl (fun k_341 => ?_) (fun k_341 => ?_)
                                    · obtain ⟨cu5, hcu5⟩ : ∃ y : fxR, y = (fxLsM (u66 1) (13212 + 12 * (x1).toInt.toNat), fxCsM (u66 1) (13212 + 12 * (x1).toInt.toNat), (u66 1 ((13212 + 12 * (x1).toInt.toNat) + 11)).toInt) := ⟨_, rfl⟩
                                      have hT5 := (hF317.T hN.1 hn7)
                                      have hcn5 : (u66 1 13200).toInt = (I_m 1 13200).toInt := congrArg Int32.toInt (hF317 13200 (by omega))
                                      have hru5 : fxRule (fxTdM (I_m 0 19)) (fxTM (I_m 1) 13200) cu5 = .inr (0, 0, (fxTdM (I_m 0 19)), ((fxTM (I_m 1) 13200).1, (fxTM (I_m 1) 13200).2 ++ [cu5]), fxE) := (by rw [hcu5, ← hT5]; exact fxRule.newM (n := (x1).toInt.toNat) (by omega) (fun r hr => hno_338 r (by omega)))
                                      refine lv_aload_n hx hb dX11_aRule_372 rfl (lv_at hl 4 rfl) ?_
                                      refine va_get (D := g.1) (ci := 11) (v := .ref (a_m 1)) (C := RX11) (T := TX11) (N := 46) hx hb hi_X11 (fun _ h => h) hown hK.1 hP 0 rfl rfl 0 (by decide) hf_7 (fun _ h9 => h9) rfl dX11_aRule_373 ?_
                                      refine lv_sipush (v := 13200) hx hb dX11_aRule_376 (by decide) ?_
                                      refine lv_dup2_11 hx hb dX11_aRule_379 rfl rfl ?_
                                      have n_380 : vp_in (13200 : Int32) 19800 := (t_in (by decide))
                                      refine va_iald hx hb hK.1 hP 1 0 rfl rfl n_380 dX11_aRule_380 ?_
                                      refine q_nm (fun x68 e_x68 => ?_)
                                      have e_x68 : x68 = (u66 1) 13200 := e_x68
                                      have g_x68 : x68.toInt = ((u66 1) 13200).toInt := congrArg _ e_x68
                                      have hbm : x68.toInt = ((x1).toInt) := by rw [e_x68]; exact hB317.2.1
                                      refine lv_iconst (v := 1) hx hb dX11_aRule_381 (by decide) ?_
                                      refine r_iadd hx hb dX11_aRule_382 rfl (by decide : (1 : Int32).toInt = 1) (fun x69 e_x69 t_x69 => ?_)
                                      try have t_x69 := t_x69 (by omega)
                                      have n_383 : vp_in (13200 : Int32) 19800 := (t_in (by decide))
                                      obtain ⟨f70, e_f70⟩ : ∃ z, z = upd (u66 1) (13200 : Int32).toNatClampNeg x69 := ⟨_, rfl⟩
                                      refine va_iast hx hb hK.1 hP hD hS 1 0 rfl rfl n_383 dX11_aRule_383 (fun H locs hP hD hS => ?_)
                                      have hP : va_P g.1 vwCl (wX11 g a_m (uR u66 1 f70) J_m) H := by rw [e_f70]; exact hP
                                      have hD : va_D A (wX11 g a_m (uR u66 1 f70) J_m) := by rw [e_f70]; exact hD
                                      have hc_383 : MI (uR u66 1 f70) := MI.ua (MI.kk hc_303 p_r65.1 (by decide) (by decide)) e_f70 (by decide : (13200 : Int32).toInt = 13200) (by omega) (by omega)
                                      have hk_383 : KK [1] [11, 12, 13, 14, 16, 17] I_m (uR u66 1 f70) := KK.ur (KK.tr hk_303 p_r65.1 (by decide) (by decide)) (by decide) (by decide)
                                      have hp_383 : PQ I_m (uR u66 1 f70) := PQ.ur (PQ.ah hp_303 p_r65.2.1 p_r65.1 (by decide)) (by decide)
                                      have hN383 : NS (uR u66 1 f70) := hB317.fin e_f70 (by omega)
                                      refine lv_aload_n hx hb dX11_aRule_384 rfl (lv_at hl 4 rfl) ?_
                                      refine lv_bipush (v := 59) hx hb dX11_aRule_385 (by decide) ?_
                                      have hq387 : PQ I_m (uR u66 1 f70) := hp_383
                                      have hT383 : fxTM ((uR u66 1 f70) 1) 13200 = ((fxTM (I_m 1) 13200).1, (fxTM (I_m 1) 13200).2 ++ [cu5]) := (by rw [hcu5, ← hT5]; exact fxTM.add hB317.1.1 (hcn5.trans hn7) (uR_eq.trans e_f70) (by omega) (by omega))
                                      have hL387 : fxLM (uR u66 1 f70) q5 := hL5.of rfl rfl rfl rfl rfl rfl
                                      have hR387 : (uR u66 1 f70) 6 = I_m 6 ∧ (uR u66 1 f70) 0 10 = I_m 0 10 := hR317
                                      refine EffI.cv (wr := ([])) (w' := fun u72 => wX11 g a_m u72 J_m) (As := [.int (59 : Int32)]) (kX11_wantSign l g a_m (uR u66 1 f70) J_m (59 : Int32) hp_383.1) fx (gUV (uT _) u_573 u_574 u_575 u_5 u_576) rfl hdX11_wantSign ⟨Nat.le_of_ble_eq_true rfl, Nat.le_of_ble_eq_true rfl⟩ hK hP hD hS hA [0, 1, 2, 3, 4, 5, 6, 7, 8, 9, 10, 11, 12, 13, 14, 15, 16, 17, 18, 19, 20, 21, 22] [] [0, 1, 2, 3, 4, 5, 6, 7, 8, 9, 10, 11, 12, 13, 14, 15, 16, 17, 18, 19, 20, 21, 22] rfl rfl rfl rfl (by decide) rfl (fun _ => rfl) rfl rfl rfl rfl hl.1 (Nat.le_of_ble_eq_true rfl) dX11_aRule_387 (fun r71 u72 H locs p_r71 hP hD hS => ?_)
                                      have hP : va_P g.1 vwCl (wX11 g a_m u72 J_m) H := hP
                                      have hD : va_D A (wX11 g a_m u72 J_m) := hD
                                      have p_r71 : KK [] [11, 12, 13, 14, 16, 17] (uR u66 1 f70) u72 ∧ PQ (uR u66 1 f70) u72 ∧ (r71 = 0 ∨ r71 = 1) ∧ (r71 = 1 → AD (uR u66 1 f70) u72) ∧ ∀ (p : Int) (S S' : fxS), fxLM (uR u66 1 f70) p → (u66 0 17).toInt = 0 → ((59 : Int32)).toInt = 59 → ((u66 0 11).toInt = 4 → ∀ va : Int, fxSt 2 (fxWm (uR u66 1 f70)) va S = .inr S') → ((u66 0 11).toInt ≠ 4 → (u66 0 11).toInt ≠ 1 → fxSt (fxKm (u66 0 11).toInt) (fxWm (uR u66 1 f70)) (u66 0 14).toInt S = .inl 2) → fxMo (uR u66 1 f70) u72 r71 p S S' := p_r71
                                      have hfin387 : ∀ p : Int, fxLM I_m p → fxIs (fxKm (I_m 0 11).toInt) (fxWm I_m) 0 → fxMo I_m u72 r71 p (fxS0M I_m) (fxS0M u72) := fun p l hw => ((p_r71.2.2.2.2 q5 (aw5, 0, (fxTdM (I_m 0 19)), (fxTM (I_m 1) 13200), cu5) (0, 0, (fxTdM (I_m 0 19)), ((fxTM (I_m 1) 13200).1, (fxTM (I_m 1) 13200).2 ++ [cu5]), fxE) hL387 h317 (by decide) (fun _ va => by rw [fx_st45 (haw5.imp And.left id) rfl]; exact hru5) (fun z => absurd q_326.1 z)).then hR387.1 hR387.2 (by rw [hcu5]; exact hG5 p l hw)).as (by rw [← hT383]; unfold fxS0M; rw [p_r71.1.row 1 (by decide), (show KK [1] [11, 12, 13, 14, 16, 17] I_m u72 from (KK.tr hk_383 p_r71.1 (by decide) (by decide))).num 19 (by decide)])
                                      refine hret 390 ls r71 _ _ u72 dX11_aRule_390 p_r71.2.2.1 hS hP hD ?_
                                      exact ⟨(MI.kk hc_383 p_r71.1 (by decide) (by decide)), (KK.tr hk_383 p_r71.1 (by decide) (by decide)), (PQ.tr hp_383 p_r71.2.1), p_r71.2.2.1, fun q => PQ.ad hq387 (p_r71.2.2.2.1 q), hN383.row (p_r71.1.row 1 (by decide)), ((hF317.low (by omega)).put e_f70 (by decide : (13200 : Int32).toInt = 13200) (by omega)).kk p_r71.1 (by decide), hfin387⟩
                                    · refine lv_aload_n hx hb dX11_aRule_344 rfl (lv_at hl 4 rfl) ?_
                                      refine lv_sipush (v := 13200) hx hb dX11_aRule_345 (by decide) ?_
                                      refine lv_iload hx hb dX11_aRule_348 (lv_at hl 0 rfl) ?_
                                      refine PurI.cs (C := RX11) (As := [.int (13200 : Int32), .int v4_338]) (kX11_ruleAt l g (13200 : Int32) v4_338 (by omega) (by omega)) fx (gUS (uT _) u_554 u_555 u_5 u_556) rfl hdX11_ruleAt ⟨Nat.le_of_ble_eq_true rfl, Nat.le_of_ble_eq_true rfl⟩ hK hP [] rfl rfl rfl hl.1 (Nat.le_of_ble_eq_true rfl) dX11_aRule_350 (fun r73 p_r73 => ?_)
                                      refine lv_iload_n hx hb dX11_aRule_353 rfl (lv_at hl 2 rfl) ?_
                                      refine PurI.cv (As := [.int r73, .int r2]) (kX11_likeRule l g a_m u66 J_m r73 r2 (by omega) (TS.lc hB317.1.1 (x := r73) (r := v4_338.toInt) rfl (by omega) (by omega)).2 ⟨(TS.lc hB317.1.1 (x := r73) (r := v4_338.toInt) rfl (by omega) (by omega)).1, (TS.lc hB317.1.1 (x := r2) (r := (x1).toInt) rfl (by omega) (by omega)).1⟩) fx (gUV (uT _) u_569 u_570 u_571 u_5 u_572) rfl hdX11_likeRule ⟨Nat.le_of_ble_eq_true rfl, Nat.le_of_ble_eq_true rfl⟩ hK hP [0, 1, 2, 3, 4, 5, 6, 7, 8, 9, 10, 11, 12, 13, 14, 15, 16, 17, 18, 19, 20, 21, 22] rfl rfl rfl rfl rfl hl.1 (Nat.le_of_ble_eq_true rfl) dX11_aRule_354 (fun r74 p_r74 => ?_)
                                      have hk326 : fxKm (u66 0 11).toInt = 2 := fxKm_4 q_326.1
                                      refine q_if_eq (tgt := 366) hx hb dX11_aRule_357 (by decide) rfl (fun b_357 k_357 => ?_) (fun b_357 k_357 => ?_)
                                      · have q_357 := bP.f p_r74 b_357
                                        refine r_iinc (lv' := fun i75 => [(4, .int i75), (3, .int r16), (2, .int r2), (1, .int x1), (0, .ref (a_m 0))]) hx hb dX11_aRule_366 hl (k := 0) rfl (by decide) rfl (by decide) (fun _ => rfl) (fun i75 e_i75 t_i75 ls hl => ?_)
                                        try have t_i75 := t_i75 (by omega)
                                        refine lv_goto (tgt := 338) hx hb dX11_aRule_369 (by decide) ?_
                                        exact ih_338 i75 (by omega) (fun r q => by by_cases w : (r : Int) < v4_338.toInt; exact hno_338 r w; have i4 := t_cl (i := r73) rfl (by omega); have i2 := t_cl (i := r2) rfl (by omega); rw [show 13212 + 12 * r = (r73).toNatClampNeg by omega, show (13212 + 12 * (x1).toInt.toNat) = (r2).toNatClampNeg by omega]; exact q_357) (by omega) _ _ hP hD hS ls hl
                                      · have q_357 := bP.t p_r74 b_357
                                        refine lv_aload_n hx hb dX11_aRule_360 rfl (lv_at hl 4 rfl) ?_
                                        refine lv_iconst (v := 3) hx hb dX11_aRule_361 (by decide) ?_
                                        refine EffI.cv (wr := ([])) (w' := fun u77 => wX11 g a_m u77 J_m) (As := [.int (3 : Int32)]) (kX11_fails l g a_m u66 J_m (3 : Int32)) fx (gUV (uT _) u_557 u_558 u_559 u_5 u_560) rfl hdX11_fails ⟨Nat.le_of_ble_eq_true rfl, Nat.le_of_ble_eq_true rfl⟩ hK hP hD hS hA [0, 1, 2, 3, 4, 5, 6, 7, 8, 9, 10, 11, 12, 13, 14, 15, 16, 17, 18, 19, 20, 21, 22] [] [0, 1, 2, 3, 4, 5, 6, 7, 8, 9, 10, 11, 12, 13, 14, 15, 16, 17, 18, 19, 20, 21, 22] rfl rfl rfl rfl (by decide) rfl (fun _ => rfl) rfl rfl rfl rfl hl.1 (Nat.le_of_ble_eq_true rfl) dX11_aRule_362 (fun r76 u77 H locs p_r76 hP hD hS => ?_)
                                        have hP : va_P g.1 vwCl (wX11 g a_m u77 J_m) H := hP
                                        have hD : va_D A (wX11 g a_m u77 J_m) := hD
                                        refine hret 365 ls r76 _ _ u77 dX11_aRule_365 (Or.inl p_r76.2.1) hS hP hD ?_
                                        exact ⟨(MI.kk (MI.kk hc_303 p_r65.1 (by decide) (by decide)) p_r76.1 (by decide) (by decide)), (KK.tr (KK.tr hk_303 p_r65.1 (by decide) (by decide)) p_r76.1 (by decide) (by decide)), (PQ.fl (PQ.ah hp_303 p_r65.2.1 p_r65.1 (by decide)) p_r76.1 (by decide) (p_r76.2.2.2 (by decide))), Or.inl p_r76.2.1, fun q => absurd (q.symm.trans p_r76.2.1) (by decide), (hB317.kk p_r76.1 (by decide)).1, (hF317.low (by omega)).kk p_r76.1 (by decide), fun p l hw => fxMo.fail p_r76 h317 (by decide) hL5 hR317.1 hR317.2 (hG5 p l hw) (fun q => by refine Eq.trans (b := Sum.inl (3 : Int)) ?_ (congrArg Sum.inl (by decide)); rw [fx_st45 (haw5.imp And.left id) hk326, ← (hF317.T hN.1 hn7)]; exact fxRule.sameM (n := (x1).toInt.toNat) (r := (v4_338).toInt.toNat) (by rw [hF317 13200 (by omega), hn7]; omega) (by omega) (by have i4 := t_cl (i := r73) rfl (by omega); have i2 := t_cl (i := r2) rfl (by omega); rw [show 13212 + 12 * (v4_338).toInt.toNat = (r73).toNatClampNeg by omega, show (13212 + 12 * (x1).toInt.toNat) = (r2).toNatClampNeg by omega]; exact q_357))⟩
                                exact L338 ((25 - (0 : Int32).toInt) + 1).toNat (0 : Int32) (by omega) (fun r q => by rw [lm0] at q; omega) (by omega) _ _ hP hD hS ls hl
                              · have q_326 := bP.f p_r67 b_326
                                obtain ⟨q5, aw5, haw5, hL5, hG5⟩ := hE317
                                refine lv_aload_n hx hb dX11_aRule_329 rfl (lv_at hl 3 rfl) ?_
                                refine lv_iconst (v := 2) hx hb dX11_aRule_330 (by decide) ?_
                                refine EffI.cv (wr := ([])) (w' := fun u79 => wX11 g a_m u79 J_m) (As := [.int (2 : Int32)]) (kX11_fails l g a_m u66 J_m (2 : Int32)) fx (gUV (uT _) u_557 u_558 u_559 u_5 u_560) rfl hdX11_fails ⟨Nat.le_of_ble_eq_true rfl, Nat.le_of_ble_eq_true rfl⟩ hK hP hD hS hA [0, 1, 2, 3, 4, 5, 6, 7, 8, 9, 10, 11, 12, 13, 14, 15, 16, 17, 18, 19, 20, 21, 22] [] [0, 1, 2, 3, 4, 5, 6, 7, 8, 9, 10, 11, 12, 13, 14, 15, 16, 17, 18, 19, 20, 21, 22] rfl rfl rfl rfl (by decide) rfl (fun _ => rfl) rfl rfl rfl rfl hl.1 (Nat.le_of_ble_eq_true rfl) dX11_aRule_331 (fun r78 u79 H locs p_r78 hP hD hS => ?_)
                                have hP : va_P g.1 vwCl (wX11 g a_m u79 J_m) H := hP
                                have hD : va_D A (wX11 g a_m u79 J_m) := hD
                                refine hret 334 ls r78 _ _ u79 dX11_aRule_334 (Or.inl p_r78.2.1) hS hP hD ?_
                                exact ⟨(MI.kk (MI.kk hc_303 p_r65.1 (by decide) (by decide)) p_r78.1 (by decide) (by decide)), (KK.tr (KK.tr hk_303 p_r65.1 (by decide) (by decide)) p_r78.1 (by decide) (by decide)), (PQ.fl (PQ.ah hp_303 p_r65.2.1 p_r65.1 (by decide)) p_r78.1 (by decide) (p_r78.2.2.2 (by decide))), Or.inl p_r78.2.1, fun q => absurd (q.symm.trans p_r78.2.1) (by decide), (hB317.kk p_r78.1 (by decide)).1, (hF317.low (by omega)).kk p_r78.1 (by decide), fun p l hw => fxMo.fail p_r78 h317 (by decide) hL5 hR317.1 hR317.2 (hG5 p l hw) (fun q => (fx_st45n haw5 (fun z => q ((fxKm_all hL5.2.2).2.1.mpr z)) (fun z => q_326 ⟨(fxKm_all hL5.2.2).2.2.2.2.mpr z, hL5.2.1 ((fxKm_all hL5.2.2).2.2.2.2.mpr z)⟩)).trans (congrArg Sum.inl (by decide)))⟩
                          · refine lv_iload_n hx hb dX11_aRule_293 rfl (lv_at hl 0 rfl) ?_
                            refine lv_bipush (v := 7) hx hb dX11_aRule_294 (by decide) ?_
                            refine r_isub hx hb dX11_aRule_296 rfl (by decide : (7 : Int32).toInt = 7) (fun x80 e_x80 t_x80 => ?_)
                            try have t_x80 := t_x80 (by omega)
                            refine lv_iconst (v := 1) hx hb dX11_aRule_297 (by decide) ?_
                            refine r_iadd hx hb dX11_aRule_298 rfl (by decide : (1 : Int32).toInt = 1) (fun x81 e_x81 t_x81 => ?_)
                            try have t_x81 := t_x81 (by omega)
                            refine lv_goto (tgt := 303) hx hb dX11_aRule_299 (by decide) ?_
                            have n_303 : vp_in x17 19800 := (t_in (by omega))
                            obtain ⟨f82, e_f82⟩ : ∃ z, z = upd (I_m_171 1) x17.toNatClampNeg x81 := ⟨_, rfl⟩
                            refine va_iast hx hb hK.1 hP hD hS 1 0 rfl rfl n_303 dX11_aRule_303 (fun H locs hP hD hS => ?_)
                            have hP : va_P g.1 vwCl (wX11 g a_m (uR I_m_171 1 f82) J_m) H := by rw [e_f82]; exact hP
                            have hD : va_D A (wX11 g a_m (uR I_m_171 1 f82) J_m) := by rw [e_f82]; exact hD
                            have hc_303 : MI (uR I_m_171 1 f82) := MI.ua hM_171 e_f82 rfl (by omega) (by omega)
                            have hk_303 : KK [1] [11, 12, 13, 14, 16, 17] I_m (uR I_m_171 1 f82) := KK.ur hk_171 (by decide) (by decide)
                            have hp_303 : PQ I_m (uR I_m_171 1 f82) := PQ.ur hp_171 (by decide)
                            have hB303 : RA (uR I_m_171 1 f82) ((x1).toInt) 1 1 := hB176.put (o := 11) 1 1 e_f82 rfl (by omega) (by omega) (by omega) (by omega) (by omega)
                            have hF303 : fxRf I_m (uR I_m_171 1 f82) (x1).toInt := hF_171.put e_f82 (a := (x1).toInt * 12 + 13223) (by omega) (by omega) (by omega)
                            have hls303 : fxLsM ((uR I_m_171 1 f82) 1) (13212 + 12 * (x1).toInt.toNat) = LS := (fxLsM.upd (b := (13212 + 12 * (x1).toInt.toNat)) e_f82 (a := (x1).toInt * 12 + 13223) (by omega) (by omega) hlc171 (by omega)).trans hLs_171
                            have hcs303 : fxCsM ((uR I_m_171 1 f82) 1) (13212 + 12 * (x1).toInt.toNat) = fxCsM (I_m_171 1) (13212 + 12 * (x1).toInt.toNat) := fxCsM.upd (b := (13212 + 12 * (x1).toInt.toNat)) e_f82 (a := (x1).toInt * 12 + 13223) (by omega) (by omega) (by omega) (by omega)
                            have hcd303 : ((uR I_m_171 1 f82) 1 ((13212 + 12 * (x1).toInt.toNat) + 11)).toInt = (x81).toInt := congrArg Int32.toInt (fx_atx (b := (13212 + 12 * (x1).toInt.toNat) + 11) e_f82 (by omega))
                            refine lv_aload_n hx hb dX11_aRule_304 rfl (lv_at hl 3 rfl) ?_
                            refine va_get (D := g.1) (ci := 11) (v := .ref (a_m 1)) (C := RX11) (T := TX11) (N := 46) hx hb hi_X11 (fun _ h => h) hown hK.1 hP 0 rfl rfl 0 (by decide) hf_7 (fun _ h9 => h9) rfl dX11_aRule_305 ?_
                            refine lv_iload_n hx hb dX11_aRule_308 rfl (lv_at hl 1 rfl) ?_
                            refine lv_bipush (v := 11) hx hb dX11_aRule_309 (by decide) ?_
                            refine r_iadd hx hb dX11_aRule_311 rfl (by decide : (11 : Int32).toInt = 11) (fun x83 e_x83 t_x83 => ?_)
                            try have t_x83 := t_x83 (by omega)
                            have n_312 : vp_in x83 19800 := (t_in (by omega))
                            refine va_iald hx hb hK.1 hP 1 0 rfl rfl n_312 dX11_aRule_312 ?_
                            refine q_nm (fun x84 e_x84 => ?_)
                            have e_x84 : x84 = f82 x83.toNatClampNeg := e_x84
                            have g_x84 : x84.toInt = (f82 x83.toNatClampNeg).toInt := congrArg _ e_x84
                            have hrd312 : (x84).toInt = (f82 ((13212 + 12 * (x1).toInt.toNat) + 11)).toInt := congrArg Int32.toInt (at_ix (k := (13212 + 12 * (x1).toInt.toNat) + 11) e_x84 (by omega))
                            have hcf303 : (f82 ((13212 + 12 * (x1).toInt.toNat) + 11)).toInt = (x81).toInt := hcd303
                            refine q_if_le (tgt := 320) hx hb dX11_aRule_313 (by decide) rfl (fun k_313 => ?_) (fun k_313 => ?_)
                            · have hB317 := hB303
                              have hR317 : (uR I_m_171 1 f82) 6 = I_m 6 ∧ (uR I_m_171 1 f82) 0 10 = I_m 0 10 := hR171
                              have hF317 := hF303
                              have h317 : ((uR I_m_171 1 f82) 0 17).toInt = 0 := h7_171
                              have hE317 : ∃ q aw : Int, ((aw = 4 ∧ fxKm ((uR I_m_171 1 f82) 0 11).toInt ≠ 1 ∧ ∀ k : Nat, 7 ≤ k → k ≤ 10 → ¬ (fxKm ((uR I_m_171 1 f82) 0 11).toInt = 0 ∧ fxWm (uR I_m_171 1 f82) = fxK k)) ∨ aw = 5) ∧ fxLM (uR I_m_171 1 f82) q ∧ ∀ p : Int, fxLM I_m p → fxIs (fxKm (I_m 0 11).toInt) (fxWm I_m) 0 → fxRe (fxBm (I_m 6)) (I_m 0 10).toInt (p, fxS0M I_m) (q, (aw, 0, (fxTdM (I_m 0 19)), (fxTM (I_m 1) 13200), (fxLsM ((uR I_m_171 1 f82) 1) (13212 + 12 * (x1).toInt.toNat), fxCsM ((uR I_m_171 1 f82) 1) (13212 + 12 * (x1).toInt.toNat), ((uR I_m_171 1 f82) 1 ((13212 + 12 * (x1).toInt.toNat) + 11)).toInt))) := (by first | (exfalso; omega) | exact ⟨q9, 4, Or.inl ⟨rfl, fun z => absurd ((fxKm_all hL9.2.2).2.2.2.1.mpr z) (by omega), fx_nc p_r16 (by omega)⟩, hL9.of rfl rfl rfl rfl rfl rfl, fun p l hw => by rw [hls303, hcs303, hcd303, show ((x81 : Int32)).toInt = 0 from lm0]; have w := hG9 p l hw; rw [haw9.1] at w; exact w⟩)
                              refine lv_aload_n hx hb dX11_aRule_320 rfl (lv_at hl 3 rfl) ?_
                              refine lv_bipush (v := 59) hx hb dX11_aRule_321 (by decide) ?_
                              refine PurI.cv (As := [.int (59 : Int32)]) (kX11_isSign l g a_m (uR I_m_171 1 f82) J_m (59 : Int32)) fx (gUV (uT _) u_565 u_566 u_567 u_5 u_568) rfl hdX11_isSign ⟨Nat.le_of_ble_eq_true rfl, Nat.le_of_ble_eq_true rfl⟩ hK hP [0, 1, 2, 3, 4, 5, 6, 7, 8, 9, 10, 11, 12, 13, 14, 15, 16, 17, 18, 19, 20, 21, 22] rfl rfl rfl rfl rfl hl.1 (Nat.le_of_ble_eq_true rfl) dX11_aRule_323 (fun r85 p_r85 => ?_)
                              have p_r85 : bP ((I_m_171 0 11).toInt = 4 ∧ (I_m_171 0 14).toInt = ((59 : Int32)).toInt) (¬ ((I_m_171 0 11).toInt = 4 ∧ (I_m_171 0 14).toInt = ((59 : Int32)).toInt)) r85 := p_r85
                              refine q_if_ne (tgt := 335) hx hb dX11_aRule_326 (by decide) rfl (fun b_326 k_326 => ?_) (fun b_326 k_326 => ?_)
                              · have q_326 := bP.t p_r85 b_326
                                obtain ⟨q5, aw5, haw5, hL5, hG5⟩ := hE317
                                refine lv_iconst (v := 0) hx hb dX11_aRule_335 (by decide) ?_
                                refine lv_istore (lv' := [(4, .int (0 : Int32)), (3, .int r16), (2, .int r2), (1, .int x1), (0, .ref (a_m 0))]) hx hb dX11_aRule_336 hl (by decide) rfl (fun ls hl => ?_)
                                have L338 : ∀ (nn : Nat) (v4_338 : Int32), (hv_338 : 0 ≤ v4_338.toInt ∧ v4_338.toInt ≤ (x1).toInt) → (hno_338 : ∀ r : Nat, (r : Int) < v4_338.toInt → ¬ (fxLsM ((uR I_m_171 1 f82) 1) (13212 + 12 * r) = fxLsM ((uR I_m_171 1 f82) 1) (13212 + 12 * (x1).toInt.toNat) ∧ ((uR I_m_171 1 f82) 1 (13212 + 12 * r + 11)).toInt = ((uR I_m_171 1 f82) 1 ((13212 + 12 * (x1).toInt.toNat) + 11)).toInt)) → ((25 - v4_338.toInt) < (nn : Int)) → ∀ (H : Heap) (locs : List Loc), va_P g.1 vwCl (wX11 g a_m (uR I_m_171 1 f82) J_m) H → va_D A (wX11 g a_m (uR I_m_171 1 f82) J_m) → va_S A s.heap H locs → ∀ ls : Array Slot, lv_has ls 5 [(4, .int v4_338), (3, .int r16), (2, .int r2), (1, .int x1), (0, .ref (a_m 0))] → W p l e (rm 6) s m args below meth c H locs 0 0 Q (F0 m 338 ls []) := by
                                  intro n_338
                                  induction n_338 with
                                  | zero =>
                                    intro v4_338 hv_338 hno_338 hms_338 H locs hP hD hS ls hl
                                    exfalso; omega
                                  | succ n_338 ih_338 =>
                                    intro v4_338 hv_338 hno_338 hms_338 H locs hP hD hS ls hl
                                    refine lv_iload hx hb dX11_aRule_338 (lv_at hl 0 rfl) ?_
                                    refine lv_iload_n hx hb dX11_aRule_340 rfl (lv_at hl 3 rfl) ?_
                                    refine q_icmp_ge (tgt := 372) hx hb dX11_aRule_341 (by decide) rfl rfl (fun k_341 => ?_) (fun k_341 => ?_)
                                    · obtain ⟨cu5, hcu5⟩ : ∃ y : fxR, y = (fxLsM ((uR I_m_171 1 f82) 1) (13212 + 12 * (x1).toInt.toNat), fxCsM ((uR I_m_171 1 f82) 1) (13212 + 12 * (x1).toInt.toNat), ((uR I_m_171 1 f82) 1 ((13212 + 12 * (x1).toInt.toNat) + 11)).toInt) := ⟨_, rfl⟩
                                      have hT5 := (hF317.T hN.1 hn7)
                                      have hcn5 : ((uR I_m_171 1 f82) 1 13200).toInt = (I_m 1 13200).toInt := congrArg Int32.toInt (hF317 13200 (by omega))
                                      have hru5 : fxRule (fxTdM (I_m 0 19)) (fxTM (I_m 1) 13200) cu5 = .inr (0, 0, (fxTdM (I_m 0 19)), ((fxTM (I_m 1) 13200).1, (fxTM (I_m 1) 13200).2 ++ [cu5]), fxE) := (by rw [hcu5, ← hT5]; exact fxRule.newM (n := (x1).toInt.toNat) (by omega) (fun r hr => hno_338 r (by omega)))
                                      refine lv_aload_n hx hb dX11_aRule_372 rfl (lv_at hl 4 rfl) ?_
                                      refine va_get (D := g.1) (ci := 11) (v := .ref (a_m 1)) (C := RX11) (T := TX11) (N := 46) hx hb hi_X11 (fun _ h => h) hown hK.1 hP 0 rfl rfl 0 (by decide) hf_7 (fun _ h9 => h9) rfl dX11_aRule_373 ?_
                                      refine lv_sipush (v := 13200) hx hb dX11_aRule_376 (by decide) ?_
                                      refine lv_dup2_11 hx hb dX11_aRule_379 rfl rfl ?_
                                      have n_380 : vp_in (13200 : Int32) 19800 := (t_in (by decide))
                                      refine va_iald hx hb hK.1 hP 1 0 rfl rfl n_380 dX11_aRule_380 ?_
                                      refine q_nm (fun x86 e_x86 => ?_)
                                      have e_x86 : x86 = f82 13200 := e_x86
                                      have g_x86 : x86.toInt = (f82 13200).toInt := congrArg _ e_x86
                                      have hbm : x86.toInt = ((x1).toInt) := by rw [e_x86]; exact hB317.2.1
                                      refine lv_iconst (v := 1) hx hb dX11_aRule_381 (by decide) ?_
                                      refine r_iadd hx hb dX11_aRule_382 rfl (by decide : (1 : Int32).toInt = 1) (fun x87 e_x87 t_x87 => ?_)
                                      try have t_x87 := t_x87 (by omega)
                                      have n_383 : vp_in (13200 : Int32) 19800 := (t_in (by decide))
                                      obtain ⟨f88, e_f88⟩ : ∃ z, z = upd f82 (13200 : Int32).toNatClampNeg x87 := ⟨_, rfl⟩
                                      refine va_iast hx hb hK.1 hP hD hS 1 0 rfl rfl n_383 dX11_aRule_383 (fun H locs hP hD hS => ?_)
                                      have hP : va_P g.1 vwCl (wX11 g a_m (uR (uR I_m_171 1 f82) 1 f88) J_m) H := by rw [e_f88]; exact hP
                                      have hD : va_D A (wX11 g a_m (uR (uR I_m_171 1 f82) 1 f88) J_m) := by rw [e_f88]; exact hD
                                      have hc_383 : MI (uR (uR I_m_171 1 f82) 1 f88) := MI.ua hc_303 e_f88 (by decide : (13200 : Int32).toInt = 13200) (by omega) (by omega)
                                      have hk_383 : KK [1] [11, 12, 13, 14, 16, 17] I_m (uR (uR I_m_171 1 f82) 1 f88) := KK.ur hk_303 (by decide) (by decide)
                                      have hp_383 : PQ I_m (uR (uR I_m_171 1 f82) 1 f88) := PQ.ur hp_303 (by decide)
                                      have hN383 : NS (uR (uR I_m_171 1 f82) 1 f88) := hB317.fin e_f88 (by omega)
                                      refine lv_aload_n hx hb dX11_aRule_384 rfl (lv_at hl 4 rfl) ?_
                                      refine lv_bipush (v := 59) hx hb dX11_aRule_385 (by decide) ?_
                                      have hq387 : PQ I_m (uR (uR I_m_171 1 f82) 1 f88) := hp_383
                                      have hT383 : fxTM ((uR (uR I_m_171 1 f82) 1 f88) 1) 13200 = ((fxTM (I_m 1) 13200).1, (fxTM (I_m 1) 13200).2 ++ [cu5]) := (by rw [hcu5, ← hT5]; exact fxTM.add hB317.1.1 (hcn5.trans hn7) (uR_eq.trans e_f88) (by omega) (by omega))
                                      have hL387 : fxLM (uR (uR I_m_171 1 f82) 1 f88) q5 := hL5.of rfl rfl rfl rfl rfl rfl
                                      have hR387 : (uR (uR I_m_171 1 f82) 1 f88) 6 = I_m 6 ∧ (uR (uR I_m_171 1 f82) 1 f88) 0 10 = I_m 0 10 := hR317
                                      refine EffI.cv (wr := ([])) (w' := fun u90 => wX11 g a_m u90 J_m) (As := [.int (59 : Int32)]) (kX11_wantSign l g a_m (uR (uR I_m_171 1 f82) 1 f88) J_m (59 : Int32) hp_383.1) fx (gUV (uT _) u_573 u_574 u_575 u_5 u_576) rfl hdX11_wantSign ⟨Nat.le_of_ble_eq_true rfl, Nat.le_of_ble_eq_true rfl⟩ hK hP hD hS hA [0, 1, 2, 3, 4, 5, 6, 7, 8, 9, 10, 11, 12, 13, 14, 15, 16, 17, 18, 19, 20, 21, 22] [] [0, 1, 2, 3, 4, 5, 6, 7, 8, 9, 10, 11, 12, 13, 14, 15, 16, 17, 18, 19, 20, 21, 22] rfl rfl rfl rfl (by decide) rfl (fun _ => rfl) rfl rfl rfl rfl hl.1 (Nat.le_of_ble_eq_true rfl) dX11_aRule_387 (fun r89 u90 H locs p_r89 hP hD hS => ?_)
                                      have hP : va_P g.1 vwCl (wX11 g a_m u90 J_m) H := hP
                                      have hD : va_D A (wX11 g a_m u90 J_m) := hD
                                      have p_r89 : KK [] [11, 12, 13, 14, 16, 17] (uR (uR I_m_171 1 f82) 1 f88) u90 ∧ PQ (uR (uR I_m_171 1 f82) 1 f88) u90 ∧ (r89 = 0 ∨ r89 = 1) ∧ (r89 = 1 → AD (uR (uR I_m_171 1 f82) 1 f88) u90) ∧ ∀ (p : Int) (S S' : fxS), fxLM (uR (uR I_m_171 1 f82) 1 f88) p → (I_m_171 0 17).toInt = 0 → ((59 : Int32)).toInt = 59 → ((I_m_171 0 11).toInt = 4 → ∀ va : Int, fxSt 2 (fxWm (uR (uR I_m_171 1 f82) 1 f88)) va S = .inr S') → ((I_m_171 0 11).toInt ≠ 4 → (I_m_171 0 11).toInt ≠ 1 → fxSt (fxKm (I_m_171 0 11).toInt) (fxWm (uR (uR I_m_171 1 f82) 1 f88)) (I_m_171 0 14).toInt S = .inl 2) → fxMo (uR (uR I_m_171 1 f82) 1 f88) u90 r89 p S S' := p_r89
                                      have hfin387 : ∀ p : Int, fxLM I_m p → fxIs (fxKm (I_m 0 11).toInt) (fxWm I_m) 0 → fxMo I_m u90 r89 p (fxS0M I_m) (fxS0M u90) := fun p l hw => ((p_r89.2.2.2.2 q5 (aw5, 0, (fxTdM (I_m 0 19)), (fxTM (I_m 1) 13200), cu5) (0, 0, (fxTdM (I_m 0 19)), ((fxTM (I_m 1) 13200).1, (fxTM (I_m 1) 13200).2 ++ [cu5]), fxE) hL387 h317 (by decide) (fun _ va => by rw [fx_st45 (haw5.imp And.left id) rfl]; exact hru5) (fun z => absurd q_326.1 z)).then hR387.1 hR387.2 (by rw [hcu5]; exact hG5 p l hw)).as (by rw [← hT383]; unfold fxS0M; rw [p_r89.1.row 1 (by decide), (show KK [1] [11, 12, 13, 14, 16, 17] I_m u90 from (KK.tr hk_383 p_r89.1 (by decide) (by decide))).num 19 (by decide)])
                                      refine hret 390 ls r89 _ _ u90 dX11_aRule_390 p_r89.2.2.1 hS hP hD ?_
                                      exact ⟨(MI.kk hc_383 p_r89.1 (by decide) (by decide)), (KK.tr hk_383 p_r89.1 (by decide) (by decide)), (PQ.tr hp_383 p_r89.2.1), p_r89.2.2.1, fun q => PQ.ad hq387 (p_r89.2.2.2.1 q), hN383.row (p_r89.1.row 1 (by decide)), ((hF317.low (by omega)).put e_f88 (by decide : (13200 : Int32).toInt = 13200) (by omega)).kk p_r89.1 (by decide), hfin387⟩
                                    · refine lv_aload_n hx hb dX11_aRule_344 rfl (lv_at hl 4 rfl) ?_
                                      refine lv_sipush (v := 13200) hx hb dX11_aRule_345 (by decide) ?_
                                      refine lv_iload hx hb dX11_aRule_348 (lv_at hl 0 rfl) ?_
                                      refine PurI.cs (C := RX11) (As := [.int (13200 : Int32), .int v4_338]) (kX11_ruleAt l g (13200 : Int32) v4_338 (by omega) (by omega)) fx (gUS (uT _) u_554 u_555 u_5 u_556) rfl hdX11_ruleAt ⟨Nat.le_of_ble_eq_true rfl, Nat.le_of_ble_eq_true rfl⟩ hK hP [] rfl rfl rfl hl.1 (Nat.le_of_ble_eq_true rfl) dX11_aRule_350 (fun r91 p_r91 => ?_)
                                      refine lv_iload_n hx hb dX11_aRule_353 rfl (lv_at hl 2 rfl) ?_
                                      refine PurI.cv (As := [.int r91, .int r2]) (kX11_likeRule l g a_m (uR I_m_171 1 f82) J_m r91 r2 (by omega) (TS.lc hB317.1.1 (x := r91) (r := v4_338.toInt) rfl (by omega) (by omega)).2 ⟨(TS.lc hB317.1.1 (x := r91) (r := v4_338.toInt) rfl (by omega) (by omega)).1, (TS.lc hB317.1.1 (x := r2) (r := (x1).toInt) rfl (by omega) (by omega)).1⟩) fx (gUV (uT _) u_569 u_570 u_571 u_5 u_572) rfl hdX11_likeRule ⟨Nat.le_of_ble_eq_true rfl, Nat.le_of_ble_eq_true rfl⟩ hK hP [0, 1, 2, 3, 4, 5, 6, 7, 8, 9, 10, 11, 12, 13, 14, 15, 16, 17, 18, 19, 20, 21, 22] rfl rfl rfl rfl rfl hl.1 (Nat.le_of_ble_eq_true rfl) dX11_aRule_354 (fun r92 p_r92 => ?_)
                                      have p_r92 : bP (fxLsM (f82) (r91).toNatClampNeg = fxLsM (f82) (r2).toNatClampNeg ∧ (f82 ((r91).toNatClampNeg + 11)).toInt = (f82 ((r2).toNatClampNeg + 11)).toInt) (¬ (fxLsM (f82) (r91).toNatClampNeg = fxLsM (f82) (r2).toNatClampNeg ∧ (f82 ((r91).toNatClampNeg + 11)).toInt = (f82 ((r2).toNatClampNeg + 11)).toInt)) r92 := p_r92
                                      have hk326 : fxKm ((uR I_m_171 1 f82) 0 11).toInt = 2 := fxKm_4 q_326.1
                                      refine q_if_eq (tgt := 366) hx hb dX11_aRule_357 (by decide) rfl (fun b_357 k_357 => ?_) (fun b_357 k_357 => ?_)
                                      · have q_357 := bP.f p_r92 b_357
                                        refine r_iinc (lv' := fun i93 => [(4, .int i93), (3, .int r16), (2, .int r2), (1, .int x1), (0, .ref (a_m 0))]) hx hb dX11_aRule_366 hl (k := 0) rfl (by decide) rfl (by decide) (fun _ => rfl) (fun i93 e_i93 t_i93 ls hl => ?_)
                                        try have t_i93 := t_i93 (by omega)
                                        refine lv_goto (tgt := 338) hx hb dX11_aRule_369 (by decide) ?_
                                        exact ih_338 i93 (by omega) (fun r q => by by_cases w : (r : Int) < v4_338.toInt; exact hno_338 r w; have i4 := t_cl (i := r91) rfl (by omega); have i2 := t_cl (i := r2) rfl (by omega); rw [show 13212 + 12 * r = (r91).toNatClampNeg by omega, show (13212 + 12 * (x1).toInt.toNat) = (r2).toNatClampNeg by omega]; exact q_357) (by omega) _ _ hP hD hS ls hl
                                      · have q_357 := bP.t p_r92 b_357
                                        refine lv_aload_n hx hb dX11_aRule_360 rfl (lv_at hl 4 rfl) ?_
                                        refine lv_iconst (v := 3) hx hb dX11_aRule_361 (by decide) ?_
                                        refine EffI.cv (wr := ([])) (w' := fun u95 => wX11 g a_m u95 J_m) (As := [.int (3 : Int32)]) (kX11_fails l g a_m (uR I_m_171 1 f82) J_m (3 : Int32)) fx (gUV (uT _) u_557 u_558 u_559 u_5 u_560) rfl hdX11_fails ⟨Nat.le_of_ble_eq_true rfl, Nat.le_of_ble_eq_true rfl⟩ hK hP hD hS hA [0, 1, 2, 3, 4, 5, 6, 7, 8, 9, 10, 11, 12, 13, 14, 15, 16, 17, 18, 19, 20, 21, 22] [] [0, 1, 2, 3, 4, 5, 6, 7, 8, 9, 10, 11, 12, 13, 14, 15, 16, 17, 18, 19, 20, 21, 22] rfl rfl rfl rfl (by decide) rfl (fun _ => rfl) rfl rfl rfl rfl hl.1 (Nat.le_of_ble_eq_true rfl) dX11_aRule_362 (fun r94 u95 H locs p_r94 hP hD hS => ?_)
                                        have hP : va_P g.1 vwCl (wX11 g a_m u95 J_m) H := hP
                                        have hD : va_D A (wX11 g a_m u95 J_m) := hD
                                        have p_r94 : KK [] [16, 17] (uR I_m_171 1 f82) u95 ∧ r94 = 0 ∧ ((I_m_171 0 17).toInt = 0 → (u95 0 17).toInt = (if (I_m_171 0 11).toInt = 1 then 1 else ((3 : Int32)).toInt) ∧ u95 0 16 = (I_m_171 0 12)) ∧ (((3 : Int32)).toInt ≠ 0 → (u95 0 17).toInt ≠ 0) := p_r94
                                        refine hret 365 ls r94 _ _ u95 dX11_aRule_365 (Or.inl p_r94.2.1) hS hP hD ?_
                                        exact ⟨(MI.kk hc_303 p_r94.1 (by decide) (by decide)), (KK.tr hk_303 p_r94.1 (by decide) (by decide)), (PQ.fl hp_303 p_r94.1 (by decide) (p_r94.2.2.2 (by decide))), Or.inl p_r94.2.1, fun q => absurd (q.symm.trans p_r94.2.1) (by decide), (hB317.kk p_r94.1 (by decide)).1, (hF317.low (by omega)).kk p_r94.1 (by decide), fun p l hw => fxMo.fail p_r94 h317 (by decide) hL5 hR317.1 hR317.2 (hG5 p l hw) (fun q => by refine Eq.trans (b := Sum.inl (3 : Int)) ?_ (congrArg Sum.inl (by decide)); rw [fx_st45 (haw5.imp And.left id) hk326, ← (hF317.T hN.1 hn7)]; exact fxRule.sameM (n := (x1).toInt.toNat) (r := (v4_338).toInt.toNat) (by rw [hF317 13200 (by omega), hn7]; omega) (by omega) (by have i4 := t_cl (i := r91) rfl (by omega); have i2 := t_cl (i := r2) rfl (by omega); rw [show 13212 + 12 * (v4_338).toInt.toNat = (r91).toNatClampNeg by omega, show (13212 + 12 * (x1).toInt.toNat) = (r2).toNatClampNeg by omega]; exact q_357))⟩
                                exact L338 ((25 - (0 : Int32).toInt) + 1).toNat (0 : Int32) (by omega) (fun r q => by rw [lm0] at q; omega) (by omega) _ _ hP hD hS ls hl
                              · have q_326 := bP.f p_r85 b_326
                                obtain ⟨q5, aw5, haw5, hL5, hG5⟩ := hE317
                                refine lv_aload_n hx hb dX11_aRule_329 rfl (lv_at hl 3 rfl) ?_
                                refine lv_iconst (v := 2) hx hb dX11_aRule_330 (by decide) ?_
                                refine EffI.cv (wr := ([])) (w' := fun u97 => wX11 g a_m u97 J_m) (As := [.int (2 : Int32)]) (kX11_fails l g a_m (uR I_m_171 1 f82) J_m (2 : Int32)) fx (gUV (uT _) u_557 u_558 u_559 u_5 u_560) rfl hdX11_fails ⟨Nat.le_of_ble_eq_true rfl, Nat.le_of_ble_eq_true rfl⟩ hK hP hD hS hA [0, 1, 2, 3, 4, 5, 6, 7, 8, 9, 10, 11, 12, 13, 14, 15, 16, 17, 18, 19, 20, 21, 22] [] [0, 1, 2, 3, 4, 5, 6, 7, 8, 9, 10, 11, 12, 13, 14, 15, 16, 17, 18, 19, 20, 21, 22] rfl rfl rfl rfl (by decide) rfl (fun _ => rfl) rfl rfl rfl rfl hl.1 (Nat.le_of_ble_eq_true rfl) dX11_aRule_331 (fun r96 u97 H locs p_r96 hP hD hS => ?_)
                                have hP : va_P g.1 vwCl (wX11 g a_m u97 J_m) H := hP
                                have hD : va_D A (wX11 g a_m u97 J_m) := hD
                                have p_r96 : KK [] [16, 17] (uR I_m_171 1 f82) u97 ∧ r96 = 0 ∧ ((I_m_171 0 17).toInt = 0 → (u97 0 17).toInt = (if (I_m_171 0 11).toInt = 1 then 1 else ((2 : Int32)).toInt) ∧ u97 0 16 = (I_m_171 0 12)) ∧ (((2 : Int32)).toInt ≠ 0 → (u97 0 17).toInt ≠ 0) := p_r96
                                refine hret 334 ls r96 _ _ u97 dX11_aRule_334 (Or.inl p_r96.2.1) hS hP hD ?_
                                exact ⟨(MI.kk hc_303 p_r96.1 (by decide) (by decide)), (KK.tr hk_303 p_r96.1 (by decide) (by decide)), (PQ.fl hp_303 p_r96.1 (by decide) (p_r96.2.2.2 (by decide))), Or.inl p_r96.2.1, fun q => absurd (q.symm.trans p_r96.2.1) (by decide), (hB317.kk p_r96.1 (by decide)).1, (hF317.low (by omega)).kk p_r96.1 (by decide), fun p l hw => fxMo.fail p_r96 h317 (by decide) hL5 hR317.1 hR317.2 (hG5 p l hw) (fun q => (fx_st45n haw5 (fun z => q ((fxKm_all hL5.2.2).2.1.mpr z)) (fun z => q_326 ⟨(fxKm_all hL5.2.2).2.2.2.2.mpr z, hL5.2.1 ((fxKm_all hL5.2.2).2.2.2.2.mpr z)⟩)).trans (congrArg Sum.inl (by decide)))⟩
                            · refine lv_aload_n hx hb dX11_aRule_316 rfl (lv_at hl 3 rfl) ?_
                              refine EffV.cv (wr := ([])) (w' := fun u99 => wX11 g a_m u99 J_m) (As := []) (kX11_ahead l g a_m (uR I_m_171 1 f82) J_m hp_303.1.1) fx (gUV (uT _) u_515 u_516 u_517 u_5 u_518) rfl hdX11_ahead ⟨Nat.le_of_ble_eq_true rfl, Nat.le_of_ble_eq_true rfl⟩ hK hP hD hS hA [0, 1, 2, 3, 4, 5, 6, 7, 8, 9, 10, 11, 12, 13, 14, 15, 16, 17, 18, 19, 20, 21, 22] [] [0, 1, 2, 3, 4, 5, 6, 7, 8, 9, 10, 11, 12, 13, 14, 15, 16, 17, 18, 19, 20, 21, 22] rfl rfl rfl rfl (by decide) rfl (fun _ => rfl) rfl rfl rfl rfl hl.1 (Nat.le_of_ble_eq_true rfl) dX11_aRule_317 (fun u99 H locs p_r98 hP hD hS => ?_)
                              have hP : va_P g.1 vwCl (wX11 g a_m u99 J_m) H := hP
                              have hD : va_D A (wX11 g a_m u99 J_m) := hD
                              have p_r98 : KK [] [11, 12, 13, 14] (uR I_m_171 1 f82) u99 ∧ AH (uR I_m_171 1 f82) u99 ∧ fxLM u99 (I_m_171 0 13).toInt := p_r98
                              have hB317 := hB303.kk p_r98.1 (by decide)
                              have hR317 : u99 6 = I_m 6 ∧ u99 0 10 = I_m 0 10 := ⟨(show KK [1] [11, 12, 13, 14, 16, 17] I_m u99 from (KK.tr hk_303 p_r98.1 (by decide) (by decide))).row 6 (by decide), (show KK [1] [11, 12, 13, 14, 16, 17] I_m u99 from (KK.tr hk_303 p_r98.1 (by decide) (by decide))).num 10 (by decide)⟩
                              have hF317 : fxRf I_m u99 (x1).toInt := hF303.kk p_r98.1 (by decide)
                              have h317 : (u99 0 17).toInt = 0 := by rw [p_r98.1.num 17 (by decide)]; exact h7_171
                              have hr317 : u99 1 = (uR I_m_171 1 f82) 1 := p_r98.1.row 1 (by decide)
                              have hE317 : ∃ q aw : Int, ((aw = 4 ∧ fxKm (u99 0 11).toInt ≠ 1 ∧ ∀ k : Nat, 7 ≤ k → k ≤ 10 → ¬ (fxKm (u99 0 11).toInt = 0 ∧ fxWm u99 = fxK k)) ∨ aw = 5) ∧ fxLM u99 q ∧ ∀ p : Int, fxLM I_m p → fxIs (fxKm (I_m 0 11).toInt) (fxWm I_m) 0 → fxRe (fxBm (I_m 6)) (I_m 0 10).toInt (p, fxS0M I_m) (q, (aw, 0, (fxTdM (I_m 0 19)), (fxTM (I_m 1) 13200), (fxLsM (u99 1) (13212 + 12 * (x1).toInt.toNat), fxCsM (u99 1) (13212 + 12 * (x1).toInt.toNat), (u99 1 ((13212 + 12 * (x1).toInt.toNat) + 11)).toInt))) := (by first | (exfalso; omega) | exact ⟨(I_m_171 0 13).toInt, 5, Or.inr rfl, p_r98.2.2, fun p l hw => by rw [hr317, hls303, hcs303, hcd303]; exact fx_tk hL9 p_r98.2.2 hR171.1 hR171.2 (hG9 p l hw) (fx_s5 haw9.1 p_r16 (by omega) (by omega))⟩)
                              refine lv_aload_n hx hb dX11_aRule_320 rfl (lv_at hl 3 rfl) ?_
                              refine lv_bipush (v := 59) hx hb dX11_aRule_321 (by decide) ?_
                              refine PurI.cv (As := [.int (59 : Int32)]) (kX11_isSign l g a_m u99 J_m (59 : Int32)) fx (gUV (uT _) u_565 u_566 u_567 u_5 u_568) rfl hdX11_isSign ⟨Nat.le_of_ble_eq_true rfl, Nat.le_of_ble_eq_true rfl⟩ hK hP [0, 1, 2, 3, 4, 5, 6, 7, 8, 9, 10, 11, 12, 13, 14, 15, 16, 17, 18, 19, 20, 21, 22] rfl rfl rfl rfl rfl hl.1 (Nat.le_of_ble_eq_true rfl) dX11_aRule_323 (fun r100 p_r100 => ?_)
                              refine q_if_ne (tgt := 335) hx hb dX11_aRule_326 (by decide) rfl (fun b_326 k_326 => ?_) (fun b_326 k_326 => ?_)
                              · have q_326 := bP.t p_r100 b_326
                                obtain ⟨q5, aw5, haw5, hL5, hG5⟩ := hE317
                                refine lv_iconst (v := 0) hx hb dX11_aRule_335 (by decide) ?_
                                refine lv_istore (lv' := [(4, .int (0 : Int32)), (3, .int r16), (2, .int r2), (1, .int x1), (0, .ref (a_m 0))]) hx hb dX11_aRule_336 hl (by decide) rfl (fun ls hl => ?_)
                                have L338 : ∀ (nn : Nat) (v4_338 : Int32), (hv_338 : 0 ≤ v4_338.toInt ∧ v4_338.toInt ≤ (x1).toInt) → (hno_338 : ∀ r : Nat, (r : Int) < v4_338.toInt → ¬ (fxLsM (u99 1) (13212 + 12 * r) = fxLsM (u99 1) (13212 + 12 * (x1).toInt.toNat) ∧ (u99 1 (13212 + 12 * r + 11)).toInt = (u99 1 ((13212 + 12 * (x1).toInt.toNat) + 11)).toInt)) → ((25 - v4_338.toInt) < (nn : Int)) → ∀ (H : Heap) (locs : List Loc), va_P g.1 vwCl (wX11 g a_m u99 J_m) H → va_D A (wX11 g a_m u99 J_m) → va_S A s.heap H locs → ∀ ls : Array Slot, lv_has ls 5 [(4, .int v4_338), (3, .int r16), (2, .int r2), (1, .int x1), (0, .ref (a_m 0))] → W p l e (rm 6) s m args below meth c H locs 0 0 Q (F0 m 338 ls []) := by
                                  intro n_338
                                  induction n_338 with
                                  | zero =>
                                    intro v4_338 hv_338 hno_338 hms_338 H locs hP hD hS ls hl
                                    exfalso; omega
                                  | succ n_338 ih_338 =>
                                    intro v4_338 hv_338 hno_338 hms_338 H locs hP hD hS ls hl
                                    refine lv_iload hx hb dX11_aRule_338 (lv_at hl 0 rfl) ?_
                                    refine lv_iload_n hx hb dX11_aRule_340 rfl (lv_at hl 3 rfl) ?_
                                    refine q_icmp_ge (tgt := 372) hx hb dX11_aRule_341 (by decide) rfl rfl (fun k_341 => ?_) (fun k_341 => ?_)
                                    · obtain ⟨cu5, hcu5⟩ : ∃ y : fxR, y = (fxLsM (u99 1) (13212 + 12 * (x1).toInt.toNat), fxCsM (u99 1) (13212 + 12 * (x1).toInt.toNat), (u99 1 ((13212 + 12 * (x1).toInt.toNat) + 11)).toInt) := ⟨_, rfl⟩
                                      have hT5 := (hF317.T hN.1 hn7)
                                      have hcn5 : (u99 1 13200).toInt = (I_m 1 13200).toInt := congrArg Int32.toInt (hF317 13200 (by omega))
                                      have hru5 : fxRule (fxTdM (I_m 0 19)) (fxTM (I_m 1) 13200) cu5 = .inr (0, 0, (fxTdM (I_m 0 19)), ((fxTM (I_m 1) 13200).1, (fxTM (I_m 1) 13200).2 ++ [cu5]), fxE) := (by rw [hcu5, ← hT5]; exact fxRule.newM (n := (x1).toInt.toNat) (by omega) (fun r hr => hno_338 r (by omega)))
                                      refine lv_aload_n hx hb dX11_aRule_372 rfl (lv_at hl 4 rfl) ?_
                                      refine va_get (D := g.1) (ci := 11) (v := .ref (a_m 1)) (C := RX11) (T := TX11) (N := 46) hx hb hi_X11 (fun _ h => h) hown hK.1 hP 0 rfl rfl 0 (by decide) hf_7 (fun _ h9 => h9) rfl dX11_aRule_373 ?_
                                      refine lv_sipush (v := 13200) hx hb dX11_aRule_376 (by decide) ?_
                                      refine lv_dup2_11 hx hb dX11_aRule_379 rfl rfl ?_
                                      have n_380 : vp_in (13200 : Int32) 19800 := (t_in (by decide))
                                      refine va_iald hx hb hK.1 hP 1 0 rfl rfl n_380 dX11_aRule_380 ?_
                                      refine q_nm (fun x101 e_x101 => ?_)
                                      have e_x101 : x101 = (u99 1) 13200 := e_x101
                                      have g_x101 : x101.toInt = ((u99 1) 13200).toInt := congrArg _ e_x101
                                      have hbm : x101.toInt = ((x1).toInt) := by rw [e_x101]; exact hB317.2.1
                                      refine lv_iconst (v := 1) hx hb dX11_aRule_381 (by decide) ?_
                                      refine r_iadd hx hb dX11_aRule_382 rfl (by decide : (1 : Int32).toInt = 1) (fun x102 e_x102 t_x102 => ?_)
                                      try have t_x102 := t_x102 (by omega)
                                      have n_383 : vp_in (13200 : Int32) 19800 := (t_in (by decide))
                                      obtain ⟨f103, e_f103⟩ : ∃ z, z = upd (u99 1) (13200 : Int32).toNatClampNeg x102 := ⟨_, rfl⟩
                                      refine va_iast hx hb hK.1 hP hD hS 1 0 rfl rfl n_383 dX11_aRule_383 (fun H locs hP hD hS => ?_)
                                      have hP : va_P g.1 vwCl (wX11 g a_m (uR u99 1 f103) J_m) H := by rw [e_f103]; exact hP
                                      have hD : va_D A (wX11 g a_m (uR u99 1 f103) J_m) := by rw [e_f103]; exact hD
                                      have hc_383 : MI (uR u99 1 f103) := MI.ua (MI.kk hc_303 p_r98.1 (by decide) (by decide)) e_f103 (by decide : (13200 : Int32).toInt = 13200) (by omega) (by omega)
                                      have hk_383 : KK [1] [11, 12, 13, 14, 16, 17] I_m (uR u99 1 f103) := KK.ur (KK.tr hk_303 p_r98.1 (by decide) (by decide)) (by decide) (by decide)
                                      have hp_383 : PQ I_m (uR u99 1 f103) := PQ.ur (PQ.ah hp_303 p_r98.2.1 p_r98.1 (by decide)) (by decide)
                                      have hN383 : NS (uR u99 1 f103) := hB317.fin e_f103 (by omega)
                                      refine lv_aload_n hx hb dX11_aRule_384 rfl (lv_at hl 4 rfl) ?_
                                      refine lv_bipush (v := 59) hx hb dX11_aRule_385 (by decide) ?_
                                      have hq387 : PQ I_m (uR u99 1 f103) := hp_383
                                      have hT383 : fxTM ((uR u99 1 f103) 1) 13200 = ((fxTM (I_m 1) 13200).1, (fxTM (I_m 1) 13200).2 ++ [cu5]) := (by rw [hcu5, ← hT5]; exact fxTM.add hB317.1.1 (hcn5.trans hn7) (uR_eq.trans e_f103) (by omega) (by omega))
                                      have hL387 : fxLM (uR u99 1 f103) q5 := hL5.of rfl rfl rfl rfl rfl rfl
                                      have hR387 : (uR u99 1 f103) 6 = I_m 6 ∧ (uR u99 1 f103) 0 10 = I_m 0 10 := hR317
                                      refine EffI.cv (wr := ([])) (w' := fun u105 => wX11 g a_m u105 J_m) (As := [.int (59 : Int32)]) (kX11_wantSign l g a_m (uR u99 1 f103) J_m (59 : Int32) hp_383.1) fx (gUV (uT _) u_573 u_574 u_575 u_5 u_576) rfl hdX11_wantSign ⟨Nat.le_of_ble_eq_true rfl, Nat.le_of_ble_eq_true rfl⟩ hK hP hD hS hA [0, 1, 2, 3, 4, 5, 6, 7, 8, 9, 10, 11, 12, 13, 14, 15, 16, 17, 18, 19, 20, 21, 22] [] [0, 1, 2, 3, 4, 5, 6, 7, 8, 9, 10, 11, 12, 13, 14, 15, 16, 17, 18, 19, 20, 21, 22] rfl rfl rfl rfl (by decide) rfl (fun _ => rfl) rfl rfl rfl rfl hl.1 (Nat.le_of_ble_eq_true rfl) dX11_aRule_387 (fun r104 u105 H locs p_r104 hP hD hS => ?_)
                                      have hP : va_P g.1 vwCl (wX11 g a_m u105 J_m) H := hP
                                      have hD : va_D A (wX11 g a_m u105 J_m) := hD
                                      have p_r104 : KK [] [11, 12, 13, 14, 16, 17] (uR u99 1 f103) u105 ∧ PQ (uR u99 1 f103) u105 ∧ (r104 = 0 ∨ r104 = 1) ∧ (r104 = 1 → AD (uR u99 1 f103) u105) ∧ ∀ (p : Int) (S S' : fxS), fxLM (uR u99 1 f103) p → (u99 0 17).toInt = 0 → ((59 : Int32)).toInt = 59 → ((u99 0 11).toInt = 4 → ∀ va : Int, fxSt 2 (fxWm (uR u99 1 f103)) va S = .inr S') → ((u99 0 11).toInt ≠ 4 → (u99 0 11).toInt ≠ 1 → fxSt (fxKm (u99 0 11).toInt) (fxWm (uR u99 1 f103)) (u99 0 14).toInt S = .inl 2) → fxMo (uR u99 1 f103) u105 r104 p S S' := p_r104
                                      have hfin387 : ∀ p : Int, fxLM I_m p → fxIs (fxKm (I_m 0 11).toInt) (fxWm I_m) 0 → fxMo I_m u105 r104 p (fxS0M I_m) (fxS0M u105) := fun p l hw => ((p_r104.2.2.2.2 q5 (aw5, 0, (fxTdM (I_m 0 19)), (fxTM (I_m 1) 13200), cu5) (0, 0, (fxTdM (I_m 0 19)), ((fxTM (I_m 1) 13200).1, (fxTM (I_m 1) 13200).2 ++ [cu5]), fxE) hL387 h317 (by decide) (fun _ va => by rw [fx_st45 (haw5.imp And.left id) rfl]; exact hru5) (fun z => absurd q_326.1 z)).then hR387.1 hR387.2 (by rw [hcu5]; exact hG5 p l hw)).as (by rw [← hT383]; unfold fxS0M; rw [p_r104.1.row 1 (by decide), (show KK [1] [11, 12, 13, 14, 16, 17] I_m u105 from (KK.tr hk_383 p_r104.1 (by decide) (by decide))).num 19 (by decide)])
                                      refine hret 390 ls r104 _ _ u105 dX11_aRule_390 p_r104.2.2.1 hS hP hD ?_
                                      exact ⟨(MI.kk hc_383 p_r104.1 (by decide) (by decide)), (KK.tr hk_383 p_r104.1 (by decide) (by decide)), (PQ.tr hp_383 p_r104.2.1), p_r104.2.2.1, fun q => PQ.ad hq387 (p_r104.2.2.2.1 q), hN383.row (p_r104.1.row 1 (by decide)), ((hF317.low (by omega)).put e_f103 (by decide : (13200 : Int32).toInt = 13200) (by omega)).kk p_r104.1 (by decide), hfin387⟩
                                    · refine lv_aload_n hx hb dX11_aRule_344 rfl (lv_at hl 4 rfl) ?_
                                      refine lv_sipush (v := 13200) hx hb dX11_aRule_345 (by decide) ?_
                                      refine lv_iload hx hb dX11_aRule_348 (lv_at hl 0 rfl) ?_
                                      refine PurI.cs (C := RX11) (As := [.int (13200 : Int32), .int v4_338]) (kX11_ruleAt l g (13200 : Int32) v4_338 (by omega) (by omega)) fx (gUS (uT _) u_554 u_555 u_5 u_556) rfl hdX11_ruleAt ⟨Nat.le_of_ble_eq_true rfl, Nat.le_of_ble_eq_true rfl⟩ hK hP [] rfl rfl rfl hl.1 (Nat.le_of_ble_eq_true rfl) dX11_aRule_350 (fun r106 p_r106 => ?_)
                                      refine lv_iload_n hx hb dX11_aRule_353 rfl (lv_at hl 2 rfl) ?_
                                      refine PurI.cv (As := [.int r106, .int r2]) (kX11_likeRule l g a_m u99 J_m r106 r2 (by omega) (TS.lc hB317.1.1 (x := r106) (r := v4_338.toInt) rfl (by omega) (by omega)).2 ⟨(TS.lc hB317.1.1 (x := r106) (r := v4_338.toInt) rfl (by omega) (by omega)).1, (TS.lc hB317.1.1 (x := r2) (r := (x1).toInt) rfl (by omega) (by omega)).1⟩) fx (gUV (uT _) u_569 u_570 u_571 u_5 u_572) rfl hdX11_likeRule ⟨Nat.le_of_ble_eq_true rfl, Nat.le_of_ble_eq_true rfl⟩ hK hP [0, 1, 2, 3, 4, 5, 6, 7, 8, 9, 10, 11, 12, 13, 14, 15, 16, 17, 18, 19, 20, 21, 22] rfl rfl rfl rfl rfl hl.1 (Nat.le_of_ble_eq_true rfl) dX11_aRule_354 (fun r107 p_r107 => ?_)
                                      have hk326 : fxKm (u99 0 11).toInt = 2 := fxKm_4 q_326.1
                                      refine q_if_eq (tgt := 366) hx hb dX11_aRule_357 (by decide) rfl (fun b_357 k_357 => ?_) (fun b_357 k_357 => ?_)
                                      · have q_357 := bP.f p_r107 b_357
                                        refine r_iinc (lv' := fun i108 => [(4, .int i108), (3, .int r16), (2, .int r2), (1, .int x1), (0, .ref (a_m 0))]) hx hb dX11_aRule_366 hl (k := 0) rfl (by decide) rfl (by decide) (fun _ => rfl) (fun i108 e_i108 t_i108 ls hl => ?_)
                                        try have t_i108 := t_i108 (by omega)
                                        refine lv_goto (tgt := 338) hx hb dX11_aRule_369 (by decide) ?_
                                        exact ih_338 i108 (by omega) (fun r q => by by_cases w : (r : Int) < v4_338.toInt; exact hno_338 r w; have i4 := t_cl (i := r106) rfl (by omega); have i2 := t_cl (i := r2) rfl (by omega); rw [show 13212 + 12 * r = (r106).toNatClampNeg by omega, show (13212 + 12 * (x1).toInt.toNat) = (r2).toNatClampNeg by omega]; exact q_357) (by omega) _ _ hP hD hS ls hl
                                      · have q_357 := bP.t p_r107 b_357
                                        refine lv_aload_n hx hb dX11_aRule_360 rfl (lv_at hl 4 rfl) ?_
                                        refine lv_iconst (v := 3) hx hb dX11_aRule_361 (by decide) ?_
                                        refine EffI.cv (wr := ([])) (w' := fun u110 => wX11 g a_m u110 J_m) (As := [.int (3 : Int32)]) (kX11_fails l g a_m u99 J_m (3 : Int32)) fx (gUV (uT _) u_557 u_558 u_559 u_5 u_560) rfl hdX11_fails ⟨Nat.le_of_ble_eq_true rfl, Nat.le_of_ble_eq_true rfl⟩ hK hP hD hS hA [0, 1, 2, 3, 4, 5, 6, 7, 8, 9, 10, 11, 12, 13, 14, 15, 16, 17, 18, 19, 20, 21, 22] [] [0, 1, 2, 3, 4, 5, 6, 7, 8, 9, 10, 11, 12, 13, 14, 15, 16, 17, 18, 19, 20, 21, 22] rfl rfl rfl rfl (by decide) rfl (fun _ => rfl) rfl rfl rfl rfl hl.1 (Nat.le_of_ble_eq_true rfl) dX11_aRule_362 (fun r109 u110 H locs p_r109 hP hD hS => ?_)
                                        have hP : va_P g.1 vwCl (wX11 g a_m u110 J_m) H := hP
                                        have hD : va_D A (wX11 g a_m u110 J_m) := hD
                                        refine hret 365 ls r109 _ _ u110 dX11_aRule_365 (Or.inl p_r109.2.1) hS hP hD ?_
                                        exact ⟨(MI.kk (MI.kk hc_303 p_r98.1 (by decide) (by decide)) p_r109.1 (by decide) (by decide)), (KK.tr (KK.tr hk_303 p_r98.1 (by decide) (by decide)) p_r109.1 (by decide) (by decide)), (PQ.fl (PQ.ah hp_303 p_r98.2.1 p_r98.1 (by decide)) p_r109.1 (by decide) (p_r109.2.2.2 (by decide))), Or.inl p_r109.2.1, fun q => absurd (q.symm.trans p_r109.2.1) (by decide), (hB317.kk p_r109.1 (by decide)).1, (hF317.low (by omega)).kk p_r109.1 (by decide), fun p l hw => fxMo.fail p_r109 h317 (by decide) hL5 hR317.1 hR317.2 (hG5 p l hw) (fun q => by refine Eq.trans (b := Sum.inl (3 : Int)) ?_ (congrArg Sum.inl (by decide)); rw [fx_st45 (haw5.imp And.left id) hk326, ← (hF317.T hN.1 hn7)]; exact fxRule.sameM (n := (x1).toInt.toNat) (r := (v4_338).toInt.toNat) (by rw [hF317 13200 (by omega), hn7]; omega) (by omega) (by have i4 := t_cl (i := r106) rfl (by omega); have i2 := t_cl (i := r2) rfl (by omega); rw [show 13212 + 12 * (v4_338).toInt.toNat = (r106).toNatClampNeg by omega, show (13212 + 12 * (x1).toInt.toNat) = (r2).toNatClampNeg by omega]; exact q_357))⟩
                                exact L338 ((25 - (0 : Int32).toInt) + 1).toNat (0 : Int32) (by omega) (fun r q => by rw [lm0] at q; omega) (by omega) _ _ hP hD hS ls hl
                              · have q_326 := bP.f p_r100 b_326
                                obtain ⟨q5, aw5, haw5, hL5, hG5⟩ := hE317
                                refine lv_aload_n hx hb dX11_aRule_329 rfl (lv_at hl 3 rfl) ?_
                                refine lv_iconst (v := 2) hx hb dX11_aRule_330 (by decide) ?_
                                refine EffI.cv (wr := ([])) (w' := fun u112 => wX11 g a_m u112 J_m) (As := [.int (2 : Int32)]) (kX11_fails l g a_m u99 J_m (2 : Int32)) fx (gUV (uT _) u_557 u_558 u_559 u_5 u_560) rfl hdX11_fails ⟨Nat.le_of_ble_eq_true rfl, Nat.le_of_ble_eq_true rfl⟩ hK hP hD hS hA [0, 1, 2, 3, 4, 5, 6, 7, 8, 9, 10, 11, 12, 13, 14, 15, 16, 17, 18, 19, 20, 21, 22] [] [0, 1, 2, 3, 4, 5, 6, 7, 8, 9, 10, 11, 12, 13, 14, 15, 16, 17, 18, 19, 20, 21, 22] rfl rfl rfl rfl (by decide) rfl (fun _ => rfl) rfl rfl rfl rfl hl.1 (Nat.le_of_ble_eq_true rfl) dX11_aRule_331 (fun r111 u112 H locs p_r111 hP hD hS => ?_)
                                have hP : va_P g.1 vwCl (wX11 g a_m u112 J_m) H := hP
                                have hD : va_D A (wX11 g a_m u112 J_m) := hD
                                refine hret 334 ls r111 _ _ u112 dX11_aRule_334 (Or.inl p_r111.2.1) hS hP hD ?_
                                exact ⟨(MI.kk (MI.kk hc_303 p_r98.1 (by decide) (by decide)) p_r111.1 (by decide) (by decide)), (KK.tr (KK.tr hk_303 p_r98.1 (by decide) (by decide)) p_r111.1 (by decide) (by decide)), (PQ.fl (PQ.ah hp_303 p_r98.2.1 p_r98.1 (by decide)) p_r111.1 (by decide) (p_r111.2.2.2 (by decide))), Or.inl p_r111.2.1, fun q => absurd (q.symm.trans p_r111.2.1) (by decide), (hB317.kk p_r111.1 (by decide)).1, (hF317.low (by omega)).kk p_r111.1 (by decide), fun p l hw => fxMo.fail p_r111 h317 (by decide) hL5 hR317.1 hR317.2 (hG5 p l hw) (fun q => (fx_st45n haw5 (fun z => q ((fxKm_all hL5.2.2).2.1.mpr z)) (fun z => q_326 ⟨(fxKm_all hL5.2.2).2.2.2.2.mpr z, hL5.2.1 ((fxKm_all hL5.2.2).2.2.2.2.mpr z)⟩)).trans (congrArg Sum.inl (by decide)))⟩
                      · have haw34 : aw9 = 3 ∨ aw9 = 4 := haw9.imp And.left And.left
                        refine lv_aload_n hx hb dX11_aRule_179 rfl (lv_at hl 3 rfl) ?_
                        refine va_get (D := g.1) (ci := 11) (v := .int (I_m_171 0 14)) (C := RX11) (T := TX11) (N := 46) hx hb hi_X11 (fun _ h => h) hown hK.1 hP 0 rfl rfl 14 (by decide) hf_141 (fun _ h9 => h9) rfl dX11_aRule_180 ?_
                        refine lv_iconst (v := 1) hx hb dX11_aRule_183 (by decide) ?_
                        refine q_icmp_lt (tgt := 196) hx hb dX11_aRule_184 (by decide) rfl (by decide : (1 : Int32).toInt = 1) (fun k_184 => ?_) (fun k_184 => ?_)
                        · refine lv_aload_n hx hb dX11_aRule_196 rfl (lv_at hl 3 rfl) ?_
                          refine lv_iconst (v := 4) hx hb dX11_aRule_197 (by decide) ?_
                          refine EffI.cv (wr := ([])) (w' := fun u114 => wX11 g a_m u114 J_m) (As := [.int (4 : Int32)]) (kX11_fails l g a_m I_m_171 J_m (4 : Int32)) fx (gUV (uT _) u_557 u_558 u_559 u_5 u_560) rfl hdX11_fails ⟨Nat.le_of_ble_eq_true rfl, Nat.le_of_ble_eq_true rfl⟩ hK hP hD hS hA [0, 1, 2, 3, 4, 5, 6, 7, 8, 9, 10, 11, 12, 13, 14, 15, 16, 17, 18, 19, 20, 21, 22] [] [0, 1, 2, 3, 4, 5, 6, 7, 8, 9, 10, 11, 12, 13, 14, 15, 16, 17, 18, 19, 20, 21, 22] rfl rfl rfl rfl (by decide) rfl (fun _ => rfl) rfl rfl rfl rfl hl.1 (Nat.le_of_ble_eq_true rfl) dX11_aRule_198 (fun r113 u114 H locs p_r113 hP hD hS => ?_)
                          have hP : va_P g.1 vwCl (wX11 g a_m u114 J_m) H := hP
                          have hD : va_D A (wX11 g a_m u114 J_m) := hD
                          refine hret 201 ls r113 _ _ u114 dX11_aRule_201 (Or.inl p_r113.2.1) hS hP hD ?_
                          exact ⟨(MI.kk hM_171 p_r113.1 (by decide) (by decide)), (KK.tr hk_171 p_r113.1 (by decide) (by decide)), (PQ.fl hp_171 p_r113.1 (by decide) (p_r113.2.2.2 (by decide))), Or.inl p_r113.2.1, fun q => absurd (q.symm.trans p_r113.2.1) (by decide), (hA_171.kk p_r113.1 (by decide)).1, (hF_171.low (by omega)).kk p_r113.1 (by decide), fun p l hw => fxMo.fail p_r113 h7_171 (by decide) hL9 hR171.1 hR171.2 (hG9 p l hw) (fun q => by refine Eq.trans (b := Sum.inl (4 : Int)) ?_ (congrArg Sum.inl (by decide)); rw [fx_st34 haw34 (fxKm_3 (by omega))]; unfold fxCell; rw [if_pos (by omega)])⟩
                        · refine lv_aload_n hx hb dX11_aRule_187 rfl (lv_at hl 3 rfl) ?_
                          refine va_get (D := g.1) (ci := 11) (v := .int (I_m_171 0 14)) (C := RX11) (T := TX11) (N := 46) hx hb hi_X11 (fun _ h => h) hown hK.1 hP 0 rfl rfl 14 (by decide) hf_141 (fun _ h9 => h9) rfl dX11_aRule_188 ?_
                          refine lv_bipush (v := 63) hx hb dX11_aRule_191 (by decide) ?_
                          refine q_icmp_le (tgt := 202) hx hb dX11_aRule_193 (by decide) rfl (by decide : (63 : Int32).toInt = 63) (fun k_193 => ?_) (fun k_193 => ?_)
                          · refine lv_aload_n hx hb dX11_aRule_202 rfl (lv_at hl 3 rfl) ?_
                            refine va_get (D := g.1) (ci := 11) (v := .ref (a_m 1)) (C := RX11) (T := TX11) (N := 46) hx hb hi_X11 (fun _ h => h) hown hK.1 hP 0 rfl rfl 0 (by decide) hf_7 (fun _ h9 => h9) rfl dX11_aRule_203 ?_
                            refine lv_iload_n hx hb dX11_aRule_206 rfl (lv_at hl 1 rfl) ?_
                            refine lv_bipush (v := 7) hx hb dX11_aRule_207 (by decide) ?_
                            refine r_iadd hx hb dX11_aRule_209 rfl (by decide : (7 : Int32).toInt = 7) (fun x115 e_x115 t_x115 => ?_)
                            try have t_x115 := t_x115 (by omega)
                            have n_210 : vp_in x115 19800 := (t_in (by omega))
                            refine va_iald hx hb hK.1 hP 1 0 rfl rfl n_210 dX11_aRule_210 ?_
                            refine q_nm (fun x116 e_x116 => ?_)
                            have e_x116 : x116 = (I_m_171 1) x115.toNatClampNeg := e_x116
                            have g_x116 : x116.toInt = ((I_m_171 1) x115.toNatClampNeg).toInt := congrArg _ e_x116
                            have f_x116 := TS.cc hA_171.1.1 (r := (x1).toInt) e_x116 (by omega) (by omega)
                            have m_x116 := RA.ix (n := (x1).toInt) e_x116 (by omega) (by omega)
                            refine lv_iconst (v := 3) hx hb dX11_aRule_211 (by decide) ?_
                            refine q_icmp_ne (tgt := 221) hx hb dX11_aRule_212 (by decide) rfl (by decide : (3 : Int32).toInt = 3) (fun k_212 => ?_) (fun k_212 => ?_)
                            · refine lv_aload_n hx hb dX11_aRule_221 rfl (lv_at hl 3 rfl) ?_
                              refine va_get (D := g.1) (ci := 11) (v := .ref (a_m 1)) (C := RX11) (T := TX11) (N := 46) hx hb hi_X11 (fun _ h => h) hown hK.1 hP 0 rfl rfl 0 (by decide) hf_7 (fun _ h9 => h9) rfl dX11_aRule_222 ?_
                              refine lv_iload_n hx hb dX11_aRule_225 rfl (lv_at hl 1 rfl) ?_
                              refine lv_bipush (v := 7) hx hb dX11_aRule_226 (by decide) ?_
                              refine r_iadd hx hb dX11_aRule_228 rfl (by decide : (7 : Int32).toInt = 7) (fun x117 e_x117 t_x117 => ?_)
                              try have t_x117 := t_x117 (by omega)
                              refine lv_iconst (v := 1) hx hb dX11_aRule_229 (by decide) ?_
                              refine r_iadd hx hb dX11_aRule_230 rfl (by decide : (1 : Int32).toInt = 1) (fun x118 e_x118 t_x118 => ?_)
                              try have t_x118 := t_x118 (by omega)
                              refine lv_aload_n hx hb dX11_aRule_231 rfl (lv_at hl 3 rfl) ?_
                              refine va_get (D := g.1) (ci := 11) (v := .ref (a_m 1)) (C := RX11) (T := TX11) (N := 46) hx hb hi_X11 (fun _ h => h) hown hK.1 hP 0 rfl rfl 0 (by decide) hf_7 (fun _ h9 => h9) rfl dX11_aRule_232 ?_
                              refine lv_iload_n hx hb dX11_aRule_235 rfl (lv_at hl 1 rfl) ?_
                              refine lv_bipush (v := 7) hx hb dX11_aRule_236 (by decide) ?_
                              refine r_iadd hx hb dX11_aRule_238 rfl (by decide : (7 : Int32).toInt = 7) (fun x119 e_x119 t_x119 => ?_)
                              try have t_x119 := t_x119 (by omega)
                              have n_239 : vp_in x119 19800 := (t_in (by omega))
                              refine va_iald hx hb hK.1 hP 1 0 rfl rfl n_239 dX11_aRule_239 ?_
                              refine q_nm (fun x120 e_x120 => ?_)
                              have e_x120 : x120 = (I_m_171 1) x119.toNatClampNeg := e_x120
                              have g_x120 : x120.toInt = ((I_m_171 1) x119.toNatClampNeg).toInt := congrArg _ e_x120
                              have m_x120 := RA.ix (n := (x1).toInt) e_x120 (by omega) (by omega)
                              refine r_iadd hx hb dX11_aRule_240 rfl rfl (fun x121 e_x121 t_x121 => ?_)
                              try have t_x121 := t_x121 (by omega)
                              refine lv_aload_n hx hb dX11_aRule_241 rfl (lv_at hl 3 rfl) ?_
                              refine va_get (D := g.1) (ci := 11) (v := .int (I_m_171 0 14)) (C := RX11) (T := TX11) (N := 46) hx hb hi_X11 (fun _ h => h) hown hK.1 hP 0 rfl rfl 14 (by decide) hf_141 (fun _ h9 => h9) rfl dX11_aRule_242 ?_
                              have n_245 : vp_in x121 19800 := (t_in (by omega))
                              obtain ⟨f122, e_f122⟩ : ∃ z, z = upd (I_m_171 1) x121.toNatClampNeg (I_m_171 0 14) := ⟨_, rfl⟩
                              refine va_iast hx hb hK.1 hP hD hS 1 0 rfl rfl n_245 dX11_aRule_245 (fun H locs hP hD hS => ?_)
                              have hP : va_P g.1 vwCl (wX11 g a_m (uR I_m_171 1 f122) J_m) H := by rw [e_f122]; exact hP
                              have hD : va_D A (wX11 g a_m (uR I_m_171 1 f122) J_m) := by rw [e_f122]; exact hD
                              have hc_245 : MI (uR I_m_171 1 f122) := MI.ua hM_171 e_f122 rfl (by omega) (by omega)
                              have hk_245 : KK [1] [11, 12, 13, 14, 16, 17] I_m (uR I_m_171 1 f122) := KK.ur hk_171 (by decide) (by decide)
                              have hp_245 : PQ I_m (uR I_m_171 1 f122) := PQ.ur hp_171 (by decide)
                              have hA245 : RA (uR I_m_171 1 f122) ((x1).toInt) 1 0 := hA_171.put (o := 8 + (x120).toInt) 1 0 e_f122 rfl (by omega) (by omega) (by omega) (by omega) (by omega)
                              have hF245 : fxRf I_m (uR I_m_171 1 f122) (x1).toInt := hF_171.put e_f122 (a := (x1).toInt * 12 + 13220 + (x120).toInt) (by omega) (by omega) (by omega)
                              have hls245 := fxLsM.upd (b := (13212 + 12 * (x1).toInt.toNat)) e_f122 (a := (x1).toInt * 12 + 13220 + (x120).toInt) (by omega) (by omega) hlc171 (by omega)
                              refine lv_aload_n hx hb dX11_aRule_246 rfl (lv_at hl 3 rfl) ?_
                              refine va_get (D := g.1) (ci := 11) (v := .ref (a_m 1)) (C := RX11) (T := TX11) (N := 46) hx hb hi_X11 (fun _ h => h) hown hK.1 hP 0 rfl rfl 0 (by decide) hf_7 (fun _ h9 => h9) rfl dX11_aRule_247 ?_
                              refine lv_iload_n hx hb dX11_aRule_250 rfl (lv_at hl 1 rfl) ?_
                              refine lv_bipush (v := 7) hx hb dX11_aRule_251 (by decide) ?_
                              refine r_iadd hx hb dX11_aRule_253 rfl (by decide : (7 : Int32).toInt = 7) (fun x123 e_x123 t_x123 => ?_)
                              try have t_x123 := t_x123 (by omega)
                              refine lv_dup2_11 hx hb dX11_aRule_254 rfl rfl ?_
                              have n_255 : vp_in x123 19800 := (t_in (by omega))
                              refine va_iald hx hb hK.1 hP 1 0 rfl rfl n_255 dX11_aRule_255 ?_
                              refine q_nm (fun x124 e_x124 => ?_)
                              have e_x124 : x124 = f122 x123.toNatClampNeg := e_x124
                              have g_x124 : x124.toInt = (f122 x123.toNatClampNeg).toInt := congrArg _ e_x124
                              have m_x124 := RA.ix (n := (x1).toInt) (RA.nx e_x124 e_f122 (by omega) (by omega) (by omega)) (by omega) (by omega)
                              refine lv_iconst (v := 1) hx hb dX11_aRule_256 (by decide) ?_
                              refine r_iadd hx hb dX11_aRule_257 rfl (by decide : (1 : Int32).toInt = 1) (fun x125 e_x125 t_x125 => ?_)
                              try have t_x125 := t_x125 (by omega)
                              have n_258 : vp_in x123 19800 := (t_in (by omega))
                              obtain ⟨f126, e_f126⟩ : ∃ z, z = upd f122 x123.toNatClampNeg x125 := ⟨_, rfl⟩
                              refine va_iast hx hb hK.1 hP hD hS 1 0 rfl rfl n_258 dX11_aRule_258 (fun H locs hP hD hS => ?_)
                              have hP : va_P g.1 vwCl (wX11 g a_m (uR (uR I_m_171 1 f122) 1 f126) J_m) H := by rw [e_f126]; exact hP
                              have hD : va_D A (wX11 g a_m (uR (uR I_m_171 1 f122) 1 f126) J_m) := by rw [e_f126]; exact hD
                              have hc_258 : MI (uR (uR I_m_171 1 f122) 1 f126) := MI.ua hc_245 e_f126 rfl (by omega) (by omega)
                              have hk_258 : KK [1] [11, 12, 13, 14, 16, 17] I_m (uR (uR I_m_171 1 f122) 1 f126) := KK.ur hk_245 (by decide) (by decide)
                              have hp_258 : PQ I_m (uR (uR I_m_171 1 f122) 1 f126) := PQ.ur hp_245 (by decide)
                              have hA258 : RA (uR (uR I_m_171 1 f122) 1 f126) ((x1).toInt) 1 0 := hA245.put (o := 7) 1 0 e_f126 rfl (by omega) (by omega) (by omega) (by omega) (by omega)
                              have hF258 : fxRf I_m (uR (uR I_m_171 1 f122) 1 f126) (x1).toInt := hF245.put e_f126 (a := (x1).toInt * 12 + 13219) (by omega) (by omega) (by omega)
                              have hls258 := fxLsM.upd (b := (13212 + 12 * (x1).toInt.toNat)) e_f126 (a := (x1).toInt * 12 + 13219) (by omega) (by omega) hA245.lc.2 (by omega)
                              have hcs258 : fxCsM ((uR (uR I_m_171 1 f122) 1 f126) 1) (13212 + 12 * (x1).toInt.toNat) = fxCsM (I_m_171 1) (13212 + 12 * (x1).toInt.toNat) ++ [(I_m_171 0 14).toInt] := fxCsM.add (c := (x120).toInt) e_f122 e_f126 (by omega) (by omega) (by omega) (by omega) (by omega)
                              refine lv_aload_n hx hb dX11_aRule_259 rfl (lv_at hl 3 rfl) ?_
                              refine EffV.cv (wr := ([])) (w' := fun u128 => wX11 g a_m u128 J_m) (As := []) (kX11_ahead l g a_m (uR (uR I_m_171 1 f122) 1 f126) J_m hp_258.1.1) fx (gUV (uT _) u_515 u_516 u_517 u_5 u_518) rfl hdX11_ahead ⟨Nat.le_of_ble_eq_true rfl, Nat.le_of_ble_eq_true rfl⟩ hK hP hD hS hA [0, 1, 2, 3, 4, 5, 6, 7, 8, 9, 10, 11, 12, 13, 14, 15, 16, 17, 18, 19, 20, 21, 22] [] [0, 1, 2, 3, 4, 5, 6, 7, 8, 9, 10, 11, 12, 13, 14, 15, 16, 17, 18, 19, 20, 21, 22] rfl rfl rfl rfl (by decide) rfl (fun _ => rfl) rfl rfl rfl rfl hl.1 (Nat.le_of_ble_eq_true rfl) dX11_aRule_260 (fun u128 H locs p_r127 hP hD hS => ?_)
                              have hP : va_P g.1 vwCl (wX11 g a_m u128 J_m) H := hP
                              have hD : va_D A (wX11 g a_m u128 J_m) := hD
                              have p_r127 : KK [] [11, 12, 13, 14] (uR (uR I_m_171 1 f122) 1 f126) u128 ∧ AH (uR (uR I_m_171 1 f122) 1 f126) u128 ∧ fxLM u128 (I_m_171 0 13).toInt := p_r127
                              have hA260 := hA258.kk p_r127.1 (by decide)
                              have m260 : (u128 1 (13219 + 12 * ((x1).toInt).toNat)).toInt = (x125).toInt := by rw [p_r127.1.row 1 (by decide)]; show (f126 _).toInt = _; rw [RA.eq (n := (x1).toInt) e_f126 (by omega) (by omega)]
                              have hF260 : fxRf I_m u128 (x1).toInt := hF258.kk p_r127.1 (by decide)
                              have hLs260 : fxLsM (u128 1) (13212 + 12 * (x1).toInt.toNat) = LS := by rw [p_r127.1.row 1 (by decide)]; exact hls258.trans (hls245.trans hLs_171)
                              have h260 : (u128 0 17).toInt = 0 := by rw [p_r127.1.num 17 (by decide)]; exact h7_171
                              have hq260 : ∃ q aw : Int, ((aw = 3 ∧ (u128 1 ((13212 + 12 * (x1).toInt.toNat) + 7)).toInt = 0) ∨ (aw = 4 ∧ 1 ≤ (u128 1 ((13212 + 12 * (x1).toInt.toNat) + 7)).toInt)) ∧ fxLM u128 q ∧ ∀ p : Int, fxLM I_m p → fxIs (fxKm (I_m 0 11).toInt) (fxWm I_m) 0 → fxRe (fxBm (I_m 6)) (I_m 0 10).toInt (p, fxS0M I_m) (q, (aw, 0, (fxTdM (I_m 0 19)), (fxTM (I_m 1) 13200), (LS, fxCsM (u128 1) (13212 + 12 * (x1).toInt.toNat), 0))) := ⟨(I_m_171 0 13).toInt, 4, Or.inr ⟨rfl, by rw [show (13212 + 12 * (x1).toInt.toNat) + 7 = (13219 + 12 * ((x1).toInt).toNat) by omega]; omega⟩, p_r127.2.2, fun p l hw => fx_tk hL9 p_r127.2.2 hR171.1 hR171.2 (hG9 p l hw) (by rw [fx_st34 haw34 (fxKm_3 (by omega)), p_r127.1.row 1 (by decide), show fxCsM _ _ = _ from hcs258]; unfold fxCell; rw [if_neg (by omega), if_neg (by show ¬ 3 ≤ (fxCsM (I_m_171 1) (13212 + 12 * (x1).toInt.toNat)).length; rw [fxCsM.len]; omega)])⟩
                              refine lv_goto (tgt := 171) hx hb dX11_aRule_263 (by decide) ?_
                              exact ih_171 u128 (MI.kk hc_258 p_r127.1 (by decide) (by decide)) (KK.tr hk_258 p_r127.1 (by decide) (by decide)) hA260 (Or.inr (by omega)) (PQ.ah hp_258 p_r127.2.1 p_r127.1 (by decide)) hF260 hLs260 hq260 h260 (by omega) _ _ hP hD hS ls hl
                            · refine lv_aload_n hx hb dX11_aRule_215 rfl (lv_at hl 3 rfl) ?_
                              refine lv_iconst (v := 5) hx hb dX11_aRule_216 (by decide) ?_
                              refine EffI.cv (wr := ([])) (w' := fun u130 => wX11 g a_m u130 J_m) (As := [.int (5 : Int32)]) (kX11_fails l g a_m I_m_171 J_m (5 : Int32)) fx (gUV (uT _) u_557 u_558 u_559 u_5 u_560) rfl hdX11_fails ⟨Nat.le_of_ble_eq_true rfl, Nat.le_of_ble_eq_true rfl⟩ hK hP hD hS hA [0, 1, 2, 3, 4, 5, 6, 7, 8, 9, 10, 11, 12, 13, 14, 15, 16, 17, 18, 19, 20, 21, 22] [] [0, 1, 2, 3, 4, 5, 6, 7, 8, 9, 10, 11, 12, 13, 14, 15, 16, 17, 18, 19, 20, 21, 22] rfl rfl rfl rfl (by decide) rfl (fun _ => rfl) rfl rfl rfl rfl hl.1 (Nat.le_of_ble_eq_true rfl) dX11_aRule_217 (fun r129 u130 H locs p_r129 hP hD hS => ?_)
                              have hP : va_P g.1 vwCl (wX11 g a_m u130 J_m) H := hP
                              have hD : va_D A (wX11 g a_m u130 J_m) := hD
                              refine hret 220 ls r129 _ _ u130 dX11_aRule_220 (Or.inl p_r129.2.1) hS hP hD ?_
                              exact ⟨(MI.kk hM_171 p_r129.1 (by decide) (by decide)), (KK.tr hk_171 p_r129.1 (by decide) (by decide)), (PQ.fl hp_171 p_r129.1 (by decide) (p_r129.2.2.2 (by decide))), Or.inl p_r129.2.1, fun q => absurd (q.symm.trans p_r129.2.1) (by decide), (hA_171.kk p_r129.1 (by decide)).1, (hF_171.low (by omega)).kk p_r129.1 (by decide), fun p l hw => fxMo.fail p_r129 h7_171 (by decide) hL9 hR171.1 hR171.2 (hG9 p l hw) (fun q => by refine Eq.trans (b := Sum.inl (5 : Int)) ?_ (congrArg Sum.inl (by decide)); rw [fx_st34 haw34 (fxKm_3 (by omega))]; unfold fxCell; rw [if_neg (by omega), if_pos (by show 3 ≤ (fxCsM (I_m_171 1) (13212 + 12 * (x1).toInt.toNat)).length; rw [fxCsM.len]; omega)])⟩
                          · refine lv_aload_n hx hb dX11_aRule_196 rfl (lv_at hl 3 rfl) ?_
                            refine lv_iconst (v := 4) hx hb dX11_aRule_197 (by decide) ?_
                            refine EffI.cv (wr := ([])) (w' := fun u132 => wX11 g a_m u132 J_m) (As := [.int (4 : Int32)]) (kX11_fails l g a_m I_m_171 J_m (4 : Int32)) fx (gUV (uT _) u_557 u_558 u_559 u_5 u_560) rfl hdX11_fails ⟨Nat.le_of_ble_eq_true rfl, Nat.le_of_ble_eq_true rfl⟩ hK hP hD hS hA [0, 1, 2, 3, 4, 5, 6, 7, 8, 9, 10, 11, 12, 13, 14, 15, 16, 17, 18, 19, 20, 21, 22] [] [0, 1, 2, 3, 4, 5, 6, 7, 8, 9, 10, 11, 12, 13, 14, 15, 16, 17, 18, 19, 20, 21, 22] rfl rfl rfl rfl (by decide) rfl (fun _ => rfl) rfl rfl rfl rfl hl.1 (Nat.le_of_ble_eq_true rfl) dX11_aRule_198 (fun r131 u132 H locs p_r131 hP hD hS => ?_)
                            have hP : va_P g.1 vwCl (wX11 g a_m u132 J_m) H := hP
                            have hD : va_D A (wX11 g a_m u132 J_m) := hD
                            refine hret 201 ls r131 _ _ u132 dX11_aRule_201 (Or.inl p_r131.2.1) hS hP hD ?_
                            exact ⟨(MI.kk hM_171 p_r131.1 (by decide) (by decide)), (KK.tr hk_171 p_r131.1 (by decide) (by decide)), (PQ.fl hp_171 p_r131.1 (by decide) (p_r131.2.2.2 (by decide))), Or.inl p_r131.2.1, fun q => absurd (q.symm.trans p_r131.2.1) (by decide), (hA_171.kk p_r131.1 (by decide)).1, (hF_171.low (by omega)).kk p_r131.1 (by decide), fun p l hw => fxMo.fail p_r131 h7_171 (by decide) hL9 hR171.1 hR171.2 (hG9 p l hw) (fun q => by refine Eq.trans (b := Sum.inl (4 : Int)) ?_ (congrArg Sum.inl (by decide)); rw [fx_st34 haw34 (fxKm_3 (by omega))]; unfold fxCell; rw [if_pos (by omega)])⟩
                  exact L171 ((4 - ((uR u13 1 f15) 1 (13219 + 12 * ((x1).toInt).toNat)).toInt) + 1).toNat (uR u13 1 f15) hc_170 hk_170 hA170 (Or.inl (show ((u13 0 11)).toInt = 3 from (by omega))) hp_170 hF170 hLs170 hq170 hv139.1 (by omega) _ _ hP hD hS ls hl
                · refine lv_aload_n hx hb dX11_aRule_155 rfl (lv_at hl 3 rfl) ?_
                  refine lv_iconst (v := 2) hx hb dX11_aRule_156 (by decide) ?_
                  refine EffI.cv (wr := ([])) (w' := fun u134 => wX11 g a_m u134 J_m) (As := [.int (2 : Int32)]) (kX11_fails l g a_m u13 J_m (2 : Int32)) fx (gUV (uT _) u_557 u_558 u_559 u_5 u_560) rfl hdX11_fails ⟨Nat.le_of_ble_eq_true rfl, Nat.le_of_ble_eq_true rfl⟩ hK hP hD hS hA [0, 1, 2, 3, 4, 5, 6, 7, 8, 9, 10, 11, 12, 13, 14, 15, 16, 17, 18, 19, 20, 21, 22] [] [0, 1, 2, 3, 4, 5, 6, 7, 8, 9, 10, 11, 12, 13, 14, 15, 16, 17, 18, 19, 20, 21, 22] rfl rfl rfl rfl (by decide) rfl (fun _ => rfl) rfl rfl rfl rfl hl.1 (Nat.le_of_ble_eq_true rfl) dX11_aRule_157 (fun r133 u134 H locs p_r133 hP hD hS => ?_)
                  have hP : va_P g.1 vwCl (wX11 g a_m u134 J_m) H := hP
                  have hD : va_D A (wX11 g a_m u134 J_m) := hD
                  refine hret 160 ls r133 _ _ u134 dX11_aRule_160 (Or.inl p_r133.2.1) hS hP hD ?_
                  exact ⟨(MI.kk (MI.kk (MI.kk hM_79 p_r10.1 (by decide) (by decide)) p_r12.1 (by decide) (by decide)) p_r133.1 (by decide) (by decide)), (KK.tr (KK.tr (KK.tr hk_79 p_r10.1 (by decide) (by decide)) p_r12.1 (by decide) (by decide)) p_r133.1 (by decide) (by decide)), (PQ.fl (PQ.tr (PQ.ah hp_79 p_r10.2.1 p_r10.1 (by decide)) p_r12.2.1) p_r133.1 (by decide) (p_r133.2.2.2 (by decide))), Or.inl p_r133.2.1, fun q => absurd (q.symm.trans p_r133.2.1) (by decide), (hA139.kk p_r133.1 (by decide)).1, (hF139.low (by omega)).kk p_r133.1 (by decide), fun p l hw => (by obtain ⟨h3, q3, g3, l3⟩ := hv139; rw [hR131.1, hR131.2] at g3; exact fxMo.fail p_r133 h3 (by decide) l3 hR139.1 hR139.2 ((hG139 p l hw).tr g3) (fun q => by rw [fx_st3 (fun z => q ((fxKm_all l3.2.2).2.1.mpr z)), if_neg (fun z => absurd ((fxKm_all l3.2.2).2.2.2.1.mpr z) (by omega))]; exact (congrArg Sum.inl (by decide))))⟩
              · refine lv_iconst (v := 0) hx hb dX11_aRule_145 (by decide) ?_
                refine hret 146 ls (0 : Int32) _ _ u13 dX11_aRule_146 (Or.inl rfl) hS hP hD ?_
                exact ⟨(MI.kk (MI.kk hM_79 p_r10.1 (by decide) (by decide)) p_r12.1 (by decide) (by decide)), (KK.tr (KK.tr hk_79 p_r10.1 (by decide) (by decide)) p_r12.1 (by decide) (by decide)), (PQ.tr (PQ.ah hp_79 p_r10.2.1 p_r10.1 (by decide)) p_r12.2.1), Or.inl rfl, fun q => absurd q (by decide), hA139.1, hF139.low (by omega), fun p l hw => (hM139.then hR131.1 hR131.2 (hG139 p l hw)).zero b_142⟩
            · refine lv_aload_n hx hb dX11_aRule_85 rfl (lv_at hl 3 rfl) ?_
              refine va_get (D := g.1) (ci := 11) (v := .ref (a_m 1)) (C := RX11) (T := TX11) (N := 46) hx hb hi_X11 (fun _ h => h) hown hK.1 hP 0 rfl rfl 0 (by decide) hf_7 (fun _ h9 => h9) rfl dX11_aRule_86 ?_
              refine lv_iload_n hx hb dX11_aRule_89 rfl (lv_at hl 1 rfl) ?_
              refine lv_iconst (v := 1) hx hb dX11_aRule_90 (by decide) ?_
              refine r_iadd hx hb dX11_aRule_91 rfl (by decide : (1 : Int32).toInt = 1) (fun x135 e_x135 t_x135 => ?_)
              try have t_x135 := t_x135 (by omega)
              refine lv_iload_n hx hb dX11_aRule_92 rfl (lv_at hl 0 rfl) ?_
              refine r_iadd hx hb dX11_aRule_93 rfl rfl (fun x136 e_x136 t_x136 => ?_)
              try have t_x136 := t_x136 (by omega)
              refine lv_iload_n hx hb dX11_aRule_94 rfl (lv_at hl 0 rfl) ?_
              refine lv_aload_n hx hb dX11_aRule_95 rfl (lv_at hl 3 rfl) ?_
              refine va_get (D := g.1) (ci := 11) (v := .ref (a_m 1)) (C := RX11) (T := TX11) (N := 46) hx hb hi_X11 (fun _ h => h) hown hK.1 hP 0 rfl rfl 0 (by decide) hf_7 (fun _ h9 => h9) rfl dX11_aRule_96 ?_
              refine lv_iload_n hx hb dX11_aRule_99 rfl (lv_at hl 1 rfl) ?_
              have n_100 : vp_in r2 19800 := (t_in (by omega))
              refine va_iald hx hb hK.1 hP 1 0 rfl rfl n_100 dX11_aRule_100 ?_
              refine q_nm (fun x137 e_x137 => ?_)
              have e_x137 : x137 = (I_m_79 1) r2.toNatClampNeg := e_x137
              have g_x137 : x137.toInt = ((I_m_79 1) r2.toNatClampNeg).toInt := congrArg _ e_x137
              have hr100 : (x137).toInt = (I_m_79 1 (13212 + 12 * (x1).toInt.toNat)).toInt := congrArg Int32.toInt (at_ix (k := (13212 + 12 * (x1).toInt.toNat)) e_x137 (by omega))
              refine q_icmp_ge (tgt := 122) hx hb dX11_aRule_101 (by decide) rfl rfl (fun k_101 => ?_) (fun k_101 => ?_)
              · refine lv_iconst (v := 0) hx hb dX11_aRule_122 (by decide) ?_
                have n_123 : vp_in x136 19800 := (t_in (by omega))
                obtain ⟨f138, e_f138⟩ : ∃ z, z = upd (I_m_79 1) x136.toNatClampNeg (0 : Int32) := ⟨_, rfl⟩
                refine va_iast hx hb hK.1 hP hD hS 1 0 rfl rfl n_123 dX11_aRule_123 (fun H locs hP hD hS => ?_)
                have hP : va_P g.1 vwCl (wX11 g a_m (uR I_m_79 1 f138) J_m) H := by rw [e_f138]; exact hP
                have hD : va_D A (wX11 g a_m (uR I_m_79 1 f138) J_m) := by rw [e_f138]; exact hD
                have hc_123 : MI (uR I_m_79 1 f138) := MI.ua hM_79 e_f138 rfl (by omega) (by omega)
                have hk_123 : KK [1] [11, 12, 13, 14, 16, 17] I_m (uR I_m_79 1 f138) := KK.ur hk_79 (by decide) (by decide)
                have hp_123 : PQ I_m (uR I_m_79 1 f138) := PQ.ur hp_79 (by decide)
                have hA123 : RA (uR I_m_79 1 f138) ((x1).toInt) 1 0 := hA_79.put (o := v3_79.toInt + 1) 1 0 e_f138 rfl (by omega) (by omega) (by omega) (by omega) (by omega)
                refine r_iinc (lv' := fun i139 => [(3, .int i139), (2, .int r2), (1, .int x1), (0, .ref (a_m 0))]) hx hb dX11_aRule_124 hl (k := 0) rfl (by decide) rfl (by decide) (fun _ => rfl) (fun i139 e_i139 t_i139 ls hl => ?_)
                try have t_i139 := t_i139 (by omega)
                refine lv_goto (tgt := 79) hx hb dX11_aRule_127 (by decide) ?_
                exact ih_79 i139 (uR I_m_79 1 f138) hc_123 hk_123 hA123 (by omega) hp_123 (hL_79.of rfl rfl rfl rfl rfl rfl) hT2_79 (hF_79.put e_f138 rfl (by omega) (by omega)) (fx_lsM (fr := ((I_m_79 0 12)).toInt) (len := ((I_m_79 0 13)).toInt - ((I_m_79 0 12)).toInt) hS_79 (uR_eq.trans e_f138) (by omega) (by omega) (by omega) (fun hl9 => by (exfalso; omega)) (by omega)) h7_79 (by omega) _ _ hP hD hS ls hl
              · refine lv_aload_n hx hb dX11_aRule_104 rfl (lv_at hl 3 rfl) ?_
                refine lv_aload_n hx hb dX11_aRule_105 rfl (lv_at hl 3 rfl) ?_
                refine va_get (D := g.1) (ci := 11) (v := .int (I_m_79 0 12)) (C := RX11) (T := TX11) (N := 46) hx hb hi_X11 (fun _ h => h) hown hK.1 hP 0 rfl rfl 12 (by decide) hf_138 (fun _ h9 => h9) rfl dX11_aRule_106 ?_
                refine lv_iload_n hx hb dX11_aRule_109 rfl (lv_at hl 0 rfl) ?_
                refine r_iadd hx hb dX11_aRule_110 rfl rfl (fun x140 e_x140 t_x140 => ?_)
                try have t_x140 := t_x140 (by omega)
                refine PurI.cv (As := [.int x140]) (kX11_byteAt l g a_m I_m_79 J_m x140 (by omega) (by omega)) fx (gUV (uT _) u_526 u_527 u_528 u_5 u_529) rfl hdX11_byteAt ⟨Nat.le_of_ble_eq_true rfl, Nat.le_of_ble_eq_true rfl⟩ hK hP [0, 1, 2, 3, 4, 5, 6, 7, 8, 9, 10, 11, 12, 13, 14, 15, 16, 17, 18, 19, 20, 21, 22] rfl rfl rfl rfl rfl hl.1 (Nat.le_of_ble_eq_true rfl) dX11_aRule_111 (fun r141 p_r141 => ?_)
                refine lv_bipush (v := 97) hx hb dX11_aRule_114 (by decide) ?_
                refine r_isub hx hb dX11_aRule_116 rfl (by decide : (97 : Int32).toInt = 97) (fun x142 e_x142 t_x142 => ?_)
                try have t_x142 := t_x142 (by omega)
                refine lv_iconst (v := 1) hx hb dX11_aRule_117 (by decide) ?_
                refine r_iadd hx hb dX11_aRule_118 rfl (by decide : (1 : Int32).toInt = 1) (fun x143 e_x143 t_x143 => ?_)
                try have t_x143 := t_x143 (by omega)
                refine lv_goto (tgt := 123) hx hb dX11_aRule_119 (by decide) ?_
                have n_123 : vp_in x136 19800 := (t_in (by omega))
                obtain ⟨f144, e_f144⟩ : ∃ z, z = upd (I_m_79 1) x136.toNatClampNeg x143 := ⟨_, rfl⟩
                refine va_iast hx hb hK.1 hP hD hS 1 0 rfl rfl n_123 dX11_aRule_123 (fun H locs hP hD hS => ?_)
                have hP : va_P g.1 vwCl (wX11 g a_m (uR I_m_79 1 f144) J_m) H := by rw [e_f144]; exact hP
                have hD : va_D A (wX11 g a_m (uR I_m_79 1 f144) J_m) := by rw [e_f144]; exact hD
                have hc_123 : MI (uR I_m_79 1 f144) := MI.ua hM_79 e_f144 rfl (by omega) (by omega)
                have hk_123 : KK [1] [11, 12, 13, 14, 16, 17] I_m (uR I_m_79 1 f144) := KK.ur hk_79 (by decide) (by decide)
                have hp_123 : PQ I_m (uR I_m_79 1 f144) := PQ.ur hp_79 (by decide)
                have hA123 : RA (uR I_m_79 1 f144) ((x1).toInt) 1 0 := hA_79.put (o := v3_79.toInt + 1) 1 0 e_f144 rfl (by omega) (by omega) (by omega) (by omega) (by omega)
                refine r_iinc (lv' := fun i145 => [(3, .int i145), (2, .int r2), (1, .int x1), (0, .ref (a_m 0))]) hx hb dX11_aRule_124 hl (k := 0) rfl (by decide) rfl (by decide) (fun _ => rfl) (fun i145 e_i145 t_i145 ls hl => ?_)
                try have t_i145 := t_i145 (by omega)
                refine lv_goto (tgt := 79) hx hb dX11_aRule_127 (by decide) ?_
                exact ih_79 i145 (uR I_m_79 1 f144) hc_123 hk_123 hA123 (by omega) hp_123 (hL_79.of rfl rfl rfl rfl rfl rfl) hT2_79 (hF_79.put e_f144 rfl (by omega) (by omega)) (fx_lsM (fr := ((I_m_79 0 12)).toInt) (len := ((I_m_79 0 13)).toInt - ((I_m_79 0 12)).toInt) hS_79 (uR_eq.trans e_f144) (by omega) (by omega) (by omega) (fun hl9 => by first | (have w := (fx_byn p_r141 (by omega)).1; rw [hr79] at w; rw [show ((I_m_79 0 12).toInt + v3_79.toInt).toNat = (x140).toInt.toNat by omega, w]; omega) | (exfalso; omega)) (by omega)) h7_79 (by omega) _ _ hP hD hS ls hl
        exact L79 ((7 - (0 : Int32).toInt) + 1).toNat (0 : Int32) (uR u4 1 f9) hc_76 hk_76 hA76 (by omega) hp_76 (hL31.of rfl rfl rfl rfl rfl rfl) ⟨(show ((u4 0 11)).toInt = 2 from (by omega)), (show (((u4 0 13)).toInt - ((u4 0 12)).toInt) ≤ 6 from (by omega))⟩ hF76 (fx_lsM0 (fr := ((u4 0 12)).toInt) (len := ((u4 0 13)).toInt - ((u4 0 12)).toInt) (uR_eq.trans e_f9) (by omega) (by omega) (by omega)) h31 (by omega) _ _ hP hD hS ls hl
      · refine lv_aload_n hx hb dX11_aRule_56 rfl (lv_at hl 2 rfl) ?_
        refine lv_iconst (v := 2) hx hb dX11_aRule_57 (by decide) ?_
        refine EffI.cv (wr := ([])) (w' := fun u147 => wX11 g a_m u147 J_m) (As := [.int (2 : Int32)]) (kX11_fails l g a_m u4 J_m (2 : Int32)) fx (gUV (uT _) u_557 u_558 u_559 u_5 u_560) rfl hdX11_fails ⟨Nat.le_of_ble_eq_true rfl, Nat.le_of_ble_eq_true rfl⟩ hK hP hD hS hA [0, 1, 2, 3, 4, 5, 6, 7, 8, 9, 10, 11, 12, 13, 14, 15, 16, 17, 18, 19, 20, 21, 22] [] [0, 1, 2, 3, 4, 5, 6, 7, 8, 9, 10, 11, 12, 13, 14, 15, 16, 17, 18, 19, 20, 21, 22] rfl rfl rfl rfl (by decide) rfl (fun _ => rfl) rfl rfl rfl rfl hl.1 (Nat.le_of_ble_eq_true rfl) dX11_aRule_58 (fun r146 u147 H locs p_r146 hP hD hS => ?_)
        have hP : va_P g.1 vwCl (wX11 g a_m u147 J_m) H := hP
        have hD : va_D A (wX11 g a_m u147 J_m) := hD
        refine hret 61 ls r146 _ _ u147 dX11_aRule_61 (Or.inl p_r146.2.1) hS hP hD ?_
        exact ⟨(MI.kk (MI.kk hM p_r3.1 (by decide) (by decide)) p_r146.1 (by decide) (by decide)), (KK.tr (KK.tr (KK.rf I_m) p_r3.1 (by decide) (by decide)) p_r146.1 (by decide) (by decide)), (PQ.fl (PQ.ah (PQ.rf h_p) p_r3.2.1 p_r3.1 (by decide)) p_r146.1 (by decide) (p_r146.2.2.2 (by decide))), Or.inl p_r146.2.1, fun q => absurd (q.symm.trans p_r146.2.1) (by decide), (hA31.kk p_r146.1 (by decide)).1, (hF31.low (by omega)).kk p_r146.1 (by decide), fun p l hw => fxMo.fail p_r146 h31 (by decide) hL31 hR31.1 hR31.2 (hG31 p l hw) (fun q => (fx_s2f hL31.2.2 q (by omega)).trans (congrArg Sum.inl (by decide)))⟩
  · refine lv_aload_n hx hb dX11_aRule_23 rfl (lv_at hl 2 rfl) ?_
    refine lv_bipush (v := 6) hx hb dX11_aRule_24 (by decide) ?_
    refine EffI.cv (wr := ([])) (w' := fun u149 => wX11 g a_m u149 J_m) (As := [.int (6 : Int32)]) (kX11_fails l g a_m I_m J_m (6 : Int32)) fx (gUV (uT _) u_557 u_558 u_559 u_5 u_560) rfl hdX11_fails ⟨Nat.le_of_ble_eq_true rfl, Nat.le_of_ble_eq_true rfl⟩ hK hP hD hS hA [0, 1, 2, 3, 4, 5, 6, 7, 8, 9, 10, 11, 12, 13, 14, 15, 16, 17, 18, 19, 20, 21, 22] [] [0, 1, 2, 3, 4, 5, 6, 7, 8, 9, 10, 11, 12, 13, 14, 15, 16, 17, 18, 19, 20, 21, 22] rfl rfl rfl rfl (by decide) rfl (fun _ => rfl) rfl rfl rfl rfl hl.1 (Nat.le_of_ble_eq_true rfl) dX11_aRule_26 (fun r148 u149 H locs p_r148 hP hD hS => ?_)
    have hP : va_P g.1 vwCl (wX11 g a_m u149 J_m) H := hP
    have hD : va_D A (wX11 g a_m u149 J_m) := hD
    refine hret 29 ls r148 _ _ u149 dX11_aRule_29 (Or.inl p_r148.2.1) hS hP hD ?_
    exact ⟨(MI.kk hM p_r148.1 (by decide) (by decide)), (KK.tr (KK.rf I_m) p_r148.1 (by decide) (by decide)), (PQ.fl (PQ.rf h_p) p_r148.1 (by decide) (p_r148.2.2.2 (by decide))), Or.inl p_r148.2.1, fun q => absurd (q.symm.trans p_r148.2.1) (by decide), hN.row (p_r148.1.row 1 (by decide)), (fxLow.rf I_m).kk p_r148.1 (by decide), fun p l hw => fxMo.fail p_r148 h17 (by decide) l rfl rfl fxRe.rf (fun q => (fx_s1f hw (by rw [fxTM.len]; omega)).trans (congrArg Sum.inl (by decide)))⟩
