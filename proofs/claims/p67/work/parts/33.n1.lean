set_option maxHeartbeats 4000000 in
set_option maxRecDepth 100000 in
theorem kX11_byteAt (l : Launch) (g : gG) (a_m : Nat → Nat) (I_m : Nat → Nat → Int32) (J_m : Nat → Nat → Int64) (k : Int32) (h_z : (I_m 0 10).toInt ≤ 900) (h_k : 0 ≤ k.toInt) : PurI l g yX11_byteAt wsX11_byteAt 0 [.ref (a_m 0), .int k] (wX11 g a_m I_m J_m) (fun r => (k.toInt < (I_m 0 10).toInt ∧ r = I_m 6 k.toNatClampNeg &&& 255 ∧ 0 ≤ r.toInt ∧ r.toInt ≤ 255) ∨ ((I_m 0 10).toInt ≤ k.toInt ∧ r.toInt = -1)) := by
  refine PurI.st (cc := cX11_byteAt) (maxL := 2) (by decide) rfl (Nat.le_of_ble_eq_true rfl) (fun p e s m args below meth c Q ls fx hK hP hl hret => ?_)
  have hx := fx.1
  have hb := fx.2.1
  have hml := fx.2.2.1
  have hown := fx.2.2.2.1
  have hts := fx.2.2.2.2
  have hl : lv_has ls 2 [(0, .ref (a_m 0)), (1, .int k)] := hl
  have hP : va_P g.1 vwCl (wX11 g a_m I_m J_m) s.heap := hP
  have hf_31 := hts _ (uT _ _ u_177)
  have hf_128 := hts _ (uT _ _ u_512)
  have hi_X11 : ∀ w ∈ wsX110, w.before args s = true := fun w h => hts w (uT _ w (u_wsX110 w h))
  have lm1 : (-1 : Int32).toInt = -1 := by decide
  have lm0 : (0 : Int32).toInt = 0 := by decide
  have lm2 : (1 : Int32).toInt = 1 := by decide
  have lq2 : (2 : Int32).toInt = 2 := by decide
  have lq3 : (3 : Int32).toInt = 3 := by decide
  have lq4 : (4 : Int32).toInt = 4 := by decide
  have lq5 : (5 : Int32).toInt = 5 := by decide
  have lq6 : (6 : Int32).toInt = 6 := by decide
  have lq7 : (7 : Int32).toInt = 7 := by decide
  refine lv_iload_n hx hb dX11_byteAt_0 rfl (lv_at hl 1 rfl) ?_
  refine lv_aload_n hx hb dX11_byteAt_1 rfl (lv_at hl 0 rfl) ?_
  refine va_get (D := g.1) (ci := 11) (v := .int (I_m 0 10)) (C := RX11) (T := TX11) (N := 46) hx hb hi_X11 (fun _ h => h) hown hK.1 hP 0 rfl rfl 10 (by decide) hf_128 (fun _ h9 => h9) rfl dX11_byteAt_2 ?_
  refine q_icmp_ge (tgt := 21) hx hb dX11_byteAt_5 (by decide) rfl rfl (fun k_5 => ?_) (fun k_5 => ?_)
  · refine lv_iconst (v := -1) hx hb dX11_byteAt_21 (by decide) ?_
    exact hret 22 ls (-1 : Int32) dX11_byteAt_22 (by first | exact Or.inr ⟨by omega, by omega⟩ | exact Or.inl ⟨by omega, by rw [← e_x1]; exact e_x2, by have q := and255 x1; rw [← e_x2] at q; exact q⟩)
  · refine lv_aload_n hx hb dX11_byteAt_8 rfl (lv_at hl 0 rfl) ?_
    refine va_get (D := g.1) (ci := 11) (v := .ref (a_m 6)) (C := RX11) (T := TX11) (N := 46) hx hb hi_X11 (fun _ h => h) hown hK.1 hP 0 rfl rfl 8 (by decide) hf_31 (fun _ h9 => h9) rfl dX11_byteAt_9 ?_
    refine lv_iload_n hx hb dX11_byteAt_12 rfl (lv_at hl 1 rfl) ?_
    have n_13 : vp_in k 900 := (t_in (by omega))
    refine va_bald hx hb hK.1 hP 6 2 rfl rfl n_13 dX11_byteAt_13 ?_
    refine q_nm (fun x1 e_x1 => ?_)
    have e_x1 : x1 = (I_m 6) k.toNatClampNeg := e_x1
    have g_x1 : x1.toInt = ((I_m 6) k.toNatClampNeg).toInt := congrArg _ e_x1
    refine lv_sipush (v := 255) hx hb dX11_byteAt_14 (by decide) ?_
    refine lv_iand hx hb dX11_byteAt_17 ?_
    refine q_nm (fun x2 e_x2 => ?_)
    refine lv_goto (tgt := 22) hx hb dX11_byteAt_18 (by decide) ?_
    exact hret 22 ls x2 dX11_byteAt_22 (by first | exact Or.inr ⟨by omega, by omega⟩ | exact Or.inl ⟨by omega, by rw [← e_x1]; exact e_x2, by have q := and255 x1; rw [← e_x2] at q; exact q⟩)

set_option maxHeartbeats 4000000 in
set_option maxRecDepth 100000 in
theorem kX11_ahead (l : Launch) (g : gG) (a_m : Nat → Nat) (I_m : Nat → Nat → Int32) (J_m : Nat → Nat → Int64) (h_p : PL I_m) : EffV l g yX11_ahead wsX11_ahead 1 [.ref (a_m 0)] (wX11 g a_m I_m J_m) (fun (u : (Nat → Nat → Int32)) => wX11 g a_m u J_m) (fun (u : (Nat → Nat → Int32)) => KK [] [11, 12, 13, 14] I_m (u) ∧ AH I_m (u)) := by
  refine EffV.st (cc := cX11_ahead) (maxL := 2) (by decide) rfl (Nat.le_of_ble_eq_true rfl) (fun p e s m args below meth c A Q ls fx hK hP hD hA hS hl hret => ?_)
  have hx := fx.1
  have hb := fx.2.1
  have hml := fx.2.2.1
  have hown := fx.2.2.2.1
  have hts := fx.2.2.2.2
  have hl : lv_has ls 2 [(0, .ref (a_m 0))] := hl
  have hP : va_P g.1 vwCl (wX11 g a_m I_m J_m) s.heap := hP
  have hf_131 := hts _ (uT _ _ u_513)
  have hf_138 := hts _ (uT _ _ u_519)
  have hf_141 := hts _ (uT _ _ u_520)
  have hf_144 := hts _ (uT _ _ u_506)
  have hi_X11 : ∀ w ∈ wsX110, w.before args s = true := fun w h => hts w (uT _ w (u_wsX110 w h))
  have hc_153 := hts _ (uT _ _ u_521)
  have lm1 : (-1 : Int32).toInt = -1 := by decide
  have lm0 : (0 : Int32).toInt = 0 := by decide
  have lm2 : (1 : Int32).toInt = 1 := by decide
  have lq2 : (2 : Int32).toInt = 2 := by decide
  have lq3 : (3 : Int32).toInt = 3 := by decide
  have lq4 : (4 : Int32).toInt = 4 := by decide
  have lq5 : (5 : Int32).toInt = 5 := by decide
  have lq6 : (6 : Int32).toInt = 6 := by decide
  have lq7 : (7 : Int32).toInt = 7 := by decide
  have lq32 : (32 : Int32).toInt = 32 := by decide
  have lq10 : (10 : Int32).toInt = 10 := by decide
  have lq13200 : (13200 : Int32).toInt = 13200 := by decide
  have lq24 : (24 : Int32).toInt = 24 := by decide
  have lq63 : (63 : Int32).toInt = 63 := by decide
  have hp1 := h_p.1
  have hp2 := h_p.2
  have L0 : ∀ (nn : Nat) (I_m_0 : Nat → Nat → Int32), (hk_0 : KK [] [11, 12, 13, 14] I_m I_m_0) → (hv_0 : (I_m 0 13).toInt ≤ (I_m_0 0 13).toInt ∧ (I_m_0 0 13).toInt ≤ (I_m 0 10).toInt) → (((I_m 0 10).toInt + 1 - ((I_m_0 0 13)).toInt) < (nn : Int)) → ∀ (H : Heap) (locs : List Loc), va_P g.1 vwCl (wX11 g a_m I_m_0 J_m) H → va_D A (wX11 g a_m I_m_0 J_m) → va_S A s.heap H locs → ∀ ls : Array Slot, lv_has ls 2 [(0, .ref (a_m 0))] → W p l e (rm 1) s m args below meth c H locs 0 0 Q (F0 m 0 ls []) := by
    intro n_0
    induction n_0 with
    | zero =>
      intro I_m_0 hk_0 hv_0 hms_0 H locs hP hD hS ls hl
      exfalso; omega
    | succ n_0 ih_0 =>
      intro I_m_0 hk_0 hv_0 hms_0 H locs hP hD hS ls hl
      have hz0 : (I_m_0 0 10).toInt = (I_m 0 10).toInt := congrArg Int32.toInt (hk_0.num 10 (by decide))
      refine lv_aload_n hx hb dX11_ahead_0 rfl (lv_at hl 0 rfl) ?_
      refine lv_aload_n hx hb dX11_ahead_1 rfl (lv_at hl 0 rfl) ?_
      refine va_get (D := g.1) (ci := 11) (v := .int (I_m_0 0 13)) (C := RX11) (T := TX11) (N := 46) hx hb hi_X11 (fun _ h => h) hown hK.1 hP 0 rfl rfl 13 (by decide) hf_131 (fun _ h9 => h9) rfl dX11_ahead_2 ?_
      refine PurI.cv (As := [.int (I_m_0 0 13)]) (kX11_byteAt l g a_m I_m_0 J_m (I_m_0 0 13) (show ((I_m_0 0 10)).toInt ≤ 900 from (by omega)) (by omega)) fx (gUV (uT _) u_526 u_527 u_528 u_5 u_529) rfl hdX11_byteAt ⟨Nat.le_of_ble_eq_true rfl, Nat.le_of_ble_eq_true rfl⟩ hK hP [0, 1, 2, 3, 4, 5, 6, 7, 8, 9, 10, 11, 12, 13, 14, 15, 16, 17, 18, 19, 20, 21, 22] rfl rfl rfl rfl rfl hl.1 (Nat.le_of_ble_eq_true rfl) dX11_ahead_5 (fun r1 p_r1 => ?_)
      have hb5 := p_r1
      refine lv_bipush (v := 32) hx hb dX11_ahead_8 (by decide) ?_
      refine q_icmp_eq (tgt := 26) hx hb dX11_ahead_10 (by decide) rfl (by decide : (32 : Int32).toInt = 32) (fun k_10 => ?_) (fun k_10 => ?_)
      · refine lv_aload_n hx hb dX11_ahead_26 rfl (lv_at hl 0 rfl) ?_
        refine lv_dup hx hb dX11_ahead_27 rfl ?_
        refine va_get (D := g.1) (ci := 11) (v := .int (I_m_0 0 13)) (C := RX11) (T := TX11) (N := 46) hx hb hi_X11 (fun _ h => h) hown hK.1 hP 0 rfl rfl 13 (by decide) hf_131 (fun _ h9 => h9) rfl dX11_ahead_28 ?_
        refine lv_iconst (v := 1) hx hb dX11_ahead_31 (by decide) ?_
        refine r_iadd hx hb dX11_ahead_32 rfl (by decide : (1 : Int32).toInt = 1) (fun x2 e_x2 t_x2 => ?_)
        try have t_x2 := t_x2 (by omega)
        refine va_put (D := g.1) (ci := 11) (v := .int x2) (ty := .int) (C := RX11) (T := TX11) (N := 46) hx hb hi_X11 (fun _ h => h) tyX11 tyX11_ok nmX11 hown hK.1 hP hD hS 0 rfl rfl 13 (by decide) hf_131 (fun _ h9 => h9) rfl (by decide +kernel) rfl rfl (Nat.le_of_ble_eq_true rfl) dX11_ahead_33 (fun H locs hP hD hS => ?_)
        have hP : va_P g.1 vwCl (wX11 g a_m (uF I_m_0 0 13 x2) J_m) H := hP
        have hD : va_D A (wX11 g a_m (uF I_m_0 0 13 x2) J_m) := hD
        have hk_33 : KK [] [11, 12, 13, 14] I_m (uF I_m_0 0 13 x2) := KK.uf hk_0 (by decide)
        refine lv_goto (tgt := 0) hx hb dX11_ahead_36 (by decide) ?_
        exact ih_0 (uF I_m_0 0 13 x2) hk_33 (show (I_m 0 13).toInt ≤ (x2).toInt ∧ (x2).toInt ≤ (I_m 0 10).toInt from (by omega)) (show (I_m 0 10).toInt + 1 - (x2).toInt < _ from (by omega)) _ _ hP hD hS ls hl
      · refine lv_aload_n hx hb dX11_ahead_13 rfl (lv_at hl 0 rfl) ?_
        refine lv_aload_n hx hb dX11_ahead_14 rfl (lv_at hl 0 rfl) ?_
        refine va_get (D := g.1) (ci := 11) (v := .int (I_m_0 0 13)) (C := RX11) (T := TX11) (N := 46) hx hb hi_X11 (fun _ h => h) hown hK.1 hP 0 rfl rfl 13 (by decide) hf_131 (fun _ h9 => h9) rfl dX11_ahead_15 ?_
        refine PurI.cv (As := [.int (I_m_0 0 13)]) (kX11_byteAt l g a_m I_m_0 J_m (I_m_0 0 13) (show ((I_m_0 0 10)).toInt ≤ 900 from (by omega)) (by omega)) fx (gUV (uT _) u_526 u_527 u_528 u_5 u_529) rfl hdX11_byteAt ⟨Nat.le_of_ble_eq_true rfl, Nat.le_of_ble_eq_true rfl⟩ hK hP [0, 1, 2, 3, 4, 5, 6, 7, 8, 9, 10, 11, 12, 13, 14, 15, 16, 17, 18, 19, 20, 21, 22] rfl rfl rfl rfl rfl hl.1 (Nat.le_of_ble_eq_true rfl) dX11_ahead_18 (fun r3 p_r3 => ?_)
        have hb18 := p_r3
        refine lv_bipush (v := 10) hx hb dX11_ahead_21 (by decide) ?_
        refine q_icmp_ne (tgt := 39) hx hb dX11_ahead_23 (by decide) rfl (by decide : (10 : Int32).toInt = 10) (fun k_23 => ?_) (fun k_23 => ?_)
        · refine lv_aload_n hx hb dX11_ahead_39 rfl (lv_at hl 0 rfl) ?_
          refine lv_aload_n hx hb dX11_ahead_40 rfl (lv_at hl 0 rfl) ?_
          refine va_get (D := g.1) (ci := 11) (v := .int (I_m_0 0 13)) (C := RX11) (T := TX11) (N := 46) hx hb hi_X11 (fun _ h => h) hown hK.1 hP 0 rfl rfl 13 (by decide) hf_131 (fun _ h9 => h9) rfl dX11_ahead_41 ?_
          refine va_put (D := g.1) (ci := 11) (v := .int (I_m_0 0 13)) (ty := .int) (C := RX11) (T := TX11) (N := 46) hx hb hi_X11 (fun _ h => h) tyX11 tyX11_ok nmX11 hown hK.1 hP hD hS 0 rfl rfl 12 (by decide) hf_138 (fun _ h9 => h9) rfl (by decide +kernel) rfl rfl (Nat.le_of_ble_eq_true rfl) dX11_ahead_44 (fun H locs hP hD hS => ?_)
          have hP : va_P g.1 vwCl (wX11 g a_m (uF I_m_0 0 12 (I_m_0 0 13)) J_m) H := hP
          have hD : va_D A (wX11 g a_m (uF I_m_0 0 12 (I_m_0 0 13)) J_m) := hD
          have hk_44 : KK [] [11, 12, 13, 14] I_m (uF I_m_0 0 12 (I_m_0 0 13)) := KK.uf hk_0 (by decide)
          refine lv_aload_n hx hb dX11_ahead_47 rfl (lv_at hl 0 rfl) ?_
          refine lv_aload_n hx hb dX11_ahead_48 rfl (lv_at hl 0 rfl) ?_
          refine va_get (D := g.1) (ci := 11) (v := .int (I_m_0 0 13)) (C := RX11) (T := TX11) (N := 46) hx hb hi_X11 (fun _ h => h) hown hK.1 hP 0 rfl rfl 13 (by decide) hf_131 (fun _ h9 => h9) rfl dX11_ahead_49 ?_
          refine PurI.cv (As := [.int (I_m_0 0 13)]) (kX11_byteAt l g a_m (uF I_m_0 0 12 (I_m_0 0 13)) J_m (I_m_0 0 13) (show ((I_m_0 0 10)).toInt ≤ 900 from (by omega)) (by omega)) fx (gUV (uT _) u_526 u_527 u_528 u_5 u_529) rfl hdX11_byteAt ⟨Nat.le_of_ble_eq_true rfl, Nat.le_of_ble_eq_true rfl⟩ hK hP [0, 1, 2, 3, 4, 5, 6, 7, 8, 9, 10, 11, 12, 13, 14, 15, 16, 17, 18, 19, 20, 21, 22] rfl rfl rfl rfl rfl hl.1 (Nat.le_of_ble_eq_true rfl) dX11_ahead_52 (fun r4 p_r4 => ?_)
          have p_r4 : (((I_m_0 0 13)).toInt < (I_m_0 0 10).toInt ∧ r4 = (I_m_0 6) ((I_m_0 0 13)).toNatClampNeg &&& 255 ∧ 0 ≤ r4.toInt ∧ r4.toInt ≤ 255) ∨ ((I_m_0 0 10).toInt ≤ ((I_m_0 0 13)).toInt ∧ r4.toInt = -1) := p_r4
          have hb52 := p_r4
          refine lv_istore_n (lv' := [(1, .int r4), (0, .ref (a_m 0))]) hx hb dX11_ahead_55 rfl hl (by decide) rfl (fun ls hl => ?_)
          refine lv_aload_n hx hb dX11_ahead_56 rfl (lv_at hl 1 rfl) ?_
          refine lv_iload_n hx hb dX11_ahead_57 rfl (lv_at hl 0 rfl) ?_
          refine va_put (D := g.1) (ci := 11) (v := .int r4) (ty := .int) (C := RX11) (T := TX11) (N := 46) hx hb hi_X11 (fun _ h => h) tyX11 tyX11_ok nmX11 hown hK.1 hP hD hS 0 rfl rfl 14 (by decide) hf_141 (fun _ h9 => h9) rfl (by decide +kernel) rfl rfl (Nat.le_of_ble_eq_true rfl) dX11_ahead_58 (fun H locs hP hD hS => ?_)
          have hP : va_P g.1 vwCl (wX11 g a_m (uF (uF I_m_0 0 12 (I_m_0 0 13)) 0 14 r4) J_m) H := hP
          have hD : va_D A (wX11 g a_m (uF (uF I_m_0 0 12 (I_m_0 0 13)) 0 14 r4) J_m) := hD
          have hk_58 : KK [] [11, 12, 13, 14] I_m (uF (uF I_m_0 0 12 (I_m_0 0 13)) 0 14 r4) := KK.uf hk_44 (by decide)
          refine lv_iload_n hx hb dX11_ahead_61 rfl (lv_at hl 0 rfl) ?_
          refine lv_iconst (v := -1) hx hb dX11_ahead_62 (by decide) ?_
          refine q_icmp_ne (tgt := 74) hx hb dX11_ahead_63 (by decide) rfl (by decide : (-1 : Int32).toInt = -1) (fun k_63 => ?_) (fun k_63 => ?_)
          · refine lv_iload_n hx hb dX11_ahead_74 rfl (lv_at hl 0 rfl) ?_
            refine PurI.cs (C := RX11) (As := [.int r4]) (kX11_isSmall l g r4) fx (gUS (uT _) u_530 u_531 u_5 u_532) rfl hdX11_isSmall ⟨Nat.le_of_ble_eq_true rfl, Nat.le_of_ble_eq_true rfl⟩ hK hP [] rfl rfl rfl hl.1 (Nat.le_of_ble_eq_true rfl) dX11_ahead_75 (fun r5 p_r5 => ?_)
            refine q_if_eq (tgt := 116) hx hb dX11_ahead_78 (by decide) rfl (fun b_78 k_78 => ?_) (fun b_78 k_78 => ?_)
            · have q_78 := bP.f p_r5 b_78
              refine lv_iload_n hx hb dX11_ahead_116 rfl (lv_at hl 0 rfl) ?_
              refine PurI.cs (C := RX11) (As := [.int r4]) (kX11_isDigit l g r4) fx (gUS (uT _) u_533 u_534 u_5 u_535) rfl hdX11_isDigit ⟨Nat.le_of_ble_eq_true rfl, Nat.le_of_ble_eq_true rfl⟩ hK hP [] rfl rfl rfl hl.1 (Nat.le_of_ble_eq_true rfl) dX11_ahead_117 (fun r6 p_r6 => ?_)
              refine q_if_eq (tgt := 208) hx hb dX11_ahead_120 (by decide) rfl (fun b_120 k_120 => ?_) (fun b_120 k_120 => ?_)
              · have q_120 := bP.f p_r6 b_120
                refine lv_aload_n hx hb dX11_ahead_208 rfl (lv_at hl 1 rfl) ?_
                refine lv_dup hx hb dX11_ahead_209 rfl ?_
                refine va_get (D := g.1) (ci := 11) (v := .int (I_m_0 0 13)) (C := RX11) (T := TX11) (N := 46) hx hb hi_X11 (fun _ h => h) hown hK.1 hP 0 rfl rfl 13 (by decide) hf_131 (fun _ h9 => h9) rfl dX11_ahead_210 ?_
                refine lv_iconst (v := 1) hx hb dX11_ahead_213 (by decide) ?_
                refine r_iadd hx hb dX11_ahead_214 rfl (by decide : (1 : Int32).toInt = 1) (fun x7 e_x7 t_x7 => ?_)
                try have t_x7 := t_x7 (by omega)
                refine va_put (D := g.1) (ci := 11) (v := .int x7) (ty := .int) (C := RX11) (T := TX11) (N := 46) hx hb hi_X11 (fun _ h => h) tyX11 tyX11_ok nmX11 hown hK.1 hP hD hS 0 rfl rfl 13 (by decide) hf_131 (fun _ h9 => h9) rfl (by decide +kernel) rfl rfl (Nat.le_of_ble_eq_true rfl) dX11_ahead_215 (fun H locs hP hD hS => ?_)
                have hP : va_P g.1 vwCl (wX11 g a_m (uF (uF (uF I_m_0 0 12 (I_m_0 0 13)) 0 14 r4) 0 13 x7) J_m) H := hP
                have hD : va_D A (wX11 g a_m (uF (uF (uF I_m_0 0 12 (I_m_0 0 13)) 0 14 r4) 0 13 x7) J_m) := hD
                have hk_215 : KK [] [11, 12, 13, 14] I_m (uF (uF (uF I_m_0 0 12 (I_m_0 0 13)) 0 14 r4) 0 13 x7) := KK.uf hk_58 (by decide)
                refine lv_aload_n hx hb dX11_ahead_218 rfl (lv_at hl 1 rfl) ?_
                refine lv_iload_n hx hb dX11_ahead_219 rfl (lv_at hl 0 rfl) ?_
                refine lv_bipush (v := 59) hx hb dX11_ahead_220 (by decide) ?_
                refine q_icmp_ne (tgt := 229) hx hb dX11_ahead_222 (by decide) rfl (by decide : (59 : Int32).toInt = 59) (fun k_222 => ?_) (fun k_222 => ?_)
                · refine lv_iconst (v := 1) hx hb dX11_ahead_229 (by decide) ?_
                  refine va_put (D := g.1) (ci := 11) (v := .int (1 : Int32)) (ty := .int) (C := RX11) (T := TX11) (N := 46) hx hb hi_X11 (fun _ h => h) tyX11 tyX11_ok nmX11 hown hK.1 hP hD hS 0 rfl rfl 11 (by decide) hf_144 (fun _ h9 => h9) rfl (by decide +kernel) rfl rfl (Nat.le_of_ble_eq_true rfl) dX11_ahead_230 (fun H locs hP hD hS => ?_)
                  have hP : va_P g.1 vwCl (wX11 g a_m (uF (uF (uF (uF I_m_0 0 12 (I_m_0 0 13)) 0 14 r4) 0 13 x7) 0 11 (1 : Int32)) J_m) H := hP
                  have hD : va_D A (wX11 g a_m (uF (uF (uF (uF I_m_0 0 12 (I_m_0 0 13)) 0 14 r4) 0 13 x7) 0 11 (1 : Int32)) J_m) := hD
                  have hk_230 : KK [] [11, 12, 13, 14] I_m (uF (uF (uF (uF I_m_0 0 12 (I_m_0 0 13)) 0 14 r4) 0 13 x7) 0 11 (1 : Int32)) := KK.uf hk_215 (by decide)
                  refine hret 233 ls _ _ (uF (uF (uF (uF I_m_0 0 12 (I_m_0 0 13)) 0 14 r4) 0 13 x7) 0 11 (1 : Int32)) dX11_ahead_233 hS hP hD ?_
                  exact ⟨hk_230, (show AH I_m _ from (by unfold AH PS PL AD; show (((0 ≤ ((I_m_0 0 10)).toInt ∧ ((I_m_0 0 10)).toInt ≤ 900) ∧ 0 ≤ (x7).toInt ∧ (x7).toInt ≤ ((I_m_0 0 10)).toInt) ∧ (0 ≤ ((I_m_0 0 13)).toInt ∧ ((I_m_0 0 13)).toInt ≤ (x7).toInt) ∧ (0 ≤ ((1 : Int32)).toInt ∧ ((1 : Int32)).toInt ≤ 4) ∧ (((1 : Int32)).toInt = 2 → ((I_m_0 0 13)).toInt < (x7).toInt)) ∧ (I_m 0 13).toInt ≤ (x7).toInt ∧ (((1 : Int32)).toInt = 0 ∨ (I_m 0 13).toInt < (x7).toInt); refine ⟨⟨⟨?_, ?_⟩, ?_, ?_, ?_⟩, ?_, ?_⟩ <;> omega))⟩
                · refine lv_iconst (v := 4) hx hb dX11_ahead_225 (by decide) ?_
                  refine lv_goto (tgt := 230) hx hb dX11_ahead_226 (by decide) ?_
                  refine va_put (D := g.1) (ci := 11) (v := .int (4 : Int32)) (ty := .int) (C := RX11) (T := TX11) (N := 46) hx hb hi_X11 (fun _ h => h) tyX11 tyX11_ok nmX11 hown hK.1 hP hD hS 0 rfl rfl 11 (by decide) hf_144 (fun _ h9 => h9) rfl (by decide +kernel) rfl rfl (Nat.le_of_ble_eq_true rfl) dX11_ahead_230 (fun H locs hP hD hS => ?_)
                  have hP : va_P g.1 vwCl (wX11 g a_m (uF (uF (uF (uF I_m_0 0 12 (I_m_0 0 13)) 0 14 r4) 0 13 x7) 0 11 (4 : Int32)) J_m) H := hP
                  have hD : va_D A (wX11 g a_m (uF (uF (uF (uF I_m_0 0 12 (I_m_0 0 13)) 0 14 r4) 0 13 x7) 0 11 (4 : Int32)) J_m) := hD
                  have hk_230 : KK [] [11, 12, 13, 14] I_m (uF (uF (uF (uF I_m_0 0 12 (I_m_0 0 13)) 0 14 r4) 0 13 x7) 0 11 (4 : Int32)) := KK.uf hk_215 (by decide)
                  refine hret 233 ls _ _ (uF (uF (uF (uF I_m_0 0 12 (I_m_0 0 13)) 0 14 r4) 0 13 x7) 0 11 (4 : Int32)) dX11_ahead_233 hS hP hD ?_
                  exact ⟨hk_230, (show AH I_m _ from (by unfold AH PS PL AD; show (((0 ≤ ((I_m_0 0 10)).toInt ∧ ((I_m_0 0 10)).toInt ≤ 900) ∧ 0 ≤ (x7).toInt ∧ (x7).toInt ≤ ((I_m_0 0 10)).toInt) ∧ (0 ≤ ((I_m_0 0 13)).toInt ∧ ((I_m_0 0 13)).toInt ≤ (x7).toInt) ∧ (0 ≤ ((4 : Int32)).toInt ∧ ((4 : Int32)).toInt ≤ 4) ∧ (((4 : Int32)).toInt = 2 → ((I_m_0 0 13)).toInt < (x7).toInt)) ∧ (I_m 0 13).toInt ≤ (x7).toInt ∧ (((4 : Int32)).toInt = 0 ∨ (I_m 0 13).toInt < (x7).toInt); refine ⟨⟨⟨?_, ?_⟩, ?_, ?_, ?_⟩, ?_, ?_⟩ <;> omega))⟩
              · have q_120 := bP.t p_r6 b_120
                refine lv_aload_n hx hb dX11_ahead_123 rfl (lv_at hl 1 rfl) ?_
                refine lv_iconst (v := 0) hx hb dX11_ahead_124 (by decide) ?_
                refine va_put (D := g.1) (ci := 11) (v := .int (0 : Int32)) (ty := .int) (C := RX11) (T := TX11) (N := 46) hx hb hi_X11 (fun _ h => h) tyX11 tyX11_ok nmX11 hown hK.1 hP hD hS 0 rfl rfl 14 (by decide) hf_141 (fun _ h9 => h9) rfl (by decide +kernel) rfl rfl (Nat.le_of_ble_eq_true rfl) dX11_ahead_125 (fun H locs hP hD hS => ?_)
                have hP : va_P g.1 vwCl (wX11 g a_m (uF (uF (uF I_m_0 0 12 (I_m_0 0 13)) 0 14 r4) 0 14 (0 : Int32)) J_m) H := hP
                have hD : va_D A (wX11 g a_m (uF (uF (uF I_m_0 0 12 (I_m_0 0 13)) 0 14 r4) 0 14 (0 : Int32)) J_m) := hD
                have hk_125 : KK [] [11, 12, 13, 14] I_m (uF (uF (uF I_m_0 0 12 (I_m_0 0 13)) 0 14 r4) 0 14 (0 : Int32)) := KK.uf hk_58 (by decide)
                have L128 : ∀ (nn : Nat) (I_m_128 : Nat → Nat → Int32), (hk_128 : KK [] [11, 12, 13, 14] I_m I_m_128) → (hv_128 : (I_m 0 13).toInt ≤ (I_m_128 0 12).toInt ∧ (I_m_128 0 12).toInt ≤ (I_m_128 0 13).toInt ∧ (I_m_128 0 13).toInt ≤ (I_m 0 10).toInt) → (hf_128 : (I_m_128 0 12).toInt < (I_m_128 0 13).toInt ∨ ((I_m_128 0 12).toInt = (I_m_128 0 13).toInt ∧ (I_m_128 0 13).toInt < (I_m 0 10).toInt ∧ 48 ≤ (I_m_128 6 (I_m_128 0 13).toNatClampNeg &&& 255).toInt ∧ (I_m_128 6 (I_m_128 0 13).toNatClampNeg &&& 255).toInt ≤ 57)) → (((I_m 0 10).toInt + 1 - ((I_m_128 0 13)).toInt) < (nn : Int)) → ∀ (H : Heap) (locs : List Loc), va_P g.1 vwCl (wX11 g a_m I_m_128 J_m) H → va_D A (wX11 g a_m I_m_128 J_m) → va_S A s.heap H locs → ∀ ls : Array Slot, lv_has ls 2 [(1, .int r4), (0, .ref (a_m 0))] → W p l e (rm 1) s m args below meth c H locs 0 0 Q (F0 m 128 ls []) := by
                  intro n_128
                  induction n_128 with
                  | zero =>
                    intro I_m_128 hk_128 hv_128 hf_128 hms_128 H locs hP hD hS ls hl
                    exfalso; omega
                  | succ n_128 ih_128 =>
                    intro I_m_128 hk_128 hv_128 hf_128 hms_128 H locs hP hD hS ls hl
                    have hz128 : (I_m_128 0 10).toInt = (I_m 0 10).toInt := congrArg Int32.toInt (hk_128.num 10 (by decide))
                    refine lv_aload_n hx hb dX11_ahead_128 rfl (lv_at hl 1 rfl) ?_
                    refine lv_aload_n hx hb dX11_ahead_129 rfl (lv_at hl 1 rfl) ?_
                    refine va_get (D := g.1) (ci := 11) (v := .int (I_m_128 0 13)) (C := RX11) (T := TX11) (N := 46) hx hb hi_X11 (fun _ h => h) hown hK.1 hP 0 rfl rfl 13 (by decide) hf_131 (fun _ h9 => h9) rfl dX11_ahead_130 ?_
                    refine PurI.cv (As := [.int (I_m_128 0 13)]) (kX11_byteAt l g a_m I_m_128 J_m (I_m_128 0 13) (show ((I_m_128 0 10)).toInt ≤ 900 from (by omega)) (by omega)) fx (gUV (uT _) u_526 u_527 u_528 u_5 u_529) rfl hdX11_byteAt ⟨Nat.le_of_ble_eq_true rfl, Nat.le_of_ble_eq_true rfl⟩ hK hP [0, 1, 2, 3, 4, 5, 6, 7, 8, 9, 10, 11, 12, 13, 14, 15, 16, 17, 18, 19, 20, 21, 22] rfl rfl rfl rfl rfl hl.1 (Nat.le_of_ble_eq_true rfl) dX11_ahead_133 (fun r8 p_r8 => ?_)
                    have hb133 := p_r8
                    refine PurI.cs (C := RX11) (As := [.int r8]) (kX11_isDigit l g r8) fx (gUS (uT _) u_533 u_534 u_5 u_535) rfl hdX11_isDigit ⟨Nat.le_of_ble_eq_true rfl, Nat.le_of_ble_eq_true rfl⟩ hK hP [] rfl rfl rfl hl.1 (Nat.le_of_ble_eq_true rfl) dX11_ahead_136 (fun r9 p_r9 => ?_)
                    refine q_if_eq (tgt := 183) hx hb dX11_ahead_139 (by decide) rfl (fun b_139 k_139 => ?_) (fun b_139 k_139 => ?_)
                    · have q_139 := bP.f p_r9 b_139
                      have hnf : ((I_m_128 0 12)).toInt < ((I_m_128 0 13)).toInt := (by rcases hf_128 with q | q; exact q; exfalso; rcases p_r8 with w | w; rw [w.2.1] at q_139; exact q_139 ⟨by omega, by omega⟩; omega)
                      refine lv_aload_n hx hb dX11_ahead_183 rfl (lv_at hl 1 rfl) ?_
                      refine lv_aload_n hx hb dX11_ahead_184 rfl (lv_at hl 1 rfl) ?_
                      refine va_get (D := g.1) (ci := 11) (v := .int (I_m_128 0 13)) (C := RX11) (T := TX11) (N := 46) hx hb hi_X11 (fun _ h => h) hown hK.1 hP 0 rfl rfl 13 (by decide) hf_131 (fun _ h9 => h9) rfl dX11_ahead_185 ?_
                      refine lv_aload_n hx hb dX11_ahead_188 rfl (lv_at hl 1 rfl) ?_
                      refine va_get (D := g.1) (ci := 11) (v := .int (I_m_128 0 12)) (C := RX11) (T := TX11) (N := 46) hx hb hi_X11 (fun _ h => h) hown hK.1 hP 0 rfl rfl 12 (by decide) hf_138 (fun _ h9 => h9) rfl dX11_ahead_189 ?_
                      refine r_isub hx hb dX11_ahead_192 rfl rfl (fun x10 e_x10 t_x10 => ?_)
                      try have t_x10 := t_x10 (by omega)
                      refine lv_iconst (v := 4) hx hb dX11_ahead_193 (by decide) ?_
                      refine q_icmp_le (tgt := 201) hx hb dX11_ahead_194 (by decide) rfl (by decide : (4 : Int32).toInt = 4) (fun k_194 => ?_) (fun k_194 => ?_)
                      · refine lv_iconst (v := 3) hx hb dX11_ahead_201 (by decide) ?_
                        refine va_put (D := g.1) (ci := 11) (v := .int (3 : Int32)) (ty := .int) (C := RX11) (T := TX11) (N := 46) hx hb hi_X11 (fun _ h => h) tyX11 tyX11_ok nmX11 hown hK.1 hP hD hS 0 rfl rfl 11 (by decide) hf_144 (fun _ h9 => h9) rfl (by decide +kernel) rfl rfl (Nat.le_of_ble_eq_true rfl) dX11_ahead_202 (fun H locs hP hD hS => ?_)
                        have hP : va_P g.1 vwCl (wX11 g a_m (uF I_m_128 0 11 (3 : Int32)) J_m) H := hP
                        have hD : va_D A (wX11 g a_m (uF I_m_128 0 11 (3 : Int32)) J_m) := hD
                        have hk_202 : KK [] [11, 12, 13, 14] I_m (uF I_m_128 0 11 (3 : Int32)) := KK.uf hk_128 (by decide)
                        refine lv_goto (tgt := 233) hx hb dX11_ahead_205 (by decide) ?_
                        refine hret 233 ls _ _ (uF I_m_128 0 11 (3 : Int32)) dX11_ahead_233 hS hP hD ?_
                        exact ⟨hk_202, (show AH I_m _ from (by unfold AH PS PL AD; show (((0 ≤ ((I_m_128 0 10)).toInt ∧ ((I_m_128 0 10)).toInt ≤ 900) ∧ 0 ≤ ((I_m_128 0 13)).toInt ∧ ((I_m_128 0 13)).toInt ≤ ((I_m_128 0 10)).toInt) ∧ (0 ≤ ((I_m_128 0 12)).toInt ∧ ((I_m_128 0 12)).toInt ≤ ((I_m_128 0 13)).toInt) ∧ (0 ≤ ((3 : Int32)).toInt ∧ ((3 : Int32)).toInt ≤ 4) ∧ (((3 : Int32)).toInt = 2 → ((I_m_128 0 12)).toInt < ((I_m_128 0 13)).toInt)) ∧ (I_m 0 13).toInt ≤ ((I_m_128 0 13)).toInt ∧ (((3 : Int32)).toInt = 0 ∨ (I_m 0 13).toInt < ((I_m_128 0 13)).toInt); refine ⟨⟨⟨?_, ?_⟩, ?_, ?_, ?_⟩, ?_, ?_⟩ <;> omega))⟩
                      · refine lv_iconst (v := 1) hx hb dX11_ahead_197 (by decide) ?_
                        refine lv_goto (tgt := 202) hx hb dX11_ahead_198 (by decide) ?_
                        refine va_put (D := g.1) (ci := 11) (v := .int (1 : Int32)) (ty := .int) (C := RX11) (T := TX11) (N := 46) hx hb hi_X11 (fun _ h => h) tyX11 tyX11_ok nmX11 hown hK.1 hP hD hS 0 rfl rfl 11 (by decide) hf_144 (fun _ h9 => h9) rfl (by decide +kernel) rfl rfl (Nat.le_of_ble_eq_true rfl) dX11_ahead_202 (fun H locs hP hD hS => ?_)
                        have hP : va_P g.1 vwCl (wX11 g a_m (uF I_m_128 0 11 (1 : Int32)) J_m) H := hP
                        have hD : va_D A (wX11 g a_m (uF I_m_128 0 11 (1 : Int32)) J_m) := hD
                        have hk_202 : KK [] [11, 12, 13, 14] I_m (uF I_m_128 0 11 (1 : Int32)) := KK.uf hk_128 (by decide)
                        refine lv_goto (tgt := 233) hx hb dX11_ahead_205 (by decide) ?_
                        refine hret 233 ls _ _ (uF I_m_128 0 11 (1 : Int32)) dX11_ahead_233 hS hP hD ?_
                        exact ⟨hk_202, (show AH I_m _ from (by unfold AH PS PL AD; show (((0 ≤ ((I_m_128 0 10)).toInt ∧ ((I_m_128 0 10)).toInt ≤ 900) ∧ 0 ≤ ((I_m_128 0 13)).toInt ∧ ((I_m_128 0 13)).toInt ≤ ((I_m_128 0 10)).toInt) ∧ (0 ≤ ((I_m_128 0 12)).toInt ∧ ((I_m_128 0 12)).toInt ≤ ((I_m_128 0 13)).toInt) ∧ (0 ≤ ((1 : Int32)).toInt ∧ ((1 : Int32)).toInt ≤ 4) ∧ (((1 : Int32)).toInt = 2 → ((I_m_128 0 12)).toInt < ((I_m_128 0 13)).toInt)) ∧ (I_m 0 13).toInt ≤ ((I_m_128 0 13)).toInt ∧ (((1 : Int32)).toInt = 0 ∨ (I_m 0 13).toInt < ((I_m_128 0 13)).toInt); refine ⟨⟨⟨?_, ?_⟩, ?_, ?_, ?_⟩, ?_, ?_⟩ <;> omega))⟩
                    · have q_139 := bP.t p_r9 b_139
                      refine lv_aload_n hx hb dX11_ahead_142 rfl (lv_at hl 1 rfl) ?_
                      refine lv_ldc hx hb hown hc_153 dX11_ahead_143 ?_
                      refine lv_bipush (v := 10) hx hb dX11_ahead_145 (by decide) ?_
                      refine lv_aload_n hx hb dX11_ahead_147 rfl (lv_at hl 1 rfl) ?_
                      refine va_get (D := g.1) (ci := 11) (v := .int (I_m_128 0 14)) (C := RX11) (T := TX11) (N := 46) hx hb hi_X11 (fun _ h => h) hown hK.1 hP 0 rfl rfl 14 (by decide) hf_141 (fun _ h9 => h9) rfl dX11_ahead_148 ?_
                      refine r_imul hx hb dX11_ahead_151 (by decide : (10 : Int32).toInt = 10) rfl (fun x11 e_x11 t_x11 => ?_)
                      try have t_x11 := t_x11 (by omega)
                      refine lv_aload_n hx hb dX11_ahead_152 rfl (lv_at hl 1 rfl) ?_
                      refine lv_aload_n hx hb dX11_ahead_153 rfl (lv_at hl 1 rfl) ?_
                      refine va_get (D := g.1) (ci := 11) (v := .int (I_m_128 0 13)) (C := RX11) (T := TX11) (N := 46) hx hb hi_X11 (fun _ h => h) hown hK.1 hP 0 rfl rfl 13 (by decide) hf_131 (fun _ h9 => h9) rfl dX11_ahead_154 ?_
                      refine PurI.cv (As := [.int (I_m_128 0 13)]) (kX11_byteAt l g a_m I_m_128 J_m (I_m_128 0 13) (show ((I_m_128 0 10)).toInt ≤ 900 from (by omega)) (by omega)) fx (gUV (uT _) u_526 u_527 u_528 u_5 u_529) rfl hdX11_byteAt ⟨Nat.le_of_ble_eq_true rfl, Nat.le_of_ble_eq_true rfl⟩ hK hP [0, 1, 2, 3, 4, 5, 6, 7, 8, 9, 10, 11, 12, 13, 14, 15, 16, 17, 18, 19, 20, 21, 22] rfl rfl rfl rfl rfl hl.1 (Nat.le_of_ble_eq_true rfl) dX11_ahead_157 (fun r12 p_r12 => ?_)
                      have hb157 := p_r12
                      refine r_iadd hx hb dX11_ahead_160 rfl rfl (fun x13 e_x13 t_x13 => ?_)
                      try have t_x13 := t_x13 (by omega)
                      refine lv_bipush (v := 48) hx hb dX11_ahead_161 (by decide) ?_
                      refine r_isub hx hb dX11_ahead_163 rfl (by decide : (48 : Int32).toInt = 48) (fun x14 e_x14 t_x14 => ?_)
                      try have t_x14 := t_x14 (by omega)
                      refine va_mmin hx hb (hml.trans hl.1.symm) hown (hts _ (uT _ _ u_522)) (hts _ (uT _ _ u_523)) (hts _ (uT _ _ u_524)) (hts _ (uT _ _ u_525)) (Nat.le_of_ble_eq_true rfl) (Nat.le_of_ble_eq_true rfl) (Nat.zero_le _) (Nat.zero_le _) dX11_ahead_164 ?_
                      refine q_nm (fun x15 e_x15 => ?_)
                      have t_x15 := t_min e_x15 (by decide : (100000 : Int32).toInt = 100000) rfl
                      refine va_put (D := g.1) (ci := 11) (v := .int x15) (ty := .int) (C := RX11) (T := TX11) (N := 46) hx hb hi_X11 (fun _ h => h) tyX11 tyX11_ok nmX11 hown hK.1 hP hD hS 0 rfl rfl 14 (by decide) hf_141 (fun _ h9 => h9) rfl (by decide +kernel) rfl rfl (Nat.le_of_ble_eq_true rfl) dX11_ahead_167 (fun H locs hP hD hS => ?_)
                      have hP : va_P g.1 vwCl (wX11 g a_m (uF I_m_128 0 14 x15) J_m) H := hP
                      have hD : va_D A (wX11 g a_m (uF I_m_128 0 14 x15) J_m) := hD
                      have hk_167 : KK [] [11, 12, 13, 14] I_m (uF I_m_128 0 14 x15) := KK.uf hk_128 (by decide)
                      refine lv_aload_n hx hb dX11_ahead_170 rfl (lv_at hl 1 rfl) ?_
                      refine lv_dup hx hb dX11_ahead_171 rfl ?_
                      refine va_get (D := g.1) (ci := 11) (v := .int (I_m_128 0 13)) (C := RX11) (T := TX11) (N := 46) hx hb hi_X11 (fun _ h => h) hown hK.1 hP 0 rfl rfl 13 (by decide) hf_131 (fun _ h9 => h9) rfl dX11_ahead_172 ?_
                      refine lv_iconst (v := 1) hx hb dX11_ahead_175 (by decide) ?_
                      refine r_iadd hx hb dX11_ahead_176 rfl (by decide : (1 : Int32).toInt = 1) (fun x16 e_x16 t_x16 => ?_)
                      try have t_x16 := t_x16 (by omega)
                      refine va_put (D := g.1) (ci := 11) (v := .int x16) (ty := .int) (C := RX11) (T := TX11) (N := 46) hx hb hi_X11 (fun _ h => h) tyX11 tyX11_ok nmX11 hown hK.1 hP hD hS 0 rfl rfl 13 (by decide) hf_131 (fun _ h9 => h9) rfl (by decide +kernel) rfl rfl (Nat.le_of_ble_eq_true rfl) dX11_ahead_177 (fun H locs hP hD hS => ?_)
                      have hP : va_P g.1 vwCl (wX11 g a_m (uF (uF I_m_128 0 14 x15) 0 13 x16) J_m) H := hP
                      have hD : va_D A (wX11 g a_m (uF (uF I_m_128 0 14 x15) 0 13 x16) J_m) := hD
                      have hk_177 : KK [] [11, 12, 13, 14] I_m (uF (uF I_m_128 0 14 x15) 0 13 x16) := KK.uf hk_167 (by decide)
                      refine lv_goto (tgt := 128) hx hb dX11_ahead_180 (by decide) ?_
                      exact ih_128 (uF (uF I_m_128 0 14 x15) 0 13 x16) hk_177 (show (I_m 0 13).toInt ≤ ((I_m_128 0 12)).toInt ∧ ((I_m_128 0 12)).toInt ≤ (x16).toInt ∧ (x16).toInt ≤ (I_m 0 10).toInt from (by omega)) (Or.inl (show ((I_m_128 0 12)).toInt < (x16).toInt from (by omega))) (show (I_m 0 10).toInt + 1 - (x16).toInt < _ from (by omega)) _ _ hP hD hS ls hl
                exact L128 (((I_m 0 10).toInt + 1 - ((I_m_0 0 13)).toInt) + 1).toNat (uF (uF (uF I_m_0 0 12 (I_m_0 0 13)) 0 14 r4) 0 14 (0 : Int32)) hk_125 (show (I_m 0 13).toInt ≤ ((I_m_0 0 13)).toInt ∧ ((I_m_0 0 13)).toInt ≤ ((I_m_0 0 13)).toInt ∧ ((I_m_0 0 13)).toInt ≤ (I_m 0 10).toInt from (by omega)) (Or.inr ⟨rfl, (show ((I_m_0 0 13)).toInt < (I_m 0 10).toInt from (by rcases p_r4 with q | q; omega; exfalso; omega)), (by rcases p_r4 with q | q; rw [q.2.1] at q_120; exact q_120; exfalso; omega)⟩) (show (I_m 0 10).toInt + 1 - ((I_m_0 0 13)).toInt < _ from (by omega)) _ _ hP hD hS ls hl
            · have q_78 := bP.t p_r5 b_78
              have L81 : ∀ (nn : Nat) (I_m_81 : Nat → Nat → Int32), (hk_81 : KK [] [11, 12, 13, 14] I_m I_m_81) → (hv_81 : (I_m 0 13).toInt ≤ (I_m_81 0 12).toInt ∧ (I_m_81 0 12).toInt ≤ (I_m_81 0 13).toInt ∧ (I_m_81 0 13).toInt ≤ (I_m 0 10).toInt) → (hf_81 : (I_m_81 0 12).toInt < (I_m_81 0 13).toInt ∨ ((I_m_81 0 12).toInt = (I_m_81 0 13).toInt ∧ (I_m_81 0 13).toInt < (I_m 0 10).toInt ∧ 97 ≤ (I_m_81 6 (I_m_81 0 13).toNatClampNeg &&& 255).toInt ∧ (I_m_81 6 (I_m_81 0 13).toNatClampNeg &&& 255).toInt ≤ 122)) → (((I_m 0 10).toInt + 1 - ((I_m_81 0 13)).toInt) < (nn : Int)) → ∀ (H : Heap) (locs : List Loc), va_P g.1 vwCl (wX11 g a_m I_m_81 J_m) H → va_D A (wX11 g a_m I_m_81 J_m) → va_S A s.heap H locs → ∀ ls : Array Slot, lv_has ls 2 [(1, .int r4), (0, .ref (a_m 0))] → W p l e (rm 1) s m args below meth c H locs 0 0 Q (F0 m 81 ls []) := by
                intro n_81
                induction n_81 with
                | zero =>
                  intro I_m_81 hk_81 hv_81 hf_81 hms_81 H locs hP hD hS ls hl
                  exfalso; omega
                | succ n_81 ih_81 =>
                  intro I_m_81 hk_81 hv_81 hf_81 hms_81 H locs hP hD hS ls hl
                  have hz81 : (I_m_81 0 10).toInt = (I_m 0 10).toInt := congrArg Int32.toInt (hk_81.num 10 (by decide))
                  refine lv_aload_n hx hb dX11_ahead_81 rfl (lv_at hl 1 rfl) ?_
                  refine lv_aload_n hx hb dX11_ahead_82 rfl (lv_at hl 1 rfl) ?_
                  refine va_get (D := g.1) (ci := 11) (v := .int (I_m_81 0 13)) (C := RX11) (T := TX11) (N := 46) hx hb hi_X11 (fun _ h => h) hown hK.1 hP 0 rfl rfl 13 (by decide) hf_131 (fun _ h9 => h9) rfl dX11_ahead_83 ?_
                  refine PurI.cv (As := [.int (I_m_81 0 13)]) (kX11_byteAt l g a_m I_m_81 J_m (I_m_81 0 13) (show ((I_m_81 0 10)).toInt ≤ 900 from (by omega)) (by omega)) fx (gUV (uT _) u_526 u_527 u_528 u_5 u_529) rfl hdX11_byteAt ⟨Nat.le_of_ble_eq_true rfl, Nat.le_of_ble_eq_true rfl⟩ hK hP [0, 1, 2, 3, 4, 5, 6, 7, 8, 9, 10, 11, 12, 13, 14, 15, 16, 17, 18, 19, 20, 21, 22] rfl rfl rfl rfl rfl hl.1 (Nat.le_of_ble_eq_true rfl) dX11_ahead_86 (fun r17 p_r17 => ?_)
                  have hb86 := p_r17
                  refine PurI.cs (C := RX11) (As := [.int r17]) (kX11_isSmall l g r17) fx (gUS (uT _) u_530 u_531 u_5 u_532) rfl hdX11_isSmall ⟨Nat.le_of_ble_eq_true rfl, Nat.le_of_ble_eq_true rfl⟩ hK hP [] rfl rfl rfl hl.1 (Nat.le_of_ble_eq_true rfl) dX11_ahead_89 (fun r18 p_r18 => ?_)
                  refine q_if_eq (tgt := 108) hx hb dX11_ahead_92 (by decide) rfl (fun b_92 k_92 => ?_) (fun b_92 k_92 => ?_)
                  · have q_92 := bP.f p_r18 b_92
                    have hnf : ((I_m_81 0 12)).toInt < ((I_m_81 0 13)).toInt := (by rcases hf_81 with q | q; exact q; exfalso; rcases p_r17 with w | w; rw [w.2.1] at q_92; exact q_92 ⟨by omega, by omega⟩; omega)
                    refine lv_aload_n hx hb dX11_ahead_108 rfl (lv_at hl 1 rfl) ?_
                    refine lv_iconst (v := 2) hx hb dX11_ahead_109 (by decide) ?_
                    refine va_put (D := g.1) (ci := 11) (v := .int (2 : Int32)) (ty := .int) (C := RX11) (T := TX11) (N := 46) hx hb hi_X11 (fun _ h => h) tyX11 tyX11_ok nmX11 hown hK.1 hP hD hS 0 rfl rfl 11 (by decide) hf_144 (fun _ h9 => h9) rfl (by decide +kernel) rfl rfl (Nat.le_of_ble_eq_true rfl) dX11_ahead_110 (fun H locs hP hD hS => ?_)
                    have hP : va_P g.1 vwCl (wX11 g a_m (uF I_m_81 0 11 (2 : Int32)) J_m) H := hP
                    have hD : va_D A (wX11 g a_m (uF I_m_81 0 11 (2 : Int32)) J_m) := hD
                    have hk_110 : KK [] [11, 12, 13, 14] I_m (uF I_m_81 0 11 (2 : Int32)) := KK.uf hk_81 (by decide)
                    refine lv_goto (tgt := 233) hx hb dX11_ahead_113 (by decide) ?_
                    refine hret 233 ls _ _ (uF I_m_81 0 11 (2 : Int32)) dX11_ahead_233 hS hP hD ?_
                    exact ⟨hk_110, (show AH I_m _ from (by unfold AH PS PL AD; show (((0 ≤ ((I_m_81 0 10)).toInt ∧ ((I_m_81 0 10)).toInt ≤ 900) ∧ 0 ≤ ((I_m_81 0 13)).toInt ∧ ((I_m_81 0 13)).toInt ≤ ((I_m_81 0 10)).toInt) ∧ (0 ≤ ((I_m_81 0 12)).toInt ∧ ((I_m_81 0 12)).toInt ≤ ((I_m_81 0 13)).toInt) ∧ (0 ≤ ((2 : Int32)).toInt ∧ ((2 : Int32)).toInt ≤ 4) ∧ (((2 : Int32)).toInt = 2 → ((I_m_81 0 12)).toInt < ((I_m_81 0 13)).toInt)) ∧ (I_m 0 13).toInt ≤ ((I_m_81 0 13)).toInt ∧ (((2 : Int32)).toInt = 0 ∨ (I_m 0 13).toInt < ((I_m_81 0 13)).toInt); refine ⟨⟨⟨?_, ?_⟩, ?_, ?_, ?_⟩, ?_, ?_⟩ <;> omega))⟩
                  · have q_92 := bP.t p_r18 b_92
                    refine lv_aload_n hx hb dX11_ahead_95 rfl (lv_at hl 1 rfl) ?_
                    refine lv_dup hx hb dX11_ahead_96 rfl ?_
                    refine va_get (D := g.1) (ci := 11) (v := .int (I_m_81 0 13)) (C := RX11) (T := TX11) (N := 46) hx hb hi_X11 (fun _ h => h) hown hK.1 hP 0 rfl rfl 13 (by decide) hf_131 (fun _ h9 => h9) rfl dX11_ahead_97 ?_
                    refine lv_iconst (v := 1) hx hb dX11_ahead_100 (by decide) ?_
                    refine r_iadd hx hb dX11_ahead_101 rfl (by decide : (1 : Int32).toInt = 1) (fun x19 e_x19 t_x19 => ?_)
                    try have t_x19 := t_x19 (by omega)
                    refine va_put (D := g.1) (ci := 11) (v := .int x19) (ty := .int) (C := RX11) (T := TX11) (N := 46) hx hb hi_X11 (fun _ h => h) tyX11 tyX11_ok nmX11 hown hK.1 hP hD hS 0 rfl rfl 13 (by decide) hf_131 (fun _ h9 => h9) rfl (by decide +kernel) rfl rfl (Nat.le_of_ble_eq_true rfl) dX11_ahead_102 (fun H locs hP hD hS => ?_)
                    have hP : va_P g.1 vwCl (wX11 g a_m (uF I_m_81 0 13 x19) J_m) H := hP
                    have hD : va_D A (wX11 g a_m (uF I_m_81 0 13 x19) J_m) := hD
                    have hk_102 : KK [] [11, 12, 13, 14] I_m (uF I_m_81 0 13 x19) := KK.uf hk_81 (by decide)
                    refine lv_goto (tgt := 81) hx hb dX11_ahead_105 (by decide) ?_
                    exact ih_81 (uF I_m_81 0 13 x19) hk_102 (show (I_m 0 13).toInt ≤ ((I_m_81 0 12)).toInt ∧ ((I_m_81 0 12)).toInt ≤ (x19).toInt ∧ (x19).toInt ≤ (I_m 0 10).toInt from (by omega)) (Or.inl (show ((I_m_81 0 12)).toInt < (x19).toInt from (by omega))) (show (I_m 0 10).toInt + 1 - (x19).toInt < _ from (by omega)) _ _ hP hD hS ls hl
              exact L81 (((I_m 0 10).toInt + 1 - ((I_m_0 0 13)).toInt) + 1).toNat (uF (uF I_m_0 0 12 (I_m_0 0 13)) 0 14 r4) hk_58 (show (I_m 0 13).toInt ≤ ((I_m_0 0 13)).toInt ∧ ((I_m_0 0 13)).toInt ≤ ((I_m_0 0 13)).toInt ∧ ((I_m_0 0 13)).toInt ≤ (I_m 0 10).toInt from (by omega)) (Or.inr ⟨rfl, (show ((I_m_0 0 13)).toInt < (I_m 0 10).toInt from (by rcases p_r4 with q | q; omega; exfalso; omega)), (by rcases p_r4 with q | q; rw [q.2.1] at q_78; exact q_78; exfalso; omega)⟩) (show (I_m 0 10).toInt + 1 - ((I_m_0 0 13)).toInt < _ from (by omega)) _ _ hP hD hS ls hl
          · refine lv_aload_n hx hb dX11_ahead_66 rfl (lv_at hl 1 rfl) ?_
            refine lv_iconst (v := 0) hx hb dX11_ahead_67 (by decide) ?_
            refine va_put (D := g.1) (ci := 11) (v := .int (0 : Int32)) (ty := .int) (C := RX11) (T := TX11) (N := 46) hx hb hi_X11 (fun _ h => h) tyX11 tyX11_ok nmX11 hown hK.1 hP hD hS 0 rfl rfl 11 (by decide) hf_144 (fun _ h9 => h9) rfl (by decide +kernel) rfl rfl (Nat.le_of_ble_eq_true rfl) dX11_ahead_68 (fun H locs hP hD hS => ?_)
            have hP : va_P g.1 vwCl (wX11 g a_m (uF (uF (uF I_m_0 0 12 (I_m_0 0 13)) 0 14 r4) 0 11 (0 : Int32)) J_m) H := hP
            have hD : va_D A (wX11 g a_m (uF (uF (uF I_m_0 0 12 (I_m_0 0 13)) 0 14 r4) 0 11 (0 : Int32)) J_m) := hD
            have hk_68 : KK [] [11, 12, 13, 14] I_m (uF (uF (uF I_m_0 0 12 (I_m_0 0 13)) 0 14 r4) 0 11 (0 : Int32)) := KK.uf hk_58 (by decide)
            refine lv_goto (tgt := 233) hx hb dX11_ahead_71 (by decide) ?_
            refine hret 233 ls _ _ (uF (uF (uF I_m_0 0 12 (I_m_0 0 13)) 0 14 r4) 0 11 (0 : Int32)) dX11_ahead_233 hS hP hD ?_
            exact ⟨hk_68, (show AH I_m _ from (by unfold AH PS PL AD; show (((0 ≤ ((I_m_0 0 10)).toInt ∧ ((I_m_0 0 10)).toInt ≤ 900) ∧ 0 ≤ ((I_m_0 0 13)).toInt ∧ ((I_m_0 0 13)).toInt ≤ ((I_m_0 0 10)).toInt) ∧ (0 ≤ ((I_m_0 0 13)).toInt ∧ ((I_m_0 0 13)).toInt ≤ ((I_m_0 0 13)).toInt) ∧ (0 ≤ ((0 : Int32)).toInt ∧ ((0 : Int32)).toInt ≤ 4) ∧ (((0 : Int32)).toInt = 2 → ((I_m_0 0 13)).toInt < ((I_m_0 0 13)).toInt)) ∧ (I_m 0 13).toInt ≤ ((I_m_0 0 13)).toInt ∧ (((0 : Int32)).toInt = 0 ∨ (I_m 0 13).toInt < ((I_m_0 0 13)).toInt); refine ⟨⟨⟨?_, ?_⟩, ?_, ?_, ?_⟩, ?_, ?_⟩ <;> omega))⟩
        · refine lv_aload_n hx hb dX11_ahead_26 rfl (lv_at hl 0 rfl) ?_
          refine lv_dup hx hb dX11_ahead_27 rfl ?_
          refine va_get (D := g.1) (ci := 11) (v := .int (I_m_0 0 13)) (C := RX11) (T := TX11) (N := 46) hx hb hi_X11 (fun _ h => h) hown hK.1 hP 0 rfl rfl 13 (by decide) hf_131 (fun _ h9 => h9) rfl dX11_ahead_28 ?_
          refine lv_iconst (v := 1) hx hb dX11_ahead_31 (by decide) ?_
          refine r_iadd hx hb dX11_ahead_32 rfl (by decide : (1 : Int32).toInt = 1) (fun x20 e_x20 t_x20 => ?_)
          try have t_x20 := t_x20 (by omega)
          refine va_put (D := g.1) (ci := 11) (v := .int x20) (ty := .int) (C := RX11) (T := TX11) (N := 46) hx hb hi_X11 (fun _ h => h) tyX11 tyX11_ok nmX11 hown hK.1 hP hD hS 0 rfl rfl 13 (by decide) hf_131 (fun _ h9 => h9) rfl (by decide +kernel) rfl rfl (Nat.le_of_ble_eq_true rfl) dX11_ahead_33 (fun H locs hP hD hS => ?_)
          have hP : va_P g.1 vwCl (wX11 g a_m (uF I_m_0 0 13 x20) J_m) H := hP
          have hD : va_D A (wX11 g a_m (uF I_m_0 0 13 x20) J_m) := hD
          have hk_33 : KK [] [11, 12, 13, 14] I_m (uF I_m_0 0 13 x20) := KK.uf hk_0 (by decide)
          refine lv_goto (tgt := 0) hx hb dX11_ahead_36 (by decide) ?_
          exact ih_0 (uF I_m_0 0 13 x20) hk_33 (show (I_m 0 13).toInt ≤ (x20).toInt ∧ (x20).toInt ≤ (I_m 0 10).toInt from (by omega)) (show (I_m 0 10).toInt + 1 - (x20).toInt < _ from (by omega)) _ _ hP hD hS ls hl
  exact L0 (((I_m 0 10).toInt + 1 - ((I_m 0 13)).toInt) + 1).toNat I_m (KK.rf I_m) (show (I_m 0 13).toInt ≤ ((I_m 0 13)).toInt ∧ ((I_m 0 13)).toInt ≤ (I_m 0 10).toInt from (by omega)) (show (I_m 0 10).toInt + 1 - ((I_m 0 13)).toInt < _ from (by omega)) _ _ hP hD hS ls hl

set_option maxHeartbeats 4000000 in
set_option maxRecDepth 100000 in
theorem kX11_isSign (l : Launch) (g : gG) (a_m : Nat → Nat) (I_m : Nat → Nat → Int32) (J_m : Nat → Nat → Int64) (ch : Int32)  : PurI l g yX11_isSign wsX11_isSign 0 [.ref (a_m 0), .int ch] (wX11 g a_m I_m J_m) (fun r => bP ((I_m 0 11).toInt = 4 ∧ (I_m 0 14).toInt = ch.toInt) (¬ ((I_m 0 11).toInt = 4 ∧ (I_m 0 14).toInt = ch.toInt)) r) := by
  refine PurI.sz (cc := cX11_isSign) (maxL := 2) (by decide) rfl (Nat.le_of_ble_eq_true rfl) (fun p e s m args below meth c Q ls fx hK hP hl hret => ?_)
  have hx := fx.1
  have hb := fx.2.1
  have hml := fx.2.2.1
  have hown := fx.2.2.2.1
  have hts := fx.2.2.2.2
  have hl : lv_has ls 2 [(0, .ref (a_m 0)), (1, .int ch)] := hl
  have hP : va_P g.1 vwCl (wX11 g a_m I_m J_m) s.heap := hP
  have hf_141 := hts _ (uT _ _ u_520)
  have hf_144 := hts _ (uT _ _ u_506)
  have hi_X11 : ∀ w ∈ wsX110, w.before args s = true := fun w h => hts w (uT _ w (u_wsX110 w h))
  have lm1 : (-1 : Int32).toInt = -1 := by decide
  have lm0 : (0 : Int32).toInt = 0 := by decide
  have lm2 : (1 : Int32).toInt = 1 := by decide
  have lq2 : (2 : Int32).toInt = 2 := by decide
  have lq3 : (3 : Int32).toInt = 3 := by decide
  have lq4 : (4 : Int32).toInt = 4 := by decide
  have lq5 : (5 : Int32).toInt = 5 := by decide
  have lq6 : (6 : Int32).toInt = 6 := by decide
  have lq7 : (7 : Int32).toInt = 7 := by decide
  refine lv_aload_n hx hb dX11_isSign_0 rfl (lv_at hl 0 rfl) ?_
  refine va_get (D := g.1) (ci := 11) (v := .int (I_m 0 11)) (C := RX11) (T := TX11) (N := 46) hx hb hi_X11 (fun _ h => h) hown hK.1 hP 0 rfl rfl 11 (by decide) hf_144 (fun _ h9 => h9) rfl dX11_isSign_1 ?_
  refine lv_iconst (v := 4) hx hb dX11_isSign_4 (by decide) ?_
  refine q_icmp_ne (tgt := 20) hx hb dX11_isSign_5 (by decide) rfl (by decide : (4 : Int32).toInt = 4) (fun k_5 => ?_) (fun k_5 => ?_)
  · refine lv_iconst (v := 0) hx hb dX11_isSign_20 (by decide) ?_
    exact hret 21 ls (0 : Int32) dX11_isSign_21 (Or.inl rfl) (by first | exact Or.inl ⟨rfl, by omega⟩ | exact Or.inr ⟨rfl, by omega⟩)
  · refine lv_aload_n hx hb dX11_isSign_8 rfl (lv_at hl 0 rfl) ?_
    refine va_get (D := g.1) (ci := 11) (v := .int (I_m 0 14)) (C := RX11) (T := TX11) (N := 46) hx hb hi_X11 (fun _ h => h) hown hK.1 hP 0 rfl rfl 14 (by decide) hf_141 (fun _ h9 => h9) rfl dX11_isSign_9 ?_
    refine lv_iload_n hx hb dX11_isSign_12 rfl (lv_at hl 1 rfl) ?_
    refine q_icmp_ne (tgt := 20) hx hb dX11_isSign_13 (by decide) rfl rfl (fun k_13 => ?_) (fun k_13 => ?_)
    · refine lv_iconst (v := 0) hx hb dX11_isSign_20 (by decide) ?_
      exact hret 21 ls (0 : Int32) dX11_isSign_21 (Or.inl rfl) (by first | exact Or.inl ⟨rfl, by omega⟩ | exact Or.inr ⟨rfl, by omega⟩)
    · refine lv_iconst (v := 1) hx hb dX11_isSign_16 (by decide) ?_
      refine lv_goto (tgt := 21) hx hb dX11_isSign_17 (by decide) ?_
      have lr : (1 : Int32).toInt = 1 := by decide
      exact hret 21 ls (1 : Int32) dX11_isSign_21 (Or.inr rfl) (by first | exact Or.inl ⟨rfl, by omega⟩ | exact Or.inr ⟨rfl, by omega⟩)

set_option maxHeartbeats 4000000 in
set_option maxRecDepth 100000 in
theorem kX11_inWords (l : Launch) (g : gG) (ad av : Nat → Nat) (a_m : Nat → Nat) (I_m : Nat → Nat → Int32) (J_m : Nat → Nat → Int64) (w : Nat) (h_w : w < 12) (h_p : PS I_m) (h_0 : w = 0) : PurIS l g ad av yX11_inWords wsX11_inWords 4 [.ref (a_m 0), .ref (ad w)] (wX11 g a_m I_m J_m) (fun r => -1 ≤ r.toInt ∧ r.toInt ≤ 67) := by
  refine PurIS.st (cc := cX11_inWords) (maxL := 7) (by decide) rfl (Nat.le_of_ble_eq_true rfl) (fun p e s m args below meth c Q ls fx hK hP hJ hl hret => ?_)
  have hx := fx.1
  have hb := fx.2.1
  have hml := fx.2.2.1
  have hown := fx.2.2.2.1
  have hts := fx.2.2.2.2
  have hl : lv_has ls 7 [(0, .ref (a_m 0)), (1, .ref (ad w))] := hl
  have hP : va_P g.1 vwCl (wX11 g a_m I_m J_m) s.heap := hP
  have hf_131 := hts _ (uT _ _ u_513)
  have hf_138 := hts _ (uT _ _ u_519)
  have hf_144 := hts _ (uT _ _ u_506)
  have hi_X11 : ∀ w ∈ wsX110, w.before args s = true := fun w h => hts w (uT _ w (u_wsX110 w h))
  have lm1 : (-1 : Int32).toInt = -1 := by decide
  have lm0 : (0 : Int32).toInt = 0 := by decide
  have lm2 : (1 : Int32).toInt = 1 := by decide
  have lq2 : (2 : Int32).toInt = 2 := by decide
  have lq3 : (3 : Int32).toInt = 3 := by decide
  have lq4 : (4 : Int32).toInt = 4 := by decide
  have lq5 : (5 : Int32).toInt = 5 := by decide
  have lq6 : (6 : Int32).toInt = 6 := by decide
  have lq7 : (7 : Int32).toInt = 7 := by decide
  have lq32 : (32 : Int32).toInt = 32 := by decide
  have lq10 : (10 : Int32).toInt = 10 := by decide
  have lq13200 : (13200 : Int32).toInt = 13200 := by decide
  have lq24 : (24 : Int32).toInt = 24 := by decide
  have lq63 : (63 : Int32).toInt = 63 := by decide
  have hlw : lenS.getD w 0 = 67 := by rw [h_0]; decide +kernel
  have hcw : (byS.getD w []).getD 66 0 = 32 := by rw [h_0]; decide +kernel
  have hp1 := h_p.1.1
  have hp2 := h_p.1.2
  have hp3 := h_p.2.1
  refine lv_aload_n hx hb dX11_inWords_0 rfl (lv_at hl 0 rfl) ?_
  refine va_get (D := g.1) (ci := 11) (v := .int (I_m 0 11)) (C := RX11) (T := TX11) (N := 46) hx hb hi_X11 (fun _ h => h) hown hK.1 hP 0 rfl rfl 11 (by decide) hf_144 (fun _ h9 => h9) rfl dX11_inWords_1 ?_
  refine lv_iconst (v := 2) hx hb dX11_inWords_4 (by decide) ?_
  refine q_icmp_eq (tgt := 10) hx hb dX11_inWords_5 (by decide) rfl (by decide : (2 : Int32).toInt = 2) (fun k_5 => ?_) (fun k_5 => ?_)
  · refine lv_iconst (v := 0) hx hb dX11_inWords_10 (by decide) ?_
    refine lv_istore_n (lv' := [(2, .int (0 : Int32)), (0, .ref (a_m 0)), (1, .ref (ad w))]) hx hb dX11_inWords_11 rfl hl (by decide) rfl (fun ls hl => ?_)
    refine lv_iconst (v := 1) hx hb dX11_inWords_12 (by decide) ?_
    refine lv_istore_n (lv' := [(3, .int (1 : Int32)), (2, .int (0 : Int32)), (0, .ref (a_m 0)), (1, .ref (ad w))]) hx hb dX11_inWords_13 rfl hl (by decide) rfl (fun ls hl => ?_)
    have L14 : ∀ (nn : Nat) (v2_14 : Int32) (v3_14 : Int32), (hv_14 : 0 ≤ v2_14.toInt ∧ v2_14.toInt < v3_14.toInt ∧ v3_14.toInt ≤ 67) → ((68 - v3_14.toInt) < (nn : Int)) → ∀ ls : Array Slot, lv_has ls 7 [(3, .int v3_14), (2, .int v2_14), (0, .ref (a_m 0)), (1, .ref (ad w))] → W p l e (rm 4) s m args below meth c s.heap [] 0 0 Q (F0 m 14 ls []) := by
      intro n_14
      induction n_14 with
      | zero =>
        intro v2_14 v3_14 hv_14 hms_14 ls hl
        exfalso; omega
      | succ n_14 ih_14 =>
        intro v2_14 v3_14 hv_14 hms_14 ls hl
        refine lv_iload_n hx hb dX11_inWords_14 rfl (lv_at hl 0 rfl) ?_
        refine lv_aload_n hx hb dX11_inWords_15 rfl (lv_at hl 3 rfl) ?_
        refine PurJ.cv (As := []) (kJ0_length_8abf5 l ad av w h_w) h_w fx (gUV (uT _) u_548 u_394 u_395 u_396 u_397) rfl hdJ0_length_8abf5 ⟨Nat.le_of_ble_eq_true rfl, Nat.le_of_ble_eq_true rfl⟩ hJ va_S.rf rfl rfl hl.1 (Nat.le_of_ble_eq_true rfl) dX11_inWords_16 (fun r1 p_r1 => ?_)
        have hl16 := p_r1
        rw [hlw] at hl16
        refine q_icmp_ge (tgt := 133) hx hb dX11_inWords_19 (by decide) rfl rfl (fun k_19 => ?_) (fun k_19 => ?_)
        · refine lv_iconst (v := -1) hx hb dX11_inWords_133 (by decide) ?_
          exact hret 134 ls (-1 : Int32) dX11_inWords_134 (by omega)
        · refine lv_iload_n hx hb dX11_inWords_22 rfl (lv_at hl 0 rfl) ?_
          refine lv_istore (lv' := [(4, .int v3_14), (3, .int v3_14), (2, .int v2_14), (0, .ref (a_m 0)), (1, .ref (ad w))]) hx hb dX11_inWords_23 hl (by decide) rfl (fun ls hl => ?_)
          have L25 : ∀ (nn : Nat) (v4_25 : Int32), (hy_25 : v3_14.toInt ≤ v4_25.toInt ∧ v4_25.toInt ≤ 66) → ((67 - v4_25.toInt) < (nn : Int)) → ∀ ls : Array Slot, lv_has ls 7 [(4, .int v4_25), (3, .int v3_14), (2, .int v2_14), (0, .ref (a_m 0)), (1, .ref (ad w))] → W p l e (rm 4) s m args below meth c s.heap [] 0 0 Q (F0 m 25 ls []) := by
            intro n_25
            induction n_25 with
            | zero =>
              intro v4_25 hy_25 hms_25 ls hl
              exfalso; omega
            | succ n_25 ih_25 =>
              intro v4_25 hy_25 hms_25 ls hl
              refine lv_aload_n hx hb dX11_inWords_25 rfl (lv_at hl 4 rfl) ?_
              refine lv_iload hx hb dX11_inWords_26 (lv_at hl 0 rfl) ?_
              refine PurJ.cv (As := [.int v4_25]) (kJ0_charAt_5068e l ad av w h_w v4_25 (by rw [hlw]; omega)) h_w fx (gUV (uT _) u_549 u_406 u_407 u_396 u_408) rfl hdJ0_charAt_5068e ⟨Nat.le_of_ble_eq_true rfl, Nat.le_of_ble_eq_true rfl⟩ hJ va_S.rf rfl rfl hl.1 (Nat.le_of_ble_eq_true rfl) dX11_inWords_28 (fun r2 p_r2 => ?_)
              refine lv_bipush (v := 32) hx hb dX11_inWords_31 (by decide) ?_
              refine q_icmp_eq (tgt := 42) hx hb dX11_inWords_33 (by decide) rfl (by decide : (32 : Int32).toInt = 32) (fun k_33 => ?_) (fun k_33 => ?_)
              · refine lv_iload hx hb dX11_inWords_42 (lv_at hl 0 rfl) ?_
                refine lv_iload_n hx hb dX11_inWords_44 rfl (lv_at hl 1 rfl) ?_
                refine r_isub hx hb dX11_inWords_45 rfl rfl (fun x3 e_x3 t_x3 => ?_)
                try have t_x3 := t_x3 (by omega)
                refine lv_aload_n hx hb dX11_inWords_46 rfl (lv_at hl 3 rfl) ?_
                refine va_get (D := g.1) (ci := 11) (v := .int (I_m 0 13)) (C := RX11) (T := TX11) (N := 46) hx hb hi_X11 (fun _ h => h) hown hK.1 hP 0 rfl rfl 13 (by decide) hf_131 (fun _ h9 => h9) rfl dX11_inWords_47 ?_
                refine lv_aload_n hx hb dX11_inWords_50 rfl (lv_at hl 3 rfl) ?_
                refine va_get (D := g.1) (ci := 11) (v := .int (I_m 0 12)) (C := RX11) (T := TX11) (N := 46) hx hb hi_X11 (fun _ h => h) hown hK.1 hP 0 rfl rfl 12 (by decide) hf_138 (fun _ h9 => h9) rfl dX11_inWords_51 ?_
                refine r_isub hx hb dX11_inWords_54 rfl rfl (fun x4 e_x4 t_x4 => ?_)
                try have t_x4 := t_x4 (by omega)
                refine q_icmp_ne (tgt := 62) hx hb dX11_inWords_55 (by decide) rfl rfl (fun k_55 => ?_) (fun k_55 => ?_)
                · refine lv_iconst (v := 0) hx hb dX11_inWords_62 (by decide) ?_
                  refine lv_istore (lv' := [(5, .int (0 : Int32)), (4, .int v4_25), (3, .int v3_14), (2, .int v2_14), (0, .ref (a_m 0)), (1, .ref (ad w))]) hx hb dX11_inWords_63 hl (by decide) rfl (fun ls hl => ?_)
                  refine lv_iload_n hx hb dX11_inWords_65 rfl (lv_at hl 2 rfl) ?_
                  refine lv_istore (lv' := [(6, .int v3_14), (5, .int (0 : Int32)), (4, .int v4_25), (3, .int v3_14), (2, .int v2_14), (0, .ref (a_m 0)), (1, .ref (ad w))]) hx hb dX11_inWords_66 hl (by decide) rfl (fun ls hl => ?_)
                  have L68 : ∀ (nn : Nat) (v5_68 : Int32) (v6_68 : Int32), (hx_68 : v3_14.toInt ≤ v6_68.toInt ∧ v6_68.toInt ≤ 67) → ((68 - v6_68.toInt) < (nn : Int)) → ∀ ls : Array Slot, lv_has ls 7 [(6, .int v6_68), (5, .int v5_68), (4, .int v4_25), (3, .int v3_14), (2, .int v2_14), (0, .ref (a_m 0)), (1, .ref (ad w))] → W p l e (rm 4) s m args below meth c s.heap [] 0 0 Q (F0 m 68 ls []) := by
                    intro n_68
                    induction n_68 with
                    | zero =>
                      intro v5_68 v6_68 hx_68 hms_68 ls hl
                      exfalso; omega
                    | succ n_68 ih_68 =>
                      intro v5_68 v6_68 hx_68 hms_68 ls hl
                      refine lv_iload hx hb dX11_inWords_68 (lv_at hl 0 rfl) ?_
                      refine lv_iload hx hb dX11_inWords_70 (lv_at hl 2 rfl) ?_
                      refine q_icmp_ge (tgt := 115) hx hb dX11_inWords_72 (by decide) rfl rfl (fun k_72 => ?_) (fun k_72 => ?_)
                      · refine lv_iload hx hb dX11_inWords_115 (lv_at hl 1 rfl) ?_
                        refine q_if_eq (tgt := 122) hx hb dX11_inWords_117 (by decide) rfl (fun b_117 k_117 => ?_) (fun b_117 k_117 => ?_)
                        · refine r_iinc (lv' := fun i5 => [(2, .int i5), (6, .int v6_68), (5, .int v5_68), (4, .int v4_25), (3, .int v3_14), (0, .ref (a_m 0)), (1, .ref (ad w))]) hx hb dX11_inWords_122 hl (k := 4) rfl (by decide) rfl (by decide) (fun _ => rfl) (fun i5 e_i5 t_i5 ls hl => ?_)
                          try have t_i5 := t_i5 (by omega)
                          refine lv_iload hx hb dX11_inWords_125 (lv_at hl 3 rfl) ?_
                          refine lv_iconst (v := 1) hx hb dX11_inWords_127 (by decide) ?_
                          refine r_iadd hx hb dX11_inWords_128 rfl (by decide : (1 : Int32).toInt = 1) (fun x6 e_x6 t_x6 => ?_)
                          try have t_x6 := t_x6 (by omega)
                          refine lv_istore_n (lv' := [(3, .int x6), (2, .int i5), (6, .int v6_68), (5, .int v5_68), (4, .int v4_25), (0, .ref (a_m 0)), (1, .ref (ad w))]) hx hb dX11_inWords_129 rfl hl (by decide) rfl (fun ls hl => ?_)
                          refine lv_goto (tgt := 14) hx hb dX11_inWords_130 (by decide) ?_
                          exact ih_14 i5 x6 (by omega) (by omega) ls (lv_sub hl [0, 1, 5, 6] rfl)
                        · refine lv_iload_n hx hb dX11_inWords_120 rfl (lv_at hl 4 rfl) ?_
                          exact hret 121 ls v2_14 dX11_inWords_121 (by omega)
                      · refine lv_iload hx hb dX11_inWords_75 (lv_at hl 1 rfl) ?_
                        refine q_if_eq (tgt := 115) hx hb dX11_inWords_77 (by decide) rfl (fun b_77 k_77 => ?_) (fun b_77 k_77 => ?_)
                        · refine lv_iload hx hb dX11_inWords_115 (lv_at hl 1 rfl) ?_
                          refine q_if_eq (tgt := 122) hx hb dX11_inWords_117 (by decide) rfl (fun b_117 k_117 => ?_) (fun b_117 k_117 => ?_)
                          · refine r_iinc (lv' := fun i7 => [(2, .int i7), (6, .int v6_68), (5, .int v5_68), (4, .int v4_25), (3, .int v3_14), (0, .ref (a_m 0)), (1, .ref (ad w))]) hx hb dX11_inWords_122 hl (k := 4) rfl (by decide) rfl (by decide) (fun _ => rfl) (fun i7 e_i7 t_i7 ls hl => ?_)
                            try have t_i7 := t_i7 (by omega)
                            refine lv_iload hx hb dX11_inWords_125 (lv_at hl 3 rfl) ?_
                            refine lv_iconst (v := 1) hx hb dX11_inWords_127 (by decide) ?_
                            refine r_iadd hx hb dX11_inWords_128 rfl (by decide : (1 : Int32).toInt = 1) (fun x8 e_x8 t_x8 => ?_)
                            try have t_x8 := t_x8 (by omega)
                            refine lv_istore_n (lv' := [(3, .int x8), (2, .int i7), (6, .int v6_68), (5, .int v5_68), (4, .int v4_25), (0, .ref (a_m 0)), (1, .ref (ad w))]) hx hb dX11_inWords_129 rfl hl (by decide) rfl (fun ls hl => ?_)
                            refine lv_goto (tgt := 14) hx hb dX11_inWords_130 (by decide) ?_
                            exact ih_14 i7 x8 (by omega) (by omega) ls (lv_sub hl [0, 1, 5, 6] rfl)
                          · refine lv_iload_n hx hb dX11_inWords_120 rfl (lv_at hl 4 rfl) ?_
                            exact hret 121 ls v2_14 dX11_inWords_121 (by omega)
                        · refine lv_aload_n hx hb dX11_inWords_80 rfl (lv_at hl 6 rfl) ?_
                          refine lv_iload hx hb dX11_inWords_81 (lv_at hl 0 rfl) ?_
                          refine PurJ.cv (As := [.int v6_68]) (kJ0_charAt_5068e l ad av w h_w v6_68 (by rw [hlw]; omega)) h_w fx (gUV (uT _) u_549 u_406 u_407 u_396 u_408) rfl hdJ0_charAt_5068e ⟨Nat.le_of_ble_eq_true rfl, Nat.le_of_ble_eq_true rfl⟩ hJ va_S.rf rfl rfl hl.1 (Nat.le_of_ble_eq_true rfl) dX11_inWords_83 (fun r9 p_r9 => ?_)
                          refine lv_aload_n hx hb dX11_inWords_86 rfl (lv_at hl 5 rfl) ?_
                          refine lv_aload_n hx hb dX11_inWords_87 rfl (lv_at hl 5 rfl) ?_
                          refine va_get (D := g.1) (ci := 11) (v := .int (I_m 0 12)) (C := RX11) (T := TX11) (N := 46) hx hb hi_X11 (fun _ h => h) hown hK.1 hP 0 rfl rfl 12 (by decide) hf_138 (fun _ h9 => h9) rfl dX11_inWords_88 ?_
                          refine lv_iload hx hb dX11_inWords_91 (lv_at hl 0 rfl) ?_
                          refine r_iadd hx hb dX11_inWords_93 rfl rfl (fun x10 e_x10 t_x10 => ?_)
                          try have t_x10 := t_x10 (by omega)
                          refine lv_iload_n hx hb dX11_inWords_94 rfl (lv_at hl 3 rfl) ?_
                          refine r_isub hx hb dX11_inWords_95 rfl rfl (fun x11 e_x11 t_x11 => ?_)
                          try have t_x11 := t_x11 (by omega)
                          refine PurI.cv (As := [.int x11]) (kX11_byteAt l g a_m I_m J_m x11 (by omega) (by omega)) fx (gUV (uT _) u_526 u_527 u_528 u_5 u_529) rfl hdX11_byteAt ⟨Nat.le_of_ble_eq_true rfl, Nat.le_of_ble_eq_true rfl⟩ hK hP [0, 1, 2, 3, 4, 5, 6, 7, 8, 9, 10, 11, 12, 13, 14, 15, 16, 17, 18, 19, 20, 21, 22] rfl rfl rfl rfl rfl hl.1 (Nat.le_of_ble_eq_true rfl) dX11_inWords_96 (fun r12 p_r12 => ?_)
                          refine q_icmp_ne (tgt := 106) hx hb dX11_inWords_99 (by decide) rfl rfl (fun k_99 => ?_) (fun k_99 => ?_)
                          · refine lv_iconst (v := 0) hx hb dX11_inWords_106 (by decide) ?_
                            refine lv_istore (lv' := [(5, .int (0 : Int32)), (6, .int v6_68), (4, .int v4_25), (3, .int v3_14), (2, .int v2_14), (0, .ref (a_m 0)), (1, .ref (ad w))]) hx hb dX11_inWords_107 hl (by decide) rfl (fun ls hl => ?_)
                            refine r_iinc (lv' := fun i13 => [(6, .int i13), (5, .int (0 : Int32)), (4, .int v4_25), (3, .int v3_14), (2, .int v2_14), (0, .ref (a_m 0)), (1, .ref (ad w))]) hx hb dX11_inWords_109 hl (k := 1) rfl (by decide) rfl (by decide) (fun _ => rfl) (fun i13 e_i13 t_i13 ls hl => ?_)
                            try have t_i13 := t_i13 (by omega)
                            refine lv_goto (tgt := 68) hx hb dX11_inWords_112 (by decide) ?_
                            exact ih_68 (0 : Int32) i13 (by omega) (by omega) ls hl
                          · refine lv_iconst (v := 1) hx hb dX11_inWords_102 (by decide) ?_
                            refine lv_goto (tgt := 107) hx hb dX11_inWords_103 (by decide) ?_
                            refine lv_istore (lv' := [(5, .int (1 : Int32)), (6, .int v6_68), (4, .int v4_25), (3, .int v3_14), (2, .int v2_14), (0, .ref (a_m 0)), (1, .ref (ad w))]) hx hb dX11_inWords_107 hl (by decide) rfl (fun ls hl => ?_)
                            refine r_iinc (lv' := fun i14 => [(6, .int i14), (5, .int (1 : Int32)), (4, .int v4_25), (3, .int v3_14), (2, .int v2_14), (0, .ref (a_m 0)), (1, .ref (ad w))]) hx hb dX11_inWords_109 hl (k := 1) rfl (by decide) rfl (by decide) (fun _ => rfl) (fun i14 e_i14 t_i14 ls hl => ?_)
                            try have t_i14 := t_i14 (by omega)
                            refine lv_goto (tgt := 68) hx hb dX11_inWords_112 (by decide) ?_
                            exact ih_68 (1 : Int32) i14 (by omega) (by omega) ls hl
                  exact L68 ((68 - v3_14.toInt) + 1).toNat (0 : Int32) v3_14 (by omega) (by omega) ls hl
                · refine lv_iconst (v := 1) hx hb dX11_inWords_58 (by decide) ?_
                  refine lv_goto (tgt := 63) hx hb dX11_inWords_59 (by decide) ?_
                  refine lv_istore (lv' := [(5, .int (1 : Int32)), (4, .int v4_25), (3, .int v3_14), (2, .int v2_14), (0, .ref (a_m 0)), (1, .ref (ad w))]) hx hb dX11_inWords_63 hl (by decide) rfl (fun ls hl => ?_)
                  refine lv_iload_n hx hb dX11_inWords_65 rfl (lv_at hl 2 rfl) ?_
                  refine lv_istore (lv' := [(6, .int v3_14), (5, .int (1 : Int32)), (4, .int v4_25), (3, .int v3_14), (2, .int v2_14), (0, .ref (a_m 0)), (1, .ref (ad w))]) hx hb dX11_inWords_66 hl (by decide) rfl (fun ls hl => ?_)
                  have L68 : ∀ (nn : Nat) (v5_68 : Int32) (v6_68 : Int32), (hx_68 : v3_14.toInt ≤ v6_68.toInt ∧ v6_68.toInt ≤ 67) → ((68 - v6_68.toInt) < (nn : Int)) → ∀ ls : Array Slot, lv_has ls 7 [(6, .int v6_68), (5, .int v5_68), (4, .int v4_25), (3, .int v3_14), (2, .int v2_14), (0, .ref (a_m 0)), (1, .ref (ad w))] → W p l e (rm 4) s m args below meth c s.heap [] 0 0 Q (F0 m 68 ls []) := by
                    intro n_68
                    induction n_68 with
                    | zero =>
                      intro v5_68 v6_68 hx_68 hms_68 ls hl
                      exfalso; omega
                    | succ n_68 ih_68 =>
                      intro v5_68 v6_68 hx_68 hms_68 ls hl
                      refine lv_iload hx hb dX11_inWords_68 (lv_at hl 0 rfl) ?_
                      refine lv_iload hx hb dX11_inWords_70 (lv_at hl 2 rfl) ?_
                      refine q_icmp_ge (tgt := 115) hx hb dX11_inWords_72 (by decide) rfl rfl (fun k_72 => ?_) (fun k_72 => ?_)
                      · refine lv_iload hx hb dX11_inWords_115 (lv_at hl 1 rfl) ?_
                        refine q_if_eq (tgt := 122) hx hb dX11_inWords_117 (by decide) rfl (fun b_117 k_117 => ?_) (fun b_117 k_117 => ?_)
                        · refine r_iinc (lv' := fun i15 => [(2, .int i15), (6, .int v6_68), (5, .int v5_68), (4, .int v4_25), (3, .int v3_14), (0, .ref (a_m 0)), (1, .ref (ad w))]) hx hb dX11_inWords_122 hl (k := 4) rfl (by decide) rfl (by decide) (fun _ => rfl) (fun i15 e_i15 t_i15 ls hl => ?_)
                          try have t_i15 := t_i15 (by omega)
                          refine lv_iload hx hb dX11_inWords_125 (lv_at hl 3 rfl) ?_
                          refine lv_iconst (v := 1) hx hb dX11_inWords_127 (by decide) ?_
                          refine r_iadd hx hb dX11_inWords_128 rfl (by decide : (1 : Int32).toInt = 1) (fun x16 e_x16 t_x16 => ?_)
                          try have t_x16 := t_x16 (by omega)
                          refine lv_istore_n (lv' := [(3, .int x16), (2, .int i15), (6, .int v6_68), (5, .int v5_68), (4, .int v4_25), (0, .ref (a_m 0)), (1, .ref (ad w))]) hx hb dX11_inWords_129 rfl hl (by decide) rfl (fun ls hl => ?_)
                          refine lv_goto (tgt := 14) hx hb dX11_inWords_130 (by decide) ?_
                          exact ih_14 i15 x16 (by omega) (by omega) ls (lv_sub hl [0, 1, 5, 6] rfl)
                        · refine lv_iload_n hx hb dX11_inWords_120 rfl (lv_at hl 4 rfl) ?_
                          exact hret 121 ls v2_14 dX11_inWords_121 (by omega)
                      · refine lv_iload hx hb dX11_inWords_75 (lv_at hl 1 rfl) ?_
                        refine q_if_eq (tgt := 115) hx hb dX11_inWords_77 (by decide) rfl (fun b_77 k_77 => ?_) (fun b_77 k_77 => ?_)
                        · refine lv_iload hx hb dX11_inWords_115 (lv_at hl 1 rfl) ?_
                          refine q_if_eq (tgt := 122) hx hb dX11_inWords_117 (by decide) rfl (fun b_117 k_117 => ?_) (fun b_117 k_117 => ?_)
                          · refine r_iinc (lv' := fun i17 => [(2, .int i17), (6, .int v6_68), (5, .int v5_68), (4, .int v4_25), (3, .int v3_14), (0, .ref (a_m 0)), (1, .ref (ad w))]) hx hb dX11_inWords_122 hl (k := 4) rfl (by decide) rfl (by decide) (fun _ => rfl) (fun i17 e_i17 t_i17 ls hl => ?_)
                            try have t_i17 := t_i17 (by omega)
                            refine lv_iload hx hb dX11_inWords_125 (lv_at hl 3 rfl) ?_
                            refine lv_iconst (v := 1) hx hb dX11_inWords_127 (by decide) ?_
                            refine r_iadd hx hb dX11_inWords_128 rfl (by decide : (1 : Int32).toInt = 1) (fun x18 e_x18 t_x18 => ?_)
                            try have t_x18 := t_x18 (by omega)
                            refine lv_istore_n (lv' := [(3, .int x18), (2, .int i17), (6, .int v6_68), (5, .int v5_68), (4, .int v4_25), (0, .ref (a_m 0)), (1, .ref (ad w))]) hx hb dX11_inWords_129 rfl hl (by decide) rfl (fun ls hl => ?_)
                            refine lv_goto (tgt := 14) hx hb dX11_inWords_130 (by decide) ?_
                            exact ih_14 i17 x18 (by omega) (by omega) ls (lv_sub hl [0, 1, 5, 6] rfl)
                          · refine lv_iload_n hx hb dX11_inWords_120 rfl (lv_at hl 4 rfl) ?_
                            exact hret 121 ls v2_14 dX11_inWords_121 (by omega)
                        · refine lv_aload_n hx hb dX11_inWords_80 rfl (lv_at hl 6 rfl) ?_
                          refine lv_iload hx hb dX11_inWords_81 (lv_at hl 0 rfl) ?_
                          refine PurJ.cv (As := [.int v6_68]) (kJ0_charAt_5068e l ad av w h_w v6_68 (by rw [hlw]; omega)) h_w fx (gUV (uT _) u_549 u_406 u_407 u_396 u_408) rfl hdJ0_charAt_5068e ⟨Nat.le_of_ble_eq_true rfl, Nat.le_of_ble_eq_true rfl⟩ hJ va_S.rf rfl rfl hl.1 (Nat.le_of_ble_eq_true rfl) dX11_inWords_83 (fun r19 p_r19 => ?_)
                          refine lv_aload_n hx hb dX11_inWords_86 rfl (lv_at hl 5 rfl) ?_
                          refine lv_aload_n hx hb dX11_inWords_87 rfl (lv_at hl 5 rfl) ?_
                          refine va_get (D := g.1) (ci := 11) (v := .int (I_m 0 12)) (C := RX11) (T := TX11) (N := 46) hx hb hi_X11 (fun _ h => h) hown hK.1 hP 0 rfl rfl 12 (by decide) hf_138 (fun _ h9 => h9) rfl dX11_inWords_88 ?_
                          refine lv_iload hx hb dX11_inWords_91 (lv_at hl 0 rfl) ?_
                          refine r_iadd hx hb dX11_inWords_93 rfl rfl (fun x20 e_x20 t_x20 => ?_)
                          try have t_x20 := t_x20 (by omega)
                          refine lv_iload_n hx hb dX11_inWords_94 rfl (lv_at hl 3 rfl) ?_
                          refine r_isub hx hb dX11_inWords_95 rfl rfl (fun x21 e_x21 t_x21 => ?_)
                          try have t_x21 := t_x21 (by omega)
                          refine PurI.cv (As := [.int x21]) (kX11_byteAt l g a_m I_m J_m x21 (by omega) (by omega)) fx (gUV (uT _) u_526 u_527 u_528 u_5 u_529) rfl hdX11_byteAt ⟨Nat.le_of_ble_eq_true rfl, Nat.le_of_ble_eq_true rfl⟩ hK hP [0, 1, 2, 3, 4, 5, 6, 7, 8, 9, 10, 11, 12, 13, 14, 15, 16, 17, 18, 19, 20, 21, 22] rfl rfl rfl rfl rfl hl.1 (Nat.le_of_ble_eq_true rfl) dX11_inWords_96 (fun r22 p_r22 => ?_)
                          refine q_icmp_ne (tgt := 106) hx hb dX11_inWords_99 (by decide) rfl rfl (fun k_99 => ?_) (fun k_99 => ?_)
                          · refine lv_iconst (v := 0) hx hb dX11_inWords_106 (by decide) ?_
                            refine lv_istore (lv' := [(5, .int (0 : Int32)), (6, .int v6_68), (4, .int v4_25), (3, .int v3_14), (2, .int v2_14), (0, .ref (a_m 0)), (1, .ref (ad w))]) hx hb dX11_inWords_107 hl (by decide) rfl (fun ls hl => ?_)
                            refine r_iinc (lv' := fun i23 => [(6, .int i23), (5, .int (0 : Int32)), (4, .int v4_25), (3, .int v3_14), (2, .int v2_14), (0, .ref (a_m 0)), (1, .ref (ad w))]) hx hb dX11_inWords_109 hl (k := 1) rfl (by decide) rfl (by decide) (fun _ => rfl) (fun i23 e_i23 t_i23 ls hl => ?_)
                            try have t_i23 := t_i23 (by omega)
                            refine lv_goto (tgt := 68) hx hb dX11_inWords_112 (by decide) ?_
                            exact ih_68 (0 : Int32) i23 (by omega) (by omega) ls hl
                          · refine lv_iconst (v := 1) hx hb dX11_inWords_102 (by decide) ?_
                            refine lv_goto (tgt := 107) hx hb dX11_inWords_103 (by decide) ?_
                            refine lv_istore (lv' := [(5, .int (1 : Int32)), (6, .int v6_68), (4, .int v4_25), (3, .int v3_14), (2, .int v2_14), (0, .ref (a_m 0)), (1, .ref (ad w))]) hx hb dX11_inWords_107 hl (by decide) rfl (fun ls hl => ?_)
                            refine r_iinc (lv' := fun i24 => [(6, .int i24), (5, .int (1 : Int32)), (4, .int v4_25), (3, .int v3_14), (2, .int v2_14), (0, .ref (a_m 0)), (1, .ref (ad w))]) hx hb dX11_inWords_109 hl (k := 1) rfl (by decide) rfl (by decide) (fun _ => rfl) (fun i24 e_i24 t_i24 ls hl => ?_)
                            try have t_i24 := t_i24 (by omega)
                            refine lv_goto (tgt := 68) hx hb dX11_inWords_112 (by decide) ?_
                            exact ih_68 (1 : Int32) i24 (by omega) (by omega) ls hl
                  exact L68 ((68 - v3_14.toInt) + 1).toNat (1 : Int32) v3_14 (by omega) (by omega) ls hl
              · have hne : v4_25.toInt ≠ 66 := fun q => k_33 (by rw [p_r2, show v4_25.toNatClampNeg = 66 from (by have := t_cl (i := v4_25) q (by decide); omega), hcw]; decide)
                refine r_iinc (lv' := fun i25 => [(4, .int i25), (3, .int v3_14), (2, .int v2_14), (0, .ref (a_m 0)), (1, .ref (ad w))]) hx hb dX11_inWords_36 hl (k := 0) rfl (by decide) rfl (by decide) (fun _ => rfl) (fun i25 e_i25 t_i25 ls hl => ?_)
                try have t_i25 := t_i25 (by omega)
                refine lv_goto (tgt := 25) hx hb dX11_inWords_39 (by decide) ?_
                exact ih_25 i25 (by omega) (by omega) ls hl
          exact L25 ((67 - v3_14.toInt) + 1).toNat v3_14 (by omega) (by omega) ls hl
    exact L14 ((68 - (1 : Int32).toInt) + 1).toNat (0 : Int32) (1 : Int32) (by omega) (by omega) ls hl
  · refine lv_iconst (v := -1) hx hb dX11_inWords_8 (by decide) ?_
    exact hret 9 ls (-1 : Int32) dX11_inWords_9 (by omega)

set_option maxHeartbeats 4000000 in
set_option maxRecDepth 100000 in
theorem kX11_fails (l : Launch) (g : gG) (a_m : Nat → Nat) (I_m : Nat → Nat → Int32) (J_m : Nat → Nat → Int64) (kind : Int32)  : EffI l g yX11_fails wsX11_fails 0 [.ref (a_m 0), .int kind] (wX11 g a_m I_m J_m) (fun (u : (Nat → Nat → Int32)) => wX11 g a_m u J_m) (fun r (u : (Nat → Nat → Int32)) => KK [] [16, 17] I_m (u) ∧ r = 0) := by
  refine EffI.sz (cc := cX11_fails) (maxL := 2) (by decide) rfl (Nat.le_of_ble_eq_true rfl) (fun p e s m args below meth c A Q ls fx hK hP hD hA hS hl hret => ?_)
  have hx := fx.1
  have hb := fx.2.1
  have hml := fx.2.2.1
  have hown := fx.2.2.2.1
  have hts := fx.2.2.2.2
  have hl : lv_has ls 2 [(0, .ref (a_m 0)), (1, .int kind)] := hl
  have hP : va_P g.1 vwCl (wX11 g a_m I_m J_m) s.heap := hP
  have hf_38 := hts _ (uT _ _ u_179)
  have hf_138 := hts _ (uT _ _ u_519)
  have hf_144 := hts _ (uT _ _ u_506)
  have hf_169 := hts _ (uT _ _ u_507)
  have hi_X11 : ∀ w ∈ wsX110, w.before args s = true := fun w h => hts w (uT _ w (u_wsX110 w h))
  have lm1 : (-1 : Int32).toInt = -1 := by decide
  have lm0 : (0 : Int32).toInt = 0 := by decide
  have lm2 : (1 : Int32).toInt = 1 := by decide
  have lq2 : (2 : Int32).toInt = 2 := by decide
  have lq3 : (3 : Int32).toInt = 3 := by decide
  have lq4 : (4 : Int32).toInt = 4 := by decide
  have lq5 : (5 : Int32).toInt = 5 := by decide
  have lq6 : (6 : Int32).toInt = 6 := by decide
  have lq7 : (7 : Int32).toInt = 7 := by decide
  refine lv_aload_n hx hb dX11_fails_0 rfl (lv_at hl 0 rfl) ?_
  refine va_get (D := g.1) (ci := 11) (v := .int (I_m 0 17)) (C := RX11) (T := TX11) (N := 46) hx hb hi_X11 (fun _ h => h) hown hK.1 hP 0 rfl rfl 17 (by decide) hf_169 (fun _ h9 => h9) rfl dX11_fails_1 ?_
  refine q_if_ne (tgt := 32) hx hb dX11_fails_4 (by decide) rfl (fun b_4 k_4 => ?_) (fun b_4 k_4 => ?_)
  · refine lv_iconst (v := 0) hx hb dX11_fails_32 (by decide) ?_
    refine hret 33 ls (0 : Int32) _ _ I_m dX11_fails_33 (Or.inl rfl) hS hP hD ?_
    exact ⟨(KK.rf I_m), rfl⟩
  · refine lv_aload_n hx hb dX11_fails_7 rfl (lv_at hl 0 rfl) ?_
    refine lv_aload_n hx hb dX11_fails_8 rfl (lv_at hl 0 rfl) ?_
    refine va_get (D := g.1) (ci := 11) (v := .int (I_m 0 11)) (C := RX11) (T := TX11) (N := 46) hx hb hi_X11 (fun _ h => h) hown hK.1 hP 0 rfl rfl 11 (by decide) hf_144 (fun _ h9 => h9) rfl dX11_fails_9 ?_
    refine lv_iconst (v := 1) hx hb dX11_fails_12 (by decide) ?_
    refine q_icmp_ne (tgt := 20) hx hb dX11_fails_13 (by decide) rfl (by decide : (1 : Int32).toInt = 1) (fun k_13 => ?_) (fun k_13 => ?_)
    · refine lv_iload_n hx hb dX11_fails_20 rfl (lv_at hl 1 rfl) ?_
      refine va_put (D := g.1) (ci := 11) (v := .int kind) (ty := .int) (C := RX11) (T := TX11) (N := 46) hx hb hi_X11 (fun _ h => h) tyX11 tyX11_ok nmX11 hown hK.1 hP hD hS 0 rfl rfl 17 (by decide) hf_169 (fun _ h9 => h9) rfl (by decide +kernel) rfl rfl (Nat.le_of_ble_eq_true rfl) dX11_fails_21 (fun H locs hP hD hS => ?_)
      have hP : va_P g.1 vwCl (wX11 g a_m (uF I_m 0 17 kind) J_m) H := hP
      have hD : va_D A (wX11 g a_m (uF I_m 0 17 kind) J_m) := hD
      have hk_21 : KK [] [16, 17] I_m (uF I_m 0 17 kind) := KK.uf (KK.rf I_m) (by decide)
      refine lv_aload_n hx hb dX11_fails_24 rfl (lv_at hl 0 rfl) ?_
      refine lv_aload_n hx hb dX11_fails_25 rfl (lv_at hl 0 rfl) ?_
      refine va_get (D := g.1) (ci := 11) (v := .int (I_m 0 12)) (C := RX11) (T := TX11) (N := 46) hx hb hi_X11 (fun _ h => h) hown hK.1 hP 0 rfl rfl 12 (by decide) hf_138 (fun _ h9 => h9) rfl dX11_fails_26 ?_
      refine va_put (D := g.1) (ci := 11) (v := .int (I_m 0 12)) (ty := .int) (C := RX11) (T := TX11) (N := 46) hx hb hi_X11 (fun _ h => h) tyX11 tyX11_ok nmX11 hown hK.1 hP hD hS 0 rfl rfl 16 (by decide) hf_38 (fun _ h9 => h9) rfl (by decide +kernel) rfl rfl (Nat.le_of_ble_eq_true rfl) dX11_fails_29 (fun H locs hP hD hS => ?_)
      have hP : va_P g.1 vwCl (wX11 g a_m (uF (uF I_m 0 17 kind) 0 16 (I_m 0 12)) J_m) H := hP
      have hD : va_D A (wX11 g a_m (uF (uF I_m 0 17 kind) 0 16 (I_m 0 12)) J_m) := hD
      have hk_29 : KK [] [16, 17] I_m (uF (uF I_m 0 17 kind) 0 16 (I_m 0 12)) := KK.uf hk_21 (by decide)
      refine lv_iconst (v := 0) hx hb dX11_fails_32 (by decide) ?_
      refine hret 33 ls (0 : Int32) _ _ (uF (uF I_m 0 17 kind) 0 16 (I_m 0 12)) dX11_fails_33 (Or.inl rfl) hS hP hD ?_
      exact ⟨hk_29, rfl⟩
    · refine lv_iconst (v := 1) hx hb dX11_fails_16 (by decide) ?_
      refine lv_goto (tgt := 21) hx hb dX11_fails_17 (by decide) ?_
      refine va_put (D := g.1) (ci := 11) (v := .int (1 : Int32)) (ty := .int) (C := RX11) (T := TX11) (N := 46) hx hb hi_X11 (fun _ h => h) tyX11 tyX11_ok nmX11 hown hK.1 hP hD hS 0 rfl rfl 17 (by decide) hf_169 (fun _ h9 => h9) rfl (by decide +kernel) rfl rfl (Nat.le_of_ble_eq_true rfl) dX11_fails_21 (fun H locs hP hD hS => ?_)
      have hP : va_P g.1 vwCl (wX11 g a_m (uF I_m 0 17 (1 : Int32)) J_m) H := hP
      have hD : va_D A (wX11 g a_m (uF I_m 0 17 (1 : Int32)) J_m) := hD
      have hk_21 : KK [] [16, 17] I_m (uF I_m 0 17 (1 : Int32)) := KK.uf (KK.rf I_m) (by decide)
      refine lv_aload_n hx hb dX11_fails_24 rfl (lv_at hl 0 rfl) ?_
      refine lv_aload_n hx hb dX11_fails_25 rfl (lv_at hl 0 rfl) ?_
      refine va_get (D := g.1) (ci := 11) (v := .int (I_m 0 12)) (C := RX11) (T := TX11) (N := 46) hx hb hi_X11 (fun _ h => h) hown hK.1 hP 0 rfl rfl 12 (by decide) hf_138 (fun _ h9 => h9) rfl dX11_fails_26 ?_
      refine va_put (D := g.1) (ci := 11) (v := .int (I_m 0 12)) (ty := .int) (C := RX11) (T := TX11) (N := 46) hx hb hi_X11 (fun _ h => h) tyX11 tyX11_ok nmX11 hown hK.1 hP hD hS 0 rfl rfl 16 (by decide) hf_38 (fun _ h9 => h9) rfl (by decide +kernel) rfl rfl (Nat.le_of_ble_eq_true rfl) dX11_fails_29 (fun H locs hP hD hS => ?_)
      have hP : va_P g.1 vwCl (wX11 g a_m (uF (uF I_m 0 17 (1 : Int32)) 0 16 (I_m 0 12)) J_m) H := hP
      have hD : va_D A (wX11 g a_m (uF (uF I_m 0 17 (1 : Int32)) 0 16 (I_m 0 12)) J_m) := hD
      have hk_29 : KK [] [16, 17] I_m (uF (uF I_m 0 17 (1 : Int32)) 0 16 (I_m 0 12)) := KK.uf hk_21 (by decide)
      refine lv_iconst (v := 0) hx hb dX11_fails_32 (by decide) ?_
      refine hret 33 ls (0 : Int32) _ _ (uF (uF I_m 0 17 (1 : Int32)) 0 16 (I_m 0 12)) dX11_fails_33 (Or.inl rfl) hS hP hD ?_
      exact ⟨hk_29, rfl⟩

set_option maxHeartbeats 4000000 in
set_option maxRecDepth 100000 in
theorem kX11_wantSign (l : Launch) (g : gG) (a_m : Nat → Nat) (I_m : Nat → Nat → Int32) (J_m : Nat → Nat → Int64) (ch : Int32) (h_p : PS I_m) : EffI l g yX11_wantSign wsX11_wantSign 2 [.ref (a_m 0), .int ch] (wX11 g a_m I_m J_m) (fun (u : (Nat → Nat → Int32)) => wX11 g a_m u J_m) (fun r (u : (Nat → Nat → Int32)) => KK [] [11, 12, 13, 14, 16, 17] I_m (u) ∧ PQ I_m (u) ∧ (r = 0 ∨ r = 1) ∧ (r = 1 → AD I_m (u))) := by
  refine EffI.sz (cc := cX11_wantSign) (maxL := 2) (by decide) rfl (Nat.le_of_ble_eq_true rfl) (fun p e s m args below meth c A Q ls fx hK hP hD hA hS hl hret => ?_)
  have hx := fx.1
  have hb := fx.2.1
  have hml := fx.2.2.1
  have hown := fx.2.2.2.1
  have hts := fx.2.2.2.2
  have hl : lv_has ls 2 [(0, .ref (a_m 0)), (1, .int ch)] := hl
  have hP : va_P g.1 vwCl (wX11 g a_m I_m J_m) s.heap := hP
  have lm1 : (-1 : Int32).toInt = -1 := by decide
  have lm0 : (0 : Int32).toInt = 0 := by decide
  have lm2 : (1 : Int32).toInt = 1 := by decide
  have lq2 : (2 : Int32).toInt = 2 := by decide
  have lq3 : (3 : Int32).toInt = 3 := by decide
  have lq4 : (4 : Int32).toInt = 4 := by decide
  have lq5 : (5 : Int32).toInt = 5 := by decide
  have lq6 : (6 : Int32).toInt = 6 := by decide
  have lq7 : (7 : Int32).toInt = 7 := by decide
  refine lv_aload_n hx hb dX11_wantSign_0 rfl (lv_at hl 0 rfl) ?_
  refine lv_iload_n hx hb dX11_wantSign_1 rfl (lv_at hl 1 rfl) ?_
  refine PurI.cv (As := [.int ch]) (kX11_isSign l g a_m I_m J_m ch) fx (gUV (uT _) u_565 u_566 u_567 u_5 u_568) rfl hdX11_isSign ⟨Nat.le_of_ble_eq_true rfl, Nat.le_of_ble_eq_true rfl⟩ hK hP [0, 1, 2, 3, 4, 5, 6, 7, 8, 9, 10, 11, 12, 13, 14, 15, 16, 17, 18, 19, 20, 21, 22] rfl rfl rfl rfl rfl hl.1 (Nat.le_of_ble_eq_true rfl) dX11_wantSign_2 (fun r1 p_r1 => ?_)
  refine q_if_ne (tgt := 14) hx hb dX11_wantSign_5 (by decide) rfl (fun b_5 k_5 => ?_) (fun b_5 k_5 => ?_)
  · have q_5 := bP.t p_r1 b_5
    refine lv_aload_n hx hb dX11_wantSign_14 rfl (lv_at hl 0 rfl) ?_
    refine EffV.cv (wr := ([])) (w' := fun u3 => wX11 g a_m u3 J_m) (As := []) (kX11_ahead l g a_m I_m J_m (PQ.rf h_p).1.1) fx (gUV (uT _) u_515 u_516 u_517 u_5 u_518) rfl hdX11_ahead ⟨Nat.le_of_ble_eq_true rfl, Nat.le_of_ble_eq_true rfl⟩ hK hP hD hS hA [0, 1, 2, 3, 4, 5, 6, 7, 8, 9, 10, 11, 12, 13, 14, 15, 16, 17, 18, 19, 20, 21, 22] [] [0, 1, 2, 3, 4, 5, 6, 7, 8, 9, 10, 11, 12, 13, 14, 15, 16, 17, 18, 19, 20, 21, 22] rfl rfl rfl rfl (by decide) rfl (fun _ => rfl) rfl rfl rfl rfl hl.1 (Nat.le_of_ble_eq_true rfl) dX11_wantSign_15 (fun u3 H locs p_r2 hP hD hS => ?_)
    have hP : va_P g.1 vwCl (wX11 g a_m u3 J_m) H := hP
    have hD : va_D A (wX11 g a_m u3 J_m) := hD
    refine lv_iconst (v := 1) hx hb dX11_wantSign_18 (by decide) ?_
    have lr : (1 : Int32).toInt = 1 := by decide
    refine hret 19 ls (1 : Int32) _ _ u3 dX11_wantSign_19 (Or.inr rfl) hS hP hD ?_
    exact ⟨(KK.tr (KK.rf I_m) p_r2.1 (by decide) (by decide)), ⟨(PQ.ah (PQ.rf h_p) p_r2.2), Or.inr rfl, fun _ => p_r2.2.2.2⟩⟩
  · have q_5 := bP.f p_r1 b_5
    refine lv_aload_n hx hb dX11_wantSign_8 rfl (lv_at hl 0 rfl) ?_
    refine lv_iconst (v := 2) hx hb dX11_wantSign_9 (by decide) ?_
    refine EffI.cv (wr := ([])) (w' := fun u5 => wX11 g a_m u5 J_m) (As := [.int (2 : Int32)]) (kX11_fails l g a_m I_m J_m (2 : Int32)) fx (gUV (uT _) u_557 u_558 u_559 u_5 u_560) rfl hdX11_fails ⟨Nat.le_of_ble_eq_true rfl, Nat.le_of_ble_eq_true rfl⟩ hK hP hD hS hA [0, 1, 2, 3, 4, 5, 6, 7, 8, 9, 10, 11, 12, 13, 14, 15, 16, 17, 18, 19, 20, 21, 22] [] [0, 1, 2, 3, 4, 5, 6, 7, 8, 9, 10, 11, 12, 13, 14, 15, 16, 17, 18, 19, 20, 21, 22] rfl rfl rfl rfl (by decide) rfl (fun _ => rfl) rfl rfl rfl rfl hl.1 (Nat.le_of_ble_eq_true rfl) dX11_wantSign_10 (fun r4 u5 H locs p_r4 hP hD hS => ?_)
    have hP : va_P g.1 vwCl (wX11 g a_m u5 J_m) H := hP
    have hD : va_D A (wX11 g a_m u5 J_m) := hD
    refine hret 13 ls r4 _ _ u5 dX11_wantSign_13 (Or.inl p_r4.2) hS hP hD ?_
    exact ⟨(KK.tr (KK.rf I_m) p_r4.1 (by decide) (by decide)), ⟨(PQ.kk (PQ.rf h_p) p_r4.1 (by decide)), Or.inl p_r4.2, fun q => absurd (q.symm.trans p_r4.2) (by decide)⟩⟩

set_option maxHeartbeats 4000000 in
set_option maxRecDepth 100000 in
theorem kX11_wantWord (l : Launch) (g : gG) (ad av : Nat → Nat) (a_m : Nat → Nat) (I_m : Nat → Nat → Int32) (J_m : Nat → Nat → Int64) (w : Nat) (k : Int32) (h_w : w < 12) (h_0 : w = 0) (h_p : PS I_m) : EffIS l g ad av yX11_wantWord wsX11_wantWord 5 [.ref (a_m 0), .ref (ad w), .int k] (wX11 g a_m I_m J_m) (fun (u : (Nat → Nat → Int32)) => wX11 g a_m u J_m) (fun r (u : (Nat → Nat → Int32)) => KK [] [11, 12, 13, 14, 16, 17] I_m (u) ∧ PQ I_m (u) ∧ (r = 0 ∨ r = 1) ∧ (r = 1 → AD I_m (u))) := by
  refine EffIS.sz (cc := cX11_wantWord) (maxL := 3) (by decide) rfl (Nat.le_of_ble_eq_true rfl) (fun p e s m args below meth c A Q ls fx hK hP hD hA hS hJ hl hret => ?_)
  have hx := fx.1
  have hb := fx.2.1
  have hml := fx.2.2.1
  have hown := fx.2.2.2.1
  have hts := fx.2.2.2.2
  have hl : lv_has ls 3 [(0, .ref (a_m 0)), (1, .ref (ad w)), (2, .int k)] := hl
  have hP : va_P g.1 vwCl (wX11 g a_m I_m J_m) s.heap := hP
  have lm1 : (-1 : Int32).toInt = -1 := by decide
  have lm0 : (0 : Int32).toInt = 0 := by decide
  have lm2 : (1 : Int32).toInt = 1 := by decide
  have lq2 : (2 : Int32).toInt = 2 := by decide
  have lq3 : (3 : Int32).toInt = 3 := by decide
  have lq4 : (4 : Int32).toInt = 4 := by decide
  have lq5 : (5 : Int32).toInt = 5 := by decide
  have lq6 : (6 : Int32).toInt = 6 := by decide
  have lq7 : (7 : Int32).toInt = 7 := by decide
  refine lv_aload_n hx hb dX11_wantWord_0 rfl (lv_at hl 0 rfl) ?_
  refine lv_aload_n hx hb dX11_wantWord_1 rfl (lv_at hl 1 rfl) ?_
  refine PurIS.cv (As := [.ref (ad w)]) (kX11_inWords l g ad av a_m I_m J_m w h_w h_p h_0) fx (gUV (uT _) u_544 u_545 u_546 u_5 u_547) rfl hdX11_inWords ⟨Nat.le_of_ble_eq_true rfl, Nat.le_of_ble_eq_true rfl⟩ hJ hS hK hP [0, 1, 2, 3, 4, 5, 6, 7, 8, 9, 10, 11, 12, 13, 14, 15, 16, 17, 18, 19, 20, 21, 22] rfl rfl rfl rfl rfl hl.1 (Nat.le_of_ble_eq_true rfl) dX11_wantWord_2 (fun r1 p_r1 => ?_)
  refine lv_iload_n hx hb dX11_wantWord_5 rfl (lv_at hl 2 rfl) ?_
  refine q_icmp_eq (tgt := 15) hx hb dX11_wantWord_6 (by decide) rfl rfl (fun k_6 => ?_) (fun k_6 => ?_)
  · refine lv_aload_n hx hb dX11_wantWord_15 rfl (lv_at hl 0 rfl) ?_
    refine EffV.cv (wr := ([])) (w' := fun u3 => wX11 g a_m u3 J_m) (As := []) (kX11_ahead l g a_m I_m J_m (PQ.rf h_p).1.1) fx (gUV (uT _) u_515 u_516 u_517 u_5 u_518) rfl hdX11_ahead ⟨Nat.le_of_ble_eq_true rfl, Nat.le_of_ble_eq_true rfl⟩ hK hP hD hS hA [0, 1, 2, 3, 4, 5, 6, 7, 8, 9, 10, 11, 12, 13, 14, 15, 16, 17, 18, 19, 20, 21, 22] [] [0, 1, 2, 3, 4, 5, 6, 7, 8, 9, 10, 11, 12, 13, 14, 15, 16, 17, 18, 19, 20, 21, 22] rfl rfl rfl rfl (by decide) rfl (fun _ => rfl) rfl rfl rfl rfl hl.1 (Nat.le_of_ble_eq_true rfl) dX11_wantWord_16 (fun u3 H locs p_r2 hP hD hS => ?_)
    have hP : va_P g.1 vwCl (wX11 g a_m u3 J_m) H := hP
    have hD : va_D A (wX11 g a_m u3 J_m) := hD
    refine lv_iconst (v := 1) hx hb dX11_wantWord_19 (by decide) ?_
    have lr : (1 : Int32).toInt = 1 := by decide
    refine hret 20 ls (1 : Int32) _ _ u3 dX11_wantWord_20 (Or.inr rfl) hS hP hD ?_
    exact ⟨(KK.tr (KK.rf I_m) p_r2.1 (by decide) (by decide)), ⟨(PQ.ah (PQ.rf h_p) p_r2.2), Or.inr rfl, fun _ => p_r2.2.2.2⟩⟩
  · refine lv_aload_n hx hb dX11_wantWord_9 rfl (lv_at hl 0 rfl) ?_
    refine lv_iconst (v := 2) hx hb dX11_wantWord_10 (by decide) ?_
    refine EffI.cv (wr := ([])) (w' := fun u5 => wX11 g a_m u5 J_m) (As := [.int (2 : Int32)]) (kX11_fails l g a_m I_m J_m (2 : Int32)) fx (gUV (uT _) u_557 u_558 u_559 u_5 u_560) rfl hdX11_fails ⟨Nat.le_of_ble_eq_true rfl, Nat.le_of_ble_eq_true rfl⟩ hK hP hD hS hA [0, 1, 2, 3, 4, 5, 6, 7, 8, 9, 10, 11, 12, 13, 14, 15, 16, 17, 18, 19, 20, 21, 22] [] [0, 1, 2, 3, 4, 5, 6, 7, 8, 9, 10, 11, 12, 13, 14, 15, 16, 17, 18, 19, 20, 21, 22] rfl rfl rfl rfl (by decide) rfl (fun _ => rfl) rfl rfl rfl rfl hl.1 (Nat.le_of_ble_eq_true rfl) dX11_wantWord_11 (fun r4 u5 H locs p_r4 hP hD hS => ?_)
    have hP : va_P g.1 vwCl (wX11 g a_m u5 J_m) H := hP
    have hD : va_D A (wX11 g a_m u5 J_m) := hD
    refine hret 14 ls r4 _ _ u5 dX11_wantWord_14 (Or.inl p_r4.2) hS hP hD ?_
    exact ⟨(KK.tr (KK.rf I_m) p_r4.1 (by decide) (by decide)), ⟨(PQ.kk (PQ.rf h_p) p_r4.1 (by decide)), Or.inl p_r4.2, fun q => absurd (q.symm.trans p_r4.2) (by decide)⟩⟩

set_option maxHeartbeats 4000000 in
set_option maxRecDepth 100000 in
theorem kX11_number (l : Launch) (g : gG) (a_m : Nat → Nat) (I_m : Nat → Nat → Int32) (J_m : Nat → Nat → Int64) (to : Int32) (least : Int32) (most : Int32) (hM : MI I_m) (hN : NS I_m) (h_to : 13201 ≤ to.toInt ∧ to.toInt ≤ 13205) (h_r : (to.toInt < 13204 → 0 ≤ least.toInt ∧ most.toInt ≤ 63) ∧ (to.toInt = 13204 → 4 ≤ least.toInt ∧ most.toInt ≤ 40) ∧ (to.toInt = 13205 → 2 ≤ least.toInt ∧ most.toInt ≤ 30)) (h_p : PS I_m) : EffI l g yX11_number wsX11_number 2 [.ref (a_m 0), .int to, .int least, .int most] (wX11 g a_m I_m J_m) (fun (u : (Nat → Nat → Int32)) => wX11 g a_m u J_m) (fun r (u : (Nat → Nat → Int32)) => MI (u) ∧ KK [1] [11, 12, 13, 14, 16, 17] I_m (u) ∧ PQ I_m (u) ∧ (r = 0 ∨ r = 1) ∧ (r = 1 → AD I_m (u)) ∧ NS (u)) := by
  refine EffI.sz (cc := cX11_number) (maxL := 4) (by decide) rfl (Nat.le_of_ble_eq_true rfl) (fun p e s m args below meth c A Q ls fx hK hP hD hA hS hl hret => ?_)
  have hx := fx.1
  have hb := fx.2.1
  have hml := fx.2.2.1
  have hown := fx.2.2.2.1
  have hts := fx.2.2.2.2
  have hl : lv_has ls 4 [(0, .ref (a_m 0)), (1, .int to), (2, .int least), (3, .int most)] := hl
  have hP : va_P g.1 vwCl (wX11 g a_m I_m J_m) s.heap := hP
  have hf_7 := hts _ (uT _ _ u_170)
  have hf_141 := hts _ (uT _ _ u_520)
  have hf_144 := hts _ (uT _ _ u_506)
  have hi_X11 : ∀ w ∈ wsX110, w.before args s = true := fun w h => hts w (uT _ w (u_wsX110 w h))
  have lm1 : (-1 : Int32).toInt = -1 := by decide
  have lm0 : (0 : Int32).toInt = 0 := by decide
  have lm2 : (1 : Int32).toInt = 1 := by decide
  have lq2 : (2 : Int32).toInt = 2 := by decide
  have lq3 : (3 : Int32).toInt = 3 := by decide
  have lq4 : (4 : Int32).toInt = 4 := by decide
  have lq5 : (5 : Int32).toInt = 5 := by decide
  have lq6 : (6 : Int32).toInt = 6 := by decide
  have lq7 : (7 : Int32).toInt = 7 := by decide
  refine lv_aload_n hx hb dX11_number_0 rfl (lv_at hl 0 rfl) ?_
  refine va_get (D := g.1) (ci := 11) (v := .int (I_m 0 11)) (C := RX11) (T := TX11) (N := 46) hx hb hi_X11 (fun _ h => h) hown hK.1 hP 0 rfl rfl 11 (by decide) hf_144 (fun _ h9 => h9) rfl dX11_number_1 ?_
  refine lv_iconst (v := 3) hx hb dX11_number_4 (by decide) ?_
  refine q_icmp_eq (tgt := 14) hx hb dX11_number_5 (by decide) rfl (by decide : (3 : Int32).toInt = 3) (fun k_5 => ?_) (fun k_5 => ?_)
  · refine lv_aload_n hx hb dX11_number_14 rfl (lv_at hl 0 rfl) ?_
    refine va_get (D := g.1) (ci := 11) (v := .int (I_m 0 14)) (C := RX11) (T := TX11) (N := 46) hx hb hi_X11 (fun _ h => h) hown hK.1 hP 0 rfl rfl 14 (by decide) hf_141 (fun _ h9 => h9) rfl dX11_number_15 ?_
    refine lv_iload_n hx hb dX11_number_18 rfl (lv_at hl 2 rfl) ?_
    refine q_icmp_lt (tgt := 30) hx hb dX11_number_19 (by decide) rfl rfl (fun k_19 => ?_) (fun k_19 => ?_)
    · refine lv_aload_n hx hb dX11_number_30 rfl (lv_at hl 0 rfl) ?_
      refine lv_iconst (v := 4) hx hb dX11_number_31 (by decide) ?_
      refine EffI.cv (wr := ([])) (w' := fun u2 => wX11 g a_m u2 J_m) (As := [.int (4 : Int32)]) (kX11_fails l g a_m I_m J_m (4 : Int32)) fx (gUV (uT _) u_557 u_558 u_559 u_5 u_560) rfl hdX11_fails ⟨Nat.le_of_ble_eq_true rfl, Nat.le_of_ble_eq_true rfl⟩ hK hP hD hS hA [0, 1, 2, 3, 4, 5, 6, 7, 8, 9, 10, 11, 12, 13, 14, 15, 16, 17, 18, 19, 20, 21, 22] [] [0, 1, 2, 3, 4, 5, 6, 7, 8, 9, 10, 11, 12, 13, 14, 15, 16, 17, 18, 19, 20, 21, 22] rfl rfl rfl rfl (by decide) rfl (fun _ => rfl) rfl rfl rfl rfl hl.1 (Nat.le_of_ble_eq_true rfl) dX11_number_32 (fun r1 u2 H locs p_r1 hP hD hS => ?_)
      have hP : va_P g.1 vwCl (wX11 g a_m u2 J_m) H := hP
      have hD : va_D A (wX11 g a_m u2 J_m) := hD
      refine hret 35 ls r1 _ _ u2 dX11_number_35 (Or.inl p_r1.2) hS hP hD ?_
      exact ⟨(MI.kk hM p_r1.1 (by decide) (by decide)), (KK.tr (KK.rf I_m) p_r1.1 (by decide) (by decide)), ⟨(PQ.kk (PQ.rf h_p) p_r1.1 (by decide)), Or.inl p_r1.2, fun q => absurd (q.symm.trans p_r1.2) (by decide), hN.row (p_r1.1.row 1 (by decide))⟩⟩
    · refine lv_aload_n hx hb dX11_number_22 rfl (lv_at hl 0 rfl) ?_
      refine va_get (D := g.1) (ci := 11) (v := .int (I_m 0 14)) (C := RX11) (T := TX11) (N := 46) hx hb hi_X11 (fun _ h => h) hown hK.1 hP 0 rfl rfl 14 (by decide) hf_141 (fun _ h9 => h9) rfl dX11_number_23 ?_
      refine lv_iload_n hx hb dX11_number_26 rfl (lv_at hl 3 rfl) ?_
      refine q_icmp_le (tgt := 36) hx hb dX11_number_27 (by decide) rfl rfl (fun k_27 => ?_) (fun k_27 => ?_)
      · refine lv_aload_n hx hb dX11_number_36 rfl (lv_at hl 0 rfl) ?_
        refine va_get (D := g.1) (ci := 11) (v := .ref (a_m 1)) (C := RX11) (T := TX11) (N := 46) hx hb hi_X11 (fun _ h => h) hown hK.1 hP 0 rfl rfl 0 (by decide) hf_7 (fun _ h9 => h9) rfl dX11_number_37 ?_
        refine lv_iload_n hx hb dX11_number_40 rfl (lv_at hl 1 rfl) ?_
        refine lv_aload_n hx hb dX11_number_41 rfl (lv_at hl 0 rfl) ?_
        refine va_get (D := g.1) (ci := 11) (v := .int (I_m 0 14)) (C := RX11) (T := TX11) (N := 46) hx hb hi_X11 (fun _ h => h) hown hK.1 hP 0 rfl rfl 14 (by decide) hf_141 (fun _ h9 => h9) rfl dX11_number_42 ?_
        have n_45 : vp_in to 19800 := (t_in (by omega))
        obtain ⟨f3, e_f3⟩ : ∃ z, z = upd (I_m 1) to.toNatClampNeg (I_m 0 14) := ⟨_, rfl⟩
        refine va_iast hx hb hK.1 hP hD hS 1 0 rfl rfl n_45 dX11_number_45 (fun H locs hP hD hS => ?_)
        have hP : va_P g.1 vwCl (wX11 g a_m (uR I_m 1 f3) J_m) H := by rw [e_f3]; exact hP
        have hD : va_D A (wX11 g a_m (uR I_m 1 f3) J_m) := by rw [e_f3]; exact hD
        have hc_45 : MI (uR I_m 1 f3) := MI.ua hM e_f3 rfl (by omega) (by omega)
        have hk_45 : KK [1] [11, 12, 13, 14, 16, 17] I_m (uR I_m 1 f3) := KK.ur (KK.rf I_m) (by decide) (by decide)
        have hp_45 : PQ I_m (uR I_m 1 f3) := PQ.ur (PQ.rf h_p) (by decide)
        have hN45 : NS (uR I_m 1 f3) := hN.sg e_f3 rfl (by omega) (by omega)
        refine lv_aload_n hx hb dX11_number_46 rfl (lv_at hl 0 rfl) ?_
        refine EffV.cv (wr := ([])) (w' := fun u5 => wX11 g a_m u5 J_m) (As := []) (kX11_ahead l g a_m (uR I_m 1 f3) J_m hp_45.1.1) fx (gUV (uT _) u_515 u_516 u_517 u_5 u_518) rfl hdX11_ahead ⟨Nat.le_of_ble_eq_true rfl, Nat.le_of_ble_eq_true rfl⟩ hK hP hD hS hA [0, 1, 2, 3, 4, 5, 6, 7, 8, 9, 10, 11, 12, 13, 14, 15, 16, 17, 18, 19, 20, 21, 22] [] [0, 1, 2, 3, 4, 5, 6, 7, 8, 9, 10, 11, 12, 13, 14, 15, 16, 17, 18, 19, 20, 21, 22] rfl rfl rfl rfl (by decide) rfl (fun _ => rfl) rfl rfl rfl rfl hl.1 (Nat.le_of_ble_eq_true rfl) dX11_number_47 (fun u5 H locs p_r4 hP hD hS => ?_)
        have hP : va_P g.1 vwCl (wX11 g a_m u5 J_m) H := hP
        have hD : va_D A (wX11 g a_m u5 J_m) := hD
        have p_r4 : KK [] [11, 12, 13, 14] (uR I_m 1 f3) u5 ∧ AH (uR I_m 1 f3) u5 := p_r4
        refine lv_iconst (v := 1) hx hb dX11_number_50 (by decide) ?_
        have lr : (1 : Int32).toInt = 1 := by decide
        refine hret 51 ls (1 : Int32) _ _ u5 dX11_number_51 (Or.inr rfl) hS hP hD ?_
        exact ⟨(MI.kk hc_45 p_r4.1 (by decide) (by decide)), (KK.tr hk_45 p_r4.1 (by decide) (by decide)), ⟨(PQ.ah hp_45 p_r4.2), Or.inr rfl, fun _ => p_r4.2.2.2, hN45.row (p_r4.1.row 1 (by decide))⟩⟩
      · refine lv_aload_n hx hb dX11_number_30 rfl (lv_at hl 0 rfl) ?_
        refine lv_iconst (v := 4) hx hb dX11_number_31 (by decide) ?_
        refine EffI.cv (wr := ([])) (w' := fun u7 => wX11 g a_m u7 J_m) (As := [.int (4 : Int32)]) (kX11_fails l g a_m I_m J_m (4 : Int32)) fx (gUV (uT _) u_557 u_558 u_559 u_5 u_560) rfl hdX11_fails ⟨Nat.le_of_ble_eq_true rfl, Nat.le_of_ble_eq_true rfl⟩ hK hP hD hS hA [0, 1, 2, 3, 4, 5, 6, 7, 8, 9, 10, 11, 12, 13, 14, 15, 16, 17, 18, 19, 20, 21, 22] [] [0, 1, 2, 3, 4, 5, 6, 7, 8, 9, 10, 11, 12, 13, 14, 15, 16, 17, 18, 19, 20, 21, 22] rfl rfl rfl rfl (by decide) rfl (fun _ => rfl) rfl rfl rfl rfl hl.1 (Nat.le_of_ble_eq_true rfl) dX11_number_32 (fun r6 u7 H locs p_r6 hP hD hS => ?_)
        have hP : va_P g.1 vwCl (wX11 g a_m u7 J_m) H := hP
        have hD : va_D A (wX11 g a_m u7 J_m) := hD
        refine hret 35 ls r6 _ _ u7 dX11_number_35 (Or.inl p_r6.2) hS hP hD ?_
        exact ⟨(MI.kk hM p_r6.1 (by decide) (by decide)), (KK.tr (KK.rf I_m) p_r6.1 (by decide) (by decide)), ⟨(PQ.kk (PQ.rf h_p) p_r6.1 (by decide)), Or.inl p_r6.2, fun q => absurd (q.symm.trans p_r6.2) (by decide), hN.row (p_r6.1.row 1 (by decide))⟩⟩
  · refine lv_aload_n hx hb dX11_number_8 rfl (lv_at hl 0 rfl) ?_
    refine lv_iconst (v := 2) hx hb dX11_number_9 (by decide) ?_
    refine EffI.cv (wr := ([])) (w' := fun u9 => wX11 g a_m u9 J_m) (As := [.int (2 : Int32)]) (kX11_fails l g a_m I_m J_m (2 : Int32)) fx (gUV (uT _) u_557 u_558 u_559 u_5 u_560) rfl hdX11_fails ⟨Nat.le_of_ble_eq_true rfl, Nat.le_of_ble_eq_true rfl⟩ hK hP hD hS hA [0, 1, 2, 3, 4, 5, 6, 7, 8, 9, 10, 11, 12, 13, 14, 15, 16, 17, 18, 19, 20, 21, 22] [] [0, 1, 2, 3, 4, 5, 6, 7, 8, 9, 10, 11, 12, 13, 14, 15, 16, 17, 18, 19, 20, 21, 22] rfl rfl rfl rfl (by decide) rfl (fun _ => rfl) rfl rfl rfl rfl hl.1 (Nat.le_of_ble_eq_true rfl) dX11_number_10 (fun r8 u9 H locs p_r8 hP hD hS => ?_)
    have hP : va_P g.1 vwCl (wX11 g a_m u9 J_m) H := hP
    have hD : va_D A (wX11 g a_m u9 J_m) := hD
    refine hret 13 ls r8 _ _ u9 dX11_number_13 (Or.inl p_r8.2) hS hP hD ?_
    exact ⟨(MI.kk hM p_r8.1 (by decide) (by decide)), (KK.tr (KK.rf I_m) p_r8.1 (by decide) (by decide)), ⟨(PQ.kk (PQ.rf h_p) p_r8.1 (by decide)), Or.inl p_r8.2, fun q => absurd (q.symm.trans p_r8.2) (by decide), hN.row (p_r8.1.row 1 (by decide))⟩⟩

set_option maxHeartbeats 4000000 in
set_option maxRecDepth 100000 in
theorem kX11_taken (l : Launch) (g : gG) (a_m : Nat → Nat) (I_m : Nat → Nat → Int32) (J_m : Nat → Nat → Int64) (gv : Int32)  : EffI l g yX11_taken wsX11_taken 1 [.ref (a_m 0), .int gv] (wX11 g a_m I_m J_m) (fun (u : (Nat → Nat → Int32)) => wX11 g a_m u J_m) (fun r (u : (Nat → Nat → Int32)) => KK [] [1, 15] I_m (u)) := by
  refine EffI.st (cc := cX11_taken) (maxL := 2) (by decide) rfl (Nat.le_of_ble_eq_true rfl) (fun p e s m args below meth c A Q ls fx hK hP hD hA hS hl hret => ?_)
  have hx := fx.1
  have hb := fx.2.1
  have hml := fx.2.2.1
  have hown := fx.2.2.2.1
  have hts := fx.2.2.2.2
  have hl : lv_has ls 2 [(0, .ref (a_m 0)), (1, .int gv)] := hl
  have hP : va_P g.1 vwCl (wX11 g a_m I_m J_m) s.heap := hP
  have hf_34 := hts _ (uT _ _ u_178)
  have hf_169 := hts _ (uT _ _ u_507)
  have hi_X11 : ∀ w ∈ wsX110, w.before args s = true := fun w h => hts w (uT _ w (u_wsX110 w h))
  have lm1 : (-1 : Int32).toInt = -1 := by decide
  have lm0 : (0 : Int32).toInt = 0 := by decide
  have lm2 : (1 : Int32).toInt = 1 := by decide
  have lq2 : (2 : Int32).toInt = 2 := by decide
  have lq3 : (3 : Int32).toInt = 3 := by decide
  have lq4 : (4 : Int32).toInt = 4 := by decide
  have lq5 : (5 : Int32).toInt = 5 := by decide
  have lq6 : (6 : Int32).toInt = 6 := by decide
  have lq7 : (7 : Int32).toInt = 7 := by decide
  refine lv_aload_n hx hb dX11_taken_0 rfl (lv_at hl 0 rfl) ?_
  refine lv_aload_n hx hb dX11_taken_1 rfl (lv_at hl 0 rfl) ?_
  refine va_get (D := g.1) (ci := 11) (v := .int (I_m 0 17)) (C := RX11) (T := TX11) (N := 46) hx hb hi_X11 (fun _ h => h) hown hK.1 hP 0 rfl rfl 17 (by decide) hf_169 (fun _ h9 => h9) rfl dX11_taken_2 ?_
  refine va_put (D := g.1) (ci := 11) (v := .int (I_m 0 17)) (ty := .int) (C := RX11) (T := TX11) (N := 46) hx hb hi_X11 (fun _ h => h) tyX11 tyX11_ok nmX11 hown hK.1 hP hD hS 0 rfl rfl 15 (by decide) hf_34 (fun _ h9 => h9) rfl (by decide +kernel) rfl rfl (Nat.le_of_ble_eq_true rfl) dX11_taken_5 (fun H locs hP hD hS => ?_)
  have hP : va_P g.1 vwCl (wX11 g a_m (uF I_m 0 15 (I_m 0 17)) J_m) H := hP
  have hD : va_D A (wX11 g a_m (uF I_m 0 15 (I_m 0 17)) J_m) := hD
  have hk_5 : KK [] [1, 15] I_m (uF I_m 0 15 (I_m 0 17)) := KK.uf (KK.rf I_m) (by decide)
  refine lv_aload_n hx hb dX11_taken_8 rfl (lv_at hl 0 rfl) ?_
  refine va_get (D := g.1) (ci := 11) (v := .int (I_m 0 17)) (C := RX11) (T := TX11) (N := 46) hx hb hi_X11 (fun _ h => h) hown hK.1 hP 0 rfl rfl 17 (by decide) hf_169 (fun _ h9 => h9) rfl dX11_taken_9 ?_
  refine q_if_le (tgt := 24) hx hb dX11_taken_12 (by decide) rfl (fun k_12 => ?_) (fun k_12 => ?_)
  · refine lv_aload_n hx hb dX11_taken_24 rfl (lv_at hl 0 rfl) ?_
    refine lv_iload_n hx hb dX11_taken_25 rfl (lv_at hl 1 rfl) ?_
    refine EffI.cv (wr := ([])) (w' := fun u2 => wX11 g a_m u2 J_m) (As := [.int gv]) (kX11_gives l g a_m (uF I_m 0 15 (I_m 0 17)) J_m gv) fx (gUV (uT _) u_585 u_586 u_587 u_5 u_588) rfl hdX11_gives ⟨Nat.le_of_ble_eq_true rfl, Nat.le_of_ble_eq_true rfl⟩ hK hP hD hS hA [0, 1, 2, 3, 4, 5, 6, 7, 8, 9, 10, 11, 12, 13, 14, 15, 16, 17, 18, 19, 20, 21, 22] [] [0, 1, 2, 3, 4, 5, 6, 7, 8, 9, 10, 11, 12, 13, 14, 15, 16, 17, 18, 19, 20, 21, 22] rfl rfl rfl rfl (by decide) rfl (fun _ => rfl) rfl rfl rfl rfl hl.1 (Nat.le_of_ble_eq_true rfl) dX11_taken_26 (fun r1 u2 H locs p_r1 hP hD hS => ?_)
    have hP : va_P g.1 vwCl (wX11 g a_m u2 J_m) H := hP
    have hD : va_D A (wX11 g a_m u2 J_m) := hD
    refine hret 29 ls r1 _ _ u2 dX11_taken_29 hS hP hD ?_
    exact (KK.st hk_5 p_r1.2 (by decide))
  · refine lv_aload_n hx hb dX11_taken_15 rfl (lv_at hl 0 rfl) ?_
    refine lv_bipush (v := 9) hx hb dX11_taken_16 (by decide) ?_
    refine EffI.cv (wr := ([])) (w' := fun u4 => wX11 g a_m u4 J_m) (As := [.int (9 : Int32)]) (kX11_refuse l g a_m (uF I_m 0 15 (I_m 0 17)) J_m (9 : Int32)) fx (gUV (uT _) u_536 u_537 u_538 u_5 u_539) rfl hdX11_refuse ⟨Nat.le_of_ble_eq_true rfl, Nat.le_of_ble_eq_true rfl⟩ hK hP hD hS hA [0, 1, 2, 3, 4, 5, 6, 7, 8, 9, 10, 11, 12, 13, 14, 15, 16, 17, 18, 19, 20, 21, 22] [] [0, 1, 2, 3, 4, 5, 6, 7, 8, 9, 10, 11, 12, 13, 14, 15, 16, 17, 18, 19, 20, 21, 22] rfl rfl rfl rfl (by decide) rfl (fun _ => rfl) rfl rfl rfl rfl hl.1 (Nat.le_of_ble_eq_true rfl) dX11_taken_18 (fun r3 u4 H locs p_r3 hP hD hS => ?_)
    have hP : va_P g.1 vwCl (wX11 g a_m u4 J_m) H := hP
    have hD : va_D A (wX11 g a_m u4 J_m) := hD
    refine lv_goto (tgt := 29) hx hb dX11_taken_21 (by decide) ?_
    refine hret 29 ls r3 _ _ u4 dX11_taken_29 hS hP hD ?_
    exact (KK.st hk_5 p_r3.2 (by decide))

set_option maxHeartbeats 4000000 in
set_option maxRecDepth 100000 in
theorem kX11_likeRule (l : Launch) (g : gG) (a_m : Nat → Nat) (I_m : Nat → Nat → Int32) (J_m : Nat → Nat → Int64) (a : Int32) (b : Int32) (h_a : 0 ≤ a.toInt ∧ a.toInt ≤ 19000 ∧ 0 ≤ b.toInt ∧ b.toInt ≤ 19000) (h_l : (I_m 1 a.toNatClampNeg).toInt ≤ 6) : PurI l g yX11_likeRule wsX11_likeRule 0 [.ref (a_m 0), .int a, .int b] (wX11 g a_m I_m J_m) (fun r => bP True True r) := by
  refine PurI.sz (cc := cX11_likeRule) (maxL := 5) (by decide) rfl (Nat.le_of_ble_eq_true rfl) (fun p e s m args below meth c Q ls fx hK hP hl hret => ?_)
  have hx := fx.1
  have hb := fx.2.1
  have hml := fx.2.2.1
  have hown := fx.2.2.2.1
  have hts := fx.2.2.2.2
  have hl : lv_has ls 5 [(0, .ref (a_m 0)), (1, .int a), (2, .int b)] := hl
  have hP : va_P g.1 vwCl (wX11 g a_m I_m J_m) s.heap := hP
  have hf_7 := hts _ (uT _ _ u_170)
  have hi_X11 : ∀ w ∈ wsX110, w.before args s = true := fun w h => hts w (uT _ w (u_wsX110 w h))
  have lm1 : (-1 : Int32).toInt = -1 := by decide
  have lm0 : (0 : Int32).toInt = 0 := by decide
  have lm2 : (1 : Int32).toInt = 1 := by decide
  have lq2 : (2 : Int32).toInt = 2 := by decide
  have lq3 : (3 : Int32).toInt = 3 := by decide
  have lq4 : (4 : Int32).toInt = 4 := by decide
  have lq5 : (5 : Int32).toInt = 5 := by decide
  have lq6 : (6 : Int32).toInt = 6 := by decide
  have lq7 : (7 : Int32).toInt = 7 := by decide
  have lq11 : (11 : Int32).toInt = 11 := by decide
  refine lv_aload_n hx hb dX11_likeRule_0 rfl (lv_at hl 0 rfl) ?_
  refine va_get (D := g.1) (ci := 11) (v := .ref (a_m 1)) (C := RX11) (T := TX11) (N := 46) hx hb hi_X11 (fun _ h => h) hown hK.1 hP 0 rfl rfl 0 (by decide) hf_7 (fun _ h9 => h9) rfl dX11_likeRule_1 ?_
  refine lv_iload_n hx hb dX11_likeRule_4 rfl (lv_at hl 1 rfl) ?_
  have n_5 : vp_in a 19800 := (t_in (by omega))
  refine va_iald hx hb hK.1 hP 1 0 rfl rfl n_5 dX11_likeRule_5 ?_
  refine q_nm (fun x1 e_x1 => ?_)
  have e_x1 : x1 = (I_m 1) a.toNatClampNeg := e_x1
  have g_x1 : x1.toInt = ((I_m 1) a.toNatClampNeg).toInt := congrArg _ e_x1
  refine lv_aload_n hx hb dX11_likeRule_6 rfl (lv_at hl 0 rfl) ?_
  refine va_get (D := g.1) (ci := 11) (v := .ref (a_m 1)) (C := RX11) (T := TX11) (N := 46) hx hb hi_X11 (fun _ h => h) hown hK.1 hP 0 rfl rfl 0 (by decide) hf_7 (fun _ h9 => h9) rfl dX11_likeRule_7 ?_
  refine lv_iload_n hx hb dX11_likeRule_10 rfl (lv_at hl 2 rfl) ?_
  have n_11 : vp_in b 19800 := (t_in (by omega))
  refine va_iald hx hb hK.1 hP 1 0 rfl rfl n_11 dX11_likeRule_11 ?_
  refine q_nm (fun x2 e_x2 => ?_)
  have e_x2 : x2 = (I_m 1) b.toNatClampNeg := e_x2
  have g_x2 : x2.toInt = ((I_m 1) b.toNatClampNeg).toInt := congrArg _ e_x2
  refine q_icmp_ne (tgt := 40) hx hb dX11_likeRule_12 (by decide) rfl rfl (fun k_12 => ?_) (fun k_12 => ?_)
  · refine lv_iconst (v := 0) hx hb dX11_likeRule_40 (by decide) ?_
    refine lv_istore_n (lv' := [(3, .int (0 : Int32)), (0, .ref (a_m 0)), (1, .int a), (2, .int b)]) hx hb dX11_likeRule_41 rfl hl (by decide) rfl (fun ls hl => ?_)
    refine lv_iconst (v := 0) hx hb dX11_likeRule_42 (by decide) ?_
    refine lv_istore (lv' := [(4, .int (0 : Int32)), (3, .int (0 : Int32)), (0, .ref (a_m 0)), (1, .int a), (2, .int b)]) hx hb dX11_likeRule_43 hl (by decide) rfl (fun ls hl => ?_)
    have L45 : ∀ (nn : Nat) (v3_45 : Int32) (v4_45 : Int32), (hv_45 : 0 ≤ v4_45.toInt ∧ v4_45.toInt ≤ 6) → (hz_45 : v3_45 = 0 ∨ v3_45 = 1) → ((7 - v4_45.toInt) < (nn : Int)) → ∀ ls : Array Slot, lv_has ls 5 [(4, .int v4_45), (3, .int v3_45), (0, .ref (a_m 0)), (1, .int a), (2, .int b)] → W p l e (rm 0) s m args below meth c s.heap [] 0 0 Q (F0 m 45 ls []) := by
      intro n_45
      induction n_45 with
      | zero =>
        intro v3_45 v4_45 hv_45 hz_45 hms_45 ls hl
        exfalso; omega
      | succ n_45 ih_45 =>
        intro v3_45 v4_45 hv_45 hz_45 hms_45 ls hl
        refine lv_iload hx hb dX11_likeRule_45 (lv_at hl 0 rfl) ?_
        refine lv_aload_n hx hb dX11_likeRule_47 rfl (lv_at hl 2 rfl) ?_
        refine va_get (D := g.1) (ci := 11) (v := .ref (a_m 1)) (C := RX11) (T := TX11) (N := 46) hx hb hi_X11 (fun _ h => h) hown hK.1 hP 0 rfl rfl 0 (by decide) hf_7 (fun _ h9 => h9) rfl dX11_likeRule_48 ?_
        refine lv_iload_n hx hb dX11_likeRule_51 rfl (lv_at hl 3 rfl) ?_
        have n_52 : vp_in a 19800 := (t_in (by omega))
        refine va_iald hx hb hK.1 hP 1 0 rfl rfl n_52 dX11_likeRule_52 ?_
        refine q_nm (fun x3 e_x3 => ?_)
        have e_x3 : x3 = (I_m 1) a.toNatClampNeg := e_x3
        have g_x3 : x3.toInt = ((I_m 1) a.toNatClampNeg).toInt := congrArg _ e_x3
        have hl52 : x3.toInt ≤ 6 := by rw [e_x3]; exact h_l
        refine q_icmp_ge (tgt := 97) hx hb dX11_likeRule_53 (by decide) rfl rfl (fun k_53 => ?_) (fun k_53 => ?_)
        · refine lv_iload_n hx hb dX11_likeRule_97 rfl (lv_at hl 1 rfl) ?_
          exact hret 98 ls v3_45 dX11_likeRule_98 hz_45 (by rcases hz_45 with q | q; exact Or.inr ⟨q, trivial⟩; exact Or.inl ⟨q, trivial⟩)
        · refine lv_iload_n hx hb dX11_likeRule_56 rfl (lv_at hl 1 rfl) ?_
          refine q_if_eq (tgt := 97) hx hb dX11_likeRule_57 (by decide) rfl (fun b_57 k_57 => ?_) (fun b_57 k_57 => ?_)
          · refine lv_iload_n hx hb dX11_likeRule_97 rfl (lv_at hl 1 rfl) ?_
            exact hret 98 ls v3_45 dX11_likeRule_98 hz_45 (by rcases hz_45 with q | q; exact Or.inr ⟨q, trivial⟩; exact Or.inl ⟨q, trivial⟩)
          · refine lv_aload_n hx hb dX11_likeRule_60 rfl (lv_at hl 2 rfl) ?_
            refine va_get (D := g.1) (ci := 11) (v := .ref (a_m 1)) (C := RX11) (T := TX11) (N := 46) hx hb hi_X11 (fun _ h => h) hown hK.1 hP 0 rfl rfl 0 (by decide) hf_7 (fun _ h9 => h9) rfl dX11_likeRule_61 ?_
            refine lv_iload_n hx hb dX11_likeRule_64 rfl (lv_at hl 3 rfl) ?_
            refine lv_iconst (v := 1) hx hb dX11_likeRule_65 (by decide) ?_
            refine r_iadd hx hb dX11_likeRule_66 rfl (by decide : (1 : Int32).toInt = 1) (fun x4 e_x4 t_x4 => ?_)
            try have t_x4 := t_x4 (by omega)
            refine lv_iload hx hb dX11_likeRule_67 (lv_at hl 0 rfl) ?_
            refine r_iadd hx hb dX11_likeRule_69 rfl rfl (fun x5 e_x5 t_x5 => ?_)
            try have t_x5 := t_x5 (by omega)
            have n_70 : vp_in x5 19800 := (t_in (by omega))
            refine va_iald hx hb hK.1 hP 1 0 rfl rfl n_70 dX11_likeRule_70 ?_
            refine q_nm (fun x6 e_x6 => ?_)
            have e_x6 : x6 = (I_m 1) x5.toNatClampNeg := e_x6
            have g_x6 : x6.toInt = ((I_m 1) x5.toNatClampNeg).toInt := congrArg _ e_x6
            refine lv_aload_n hx hb dX11_likeRule_71 rfl (lv_at hl 2 rfl) ?_
            refine va_get (D := g.1) (ci := 11) (v := .ref (a_m 1)) (C := RX11) (T := TX11) (N := 46) hx hb hi_X11 (fun _ h => h) hown hK.1 hP 0 rfl rfl 0 (by decide) hf_7 (fun _ h9 => h9) rfl dX11_likeRule_72 ?_
            refine lv_iload_n hx hb dX11_likeRule_75 rfl (lv_at hl 4 rfl) ?_
            refine lv_iconst (v := 1) hx hb dX11_likeRule_76 (by decide) ?_
            refine r_iadd hx hb dX11_likeRule_77 rfl (by decide : (1 : Int32).toInt = 1) (fun x7 e_x7 t_x7 => ?_)
            try have t_x7 := t_x7 (by omega)
            refine lv_iload hx hb dX11_likeRule_78 (lv_at hl 0 rfl) ?_
            refine r_iadd hx hb dX11_likeRule_80 rfl rfl (fun x8 e_x8 t_x8 => ?_)
            try have t_x8 := t_x8 (by omega)
            have n_81 : vp_in x8 19800 := (t_in (by omega))
            refine va_iald hx hb hK.1 hP 1 0 rfl rfl n_81 dX11_likeRule_81 ?_
            refine q_nm (fun x9 e_x9 => ?_)
            have e_x9 : x9 = (I_m 1) x8.toNatClampNeg := e_x9
            have g_x9 : x9.toInt = ((I_m 1) x8.toNatClampNeg).toInt := congrArg _ e_x9
            refine q_icmp_ne (tgt := 89) hx hb dX11_likeRule_82 (by decide) rfl rfl (fun k_82 => ?_) (fun k_82 => ?_)
            · refine lv_iconst (v := 0) hx hb dX11_likeRule_89 (by decide) ?_
              refine lv_istore_n (lv' := [(3, .int (0 : Int32)), (4, .int v4_45), (0, .ref (a_m 0)), (1, .int a), (2, .int b)]) hx hb dX11_likeRule_90 rfl hl (by decide) rfl (fun ls hl => ?_)
              refine r_iinc (lv' := fun i10 => [(4, .int i10), (3, .int (0 : Int32)), (0, .ref (a_m 0)), (1, .int a), (2, .int b)]) hx hb dX11_likeRule_91 hl (k := 1) rfl (by decide) rfl (by decide) (fun _ => rfl) (fun i10 e_i10 t_i10 ls hl => ?_)
              try have t_i10 := t_i10 (by omega)
              refine lv_goto (tgt := 45) hx hb dX11_likeRule_94 (by decide) ?_
              exact ih_45 (0 : Int32) i10 (by omega) (by first | exact Or.inl rfl | exact Or.inr rfl) (by omega) ls hl
            · refine lv_iconst (v := 1) hx hb dX11_likeRule_85 (by decide) ?_
              refine lv_goto (tgt := 90) hx hb dX11_likeRule_86 (by decide) ?_
              refine lv_istore_n (lv' := [(3, .int (1 : Int32)), (4, .int v4_45), (0, .ref (a_m 0)), (1, .int a), (2, .int b)]) hx hb dX11_likeRule_90 rfl hl (by decide) rfl (fun ls hl => ?_)
              refine r_iinc (lv' := fun i11 => [(4, .int i11), (3, .int (1 : Int32)), (0, .ref (a_m 0)), (1, .int a), (2, .int b)]) hx hb dX11_likeRule_91 hl (k := 1) rfl (by decide) rfl (by decide) (fun _ => rfl) (fun i11 e_i11 t_i11 ls hl => ?_)
              try have t_i11 := t_i11 (by omega)
              refine lv_goto (tgt := 45) hx hb dX11_likeRule_94 (by decide) ?_
              exact ih_45 (1 : Int32) i11 (by omega) (by first | exact Or.inl rfl | exact Or.inr rfl) (by omega) ls hl
    exact L45 ((7 - (0 : Int32).toInt) + 1).toNat (0 : Int32) (0 : Int32) (by omega) (by first | exact Or.inl rfl | exact Or.inr rfl) (by omega) ls hl
  · refine lv_aload_n hx hb dX11_likeRule_15 rfl (lv_at hl 0 rfl) ?_
    refine va_get (D := g.1) (ci := 11) (v := .ref (a_m 1)) (C := RX11) (T := TX11) (N := 46) hx hb hi_X11 (fun _ h => h) hown hK.1 hP 0 rfl rfl 0 (by decide) hf_7 (fun _ h9 => h9) rfl dX11_likeRule_16 ?_
    refine lv_iload_n hx hb dX11_likeRule_19 rfl (lv_at hl 1 rfl) ?_
    refine lv_bipush (v := 11) hx hb dX11_likeRule_20 (by decide) ?_
    refine r_iadd hx hb dX11_likeRule_22 rfl (by decide : (11 : Int32).toInt = 11) (fun x12 e_x12 t_x12 => ?_)
    try have t_x12 := t_x12 (by omega)
    have n_23 : vp_in x12 19800 := (t_in (by omega))
    refine va_iald hx hb hK.1 hP 1 0 rfl rfl n_23 dX11_likeRule_23 ?_
    refine q_nm (fun x13 e_x13 => ?_)
    have e_x13 : x13 = (I_m 1) x12.toNatClampNeg := e_x13
    have g_x13 : x13.toInt = ((I_m 1) x12.toNatClampNeg).toInt := congrArg _ e_x13
    refine lv_aload_n hx hb dX11_likeRule_24 rfl (lv_at hl 0 rfl) ?_
    refine va_get (D := g.1) (ci := 11) (v := .ref (a_m 1)) (C := RX11) (T := TX11) (N := 46) hx hb hi_X11 (fun _ h => h) hown hK.1 hP 0 rfl rfl 0 (by decide) hf_7 (fun _ h9 => h9) rfl dX11_likeRule_25 ?_
    refine lv_iload_n hx hb dX11_likeRule_28 rfl (lv_at hl 2 rfl) ?_
    refine lv_bipush (v := 11) hx hb dX11_likeRule_29 (by decide) ?_
    refine r_iadd hx hb dX11_likeRule_31 rfl (by decide : (11 : Int32).toInt = 11) (fun x14 e_x14 t_x14 => ?_)
    try have t_x14 := t_x14 (by omega)
    have n_32 : vp_in x14 19800 := (t_in (by omega))
    refine va_iald hx hb hK.1 hP 1 0 rfl rfl n_32 dX11_likeRule_32 ?_
    refine q_nm (fun x15 e_x15 => ?_)
    have e_x15 : x15 = (I_m 1) x14.toNatClampNeg := e_x15
    have g_x15 : x15.toInt = ((I_m 1) x14.toNatClampNeg).toInt := congrArg _ e_x15
    refine q_icmp_ne (tgt := 40) hx hb dX11_likeRule_33 (by decide) rfl rfl (fun k_33 => ?_) (fun k_33 => ?_)
    · refine lv_iconst (v := 0) hx hb dX11_likeRule_40 (by decide) ?_
      refine lv_istore_n (lv' := [(3, .int (0 : Int32)), (0, .ref (a_m 0)), (1, .int a), (2, .int b)]) hx hb dX11_likeRule_41 rfl hl (by decide) rfl (fun ls hl => ?_)
      refine lv_iconst (v := 0) hx hb dX11_likeRule_42 (by decide) ?_
      refine lv_istore (lv' := [(4, .int (0 : Int32)), (3, .int (0 : Int32)), (0, .ref (a_m 0)), (1, .int a), (2, .int b)]) hx hb dX11_likeRule_43 hl (by decide) rfl (fun ls hl => ?_)
      have L45 : ∀ (nn : Nat) (v3_45 : Int32) (v4_45 : Int32), (hv_45 : 0 ≤ v4_45.toInt ∧ v4_45.toInt ≤ 6) → (hz_45 : v3_45 = 0 ∨ v3_45 = 1) → ((7 - v4_45.toInt) < (nn : Int)) → ∀ ls : Array Slot, lv_has ls 5 [(4, .int v4_45), (3, .int v3_45), (0, .ref (a_m 0)), (1, .int a), (2, .int b)] → W p l e (rm 0) s m args below meth c s.heap [] 0 0 Q (F0 m 45 ls []) := by
        intro n_45
        induction n_45 with
        | zero =>
          intro v3_45 v4_45 hv_45 hz_45 hms_45 ls hl
          exfalso; omega
        | succ n_45 ih_45 =>
          intro v3_45 v4_45 hv_45 hz_45 hms_45 ls hl
          refine lv_iload hx hb dX11_likeRule_45 (lv_at hl 0 rfl) ?_
          refine lv_aload_n hx hb dX11_likeRule_47 rfl (lv_at hl 2 rfl) ?_
          refine va_get (D := g.1) (ci := 11) (v := .ref (a_m 1)) (C := RX11) (T := TX11) (N := 46) hx hb hi_X11 (fun _ h => h) hown hK.1 hP 0 rfl rfl 0 (by decide) hf_7 (fun _ h9 => h9) rfl dX11_likeRule_48 ?_
          refine lv_iload_n hx hb dX11_likeRule_51 rfl (lv_at hl 3 rfl) ?_
          have n_52 : vp_in a 19800 := (t_in (by omega))
          refine va_iald hx hb hK.1 hP 1 0 rfl rfl n_52 dX11_likeRule_52 ?_
          refine q_nm (fun x16 e_x16 => ?_)
          have e_x16 : x16 = (I_m 1) a.toNatClampNeg := e_x16
          have g_x16 : x16.toInt = ((I_m 1) a.toNatClampNeg).toInt := congrArg _ e_x16
          have hl52 : x16.toInt ≤ 6 := by rw [e_x16]; exact h_l
          refine q_icmp_ge (tgt := 97) hx hb dX11_likeRule_53 (by decide) rfl rfl (fun k_53 => ?_) (fun k_53 => ?_)
          · refine lv_iload_n hx hb dX11_likeRule_97 rfl (lv_at hl 1 rfl) ?_
            exact hret 98 ls v3_45 dX11_likeRule_98 hz_45 (by rcases hz_45 with q | q; exact Or.inr ⟨q, trivial⟩; exact Or.inl ⟨q, trivial⟩)
          · refine lv_iload_n hx hb dX11_likeRule_56 rfl (lv_at hl 1 rfl) ?_
            refine q_if_eq (tgt := 97) hx hb dX11_likeRule_57 (by decide) rfl (fun b_57 k_57 => ?_) (fun b_57 k_57 => ?_)
            · refine lv_iload_n hx hb dX11_likeRule_97 rfl (lv_at hl 1 rfl) ?_
              exact hret 98 ls v3_45 dX11_likeRule_98 hz_45 (by rcases hz_45 with q | q; exact Or.inr ⟨q, trivial⟩; exact Or.inl ⟨q, trivial⟩)
            · refine lv_aload_n hx hb dX11_likeRule_60 rfl (lv_at hl 2 rfl) ?_
              refine va_get (D := g.1) (ci := 11) (v := .ref (a_m 1)) (C := RX11) (T := TX11) (N := 46) hx hb hi_X11 (fun _ h => h) hown hK.1 hP 0 rfl rfl 0 (by decide) hf_7 (fun _ h9 => h9) rfl dX11_likeRule_61 ?_
              refine lv_iload_n hx hb dX11_likeRule_64 rfl (lv_at hl 3 rfl) ?_
              refine lv_iconst (v := 1) hx hb dX11_likeRule_65 (by decide) ?_
              refine r_iadd hx hb dX11_likeRule_66 rfl (by decide : (1 : Int32).toInt = 1) (fun x17 e_x17 t_x17 => ?_)
              try have t_x17 := t_x17 (by omega)
              refine lv_iload hx hb dX11_likeRule_67 (lv_at hl 0 rfl) ?_
              refine r_iadd hx hb dX11_likeRule_69 rfl rfl (fun x18 e_x18 t_x18 => ?_)
              try have t_x18 := t_x18 (by omega)
              have n_70 : vp_in x18 19800 := (t_in (by omega))
              refine va_iald hx hb hK.1 hP 1 0 rfl rfl n_70 dX11_likeRule_70 ?_
              refine q_nm (fun x19 e_x19 => ?_)
              have e_x19 : x19 = (I_m 1) x18.toNatClampNeg := e_x19
              have g_x19 : x19.toInt = ((I_m 1) x18.toNatClampNeg).toInt := congrArg _ e_x19
              refine lv_aload_n hx hb dX11_likeRule_71 rfl (lv_at hl 2 rfl) ?_
              refine va_get (D := g.1) (ci := 11) (v := .ref (a_m 1)) (C := RX11) (T := TX11) (N := 46) hx hb hi_X11 (fun _ h => h) hown hK.1 hP 0 rfl rfl 0 (by decide) hf_7 (fun _ h9 => h9) rfl dX11_likeRule_72 ?_
              refine lv_iload_n hx hb dX11_likeRule_75 rfl (lv_at hl 4 rfl) ?_
              refine lv_iconst (v := 1) hx hb dX11_likeRule_76 (by decide) ?_
              refine r_iadd hx hb dX11_likeRule_77 rfl (by decide : (1 : Int32).toInt = 1) (fun x20 e_x20 t_x20 => ?_)
              try have t_x20 := t_x20 (by omega)
              refine lv_iload hx hb dX11_likeRule_78 (lv_at hl 0 rfl) ?_
              refine r_iadd hx hb dX11_likeRule_80 rfl rfl (fun x21 e_x21 t_x21 => ?_)
              try have t_x21 := t_x21 (by omega)
              have n_81 : vp_in x21 19800 := (t_in (by omega))
              refine va_iald hx hb hK.1 hP 1 0 rfl rfl n_81 dX11_likeRule_81 ?_
              refine q_nm (fun x22 e_x22 => ?_)
              have e_x22 : x22 = (I_m 1) x21.toNatClampNeg := e_x22
              have g_x22 : x22.toInt = ((I_m 1) x21.toNatClampNeg).toInt := congrArg _ e_x22
              refine q_icmp_ne (tgt := 89) hx hb dX11_likeRule_82 (by decide) rfl rfl (fun k_82 => ?_) (fun k_82 => ?_)
              · refine lv_iconst (v := 0) hx hb dX11_likeRule_89 (by decide) ?_
                refine lv_istore_n (lv' := [(3, .int (0 : Int32)), (4, .int v4_45), (0, .ref (a_m 0)), (1, .int a), (2, .int b)]) hx hb dX11_likeRule_90 rfl hl (by decide) rfl (fun ls hl => ?_)
                refine r_iinc (lv' := fun i23 => [(4, .int i23), (3, .int (0 : Int32)), (0, .ref (a_m 0)), (1, .int a), (2, .int b)]) hx hb dX11_likeRule_91 hl (k := 1) rfl (by decide) rfl (by decide) (fun _ => rfl) (fun i23 e_i23 t_i23 ls hl => ?_)
                try have t_i23 := t_i23 (by omega)
                refine lv_goto (tgt := 45) hx hb dX11_likeRule_94 (by decide) ?_
                exact ih_45 (0 : Int32) i23 (by omega) (by first | exact Or.inl rfl | exact Or.inr rfl) (by omega) ls hl
              · refine lv_iconst (v := 1) hx hb dX11_likeRule_85 (by decide) ?_
                refine lv_goto (tgt := 90) hx hb dX11_likeRule_86 (by decide) ?_
                refine lv_istore_n (lv' := [(3, .int (1 : Int32)), (4, .int v4_45), (0, .ref (a_m 0)), (1, .int a), (2, .int b)]) hx hb dX11_likeRule_90 rfl hl (by decide) rfl (fun ls hl => ?_)
                refine r_iinc (lv' := fun i24 => [(4, .int i24), (3, .int (1 : Int32)), (0, .ref (a_m 0)), (1, .int a), (2, .int b)]) hx hb dX11_likeRule_91 hl (k := 1) rfl (by decide) rfl (by decide) (fun _ => rfl) (fun i24 e_i24 t_i24 ls hl => ?_)
                try have t_i24 := t_i24 (by omega)
                refine lv_goto (tgt := 45) hx hb dX11_likeRule_94 (by decide) ?_
                exact ih_45 (1 : Int32) i24 (by omega) (by first | exact Or.inl rfl | exact Or.inr rfl) (by omega) ls hl
      exact L45 ((7 - (0 : Int32).toInt) + 1).toNat (0 : Int32) (0 : Int32) (by omega) (by first | exact Or.inl rfl | exact Or.inr rfl) (by omega) ls hl
    · refine lv_iconst (v := 1) hx hb dX11_likeRule_36 (by decide) ?_
      refine lv_goto (tgt := 41) hx hb dX11_likeRule_37 (by decide) ?_
      refine lv_istore_n (lv' := [(3, .int (1 : Int32)), (0, .ref (a_m 0)), (1, .int a), (2, .int b)]) hx hb dX11_likeRule_41 rfl hl (by decide) rfl (fun ls hl => ?_)
      refine lv_iconst (v := 0) hx hb dX11_likeRule_42 (by decide) ?_
      refine lv_istore (lv' := [(4, .int (0 : Int32)), (3, .int (1 : Int32)), (0, .ref (a_m 0)), (1, .int a), (2, .int b)]) hx hb dX11_likeRule_43 hl (by decide) rfl (fun ls hl => ?_)
      have L45 : ∀ (nn : Nat) (v3_45 : Int32) (v4_45 : Int32), (hv_45 : 0 ≤ v4_45.toInt ∧ v4_45.toInt ≤ 6) → (hz_45 : v3_45 = 0 ∨ v3_45 = 1) → ((7 - v4_45.toInt) < (nn : Int)) → ∀ ls : Array Slot, lv_has ls 5 [(4, .int v4_45), (3, .int v3_45), (0, .ref (a_m 0)), (1, .int a), (2, .int b)] → W p l e (rm 0) s m args below meth c s.heap [] 0 0 Q (F0 m 45 ls []) := by
        intro n_45
        induction n_45 with
        | zero =>
          intro v3_45 v4_45 hv_45 hz_45 hms_45 ls hl
          exfalso; omega
        | succ n_45 ih_45 =>
          intro v3_45 v4_45 hv_45 hz_45 hms_45 ls hl
          refine lv_iload hx hb dX11_likeRule_45 (lv_at hl 0 rfl) ?_
          refine lv_aload_n hx hb dX11_likeRule_47 rfl (lv_at hl 2 rfl) ?_
          refine va_get (D := g.1) (ci := 11) (v := .ref (a_m 1)) (C := RX11) (T := TX11) (N := 46) hx hb hi_X11 (fun _ h => h) hown hK.1 hP 0 rfl rfl 0 (by decide) hf_7 (fun _ h9 => h9) rfl dX11_likeRule_48 ?_
          refine lv_iload_n hx hb dX11_likeRule_51 rfl (lv_at hl 3 rfl) ?_
          have n_52 : vp_in a 19800 := (t_in (by omega))
          refine va_iald hx hb hK.1 hP 1 0 rfl rfl n_52 dX11_likeRule_52 ?_
          refine q_nm (fun x25 e_x25 => ?_)
          have e_x25 : x25 = (I_m 1) a.toNatClampNeg := e_x25
          have g_x25 : x25.toInt = ((I_m 1) a.toNatClampNeg).toInt := congrArg _ e_x25
          have hl52 : x25.toInt ≤ 6 := by rw [e_x25]; exact h_l
          refine q_icmp_ge (tgt := 97) hx hb dX11_likeRule_53 (by decide) rfl rfl (fun k_53 => ?_) (fun k_53 => ?_)
          · refine lv_iload_n hx hb dX11_likeRule_97 rfl (lv_at hl 1 rfl) ?_
            exact hret 98 ls v3_45 dX11_likeRule_98 hz_45 (by rcases hz_45 with q | q; exact Or.inr ⟨q, trivial⟩; exact Or.inl ⟨q, trivial⟩)
          · refine lv_iload_n hx hb dX11_likeRule_56 rfl (lv_at hl 1 rfl) ?_
            refine q_if_eq (tgt := 97) hx hb dX11_likeRule_57 (by decide) rfl (fun b_57 k_57 => ?_) (fun b_57 k_57 => ?_)
            · refine lv_iload_n hx hb dX11_likeRule_97 rfl (lv_at hl 1 rfl) ?_
              exact hret 98 ls v3_45 dX11_likeRule_98 hz_45 (by rcases hz_45 with q | q; exact Or.inr ⟨q, trivial⟩; exact Or.inl ⟨q, trivial⟩)
            · refine lv_aload_n hx hb dX11_likeRule_60 rfl (lv_at hl 2 rfl) ?_
              refine va_get (D := g.1) (ci := 11) (v := .ref (a_m 1)) (C := RX11) (T := TX11) (N := 46) hx hb hi_X11 (fun _ h => h) hown hK.1 hP 0 rfl rfl 0 (by decide) hf_7 (fun _ h9 => h9) rfl dX11_likeRule_61 ?_
              refine lv_iload_n hx hb dX11_likeRule_64 rfl (lv_at hl 3 rfl) ?_
              refine lv_iconst (v := 1) hx hb dX11_likeRule_65 (by decide) ?_
              refine r_iadd hx hb dX11_likeRule_66 rfl (by decide : (1 : Int32).toInt = 1) (fun x26 e_x26 t_x26 => ?_)
              try have t_x26 := t_x26 (by omega)
              refine lv_iload hx hb dX11_likeRule_67 (lv_at hl 0 rfl) ?_
              refine r_iadd hx hb dX11_likeRule_69 rfl rfl (fun x27 e_x27 t_x27 => ?_)
              try have t_x27 := t_x27 (by omega)
              have n_70 : vp_in x27 19800 := (t_in (by omega))
              refine va_iald hx hb hK.1 hP 1 0 rfl rfl n_70 dX11_likeRule_70 ?_
              refine q_nm (fun x28 e_x28 => ?_)
              have e_x28 : x28 = (I_m 1) x27.toNatClampNeg := e_x28
              have g_x28 : x28.toInt = ((I_m 1) x27.toNatClampNeg).toInt := congrArg _ e_x28
              refine lv_aload_n hx hb dX11_likeRule_71 rfl (lv_at hl 2 rfl) ?_
              refine va_get (D := g.1) (ci := 11) (v := .ref (a_m 1)) (C := RX11) (T := TX11) (N := 46) hx hb hi_X11 (fun _ h => h) hown hK.1 hP 0 rfl rfl 0 (by decide) hf_7 (fun _ h9 => h9) rfl dX11_likeRule_72 ?_
              refine lv_iload_n hx hb dX11_likeRule_75 rfl (lv_at hl 4 rfl) ?_
              refine lv_iconst (v := 1) hx hb dX11_likeRule_76 (by decide) ?_
              refine r_iadd hx hb dX11_likeRule_77 rfl (by decide : (1 : Int32).toInt = 1) (fun x29 e_x29 t_x29 => ?_)
              try have t_x29 := t_x29 (by omega)
              refine lv_iload hx hb dX11_likeRule_78 (lv_at hl 0 rfl) ?_
              refine r_iadd hx hb dX11_likeRule_80 rfl rfl (fun x30 e_x30 t_x30 => ?_)
              try have t_x30 := t_x30 (by omega)
              have n_81 : vp_in x30 19800 := (t_in (by omega))
              refine va_iald hx hb hK.1 hP 1 0 rfl rfl n_81 dX11_likeRule_81 ?_
              refine q_nm (fun x31 e_x31 => ?_)
              have e_x31 : x31 = (I_m 1) x30.toNatClampNeg := e_x31
              have g_x31 : x31.toInt = ((I_m 1) x30.toNatClampNeg).toInt := congrArg _ e_x31
              refine q_icmp_ne (tgt := 89) hx hb dX11_likeRule_82 (by decide) rfl rfl (fun k_82 => ?_) (fun k_82 => ?_)
              · refine lv_iconst (v := 0) hx hb dX11_likeRule_89 (by decide) ?_
                refine lv_istore_n (lv' := [(3, .int (0 : Int32)), (4, .int v4_45), (0, .ref (a_m 0)), (1, .int a), (2, .int b)]) hx hb dX11_likeRule_90 rfl hl (by decide) rfl (fun ls hl => ?_)
                refine r_iinc (lv' := fun i32 => [(4, .int i32), (3, .int (0 : Int32)), (0, .ref (a_m 0)), (1, .int a), (2, .int b)]) hx hb dX11_likeRule_91 hl (k := 1) rfl (by decide) rfl (by decide) (fun _ => rfl) (fun i32 e_i32 t_i32 ls hl => ?_)
                try have t_i32 := t_i32 (by omega)
                refine lv_goto (tgt := 45) hx hb dX11_likeRule_94 (by decide) ?_
                exact ih_45 (0 : Int32) i32 (by omega) (by first | exact Or.inl rfl | exact Or.inr rfl) (by omega) ls hl
              · refine lv_iconst (v := 1) hx hb dX11_likeRule_85 (by decide) ?_
                refine lv_goto (tgt := 90) hx hb dX11_likeRule_86 (by decide) ?_
                refine lv_istore_n (lv' := [(3, .int (1 : Int32)), (4, .int v4_45), (0, .ref (a_m 0)), (1, .int a), (2, .int b)]) hx hb dX11_likeRule_90 rfl hl (by decide) rfl (fun ls hl => ?_)
                refine r_iinc (lv' := fun i33 => [(4, .int i33), (3, .int (1 : Int32)), (0, .ref (a_m 0)), (1, .int a), (2, .int b)]) hx hb dX11_likeRule_91 hl (k := 1) rfl (by decide) rfl (by decide) (fun _ => rfl) (fun i33 e_i33 t_i33 ls hl => ?_)
                try have t_i33 := t_i33 (by omega)
                refine lv_goto (tgt := 45) hx hb dX11_likeRule_94 (by decide) ?_
                exact ih_45 (1 : Int32) i33 (by omega) (by first | exact Or.inl rfl | exact Or.inr rfl) (by omega) ls hl
      exact L45 ((7 - (0 : Int32).toInt) + 1).toNat (1 : Int32) (0 : Int32) (by omega) (by first | exact Or.inl rfl | exact Or.inr rfl) (by omega) ls hl

set_option maxHeartbeats 4000000 in
set_option maxRecDepth 100000 in
theorem kX11_aRule (l : Launch) (g : gG) (ad av : Nat → Nat) (a_m : Nat → Nat) (I_m : Nat → Nat → Int32) (J_m : Nat → Nat → Int64) (hM : MI I_m) (hN : NS I_m) (h_p : PS I_m) : EffIS l g ad av yX11_aRule wsX11_aRule 6 [.ref (a_m 0)] (wX11 g a_m I_m J_m) (fun (u : (Nat → Nat → Int32)) => wX11 g a_m u J_m) (fun r (u : (Nat → Nat → Int32)) => MI (u) ∧ KK [1] [11, 12, 13, 14, 16, 17] I_m (u) ∧ PQ I_m (u) ∧ (r = 0 ∨ r = 1) ∧ (r = 1 → AD I_m (u)) ∧ NS (u)) := by
  refine EffIS.sz (cc := cX11_aRule) (maxL := 5) (by decide) rfl (Nat.le_of_ble_eq_true rfl) (fun p e s m args below meth c A Q ls fx hK hP hD hA hS hJ hl hret => ?_)
  have hx := fx.1
  have hb := fx.2.1
  have hml := fx.2.2.1
  have hown := fx.2.2.2.1
  have hts := fx.2.2.2.2
  have hl : lv_has ls 5 [(0, .ref (a_m 0))] := hl
  have hP : va_P g.1 vwCl (wX11 g a_m I_m J_m) s.heap := hP
  have hf_7 := hts _ (uT _ _ u_170)
  have hf_131 := hts _ (uT _ _ u_513)
  have hf_138 := hts _ (uT _ _ u_519)
  have hf_141 := hts _ (uT _ _ u_520)
  have hf_144 := hts _ (uT _ _ u_506)
  have hi_X11 : ∀ w ∈ wsX110, w.before args s = true := fun w h => hts w (uT _ w (u_wsX110 w h))
  have lm1 : (-1 : Int32).toInt = -1 := by decide
  have lm0 : (0 : Int32).toInt = 0 := by decide
  have lm2 : (1 : Int32).toInt = 1 := by decide
  have lq2 : (2 : Int32).toInt = 2 := by decide
  have lq3 : (3 : Int32).toInt = 3 := by decide
  have lq4 : (4 : Int32).toInt = 4 := by decide
  have lq5 : (5 : Int32).toInt = 5 := by decide
  have lq6 : (6 : Int32).toInt = 6 := by decide
  have lq7 : (7 : Int32).toInt = 7 := by decide
  have lq32 : (32 : Int32).toInt = 32 := by decide
  have lq10 : (10 : Int32).toInt = 10 := by decide
  have lq13200 : (13200 : Int32).toInt = 13200 := by decide
  have lq24 : (24 : Int32).toInt = 24 := by decide
  have lq63 : (63 : Int32).toInt = 63 := by decide
  refine lv_aload_n hx hb dX11_aRule_0 rfl (lv_at hl 0 rfl) ?_
  refine va_get (D := g.1) (ci := 11) (v := .ref (a_m 1)) (C := RX11) (T := TX11) (N := 46) hx hb hi_X11 (fun _ h => h) hown hK.1 hP 0 rfl rfl 0 (by decide) hf_7 (fun _ h9 => h9) rfl dX11_aRule_1 ?_
  refine lv_sipush (v := 13200) hx hb dX11_aRule_4 (by decide) ?_
  have n_7 : vp_in (13200 : Int32) 19800 := (t_in (by decide))
  refine va_iald hx hb hK.1 hP 1 0 rfl rfl n_7 dX11_aRule_7 ?_
  refine q_nm (fun x1 e_x1 => ?_)
  have e_x1 : x1 = (I_m 1) 13200 := e_x1
  have g_x1 : x1.toInt = ((I_m 1) 13200).toInt := congrArg _ e_x1
  have f_x1 := hN.many e_x1
  refine lv_istore_n (lv' := [(1, .int x1), (0, .ref (a_m 0))]) hx hb dX11_aRule_8 rfl hl (by decide) rfl (fun ls hl => ?_)
  refine lv_sipush (v := 13200) hx hb dX11_aRule_9 (by decide) ?_
  refine lv_iload_n hx hb dX11_aRule_12 rfl (lv_at hl 0 rfl) ?_
  refine PurI.cs (C := RX11) (As := [.int (13200 : Int32), .int x1]) (kX11_ruleAt l g (13200 : Int32) x1 (by omega) (by omega)) fx (gUS (uT _) u_554 u_555 u_5 u_556) rfl hdX11_ruleAt ⟨Nat.le_of_ble_eq_true rfl, Nat.le_of_ble_eq_true rfl⟩ hK hP [] rfl rfl rfl hl.1 (Nat.le_of_ble_eq_true rfl) dX11_aRule_13 (fun r2 p_r2 => ?_)
  refine lv_istore_n (lv' := [(2, .int r2), (1, .int x1), (0, .ref (a_m 0))]) hx hb dX11_aRule_16 rfl hl (by decide) rfl (fun ls hl => ?_)
  refine lv_iload_n hx hb dX11_aRule_17 rfl (lv_at hl 1 rfl) ?_
  refine lv_bipush (v := 24) hx hb dX11_aRule_18 (by decide) ?_
  refine q_icmp_ne (tgt := 30) hx hb dX11_aRule_20 (by decide) rfl (by decide : (24 : Int32).toInt = 24) (fun k_20 => ?_) (fun k_20 => ?_)
  · have hA20 : RA I_m ((x1).toInt) 0 0 := RA.mk hN (by rw [← e_x1]) (by omega)
    refine lv_aload_n hx hb dX11_aRule_30 rfl (lv_at hl 2 rfl) ?_
    refine EffV.cv (wr := ([])) (w' := fun u4 => wX11 g a_m u4 J_m) (As := []) (kX11_ahead l g a_m I_m J_m (PQ.rf h_p).1.1) fx (gUV (uT _) u_515 u_516 u_517 u_5 u_518) rfl hdX11_ahead ⟨Nat.le_of_ble_eq_true rfl, Nat.le_of_ble_eq_true rfl⟩ hK hP hD hS hA [0, 1, 2, 3, 4, 5, 6, 7, 8, 9, 10, 11, 12, 13, 14, 15, 16, 17, 18, 19, 20, 21, 22] [] [0, 1, 2, 3, 4, 5, 6, 7, 8, 9, 10, 11, 12, 13, 14, 15, 16, 17, 18, 19, 20, 21, 22] rfl rfl rfl rfl (by decide) rfl (fun _ => rfl) rfl rfl rfl rfl hl.1 (Nat.le_of_ble_eq_true rfl) dX11_aRule_31 (fun u4 H locs p_r3 hP hD hS => ?_)
    have hP : va_P g.1 vwCl (wX11 g a_m u4 J_m) H := hP
    have hD : va_D A (wX11 g a_m u4 J_m) := hD
    have hA31 := hA20.kk p_r3.1 (by decide)
    have hps31 := p_r3.2.1.1.1
    have hpt31 := p_r3.2.1.1.2
    have hpu31 := p_r3.2.1.2.1
    have hpv31 := p_r3.2.1.2.2.2
    refine lv_aload_n hx hb dX11_aRule_34 rfl (lv_at hl 2 rfl) ?_
    refine va_get (D := g.1) (ci := 11) (v := .int (u4 0 11)) (C := RX11) (T := TX11) (N := 46) hx hb hi_X11 (fun _ h => h) hown hK.1 hP 0 rfl rfl 11 (by decide) hf_144 (fun _ h9 => h9) rfl dX11_aRule_35 ?_
    refine lv_iconst (v := 2) hx hb dX11_aRule_38 (by decide) ?_
    refine q_icmp_ne (tgt := 56) hx hb dX11_aRule_39 (by decide) rfl (by decide : (2 : Int32).toInt = 2) (fun k_39 => ?_) (fun k_39 => ?_)
    · refine lv_aload_n hx hb dX11_aRule_56 rfl (lv_at hl 2 rfl) ?_
      refine lv_iconst (v := 2) hx hb dX11_aRule_57 (by decide) ?_
      refine EffI.cv (wr := ([])) (w' := fun u6 => wX11 g a_m u6 J_m) (As := [.int (2 : Int32)]) (kX11_fails l g a_m u4 J_m (2 : Int32)) fx (gUV (uT _) u_557 u_558 u_559 u_5 u_560) rfl hdX11_fails ⟨Nat.le_of_ble_eq_true rfl, Nat.le_of_ble_eq_true rfl⟩ hK hP hD hS hA [0, 1, 2, 3, 4, 5, 6, 7, 8, 9, 10, 11, 12, 13, 14, 15, 16, 17, 18, 19, 20, 21, 22] [] [0, 1, 2, 3, 4, 5, 6, 7, 8, 9, 10, 11, 12, 13, 14, 15, 16, 17, 18, 19, 20, 21, 22] rfl rfl rfl rfl (by decide) rfl (fun _ => rfl) rfl rfl rfl rfl hl.1 (Nat.le_of_ble_eq_true rfl) dX11_aRule_58 (fun r5 u6 H locs p_r5 hP hD hS => ?_)
      have hP : va_P g.1 vwCl (wX11 g a_m u6 J_m) H := hP
      have hD : va_D A (wX11 g a_m u6 J_m) := hD
      refine hret 61 ls r5 _ _ u6 dX11_aRule_61 (Or.inl p_r5.2) hS hP hD ?_
      exact ⟨(MI.kk (MI.kk hM p_r3.1 (by decide) (by decide)) p_r5.1 (by decide) (by decide)), (KK.tr (KK.tr (KK.rf I_m) p_r3.1 (by decide) (by decide)) p_r5.1 (by decide) (by decide)), ⟨(PQ.kk (PQ.ah (PQ.rf h_p) p_r3.2) p_r5.1 (by decide)), Or.inl p_r5.2, fun q => absurd (q.symm.trans p_r5.2) (by decide), (hA31.kk p_r5.1 (by decide)).1⟩⟩
    · have he31 := hpv31 k_39
      refine lv_aload_n hx hb dX11_aRule_42 rfl (lv_at hl 2 rfl) ?_
      refine va_get (D := g.1) (ci := 11) (v := .int (u4 0 13)) (C := RX11) (T := TX11) (N := 46) hx hb hi_X11 (fun _ h => h) hown hK.1 hP 0 rfl rfl 13 (by decide) hf_131 (fun _ h9 => h9) rfl dX11_aRule_43 ?_
      refine lv_aload_n hx hb dX11_aRule_46 rfl (lv_at hl 2 rfl) ?_
      refine va_get (D := g.1) (ci := 11) (v := .int (u4 0 12)) (C := RX11) (T := TX11) (N := 46) hx hb hi_X11 (fun _ h => h) hown hK.1 hP 0 rfl rfl 12 (by decide) hf_138 (fun _ h9 => h9) rfl dX11_aRule_47 ?_
      refine r_isub hx hb dX11_aRule_50 rfl rfl (fun x7 e_x7 t_x7 => ?_)
      try have t_x7 := t_x7 (by omega)
      refine lv_bipush (v := 6) hx hb dX11_aRule_51 (by decide) ?_
      refine q_icmp_le (tgt := 62) hx hb dX11_aRule_53 (by decide) rfl (by decide : (6 : Int32).toInt = 6) (fun k_53 => ?_) (fun k_53 => ?_)
      · refine lv_aload_n hx hb dX11_aRule_62 rfl (lv_at hl 2 rfl) ?_
        refine va_get (D := g.1) (ci := 11) (v := .ref (a_m 1)) (C := RX11) (T := TX11) (N := 46) hx hb hi_X11 (fun _ h => h) hown hK.1 hP 0 rfl rfl 0 (by decide) hf_7 (fun _ h9 => h9) rfl dX11_aRule_63 ?_
        refine lv_iload_n hx hb dX11_aRule_66 rfl (lv_at hl 0 rfl) ?_
        refine lv_aload_n hx hb dX11_aRule_67 rfl (lv_at hl 2 rfl) ?_
        refine va_get (D := g.1) (ci := 11) (v := .int (u4 0 13)) (C := RX11) (T := TX11) (N := 46) hx hb hi_X11 (fun _ h => h) hown hK.1 hP 0 rfl rfl 13 (by decide) hf_131 (fun _ h9 => h9) rfl dX11_aRule_68 ?_
        refine lv_aload_n hx hb dX11_aRule_71 rfl (lv_at hl 2 rfl) ?_
        refine va_get (D := g.1) (ci := 11) (v := .int (u4 0 12)) (C := RX11) (T := TX11) (N := 46) hx hb hi_X11 (fun _ h => h) hown hK.1 hP 0 rfl rfl 12 (by decide) hf_138 (fun _ h9 => h9) rfl dX11_aRule_72 ?_
        refine r_isub hx hb dX11_aRule_75 rfl rfl (fun x8 e_x8 t_x8 => ?_)
        try have t_x8 := t_x8 (by omega)
        have n_76 : vp_in r2 19800 := (t_in (by omega))
        obtain ⟨f9, e_f9⟩ : ∃ z, z = upd (u4 1) r2.toNatClampNeg x8 := ⟨_, rfl⟩
        refine va_iast hx hb hK.1 hP hD hS 1 0 rfl rfl n_76 dX11_aRule_76 (fun H locs hP hD hS => ?_)
        have hP : va_P g.1 vwCl (wX11 g a_m (uR u4 1 f9) J_m) H := by rw [e_f9]; exact hP
        have hD : va_D A (wX11 g a_m (uR u4 1 f9) J_m) := by rw [e_f9]; exact hD
        have hc_76 : MI (uR u4 1 f9) := MI.ua (MI.kk hM p_r3.1 (by decide) (by decide)) e_f9 rfl (by omega) (by omega)
        have hk_76 : KK [1] [11, 12, 13, 14, 16, 17] I_m (uR u4 1 f9) := KK.ur (KK.tr (KK.rf I_m) p_r3.1 (by decide) (by decide)) (by decide) (by decide)
        have hp_76 : PQ I_m (uR u4 1 f9) := PQ.ur (PQ.ah (PQ.rf h_p) p_r3.2) (by decide)
        have hA76 : RA (uR u4 1 f9) ((x1).toInt) 1 0 := hA31.put (o := 0) 1 0 e_f9 rfl (by omega) (by omega) (by omega) (by omega) (by omega)
        refine lv_iconst (v := 0) hx hb dX11_aRule_77 (by decide) ?_
        refine lv_istore_n (lv' := [(3, .int (0 : Int32)), (2, .int r2), (1, .int x1), (0, .ref (a_m 0))]) hx hb dX11_aRule_78 rfl hl (by decide) rfl (fun ls hl => ?_)
        have L79 : ∀ (nn : Nat) (v3_79 : Int32) (I_m_79 : Nat → Nat → Int32), (hM_79 : MI I_m_79) → (hk_79 : KK [1] [11, 12, 13, 14, 16, 17] I_m I_m_79) → (hA_79 : RA I_m_79 ((x1).toInt) 1 0) → (hv_79 : 0 ≤ v3_79.toInt ∧ v3_79.toInt ≤ 6) → (hp_79 : PQ I_m I_m_79) → ((7 - v3_79.toInt) < (nn : Int)) → ∀ (H : Heap) (locs : List Loc), va_P g.1 vwCl (wX11 g a_m I_m_79 J_m) H → va_D A (wX11 g a_m I_m_79 J_m) → va_S A s.heap H locs → ∀ ls : Array Slot, lv_has ls 5 [(3, .int v3_79), (2, .int r2), (1, .int x1), (0, .ref (a_m 0))] → W p l e (rm 6) s m args below meth c H locs 0 0 Q (F0 m 79 ls []) := by
          intro n_79
          induction n_79 with
          | zero =>
            intro v3_79 I_m_79 hM_79 hk_79 hA_79 hv_79 hp_79 hms_79 H locs hP hD hS ls hl
            exfalso; omega
          | succ n_79 ih_79 =>
            intro v3_79 I_m_79 hM_79 hk_79 hA_79 hv_79 hp_79 hms_79 H locs hP hD hS ls hl
            have hps79 := hp_79.1.1.1
            have hpt79 := hp_79.1.1.2
            have hpu79 := hp_79.1.2.1
            have hpv79 := hp_79.1.2.2.2
            refine lv_iload_n hx hb dX11_aRule_79 rfl (lv_at hl 0 rfl) ?_
            refine lv_bipush (v := 6) hx hb dX11_aRule_80 (by decide) ?_
            refine q_icmp_ge (tgt := 130) hx hb dX11_aRule_82 (by decide) rfl (by decide : (6 : Int32).toInt = 6) (fun k_82 => ?_) (fun k_82 => ?_)
            · refine lv_aload_n hx hb dX11_aRule_130 rfl (lv_at hl 3 rfl) ?_
              refine EffV.cv (wr := ([])) (w' := fun u11 => wX11 g a_m u11 J_m) (As := []) (kX11_ahead l g a_m I_m_79 J_m hp_79.1.1) fx (gUV (uT _) u_515 u_516 u_517 u_5 u_518) rfl hdX11_ahead ⟨Nat.le_of_ble_eq_true rfl, Nat.le_of_ble_eq_true rfl⟩ hK hP hD hS hA [0, 1, 2, 3, 4, 5, 6, 7, 8, 9, 10, 11, 12, 13, 14, 15, 16, 17, 18, 19, 20, 21, 22] [] [0, 1, 2, 3, 4, 5, 6, 7, 8, 9, 10, 11, 12, 13, 14, 15, 16, 17, 18, 19, 20, 21, 22] rfl rfl rfl rfl (by decide) rfl (fun _ => rfl) rfl rfl rfl rfl hl.1 (Nat.le_of_ble_eq_true rfl) dX11_aRule_131 (fun u11 H locs p_r10 hP hD hS => ?_)
              have hP : va_P g.1 vwCl (wX11 g a_m u11 J_m) H := hP
              have hD : va_D A (wX11 g a_m u11 J_m) := hD
              have hA131 := hA_79.kk p_r10.1 (by decide)
              refine lv_aload_n hx hb dX11_aRule_134 rfl (lv_at hl 3 rfl) ?_
              refine va_ldcS hx hb hown (jF.l0 hJ) dX11_aRule_135 ?_
              refine lv_bipush (v := 6) hx hb dX11_aRule_137 (by decide) ?_
              refine EffIS.cv (wr := ([])) (w' := fun u13 => wX11 g a_m u13 J_m) (As := [.ref (ad 0), .int (6 : Int32)]) (kX11_wantWord l g ad av a_m u11 J_m 0 (6 : Int32) (by decide) (by omega) (PQ.ah hp_79 p_r10.2).1) fx (gUV (uT _) u_561 u_562 u_563 u_5 u_564) rfl hdX11_wantWord ⟨Nat.le_of_ble_eq_true rfl, Nat.le_of_ble_eq_true rfl⟩ hJ hK hP hD hS hA [0, 1, 2, 3, 4, 5, 6, 7, 8, 9, 10, 11, 12, 13, 14, 15, 16, 17, 18, 19, 20, 21, 22] [] [0, 1, 2, 3, 4, 5, 6, 7, 8, 9, 10, 11, 12, 13, 14, 15, 16, 17, 18, 19, 20, 21, 22] rfl rfl rfl rfl (by decide) rfl (fun _ => rfl) rfl rfl rfl rfl hl.1 (Nat.le_of_ble_eq_true rfl) dX11_aRule_139 (fun r12 u13 H locs p_r12 hP hD hS => ?_)
              have hP : va_P g.1 vwCl (wX11 g a_m u13 J_m) H := hP
              have hD : va_D A (wX11 g a_m u13 J_m) := hD
              have hA139 := hA131.kk p_r12.1 (by decide)
              refine q_if_ne (tgt := 147) hx hb dX11_aRule_142 (by decide) rfl (fun b_142 k_142 => ?_) (fun b_142 k_142 => ?_)
              · refine lv_aload_n hx hb dX11_aRule_147 rfl (lv_at hl 3 rfl) ?_
                refine va_get (D := g.1) (ci := 11) (v := .int (u13 0 11)) (C := RX11) (T := TX11) (N := 46) hx hb hi_X11 (fun _ h => h) hown hK.1 hP 0 rfl rfl 11 (by decide) hf_144 (fun _ h9 => h9) rfl dX11_aRule_148 ?_
                refine lv_iconst (v := 3) hx hb dX11_aRule_151 (by decide) ?_
                refine q_icmp_eq (tgt := 161) hx hb dX11_aRule_152 (by decide) rfl (by decide : (3 : Int32).toInt = 3) (fun k_152 => ?_) (fun k_152 => ?_)
                · refine lv_aload_n hx hb dX11_aRule_161 rfl (lv_at hl 3 rfl) ?_
                  refine va_get (D := g.1) (ci := 11) (v := .ref (a_m 1)) (C := RX11) (T := TX11) (N := 46) hx hb hi_X11 (fun _ h => h) hown hK.1 hP 0 rfl rfl 0 (by decide) hf_7 (fun _ h9 => h9) rfl dX11_aRule_162 ?_
                  refine lv_iload_n hx hb dX11_aRule_165 rfl (lv_at hl 1 rfl) ?_
                  refine lv_bipush (v := 7) hx hb dX11_aRule_166 (by decide) ?_
                  refine r_iadd hx hb dX11_aRule_168 rfl (by decide : (7 : Int32).toInt = 7) (fun x14 e_x14 t_x14 => ?_)
                  try have t_x14 := t_x14 (by omega)
                  refine lv_iconst (v := 0) hx hb dX11_aRule_169 (by decide) ?_
                  have n_170 : vp_in x14 19800 := (t_in (by omega))
                  obtain ⟨f15, e_f15⟩ : ∃ z, z = upd (u13 1) x14.toNatClampNeg (0 : Int32) := ⟨_, rfl⟩
                  refine va_iast hx hb hK.1 hP hD hS 1 0 rfl rfl n_170 dX11_aRule_170 (fun H locs hP hD hS => ?_)
                  have hP : va_P g.1 vwCl (wX11 g a_m (uR u13 1 f15) J_m) H := by rw [e_f15]; exact hP
                  have hD : va_D A (wX11 g a_m (uR u13 1 f15) J_m) := by rw [e_f15]; exact hD
                  have hc_170 : MI (uR u13 1 f15) := MI.ua (MI.kk (MI.kk hM_79 p_r10.1 (by decide) (by decide)) p_r12.1 (by decide) (by decide)) e_f15 rfl (by omega) (by omega)
                  have hk_170 : KK [1] [11, 12, 13, 14, 16, 17] I_m (uR u13 1 f15) := KK.ur (KK.tr (KK.tr hk_79 p_r10.1 (by decide) (by decide)) p_r12.1 (by decide) (by decide)) (by decide) (by decide)
                  have hp_170 : PQ I_m (uR u13 1 f15) := PQ.ur (PQ.tr (PQ.ah hp_79 p_r10.2) p_r12.2.1) (by decide)
                  have hA170 : RA (uR u13 1 f15) ((x1).toInt) 1 0 := hA139.put (o := 7) 1 0 e_f15 rfl (by omega) (by omega) (by omega) (by omega) (by omega)
                  have L171 : ∀ (nn : Nat) (I_m_171 : Nat → Nat → Int32), (hM_171 : MI I_m_171) → (hk_171 : KK [1] [11, 12, 13, 14, 16, 17] I_m I_m_171) → (hA_171 : RA I_m_171 ((x1).toInt) 1 0) → (hc_171 : (I_m_171 0 11).toInt = 3 ∨ 1 ≤ (I_m_171 1 (13219 + 12 * ((x1).toInt).toNat)).toInt) → (hp_171 : PQ I_m I_m_171) → ((4 - (I_m_171 1 (13219 + 12 * ((x1).toInt).toNat)).toInt) < (nn : Int)) → ∀ (H : Heap) (locs : List Loc), va_P g.1 vwCl (wX11 g a_m I_m_171 J_m) H → va_D A (wX11 g a_m I_m_171 J_m) → va_S A s.heap H locs → ∀ ls : Array Slot, lv_has ls 5 [(3, .int v3_79), (2, .int r2), (1, .int x1), (0, .ref (a_m 0))] → W p l e (rm 6) s m args below meth c H locs 0 0 Q (F0 m 171 ls []) := by
                    intro n_171
                    induction n_171 with
                    | zero =>
                      intro I_m_171 hM_171 hk_171 hA_171 hc_171 hp_171 hms_171 H locs hP hD hS ls hl
                      have q171 := RA.cb hA_171; exfalso; omega
                    | succ n_171 ih_171 =>
                      intro I_m_171 hM_171 hk_171 hA_171 hc_171 hp_171 hms_171 H locs hP hD hS ls hl
                      refine lv_aload_n hx hb dX11_aRule_171 rfl (lv_at hl 3 rfl) ?_
                      refine va_get (D := g.1) (ci := 11) (v := .int (I_m_171 0 11)) (C := RX11) (T := TX11) (N := 46) hx hb hi_X11 (fun _ h => h) hown hK.1 hP 0 rfl rfl 11 (by decide) hf_144 (fun _ h9 => h9) rfl dX11_aRule_172 ?_
                      refine lv_iconst (v := 3) hx hb dX11_aRule_175 (by decide) ?_
                      refine q_icmp_ne (tgt := 266) hx hb dX11_aRule_176 (by decide) rfl (by decide : (3 : Int32).toInt = 3) (fun k_176 => ?_) (fun k_176 => ?_)
                      · have hB176 : RA I_m_171 ((x1).toInt) 1 1 := hA_171.up (by rcases hc_171 with q | q; exfalso; omega; exact q)
                        refine lv_aload_n hx hb dX11_aRule_266 rfl (lv_at hl 3 rfl) ?_
                        refine va_ldcS hx hb hown (jF.l0 hJ) dX11_aRule_267 ?_
                        refine PurIS.cv (As := [.ref (ad 0)]) (kX11_inWords l g ad av a_m I_m_171 J_m 0 (by decide) hp_171.1 (by omega)) fx (gUV (uT _) u_544 u_545 u_546 u_5 u_547) rfl hdX11_inWords ⟨Nat.le_of_ble_eq_true rfl, Nat.le_of_ble_eq_true rfl⟩ hJ hS hK hP [0, 1, 2, 3, 4, 5, 6, 7, 8, 9, 10, 11, 12, 13, 14, 15, 16, 17, 18, 19, 20, 21, 22] rfl rfl rfl rfl rfl hl.1 (Nat.le_of_ble_eq_true rfl) dX11_aRule_269 (fun r16 p_r16 => ?_)
                        refine lv_istore_n (lv' := [(3, .int r16), (2, .int r2), (1, .int x1), (0, .ref (a_m 0))]) hx hb dX11_aRule_272 rfl hl (by decide) rfl (fun ls hl => ?_)
                        refine lv_aload_n hx hb dX11_aRule_273 rfl (lv_at hl 3 rfl) ?_
                        refine va_get (D := g.1) (ci := 11) (v := .ref (a_m 1)) (C := RX11) (T := TX11) (N := 46) hx hb hi_X11 (fun _ h => h) hown hK.1 hP 0 rfl rfl 0 (by decide) hf_7 (fun _ h9 => h9) rfl dX11_aRule_274 ?_
                        refine lv_iload_n hx hb dX11_aRule_277 rfl (lv_at hl 1 rfl) ?_
                        refine lv_bipush (v := 11) hx hb dX11_aRule_278 (by decide) ?_
                        refine r_iadd hx hb dX11_aRule_280 rfl (by decide : (11 : Int32).toInt = 11) (fun x17 e_x17 t_x17 => ?_)
                        try have t_x17 := t_x17 (by omega)
                        refine lv_iload_n hx hb dX11_aRule_281 rfl (lv_at hl 0 rfl) ?_
                        refine lv_bipush (v := 7) hx hb dX11_aRule_282 (by decide) ?_
                        refine q_icmp_lt (tgt := 302) hx hb dX11_aRule_284 (by decide) rfl (by decide : (7 : Int32).toInt = 7) (fun k_284 => ?_) (fun k_284 => ?_)
                        · refine lv_iconst (v := 0) hx hb dX11_aRule_302 (by decide) ?_
                          have n_303 : vp_in x17 19800 := (t_in (by omega))
                          obtain ⟨f18, e_f18⟩ : ∃ z, z = upd (I_m_171 1) x17.toNatClampNeg (0 : Int32) := ⟨_, rfl⟩
                          refine va_iast hx hb hK.1 hP hD hS 1 0 rfl rfl n_303 dX11_aRule_303 (fun H locs hP hD hS => ?_)
                          have hP : va_P g.1 vwCl (wX11 g a_m (uR I_m_171 1 f18) J_m) H := by rw [e_f18]; exact hP
                          have hD : va_D A (wX11 g a_m (uR I_m_171 1 f18) J_m) := by rw [e_f18]; exact hD
                          have hc_303 : MI (uR I_m_171 1 f18) := MI.ua hM_171 e_f18 rfl (by omega) (by omega)
                          have hk_303 : KK [1] [11, 12, 13, 14, 16, 17] I_m (uR I_m_171 1 f18) := KK.ur hk_171 (by decide) (by decide)
                          have hp_303 : PQ I_m (uR I_m_171 1 f18) := PQ.ur hp_171 (by decide)
                          have hB303 : RA (uR I_m_171 1 f18) ((x1).toInt) 1 1 := hB176.put (o := 11) 1 1 e_f18 rfl (by omega) (by omega) (by omega) (by omega) (by omega)
                          refine lv_aload_n hx hb dX11_aRule_304 rfl (lv_at hl 3 rfl) ?_
                          refine va_get (D := g.1) (ci := 11) (v := .ref (a_m 1)) (C := RX11) (T := TX11) (N := 46) hx hb hi_X11 (fun _ h => h) hown hK.1 hP 0 rfl rfl 0 (by decide) hf_7 (fun _ h9 => h9) rfl dX11_aRule_305 ?_
                          refine lv_iload_n hx hb dX11_aRule_308 rfl (lv_at hl 1 rfl) ?_
                          refine lv_bipush (v := 11) hx hb dX11_aRule_309 (by decide) ?_
                          refine r_iadd hx hb dX11_aRule_311 rfl (by decide : (11 : Int32).toInt = 11) (fun x19 e_x19 t_x19 => ?_)
                          try have t_x19 := t_x19 (by omega)
                          have n_312 : vp_in x19 19800 := (t_in (by omega))
                          refine va_iald hx hb hK.1 hP 1 0 rfl rfl n_312 dX11_aRule_312 ?_
                          refine q_nm (fun x20 e_x20 => ?_)
                          have e_x20 : x20 = f18 x19.toNatClampNeg := e_x20
                          have g_x20 : x20.toInt = (f18 x19.toNatClampNeg).toInt := congrArg _ e_x20
                          refine q_if_le (tgt := 320) hx hb dX11_aRule_313 (by decide) rfl (fun k_313 => ?_) (fun k_313 => ?_)
                          · have hB317 := hB303
                            refine lv_aload_n hx hb dX11_aRule_320 rfl (lv_at hl 3 rfl) ?_
                            refine lv_bipush (v := 59) hx hb dX11_aRule_321 (by decide) ?_
                            refine PurI.cv (As := [.int (59 : Int32)]) (kX11_isSign l g a_m (uR I_m_171 1 f18) J_m (59 : Int32)) fx (gUV (uT _) u_565 u_566 u_567 u_5 u_568) rfl hdX11_isSign ⟨Nat.le_of_ble_eq_true rfl, Nat.le_of_ble_eq_true rfl⟩ hK hP [0, 1, 2, 3, 4, 5, 6, 7, 8, 9, 10, 11, 12, 13, 14, 15, 16, 17, 18, 19, 20, 21, 22] rfl rfl rfl rfl rfl hl.1 (Nat.le_of_ble_eq_true rfl) dX11_aRule_323 (fun r21 p_r21 => ?_)
                            have p_r21 : bP ((I_m_171 0 11).toInt = 4 ∧ (I_m_171 0 14).toInt = ((59 : Int32)).toInt) (¬ ((I_m_171 0 11).toInt = 4 ∧ (I_m_171 0 14).toInt = ((59 : Int32)).toInt)) r21 := p_r21
                            refine q_if_ne (tgt := 335) hx hb dX11_aRule_326 (by decide) rfl (fun b_326 k_326 => ?_) (fun b_326 k_326 => ?_)
                            · have q_326 := bP.t p_r21 b_326
                              refine lv_iconst (v := 0) hx hb dX11_aRule_335 (by decide) ?_
                              refine lv_istore (lv' := [(4, .int (0 : Int32)), (3, .int r16), (2, .int r2), (1, .int x1), (0, .ref (a_m 0))]) hx hb dX11_aRule_336 hl (by decide) rfl (fun ls hl => ?_)
                              have L338 : ∀ (nn : Nat) (v4_338 : Int32), (hv_338 : 0 ≤ v4_338.toInt ∧ v4_338.toInt ≤ (x1).toInt) → ((25 - v4_338.toInt) < (nn : Int)) → ∀ (H : Heap) (locs : List Loc), va_P g.1 vwCl (wX11 g a_m (uR I_m_171 1 f18) J_m) H → va_D A (wX11 g a_m (uR I_m_171 1 f18) J_m) → va_S A s.heap H locs → ∀ ls : Array Slot, lv_has ls 5 [(4, .int v4_338), (3, .int r16), (2, .int r2), (1, .int x1), (0, .ref (a_m 0))] → W p l e (rm 6) s m args below meth c H locs 0 0 Q (F0 m 338 ls []) := by
                                intro n_338
                                induction n_338 with
                                | zero =>
                                  intro v4_338 hv_338 hms_338 H locs hP hD hS ls hl
                                  exfalso; omega
                                | succ n_338 ih_338 =>
                                  intro v4_338 hv_338 hms_338 H locs hP hD hS ls hl
                                  refine lv_iload hx hb dX11_aRule_338 (lv_at hl 0 rfl) ?_
                                  refine lv_iload_n hx hb dX11_aRule_340 rfl (lv_at hl 3 rfl) ?_
                                  refine q_icmp_ge (tgt := 372) hx hb dX11_aRule_341 (by decide) rfl rfl (fun k_341 => ?_) (fun k_341 => ?_)
                                  · refine lv_aload_n hx hb dX11_aRule_372 rfl (lv_at hl 4 rfl) ?_
                                    refine va_get (D := g.1) (ci := 11) (v := .ref (a_m 1)) (C := RX11) (T := TX11) (N := 46) hx hb hi_X11 (fun _ h => h) hown hK.1 hP 0 rfl rfl 0 (by decide) hf_7 (fun _ h9 => h9) rfl dX11_aRule_373 ?_
                                    refine lv_sipush (v := 13200) hx hb dX11_aRule_376 (by decide) ?_
                                    refine lv_dup2_11 hx hb dX11_aRule_379 rfl rfl ?_
                                    have n_380 : vp_in (13200 : Int32) 19800 := (t_in (by decide))
                                    refine va_iald hx hb hK.1 hP 1 0 rfl rfl n_380 dX11_aRule_380 ?_
                                    refine q_nm (fun x22 e_x22 => ?_)
                                    have e_x22 : x22 = f18 13200 := e_x22
                                    have g_x22 : x22.toInt = (f18 13200).toInt := congrArg _ e_x22
                                    have hbm : x22.toInt = ((x1).toInt) := by rw [e_x22]; exact hB317.2.1
                                    refine lv_iconst (v := 1) hx hb dX11_aRule_381 (by decide) ?_
                                    refine r_iadd hx hb dX11_aRule_382 rfl (by decide : (1 : Int32).toInt = 1) (fun x23 e_x23 t_x23 => ?_)
                                    try have t_x23 := t_x23 (by omega)
                                    have n_383 : vp_in (13200 : Int32) 19800 := (t_in (by decide))
                                    obtain ⟨f24, e_f24⟩ : ∃ z, z = upd f18 (13200 : Int32).toNatClampNeg x23 := ⟨_, rfl⟩
                                    refine va_iast hx hb hK.1 hP hD hS 1 0 rfl rfl n_383 dX11_aRule_383 (fun H locs hP hD hS => ?_)
                                    have hP : va_P g.1 vwCl (wX11 g a_m (uR (uR I_m_171 1 f18) 1 f24) J_m) H := by rw [e_f24]; exact hP
                                    have hD : va_D A (wX11 g a_m (uR (uR I_m_171 1 f18) 1 f24) J_m) := by rw [e_f24]; exact hD
                                    have hc_383 : MI (uR (uR I_m_171 1 f18) 1 f24) := MI.ua hc_303 e_f24 (by decide : (13200 : Int32).toInt = 13200) (by omega) (by omega)
                                    have hk_383 : KK [1] [11, 12, 13, 14, 16, 17] I_m (uR (uR I_m_171 1 f18) 1 f24) := KK.ur hk_303 (by decide) (by decide)
                                    have hp_383 : PQ I_m (uR (uR I_m_171 1 f18) 1 f24) := PQ.ur hp_303 (by decide)
                                    have hN383 : NS (uR (uR I_m_171 1 f18) 1 f24) := hB317.fin e_f24 (by omega)
                                    refine lv_aload_n hx hb dX11_aRule_384 rfl (lv_at hl 4 rfl) ?_
                                    refine lv_bipush (v := 59) hx hb dX11_aRule_385 (by decide) ?_
                                    have hq387 : PQ I_m (uR (uR I_m_171 1 f18) 1 f24) := hp_383
                                    refine EffI.cv (wr := ([])) (w' := fun u26 => wX11 g a_m u26 J_m) (As := [.int (59 : Int32)]) (kX11_wantSign l g a_m (uR (uR I_m_171 1 f18) 1 f24) J_m (59 : Int32) hp_383.1) fx (gUV (uT _) u_573 u_574 u_575 u_5 u_576) rfl hdX11_wantSign ⟨Nat.le_of_ble_eq_true rfl, Nat.le_of_ble_eq_true rfl⟩ hK hP hD hS hA [0, 1, 2, 3, 4, 5, 6, 7, 8, 9, 10, 11, 12, 13, 14, 15, 16, 17, 18, 19, 20, 21, 22] [] [0, 1, 2, 3, 4, 5, 6, 7, 8, 9, 10, 11, 12, 13, 14, 15, 16, 17, 18, 19, 20, 21, 22] rfl rfl rfl rfl (by decide) rfl (fun _ => rfl) rfl rfl rfl rfl hl.1 (Nat.le_of_ble_eq_true rfl) dX11_aRule_387 (fun r25 u26 H locs p_r25 hP hD hS => ?_)
                                    have hP : va_P g.1 vwCl (wX11 g a_m u26 J_m) H := hP
                                    have hD : va_D A (wX11 g a_m u26 J_m) := hD
                                    have p_r25 : KK [] [11, 12, 13, 14, 16, 17] (uR (uR I_m_171 1 f18) 1 f24) u26 ∧ PQ (uR (uR I_m_171 1 f18) 1 f24) u26 ∧ (r25 = 0 ∨ r25 = 1) ∧ (r25 = 1 → AD (uR (uR I_m_171 1 f18) 1 f24) u26) := p_r25
                                    refine hret 390 ls r25 _ _ u26 dX11_aRule_390 p_r25.2.2.1 hS hP hD ?_
                                    exact ⟨(MI.kk hc_383 p_r25.1 (by decide) (by decide)), (KK.tr hk_383 p_r25.1 (by decide) (by decide)), ⟨(PQ.tr hp_383 p_r25.2.1), p_r25.2.2.1, fun q => PQ.ad hq387 (p_r25.2.2.2 q), hN383.row (p_r25.1.row 1 (by decide))⟩⟩
                                  · refine lv_aload_n hx hb dX11_aRule_344 rfl (lv_at hl 4 rfl) ?_
                                    refine lv_sipush (v := 13200) hx hb dX11_aRule_345 (by decide) ?_
                                    refine lv_iload hx hb dX11_aRule_348 (lv_at hl 0 rfl) ?_
                                    refine PurI.cs (C := RX11) (As := [.int (13200 : Int32), .int v4_338]) (kX11_ruleAt l g (13200 : Int32) v4_338 (by omega) (by omega)) fx (gUS (uT _) u_554 u_555 u_5 u_556) rfl hdX11_ruleAt ⟨Nat.le_of_ble_eq_true rfl, Nat.le_of_ble_eq_true rfl⟩ hK hP [] rfl rfl rfl hl.1 (Nat.le_of_ble_eq_true rfl) dX11_aRule_350 (fun r27 p_r27 => ?_)
                                    refine lv_iload_n hx hb dX11_aRule_353 rfl (lv_at hl 2 rfl) ?_
                                    refine PurI.cv (As := [.int r27, .int r2]) (kX11_likeRule l g a_m (uR I_m_171 1 f18) J_m r27 r2 (by omega) (TS.lc hB317.1.1 (x := r27) (r := v4_338.toInt) rfl (by omega) (by omega)).2) fx (gUV (uT _) u_569 u_570 u_571 u_5 u_572) rfl hdX11_likeRule ⟨Nat.le_of_ble_eq_true rfl, Nat.le_of_ble_eq_true rfl⟩ hK hP [0, 1, 2, 3, 4, 5, 6, 7, 8, 9, 10, 11, 12, 13, 14, 15, 16, 17, 18, 19, 20, 21, 22] rfl rfl rfl rfl rfl hl.1 (Nat.le_of_ble_eq_true rfl) dX11_aRule_354 (fun r28 p_r28 => ?_)
                                    have p_r28 : bP True True r28 := p_r28
                                    refine q_if_eq (tgt := 366) hx hb dX11_aRule_357 (by decide) rfl (fun b_357 k_357 => ?_) (fun b_357 k_357 => ?_)
                                    · have q_357 := bP.f p_r28 b_357
                                      refine r_iinc (lv' := fun i29 => [(4, .int i29), (3, .int r16), (2, .int r2), (1, .int x1), (0, .ref (a_m 0))]) hx hb dX11_aRule_366 hl (k := 0) rfl (by decide) rfl (by decide) (fun _ => rfl) (fun i29 e_i29 t_i29 ls hl => ?_)
                                      try have t_i29 := t_i29 (by omega)
                                      refine lv_goto (tgt := 338) hx hb dX11_aRule_369 (by decide) ?_
                                      exact ih_338 i29 (by omega) (by omega) _ _ hP hD hS ls hl
                                    · have q_357 := bP.t p_r28 b_357
                                      refine lv_aload_n hx hb dX11_aRule_360 rfl (lv_at hl 4 rfl) ?_
                                      refine lv_iconst (v := 3) hx hb dX11_aRule_361 (by decide) ?_
                                      refine EffI.cv (wr := ([])) (w' := fun u31 => wX11 g a_m u31 J_m) (As := [.int (3 : Int32)]) (kX11_fails l g a_m (uR I_m_171 1 f18) J_m (3 : Int32)) fx (gUV (uT _) u_557 u_558 u_559 u_5 u_560) rfl hdX11_fails ⟨Nat.le_of_ble_eq_true rfl, Nat.le_of_ble_eq_true rfl⟩ hK hP hD hS hA [0, 1, 2, 3, 4, 5, 6, 7, 8, 9, 10, 11, 12, 13, 14, 15, 16, 17, 18, 19, 20, 21, 22] [] [0, 1, 2, 3, 4, 5, 6, 7, 8, 9, 10, 11, 12, 13, 14, 15, 16, 17, 18, 19, 20, 21, 22] rfl rfl rfl rfl (by decide) rfl (fun _ => rfl) rfl rfl rfl rfl hl.1 (Nat.le_of_ble_eq_true rfl) dX11_aRule_362 (fun r30 u31 H locs p_r30 hP hD hS => ?_)
                                      have hP : va_P g.1 vwCl (wX11 g a_m u31 J_m) H := hP
                                      have hD : va_D A (wX11 g a_m u31 J_m) := hD
                                      have p_r30 : KK [] [16, 17] (uR I_m_171 1 f18) u31 ∧ r30 = 0 := p_r30
                                      refine hret 365 ls r30 _ _ u31 dX11_aRule_365 (Or.inl p_r30.2) hS hP hD ?_
                                      exact ⟨(MI.kk hc_303 p_r30.1 (by decide) (by decide)), (KK.tr hk_303 p_r30.1 (by decide) (by decide)), ⟨(PQ.kk hp_303 p_r30.1 (by decide)), Or.inl p_r30.2, fun q => absurd (q.symm.trans p_r30.2) (by decide), (hB317.kk p_r30.1 (by decide)).1⟩⟩
                              exact L338 ((25 - (0 : Int32).toInt) + 1).toNat (0 : Int32) (by omega) (by omega) _ _ hP hD hS ls hl
                            · have q_326 := bP.f p_r21 b_326
                              refine lv_aload_n hx hb dX11_aRule_329 rfl (lv_at hl 3 rfl) ?_
                              refine lv_iconst (v := 2) hx hb dX11_aRule_330 (by decide) ?_
                              refine EffI.cv (wr := ([])) (w' := fun u33 => wX11 g a_m u33 J_m) (As := [.int (2 : Int32)]) (kX11_fails l g a_m (uR I_m_171 1 f18) J_m (2 : Int32)) fx (gUV (uT _) u_557 u_558 u_559 u_5 u_560) rfl hdX11_fails ⟨Nat.le_of_ble_eq_true rfl, Nat.le_of_ble_eq_true rfl⟩ hK hP hD hS hA [0, 1, 2, 3, 4, 5, 6, 7, 8, 9, 10, 11, 12, 13, 14, 15, 16, 17, 18, 19, 20, 21, 22] [] [0, 1, 2, 3, 4, 5, 6, 7, 8, 9, 10, 11, 12, 13, 14, 15, 16, 17, 18, 19, 20, 21, 22] rfl rfl rfl rfl (by decide) rfl (fun _ => rfl) rfl rfl rfl rfl hl.1 (Nat.le_of_ble_eq_true rfl) dX11_aRule_331 (fun r32 u33 H locs p_r32 hP hD hS => ?_)
                              have hP : va_P g.1 vwCl (wX11 g a_m u33 J_m) H := hP
                              have hD : va_D A (wX11 g a_m u33 J_m) := hD
                              have p_r32 : KK [] [16, 17] (uR I_m_171 1 f18) u33 ∧ r32 = 0 := p_r32
                              refine hret 334 ls r32 _ _ u33 dX11_aRule_334 (Or.inl p_r32.2) hS hP hD ?_
                              exact ⟨(MI.kk hc_303 p_r32.1 (by decide) (by decide)), (KK.tr hk_303 p_r32.1 (by decide) (by decide)), ⟨(PQ.kk hp_303 p_r32.1 (by decide)), Or.inl p_r32.2, fun q => absurd (q.symm.trans p_r32.2) (by decide), (hB317.kk p_r32.1 (by decide)).1⟩⟩
                          · refine lv_aload_n hx hb dX11_aRule_316 rfl (lv_at hl 3 rfl) ?_
                            refine EffV.cv (wr := ([])) (w' := fun u35 => wX11 g a_m u35 J_m) (As := []) (kX11_ahead l g a_m (uR I_m_171 1 f18) J_m hp_303.1.1) fx (gUV (uT _) u_515 u_516 u_517 u_5 u_518) rfl hdX11_ahead ⟨Nat.le_of_ble_eq_true rfl, Nat.le_of_ble_eq_true rfl⟩ hK hP hD hS hA [0, 1, 2, 3, 4, 5, 6, 7, 8, 9, 10, 11, 12, 13, 14, 15, 16, 17, 18, 19, 20, 21, 22] [] [0, 1, 2, 3, 4, 5, 6, 7, 8, 9, 10, 11, 12, 13, 14, 15, 16, 17, 18, 19, 20, 21, 22] rfl rfl rfl rfl (by decide) rfl (fun _ => rfl) rfl rfl rfl rfl hl.1 (Nat.le_of_ble_eq_true rfl) dX11_aRule_317 (fun u35 H locs p_r34 hP hD hS => ?_)
                            have hP : va_P g.1 vwCl (wX11 g a_m u35 J_m) H := hP
                            have hD : va_D A (wX11 g a_m u35 J_m) := hD
                            have p_r34 : KK [] [11, 12, 13, 14] (uR I_m_171 1 f18) u35 ∧ AH (uR I_m_171 1 f18) u35 := p_r34
                            have hB317 := hB303.kk p_r34.1 (by decide)
                            refine lv_aload_n hx hb dX11_aRule_320 rfl (lv_at hl 3 rfl) ?_
                            refine lv_bipush (v := 59) hx hb dX11_aRule_321 (by decide) ?_
                            refine PurI.cv (As := [.int (59 : Int32)]) (kX11_isSign l g a_m u35 J_m (59 : Int32)) fx (gUV (uT _) u_565 u_566 u_567 u_5 u_568) rfl hdX11_isSign ⟨Nat.le_of_ble_eq_true rfl, Nat.le_of_ble_eq_true rfl⟩ hK hP [0, 1, 2, 3, 4, 5, 6, 7, 8, 9, 10, 11, 12, 13, 14, 15, 16, 17, 18, 19, 20, 21, 22] rfl rfl rfl rfl rfl hl.1 (Nat.le_of_ble_eq_true rfl) dX11_aRule_323 (fun r36 p_r36 => ?_)
                            refine q_if_ne (tgt := 335) hx hb dX11_aRule_326 (by decide) rfl (fun b_326 k_326 => ?_) (fun b_326 k_326 => ?_)
                            · have q_326 := bP.t p_r36 b_326
                              refine lv_iconst (v := 0) hx hb dX11_aRule_335 (by decide) ?_
                              refine lv_istore (lv' := [(4, .int (0 : Int32)), (3, .int r16), (2, .int r2), (1, .int x1), (0, .ref (a_m 0))]) hx hb dX11_aRule_336 hl (by decide) rfl (fun ls hl => ?_)
                              have L338 : ∀ (nn : Nat) (v4_338 : Int32), (hv_338 : 0 ≤ v4_338.toInt ∧ v4_338.toInt ≤ (x1).toInt) → ((25 - v4_338.toInt) < (nn : Int)) → ∀ (H : Heap) (locs : List Loc), va_P g.1 vwCl (wX11 g a_m u35 J_m) H → va_D A (wX11 g a_m u35 J_m) → va_S A s.heap H locs → ∀ ls : Array Slot, lv_has ls 5 [(4, .int v4_338), (3, .int r16), (2, .int r2), (1, .int x1), (0, .ref (a_m 0))] → W p l e (rm 6) s m args below meth c H locs 0 0 Q (F0 m 338 ls []) := by
                                intro n_338
                                induction n_338 with
                                | zero =>
                                  intro v4_338 hv_338 hms_338 H locs hP hD hS ls hl
                                  exfalso; omega
                                | succ n_338 ih_338 =>
                                  intro v4_338 hv_338 hms_338 H locs hP hD hS ls hl
                                  refine lv_iload hx hb dX11_aRule_338 (lv_at hl 0 rfl) ?_
                                  refine lv_iload_n hx hb dX11_aRule_340 rfl (lv_at hl 3 rfl) ?_
                                  refine q_icmp_ge (tgt := 372) hx hb dX11_aRule_341 (by decide) rfl rfl (fun k_341 => ?_) (fun k_341 => ?_)
                                  · refine lv_aload_n hx hb dX11_aRule_372 rfl (lv_at hl 4 rfl) ?_
                                    refine va_get (D := g.1) (ci := 11) (v := .ref (a_m 1)) (C := RX11) (T := TX11) (N := 46) hx hb hi_X11 (fun _ h => h) hown hK.1 hP 0 rfl rfl 0 (by decide) hf_7 (fun _ h9 => h9) rfl dX11_aRule_373 ?_
                                    refine lv_sipush (v := 13200) hx hb dX11_aRule_376 (by decide) ?_
                                    refine lv_dup2_11 hx hb dX11_aRule_379 rfl rfl ?_
                                    have n_380 : vp_in (13200 : Int32) 19800 := (t_in (by decide))
                                    refine va_iald hx hb hK.1 hP 1 0 rfl rfl n_380 dX11_aRule_380 ?_
                                    refine q_nm (fun x37 e_x37 => ?_)
                                    have e_x37 : x37 = (u35 1) 13200 := e_x37
                                    have g_x37 : x37.toInt = ((u35 1) 13200).toInt := congrArg _ e_x37
                                    have hbm : x37.toInt = ((x1).toInt) := by rw [e_x37]; exact hB317.2.1
                                    refine lv_iconst (v := 1) hx hb dX11_aRule_381 (by decide) ?_
                                    refine r_iadd hx hb dX11_aRule_382 rfl (by decide : (1 : Int32).toInt = 1) (fun x38 e_x38 t_x38 => ?_)
                                    try have t_x38 := t_x38 (by omega)
                                    have n_383 : vp_in (13200 : Int32) 19800 := (t_in (by decide))
                                    obtain ⟨f39, e_f39⟩ : ∃ z, z = upd (u35 1) (13200 : Int32).toNatClampNeg x38 := ⟨_, rfl⟩
                                    refine va_iast hx hb hK.1 hP hD hS 1 0 rfl rfl n_383 dX11_aRule_383 (fun H locs hP hD hS => ?_)
                                    have hP : va_P g.1 vwCl (wX11 g a_m (uR u35 1 f39) J_m) H := by rw [e_f39]; exact hP
                                    have hD : va_D A (wX11 g a_m (uR u35 1 f39) J_m) := by rw [e_f39]; exact hD
                                    have hc_383 : MI (uR u35 1 f39) := MI.ua (MI.kk hc_303 p_r34.1 (by decide) (by decide)) e_f39 (by decide : (13200 : Int32).toInt = 13200) (by omega) (by omega)
                                    have hk_383 : KK [1] [11, 12, 13, 14, 16, 17] I_m (uR u35 1 f39) := KK.ur (KK.tr hk_303 p_r34.1 (by decide) (by decide)) (by decide) (by decide)
                                    have hp_383 : PQ I_m (uR u35 1 f39) := PQ.ur (PQ.ah hp_303 p_r34.2) (by decide)
                                    have hN383 : NS (uR u35 1 f39) := hB317.fin e_f39 (by omega)
                                    refine lv_aload_n hx hb dX11_aRule_384 rfl (lv_at hl 4 rfl) ?_
                                    refine lv_bipush (v := 59) hx hb dX11_aRule_385 (by decide) ?_
                                    have hq387 : PQ I_m (uR u35 1 f39) := hp_383
                                    refine EffI.cv (wr := ([])) (w' := fun u41 => wX11 g a_m u41 J_m) (As := [.int (59 : Int32)]) (kX11_wantSign l g a_m (uR u35 1 f39) J_m (59 : Int32) hp_383.1) fx (gUV (uT _) u_573 u_574 u_575 u_5 u_576) rfl hdX11_wantSign ⟨Nat.le_of_ble_eq_true rfl, Nat.le_of_ble_eq_true rfl⟩ hK hP hD hS hA [0, 1, 2, 3, 4, 5, 6, 7, 8, 9, 10, 11, 12, 13, 14, 15, 16, 17, 18, 19, 20, 21, 22] [] [0, 1, 2, 3, 4, 5, 6, 7, 8, 9, 10, 11, 12, 13, 14, 15, 16, 17, 18, 19, 20, 21, 22] rfl rfl rfl rfl (by decide) rfl (fun _ => rfl) rfl rfl rfl rfl hl.1 (Nat.le_of_ble_eq_true rfl) dX11_aRule_387 (fun r40 u41 H locs p_r40 hP hD hS => ?_)
                                    have hP : va_P g.1 vwCl (wX11 g a_m u41 J_m) H := hP
                                    have hD : va_D A (wX11 g a_m u41 J_m) := hD
                                    have p_r40 : KK [] [11, 12, 13, 14, 16, 17] (uR u35 1 f39) u41 ∧ PQ (uR u35 1 f39) u41 ∧ (r40 = 0 ∨ r40 = 1) ∧ (r40 = 1 → AD (uR u35 1 f39) u41) := p_r40
                                    refine hret 390 ls r40 _ _ u41 dX11_aRule_390 p_r40.2.2.1 hS hP hD ?_
                                    exact ⟨(MI.kk hc_383 p_r40.1 (by decide) (by decide)), (KK.tr hk_383 p_r40.1 (by decide) (by decide)), ⟨(PQ.tr hp_383 p_r40.2.1), p_r40.2.2.1, fun q => PQ.ad hq387 (p_r40.2.2.2 q), hN383.row (p_r40.1.row 1 (by decide))⟩⟩
                                  · refine lv_aload_n hx hb dX11_aRule_344 rfl (lv_at hl 4 rfl) ?_
                                    refine lv_sipush (v := 13200) hx hb dX11_aRule_345 (by decide) ?_
                                    refine lv_iload hx hb dX11_aRule_348 (lv_at hl 0 rfl) ?_
                                    refine PurI.cs (C := RX11) (As := [.int (13200 : Int32), .int v4_338]) (kX11_ruleAt l g (13200 : Int32) v4_338 (by omega) (by omega)) fx (gUS (uT _) u_554 u_555 u_5 u_556) rfl hdX11_ruleAt ⟨Nat.le_of_ble_eq_true rfl, Nat.le_of_ble_eq_true rfl⟩ hK hP [] rfl rfl rfl hl.1 (Nat.le_of_ble_eq_true rfl) dX11_aRule_350 (fun r42 p_r42 => ?_)
                                    refine lv_iload_n hx hb dX11_aRule_353 rfl (lv_at hl 2 rfl) ?_
                                    refine PurI.cv (As := [.int r42, .int r2]) (kX11_likeRule l g a_m u35 J_m r42 r2 (by omega) (TS.lc hB317.1.1 (x := r42) (r := v4_338.toInt) rfl (by omega) (by omega)).2) fx (gUV (uT _) u_569 u_570 u_571 u_5 u_572) rfl hdX11_likeRule ⟨Nat.le_of_ble_eq_true rfl, Nat.le_of_ble_eq_true rfl⟩ hK hP [0, 1, 2, 3, 4, 5, 6, 7, 8, 9, 10, 11, 12, 13, 14, 15, 16, 17, 18, 19, 20, 21, 22] rfl rfl rfl rfl rfl hl.1 (Nat.le_of_ble_eq_true rfl) dX11_aRule_354 (fun r43 p_r43 => ?_)
                                    refine q_if_eq (tgt := 366) hx hb dX11_aRule_357 (by decide) rfl (fun b_357 k_357 => ?_) (fun b_357 k_357 => ?_)
                                    · have q_357 := bP.f p_r43 b_357
                                      refine r_iinc (lv' := fun i44 => [(4, .int i44), (3, .int r16), (2, .int r2), (1, .int x1), (0, .ref (a_m 0))]) hx hb dX11_aRule_366 hl (k := 0) rfl (by decide) rfl (by decide) (fun _ => rfl) (fun i44 e_i44 t_i44 ls hl => ?_)
                                      try have t_i44 := t_i44 (by omega)
                                      refine lv_goto (tgt := 338) hx hb dX11_aRule_369 (by decide) ?_
                                      exact ih_338 i44 (by omega) (by omega) _ _ hP hD hS ls hl
                                    · have q_357 := bP.t p_r43 b_357
                                      refine lv_aload_n hx hb dX11_aRule_360 rfl (lv_at hl 4 rfl) ?_
                                      refine lv_iconst (v := 3) hx hb dX11_aRule_361 (by decide) ?_
                                      refine EffI.cv (wr := ([])) (w' := fun u46 => wX11 g a_m u46 J_m) (As := [.int (3 : Int32)]) (kX11_fails l g a_m u35 J_m (3 : Int32)) fx (gUV (uT _) u_557 u_558 u_559 u_5 u_560) rfl hdX11_fails ⟨Nat.le_of_ble_eq_true rfl, Nat.le_of_ble_eq_true rfl⟩ hK hP hD hS hA [0, 1, 2, 3, 4, 5, 6, 7, 8, 9, 10, 11, 12, 13, 14, 15, 16, 17, 18, 19, 20, 21, 22] [] [0, 1, 2, 3, 4, 5, 6, 7, 8, 9, 10, 11, 12, 13, 14, 15, 16, 17, 18, 19, 20, 21, 22] rfl rfl rfl rfl (by decide) rfl (fun _ => rfl) rfl rfl rfl rfl hl.1 (Nat.le_of_ble_eq_true rfl) dX11_aRule_362 (fun r45 u46 H locs p_r45 hP hD hS => ?_)
                                      have hP : va_P g.1 vwCl (wX11 g a_m u46 J_m) H := hP
                                      have hD : va_D A (wX11 g a_m u46 J_m) := hD
                                      refine hret 365 ls r45 _ _ u46 dX11_aRule_365 (Or.inl p_r45.2) hS hP hD ?_
                                      exact ⟨(MI.kk (MI.kk hc_303 p_r34.1 (by decide) (by decide)) p_r45.1 (by decide) (by decide)), (KK.tr (KK.tr hk_303 p_r34.1 (by decide) (by decide)) p_r45.1 (by decide) (by decide)), ⟨(PQ.kk (PQ.ah hp_303 p_r34.2) p_r45.1 (by decide)), Or.inl p_r45.2, fun q => absurd (q.symm.trans p_r45.2) (by decide), (hB317.kk p_r45.1 (by decide)).1⟩⟩
                              exact L338 ((25 - (0 : Int32).toInt) + 1).toNat (0 : Int32) (by omega) (by omega) _ _ hP hD hS ls hl
                            · have q_326 := bP.f p_r36 b_326
                              refine lv_aload_n hx hb dX11_aRule_329 rfl (lv_at hl 3 rfl) ?_
                              refine lv_iconst (v := 2) hx hb dX11_aRule_330 (by decide) ?_
                              refine EffI.cv (wr := ([])) (w' := fun u48 => wX11 g a_m u48 J_m) (As := [.int (2 : Int32)]) (kX11_fails l g a_m u35 J_m (2 : Int32)) fx (gUV (uT _) u_557 u_558 u_559 u_5 u_560) rfl hdX11_fails ⟨Nat.le_of_ble_eq_true rfl, Nat.le_of_ble_eq_true rfl⟩ hK hP hD hS hA [0, 1, 2, 3, 4, 5, 6, 7, 8, 9, 10, 11, 12, 13, 14, 15, 16, 17, 18, 19, 20, 21, 22] [] [0, 1, 2, 3, 4, 5, 6, 7, 8, 9, 10, 11, 12, 13, 14, 15, 16, 17, 18, 19, 20, 21, 22] rfl rfl rfl rfl (by decide) rfl (fun _ => rfl) rfl rfl rfl rfl hl.1 (Nat.le_of_ble_eq_true rfl) dX11_aRule_331 (fun r47 u48 H locs p_r47 hP hD hS => ?_)
                              have hP : va_P g.1 vwCl (wX11 g a_m u48 J_m) H := hP
                              have hD : va_D A (wX11 g a_m u48 J_m) := hD
                              refine hret 334 ls r47 _ _ u48 dX11_aRule_334 (Or.inl p_r47.2) hS hP hD ?_
                              exact ⟨(MI.kk (MI.kk hc_303 p_r34.1 (by decide) (by decide)) p_r47.1 (by decide) (by decide)), (KK.tr (KK.tr hk_303 p_r34.1 (by decide) (by decide)) p_r47.1 (by decide) (by decide)), ⟨(PQ.kk (PQ.ah hp_303 p_r34.2) p_r47.1 (by decide)), Or.inl p_r47.2, fun q => absurd (q.symm.trans p_r47.2) (by decide), (hB317.kk p_r47.1 (by decide)).1⟩⟩
                        · refine lv_iload_n hx hb dX11_aRule_287 rfl (lv_at hl 0 rfl) ?_
                          refine lv_bipush (v := 10) hx hb dX11_aRule_288 (by decide) ?_
                          refine q_icmp_gt (tgt := 302) hx hb dX11_aRule_290 (by decide) rfl (by decide : (10 : Int32).toInt = 10) (fun k_290 => ?_) (fun k_290 => ?_)
                          · refine lv_iconst (v := 0) hx hb dX11_aRule_302 (by decide) ?_
                            have n_303 : vp_in x17 19800 := (t_in (by omega))
                            obtain ⟨f49, e_f49⟩ : ∃ z, z = upd (I_m_171 1) x17.toNatClampNeg (0 : Int32) := ⟨_, rfl⟩
                            refine va_iast hx hb hK.1 hP hD hS 1 0 rfl rfl n_303 dX11_aRule_303 (fun H locs hP hD hS => ?_)
                            have hP : va_P g.1 vwCl (wX11 g a_m (uR I_m_171 1 f49) J_m) H := by rw [e_f49]; exact hP
                            have hD : va_D A (wX11 g a_m (uR I_m_171 1 f49) J_m) := by rw [e_f49]; exact hD
                            have hc_303 : MI (uR I_m_171 1 f49) := MI.ua hM_171 e_f49 rfl (by omega) (by omega)
                            have hk_303 : KK [1] [11, 12, 13, 14, 16, 17] I_m (uR I_m_171 1 f49) := KK.ur hk_171 (by decide) (by decide)
                            have hp_303 : PQ I_m (uR I_m_171 1 f49) := PQ.ur hp_171 (by decide)
                            have hB303 : RA (uR I_m_171 1 f49) ((x1).toInt) 1 1 := hB176.put (o := 11) 1 1 e_f49 rfl (by omega) (by omega) (by omega) (by omega) (by omega)
                            refine lv_aload_n hx hb dX11_aRule_304 rfl (lv_at hl 3 rfl) ?_
                            refine va_get (D := g.1) (ci := 11) (v := .ref (a_m 1)) (C := RX11) (T := TX11) (N := 46) hx hb hi_X11 (fun _ h => h) hown hK.1 hP 0 rfl rfl 0 (by decide) hf_7 (fun _ h9 => h9) rfl dX11_aRule_305 ?_
                            refine lv_iload_n hx hb dX11_aRule_308 rfl (lv_at hl 1 rfl) ?_
                            refine lv_bipush (v := 11) hx hb dX11_aRule_309 (by decide) ?_
                            refine r_iadd hx hb dX11_aRule_311 rfl (by decide : (11 : Int32).toInt = 11) (fun x50 e_x50 t_x50 => ?_)
                            try have t_x50 := t_x50 (by omega)
                            have n_312 : vp_in x50 19800 := (t_in (by omega))
                            refine va_iald hx hb hK.1 hP 1 0 rfl rfl n_312 dX11_aRule_312 ?_
                            refine q_nm (fun x51 e_x51 => ?_)
                            have e_x51 : x51 = f49 x50.toNatClampNeg := e_x51
                            have g_x51 : x51.toInt = (f49 x50.toNatClampNeg).toInt := congrArg _ e_x51
                            refine q_if_le (tgt := 320) hx hb dX11_aRule_313 (by decide) rfl (fun k_313 => ?_) (fun k_313 => ?_)
                            · have hB317 := hB303
                              refine lv_aload_n hx hb dX11_aRule_320 rfl (lv_at hl 3 rfl) ?_
                              refine lv_bipush (v := 59) hx hb dX11_aRule_321 (by decide) ?_
                              refine PurI.cv (As := [.int (59 : Int32)]) (kX11_isSign l g a_m (uR I_m_171 1 f49) J_m (59 : Int32)) fx (gUV (uT _) u_565 u_566 u_567 u_5 u_568) rfl hdX11_isSign ⟨Nat.le_of_ble_eq_true rfl, Nat.le_of_ble_eq_true rfl⟩ hK hP [0, 1, 2, 3, 4, 5, 6, 7, 8, 9, 10, 11, 12, 13, 14, 15, 16, 17, 18, 19, 20, 21, 22] rfl rfl rfl rfl rfl hl.1 (Nat.le_of_ble_eq_true rfl) dX11_aRule_323 (fun r52 p_r52 => ?_)
                              have p_r52 : bP ((I_m_171 0 11).toInt = 4 ∧ (I_m_171 0 14).toInt = ((59 : Int32)).toInt) (¬ ((I_m_171 0 11).toInt = 4 ∧ (I_m_171 0 14).toInt = ((59 : Int32)).toInt)) r52 := p_r52
                              refine q_if_ne (tgt := 335) hx hb dX11_aRule_326 (by decide) rfl (fun b_326 k_326 => ?_) (fun b_326 k_326 => ?_)
                              · have q_326 := bP.t p_r52 b_326
                                refine lv_iconst (v := 0) hx hb dX11_aRule_335 (by decide) ?_
                                refine lv_istore (lv' := [(4, .int (0 : Int32)), (3, .int r16), (2, .int r2), (1, .int x1), (0, .ref (a_m 0))]) hx hb dX11_aRule_336 hl (by decide) rfl (fun ls hl => ?_)
                                have L338 : ∀ (nn : Nat) (v4_338 : Int32), (hv_338 : 0 ≤ v4_338.toInt ∧ v4_338.toInt ≤ (x1).toInt) → ((25 - v4_338.toInt) < (nn : Int)) → ∀ (H : Heap) (locs : List Loc), va_P g.1 vwCl (wX11 g a_m (uR I_m_171 1 f49) J_m) H → va_D A (wX11 g a_m (uR I_m_171 1 f49) J_m) → va_S A s.heap H locs → ∀ ls : Array Slot, lv_has ls 5 [(4, .int v4_338), (3, .int r16), (2, .int r2), (1, .int x1), (0, .ref (a_m 0))] → W p l e (rm 6) s m args below meth c H locs 0 0 Q (F0 m 338 ls []) := by
                                  intro n_338
                                  induction n_338 with
                                  | zero =>
                                    intro v4_338 hv_338 hms_338 H locs hP hD hS ls hl
                                    exfalso; omega
                                  | succ n_338 ih_338 =>
                                    intro v4_338 hv_338 hms_338 H locs hP hD hS ls hl
                                    refine lv_iload hx hb dX11_aRule_338 (lv_at hl 0 rfl) ?_
                                    refine lv_iload_n hx hb dX11_aRule_340 rfl (lv_at hl 3 rfl) ?_
                                    refine q_icmp_ge (tgt := 372) hx hb dX11_aRule_341 (by decide) rfl rfl (fun k_341 => ?_) (fun k_341 => ?_)
                                    · refine lv_aload_n hx hb dX11_aRule_372 rfl (lv_at hl 4 rfl) ?_
                                      refine va_get (D := g.1) (ci := 11) (v := .ref (a_m 1)) (C := RX11) (T := TX11) (N := 46) hx hb hi_X11 (fun _ h => h) hown hK.1 hP 0 rfl rfl 0 (by decide) hf_7 (fun _ h9 => h9) rfl dX11_aRule_373 ?_
                                      refine lv_sipush (v := 13200) hx hb dX11_aRule_376 (by decide) ?_
                                      refine lv_dup2_11 hx hb dX11_aRule_379 rfl rfl ?_
                                      have n_380 : vp_in (13200 : Int32) 19800 := (t_in (by decide))
                                      refine va_iald hx hb hK.1 hP 1 0 rfl rfl n_380 dX11_aRule_380 ?_
                                      refine q_nm (fun x53 e_x53 => ?_)
                                      have e_x53 : x53 = f49 13200 := e_x53
                                      have g_x53 : x53.toInt = (f49 13200).toInt := congrArg _ e_x53
                                      have hbm : x53.toInt = ((x1).toInt) := by rw [e_x53]; exact hB317.2.1
                                      refine lv_iconst (v := 1) hx hb dX11_aRule_381 (by decide) ?_
                                      refine r_iadd hx hb dX11_aRule_382 rfl (by decide : (1 : Int32).toInt = 1) (fun x54 e_x54 t_x54 => ?_)
                                      try have t_x54 := t_x54 (by omega)
                                      have n_383 : vp_in (13200 : Int32) 19800 := (t_in (by decide))
                                      obtain ⟨f55, e_f55⟩ : ∃ z, z = upd f49 (13200 : Int32).toNatClampNeg x54 := ⟨_, rfl⟩
                                      refine va_iast hx hb hK.1 hP hD hS 1 0 rfl rfl n_383 dX11_aRule_383 (fun H locs hP hD hS => ?_)
                                      have hP : va_P g.1 vwCl (wX11 g a_m (uR (uR I_m_171 1 f49) 1 f55) J_m) H := by rw [e_f55]; exact hP
                                      have hD : va_D A (wX11 g a_m (uR (uR I_m_171 1 f49) 1 f55) J_m) := by rw [e_f55]; exact hD
                                      have hc_383 : MI (uR (uR I_m_171 1 f49) 1 f55) := MI.ua hc_303 e_f55 (by decide : (13200 : Int32).toInt = 13200) (by omega) (by omega)
                                      have hk_383 : KK [1] [11, 12, 13, 14, 16, 17] I_m (uR (uR I_m_171 1 f49) 1 f55) := KK.ur hk_303 (by decide) (by decide)
                                      have hp_383 : PQ I_m (uR (uR I_m_171 1 f49) 1 f55) := PQ.ur hp_303 (by decide)
                                      have hN383 : NS (uR (uR I_m_171 1 f49) 1 f55) := hB317.fin e_f55 (by omega)
                                      refine lv_aload_n hx hb dX11_aRule_384 rfl (lv_at hl 4 rfl) ?_
                                      refine lv_bipush (v := 59) hx hb dX11_aRule_385 (by decide) ?_
                                      have hq387 : PQ I_m (uR (uR I_m_171 1 f49) 1 f55) := hp_383
                                      refine EffI.cv (wr := ([])) (w' := fun u57 => wX11 g a_m u57 J_m) (As := [.int (59 : Int32)]) (kX11_wantSign l g a_m (uR (uR I_m_171 1 f49) 1 f55) J_m (59 : Int32) hp_383.1) fx (gUV (uT _) u_573 u_574 u_575 u_5 u_576) rfl hdX11_wantSign ⟨Nat.le_of_ble_eq_true rfl, Nat.le_of_ble_eq_true rfl⟩ hK hP hD hS hA [0, 1, 2, 3, 4, 5, 6, 7, 8, 9, 10, 11, 12, 13, 14, 15, 16, 17, 18, 19, 20, 21, 22] [] [0, 1, 2, 3, 4, 5, 6, 7, 8, 9, 10, 11, 12, 13, 14, 15, 16, 17, 18, 19, 20, 21, 22] rfl rfl rfl rfl (by decide) rfl (fun _ => rfl) rfl rfl rfl rfl hl.1 (Nat.le_of_ble_eq_true rfl) dX11_aRule_387 (fun r56 u57 H locs p_r56 hP hD hS => ?_)
                                      have hP : va_P g.1 vwCl (wX11 g a_m u57 J_m) H := hP
                                      have hD : va_D A (wX11 g a_m u57 J_m) := hD
                                      have p_r56 : KK [] [11, 12, 13, 14, 16, 17] (uR (uR I_m_171 1 f49) 1 f55) u57 ∧ PQ (uR (uR I_m_171 1 f49) 1 f55) u57 ∧ (r56 = 0 ∨ r56 = 1) ∧ (r56 = 1 → AD (uR (uR I_m_171 1 f49) 1 f55) u57) := p_r56
                                      refine hret 390 ls r56 _ _ u57 dX11_aRule_390 p_r56.2.2.1 hS hP hD ?_
                                      exact ⟨(MI.kk hc_383 p_r56.1 (by decide) (by decide)), (KK.tr hk_383 p_r56.1 (by decide) (by decide)), ⟨(PQ.tr hp_383 p_r56.2.1), p_r56.2.2.1, fun q => PQ.ad hq387 (p_r56.2.2.2 q), hN383.row (p_r56.1.row 1 (by decide))⟩⟩
                                    · refine lv_aload_n hx hb dX11_aRule_344 rfl (lv_at hl 4 rfl) ?_
                                      refine lv_sipush (v := 13200) hx hb dX11_aRule_345 (by decide) ?_
                                      refine lv_iload hx hb dX11_aRule_348 (lv_at hl 0 rfl) ?_
                                      refine PurI.cs (C := RX11) (As := [.int (13200 : Int32), .int v4_338]) (kX11_ruleAt l g (13200 : Int32) v4_338 (by omega) (by omega)) fx (gUS (uT _) u_554 u_555 u_5 u_556) rfl hdX11_ruleAt ⟨Nat.le_of_ble_eq_true rfl, Nat.le_of_ble_eq_true rfl⟩ hK hP [] rfl rfl rfl hl.1 (Nat.le_of_ble_eq_true rfl) dX11_aRule_350 (fun r58 p_r58 => ?_)
                                      refine lv_iload_n hx hb dX11_aRule_353 rfl (lv_at hl 2 rfl) ?_
                                      refine PurI.cv (As := [.int r58, .int r2]) (kX11_likeRule l g a_m (uR I_m_171 1 f49) J_m r58 r2 (by omega) (TS.lc hB317.1.1 (x := r58) (r := v4_338.toInt) rfl (by omega) (by omega)).2) fx (gUV (uT _) u_569 u_570 u_571 u_5 u_572) rfl hdX11_likeRule ⟨Nat.le_of_ble_eq_true rfl, Nat.le_of_ble_eq_true rfl⟩ hK hP [0, 1, 2, 3, 4, 5, 6, 7, 8, 9, 10, 11, 12, 13, 14, 15, 16, 17, 18, 19, 20, 21, 22] rfl rfl rfl rfl rfl hl.1 (Nat.le_of_ble_eq_true rfl) dX11_aRule_354 (fun r59 p_r59 => ?_)
                                      have p_r59 : bP True True r59 := p_r59
                                      refine q_if_eq (tgt := 366) hx hb dX11_aRule_357 (by decide) rfl (fun b_357 k_357 => ?_) (fun b_357 k_357 => ?_)
                                      · have q_357 := bP.f p_r59 b_357
                                        refine r_iinc (lv' := fun i60 => [(4, .int i60), (3, .int r16), (2, .int r2), (1, .int x1), (0, .ref (a_m 0))]) hx hb dX11_aRule_366 hl (k := 0) rfl (by decide) rfl (by decide) (fun _ => rfl) (fun i60 e_i60 t_i60 ls hl => ?_)
                                        try have t_i60 := t_i60 (by omega)
                                        refine lv_goto (tgt := 338) hx hb dX11_aRule_369 (by decide) ?_
                                        exact ih_338 i60 (by omega) (by omega) _ _ hP hD hS ls hl
                                      · have q_357 := bP.t p_r59 b_357
                                        refine lv_aload_n hx hb dX11_aRule_360 rfl (lv_at hl 4 rfl) ?_
                                        refine lv_iconst (v := 3) hx hb dX11_aRule_361 (by decide) ?_
                                        refine EffI.cv (wr := ([])) (w' := fun u62 => wX11 g a_m u62 J_m) (As := [.int (3 : Int32)]) (kX11_fails l g a_m (uR I_m_171 1 f49) J_m (3 : Int32)) fx (gUV (uT _) u_557 u_558 u_559 u_5 u_560) rfl hdX11_fails ⟨Nat.le_of_ble_eq_true rfl, Nat.le_of_ble_eq_true rfl⟩ hK hP hD hS hA [0, 1, 2, 3, 4, 5, 6, 7, 8, 9, 10, 11, 12, 13, 14, 15, 16, 17, 18, 19, 20, 21, 22] [] [0, 1, 2, 3, 4, 5, 6, 7, 8, 9, 10, 11, 12, 13, 14, 15, 16, 17, 18, 19, 20, 21, 22] rfl rfl rfl rfl (by decide) rfl (fun _ => rfl) rfl rfl rfl rfl hl.1 (Nat.le_of_ble_eq_true rfl) dX11_aRule_362 (fun r61 u62 H locs p_r61 hP hD hS => ?_)
                                        have hP : va_P g.1 vwCl (wX11 g a_m u62 J_m) H := hP
                                        have hD : va_D A (wX11 g a_m u62 J_m) := hD
                                        have p_r61 : KK [] [16, 17] (uR I_m_171 1 f49) u62 ∧ r61 = 0 := p_r61
                                        refine hret 365 ls r61 _ _ u62 dX11_aRule_365 (Or.inl p_r61.2) hS hP hD ?_
                                        exact ⟨(MI.kk hc_303 p_r61.1 (by decide) (by decide)), (KK.tr hk_303 p_r61.1 (by decide) (by decide)), ⟨(PQ.kk hp_303 p_r61.1 (by decide)), Or.inl p_r61.2, fun q => absurd (q.symm.trans p_r61.2) (by decide), (hB317.kk p_r61.1 (by decide)).1⟩⟩
                                exact L338 ((25 - (0 : Int32).toInt) + 1).toNat (0 : Int32) (by omega) (by omega) _ _ hP hD hS ls hl
                              · have q_326 := bP.f p_r52 b_326
                                refine lv_aload_n hx hb dX11_aRule_329 rfl (lv_at hl 3 rfl) ?_
                                refine lv_iconst (v := 2) hx hb dX11_aRule_330 (by decide) ?_
                                refine EffI.cv (wr := ([])) (w' := fun u64 => wX11 g a_m u64 J_m) (As := [.int (2 : Int32)]) (kX11_fails l g a_m (uR I_m_171 1 f49) J_m (2 : Int32)) fx (gUV (uT _) u_557 u_558 u_559 u_5 u_560) rfl hdX11_fails ⟨Nat.le_of_ble_eq_true rfl, Nat.le_of_ble_eq_true rfl⟩ hK hP hD hS hA [0, 1, 2, 3, 4, 5, 6, 7, 8, 9, 10, 11, 12, 13, 14, 15, 16, 17, 18, 19, 20, 21, 22] [] [0, 1, 2, 3, 4, 5, 6, 7, 8, 9, 10, 11, 12, 13, 14, 15, 16, 17, 18, 19, 20, 21, 22] rfl rfl rfl rfl (by decide) rfl (fun _ => rfl) rfl rfl rfl rfl hl.1 (Nat.le_of_ble_eq_true rfl) dX11_aRule_331 (fun r63 u64 H locs p_r63 hP hD hS => ?_)
                                have hP : va_P g.1 vwCl (wX11 g a_m u64 J_m) H := hP
                                have hD : va_D A (wX11 g a_m u64 J_m) := hD
                                have p_r63 : KK [] [16, 17] (uR I_m_171 1 f49) u64 ∧ r63 = 0 := p_r63
                                refine hret 334 ls r63 _ _ u64 dX11_aRule_334 (Or.inl p_r63.2) hS hP hD ?_
                                exact ⟨(MI.kk hc_303 p_r63.1 (by decide) (by decide)), (KK.tr hk_303 p_r63.1 (by decide) (by decide)), ⟨(PQ.kk hp_303 p_r63.1 (by decide)), Or.inl p_r63.2, fun q => absurd (q.symm.trans p_r63.2) (by decide), (hB317.kk p_r63.1 (by decide)).1⟩⟩
                            · refine lv_aload_n hx hb dX11_aRule_316 rfl (lv_at hl 3 rfl) ?_
                              refine EffV.cv (wr := ([])) (w' := fun u66 => wX11 g a_m u66 J_m) (As := []) (kX11_ahead l g a_m (uR I_m_171 1 f49) J_m hp_303.1.1) fx (gUV (uT _) u_515 u_516 u_517 u_5 u_518) rfl hdX11_ahead ⟨Nat.le_of_ble_eq_true rfl, Nat.le_of_ble_eq_true rfl⟩ hK hP hD hS hA [0, 1, 2, 3, 4, 5, 6, 7, 8, 9, 10, 11, 12, 13, 14, 15, 16, 17, 18, 19, 20, 21, 22] [] [0, 1, 2, 3, 4, 5, 6, 7, 8, 9, 10, 11, 12, 13, 14, 15, 16, 17, 18, 19, 20, 21, 22] rfl rfl rfl rfl (by decide) rfl (fun _ => rfl) rfl rfl rfl rfl hl.1 (Nat.le_of_ble_eq_true rfl) dX11_aRule_317 (fun u66 H locs p_r65 hP hD hS => ?_)
                              have hP : va_P g.1 vwCl (wX11 g a_m u66 J_m) H := hP
                              have hD : va_D A (wX11 g a_m u66 J_m) := hD
                              have p_r65 : KK [] [11, 12, 13, 14] (uR I_m_171 1 f49) u66 ∧ AH (uR I_m_171 1 f49) u66 := p_r65
                              have hB317 := hB303.kk p_r65.1 (by decide)
                              refine lv_aload_n hx hb dX11_aRule_320 rfl (lv_at hl 3 rfl) ?_
                              refine lv_bipush (v := 59) hx hb dX11_aRule_321 (by decide) ?_
                              refine PurI.cv (As := [.int (59 : Int32)]) (kX11_isSign l g a_m u66 J_m (59 : Int32)) fx (gUV (uT _) u_565 u_566 u_567 u_5 u_568) rfl hdX11_isSign ⟨Nat.le_of_ble_eq_true rfl, Nat.le_of_ble_eq_true rfl⟩ hK hP [0, 1, 2, 3, 4, 5, 6, 7, 8, 9, 10, 11, 12, 13, 14, 15, 16, 17, 18, 19, 20, 21, 22] rfl rfl rfl rfl rfl hl.1 (Nat.le_of_ble_eq_true rfl) dX11_aRule_323 (fun r67 p_r67 => ?_)
                              refine q_if_ne (tgt := 335) hx hb dX11_aRule_326 (by decide) rfl (fun b_326 k_326 => ?_) (fun b_326 k_326 => ?_)
                              · have q_326 := bP.t p_r67 b_326
                                refine lv_iconst (v := 0) hx hb dX11_aRule_335 (by decide) ?_
                                refine lv_istore (lv' := [(4, .int (0 : Int32)), (3, .int r16), (2, .int r2), (1, .int x1), (0, .ref (a_m 0))]) hx hb dX11_aRule_336 hl (by decide) rfl (fun ls hl => ?_)
                                have L338 : ∀ (nn : Nat) (v4_338 : Int32), (hv_338 : 0 ≤ v4_338.toInt ∧ v4_338.toInt ≤ (x1).toInt) → ((25 - v4_338.toInt) < (nn : Int)) → ∀ (H : Heap) (locs : List Loc), va_P g.1 vwCl (wX11 g a_m u66 J_m) H → va_D A (wX11 g a_m u66 J_m) → va_S A s.heap H locs → ∀ ls : Array Slot, lv_has ls 5 [(4, .int v4_338), (3, .int r16), (2, .int r2), (1, .int x1), (0, .ref (a_m 0))] → W p l e (rm 6) s m args below meth c H locs 0 0 Q (F0 m 338 ls []) := by
                                  intro n_338
                                  induction n_338 with
                                  | zero =>
                                    intro v4_338 hv_338 hms_338 H locs hP hD hS ls hl
                                    exfalso; omega
                                  | succ n_338 ih_338 =>
                                    intro v4_338 hv_338 hms_338 H locs hP hD hS ls hl
                                    refine lv_iload hx hb dX11_aRule_338 (lv_at hl 0 rfl) ?_
                                    refine lv_iload_n hx hb dX11_aRule_340 rfl (lv_at hl 3 rfl) ?_
                                    refine q_icmp_ge (tgt := 372) hx hb dX11_aRule_341 (by decide) rfl rfl (fun k_341 => ?_) (fun k_341 => ?_)
                                    · refine lv_aload_n hx hb dX11_aRule_372 rfl (lv_at hl 4 rfl) ?_
                                      refine va_get (D := g.1) (ci := 11) (v := .ref (a_m 1)) (C := RX11) (T := TX11) (N := 46) hx hb hi_X11 (fun _ h => h) hown hK.1 hP 0 rfl rfl 0 (by decide) hf_7 (fun _ h9 => h9) rfl dX11_aRule_373 ?_
                                      refine lv_sipush (v := 13200) hx hb dX11_aRule_376 (by decide) ?_
                                      refine lv_dup2_11 hx hb dX11_aRule_379 rfl rfl ?_
                                      have n_380 : vp_in (13200 : Int32) 19800 := (t_in (by decide))
                                      refine va_iald hx hb hK.1 hP 1 0 rfl rfl n_380 dX11_aRule_380 ?_
                                      refine q_nm (fun x68 e_x68 => ?_)
                                      have e_x68 : x68 = (u66 1) 13200 := e_x68
                                      have g_x68 : x68.toInt = ((u66 1) 13200).toInt := congrArg _ e_x68
                                      have hbm : x68.toInt = ((x1).toInt) := by rw [e_x68]; exact hB317.2.1
                                      refine lv_iconst (v := 1) hx hb dX11_aRule_381 (by decide) ?_
                                      refine r_iadd hx hb dX11_aRule_382 rfl (by decide : (1 : Int32).toInt = 1) (fun x69 e_x69 t_x69 => ?_)
                                      try have t_x69 := t_x69 (by omega)
                                      have n_383 : vp_in (13200 : Int32) 19800 := (t_in (by decide))
                                      obtain ⟨f70, e_f70⟩ : ∃ z, z = upd (u66 1) (13200 : Int32).toNatClampNeg x69 := ⟨_, rfl⟩
                                      refine va_iast hx hb hK.1 hP hD hS 1 0 rfl rfl n_383 dX11_aRule_383 (fun H locs hP hD hS => ?_)
                                      have hP : va_P g.1 vwCl (wX11 g a_m (uR u66 1 f70) J_m) H := by rw [e_f70]; exact hP
                                      have hD : va_D A (wX11 g a_m (uR u66 1 f70) J_m) := by rw [e_f70]; exact hD
                                      have hc_383 : MI (uR u66 1 f70) := MI.ua (MI.kk hc_303 p_r65.1 (by decide) (by decide)) e_f70 (by decide : (13200 : Int32).toInt = 13200) (by omega) (by omega)
                                      have hk_383 : KK [1] [11, 12, 13, 14, 16, 17] I_m (uR u66 1 f70) := KK.ur (KK.tr hk_303 p_r65.1 (by decide) (by decide)) (by decide) (by decide)
                                      have hp_383 : PQ I_m (uR u66 1 f70) := PQ.ur (PQ.ah hp_303 p_r65.2) (by decide)
                                      have hN383 : NS (uR u66 1 f70) := hB317.fin e_f70 (by omega)
                                      refine lv_aload_n hx hb dX11_aRule_384 rfl (lv_at hl 4 rfl) ?_
                                      refine lv_bipush (v := 59) hx hb dX11_aRule_385 (by decide) ?_
                                      have hq387 : PQ I_m (uR u66 1 f70) := hp_383
                                      refine EffI.cv (wr := ([])) (w' := fun u72 => wX11 g a_m u72 J_m) (As := [.int (59 : Int32)]) (kX11_wantSign l g a_m (uR u66 1 f70) J_m (59 : Int32) hp_383.1) fx (gUV (uT _) u_573 u_574 u_575 u_5 u_576) rfl hdX11_wantSign ⟨Nat.le_of_ble_eq_true rfl, Nat.le_of_ble_eq_true rfl⟩ hK hP hD hS hA [0, 1, 2, 3, 4, 5, 6, 7, 8, 9, 10, 11, 12, 13, 14, 15, 16, 17, 18, 19, 20, 21, 22] [] [0, 1, 2, 3, 4, 5, 6, 7, 8, 9, 10, 11, 12, 13, 14, 15, 16, 17, 18, 19, 20, 21, 22] rfl rfl rfl rfl (by decide) rfl (fun _ => rfl) rfl rfl rfl rfl hl.1 (Nat.le_of_ble_eq_true rfl) dX11_aRule_387 (fun r71 u72 H locs p_r71 hP hD hS => ?_)
                                      have hP : va_P g.1 vwCl (wX11 g a_m u72 J_m) H := hP
                                      have hD : va_D A (wX11 g a_m u72 J_m) := hD
                                      have p_r71 : KK [] [11, 12, 13, 14, 16, 17] (uR u66 1 f70) u72 ∧ PQ (uR u66 1 f70) u72 ∧ (r71 = 0 ∨ r71 = 1) ∧ (r71 = 1 → AD (uR u66 1 f70) u72) := p_r71
                                      refine hret 390 ls r71 _ _ u72 dX11_aRule_390 p_r71.2.2.1 hS hP hD ?_
                                      exact ⟨(MI.kk hc_383 p_r71.1 (by decide) (by decide)), (KK.tr hk_383 p_r71.1 (by decide) (by decide)), ⟨(PQ.tr hp_383 p_r71.2.1), p_r71.2.2.1, fun q => PQ.ad hq387 (p_r71.2.2.2 q), hN383.row (p_r71.1.row 1 (by decide))⟩⟩
                                    · refine lv_aload_n hx hb dX11_aRule_344 rfl (lv_at hl 4 rfl) ?_
                                      refine lv_sipush (v := 13200) hx hb dX11_aRule_345 (by decide) ?_
                                      refine lv_iload hx hb dX11_aRule_348 (lv_at hl 0 rfl) ?_
                                      refine PurI.cs (C := RX11) (As := [.int (13200 : Int32), .int v4_338]) (kX11_ruleAt l g (13200 : Int32) v4_338 (by omega) (by omega)) fx (gUS (uT _) u_554 u_555 u_5 u_556) rfl hdX11_ruleAt ⟨Nat.le_of_ble_eq_true rfl, Nat.le_of_ble_eq_true rfl⟩ hK hP [] rfl rfl rfl hl.1 (Nat.le_of_ble_eq_true rfl) dX11_aRule_350 (fun r73 p_r73 => ?_)
                                      refine lv_iload_n hx hb dX11_aRule_353 rfl (lv_at hl 2 rfl) ?_
                                      refine PurI.cv (As := [.int r73, .int r2]) (kX11_likeRule l g a_m u66 J_m r73 r2 (by omega) (TS.lc hB317.1.1 (x := r73) (r := v4_338.toInt) rfl (by omega) (by omega)).2) fx (gUV (uT _) u_569 u_570 u_571 u_5 u_572) rfl hdX11_likeRule ⟨Nat.le_of_ble_eq_true rfl, Nat.le_of_ble_eq_true rfl⟩ hK hP [0, 1, 2, 3, 4, 5, 6, 7, 8, 9, 10, 11, 12, 13, 14, 15, 16, 17, 18, 19, 20, 21, 22] rfl rfl rfl rfl rfl hl.1 (Nat.le_of_ble_eq_true rfl) dX11_aRule_354 (fun r74 p_r74 => ?_)
                                      refine q_if_eq (tgt := 366) hx hb dX11_aRule_357 (by decide) rfl (fun b_357 k_357 => ?_) (fun b_357 k_357 => ?_)
                                      · have q_357 := bP.f p_r74 b_357
                                        refine r_iinc (lv' := fun i75 => [(4, .int i75), (3, .int r16), (2, .int r2), (1, .int x1), (0, .ref (a_m 0))]) hx hb dX11_aRule_366 hl (k := 0) rfl (by decide) rfl (by decide) (fun _ => rfl) (fun i75 e_i75 t_i75 ls hl => ?_)
                                        try have t_i75 := t_i75 (by omega)
                                        refine lv_goto (tgt := 338) hx hb dX11_aRule_369 (by decide) ?_
                                        exact ih_338 i75 (by omega) (by omega) _ _ hP hD hS ls hl
                                      · have q_357 := bP.t p_r74 b_357
                                        refine lv_aload_n hx hb dX11_aRule_360 rfl (lv_at hl 4 rfl) ?_
                                        refine lv_iconst (v := 3) hx hb dX11_aRule_361 (by decide) ?_
                                        refine EffI.cv (wr := ([])) (w' := fun u77 => wX11 g a_m u77 J_m) (As := [.int (3 : Int32)]) (kX11_fails l g a_m u66 J_m (3 : Int32)) fx (gUV (uT _) u_557 u_558 u_559 u_5 u_560) rfl hdX11_fails ⟨Nat.le_of_ble_eq_true rfl, Nat.le_of_ble_eq_true rfl⟩ hK hP hD hS hA [0, 1, 2, 3, 4, 5, 6, 7, 8, 9, 10, 11, 12, 13, 14, 15, 16, 17, 18, 19, 20, 21, 22] [] [0, 1, 2, 3, 4, 5, 6, 7, 8, 9, 10, 11, 12, 13, 14, 15, 16, 17, 18, 19, 20, 21, 22] rfl rfl rfl rfl (by decide) rfl (fun _ => rfl) rfl rfl rfl rfl hl.1 (Nat.le_of_ble_eq_true rfl) dX11_aRule_362 (fun r76 u77 H locs p_r76 hP hD hS => ?_)
                                        have hP : va_P g.1 vwCl (wX11 g a_m u77 J_m) H := hP
                                        have hD : va_D A (wX11 g a_m u77 J_m) := hD
                                        refine hret 365 ls r76 _ _ u77 dX11_aRule_365 (Or.inl p_r76.2) hS hP hD ?_
                                        exact ⟨(MI.kk (MI.kk hc_303 p_r65.1 (by decide) (by decide)) p_r76.1 (by decide) (by decide)), (KK.tr (KK.tr hk_303 p_r65.1 (by decide) (by decide)) p_r76.1 (by decide) (by decide)), ⟨(PQ.kk (PQ.ah hp_303 p_r65.2) p_r76.1 (by decide)), Or.inl p_r76.2, fun q => absurd (q.symm.trans p_r76.2) (by decide), (hB317.kk p_r76.1 (by decide)).1⟩⟩
                                exact L338 ((25 - (0 : Int32).toInt) + 1).toNat (0 : Int32) (by omega) (by omega) _ _ hP hD hS ls hl
                              · have q_326 := bP.f p_r67 b_326
                                refine lv_aload_n hx hb dX11_aRule_329 rfl (lv_at hl 3 rfl) ?_
                                refine lv_iconst (v := 2) hx hb dX11_aRule_330 (by decide) ?_
                                refine EffI.cv (wr := ([])) (w' := fun u79 => wX11 g a_m u79 J_m) (As := [.int (2 : Int32)]) (kX11_fails l g a_m u66 J_m (2 : Int32)) fx (gUV (uT _) u_557 u_558 u_559 u_5 u_560) rfl hdX11_fails ⟨Nat.le_of_ble_eq_true rfl, Nat.le_of_ble_eq_true rfl⟩ hK hP hD hS hA [0, 1, 2, 3, 4, 5, 6, 7, 8, 9, 10, 11, 12, 13, 14, 15, 16, 17, 18, 19, 20, 21, 22] [] [0, 1, 2, 3, 4, 5, 6, 7, 8, 9, 10, 11, 12, 13, 14, 15, 16, 17, 18, 19, 20, 21, 22] rfl rfl rfl rfl (by decide) rfl (fun _ => rfl) rfl rfl rfl rfl hl.1 (Nat.le_of_ble_eq_true rfl) dX11_aRule_331 (fun r78 u79 H locs p_r78 hP hD hS => ?_)
                                have hP : va_P g.1 vwCl (wX11 g a_m u79 J_m) H := hP
                                have hD : va_D A (wX11 g a_m u79 J_m) := hD
                                refine hret 334 ls r78 _ _ u79 dX11_aRule_334 (Or.inl p_r78.2) hS hP hD ?_
                                exact ⟨(MI.kk (MI.kk hc_303 p_r65.1 (by decide) (by decide)) p_r78.1 (by decide) (by decide)), (KK.tr (KK.tr hk_303 p_r65.1 (by decide) (by decide)) p_r78.1 (by decide) (by decide)), ⟨(PQ.kk (PQ.ah hp_303 p_r65.2) p_r78.1 (by decide)), Or.inl p_r78.2, fun q => absurd (q.symm.trans p_r78.2) (by decide), (hB317.kk p_r78.1 (by decide)).1⟩⟩
                          · refine lv_iload_n hx hb dX11_aRule_293 rfl (lv_at hl 0 rfl) ?_
                            refine lv_bipush (v := 7) hx hb dX11_aRule_294 (by decide) ?_
                            refine r_isub hx hb dX11_aRule_296 rfl (by decide : (7 : Int32).toInt = 7) (fun x80 e_x80 t_x80 => ?_)
                            try have t_x80 := t_x80 (by omega)
                            refine lv_iconst (v := 1) hx hb dX11_aRule_297 (by decide) ?_
                            refine r_iadd hx hb dX11_aRule_298 rfl (by decide : (1 : Int32).toInt = 1) (fun x81 e_x81 t_x81 => ?_)
                            try have t_x81 := t_x81 (by omega)
                            refine lv_goto (tgt := 303) hx hb dX11_aRule_299 (by decide) ?_
                            have n_303 : vp_in x17 19800 := (t_in (by omega))
                            obtain ⟨f82, e_f82⟩ : ∃ z, z = upd (I_m_171 1) x17.toNatClampNeg x81 := ⟨_, rfl⟩
                            refine va_iast hx hb hK.1 hP hD hS 1 0 rfl rfl n_303 dX11_aRule_303 (fun H locs hP hD hS => ?_)
                            have hP : va_P g.1 vwCl (wX11 g a_m (uR I_m_171 1 f82) J_m) H := by rw [e_f82]; exact hP
                            have hD : va_D A (wX11 g a_m (uR I_m_171 1 f82) J_m) := by rw [e_f82]; exact hD
                            have hc_303 : MI (uR I_m_171 1 f82) := MI.ua hM_171 e_f82 rfl (by omega) (by omega)
                            have hk_303 : KK [1] [11, 12, 13, 14, 16, 17] I_m (uR I_m_171 1 f82) := KK.ur hk_171 (by decide) (by decide)
                            have hp_303 : PQ I_m (uR I_m_171 1 f82) := PQ.ur hp_171 (by decide)
                            have hB303 : RA (uR I_m_171 1 f82) ((x1).toInt) 1 1 := hB176.put (o := 11) 1 1 e_f82 rfl (by omega) (by omega) (by omega) (by omega) (by omega)
                            refine lv_aload_n hx hb dX11_aRule_304 rfl (lv_at hl 3 rfl) ?_
                            refine va_get (D := g.1) (ci := 11) (v := .ref (a_m 1)) (C := RX11) (T := TX11) (N := 46) hx hb hi_X11 (fun _ h => h) hown hK.1 hP 0 rfl rfl 0 (by decide) hf_7 (fun _ h9 => h9) rfl dX11_aRule_305 ?_
                            refine lv_iload_n hx hb dX11_aRule_308 rfl (lv_at hl 1 rfl) ?_
                            refine lv_bipush (v := 11) hx hb dX11_aRule_309 (by decide) ?_
                            refine r_iadd hx hb dX11_aRule_311 rfl (by decide : (11 : Int32).toInt = 11) (fun x83 e_x83 t_x83 => ?_)
                            try have t_x83 := t_x83 (by omega)
                            have n_312 : vp_in x83 19800 := (t_in (by omega))
                            refine va_iald hx hb hK.1 hP 1 0 rfl rfl n_312 dX11_aRule_312 ?_
                            refine q_nm (fun x84 e_x84 => ?_)
                            have e_x84 : x84 = f82 x83.toNatClampNeg := e_x84
                            have g_x84 : x84.toInt = (f82 x83.toNatClampNeg).toInt := congrArg _ e_x84
                            refine q_if_le (tgt := 320) hx hb dX11_aRule_313 (by decide) rfl (fun k_313 => ?_) (fun k_313 => ?_)
                            · have hB317 := hB303
                              refine lv_aload_n hx hb dX11_aRule_320 rfl (lv_at hl 3 rfl) ?_
                              refine lv_bipush (v := 59) hx hb dX11_aRule_321 (by decide) ?_
                              refine PurI.cv (As := [.int (59 : Int32)]) (kX11_isSign l g a_m (uR I_m_171 1 f82) J_m (59 : Int32)) fx (gUV (uT _) u_565 u_566 u_567 u_5 u_568) rfl hdX11_isSign ⟨Nat.le_of_ble_eq_true rfl, Nat.le_of_ble_eq_true rfl⟩ hK hP [0, 1, 2, 3, 4, 5, 6, 7, 8, 9, 10, 11, 12, 13, 14, 15, 16, 17, 18, 19, 20, 21, 22] rfl rfl rfl rfl rfl hl.1 (Nat.le_of_ble_eq_true rfl) dX11_aRule_323 (fun r85 p_r85 => ?_)
                              have p_r85 : bP ((I_m_171 0 11).toInt = 4 ∧ (I_m_171 0 14).toInt = ((59 : Int32)).toInt) (¬ ((I_m_171 0 11).toInt = 4 ∧ (I_m_171 0 14).toInt = ((59 : Int32)).toInt)) r85 := p_r85
                              refine q_if_ne (tgt := 335) hx hb dX11_aRule_326 (by decide) rfl (fun b_326 k_326 => ?_) (fun b_326 k_326 => ?_)
                              · have q_326 := bP.t p_r85 b_326
                                refine lv_iconst (v := 0) hx hb dX11_aRule_335 (by decide) ?_
                                refine lv_istore (lv' := [(4, .int (0 : Int32)), (3, .int r16), (2, .int r2), (1, .int x1), (0, .ref (a_m 0))]) hx hb dX11_aRule_336 hl (by decide) rfl (fun ls hl => ?_)
                                have L338 : ∀ (nn : Nat) (v4_338 : Int32), (hv_338 : 0 ≤ v4_338.toInt ∧ v4_338.toInt ≤ (x1).toInt) → ((25 - v4_338.toInt) < (nn : Int)) → ∀ (H : Heap) (locs : List Loc), va_P g.1 vwCl (wX11 g a_m (uR I_m_171 1 f82) J_m) H → va_D A (wX11 g a_m (uR I_m_171 1 f82) J_m) → va_S A s.heap H locs → ∀ ls : Array Slot, lv_has ls 5 [(4, .int v4_338), (3, .int r16), (2, .int r2), (1, .int x1), (0, .ref (a_m 0))] → W p l e (rm 6) s m args below meth c H locs 0 0 Q (F0 m 338 ls []) := by
                                  intro n_338
                                  induction n_338 with
                                  | zero =>
                                    intro v4_338 hv_338 hms_338 H locs hP hD hS ls hl
                                    exfalso; omega
                                  | succ n_338 ih_338 =>
                                    intro v4_338 hv_338 hms_338 H locs hP hD hS ls hl
                                    refine lv_iload hx hb dX11_aRule_338 (lv_at hl 0 rfl) ?_
                                    refine lv_iload_n hx hb dX11_aRule_340 rfl (lv_at hl 3 rfl) ?_
                                    refine q_icmp_ge (tgt := 372) hx hb dX11_aRule_341 (by decide) rfl rfl (fun k_341 => ?_) (fun k_341 => ?_)
                                    · refine lv_aload_n hx hb dX11_aRule_372 rfl (lv_at hl 4 rfl) ?_
                                      refine va_get (D := g.1) (ci := 11) (v := .ref (a_m 1)) (C := RX11) (T := TX11) (N := 46) hx hb hi_X11 (fun _ h => h) hown hK.1 hP 0 rfl rfl 0 (by decide) hf_7 (fun _ h9 => h9) rfl dX11_aRule_373 ?_
                                      refine lv_sipush (v := 13200) hx hb dX11_aRule_376 (by decide) ?_
                                      refine lv_dup2_11 hx hb dX11_aRule_379 rfl rfl ?_
                                      have n_380 : vp_in (13200 : Int32) 19800 := (t_in (by decide))
                                      refine va_iald hx hb hK.1 hP 1 0 rfl rfl n_380 dX11_aRule_380 ?_
                                      refine q_nm (fun x86 e_x86 => ?_)
                                      have e_x86 : x86 = f82 13200 := e_x86
                                      have g_x86 : x86.toInt = (f82 13200).toInt := congrArg _ e_x86
                                      have hbm : x86.toInt = ((x1).toInt) := by rw [e_x86]; exact hB317.2.1
                                      refine lv_iconst (v := 1) hx hb dX11_aRule_381 (by decide) ?_
                                      refine r_iadd hx hb dX11_aRule_382 rfl (by decide : (1 : Int32).toInt = 1) (fun x87 e_x87 t_x87 => ?_)
                                      try have t_x87 := t_x87 (by omega)
                                      have n_383 : vp_in (13200 : Int32) 19800 := (t_in (by decide))
                                      obtain ⟨f88, e_f88⟩ : ∃ z, z = upd f82 (13200 : Int32).toNatClampNeg x87 := ⟨_, rfl⟩
                                      refine va_iast hx hb hK.1 hP hD hS 1 0 rfl rfl n_383 dX11_aRule_383 (fun H locs hP hD hS => ?_)
                                      have hP : va_P g.1 vwCl (wX11 g a_m (uR (uR I_m_171 1 f82) 1 f88) J_m) H := by rw [e_f88]; exact hP
                                      have hD : va_D A (wX11 g a_m (uR (uR I_m_171 1 f82) 1 f88) J_m) := by rw [e_f88]; exact hD
                                      have hc_383 : MI (uR (uR I_m_171 1 f82) 1 f88) := MI.ua hc_303 e_f88 (by decide : (13200 : Int32).toInt = 13200) (by omega) (by omega)
                                      have hk_383 : KK [1] [11, 12, 13, 14, 16, 17] I_m (uR (uR I_m_171 1 f82) 1 f88) := KK.ur hk_303 (by decide) (by decide)
                                      have hp_383 : PQ I_m (uR (uR I_m_171 1 f82) 1 f88) := PQ.ur hp_303 (by decide)
                                      have hN383 : NS (uR (uR I_m_171 1 f82) 1 f88) := hB317.fin e_f88 (by omega)
                                      refine lv_aload_n hx hb dX11_aRule_384 rfl (lv_at hl 4 rfl) ?_
                                      refine lv_bipush (v := 59) hx hb dX11_aRule_385 (by decide) ?_
                                      have hq387 : PQ I_m (uR (uR I_m_171 1 f82) 1 f88) := hp_383
                                      refine EffI.cv (wr := ([])) (w' := fun u90 => wX11 g a_m u90 J_m) (As := [.int (59 : Int32)]) (kX11_wantSign l g a_m (uR (uR I_m_171 1 f82) 1 f88) J_m (59 : Int32) hp_383.1) fx (gUV (uT _) u_573 u_574 u_575 u_5 u_576) rfl hdX11_wantSign ⟨Nat.le_of_ble_eq_true rfl, Nat.le_of_ble_eq_true rfl⟩ hK hP hD hS hA [0, 1, 2, 3, 4, 5, 6, 7, 8, 9, 10, 11, 12, 13, 14, 15, 16, 17, 18, 19, 20, 21, 22] [] [0, 1, 2, 3, 4, 5, 6, 7, 8, 9, 10, 11, 12, 13, 14, 15, 16, 17, 18, 19, 20, 21, 22] rfl rfl rfl rfl (by decide) rfl (fun _ => rfl) rfl rfl rfl rfl hl.1 (Nat.le_of_ble_eq_true rfl) dX11_aRule_387 (fun r89 u90 H locs p_r89 hP hD hS => ?_)
                                      have hP : va_P g.1 vwCl (wX11 g a_m u90 J_m) H := hP
                                      have hD : va_D A (wX11 g a_m u90 J_m) := hD
                                      have p_r89 : KK [] [11, 12, 13, 14, 16, 17] (uR (uR I_m_171 1 f82) 1 f88) u90 ∧ PQ (uR (uR I_m_171 1 f82) 1 f88) u90 ∧ (r89 = 0 ∨ r89 = 1) ∧ (r89 = 1 → AD (uR (uR I_m_171 1 f82) 1 f88) u90) := p_r89
                                      refine hret 390 ls r89 _ _ u90 dX11_aRule_390 p_r89.2.2.1 hS hP hD ?_
                                      exact ⟨(MI.kk hc_383 p_r89.1 (by decide) (by decide)), (KK.tr hk_383 p_r89.1 (by decide) (by decide)), ⟨(PQ.tr hp_383 p_r89.2.1), p_r89.2.2.1, fun q => PQ.ad hq387 (p_r89.2.2.2 q), hN383.row (p_r89.1.row 1 (by decide))⟩⟩
                                    · refine lv_aload_n hx hb dX11_aRule_344 rfl (lv_at hl 4 rfl) ?_
                                      refine lv_sipush (v := 13200) hx hb dX11_aRule_345 (by decide) ?_
                                      refine lv_iload hx hb dX11_aRule_348 (lv_at hl 0 rfl) ?_
                                      refine PurI.cs (C := RX11) (As := [.int (13200 : Int32), .int v4_338]) (kX11_ruleAt l g (13200 : Int32) v4_338 (by omega) (by omega)) fx (gUS (uT _) u_554 u_555 u_5 u_556) rfl hdX11_ruleAt ⟨Nat.le_of_ble_eq_true rfl, Nat.le_of_ble_eq_true rfl⟩ hK hP [] rfl rfl rfl hl.1 (Nat.le_of_ble_eq_true rfl) dX11_aRule_350 (fun r91 p_r91 => ?_)
                                      refine lv_iload_n hx hb dX11_aRule_353 rfl (lv_at hl 2 rfl) ?_
                                      refine PurI.cv (As := [.int r91, .int r2]) (kX11_likeRule l g a_m (uR I_m_171 1 f82) J_m r91 r2 (by omega) (TS.lc hB317.1.1 (x := r91) (r := v4_338.toInt) rfl (by omega) (by omega)).2) fx (gUV (uT _) u_569 u_570 u_571 u_5 u_572) rfl hdX11_likeRule ⟨Nat.le_of_ble_eq_true rfl, Nat.le_of_ble_eq_true rfl⟩ hK hP [0, 1, 2, 3, 4, 5, 6, 7, 8, 9, 10, 11, 12, 13, 14, 15, 16, 17, 18, 19, 20, 21, 22] rfl rfl rfl rfl rfl hl.1 (Nat.le_of_ble_eq_true rfl) dX11_aRule_354 (fun r92 p_r92 => ?_)
                                      have p_r92 : bP True True r92 := p_r92
                                      refine q_if_eq (tgt := 366) hx hb dX11_aRule_357 (by decide) rfl (fun b_357 k_357 => ?_) (fun b_357 k_357 => ?_)
                                      · have q_357 := bP.f p_r92 b_357
                                        refine r_iinc (lv' := fun i93 => [(4, .int i93), (3, .int r16), (2, .int r2), (1, .int x1), (0, .ref (a_m 0))]) hx hb dX11_aRule_366 hl (k := 0) rfl (by decide) rfl (by decide) (fun _ => rfl) (fun i93 e_i93 t_i93 ls hl => ?_)
                                        try have t_i93 := t_i93 (by omega)
                                        refine lv_goto (tgt := 338) hx hb dX11_aRule_369 (by decide) ?_
                                        exact ih_338 i93 (by omega) (by omega) _ _ hP hD hS ls hl
                                      · have q_357 := bP.t p_r92 b_357
                                        refine lv_aload_n hx hb dX11_aRule_360 rfl (lv_at hl 4 rfl) ?_
                                        refine lv_iconst (v := 3) hx hb dX11_aRule_361 (by decide) ?_
                                        refine EffI.cv (wr := ([])) (w' := fun u95 => wX11 g a_m u95 J_m) (As := [.int (3 : Int32)]) (kX11_fails l g a_m (uR I_m_171 1 f82) J_m (3 : Int32)) fx (gUV (uT _) u_557 u_558 u_559 u_5 u_560) rfl hdX11_fails ⟨Nat.le_of_ble_eq_true rfl, Nat.le_of_ble_eq_true rfl⟩ hK hP hD hS hA [0, 1, 2, 3, 4, 5, 6, 7, 8, 9, 10, 11, 12, 13, 14, 15, 16, 17, 18, 19, 20, 21, 22] [] [0, 1, 2, 3, 4, 5, 6, 7, 8, 9, 10, 11, 12, 13, 14, 15, 16, 17, 18, 19, 20, 21, 22] rfl rfl rfl rfl (by decide) rfl (fun _ => rfl) rfl rfl rfl rfl hl.1 (Nat.le_of_ble_eq_true rfl) dX11_aRule_362 (fun r94 u95 H locs p_r94 hP hD hS => ?_)
                                        have hP : va_P g.1 vwCl (wX11 g a_m u95 J_m) H := hP
                                        have hD : va_D A (wX11 g a_m u95 J_m) := hD
                                        have p_r94 : KK [] [16, 17] (uR I_m_171 1 f82) u95 ∧ r94 = 0 := p_r94
                                        refine hret 365 ls r94 _ _ u95 dX11_aRule_365 (Or.inl p_r94.2) hS hP hD ?_
                                        exact ⟨(MI.kk hc_303 p_r94.1 (by decide) (by decide)), (KK.tr hk_303 p_r94.1 (by decide) (by decide)), ⟨(PQ.kk hp_303 p_r94.1 (by decide)), Or.inl p_r94.2, fun q => absurd (q.symm.trans p_r94.2) (by decide), (hB317.kk p_r94.1 (by decide)).1⟩⟩
                                exact L338 ((25 - (0 : Int32).toInt) + 1).toNat (0 : Int32) (by omega) (by omega) _ _ hP hD hS ls hl
                              · have q_326 := bP.f p_r85 b_326
                                refine lv_aload_n hx hb dX11_aRule_329 rfl (lv_at hl 3 rfl) ?_
                                refine lv_iconst (v := 2) hx hb dX11_aRule_330 (by decide) ?_
                                refine EffI.cv (wr := ([])) (w' := fun u97 => wX11 g a_m u97 J_m) (As := [.int (2 : Int32)]) (kX11_fails l g a_m (uR I_m_171 1 f82) J_m (2 : Int32)) fx (gUV (uT _) u_557 u_558 u_559 u_5 u_560) rfl hdX11_fails ⟨Nat.le_of_ble_eq_true rfl, Nat.le_of_ble_eq_true rfl⟩ hK hP hD hS hA [0, 1, 2, 3, 4, 5, 6, 7, 8, 9, 10, 11, 12, 13, 14, 15, 16, 17, 18, 19, 20, 21, 22] [] [0, 1, 2, 3, 4, 5, 6, 7, 8, 9, 10, 11, 12, 13, 14, 15, 16, 17, 18, 19, 20, 21, 22] rfl rfl rfl rfl (by decide) rfl (fun _ => rfl) rfl rfl rfl rfl hl.1 (Nat.le_of_ble_eq_true rfl) dX11_aRule_331 (fun r96 u97 H locs p_r96 hP hD hS => ?_)
                                have hP : va_P g.1 vwCl (wX11 g a_m u97 J_m) H := hP
                                have hD : va_D A (wX11 g a_m u97 J_m) := hD
                                have p_r96 : KK [] [16, 17] (uR I_m_171 1 f82) u97 ∧ r96 = 0 := p_r96
                                refine hret 334 ls r96 _ _ u97 dX11_aRule_334 (Or.inl p_r96.2) hS hP hD ?_
                                exact ⟨(MI.kk hc_303 p_r96.1 (by decide) (by decide)), (KK.tr hk_303 p_r96.1 (by decide) (by decide)), ⟨(PQ.kk hp_303 p_r96.1 (by decide)), Or.inl p_r96.2, fun q => absurd (q.symm.trans p_r96.2) (by decide), (hB317.kk p_r96.1 (by decide)).1⟩⟩
                            · refine lv_aload_n hx hb dX11_aRule_316 rfl (lv_at hl 3 rfl) ?_
                              refine EffV.cv (wr := ([])) (w' := fun u99 => wX11 g a_m u99 J_m) (As := []) (kX11_ahead l g a_m (uR I_m_171 1 f82) J_m hp_303.1.1) fx (gUV (uT _) u_515 u_516 u_517 u_5 u_518) rfl hdX11_ahead ⟨Nat.le_of_ble_eq_true rfl, Nat.le_of_ble_eq_true rfl⟩ hK hP hD hS hA [0, 1, 2, 3, 4, 5, 6, 7, 8, 9, 10, 11, 12, 13, 14, 15, 16, 17, 18, 19, 20, 21, 22] [] [0, 1, 2, 3, 4, 5, 6, 7, 8, 9, 10, 11, 12, 13, 14, 15, 16, 17, 18, 19, 20, 21, 22] rfl rfl rfl rfl (by decide) rfl (fun _ => rfl) rfl rfl rfl rfl hl.1 (Nat.le_of_ble_eq_true rfl) dX11_aRule_317 (fun u99 H locs p_r98 hP hD hS => ?_)
                              have hP : va_P g.1 vwCl (wX11 g a_m u99 J_m) H := hP
                              have hD : va_D A (wX11 g a_m u99 J_m) := hD
                              have p_r98 : KK [] [11, 12, 13, 14] (uR I_m_171 1 f82) u99 ∧ AH (uR I_m_171 1 f82) u99 := p_r98
                              have hB317 := hB303.kk p_r98.1 (by decide)
                              refine lv_aload_n hx hb dX11_aRule_320 rfl (lv_at hl 3 rfl) ?_
                              refine lv_bipush (v := 59) hx hb dX11_aRule_321 (by decide) ?_
                              refine PurI.cv (As := [.int (59 : Int32)]) (kX11_isSign l g a_m u99 J_m (59 : Int32)) fx (gUV (uT _) u_565 u_566 u_567 u_5 u_568) rfl hdX11_isSign ⟨Nat.le_of_ble_eq_true rfl, Nat.le_of_ble_eq_true rfl⟩ hK hP [0, 1, 2, 3, 4, 5, 6, 7, 8, 9, 10, 11, 12, 13, 14, 15, 16, 17, 18, 19, 20, 21, 22] rfl rfl rfl rfl rfl hl.1 (Nat.le_of_ble_eq_true rfl) dX11_aRule_323 (fun r100 p_r100 => ?_)
                              refine q_if_ne (tgt := 335) hx hb dX11_aRule_326 (by decide) rfl (fun b_326 k_326 => ?_) (fun b_326 k_326 => ?_)
                              · have q_326 := bP.t p_r100 b_326
                                refine lv_iconst (v := 0) hx hb dX11_aRule_335 (by decide) ?_
                                refine lv_istore (lv' := [(4, .int (0 : Int32)), (3, .int r16), (2, .int r2), (1, .int x1), (0, .ref (a_m 0))]) hx hb dX11_aRule_336 hl (by decide) rfl (fun ls hl => ?_)
                                have L338 : ∀ (nn : Nat) (v4_338 : Int32), (hv_338 : 0 ≤ v4_338.toInt ∧ v4_338.toInt ≤ (x1).toInt) → ((25 - v4_338.toInt) < (nn : Int)) → ∀ (H : Heap) (locs : List Loc), va_P g.1 vwCl (wX11 g a_m u99 J_m) H → va_D A (wX11 g a_m u99 J_m) → va_S A s.heap H locs → ∀ ls : Array Slot, lv_has ls 5 [(4, .int v4_338), (3, .int r16), (2, .int r2), (1, .int x1), (0, .ref (a_m 0))] → W p l e (rm 6) s m args below meth c H locs 0 0 Q (F0 m 338 ls []) := by
                                  intro n_338
                                  induction n_338 with
                                  | zero =>
                                    intro v4_338 hv_338 hms_338 H locs hP hD hS ls hl
                                    exfalso; omega
                                  | succ n_338 ih_338 =>
                                    intro v4_338 hv_338 hms_338 H locs hP hD hS ls hl
                                    refine lv_iload hx hb dX11_aRule_338 (lv_at hl 0 rfl) ?_
                                    refine lv_iload_n hx hb dX11_aRule_340 rfl (lv_at hl 3 rfl) ?_
                                    refine q_icmp_ge (tgt := 372) hx hb dX11_aRule_341 (by decide) rfl rfl (fun k_341 => ?_) (fun k_341 => ?_)
                                    · refine lv_aload_n hx hb dX11_aRule_372 rfl (lv_at hl 4 rfl) ?_
                                      refine va_get (D := g.1) (ci := 11) (v := .ref (a_m 1)) (C := RX11) (T := TX11) (N := 46) hx hb hi_X11 (fun _ h => h) hown hK.1 hP 0 rfl rfl 0 (by decide) hf_7 (fun _ h9 => h9) rfl dX11_aRule_373 ?_
                                      refine lv_sipush (v := 13200) hx hb dX11_aRule_376 (by decide) ?_
                                      refine lv_dup2_11 hx hb dX11_aRule_379 rfl rfl ?_
                                      have n_380 : vp_in (13200 : Int32) 19800 := (t_in (by decide))
                                      refine va_iald hx hb hK.1 hP 1 0 rfl rfl n_380 dX11_aRule_380 ?_
                                      refine q_nm (fun x101 e_x101 => ?_)
                                      have e_x101 : x101 = (u99 1) 13200 := e_x101
                                      have g_x101 : x101.toInt = ((u99 1) 13200).toInt := congrArg _ e_x101
                                      have hbm : x101.toInt = ((x1).toInt) := by rw [e_x101]; exact hB317.2.1
                                      refine lv_iconst (v := 1) hx hb dX11_aRule_381 (by decide) ?_
                                      refine r_iadd hx hb dX11_aRule_382 rfl (by decide : (1 : Int32).toInt = 1) (fun x102 e_x102 t_x102 => ?_)
                                      try have t_x102 := t_x102 (by omega)
                                      have n_383 : vp_in (13200 : Int32) 19800 := (t_in (by decide))
                                      obtain ⟨f103, e_f103⟩ : ∃ z, z = upd (u99 1) (13200 : Int32).toNatClampNeg x102 := ⟨_, rfl⟩
                                      refine va_iast hx hb hK.1 hP hD hS 1 0 rfl rfl n_383 dX11_aRule_383 (fun H locs hP hD hS => ?_)
                                      have hP : va_P g.1 vwCl (wX11 g a_m (uR u99 1 f103) J_m) H := by rw [e_f103]; exact hP
                                      have hD : va_D A (wX11 g a_m (uR u99 1 f103) J_m) := by rw [e_f103]; exact hD
                                      have hc_383 : MI (uR u99 1 f103) := MI.ua (MI.kk hc_303 p_r98.1 (by decide) (by decide)) e_f103 (by decide : (13200 : Int32).toInt = 13200) (by omega) (by omega)
                                      have hk_383 : KK [1] [11, 12, 13, 14, 16, 17] I_m (uR u99 1 f103) := KK.ur (KK.tr hk_303 p_r98.1 (by decide) (by decide)) (by decide) (by decide)
                                      have hp_383 : PQ I_m (uR u99 1 f103) := PQ.ur (PQ.ah hp_303 p_r98.2) (by decide)
                                      have hN383 : NS (uR u99 1 f103) := hB317.fin e_f103 (by omega)
                                      refine lv_aload_n hx hb dX11_aRule_384 rfl (lv_at hl 4 rfl) ?_
                                      refine lv_bipush (v := 59) hx hb dX11_aRule_385 (by decide) ?_
                                      have hq387 : PQ I_m (uR u99 1 f103) := hp_383
                                      refine EffI.cv (wr := ([])) (w' := fun u105 => wX11 g a_m u105 J_m) (As := [.int (59 : Int32)]) (kX11_wantSign l g a_m (uR u99 1 f103) J_m (59 : Int32) hp_383.1) fx (gUV (uT _) u_573 u_574 u_575 u_5 u_576) rfl hdX11_wantSign ⟨Nat.le_of_ble_eq_true rfl, Nat.le_of_ble_eq_true rfl⟩ hK hP hD hS hA [0, 1, 2, 3, 4, 5, 6, 7, 8, 9, 10, 11, 12, 13, 14, 15, 16, 17, 18, 19, 20, 21, 22] [] [0, 1, 2, 3, 4, 5, 6, 7, 8, 9, 10, 11, 12, 13, 14, 15, 16, 17, 18, 19, 20, 21, 22] rfl rfl rfl rfl (by decide) rfl (fun _ => rfl) rfl rfl rfl rfl hl.1 (Nat.le_of_ble_eq_true rfl) dX11_aRule_387 (fun r104 u105 H locs p_r104 hP hD hS => ?_)
                                      have hP : va_P g.1 vwCl (wX11 g a_m u105 J_m) H := hP
                                      have hD : va_D A (wX11 g a_m u105 J_m) := hD
                                      have p_r104 : KK [] [11, 12, 13, 14, 16, 17] (uR u99 1 f103) u105 ∧ PQ (uR u99 1 f103) u105 ∧ (r104 = 0 ∨ r104 = 1) ∧ (r104 = 1 → AD (uR u99 1 f103) u105) := p_r104
                                      refine hret 390 ls r104 _ _ u105 dX11_aRule_390 p_r104.2.2.1 hS hP hD ?_
                                      exact ⟨(MI.kk hc_383 p_r104.1 (by decide) (by decide)), (KK.tr hk_383 p_r104.1 (by decide) (by decide)), ⟨(PQ.tr hp_383 p_r104.2.1), p_r104.2.2.1, fun q => PQ.ad hq387 (p_r104.2.2.2 q), hN383.row (p_r104.1.row 1 (by decide))⟩⟩
                                    · refine lv_aload_n hx hb dX11_aRule_344 rfl (lv_at hl 4 rfl) ?_
                                      refine lv_sipush (v := 13200) hx hb dX11_aRule_345 (by decide) ?_
                                      refine lv_iload hx hb dX11_aRule_348 (lv_at hl 0 rfl) ?_
                                      refine PurI.cs (C := RX11) (As := [.int (13200 : Int32), .int v4_338]) (kX11_ruleAt l g (13200 : Int32) v4_338 (by omega) (by omega)) fx (gUS (uT _) u_554 u_555 u_5 u_556) rfl hdX11_ruleAt ⟨Nat.le_of_ble_eq_true rfl, Nat.le_of_ble_eq_true rfl⟩ hK hP [] rfl rfl rfl hl.1 (Nat.le_of_ble_eq_true rfl) dX11_aRule_350 (fun r106 p_r106 => ?_)
                                      refine lv_iload_n hx hb dX11_aRule_353 rfl (lv_at hl 2 rfl) ?_
                                      refine PurI.cv (As := [.int r106, .int r2]) (kX11_likeRule l g a_m u99 J_m r106 r2 (by omega) (TS.lc hB317.1.1 (x := r106) (r := v4_338.toInt) rfl (by omega) (by omega)).2) fx (gUV (uT _) u_569 u_570 u_571 u_5 u_572) rfl hdX11_likeRule ⟨Nat.le_of_ble_eq_true rfl, Nat.le_of_ble_eq_true rfl⟩ hK hP [0, 1, 2, 3, 4, 5, 6, 7, 8, 9, 10, 11, 12, 13, 14, 15, 16, 17, 18, 19, 20, 21, 22] rfl rfl rfl rfl rfl hl.1 (Nat.le_of_ble_eq_true rfl) dX11_aRule_354 (fun r107 p_r107 => ?_)
                                      refine q_if_eq (tgt := 366) hx hb dX11_aRule_357 (by decide) rfl (fun b_357 k_357 => ?_) (fun b_357 k_357 => ?_)
                                      · have q_357 := bP.f p_r107 b_357
                                        refine r_iinc (lv' := fun i108 => [(4, .int i108), (3, .int r16), (2, .int r2), (1, .int x1), (0, .ref (a_m 0))]) hx hb dX11_aRule_366 hl (k := 0) rfl (by decide) rfl (by decide) (fun _ => rfl) (fun i108 e_i108 t_i108 ls hl => ?_)
                                        try have t_i108 := t_i108 (by omega)
                                        refine lv_goto (tgt := 338) hx hb dX11_aRule_369 (by decide) ?_
                                        exact ih_338 i108 (by omega) (by omega) _ _ hP hD hS ls hl
                                      · have q_357 := bP.t p_r107 b_357
                                        refine lv_aload_n hx hb dX11_aRule_360 rfl (lv_at hl 4 rfl) ?_
                                        refine lv_iconst (v := 3) hx hb dX11_aRule_361 (by decide) ?_
                                        refine EffI.cv (wr := ([])) (w' := fun u110 => wX11 g a_m u110 J_m) (As := [.int (3 : Int32)]) (kX11_fails l g a_m u99 J_m (3 : Int32)) fx (gUV (uT _) u_557 u_558 u_559 u_5 u_560) rfl hdX11_fails ⟨Nat.le_of_ble_eq_true rfl, Nat.le_of_ble_eq_true rfl⟩ hK hP hD hS hA [0, 1, 2, 3, 4, 5, 6, 7, 8, 9, 10, 11, 12, 13, 14, 15, 16, 17, 18, 19, 20, 21, 22] [] [0, 1, 2, 3, 4, 5, 6, 7, 8, 9, 10, 11, 12, 13, 14, 15, 16, 17, 18, 19, 20, 21, 22] rfl rfl rfl rfl (by decide) rfl (fun _ => rfl) rfl rfl rfl rfl hl.1 (Nat.le_of_ble_eq_true rfl) dX11_aRule_362 (fun r109 u110 H locs p_r109 hP hD hS => ?_)
                                        have hP : va_P g.1 vwCl (wX11 g a_m u110 J_m) H := hP
                                        have hD : va_D A (wX11 g a_m u110 J_m) := hD
                                        refine hret 365 ls r109 _ _ u110 dX11_aRule_365 (Or.inl p_r109.2) hS hP hD ?_
                                        exact ⟨(MI.kk (MI.kk hc_303 p_r98.1 (by decide) (by decide)) p_r109.1 (by decide) (by decide)), (KK.tr (KK.tr hk_303 p_r98.1 (by decide) (by decide)) p_r109.1 (by decide) (by decide)), ⟨(PQ.kk (PQ.ah hp_303 p_r98.2) p_r109.1 (by decide)), Or.inl p_r109.2, fun q => absurd (q.symm.trans p_r109.2) (by decide), (hB317.kk p_r109.1 (by decide)).1⟩⟩
                                exact L338 ((25 - (0 : Int32).toInt) + 1).toNat (0 : Int32) (by omega) (by omega) _ _ hP hD hS ls hl
                              · have q_326 := bP.f p_r100 b_326
                                refine lv_aload_n hx hb dX11_aRule_329 rfl (lv_at hl 3 rfl) ?_
                                refine lv_iconst (v := 2) hx hb dX11_aRule_330 (by decide) ?_
                                refine EffI.cv (wr := ([])) (w' := fun u112 => wX11 g a_m u112 J_m) (As := [.int (2 : Int32)]) (kX11_fails l g a_m u99 J_m (2 : Int32)) fx (gUV (uT _) u_557 u_558 u_559 u_5 u_560) rfl hdX11_fails ⟨Nat.le_of_ble_eq_true rfl, Nat.le_of_ble_eq_true rfl⟩ hK hP hD hS hA [0, 1, 2, 3, 4, 5, 6, 7, 8, 9, 10, 11, 12, 13, 14, 15, 16, 17, 18, 19, 20, 21, 22] [] [0, 1, 2, 3, 4, 5, 6, 7, 8, 9, 10, 11, 12, 13, 14, 15, 16, 17, 18, 19, 20, 21, 22] rfl rfl rfl rfl (by decide) rfl (fun _ => rfl) rfl rfl rfl rfl hl.1 (Nat.le_of_ble_eq_true rfl) dX11_aRule_331 (fun r111 u112 H locs p_r111 hP hD hS => ?_)
                                have hP : va_P g.1 vwCl (wX11 g a_m u112 J_m) H := hP
                                have hD : va_D A (wX11 g a_m u112 J_m) := hD
                                refine hret 334 ls r111 _ _ u112 dX11_aRule_334 (Or.inl p_r111.2) hS hP hD ?_
                                exact ⟨(MI.kk (MI.kk hc_303 p_r98.1 (by decide) (by decide)) p_r111.1 (by decide) (by decide)), (KK.tr (KK.tr hk_303 p_r98.1 (by decide) (by decide)) p_r111.1 (by decide) (by decide)), ⟨(PQ.kk (PQ.ah hp_303 p_r98.2) p_r111.1 (by decide)), Or.inl p_r111.2, fun q => absurd (q.symm.trans p_r111.2) (by decide), (hB317.kk p_r111.1 (by decide)).1⟩⟩
                      · refine lv_aload_n hx hb dX11_aRule_179 rfl (lv_at hl 3 rfl) ?_
                        refine va_get (D := g.1) (ci := 11) (v := .int (I_m_171 0 14)) (C := RX11) (T := TX11) (N := 46) hx hb hi_X11 (fun _ h => h) hown hK.1 hP 0 rfl rfl 14 (by decide) hf_141 (fun _ h9 => h9) rfl dX11_aRule_180 ?_
                        refine lv_iconst (v := 1) hx hb dX11_aRule_183 (by decide) ?_
                        refine q_icmp_lt (tgt := 196) hx hb dX11_aRule_184 (by decide) rfl (by decide : (1 : Int32).toInt = 1) (fun k_184 => ?_) (fun k_184 => ?_)
                        · refine lv_aload_n hx hb dX11_aRule_196 rfl (lv_at hl 3 rfl) ?_
                          refine lv_iconst (v := 4) hx hb dX11_aRule_197 (by decide) ?_
                          refine EffI.cv (wr := ([])) (w' := fun u114 => wX11 g a_m u114 J_m) (As := [.int (4 : Int32)]) (kX11_fails l g a_m I_m_171 J_m (4 : Int32)) fx (gUV (uT _) u_557 u_558 u_559 u_5 u_560) rfl hdX11_fails ⟨Nat.le_of_ble_eq_true rfl, Nat.le_of_ble_eq_true rfl⟩ hK hP hD hS hA [0, 1, 2, 3, 4, 5, 6, 7, 8, 9, 10, 11, 12, 13, 14, 15, 16, 17, 18, 19, 20, 21, 22] [] [0, 1, 2, 3, 4, 5, 6, 7, 8, 9, 10, 11, 12, 13, 14, 15, 16, 17, 18, 19, 20, 21, 22] rfl rfl rfl rfl (by decide) rfl (fun _ => rfl) rfl rfl rfl rfl hl.1 (Nat.le_of_ble_eq_true rfl) dX11_aRule_198 (fun r113 u114 H locs p_r113 hP hD hS => ?_)
                          have hP : va_P g.1 vwCl (wX11 g a_m u114 J_m) H := hP
                          have hD : va_D A (wX11 g a_m u114 J_m) := hD
                          refine hret 201 ls r113 _ _ u114 dX11_aRule_201 (Or.inl p_r113.2) hS hP hD ?_
                          exact ⟨(MI.kk hM_171 p_r113.1 (by decide) (by decide)), (KK.tr hk_171 p_r113.1 (by decide) (by decide)), ⟨(PQ.kk hp_171 p_r113.1 (by decide)), Or.inl p_r113.2, fun q => absurd (q.symm.trans p_r113.2) (by decide), (hA_171.kk p_r113.1 (by decide)).1⟩⟩
                        · refine lv_aload_n hx hb dX11_aRule_187 rfl (lv_at hl 3 rfl) ?_
                          refine va_get (D := g.1) (ci := 11) (v := .int (I_m_171 0 14)) (C := RX11) (T := TX11) (N := 46) hx hb hi_X11 (fun _ h => h) hown hK.1 hP 0 rfl rfl 14 (by decide) hf_141 (fun _ h9 => h9) rfl dX11_aRule_188 ?_
                          refine lv_bipush (v := 63) hx hb dX11_aRule_191 (by decide) ?_
                          refine q_icmp_le (tgt := 202) hx hb dX11_aRule_193 (by decide) rfl (by decide : (63 : Int32).toInt = 63) (fun k_193 => ?_) (fun k_193 => ?_)
                          · refine lv_aload_n hx hb dX11_aRule_202 rfl (lv_at hl 3 rfl) ?_
                            refine va_get (D := g.1) (ci := 11) (v := .ref (a_m 1)) (C := RX11) (T := TX11) (N := 46) hx hb hi_X11 (fun _ h => h) hown hK.1 hP 0 rfl rfl 0 (by decide) hf_7 (fun _ h9 => h9) rfl dX11_aRule_203 ?_
                            refine lv_iload_n hx hb dX11_aRule_206 rfl (lv_at hl 1 rfl) ?_
                            refine lv_bipush (v := 7) hx hb dX11_aRule_207 (by decide) ?_
                            refine r_iadd hx hb dX11_aRule_209 rfl (by decide : (7 : Int32).toInt = 7) (fun x115 e_x115 t_x115 => ?_)
                            try have t_x115 := t_x115 (by omega)
                            have n_210 : vp_in x115 19800 := (t_in (by omega))
                            refine va_iald hx hb hK.1 hP 1 0 rfl rfl n_210 dX11_aRule_210 ?_
                            refine q_nm (fun x116 e_x116 => ?_)
                            have e_x116 : x116 = (I_m_171 1) x115.toNatClampNeg := e_x116
                            have g_x116 : x116.toInt = ((I_m_171 1) x115.toNatClampNeg).toInt := congrArg _ e_x116
                            have f_x116 := TS.cc hA_171.1.1 (r := (x1).toInt) e_x116 (by omega) (by omega)
                            have m_x116 := RA.ix (n := (x1).toInt) e_x116 (by omega) (by omega)
                            refine lv_iconst (v := 3) hx hb dX11_aRule_211 (by decide) ?_
                            refine q_icmp_ne (tgt := 221) hx hb dX11_aRule_212 (by decide) rfl (by decide : (3 : Int32).toInt = 3) (fun k_212 => ?_) (fun k_212 => ?_)
                            · refine lv_aload_n hx hb dX11_aRule_221 rfl (lv_at hl 3 rfl) ?_
                              refine va_get (D := g.1) (ci := 11) (v := .ref (a_m 1)) (C := RX11) (T := TX11) (N := 46) hx hb hi_X11 (fun _ h => h) hown hK.1 hP 0 rfl rfl 0 (by decide) hf_7 (fun _ h9 => h9) rfl dX11_aRule_222 ?_
                              refine lv_iload_n hx hb dX11_aRule_225 rfl (lv_at hl 1 rfl) ?_
                              refine lv_bipush (v := 7) hx hb dX11_aRule_226 (by decide) ?_
                              refine r_iadd hx hb dX11_aRule_228 rfl (by decide : (7 : Int32).toInt = 7) (fun x117 e_x117 t_x117 => ?_)
                              try have t_x117 := t_x117 (by omega)
                              refine lv_iconst (v := 1) hx hb dX11_aRule_229 (by decide) ?_
                              refine r_iadd hx hb dX11_aRule_230 rfl (by decide : (1 : Int32).toInt = 1) (fun x118 e_x118 t_x118 => ?_)
                              try have t_x118 := t_x118 (by omega)
                              refine lv_aload_n hx hb dX11_aRule_231 rfl (lv_at hl 3 rfl) ?_
                              refine va_get (D := g.1) (ci := 11) (v := .ref (a_m 1)) (C := RX11) (T := TX11) (N := 46) hx hb hi_X11 (fun _ h => h) hown hK.1 hP 0 rfl rfl 0 (by decide) hf_7 (fun _ h9 => h9) rfl dX11_aRule_232 ?_
                              refine lv_iload_n hx hb dX11_aRule_235 rfl (lv_at hl 1 rfl) ?_
                              refine lv_bipush (v := 7) hx hb dX11_aRule_236 (by decide) ?_
                              refine r_iadd hx hb dX11_aRule_238 rfl (by decide : (7 : Int32).toInt = 7) (fun x119 e_x119 t_x119 => ?_)
                              try have t_x119 := t_x119 (by omega)
                              have n_239 : vp_in x119 19800 := (t_in (by omega))
                              refine va_iald hx hb hK.1 hP 1 0 rfl rfl n_239 dX11_aRule_239 ?_
                              refine q_nm (fun x120 e_x120 => ?_)
                              have e_x120 : x120 = (I_m_171 1) x119.toNatClampNeg := e_x120
                              have g_x120 : x120.toInt = ((I_m_171 1) x119.toNatClampNeg).toInt := congrArg _ e_x120
                              have m_x120 := RA.ix (n := (x1).toInt) e_x120 (by omega) (by omega)
                              refine r_iadd hx hb dX11_aRule_240 rfl rfl (fun x121 e_x121 t_x121 => ?_)
                              try have t_x121 := t_x121 (by omega)
                              refine lv_aload_n hx hb dX11_aRule_241 rfl (lv_at hl 3 rfl) ?_
                              refine va_get (D := g.1) (ci := 11) (v := .int (I_m_171 0 14)) (C := RX11) (T := TX11) (N := 46) hx hb hi_X11 (fun _ h => h) hown hK.1 hP 0 rfl rfl 14 (by decide) hf_141 (fun _ h9 => h9) rfl dX11_aRule_242 ?_
                              have n_245 : vp_in x121 19800 := (t_in (by omega))
                              obtain ⟨f122, e_f122⟩ : ∃ z, z = upd (I_m_171 1) x121.toNatClampNeg (I_m_171 0 14) := ⟨_, rfl⟩
                              refine va_iast hx hb hK.1 hP hD hS 1 0 rfl rfl n_245 dX11_aRule_245 (fun H locs hP hD hS => ?_)
                              have hP : va_P g.1 vwCl (wX11 g a_m (uR I_m_171 1 f122) J_m) H := by rw [e_f122]; exact hP
                              have hD : va_D A (wX11 g a_m (uR I_m_171 1 f122) J_m) := by rw [e_f122]; exact hD
                              have hc_245 : MI (uR I_m_171 1 f122) := MI.ua hM_171 e_f122 rfl (by omega) (by omega)
                              have hk_245 : KK [1] [11, 12, 13, 14, 16, 17] I_m (uR I_m_171 1 f122) := KK.ur hk_171 (by decide) (by decide)
                              have hp_245 : PQ I_m (uR I_m_171 1 f122) := PQ.ur hp_171 (by decide)
                              have hA245 : RA (uR I_m_171 1 f122) ((x1).toInt) 1 0 := hA_171.put (o := 8 + (x120).toInt) 1 0 e_f122 rfl (by omega) (by omega) (by omega) (by omega) (by omega)
                              refine lv_aload_n hx hb dX11_aRule_246 rfl (lv_at hl 3 rfl) ?_
                              refine va_get (D := g.1) (ci := 11) (v := .ref (a_m 1)) (C := RX11) (T := TX11) (N := 46) hx hb hi_X11 (fun _ h => h) hown hK.1 hP 0 rfl rfl 0 (by decide) hf_7 (fun _ h9 => h9) rfl dX11_aRule_247 ?_
                              refine lv_iload_n hx hb dX11_aRule_250 rfl (lv_at hl 1 rfl) ?_
                              refine lv_bipush (v := 7) hx hb dX11_aRule_251 (by decide) ?_
                              refine r_iadd hx hb dX11_aRule_253 rfl (by decide : (7 : Int32).toInt = 7) (fun x123 e_x123 t_x123 => ?_)
                              try have t_x123 := t_x123 (by omega)
                              refine lv_dup2_11 hx hb dX11_aRule_254 rfl rfl ?_
                              have n_255 : vp_in x123 19800 := (t_in (by omega))
                              refine va_iald hx hb hK.1 hP 1 0 rfl rfl n_255 dX11_aRule_255 ?_
                              refine q_nm (fun x124 e_x124 => ?_)
                              have e_x124 : x124 = f122 x123.toNatClampNeg := e_x124
                              have g_x124 : x124.toInt = (f122 x123.toNatClampNeg).toInt := congrArg _ e_x124
                              have m_x124 := RA.ix (n := (x1).toInt) (RA.nx e_x124 e_f122 (by omega) (by omega) (by omega)) (by omega) (by omega)
                              refine lv_iconst (v := 1) hx hb dX11_aRule_256 (by decide) ?_
                              refine r_iadd hx hb dX11_aRule_257 rfl (by decide : (1 : Int32).toInt = 1) (fun x125 e_x125 t_x125 => ?_)
                              try have t_x125 := t_x125 (by omega)
                              have n_258 : vp_in x123 19800 := (t_in (by omega))
                              obtain ⟨f126, e_f126⟩ : ∃ z, z = upd f122 x123.toNatClampNeg x125 := ⟨_, rfl⟩
                              refine va_iast hx hb hK.1 hP hD hS 1 0 rfl rfl n_258 dX11_aRule_258 (fun H locs hP hD hS => ?_)
                              have hP : va_P g.1 vwCl (wX11 g a_m (uR (uR I_m_171 1 f122) 1 f126) J_m) H := by rw [e_f126]; exact hP
                              have hD : va_D A (wX11 g a_m (uR (uR I_m_171 1 f122) 1 f126) J_m) := by rw [e_f126]; exact hD
                              have hc_258 : MI (uR (uR I_m_171 1 f122) 1 f126) := MI.ua hc_245 e_f126 rfl (by omega) (by omega)
                              have hk_258 : KK [1] [11, 12, 13, 14, 16, 17] I_m (uR (uR I_m_171 1 f122) 1 f126) := KK.ur hk_245 (by decide) (by decide)
                              have hp_258 : PQ I_m (uR (uR I_m_171 1 f122) 1 f126) := PQ.ur hp_245 (by decide)
                              have hA258 : RA (uR (uR I_m_171 1 f122) 1 f126) ((x1).toInt) 1 0 := hA245.put (o := 7) 1 0 e_f126 rfl (by omega) (by omega) (by omega) (by omega) (by omega)
                              refine lv_aload_n hx hb dX11_aRule_259 rfl (lv_at hl 3 rfl) ?_
                              refine EffV.cv (wr := ([])) (w' := fun u128 => wX11 g a_m u128 J_m) (As := []) (kX11_ahead l g a_m (uR (uR I_m_171 1 f122) 1 f126) J_m hp_258.1.1) fx (gUV (uT _) u_515 u_516 u_517 u_5 u_518) rfl hdX11_ahead ⟨Nat.le_of_ble_eq_true rfl, Nat.le_of_ble_eq_true rfl⟩ hK hP hD hS hA [0, 1, 2, 3, 4, 5, 6, 7, 8, 9, 10, 11, 12, 13, 14, 15, 16, 17, 18, 19, 20, 21, 22] [] [0, 1, 2, 3, 4, 5, 6, 7, 8, 9, 10, 11, 12, 13, 14, 15, 16, 17, 18, 19, 20, 21, 22] rfl rfl rfl rfl (by decide) rfl (fun _ => rfl) rfl rfl rfl rfl hl.1 (Nat.le_of_ble_eq_true rfl) dX11_aRule_260 (fun u128 H locs p_r127 hP hD hS => ?_)
                              have hP : va_P g.1 vwCl (wX11 g a_m u128 J_m) H := hP
                              have hD : va_D A (wX11 g a_m u128 J_m) := hD
                              have p_r127 : KK [] [11, 12, 13, 14] (uR (uR I_m_171 1 f122) 1 f126) u128 ∧ AH (uR (uR I_m_171 1 f122) 1 f126) u128 := p_r127
                              have hA260 := hA258.kk p_r127.1 (by decide)
                              have m260 : (u128 1 (13219 + 12 * ((x1).toInt).toNat)).toInt = (x125).toInt := by rw [p_r127.1.row 1 (by decide)]; show (f126 _).toInt = _; rw [RA.eq (n := (x1).toInt) e_f126 (by omega) (by omega)]
                              refine lv_goto (tgt := 171) hx hb dX11_aRule_263 (by decide) ?_
                              exact ih_171 u128 (MI.kk hc_258 p_r127.1 (by decide) (by decide)) (KK.tr hk_258 p_r127.1 (by decide) (by decide)) hA260 (Or.inr (by omega)) (PQ.ah hp_258 p_r127.2) (by omega) _ _ hP hD hS ls hl
                            · refine lv_aload_n hx hb dX11_aRule_215 rfl (lv_at hl 3 rfl) ?_
                              refine lv_iconst (v := 5) hx hb dX11_aRule_216 (by decide) ?_
                              refine EffI.cv (wr := ([])) (w' := fun u130 => wX11 g a_m u130 J_m) (As := [.int (5 : Int32)]) (kX11_fails l g a_m I_m_171 J_m (5 : Int32)) fx (gUV (uT _) u_557 u_558 u_559 u_5 u_560) rfl hdX11_fails ⟨Nat.le_of_ble_eq_true rfl, Nat.le_of_ble_eq_true rfl⟩ hK hP hD hS hA [0, 1, 2, 3, 4, 5, 6, 7, 8, 9, 10, 11, 12, 13, 14, 15, 16, 17, 18, 19, 20, 21, 22] [] [0, 1, 2, 3, 4, 5, 6, 7, 8, 9, 10, 11, 12, 13, 14, 15, 16, 17, 18, 19, 20, 21, 22] rfl rfl rfl rfl (by decide) rfl (fun _ => rfl) rfl rfl rfl rfl hl.1 (Nat.le_of_ble_eq_true rfl) dX11_aRule_217 (fun r129 u130 H locs p_r129 hP hD hS => ?_)
                              have hP : va_P g.1 vwCl (wX11 g a_m u130 J_m) H := hP
                              have hD : va_D A (wX11 g a_m u130 J_m) := hD
                              refine hret 220 ls r129 _ _ u130 dX11_aRule_220 (Or.inl p_r129.2) hS hP hD ?_
                              exact ⟨(MI.kk hM_171 p_r129.1 (by decide) (by decide)), (KK.tr hk_171 p_r129.1 (by decide) (by decide)), ⟨(PQ.kk hp_171 p_r129.1 (by decide)), Or.inl p_r129.2, fun q => absurd (q.symm.trans p_r129.2) (by decide), (hA_171.kk p_r129.1 (by decide)).1⟩⟩
                          · refine lv_aload_n hx hb dX11_aRule_196 rfl (lv_at hl 3 rfl) ?_
                            refine lv_iconst (v := 4) hx hb dX11_aRule_197 (by decide) ?_
                            refine EffI.cv (wr := ([])) (w' := fun u132 => wX11 g a_m u132 J_m) (As := [.int (4 : Int32)]) (kX11_fails l g a_m I_m_171 J_m (4 : Int32)) fx (gUV (uT _) u_557 u_558 u_559 u_5 u_560) rfl hdX11_fails ⟨Nat.le_of_ble_eq_true rfl, Nat.le_of_ble_eq_true rfl⟩ hK hP hD hS hA [0, 1, 2, 3, 4, 5, 6, 7, 8, 9, 10, 11, 12, 13, 14, 15, 16, 17, 18, 19, 20, 21, 22] [] [0, 1, 2, 3, 4, 5, 6, 7, 8, 9, 10, 11, 12, 13, 14, 15, 16, 17, 18, 19, 20, 21, 22] rfl rfl rfl rfl (by decide) rfl (fun _ => rfl) rfl rfl rfl rfl hl.1 (Nat.le_of_ble_eq_true rfl) dX11_aRule_198 (fun r131 u132 H locs p_r131 hP hD hS => ?_)
                            have hP : va_P g.1 vwCl (wX11 g a_m u132 J_m) H := hP
                            have hD : va_D A (wX11 g a_m u132 J_m) := hD
                            refine hret 201 ls r131 _ _ u132 dX11_aRule_201 (Or.inl p_r131.2) hS hP hD ?_
                            exact ⟨(MI.kk hM_171 p_r131.1 (by decide) (by decide)), (KK.tr hk_171 p_r131.1 (by decide) (by decide)), ⟨(PQ.kk hp_171 p_r131.1 (by decide)), Or.inl p_r131.2, fun q => absurd (q.symm.trans p_r131.2) (by decide), (hA_171.kk p_r131.1 (by decide)).1⟩⟩
                  exact L171 ((4 - ((uR u13 1 f15) 1 (13219 + 12 * ((x1).toInt).toNat)).toInt) + 1).toNat (uR u13 1 f15) hc_170 hk_170 hA170 (Or.inl (show ((u13 0 11)).toInt = 3 from (by omega))) hp_170 (by omega) _ _ hP hD hS ls hl
                · refine lv_aload_n hx hb dX11_aRule_155 rfl (lv_at hl 3 rfl) ?_
                  refine lv_iconst (v := 2) hx hb dX11_aRule_156 (by decide) ?_
                  refine EffI.cv (wr := ([])) (w' := fun u134 => wX11 g a_m u134 J_m) (As := [.int (2 : Int32)]) (kX11_fails l g a_m u13 J_m (2 : Int32)) fx (gUV (uT _) u_557 u_558 u_559 u_5 u_560) rfl hdX11_fails ⟨Nat.le_of_ble_eq_true rfl, Nat.le_of_ble_eq_true rfl⟩ hK hP hD hS hA [0, 1, 2, 3, 4, 5, 6, 7, 8, 9, 10, 11, 12, 13, 14, 15, 16, 17, 18, 19, 20, 21, 22] [] [0, 1, 2, 3, 4, 5, 6, 7, 8, 9, 10, 11, 12, 13, 14, 15, 16, 17, 18, 19, 20, 21, 22] rfl rfl rfl rfl (by decide) rfl (fun _ => rfl) rfl rfl rfl rfl hl.1 (Nat.le_of_ble_eq_true rfl) dX11_aRule_157 (fun r133 u134 H locs p_r133 hP hD hS => ?_)
                  have hP : va_P g.1 vwCl (wX11 g a_m u134 J_m) H := hP
                  have hD : va_D A (wX11 g a_m u134 J_m) := hD
                  refine hret 160 ls r133 _ _ u134 dX11_aRule_160 (Or.inl p_r133.2) hS hP hD ?_
                  exact ⟨(MI.kk (MI.kk (MI.kk hM_79 p_r10.1 (by decide) (by decide)) p_r12.1 (by decide) (by decide)) p_r133.1 (by decide) (by decide)), (KK.tr (KK.tr (KK.tr hk_79 p_r10.1 (by decide) (by decide)) p_r12.1 (by decide) (by decide)) p_r133.1 (by decide) (by decide)), ⟨(PQ.kk (PQ.tr (PQ.ah hp_79 p_r10.2) p_r12.2.1) p_r133.1 (by decide)), Or.inl p_r133.2, fun q => absurd (q.symm.trans p_r133.2) (by decide), (hA139.kk p_r133.1 (by decide)).1⟩⟩
              · refine lv_iconst (v := 0) hx hb dX11_aRule_145 (by decide) ?_
                refine hret 146 ls (0 : Int32) _ _ u13 dX11_aRule_146 (Or.inl rfl) hS hP hD ?_
                exact ⟨(MI.kk (MI.kk hM_79 p_r10.1 (by decide) (by decide)) p_r12.1 (by decide) (by decide)), (KK.tr (KK.tr hk_79 p_r10.1 (by decide) (by decide)) p_r12.1 (by decide) (by decide)), ⟨(PQ.tr (PQ.ah hp_79 p_r10.2) p_r12.2.1), Or.inl rfl, fun q => absurd q (by decide), hA139.1⟩⟩
            · refine lv_aload_n hx hb dX11_aRule_85 rfl (lv_at hl 3 rfl) ?_
              refine va_get (D := g.1) (ci := 11) (v := .ref (a_m 1)) (C := RX11) (T := TX11) (N := 46) hx hb hi_X11 (fun _ h => h) hown hK.1 hP 0 rfl rfl 0 (by decide) hf_7 (fun _ h9 => h9) rfl dX11_aRule_86 ?_
              refine lv_iload_n hx hb dX11_aRule_89 rfl (lv_at hl 1 rfl) ?_
              refine lv_iconst (v := 1) hx hb dX11_aRule_90 (by decide) ?_
              refine r_iadd hx hb dX11_aRule_91 rfl (by decide : (1 : Int32).toInt = 1) (fun x135 e_x135 t_x135 => ?_)
              try have t_x135 := t_x135 (by omega)
              refine lv_iload_n hx hb dX11_aRule_92 rfl (lv_at hl 0 rfl) ?_
              refine r_iadd hx hb dX11_aRule_93 rfl rfl (fun x136 e_x136 t_x136 => ?_)
              try have t_x136 := t_x136 (by omega)
              refine lv_iload_n hx hb dX11_aRule_94 rfl (lv_at hl 0 rfl) ?_
              refine lv_aload_n hx hb dX11_aRule_95 rfl (lv_at hl 3 rfl) ?_
              refine va_get (D := g.1) (ci := 11) (v := .ref (a_m 1)) (C := RX11) (T := TX11) (N := 46) hx hb hi_X11 (fun _ h => h) hown hK.1 hP 0 rfl rfl 0 (by decide) hf_7 (fun _ h9 => h9) rfl dX11_aRule_96 ?_
              refine lv_iload_n hx hb dX11_aRule_99 rfl (lv_at hl 1 rfl) ?_
              have n_100 : vp_in r2 19800 := (t_in (by omega))
              refine va_iald hx hb hK.1 hP 1 0 rfl rfl n_100 dX11_aRule_100 ?_
              refine q_nm (fun x137 e_x137 => ?_)
              have e_x137 : x137 = (I_m_79 1) r2.toNatClampNeg := e_x137
              have g_x137 : x137.toInt = ((I_m_79 1) r2.toNatClampNeg).toInt := congrArg _ e_x137
              refine q_icmp_ge (tgt := 122) hx hb dX11_aRule_101 (by decide) rfl rfl (fun k_101 => ?_) (fun k_101 => ?_)
              · refine lv_iconst (v := 0) hx hb dX11_aRule_122 (by decide) ?_
                have n_123 : vp_in x136 19800 := (t_in (by omega))
                obtain ⟨f138, e_f138⟩ : ∃ z, z = upd (I_m_79 1) x136.toNatClampNeg (0 : Int32) := ⟨_, rfl⟩
                refine va_iast hx hb hK.1 hP hD hS 1 0 rfl rfl n_123 dX11_aRule_123 (fun H locs hP hD hS => ?_)
                have hP : va_P g.1 vwCl (wX11 g a_m (uR I_m_79 1 f138) J_m) H := by rw [e_f138]; exact hP
                have hD : va_D A (wX11 g a_m (uR I_m_79 1 f138) J_m) := by rw [e_f138]; exact hD
                have hc_123 : MI (uR I_m_79 1 f138) := MI.ua hM_79 e_f138 rfl (by omega) (by omega)
                have hk_123 : KK [1] [11, 12, 13, 14, 16, 17] I_m (uR I_m_79 1 f138) := KK.ur hk_79 (by decide) (by decide)
                have hp_123 : PQ I_m (uR I_m_79 1 f138) := PQ.ur hp_79 (by decide)
                have hA123 : RA (uR I_m_79 1 f138) ((x1).toInt) 1 0 := hA_79.put (o := v3_79.toInt + 1) 1 0 e_f138 rfl (by omega) (by omega) (by omega) (by omega) (by omega)
                refine r_iinc (lv' := fun i139 => [(3, .int i139), (2, .int r2), (1, .int x1), (0, .ref (a_m 0))]) hx hb dX11_aRule_124 hl (k := 0) rfl (by decide) rfl (by decide) (fun _ => rfl) (fun i139 e_i139 t_i139 ls hl => ?_)
                try have t_i139 := t_i139 (by omega)
                refine lv_goto (tgt := 79) hx hb dX11_aRule_127 (by decide) ?_
                exact ih_79 i139 (uR I_m_79 1 f138) hc_123 hk_123 hA123 (by omega) hp_123 (by omega) _ _ hP hD hS ls hl
              · refine lv_aload_n hx hb dX11_aRule_104 rfl (lv_at hl 3 rfl) ?_
                refine lv_aload_n hx hb dX11_aRule_105 rfl (lv_at hl 3 rfl) ?_
                refine va_get (D := g.1) (ci := 11) (v := .int (I_m_79 0 12)) (C := RX11) (T := TX11) (N := 46) hx hb hi_X11 (fun _ h => h) hown hK.1 hP 0 rfl rfl 12 (by decide) hf_138 (fun _ h9 => h9) rfl dX11_aRule_106 ?_
                refine lv_iload_n hx hb dX11_aRule_109 rfl (lv_at hl 0 rfl) ?_
                refine r_iadd hx hb dX11_aRule_110 rfl rfl (fun x140 e_x140 t_x140 => ?_)
                try have t_x140 := t_x140 (by omega)
                refine PurI.cv (As := [.int x140]) (kX11_byteAt l g a_m I_m_79 J_m x140 (by omega) (by omega)) fx (gUV (uT _) u_526 u_527 u_528 u_5 u_529) rfl hdX11_byteAt ⟨Nat.le_of_ble_eq_true rfl, Nat.le_of_ble_eq_true rfl⟩ hK hP [0, 1, 2, 3, 4, 5, 6, 7, 8, 9, 10, 11, 12, 13, 14, 15, 16, 17, 18, 19, 20, 21, 22] rfl rfl rfl rfl rfl hl.1 (Nat.le_of_ble_eq_true rfl) dX11_aRule_111 (fun r141 p_r141 => ?_)
                refine lv_bipush (v := 97) hx hb dX11_aRule_114 (by decide) ?_
                refine r_isub hx hb dX11_aRule_116 rfl (by decide : (97 : Int32).toInt = 97) (fun x142 e_x142 t_x142 => ?_)
                try have t_x142 := t_x142 (by omega)
                refine lv_iconst (v := 1) hx hb dX11_aRule_117 (by decide) ?_
                refine r_iadd hx hb dX11_aRule_118 rfl (by decide : (1 : Int32).toInt = 1) (fun x143 e_x143 t_x143 => ?_)
                try have t_x143 := t_x143 (by omega)
                refine lv_goto (tgt := 123) hx hb dX11_aRule_119 (by decide) ?_
                have n_123 : vp_in x136 19800 := (t_in (by omega))
                obtain ⟨f144, e_f144⟩ : ∃ z, z = upd (I_m_79 1) x136.toNatClampNeg x143 := ⟨_, rfl⟩
                refine va_iast hx hb hK.1 hP hD hS 1 0 rfl rfl n_123 dX11_aRule_123 (fun H locs hP hD hS => ?_)
                have hP : va_P g.1 vwCl (wX11 g a_m (uR I_m_79 1 f144) J_m) H := by rw [e_f144]; exact hP
                have hD : va_D A (wX11 g a_m (uR I_m_79 1 f144) J_m) := by rw [e_f144]; exact hD
                have hc_123 : MI (uR I_m_79 1 f144) := MI.ua hM_79 e_f144 rfl (by omega) (by omega)
                have hk_123 : KK [1] [11, 12, 13, 14, 16, 17] I_m (uR I_m_79 1 f144) := KK.ur hk_79 (by decide) (by decide)
                have hp_123 : PQ I_m (uR I_m_79 1 f144) := PQ.ur hp_79 (by decide)
                have hA123 : RA (uR I_m_79 1 f144) ((x1).toInt) 1 0 := hA_79.put (o := v3_79.toInt + 1) 1 0 e_f144 rfl (by omega) (by omega) (by omega) (by omega) (by omega)
                refine r_iinc (lv' := fun i145 => [(3, .int i145), (2, .int r2), (1, .int x1), (0, .ref (a_m 0))]) hx hb dX11_aRule_124 hl (k := 0) rfl (by decide) rfl (by decide) (fun _ => rfl) (fun i145 e_i145 t_i145 ls hl => ?_)
                try have t_i145 := t_i145 (by omega)
                refine lv_goto (tgt := 79) hx hb dX11_aRule_127 (by decide) ?_
                exact ih_79 i145 (uR I_m_79 1 f144) hc_123 hk_123 hA123 (by omega) hp_123 (by omega) _ _ hP hD hS ls hl
        exact L79 ((7 - (0 : Int32).toInt) + 1).toNat (0 : Int32) (uR u4 1 f9) hc_76 hk_76 hA76 (by omega) hp_76 (by omega) _ _ hP hD hS ls hl
      · refine lv_aload_n hx hb dX11_aRule_56 rfl (lv_at hl 2 rfl) ?_
        refine lv_iconst (v := 2) hx hb dX11_aRule_57 (by decide) ?_
        refine EffI.cv (wr := ([])) (w' := fun u147 => wX11 g a_m u147 J_m) (As := [.int (2 : Int32)]) (kX11_fails l g a_m u4 J_m (2 : Int32)) fx (gUV (uT _) u_557 u_558 u_559 u_5 u_560) rfl hdX11_fails ⟨Nat.le_of_ble_eq_true rfl, Nat.le_of_ble_eq_true rfl⟩ hK hP hD hS hA [0, 1, 2, 3, 4, 5, 6, 7, 8, 9, 10, 11, 12, 13, 14, 15, 16, 17, 18, 19, 20, 21, 22] [] [0, 1, 2, 3, 4, 5, 6, 7, 8, 9, 10, 11, 12, 13, 14, 15, 16, 17, 18, 19, 20, 21, 22] rfl rfl rfl rfl (by decide) rfl (fun _ => rfl) rfl rfl rfl rfl hl.1 (Nat.le_of_ble_eq_true rfl) dX11_aRule_58 (fun r146 u147 H locs p_r146 hP hD hS => ?_)
        have hP : va_P g.1 vwCl (wX11 g a_m u147 J_m) H := hP
        have hD : va_D A (wX11 g a_m u147 J_m) := hD
        refine hret 61 ls r146 _ _ u147 dX11_aRule_61 (Or.inl p_r146.2) hS hP hD ?_
        exact ⟨(MI.kk (MI.kk hM p_r3.1 (by decide) (by decide)) p_r146.1 (by decide) (by decide)), (KK.tr (KK.tr (KK.rf I_m) p_r3.1 (by decide) (by decide)) p_r146.1 (by decide) (by decide)), ⟨(PQ.kk (PQ.ah (PQ.rf h_p) p_r3.2) p_r146.1 (by decide)), Or.inl p_r146.2, fun q => absurd (q.symm.trans p_r146.2) (by decide), (hA31.kk p_r146.1 (by decide)).1⟩⟩
  · refine lv_aload_n hx hb dX11_aRule_23 rfl (lv_at hl 2 rfl) ?_
    refine lv_bipush (v := 6) hx hb dX11_aRule_24 (by decide) ?_
    refine EffI.cv (wr := ([])) (w' := fun u149 => wX11 g a_m u149 J_m) (As := [.int (6 : Int32)]) (kX11_fails l g a_m I_m J_m (6 : Int32)) fx (gUV (uT _) u_557 u_558 u_559 u_5 u_560) rfl hdX11_fails ⟨Nat.le_of_ble_eq_true rfl, Nat.le_of_ble_eq_true rfl⟩ hK hP hD hS hA [0, 1, 2, 3, 4, 5, 6, 7, 8, 9, 10, 11, 12, 13, 14, 15, 16, 17, 18, 19, 20, 21, 22] [] [0, 1, 2, 3, 4, 5, 6, 7, 8, 9, 10, 11, 12, 13, 14, 15, 16, 17, 18, 19, 20, 21, 22] rfl rfl rfl rfl (by decide) rfl (fun _ => rfl) rfl rfl rfl rfl hl.1 (Nat.le_of_ble_eq_true rfl) dX11_aRule_26 (fun r148 u149 H locs p_r148 hP hD hS => ?_)
    have hP : va_P g.1 vwCl (wX11 g a_m u149 J_m) H := hP
    have hD : va_D A (wX11 g a_m u149 J_m) := hD
    refine hret 29 ls r148 _ _ u149 dX11_aRule_29 (Or.inl p_r148.2) hS hP hD ?_
    exact ⟨(MI.kk hM p_r148.1 (by decide) (by decide)), (KK.tr (KK.rf I_m) p_r148.1 (by decide) (by decide)), ⟨(PQ.kk (PQ.rf h_p) p_r148.1 (by decide)), Or.inl p_r148.2, fun q => absurd (q.symm.trans p_r148.2) (by decide), hN.row (p_r148.1.row 1 (by decide))⟩⟩

set_option maxHeartbeats 4000000 in
set_option maxRecDepth 100000 in
theorem kX11_pressPart (l : Launch) (g : gG) (ad av : Nat → Nat) (a_m : Nat → Nat) (I_m : Nat → Nat → Int32) (J_m : Nat → Nat → Int64) (hM : MI I_m) (hN : NS I_m) (h_p : PS I_m) : EffIS l g ad av yX11_pressPart wsX11_pressPart 7 [.ref (a_m 0)] (wX11 g a_m I_m J_m) (fun (u : (Nat → Nat → Int32)) => wX11 g a_m u J_m) (fun r (u : (Nat → Nat → Int32)) => MI (u) ∧ KK [1] [11, 12, 13, 14, 16, 17, 19] I_m (u) ∧ PQ I_m (u) ∧ (r = 0 ∨ r = 1) ∧ (r = 1 → AD I_m (u)) ∧ NS (u)) := by
  refine EffIS.sz (cc := cX11_pressPart) (maxL := 2) (by decide) rfl (Nat.le_of_ble_eq_true rfl) (fun p e s m args below meth c A Q ls fx hK hP hD hA hS hJ hl hret => ?_)
  have hx := fx.1
  have hb := fx.2.1
  have hml := fx.2.2.1
  have hown := fx.2.2.2.1
  have hts := fx.2.2.2.2
  have hl : lv_has ls 2 [(0, .ref (a_m 0))] := hl
  have hP : va_P g.1 vwCl (wX11 g a_m I_m J_m) s.heap := hP
  have hf_214 := hts _ (uT _ _ u_505)
  have hi_X11 : ∀ w ∈ wsX110, w.before args s = true := fun w h => hts w (uT _ w (u_wsX110 w h))
  have lm1 : (-1 : Int32).toInt = -1 := by decide
  have lm0 : (0 : Int32).toInt = 0 := by decide
  have lm2 : (1 : Int32).toInt = 1 := by decide
  have lq2 : (2 : Int32).toInt = 2 := by decide
  have lq3 : (3 : Int32).toInt = 3 := by decide
  have lq4 : (4 : Int32).toInt = 4 := by decide
  have lq5 : (5 : Int32).toInt = 5 := by decide
  have lq6 : (6 : Int32).toInt = 6 := by decide
  have lq7 : (7 : Int32).toInt = 7 := by decide
  have lq32 : (32 : Int32).toInt = 32 := by decide
  have lq10 : (10 : Int32).toInt = 10 := by decide
  have lq13200 : (13200 : Int32).toInt = 13200 := by decide
  have lq24 : (24 : Int32).toInt = 24 := by decide
  have lq63 : (63 : Int32).toInt = 63 := by decide
  have lq13204 : (13204 : Int32).toInt = 13204 := by decide
  have lq13205 : (13205 : Int32).toInt = 13205 := by decide
  have lq40 : (40 : Int32).toInt = 40 := by decide
  have lq30 : (30 : Int32).toInt = 30 := by decide
  refine lv_aload_n hx hb dX11_pressPart_0 rfl (lv_at hl 0 rfl) ?_
  refine va_ldcS hx hb hown (jF.l0 hJ) dX11_pressPart_1 ?_
  refine PurIS.cv (As := [.ref (ad 0)]) (kX11_inWords l g ad av a_m I_m J_m 0 (by decide) (PQ.rf h_p).1 (by omega)) fx (gUV (uT _) u_544 u_545 u_546 u_5 u_547) rfl hdX11_inWords ⟨Nat.le_of_ble_eq_true rfl, Nat.le_of_ble_eq_true rfl⟩ hJ hS hK hP [0, 1, 2, 3, 4, 5, 6, 7, 8, 9, 10, 11, 12, 13, 14, 15, 16, 17, 18, 19, 20, 21, 22] rfl rfl rfl rfl rfl hl.1 (Nat.le_of_ble_eq_true rfl) dX11_pressPart_3 (fun r1 p_r1 => ?_)
  refine lv_istore_n (lv' := [(1, .int r1), (0, .ref (a_m 0))]) hx hb dX11_pressPart_6 rfl hl (by decide) rfl (fun ls hl => ?_)
  refine lv_iload_n hx hb dX11_pressPart_7 rfl (lv_at hl 0 rfl) ?_
  refine q_if_ne (tgt := 16) hx hb dX11_pressPart_8 (by decide) rfl (fun b_8 k_8 => ?_) (fun b_8 k_8 => ?_)
  · refine lv_iload_n hx hb dX11_pressPart_16 rfl (lv_at hl 0 rfl) ?_
    refine lv_iconst (v := 1) hx hb dX11_pressPart_17 (by decide) ?_
    refine q_icmp_lt (tgt := 26) hx hb dX11_pressPart_18 (by decide) rfl (by decide : (1 : Int32).toInt = 1) (fun k_18 => ?_) (fun k_18 => ?_)
    · refine lv_aload_n hx hb dX11_pressPart_26 rfl (lv_at hl 1 rfl) ?_
      refine lv_iconst (v := 2) hx hb dX11_pressPart_27 (by decide) ?_
      refine EffI.cv (wr := ([])) (w' := fun u3 => wX11 g a_m u3 J_m) (As := [.int (2 : Int32)]) (kX11_fails l g a_m I_m J_m (2 : Int32)) fx (gUV (uT _) u_557 u_558 u_559 u_5 u_560) rfl hdX11_fails ⟨Nat.le_of_ble_eq_true rfl, Nat.le_of_ble_eq_true rfl⟩ hK hP hD hS hA [0, 1, 2, 3, 4, 5, 6, 7, 8, 9, 10, 11, 12, 13, 14, 15, 16, 17, 18, 19, 20, 21, 22] [] [0, 1, 2, 3, 4, 5, 6, 7, 8, 9, 10, 11, 12, 13, 14, 15, 16, 17, 18, 19, 20, 21, 22] rfl rfl rfl rfl (by decide) rfl (fun _ => rfl) rfl rfl rfl rfl hl.1 (Nat.le_of_ble_eq_true rfl) dX11_pressPart_28 (fun r2 u3 H locs p_r2 hP hD hS => ?_)
      have hP : va_P g.1 vwCl (wX11 g a_m u3 J_m) H := hP
      have hD : va_D A (wX11 g a_m u3 J_m) := hD
      refine hret 31 ls r2 _ _ u3 dX11_pressPart_31 (Or.inl p_r2.2) hS hP hD ?_
      exact ⟨(MI.kk hM p_r2.1 (by decide) (by decide)), (KK.tr (KK.rf I_m) p_r2.1 (by decide) (by decide)), ⟨(PQ.kk (PQ.rf h_p) p_r2.1 (by decide)), Or.inl p_r2.2, fun q => absurd (q.symm.trans p_r2.2) (by decide), hN.row (p_r2.1.row 1 (by decide))⟩⟩
    · refine lv_iload_n hx hb dX11_pressPart_21 rfl (lv_at hl 0 rfl) ?_
      refine lv_iconst (v := 5) hx hb dX11_pressPart_22 (by decide) ?_
      refine q_icmp_le (tgt := 32) hx hb dX11_pressPart_23 (by decide) rfl (by decide : (5 : Int32).toInt = 5) (fun k_23 => ?_) (fun k_23 => ?_)
      · refine lv_aload_n hx hb dX11_pressPart_32 rfl (lv_at hl 1 rfl) ?_
        refine va_get (D := g.1) (ci := 11) (v := .int (I_m 0 19)) (C := RX11) (T := TX11) (N := 46) hx hb hi_X11 (fun _ h => h) hown hK.1 hP 0 rfl rfl 19 (by decide) hf_214 (fun _ h9 => h9) rfl dX11_pressPart_33 ?_
        refine lv_iload_n hx hb dX11_pressPart_36 rfl (lv_at hl 0 rfl) ?_
        refine lv_ishr hx hb dX11_pressPart_37 ?_
        refine q_nm (fun x4 e_x4 => ?_)
        refine lv_iconst (v := 1) hx hb dX11_pressPart_38 (by decide) ?_
        refine lv_iand hx hb dX11_pressPart_39 ?_
        refine q_nm (fun x5 e_x5 => ?_)
        refine lv_iconst (v := 1) hx hb dX11_pressPart_40 (by decide) ?_
        refine q_icmp_ne (tgt := 50) hx hb dX11_pressPart_41 (by decide) rfl (by decide : (1 : Int32).toInt = 1) (fun k_41 => ?_) (fun k_41 => ?_)
        · refine lv_aload_n hx hb dX11_pressPart_50 rfl (lv_at hl 1 rfl) ?_
          refine lv_dup hx hb dX11_pressPart_51 rfl ?_
          refine va_get (D := g.1) (ci := 11) (v := .int (I_m 0 19)) (C := RX11) (T := TX11) (N := 46) hx hb hi_X11 (fun _ h => h) hown hK.1 hP 0 rfl rfl 19 (by decide) hf_214 (fun _ h9 => h9) rfl dX11_pressPart_52 ?_
          refine lv_iconst (v := 1) hx hb dX11_pressPart_55 (by decide) ?_
          refine lv_iload_n hx hb dX11_pressPart_56 rfl (lv_at hl 0 rfl) ?_
          refine lv_ishl hx hb dX11_pressPart_57 ?_
          refine q_nm (fun x6 e_x6 => ?_)
          refine lv_ior hx hb dX11_pressPart_58 ?_
          refine q_nm (fun x7 e_x7 => ?_)
          refine va_put (D := g.1) (ci := 11) (v := .int x7) (ty := .int) (C := RX11) (T := TX11) (N := 46) hx hb hi_X11 (fun _ h => h) tyX11 tyX11_ok nmX11 hown hK.1 hP hD hS 0 rfl rfl 19 (by decide) hf_214 (fun _ h9 => h9) rfl (by decide +kernel) rfl rfl (Nat.le_of_ble_eq_true rfl) dX11_pressPart_59 (fun H locs hP hD hS => ?_)
          have hP : va_P g.1 vwCl (wX11 g a_m (uF I_m 0 19 x7) J_m) H := hP
          have hD : va_D A (wX11 g a_m (uF I_m 0 19 x7) J_m) := hD
          have hc_59 : MI (uF I_m 0 19 x7) := MI.uf hM (by decide)
          have hk_59 : KK [1] [11, 12, 13, 14, 16, 17, 19] I_m (uF I_m 0 19 x7) := KK.uf (KK.rf I_m) (by decide)
          have hp_59 : PQ I_m (uF I_m 0 19 x7) := PQ.uf (PQ.rf h_p) (by decide)
          refine lv_aload_n hx hb dX11_pressPart_62 rfl (lv_at hl 1 rfl) ?_
          refine EffV.cv (wr := ([])) (w' := fun u9 => wX11 g a_m u9 J_m) (As := []) (kX11_ahead l g a_m (uF I_m 0 19 x7) J_m hp_59.1.1) fx (gUV (uT _) u_515 u_516 u_517 u_5 u_518) rfl hdX11_ahead ⟨Nat.le_of_ble_eq_true rfl, Nat.le_of_ble_eq_true rfl⟩ hK hP hD hS hA [0, 1, 2, 3, 4, 5, 6, 7, 8, 9, 10, 11, 12, 13, 14, 15, 16, 17, 18, 19, 20, 21, 22] [] [0, 1, 2, 3, 4, 5, 6, 7, 8, 9, 10, 11, 12, 13, 14, 15, 16, 17, 18, 19, 20, 21, 22] rfl rfl rfl rfl (by decide) rfl (fun _ => rfl) rfl rfl rfl rfl hl.1 (Nat.le_of_ble_eq_true rfl) dX11_pressPart_63 (fun u9 H locs p_r8 hP hD hS => ?_)
          have hP : va_P g.1 vwCl (wX11 g a_m u9 J_m) H := hP
          have hD : va_D A (wX11 g a_m u9 J_m) := hD
          have p_r8 : KK [] [11, 12, 13, 14] (uF I_m 0 19 x7) u9 ∧ AH (uF I_m 0 19 x7) u9 := p_r8
          have hN63 := hN.row ((p_r8.1).row 1 (by decide))
          refine lv_iload_n hx hb dX11_pressPart_66 rfl (lv_at hl 0 rfl) ?_
          refine lv_iconst (v := 4) hx hb dX11_pressPart_67 (by decide) ?_
          refine q_icmp_ne (tgt := 87) hx hb dX11_pressPart_68 (by decide) rfl (by decide : (4 : Int32).toInt = 4) (fun k_68 => ?_) (fun k_68 => ?_)
          · refine lv_iload_n hx hb dX11_pressPart_87 rfl (lv_at hl 0 rfl) ?_
            refine lv_iconst (v := 5) hx hb dX11_pressPart_88 (by decide) ?_
            refine q_icmp_ne (tgt := 108) hx hb dX11_pressPart_89 (by decide) rfl (by decide : (5 : Int32).toInt = 5) (fun k_89 => ?_) (fun k_89 => ?_)
            · refine lv_aload_n hx hb dX11_pressPart_108 rfl (lv_at hl 1 rfl) ?_
              refine lv_sipush (v := 13200) hx hb dX11_pressPart_109 (by decide) ?_
              refine lv_iload_n hx hb dX11_pressPart_112 rfl (lv_at hl 0 rfl) ?_
              refine r_iadd hx hb dX11_pressPart_113 (by decide : (13200 : Int32).toInt = 13200) rfl (fun x10 e_x10 t_x10 => ?_)
              try have t_x10 := t_x10 (by omega)
              refine lv_iconst (v := 1) hx hb dX11_pressPart_114 (by decide) ?_
              refine lv_bipush (v := 63) hx hb dX11_pressPart_115 (by decide) ?_
              refine EffI.cv (wr := ([])) (w' := fun u12 => wX11 g a_m u12 J_m) (As := [.int x10, .int (1 : Int32), .int (63 : Int32)]) (kX11_number l g a_m u9 J_m x10 (1 : Int32) (63 : Int32) (MI.kk hc_59 p_r8.1 (by decide) (by decide)) hN63 (by omega) (by omega) (PQ.ah hp_59 p_r8.2).1) fx (gUV (uT _) u_577 u_578 u_579 u_5 u_580) rfl hdX11_number ⟨Nat.le_of_ble_eq_true rfl, Nat.le_of_ble_eq_true rfl⟩ hK hP hD hS hA [0, 1, 2, 3, 4, 5, 6, 7, 8, 9, 10, 11, 12, 13, 14, 15, 16, 17, 18, 19, 20, 21, 22] [] [0, 1, 2, 3, 4, 5, 6, 7, 8, 9, 10, 11, 12, 13, 14, 15, 16, 17, 18, 19, 20, 21, 22] rfl rfl rfl rfl (by decide) rfl (fun _ => rfl) rfl rfl rfl rfl hl.1 (Nat.le_of_ble_eq_true rfl) dX11_pressPart_117 (fun r11 u12 H locs p_r11 hP hD hS => ?_)
              have hP : va_P g.1 vwCl (wX11 g a_m u12 J_m) H := hP
              have hD : va_D A (wX11 g a_m u12 J_m) := hD
              have hN78 := p_r11.2.2.2.2.2
              refine q_if_eq (tgt := 136) hx hb dX11_pressPart_120 (by decide) rfl (fun b_120 k_120 => ?_) (fun b_120 k_120 => ?_)
              · refine lv_iconst (v := 0) hx hb dX11_pressPart_136 (by decide) ?_
                refine hret 137 ls (0 : Int32) _ _ u12 dX11_pressPart_137 (Or.inl rfl) hS hP hD ?_
                exact ⟨p_r11.1, (KK.tr (KK.tr hk_59 p_r8.1 (by decide) (by decide)) p_r11.2.1 (by decide) (by decide)), (by first | exact ⟨(PQ.tr (PQ.ah hp_59 p_r8.2) p_r11.2.2.1), Or.inr rfl, fun _ => PQ.ad hq126 (nope_p126.2.2.2 (nope_p126.2.2.1.resolve_left b_129)), hN126⟩ | exact ⟨(PQ.tr (PQ.ah hp_59 p_r8.2) p_r11.2.2.1), Or.inl rfl, fun q => absurd q (by decide), hN126⟩ | exact ⟨(PQ.tr (PQ.ah hp_59 p_r8.2) p_r11.2.2.1), Or.inl rfl, fun q => absurd q (by decide), hN78⟩)⟩
              · refine lv_aload_n hx hb dX11_pressPart_123 rfl (lv_at hl 1 rfl) ?_
                refine lv_bipush (v := 59) hx hb dX11_pressPart_124 (by decide) ?_
                have hq126 : PQ I_m u12 := (PQ.tr (PQ.ah hp_59 p_r8.2) p_r11.2.2.1)
                refine EffI.cv (wr := ([])) (w' := fun u14 => wX11 g a_m u14 J_m) (As := [.int (59 : Int32)]) (kX11_wantSign l g a_m u12 J_m (59 : Int32) (PQ.tr (PQ.ah hp_59 p_r8.2) p_r11.2.2.1).1) fx (gUV (uT _) u_573 u_574 u_575 u_5 u_576) rfl hdX11_wantSign ⟨Nat.le_of_ble_eq_true rfl, Nat.le_of_ble_eq_true rfl⟩ hK hP hD hS hA [0, 1, 2, 3, 4, 5, 6, 7, 8, 9, 10, 11, 12, 13, 14, 15, 16, 17, 18, 19, 20, 21, 22] [] [0, 1, 2, 3, 4, 5, 6, 7, 8, 9, 10, 11, 12, 13, 14, 15, 16, 17, 18, 19, 20, 21, 22] rfl rfl rfl rfl (by decide) rfl (fun _ => rfl) rfl rfl rfl rfl hl.1 (Nat.le_of_ble_eq_true rfl) dX11_pressPart_126 (fun r13 u14 H locs p_r13 hP hD hS => ?_)
                have hP : va_P g.1 vwCl (wX11 g a_m u14 J_m) H := hP
                have hD : va_D A (wX11 g a_m u14 J_m) := hD
                have hN126 := hN78.row (p_r13.1.row 1 (by decide))
                refine q_if_eq (tgt := 136) hx hb dX11_pressPart_129 (by decide) rfl (fun b_129 k_129 => ?_) (fun b_129 k_129 => ?_)
                · refine lv_iconst (v := 0) hx hb dX11_pressPart_136 (by decide) ?_
                  refine hret 137 ls (0 : Int32) _ _ u14 dX11_pressPart_137 (Or.inl rfl) hS hP hD ?_
                  exact ⟨(MI.kk p_r11.1 p_r13.1 (by decide) (by decide)), (KK.tr (KK.tr (KK.tr hk_59 p_r8.1 (by decide) (by decide)) p_r11.2.1 (by decide) (by decide)) p_r13.1 (by decide) (by decide)), (by first | exact ⟨(PQ.tr (PQ.tr (PQ.ah hp_59 p_r8.2) p_r11.2.2.1) p_r13.2.1), Or.inr rfl, fun _ => PQ.ad hq126 (p_r13.2.2.2 (p_r13.2.2.1.resolve_left b_129)), hN126⟩ | exact ⟨(PQ.tr (PQ.tr (PQ.ah hp_59 p_r8.2) p_r11.2.2.1) p_r13.2.1), Or.inl rfl, fun q => absurd q (by decide), hN126⟩ | exact ⟨(PQ.tr (PQ.tr (PQ.ah hp_59 p_r8.2) p_r11.2.2.1) p_r13.2.1), Or.inl rfl, fun q => absurd q (by decide), hN78⟩)⟩
                · refine lv_iconst (v := 1) hx hb dX11_pressPart_132 (by decide) ?_
                  refine lv_goto (tgt := 137) hx hb dX11_pressPart_133 (by decide) ?_
                  have lr : (1 : Int32).toInt = 1 := by decide
                  refine hret 137 ls (1 : Int32) _ _ u14 dX11_pressPart_137 (Or.inr rfl) hS hP hD ?_
                  exact ⟨(MI.kk p_r11.1 p_r13.1 (by decide) (by decide)), (KK.tr (KK.tr (KK.tr hk_59 p_r8.1 (by decide) (by decide)) p_r11.2.1 (by decide) (by decide)) p_r13.1 (by decide) (by decide)), (by first | exact ⟨(PQ.tr (PQ.tr (PQ.ah hp_59 p_r8.2) p_r11.2.2.1) p_r13.2.1), Or.inr rfl, fun _ => PQ.ad hq126 (p_r13.2.2.2 (p_r13.2.2.1.resolve_left b_129)), hN126⟩ | exact ⟨(PQ.tr (PQ.tr (PQ.ah hp_59 p_r8.2) p_r11.2.2.1) p_r13.2.1), Or.inl rfl, fun q => absurd q (by decide), hN126⟩ | exact ⟨(PQ.tr (PQ.tr (PQ.ah hp_59 p_r8.2) p_r11.2.2.1) p_r13.2.1), Or.inl rfl, fun q => absurd q (by decide), hN78⟩)⟩
            · refine lv_aload_n hx hb dX11_pressPart_92 rfl (lv_at hl 1 rfl) ?_
              refine lv_sipush (v := 13205) hx hb dX11_pressPart_93 (by decide) ?_
              refine lv_iconst (v := 2) hx hb dX11_pressPart_96 (by decide) ?_
              refine lv_bipush (v := 30) hx hb dX11_pressPart_97 (by decide) ?_
              refine EffI.cv (wr := ([])) (w' := fun u16 => wX11 g a_m u16 J_m) (As := [.int (13205 : Int32), .int (2 : Int32), .int (30 : Int32)]) (kX11_number l g a_m u9 J_m (13205 : Int32) (2 : Int32) (30 : Int32) (MI.kk hc_59 p_r8.1 (by decide) (by decide)) hN63 (by omega) (by omega) (PQ.ah hp_59 p_r8.2).1) fx (gUV (uT _) u_577 u_578 u_579 u_5 u_580) rfl hdX11_number ⟨Nat.le_of_ble_eq_true rfl, Nat.le_of_ble_eq_true rfl⟩ hK hP hD hS hA [0, 1, 2, 3, 4, 5, 6, 7, 8, 9, 10, 11, 12, 13, 14, 15, 16, 17, 18, 19, 20, 21, 22] [] [0, 1, 2, 3, 4, 5, 6, 7, 8, 9, 10, 11, 12, 13, 14, 15, 16, 17, 18, 19, 20, 21, 22] rfl rfl rfl rfl (by decide) rfl (fun _ => rfl) rfl rfl rfl rfl hl.1 (Nat.le_of_ble_eq_true rfl) dX11_pressPart_99 (fun r15 u16 H locs p_r15 hP hD hS => ?_)
              have hP : va_P g.1 vwCl (wX11 g a_m u16 J_m) H := hP
              have hD : va_D A (wX11 g a_m u16 J_m) := hD
              have hN78 := p_r15.2.2.2.2.2
              refine q_if_eq (tgt := 136) hx hb dX11_pressPart_102 (by decide) rfl (fun b_102 k_102 => ?_) (fun b_102 k_102 => ?_)
              · refine lv_iconst (v := 0) hx hb dX11_pressPart_136 (by decide) ?_
                refine hret 137 ls (0 : Int32) _ _ u16 dX11_pressPart_137 (Or.inl rfl) hS hP hD ?_
                exact ⟨p_r15.1, (KK.tr (KK.tr hk_59 p_r8.1 (by decide) (by decide)) p_r15.2.1 (by decide) (by decide)), (by first | exact ⟨(PQ.tr (PQ.ah hp_59 p_r8.2) p_r15.2.2.1), Or.inr rfl, fun _ => PQ.ad hq126 (nope_p126.2.2.2 (nope_p126.2.2.1.resolve_left b_129)), hN126⟩ | exact ⟨(PQ.tr (PQ.ah hp_59 p_r8.2) p_r15.2.2.1), Or.inl rfl, fun q => absurd q (by decide), hN126⟩ | exact ⟨(PQ.tr (PQ.ah hp_59 p_r8.2) p_r15.2.2.1), Or.inl rfl, fun q => absurd q (by decide), hN78⟩)⟩
              · refine lv_goto (tgt := 123) hx hb dX11_pressPart_105 (by decide) ?_
                refine lv_aload_n hx hb dX11_pressPart_123 rfl (lv_at hl 1 rfl) ?_
                refine lv_bipush (v := 59) hx hb dX11_pressPart_124 (by decide) ?_
                have hq126 : PQ I_m u16 := (PQ.tr (PQ.ah hp_59 p_r8.2) p_r15.2.2.1)
                refine EffI.cv (wr := ([])) (w' := fun u18 => wX11 g a_m u18 J_m) (As := [.int (59 : Int32)]) (kX11_wantSign l g a_m u16 J_m (59 : Int32) (PQ.tr (PQ.ah hp_59 p_r8.2) p_r15.2.2.1).1) fx (gUV (uT _) u_573 u_574 u_575 u_5 u_576) rfl hdX11_wantSign ⟨Nat.le_of_ble_eq_true rfl, Nat.le_of_ble_eq_true rfl⟩ hK hP hD hS hA [0, 1, 2, 3, 4, 5, 6, 7, 8, 9, 10, 11, 12, 13, 14, 15, 16, 17, 18, 19, 20, 21, 22] [] [0, 1, 2, 3, 4, 5, 6, 7, 8, 9, 10, 11, 12, 13, 14, 15, 16, 17, 18, 19, 20, 21, 22] rfl rfl rfl rfl (by decide) rfl (fun _ => rfl) rfl rfl rfl rfl hl.1 (Nat.le_of_ble_eq_true rfl) dX11_pressPart_126 (fun r17 u18 H locs p_r17 hP hD hS => ?_)
                have hP : va_P g.1 vwCl (wX11 g a_m u18 J_m) H := hP
                have hD : va_D A (wX11 g a_m u18 J_m) := hD
                have hN126 := hN78.row (p_r17.1.row 1 (by decide))
                refine q_if_eq (tgt := 136) hx hb dX11_pressPart_129 (by decide) rfl (fun b_129 k_129 => ?_) (fun b_129 k_129 => ?_)
                · refine lv_iconst (v := 0) hx hb dX11_pressPart_136 (by decide) ?_
                  refine hret 137 ls (0 : Int32) _ _ u18 dX11_pressPart_137 (Or.inl rfl) hS hP hD ?_
                  exact ⟨(MI.kk p_r15.1 p_r17.1 (by decide) (by decide)), (KK.tr (KK.tr (KK.tr hk_59 p_r8.1 (by decide) (by decide)) p_r15.2.1 (by decide) (by decide)) p_r17.1 (by decide) (by decide)), (by first | exact ⟨(PQ.tr (PQ.tr (PQ.ah hp_59 p_r8.2) p_r15.2.2.1) p_r17.2.1), Or.inr rfl, fun _ => PQ.ad hq126 (p_r17.2.2.2 (p_r17.2.2.1.resolve_left b_129)), hN126⟩ | exact ⟨(PQ.tr (PQ.tr (PQ.ah hp_59 p_r8.2) p_r15.2.2.1) p_r17.2.1), Or.inl rfl, fun q => absurd q (by decide), hN126⟩ | exact ⟨(PQ.tr (PQ.tr (PQ.ah hp_59 p_r8.2) p_r15.2.2.1) p_r17.2.1), Or.inl rfl, fun q => absurd q (by decide), hN78⟩)⟩
                · refine lv_iconst (v := 1) hx hb dX11_pressPart_132 (by decide) ?_
                  refine lv_goto (tgt := 137) hx hb dX11_pressPart_133 (by decide) ?_
                  have lr : (1 : Int32).toInt = 1 := by decide
                  refine hret 137 ls (1 : Int32) _ _ u18 dX11_pressPart_137 (Or.inr rfl) hS hP hD ?_
                  exact ⟨(MI.kk p_r15.1 p_r17.1 (by decide) (by decide)), (KK.tr (KK.tr (KK.tr hk_59 p_r8.1 (by decide) (by decide)) p_r15.2.1 (by decide) (by decide)) p_r17.1 (by decide) (by decide)), (by first | exact ⟨(PQ.tr (PQ.tr (PQ.ah hp_59 p_r8.2) p_r15.2.2.1) p_r17.2.1), Or.inr rfl, fun _ => PQ.ad hq126 (p_r17.2.2.2 (p_r17.2.2.1.resolve_left b_129)), hN126⟩ | exact ⟨(PQ.tr (PQ.tr (PQ.ah hp_59 p_r8.2) p_r15.2.2.1) p_r17.2.1), Or.inl rfl, fun q => absurd q (by decide), hN126⟩ | exact ⟨(PQ.tr (PQ.tr (PQ.ah hp_59 p_r8.2) p_r15.2.2.1) p_r17.2.1), Or.inl rfl, fun q => absurd q (by decide), hN78⟩)⟩
          · refine lv_aload_n hx hb dX11_pressPart_71 rfl (lv_at hl 1 rfl) ?_
            refine lv_sipush (v := 13204) hx hb dX11_pressPart_72 (by decide) ?_
            refine lv_iconst (v := 4) hx hb dX11_pressPart_75 (by decide) ?_
            refine lv_bipush (v := 40) hx hb dX11_pressPart_76 (by decide) ?_
            refine EffI.cv (wr := ([])) (w' := fun u20 => wX11 g a_m u20 J_m) (As := [.int (13204 : Int32), .int (4 : Int32), .int (40 : Int32)]) (kX11_number l g a_m u9 J_m (13204 : Int32) (4 : Int32) (40 : Int32) (MI.kk hc_59 p_r8.1 (by decide) (by decide)) hN63 (by omega) (by omega) (PQ.ah hp_59 p_r8.2).1) fx (gUV (uT _) u_577 u_578 u_579 u_5 u_580) rfl hdX11_number ⟨Nat.le_of_ble_eq_true rfl, Nat.le_of_ble_eq_true rfl⟩ hK hP hD hS hA [0, 1, 2, 3, 4, 5, 6, 7, 8, 9, 10, 11, 12, 13, 14, 15, 16, 17, 18, 19, 20, 21, 22] [] [0, 1, 2, 3, 4, 5, 6, 7, 8, 9, 10, 11, 12, 13, 14, 15, 16, 17, 18, 19, 20, 21, 22] rfl rfl rfl rfl (by decide) rfl (fun _ => rfl) rfl rfl rfl rfl hl.1 (Nat.le_of_ble_eq_true rfl) dX11_pressPart_78 (fun r19 u20 H locs p_r19 hP hD hS => ?_)
            have hP : va_P g.1 vwCl (wX11 g a_m u20 J_m) H := hP
            have hD : va_D A (wX11 g a_m u20 J_m) := hD
            have hN78 := p_r19.2.2.2.2.2
            refine q_if_eq (tgt := 136) hx hb dX11_pressPart_81 (by decide) rfl (fun b_81 k_81 => ?_) (fun b_81 k_81 => ?_)
            · refine lv_iconst (v := 0) hx hb dX11_pressPart_136 (by decide) ?_
              refine hret 137 ls (0 : Int32) _ _ u20 dX11_pressPart_137 (Or.inl rfl) hS hP hD ?_
              exact ⟨p_r19.1, (KK.tr (KK.tr hk_59 p_r8.1 (by decide) (by decide)) p_r19.2.1 (by decide) (by decide)), (by first | exact ⟨(PQ.tr (PQ.ah hp_59 p_r8.2) p_r19.2.2.1), Or.inr rfl, fun _ => PQ.ad hq126 (nope_p126.2.2.2 (nope_p126.2.2.1.resolve_left b_129)), hN126⟩ | exact ⟨(PQ.tr (PQ.ah hp_59 p_r8.2) p_r19.2.2.1), Or.inl rfl, fun q => absurd q (by decide), hN126⟩ | exact ⟨(PQ.tr (PQ.ah hp_59 p_r8.2) p_r19.2.2.1), Or.inl rfl, fun q => absurd q (by decide), hN78⟩)⟩
            · refine lv_goto (tgt := 123) hx hb dX11_pressPart_84 (by decide) ?_
              refine lv_aload_n hx hb dX11_pressPart_123 rfl (lv_at hl 1 rfl) ?_
              refine lv_bipush (v := 59) hx hb dX11_pressPart_124 (by decide) ?_
              have hq126 : PQ I_m u20 := (PQ.tr (PQ.ah hp_59 p_r8.2) p_r19.2.2.1)
              refine EffI.cv (wr := ([])) (w' := fun u22 => wX11 g a_m u22 J_m) (As := [.int (59 : Int32)]) (kX11_wantSign l g a_m u20 J_m (59 : Int32) (PQ.tr (PQ.ah hp_59 p_r8.2) p_r19.2.2.1).1) fx (gUV (uT _) u_573 u_574 u_575 u_5 u_576) rfl hdX11_wantSign ⟨Nat.le_of_ble_eq_true rfl, Nat.le_of_ble_eq_true rfl⟩ hK hP hD hS hA [0, 1, 2, 3, 4, 5, 6, 7, 8, 9, 10, 11, 12, 13, 14, 15, 16, 17, 18, 19, 20, 21, 22] [] [0, 1, 2, 3, 4, 5, 6, 7, 8, 9, 10, 11, 12, 13, 14, 15, 16, 17, 18, 19, 20, 21, 22] rfl rfl rfl rfl (by decide) rfl (fun _ => rfl) rfl rfl rfl rfl hl.1 (Nat.le_of_ble_eq_true rfl) dX11_pressPart_126 (fun r21 u22 H locs p_r21 hP hD hS => ?_)
              have hP : va_P g.1 vwCl (wX11 g a_m u22 J_m) H := hP
              have hD : va_D A (wX11 g a_m u22 J_m) := hD
              have hN126 := hN78.row (p_r21.1.row 1 (by decide))
              refine q_if_eq (tgt := 136) hx hb dX11_pressPart_129 (by decide) rfl (fun b_129 k_129 => ?_) (fun b_129 k_129 => ?_)
              · refine lv_iconst (v := 0) hx hb dX11_pressPart_136 (by decide) ?_
                refine hret 137 ls (0 : Int32) _ _ u22 dX11_pressPart_137 (Or.inl rfl) hS hP hD ?_
                exact ⟨(MI.kk p_r19.1 p_r21.1 (by decide) (by decide)), (KK.tr (KK.tr (KK.tr hk_59 p_r8.1 (by decide) (by decide)) p_r19.2.1 (by decide) (by decide)) p_r21.1 (by decide) (by decide)), (by first | exact ⟨(PQ.tr (PQ.tr (PQ.ah hp_59 p_r8.2) p_r19.2.2.1) p_r21.2.1), Or.inr rfl, fun _ => PQ.ad hq126 (p_r21.2.2.2 (p_r21.2.2.1.resolve_left b_129)), hN126⟩ | exact ⟨(PQ.tr (PQ.tr (PQ.ah hp_59 p_r8.2) p_r19.2.2.1) p_r21.2.1), Or.inl rfl, fun q => absurd q (by decide), hN126⟩ | exact ⟨(PQ.tr (PQ.tr (PQ.ah hp_59 p_r8.2) p_r19.2.2.1) p_r21.2.1), Or.inl rfl, fun q => absurd q (by decide), hN78⟩)⟩
              · refine lv_iconst (v := 1) hx hb dX11_pressPart_132 (by decide) ?_
                refine lv_goto (tgt := 137) hx hb dX11_pressPart_133 (by decide) ?_
                have lr : (1 : Int32).toInt = 1 := by decide
                refine hret 137 ls (1 : Int32) _ _ u22 dX11_pressPart_137 (Or.inr rfl) hS hP hD ?_
                exact ⟨(MI.kk p_r19.1 p_r21.1 (by decide) (by decide)), (KK.tr (KK.tr (KK.tr hk_59 p_r8.1 (by decide) (by decide)) p_r19.2.1 (by decide) (by decide)) p_r21.1 (by decide) (by decide)), (by first | exact ⟨(PQ.tr (PQ.tr (PQ.ah hp_59 p_r8.2) p_r19.2.2.1) p_r21.2.1), Or.inr rfl, fun _ => PQ.ad hq126 (p_r21.2.2.2 (p_r21.2.2.1.resolve_left b_129)), hN126⟩ | exact ⟨(PQ.tr (PQ.tr (PQ.ah hp_59 p_r8.2) p_r19.2.2.1) p_r21.2.1), Or.inl rfl, fun q => absurd q (by decide), hN126⟩ | exact ⟨(PQ.tr (PQ.tr (PQ.ah hp_59 p_r8.2) p_r19.2.2.1) p_r21.2.1), Or.inl rfl, fun q => absurd q (by decide), hN78⟩)⟩
        · refine lv_aload_n hx hb dX11_pressPart_44 rfl (lv_at hl 1 rfl) ?_
          refine lv_iconst (v := 5) hx hb dX11_pressPart_45 (by decide) ?_
          refine EffI.cv (wr := ([])) (w' := fun u24 => wX11 g a_m u24 J_m) (As := [.int (5 : Int32)]) (kX11_fails l g a_m I_m J_m (5 : Int32)) fx (gUV (uT _) u_557 u_558 u_559 u_5 u_560) rfl hdX11_fails ⟨Nat.le_of_ble_eq_true rfl, Nat.le_of_ble_eq_true rfl⟩ hK hP hD hS hA [0, 1, 2, 3, 4, 5, 6, 7, 8, 9, 10, 11, 12, 13, 14, 15, 16, 17, 18, 19, 20, 21, 22] [] [0, 1, 2, 3, 4, 5, 6, 7, 8, 9, 10, 11, 12, 13, 14, 15, 16, 17, 18, 19, 20, 21, 22] rfl rfl rfl rfl (by decide) rfl (fun _ => rfl) rfl rfl rfl rfl hl.1 (Nat.le_of_ble_eq_true rfl) dX11_pressPart_46 (fun r23 u24 H locs p_r23 hP hD hS => ?_)
          have hP : va_P g.1 vwCl (wX11 g a_m u24 J_m) H := hP
          have hD : va_D A (wX11 g a_m u24 J_m) := hD
          refine hret 49 ls r23 _ _ u24 dX11_pressPart_49 (Or.inl p_r23.2) hS hP hD ?_
          exact ⟨(MI.kk hM p_r23.1 (by decide) (by decide)), (KK.tr (KK.rf I_m) p_r23.1 (by decide) (by decide)), ⟨(PQ.kk (PQ.rf h_p) p_r23.1 (by decide)), Or.inl p_r23.2, fun q => absurd (q.symm.trans p_r23.2) (by decide), hN.row (p_r23.1.row 1 (by decide))⟩⟩
      · refine lv_aload_n hx hb dX11_pressPart_26 rfl (lv_at hl 1 rfl) ?_
        refine lv_iconst (v := 2) hx hb dX11_pressPart_27 (by decide) ?_
        refine EffI.cv (wr := ([])) (w' := fun u26 => wX11 g a_m u26 J_m) (As := [.int (2 : Int32)]) (kX11_fails l g a_m I_m J_m (2 : Int32)) fx (gUV (uT _) u_557 u_558 u_559 u_5 u_560) rfl hdX11_fails ⟨Nat.le_of_ble_eq_true rfl, Nat.le_of_ble_eq_true rfl⟩ hK hP hD hS hA [0, 1, 2, 3, 4, 5, 6, 7, 8, 9, 10, 11, 12, 13, 14, 15, 16, 17, 18, 19, 20, 21, 22] [] [0, 1, 2, 3, 4, 5, 6, 7, 8, 9, 10, 11, 12, 13, 14, 15, 16, 17, 18, 19, 20, 21, 22] rfl rfl rfl rfl (by decide) rfl (fun _ => rfl) rfl rfl rfl rfl hl.1 (Nat.le_of_ble_eq_true rfl) dX11_pressPart_28 (fun r25 u26 H locs p_r25 hP hD hS => ?_)
        have hP : va_P g.1 vwCl (wX11 g a_m u26 J_m) H := hP
        have hD : va_D A (wX11 g a_m u26 J_m) := hD
        refine hret 31 ls r25 _ _ u26 dX11_pressPart_31 (Or.inl p_r25.2) hS hP hD ?_
        exact ⟨(MI.kk hM p_r25.1 (by decide) (by decide)), (KK.tr (KK.rf I_m) p_r25.1 (by decide) (by decide)), ⟨(PQ.kk (PQ.rf h_p) p_r25.1 (by decide)), Or.inl p_r25.2, fun q => absurd (q.symm.trans p_r25.2) (by decide), hN.row (p_r25.1.row 1 (by decide))⟩⟩
  · refine lv_aload_n hx hb dX11_pressPart_11 rfl (lv_at hl 1 rfl) ?_
    refine EffIS.cv (wr := ([])) (w' := fun u28 => wX11 g a_m u28 J_m) (As := []) (kX11_aRule l g ad av a_m I_m J_m hM hN (PQ.rf h_p).1) fx (gUV (uT _) u_550 u_551 u_552 u_5 u_553) rfl hdX11_aRule ⟨Nat.le_of_ble_eq_true rfl, Nat.le_of_ble_eq_true rfl⟩ hJ hK hP hD hS hA [0, 1, 2, 3, 4, 5, 6, 7, 8, 9, 10, 11, 12, 13, 14, 15, 16, 17, 18, 19, 20, 21, 22] [] [0, 1, 2, 3, 4, 5, 6, 7, 8, 9, 10, 11, 12, 13, 14, 15, 16, 17, 18, 19, 20, 21, 22] rfl rfl rfl rfl (by decide) rfl (fun _ => rfl) rfl rfl rfl rfl hl.1 (Nat.le_of_ble_eq_true rfl) dX11_pressPart_12 (fun r27 u28 H locs p_r27 hP hD hS => ?_)
    have hP : va_P g.1 vwCl (wX11 g a_m u28 J_m) H := hP
    have hD : va_D A (wX11 g a_m u28 J_m) := hD
    refine hret 15 ls r27 _ _ u28 dX11_pressPart_15 p_r27.2.2.2.1 hS hP hD ?_
    exact ⟨p_r27.1, (KK.tr (KK.rf I_m) p_r27.2.1 (by decide) (by decide)), p_r27.2.2⟩

set_option maxHeartbeats 4000000 in
set_option maxRecDepth 100000 in
theorem kX11_empties (l : Launch) (g : gG) (a_m : Nat → Nat) (I_m : Nat → Nat → Int32) (J_m : Nat → Nat → Int64) (slot : Int32) (h_s : 0 ≤ slot.toInt ∧ slot.toInt ≤ 16500) : EffV l g yX11_empties wsX11_empties 0 [.ref (a_m 0), .int slot] (wX11 g a_m I_m J_m) (fun (u : (Nat → Nat → Int32)) => wX11 g a_m u J_m) (fun (u : (Nat → Nat → Int32)) => KK [1] [] I_m (u) ∧ TS ((u) 1) slot.toInt.toNat ∧ SS ((u) 1) slot.toInt.toNat ∧ ∀ j : Nat, j < slot.toInt.toNat ∨ slot.toInt.toNat + 3300 ≤ j → (u) 1 j = I_m 1 j) := by
  refine EffV.st (cc := cX11_empties) (maxL := 3) (by decide) rfl (Nat.le_of_ble_eq_true rfl) (fun p e s m args below meth c A Q ls fx hK hP hD hA hS hl hret => ?_)
  have hx := fx.1
  have hb := fx.2.1
  have hml := fx.2.2.1
  have hown := fx.2.2.2.1
  have hts := fx.2.2.2.2
  have hl : lv_has ls 3 [(0, .ref (a_m 0)), (1, .int slot)] := hl
  have hP : va_P g.1 vwCl (wX11 g a_m I_m J_m) s.heap := hP
  have hf_7 := hts _ (uT _ _ u_170)
  have hi_X11 : ∀ w ∈ wsX110, w.before args s = true := fun w h => hts w (uT _ w (u_wsX110 w h))
  have lm1 : (-1 : Int32).toInt = -1 := by decide
  have lm0 : (0 : Int32).toInt = 0 := by decide
  have lm2 : (1 : Int32).toInt = 1 := by decide
  have lq2 : (2 : Int32).toInt = 2 := by decide
  have lq3 : (3 : Int32).toInt = 3 := by decide
  have lq4 : (4 : Int32).toInt = 4 := by decide
  have lq5 : (5 : Int32).toInt = 5 := by decide
  have lq6 : (6 : Int32).toInt = 6 := by decide
  have lq7 : (7 : Int32).toInt = 7 := by decide
  have lq32 : (32 : Int32).toInt = 32 := by decide
  have lq10 : (10 : Int32).toInt = 10 := by decide
  have lq13200 : (13200 : Int32).toInt = 13200 := by decide
  have lq24 : (24 : Int32).toInt = 24 := by decide
  have lq63 : (63 : Int32).toInt = 63 := by decide
  have lq3300 : (3300 : Int32).toInt = 3300 := by decide
  refine lv_iconst (v := 0) hx hb dX11_empties_0 (by decide) ?_
  refine lv_istore_n (lv' := [(2, .int (0 : Int32)), (0, .ref (a_m 0)), (1, .int slot)]) hx hb dX11_empties_1 rfl hl (by decide) rfl (fun ls hl => ?_)
  have L2 : ∀ (nn : Nat) (v2_2 : Int32) (I_m_2 : Nat → Nat → Int32), (hk_2 : KK [1] [] I_m I_m_2) → (hv_2 : 0 ≤ v2_2.toInt ∧ v2_2.toInt ≤ 3300) → (he_2 : ∀ j : Nat, I_m_2 1 j = if slot.toInt ≤ (j : Int) ∧ (j : Int) < slot.toInt + v2_2.toInt then 0 else I_m 1 j) → ((3301 - v2_2.toInt) < (nn : Int)) → ∀ (H : Heap) (locs : List Loc), va_P g.1 vwCl (wX11 g a_m I_m_2 J_m) H → va_D A (wX11 g a_m I_m_2 J_m) → va_S A s.heap H locs → ∀ ls : Array Slot, lv_has ls 3 [(2, .int v2_2), (0, .ref (a_m 0)), (1, .int slot)] → W p l e (rm 0) s m args below meth c H locs 0 0 Q (F0 m 2 ls []) := by
    intro n_2
    induction n_2 with
    | zero =>
      intro v2_2 I_m_2 hk_2 hv_2 he_2 hms_2 H locs hP hD hS ls hl
      exfalso; omega
    | succ n_2 ih_2 =>
      intro v2_2 I_m_2 hk_2 hv_2 he_2 hms_2 H locs hP hD hS ls hl
      refine lv_iload_n hx hb dX11_empties_2 rfl (lv_at hl 0 rfl) ?_
      refine lv_sipush (v := 3300) hx hb dX11_empties_3 (by decide) ?_
      refine q_icmp_ge (tgt := 24) hx hb dX11_empties_6 (by decide) rfl (by decide : (3300 : Int32).toInt = 3300) (fun k_6 => ?_) (fun k_6 => ?_)
      · refine lv_aload_n hx hb dX11_empties_24 rfl (lv_at hl 1 rfl) ?_
        refine va_get (D := g.1) (ci := 11) (v := .ref (a_m 1)) (C := RX11) (T := TX11) (N := 46) hx hb hi_X11 (fun _ h => h) hown hK.1 hP 0 rfl rfl 0 (by decide) hf_7 (fun _ h9 => h9) rfl dX11_empties_25 ?_
        refine lv_iload_n hx hb dX11_empties_28 rfl (lv_at hl 2 rfl) ?_
        refine lv_iconst (v := 4) hx hb dX11_empties_29 (by decide) ?_
        refine r_iadd hx hb dX11_empties_30 rfl (by decide : (4 : Int32).toInt = 4) (fun x1 e_x1 t_x1 => ?_)
        try have t_x1 := t_x1 (by omega)
        refine lv_bipush (v := 32) hx hb dX11_empties_31 (by decide) ?_
        have n_33 : vp_in x1 19800 := (t_in (by omega))
        obtain ⟨f2, e_f2⟩ : ∃ z, z = upd (I_m_2 1) x1.toNatClampNeg (32 : Int32) := ⟨_, rfl⟩
        refine va_iast hx hb hK.1 hP hD hS 1 0 rfl rfl n_33 dX11_empties_33 (fun H locs hP hD hS => ?_)
        have hP : va_P g.1 vwCl (wX11 g a_m (uR I_m_2 1 f2) J_m) H := by rw [e_f2]; exact hP
        have hD : va_D A (wX11 g a_m (uR I_m_2 1 f2) J_m) := by rw [e_f2]; exact hD
        have hk_33 : KK [1] [] I_m (uR I_m_2 1 f2) := KK.ur hk_2 (by decide) (by decide)
        refine lv_aload_n hx hb dX11_empties_34 rfl (lv_at hl 1 rfl) ?_
        refine va_get (D := g.1) (ci := 11) (v := .ref (a_m 1)) (C := RX11) (T := TX11) (N := 46) hx hb hi_X11 (fun _ h => h) hown hK.1 hP 0 rfl rfl 0 (by decide) hf_7 (fun _ h9 => h9) rfl dX11_empties_35 ?_
        refine lv_iload_n hx hb dX11_empties_38 rfl (lv_at hl 2 rfl) ?_
        refine lv_iconst (v := 5) hx hb dX11_empties_39 (by decide) ?_
        refine r_iadd hx hb dX11_empties_40 rfl (by decide : (5 : Int32).toInt = 5) (fun x3 e_x3 t_x3 => ?_)
        try have t_x3 := t_x3 (by omega)
        refine lv_bipush (v := 25) hx hb dX11_empties_41 (by decide) ?_
        have n_43 : vp_in x3 19800 := (t_in (by omega))
        obtain ⟨f4, e_f4⟩ : ∃ z, z = upd f2 x3.toNatClampNeg (25 : Int32) := ⟨_, rfl⟩
        refine va_iast hx hb hK.1 hP hD hS 1 0 rfl rfl n_43 dX11_empties_43 (fun H locs hP hD hS => ?_)
        have hP : va_P g.1 vwCl (wX11 g a_m (uR (uR I_m_2 1 f2) 1 f4) J_m) H := by rw [e_f4]; exact hP
        have hD : va_D A (wX11 g a_m (uR (uR I_m_2 1 f2) 1 f4) J_m) := by rw [e_f4]; exact hD
        have hk_43 : KK [1] [] I_m (uR (uR I_m_2 1 f2) 1 f4) := KK.ur hk_33 (by decide) (by decide)
        refine lv_aload_n hx hb dX11_empties_44 rfl (lv_at hl 1 rfl) ?_
        refine va_get (D := g.1) (ci := 11) (v := .ref (a_m 1)) (C := RX11) (T := TX11) (N := 46) hx hb hi_X11 (fun _ h => h) hown hK.1 hP 0 rfl rfl 0 (by decide) hf_7 (fun _ h9 => h9) rfl dX11_empties_45 ?_
        refine lv_iload_n hx hb dX11_empties_48 rfl (lv_at hl 2 rfl) ?_
        refine lv_bipush (v := 7) hx hb dX11_empties_49 (by decide) ?_
        refine r_iadd hx hb dX11_empties_51 rfl (by decide : (7 : Int32).toInt = 7) (fun x5 e_x5 t_x5 => ?_)
        try have t_x5 := t_x5 (by omega)
        refine lv_iconst (v := -1) hx hb dX11_empties_52 (by decide) ?_
        have n_53 : vp_in x5 19800 := (t_in (by omega))
        obtain ⟨f6, e_f6⟩ : ∃ z, z = upd f4 x5.toNatClampNeg (-1 : Int32) := ⟨_, rfl⟩
        refine va_iast hx hb hK.1 hP hD hS 1 0 rfl rfl n_53 dX11_empties_53 (fun H locs hP hD hS => ?_)
        have hP : va_P g.1 vwCl (wX11 g a_m (uR (uR (uR I_m_2 1 f2) 1 f4) 1 f6) J_m) H := by rw [e_f6]; exact hP
        have hD : va_D A (wX11 g a_m (uR (uR (uR I_m_2 1 f2) 1 f4) 1 f6) J_m) := by rw [e_f6]; exact hD
        have hk_53 : KK [1] [] I_m (uR (uR (uR I_m_2 1 f2) 1 f4) 1 f6) := KK.ur hk_43 (by decide) (by decide)
        refine hret 54 ls _ _ (uR (uR (uR I_m_2 1 f2) 1 f4) 1 f6) dX11_empties_54 hS hP hD ?_
        exact ⟨hk_53, em_ok (F0 := I_m_2 1) (G := I_m 1) (fun j => by rw [he_2 j]; congr 1; simp only [eq_iff_iff]; constructor <;> intro q <;> omega) e_f2 e_f4 e_f6 (by omega) (by omega) (by omega)⟩
      · refine lv_aload_n hx hb dX11_empties_9 rfl (lv_at hl 1 rfl) ?_
        refine va_get (D := g.1) (ci := 11) (v := .ref (a_m 1)) (C := RX11) (T := TX11) (N := 46) hx hb hi_X11 (fun _ h => h) hown hK.1 hP 0 rfl rfl 0 (by decide) hf_7 (fun _ h9 => h9) rfl dX11_empties_10 ?_
        refine lv_iload_n hx hb dX11_empties_13 rfl (lv_at hl 2 rfl) ?_
        refine lv_iload_n hx hb dX11_empties_14 rfl (lv_at hl 0 rfl) ?_
        refine r_iadd hx hb dX11_empties_15 rfl rfl (fun x7 e_x7 t_x7 => ?_)
        try have t_x7 := t_x7 (by omega)
        refine lv_iconst (v := 0) hx hb dX11_empties_16 (by decide) ?_
        have n_17 : vp_in x7 19800 := (t_in (by omega))
        obtain ⟨f8, e_f8⟩ : ∃ z, z = upd (I_m_2 1) x7.toNatClampNeg (0 : Int32) := ⟨_, rfl⟩
        refine va_iast hx hb hK.1 hP hD hS 1 0 rfl rfl n_17 dX11_empties_17 (fun H locs hP hD hS => ?_)
        have hP : va_P g.1 vwCl (wX11 g a_m (uR I_m_2 1 f8) J_m) H := by rw [e_f8]; exact hP
        have hD : va_D A (wX11 g a_m (uR I_m_2 1 f8) J_m) := by rw [e_f8]; exact hD
        have hk_17 : KK [1] [] I_m (uR I_m_2 1 f8) := KK.ur hk_2 (by decide) (by decide)
        refine r_iinc (lv' := fun i9 => [(2, .int i9), (0, .ref (a_m 0)), (1, .int slot)]) hx hb dX11_empties_18 hl (k := 0) rfl (by decide) rfl (by decide) (fun _ => rfl) (fun i9 e_i9 t_i9 ls hl => ?_)
        try have t_i9 := t_i9 (by omega)
        refine lv_goto (tgt := 2) hx hb dX11_empties_21 (by decide) ?_
        exact ih_2 i9 (uR I_m_2 1 f8) hk_17 (by omega) (fun j => em_st he_2 e_f8 (by show (((x7).toInt.toNat : Nat) : Int) = _; omega) (by omega) (by omega) j) (by omega) _ _ hP hD hS ls hl
  exact L2 ((3301 - (0 : Int32).toInt) + 1).toNat (0 : Int32) I_m (KK.rf I_m) (by omega) (fun j => by rw [if_neg (by rw [lm0]; omega)]) (by omega) _ _ hP hD hS ls hl

set_option maxHeartbeats 4000000 in
set_option maxRecDepth 100000 in
theorem kX11_begins (l : Launch) (g : gG) (a_m : Nat → Nat) (I_m : Nat → Nat → Int32) (J_m : Nat → Nat → Int64) (n : Int32) (most : Int32) (hM : MI I_m) : EffI l g yX11_begins wsX11_begins 2 [.ref (a_m 0), .int n, .int most] (wX11 g a_m I_m J_m) (fun (u : (Nat → Nat → Int32)) => wX11 g a_m u J_m) (fun r (u : (Nat → Nat → Int32)) => MI (u) ∧ KK [6] [9, 10, 11, 12, 13, 14, 16, 17, 18] I_m (u) ∧ bP ((0 ≤ n.toInt ∧ n.toInt ≤ (I_m 0 9).toInt ∧ n.toInt ≤ most.toInt) ∧ ((u) 0 9).toInt = 0 ∧ PS (u)) (¬ (0 ≤ n.toInt ∧ n.toInt ≤ (I_m 0 9).toInt ∧ n.toInt ≤ most.toInt) ∧ (u) = I_m) r) := by
  refine EffI.sz (cc := cX11_begins) (maxL := 4) (by decide) rfl (Nat.le_of_ble_eq_true rfl) (fun p e s m args below meth c A Q ls fx hK hP hD hA hS hl hret => ?_)
  have hx := fx.1
  have hb := fx.2.1
  have hml := fx.2.2.1
  have hown := fx.2.2.2.1
  have hts := fx.2.2.2.2
  have hl : lv_has ls 4 [(0, .ref (a_m 0)), (1, .int n), (2, .int most)] := hl
  have hP : va_P g.1 vwCl (wX11 g a_m I_m J_m) s.heap := hP
  have hf_27 := hts _ (uT _ _ u_176)
  have hf_31 := hts _ (uT _ _ u_177)
  have hf_38 := hts _ (uT _ _ u_179)
  have hf_122 := hts _ (uT _ _ u_345)
  have hf_128 := hts _ (uT _ _ u_512)
  have hf_131 := hts _ (uT _ _ u_513)
  have hf_169 := hts _ (uT _ _ u_507)
  have hf_172 := hts _ (uT _ _ u_514)
  have hi_X11 : ∀ w ∈ wsX110, w.before args s = true := fun w h => hts w (uT _ w (u_wsX110 w h))
  have lm1 : (-1 : Int32).toInt = -1 := by decide
  have lm0 : (0 : Int32).toInt = 0 := by decide
  have lm2 : (1 : Int32).toInt = 1 := by decide
  have lq2 : (2 : Int32).toInt = 2 := by decide
  have lq3 : (3 : Int32).toInt = 3 := by decide
  have lq4 : (4 : Int32).toInt = 4 := by decide
  have lq5 : (5 : Int32).toInt = 5 := by decide
  have lq6 : (6 : Int32).toInt = 6 := by decide
  have lq7 : (7 : Int32).toInt = 7 := by decide
  have hp0 := hM.tp
  refine lv_iload_n hx hb dX11_begins_0 rfl (lv_at hl 1 rfl) ?_
  refine q_if_lt (tgt := 17) hx hb dX11_begins_1 (by decide) rfl (fun k_1 => ?_) (fun k_1 => ?_)
  · refine lv_iconst (v := 0) hx hb dX11_begins_17 (by decide) ?_
    refine hret 18 ls (0 : Int32) _ _ I_m dX11_begins_18 (Or.inl rfl) hS hP hD ?_
    exact ⟨hM, (KK.rf I_m), Or.inr ⟨rfl, by omega, rfl⟩⟩
  · refine lv_iload_n hx hb dX11_begins_4 rfl (lv_at hl 1 rfl) ?_
    refine lv_aload_n hx hb dX11_begins_5 rfl (lv_at hl 0 rfl) ?_
    refine va_get (D := g.1) (ci := 11) (v := .int (I_m 0 9)) (C := RX11) (T := TX11) (N := 46) hx hb hi_X11 (fun _ h => h) hown hK.1 hP 0 rfl rfl 9 (by decide) hf_122 (fun _ h9 => h9) rfl dX11_begins_6 ?_
    refine q_icmp_gt (tgt := 17) hx hb dX11_begins_9 (by decide) rfl rfl (fun k_9 => ?_) (fun k_9 => ?_)
    · refine lv_iconst (v := 0) hx hb dX11_begins_17 (by decide) ?_
      refine hret 18 ls (0 : Int32) _ _ I_m dX11_begins_18 (Or.inl rfl) hS hP hD ?_
      exact ⟨hM, (KK.rf I_m), Or.inr ⟨rfl, by omega, rfl⟩⟩
    · refine lv_iload_n hx hb dX11_begins_12 rfl (lv_at hl 1 rfl) ?_
      refine lv_iload_n hx hb dX11_begins_13 rfl (lv_at hl 2 rfl) ?_
      refine q_icmp_le (tgt := 19) hx hb dX11_begins_14 (by decide) rfl rfl (fun k_14 => ?_) (fun k_14 => ?_)
      · refine lv_aload_n hx hb dX11_begins_19 rfl (lv_at hl 0 rfl) ?_
        refine lv_iload_n hx hb dX11_begins_20 rfl (lv_at hl 1 rfl) ?_
        refine va_put (D := g.1) (ci := 11) (v := .int n) (ty := .int) (C := RX11) (T := TX11) (N := 46) hx hb hi_X11 (fun _ h => h) tyX11 tyX11_ok nmX11 hown hK.1 hP hD hS 0 rfl rfl 10 (by decide) hf_128 (fun _ h9 => h9) rfl (by decide +kernel) rfl rfl (Nat.le_of_ble_eq_true rfl) dX11_begins_21 (fun H locs hP hD hS => ?_)
        have hP : va_P g.1 vwCl (wX11 g a_m (uF I_m 0 10 n) J_m) H := hP
        have hD : va_D A (wX11 g a_m (uF I_m 0 10 n) J_m) := hD
        have hc_21 : MI (uF I_m 0 10 n) := MI.uf hM (by decide)
        have hk_21 : KK [6] [9, 10, 11, 12, 13, 14, 16, 17, 18] I_m (uF I_m 0 10 n) := KK.uf (KK.rf I_m) (by decide)
        refine lv_iconst (v := 0) hx hb dX11_begins_24 (by decide) ?_
        refine lv_istore_n (lv' := [(3, .int (0 : Int32)), (0, .ref (a_m 0)), (1, .int n), (2, .int most)]) hx hb dX11_begins_25 rfl hl (by decide) rfl (fun ls hl => ?_)
        have L26 : ∀ (nn : Nat) (v3_26 : Int32) (I_m_26 : Nat → Nat → Int32), (hM_26 : MI I_m_26) → (hk_26 : KK [6] [9, 10, 11, 12, 13, 14, 16, 17, 18] I_m I_m_26) → (hv_26 : 0 ≤ v3_26.toInt ∧ v3_26.toInt ≤ n.toInt) → (hs_26 : I_m_26 0 10 = n) → ((n.toInt + 1 - v3_26.toInt) < (nn : Int)) → ∀ (H : Heap) (locs : List Loc), va_P g.1 vwCl (wX11 g a_m I_m_26 J_m) H → va_D A (wX11 g a_m I_m_26 J_m) → va_S A s.heap H locs → ∀ ls : Array Slot, lv_has ls 4 [(3, .int v3_26), (0, .ref (a_m 0)), (1, .int n), (2, .int most)] → W p l e (rm 2) s m args below meth c H locs 0 0 Q (F0 m 26 ls []) := by
          intro n_26
          induction n_26 with
          | zero =>
            intro v3_26 I_m_26 hM_26 hk_26 hv_26 hs_26 hms_26 H locs hP hD hS ls hl
            exfalso; omega
          | succ n_26 ih_26 =>
            intro v3_26 I_m_26 hM_26 hk_26 hv_26 hs_26 hms_26 H locs hP hD hS ls hl
            refine lv_iload_n hx hb dX11_begins_26 rfl (lv_at hl 0 rfl) ?_
            refine lv_iload_n hx hb dX11_begins_27 rfl (lv_at hl 2 rfl) ?_
            refine q_icmp_ge (tgt := 49) hx hb dX11_begins_28 (by decide) rfl rfl (fun k_28 => ?_) (fun k_28 => ?_)
            · refine lv_aload_n hx hb dX11_begins_49 rfl (lv_at hl 1 rfl) ?_
              refine lv_iconst (v := 0) hx hb dX11_begins_50 (by decide) ?_
              refine va_put (D := g.1) (ci := 11) (v := .int (0 : Int32)) (ty := .int) (C := RX11) (T := TX11) (N := 46) hx hb hi_X11 (fun _ h => h) tyX11 tyX11_ok nmX11 hown hK.1 hP hD hS 0 rfl rfl 9 (by decide) hf_122 (fun _ h9 => h9) rfl (by decide +kernel) rfl rfl (Nat.le_of_ble_eq_true rfl) dX11_begins_51 (fun H locs hP hD hS => ?_)
              have hP : va_P g.1 vwCl (wX11 g a_m (uF I_m_26 0 9 (0 : Int32)) J_m) H := hP
              have hD : va_D A (wX11 g a_m (uF I_m_26 0 9 (0 : Int32)) J_m) := hD
              have hk_51 : KK [6] [9, 10, 11, 12, 13, 14, 16, 17, 18] I_m (uF I_m_26 0 9 (0 : Int32)) := KK.uf hk_26 (by decide)
              have hc_51 : MI (uF I_m_26 0 9 (0 : Int32)) := MI.tpd hM_26 (by omega)
              refine lv_aload_n hx hb dX11_begins_54 rfl (lv_at hl 1 rfl) ?_
              refine lv_iconst (v := 0) hx hb dX11_begins_55 (by decide) ?_
              refine va_put (D := g.1) (ci := 11) (v := .int (0 : Int32)) (ty := .int) (C := RX11) (T := TX11) (N := 46) hx hb hi_X11 (fun _ h => h) tyX11 tyX11_ok nmX11 hown hK.1 hP hD hS 0 rfl rfl 17 (by decide) hf_169 (fun _ h9 => h9) rfl (by decide +kernel) rfl rfl (Nat.le_of_ble_eq_true rfl) dX11_begins_56 (fun H locs hP hD hS => ?_)
              have hP : va_P g.1 vwCl (wX11 g a_m (uF (uF I_m_26 0 9 (0 : Int32)) 0 17 (0 : Int32)) J_m) H := hP
              have hD : va_D A (wX11 g a_m (uF (uF I_m_26 0 9 (0 : Int32)) 0 17 (0 : Int32)) J_m) := hD
              have hc_56 : MI (uF (uF I_m_26 0 9 (0 : Int32)) 0 17 (0 : Int32)) := MI.uf hc_51 (by decide)
              have hk_56 : KK [6] [9, 10, 11, 12, 13, 14, 16, 17, 18] I_m (uF (uF I_m_26 0 9 (0 : Int32)) 0 17 (0 : Int32)) := KK.uf hk_51 (by decide)
              refine lv_aload_n hx hb dX11_begins_59 rfl (lv_at hl 1 rfl) ?_
              refine lv_iconst (v := -1) hx hb dX11_begins_60 (by decide) ?_
              refine va_put (D := g.1) (ci := 11) (v := .int (-1 : Int32)) (ty := .int) (C := RX11) (T := TX11) (N := 46) hx hb hi_X11 (fun _ h => h) tyX11 tyX11_ok nmX11 hown hK.1 hP hD hS 0 rfl rfl 16 (by decide) hf_38 (fun _ h9 => h9) rfl (by decide +kernel) rfl rfl (Nat.le_of_ble_eq_true rfl) dX11_begins_61 (fun H locs hP hD hS => ?_)
              have hP : va_P g.1 vwCl (wX11 g a_m (uF (uF (uF I_m_26 0 9 (0 : Int32)) 0 17 (0 : Int32)) 0 16 (-1 : Int32)) J_m) H := hP
              have hD : va_D A (wX11 g a_m (uF (uF (uF I_m_26 0 9 (0 : Int32)) 0 17 (0 : Int32)) 0 16 (-1 : Int32)) J_m) := hD
              have hc_61 : MI (uF (uF (uF I_m_26 0 9 (0 : Int32)) 0 17 (0 : Int32)) 0 16 (-1 : Int32)) := MI.uf hc_56 (by decide)
              have hk_61 : KK [6] [9, 10, 11, 12, 13, 14, 16, 17, 18] I_m (uF (uF (uF I_m_26 0 9 (0 : Int32)) 0 17 (0 : Int32)) 0 16 (-1 : Int32)) := KK.uf hk_56 (by decide)
              refine lv_aload_n hx hb dX11_begins_64 rfl (lv_at hl 1 rfl) ?_
              refine lv_iconst (v := 0) hx hb dX11_begins_65 (by decide) ?_
              refine va_put (D := g.1) (ci := 11) (v := .int (0 : Int32)) (ty := .int) (C := RX11) (T := TX11) (N := 46) hx hb hi_X11 (fun _ h => h) tyX11 tyX11_ok nmX11 hown hK.1 hP hD hS 0 rfl rfl 13 (by decide) hf_131 (fun _ h9 => h9) rfl (by decide +kernel) rfl rfl (Nat.le_of_ble_eq_true rfl) dX11_begins_66 (fun H locs hP hD hS => ?_)
              have hP : va_P g.1 vwCl (wX11 g a_m (uF (uF (uF (uF I_m_26 0 9 (0 : Int32)) 0 17 (0 : Int32)) 0 16 (-1 : Int32)) 0 13 (0 : Int32)) J_m) H := hP
              have hD : va_D A (wX11 g a_m (uF (uF (uF (uF I_m_26 0 9 (0 : Int32)) 0 17 (0 : Int32)) 0 16 (-1 : Int32)) 0 13 (0 : Int32)) J_m) := hD
              have hc_66 : MI (uF (uF (uF (uF I_m_26 0 9 (0 : Int32)) 0 17 (0 : Int32)) 0 16 (-1 : Int32)) 0 13 (0 : Int32)) := MI.uf hc_61 (by decide)
              have hk_66 : KK [6] [9, 10, 11, 12, 13, 14, 16, 17, 18] I_m (uF (uF (uF (uF I_m_26 0 9 (0 : Int32)) 0 17 (0 : Int32)) 0 16 (-1 : Int32)) 0 13 (0 : Int32)) := KK.uf hk_61 (by decide)
              refine lv_aload_n hx hb dX11_begins_69 rfl (lv_at hl 1 rfl) ?_
              refine lv_iconst (v := 0) hx hb dX11_begins_70 (by decide) ?_
              refine va_put (D := g.1) (ci := 11) (v := .int (0 : Int32)) (ty := .int) (C := RX11) (T := TX11) (N := 46) hx hb hi_X11 (fun _ h => h) tyX11 tyX11_ok nmX11 hown hK.1 hP hD hS 0 rfl rfl 18 (by decide) hf_172 (fun _ h9 => h9) rfl (by decide +kernel) rfl rfl (Nat.le_of_ble_eq_true rfl) dX11_begins_71 (fun H locs hP hD hS => ?_)
              have hP : va_P g.1 vwCl (wX11 g a_m (uF (uF (uF (uF (uF I_m_26 0 9 (0 : Int32)) 0 17 (0 : Int32)) 0 16 (-1 : Int32)) 0 13 (0 : Int32)) 0 18 (0 : Int32)) J_m) H := hP
              have hD : va_D A (wX11 g a_m (uF (uF (uF (uF (uF I_m_26 0 9 (0 : Int32)) 0 17 (0 : Int32)) 0 16 (-1 : Int32)) 0 13 (0 : Int32)) 0 18 (0 : Int32)) J_m) := hD
              have hc_71 : MI (uF (uF (uF (uF (uF I_m_26 0 9 (0 : Int32)) 0 17 (0 : Int32)) 0 16 (-1 : Int32)) 0 13 (0 : Int32)) 0 18 (0 : Int32)) := MI.uf hc_66 (by decide)
              have hk_71 : KK [6] [9, 10, 11, 12, 13, 14, 16, 17, 18] I_m (uF (uF (uF (uF (uF I_m_26 0 9 (0 : Int32)) 0 17 (0 : Int32)) 0 16 (-1 : Int32)) 0 13 (0 : Int32)) 0 18 (0 : Int32)) := KK.uf hk_66 (by decide)
              refine lv_aload_n hx hb dX11_begins_74 rfl (lv_at hl 1 rfl) ?_
              refine EffV.cv (wr := ([])) (w' := fun u2 => wX11 g a_m u2 J_m) (As := []) (kX11_ahead l g a_m (uF (uF (uF (uF (uF I_m_26 0 9 (0 : Int32)) 0 17 (0 : Int32)) 0 16 (-1 : Int32)) 0 13 (0 : Int32)) 0 18 (0 : Int32)) J_m (show (0 ≤ ((I_m_26 0 10)).toInt ∧ ((I_m_26 0 10)).toInt ≤ 900) ∧ 0 ≤ ((0 : Int32)).toInt ∧ ((0 : Int32)).toInt ≤ ((I_m_26 0 10)).toInt from (by rw [hs_26]; omega))) fx (gUV (uT _) u_515 u_516 u_517 u_5 u_518) rfl hdX11_ahead ⟨Nat.le_of_ble_eq_true rfl, Nat.le_of_ble_eq_true rfl⟩ hK hP hD hS hA [0, 1, 2, 3, 4, 5, 6, 7, 8, 9, 10, 11, 12, 13, 14, 15, 16, 17, 18, 19, 20, 21, 22] [] [0, 1, 2, 3, 4, 5, 6, 7, 8, 9, 10, 11, 12, 13, 14, 15, 16, 17, 18, 19, 20, 21, 22] rfl rfl rfl rfl (by decide) rfl (fun _ => rfl) rfl rfl rfl rfl hl.1 (Nat.le_of_ble_eq_true rfl) dX11_begins_75 (fun u2 H locs p_r1 hP hD hS => ?_)
              have hP : va_P g.1 vwCl (wX11 g a_m u2 J_m) H := hP
              have hD : va_D A (wX11 g a_m u2 J_m) := hD
              have p_r1 : KK [] [11, 12, 13, 14] (uF (uF (uF (uF (uF I_m_26 0 9 (0 : Int32)) 0 17 (0 : Int32)) 0 16 (-1 : Int32)) 0 13 (0 : Int32)) 0 18 (0 : Int32)) u2 ∧ AH (uF (uF (uF (uF (uF I_m_26 0 9 (0 : Int32)) 0 17 (0 : Int32)) 0 16 (-1 : Int32)) 0 13 (0 : Int32)) 0 18 (0 : Int32)) u2 := p_r1
              refine lv_iconst (v := 1) hx hb dX11_begins_78 (by decide) ?_
              have lr : (1 : Int32).toInt = 1 := by decide
              refine hret 79 ls (1 : Int32) _ _ u2 dX11_begins_79 (Or.inr rfl) hS hP hD ?_
              exact ⟨(MI.kk hc_71 p_r1.1 (by decide) (by decide)), (KK.tr hk_71 p_r1.1 (by decide) (by decide)), Or.inl ⟨rfl, by omega, (by rw [p_r1.1.num 9 (by decide)]; exact lm0), p_r1.2.1⟩⟩
            · refine lv_aload_n hx hb dX11_begins_31 rfl (lv_at hl 1 rfl) ?_
              refine va_get (D := g.1) (ci := 11) (v := .ref (a_m 6)) (C := RX11) (T := TX11) (N := 46) hx hb hi_X11 (fun _ h => h) hown hK.1 hP 0 rfl rfl 8 (by decide) hf_31 (fun _ h9 => h9) rfl dX11_begins_32 ?_
              refine lv_iload_n hx hb dX11_begins_35 rfl (lv_at hl 0 rfl) ?_
              refine lv_aload_n hx hb dX11_begins_36 rfl (lv_at hl 1 rfl) ?_
              refine va_get (D := g.1) (ci := 11) (v := .ref (a_m 5)) (C := RX11) (T := TX11) (N := 46) hx hb hi_X11 (fun _ h => h) hown hK.1 hP 0 rfl rfl 7 (by decide) hf_27 (fun _ h9 => h9) rfl dX11_begins_37 ?_
              refine lv_iload_n hx hb dX11_begins_40 rfl (lv_at hl 0 rfl) ?_
              have n_41 : vp_in v3_26 900 := (t_in (by omega))
              refine va_bald hx hb hK.1 hP 5 2 rfl rfl n_41 dX11_begins_41 ?_
              refine q_nm (fun x3 e_x3 => ?_)
              have e_x3 : x3 = (I_m_26 5) v3_26.toNatClampNeg := e_x3
              have g_x3 : x3.toInt = ((I_m_26 5) v3_26.toNatClampNeg).toInt := congrArg _ e_x3
              have n_42 : vp_in v3_26 900 := (t_in (by omega))
              obtain ⟨f4, e_f4⟩ : ∃ z, z = upd (I_m_26 6) v3_26.toNatClampNeg x3.toInt8.toInt32 := ⟨_, rfl⟩
              refine va_bast hx hb hK.1 hP hD hS 6 2 rfl rfl n_42 dX11_begins_42 (fun H locs hP hD hS => ?_)
              have hP : va_P g.1 vwCl (wX11 g a_m (uR I_m_26 6 f4) J_m) H := by rw [e_f4]; exact hP
              have hD : va_D A (wX11 g a_m (uR I_m_26 6 f4) J_m) := by rw [e_f4]; exact hD
              have hc_42 : MI (uR I_m_26 6 f4) := MI.ur hM_26 (by decide)
              have hk_42 : KK [6] [9, 10, 11, 12, 13, 14, 16, 17, 18] I_m (uR I_m_26 6 f4) := KK.ur hk_26 (by decide) (by decide)
              refine r_iinc (lv' := fun i5 => [(3, .int i5), (0, .ref (a_m 0)), (1, .int n), (2, .int most)]) hx hb dX11_begins_43 hl (k := 0) rfl (by decide) rfl (by decide) (fun _ => rfl) (fun i5 e_i5 t_i5 ls hl => ?_)
              try have t_i5 := t_i5 (by omega)
              refine lv_goto (tgt := 26) hx hb dX11_begins_46 (by decide) ?_
              exact ih_26 i5 (uR I_m_26 6 f4) hc_42 hk_42 (by omega) hs_26 (by omega) _ _ hP hD hS ls hl
        exact L26 ((n.toInt + 1 - (0 : Int32).toInt) + 1).toNat (0 : Int32) (uF I_m 0 10 n) hc_21 hk_21 (by omega) rfl (by omega) _ _ hP hD hS ls hl
      · refine lv_iconst (v := 0) hx hb dX11_begins_17 (by decide) ?_
        refine hret 18 ls (0 : Int32) _ _ I_m dX11_begins_18 (Or.inl rfl) hS hP hD ?_
        exact ⟨hM, (KK.rf I_m), Or.inr ⟨rfl, by omega, rfl⟩⟩

set_option maxHeartbeats 4000000 in
set_option maxRecDepth 100000 in
theorem kX11_press (l : Launch) (g : gG) (ad av : Nat → Nat) (a_m : Nat → Nat) (I_m : Nat → Nat → Int32) (J_m : Nat → Nat → Int64) (n : Int32) (hM : MI I_m) : EffIS l g ad av yX11_press wsX11_press 8 [.ref (a_m 0), .int n] (wX11 g a_m I_m J_m) (fun (u : (Nat → Nat → Int32)) => wX11 g a_m u J_m) (fun r (u : (Nat → Nat → Int32)) => MI (u) ∧ KK [1, 6] [1, 9, 10, 11, 12, 13, 14, 15, 16, 17, 18, 19] I_m (u) ∧ ((¬ (0 ≤ n.toInt ∧ n.toInt ≤ (I_m 0 9).toInt) ∧ (u) 0 9 = I_m 0 9) ∨ ((0 ≤ n.toInt ∧ n.toInt ≤ (I_m 0 9).toInt) ∧ ((u) 0 9).toInt = 0))) := by
  refine EffIS.st (cc := cX11_press) (maxL := 4) (by decide) rfl (Nat.le_of_ble_eq_true rfl) (fun p e s m args below meth c A Q ls fx hK hP hD hA hS hJ hl hret => ?_)
  have hx := fx.1
  have hb := fx.2.1
  have hml := fx.2.2.1
  have hown := fx.2.2.2.1
  have hts := fx.2.2.2.2
  have hl : lv_has ls 4 [(0, .ref (a_m 0)), (1, .int n)] := hl
  have hP : va_P g.1 vwCl (wX11 g a_m I_m J_m) s.heap := hP
  have hf_7 := hts _ (uT _ _ u_170)
  have hf_144 := hts _ (uT _ _ u_506)
  have hf_169 := hts _ (uT _ _ u_507)
  have hf_214 := hts _ (uT _ _ u_505)
  have hi_X11 : ∀ w ∈ wsX110, w.before args s = true := fun w h => hts w (uT _ w (u_wsX110 w h))
  have lm1 : (-1 : Int32).toInt = -1 := by decide
  have lm0 : (0 : Int32).toInt = 0 := by decide
  have lm2 : (1 : Int32).toInt = 1 := by decide
  have lq2 : (2 : Int32).toInt = 2 := by decide
  have lq3 : (3 : Int32).toInt = 3 := by decide
  have lq4 : (4 : Int32).toInt = 4 := by decide
  have lq5 : (5 : Int32).toInt = 5 := by decide
  have lq6 : (6 : Int32).toInt = 6 := by decide
  have lq7 : (7 : Int32).toInt = 7 := by decide
  have hp0 := hM.tp
  have lq900 : (900 : Int32).toInt = 900 := by decide
  have lq13200 : (13200 : Int32).toInt = 13200 := by decide
  have lqn : (13200 : Int32).toInt.toNat = 13200 := by decide
  have lq3300 : (3300 : Int32).toInt = 3300 := by decide
  refine lv_aload_n hx hb dX11_press_0 rfl (lv_at hl 0 rfl) ?_
  refine lv_iload_n hx hb dX11_press_1 rfl (lv_at hl 1 rfl) ?_
  refine lv_sipush (v := 900) hx hb dX11_press_2 (by decide) ?_
  refine EffI.cv (wr := ([])) (w' := fun u2 => wX11 g a_m u2 J_m) (As := [.int n, .int (900 : Int32)]) (kX11_begins l g a_m I_m J_m n (900 : Int32) hM) fx (gUV (uT _) u_508 u_509 u_510 u_5 u_511) rfl hdX11_begins ⟨Nat.le_of_ble_eq_true rfl, Nat.le_of_ble_eq_true rfl⟩ hK hP hD hS hA [0, 1, 2, 3, 4, 5, 6, 7, 8, 9, 10, 11, 12, 13, 14, 15, 16, 17, 18, 19, 20, 21, 22] [] [0, 1, 2, 3, 4, 5, 6, 7, 8, 9, 10, 11, 12, 13, 14, 15, 16, 17, 18, 19, 20, 21, 22] rfl rfl rfl rfl (by decide) rfl (fun _ => rfl) rfl rfl rfl rfl hl.1 (Nat.le_of_ble_eq_true rfl) dX11_press_5 (fun r1 u2 H locs p_r1 hP hD hS => ?_)
  have hP : va_P g.1 vwCl (wX11 g a_m u2 J_m) H := hP
  have hD : va_D A (wX11 g a_m u2 J_m) := hD
  have hb5 := p_r1.1
  refine q_if_ne (tgt := 17) hx hb dX11_press_8 (by decide) rfl (fun b_8 k_8 => ?_) (fun b_8 k_8 => ?_)
  · have q_8 := bP.t p_r1.2.2 b_8
    refine lv_aload_n hx hb dX11_press_17 rfl (lv_at hl 0 rfl) ?_
    refine lv_sipush (v := 13200) hx hb dX11_press_18 (by decide) ?_
    refine EffV.cv (wr := ([])) (w' := fun u4 => wX11 g a_m u4 J_m) (As := [.int (13200 : Int32)]) (kX11_empties l g a_m u2 J_m (13200 : Int32) (by omega)) fx (gUV (uT _) u_198 u_199 u_200 u_5 u_201) rfl hdX11_empties ⟨Nat.le_of_ble_eq_true rfl, Nat.le_of_ble_eq_true rfl⟩ hK hP hD hS hA [0, 1, 2, 3, 4, 5, 6, 7, 8, 9, 10, 11, 12, 13, 14, 15, 16, 17, 18, 19, 20, 21, 22] [] [0, 1, 2, 3, 4, 5, 6, 7, 8, 9, 10, 11, 12, 13, 14, 15, 16, 17, 18, 19, 20, 21, 22] rfl rfl rfl rfl (by decide) rfl (fun _ => rfl) rfl rfl rfl rfl hl.1 (Nat.le_of_ble_eq_true rfl) dX11_press_21 (fun u4 H locs p_r3 hP hD hS => ?_)
    have hP : va_P g.1 vwCl (wX11 g a_m u4 J_m) H := hP
    have hD : va_D A (wX11 g a_m u4 J_m) := hD
    have hM21 : MI u4 := hb5.em p_r3.1 (by decide) (by have q := p_r3.2.2.2; rw [lqn] at q; exact fun j hj => q j (by omega))
    have hN21 : NS u4 := (by have q := p_r3.2; rw [lqn] at q; exact ⟨q.1, q.2.1⟩)
    have hS21 : PS u4 := q_8.2.2.of (p_r3.1.num 10 (by decide)) (p_r3.1.num 11 (by decide)) (p_r3.1.num 12 (by decide)) (p_r3.1.num 13 (by decide))
    have ht21 : (u4 0 9).toInt = 0 := by rw [p_r3.1.num 9 (by decide)]; exact q_8.2.1
    refine lv_aload_n hx hb dX11_press_24 rfl (lv_at hl 0 rfl) ?_
    refine lv_iconst (v := 0) hx hb dX11_press_25 (by decide) ?_
    refine va_put (D := g.1) (ci := 11) (v := .int (0 : Int32)) (ty := .int) (C := RX11) (T := TX11) (N := 46) hx hb hi_X11 (fun _ h => h) tyX11 tyX11_ok nmX11 hown hK.1 hP hD hS 0 rfl rfl 19 (by decide) hf_214 (fun _ h9 => h9) rfl (by decide +kernel) rfl rfl (Nat.le_of_ble_eq_true rfl) dX11_press_26 (fun H locs hP hD hS => ?_)
    have hP : va_P g.1 vwCl (wX11 g a_m (uF u4 0 19 (0 : Int32)) J_m) H := hP
    have hD : va_D A (wX11 g a_m (uF u4 0 19 (0 : Int32)) J_m) := hD
    have hk_26 : KK [1, 6] [1, 9, 10, 11, 12, 13, 14, 15, 16, 17, 18, 19] I_m (uF u4 0 19 (0 : Int32)) := KK.uf (KK.tr (KK.tr (KK.rf I_m) p_r1.2.1 (by decide) (by decide)) p_r3.1 (by decide) (by decide)) (by decide)
    have hc_26 : MI (uF u4 0 19 (0 : Int32)) := hM21.uf (by decide)
    refine lv_iconst (v := 1) hx hb dX11_press_29 (by decide) ?_
    refine lv_istore_n (lv' := [(2, .int (1 : Int32)), (0, .ref (a_m 0)), (1, .int n)]) hx hb dX11_press_30 rfl hl (by decide) rfl (fun ls hl => ?_)
    have L31 : ∀ (nn : Nat) (v2_31 : Int32) (I_m_31 : Nat → Nat → Int32), (hM_31 : MI I_m_31) → (hk_31 : KK [1, 6] [1, 9, 10, 11, 12, 13, 14, 15, 16, 17, 18, 19] I_m I_m_31) → (hN_31 : NS I_m_31) → (hs_31 : PS I_m_31) → (ht_31 : (I_m_31 0 9).toInt = 0) → (hz_31 : 0 ≤ v2_31.toInt ∧ v2_31.toInt ≤ 1) → ((2 * (((I_m_31 0 10)).toInt - ((I_m_31 0 13)).toInt) + min ((I_m_31 0 11)).toInt 1 + v2_31.toInt) < (nn : Int)) → ∀ (H : Heap) (locs : List Loc), va_P g.1 vwCl (wX11 g a_m I_m_31 J_m) H → va_D A (wX11 g a_m I_m_31 J_m) → va_S A s.heap H locs → ∀ ls : Array Slot, lv_has ls 4 [(2, .int v2_31), (0, .ref (a_m 0)), (1, .int n)] → W p l e (rm 8) s m args below meth c H locs 0 0 Q (F0 m 31 ls []) := by
      intro n_31
      induction n_31 with
      | zero =>
        intro v2_31 I_m_31 hM_31 hk_31 hN_31 hs_31 ht_31 hz_31 hms_31 H locs hP hD hS ls hl
        have hpt31 := hs_31.1.2; have hpw31 := hs_31.2.2.1; exfalso; omega
      | succ n_31 ih_31 =>
        intro v2_31 I_m_31 hM_31 hk_31 hN_31 hs_31 ht_31 hz_31 hms_31 H locs hP hD hS ls hl
        have hps31 := hs_31.1.1
        have hpt31 := hs_31.1.2
        have hpu31 := hs_31.2.1
        have hpv31 := hs_31.2.2.2
        have hpw31 := hs_31.2.2.1
        refine lv_iload_n hx hb dX11_press_31 rfl (lv_at hl 0 rfl) ?_
        refine q_if_eq (tgt := 50) hx hb dX11_press_32 (by decide) rfl (fun b_32 k_32 => ?_) (fun b_32 k_32 => ?_)
        · refine lv_aload_n hx hb dX11_press_50 rfl (lv_at hl 1 rfl) ?_
          refine va_get (D := g.1) (ci := 11) (v := .int (I_m_31 0 17)) (C := RX11) (T := TX11) (N := 46) hx hb hi_X11 (fun _ h => h) hown hK.1 hP 0 rfl rfl 17 (by decide) hf_169 (fun _ h9 => h9) rfl dX11_press_51 ?_
          refine q_if_ne (tgt := 88) hx hb dX11_press_54 (by decide) rfl (fun b_54 k_54 => ?_) (fun b_54 k_54 => ?_)
          · have hM59 := hM_31
            have ht59 := ht_31
            refine lv_aload_n hx hb dX11_press_88 rfl (lv_at hl 1 rfl) ?_
            refine lv_aload_n hx hb dX11_press_89 rfl (lv_at hl 1 rfl) ?_
            refine va_get (D := g.1) (ci := 11) (v := .ref (a_m 1)) (C := RX11) (T := TX11) (N := 46) hx hb hi_X11 (fun _ h => h) hown hK.1 hP 0 rfl rfl 0 (by decide) hf_7 (fun _ h9 => h9) rfl dX11_press_90 ?_
            refine lv_iconst (v := 0) hx hb dX11_press_93 (by decide) ?_
            have n_94 : vp_in (0 : Int32) 19800 := (t_in (by decide))
            refine va_iald hx hb hK.1 hP 1 0 rfl rfl n_94 dX11_press_94 ?_
            refine q_nm (fun x5 e_x5 => ?_)
            have e_x5 : x5 = (I_m_31 1) 0 := e_x5
            have g_x5 : x5.toInt = ((I_m_31 1) 0).toInt := congrArg _ e_x5
            have f_x5 := MI.many hM_31 e_x5
            refine EffI.cv (wr := ([])) (w' := fun u7 => wX11 g a_m u7 J_m) (As := [.int x5]) (kX11_taken l g a_m I_m_31 J_m x5) fx (gUV (uT _) u_581 u_582 u_583 u_5 u_584) rfl hdX11_taken ⟨Nat.le_of_ble_eq_true rfl, Nat.le_of_ble_eq_true rfl⟩ hK hP hD hS hA [0, 1, 2, 3, 4, 5, 6, 7, 8, 9, 10, 11, 12, 13, 14, 15, 16, 17, 18, 19, 20, 21, 22] [] [0, 1, 2, 3, 4, 5, 6, 7, 8, 9, 10, 11, 12, 13, 14, 15, 16, 17, 18, 19, 20, 21, 22] rfl rfl rfl rfl (by decide) rfl (fun _ => rfl) rfl rfl rfl rfl hl.1 (Nat.le_of_ble_eq_true rfl) dX11_press_95 (fun r6 u7 H locs p_r6 hP hD hS => ?_)
            have hP : va_P g.1 vwCl (wX11 g a_m u7 J_m) H := hP
            have hD : va_D A (wX11 g a_m u7 J_m) := hD
            refine hret 98 ls r6 _ _ u7 dX11_press_98 hS hP hD ?_
            exact ⟨(hM59.kk p_r6 (by decide) (by decide)), (KK.tr hk_31 p_r6 (by decide) (by decide)), Or.inr ⟨by omega, by rw [p_r6.num 9 (by decide)]; exact ht59⟩⟩
          · refine lv_iconst (v := 0) hx hb dX11_press_57 (by decide) ?_
            refine lv_istore_n (lv' := [(3, .int (0 : Int32)), (2, .int v2_31), (0, .ref (a_m 0)), (1, .int n)]) hx hb dX11_press_58 rfl hl (by decide) rfl (fun ls hl => ?_)
            have L59 : ∀ (nn : Nat) (v3_59 : Int32) (I_m_59 : Nat → Nat → Int32), (hk_59 : KK [1, 6] [1, 9, 10, 11, 12, 13, 14, 15, 16, 17, 18, 19] I_m I_m_59) → (hx_59 : KK [1] [] I_m_31 I_m_59) → (hv_59 : 0 ≤ v3_59.toInt ∧ v3_59.toInt ≤ 3300) → (hc_59 : ∀ j : Nat, I_m_59 1 j = if (j : Int) < v3_59.toInt then I_m_31 1 (13200 + j) else I_m_31 1 j) → ((3301 - v3_59.toInt) < (nn : Int)) → ∀ (H : Heap) (locs : List Loc), va_P g.1 vwCl (wX11 g a_m I_m_59 J_m) H → va_D A (wX11 g a_m I_m_59 J_m) → va_S A s.heap H locs → ∀ ls : Array Slot, lv_has ls 4 [(3, .int v3_59), (2, .int v2_31), (0, .ref (a_m 0)), (1, .int n)] → W p l e (rm 8) s m args below meth c H locs 0 0 Q (F0 m 59 ls []) := by
              intro n_59
              induction n_59 with
              | zero =>
                intro v3_59 I_m_59 hk_59 hx_59 hv_59 hc_59 hms_59 H locs hP hD hS ls hl
                exfalso; omega
              | succ n_59 ih_59 =>
                intro v3_59 I_m_59 hk_59 hx_59 hv_59 hc_59 hms_59 H locs hP hD hS ls hl
                refine lv_iload_n hx hb dX11_press_59 rfl (lv_at hl 0 rfl) ?_
                refine lv_sipush (v := 3300) hx hb dX11_press_60 (by decide) ?_
                refine q_icmp_ge (tgt := 88) hx hb dX11_press_63 (by decide) rfl (by decide : (3300 : Int32).toInt = 3300) (fun k_63 => ?_) (fun k_63 => ?_)
                · have hM59 : MI I_m_59 := MI.cp ⟨hM_31, hN_31⟩ hx_59 (by decide) (fun j hj => by rw [hc_59 j, if_pos (by omega)]) (fun j hj => by rw [hc_59 j, if_neg (by omega)])
                  have ht59 : (I_m_59 0 9).toInt = 0 := by rw [hx_59.num 9 (by decide)]; exact ht_31
                  refine lv_aload_n hx hb dX11_press_88 rfl (lv_at hl 2 rfl) ?_
                  refine lv_aload_n hx hb dX11_press_89 rfl (lv_at hl 2 rfl) ?_
                  refine va_get (D := g.1) (ci := 11) (v := .ref (a_m 1)) (C := RX11) (T := TX11) (N := 46) hx hb hi_X11 (fun _ h => h) hown hK.1 hP 0 rfl rfl 0 (by decide) hf_7 (fun _ h9 => h9) rfl dX11_press_90 ?_
                  refine lv_iconst (v := 0) hx hb dX11_press_93 (by decide) ?_
                  have n_94 : vp_in (0 : Int32) 19800 := (t_in (by decide))
                  refine va_iald hx hb hK.1 hP 1 0 rfl rfl n_94 dX11_press_94 ?_
                  refine q_nm (fun x8 e_x8 => ?_)
                  have e_x8 : x8 = (I_m_59 1) 0 := e_x8
                  have g_x8 : x8.toInt = ((I_m_59 1) 0).toInt := congrArg _ e_x8
                  refine EffI.cv (wr := ([])) (w' := fun u10 => wX11 g a_m u10 J_m) (As := [.int x8]) (kX11_taken l g a_m I_m_59 J_m x8) fx (gUV (uT _) u_581 u_582 u_583 u_5 u_584) rfl hdX11_taken ⟨Nat.le_of_ble_eq_true rfl, Nat.le_of_ble_eq_true rfl⟩ hK hP hD hS hA [0, 1, 2, 3, 4, 5, 6, 7, 8, 9, 10, 11, 12, 13, 14, 15, 16, 17, 18, 19, 20, 21, 22] [] [0, 1, 2, 3, 4, 5, 6, 7, 8, 9, 10, 11, 12, 13, 14, 15, 16, 17, 18, 19, 20, 21, 22] rfl rfl rfl rfl (by decide) rfl (fun _ => rfl) rfl rfl rfl rfl hl.1 (Nat.le_of_ble_eq_true rfl) dX11_press_95 (fun r9 u10 H locs p_r9 hP hD hS => ?_)
                  have hP : va_P g.1 vwCl (wX11 g a_m u10 J_m) H := hP
                  have hD : va_D A (wX11 g a_m u10 J_m) := hD
                  refine hret 98 ls r9 _ _ u10 dX11_press_98 hS hP hD ?_
                  exact ⟨(hM59.kk p_r9 (by decide) (by decide)), (KK.tr hk_59 p_r9 (by decide) (by decide)), Or.inr ⟨by omega, by rw [p_r9.num 9 (by decide)]; exact ht59⟩⟩
                · refine lv_aload_n hx hb dX11_press_66 rfl (lv_at hl 2 rfl) ?_
                  refine va_get (D := g.1) (ci := 11) (v := .ref (a_m 1)) (C := RX11) (T := TX11) (N := 46) hx hb hi_X11 (fun _ h => h) hown hK.1 hP 0 rfl rfl 0 (by decide) hf_7 (fun _ h9 => h9) rfl dX11_press_67 ?_
                  refine lv_iload_n hx hb dX11_press_70 rfl (lv_at hl 0 rfl) ?_
                  refine lv_aload_n hx hb dX11_press_71 rfl (lv_at hl 2 rfl) ?_
                  refine va_get (D := g.1) (ci := 11) (v := .ref (a_m 1)) (C := RX11) (T := TX11) (N := 46) hx hb hi_X11 (fun _ h => h) hown hK.1 hP 0 rfl rfl 0 (by decide) hf_7 (fun _ h9 => h9) rfl dX11_press_72 ?_
                  refine lv_sipush (v := 13200) hx hb dX11_press_75 (by decide) ?_
                  refine lv_iload_n hx hb dX11_press_78 rfl (lv_at hl 0 rfl) ?_
                  refine r_iadd hx hb dX11_press_79 (by decide : (13200 : Int32).toInt = 13200) rfl (fun x11 e_x11 t_x11 => ?_)
                  try have t_x11 := t_x11 (by omega)
                  have n_80 : vp_in x11 19800 := (t_in (by omega))
                  refine va_iald hx hb hK.1 hP 1 0 rfl rfl n_80 dX11_press_80 ?_
                  refine q_nm (fun x12 e_x12 => ?_)
                  have e_x12 : x12 = (I_m_59 1) x11.toNatClampNeg := e_x12
                  have g_x12 : x12.toInt = ((I_m_59 1) x11.toNatClampNeg).toInt := congrArg _ e_x12
                  have n_81 : vp_in v3_59 19800 := (t_in (by omega))
                  obtain ⟨f13, e_f13⟩ : ∃ z, z = upd (I_m_59 1) v3_59.toNatClampNeg x12 := ⟨_, rfl⟩
                  refine va_iast hx hb hK.1 hP hD hS 1 0 rfl rfl n_81 dX11_press_81 (fun H locs hP hD hS => ?_)
                  have hP : va_P g.1 vwCl (wX11 g a_m (uR I_m_59 1 f13) J_m) H := by rw [e_f13]; exact hP
                  have hD : va_D A (wX11 g a_m (uR I_m_59 1 f13) J_m) := by rw [e_f13]; exact hD
                  have hk_81 : KK [1, 6] [1, 9, 10, 11, 12, 13, 14, 15, 16, 17, 18, 19] I_m (uR I_m_59 1 f13) := KK.ur hk_59 (by decide) (by decide)
                  refine r_iinc (lv' := fun i14 => [(3, .int i14), (2, .int v2_31), (0, .ref (a_m 0)), (1, .int n)]) hx hb dX11_press_82 hl (k := 0) rfl (by decide) rfl (by decide) (fun _ => rfl) (fun i14 e_i14 t_i14 ls hl => ?_)
                  try have t_i14 := t_i14 (by omega)
                  refine lv_goto (tgt := 59) hx hb dX11_press_85 (by decide) ?_
                  exact ih_59 i14 (uR I_m_59 1 f13) hk_81 (hx_59.ur (by decide) (by decide)) (by omega) (fun j => em_cp hc_59 e_f13 e_x12 (by omega) (by omega) (by omega) (by omega) j) (by omega) _ _ hP hD hS ls hl
            exact L59 ((3301 - (0 : Int32).toInt) + 1).toNat (0 : Int32) I_m_31 hk_31 (KK.rf _) (by omega) (fun j => by rw [if_neg (by rw [lm0]; omega)]) (by omega) _ _ hP hD hS ls hl
        · refine lv_aload_n hx hb dX11_press_35 rfl (lv_at hl 1 rfl) ?_
          refine va_get (D := g.1) (ci := 11) (v := .int (I_m_31 0 11)) (C := RX11) (T := TX11) (N := 46) hx hb hi_X11 (fun _ h => h) hown hK.1 hP 0 rfl rfl 11 (by decide) hf_144 (fun _ h9 => h9) rfl dX11_press_36 ?_
          refine q_if_eq (tgt := 50) hx hb dX11_press_39 (by decide) rfl (fun b_39 k_39 => ?_) (fun b_39 k_39 => ?_)
          · refine lv_aload_n hx hb dX11_press_50 rfl (lv_at hl 1 rfl) ?_
            refine va_get (D := g.1) (ci := 11) (v := .int (I_m_31 0 17)) (C := RX11) (T := TX11) (N := 46) hx hb hi_X11 (fun _ h => h) hown hK.1 hP 0 rfl rfl 17 (by decide) hf_169 (fun _ h9 => h9) rfl dX11_press_51 ?_
            refine q_if_ne (tgt := 88) hx hb dX11_press_54 (by decide) rfl (fun b_54 k_54 => ?_) (fun b_54 k_54 => ?_)
            · have hM59 := hM_31
              have ht59 := ht_31
              refine lv_aload_n hx hb dX11_press_88 rfl (lv_at hl 1 rfl) ?_
              refine lv_aload_n hx hb dX11_press_89 rfl (lv_at hl 1 rfl) ?_
              refine va_get (D := g.1) (ci := 11) (v := .ref (a_m 1)) (C := RX11) (T := TX11) (N := 46) hx hb hi_X11 (fun _ h => h) hown hK.1 hP 0 rfl rfl 0 (by decide) hf_7 (fun _ h9 => h9) rfl dX11_press_90 ?_
              refine lv_iconst (v := 0) hx hb dX11_press_93 (by decide) ?_
              have n_94 : vp_in (0 : Int32) 19800 := (t_in (by decide))
              refine va_iald hx hb hK.1 hP 1 0 rfl rfl n_94 dX11_press_94 ?_
              refine q_nm (fun x15 e_x15 => ?_)
              have e_x15 : x15 = (I_m_31 1) 0 := e_x15
              have g_x15 : x15.toInt = ((I_m_31 1) 0).toInt := congrArg _ e_x15
              have f_x15 := MI.many hM_31 e_x15
              refine EffI.cv (wr := ([])) (w' := fun u17 => wX11 g a_m u17 J_m) (As := [.int x15]) (kX11_taken l g a_m I_m_31 J_m x15) fx (gUV (uT _) u_581 u_582 u_583 u_5 u_584) rfl hdX11_taken ⟨Nat.le_of_ble_eq_true rfl, Nat.le_of_ble_eq_true rfl⟩ hK hP hD hS hA [0, 1, 2, 3, 4, 5, 6, 7, 8, 9, 10, 11, 12, 13, 14, 15, 16, 17, 18, 19, 20, 21, 22] [] [0, 1, 2, 3, 4, 5, 6, 7, 8, 9, 10, 11, 12, 13, 14, 15, 16, 17, 18, 19, 20, 21, 22] rfl rfl rfl rfl (by decide) rfl (fun _ => rfl) rfl rfl rfl rfl hl.1 (Nat.le_of_ble_eq_true rfl) dX11_press_95 (fun r16 u17 H locs p_r16 hP hD hS => ?_)
              have hP : va_P g.1 vwCl (wX11 g a_m u17 J_m) H := hP
              have hD : va_D A (wX11 g a_m u17 J_m) := hD
              refine hret 98 ls r16 _ _ u17 dX11_press_98 hS hP hD ?_
              exact ⟨(hM59.kk p_r16 (by decide) (by decide)), (KK.tr hk_31 p_r16 (by decide) (by decide)), Or.inr ⟨by omega, by rw [p_r16.num 9 (by decide)]; exact ht59⟩⟩
            · refine lv_iconst (v := 0) hx hb dX11_press_57 (by decide) ?_
              refine lv_istore_n (lv' := [(3, .int (0 : Int32)), (2, .int v2_31), (0, .ref (a_m 0)), (1, .int n)]) hx hb dX11_press_58 rfl hl (by decide) rfl (fun ls hl => ?_)
              have L59 : ∀ (nn : Nat) (v3_59 : Int32) (I_m_59 : Nat → Nat → Int32), (hk_59 : KK [1, 6] [1, 9, 10, 11, 12, 13, 14, 15, 16, 17, 18, 19] I_m I_m_59) → (hx_59 : KK [1] [] I_m_31 I_m_59) → (hv_59 : 0 ≤ v3_59.toInt ∧ v3_59.toInt ≤ 3300) → (hc_59 : ∀ j : Nat, I_m_59 1 j = if (j : Int) < v3_59.toInt then I_m_31 1 (13200 + j) else I_m_31 1 j) → ((3301 - v3_59.toInt) < (nn : Int)) → ∀ (H : Heap) (locs : List Loc), va_P g.1 vwCl (wX11 g a_m I_m_59 J_m) H → va_D A (wX11 g a_m I_m_59 J_m) → va_S A s.heap H locs → ∀ ls : Array Slot, lv_has ls 4 [(3, .int v3_59), (2, .int v2_31), (0, .ref (a_m 0)), (1, .int n)] → W p l e (rm 8) s m args below meth c H locs 0 0 Q (F0 m 59 ls []) := by
                intro n_59
                induction n_59 with
                | zero =>
                  intro v3_59 I_m_59 hk_59 hx_59 hv_59 hc_59 hms_59 H locs hP hD hS ls hl
                  exfalso; omega
                | succ n_59 ih_59 =>
                  intro v3_59 I_m_59 hk_59 hx_59 hv_59 hc_59 hms_59 H locs hP hD hS ls hl
                  refine lv_iload_n hx hb dX11_press_59 rfl (lv_at hl 0 rfl) ?_
                  refine lv_sipush (v := 3300) hx hb dX11_press_60 (by decide) ?_
                  refine q_icmp_ge (tgt := 88) hx hb dX11_press_63 (by decide) rfl (by decide : (3300 : Int32).toInt = 3300) (fun k_63 => ?_) (fun k_63 => ?_)
                  · have hM59 : MI I_m_59 := MI.cp ⟨hM_31, hN_31⟩ hx_59 (by decide) (fun j hj => by rw [hc_59 j, if_pos (by omega)]) (fun j hj => by rw [hc_59 j, if_neg (by omega)])
                    have ht59 : (I_m_59 0 9).toInt = 0 := by rw [hx_59.num 9 (by decide)]; exact ht_31
                    refine lv_aload_n hx hb dX11_press_88 rfl (lv_at hl 2 rfl) ?_
                    refine lv_aload_n hx hb dX11_press_89 rfl (lv_at hl 2 rfl) ?_
                    refine va_get (D := g.1) (ci := 11) (v := .ref (a_m 1)) (C := RX11) (T := TX11) (N := 46) hx hb hi_X11 (fun _ h => h) hown hK.1 hP 0 rfl rfl 0 (by decide) hf_7 (fun _ h9 => h9) rfl dX11_press_90 ?_
                    refine lv_iconst (v := 0) hx hb dX11_press_93 (by decide) ?_
                    have n_94 : vp_in (0 : Int32) 19800 := (t_in (by decide))
                    refine va_iald hx hb hK.1 hP 1 0 rfl rfl n_94 dX11_press_94 ?_
                    refine q_nm (fun x18 e_x18 => ?_)
                    have e_x18 : x18 = (I_m_59 1) 0 := e_x18
                    have g_x18 : x18.toInt = ((I_m_59 1) 0).toInt := congrArg _ e_x18
                    refine EffI.cv (wr := ([])) (w' := fun u20 => wX11 g a_m u20 J_m) (As := [.int x18]) (kX11_taken l g a_m I_m_59 J_m x18) fx (gUV (uT _) u_581 u_582 u_583 u_5 u_584) rfl hdX11_taken ⟨Nat.le_of_ble_eq_true rfl, Nat.le_of_ble_eq_true rfl⟩ hK hP hD hS hA [0, 1, 2, 3, 4, 5, 6, 7, 8, 9, 10, 11, 12, 13, 14, 15, 16, 17, 18, 19, 20, 21, 22] [] [0, 1, 2, 3, 4, 5, 6, 7, 8, 9, 10, 11, 12, 13, 14, 15, 16, 17, 18, 19, 20, 21, 22] rfl rfl rfl rfl (by decide) rfl (fun _ => rfl) rfl rfl rfl rfl hl.1 (Nat.le_of_ble_eq_true rfl) dX11_press_95 (fun r19 u20 H locs p_r19 hP hD hS => ?_)
                    have hP : va_P g.1 vwCl (wX11 g a_m u20 J_m) H := hP
                    have hD : va_D A (wX11 g a_m u20 J_m) := hD
                    refine hret 98 ls r19 _ _ u20 dX11_press_98 hS hP hD ?_
                    exact ⟨(hM59.kk p_r19 (by decide) (by decide)), (KK.tr hk_59 p_r19 (by decide) (by decide)), Or.inr ⟨by omega, by rw [p_r19.num 9 (by decide)]; exact ht59⟩⟩
                  · refine lv_aload_n hx hb dX11_press_66 rfl (lv_at hl 2 rfl) ?_
                    refine va_get (D := g.1) (ci := 11) (v := .ref (a_m 1)) (C := RX11) (T := TX11) (N := 46) hx hb hi_X11 (fun _ h => h) hown hK.1 hP 0 rfl rfl 0 (by decide) hf_7 (fun _ h9 => h9) rfl dX11_press_67 ?_
                    refine lv_iload_n hx hb dX11_press_70 rfl (lv_at hl 0 rfl) ?_
                    refine lv_aload_n hx hb dX11_press_71 rfl (lv_at hl 2 rfl) ?_
                    refine va_get (D := g.1) (ci := 11) (v := .ref (a_m 1)) (C := RX11) (T := TX11) (N := 46) hx hb hi_X11 (fun _ h => h) hown hK.1 hP 0 rfl rfl 0 (by decide) hf_7 (fun _ h9 => h9) rfl dX11_press_72 ?_
                    refine lv_sipush (v := 13200) hx hb dX11_press_75 (by decide) ?_
                    refine lv_iload_n hx hb dX11_press_78 rfl (lv_at hl 0 rfl) ?_
                    refine r_iadd hx hb dX11_press_79 (by decide : (13200 : Int32).toInt = 13200) rfl (fun x21 e_x21 t_x21 => ?_)
                    try have t_x21 := t_x21 (by omega)
                    have n_80 : vp_in x21 19800 := (t_in (by omega))
                    refine va_iald hx hb hK.1 hP 1 0 rfl rfl n_80 dX11_press_80 ?_
                    refine q_nm (fun x22 e_x22 => ?_)
                    have e_x22 : x22 = (I_m_59 1) x21.toNatClampNeg := e_x22
                    have g_x22 : x22.toInt = ((I_m_59 1) x21.toNatClampNeg).toInt := congrArg _ e_x22
                    have n_81 : vp_in v3_59 19800 := (t_in (by omega))
                    obtain ⟨f23, e_f23⟩ : ∃ z, z = upd (I_m_59 1) v3_59.toNatClampNeg x22 := ⟨_, rfl⟩
                    refine va_iast hx hb hK.1 hP hD hS 1 0 rfl rfl n_81 dX11_press_81 (fun H locs hP hD hS => ?_)
                    have hP : va_P g.1 vwCl (wX11 g a_m (uR I_m_59 1 f23) J_m) H := by rw [e_f23]; exact hP
                    have hD : va_D A (wX11 g a_m (uR I_m_59 1 f23) J_m) := by rw [e_f23]; exact hD
                    have hk_81 : KK [1, 6] [1, 9, 10, 11, 12, 13, 14, 15, 16, 17, 18, 19] I_m (uR I_m_59 1 f23) := KK.ur hk_59 (by decide) (by decide)
                    refine r_iinc (lv' := fun i24 => [(3, .int i24), (2, .int v2_31), (0, .ref (a_m 0)), (1, .int n)]) hx hb dX11_press_82 hl (k := 0) rfl (by decide) rfl (by decide) (fun _ => rfl) (fun i24 e_i24 t_i24 ls hl => ?_)
                    try have t_i24 := t_i24 (by omega)
                    refine lv_goto (tgt := 59) hx hb dX11_press_85 (by decide) ?_
                    exact ih_59 i24 (uR I_m_59 1 f23) hk_81 (hx_59.ur (by decide) (by decide)) (by omega) (fun j => em_cp hc_59 e_f23 e_x22 (by omega) (by omega) (by omega) (by omega) j) (by omega) _ _ hP hD hS ls hl
              exact L59 ((3301 - (0 : Int32).toInt) + 1).toNat (0 : Int32) I_m_31 hk_31 (KK.rf _) (by omega) (fun j => by rw [if_neg (by rw [lm0]; omega)]) (by omega) _ _ hP hD hS ls hl
          · refine lv_aload_n hx hb dX11_press_42 rfl (lv_at hl 1 rfl) ?_
            refine EffIS.cv (wr := ([])) (w' := fun u26 => wX11 g a_m u26 J_m) (As := []) (kX11_pressPart l g ad av a_m I_m_31 J_m hM_31 hN_31 hs_31) fx (gUV (uT _) u_540 u_541 u_542 u_5 u_543) rfl hdX11_pressPart ⟨Nat.le_of_ble_eq_true rfl, Nat.le_of_ble_eq_true rfl⟩ hJ hK hP hD hS hA [0, 1, 2, 3, 4, 5, 6, 7, 8, 9, 10, 11, 12, 13, 14, 15, 16, 17, 18, 19, 20, 21, 22] [] [0, 1, 2, 3, 4, 5, 6, 7, 8, 9, 10, 11, 12, 13, 14, 15, 16, 17, 18, 19, 20, 21, 22] rfl rfl rfl rfl (by decide) rfl (fun _ => rfl) rfl rfl rfl rfl hl.1 (Nat.le_of_ble_eq_true rfl) dX11_press_43 (fun r25 u26 H locs p_r25 hP hD hS => ?_)
            have hP : va_P g.1 vwCl (wX11 g a_m u26 J_m) H := hP
            have hD : va_D A (wX11 g a_m u26 J_m) := hD
            have hk43 := congrArg Int32.toInt (p_r25.2.1.num 10 (by decide))
            have hl43 := p_r25.2.2.1.1.1.2
            have ha43 : (u26 0 9).toInt = 0 := by rw [p_r25.2.1.num 9 (by decide)]; exact ht_31
            have hu43 := p_r25.2.2.1.2
            have hu44 := p_r25.2.2.1.1.2.2.1
            have hu45 := hz_31
            have hu46 : r25.toInt = 0 ∨ (r25.toInt = 1 ∧ ((u26 0 11).toInt = 0 ∨ (I_m_31 0 13).toInt < (u26 0 13).toInt)) := (by rcases p_r25.2.2.2.1 with q | q; exact Or.inl (by rw [q]; decide); exact Or.inr ⟨by rw [q]; decide, p_r25.2.2.2.2.1 q⟩)
            refine lv_istore_n (lv' := [(2, .int r25), (0, .ref (a_m 0)), (1, .int n)]) hx hb dX11_press_46 rfl hl (by decide) rfl (fun ls hl => ?_)
            refine lv_goto (tgt := 31) hx hb dX11_press_47 (by decide) ?_
            exact ih_31 r25 u26 p_r25.1 (KK.tr hk_31 p_r25.2.1 (by decide) (by decide)) p_r25.2.2.2.2.2 p_r25.2.2.1.1 ha43 (by rcases hu46 with q | q; omega; omega) (show 2 * (((u26 0 10)).toInt - ((u26 0 13)).toInt) + min ((u26 0 11)).toInt 1 + r25.toInt < _ from (by omega)) _ _ hP hD hS ls hl
    exact L31 ((2 * (((u4 0 10)).toInt - ((u4 0 13)).toInt) + min ((u4 0 11)).toInt 1 + (1 : Int32).toInt) + 1).toNat (1 : Int32) (uF u4 0 19 (0 : Int32)) hc_26 hk_26 hN21 hS21 ht21 (by omega) (show 2 * (((u4 0 10)).toInt - ((u4 0 13)).toInt) + min ((u4 0 11)).toInt 1 + (1 : Int32).toInt < _ from (by omega)) _ _ hP hD hS ls hl
  · have q_8 := bP.f p_r1.2.2 b_8
    refine lv_aload_n hx hb dX11_press_11 rfl (lv_at hl 0 rfl) ?_
    refine lv_iconst (v := 1) hx hb dX11_press_12 (by decide) ?_
    refine EffI.cv (wr := ([])) (w' := fun u28 => wX11 g a_m u28 J_m) (As := [.int (1 : Int32)]) (kX11_refuse l g a_m u2 J_m (1 : Int32)) fx (gUV (uT _) u_536 u_537 u_538 u_5 u_539) rfl hdX11_refuse ⟨Nat.le_of_ble_eq_true rfl, Nat.le_of_ble_eq_true rfl⟩ hK hP hD hS hA [0, 1, 2, 3, 4, 5, 6, 7, 8, 9, 10, 11, 12, 13, 14, 15, 16, 17, 18, 19, 20, 21, 22] [] [0, 1, 2, 3, 4, 5, 6, 7, 8, 9, 10, 11, 12, 13, 14, 15, 16, 17, 18, 19, 20, 21, 22] rfl rfl rfl rfl (by decide) rfl (fun _ => rfl) rfl rfl rfl rfl hl.1 (Nat.le_of_ble_eq_true rfl) dX11_press_13 (fun r27 u28 H locs p_r27 hP hD hS => ?_)
    have hP : va_P g.1 vwCl (wX11 g a_m u28 J_m) H := hP
    have hD : va_D A (wX11 g a_m u28 J_m) := hD
    refine hret 16 ls r27 _ _ u28 dX11_press_16 hS hP hD ?_
    exact ⟨(MI.st (p_r1.1) p_r27.2), (KK.st (KK.tr (KK.rf I_m) p_r1.2.1 (by decide) (by decide)) p_r27.2 (by decide)), Or.inl ⟨by omega, (ST.num p_r27.2 9 (by decide)).trans (by rw [q_8.2])⟩⟩
