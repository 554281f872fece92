set_option maxHeartbeats 4000000 in
set_option maxRecDepth 100000 in
theorem kX11_byteAt (l : Launch) (g : gG) (a_m : Nat → Nat) (I_m : Nat → Nat → Int32) (J_m : Nat → Nat → Int64) (k : Int32) (h_z : (I_m 0 10).toInt ≤ 900) (h_k : 0 ≤ k.toInt) : PurI l g yX11_byteAt wsX11_byteAt 0 [.ref (a_m 0), .int k] (wX11 g a_m I_m J_m) (fun r => (k.toInt < (I_m 0 10).toInt ∧ r = I_m 6 k.toNatClampNeg &&& 255 ∧ 0 ≤ r.toInt ∧ r.toInt ≤ 255) ∨ ((I_m 0 10).toInt ≤ k.toInt ∧ r.toInt = -1)) := by
  refine PurI.st (cc := cX11_byteAt) (maxL := 2) (by decide) rfl (Nat.le_of_ble_eq_true rfl) (fun p e s m args below meth c Q ls fx hK hP hl hret => ?_)
  have hx := fx.1
  have hb := fx.2.1
  have hml := fx.2.2.1
  have hown := fx.2.2.2.1
  have hts := fx.2.2.2.2
  have hl : lv_has ls 2 [(0, .ref (a_m 0)), (1, .int k)] := hl
  have hP : va_P g.1 vwCl (wX11 g a_m I_m J_m) s.heap := hP
  have hf_31 := hts _ (uT _ _ u_177)
  have hf_128 := hts _ (uT _ _ u_512)
  have hi_X11 : ∀ w ∈ wsX110, w.before args s = true := fun w h => hts w (uT _ w (u_wsX110 w h))
  have lm1 : (-1 : Int32).toInt = -1 := by decide
  have lm0 : (0 : Int32).toInt = 0 := by decide
  have lm2 : (1 : Int32).toInt = 1 := by decide
  refine lv_iload_n hx hb dX11_byteAt_0 rfl (lv_at hl 1 rfl) ?_
  refine lv_aload_n hx hb dX11_byteAt_1 rfl (lv_at hl 0 rfl) ?_
  refine va_get (D := g.1) (ci := 11) (v := .int (I_m 0 10)) (C := RX11) (T := TX11) (N := 46) hx hb hi_X11 (fun _ h => h) hown hK.1 hP 0 rfl rfl 10 (by decide) hf_128 (fun _ h9 => h9) rfl dX11_byteAt_2 ?_
  refine q_icmp_ge (tgt := 21) hx hb dX11_byteAt_5 (by decide) rfl rfl (fun k_5 => ?_) (fun k_5 => ?_)
  · refine lv_iconst (v := -1) hx hb dX11_byteAt_21 (by decide) ?_
    exact hret 22 ls (-1 : Int32) dX11_byteAt_22 (by first | exact Or.inr ⟨by omega, by omega⟩ | exact Or.inl ⟨by omega, by rw [← e_x1]; exact e_x2, by have q := and255 x1; rw [← e_x2] at q; exact q⟩)
  · refine lv_aload_n hx hb dX11_byteAt_8 rfl (lv_at hl 0 rfl) ?_
    refine va_get (D := g.1) (ci := 11) (v := .ref (a_m 6)) (C := RX11) (T := TX11) (N := 46) hx hb hi_X11 (fun _ h => h) hown hK.1 hP 0 rfl rfl 8 (by decide) hf_31 (fun _ h9 => h9) rfl dX11_byteAt_9 ?_
    refine lv_iload_n hx hb dX11_byteAt_12 rfl (lv_at hl 1 rfl) ?_
    have n_13 : vp_in k 900 := (t_in (by omega))
    refine va_bald hx hb hK.1 hP 6 2 rfl rfl n_13 dX11_byteAt_13 ?_
    refine q_nm (fun x1 e_x1 => ?_)
    have e_x1 : x1 = (I_m 6) k.toNatClampNeg := e_x1
    have g_x1 : x1.toInt = ((I_m 6) k.toNatClampNeg).toInt := congrArg _ e_x1
    refine lv_sipush (v := 255) hx hb dX11_byteAt_14 (by decide) ?_
    refine lv_iand hx hb dX11_byteAt_17 ?_
    refine q_nm (fun x2 e_x2 => ?_)
    refine lv_goto (tgt := 22) hx hb dX11_byteAt_18 (by decide) ?_
    exact hret 22 ls x2 dX11_byteAt_22 (by first | exact Or.inr ⟨by omega, by omega⟩ | exact Or.inl ⟨by omega, by rw [← e_x1]; exact e_x2, by have q := and255 x1; rw [← e_x2] at q; exact q⟩)

set_option maxHeartbeats 4000000 in
set_option maxRecDepth 100000 in
theorem kX11_ahead (l : Launch) (g : gG) (a_m : Nat → Nat) (I_m : Nat → Nat → Int32) (J_m : Nat → Nat → Int64) (h_p : PL I_m) : EffV l g yX11_ahead wsX11_ahead 1 [.ref (a_m 0)] (wX11 g a_m I_m J_m) (fun (u : (Nat → Nat → Int32)) => wX11 g a_m u J_m) (fun (u : (Nat → Nat → Int32)) => KK [] [11, 12, 13, 14] I_m (u) ∧ AH I_m (u) ∧ fxLM (u) (I_m 0 13).toInt) := by
  refine EffV.st (cc := cX11_ahead) (maxL := 2) (by decide) rfl (Nat.le_of_ble_eq_true rfl) (fun p e s m args below meth c A Q ls fx hK hP hD hA hS hl hret => ?_)
  have hx := fx.1
  have hb := fx.2.1
  have hml := fx.2.2.1
  have hown := fx.2.2.2.1
  have hts := fx.2.2.2.2
  have hl : lv_has ls 2 [(0, .ref (a_m 0))] := hl
  have hP : va_P g.1 vwCl (wX11 g a_m I_m J_m) s.heap := hP
  have hf_131 := hts _ (uT _ _ u_513)
  have hf_138 := hts _ (uT _ _ u_519)
  have hf_141 := hts _ (uT _ _ u_520)
  have hf_144 := hts _ (uT _ _ u_506)
  have hi_X11 : ∀ w ∈ wsX110, w.before args s = true := fun w h => hts w (uT _ w (u_wsX110 w h))
  have hc_153 := hts _ (uT _ _ u_521)
  have lm1 : (-1 : Int32).toInt = -1 := by decide
  have lm0 : (0 : Int32).toInt = 0 := by decide
  have lm2 : (1 : Int32).toInt = 1 := by decide
  have lq2 : (2 : Int32).toInt = 2 := by decide
  have lq3 : (3 : Int32).toInt = 3 := by decide
  have lq4 : (4 : Int32).toInt = 4 := by decide
  have lq32 : (32 : Int32).toInt = 32 := by decide
  have lq10 : (10 : Int32).toInt = 10 := by decide
  have hp1 := h_p.1
  have hp2 := h_p.2
  have L0 : ∀ (nn : Nat) (I_m_0 : Nat → Nat → Int32), (hk_0 : KK [] [11, 12, 13, 14] I_m I_m_0) → (hv_0 : (I_m 0 13).toInt ≤ (I_m_0 0 13).toInt ∧ (I_m_0 0 13).toInt ≤ (I_m 0 10).toInt) → (hb_0 : ∀ j : Nat, (I_m 0 13).toInt ≤ (j : Int) → (j : Int) < (I_m_0 0 13).toInt → fxBm (I_m 6) j = 10 ∨ fxBm (I_m 6) j = 32) → (((I_m 0 10).toInt + 1 - ((I_m_0 0 13)).toInt) < (nn : Int)) → ∀ (H : Heap) (locs : List Loc), va_P g.1 vwCl (wX11 g a_m I_m_0 J_m) H → va_D A (wX11 g a_m I_m_0 J_m) → va_S A s.heap H locs → ∀ ls : Array Slot, lv_has ls 2 [(0, .ref (a_m 0))] → W p l e (rm 1) s m args below meth c H locs 0 0 Q (F0 m 0 ls []) := by
    intro n_0
    induction n_0 with
    | zero =>
      intro I_m_0 hk_0 hv_0 hb_0 hms_0 H locs hP hD hS ls hl
      exfalso; omega
    | succ n_0 ih_0 =>
      intro I_m_0 hk_0 hv_0 hb_0 hms_0 H locs hP hD hS ls hl
      have hz0 : (I_m_0 0 10).toInt = (I_m 0 10).toInt := congrArg Int32.toInt (hk_0.num 10 (by decide))
      have hr0 : I_m_0 6 = I_m 6 := hk_0.row 6 (by decide)
      refine lv_aload_n hx hb dX11_ahead_0 rfl (lv_at hl 0 rfl) ?_
      refine lv_aload_n hx hb dX11_ahead_1 rfl (lv_at hl 0 rfl) ?_
      refine va_get (D := g.1) (ci := 11) (v := .int (I_m_0 0 13)) (C := RX11) (T := TX11) (N := 46) hx hb hi_X11 (fun _ h => h) hown hK.1 hP 0 rfl rfl 13 (by decide) hf_131 (fun _ h9 => h9) rfl dX11_ahead_2 ?_
      refine PurI.cv (As := [.int (I_m_0 0 13)]) (kX11_byteAt l g a_m I_m_0 J_m (I_m_0 0 13) (show ((I_m_0 0 10)).toInt ≤ 900 from (by omega)) (by omega)) fx (gUV (uT _) u_526 u_527 u_528 u_5 u_529) rfl hdX11_byteAt ⟨Nat.le_of_ble_eq_true rfl, Nat.le_of_ble_eq_true rfl⟩ hK hP [0, 1, 2, 3, 4, 5, 6, 7, 8, 9, 10, 11, 12, 13, 14, 15, 16, 17, 18, 19, 20, 21, 22] rfl rfl rfl rfl rfl hl.1 (Nat.le_of_ble_eq_true rfl) dX11_ahead_5 (fun r1 p_r1 => ?_)
      have hb5 := p_r1
      refine lv_bipush (v := 32) hx hb dX11_ahead_8 (by decide) ?_
      refine q_icmp_eq (tgt := 26) hx hb dX11_ahead_10 (by decide) rfl (by decide : (32 : Int32).toInt = 32) (fun k_10 => ?_) (fun k_10 => ?_)
      · refine lv_aload_n hx hb dX11_ahead_26 rfl (lv_at hl 0 rfl) ?_
        refine lv_dup hx hb dX11_ahead_27 rfl ?_
        refine va_get (D := g.1) (ci := 11) (v := .int (I_m_0 0 13)) (C := RX11) (T := TX11) (N := 46) hx hb hi_X11 (fun _ h => h) hown hK.1 hP 0 rfl rfl 13 (by decide) hf_131 (fun _ h9 => h9) rfl dX11_ahead_28 ?_
        refine lv_iconst (v := 1) hx hb dX11_ahead_31 (by decide) ?_
        refine r_iadd hx hb dX11_ahead_32 rfl (by decide : (1 : Int32).toInt = 1) (fun x2 e_x2 t_x2 => ?_)
        try have t_x2 := t_x2 (by omega)
        refine va_put (D := g.1) (ci := 11) (v := .int x2) (ty := .int) (C := RX11) (T := TX11) (N := 46) hx hb hi_X11 (fun _ h => h) tyX11 tyX11_ok nmX11 hown hK.1 hP hD hS 0 rfl rfl 13 (by decide) hf_131 (fun _ h9 => h9) rfl (by decide +kernel) rfl rfl (Nat.le_of_ble_eq_true rfl) dX11_ahead_33 (fun H locs hP hD hS => ?_)
        have hP : va_P g.1 vwCl (wX11 g a_m (uF I_m_0 0 13 x2) J_m) H := hP
        have hD : va_D A (wX11 g a_m (uF I_m_0 0 13 x2) J_m) := hD
        have hk_33 : KK [] [11, 12, 13, 14] I_m (uF I_m_0 0 13 x2) := KK.uf hk_0 (by decide)
        refine lv_goto (tgt := 0) hx hb dX11_ahead_36 (by decide) ?_
        exact ih_0 (uF I_m_0 0 13 x2) hk_33 (show (I_m 0 13).toInt ≤ (x2).toInt ∧ (x2).toInt ≤ (I_m 0 10).toInt from (by omega)) (fx_all1 (P := fun b => b = 10 ∨ b = 32) hb_0 (by omega) (by first | (have w := (fx_by hb5 (by omega)).2; rw [hr0] at w; exact Or.inr (w.trans (by omega))) | (have w := (fx_by hb18 (by omega)).2; rw [hr0] at w; exact Or.inl (w.trans (by omega)))) (show (x2).toInt = _ from (by omega))) (show (I_m 0 10).toInt + 1 - (x2).toInt < _ from (by omega)) _ _ hP hD hS ls hl
      · refine lv_aload_n hx hb dX11_ahead_13 rfl (lv_at hl 0 rfl) ?_
        refine lv_aload_n hx hb dX11_ahead_14 rfl (lv_at hl 0 rfl) ?_
        refine va_get (D := g.1) (ci := 11) (v := .int (I_m_0 0 13)) (C := RX11) (T := TX11) (N := 46) hx hb hi_X11 (fun _ h => h) hown hK.1 hP 0 rfl rfl 13 (by decide) hf_131 (fun _ h9 => h9) rfl dX11_ahead_15 ?_
        refine PurI.cv (As := [.int (I_m_0 0 13)]) (kX11_byteAt l g a_m I_m_0 J_m (I_m_0 0 13) (show ((I_m_0 0 10)).toInt ≤ 900 from (by omega)) (by omega)) fx (gUV (uT _) u_526 u_527 u_528 u_5 u_529) rfl hdX11_byteAt ⟨Nat.le_of_ble_eq_true rfl, Nat.le_of_ble_eq_true rfl⟩ hK hP [0, 1, 2, 3, 4, 5, 6, 7, 8, 9, 10, 11, 12, 13, 14, 15, 16, 17, 18, 19, 20, 21, 22] rfl rfl rfl rfl rfl hl.1 (Nat.le_of_ble_eq_true rfl) dX11_ahead_18 (fun r3 p_r3 => ?_)
        have hb18 := p_r3
        refine lv_bipush (v := 10) hx hb dX11_ahead_21 (by decide) ?_
        refine q_icmp_ne (tgt := 39) hx hb dX11_ahead_23 (by decide) rfl (by decide : (10 : Int32).toInt = 10) (fun k_23 => ?_) (fun k_23 => ?_)
        · have hnb : (I_m_0 0 13).toInt < (I_m 0 10).toInt → ¬ (fxBm (I_m 6) (I_m_0 0 13).toInt.toNat = 10 ∨ fxBm (I_m 6) (I_m_0 0 13).toInt.toNat = 32) := (by have w := fx_nbl hb5 hb18 (by omega) (by omega); rw [hr0] at w; exact fun q => w (by omega))
          refine lv_aload_n hx hb dX11_ahead_39 rfl (lv_at hl 0 rfl) ?_
          refine lv_aload_n hx hb dX11_ahead_40 rfl (lv_at hl 0 rfl) ?_
          refine va_get (D := g.1) (ci := 11) (v := .int (I_m_0 0 13)) (C := RX11) (T := TX11) (N := 46) hx hb hi_X11 (fun _ h => h) hown hK.1 hP 0 rfl rfl 13 (by decide) hf_131 (fun _ h9 => h9) rfl dX11_ahead_41 ?_
          refine va_put (D := g.1) (ci := 11) (v := .int (I_m_0 0 13)) (ty := .int) (C := RX11) (T := TX11) (N := 46) hx hb hi_X11 (fun _ h => h) tyX11 tyX11_ok nmX11 hown hK.1 hP hD hS 0 rfl rfl 12 (by decide) hf_138 (fun _ h9 => h9) rfl (by decide +kernel) rfl rfl (Nat.le_of_ble_eq_true rfl) dX11_ahead_44 (fun H locs hP hD hS => ?_)
          have hP : va_P g.1 vwCl (wX11 g a_m (uF I_m_0 0 12 (I_m_0 0 13)) J_m) H := hP
          have hD : va_D A (wX11 g a_m (uF I_m_0 0 12 (I_m_0 0 13)) J_m) := hD
          have hk_44 : KK [] [11, 12, 13, 14] I_m (uF I_m_0 0 12 (I_m_0 0 13)) := KK.uf hk_0 (by decide)
          refine lv_aload_n hx hb dX11_ahead_47 rfl (lv_at hl 0 rfl) ?_
          refine lv_aload_n hx hb dX11_ahead_48 rfl (lv_at hl 0 rfl) ?_
          refine va_get (D := g.1) (ci := 11) (v := .int (I_m_0 0 13)) (C := RX11) (T := TX11) (N := 46) hx hb hi_X11 (fun _ h => h) hown hK.1 hP 0 rfl rfl 13 (by decide) hf_131 (fun _ h9 => h9) rfl dX11_ahead_49 ?_
          refine PurI.cv (As := [.int (I_m_0 0 13)]) (kX11_byteAt l g a_m (uF I_m_0 0 12 (I_m_0 0 13)) J_m (I_m_0 0 13) (show ((I_m_0 0 10)).toInt ≤ 900 from (by omega)) (by omega)) fx (gUV (uT _) u_526 u_527 u_528 u_5 u_529) rfl hdX11_byteAt ⟨Nat.le_of_ble_eq_true rfl, Nat.le_of_ble_eq_true rfl⟩ hK hP [0, 1, 2, 3, 4, 5, 6, 7, 8, 9, 10, 11, 12, 13, 14, 15, 16, 17, 18, 19, 20, 21, 22] rfl rfl rfl rfl rfl hl.1 (Nat.le_of_ble_eq_true rfl) dX11_ahead_52 (fun r4 p_r4 => ?_)
          have p_r4 : (((I_m_0 0 13)).toInt < (I_m_0 0 10).toInt ∧ r4 = (I_m_0 6) ((I_m_0 0 13)).toNatClampNeg &&& 255 ∧ 0 ≤ r4.toInt ∧ r4.toInt ≤ 255) ∨ ((I_m_0 0 10).toInt ≤ ((I_m_0 0 13)).toInt ∧ r4.toInt = -1) := p_r4
          have hb52 := p_r4
          refine lv_istore_n (lv' := [(1, .int r4), (0, .ref (a_m 0))]) hx hb dX11_ahead_55 rfl hl (by decide) rfl (fun ls hl => ?_)
          refine lv_aload_n hx hb dX11_ahead_56 rfl (lv_at hl 1 rfl) ?_
          refine lv_iload_n hx hb dX11_ahead_57 rfl (lv_at hl 0 rfl) ?_
          refine va_put (D := g.1) (ci := 11) (v := .int r4) (ty := .int) (C := RX11) (T := TX11) (N := 46) hx hb hi_X11 (fun _ h => h) tyX11 tyX11_ok nmX11 hown hK.1 hP hD hS 0 rfl rfl 14 (by decide) hf_141 (fun _ h9 => h9) rfl (by decide +kernel) rfl rfl (Nat.le_of_ble_eq_true rfl) dX11_ahead_58 (fun H locs hP hD hS => ?_)
          have hP : va_P g.1 vwCl (wX11 g a_m (uF (uF I_m_0 0 12 (I_m_0 0 13)) 0 14 r4) J_m) H := hP
          have hD : va_D A (wX11 g a_m (uF (uF I_m_0 0 12 (I_m_0 0 13)) 0 14 r4) J_m) := hD
          have hk_58 : KK [] [11, 12, 13, 14] I_m (uF (uF I_m_0 0 12 (I_m_0 0 13)) 0 14 r4) := KK.uf hk_44 (by decide)
          refine lv_iload_n hx hb dX11_ahead_61 rfl (lv_at hl 0 rfl) ?_
          refine lv_iconst (v := -1) hx hb dX11_ahead_62 (by decide) ?_
          refine q_icmp_ne (tgt := 74) hx hb dX11_ahead_63 (by decide) rfl (by decide : (-1 : Int32).toInt = -1) (fun k_63 => ?_) (fun k_63 => ?_)
          · have hcb : fxBm (I_m 6) (I_m_0 0 13).toInt.toNat = r4.toInt ∧ (I_m_0 0 13).toInt < (I_m 0 10).toInt := (by have w := fx_by hb52 (by rcases hb52 with q | q; omega; omega); have w2 : fxBm (I_m_0 6) (I_m_0 0 13).toInt.toNat = r4.toInt := w.2; rw [hr0] at w2; exact ⟨w2, by have w3 : (I_m_0 0 13).toInt < (I_m_0 0 10).toInt := w.1; omega⟩)
            have hcb0 : (I_m 0 13).toInt ≤ (I_m_0 0 13).toInt := hv_0.1
            refine lv_iload_n hx hb dX11_ahead_74 rfl (lv_at hl 0 rfl) ?_
            refine PurI.cs (C := RX11) (As := [.int r4]) (kX11_isSmall l g r4) fx (gUS (uT _) u_530 u_531 u_5 u_532) rfl hdX11_isSmall ⟨Nat.le_of_ble_eq_true rfl, Nat.le_of_ble_eq_true rfl⟩ hK hP [] rfl rfl rfl hl.1 (Nat.le_of_ble_eq_true rfl) dX11_ahead_75 (fun r5 p_r5 => ?_)
            refine q_if_eq (tgt := 116) hx hb dX11_ahead_78 (by decide) rfl (fun b_78 k_78 => ?_) (fun b_78 k_78 => ?_)
            · have q_78 := bP.f p_r5 b_78
              refine lv_iload_n hx hb dX11_ahead_116 rfl (lv_at hl 0 rfl) ?_
              refine PurI.cs (C := RX11) (As := [.int r4]) (kX11_isDigit l g r4) fx (gUS (uT _) u_533 u_534 u_5 u_535) rfl hdX11_isDigit ⟨Nat.le_of_ble_eq_true rfl, Nat.le_of_ble_eq_true rfl⟩ hK hP [] rfl rfl rfl hl.1 (Nat.le_of_ble_eq_true rfl) dX11_ahead_117 (fun r6 p_r6 => ?_)
              refine q_if_eq (tgt := 208) hx hb dX11_ahead_120 (by decide) rfl (fun b_120 k_120 => ?_) (fun b_120 k_120 => ?_)
              · have q_120 := bP.f p_r6 b_120
                refine lv_aload_n hx hb dX11_ahead_208 rfl (lv_at hl 1 rfl) ?_
                refine lv_dup hx hb dX11_ahead_209 rfl ?_
                refine va_get (D := g.1) (ci := 11) (v := .int (I_m_0 0 13)) (C := RX11) (T := TX11) (N := 46) hx hb hi_X11 (fun _ h => h) hown hK.1 hP 0 rfl rfl 13 (by decide) hf_131 (fun _ h9 => h9) rfl dX11_ahead_210 ?_
                refine lv_iconst (v := 1) hx hb dX11_ahead_213 (by decide) ?_
                refine r_iadd hx hb dX11_ahead_214 rfl (by decide : (1 : Int32).toInt = 1) (fun x7 e_x7 t_x7 => ?_)
                try have t_x7 := t_x7 (by omega)
                refine va_put (D := g.1) (ci := 11) (v := .int x7) (ty := .int) (C := RX11) (T := TX11) (N := 46) hx hb hi_X11 (fun _ h => h) tyX11 tyX11_ok nmX11 hown hK.1 hP hD hS 0 rfl rfl 13 (by decide) hf_131 (fun _ h9 => h9) rfl (by decide +kernel) rfl rfl (Nat.le_of_ble_eq_true rfl) dX11_ahead_215 (fun H locs hP hD hS => ?_)
                have hP : va_P g.1 vwCl (wX11 g a_m (uF (uF (uF I_m_0 0 12 (I_m_0 0 13)) 0 14 r4) 0 13 x7) J_m) H := hP
                have hD : va_D A (wX11 g a_m (uF (uF (uF I_m_0 0 12 (I_m_0 0 13)) 0 14 r4) 0 13 x7) J_m) := hD
                have hk_215 : KK [] [11, 12, 13, 14] I_m (uF (uF (uF I_m_0 0 12 (I_m_0 0 13)) 0 14 r4) 0 13 x7) := KK.uf hk_58 (by decide)
                refine lv_aload_n hx hb dX11_ahead_218 rfl (lv_at hl 1 rfl) ?_
                refine lv_iload_n hx hb dX11_ahead_219 rfl (lv_at hl 0 rfl) ?_
                refine lv_bipush (v := 59) hx hb dX11_ahead_220 (by decide) ?_
                refine q_icmp_ne (tgt := 229) hx hb dX11_ahead_222 (by decide) rfl (by decide : (59 : Int32).toInt = 59) (fun k_222 => ?_) (fun k_222 => ?_)
                · have hok : (fxBm (I_m 6) (I_m_0 0 13).toInt.toNat = 59 ∧ (4 : Int) = 2) ∨ (fxBm (I_m 6) (I_m_0 0 13).toInt.toNat ≠ 59 ∧ (4 : Int) = 4) := Or.inr ⟨by omega, rfl⟩
                  refine lv_iconst (v := 1) hx hb dX11_ahead_229 (by decide) ?_
                  refine va_put (D := g.1) (ci := 11) (v := .int (1 : Int32)) (ty := .int) (C := RX11) (T := TX11) (N := 46) hx hb hi_X11 (fun _ h => h) tyX11 tyX11_ok nmX11 hown hK.1 hP hD hS 0 rfl rfl 11 (by decide) hf_144 (fun _ h9 => h9) rfl (by decide +kernel) rfl rfl (Nat.le_of_ble_eq_true rfl) dX11_ahead_230 (fun H locs hP hD hS => ?_)
                  have hP : va_P g.1 vwCl (wX11 g a_m (uF (uF (uF (uF I_m_0 0 12 (I_m_0 0 13)) 0 14 r4) 0 13 x7) 0 11 (1 : Int32)) J_m) H := hP
                  have hD : va_D A (wX11 g a_m (uF (uF (uF (uF I_m_0 0 12 (I_m_0 0 13)) 0 14 r4) 0 13 x7) 0 11 (1 : Int32)) J_m) := hD
                  have hk_230 : KK [] [11, 12, 13, 14] I_m (uF (uF (uF (uF I_m_0 0 12 (I_m_0 0 13)) 0 14 r4) 0 13 x7) 0 11 (1 : Int32)) := KK.uf hk_215 (by decide)
                  have hLn : fxLM (uF (uF (uF (uF I_m_0 0 12 (I_m_0 0 13)) 0 14 r4) 0 13 x7) 0 11 (1 : Int32)) (I_m 0 13).toInt := (by first | exact hLm | exact fxLM.mk (kd := 4) (fr := (I_m_0 0 13).toInt) (en := (I_m_0 0 13).toInt + 1) (va := 0) ((hk_230).row 6 (by decide)) ((hk_230).num 10 (by decide)) (show fxKm ((1 : Int32)).toInt = 4 from (by decide)) rfl (show (x7).toInt = (I_m_0 0 13).toInt + 1 from (by omega)) (fun q => absurd q (by decide)) (fun q => absurd (show ((1 : Int32)).toInt = 4 from q) (by decide)) ⟨(show 0 ≤ ((1 : Int32)).toInt from (by decide)), (show ((1 : Int32)).toInt ≤ 4 from (by decide))⟩ ⟨⟨by omega, by omega, hb_0, hnb⟩, Or.inr (Or.inr (Or.inr ⟨hcb.2, by rw [hcb.1]; exact q_78, by rw [hcb.1]; exact q_120, rfl, hok⟩))⟩ | exact fxLM.mk (kd := 2) (fr := (I_m_0 0 13).toInt) (en := (I_m_0 0 13).toInt + 1) (va := 0) ((hk_230).row 6 (by decide)) ((hk_230).num 10 (by decide)) (show fxKm ((4 : Int32)).toInt = 2 from (by decide)) rfl (show (x7).toInt = (I_m_0 0 13).toInt + 1 from (by omega)) (fun q => absurd q (by decide)) (fun _ => (show (r4).toInt = 59 from (by omega))) ⟨(show 0 ≤ ((4 : Int32)).toInt from (by decide)), (show ((4 : Int32)).toInt ≤ 4 from (by decide))⟩ ⟨⟨by omega, by omega, hb_0, hnb⟩, Or.inr (Or.inr (Or.inr ⟨hcb.2, by rw [hcb.1]; exact q_78, by rw [hcb.1]; exact q_120, rfl, hok⟩))⟩)
                  refine hret 233 ls _ _ (uF (uF (uF (uF I_m_0 0 12 (I_m_0 0 13)) 0 14 r4) 0 13 x7) 0 11 (1 : Int32)) dX11_ahead_233 hS hP hD ?_
                  exact ⟨hk_230, (show AH I_m _ from (by unfold AH PS PL AD; show (((0 ≤ ((I_m_0 0 10)).toInt ∧ ((I_m_0 0 10)).toInt ≤ 900) ∧ 0 ≤ (x7).toInt ∧ (x7).toInt ≤ ((I_m_0 0 10)).toInt) ∧ (0 ≤ ((I_m_0 0 13)).toInt ∧ ((I_m_0 0 13)).toInt ≤ (x7).toInt) ∧ (0 ≤ ((1 : Int32)).toInt ∧ ((1 : Int32)).toInt ≤ 4) ∧ (((1 : Int32)).toInt = 2 → ((I_m_0 0 13)).toInt < (x7).toInt)) ∧ (I_m 0 13).toInt ≤ (x7).toInt ∧ (((1 : Int32)).toInt = 0 ∨ (I_m 0 13).toInt < (x7).toInt); refine ⟨⟨⟨?_, ?_⟩, ?_, ?_, ?_⟩, ?_, ?_⟩ <;> omega)), hLn⟩
                · have hok : (fxBm (I_m 6) (I_m_0 0 13).toInt.toNat = 59 ∧ (2 : Int) = 2) ∨ (fxBm (I_m 6) (I_m_0 0 13).toInt.toNat ≠ 59 ∧ (2 : Int) = 4) := Or.inl ⟨by omega, rfl⟩
                  refine lv_iconst (v := 4) hx hb dX11_ahead_225 (by decide) ?_
                  refine lv_goto (tgt := 230) hx hb dX11_ahead_226 (by decide) ?_
                  refine va_put (D := g.1) (ci := 11) (v := .int (4 : Int32)) (ty := .int) (C := RX11) (T := TX11) (N := 46) hx hb hi_X11 (fun _ h => h) tyX11 tyX11_ok nmX11 hown hK.1 hP hD hS 0 rfl rfl 11 (by decide) hf_144 (fun _ h9 => h9) rfl (by decide +kernel) rfl rfl (Nat.le_of_ble_eq_true rfl) dX11_ahead_230 (fun H locs hP hD hS => ?_)
                  have hP : va_P g.1 vwCl (wX11 g a_m (uF (uF (uF (uF I_m_0 0 12 (I_m_0 0 13)) 0 14 r4) 0 13 x7) 0 11 (4 : Int32)) J_m) H := hP
                  have hD : va_D A (wX11 g a_m (uF (uF (uF (uF I_m_0 0 12 (I_m_0 0 13)) 0 14 r4) 0 13 x7) 0 11 (4 : Int32)) J_m) := hD
                  have hk_230 : KK [] [11, 12, 13, 14] I_m (uF (uF (uF (uF I_m_0 0 12 (I_m_0 0 13)) 0 14 r4) 0 13 x7) 0 11 (4 : Int32)) := KK.uf hk_215 (by decide)
                  have hLn : fxLM (uF (uF (uF (uF I_m_0 0 12 (I_m_0 0 13)) 0 14 r4) 0 13 x7) 0 11 (4 : Int32)) (I_m 0 13).toInt := (by first | exact hLm | exact fxLM.mk (kd := 4) (fr := (I_m_0 0 13).toInt) (en := (I_m_0 0 13).toInt + 1) (va := 0) ((hk_230).row 6 (by decide)) ((hk_230).num 10 (by decide)) (show fxKm ((1 : Int32)).toInt = 4 from (by decide)) rfl (show (x7).toInt = (I_m_0 0 13).toInt + 1 from (by omega)) (fun q => absurd q (by decide)) (fun q => absurd (show ((1 : Int32)).toInt = 4 from q) (by decide)) ⟨(show 0 ≤ ((1 : Int32)).toInt from (by decide)), (show ((1 : Int32)).toInt ≤ 4 from (by decide))⟩ ⟨⟨by omega, by omega, hb_0, hnb⟩, Or.inr (Or.inr (Or.inr ⟨hcb.2, by rw [hcb.1]; exact q_78, by rw [hcb.1]; exact q_120, rfl, hok⟩))⟩ | exact fxLM.mk (kd := 2) (fr := (I_m_0 0 13).toInt) (en := (I_m_0 0 13).toInt + 1) (va := 0) ((hk_230).row 6 (by decide)) ((hk_230).num 10 (by decide)) (show fxKm ((4 : Int32)).toInt = 2 from (by decide)) rfl (show (x7).toInt = (I_m_0 0 13).toInt + 1 from (by omega)) (fun q => absurd q (by decide)) (fun _ => (show (r4).toInt = 59 from (by omega))) ⟨(show 0 ≤ ((4 : Int32)).toInt from (by decide)), (show ((4 : Int32)).toInt ≤ 4 from (by decide))⟩ ⟨⟨by omega, by omega, hb_0, hnb⟩, Or.inr (Or.inr (Or.inr ⟨hcb.2, by rw [hcb.1]; exact q_78, by rw [hcb.1]; exact q_120, rfl, hok⟩))⟩)
                  refine hret 233 ls _ _ (uF (uF (uF (uF I_m_0 0 12 (I_m_0 0 13)) 0 14 r4) 0 13 x7) 0 11 (4 : Int32)) dX11_ahead_233 hS hP hD ?_
                  exact ⟨hk_230, (show AH I_m _ from (by unfold AH PS PL AD; show (((0 ≤ ((I_m_0 0 10)).toInt ∧ ((I_m_0 0 10)).toInt ≤ 900) ∧ 0 ≤ (x7).toInt ∧ (x7).toInt ≤ ((I_m_0 0 10)).toInt) ∧ (0 ≤ ((I_m_0 0 13)).toInt ∧ ((I_m_0 0 13)).toInt ≤ (x7).toInt) ∧ (0 ≤ ((4 : Int32)).toInt ∧ ((4 : Int32)).toInt ≤ 4) ∧ (((4 : Int32)).toInt = 2 → ((I_m_0 0 13)).toInt < (x7).toInt)) ∧ (I_m 0 13).toInt ≤ (x7).toInt ∧ (((4 : Int32)).toInt = 0 ∨ (I_m 0 13).toInt < (x7).toInt); refine ⟨⟨⟨?_, ?_⟩, ?_, ?_, ?_⟩, ?_, ?_⟩ <;> omega)), hLn⟩
              · have q_120 := bP.t p_r6 b_120
                refine lv_aload_n hx hb dX11_ahead_123 rfl (lv_at hl 1 rfl) ?_
                refine lv_iconst (v := 0) hx hb dX11_ahead_124 (by decide) ?_
                refine va_put (D := g.1) (ci := 11) (v := .int (0 : Int32)) (ty := .int) (C := RX11) (T := TX11) (N := 46) hx hb hi_X11 (fun _ h => h) tyX11 tyX11_ok nmX11 hown hK.1 hP hD hS 0 rfl rfl 14 (by decide) hf_141 (fun _ h9 => h9) rfl (by decide +kernel) rfl rfl (Nat.le_of_ble_eq_true rfl) dX11_ahead_125 (fun H locs hP hD hS => ?_)
                have hP : va_P g.1 vwCl (wX11 g a_m (uF (uF (uF I_m_0 0 12 (I_m_0 0 13)) 0 14 r4) 0 14 (0 : Int32)) J_m) H := hP
                have hD : va_D A (wX11 g a_m (uF (uF (uF I_m_0 0 12 (I_m_0 0 13)) 0 14 r4) 0 14 (0 : Int32)) J_m) := hD
                have hk_125 : KK [] [11, 12, 13, 14] I_m (uF (uF (uF I_m_0 0 12 (I_m_0 0 13)) 0 14 r4) 0 14 (0 : Int32)) := KK.uf hk_58 (by decide)
                have L128 : ∀ (nn : Nat) (I_m_128 : Nat → Nat → Int32), (hk_128 : KK [] [11, 12, 13, 14] I_m I_m_128) → (hv_128 : (I_m 0 13).toInt ≤ (I_m_128 0 12).toInt ∧ (I_m_128 0 12).toInt ≤ (I_m_128 0 13).toInt ∧ (I_m_128 0 13).toInt ≤ (I_m 0 10).toInt) → (hf_128 : (I_m_128 0 12).toInt < (I_m_128 0 13).toInt ∨ ((I_m_128 0 12).toInt = (I_m_128 0 13).toInt ∧ (I_m_128 0 13).toInt < (I_m 0 10).toInt ∧ 48 ≤ (I_m_128 6 (I_m_128 0 13).toNatClampNeg &&& 255).toInt ∧ (I_m_128 6 (I_m_128 0 13).toNatClampNeg &&& 255).toInt ≤ 57)) → (ht_128 : (I_m_128 0 12).toInt = (I_m_0 0 13).toInt) → (hwd_128 : ∀ j : Nat, (I_m_0 0 13).toInt ≤ (j : Int) → (j : Int) < (I_m_128 0 13).toInt → 48 ≤ fxBm (I_m 6) j ∧ fxBm (I_m 6) j ≤ 57) → (hq_128 : (((I_m_128 0 13).toInt - (I_m_0 0 13).toInt) ≤ 4 → (I_m_128 0 14).toInt = fxDv (fxBm (I_m 6)) (I_m_0 0 13).toInt.toNat ((I_m_128 0 13).toInt - (I_m_0 0 13).toInt).toNat)) → (hu_128 : 0 ≤ (I_m_128 0 14).toInt ∧ (I_m_128 0 14).toInt ≤ 100000 ∧ (((I_m_128 0 13).toInt - (I_m_0 0 13).toInt) ≤ 0 → (I_m_128 0 14).toInt ≤ 0) ∧ (((I_m_128 0 13).toInt - (I_m_0 0 13).toInt) ≤ 1 → (I_m_128 0 14).toInt ≤ 9) ∧ (((I_m_128 0 13).toInt - (I_m_0 0 13).toInt) ≤ 2 → (I_m_128 0 14).toInt ≤ 99) ∧ (((I_m_128 0 13).toInt - (I_m_0 0 13).toInt) ≤ 3 → (I_m_128 0 14).toInt ≤ 999) ∧ (((I_m_128 0 13).toInt - (I_m_0 0 13).toInt) ≤ 4 → (I_m_128 0 14).toInt ≤ 9999)) → (((I_m 0 10).toInt + 1 - ((I_m_128 0 13)).toInt) < (nn : Int)) → ∀ (H : Heap) (locs : List Loc), va_P g.1 vwCl (wX11 g a_m I_m_128 J_m) H → va_D A (wX11 g a_m I_m_128 J_m) → va_S A s.heap H locs → ∀ ls : Array Slot, lv_has ls 2 [(1, .int r4), (0, .ref (a_m 0))] → W p l e (rm 1) s m args below meth c H locs 0 0 Q (F0 m 128 ls []) := by
                  intro n_128
                  induction n_128 with
                  | zero =>
                    intro I_m_128 hk_128 hv_128 hf_128 ht_128 hwd_128 hq_128 hu_128 hms_128 H locs hP hD hS ls hl
                    exfalso; omega
                  | succ n_128 ih_128 =>
                    intro I_m_128 hk_128 hv_128 hf_128 ht_128 hwd_128 hq_128 hu_128 hms_128 H locs hP hD hS ls hl
                    have hz128 : (I_m_128 0 10).toInt = (I_m 0 10).toInt := congrArg Int32.toInt (hk_128.num 10 (by decide))
                    have hr128 : I_m_128 6 = I_m 6 := hk_128.row 6 (by decide)
                    refine lv_aload_n hx hb dX11_ahead_128 rfl (lv_at hl 1 rfl) ?_
                    refine lv_aload_n hx hb dX11_ahead_129 rfl (lv_at hl 1 rfl) ?_
                    refine va_get (D := g.1) (ci := 11) (v := .int (I_m_128 0 13)) (C := RX11) (T := TX11) (N := 46) hx hb hi_X11 (fun _ h => h) hown hK.1 hP 0 rfl rfl 13 (by decide) hf_131 (fun _ h9 => h9) rfl dX11_ahead_130 ?_
                    refine PurI.cv (As := [.int (I_m_128 0 13)]) (kX11_byteAt l g a_m I_m_128 J_m (I_m_128 0 13) (show ((I_m_128 0 10)).toInt ≤ 900 from (by omega)) (by omega)) fx (gUV (uT _) u_526 u_527 u_528 u_5 u_529) rfl hdX11_byteAt ⟨Nat.le_of_ble_eq_true rfl, Nat.le_of_ble_eq_true rfl⟩ hK hP [0, 1, 2, 3, 4, 5, 6, 7, 8, 9, 10, 11, 12, 13, 14, 15, 16, 17, 18, 19, 20, 21, 22] rfl rfl rfl rfl rfl hl.1 (Nat.le_of_ble_eq_true rfl) dX11_ahead_133 (fun r8 p_r8 => ?_)
                    have hb133 := p_r8
                    refine PurI.cs (C := RX11) (As := [.int r8]) (kX11_isDigit l g r8) fx (gUS (uT _) u_533 u_534 u_5 u_535) rfl hdX11_isDigit ⟨Nat.le_of_ble_eq_true rfl, Nat.le_of_ble_eq_true rfl⟩ hK hP [] rfl rfl rfl hl.1 (Nat.le_of_ble_eq_true rfl) dX11_ahead_136 (fun r9 p_r9 => ?_)
                    refine q_if_eq (tgt := 183) hx hb dX11_ahead_139 (by decide) rfl (fun b_139 k_139 => ?_) (fun b_139 k_139 => ?_)
                    · have q_139 := bP.f p_r9 b_139
                      have hnf : ((I_m_128 0 12)).toInt < ((I_m_128 0 13)).toInt := (by rcases hf_128 with q | q; exact q; exfalso; rcases p_r8 with w | w; rw [w.2.1] at q_139; exact q_139 ⟨by omega, by omega⟩; omega)
                      have hnx : (I_m_128 0 13).toInt < (I_m 0 10).toInt → ¬ (48 ≤ fxBm (I_m 6) (I_m_128 0 13).toInt.toNat ∧ fxBm (I_m 6) (I_m_128 0 13).toInt.toNat ≤ 57) := (fun q z => by have w := (fx_byn hb133 (by omega)).1; rw [hr128] at w; exact q_139 ⟨by omega, by omega⟩)
                      refine lv_aload_n hx hb dX11_ahead_183 rfl (lv_at hl 1 rfl) ?_
                      refine lv_aload_n hx hb dX11_ahead_184 rfl (lv_at hl 1 rfl) ?_
                      refine va_get (D := g.1) (ci := 11) (v := .int (I_m_128 0 13)) (C := RX11) (T := TX11) (N := 46) hx hb hi_X11 (fun _ h => h) hown hK.1 hP 0 rfl rfl 13 (by decide) hf_131 (fun _ h9 => h9) rfl dX11_ahead_185 ?_
                      refine lv_aload_n hx hb dX11_ahead_188 rfl (lv_at hl 1 rfl) ?_
                      refine va_get (D := g.1) (ci := 11) (v := .int (I_m_128 0 12)) (C := RX11) (T := TX11) (N := 46) hx hb hi_X11 (fun _ h => h) hown hK.1 hP 0 rfl rfl 12 (by decide) hf_138 (fun _ h9 => h9) rfl dX11_ahead_189 ?_
                      refine r_isub hx hb dX11_ahead_192 rfl rfl (fun x10 e_x10 t_x10 => ?_)
                      try have t_x10 := t_x10 (by omega)
                      refine lv_iconst (v := 4) hx hb dX11_ahead_193 (by decide) ?_
                      refine q_icmp_le (tgt := 201) hx hb dX11_ahead_194 (by decide) rfl (by decide : (4 : Int32).toInt = 4) (fun k_194 => ?_) (fun k_194 => ?_)
                      · refine lv_iconst (v := 3) hx hb dX11_ahead_201 (by decide) ?_
                        refine va_put (D := g.1) (ci := 11) (v := .int (3 : Int32)) (ty := .int) (C := RX11) (T := TX11) (N := 46) hx hb hi_X11 (fun _ h => h) tyX11 tyX11_ok nmX11 hown hK.1 hP hD hS 0 rfl rfl 11 (by decide) hf_144 (fun _ h9 => h9) rfl (by decide +kernel) rfl rfl (Nat.le_of_ble_eq_true rfl) dX11_ahead_202 (fun H locs hP hD hS => ?_)
                        have hP : va_P g.1 vwCl (wX11 g a_m (uF I_m_128 0 11 (3 : Int32)) J_m) H := hP
                        have hD : va_D A (wX11 g a_m (uF I_m_128 0 11 (3 : Int32)) J_m) := hD
                        have hk_202 : KK [] [11, 12, 13, 14] I_m (uF I_m_128 0 11 (3 : Int32)) := KK.uf hk_128 (by decide)
                        have hLm : fxLM (uF I_m_128 0 11 (3 : Int32)) (I_m 0 13).toInt := (by first | exact fxLM.mk (kd := 4) (fr := (I_m_128 0 12).toInt) (en := (I_m_128 0 13).toInt) (va := 0) ((hk_202).row 6 (by decide)) ((hk_202).num 10 (by decide)) (show fxKm ((1 : Int32)).toInt = 4 from (by decide)) rfl rfl (fun q => absurd q (by decide)) (fun q => absurd (show ((1 : Int32)).toInt = 4 from q) (by decide)) ⟨(show 0 ≤ ((1 : Int32)).toInt from (by decide)), (show ((1 : Int32)).toInt ≤ 4 from (by decide))⟩ (fx_nm hcb0 hcb.2 hb_0 hnb (by rw [hcb.1]; exact q_120) ht_128 (by omega) (by omega) hwd_128 hnx (va := 0) (Or.inl ⟨by omega, rfl⟩)) | exact fxLM.mk (kd := 1) (fr := (I_m_128 0 12).toInt) (en := (I_m_128 0 13).toInt) ((hk_202).row 6 (by decide)) ((hk_202).num 10 (by decide)) (show fxKm ((3 : Int32)).toInt = 1 from (by decide)) rfl rfl (fun _ => rfl) (fun q => absurd (show ((3 : Int32)).toInt = 4 from q) (by decide)) ⟨(show 0 ≤ ((3 : Int32)).toInt from (by decide)), (show ((3 : Int32)).toInt ≤ 4 from (by decide))⟩ (fx_nm hcb0 hcb.2 hb_0 hnb (by rw [hcb.1]; exact q_120) ht_128 (by omega) (by omega) hwd_128 hnx (Or.inr ⟨by omega, rfl, hq_128 (by omega)⟩)))
                        refine lv_goto (tgt := 233) hx hb dX11_ahead_205 (by decide) ?_
                        have hLn : fxLM (uF I_m_128 0 11 (3 : Int32)) (I_m 0 13).toInt := (by first | exact hLm | exact fxLM.mk (kd := 4) (fr := (I_m_0 0 13).toInt) (en := (I_m_0 0 13).toInt + 1) (va := 0) ((hk_202).row 6 (by decide)) ((hk_202).num 10 (by decide)) (show fxKm ((1 : Int32)).toInt = 4 from (by decide)) rfl (show ((I_m_128 0 13)).toInt = (I_m_0 0 13).toInt + 1 from (by omega)) (fun q => absurd q (by decide)) (fun q => absurd (show ((1 : Int32)).toInt = 4 from q) (by decide)) ⟨(show 0 ≤ ((1 : Int32)).toInt from (by decide)), (show ((1 : Int32)).toInt ≤ 4 from (by decide))⟩ ⟨⟨by omega, by omega, hb_0, hnb⟩, Or.inr (Or.inr (Or.inr ⟨hcb.2, by rw [hcb.1]; exact q_78, by rw [hcb.1]; exact q_120, rfl, hok⟩))⟩ | exact fxLM.mk (kd := 2) (fr := (I_m_0 0 13).toInt) (en := (I_m_0 0 13).toInt + 1) (va := 0) ((hk_202).row 6 (by decide)) ((hk_202).num 10 (by decide)) (show fxKm ((4 : Int32)).toInt = 2 from (by decide)) rfl (show ((I_m_128 0 13)).toInt = (I_m_0 0 13).toInt + 1 from (by omega)) (fun q => absurd q (by decide)) (fun _ => (show ((I_m_128 0 14)).toInt = 59 from (by omega))) ⟨(show 0 ≤ ((4 : Int32)).toInt from (by decide)), (show ((4 : Int32)).toInt ≤ 4 from (by decide))⟩ ⟨⟨by omega, by omega, hb_0, hnb⟩, Or.inr (Or.inr (Or.inr ⟨hcb.2, by rw [hcb.1]; exact q_78, by rw [hcb.1]; exact q_120, rfl, hok⟩))⟩)
                        refine hret 233 ls _ _ (uF I_m_128 0 11 (3 : Int32)) dX11_ahead_233 hS hP hD ?_
                        exact ⟨hk_202, (show AH I_m _ from (by unfold AH PS PL AD; show (((0 ≤ ((I_m_128 0 10)).toInt ∧ ((I_m_128 0 10)).toInt ≤ 900) ∧ 0 ≤ ((I_m_128 0 13)).toInt ∧ ((I_m_128 0 13)).toInt ≤ ((I_m_128 0 10)).toInt) ∧ (0 ≤ ((I_m_128 0 12)).toInt ∧ ((I_m_128 0 12)).toInt ≤ ((I_m_128 0 13)).toInt) ∧ (0 ≤ ((3 : Int32)).toInt ∧ ((3 : Int32)).toInt ≤ 4) ∧ (((3 : Int32)).toInt = 2 → ((I_m_128 0 12)).toInt < ((I_m_128 0 13)).toInt)) ∧ (I_m 0 13).toInt ≤ ((I_m_128 0 13)).toInt ∧ (((3 : Int32)).toInt = 0 ∨ (I_m 0 13).toInt < ((I_m_128 0 13)).toInt); refine ⟨⟨⟨?_, ?_⟩, ?_, ?_, ?_⟩, ?_, ?_⟩ <;> omega)), hLn⟩
                      · refine lv_iconst (v := 1) hx hb dX11_ahead_197 (by decide) ?_
                        refine lv_goto (tgt := 202) hx hb dX11_ahead_198 (by decide) ?_
                        refine va_put (D := g.1) (ci := 11) (v := .int (1 : Int32)) (ty := .int) (C := RX11) (T := TX11) (N := 46) hx hb hi_X11 (fun _ h => h) tyX11 tyX11_ok nmX11 hown hK.1 hP hD hS 0 rfl rfl 11 (by decide) hf_144 (fun _ h9 => h9) rfl (by decide +kernel) rfl rfl (Nat.le_of_ble_eq_true rfl) dX11_ahead_202 (fun H locs hP hD hS => ?_)
                        have hP : va_P g.1 vwCl (wX11 g a_m (uF I_m_128 0 11 (1 : Int32)) J_m) H := hP
                        have hD : va_D A (wX11 g a_m (uF I_m_128 0 11 (1 : Int32)) J_m) := hD
                        have hk_202 : KK [] [11, 12, 13, 14] I_m (uF I_m_128 0 11 (1 : Int32)) := KK.uf hk_128 (by decide)
                        have hLm : fxLM (uF I_m_128 0 11 (1 : Int32)) (I_m 0 13).toInt := (by first | exact fxLM.mk (kd := 4) (fr := (I_m_128 0 12).toInt) (en := (I_m_128 0 13).toInt) (va := 0) ((hk_202).row 6 (by decide)) ((hk_202).num 10 (by decide)) (show fxKm ((1 : Int32)).toInt = 4 from (by decide)) rfl rfl (fun q => absurd q (by decide)) (fun q => absurd (show ((1 : Int32)).toInt = 4 from q) (by decide)) ⟨(show 0 ≤ ((1 : Int32)).toInt from (by decide)), (show ((1 : Int32)).toInt ≤ 4 from (by decide))⟩ (fx_nm hcb0 hcb.2 hb_0 hnb (by rw [hcb.1]; exact q_120) ht_128 (by omega) (by omega) hwd_128 hnx (va := 0) (Or.inl ⟨by omega, rfl⟩)) | exact fxLM.mk (kd := 1) (fr := (I_m_128 0 12).toInt) (en := (I_m_128 0 13).toInt) ((hk_202).row 6 (by decide)) ((hk_202).num 10 (by decide)) (show fxKm ((3 : Int32)).toInt = 1 from (by decide)) rfl rfl (fun _ => rfl) (fun q => absurd (show ((3 : Int32)).toInt = 4 from q) (by decide)) ⟨(show 0 ≤ ((3 : Int32)).toInt from (by decide)), (show ((3 : Int32)).toInt ≤ 4 from (by decide))⟩ (fx_nm hcb0 hcb.2 hb_0 hnb (by rw [hcb.1]; exact q_120) ht_128 (by omega) (by omega) hwd_128 hnx (Or.inr ⟨by omega, rfl, hq_128 (by omega)⟩)))
                        refine lv_goto (tgt := 233) hx hb dX11_ahead_205 (by decide) ?_
                        have hLn : fxLM (uF I_m_128 0 11 (1 : Int32)) (I_m 0 13).toInt := (by first | exact hLm | exact fxLM.mk (kd := 4) (fr := (I_m_0 0 13).toInt) (en := (I_m_0 0 13).toInt + 1) (va := 0) ((hk_202).row 6 (by decide)) ((hk_202).num 10 (by decide)) (show fxKm ((1 : Int32)).toInt = 4 from (by decide)) rfl (show ((I_m_128 0 13)).toInt = (I_m_0 0 13).toInt + 1 from (by omega)) (fun q => absurd q (by decide)) (fun q => absurd (show ((1 : Int32)).toInt = 4 from q) (by decide)) ⟨(show 0 ≤ ((1 : Int32)).toInt from (by decide)), (show ((1 : Int32)).toInt ≤ 4 from (by decide))⟩ ⟨⟨by omega, by omega, hb_0, hnb⟩, Or.inr (Or.inr (Or.inr ⟨hcb.2, by rw [hcb.1]; exact q_78, by rw [hcb.1]; exact q_120, rfl, hok⟩))⟩ | exact fxLM.mk (kd := 2) (fr := (I_m_0 0 13).toInt) (en := (I_m_0 0 13).toInt + 1) (va := 0) ((hk_202).row 6 (by decide)) ((hk_202).num 10 (by decide)) (show fxKm ((4 : Int32)).toInt = 2 from (by decide)) rfl (show ((I_m_128 0 13)).toInt = (I_m_0 0 13).toInt + 1 from (by omega)) (fun q => absurd q (by decide)) (fun _ => (show ((I_m_128 0 14)).toInt = 59 from (by omega))) ⟨(show 0 ≤ ((4 : Int32)).toInt from (by decide)), (show ((4 : Int32)).toInt ≤ 4 from (by decide))⟩ ⟨⟨by omega, by omega, hb_0, hnb⟩, Or.inr (Or.inr (Or.inr ⟨hcb.2, by rw [hcb.1]; exact q_78, by rw [hcb.1]; exact q_120, rfl, hok⟩))⟩)
                        refine hret 233 ls _ _ (uF I_m_128 0 11 (1 : Int32)) dX11_ahead_233 hS hP hD ?_
                        exact ⟨hk_202, (show AH I_m _ from (by unfold AH PS PL AD; show (((0 ≤ ((I_m_128 0 10)).toInt ∧ ((I_m_128 0 10)).toInt ≤ 900) ∧ 0 ≤ ((I_m_128 0 13)).toInt ∧ ((I_m_128 0 13)).toInt ≤ ((I_m_128 0 10)).toInt) ∧ (0 ≤ ((I_m_128 0 12)).toInt ∧ ((I_m_128 0 12)).toInt ≤ ((I_m_128 0 13)).toInt) ∧ (0 ≤ ((1 : Int32)).toInt ∧ ((1 : Int32)).toInt ≤ 4) ∧ (((1 : Int32)).toInt = 2 → ((I_m_128 0 12)).toInt < ((I_m_128 0 13)).toInt)) ∧ (I_m 0 13).toInt ≤ ((I_m_128 0 13)).toInt ∧ (((1 : Int32)).toInt = 0 ∨ (I_m 0 13).toInt < ((I_m_128 0 13)).toInt); refine ⟨⟨⟨?_, ?_⟩, ?_, ?_, ?_⟩, ?_, ?_⟩ <;> omega)), hLn⟩
                    · have q_139 := bP.t p_r9 b_139
                      have hc133 : fxBm (I_m 6) (I_m_128 0 13).toInt.toNat = r8.toInt := (by have w := (fx_by hb133 (by omega)).2; rw [hr128] at w; exact w)
                      refine lv_aload_n hx hb dX11_ahead_142 rfl (lv_at hl 1 rfl) ?_
                      refine lv_ldc hx hb hown hc_153 dX11_ahead_143 ?_
                      refine lv_bipush (v := 10) hx hb dX11_ahead_145 (by decide) ?_
                      refine lv_aload_n hx hb dX11_ahead_147 rfl (lv_at hl 1 rfl) ?_
                      refine va_get (D := g.1) (ci := 11) (v := .int (I_m_128 0 14)) (C := RX11) (T := TX11) (N := 46) hx hb hi_X11 (fun _ h => h) hown hK.1 hP 0 rfl rfl 14 (by decide) hf_141 (fun _ h9 => h9) rfl dX11_ahead_148 ?_
                      refine r_imul hx hb dX11_ahead_151 (by decide : (10 : Int32).toInt = 10) rfl (fun x11 e_x11 t_x11 => ?_)
                      try have t_x11 := t_x11 (by omega)
                      refine lv_aload_n hx hb dX11_ahead_152 rfl (lv_at hl 1 rfl) ?_
                      refine lv_aload_n hx hb dX11_ahead_153 rfl (lv_at hl 1 rfl) ?_
                      refine va_get (D := g.1) (ci := 11) (v := .int (I_m_128 0 13)) (C := RX11) (T := TX11) (N := 46) hx hb hi_X11 (fun _ h => h) hown hK.1 hP 0 rfl rfl 13 (by decide) hf_131 (fun _ h9 => h9) rfl dX11_ahead_154 ?_
                      refine PurI.cv (As := [.int (I_m_128 0 13)]) (kX11_byteAt l g a_m I_m_128 J_m (I_m_128 0 13) (show ((I_m_128 0 10)).toInt ≤ 900 from (by omega)) (by omega)) fx (gUV (uT _) u_526 u_527 u_528 u_5 u_529) rfl hdX11_byteAt ⟨Nat.le_of_ble_eq_true rfl, Nat.le_of_ble_eq_true rfl⟩ hK hP [0, 1, 2, 3, 4, 5, 6, 7, 8, 9, 10, 11, 12, 13, 14, 15, 16, 17, 18, 19, 20, 21, 22] rfl rfl rfl rfl rfl hl.1 (Nat.le_of_ble_eq_true rfl) dX11_ahead_157 (fun r12 p_r12 => ?_)
                      have hb157 := p_r12
                      have hc157 : (r12).toInt = (r8).toInt := (by have w := (fx_byn hb157 (fx_by hb133 (by omega)).1).1; rw [hr128] at w; rw [← w]; exact hc133)
                      refine r_iadd hx hb dX11_ahead_160 rfl rfl (fun x13 e_x13 t_x13 => ?_)
                      try have t_x13 := t_x13 (by omega)
                      refine lv_bipush (v := 48) hx hb dX11_ahead_161 (by decide) ?_
                      refine r_isub hx hb dX11_ahead_163 rfl (by decide : (48 : Int32).toInt = 48) (fun x14 e_x14 t_x14 => ?_)
                      try have t_x14 := t_x14 (by omega)
                      refine va_mmin hx hb (hml.trans hl.1.symm) hown (hts _ (uT _ _ u_522)) (hts _ (uT _ _ u_523)) (hts _ (uT _ _ u_524)) (hts _ (uT _ _ u_525)) (Nat.le_of_ble_eq_true rfl) (Nat.le_of_ble_eq_true rfl) (Nat.zero_le _) (Nat.zero_le _) dX11_ahead_164 ?_
                      refine q_nm (fun x15 e_x15 => ?_)
                      have t_x15 := t_min e_x15 (by decide : (100000 : Int32).toInt = 100000) rfl
                      refine va_put (D := g.1) (ci := 11) (v := .int x15) (ty := .int) (C := RX11) (T := TX11) (N := 46) hx hb hi_X11 (fun _ h => h) tyX11 tyX11_ok nmX11 hown hK.1 hP hD hS 0 rfl rfl 14 (by decide) hf_141 (fun _ h9 => h9) rfl (by decide +kernel) rfl rfl (Nat.le_of_ble_eq_true rfl) dX11_ahead_167 (fun H locs hP hD hS => ?_)
                      have hP : va_P g.1 vwCl (wX11 g a_m (uF I_m_128 0 14 x15) J_m) H := hP
                      have hD : va_D A (wX11 g a_m (uF I_m_128 0 14 x15) J_m) := hD
                      have hk_167 : KK [] [11, 12, 13, 14] I_m (uF I_m_128 0 14 x15) := KK.uf hk_128 (by decide)
                      refine lv_aload_n hx hb dX11_ahead_170 rfl (lv_at hl 1 rfl) ?_
                      refine lv_dup hx hb dX11_ahead_171 rfl ?_
                      refine va_get (D := g.1) (ci := 11) (v := .int (I_m_128 0 13)) (C := RX11) (T := TX11) (N := 46) hx hb hi_X11 (fun _ h => h) hown hK.1 hP 0 rfl rfl 13 (by decide) hf_131 (fun _ h9 => h9) rfl dX11_ahead_172 ?_
                      refine lv_iconst (v := 1) hx hb dX11_ahead_175 (by decide) ?_
                      refine r_iadd hx hb dX11_ahead_176 rfl (by decide : (1 : Int32).toInt = 1) (fun x16 e_x16 t_x16 => ?_)
                      try have t_x16 := t_x16 (by omega)
                      refine va_put (D := g.1) (ci := 11) (v := .int x16) (ty := .int) (C := RX11) (T := TX11) (N := 46) hx hb hi_X11 (fun _ h => h) tyX11 tyX11_ok nmX11 hown hK.1 hP hD hS 0 rfl rfl 13 (by decide) hf_131 (fun _ h9 => h9) rfl (by decide +kernel) rfl rfl (Nat.le_of_ble_eq_true rfl) dX11_ahead_177 (fun H locs hP hD hS => ?_)
                      have hP : va_P g.1 vwCl (wX11 g a_m (uF (uF I_m_128 0 14 x15) 0 13 x16) J_m) H := hP
                      have hD : va_D A (wX11 g a_m (uF (uF I_m_128 0 14 x15) 0 13 x16) J_m) := hD
                      have hk_177 : KK [] [11, 12, 13, 14] I_m (uF (uF I_m_128 0 14 x15) 0 13 x16) := KK.uf hk_167 (by decide)
                      refine lv_goto (tgt := 128) hx hb dX11_ahead_180 (by decide) ?_
                      exact ih_128 (uF (uF I_m_128 0 14 x15) 0 13 x16) hk_177 (show (I_m 0 13).toInt ≤ ((I_m_128 0 12)).toInt ∧ ((I_m_128 0 12)).toInt ≤ (x16).toInt ∧ (x16).toInt ≤ (I_m 0 10).toInt from (by omega)) (Or.inl (show ((I_m_128 0 12)).toInt < (x16).toInt from (by omega))) ht_128 (fx_all1 (P := fun b => 48 ≤ b ∧ b ≤ 57) hwd_128 (by omega) (by rw [hc133]; exact q_139) (show (x16).toInt = _ from (by omega))) (fun q4 => by have q5 : ((x16).toInt - (I_m_0 0 13).toInt) ≤ 4 := q4; exact fx_dvM (hq_128 (by omega)) hc133 (by omega) (show (x15).toInt = _ from (by omega)) (show (x16).toInt = _ from (by omega))) (show 0 ≤ (x15).toInt ∧ (x15).toInt ≤ 100000 ∧ (((x16).toInt - (I_m_0 0 13).toInt) ≤ 0 → (x15).toInt ≤ 0) ∧ (((x16).toInt - (I_m_0 0 13).toInt) ≤ 1 → (x15).toInt ≤ 9) ∧ (((x16).toInt - (I_m_0 0 13).toInt) ≤ 2 → (x15).toInt ≤ 99) ∧ (((x16).toInt - (I_m_0 0 13).toInt) ≤ 3 → (x15).toInt ≤ 999) ∧ (((x16).toInt - (I_m_0 0 13).toInt) ≤ 4 → (x15).toInt ≤ 9999) from (by omega)) (show (I_m 0 10).toInt + 1 - (x16).toInt < _ from (by omega)) _ _ hP hD hS ls hl
                exact L128 (((I_m 0 10).toInt + 1 - ((I_m_0 0 13)).toInt) + 1).toNat (uF (uF (uF I_m_0 0 12 (I_m_0 0 13)) 0 14 r4) 0 14 (0 : Int32)) hk_125 (show (I_m 0 13).toInt ≤ ((I_m_0 0 13)).toInt ∧ ((I_m_0 0 13)).toInt ≤ ((I_m_0 0 13)).toInt ∧ ((I_m_0 0 13)).toInt ≤ (I_m 0 10).toInt from (by omega)) (Or.inr ⟨rfl, (show ((I_m_0 0 13)).toInt < (I_m 0 10).toInt from (by rcases p_r4 with q | q; omega; exfalso; omega)), (by rcases p_r4 with q | q; rw [q.2.1] at q_120; exact q_120; exfalso; omega)⟩) rfl (fun j h1 h2 => by have w : (j : Int) < ((I_m_0 0 13)).toInt := h2; exfalso; omega) (fun _ => by show ((0 : Int32)).toInt = fxDv _ _ (((I_m_0 0 13)).toInt - (I_m_0 0 13).toInt).toNat; rw [show (((I_m_0 0 13)).toInt - (I_m_0 0 13).toInt).toNat = 0 by omega]; exact lm0) (show 0 ≤ ((0 : Int32)).toInt ∧ ((0 : Int32)).toInt ≤ 100000 ∧ ((((I_m_0 0 13)).toInt - (I_m_0 0 13).toInt) ≤ 0 → ((0 : Int32)).toInt ≤ 0) ∧ ((((I_m_0 0 13)).toInt - (I_m_0 0 13).toInt) ≤ 1 → ((0 : Int32)).toInt ≤ 9) ∧ ((((I_m_0 0 13)).toInt - (I_m_0 0 13).toInt) ≤ 2 → ((0 : Int32)).toInt ≤ 99) ∧ ((((I_m_0 0 13)).toInt - (I_m_0 0 13).toInt) ≤ 3 → ((0 : Int32)).toInt ≤ 999) ∧ ((((I_m_0 0 13)).toInt - (I_m_0 0 13).toInt) ≤ 4 → ((0 : Int32)).toInt ≤ 9999) from (by omega)) (show (I_m 0 10).toInt + 1 - ((I_m_0 0 13)).toInt < _ from (by omega)) _ _ hP hD hS ls hl
            · have q_78 := bP.t p_r5 b_78
              have L81 : ∀ (nn : Nat) (I_m_81 : Nat → Nat → Int32), (hk_81 : KK [] [11, 12, 13, 14] I_m I_m_81) → (hv_81 : (I_m 0 13).toInt ≤ (I_m_81 0 12).toInt ∧ (I_m_81 0 12).toInt ≤ (I_m_81 0 13).toInt ∧ (I_m_81 0 13).toInt ≤ (I_m 0 10).toInt) → (hf_81 : (I_m_81 0 12).toInt < (I_m_81 0 13).toInt ∨ ((I_m_81 0 12).toInt = (I_m_81 0 13).toInt ∧ (I_m_81 0 13).toInt < (I_m 0 10).toInt ∧ 97 ≤ (I_m_81 6 (I_m_81 0 13).toNatClampNeg &&& 255).toInt ∧ (I_m_81 6 (I_m_81 0 13).toNatClampNeg &&& 255).toInt ≤ 122)) → (ht_81 : (I_m_81 0 12).toInt = (I_m_0 0 13).toInt) → (hwd_81 : ∀ j : Nat, (I_m_0 0 13).toInt ≤ (j : Int) → (j : Int) < (I_m_81 0 13).toInt → 97 ≤ fxBm (I_m 6) j ∧ fxBm (I_m 6) j ≤ 122) → (((I_m 0 10).toInt + 1 - ((I_m_81 0 13)).toInt) < (nn : Int)) → ∀ (H : Heap) (locs : List Loc), va_P g.1 vwCl (wX11 g a_m I_m_81 J_m) H → va_D A (wX11 g a_m I_m_81 J_m) → va_S A s.heap H locs → ∀ ls : Array Slot, lv_has ls 2 [(1, .int r4), (0, .ref (a_m 0))] → W p l e (rm 1) s m args below meth c H locs 0 0 Q (F0 m 81 ls []) := by
                intro n_81
                induction n_81 with
                | zero =>
                  intro I_m_81 hk_81 hv_81 hf_81 ht_81 hwd_81 hms_81 H locs hP hD hS ls hl
                  exfalso; omega
                | succ n_81 ih_81 =>
                  intro I_m_81 hk_81 hv_81 hf_81 ht_81 hwd_81 hms_81 H locs hP hD hS ls hl
                  have hz81 : (I_m_81 0 10).toInt = (I_m 0 10).toInt := congrArg Int32.toInt (hk_81.num 10 (by decide))
                  have hr81 : I_m_81 6 = I_m 6 := hk_81.row 6 (by decide)
                  refine lv_aload_n hx hb dX11_ahead_81 rfl (lv_at hl 1 rfl) ?_
                  refine lv_aload_n hx hb dX11_ahead_82 rfl (lv_at hl 1 rfl) ?_
                  refine va_get (D := g.1) (ci := 11) (v := .int (I_m_81 0 13)) (C := RX11) (T := TX11) (N := 46) hx hb hi_X11 (fun _ h => h) hown hK.1 hP 0 rfl rfl 13 (by decide) hf_131 (fun _ h9 => h9) rfl dX11_ahead_83 ?_
                  refine PurI.cv (As := [.int (I_m_81 0 13)]) (kX11_byteAt l g a_m I_m_81 J_m (I_m_81 0 13) (show ((I_m_81 0 10)).toInt ≤ 900 from (by omega)) (by omega)) fx (gUV (uT _) u_526 u_527 u_528 u_5 u_529) rfl hdX11_byteAt ⟨Nat.le_of_ble_eq_true rfl, Nat.le_of_ble_eq_true rfl⟩ hK hP [0, 1, 2, 3, 4, 5, 6, 7, 8, 9, 10, 11, 12, 13, 14, 15, 16, 17, 18, 19, 20, 21, 22] rfl rfl rfl rfl rfl hl.1 (Nat.le_of_ble_eq_true rfl) dX11_ahead_86 (fun r17 p_r17 => ?_)
                  have hb86 := p_r17
                  refine PurI.cs (C := RX11) (As := [.int r17]) (kX11_isSmall l g r17) fx (gUS (uT _) u_530 u_531 u_5 u_532) rfl hdX11_isSmall ⟨Nat.le_of_ble_eq_true rfl, Nat.le_of_ble_eq_true rfl⟩ hK hP [] rfl rfl rfl hl.1 (Nat.le_of_ble_eq_true rfl) dX11_ahead_89 (fun r18 p_r18 => ?_)
                  refine q_if_eq (tgt := 108) hx hb dX11_ahead_92 (by decide) rfl (fun b_92 k_92 => ?_) (fun b_92 k_92 => ?_)
                  · have q_92 := bP.f p_r18 b_92
                    have hnf : ((I_m_81 0 12)).toInt < ((I_m_81 0 13)).toInt := (by rcases hf_81 with q | q; exact q; exfalso; rcases p_r17 with w | w; rw [w.2.1] at q_92; exact q_92 ⟨by omega, by omega⟩; omega)
                    have hnx : (I_m_81 0 13).toInt < (I_m 0 10).toInt → ¬ (97 ≤ fxBm (I_m 6) (I_m_81 0 13).toInt.toNat ∧ fxBm (I_m 6) (I_m_81 0 13).toInt.toNat ≤ 122) := (fun q z => by have w := (fx_byn hb86 (by omega)).1; rw [hr81] at w; exact q_92 ⟨by omega, by omega⟩)
                    refine lv_aload_n hx hb dX11_ahead_108 rfl (lv_at hl 1 rfl) ?_
                    refine lv_iconst (v := 2) hx hb dX11_ahead_109 (by decide) ?_
                    refine va_put (D := g.1) (ci := 11) (v := .int (2 : Int32)) (ty := .int) (C := RX11) (T := TX11) (N := 46) hx hb hi_X11 (fun _ h => h) tyX11 tyX11_ok nmX11 hown hK.1 hP hD hS 0 rfl rfl 11 (by decide) hf_144 (fun _ h9 => h9) rfl (by decide +kernel) rfl rfl (Nat.le_of_ble_eq_true rfl) dX11_ahead_110 (fun H locs hP hD hS => ?_)
                    have hP : va_P g.1 vwCl (wX11 g a_m (uF I_m_81 0 11 (2 : Int32)) J_m) H := hP
                    have hD : va_D A (wX11 g a_m (uF I_m_81 0 11 (2 : Int32)) J_m) := hD
                    have hk_110 : KK [] [11, 12, 13, 14] I_m (uF I_m_81 0 11 (2 : Int32)) := KK.uf hk_81 (by decide)
                    have hLm : fxLM (uF I_m_81 0 11 (2 : Int32)) (I_m 0 13).toInt := fxLM.mk (kd := 0) (fr := (I_m_81 0 12).toInt) (en := (I_m_81 0 13).toInt) (va := 0) ((hk_110).row 6 (by decide)) ((hk_110).num 10 (by decide)) (show fxKm ((2 : Int32)).toInt = 0 from (by decide)) rfl rfl (fun q => absurd q (by decide)) (fun q => absurd (show ((2 : Int32)).toInt = 4 from q) (by decide)) ⟨(show 0 ≤ ((2 : Int32)).toInt from (by decide)), (show ((2 : Int32)).toInt ≤ 4 from (by decide))⟩ (fx_wd (by omega) hcb.2 hb_0 hnb (by rw [hcb.1]; exact q_78) ht_81 rfl (by omega) hwd_81 hnx)
                    refine lv_goto (tgt := 233) hx hb dX11_ahead_113 (by decide) ?_
                    have hLn : fxLM (uF I_m_81 0 11 (2 : Int32)) (I_m 0 13).toInt := (by first | exact hLm | exact fxLM.mk (kd := 4) (fr := (I_m_0 0 13).toInt) (en := (I_m_0 0 13).toInt + 1) (va := 0) ((hk_110).row 6 (by decide)) ((hk_110).num 10 (by decide)) (show fxKm ((1 : Int32)).toInt = 4 from (by decide)) rfl (show ((I_m_81 0 13)).toInt = (I_m_0 0 13).toInt + 1 from (by omega)) (fun q => absurd q (by decide)) (fun q => absurd (show ((1 : Int32)).toInt = 4 from q) (by decide)) ⟨(show 0 ≤ ((1 : Int32)).toInt from (by decide)), (show ((1 : Int32)).toInt ≤ 4 from (by decide))⟩ ⟨⟨by omega, by omega, hb_0, hnb⟩, Or.inr (Or.inr (Or.inr ⟨hcb.2, by rw [hcb.1]; exact q_78, by rw [hcb.1]; exact q_120, rfl, hok⟩))⟩ | exact fxLM.mk (kd := 2) (fr := (I_m_0 0 13).toInt) (en := (I_m_0 0 13).toInt + 1) (va := 0) ((hk_110).row 6 (by decide)) ((hk_110).num 10 (by decide)) (show fxKm ((4 : Int32)).toInt = 2 from (by decide)) rfl (show ((I_m_81 0 13)).toInt = (I_m_0 0 13).toInt + 1 from (by omega)) (fun q => absurd q (by decide)) (fun _ => (show ((I_m_81 0 14)).toInt = 59 from (by omega))) ⟨(show 0 ≤ ((4 : Int32)).toInt from (by decide)), (show ((4 : Int32)).toInt ≤ 4 from (by decide))⟩ ⟨⟨by omega, by omega, hb_0, hnb⟩, Or.inr (Or.inr (Or.inr ⟨hcb.2, by rw [hcb.1]; exact q_78, by rw [hcb.1]; exact q_120, rfl, hok⟩))⟩)
                    refine hret 233 ls _ _ (uF I_m_81 0 11 (2 : Int32)) dX11_ahead_233 hS hP hD ?_
                    exact ⟨hk_110, (show AH I_m _ from (by unfold AH PS PL AD; show (((0 ≤ ((I_m_81 0 10)).toInt ∧ ((I_m_81 0 10)).toInt ≤ 900) ∧ 0 ≤ ((I_m_81 0 13)).toInt ∧ ((I_m_81 0 13)).toInt ≤ ((I_m_81 0 10)).toInt) ∧ (0 ≤ ((I_m_81 0 12)).toInt ∧ ((I_m_81 0 12)).toInt ≤ ((I_m_81 0 13)).toInt) ∧ (0 ≤ ((2 : Int32)).toInt ∧ ((2 : Int32)).toInt ≤ 4) ∧ (((2 : Int32)).toInt = 2 → ((I_m_81 0 12)).toInt < ((I_m_81 0 13)).toInt)) ∧ (I_m 0 13).toInt ≤ ((I_m_81 0 13)).toInt ∧ (((2 : Int32)).toInt = 0 ∨ (I_m 0 13).toInt < ((I_m_81 0 13)).toInt); refine ⟨⟨⟨?_, ?_⟩, ?_, ?_, ?_⟩, ?_, ?_⟩ <;> omega)), hLn⟩
                  · have q_92 := bP.t p_r18 b_92
                    refine lv_aload_n hx hb dX11_ahead_95 rfl (lv_at hl 1 rfl) ?_
                    refine lv_dup hx hb dX11_ahead_96 rfl ?_
                    refine va_get (D := g.1) (ci := 11) (v := .int (I_m_81 0 13)) (C := RX11) (T := TX11) (N := 46) hx hb hi_X11 (fun _ h => h) hown hK.1 hP 0 rfl rfl 13 (by decide) hf_131 (fun _ h9 => h9) rfl dX11_ahead_97 ?_
                    refine lv_iconst (v := 1) hx hb dX11_ahead_100 (by decide) ?_
                    refine r_iadd hx hb dX11_ahead_101 rfl (by decide : (1 : Int32).toInt = 1) (fun x19 e_x19 t_x19 => ?_)
                    try have t_x19 := t_x19 (by omega)
                    refine va_put (D := g.1) (ci := 11) (v := .int x19) (ty := .int) (C := RX11) (T := TX11) (N := 46) hx hb hi_X11 (fun _ h => h) tyX11 tyX11_ok nmX11 hown hK.1 hP hD hS 0 rfl rfl 13 (by decide) hf_131 (fun _ h9 => h9) rfl (by decide +kernel) rfl rfl (Nat.le_of_ble_eq_true rfl) dX11_ahead_102 (fun H locs hP hD hS => ?_)
                    have hP : va_P g.1 vwCl (wX11 g a_m (uF I_m_81 0 13 x19) J_m) H := hP
                    have hD : va_D A (wX11 g a_m (uF I_m_81 0 13 x19) J_m) := hD
                    have hk_102 : KK [] [11, 12, 13, 14] I_m (uF I_m_81 0 13 x19) := KK.uf hk_81 (by decide)
                    refine lv_goto (tgt := 81) hx hb dX11_ahead_105 (by decide) ?_
                    exact ih_81 (uF I_m_81 0 13 x19) hk_102 (show (I_m 0 13).toInt ≤ ((I_m_81 0 12)).toInt ∧ ((I_m_81 0 12)).toInt ≤ (x19).toInt ∧ (x19).toInt ≤ (I_m 0 10).toInt from (by omega)) (Or.inl (show ((I_m_81 0 12)).toInt < (x19).toInt from (by omega))) ht_81 (fx_all1 (P := fun b => 97 ≤ b ∧ b ≤ 122) hwd_81 (by omega) (by have w := (fx_by hb86 (by omega)).2; rw [hr81] at w; exact ⟨by rw [w]; omega, by rw [w]; omega⟩) (show (x19).toInt = _ from (by omega))) (show (I_m 0 10).toInt + 1 - (x19).toInt < _ from (by omega)) _ _ hP hD hS ls hl
              exact L81 (((I_m 0 10).toInt + 1 - ((I_m_0 0 13)).toInt) + 1).toNat (uF (uF I_m_0 0 12 (I_m_0 0 13)) 0 14 r4) hk_58 (show (I_m 0 13).toInt ≤ ((I_m_0 0 13)).toInt ∧ ((I_m_0 0 13)).toInt ≤ ((I_m_0 0 13)).toInt ∧ ((I_m_0 0 13)).toInt ≤ (I_m 0 10).toInt from (by omega)) (Or.inr ⟨rfl, (show ((I_m_0 0 13)).toInt < (I_m 0 10).toInt from (by rcases p_r4 with q | q; omega; exfalso; omega)), (by rcases p_r4 with q | q; rw [q.2.1] at q_78; exact q_78; exfalso; omega)⟩) rfl (fun j h1 h2 => by have w : (j : Int) < ((I_m_0 0 13)).toInt := h2; exfalso; omega) (show (I_m 0 10).toInt + 1 - ((I_m_0 0 13)).toInt < _ from (by omega)) _ _ hP hD hS ls hl
          · refine lv_aload_n hx hb dX11_ahead_66 rfl (lv_at hl 1 rfl) ?_
            refine lv_iconst (v := 0) hx hb dX11_ahead_67 (by decide) ?_
            refine va_put (D := g.1) (ci := 11) (v := .int (0 : Int32)) (ty := .int) (C := RX11) (T := TX11) (N := 46) hx hb hi_X11 (fun _ h => h) tyX11 tyX11_ok nmX11 hown hK.1 hP hD hS 0 rfl rfl 11 (by decide) hf_144 (fun _ h9 => h9) rfl (by decide +kernel) rfl rfl (Nat.le_of_ble_eq_true rfl) dX11_ahead_68 (fun H locs hP hD hS => ?_)
            have hP : va_P g.1 vwCl (wX11 g a_m (uF (uF (uF I_m_0 0 12 (I_m_0 0 13)) 0 14 r4) 0 11 (0 : Int32)) J_m) H := hP
            have hD : va_D A (wX11 g a_m (uF (uF (uF I_m_0 0 12 (I_m_0 0 13)) 0 14 r4) 0 11 (0 : Int32)) J_m) := hD
            have hk_68 : KK [] [11, 12, 13, 14] I_m (uF (uF (uF I_m_0 0 12 (I_m_0 0 13)) 0 14 r4) 0 11 (0 : Int32)) := KK.uf hk_58 (by decide)
            have hLm : fxLM (uF (uF (uF I_m_0 0 12 (I_m_0 0 13)) 0 14 r4) 0 11 (0 : Int32)) (I_m 0 13).toInt := fxLM.mk (kd := 3) (fr := (I_m_0 0 13).toInt) (en := (I_m_0 0 13).toInt) (va := 0) ((hk_68).row 6 (by decide)) ((hk_68).num 10 (by decide)) (show fxKm ((0 : Int32)).toInt = 3 from (by decide)) rfl rfl (fun q => absurd q (by decide)) (fun q => absurd (show ((0 : Int32)).toInt = 4 from q) (by decide)) ⟨(show 0 ≤ ((0 : Int32)).toInt from (by decide)), (show ((0 : Int32)).toInt ≤ 4 from (by decide))⟩ ⟨⟨by omega, by omega, hb_0, hnb⟩, Or.inl ⟨by rcases hb52 with w | w; (exfalso; omega); have w1 : (I_m_0 0 10).toInt ≤ (I_m_0 0 13).toInt := w.1; omega, rfl, rfl⟩⟩
            refine lv_goto (tgt := 233) hx hb dX11_ahead_71 (by decide) ?_
            have hLn : fxLM (uF (uF (uF I_m_0 0 12 (I_m_0 0 13)) 0 14 r4) 0 11 (0 : Int32)) (I_m 0 13).toInt := (by first | exact hLm | exact fxLM.mk (kd := 4) (fr := (I_m_0 0 13).toInt) (en := (I_m_0 0 13).toInt + 1) (va := 0) ((hk_68).row 6 (by decide)) ((hk_68).num 10 (by decide)) (show fxKm ((1 : Int32)).toInt = 4 from (by decide)) rfl (show ((I_m_0 0 13)).toInt = (I_m_0 0 13).toInt + 1 from (by omega)) (fun q => absurd q (by decide)) (fun q => absurd (show ((1 : Int32)).toInt = 4 from q) (by decide)) ⟨(show 0 ≤ ((1 : Int32)).toInt from (by decide)), (show ((1 : Int32)).toInt ≤ 4 from (by decide))⟩ ⟨⟨by omega, by omega, hb_0, hnb⟩, Or.inr (Or.inr (Or.inr ⟨hcb.2, by rw [hcb.1]; exact q_78, by rw [hcb.1]; exact q_120, rfl, hok⟩))⟩ | exact fxLM.mk (kd := 2) (fr := (I_m_0 0 13).toInt) (en := (I_m_0 0 13).toInt + 1) (va := 0) ((hk_68).row 6 (by decide)) ((hk_68).num 10 (by decide)) (show fxKm ((4 : Int32)).toInt = 2 from (by decide)) rfl (show ((I_m_0 0 13)).toInt = (I_m_0 0 13).toInt + 1 from (by omega)) (fun q => absurd q (by decide)) (fun _ => (show (r4).toInt = 59 from (by omega))) ⟨(show 0 ≤ ((4 : Int32)).toInt from (by decide)), (show ((4 : Int32)).toInt ≤ 4 from (by decide))⟩ ⟨⟨by omega, by omega, hb_0, hnb⟩, Or.inr (Or.inr (Or.inr ⟨hcb.2, by rw [hcb.1]; exact q_78, by rw [hcb.1]; exact q_120, rfl, hok⟩))⟩)
            refine hret 233 ls _ _ (uF (uF (uF I_m_0 0 12 (I_m_0 0 13)) 0 14 r4) 0 11 (0 : Int32)) dX11_ahead_233 hS hP hD ?_
            exact ⟨hk_68, (show AH I_m _ from (by unfold AH PS PL AD; show (((0 ≤ ((I_m_0 0 10)).toInt ∧ ((I_m_0 0 10)).toInt ≤ 900) ∧ 0 ≤ ((I_m_0 0 13)).toInt ∧ ((I_m_0 0 13)).toInt ≤ ((I_m_0 0 10)).toInt) ∧ (0 ≤ ((I_m_0 0 13)).toInt ∧ ((I_m_0 0 13)).toInt ≤ ((I_m_0 0 13)).toInt) ∧ (0 ≤ ((0 : Int32)).toInt ∧ ((0 : Int32)).toInt ≤ 4) ∧ (((0 : Int32)).toInt = 2 → ((I_m_0 0 13)).toInt < ((I_m_0 0 13)).toInt)) ∧ (I_m 0 13).toInt ≤ ((I_m_0 0 13)).toInt ∧ (((0 : Int32)).toInt = 0 ∨ (I_m 0 13).toInt < ((I_m_0 0 13)).toInt); refine ⟨⟨⟨?_, ?_⟩, ?_, ?_, ?_⟩, ?_, ?_⟩ <;> omega)), hLn⟩
        · refine lv_aload_n hx hb dX11_ahead_26 rfl (lv_at hl 0 rfl) ?_
          refine lv_dup hx hb dX11_ahead_27 rfl ?_
          refine va_get (D := g.1) (ci := 11) (v := .int (I_m_0 0 13)) (C := RX11) (T := TX11) (N := 46) hx hb hi_X11 (fun _ h => h) hown hK.1 hP 0 rfl rfl 13 (by decide) hf_131 (fun _ h9 => h9) rfl dX11_ahead_28 ?_
          refine lv_iconst (v := 1) hx hb dX11_ahead_31 (by decide) ?_
          refine r_iadd hx hb dX11_ahead_32 rfl (by decide : (1 : Int32).toInt = 1) (fun x20 e_x20 t_x20 => ?_)
          try have t_x20 := t_x20 (by omega)
          refine va_put (D := g.1) (ci := 11) (v := .int x20) (ty := .int) (C := RX11) (T := TX11) (N := 46) hx hb hi_X11 (fun _ h => h) tyX11 tyX11_ok nmX11 hown hK.1 hP hD hS 0 rfl rfl 13 (by decide) hf_131 (fun _ h9 => h9) rfl (by decide +kernel) rfl rfl (Nat.le_of_ble_eq_true rfl) dX11_ahead_33 (fun H locs hP hD hS => ?_)
          have hP : va_P g.1 vwCl (wX11 g a_m (uF I_m_0 0 13 x20) J_m) H := hP
          have hD : va_D A (wX11 g a_m (uF I_m_0 0 13 x20) J_m) := hD
          have hk_33 : KK [] [11, 12, 13, 14] I_m (uF I_m_0 0 13 x20) := KK.uf hk_0 (by decide)
          refine lv_goto (tgt := 0) hx hb dX11_ahead_36 (by decide) ?_
          exact ih_0 (uF I_m_0 0 13 x20) hk_33 (show (I_m 0 13).toInt ≤ (x20).toInt ∧ (x20).toInt ≤ (I_m 0 10).toInt from (by omega)) (fx_all1 (P := fun b => b = 10 ∨ b = 32) hb_0 (by omega) (by first | (have w := (fx_by hb5 (by omega)).2; rw [hr0] at w; exact Or.inr (w.trans (by omega))) | (have w := (fx_by hb18 (by omega)).2; rw [hr0] at w; exact Or.inl (w.trans (by omega)))) (show (x20).toInt = _ from (by omega))) (show (I_m 0 10).toInt + 1 - (x20).toInt < _ from (by omega)) _ _ hP hD hS ls hl
  exact L0 (((I_m 0 10).toInt + 1 - ((I_m 0 13)).toInt) + 1).toNat I_m (KK.rf I_m) (show (I_m 0 13).toInt ≤ ((I_m 0 13)).toInt ∧ ((I_m 0 13)).toInt ≤ (I_m 0 10).toInt from (by omega)) (fun j h1 h2 => by exfalso; omega) (show (I_m 0 10).toInt + 1 - ((I_m 0 13)).toInt < _ from (by omega)) _ _ hP hD hS ls hl

set_option maxHeartbeats 4000000 in
set_option maxRecDepth 100000 in
theorem kX11_isSign (l : Launch) (g : gG) (a_m : Nat → Nat) (I_m : Nat → Nat → Int32) (J_m : Nat → Nat → Int64) (ch : Int32)  : PurI l g yX11_isSign wsX11_isSign 0 [.ref (a_m 0), .int ch] (wX11 g a_m I_m J_m) (fun r => bP ((I_m 0 11).toInt = 4 ∧ (I_m 0 14).toInt = ch.toInt) (¬ ((I_m 0 11).toInt = 4 ∧ (I_m 0 14).toInt = ch.toInt)) r) := by
  refine PurI.sz (cc := cX11_isSign) (maxL := 2) (by decide) rfl (Nat.le_of_ble_eq_true rfl) (fun p e s m args below meth c Q ls fx hK hP hl hret => ?_)
  have hx := fx.1
  have hb := fx.2.1
  have hml := fx.2.2.1
  have hown := fx.2.2.2.1
  have hts := fx.2.2.2.2
  have hl : lv_has ls 2 [(0, .ref (a_m 0)), (1, .int ch)] := hl
  have hP : va_P g.1 vwCl (wX11 g a_m I_m J_m) s.heap := hP
  have hf_141 := hts _ (uT _ _ u_520)
  have hf_144 := hts _ (uT _ _ u_506)
  have hi_X11 : ∀ w ∈ wsX110, w.before args s = true := fun w h => hts w (uT _ w (u_wsX110 w h))
  have lm1 : (-1 : Int32).toInt = -1 := by decide
  have lm0 : (0 : Int32).toInt = 0 := by decide
  have lm2 : (1 : Int32).toInt = 1 := by decide
  have lq4 : (4 : Int32).toInt = 4 := by decide
  refine lv_aload_n hx hb dX11_isSign_0 rfl (lv_at hl 0 rfl) ?_
  refine va_get (D := g.1) (ci := 11) (v := .int (I_m 0 11)) (C := RX11) (T := TX11) (N := 46) hx hb hi_X11 (fun _ h => h) hown hK.1 hP 0 rfl rfl 11 (by decide) hf_144 (fun _ h9 => h9) rfl dX11_isSign_1 ?_
  refine lv_iconst (v := 4) hx hb dX11_isSign_4 (by decide) ?_
  refine q_icmp_ne (tgt := 20) hx hb dX11_isSign_5 (by decide) rfl (by decide : (4 : Int32).toInt = 4) (fun k_5 => ?_) (fun k_5 => ?_)
  · refine lv_iconst (v := 0) hx hb dX11_isSign_20 (by decide) ?_
    exact hret 21 ls (0 : Int32) dX11_isSign_21 (Or.inl rfl) (by first | exact Or.inl ⟨rfl, by omega⟩ | exact Or.inr ⟨rfl, by omega⟩)
  · refine lv_aload_n hx hb dX11_isSign_8 rfl (lv_at hl 0 rfl) ?_
    refine va_get (D := g.1) (ci := 11) (v := .int (I_m 0 14)) (C := RX11) (T := TX11) (N := 46) hx hb hi_X11 (fun _ h => h) hown hK.1 hP 0 rfl rfl 14 (by decide) hf_141 (fun _ h9 => h9) rfl dX11_isSign_9 ?_
    refine lv_iload_n hx hb dX11_isSign_12 rfl (lv_at hl 1 rfl) ?_
    refine q_icmp_ne (tgt := 20) hx hb dX11_isSign_13 (by decide) rfl rfl (fun k_13 => ?_) (fun k_13 => ?_)
    · refine lv_iconst (v := 0) hx hb dX11_isSign_20 (by decide) ?_
      exact hret 21 ls (0 : Int32) dX11_isSign_21 (Or.inl rfl) (by first | exact Or.inl ⟨rfl, by omega⟩ | exact Or.inr ⟨rfl, by omega⟩)
    · refine lv_iconst (v := 1) hx hb dX11_isSign_16 (by decide) ?_
      refine lv_goto (tgt := 21) hx hb dX11_isSign_17 (by decide) ?_
      have lr : (1 : Int32).toInt = 1 := by decide
      exact hret 21 ls (1 : Int32) dX11_isSign_21 (Or.inr rfl) (by first | exact Or.inl ⟨rfl, by omega⟩ | exact Or.inr ⟨rfl, by omega⟩)

set_option maxHeartbeats 4000000 in
set_option maxRecDepth 100000 in
theorem kX11_inWords (l : Launch) (g : gG) (ad av : Nat → Nat) (a_m : Nat → Nat) (I_m : Nat → Nat → Int32) (J_m : Nat → Nat → Int64) (w : Nat) (h_w : w < 12) (h_p : PS I_m) (h_0 : w = 0) : PurIS l g ad av yX11_inWords wsX11_inWords 4 [.ref (a_m 0), .ref (ad w)] (wX11 g a_m I_m J_m) (fun r => (r.toInt = -1 ∧ ∀ k : Nat, k < 11 → ¬ fxIs (fxKm (I_m 0 11).toInt) (fxWm I_m) k) ∨ (0 ≤ r.toInt ∧ r.toInt ≤ 10 ∧ fxIs (fxKm (I_m 0 11).toInt) (fxWm I_m) r.toInt.toNat)) := by
  refine PurIS.st (cc := cX11_inWords) (maxL := 7) (by decide) rfl (Nat.le_of_ble_eq_true rfl) (fun p e s m args below meth c Q ls fx hK hP hJ hl hret => ?_)
  have hx := fx.1
  have hb := fx.2.1
  have hml := fx.2.2.1
  have hown := fx.2.2.2.1
  have hts := fx.2.2.2.2
  have hl : lv_has ls 7 [(0, .ref (a_m 0)), (1, .ref (ad w))] := hl
  have hP : va_P g.1 vwCl (wX11 g a_m I_m J_m) s.heap := hP
  have hf_131 := hts _ (uT _ _ u_513)
  have hf_138 := hts _ (uT _ _ u_519)
  have hf_144 := hts _ (uT _ _ u_506)
  have hi_X11 : ∀ w ∈ wsX110, w.before args s = true := fun w h => hts w (uT _ w (u_wsX110 w h))
  have lm1 : (-1 : Int32).toInt = -1 := by decide
  have lm0 : (0 : Int32).toInt = 0 := by decide
  have lm2 : (1 : Int32).toInt = 1 := by decide
  have lq2 : (2 : Int32).toInt = 2 := by decide
  have lq32 : (32 : Int32).toInt = 32 := by decide
  have hlw : lenS.getD w 0 = 67 := by rw [h_0]; decide +kernel
  have hcw : (byS.getD w []).getD 66 0 = 32 := by rw [h_0]; decide +kernel
  have hp1 := h_p.1.1
  have hp2 := h_p.1.2
  have hp3 := h_p.2.1
  refine lv_aload_n hx hb dX11_inWords_0 rfl (lv_at hl 0 rfl) ?_
  refine va_get (D := g.1) (ci := 11) (v := .int (I_m 0 11)) (C := RX11) (T := TX11) (N := 46) hx hb hi_X11 (fun _ h => h) hown hK.1 hP 0 rfl rfl 11 (by decide) hf_144 (fun _ h9 => h9) rfl dX11_inWords_1 ?_
  refine lv_iconst (v := 2) hx hb dX11_inWords_4 (by decide) ?_
  refine q_icmp_eq (tgt := 10) hx hb dX11_inWords_5 (by decide) rfl (by decide : (2 : Int32).toInt = 2) (fun k_5 => ?_) (fun k_5 => ?_)
  · have hkm0 : fxKm (I_m 0 11).toInt = 0 := (by rw [show (I_m 0 11).toInt = 2 by omega]; decide)
    refine lv_iconst (v := 0) hx hb dX11_inWords_10 (by decide) ?_
    refine lv_istore_n (lv' := [(2, .int (0 : Int32)), (0, .ref (a_m 0)), (1, .ref (ad w))]) hx hb dX11_inWords_11 rfl hl (by decide) rfl (fun ls hl => ?_)
    refine lv_iconst (v := 1) hx hb dX11_inWords_12 (by decide) ?_
    refine lv_istore_n (lv' := [(3, .int (1 : Int32)), (2, .int (0 : Int32)), (0, .ref (a_m 0)), (1, .ref (ad w))]) hx hb dX11_inWords_13 rfl hl (by decide) rfl (fun ls hl => ?_)
    have L14 : ∀ (nn : Nat) (v2_14 : Int32) (v3_14 : Int32), (hv_14 : 0 ≤ v2_14.toInt ∧ v2_14.toInt < v3_14.toInt ∧ v3_14.toInt ≤ 67) → (hn_14 : v2_14.toInt ≤ 11 ∧ v3_14.toInt = fxPs v2_14.toInt.toNat) → (hno_14 : ∀ k : Nat, (k : Int) < v2_14.toInt → (fxWm I_m) ≠ fxK k) → ((68 - v3_14.toInt) < (nn : Int)) → ∀ ls : Array Slot, lv_has ls 7 [(3, .int v3_14), (2, .int v2_14), (0, .ref (a_m 0)), (1, .ref (ad w))] → W p l e (rm 4) s m args below meth c s.heap [] 0 0 Q (F0 m 14 ls []) := by
      intro n_14
      induction n_14 with
      | zero =>
        intro v2_14 v3_14 hv_14 hn_14 hno_14 hms_14 ls hl
        exfalso; omega
      | succ n_14 ih_14 =>
        intro v2_14 v3_14 hv_14 hn_14 hno_14 hms_14 ls hl
        have hup : v2_14.toInt < 11 → fxPs (v2_14.toInt.toNat + 1) = fxPs v2_14.toInt.toNat + (fxK v2_14.toInt.toNat).length + 1 := fun q => fxPs_up _ (by omega)
        refine lv_iload_n hx hb dX11_inWords_14 rfl (lv_at hl 0 rfl) ?_
        refine lv_aload_n hx hb dX11_inWords_15 rfl (lv_at hl 3 rfl) ?_
        refine PurJ.cv (As := []) (kJ0_length_8abf5 l ad av w h_w) h_w fx (gUV (uT _) u_548 u_394 u_395 u_396 u_397) rfl hdJ0_length_8abf5 ⟨Nat.le_of_ble_eq_true rfl, Nat.le_of_ble_eq_true rfl⟩ hJ va_S.rf rfl rfl hl.1 (Nat.le_of_ble_eq_true rfl) dX11_inWords_16 (fun r1 p_r1 => ?_)
        have hl16 := p_r1
        rw [hlw] at hl16
        refine q_icmp_ge (tgt := 133) hx hb dX11_inWords_19 (by decide) rfl rfl (fun k_19 => ?_) (fun k_19 => ?_)
        · refine lv_iconst (v := -1) hx hb dX11_inWords_133 (by decide) ?_
          exact hret 134 ls (-1 : Int32) dX11_inWords_134 (Or.inl ⟨by decide, fun k hk q => hno_14 k (by have w := fxPs_end v2_14.toInt.toNat (by omega) (by omega); omega) q.2⟩)
        · have hn11 : v2_14.toInt < 11 := (by rcases Int.lt_or_le v2_14.toInt 11 with q | q; exact q; exfalso; have w : v2_14.toInt.toNat = 11 := (by omega); have w2 := hn_14.2; rw [w] at w2; have w3 : fxPs 11 = 67 := (by decide); omega)
          refine lv_iload_n hx hb dX11_inWords_22 rfl (lv_at hl 0 rfl) ?_
          refine lv_istore (lv' := [(4, .int v3_14), (3, .int v3_14), (2, .int v2_14), (0, .ref (a_m 0)), (1, .ref (ad w))]) hx hb dX11_inWords_23 hl (by decide) rfl (fun ls hl => ?_)
          have L25 : ∀ (nn : Nat) (v4_25 : Int32), (hy_25 : v3_14.toInt ≤ v4_25.toInt ∧ v4_25.toInt ≤ 66) → (he_25 : ∀ j : Nat, v3_14.toInt ≤ (j : Int) → (j : Int) < v4_25.toInt → ((byS.getD 0 []).getD j 0).toInt ≠ 32) → ((67 - v4_25.toInt) < (nn : Int)) → ∀ ls : Array Slot, lv_has ls 7 [(4, .int v4_25), (3, .int v3_14), (2, .int v2_14), (0, .ref (a_m 0)), (1, .ref (ad w))] → W p l e (rm 4) s m args below meth c s.heap [] 0 0 Q (F0 m 25 ls []) := by
            intro n_25
            induction n_25 with
            | zero =>
              intro v4_25 hy_25 he_25 hms_25 ls hl
              exfalso; omega
            | succ n_25 ih_25 =>
              intro v4_25 hy_25 he_25 hms_25 ls hl
              refine lv_aload_n hx hb dX11_inWords_25 rfl (lv_at hl 4 rfl) ?_
              refine lv_iload hx hb dX11_inWords_26 (lv_at hl 0 rfl) ?_
              refine PurJ.cv (As := [.int v4_25]) (kJ0_charAt_5068e l ad av w h_w v4_25 (by rw [hlw]; omega)) h_w fx (gUV (uT _) u_549 u_406 u_407 u_396 u_408) rfl hdJ0_charAt_5068e ⟨Nat.le_of_ble_eq_true rfl, Nat.le_of_ble_eq_true rfl⟩ hJ va_S.rf rfl rfl hl.1 (Nat.le_of_ble_eq_true rfl) dX11_inWords_28 (fun r2 p_r2 => ?_)
              refine lv_bipush (v := 32) hx hb dX11_inWords_31 (by decide) ?_
              refine q_icmp_eq (tgt := 42) hx hb dX11_inWords_33 (by decide) rfl (by decide : (32 : Int32).toInt = 32) (fun k_33 => ?_) (fun k_33 => ?_)
              · have hve : v4_25.toInt = v3_14.toInt + ((fxK v2_14.toInt.toNat).length : Int) := fx_wend (by omega) hn_14.2 (by omega) he_25 (by have w := fx_c0 h_0 p_r2; exact w.symm.trans (by omega))
                have hlk : (fxK v2_14.toInt.toNat).length = (v4_25.toInt - v3_14.toInt).toNat := (by omega)
                refine lv_iload hx hb dX11_inWords_42 (lv_at hl 0 rfl) ?_
                refine lv_iload_n hx hb dX11_inWords_44 rfl (lv_at hl 1 rfl) ?_
                refine r_isub hx hb dX11_inWords_45 rfl rfl (fun x3 e_x3 t_x3 => ?_)
                try have t_x3 := t_x3 (by omega)
                refine lv_aload_n hx hb dX11_inWords_46 rfl (lv_at hl 3 rfl) ?_
                refine va_get (D := g.1) (ci := 11) (v := .int (I_m 0 13)) (C := RX11) (T := TX11) (N := 46) hx hb hi_X11 (fun _ h => h) hown hK.1 hP 0 rfl rfl 13 (by decide) hf_131 (fun _ h9 => h9) rfl dX11_inWords_47 ?_
                refine lv_aload_n hx hb dX11_inWords_50 rfl (lv_at hl 3 rfl) ?_
                refine va_get (D := g.1) (ci := 11) (v := .int (I_m 0 12)) (C := RX11) (T := TX11) (N := 46) hx hb hi_X11 (fun _ h => h) hown hK.1 hP 0 rfl rfl 12 (by decide) hf_138 (fun _ h9 => h9) rfl dX11_inWords_51 ?_
                refine r_isub hx hb dX11_inWords_54 rfl rfl (fun x4 e_x4 t_x4 => ?_)
                try have t_x4 := t_x4 (by omega)
                refine q_icmp_ne (tgt := 62) hx hb dX11_inWords_55 (by decide) rfl rfl (fun k_55 => ?_) (fun k_55 => ?_)
                · refine lv_iconst (v := 0) hx hb dX11_inWords_62 (by decide) ?_
                  refine lv_istore (lv' := [(5, .int (0 : Int32)), (4, .int v4_25), (3, .int v3_14), (2, .int v2_14), (0, .ref (a_m 0)), (1, .ref (ad w))]) hx hb dX11_inWords_63 hl (by decide) rfl (fun ls hl => ?_)
                  refine lv_iload_n hx hb dX11_inWords_65 rfl (lv_at hl 2 rfl) ?_
                  refine lv_istore (lv' := [(6, .int v3_14), (5, .int (0 : Int32)), (4, .int v4_25), (3, .int v3_14), (2, .int v2_14), (0, .ref (a_m 0)), (1, .ref (ad w))]) hx hb dX11_inWords_66 hl (by decide) rfl (fun ls hl => ?_)
                  have L68 : ∀ (nn : Nat) (v5_68 : Int32) (v6_68 : Int32), (hx_68 : v3_14.toInt ≤ v6_68.toInt ∧ v6_68.toInt ≤ 67) → (hz_68 : v5_68 = 0 ∨ v5_68 = 1) → (hY_68 : v5_68.toInt = 1 → ((v4_25.toInt - v3_14.toInt = (I_m 0 13).toInt - (I_m 0 12).toInt) ∧ ∀ j : Nat, v3_14.toInt ≤ (j : Int) → (j : Int) < v6_68.toInt → ((byS.getD 0 []).getD j 0).toInt = fxBm (I_m 6) ((I_m 0 12).toInt + (j : Int) - v3_14.toInt).toNat)) → (hX_68 : v5_68.toInt = 0 → (fxWm I_m) ≠ fxK v2_14.toInt.toNat) → ((68 - v6_68.toInt) < (nn : Int)) → ∀ ls : Array Slot, lv_has ls 7 [(6, .int v6_68), (5, .int v5_68), (4, .int v4_25), (3, .int v3_14), (2, .int v2_14), (0, .ref (a_m 0)), (1, .ref (ad w))] → W p l e (rm 4) s m args below meth c s.heap [] 0 0 Q (F0 m 68 ls []) := by
                    intro n_68
                    induction n_68 with
                    | zero =>
                      intro v5_68 v6_68 hx_68 hz_68 hY_68 hX_68 hms_68 ls hl
                      exfalso; omega
                    | succ n_68 ih_68 =>
                      intro v5_68 v6_68 hx_68 hz_68 hY_68 hX_68 hms_68 ls hl
                      refine lv_iload hx hb dX11_inWords_68 (lv_at hl 0 rfl) ?_
                      refine lv_iload hx hb dX11_inWords_70 (lv_at hl 2 rfl) ?_
                      refine q_icmp_ge (tgt := 115) hx hb dX11_inWords_72 (by decide) rfl rfl (fun k_72 => ?_) (fun k_72 => ?_)
                      · refine lv_iload hx hb dX11_inWords_115 (lv_at hl 1 rfl) ?_
                        refine q_if_eq (tgt := 122) hx hb dX11_inWords_117 (by decide) rfl (fun b_117 k_117 => ?_) (fun b_117 k_117 => ?_)
                        · refine r_iinc (lv' := fun i5 => [(2, .int i5), (6, .int v6_68), (5, .int v5_68), (4, .int v4_25), (3, .int v3_14), (0, .ref (a_m 0)), (1, .ref (ad w))]) hx hb dX11_inWords_122 hl (k := 4) rfl (by decide) rfl (by decide) (fun _ => rfl) (fun i5 e_i5 t_i5 ls hl => ?_)
                          try have t_i5 := t_i5 (by omega)
                          refine lv_iload hx hb dX11_inWords_125 (lv_at hl 3 rfl) ?_
                          refine lv_iconst (v := 1) hx hb dX11_inWords_127 (by decide) ?_
                          refine r_iadd hx hb dX11_inWords_128 rfl (by decide : (1 : Int32).toInt = 1) (fun x6 e_x6 t_x6 => ?_)
                          try have t_x6 := t_x6 (by omega)
                          refine lv_istore_n (lv' := [(3, .int x6), (2, .int i5), (6, .int v6_68), (5, .int v5_68), (4, .int v4_25), (0, .ref (a_m 0)), (1, .ref (ad w))]) hx hb dX11_inWords_129 rfl hl (by decide) rfl (fun ls hl => ?_)
                          refine lv_goto (tgt := 14) hx hb dX11_inWords_130 (by decide) ?_
                          exact ih_14 i5 x6 (by omega) ⟨by omega, by rw [show (i5).toInt.toNat = v2_14.toInt.toNat + 1 by omega]; have w := hup (by omega); omega⟩ (fun k q => by by_cases w : (k : Int) < v2_14.toInt; exact hno_14 k w; rw [show k = v2_14.toInt.toNat by omega]; exact hX_68 (by omega)) (by omega) ls (lv_sub hl [0, 1, 5, 6] rfl)
                        · refine lv_iload_n hx hb dX11_inWords_120 rfl (lv_at hl 4 rfl) ?_
                          exact hret 121 ls v2_14 dX11_inWords_121 (by first | exact absurd b_77 b_117 | (have hv1 : v5_68.toInt = 1 := (by rcases hz_68 with q | q; exact absurd q b_117; rw [q]; decide); exact Or.inr ⟨by omega, by omega, hkm0, fx_wyes (by omega) hn_14.2 hve (hY_68 hv1).1 (by omega) (fun j h1 h2 => (hY_68 hv1).2 j h1 (by omega))⟩))
                      · refine lv_iload hx hb dX11_inWords_75 (lv_at hl 1 rfl) ?_
                        refine q_if_eq (tgt := 115) hx hb dX11_inWords_77 (by decide) rfl (fun b_77 k_77 => ?_) (fun b_77 k_77 => ?_)
                        · refine lv_iload hx hb dX11_inWords_115 (lv_at hl 1 rfl) ?_
                          refine q_if_eq (tgt := 122) hx hb dX11_inWords_117 (by decide) rfl (fun b_117 k_117 => ?_) (fun b_117 k_117 => ?_)
                          · refine r_iinc (lv' := fun i7 => [(2, .int i7), (6, .int v6_68), (5, .int v5_68), (4, .int v4_25), (3, .int v3_14), (0, .ref (a_m 0)), (1, .ref (ad w))]) hx hb dX11_inWords_122 hl (k := 4) rfl (by decide) rfl (by decide) (fun _ => rfl) (fun i7 e_i7 t_i7 ls hl => ?_)
                            try have t_i7 := t_i7 (by omega)
                            refine lv_iload hx hb dX11_inWords_125 (lv_at hl 3 rfl) ?_
                            refine lv_iconst (v := 1) hx hb dX11_inWords_127 (by decide) ?_
                            refine r_iadd hx hb dX11_inWords_128 rfl (by decide : (1 : Int32).toInt = 1) (fun x8 e_x8 t_x8 => ?_)
                            try have t_x8 := t_x8 (by omega)
                            refine lv_istore_n (lv' := [(3, .int x8), (2, .int i7), (6, .int v6_68), (5, .int v5_68), (4, .int v4_25), (0, .ref (a_m 0)), (1, .ref (ad w))]) hx hb dX11_inWords_129 rfl hl (by decide) rfl (fun ls hl => ?_)
                            refine lv_goto (tgt := 14) hx hb dX11_inWords_130 (by decide) ?_
                            exact ih_14 i7 x8 (by omega) ⟨by omega, by rw [show (i7).toInt.toNat = v2_14.toInt.toNat + 1 by omega]; have w := hup (by omega); omega⟩ (fun k q => by by_cases w : (k : Int) < v2_14.toInt; exact hno_14 k w; rw [show k = v2_14.toInt.toNat by omega]; exact hX_68 (by omega)) (by omega) ls (lv_sub hl [0, 1, 5, 6] rfl)
                          · refine lv_iload_n hx hb dX11_inWords_120 rfl (lv_at hl 4 rfl) ?_
                            exact hret 121 ls v2_14 dX11_inWords_121 (by first | exact absurd b_77 b_117 | (have hv1 : v5_68.toInt = 1 := (by rcases hz_68 with q | q; exact absurd q b_117; rw [q]; decide); exact Or.inr ⟨by omega, by omega, hkm0, fx_wyes (by omega) hn_14.2 hve (hY_68 hv1).1 (by omega) (fun j h1 h2 => (hY_68 hv1).2 j h1 (by omega))⟩))
                        · have hYl := (hY_68 (by rcases hz_68 with q | q; exact absurd q b_77; rw [q]; decide)).1
                          have hYs := (hY_68 (by rcases hz_68 with q | q; exact absurd q b_77; rw [q]; decide)).2
                          refine lv_aload_n hx hb dX11_inWords_80 rfl (lv_at hl 6 rfl) ?_
                          refine lv_iload hx hb dX11_inWords_81 (lv_at hl 0 rfl) ?_
                          refine PurJ.cv (As := [.int v6_68]) (kJ0_charAt_5068e l ad av w h_w v6_68 (by rw [hlw]; omega)) h_w fx (gUV (uT _) u_549 u_406 u_407 u_396 u_408) rfl hdJ0_charAt_5068e ⟨Nat.le_of_ble_eq_true rfl, Nat.le_of_ble_eq_true rfl⟩ hJ va_S.rf rfl rfl hl.1 (Nat.le_of_ble_eq_true rfl) dX11_inWords_83 (fun r9 p_r9 => ?_)
                          refine lv_aload_n hx hb dX11_inWords_86 rfl (lv_at hl 5 rfl) ?_
                          refine lv_aload_n hx hb dX11_inWords_87 rfl (lv_at hl 5 rfl) ?_
                          refine va_get (D := g.1) (ci := 11) (v := .int (I_m 0 12)) (C := RX11) (T := TX11) (N := 46) hx hb hi_X11 (fun _ h => h) hown hK.1 hP 0 rfl rfl 12 (by decide) hf_138 (fun _ h9 => h9) rfl dX11_inWords_88 ?_
                          refine lv_iload hx hb dX11_inWords_91 (lv_at hl 0 rfl) ?_
                          refine r_iadd hx hb dX11_inWords_93 rfl rfl (fun x10 e_x10 t_x10 => ?_)
                          try have t_x10 := t_x10 (by omega)
                          refine lv_iload_n hx hb dX11_inWords_94 rfl (lv_at hl 3 rfl) ?_
                          refine r_isub hx hb dX11_inWords_95 rfl rfl (fun x11 e_x11 t_x11 => ?_)
                          try have t_x11 := t_x11 (by omega)
                          refine PurI.cv (As := [.int x11]) (kX11_byteAt l g a_m I_m J_m x11 (by omega) (by omega)) fx (gUV (uT _) u_526 u_527 u_528 u_5 u_529) rfl hdX11_byteAt ⟨Nat.le_of_ble_eq_true rfl, Nat.le_of_ble_eq_true rfl⟩ hK hP [0, 1, 2, 3, 4, 5, 6, 7, 8, 9, 10, 11, 12, 13, 14, 15, 16, 17, 18, 19, 20, 21, 22] rfl rfl rfl rfl rfl hl.1 (Nat.le_of_ble_eq_true rfl) dX11_inWords_96 (fun r12 p_r12 => ?_)
                          refine q_icmp_ne (tgt := 106) hx hb dX11_inWords_99 (by decide) rfl rfl (fun k_99 => ?_) (fun k_99 => ?_)
                          · have hmt : ((byS.getD 0 []).getD v6_68.toInt.toNat 0).toInt ≠ fxBm (I_m 6) ((I_m 0 12).toInt + v6_68.toInt - v3_14.toInt).toNat := (by have w := fx_c0 h_0 p_r9; have w2 := (fx_byn p_r12 (by omega)).1; rw [show (x11).toInt.toNat = ((I_m 0 12).toInt + v6_68.toInt - v3_14.toInt).toNat by omega] at w2; rw [w2]; exact fun q => k_99 (w.trans q))
                            refine lv_iconst (v := 0) hx hb dX11_inWords_106 (by decide) ?_
                            refine lv_istore (lv' := [(5, .int (0 : Int32)), (6, .int v6_68), (4, .int v4_25), (3, .int v3_14), (2, .int v2_14), (0, .ref (a_m 0)), (1, .ref (ad w))]) hx hb dX11_inWords_107 hl (by decide) rfl (fun ls hl => ?_)
                            refine r_iinc (lv' := fun i13 => [(6, .int i13), (5, .int (0 : Int32)), (4, .int v4_25), (3, .int v3_14), (2, .int v2_14), (0, .ref (a_m 0)), (1, .ref (ad w))]) hx hb dX11_inWords_109 hl (k := 1) rfl (by decide) rfl (by decide) (fun _ => rfl) (fun i13 e_i13 t_i13 ls hl => ?_)
                            try have t_i13 := t_i13 (by omega)
                            refine lv_goto (tgt := 68) hx hb dX11_inWords_112 (by decide) ?_
                            exact ih_68 (0 : Int32) i13 (by omega) (by first | exact Or.inr rfl | exact Or.inl rfl) (by first | exact (fun q => absurd q (by decide)) | exact (fun _ => ⟨hYl, fun j h1 h2 => by by_cases w : (j : Int) < v6_68.toInt; exact hYs j h1 w; rw [show j = v6_68.toInt.toNat by omega, show ((v6_68.toInt.toNat : Nat) : Int) = v6_68.toInt by omega]; exact hmt⟩)) (by first | exact (fun q => absurd q (by decide)) | exact (fun _ => fx_wno (x := v6_68.toInt) (by omega) hn_14.2 (by omega) hve hYl (by omega) hmt)) (by omega) ls hl
                          · have hmt : ((byS.getD 0 []).getD v6_68.toInt.toNat 0).toInt = fxBm (I_m 6) ((I_m 0 12).toInt + v6_68.toInt - v3_14.toInt).toNat := (by have w := fx_c0 h_0 p_r9; have w2 := (fx_byn p_r12 (by omega)).1; rw [show (x11).toInt.toNat = ((I_m 0 12).toInt + v6_68.toInt - v3_14.toInt).toNat by omega] at w2; rw [w2]; exact w.symm.trans k_99)
                            refine lv_iconst (v := 1) hx hb dX11_inWords_102 (by decide) ?_
                            refine lv_goto (tgt := 107) hx hb dX11_inWords_103 (by decide) ?_
                            refine lv_istore (lv' := [(5, .int (1 : Int32)), (6, .int v6_68), (4, .int v4_25), (3, .int v3_14), (2, .int v2_14), (0, .ref (a_m 0)), (1, .ref (ad w))]) hx hb dX11_inWords_107 hl (by decide) rfl (fun ls hl => ?_)
                            refine r_iinc (lv' := fun i14 => [(6, .int i14), (5, .int (1 : Int32)), (4, .int v4_25), (3, .int v3_14), (2, .int v2_14), (0, .ref (a_m 0)), (1, .ref (ad w))]) hx hb dX11_inWords_109 hl (k := 1) rfl (by decide) rfl (by decide) (fun _ => rfl) (fun i14 e_i14 t_i14 ls hl => ?_)
                            try have t_i14 := t_i14 (by omega)
                            refine lv_goto (tgt := 68) hx hb dX11_inWords_112 (by decide) ?_
                            exact ih_68 (1 : Int32) i14 (by omega) (by first | exact Or.inr rfl | exact Or.inl rfl) (by first | exact (fun q => absurd q (by decide)) | exact (fun _ => ⟨hYl, fun j h1 h2 => by by_cases w : (j : Int) < v6_68.toInt; exact hYs j h1 w; rw [show j = v6_68.toInt.toNat by omega, show ((v6_68.toInt.toNat : Nat) : Int) = v6_68.toInt by omega]; exact hmt⟩)) (by first | exact (fun q => absurd q (by decide)) | exact (fun _ => fx_wno (x := v6_68.toInt) (by omega) hn_14.2 (by omega) hve hYl (by omega) hmt)) (by omega) ls hl
                  exact L68 ((68 - v3_14.toInt) + 1).toNat (0 : Int32) v3_14 (by omega) (by first | exact Or.inr rfl | exact Or.inl rfl) (by first | exact (fun q => absurd q (by decide)) | exact (fun _ => ⟨by omega, fun j h1 h2 => by exfalso; omega⟩)) (by first | exact (fun q => absurd q (by decide)) | exact (fun _ => fxW.nl (by rw [hlk]; omega))) (by omega) ls hl
                · refine lv_iconst (v := 1) hx hb dX11_inWords_58 (by decide) ?_
                  refine lv_goto (tgt := 63) hx hb dX11_inWords_59 (by decide) ?_
                  refine lv_istore (lv' := [(5, .int (1 : Int32)), (4, .int v4_25), (3, .int v3_14), (2, .int v2_14), (0, .ref (a_m 0)), (1, .ref (ad w))]) hx hb dX11_inWords_63 hl (by decide) rfl (fun ls hl => ?_)
                  refine lv_iload_n hx hb dX11_inWords_65 rfl (lv_at hl 2 rfl) ?_
                  refine lv_istore (lv' := [(6, .int v3_14), (5, .int (1 : Int32)), (4, .int v4_25), (3, .int v3_14), (2, .int v2_14), (0, .ref (a_m 0)), (1, .ref (ad w))]) hx hb dX11_inWords_66 hl (by decide) rfl (fun ls hl => ?_)
                  have L68 : ∀ (nn : Nat) (v5_68 : Int32) (v6_68 : Int32), (hx_68 : v3_14.toInt ≤ v6_68.toInt ∧ v6_68.toInt ≤ 67) → (hz_68 : v5_68 = 0 ∨ v5_68 = 1) → (hY_68 : v5_68.toInt = 1 → ((v4_25.toInt - v3_14.toInt = (I_m 0 13).toInt - (I_m 0 12).toInt) ∧ ∀ j : Nat, v3_14.toInt ≤ (j : Int) → (j : Int) < v6_68.toInt → ((byS.getD 0 []).getD j 0).toInt = fxBm (I_m 6) ((I_m 0 12).toInt + (j : Int) - v3_14.toInt).toNat)) → (hX_68 : v5_68.toInt = 0 → (fxWm I_m) ≠ fxK v2_14.toInt.toNat) → ((68 - v6_68.toInt) < (nn : Int)) → ∀ ls : Array Slot, lv_has ls 7 [(6, .int v6_68), (5, .int v5_68), (4, .int v4_25), (3, .int v3_14), (2, .int v2_14), (0, .ref (a_m 0)), (1, .ref (ad w))] → W p l e (rm 4) s m args below meth c s.heap [] 0 0 Q (F0 m 68 ls []) := by
                    intro n_68
                    induction n_68 with
                    | zero =>
                      intro v5_68 v6_68 hx_68 hz_68 hY_68 hX_68 hms_68 ls hl
                      exfalso; omega
                    | succ n_68 ih_68 =>
                      intro v5_68 v6_68 hx_68 hz_68 hY_68 hX_68 hms_68 ls hl
                      refine lv_iload hx hb dX11_inWords_68 (lv_at hl 0 rfl) ?_
                      refine lv_iload hx hb dX11_inWords_70 (lv_at hl 2 rfl) ?_
                      refine q_icmp_ge (tgt := 115) hx hb dX11_inWords_72 (by decide) rfl rfl (fun k_72 => ?_) (fun k_72 => ?_)
                      · refine lv_iload hx hb dX11_inWords_115 (lv_at hl 1 rfl) ?_
                        refine q_if_eq (tgt := 122) hx hb dX11_inWords_117 (by decide) rfl (fun b_117 k_117 => ?_) (fun b_117 k_117 => ?_)
                        · refine r_iinc (lv' := fun i15 => [(2, .int i15), (6, .int v6_68), (5, .int v5_68), (4, .int v4_25), (3, .int v3_14), (0, .ref (a_m 0)), (1, .ref (ad w))]) hx hb dX11_inWords_122 hl (k := 4) rfl (by decide) rfl (by decide) (fun _ => rfl) (fun i15 e_i15 t_i15 ls hl => ?_)
                          try have t_i15 := t_i15 (by omega)
                          refine lv_iload hx hb dX11_inWords_125 (lv_at hl 3 rfl) ?_
                          refine lv_iconst (v := 1) hx hb dX11_inWords_127 (by decide) ?_
                          refine r_iadd hx hb dX11_inWords_128 rfl (by decide : (1 : Int32).toInt = 1) (fun x16 e_x16 t_x16 => ?_)
                          try have t_x16 := t_x16 (by omega)
                          refine lv_istore_n (lv' := [(3, .int x16), (2, .int i15), (6, .int v6_68), (5, .int v5_68), (4, .int v4_25), (0, .ref (a_m 0)), (1, .ref (ad w))]) hx hb dX11_inWords_129 rfl hl (by decide) rfl (fun ls hl => ?_)
                          refine lv_goto (tgt := 14) hx hb dX11_inWords_130 (by decide) ?_
                          exact ih_14 i15 x16 (by omega) ⟨by omega, by rw [show (i15).toInt.toNat = v2_14.toInt.toNat + 1 by omega]; have w := hup (by omega); omega⟩ (fun k q => by by_cases w : (k : Int) < v2_14.toInt; exact hno_14 k w; rw [show k = v2_14.toInt.toNat by omega]; exact hX_68 (by omega)) (by omega) ls (lv_sub hl [0, 1, 5, 6] rfl)
                        · refine lv_iload_n hx hb dX11_inWords_120 rfl (lv_at hl 4 rfl) ?_
                          exact hret 121 ls v2_14 dX11_inWords_121 (by first | exact absurd b_77 b_117 | (have hv1 : v5_68.toInt = 1 := (by rcases hz_68 with q | q; exact absurd q b_117; rw [q]; decide); exact Or.inr ⟨by omega, by omega, hkm0, fx_wyes (by omega) hn_14.2 hve (hY_68 hv1).1 (by omega) (fun j h1 h2 => (hY_68 hv1).2 j h1 (by omega))⟩))
                      · refine lv_iload hx hb dX11_inWords_75 (lv_at hl 1 rfl) ?_
                        refine q_if_eq (tgt := 115) hx hb dX11_inWords_77 (by decide) rfl (fun b_77 k_77 => ?_) (fun b_77 k_77 => ?_)
                        · refine lv_iload hx hb dX11_inWords_115 (lv_at hl 1 rfl) ?_
                          refine q_if_eq (tgt := 122) hx hb dX11_inWords_117 (by decide) rfl (fun b_117 k_117 => ?_) (fun b_117 k_117 => ?_)
                          · refine r_iinc (lv' := fun i17 => [(2, .int i17), (6, .int v6_68), (5, .int v5_68), (4, .int v4_25), (3, .int v3_14), (0, .ref (a_m 0)), (1, .ref (ad w))]) hx hb dX11_inWords_122 hl (k := 4) rfl (by decide) rfl (by decide) (fun _ => rfl) (fun i17 e_i17 t_i17 ls hl => ?_)
                            try have t_i17 := t_i17 (by omega)
                            refine lv_iload hx hb dX11_inWords_125 (lv_at hl 3 rfl) ?_
                            refine lv_iconst (v := 1) hx hb dX11_inWords_127 (by decide) ?_
                            refine r_iadd hx hb dX11_inWords_128 rfl (by decide : (1 : Int32).toInt = 1) (fun x18 e_x18 t_x18 => ?_)
                            try have t_x18 := t_x18 (by omega)
                            refine lv_istore_n (lv' := [(3, .int x18), (2, .int i17), (6, .int v6_68), (5, .int v5_68), (4, .int v4_25), (0, .ref (a_m 0)), (1, .ref (ad w))]) hx hb dX11_inWords_129 rfl hl (by decide) rfl (fun ls hl => ?_)
                            refine lv_goto (tgt := 14) hx hb dX11_inWords_130 (by decide) ?_
                            exact ih_14 i17 x18 (by omega) ⟨by omega, by rw [show (i17).toInt.toNat = v2_14.toInt.toNat + 1 by omega]; have w := hup (by omega); omega⟩ (fun k q => by by_cases w : (k : Int) < v2_14.toInt; exact hno_14 k w; rw [show k = v2_14.toInt.toNat by omega]; exact hX_68 (by omega)) (by omega) ls (lv_sub hl [0, 1, 5, 6] rfl)
                          · refine lv_iload_n hx hb dX11_inWords_120 rfl (lv_at hl 4 rfl) ?_
                            exact hret 121 ls v2_14 dX11_inWords_121 (by first | exact absurd b_77 b_117 | (have hv1 : v5_68.toInt = 1 := (by rcases hz_68 with q | q; exact absurd q b_117; rw [q]; decide); exact Or.inr ⟨by omega, by omega, hkm0, fx_wyes (by omega) hn_14.2 hve (hY_68 hv1).1 (by omega) (fun j h1 h2 => (hY_68 hv1).2 j h1 (by omega))⟩))
                        · have hYl := (hY_68 (by rcases hz_68 with q | q; exact absurd q b_77; rw [q]; decide)).1
                          have hYs := (hY_68 (by rcases hz_68 with q | q; exact absurd q b_77; rw [q]; decide)).2
                          refine lv_aload_n hx hb dX11_inWords_80 rfl (lv_at hl 6 rfl) ?_
                          refine lv_iload hx hb dX11_inWords_81 (lv_at hl 0 rfl) ?_
                          refine PurJ.cv (As := [.int v6_68]) (kJ0_charAt_5068e l ad av w h_w v6_68 (by rw [hlw]; omega)) h_w fx (gUV (uT _) u_549 u_406 u_407 u_396 u_408) rfl hdJ0_charAt_5068e ⟨Nat.le_of_ble_eq_true rfl, Nat.le_of_ble_eq_true rfl⟩ hJ va_S.rf rfl rfl hl.1 (Nat.le_of_ble_eq_true rfl) dX11_inWords_83 (fun r19 p_r19 => ?_)
                          refine lv_aload_n hx hb dX11_inWords_86 rfl (lv_at hl 5 rfl) ?_
                          refine lv_aload_n hx hb dX11_inWords_87 rfl (lv_at hl 5 rfl) ?_
                          refine va_get (D := g.1) (ci := 11) (v := .int (I_m 0 12)) (C := RX11) (T := TX11) (N := 46) hx hb hi_X11 (fun _ h => h) hown hK.1 hP 0 rfl rfl 12 (by decide) hf_138 (fun _ h9 => h9) rfl dX11_inWords_88 ?_
                          refine lv_iload hx hb dX11_inWords_91 (lv_at hl 0 rfl) ?_
                          refine r_iadd hx hb dX11_inWords_93 rfl rfl (fun x20 e_x20 t_x20 => ?_)
                          try have t_x20 := t_x20 (by omega)
                          refine lv_iload_n hx hb dX11_inWords_94 rfl (lv_at hl 3 rfl) ?_
                          refine r_isub hx hb dX11_inWords_95 rfl rfl (fun x21 e_x21 t_x21 => ?_)
                          try have t_x21 := t_x21 (by omega)
                          refine PurI.cv (As := [.int x21]) (kX11_byteAt l g a_m I_m J_m x21 (by omega) (by omega)) fx (gUV (uT _) u_526 u_527 u_528 u_5 u_529) rfl hdX11_byteAt ⟨Nat.le_of_ble_eq_true rfl, Nat.le_of_ble_eq_true rfl⟩ hK hP [0, 1, 2, 3, 4, 5, 6, 7, 8, 9, 10, 11, 12, 13, 14, 15, 16, 17, 18, 19, 20, 21, 22] rfl rfl rfl rfl rfl hl.1 (Nat.le_of_ble_eq_true rfl) dX11_inWords_96 (fun r22 p_r22 => ?_)
                          refine q_icmp_ne (tgt := 106) hx hb dX11_inWords_99 (by decide) rfl rfl (fun k_99 => ?_) (fun k_99 => ?_)
                          · have hmt : ((byS.getD 0 []).getD v6_68.toInt.toNat 0).toInt ≠ fxBm (I_m 6) ((I_m 0 12).toInt + v6_68.toInt - v3_14.toInt).toNat := (by have w := fx_c0 h_0 p_r19; have w2 := (fx_byn p_r22 (by omega)).1; rw [show (x21).toInt.toNat = ((I_m 0 12).toInt + v6_68.toInt - v3_14.toInt).toNat by omega] at w2; rw [w2]; exact fun q => k_99 (w.trans q))
                            refine lv_iconst (v := 0) hx hb dX11_inWords_106 (by decide) ?_
                            refine lv_istore (lv' := [(5, .int (0 : Int32)), (6, .int v6_68), (4, .int v4_25), (3, .int v3_14), (2, .int v2_14), (0, .ref (a_m 0)), (1, .ref (ad w))]) hx hb dX11_inWords_107 hl (by decide) rfl (fun ls hl => ?_)
                            refine r_iinc (lv' := fun i23 => [(6, .int i23), (5, .int (0 : Int32)), (4, .int v4_25), (3, .int v3_14), (2, .int v2_14), (0, .ref (a_m 0)), (1, .ref (ad w))]) hx hb dX11_inWords_109 hl (k := 1) rfl (by decide) rfl (by decide) (fun _ => rfl) (fun i23 e_i23 t_i23 ls hl => ?_)
                            try have t_i23 := t_i23 (by omega)
                            refine lv_goto (tgt := 68) hx hb dX11_inWords_112 (by decide) ?_
                            exact ih_68 (0 : Int32) i23 (by omega) (by first | exact Or.inr rfl | exact Or.inl rfl) (by first | exact (fun q => absurd q (by decide)) | exact (fun _ => ⟨hYl, fun j h1 h2 => by by_cases w : (j : Int) < v6_68.toInt; exact hYs j h1 w; rw [show j = v6_68.toInt.toNat by omega, show ((v6_68.toInt.toNat : Nat) : Int) = v6_68.toInt by omega]; exact hmt⟩)) (by first | exact (fun q => absurd q (by decide)) | exact (fun _ => fx_wno (x := v6_68.toInt) (by omega) hn_14.2 (by omega) hve hYl (by omega) hmt)) (by omega) ls hl
                          · have hmt : ((byS.getD 0 []).getD v6_68.toInt.toNat 0).toInt = fxBm (I_m 6) ((I_m 0 12).toInt + v6_68.toInt - v3_14.toInt).toNat := (by have w := fx_c0 h_0 p_r19; have w2 := (fx_byn p_r22 (by omega)).1; rw [show (x21).toInt.toNat = ((I_m 0 12).toInt + v6_68.toInt - v3_14.toInt).toNat by omega] at w2; rw [w2]; exact w.symm.trans k_99)
                            refine lv_iconst (v := 1) hx hb dX11_inWords_102 (by decide) ?_
                            refine lv_goto (tgt := 107) hx hb dX11_inWords_103 (by decide) ?_
                            refine lv_istore (lv' := [(5, .int (1 : Int32)), (6, .int v6_68), (4, .int v4_25), (3, .int v3_14), (2, .int v2_14), (0, .ref (a_m 0)), (1, .ref (ad w))]) hx hb dX11_inWords_107 hl (by decide) rfl (fun ls hl => ?_)
                            refine r_iinc (lv' := fun i24 => [(6, .int i24), (5, .int (1 : Int32)), (4, .int v4_25), (3, .int v3_14), (2, .int v2_14), (0, .ref (a_m 0)), (1, .ref (ad w))]) hx hb dX11_inWords_109 hl (k := 1) rfl (by decide) rfl (by decide) (fun _ => rfl) (fun i24 e_i24 t_i24 ls hl => ?_)
                            try have t_i24 := t_i24 (by omega)
                            refine lv_goto (tgt := 68) hx hb dX11_inWords_112 (by decide) ?_
                            exact ih_68 (1 : Int32) i24 (by omega) (by first | exact Or.inr rfl | exact Or.inl rfl) (by first | exact (fun q => absurd q (by decide)) | exact (fun _ => ⟨hYl, fun j h1 h2 => by by_cases w : (j : Int) < v6_68.toInt; exact hYs j h1 w; rw [show j = v6_68.toInt.toNat by omega, show ((v6_68.toInt.toNat : Nat) : Int) = v6_68.toInt by omega]; exact hmt⟩)) (by first | exact (fun q => absurd q (by decide)) | exact (fun _ => fx_wno (x := v6_68.toInt) (by omega) hn_14.2 (by omega) hve hYl (by omega) hmt)) (by omega) ls hl
                  exact L68 ((68 - v3_14.toInt) + 1).toNat (1 : Int32) v3_14 (by omega) (by first | exact Or.inr rfl | exact Or.inl rfl) (by first | exact (fun q => absurd q (by decide)) | exact (fun _ => ⟨by omega, fun j h1 h2 => by exfalso; omega⟩)) (by first | exact (fun q => absurd q (by decide)) | exact (fun _ => fxW.nl (by rw [hlk]; omega))) (by omega) ls hl
              · have hne : v4_25.toInt ≠ 66 := fun q => k_33 (by rw [p_r2, show v4_25.toNatClampNeg = 66 from (by have := t_cl (i := v4_25) q (by decide); omega), hcw]; decide)
                have hch28 : ((byS.getD 0 []).getD (v4_25).toInt.toNat 0).toInt ≠ 32 := (by have w := fx_c0 h_0 p_r2; exact fun q => k_33 (w.trans (q.trans (by omega))))
                refine r_iinc (lv' := fun i25 => [(4, .int i25), (3, .int v3_14), (2, .int v2_14), (0, .ref (a_m 0)), (1, .ref (ad w))]) hx hb dX11_inWords_36 hl (k := 0) rfl (by decide) rfl (by decide) (fun _ => rfl) (fun i25 e_i25 t_i25 ls hl => ?_)
                try have t_i25 := t_i25 (by omega)
                refine lv_goto (tgt := 25) hx hb dX11_inWords_39 (by decide) ?_
                exact ih_25 i25 (by omega) (fun j h1 h2 => by by_cases w : (j : Int) < v4_25.toInt; exact he_25 j h1 w; rw [show j = v4_25.toInt.toNat by omega]; exact hch28) (by omega) ls hl
          exact L25 ((67 - v3_14.toInt) + 1).toNat v3_14 (by omega) (fun j h1 h2 => by exfalso; omega) (by omega) ls hl
    exact L14 ((68 - (1 : Int32).toInt) + 1).toNat (0 : Int32) (1 : Int32) (by omega) (by rw [lm0, lm2]; exact ⟨by omega, by decide⟩) (fun k q => by rw [lm0] at q; omega) (by omega) ls hl
  · refine lv_iconst (v := -1) hx hb dX11_inWords_8 (by decide) ?_
    exact hret 9 ls (-1 : Int32) dX11_inWords_9 (Or.inl ⟨by decide, fun k _ q => absurd ((fxKm_all (by have t0 := h_p.2.2.1; omega)).2.2.1.mpr q.1) (by omega)⟩)

set_option maxHeartbeats 4000000 in
set_option maxRecDepth 100000 in
theorem kX11_fails (l : Launch) (g : gG) (a_m : Nat → Nat) (I_m : Nat → Nat → Int32) (J_m : Nat → Nat → Int64) (kind : Int32)  : EffI l g yX11_fails wsX11_fails 0 [.ref (a_m 0), .int kind] (wX11 g a_m I_m J_m) (fun (u : (Nat → Nat → Int32)) => wX11 g a_m u J_m) (fun r (u : (Nat → Nat → Int32)) => KK [] [16, 17] I_m (u) ∧ r = 0 ∧ ((I_m 0 17).toInt = 0 → ((u) 0 17).toInt = (if (I_m 0 11).toInt = 1 then 1 else kind.toInt) ∧ (u) 0 16 = I_m 0 12) ∧ (kind.toInt ≠ 0 → ((u) 0 17).toInt ≠ 0)) := by
  refine EffI.sz (cc := cX11_fails) (maxL := 2) (by decide) rfl (Nat.le_of_ble_eq_true rfl) (fun p e s m args below meth c A Q ls fx hK hP hD hA hS hl hret => ?_)
  have hx := fx.1
  have hb := fx.2.1
  have hml := fx.2.2.1
  have hown := fx.2.2.2.1
  have hts := fx.2.2.2.2
  have hl : lv_has ls 2 [(0, .ref (a_m 0)), (1, .int kind)] := hl
  have hP : va_P g.1 vwCl (wX11 g a_m I_m J_m) s.heap := hP
  have hf_38 := hts _ (uT _ _ u_179)
  have hf_138 := hts _ (uT _ _ u_519)
  have hf_144 := hts _ (uT _ _ u_506)
  have hf_169 := hts _ (uT _ _ u_507)
  have hi_X11 : ∀ w ∈ wsX110, w.before args s = true := fun w h => hts w (uT _ w (u_wsX110 w h))
  have lm1 : (-1 : Int32).toInt = -1 := by decide
  have lm0 : (0 : Int32).toInt = 0 := by decide
  have lm2 : (1 : Int32).toInt = 1 := by decide
  refine lv_aload_n hx hb dX11_fails_0 rfl (lv_at hl 0 rfl) ?_
  refine va_get (D := g.1) (ci := 11) (v := .int (I_m 0 17)) (C := RX11) (T := TX11) (N := 46) hx hb hi_X11 (fun _ h => h) hown hK.1 hP 0 rfl rfl 17 (by decide) hf_169 (fun _ h9 => h9) rfl dX11_fails_1 ?_
  refine q_if_ne (tgt := 32) hx hb dX11_fails_4 (by decide) rfl (fun b_4 k_4 => ?_) (fun b_4 k_4 => ?_)
  · refine lv_iconst (v := 0) hx hb dX11_fails_32 (by decide) ?_
    refine hret 33 ls (0 : Int32) _ _ I_m dX11_fails_33 (Or.inl rfl) hS hP hD ?_
    exact (by first | exact ⟨(KK.rf I_m), rfl, (fun q => by exfalso; omega), (fun q => by first | omega | (show (I_m 0 17).toInt ≠ 0; omega))⟩ | exact ⟨(KK.rf I_m), rfl, (fun _ => ⟨(show ((I_m 0 17)).toInt = _ from by rw [if_pos (show (I_m 0 11).toInt = 1 from by omega)]; exact lm2), rfl⟩), fun q => (show ((I_m 0 17)).toInt ≠ 0 from (by rw [lm2]; decide))⟩ | exact ⟨(KK.rf I_m), rfl, (fun _ => ⟨(show ((I_m 0 17)).toInt = _ from by rw [if_neg (show ¬ (I_m 0 11).toInt = 1 from by omega)]), rfl⟩), fun q => (show ((I_m 0 17)).toInt ≠ 0 from q)⟩)
  · refine lv_aload_n hx hb dX11_fails_7 rfl (lv_at hl 0 rfl) ?_
    refine lv_aload_n hx hb dX11_fails_8 rfl (lv_at hl 0 rfl) ?_
    refine va_get (D := g.1) (ci := 11) (v := .int (I_m 0 11)) (C := RX11) (T := TX11) (N := 46) hx hb hi_X11 (fun _ h => h) hown hK.1 hP 0 rfl rfl 11 (by decide) hf_144 (fun _ h9 => h9) rfl dX11_fails_9 ?_
    refine lv_iconst (v := 1) hx hb dX11_fails_12 (by decide) ?_
    refine q_icmp_ne (tgt := 20) hx hb dX11_fails_13 (by decide) rfl (by decide : (1 : Int32).toInt = 1) (fun k_13 => ?_) (fun k_13 => ?_)
    · refine lv_iload_n hx hb dX11_fails_20 rfl (lv_at hl 1 rfl) ?_
      refine va_put (D := g.1) (ci := 11) (v := .int kind) (ty := .int) (C := RX11) (T := TX11) (N := 46) hx hb hi_X11 (fun _ h => h) tyX11 tyX11_ok nmX11 hown hK.1 hP hD hS 0 rfl rfl 17 (by decide) hf_169 (fun _ h9 => h9) rfl (by decide +kernel) rfl rfl (Nat.le_of_ble_eq_true rfl) dX11_fails_21 (fun H locs hP hD hS => ?_)
      have hP : va_P g.1 vwCl (wX11 g a_m (uF I_m 0 17 kind) J_m) H := hP
      have hD : va_D A (wX11 g a_m (uF I_m 0 17 kind) J_m) := hD
      have hk_21 : KK [] [16, 17] I_m (uF I_m 0 17 kind) := KK.uf (KK.rf I_m) (by decide)
      refine lv_aload_n hx hb dX11_fails_24 rfl (lv_at hl 0 rfl) ?_
      refine lv_aload_n hx hb dX11_fails_25 rfl (lv_at hl 0 rfl) ?_
      refine va_get (D := g.1) (ci := 11) (v := .int (I_m 0 12)) (C := RX11) (T := TX11) (N := 46) hx hb hi_X11 (fun _ h => h) hown hK.1 hP 0 rfl rfl 12 (by decide) hf_138 (fun _ h9 => h9) rfl dX11_fails_26 ?_
      refine va_put (D := g.1) (ci := 11) (v := .int (I_m 0 12)) (ty := .int) (C := RX11) (T := TX11) (N := 46) hx hb hi_X11 (fun _ h => h) tyX11 tyX11_ok nmX11 hown hK.1 hP hD hS 0 rfl rfl 16 (by decide) hf_38 (fun _ h9 => h9) rfl (by decide +kernel) rfl rfl (Nat.le_of_ble_eq_true rfl) dX11_fails_29 (fun H locs hP hD hS => ?_)
      have hP : va_P g.1 vwCl (wX11 g a_m (uF (uF I_m 0 17 kind) 0 16 (I_m 0 12)) J_m) H := hP
      have hD : va_D A (wX11 g a_m (uF (uF I_m 0 17 kind) 0 16 (I_m 0 12)) J_m) := hD
      have hk_29 : KK [] [16, 17] I_m (uF (uF I_m 0 17 kind) 0 16 (I_m 0 12)) := KK.uf hk_21 (by decide)
      refine lv_iconst (v := 0) hx hb dX11_fails_32 (by decide) ?_
      refine hret 33 ls (0 : Int32) _ _ (uF (uF I_m 0 17 kind) 0 16 (I_m 0 12)) dX11_fails_33 (Or.inl rfl) hS hP hD ?_
      exact (by first | exact ⟨hk_29, rfl, (fun q => by exfalso; omega), (fun q => by first | omega | (show (I_m 0 17).toInt ≠ 0; omega))⟩ | exact ⟨hk_29, rfl, (fun _ => ⟨(show (kind).toInt = _ from by rw [if_pos (show (I_m 0 11).toInt = 1 from by omega)]; exact lm2), rfl⟩), fun q => (show (kind).toInt ≠ 0 from (by rw [lm2]; decide))⟩ | exact ⟨hk_29, rfl, (fun _ => ⟨(show (kind).toInt = _ from by rw [if_neg (show ¬ (I_m 0 11).toInt = 1 from by omega)]), rfl⟩), fun q => (show (kind).toInt ≠ 0 from q)⟩)
    · refine lv_iconst (v := 1) hx hb dX11_fails_16 (by decide) ?_
      refine lv_goto (tgt := 21) hx hb dX11_fails_17 (by decide) ?_
      refine va_put (D := g.1) (ci := 11) (v := .int (1 : Int32)) (ty := .int) (C := RX11) (T := TX11) (N := 46) hx hb hi_X11 (fun _ h => h) tyX11 tyX11_ok nmX11 hown hK.1 hP hD hS 0 rfl rfl 17 (by decide) hf_169 (fun _ h9 => h9) rfl (by decide +kernel) rfl rfl (Nat.le_of_ble_eq_true rfl) dX11_fails_21 (fun H locs hP hD hS => ?_)
      have hP : va_P g.1 vwCl (wX11 g a_m (uF I_m 0 17 (1 : Int32)) J_m) H := hP
      have hD : va_D A (wX11 g a_m (uF I_m 0 17 (1 : Int32)) J_m) := hD
      have hk_21 : KK [] [16, 17] I_m (uF I_m 0 17 (1 : Int32)) := KK.uf (KK.rf I_m) (by decide)
      refine lv_aload_n hx hb dX11_fails_24 rfl (lv_at hl 0 rfl) ?_
      refine lv_aload_n hx hb dX11_fails_25 rfl (lv_at hl 0 rfl) ?_
      refine va_get (D := g.1) (ci := 11) (v := .int (I_m 0 12)) (C := RX11) (T := TX11) (N := 46) hx hb hi_X11 (fun _ h => h) hown hK.1 hP 0 rfl rfl 12 (by decide) hf_138 (fun _ h9 => h9) rfl dX11_fails_26 ?_
      refine va_put (D := g.1) (ci := 11) (v := .int (I_m 0 12)) (ty := .int) (C := RX11) (T := TX11) (N := 46) hx hb hi_X11 (fun _ h => h) tyX11 tyX11_ok nmX11 hown hK.1 hP hD hS 0 rfl rfl 16 (by decide) hf_38 (fun _ h9 => h9) rfl (by decide +kernel) rfl rfl (Nat.le_of_ble_eq_true rfl) dX11_fails_29 (fun H locs hP hD hS => ?_)
      have hP : va_P g.1 vwCl (wX11 g a_m (uF (uF I_m 0 17 (1 : Int32)) 0 16 (I_m 0 12)) J_m) H := hP
      have hD : va_D A (wX11 g a_m (uF (uF I_m 0 17 (1 : Int32)) 0 16 (I_m 0 12)) J_m) := hD
      have hk_29 : KK [] [16, 17] I_m (uF (uF I_m 0 17 (1 : Int32)) 0 16 (I_m 0 12)) := KK.uf hk_21 (by decide)
      refine lv_iconst (v := 0) hx hb dX11_fails_32 (by decide) ?_
      refine hret 33 ls (0 : Int32) _ _ (uF (uF I_m 0 17 (1 : Int32)) 0 16 (I_m 0 12)) dX11_fails_33 (Or.inl rfl) hS hP hD ?_
      exact (by first | exact ⟨hk_29, rfl, (fun q => by exfalso; omega), (fun q => by first | omega | (show (I_m 0 17).toInt ≠ 0; omega))⟩ | exact ⟨hk_29, rfl, (fun _ => ⟨(show ((1 : Int32)).toInt = _ from by rw [if_pos (show (I_m 0 11).toInt = 1 from by omega)]; exact lm2), rfl⟩), fun q => (show ((1 : Int32)).toInt ≠ 0 from (by rw [lm2]; decide))⟩ | exact ⟨hk_29, rfl, (fun _ => ⟨(show ((1 : Int32)).toInt = _ from by rw [if_neg (show ¬ (I_m 0 11).toInt = 1 from by omega)]), rfl⟩), fun q => (show ((1 : Int32)).toInt ≠ 0 from q)⟩)

set_option maxHeartbeats 4000000 in
set_option maxRecDepth 100000 in
theorem kX11_wantSign (l : Launch) (g : gG) (a_m : Nat → Nat) (I_m : Nat → Nat → Int32) (J_m : Nat → Nat → Int64) (ch : Int32) (h_p : PS I_m) : EffI l g yX11_wantSign wsX11_wantSign 2 [.ref (a_m 0), .int ch] (wX11 g a_m I_m J_m) (fun (u : (Nat → Nat → Int32)) => wX11 g a_m u J_m) (fun r (u : (Nat → Nat → Int32)) => KK [] [11, 12, 13, 14, 16, 17] I_m (u) ∧ PQ I_m (u) ∧ (r = 0 ∨ r = 1) ∧ (r = 1 → AD I_m (u)) ∧ ∀ (p : Int) (S S' : fxS), fxLM I_m p → (I_m 0 17).toInt = 0 → ch.toInt = 59 → ((I_m 0 11).toInt = 4 → ∀ va : Int, fxSt 2 (fxWm I_m) va S = .inr S') → ((I_m 0 11).toInt ≠ 4 → (I_m 0 11).toInt ≠ 1 → fxSt (fxKm (I_m 0 11).toInt) (fxWm I_m) (I_m 0 14).toInt S = .inl 2) → fxMo I_m (u) r p S S') := by
  refine EffI.sz (cc := cX11_wantSign) (maxL := 2) (by decide) rfl (Nat.le_of_ble_eq_true rfl) (fun p e s m args below meth c A Q ls fx hK hP hD hA hS hl hret => ?_)
  have hx := fx.1
  have hb := fx.2.1
  have hml := fx.2.2.1
  have hown := fx.2.2.2.1
  have hts := fx.2.2.2.2
  have hl : lv_has ls 2 [(0, .ref (a_m 0)), (1, .int ch)] := hl
  have hP : va_P g.1 vwCl (wX11 g a_m I_m J_m) s.heap := hP
  have lm1 : (-1 : Int32).toInt = -1 := by decide
  have lm0 : (0 : Int32).toInt = 0 := by decide
  have lm2 : (1 : Int32).toInt = 1 := by decide
  have lq2 : (2 : Int32).toInt = 2 := by decide
  refine lv_aload_n hx hb dX11_wantSign_0 rfl (lv_at hl 0 rfl) ?_
  refine lv_iload_n hx hb dX11_wantSign_1 rfl (lv_at hl 1 rfl) ?_
  refine PurI.cv (As := [.int ch]) (kX11_isSign l g a_m I_m J_m ch) fx (gUV (uT _) u_565 u_566 u_567 u_5 u_568) rfl hdX11_isSign ⟨Nat.le_of_ble_eq_true rfl, Nat.le_of_ble_eq_true rfl⟩ hK hP [0, 1, 2, 3, 4, 5, 6, 7, 8, 9, 10, 11, 12, 13, 14, 15, 16, 17, 18, 19, 20, 21, 22] rfl rfl rfl rfl rfl hl.1 (Nat.le_of_ble_eq_true rfl) dX11_wantSign_2 (fun r1 p_r1 => ?_)
  refine q_if_ne (tgt := 14) hx hb dX11_wantSign_5 (by decide) rfl (fun b_5 k_5 => ?_) (fun b_5 k_5 => ?_)
  · have q_5 := bP.t p_r1 b_5
    refine lv_aload_n hx hb dX11_wantSign_14 rfl (lv_at hl 0 rfl) ?_
    refine EffV.cv (wr := ([])) (w' := fun u3 => wX11 g a_m u3 J_m) (As := []) (kX11_ahead l g a_m I_m J_m (PQ.rf h_p).1.1) fx (gUV (uT _) u_515 u_516 u_517 u_5 u_518) rfl hdX11_ahead ⟨Nat.le_of_ble_eq_true rfl, Nat.le_of_ble_eq_true rfl⟩ hK hP hD hS hA [0, 1, 2, 3, 4, 5, 6, 7, 8, 9, 10, 11, 12, 13, 14, 15, 16, 17, 18, 19, 20, 21, 22] [] [0, 1, 2, 3, 4, 5, 6, 7, 8, 9, 10, 11, 12, 13, 14, 15, 16, 17, 18, 19, 20, 21, 22] rfl rfl rfl rfl (by decide) rfl (fun _ => rfl) rfl rfl rfl rfl hl.1 (Nat.le_of_ble_eq_true rfl) dX11_wantSign_15 (fun u3 H locs p_r2 hP hD hS => ?_)
    have hP : va_P g.1 vwCl (wX11 g a_m u3 J_m) H := hP
    have hD : va_D A (wX11 g a_m u3 J_m) := hD
    refine lv_iconst (v := 1) hx hb dX11_wantSign_18 (by decide) ?_
    have lr : (1 : Int32).toInt = 1 := by decide
    refine hret 19 ls (1 : Int32) _ _ u3 dX11_wantSign_19 (Or.inr rfl) hS hP hD ?_
    exact ⟨(KK.tr (KK.rf I_m) p_r2.1 (by decide) (by decide)), (PQ.ah (PQ.rf h_p) p_r2.2.1 p_r2.1 (by decide)), Or.inr rfl, fun _ => p_r2.2.1.2.2, fun p S S2 l h17 hch h1 h2 => fxMo.yes rfl (by rw [p_r2.1.num 17 (by decide)]; exact h17) (fx_tk l p_r2.2.2 rfl rfl fxRe.rf (by rw [fxKm_4 q_5.1]; exact h1 q_5.1 _)) p_r2.2.2⟩
  · have q_5 := bP.f p_r1 b_5
    refine lv_aload_n hx hb dX11_wantSign_8 rfl (lv_at hl 0 rfl) ?_
    refine lv_iconst (v := 2) hx hb dX11_wantSign_9 (by decide) ?_
    refine EffI.cv (wr := ([])) (w' := fun u5 => wX11 g a_m u5 J_m) (As := [.int (2 : Int32)]) (kX11_fails l g a_m I_m J_m (2 : Int32)) fx (gUV (uT _) u_557 u_558 u_559 u_5 u_560) rfl hdX11_fails ⟨Nat.le_of_ble_eq_true rfl, Nat.le_of_ble_eq_true rfl⟩ hK hP hD hS hA [0, 1, 2, 3, 4, 5, 6, 7, 8, 9, 10, 11, 12, 13, 14, 15, 16, 17, 18, 19, 20, 21, 22] [] [0, 1, 2, 3, 4, 5, 6, 7, 8, 9, 10, 11, 12, 13, 14, 15, 16, 17, 18, 19, 20, 21, 22] rfl rfl rfl rfl (by decide) rfl (fun _ => rfl) rfl rfl rfl rfl hl.1 (Nat.le_of_ble_eq_true rfl) dX11_wantSign_10 (fun r4 u5 H locs p_r4 hP hD hS => ?_)
    have hP : va_P g.1 vwCl (wX11 g a_m u5 J_m) H := hP
    have hD : va_D A (wX11 g a_m u5 J_m) := hD
    refine hret 13 ls r4 _ _ u5 dX11_wantSign_13 (Or.inl p_r4.2.1) hS hP hD ?_
    exact ⟨(KK.tr (KK.rf I_m) p_r4.1 (by decide) (by decide)), (PQ.fl (PQ.rf h_p) p_r4.1 (by decide) (p_r4.2.2.2 (by decide))), Or.inl p_r4.2.1, fun q => absurd (q.symm.trans p_r4.2.1) (by decide), fun p S S2 l h17 hch h1 h2 => fxMo.fail p_r4 h17 (by decide) l rfl rfl fxRe.rf (fun q => (h2 (fun q4 => q_5 ⟨q4, (l.2.1 q4).trans hch.symm⟩) q).trans (congrArg Sum.inl (by decide)))⟩

set_option maxHeartbeats 4000000 in
set_option maxRecDepth 100000 in
theorem kX11_wantWord (l : Launch) (g : gG) (ad av : Nat → Nat) (a_m : Nat → Nat) (I_m : Nat → Nat → Int32) (J_m : Nat → Nat → Int64) (w : Nat) (k : Int32) (h_w : w < 12) (h_0 : w = 0) (h_p : PS I_m) : EffIS l g ad av yX11_wantWord wsX11_wantWord 5 [.ref (a_m 0), .ref (ad w), .int k] (wX11 g a_m I_m J_m) (fun (u : (Nat → Nat → Int32)) => wX11 g a_m u J_m) (fun r (u : (Nat → Nat → Int32)) => KK [] [11, 12, 13, 14, 16, 17] I_m (u) ∧ PQ I_m (u) ∧ (r = 0 ∨ r = 1) ∧ (r = 1 → AD I_m (u)) ∧ ∀ (p : Int) (td : Nat → Bool) (T : fxT) (cu : fxR), fxLM I_m p → (I_m 0 17).toInt = 0 → k.toInt = 6 → fxMo I_m (u) r p (2, 0, td, T, cu) (3, 0, td, T, cu)) := by
  refine EffIS.sz (cc := cX11_wantWord) (maxL := 3) (by decide) rfl (Nat.le_of_ble_eq_true rfl) (fun p e s m args below meth c A Q ls fx hK hP hD hA hS hJ hl hret => ?_)
  have hx := fx.1
  have hb := fx.2.1
  have hml := fx.2.2.1
  have hown := fx.2.2.2.1
  have hts := fx.2.2.2.2
  have hl : lv_has ls 3 [(0, .ref (a_m 0)), (1, .ref (ad w)), (2, .int k)] := hl
  have hP : va_P g.1 vwCl (wX11 g a_m I_m J_m) s.heap := hP
  have lm1 : (-1 : Int32).toInt = -1 := by decide
  have lm0 : (0 : Int32).toInt = 0 := by decide
  have lm2 : (1 : Int32).toInt = 1 := by decide
  have lq2 : (2 : Int32).toInt = 2 := by decide
  refine lv_aload_n hx hb dX11_wantWord_0 rfl (lv_at hl 0 rfl) ?_
  refine lv_aload_n hx hb dX11_wantWord_1 rfl (lv_at hl 1 rfl) ?_
  refine PurIS.cv (As := [.ref (ad w)]) (kX11_inWords l g ad av a_m I_m J_m w h_w h_p h_0) fx (gUV (uT _) u_544 u_545 u_546 u_5 u_547) rfl hdX11_inWords ⟨Nat.le_of_ble_eq_true rfl, Nat.le_of_ble_eq_true rfl⟩ hJ hS hK hP [0, 1, 2, 3, 4, 5, 6, 7, 8, 9, 10, 11, 12, 13, 14, 15, 16, 17, 18, 19, 20, 21, 22] rfl rfl rfl rfl rfl hl.1 (Nat.le_of_ble_eq_true rfl) dX11_wantWord_2 (fun r1 p_r1 => ?_)
  refine lv_iload_n hx hb dX11_wantWord_5 rfl (lv_at hl 2 rfl) ?_
  refine q_icmp_eq (tgt := 15) hx hb dX11_wantWord_6 (by decide) rfl rfl (fun k_6 => ?_) (fun k_6 => ?_)
  · refine lv_aload_n hx hb dX11_wantWord_15 rfl (lv_at hl 0 rfl) ?_
    refine EffV.cv (wr := ([])) (w' := fun u3 => wX11 g a_m u3 J_m) (As := []) (kX11_ahead l g a_m I_m J_m (PQ.rf h_p).1.1) fx (gUV (uT _) u_515 u_516 u_517 u_5 u_518) rfl hdX11_ahead ⟨Nat.le_of_ble_eq_true rfl, Nat.le_of_ble_eq_true rfl⟩ hK hP hD hS hA [0, 1, 2, 3, 4, 5, 6, 7, 8, 9, 10, 11, 12, 13, 14, 15, 16, 17, 18, 19, 20, 21, 22] [] [0, 1, 2, 3, 4, 5, 6, 7, 8, 9, 10, 11, 12, 13, 14, 15, 16, 17, 18, 19, 20, 21, 22] rfl rfl rfl rfl (by decide) rfl (fun _ => rfl) rfl rfl rfl rfl hl.1 (Nat.le_of_ble_eq_true rfl) dX11_wantWord_16 (fun u3 H locs p_r2 hP hD hS => ?_)
    have hP : va_P g.1 vwCl (wX11 g a_m u3 J_m) H := hP
    have hD : va_D A (wX11 g a_m u3 J_m) := hD
    refine lv_iconst (v := 1) hx hb dX11_wantWord_19 (by decide) ?_
    have lr : (1 : Int32).toInt = 1 := by decide
    refine hret 20 ls (1 : Int32) _ _ u3 dX11_wantWord_20 (Or.inr rfl) hS hP hD ?_
    exact ⟨(KK.tr (KK.rf I_m) p_r2.1 (by decide) (by decide)), (PQ.ah (PQ.rf h_p) p_r2.2.1 p_r2.1 (by decide)), Or.inr rfl, fun _ => p_r2.2.1.2.2, fun p td T cu l h17 hk => fxMo.yes rfl (by rw [p_r2.1.num 17 (by decide)]; exact h17) (fx_tk l p_r2.2.2 rfl rfl fxRe.rf (fx_w6y p_r1 (by omega))) p_r2.2.2⟩
  · refine lv_aload_n hx hb dX11_wantWord_9 rfl (lv_at hl 0 rfl) ?_
    refine lv_iconst (v := 2) hx hb dX11_wantWord_10 (by decide) ?_
    refine EffI.cv (wr := ([])) (w' := fun u5 => wX11 g a_m u5 J_m) (As := [.int (2 : Int32)]) (kX11_fails l g a_m I_m J_m (2 : Int32)) fx (gUV (uT _) u_557 u_558 u_559 u_5 u_560) rfl hdX11_fails ⟨Nat.le_of_ble_eq_true rfl, Nat.le_of_ble_eq_true rfl⟩ hK hP hD hS hA [0, 1, 2, 3, 4, 5, 6, 7, 8, 9, 10, 11, 12, 13, 14, 15, 16, 17, 18, 19, 20, 21, 22] [] [0, 1, 2, 3, 4, 5, 6, 7, 8, 9, 10, 11, 12, 13, 14, 15, 16, 17, 18, 19, 20, 21, 22] rfl rfl rfl rfl (by decide) rfl (fun _ => rfl) rfl rfl rfl rfl hl.1 (Nat.le_of_ble_eq_true rfl) dX11_wantWord_11 (fun r4 u5 H locs p_r4 hP hD hS => ?_)
    have hP : va_P g.1 vwCl (wX11 g a_m u5 J_m) H := hP
    have hD : va_D A (wX11 g a_m u5 J_m) := hD
    refine hret 14 ls r4 _ _ u5 dX11_wantWord_14 (Or.inl p_r4.2.1) hS hP hD ?_
    exact ⟨(KK.tr (KK.rf I_m) p_r4.1 (by decide) (by decide)), (PQ.fl (PQ.rf h_p) p_r4.1 (by decide) (p_r4.2.2.2 (by decide))), Or.inl p_r4.2.1, fun q => absurd (q.symm.trans p_r4.2.1) (by decide), fun p td T cu l h17 hk => fxMo.fail p_r4 h17 (by decide) l rfl rfl fxRe.rf (fun q => (fx_w6n l q p_r1 (by omega)).trans (congrArg Sum.inl (by decide)))⟩

set_option maxHeartbeats 4000000 in
set_option maxRecDepth 100000 in
theorem kX11_number (l : Launch) (g : gG) (a_m : Nat → Nat) (I_m : Nat → Nat → Int32) (J_m : Nat → Nat → Int64) (to : Int32) (least : Int32) (most : Int32) (hM : MI I_m) (hN : NS I_m) (h_to : 13201 ≤ to.toInt ∧ to.toInt ≤ 13205) (h_r : (to.toInt < 13204 → 0 ≤ least.toInt ∧ most.toInt ≤ 63) ∧ (to.toInt = 13204 → 4 ≤ least.toInt ∧ most.toInt ≤ 40) ∧ (to.toInt = 13205 → 2 ≤ least.toInt ∧ most.toInt ≤ 30)) (h_p : PS I_m) : EffI l g yX11_number wsX11_number 2 [.ref (a_m 0), .int to, .int least, .int most] (wX11 g a_m I_m J_m) (fun (u : (Nat → Nat → Int32)) => wX11 g a_m u J_m) (fun r (u : (Nat → Nat → Int32)) => MI (u) ∧ KK [1] [11, 12, 13, 14, 16, 17] I_m (u) ∧ PQ I_m (u) ∧ (r = 0 ∨ r = 1) ∧ (r = 1 → AD I_m (u)) ∧ NS (u) ∧ fxLow I_m (u) ∧ ∀ (p : Int) (td : Nat → Bool) (sg : Int), fxLM I_m p → (I_m 0 17).toInt = 0 → (0 ≤ sg ∧ sg ≤ 4) → to.toInt = 13201 + sg → least.toInt = fxLo sg → most.toInt = fxHi sg → fxMo I_m (u) r p (6, sg, td, fxTM (I_m 1) 13200, fxE) (7, 0, td, fxTM ((u) 1) 13200, fxE)) := by
  refine EffI.sz (cc := cX11_number) (maxL := 4) (by decide) rfl (Nat.le_of_ble_eq_true rfl) (fun p e s m args below meth c A Q ls fx hK hP hD hA hS hl hret => ?_)
  have hx := fx.1
  have hb := fx.2.1
  have hml := fx.2.2.1
  have hown := fx.2.2.2.1
  have hts := fx.2.2.2.2
  have hl : lv_has ls 4 [(0, .ref (a_m 0)), (1, .int to), (2, .int least), (3, .int most)] := hl
  have hP : va_P g.1 vwCl (wX11 g a_m I_m J_m) s.heap := hP
  have hf_7 := hts _ (uT _ _ u_170)
  have hf_141 := hts _ (uT _ _ u_520)
  have hf_144 := hts _ (uT _ _ u_506)
  have hi_X11 : ∀ w ∈ wsX110, w.before args s = true := fun w h => hts w (uT _ w (u_wsX110 w h))
  have lm1 : (-1 : Int32).toInt = -1 := by decide
  have lm0 : (0 : Int32).toInt = 0 := by decide
  have lm2 : (1 : Int32).toInt = 1 := by decide
  have lq2 : (2 : Int32).toInt = 2 := by decide
  have lq3 : (3 : Int32).toInt = 3 := by decide
  have lq4 : (4 : Int32).toInt = 4 := by decide
  refine lv_aload_n hx hb dX11_number_0 rfl (lv_at hl 0 rfl) ?_
  refine va_get (D := g.1) (ci := 11) (v := .int (I_m 0 11)) (C := RX11) (T := TX11) (N := 46) hx hb hi_X11 (fun _ h => h) hown hK.1 hP 0 rfl rfl 11 (by decide) hf_144 (fun _ h9 => h9) rfl dX11_number_1 ?_
  refine lv_iconst (v := 3) hx hb dX11_number_4 (by decide) ?_
  refine q_icmp_eq (tgt := 14) hx hb dX11_number_5 (by decide) rfl (by decide : (3 : Int32).toInt = 3) (fun k_5 => ?_) (fun k_5 => ?_)
  · refine lv_aload_n hx hb dX11_number_14 rfl (lv_at hl 0 rfl) ?_
    refine va_get (D := g.1) (ci := 11) (v := .int (I_m 0 14)) (C := RX11) (T := TX11) (N := 46) hx hb hi_X11 (fun _ h => h) hown hK.1 hP 0 rfl rfl 14 (by decide) hf_141 (fun _ h9 => h9) rfl dX11_number_15 ?_
    refine lv_iload_n hx hb dX11_number_18 rfl (lv_at hl 2 rfl) ?_
    refine q_icmp_lt (tgt := 30) hx hb dX11_number_19 (by decide) rfl rfl (fun k_19 => ?_) (fun k_19 => ?_)
    · refine lv_aload_n hx hb dX11_number_30 rfl (lv_at hl 0 rfl) ?_
      refine lv_iconst (v := 4) hx hb dX11_number_31 (by decide) ?_
      refine EffI.cv (wr := ([])) (w' := fun u2 => wX11 g a_m u2 J_m) (As := [.int (4 : Int32)]) (kX11_fails l g a_m I_m J_m (4 : Int32)) fx (gUV (uT _) u_557 u_558 u_559 u_5 u_560) rfl hdX11_fails ⟨Nat.le_of_ble_eq_true rfl, Nat.le_of_ble_eq_true rfl⟩ hK hP hD hS hA [0, 1, 2, 3, 4, 5, 6, 7, 8, 9, 10, 11, 12, 13, 14, 15, 16, 17, 18, 19, 20, 21, 22] [] [0, 1, 2, 3, 4, 5, 6, 7, 8, 9, 10, 11, 12, 13, 14, 15, 16, 17, 18, 19, 20, 21, 22] rfl rfl rfl rfl (by decide) rfl (fun _ => rfl) rfl rfl rfl rfl hl.1 (Nat.le_of_ble_eq_true rfl) dX11_number_32 (fun r1 u2 H locs p_r1 hP hD hS => ?_)
      have hP : va_P g.1 vwCl (wX11 g a_m u2 J_m) H := hP
      have hD : va_D A (wX11 g a_m u2 J_m) := hD
      refine hret 35 ls r1 _ _ u2 dX11_number_35 (Or.inl p_r1.2.1) hS hP hD ?_
      exact ⟨(MI.kk hM p_r1.1 (by decide) (by decide)), (KK.tr (KK.rf I_m) p_r1.1 (by decide) (by decide)), (PQ.fl (PQ.rf h_p) p_r1.1 (by decide) (p_r1.2.2.2 (by decide))), Or.inl p_r1.2.1, fun q => absurd (q.symm.trans p_r1.2.1) (by decide), hN.row (p_r1.1.row 1 (by decide)), (fxLow.rf I_m).kk p_r1.1 (by decide), fun p td sg l h17 hs ht hlo hhi => fxMo.fail p_r1 h17 (by decide) l rfl rfl fxRe.rf (fun q => by rw [fx_st6 (fun z => q ((fxKm_all l.2.2).2.1.mpr z)), if_pos (fxKm_3 (by omega))]; unfold fxSgv; rw [if_pos (by rw [← hlo, ← hhi]; omega)]; exact (congrArg Sum.inl (by decide)))⟩
    · refine lv_aload_n hx hb dX11_number_22 rfl (lv_at hl 0 rfl) ?_
      refine va_get (D := g.1) (ci := 11) (v := .int (I_m 0 14)) (C := RX11) (T := TX11) (N := 46) hx hb hi_X11 (fun _ h => h) hown hK.1 hP 0 rfl rfl 14 (by decide) hf_141 (fun _ h9 => h9) rfl dX11_number_23 ?_
      refine lv_iload_n hx hb dX11_number_26 rfl (lv_at hl 3 rfl) ?_
      refine q_icmp_le (tgt := 36) hx hb dX11_number_27 (by decide) rfl rfl (fun k_27 => ?_) (fun k_27 => ?_)
      · refine lv_aload_n hx hb dX11_number_36 rfl (lv_at hl 0 rfl) ?_
        refine va_get (D := g.1) (ci := 11) (v := .ref (a_m 1)) (C := RX11) (T := TX11) (N := 46) hx hb hi_X11 (fun _ h => h) hown hK.1 hP 0 rfl rfl 0 (by decide) hf_7 (fun _ h9 => h9) rfl dX11_number_37 ?_
        refine lv_iload_n hx hb dX11_number_40 rfl (lv_at hl 1 rfl) ?_
        refine lv_aload_n hx hb dX11_number_41 rfl (lv_at hl 0 rfl) ?_
        refine va_get (D := g.1) (ci := 11) (v := .int (I_m 0 14)) (C := RX11) (T := TX11) (N := 46) hx hb hi_X11 (fun _ h => h) hown hK.1 hP 0 rfl rfl 14 (by decide) hf_141 (fun _ h9 => h9) rfl dX11_number_42 ?_
        have n_45 : vp_in to 19800 := (t_in (by omega))
        obtain ⟨f3, e_f3⟩ : ∃ z, z = upd (I_m 1) to.toNatClampNeg (I_m 0 14) := ⟨_, rfl⟩
        refine va_iast hx hb hK.1 hP hD hS 1 0 rfl rfl n_45 dX11_number_45 (fun H locs hP hD hS => ?_)
        have hP : va_P g.1 vwCl (wX11 g a_m (uR I_m 1 f3) J_m) H := by rw [e_f3]; exact hP
        have hD : va_D A (wX11 g a_m (uR I_m 1 f3) J_m) := by rw [e_f3]; exact hD
        have hc_45 : MI (uR I_m 1 f3) := MI.ua hM e_f3 rfl (by omega) (by omega)
        have hk_45 : KK [1] [11, 12, 13, 14, 16, 17] I_m (uR I_m 1 f3) := KK.ur (KK.rf I_m) (by decide) (by decide)
        have hp_45 : PQ I_m (uR I_m 1 f3) := PQ.ur (PQ.rf h_p) (by decide)
        have hN45 : NS (uR I_m 1 f3) := hN.sg e_f3 rfl (by omega) (by omega)
        refine lv_aload_n hx hb dX11_number_46 rfl (lv_at hl 0 rfl) ?_
        refine EffV.cv (wr := ([])) (w' := fun u5 => wX11 g a_m u5 J_m) (As := []) (kX11_ahead l g a_m (uR I_m 1 f3) J_m hp_45.1.1) fx (gUV (uT _) u_515 u_516 u_517 u_5 u_518) rfl hdX11_ahead ⟨Nat.le_of_ble_eq_true rfl, Nat.le_of_ble_eq_true rfl⟩ hK hP hD hS hA [0, 1, 2, 3, 4, 5, 6, 7, 8, 9, 10, 11, 12, 13, 14, 15, 16, 17, 18, 19, 20, 21, 22] [] [0, 1, 2, 3, 4, 5, 6, 7, 8, 9, 10, 11, 12, 13, 14, 15, 16, 17, 18, 19, 20, 21, 22] rfl rfl rfl rfl (by decide) rfl (fun _ => rfl) rfl rfl rfl rfl hl.1 (Nat.le_of_ble_eq_true rfl) dX11_number_47 (fun u5 H locs p_r4 hP hD hS => ?_)
        have hP : va_P g.1 vwCl (wX11 g a_m u5 J_m) H := hP
        have hD : va_D A (wX11 g a_m u5 J_m) := hD
        have p_r4 : KK [] [11, 12, 13, 14] (uR I_m 1 f3) u5 ∧ AH (uR I_m 1 f3) u5 ∧ fxLM u5 (I_m 0 13).toInt := p_r4
        refine lv_iconst (v := 1) hx hb dX11_number_50 (by decide) ?_
        have lr : (1 : Int32).toInt = 1 := by decide
        refine hret 51 ls (1 : Int32) _ _ u5 dX11_number_51 (Or.inr rfl) hS hP hD ?_
        exact ⟨(MI.kk hc_45 p_r4.1 (by decide) (by decide)), (KK.tr hk_45 p_r4.1 (by decide) (by decide)), (PQ.ah hp_45 p_r4.2.1 p_r4.1 (by decide)), Or.inr rfl, fun _ => p_r4.2.1.2.2, hN45.row (p_r4.1.row 1 (by decide)), ((fxLow.rf I_m).put e_f3 rfl (by omega)).kk p_r4.1 (by decide), fun p td sg l h17 hs ht hlo hhi => fxMo.yes rfl (by rw [p_r4.1.num 17 (by decide)]; exact h17) (fx_tk l p_r4.2.2 rfl rfl fxRe.rf (by rw [fx_st6 (by rw [fxKm_3 (by omega)]; decide), if_pos (fxKm_3 (by omega))]; unfold fxSgv; rw [if_neg (by rw [← hlo, ← hhi]; omega), p_r4.1.row 1 (by decide)]; exact congrArg (fun T : fxT => (Sum.inr ((7 : Int), (0 : Int), td, T, fxE) : Sum Int fxS)) (fxTM.sig hN.1 e_f3 ht hs).symm)) p_r4.2.2⟩
      · refine lv_aload_n hx hb dX11_number_30 rfl (lv_at hl 0 rfl) ?_
        refine lv_iconst (v := 4) hx hb dX11_number_31 (by decide) ?_
        refine EffI.cv (wr := ([])) (w' := fun u7 => wX11 g a_m u7 J_m) (As := [.int (4 : Int32)]) (kX11_fails l g a_m I_m J_m (4 : Int32)) fx (gUV (uT _) u_557 u_558 u_559 u_5 u_560) rfl hdX11_fails ⟨Nat.le_of_ble_eq_true rfl, Nat.le_of_ble_eq_true rfl⟩ hK hP hD hS hA [0, 1, 2, 3, 4, 5, 6, 7, 8, 9, 10, 11, 12, 13, 14, 15, 16, 17, 18, 19, 20, 21, 22] [] [0, 1, 2, 3, 4, 5, 6, 7, 8, 9, 10, 11, 12, 13, 14, 15, 16, 17, 18, 19, 20, 21, 22] rfl rfl rfl rfl (by decide) rfl (fun _ => rfl) rfl rfl rfl rfl hl.1 (Nat.le_of_ble_eq_true rfl) dX11_number_32 (fun r6 u7 H locs p_r6 hP hD hS => ?_)
        have hP : va_P g.1 vwCl (wX11 g a_m u7 J_m) H := hP
        have hD : va_D A (wX11 g a_m u7 J_m) := hD
        refine hret 35 ls r6 _ _ u7 dX11_number_35 (Or.inl p_r6.2.1) hS hP hD ?_
        exact ⟨(MI.kk hM p_r6.1 (by decide) (by decide)), (KK.tr (KK.rf I_m) p_r6.1 (by decide) (by decide)), (PQ.fl (PQ.rf h_p) p_r6.1 (by decide) (p_r6.2.2.2 (by decide))), Or.inl p_r6.2.1, fun q => absurd (q.symm.trans p_r6.2.1) (by decide), hN.row (p_r6.1.row 1 (by decide)), (fxLow.rf I_m).kk p_r6.1 (by decide), fun p td sg l h17 hs ht hlo hhi => fxMo.fail p_r6 h17 (by decide) l rfl rfl fxRe.rf (fun q => by rw [fx_st6 (fun z => q ((fxKm_all l.2.2).2.1.mpr z)), if_pos (fxKm_3 (by omega))]; unfold fxSgv; rw [if_pos (by rw [← hlo, ← hhi]; omega)]; exact (congrArg Sum.inl (by decide)))⟩
  · refine lv_aload_n hx hb dX11_number_8 rfl (lv_at hl 0 rfl) ?_
    refine lv_iconst (v := 2) hx hb dX11_number_9 (by decide) ?_
    refine EffI.cv (wr := ([])) (w' := fun u9 => wX11 g a_m u9 J_m) (As := [.int (2 : Int32)]) (kX11_fails l g a_m I_m J_m (2 : Int32)) fx (gUV (uT _) u_557 u_558 u_559 u_5 u_560) rfl hdX11_fails ⟨Nat.le_of_ble_eq_true rfl, Nat.le_of_ble_eq_true rfl⟩ hK hP hD hS hA [0, 1, 2, 3, 4, 5, 6, 7, 8, 9, 10, 11, 12, 13, 14, 15, 16, 17, 18, 19, 20, 21, 22] [] [0, 1, 2, 3, 4, 5, 6, 7, 8, 9, 10, 11, 12, 13, 14, 15, 16, 17, 18, 19, 20, 21, 22] rfl rfl rfl rfl (by decide) rfl (fun _ => rfl) rfl rfl rfl rfl hl.1 (Nat.le_of_ble_eq_true rfl) dX11_number_10 (fun r8 u9 H locs p_r8 hP hD hS => ?_)
    have hP : va_P g.1 vwCl (wX11 g a_m u9 J_m) H := hP
    have hD : va_D A (wX11 g a_m u9 J_m) := hD
    refine hret 13 ls r8 _ _ u9 dX11_number_13 (Or.inl p_r8.2.1) hS hP hD ?_
    exact ⟨(MI.kk hM p_r8.1 (by decide) (by decide)), (KK.tr (KK.rf I_m) p_r8.1 (by decide) (by decide)), (PQ.fl (PQ.rf h_p) p_r8.1 (by decide) (p_r8.2.2.2 (by decide))), Or.inl p_r8.2.1, fun q => absurd (q.symm.trans p_r8.2.1) (by decide), hN.row (p_r8.1.row 1 (by decide)), (fxLow.rf I_m).kk p_r8.1 (by decide), fun p td sg l h17 hs ht hlo hhi => fxMo.fail p_r8 h17 (by decide) l rfl rfl fxRe.rf (fun q => by rw [fx_st6 (fun z => q ((fxKm_all l.2.2).2.1.mpr z)), if_neg (fun z => absurd ((fxKm_all l.2.2).2.2.2.1.mpr z) (by omega))]; exact (congrArg Sum.inl (by decide)))⟩

set_option maxHeartbeats 4000000 in
set_option maxRecDepth 100000 in
theorem kX11_taken (l : Launch) (g : gG) (a_m : Nat → Nat) (I_m : Nat → Nat → Int32) (J_m : Nat → Nat → Int64) (gv : Int32)  : EffI l g yX11_taken wsX11_taken 1 [.ref (a_m 0), .int gv] (wX11 g a_m I_m J_m) (fun (u : (Nat → Nat → Int32)) => wX11 g a_m u J_m) (fun r (u : (Nat → Nat → Int32)) => KK [] [1, 15] I_m (u) ∧ (u) 0 15 = I_m 0 17 ∧ ((I_m 0 17).toInt ≤ 0 → r = gv) ∧ (0 < (I_m 0 17).toInt → r = -1)) := by
  refine EffI.st (cc := cX11_taken) (maxL := 2) (by decide) rfl (Nat.le_of_ble_eq_true rfl) (fun p e s m args below meth c A Q ls fx hK hP hD hA hS hl hret => ?_)
  have hx := fx.1
  have hb := fx.2.1
  have hml := fx.2.2.1
  have hown := fx.2.2.2.1
  have hts := fx.2.2.2.2
  have hl : lv_has ls 2 [(0, .ref (a_m 0)), (1, .int gv)] := hl
  have hP : va_P g.1 vwCl (wX11 g a_m I_m J_m) s.heap := hP
  have hf_34 := hts _ (uT _ _ u_178)
  have hf_169 := hts _ (uT _ _ u_507)
  have hi_X11 : ∀ w ∈ wsX110, w.before args s = true := fun w h => hts w (uT _ w (u_wsX110 w h))
  have lm1 : (-1 : Int32).toInt = -1 := by decide
  have lm0 : (0 : Int32).toInt = 0 := by decide
  have lm2 : (1 : Int32).toInt = 1 := by decide
  refine lv_aload_n hx hb dX11_taken_0 rfl (lv_at hl 0 rfl) ?_
  refine lv_aload_n hx hb dX11_taken_1 rfl (lv_at hl 0 rfl) ?_
  refine va_get (D := g.1) (ci := 11) (v := .int (I_m 0 17)) (C := RX11) (T := TX11) (N := 46) hx hb hi_X11 (fun _ h => h) hown hK.1 hP 0 rfl rfl 17 (by decide) hf_169 (fun _ h9 => h9) rfl dX11_taken_2 ?_
  refine va_put (D := g.1) (ci := 11) (v := .int (I_m 0 17)) (ty := .int) (C := RX11) (T := TX11) (N := 46) hx hb hi_X11 (fun _ h => h) tyX11 tyX11_ok nmX11 hown hK.1 hP hD hS 0 rfl rfl 15 (by decide) hf_34 (fun _ h9 => h9) rfl (by decide +kernel) rfl rfl (Nat.le_of_ble_eq_true rfl) dX11_taken_5 (fun H locs hP hD hS => ?_)
  have hP : va_P g.1 vwCl (wX11 g a_m (uF I_m 0 15 (I_m 0 17)) J_m) H := hP
  have hD : va_D A (wX11 g a_m (uF I_m 0 15 (I_m 0 17)) J_m) := hD
  have hk_5 : KK [] [1, 15] I_m (uF I_m 0 15 (I_m 0 17)) := KK.uf (KK.rf I_m) (by decide)
  refine lv_aload_n hx hb dX11_taken_8 rfl (lv_at hl 0 rfl) ?_
  refine va_get (D := g.1) (ci := 11) (v := .int (I_m 0 17)) (C := RX11) (T := TX11) (N := 46) hx hb hi_X11 (fun _ h => h) hown hK.1 hP 0 rfl rfl 17 (by decide) hf_169 (fun _ h9 => h9) rfl dX11_taken_9 ?_
  refine q_if_le (tgt := 24) hx hb dX11_taken_12 (by decide) rfl (fun k_12 => ?_) (fun k_12 => ?_)
  · refine lv_aload_n hx hb dX11_taken_24 rfl (lv_at hl 0 rfl) ?_
    refine lv_iload_n hx hb dX11_taken_25 rfl (lv_at hl 1 rfl) ?_
    refine EffI.cv (wr := ([])) (w' := fun u2 => wX11 g a_m u2 J_m) (As := [.int gv]) (kX11_gives l g a_m (uF I_m 0 15 (I_m 0 17)) J_m gv) fx (gUV (uT _) u_585 u_586 u_587 u_5 u_588) rfl hdX11_gives ⟨Nat.le_of_ble_eq_true rfl, Nat.le_of_ble_eq_true rfl⟩ hK hP hD hS hA [0, 1, 2, 3, 4, 5, 6, 7, 8, 9, 10, 11, 12, 13, 14, 15, 16, 17, 18, 19, 20, 21, 22] [] [0, 1, 2, 3, 4, 5, 6, 7, 8, 9, 10, 11, 12, 13, 14, 15, 16, 17, 18, 19, 20, 21, 22] rfl rfl rfl rfl (by decide) rfl (fun _ => rfl) rfl rfl rfl rfl hl.1 (Nat.le_of_ble_eq_true rfl) dX11_taken_26 (fun r1 u2 H locs p_r1 hP hD hS => ?_)
    have hP : va_P g.1 vwCl (wX11 g a_m u2 J_m) H := hP
    have hD : va_D A (wX11 g a_m u2 J_m) := hD
    refine hret 29 ls r1 _ _ u2 dX11_taken_29 hS hP hD ?_
    exact ⟨(KK.st hk_5 p_r1.2 (by decide)), (by exact ⟨congrFun (congrFun p_r1.2 0) 15, (fun _ => p_r1.1), fun q => by exfalso; omega⟩)⟩
  · refine lv_aload_n hx hb dX11_taken_15 rfl (lv_at hl 0 rfl) ?_
    refine lv_bipush (v := 9) hx hb dX11_taken_16 (by decide) ?_
    refine EffI.cv (wr := ([])) (w' := fun u4 => wX11 g a_m u4 J_m) (As := [.int (9 : Int32)]) (kX11_refuse l g a_m (uF I_m 0 15 (I_m 0 17)) J_m (9 : Int32)) fx (gUV (uT _) u_536 u_537 u_538 u_5 u_539) rfl hdX11_refuse ⟨Nat.le_of_ble_eq_true rfl, Nat.le_of_ble_eq_true rfl⟩ hK hP hD hS hA [0, 1, 2, 3, 4, 5, 6, 7, 8, 9, 10, 11, 12, 13, 14, 15, 16, 17, 18, 19, 20, 21, 22] [] [0, 1, 2, 3, 4, 5, 6, 7, 8, 9, 10, 11, 12, 13, 14, 15, 16, 17, 18, 19, 20, 21, 22] rfl rfl rfl rfl (by decide) rfl (fun _ => rfl) rfl rfl rfl rfl hl.1 (Nat.le_of_ble_eq_true rfl) dX11_taken_18 (fun r3 u4 H locs p_r3 hP hD hS => ?_)
    have hP : va_P g.1 vwCl (wX11 g a_m u4 J_m) H := hP
    have hD : va_D A (wX11 g a_m u4 J_m) := hD
    refine lv_goto (tgt := 29) hx hb dX11_taken_21 (by decide) ?_
    refine hret 29 ls r3 _ _ u4 dX11_taken_29 hS hP hD ?_
    exact ⟨(KK.st hk_5 p_r3.2 (by decide)), (by exact ⟨congrFun (congrFun p_r3.2 0) 15, (fun q => by exfalso; omega), fun _ => p_r3.1⟩)⟩

set_option maxHeartbeats 4000000 in
set_option maxRecDepth 100000 in
theorem kX11_likeRule (l : Launch) (g : gG) (a_m : Nat → Nat) (I_m : Nat → Nat → Int32) (J_m : Nat → Nat → Int64) (a : Int32) (b : Int32) (h_a : 0 ≤ a.toInt ∧ a.toInt ≤ 19000 ∧ 0 ≤ b.toInt ∧ b.toInt ≤ 19000) (h_l : (I_m 1 a.toNatClampNeg).toInt ≤ 6) (h_ln : 0 ≤ (I_m 1 a.toNatClampNeg).toInt ∧ 0 ≤ (I_m 1 b.toNatClampNeg).toInt) : PurI l g yX11_likeRule wsX11_likeRule 0 [.ref (a_m 0), .int a, .int b] (wX11 g a_m I_m J_m) (fun r => bP (fxLsM (I_m 1) a.toNatClampNeg = fxLsM (I_m 1) b.toNatClampNeg ∧ (I_m 1 (a.toNatClampNeg + 11)).toInt = (I_m 1 (b.toNatClampNeg + 11)).toInt) (¬ (fxLsM (I_m 1) a.toNatClampNeg = fxLsM (I_m 1) b.toNatClampNeg ∧ (I_m 1 (a.toNatClampNeg + 11)).toInt = (I_m 1 (b.toNatClampNeg + 11)).toInt)) r) := by
  refine PurI.sz (cc := cX11_likeRule) (maxL := 5) (by decide) rfl (Nat.le_of_ble_eq_true rfl) (fun p e s m args below meth c Q ls fx hK hP hl hret => ?_)
  have hx := fx.1
  have hb := fx.2.1
  have hml := fx.2.2.1
  have hown := fx.2.2.2.1
  have hts := fx.2.2.2.2
  have hl : lv_has ls 5 [(0, .ref (a_m 0)), (1, .int a), (2, .int b)] := hl
  have hP : va_P g.1 vwCl (wX11 g a_m I_m J_m) s.heap := hP
  have hf_7 := hts _ (uT _ _ u_170)
  have hi_X11 : ∀ w ∈ wsX110, w.before args s = true := fun w h => hts w (uT _ w (u_wsX110 w h))
  have lm1 : (-1 : Int32).toInt = -1 := by decide
  have lm0 : (0 : Int32).toInt = 0 := by decide
  have lm2 : (1 : Int32).toInt = 1 := by decide
  have lq11 : (11 : Int32).toInt = 11 := by decide
  have ia := t_cl (i := a) rfl h_a.1
  have ib := t_cl (i := b) rfl h_a.2.2.1
  refine lv_aload_n hx hb dX11_likeRule_0 rfl (lv_at hl 0 rfl) ?_
  refine va_get (D := g.1) (ci := 11) (v := .ref (a_m 1)) (C := RX11) (T := TX11) (N := 46) hx hb hi_X11 (fun _ h => h) hown hK.1 hP 0 rfl rfl 0 (by decide) hf_7 (fun _ h9 => h9) rfl dX11_likeRule_1 ?_
  refine lv_iload_n hx hb dX11_likeRule_4 rfl (lv_at hl 1 rfl) ?_
  have n_5 : vp_in a 19800 := (t_in (by omega))
  refine va_iald hx hb hK.1 hP 1 0 rfl rfl n_5 dX11_likeRule_5 ?_
  refine q_nm (fun x1 e_x1 => ?_)
  have e_x1 : x1 = (I_m 1) a.toNatClampNeg := e_x1
  have g_x1 : x1.toInt = ((I_m 1) a.toNatClampNeg).toInt := congrArg _ e_x1
  have hp5 : 0 ≤ x1.toInt := by rw [e_x1]; exact h_ln.1
  refine lv_aload_n hx hb dX11_likeRule_6 rfl (lv_at hl 0 rfl) ?_
  refine va_get (D := g.1) (ci := 11) (v := .ref (a_m 1)) (C := RX11) (T := TX11) (N := 46) hx hb hi_X11 (fun _ h => h) hown hK.1 hP 0 rfl rfl 0 (by decide) hf_7 (fun _ h9 => h9) rfl dX11_likeRule_7 ?_
  refine lv_iload_n hx hb dX11_likeRule_10 rfl (lv_at hl 2 rfl) ?_
  have n_11 : vp_in b 19800 := (t_in (by omega))
  refine va_iald hx hb hK.1 hP 1 0 rfl rfl n_11 dX11_likeRule_11 ?_
  refine q_nm (fun x2 e_x2 => ?_)
  have e_x2 : x2 = (I_m 1) b.toNatClampNeg := e_x2
  have g_x2 : x2.toInt = ((I_m 1) b.toNatClampNeg).toInt := congrArg _ e_x2
  have hp11 : 0 ≤ x2.toInt := by rw [e_x2]; exact h_ln.2
  refine q_icmp_ne (tgt := 40) hx hb dX11_likeRule_12 (by decide) rfl rfl (fun k_12 => ?_) (fun k_12 => ?_)
  · refine lv_iconst (v := 0) hx hb dX11_likeRule_40 (by decide) ?_
    refine lv_istore_n (lv' := [(3, .int (0 : Int32)), (0, .ref (a_m 0)), (1, .int a), (2, .int b)]) hx hb dX11_likeRule_41 rfl hl (by decide) rfl (fun ls hl => ?_)
    refine lv_iconst (v := 0) hx hb dX11_likeRule_42 (by decide) ?_
    refine lv_istore (lv' := [(4, .int (0 : Int32)), (3, .int (0 : Int32)), (0, .ref (a_m 0)), (1, .int a), (2, .int b)]) hx hb dX11_likeRule_43 hl (by decide) rfl (fun ls hl => ?_)
    have L45 : ∀ (nn : Nat) (v3_45 : Int32) (v4_45 : Int32), (hv_45 : 0 ≤ v4_45.toInt ∧ v4_45.toInt ≤ 6) → (hz_45 : v3_45 = 0 ∨ v3_45 = 1) → (hY_45 : v3_45.toInt = 1 → ((I_m 1 a.toNatClampNeg).toInt = (I_m 1 b.toNatClampNeg).toInt ∧ (I_m 1 (a.toNatClampNeg + 11)).toInt = (I_m 1 (b.toNatClampNeg + 11)).toInt ∧ ∀ k : Nat, (k : Int) < v4_45.toInt → (I_m 1 (a.toNatClampNeg + 1 + k)).toInt = (I_m 1 (b.toNatClampNeg + 1 + k)).toInt)) → (hX_45 : v3_45.toInt = 0 → ¬ (fxLsM (I_m 1) a.toNatClampNeg = fxLsM (I_m 1) b.toNatClampNeg ∧ (I_m 1 (a.toNatClampNeg + 11)).toInt = (I_m 1 (b.toNatClampNeg + 11)).toInt)) → ((7 - v4_45.toInt) < (nn : Int)) → ∀ ls : Array Slot, lv_has ls 5 [(4, .int v4_45), (3, .int v3_45), (0, .ref (a_m 0)), (1, .int a), (2, .int b)] → W p l e (rm 0) s m args below meth c s.heap [] 0 0 Q (F0 m 45 ls []) := by
      intro n_45
      induction n_45 with
      | zero =>
        intro v3_45 v4_45 hv_45 hz_45 hY_45 hX_45 hms_45 ls hl
        exfalso; omega
      | succ n_45 ih_45 =>
        intro v3_45 v4_45 hv_45 hz_45 hY_45 hX_45 hms_45 ls hl
        refine lv_iload hx hb dX11_likeRule_45 (lv_at hl 0 rfl) ?_
        refine lv_aload_n hx hb dX11_likeRule_47 rfl (lv_at hl 2 rfl) ?_
        refine va_get (D := g.1) (ci := 11) (v := .ref (a_m 1)) (C := RX11) (T := TX11) (N := 46) hx hb hi_X11 (fun _ h => h) hown hK.1 hP 0 rfl rfl 0 (by decide) hf_7 (fun _ h9 => h9) rfl dX11_likeRule_48 ?_
        refine lv_iload_n hx hb dX11_likeRule_51 rfl (lv_at hl 3 rfl) ?_
        have n_52 : vp_in a 19800 := (t_in (by omega))
        refine va_iald hx hb hK.1 hP 1 0 rfl rfl n_52 dX11_likeRule_52 ?_
        refine q_nm (fun x3 e_x3 => ?_)
        have e_x3 : x3 = (I_m 1) a.toNatClampNeg := e_x3
        have g_x3 : x3.toInt = ((I_m 1) a.toNatClampNeg).toInt := congrArg _ e_x3
        have hl52 : x3.toInt ≤ 6 := by rw [e_x3]; exact h_l
        refine q_icmp_ge (tgt := 97) hx hb dX11_likeRule_53 (by decide) rfl rfl (fun k_53 => ?_) (fun k_53 => ?_)
        · refine lv_iload_n hx hb dX11_likeRule_97 rfl (lv_at hl 1 rfl) ?_
          exact hret 98 ls v3_45 dX11_likeRule_98 hz_45 (by rcases hz_45 with q | q; exact Or.inr ⟨q, hX_45 (by rw [q]; decide)⟩; first | exact absurd (b_57.symm.trans q) (by decide) | exact Or.inl ⟨q, fxLsM.eq (hY_45 (by rw [q]; decide)).1 (fun k hk => (hY_45 (by rw [q]; decide)).2.2 k (by rw [← e_x3] at hk; omega)), (hY_45 (by rw [q]; decide)).2.1⟩)
        · refine lv_iload_n hx hb dX11_likeRule_56 rfl (lv_at hl 1 rfl) ?_
          refine q_if_eq (tgt := 97) hx hb dX11_likeRule_57 (by decide) rfl (fun b_57 k_57 => ?_) (fun b_57 k_57 => ?_)
          · refine lv_iload_n hx hb dX11_likeRule_97 rfl (lv_at hl 1 rfl) ?_
            exact hret 98 ls v3_45 dX11_likeRule_98 hz_45 (by rcases hz_45 with q | q; exact Or.inr ⟨q, hX_45 (by rw [q]; decide)⟩; first | exact absurd (b_57.symm.trans q) (by decide) | exact Or.inl ⟨q, fxLsM.eq (hY_45 (by rw [q]; decide)).1 (fun k hk => (hY_45 (by rw [q]; decide)).2.2 k (by rw [← e_x3] at hk; omega)), (hY_45 (by rw [q]; decide)).2.1⟩)
          · have hY1 := hY_45 (by rcases hz_45 with q | q; exact absurd q b_57; rw [q]; decide)
            refine lv_aload_n hx hb dX11_likeRule_60 rfl (lv_at hl 2 rfl) ?_
            refine va_get (D := g.1) (ci := 11) (v := .ref (a_m 1)) (C := RX11) (T := TX11) (N := 46) hx hb hi_X11 (fun _ h => h) hown hK.1 hP 0 rfl rfl 0 (by decide) hf_7 (fun _ h9 => h9) rfl dX11_likeRule_61 ?_
            refine lv_iload_n hx hb dX11_likeRule_64 rfl (lv_at hl 3 rfl) ?_
            refine lv_iconst (v := 1) hx hb dX11_likeRule_65 (by decide) ?_
            refine r_iadd hx hb dX11_likeRule_66 rfl (by decide : (1 : Int32).toInt = 1) (fun x4 e_x4 t_x4 => ?_)
            try have t_x4 := t_x4 (by omega)
            refine lv_iload hx hb dX11_likeRule_67 (lv_at hl 0 rfl) ?_
            refine r_iadd hx hb dX11_likeRule_69 rfl rfl (fun x5 e_x5 t_x5 => ?_)
            try have t_x5 := t_x5 (by omega)
            have n_70 : vp_in x5 19800 := (t_in (by omega))
            refine va_iald hx hb hK.1 hP 1 0 rfl rfl n_70 dX11_likeRule_70 ?_
            refine q_nm (fun x6 e_x6 => ?_)
            have e_x6 : x6 = (I_m 1) x5.toNatClampNeg := e_x6
            have g_x6 : x6.toInt = ((I_m 1) x5.toNatClampNeg).toInt := congrArg _ e_x6
            refine lv_aload_n hx hb dX11_likeRule_71 rfl (lv_at hl 2 rfl) ?_
            refine va_get (D := g.1) (ci := 11) (v := .ref (a_m 1)) (C := RX11) (T := TX11) (N := 46) hx hb hi_X11 (fun _ h => h) hown hK.1 hP 0 rfl rfl 0 (by decide) hf_7 (fun _ h9 => h9) rfl dX11_likeRule_72 ?_
            refine lv_iload_n hx hb dX11_likeRule_75 rfl (lv_at hl 4 rfl) ?_
            refine lv_iconst (v := 1) hx hb dX11_likeRule_76 (by decide) ?_
            refine r_iadd hx hb dX11_likeRule_77 rfl (by decide : (1 : Int32).toInt = 1) (fun x7 e_x7 t_x7 => ?_)
            try have t_x7 := t_x7 (by omega)
            refine lv_iload hx hb dX11_likeRule_78 (lv_at hl 0 rfl) ?_
            refine r_iadd hx hb dX11_likeRule_80 rfl rfl (fun x8 e_x8 t_x8 => ?_)
            try have t_x8 := t_x8 (by omega)
            have n_81 : vp_in x8 19800 := (t_in (by omega))
            refine va_iald hx hb hK.1 hP 1 0 rfl rfl n_81 dX11_likeRule_81 ?_
            refine q_nm (fun x9 e_x9 => ?_)
            have e_x9 : x9 = (I_m 1) x8.toNatClampNeg := e_x9
            have g_x9 : x9.toInt = ((I_m 1) x8.toNatClampNeg).toInt := congrArg _ e_x9
            refine q_icmp_ne (tgt := 89) hx hb dX11_likeRule_82 (by decide) rfl rfl (fun k_82 => ?_) (fun k_82 => ?_)
            · refine lv_iconst (v := 0) hx hb dX11_likeRule_89 (by decide) ?_
              refine lv_istore_n (lv' := [(3, .int (0 : Int32)), (4, .int v4_45), (0, .ref (a_m 0)), (1, .int a), (2, .int b)]) hx hb dX11_likeRule_90 rfl hl (by decide) rfl (fun ls hl => ?_)
              refine r_iinc (lv' := fun i10 => [(4, .int i10), (3, .int (0 : Int32)), (0, .ref (a_m 0)), (1, .int a), (2, .int b)]) hx hb dX11_likeRule_91 hl (k := 1) rfl (by decide) rfl (by decide) (fun _ => rfl) (fun i10 e_i10 t_i10 ls hl => ?_)
              try have t_i10 := t_i10 (by omega)
              refine lv_goto (tgt := 45) hx hb dX11_likeRule_94 (by decide) ?_
              exact ih_45 (0 : Int32) i10 (by omega) (by first | exact Or.inr rfl | exact Or.inl rfl) (by first | exact (fun q => absurd q (by decide)) | exact (fun _ => ⟨hY1.1, hY1.2.1, fun k q => by by_cases w : (k : Int) < v4_45.toInt; exact hY1.2.2 k w; rw [show k = v4_45.toInt.toNat by omega, (show (I_m 1 (a.toNatClampNeg + 1 + v4_45.toInt.toNat)).toInt = x6.toInt from congrArg Int32.toInt (at_ix (k := a.toNatClampNeg + 1 + v4_45.toInt.toNat) e_x6 (by omega)).symm), (show (I_m 1 (b.toNatClampNeg + 1 + v4_45.toInt.toNat)).toInt = x9.toInt from congrArg Int32.toInt (at_ix (k := b.toNatClampNeg + 1 + v4_45.toInt.toNat) e_x9 (by omega)).symm)]; exact k_82⟩)) (by first | exact (fun q => absurd q (by decide)) | exact (fun _ z => by have w := fxLsM.at (k := v4_45.toInt.toNat) z.1 (by rw [← e_x3]; omega); rw [(show (I_m 1 (a.toNatClampNeg + 1 + v4_45.toInt.toNat)).toInt = x6.toInt from congrArg Int32.toInt (at_ix (k := a.toNatClampNeg + 1 + v4_45.toInt.toNat) e_x6 (by omega)).symm), (show (I_m 1 (b.toNatClampNeg + 1 + v4_45.toInt.toNat)).toInt = x9.toInt from congrArg Int32.toInt (at_ix (k := b.toNatClampNeg + 1 + v4_45.toInt.toNat) e_x9 (by omega)).symm)] at w; exact k_82 w)) (by omega) ls hl
            · refine lv_iconst (v := 1) hx hb dX11_likeRule_85 (by decide) ?_
              refine lv_goto (tgt := 90) hx hb dX11_likeRule_86 (by decide) ?_
              refine lv_istore_n (lv' := [(3, .int (1 : Int32)), (4, .int v4_45), (0, .ref (a_m 0)), (1, .int a), (2, .int b)]) hx hb dX11_likeRule_90 rfl hl (by decide) rfl (fun ls hl => ?_)
              refine r_iinc (lv' := fun i11 => [(4, .int i11), (3, .int (1 : Int32)), (0, .ref (a_m 0)), (1, .int a), (2, .int b)]) hx hb dX11_likeRule_91 hl (k := 1) rfl (by decide) rfl (by decide) (fun _ => rfl) (fun i11 e_i11 t_i11 ls hl => ?_)
              try have t_i11 := t_i11 (by omega)
              refine lv_goto (tgt := 45) hx hb dX11_likeRule_94 (by decide) ?_
              exact ih_45 (1 : Int32) i11 (by omega) (by first | exact Or.inr rfl | exact Or.inl rfl) (by first | exact (fun q => absurd q (by decide)) | exact (fun _ => ⟨hY1.1, hY1.2.1, fun k q => by by_cases w : (k : Int) < v4_45.toInt; exact hY1.2.2 k w; rw [show k = v4_45.toInt.toNat by omega, (show (I_m 1 (a.toNatClampNeg + 1 + v4_45.toInt.toNat)).toInt = x6.toInt from congrArg Int32.toInt (at_ix (k := a.toNatClampNeg + 1 + v4_45.toInt.toNat) e_x6 (by omega)).symm), (show (I_m 1 (b.toNatClampNeg + 1 + v4_45.toInt.toNat)).toInt = x9.toInt from congrArg Int32.toInt (at_ix (k := b.toNatClampNeg + 1 + v4_45.toInt.toNat) e_x9 (by omega)).symm)]; exact k_82⟩)) (by first | exact (fun q => absurd q (by decide)) | exact (fun _ z => by have w := fxLsM.at (k := v4_45.toInt.toNat) z.1 (by rw [← e_x3]; omega); rw [(show (I_m 1 (a.toNatClampNeg + 1 + v4_45.toInt.toNat)).toInt = x6.toInt from congrArg Int32.toInt (at_ix (k := a.toNatClampNeg + 1 + v4_45.toInt.toNat) e_x6 (by omega)).symm), (show (I_m 1 (b.toNatClampNeg + 1 + v4_45.toInt.toNat)).toInt = x9.toInt from congrArg Int32.toInt (at_ix (k := b.toNatClampNeg + 1 + v4_45.toInt.toNat) e_x9 (by omega)).symm)] at w; exact k_82 w)) (by omega) ls hl
    exact L45 ((7 - (0 : Int32).toInt) + 1).toNat (0 : Int32) (0 : Int32) (by omega) (by first | exact Or.inl rfl | exact Or.inr rfl) (by first | exact (fun q => absurd q (by decide)) | exact (fun _ => ⟨by rw [← e_x1, ← e_x2]; omega, by rw [he11.1, he11.2]; omega, fun k q => by rw [lm0] at q; omega⟩)) (by first | exact (fun q => absurd q (by decide)) | exact (fun _ z => by have w := congrArg List.length z.1; rw [fxLsM.len, fxLsM.len, ← e_x1, ← e_x2] at w; omega) | exact (fun _ z => by have w := z.2; rw [he11.1, he11.2] at w; omega)) (by omega) ls hl
  · refine lv_aload_n hx hb dX11_likeRule_15 rfl (lv_at hl 0 rfl) ?_
    refine va_get (D := g.1) (ci := 11) (v := .ref (a_m 1)) (C := RX11) (T := TX11) (N := 46) hx hb hi_X11 (fun _ h => h) hown hK.1 hP 0 rfl rfl 0 (by decide) hf_7 (fun _ h9 => h9) rfl dX11_likeRule_16 ?_
    refine lv_iload_n hx hb dX11_likeRule_19 rfl (lv_at hl 1 rfl) ?_
    refine lv_bipush (v := 11) hx hb dX11_likeRule_20 (by decide) ?_
    refine r_iadd hx hb dX11_likeRule_22 rfl (by decide : (11 : Int32).toInt = 11) (fun x12 e_x12 t_x12 => ?_)
    try have t_x12 := t_x12 (by omega)
    have n_23 : vp_in x12 19800 := (t_in (by omega))
    refine va_iald hx hb hK.1 hP 1 0 rfl rfl n_23 dX11_likeRule_23 ?_
    refine q_nm (fun x13 e_x13 => ?_)
    have e_x13 : x13 = (I_m 1) x12.toNatClampNeg := e_x13
    have g_x13 : x13.toInt = ((I_m 1) x12.toNatClampNeg).toInt := congrArg _ e_x13
    refine lv_aload_n hx hb dX11_likeRule_24 rfl (lv_at hl 0 rfl) ?_
    refine va_get (D := g.1) (ci := 11) (v := .ref (a_m 1)) (C := RX11) (T := TX11) (N := 46) hx hb hi_X11 (fun _ h => h) hown hK.1 hP 0 rfl rfl 0 (by decide) hf_7 (fun _ h9 => h9) rfl dX11_likeRule_25 ?_
    refine lv_iload_n hx hb dX11_likeRule_28 rfl (lv_at hl 2 rfl) ?_
    refine lv_bipush (v := 11) hx hb dX11_likeRule_29 (by decide) ?_
    refine r_iadd hx hb dX11_likeRule_31 rfl (by decide : (11 : Int32).toInt = 11) (fun x14 e_x14 t_x14 => ?_)
    try have t_x14 := t_x14 (by omega)
    have n_32 : vp_in x14 19800 := (t_in (by omega))
    refine va_iald hx hb hK.1 hP 1 0 rfl rfl n_32 dX11_likeRule_32 ?_
    refine q_nm (fun x15 e_x15 => ?_)
    have e_x15 : x15 = (I_m 1) x14.toNatClampNeg := e_x15
    have g_x15 : x15.toInt = ((I_m 1) x14.toNatClampNeg).toInt := congrArg _ e_x15
    have he11 : (I_m 1 (a.toNatClampNeg + 11)).toInt = x13.toInt ∧ (I_m 1 (b.toNatClampNeg + 11)).toInt = x15.toInt := ⟨congrArg Int32.toInt (at_ix (k := a.toNatClampNeg + 11) e_x13 (by omega)).symm, congrArg Int32.toInt (at_ix (k := b.toNatClampNeg + 11) e_x15 (by omega)).symm⟩
    refine q_icmp_ne (tgt := 40) hx hb dX11_likeRule_33 (by decide) rfl rfl (fun k_33 => ?_) (fun k_33 => ?_)
    · refine lv_iconst (v := 0) hx hb dX11_likeRule_40 (by decide) ?_
      refine lv_istore_n (lv' := [(3, .int (0 : Int32)), (0, .ref (a_m 0)), (1, .int a), (2, .int b)]) hx hb dX11_likeRule_41 rfl hl (by decide) rfl (fun ls hl => ?_)
      refine lv_iconst (v := 0) hx hb dX11_likeRule_42 (by decide) ?_
      refine lv_istore (lv' := [(4, .int (0 : Int32)), (3, .int (0 : Int32)), (0, .ref (a_m 0)), (1, .int a), (2, .int b)]) hx hb dX11_likeRule_43 hl (by decide) rfl (fun ls hl => ?_)
      have L45 : ∀ (nn : Nat) (v3_45 : Int32) (v4_45 : Int32), (hv_45 : 0 ≤ v4_45.toInt ∧ v4_45.toInt ≤ 6) → (hz_45 : v3_45 = 0 ∨ v3_45 = 1) → (hY_45 : v3_45.toInt = 1 → ((I_m 1 a.toNatClampNeg).toInt = (I_m 1 b.toNatClampNeg).toInt ∧ (I_m 1 (a.toNatClampNeg + 11)).toInt = (I_m 1 (b.toNatClampNeg + 11)).toInt ∧ ∀ k : Nat, (k : Int) < v4_45.toInt → (I_m 1 (a.toNatClampNeg + 1 + k)).toInt = (I_m 1 (b.toNatClampNeg + 1 + k)).toInt)) → (hX_45 : v3_45.toInt = 0 → ¬ (fxLsM (I_m 1) a.toNatClampNeg = fxLsM (I_m 1) b.toNatClampNeg ∧ (I_m 1 (a.toNatClampNeg + 11)).toInt = (I_m 1 (b.toNatClampNeg + 11)).toInt)) → ((7 - v4_45.toInt) < (nn : Int)) → ∀ ls : Array Slot, lv_has ls 5 [(4, .int v4_45), (3, .int v3_45), (0, .ref (a_m 0)), (1, .int a), (2, .int b)] → W p l e (rm 0) s m args below meth c s.heap [] 0 0 Q (F0 m 45 ls []) := by
        intro n_45
        induction n_45 with
        | zero =>
          intro v3_45 v4_45 hv_45 hz_45 hY_45 hX_45 hms_45 ls hl
          exfalso; omega
        | succ n_45 ih_45 =>
          intro v3_45 v4_45 hv_45 hz_45 hY_45 hX_45 hms_45 ls hl
          refine lv_iload hx hb dX11_likeRule_45 (lv_at hl 0 rfl) ?_
          refine lv_aload_n hx hb dX11_likeRule_47 rfl (lv_at hl 2 rfl) ?_
          refine va_get (D := g.1) (ci := 11) (v := .ref (a_m 1)) (C := RX11) (T := TX11) (N := 46) hx hb hi_X11 (fun _ h => h) hown hK.1 hP 0 rfl rfl 0 (by decide) hf_7 (fun _ h9 => h9) rfl dX11_likeRule_48 ?_
          refine lv_iload_n hx hb dX11_likeRule_51 rfl (lv_at hl 3 rfl) ?_
          have n_52 : vp_in a 19800 := (t_in (by omega))
          refine va_iald hx hb hK.1 hP 1 0 rfl rfl n_52 dX11_likeRule_52 ?_
          refine q_nm (fun x16 e_x16 => ?_)
          have e_x16 : x16 = (I_m 1) a.toNatClampNeg := e_x16
          have g_x16 : x16.toInt = ((I_m 1) a.toNatClampNeg).toInt := congrArg _ e_x16
          have hl52 : x16.toInt ≤ 6 := by rw [e_x16]; exact h_l
          refine q_icmp_ge (tgt := 97) hx hb dX11_likeRule_53 (by decide) rfl rfl (fun k_53 => ?_) (fun k_53 => ?_)
          · refine lv_iload_n hx hb dX11_likeRule_97 rfl (lv_at hl 1 rfl) ?_
            exact hret 98 ls v3_45 dX11_likeRule_98 hz_45 (by rcases hz_45 with q | q; exact Or.inr ⟨q, hX_45 (by rw [q]; decide)⟩; first | exact absurd (b_57.symm.trans q) (by decide) | exact Or.inl ⟨q, fxLsM.eq (hY_45 (by rw [q]; decide)).1 (fun k hk => (hY_45 (by rw [q]; decide)).2.2 k (by rw [← e_x16] at hk; omega)), (hY_45 (by rw [q]; decide)).2.1⟩)
          · refine lv_iload_n hx hb dX11_likeRule_56 rfl (lv_at hl 1 rfl) ?_
            refine q_if_eq (tgt := 97) hx hb dX11_likeRule_57 (by decide) rfl (fun b_57 k_57 => ?_) (fun b_57 k_57 => ?_)
            · refine lv_iload_n hx hb dX11_likeRule_97 rfl (lv_at hl 1 rfl) ?_
              exact hret 98 ls v3_45 dX11_likeRule_98 hz_45 (by rcases hz_45 with q | q; exact Or.inr ⟨q, hX_45 (by rw [q]; decide)⟩; first | exact absurd (b_57.symm.trans q) (by decide) | exact Or.inl ⟨q, fxLsM.eq (hY_45 (by rw [q]; decide)).1 (fun k hk => (hY_45 (by rw [q]; decide)).2.2 k (by rw [← e_x16] at hk; omega)), (hY_45 (by rw [q]; decide)).2.1⟩)
            · have hY1 := hY_45 (by rcases hz_45 with q | q; exact absurd q b_57; rw [q]; decide)
              refine lv_aload_n hx hb dX11_likeRule_60 rfl (lv_at hl 2 rfl) ?_
              refine va_get (D := g.1) (ci := 11) (v := .ref (a_m 1)) (C := RX11) (T := TX11) (N := 46) hx hb hi_X11 (fun _ h => h) hown hK.1 hP 0 rfl rfl 0 (by decide) hf_7 (fun _ h9 => h9) rfl dX11_likeRule_61 ?_
              refine lv_iload_n hx hb dX11_likeRule_64 rfl (lv_at hl 3 rfl) ?_
              refine lv_iconst (v := 1) hx hb dX11_likeRule_65 (by decide) ?_
              refine r_iadd hx hb dX11_likeRule_66 rfl (by decide : (1 : Int32).toInt = 1) (fun x17 e_x17 t_x17 => ?_)
              try have t_x17 := t_x17 (by omega)
              refine lv_iload hx hb dX11_likeRule_67 (lv_at hl 0 rfl) ?_
              refine r_iadd hx hb dX11_likeRule_69 rfl rfl (fun x18 e_x18 t_x18 => ?_)
              try have t_x18 := t_x18 (by omega)
              have n_70 : vp_in x18 19800 := (t_in (by omega))
              refine va_iald hx hb hK.1 hP 1 0 rfl rfl n_70 dX11_likeRule_70 ?_
              refine q_nm (fun x19 e_x19 => ?_)
              have e_x19 : x19 = (I_m 1) x18.toNatClampNeg := e_x19
              have g_x19 : x19.toInt = ((I_m 1) x18.toNatClampNeg).toInt := congrArg _ e_x19
              refine lv_aload_n hx hb dX11_likeRule_71 rfl (lv_at hl 2 rfl) ?_
              refine va_get (D := g.1) (ci := 11) (v := .ref (a_m 1)) (C := RX11) (T := TX11) (N := 46) hx hb hi_X11 (fun _ h => h) hown hK.1 hP 0 rfl rfl 0 (by decide) hf_7 (fun _ h9 => h9) rfl dX11_likeRule_72 ?_
              refine lv_iload_n hx hb dX11_likeRule_75 rfl (lv_at hl 4 rfl) ?_
              refine lv_iconst (v := 1) hx hb dX11_likeRule_76 (by decide) ?_
              refine r_iadd hx hb dX11_likeRule_77 rfl (by decide : (1 : Int32).toInt = 1) (fun x20 e_x20 t_x20 => ?_)
              try have t_x20 := t_x20 (by omega)
              refine lv_iload hx hb dX11_likeRule_78 (lv_at hl 0 rfl) ?_
              refine r_iadd hx hb dX11_likeRule_80 rfl rfl (fun x21 e_x21 t_x21 => ?_)
              try have t_x21 := t_x21 (by omega)
              have n_81 : vp_in x21 19800 := (t_in (by omega))
              refine va_iald hx hb hK.1 hP 1 0 rfl rfl n_81 dX11_likeRule_81 ?_
              refine q_nm (fun x22 e_x22 => ?_)
              have e_x22 : x22 = (I_m 1) x21.toNatClampNeg := e_x22
              have g_x22 : x22.toInt = ((I_m 1) x21.toNatClampNeg).toInt := congrArg _ e_x22
              refine q_icmp_ne (tgt := 89) hx hb dX11_likeRule_82 (by decide) rfl rfl (fun k_82 => ?_) (fun k_82 => ?_)
              · refine lv_iconst (v := 0) hx hb dX11_likeRule_89 (by decide) ?_
                refine lv_istore_n (lv' := [(3, .int (0 : Int32)), (4, .int v4_45), (0, .ref (a_m 0)), (1, .int a), (2, .int b)]) hx hb dX11_likeRule_90 rfl hl (by decide) rfl (fun ls hl => ?_)
                refine r_iinc (lv' := fun i23 => [(4, .int i23), (3, .int (0 : Int32)), (0, .ref (a_m 0)), (1, .int a), (2, .int b)]) hx hb dX11_likeRule_91 hl (k := 1) rfl (by decide) rfl (by decide) (fun _ => rfl) (fun i23 e_i23 t_i23 ls hl => ?_)
                try have t_i23 := t_i23 (by omega)
                refine lv_goto (tgt := 45) hx hb dX11_likeRule_94 (by decide) ?_
                exact ih_45 (0 : Int32) i23 (by omega) (by first | exact Or.inr rfl | exact Or.inl rfl) (by first | exact (fun q => absurd q (by decide)) | exact (fun _ => ⟨hY1.1, hY1.2.1, fun k q => by by_cases w : (k : Int) < v4_45.toInt; exact hY1.2.2 k w; rw [show k = v4_45.toInt.toNat by omega, (show (I_m 1 (a.toNatClampNeg + 1 + v4_45.toInt.toNat)).toInt = x19.toInt from congrArg Int32.toInt (at_ix (k := a.toNatClampNeg + 1 + v4_45.toInt.toNat) e_x19 (by omega)).symm), (show (I_m 1 (b.toNatClampNeg + 1 + v4_45.toInt.toNat)).toInt = x22.toInt from congrArg Int32.toInt (at_ix (k := b.toNatClampNeg + 1 + v4_45.toInt.toNat) e_x22 (by omega)).symm)]; exact k_82⟩)) (by first | exact (fun q => absurd q (by decide)) | exact (fun _ z => by have w := fxLsM.at (k := v4_45.toInt.toNat) z.1 (by rw [← e_x16]; omega); rw [(show (I_m 1 (a.toNatClampNeg + 1 + v4_45.toInt.toNat)).toInt = x19.toInt from congrArg Int32.toInt (at_ix (k := a.toNatClampNeg + 1 + v4_45.toInt.toNat) e_x19 (by omega)).symm), (show (I_m 1 (b.toNatClampNeg + 1 + v4_45.toInt.toNat)).toInt = x22.toInt from congrArg Int32.toInt (at_ix (k := b.toNatClampNeg + 1 + v4_45.toInt.toNat) e_x22 (by omega)).symm)] at w; exact k_82 w)) (by omega) ls hl
              · refine lv_iconst (v := 1) hx hb dX11_likeRule_85 (by decide) ?_
                refine lv_goto (tgt := 90) hx hb dX11_likeRule_86 (by decide) ?_
                refine lv_istore_n (lv' := [(3, .int (1 : Int32)), (4, .int v4_45), (0, .ref (a_m 0)), (1, .int a), (2, .int b)]) hx hb dX11_likeRule_90 rfl hl (by decide) rfl (fun ls hl => ?_)
                refine r_iinc (lv' := fun i24 => [(4, .int i24), (3, .int (1 : Int32)), (0, .ref (a_m 0)), (1, .int a), (2, .int b)]) hx hb dX11_likeRule_91 hl (k := 1) rfl (by decide) rfl (by decide) (fun _ => rfl) (fun i24 e_i24 t_i24 ls hl => ?_)
                try have t_i24 := t_i24 (by omega)
                refine lv_goto (tgt := 45) hx hb dX11_likeRule_94 (by decide) ?_
                exact ih_45 (1 : Int32) i24 (by omega) (by first | exact Or.inr rfl | exact Or.inl rfl) (by first | exact (fun q => absurd q (by decide)) | exact (fun _ => ⟨hY1.1, hY1.2.1, fun k q => by by_cases w : (k : Int) < v4_45.toInt; exact hY1.2.2 k w; rw [show k = v4_45.toInt.toNat by omega, (show (I_m 1 (a.toNatClampNeg + 1 + v4_45.toInt.toNat)).toInt = x19.toInt from congrArg Int32.toInt (at_ix (k := a.toNatClampNeg + 1 + v4_45.toInt.toNat) e_x19 (by omega)).symm), (show (I_m 1 (b.toNatClampNeg + 1 + v4_45.toInt.toNat)).toInt = x22.toInt from congrArg Int32.toInt (at_ix (k := b.toNatClampNeg + 1 + v4_45.toInt.toNat) e_x22 (by omega)).symm)]; exact k_82⟩)) (by first | exact (fun q => absurd q (by decide)) | exact (fun _ z => by have w := fxLsM.at (k := v4_45.toInt.toNat) z.1 (by rw [← e_x16]; omega); rw [(show (I_m 1 (a.toNatClampNeg + 1 + v4_45.toInt.toNat)).toInt = x19.toInt from congrArg Int32.toInt (at_ix (k := a.toNatClampNeg + 1 + v4_45.toInt.toNat) e_x19 (by omega)).symm), (show (I_m 1 (b.toNatClampNeg + 1 + v4_45.toInt.toNat)).toInt = x22.toInt from congrArg Int32.toInt (at_ix (k := b.toNatClampNeg + 1 + v4_45.toInt.toNat) e_x22 (by omega)).symm)] at w; exact k_82 w)) (by omega) ls hl
      exact L45 ((7 - (0 : Int32).toInt) + 1).toNat (0 : Int32) (0 : Int32) (by omega) (by first | exact Or.inl rfl | exact Or.inr rfl) (by first | exact (fun q => absurd q (by decide)) | exact (fun _ => ⟨by rw [← e_x1, ← e_x2]; omega, by rw [he11.1, he11.2]; omega, fun k q => by rw [lm0] at q; omega⟩)) (by first | exact (fun q => absurd q (by decide)) | exact (fun _ z => by have w := congrArg List.length z.1; rw [fxLsM.len, fxLsM.len, ← e_x1, ← e_x2] at w; omega) | exact (fun _ z => by have w := z.2; rw [he11.1, he11.2] at w; omega)) (by omega) ls hl
    · refine lv_iconst (v := 1) hx hb dX11_likeRule_36 (by decide) ?_
      refine lv_goto (tgt := 41) hx hb dX11_likeRule_37 (by decide) ?_
      refine lv_istore_n (lv' := [(3, .int (1 : Int32)), (0, .ref (a_m 0)), (1, .int a), (2, .int b)]) hx hb dX11_likeRule_41 rfl hl (by decide) rfl (fun ls hl => ?_)
      refine lv_iconst (v := 0) hx hb dX11_likeRule_42 (by decide) ?_
      refine lv_istore (lv' := [(4, .int (0 : Int32)), (3, .int (1 : Int32)), (0, .ref (a_m 0)), (1, .int a), (2, .int b)]) hx hb dX11_likeRule_43 hl (by decide) rfl (fun ls hl => ?_)
      have L45 : ∀ (nn : Nat) (v3_45 : Int32) (v4_45 : Int32), (hv_45 : 0 ≤ v4_45.toInt ∧ v4_45.toInt ≤ 6) → (hz_45 : v3_45 = 0 ∨ v3_45 = 1) → (hY_45 : v3_45.toInt = 1 → ((I_m 1 a.toNatClampNeg).toInt = (I_m 1 b.toNatClampNeg).toInt ∧ (I_m 1 (a.toNatClampNeg + 11)).toInt = (I_m 1 (b.toNatClampNeg + 11)).toInt ∧ ∀ k : Nat, (k : Int) < v4_45.toInt → (I_m 1 (a.toNatClampNeg + 1 + k)).toInt = (I_m 1 (b.toNatClampNeg + 1 + k)).toInt)) → (hX_45 : v3_45.toInt = 0 → ¬ (fxLsM (I_m 1) a.toNatClampNeg = fxLsM (I_m 1) b.toNatClampNeg ∧ (I_m 1 (a.toNatClampNeg + 11)).toInt = (I_m 1 (b.toNatClampNeg + 11)).toInt)) → ((7 - v4_45.toInt) < (nn : Int)) → ∀ ls : Array Slot, lv_has ls 5 [(4, .int v4_45), (3, .int v3_45), (0, .ref (a_m 0)), (1, .int a), (2, .int b)] → W p l e (rm 0) s m args below meth c s.heap [] 0 0 Q (F0 m 45 ls []) := by
        intro n_45
        induction n_45 with
        | zero =>
          intro v3_45 v4_45 hv_45 hz_45 hY_45 hX_45 hms_45 ls hl
          exfalso; omega
        | succ n_45 ih_45 =>
          intro v3_45 v4_45 hv_45 hz_45 hY_45 hX_45 hms_45 ls hl
          refine lv_iload hx hb dX11_likeRule_45 (lv_at hl 0 rfl) ?_
          refine lv_aload_n hx hb dX11_likeRule_47 rfl (lv_at hl 2 rfl) ?_
          refine va_get (D := g.1) (ci := 11) (v := .ref (a_m 1)) (C := RX11) (T := TX11) (N := 46) hx hb hi_X11 (fun _ h => h) hown hK.1 hP 0 rfl rfl 0 (by decide) hf_7 (fun _ h9 => h9) rfl dX11_likeRule_48 ?_
          refine lv_iload_n hx hb dX11_likeRule_51 rfl (lv_at hl 3 rfl) ?_
          have n_52 : vp_in a 19800 := (t_in (by omega))
          refine va_iald hx hb hK.1 hP 1 0 rfl rfl n_52 dX11_likeRule_52 ?_
          refine q_nm (fun x25 e_x25 => ?_)
          have e_x25 : x25 = (I_m 1) a.toNatClampNeg := e_x25
          have g_x25 : x25.toInt = ((I_m 1) a.toNatClampNeg).toInt := congrArg _ e_x25
          have hl52 : x25.toInt ≤ 6 := by rw [e_x25]; exact h_l
          refine q_icmp_ge (tgt := 97) hx hb dX11_likeRule_53 (by decide) rfl rfl (fun k_53 => ?_) (fun k_53 => ?_)
          · refine lv_iload_n hx hb dX11_likeRule_97 rfl (lv_at hl 1 rfl) ?_
            exact hret 98 ls v3_45 dX11_likeRule_98 hz_45 (by rcases hz_45 with q | q; exact Or.inr ⟨q, hX_45 (by rw [q]; decide)⟩; first | exact absurd (b_57.symm.trans q) (by decide) | exact Or.inl ⟨q, fxLsM.eq (hY_45 (by rw [q]; decide)).1 (fun k hk => (hY_45 (by rw [q]; decide)).2.2 k (by rw [← e_x25] at hk; omega)), (hY_45 (by rw [q]; decide)).2.1⟩)
          · refine lv_iload_n hx hb dX11_likeRule_56 rfl (lv_at hl 1 rfl) ?_
            refine q_if_eq (tgt := 97) hx hb dX11_likeRule_57 (by decide) rfl (fun b_57 k_57 => ?_) (fun b_57 k_57 => ?_)
            · refine lv_iload_n hx hb dX11_likeRule_97 rfl (lv_at hl 1 rfl) ?_
              exact hret 98 ls v3_45 dX11_likeRule_98 hz_45 (by rcases hz_45 with q | q; exact Or.inr ⟨q, hX_45 (by rw [q]; decide)⟩; first | exact absurd (b_57.symm.trans q) (by decide) | exact Or.inl ⟨q, fxLsM.eq (hY_45 (by rw [q]; decide)).1 (fun k hk => (hY_45 (by rw [q]; decide)).2.2 k (by rw [← e_x25] at hk; omega)), (hY_45 (by rw [q]; decide)).2.1⟩)
            · have hY1 := hY_45 (by rcases hz_45 with q | q; exact absurd q b_57; rw [q]; decide)
              refine lv_aload_n hx hb dX11_likeRule_60 rfl (lv_at hl 2 rfl) ?_
              refine va_get (D := g.1) (ci := 11) (v := .ref (a_m 1)) (C := RX11) (T := TX11) (N := 46) hx hb hi_X11 (fun _ h => h) hown hK.1 hP 0 rfl rfl 0 (by decide) hf_7 (fun _ h9 => h9) rfl dX11_likeRule_61 ?_
              refine lv_iload_n hx hb dX11_likeRule_64 rfl (lv_at hl 3 rfl) ?_
              refine lv_iconst (v := 1) hx hb dX11_likeRule_65 (by decide) ?_
              refine r_iadd hx hb dX11_likeRule_66 rfl (by decide : (1 : Int32).toInt = 1) (fun x26 e_x26 t_x26 => ?_)
              try have t_x26 := t_x26 (by omega)
              refine lv_iload hx hb dX11_likeRule_67 (lv_at hl 0 rfl) ?_
              refine r_iadd hx hb dX11_likeRule_69 rfl rfl (fun x27 e_x27 t_x27 => ?_)
              try have t_x27 := t_x27 (by omega)
              have n_70 : vp_in x27 19800 := (t_in (by omega))
              refine va_iald hx hb hK.1 hP 1 0 rfl rfl n_70 dX11_likeRule_70 ?_
              refine q_nm (fun x28 e_x28 => ?_)
              have e_x28 : x28 = (I_m 1) x27.toNatClampNeg := e_x28
              have g_x28 : x28.toInt = ((I_m 1) x27.toNatClampNeg).toInt := congrArg _ e_x28
              refine lv_aload_n hx hb dX11_likeRule_71 rfl (lv_at hl 2 rfl) ?_
              refine va_get (D := g.1) (ci := 11) (v := .ref (a_m 1)) (C := RX11) (T := TX11) (N := 46) hx hb hi_X11 (fun _ h => h) hown hK.1 hP 0 rfl rfl 0 (by decide) hf_7 (fun _ h9 => h9) rfl dX11_likeRule_72 ?_
              refine lv_iload_n hx hb dX11_likeRule_75 rfl (lv_at hl 4 rfl) ?_
              refine lv_iconst (v := 1) hx hb dX11_likeRule_76 (by decide) ?_
              refine r_iadd hx hb dX11_likeRule_77 rfl (by decide : (1 : Int32).toInt = 1) (fun x29 e_x29 t_x29 => ?_)
              try have t_x29 := t_x29 (by omega)
              refine lv_iload hx hb dX11_likeRule_78 (lv_at hl 0 rfl) ?_
              refine r_iadd hx hb dX11_likeRule_80 rfl rfl (fun x30 e_x30 t_x30 => ?_)
              try have t_x30 := t_x30 (by omega)
              have n_81 : vp_in x30 19800 := (t_in (by omega))
              refine va_iald hx hb hK.1 hP 1 0 rfl rfl n_81 dX11_likeRule_81 ?_
              refine q_nm (fun x31 e_x31 => ?_)
              have e_x31 : x31 = (I_m 1) x30.toNatClampNeg := e_x31
              have g_x31 : x31.toInt = ((I_m 1) x30.toNatClampNeg).toInt := congrArg _ e_x31
              refine q_icmp_ne (tgt := 89) hx hb dX11_likeRule_82 (by decide) rfl rfl (fun k_82 => ?_) (fun k_82 => ?_)
              · refine lv_iconst (v := 0) hx hb dX11_likeRule_89 (by decide) ?_
                refine lv_istore_n (lv' := [(3, .int (0 : Int32)), (4, .int v4_45), (0, .ref (a_m 0)), (1, .int a), (2, .int b)]) hx hb dX11_likeRule_90 rfl hl (by decide) rfl (fun ls hl => ?_)
                refine r_iinc (lv' := fun i32 => [(4, .int i32), (3, .int (0 : Int32)), (0, .ref (a_m 0)), (1, .int a), (2, .int b)]) hx hb dX11_likeRule_91 hl (k := 1) rfl (by decide) rfl (by decide) (fun _ => rfl) (fun i32 e_i32 t_i32 ls hl => ?_)
                try have t_i32 := t_i32 (by omega)
                refine lv_goto (tgt := 45) hx hb dX11_likeRule_94 (by decide) ?_
                exact ih_45 (0 : Int32) i32 (by omega) (by first | exact Or.inr rfl | exact Or.inl rfl) (by first | exact (fun q => absurd q (by decide)) | exact (fun _ => ⟨hY1.1, hY1.2.1, fun k q => by by_cases w : (k : Int) < v4_45.toInt; exact hY1.2.2 k w; rw [show k = v4_45.toInt.toNat by omega, (show (I_m 1 (a.toNatClampNeg + 1 + v4_45.toInt.toNat)).toInt = x28.toInt from congrArg Int32.toInt (at_ix (k := a.toNatClampNeg + 1 + v4_45.toInt.toNat) e_x28 (by omega)).symm), (show (I_m 1 (b.toNatClampNeg + 1 + v4_45.toInt.toNat)).toInt = x31.toInt from congrArg Int32.toInt (at_ix (k := b.toNatClampNeg + 1 + v4_45.toInt.toNat) e_x31 (by omega)).symm)]; exact k_82⟩)) (by first | exact (fun q => absurd q (by decide)) | exact (fun _ z => by have w := fxLsM.at (k := v4_45.toInt.toNat) z.1 (by rw [← e_x25]; omega); rw [(show (I_m 1 (a.toNatClampNeg + 1 + v4_45.toInt.toNat)).toInt = x28.toInt from congrArg Int32.toInt (at_ix (k := a.toNatClampNeg + 1 + v4_45.toInt.toNat) e_x28 (by omega)).symm), (show (I_m 1 (b.toNatClampNeg + 1 + v4_45.toInt.toNat)).toInt = x31.toInt from congrArg Int32.toInt (at_ix (k := b.toNatClampNeg + 1 + v4_45.toInt.toNat) e_x31 (by omega)).symm)] at w; exact k_82 w)) (by omega) ls hl
              · refine lv_iconst (v := 1) hx hb dX11_likeRule_85 (by decide) ?_
                refine lv_goto (tgt := 90) hx hb dX11_likeRule_86 (by decide) ?_
                refine lv_istore_n (lv' := [(3, .int (1 : Int32)), (4, .int v4_45), (0, .ref (a_m 0)), (1, .int a), (2, .int b)]) hx hb dX11_likeRule_90 rfl hl (by decide) rfl (fun ls hl => ?_)
                refine r_iinc (lv' := fun i33 => [(4, .int i33), (3, .int (1 : Int32)), (0, .ref (a_m 0)), (1, .int a), (2, .int b)]) hx hb dX11_likeRule_91 hl (k := 1) rfl (by decide) rfl (by decide) (fun _ => rfl) (fun i33 e_i33 t_i33 ls hl => ?_)
                try have t_i33 := t_i33 (by omega)
                refine lv_goto (tgt := 45) hx hb dX11_likeRule_94 (by decide) ?_
                exact ih_45 (1 : Int32) i33 (by omega) (by first | exact Or.inr rfl | exact Or.inl rfl) (by first | exact (fun q => absurd q (by decide)) | exact (fun _ => ⟨hY1.1, hY1.2.1, fun k q => by by_cases w : (k : Int) < v4_45.toInt; exact hY1.2.2 k w; rw [show k = v4_45.toInt.toNat by omega, (show (I_m 1 (a.toNatClampNeg + 1 + v4_45.toInt.toNat)).toInt = x28.toInt from congrArg Int32.toInt (at_ix (k := a.toNatClampNeg + 1 + v4_45.toInt.toNat) e_x28 (by omega)).symm), (show (I_m 1 (b.toNatClampNeg + 1 + v4_45.toInt.toNat)).toInt = x31.toInt from congrArg Int32.toInt (at_ix (k := b.toNatClampNeg + 1 + v4_45.toInt.toNat) e_x31 (by omega)).symm)]; exact k_82⟩)) (by first | exact (fun q => absurd q (by decide)) | exact (fun _ z => by have w := fxLsM.at (k := v4_45.toInt.toNat) z.1 (by rw [← e_x25]; omega); rw [(show (I_m 1 (a.toNatClampNeg + 1 + v4_45.toInt.toNat)).toInt = x28.toInt from congrArg Int32.toInt (at_ix (k := a.toNatClampNeg + 1 + v4_45.toInt.toNat) e_x28 (by omega)).symm), (show (I_m 1 (b.toNatClampNeg + 1 + v4_45.toInt.toNat)).toInt = x31.toInt from congrArg Int32.toInt (at_ix (k := b.toNatClampNeg + 1 + v4_45.toInt.toNat) e_x31 (by omega)).symm)] at w; exact k_82 w)) (by omega) ls hl
      exact L45 ((7 - (0 : Int32).toInt) + 1).toNat (1 : Int32) (0 : Int32) (by omega) (by first | exact Or.inl rfl | exact Or.inr rfl) (by first | exact (fun q => absurd q (by decide)) | exact (fun _ => ⟨by rw [← e_x1, ← e_x2]; omega, by rw [he11.1, he11.2]; omega, fun k q => by rw [lm0] at q; omega⟩)) (by first | exact (fun q => absurd q (by decide)) | exact (fun _ z => by have w := congrArg List.length z.1; rw [fxLsM.len, fxLsM.len, ← e_x1, ← e_x2] at w; omega) | exact (fun _ z => by have w := z.2; rw [he11.1, he11.2] at w; omega)) (by omega) ls hl
