set_option maxHeartbeats 4000000 in
set_option maxRecDepth 100000 in
theorem kX11_pressPart (l : Launch) (g : gG) (ad av : Nat → Nat) (a_m : Nat → Nat) (I_m : Nat → Nat → Int32) (J_m : Nat → Nat → Int64) (hM : MI I_m) (hN : NS I_m) (h_p : PS I_m) (h17 : (I_m 0 17).toInt = 0) : EffIS l g ad av yX11_pressPart wsX11_pressPart 7 [.ref (a_m 0)] (wX11 g a_m I_m J_m) (fun (u : (Nat → Nat → Int32)) => wX11 g a_m u J_m) (fun r (u : (Nat → Nat → Int32)) => MI (u) ∧ KK [1] [11, 12, 13, 14, 16, 17, 19] I_m (u) ∧ PQ I_m (u) ∧ (r = 0 ∨ r = 1) ∧ (r = 1 → AD I_m (u)) ∧ NS (u) ∧ fxLow I_m (u) ∧ ∀ p : Int, fxLM I_m p → (I_m 0 11).toInt ≠ 0 → fxMo I_m (u) r p (fxS0M I_m) (fxS0M (u))) := by
  refine EffIS.sz (cc := cX11_pressPart) (maxL := 2) (by decide) rfl (Nat.le_of_ble_eq_true rfl) (fun p e s m args below meth c A Q ls fx hK hP hD hA hS hJ hl hret => ?_)
  have hx := fx.1
  have hb := fx.2.1
  have hml := fx.2.2.1
  have hown := fx.2.2.2.1
  have hts := fx.2.2.2.2
  have hl : lv_has ls 2 [(0, .ref (a_m 0))] := hl
  have hP : va_P g.1 vwCl (wX11 g a_m I_m J_m) s.heap := hP
  have hf_214 := hts _ (uT _ _ u_505)
  have hi_X11 : ∀ w ∈ wsX110, w.before args s = true := fun w h => hts w (uT _ w (u_wsX110 w h))
  have lm1 : (-1 : Int32).toInt = -1 := by decide
  have lm0 : (0 : Int32).toInt = 0 := by decide
  have lm2 : (1 : Int32).toInt = 1 := by decide
  have lq2 : (2 : Int32).toInt = 2 := by decide
  have lq4 : (4 : Int32).toInt = 4 := by decide
  have lq5 : (5 : Int32).toInt = 5 := by decide
  have lq13200 : (13200 : Int32).toInt = 13200 := by decide
  have lq63 : (63 : Int32).toInt = 63 := by decide
  have lq13204 : (13204 : Int32).toInt = 13204 := by decide
  have lq13205 : (13205 : Int32).toInt = 13205 := by decide
  have lq40 : (40 : Int32).toInt = 40 := by decide
  have lq30 : (30 : Int32).toInt = 30 := by decide
  refine lv_aload_n hx hb dX11_pressPart_0 rfl (lv_at hl 0 rfl) ?_
  refine va_ldcS hx hb hown (jF.l0 hJ) dX11_pressPart_1 ?_
  refine PurIS.cv (As := [.ref (ad 0)]) (kX11_inWords l g ad av a_m I_m J_m 0 (by decide) (PQ.rf h_p).1 (by omega)) fx (gUV (uT _) u_544 u_545 u_546 u_5 u_547) rfl hdX11_inWords ⟨Nat.le_of_ble_eq_true rfl, Nat.le_of_ble_eq_true rfl⟩ hJ hS hK hP [0, 1, 2, 3, 4, 5, 6, 7, 8, 9, 10, 11, 12, 13, 14, 15, 16, 17, 18, 19, 20, 21, 22] rfl rfl rfl rfl rfl hl.1 (Nat.le_of_ble_eq_true rfl) dX11_pressPart_3 (fun r1 p_r1 => ?_)
  refine lv_istore_n (lv' := [(1, .int r1), (0, .ref (a_m 0))]) hx hb dX11_pressPart_6 rfl hl (by decide) rfl (fun ls hl => ?_)
  refine lv_iload_n hx hb dX11_pressPart_7 rfl (lv_at hl 0 rfl) ?_
  refine q_if_ne (tgt := 16) hx hb dX11_pressPart_8 (by decide) rfl (fun b_8 k_8 => ?_) (fun b_8 k_8 => ?_)
  · refine lv_iload_n hx hb dX11_pressPart_16 rfl (lv_at hl 0 rfl) ?_
    refine lv_iconst (v := 1) hx hb dX11_pressPart_17 (by decide) ?_
    refine q_icmp_lt (tgt := 26) hx hb dX11_pressPart_18 (by decide) rfl (by decide : (1 : Int32).toInt = 1) (fun k_18 => ?_) (fun k_18 => ?_)
    · refine lv_aload_n hx hb dX11_pressPart_26 rfl (lv_at hl 1 rfl) ?_
      refine lv_iconst (v := 2) hx hb dX11_pressPart_27 (by decide) ?_
      refine EffI.cv (wr := ([])) (w' := fun u3 => wX11 g a_m u3 J_m) (As := [.int (2 : Int32)]) (kX11_fails l g a_m I_m J_m (2 : Int32)) fx (gUV (uT _) u_557 u_558 u_559 u_5 u_560) rfl hdX11_fails ⟨Nat.le_of_ble_eq_true rfl, Nat.le_of_ble_eq_true rfl⟩ hK hP hD hS hA [0, 1, 2, 3, 4, 5, 6, 7, 8, 9, 10, 11, 12, 13, 14, 15, 16, 17, 18, 19, 20, 21, 22] [] [0, 1, 2, 3, 4, 5, 6, 7, 8, 9, 10, 11, 12, 13, 14, 15, 16, 17, 18, 19, 20, 21, 22] rfl rfl rfl rfl (by decide) rfl (fun _ => rfl) rfl rfl rfl rfl hl.1 (Nat.le_of_ble_eq_true rfl) dX11_pressPart_28 (fun r2 u3 H locs p_r2 hP hD hS => ?_)
      have hP : va_P g.1 vwCl (wX11 g a_m u3 J_m) H := hP
      have hD : va_D A (wX11 g a_m u3 J_m) := hD
      refine hret 31 ls r2 _ _ u3 dX11_pressPart_31 (Or.inl p_r2.2.1) hS hP hD ?_
      exact ⟨(MI.kk hM p_r2.1 (by decide) (by decide)), (KK.tr (KK.rf I_m) p_r2.1 (by decide) (by decide)), (PQ.fl (PQ.rf h_p) p_r2.1 (by decide) (p_r2.2.2.2 (by decide))), Or.inl p_r2.2.1, fun q => absurd (q.symm.trans p_r2.2.1) (by decide), hN.row (p_r2.1.row 1 (by decide)), (fxLow.rf I_m).kk p_r2.1 (by decide), fun p l h0 => fxMo.fail p_r2 h17 (by decide) l rfl rfl fxRe.rf (fun q => (fx_s0n p_r1 (by omega) l.2.2 h0 q).trans (congrArg Sum.inl (by decide)))⟩
    · refine lv_iload_n hx hb dX11_pressPart_21 rfl (lv_at hl 0 rfl) ?_
      refine lv_iconst (v := 5) hx hb dX11_pressPart_22 (by decide) ?_
      refine q_icmp_le (tgt := 32) hx hb dX11_pressPart_23 (by decide) rfl (by decide : (5 : Int32).toInt = 5) (fun k_23 => ?_) (fun k_23 => ?_)
      · refine lv_aload_n hx hb dX11_pressPart_32 rfl (lv_at hl 1 rfl) ?_
        refine va_get (D := g.1) (ci := 11) (v := .int (I_m 0 19)) (C := RX11) (T := TX11) (N := 46) hx hb hi_X11 (fun _ h => h) hown hK.1 hP 0 rfl rfl 19 (by decide) hf_214 (fun _ h9 => h9) rfl dX11_pressPart_33 ?_
        refine lv_iload_n hx hb dX11_pressPart_36 rfl (lv_at hl 0 rfl) ?_
        refine lv_ishr hx hb dX11_pressPart_37 ?_
        refine q_nm (fun x4 e_x4 => ?_)
        refine lv_iconst (v := 1) hx hb dX11_pressPart_38 (by decide) ?_
        refine lv_iand hx hb dX11_pressPart_39 ?_
        refine q_nm (fun x5 e_x5 => ?_)
        refine lv_iconst (v := 1) hx hb dX11_pressPart_40 (by decide) ?_
        refine q_icmp_ne (tgt := 50) hx hb dX11_pressPart_41 (by decide) rfl (by decide : (1 : Int32).toInt = 1) (fun k_41 => ?_) (fun k_41 => ?_)
        · have hwk : fxIs (fxKm (I_m 0 11).toInt) (fxWm I_m) ((r1.toInt.toNat - 1) + 1) := (by rw [show r1.toInt.toNat - 1 + 1 = r1.toInt.toNat by omega]; exact fx_w0 p_r1 (by omega))
          refine lv_aload_n hx hb dX11_pressPart_50 rfl (lv_at hl 1 rfl) ?_
          refine lv_dup hx hb dX11_pressPart_51 rfl ?_
          refine va_get (D := g.1) (ci := 11) (v := .int (I_m 0 19)) (C := RX11) (T := TX11) (N := 46) hx hb hi_X11 (fun _ h => h) hown hK.1 hP 0 rfl rfl 19 (by decide) hf_214 (fun _ h9 => h9) rfl dX11_pressPart_52 ?_
          refine lv_iconst (v := 1) hx hb dX11_pressPart_55 (by decide) ?_
          refine lv_iload_n hx hb dX11_pressPart_56 rfl (lv_at hl 0 rfl) ?_
          refine lv_ishl hx hb dX11_pressPart_57 ?_
          refine q_nm (fun x6 e_x6 => ?_)
          refine lv_ior hx hb dX11_pressPart_58 ?_
          refine q_nm (fun x7 e_x7 => ?_)
          refine va_put (D := g.1) (ci := 11) (v := .int x7) (ty := .int) (C := RX11) (T := TX11) (N := 46) hx hb hi_X11 (fun _ h => h) tyX11 tyX11_ok nmX11 hown hK.1 hP hD hS 0 rfl rfl 19 (by decide) hf_214 (fun _ h9 => h9) rfl (by decide +kernel) rfl rfl (Nat.le_of_ble_eq_true rfl) dX11_pressPart_59 (fun H locs hP hD hS => ?_)
          have hP : va_P g.1 vwCl (wX11 g a_m (uF I_m 0 19 x7) J_m) H := hP
          have hD : va_D A (wX11 g a_m (uF I_m 0 19 x7) J_m) := hD
          have hc_59 : MI (uF I_m 0 19 x7) := MI.uf hM (by decide)
          have hk_59 : KK [1] [11, 12, 13, 14, 16, 17, 19] I_m (uF I_m 0 19 x7) := KK.uf (KK.rf I_m) (by decide)
          have hp_59 : PQ I_m (uF I_m 0 19 x7) := PQ.uf (PQ.rf h_p) (by decide)
          refine lv_aload_n hx hb dX11_pressPart_62 rfl (lv_at hl 1 rfl) ?_
          refine EffV.cv (wr := ([])) (w' := fun u9 => wX11 g a_m u9 J_m) (As := []) (kX11_ahead l g a_m (uF I_m 0 19 x7) J_m hp_59.1.1) fx (gUV (uT _) u_515 u_516 u_517 u_5 u_518) rfl hdX11_ahead ⟨Nat.le_of_ble_eq_true rfl, Nat.le_of_ble_eq_true rfl⟩ hK hP hD hS hA [0, 1, 2, 3, 4, 5, 6, 7, 8, 9, 10, 11, 12, 13, 14, 15, 16, 17, 18, 19, 20, 21, 22] [] [0, 1, 2, 3, 4, 5, 6, 7, 8, 9, 10, 11, 12, 13, 14, 15, 16, 17, 18, 19, 20, 21, 22] rfl rfl rfl rfl (by decide) rfl (fun _ => rfl) rfl rfl rfl rfl hl.1 (Nat.le_of_ble_eq_true rfl) dX11_pressPart_63 (fun u9 H locs p_r8 hP hD hS => ?_)
          have hP : va_P g.1 vwCl (wX11 g a_m u9 J_m) H := hP
          have hD : va_D A (wX11 g a_m u9 J_m) := hD
          have p_r8 : KK [] [11, 12, 13, 14] (uF I_m 0 19 x7) u9 ∧ AH (uF I_m 0 19 x7) u9 ∧ fxLM u9 (I_m 0 13).toInt := p_r8
          have hN63 := hN.row ((p_r8.1).row 1 (by decide))
          have hR63 : u9 6 = I_m 6 ∧ u9 0 10 = I_m 0 10 := ⟨(show KK [1] [11, 12, 13, 14, 16, 17, 19] I_m u9 from (KK.tr hk_59 p_r8.1 (by decide) (by decide))).row 6 (by decide), (show KK [1] [11, 12, 13, 14, 16, 17, 19] I_m u9 from (KK.tr hk_59 p_r8.1 (by decide) (by decide))).num 10 (by decide)⟩
          have hL63 : fxLM u9 (I_m 0 13).toInt := p_r8.2.2
          have h63 : (u9 0 17).toInt = 0 := by rw [p_r8.1.num 17 (by decide)]; exact h17
          have ht63 : u9 0 19 = x7 := p_r8.1.num 19 (by decide)
          have hK63 := p_r8.1
          have hr63 : u9 1 = I_m 1 := p_r8.1.row 1 (by decide)
          have hG63 : ∀ p : Int, fxLM I_m p → fxRe (fxBm (I_m 6)) (I_m 0 10).toInt (p, fxS0M I_m) ((I_m 0 13).toInt, (6, (((r1.toInt.toNat - 1 : Nat)) : Int), fxTdM (u9 0 19), fxTM (u9 1) 13200, fxE)) := fun p l => fx_tk l p_r8.2.2 rfl rfl fxRe.rf (by rw [hr63, ht63]; exact fx_s6 (r := 0) hwk (by omega) (fun z => k_41 ((fx_toldM (s := r1) (by omega) (by omega) e_x4 e_x5).mp z)) (fx_tellM (s := r1) (by omega) (by omega) e_x6 e_x7))
          refine lv_iload_n hx hb dX11_pressPart_66 rfl (lv_at hl 0 rfl) ?_
          refine lv_iconst (v := 4) hx hb dX11_pressPart_67 (by decide) ?_
          refine q_icmp_ne (tgt := 87) hx hb dX11_pressPart_68 (by decide) rfl (by decide : (4 : Int32).toInt = 4) (fun k_68 => ?_) (fun k_68 => ?_)
          · refine lv_iload_n hx hb dX11_pressPart_87 rfl (lv_at hl 0 rfl) ?_
            refine lv_iconst (v := 5) hx hb dX11_pressPart_88 (by decide) ?_
            refine q_icmp_ne (tgt := 108) hx hb dX11_pressPart_89 (by decide) rfl (by decide : (5 : Int32).toInt = 5) (fun k_89 => ?_) (fun k_89 => ?_)
            · refine lv_aload_n hx hb dX11_pressPart_108 rfl (lv_at hl 1 rfl) ?_
              refine lv_sipush (v := 13200) hx hb dX11_pressPart_109 (by decide) ?_
              refine lv_iload_n hx hb dX11_pressPart_112 rfl (lv_at hl 0 rfl) ?_
              refine r_iadd hx hb dX11_pressPart_113 (by decide : (13200 : Int32).toInt = 13200) rfl (fun x10 e_x10 t_x10 => ?_)
              try have t_x10 := t_x10 (by omega)
              refine lv_iconst (v := 1) hx hb dX11_pressPart_114 (by decide) ?_
              refine lv_bipush (v := 63) hx hb dX11_pressPart_115 (by decide) ?_
              refine EffI.cv (wr := ([])) (w' := fun u12 => wX11 g a_m u12 J_m) (As := [.int x10, .int (1 : Int32), .int (63 : Int32)]) (kX11_number l g a_m u9 J_m x10 (1 : Int32) (63 : Int32) (MI.kk hc_59 p_r8.1 (by decide) (by decide)) hN63 (by omega) (by omega) (PQ.ah hp_59 p_r8.2.1 p_r8.1 (by decide)).1) fx (gUV (uT _) u_577 u_578 u_579 u_5 u_580) rfl hdX11_number ⟨Nat.le_of_ble_eq_true rfl, Nat.le_of_ble_eq_true rfl⟩ hK hP hD hS hA [0, 1, 2, 3, 4, 5, 6, 7, 8, 9, 10, 11, 12, 13, 14, 15, 16, 17, 18, 19, 20, 21, 22] [] [0, 1, 2, 3, 4, 5, 6, 7, 8, 9, 10, 11, 12, 13, 14, 15, 16, 17, 18, 19, 20, 21, 22] rfl rfl rfl rfl (by decide) rfl (fun _ => rfl) rfl rfl rfl rfl hl.1 (Nat.le_of_ble_eq_true rfl) dX11_pressPart_117 (fun r11 u12 H locs p_r11 hP hD hS => ?_)
              have hP : va_P g.1 vwCl (wX11 g a_m u12 J_m) H := hP
              have hD : va_D A (wX11 g a_m u12 J_m) := hD
              have hN78 := p_r11.2.2.2.2.2.1
              have hR78 : u12 6 = I_m 6 ∧ u12 0 10 = I_m 0 10 := ⟨(show KK [1] [11, 12, 13, 14, 16, 17, 19] I_m u12 from (KK.tr (KK.tr hk_59 p_r8.1 (by decide) (by decide)) p_r11.2.1 (by decide) (by decide))).row 6 (by decide), (show KK [1] [11, 12, 13, 14, 16, 17, 19] I_m u12 from (KK.tr (KK.tr hk_59 p_r8.1 (by decide) (by decide)) p_r11.2.1 (by decide) (by decide))).num 10 (by decide)⟩
              have hr78 : u12 0 19 = u9 0 19 := p_r11.2.1.num 19 (by decide)
              have hW78 : fxLow I_m u12 := ((show fxLow I_m (uF I_m 0 19 x7) from fxLow.rf I_m).kk hK63 (by decide)).tr p_r11.2.2.2.2.2.2.1
              have hM78 := p_r11.2.2.2.2.2.2.2 (I_m 0 13).toInt (fxTdM (u9 0 19)) (((r1.toInt.toNat - 1 : Nat)) : Int) hL63 h63 (by omega) (by first | omega | (rw [show (13204 : Int32).toInt = 13204 by decide]; omega) | (rw [show (13205 : Int32).toInt = 13205 by decide]; omega)) (by unfold fxLo; first | (rw [if_pos (by omega)]; decide) | (rw [if_neg (by omega), if_pos (by omega)]; decide) | (rw [if_neg (by omega), if_neg (by omega)]; decide)) (by unfold fxHi; first | (rw [if_pos (by omega)]; decide) | (rw [if_neg (by omega), if_pos (by omega)]; decide) | (rw [if_neg (by omega), if_neg (by omega)]; decide))
              refine q_if_eq (tgt := 136) hx hb dX11_pressPart_120 (by decide) rfl (fun b_120 k_120 => ?_) (fun b_120 k_120 => ?_)
              · have hz78 : ∀ p : Int, fxLM I_m p → fxMo I_m u12 0 p (fxS0M I_m) (fxS0M u12) := fun p l => (hM78.then hR63.1 hR63.2 (hG63 p l)).zero b_120
                refine lv_iconst (v := 0) hx hb dX11_pressPart_136 (by decide) ?_
                refine hret 137 ls (0 : Int32) _ _ u12 dX11_pressPart_137 (Or.inl rfl) hS hP hD ?_
                exact (by exact ⟨p_r11.1, (KK.tr (KK.tr hk_59 p_r8.1 (by decide) (by decide)) p_r11.2.1 (by decide) (by decide)), (PQ.tr (PQ.ah hp_59 p_r8.2.1 p_r8.1 (by decide)) p_r11.2.2.1), Or.inl rfl, fun q => absurd q (by decide), hN78, hW78, fun p l h0 => hz78 p l⟩)
              · have hv78 := hM78.one b_120
                refine lv_aload_n hx hb dX11_pressPart_123 rfl (lv_at hl 1 rfl) ?_
                refine lv_bipush (v := 59) hx hb dX11_pressPart_124 (by decide) ?_
                have hq126 : PQ I_m u12 := (PQ.tr (PQ.ah hp_59 p_r8.2.1 p_r8.1 (by decide)) p_r11.2.2.1)
                refine EffI.cv (wr := ([])) (w' := fun u14 => wX11 g a_m u14 J_m) (As := [.int (59 : Int32)]) (kX11_wantSign l g a_m u12 J_m (59 : Int32) (PQ.tr (PQ.ah hp_59 p_r8.2.1 p_r8.1 (by decide)) p_r11.2.2.1).1) fx (gUV (uT _) u_573 u_574 u_575 u_5 u_576) rfl hdX11_wantSign ⟨Nat.le_of_ble_eq_true rfl, Nat.le_of_ble_eq_true rfl⟩ hK hP hD hS hA [0, 1, 2, 3, 4, 5, 6, 7, 8, 9, 10, 11, 12, 13, 14, 15, 16, 17, 18, 19, 20, 21, 22] [] [0, 1, 2, 3, 4, 5, 6, 7, 8, 9, 10, 11, 12, 13, 14, 15, 16, 17, 18, 19, 20, 21, 22] rfl rfl rfl rfl (by decide) rfl (fun _ => rfl) rfl rfl rfl rfl hl.1 (Nat.le_of_ble_eq_true rfl) dX11_pressPart_126 (fun r13 u14 H locs p_r13 hP hD hS => ?_)
                have hP : va_P g.1 vwCl (wX11 g a_m u14 J_m) H := hP
                have hD : va_D A (wX11 g a_m u14 J_m) := hD
                have hN126 := hN78.row (p_r13.1.row 1 (by decide))
                have hr126 : u14 1 = u12 1 ∧ u14 0 19 = u12 0 19 := ⟨p_r13.1.row 1 (by decide), p_r13.1.num 19 (by decide)⟩
                have hM126 := p_r13.2.2.2.2
                have hfin126 : ∀ p : Int, fxLM I_m p → fxMo I_m u14 r13 p (fxS0M I_m) (fxS0M u14) := fun p l => (show fxMo I_m u14 r13 p (fxS0M I_m) (0, 0, fxTdM (u12 0 19), fxTM (u12 1) 13200, fxE) from (by obtain ⟨h8, q8, g8, l8⟩ := hv78; rw [hR63.1, hR63.2] at g8; exact ((hM126 q8 (7, 0, fxTdM (u12 0 19), fxTM (u12 1) 13200, fxE) (0, 0, fxTdM (u12 0 19), fxTM (u12 1) 13200, fxE) l8 h8 (by decide) (fun _ va => by rw [fx_st7 (by decide), if_pos rfl]) (fun z z1 => fx_s7 (fun y => z ((fxKm_all l8.2.2).2.2.2.2.mpr y)) (fun y => z1 ((fxKm_all l8.2.2).2.1.mpr y)))).then hR78.1 hR78.2 (by rw [hr78]; exact (hG63 p l).tr g8)))).as (by unfold fxS0M; rw [hr126.1, hr126.2])
                refine q_if_eq (tgt := 136) hx hb dX11_pressPart_129 (by decide) rfl (fun b_129 k_129 => ?_) (fun b_129 k_129 => ?_)
                · refine lv_iconst (v := 0) hx hb dX11_pressPart_136 (by decide) ?_
                  refine hret 137 ls (0 : Int32) _ _ u14 dX11_pressPart_137 (Or.inl rfl) hS hP hD ?_
                  exact (by first | exact ⟨(MI.kk p_r11.1 p_r13.1 (by decide) (by decide)), (KK.tr (KK.tr (KK.tr hk_59 p_r8.1 (by decide) (by decide)) p_r11.2.1 (by decide) (by decide)) p_r13.1 (by decide) (by decide)), (PQ.tr (PQ.tr (PQ.ah hp_59 p_r8.2.1 p_r8.1 (by decide)) p_r11.2.2.1) p_r13.2.1), Or.inr rfl, fun _ => PQ.ad hq126 (p_r13.2.2.2.1 (p_r13.2.2.1.resolve_left b_129)), hN126, hW78.kk p_r13.1 (by decide), fun p l h0 => (hfin126 p l).r1 b_129 p_r13.2.2.1⟩ | exact ⟨(MI.kk p_r11.1 p_r13.1 (by decide) (by decide)), (KK.tr (KK.tr (KK.tr hk_59 p_r8.1 (by decide) (by decide)) p_r11.2.1 (by decide) (by decide)) p_r13.1 (by decide) (by decide)), (PQ.tr (PQ.tr (PQ.ah hp_59 p_r8.2.1 p_r8.1 (by decide)) p_r11.2.2.1) p_r13.2.1), Or.inl rfl, fun q => absurd q (by decide), hN126, hW78.kk p_r13.1 (by decide), fun p l h0 => (hfin126 p l).zero b_129⟩ | exact ⟨(MI.kk p_r11.1 p_r13.1 (by decide) (by decide)), (KK.tr (KK.tr (KK.tr hk_59 p_r8.1 (by decide) (by decide)) p_r11.2.1 (by decide) (by decide)) p_r13.1 (by decide) (by decide)), (PQ.tr (PQ.tr (PQ.ah hp_59 p_r8.2.1 p_r8.1 (by decide)) p_r11.2.2.1) p_r13.2.1), Or.inl rfl, fun q => absurd q (by decide), hN78, hW78, fun p l h0 => hz78 p l⟩)
                · refine lv_iconst (v := 1) hx hb dX11_pressPart_132 (by decide) ?_
                  refine lv_goto (tgt := 137) hx hb dX11_pressPart_133 (by decide) ?_
                  have lr : (1 : Int32).toInt = 1 := by decide
                  refine hret 137 ls (1 : Int32) _ _ u14 dX11_pressPart_137 (Or.inr rfl) hS hP hD ?_
                  exact (by first | exact ⟨(MI.kk p_r11.1 p_r13.1 (by decide) (by decide)), (KK.tr (KK.tr (KK.tr hk_59 p_r8.1 (by decide) (by decide)) p_r11.2.1 (by decide) (by decide)) p_r13.1 (by decide) (by decide)), (PQ.tr (PQ.tr (PQ.ah hp_59 p_r8.2.1 p_r8.1 (by decide)) p_r11.2.2.1) p_r13.2.1), Or.inr rfl, fun _ => PQ.ad hq126 (p_r13.2.2.2.1 (p_r13.2.2.1.resolve_left b_129)), hN126, hW78.kk p_r13.1 (by decide), fun p l h0 => (hfin126 p l).r1 b_129 p_r13.2.2.1⟩ | exact ⟨(MI.kk p_r11.1 p_r13.1 (by decide) (by decide)), (KK.tr (KK.tr (KK.tr hk_59 p_r8.1 (by decide) (by decide)) p_r11.2.1 (by decide) (by decide)) p_r13.1 (by decide) (by decide)), (PQ.tr (PQ.tr (PQ.ah hp_59 p_r8.2.1 p_r8.1 (by decide)) p_r11.2.2.1) p_r13.2.1), Or.inl rfl, fun q => absurd q (by decide), hN126, hW78.kk p_r13.1 (by decide), fun p l h0 => (hfin126 p l).zero b_129⟩ | exact ⟨(MI.kk p_r11.1 p_r13.1 (by decide) (by decide)), (KK.tr (KK.tr (KK.tr hk_59 p_r8.1 (by decide) (by decide)) p_r11.2.1 (by decide) (by decide)) p_r13.1 (by decide) (by decide)), (PQ.tr (PQ.tr (PQ.ah hp_59 p_r8.2.1 p_r8.1 (by decide)) p_r11.2.2.1) p_r13.2.1), Or.inl rfl, fun q => absurd q (by decide), hN78, hW78, fun p l h0 => hz78 p l⟩)
            · refine lv_aload_n hx hb dX11_pressPart_92 rfl (lv_at hl 1 rfl) ?_
              refine lv_sipush (v := 13205) hx hb dX11_pressPart_93 (by decide) ?_
              refine lv_iconst (v := 2) hx hb dX11_pressPart_96 (by decide) ?_
              refine lv_bipush (v := 30) hx hb dX11_pressPart_97 (by decide) ?_
              refine EffI.cv (wr := ([])) (w' := fun u16 => wX11 g a_m u16 J_m) (As := [.int (13205 : Int32), .int (2 : Int32), .int (30 : Int32)]) (kX11_number l g a_m u9 J_m (13205 : Int32) (2 : Int32) (30 : Int32) (MI.kk hc_59 p_r8.1 (by decide) (by decide)) hN63 (by omega) (by omega) (PQ.ah hp_59 p_r8.2.1 p_r8.1 (by decide)).1) fx (gUV (uT _) u_577 u_578 u_579 u_5 u_580) rfl hdX11_number ⟨Nat.le_of_ble_eq_true rfl, Nat.le_of_ble_eq_true rfl⟩ hK hP hD hS hA [0, 1, 2, 3, 4, 5, 6, 7, 8, 9, 10, 11, 12, 13, 14, 15, 16, 17, 18, 19, 20, 21, 22] [] [0, 1, 2, 3, 4, 5, 6, 7, 8, 9, 10, 11, 12, 13, 14, 15, 16, 17, 18, 19, 20, 21, 22] rfl rfl rfl rfl (by decide) rfl (fun _ => rfl) rfl rfl rfl rfl hl.1 (Nat.le_of_ble_eq_true rfl) dX11_pressPart_99 (fun r15 u16 H locs p_r15 hP hD hS => ?_)
              have hP : va_P g.1 vwCl (wX11 g a_m u16 J_m) H := hP
              have hD : va_D A (wX11 g a_m u16 J_m) := hD
              have hN78 := p_r15.2.2.2.2.2.1
              have hR78 : u16 6 = I_m 6 ∧ u16 0 10 = I_m 0 10 := ⟨(show KK [1] [11, 12, 13, 14, 16, 17, 19] I_m u16 from (KK.tr (KK.tr hk_59 p_r8.1 (by decide) (by decide)) p_r15.2.1 (by decide) (by decide))).row 6 (by decide), (show KK [1] [11, 12, 13, 14, 16, 17, 19] I_m u16 from (KK.tr (KK.tr hk_59 p_r8.1 (by decide) (by decide)) p_r15.2.1 (by decide) (by decide))).num 10 (by decide)⟩
              have hr78 : u16 0 19 = u9 0 19 := p_r15.2.1.num 19 (by decide)
              have hW78 : fxLow I_m u16 := ((show fxLow I_m (uF I_m 0 19 x7) from fxLow.rf I_m).kk hK63 (by decide)).tr p_r15.2.2.2.2.2.2.1
              have hM78 := p_r15.2.2.2.2.2.2.2 (I_m 0 13).toInt (fxTdM (u9 0 19)) (((r1.toInt.toNat - 1 : Nat)) : Int) hL63 h63 (by omega) (by first | omega | (rw [show (13204 : Int32).toInt = 13204 by decide]; omega) | (rw [show (13205 : Int32).toInt = 13205 by decide]; omega)) (by unfold fxLo; first | (rw [if_pos (by omega)]; decide) | (rw [if_neg (by omega), if_pos (by omega)]; decide) | (rw [if_neg (by omega), if_neg (by omega)]; decide)) (by unfold fxHi; first | (rw [if_pos (by omega)]; decide) | (rw [if_neg (by omega), if_pos (by omega)]; decide) | (rw [if_neg (by omega), if_neg (by omega)]; decide))
              refine q_if_eq (tgt := 136) hx hb dX11_pressPart_102 (by decide) rfl (fun b_102 k_102 => ?_) (fun b_102 k_102 => ?_)
              · have hz78 : ∀ p : Int, fxLM I_m p → fxMo I_m u16 0 p (fxS0M I_m) (fxS0M u16) := fun p l => (hM78.then hR63.1 hR63.2 (hG63 p l)).zero b_102
                refine lv_iconst (v := 0) hx hb dX11_pressPart_136 (by decide) ?_
                refine hret 137 ls (0 : Int32) _ _ u16 dX11_pressPart_137 (Or.inl rfl) hS hP hD ?_
                exact (by exact ⟨p_r15.1, (KK.tr (KK.tr hk_59 p_r8.1 (by decide) (by decide)) p_r15.2.1 (by decide) (by decide)), (PQ.tr (PQ.ah hp_59 p_r8.2.1 p_r8.1 (by decide)) p_r15.2.2.1), Or.inl rfl, fun q => absurd q (by decide), hN78, hW78, fun p l h0 => hz78 p l⟩)
              · have hv78 := hM78.one b_102
                refine lv_goto (tgt := 123) hx hb dX11_pressPart_105 (by decide) ?_
                refine lv_aload_n hx hb dX11_pressPart_123 rfl (lv_at hl 1 rfl) ?_
                refine lv_bipush (v := 59) hx hb dX11_pressPart_124 (by decide) ?_
                have hq126 : PQ I_m u16 := (PQ.tr (PQ.ah hp_59 p_r8.2.1 p_r8.1 (by decide)) p_r15.2.2.1)
                refine EffI.cv (wr := ([])) (w' := fun u18 => wX11 g a_m u18 J_m) (As := [.int (59 : Int32)]) (kX11_wantSign l g a_m u16 J_m (59 : Int32) (PQ.tr (PQ.ah hp_59 p_r8.2.1 p_r8.1 (by decide)) p_r15.2.2.1).1) fx (gUV (uT _) u_573 u_574 u_575 u_5 u_576) rfl hdX11_wantSign ⟨Nat.le_of_ble_eq_true rfl, Nat.le_of_ble_eq_true rfl⟩ hK hP hD hS hA [0, 1, 2, 3, 4, 5, 6, 7, 8, 9, 10, 11, 12, 13, 14, 15, 16, 17, 18, 19, 20, 21, 22] [] [0, 1, 2, 3, 4, 5, 6, 7, 8, 9, 10, 11, 12, 13, 14, 15, 16, 17, 18, 19, 20, 21, 22] rfl rfl rfl rfl (by decide) rfl (fun _ => rfl) rfl rfl rfl rfl hl.1 (Nat.le_of_ble_eq_true rfl) dX11_pressPart_126 (fun r17 u18 H locs p_r17 hP hD hS => ?_)
                have hP : va_P g.1 vwCl (wX11 g a_m u18 J_m) H := hP
                have hD : va_D A (wX11 g a_m u18 J_m) := hD
                have hN126 := hN78.row (p_r17.1.row 1 (by decide))
                have hr126 : u18 1 = u16 1 ∧ u18 0 19 = u16 0 19 := ⟨p_r17.1.row 1 (by decide), p_r17.1.num 19 (by decide)⟩
                have hM126 := p_r17.2.2.2.2
                have hfin126 : ∀ p : Int, fxLM I_m p → fxMo I_m u18 r17 p (fxS0M I_m) (fxS0M u18) := fun p l => (show fxMo I_m u18 r17 p (fxS0M I_m) (0, 0, fxTdM (u16 0 19), fxTM (u16 1) 13200, fxE) from (by obtain ⟨h8, q8, g8, l8⟩ := hv78; rw [hR63.1, hR63.2] at g8; exact ((hM126 q8 (7, 0, fxTdM (u16 0 19), fxTM (u16 1) 13200, fxE) (0, 0, fxTdM (u16 0 19), fxTM (u16 1) 13200, fxE) l8 h8 (by decide) (fun _ va => by rw [fx_st7 (by decide), if_pos rfl]) (fun z z1 => fx_s7 (fun y => z ((fxKm_all l8.2.2).2.2.2.2.mpr y)) (fun y => z1 ((fxKm_all l8.2.2).2.1.mpr y)))).then hR78.1 hR78.2 (by rw [hr78]; exact (hG63 p l).tr g8)))).as (by unfold fxS0M; rw [hr126.1, hr126.2])
                refine q_if_eq (tgt := 136) hx hb dX11_pressPart_129 (by decide) rfl (fun b_129 k_129 => ?_) (fun b_129 k_129 => ?_)
                · refine lv_iconst (v := 0) hx hb dX11_pressPart_136 (by decide) ?_
                  refine hret 137 ls (0 : Int32) _ _ u18 dX11_pressPart_137 (Or.inl rfl) hS hP hD ?_
                  exact (by first | exact ⟨(MI.kk p_r15.1 p_r17.1 (by decide) (by decide)), (KK.tr (KK.tr (KK.tr hk_59 p_r8.1 (by decide) (by decide)) p_r15.2.1 (by decide) (by decide)) p_r17.1 (by decide) (by decide)), (PQ.tr (PQ.tr (PQ.ah hp_59 p_r8.2.1 p_r8.1 (by decide)) p_r15.2.2.1) p_r17.2.1), Or.inr rfl, fun _ => PQ.ad hq126 (p_r17.2.2.2.1 (p_r17.2.2.1.resolve_left b_129)), hN126, hW78.kk p_r17.1 (by decide), fun p l h0 => (hfin126 p l).r1 b_129 p_r17.2.2.1⟩ | exact ⟨(MI.kk p_r15.1 p_r17.1 (by decide) (by decide)), (KK.tr (KK.tr (KK.tr hk_59 p_r8.1 (by decide) (by decide)) p_r15.2.1 (by decide) (by decide)) p_r17.1 (by decide) (by decide)), (PQ.tr (PQ.tr (PQ.ah hp_59 p_r8.2.1 p_r8.1 (by decide)) p_r15.2.2.1) p_r17.2.1), Or.inl rfl, fun q => absurd q (by decide), hN126, hW78.kk p_r17.1 (by decide), fun p l h0 => (hfin126 p l).zero b_129⟩ | exact ⟨(MI.kk p_r15.1 p_r17.1 (by decide) (by decide)), (KK.tr (KK.tr (KK.tr hk_59 p_r8.1 (by decide) (by decide)) p_r15.2.1 (by decide) (by decide)) p_r17.1 (by decide) (by decide)), (PQ.tr (PQ.tr (PQ.ah hp_59 p_r8.2.1 p_r8.1 (by decide)) p_r15.2.2.1) p_r17.2.1), Or.inl rfl, fun q => absurd q (by decide), hN78, hW78, fun p l h0 => hz78 p l⟩)
                · refine lv_iconst (v := 1) hx hb dX11_pressPart_132 (by decide) ?_
                  refine lv_goto (tgt := 137) hx hb dX11_pressPart_133 (by decide) ?_
                  have lr : (1 : Int32).toInt = 1 := by decide
                  refine hret 137 ls (1 : Int32) _ _ u18 dX11_pressPart_137 (Or.inr rfl) hS hP hD ?_
                  exact (by first | exact ⟨(MI.kk p_r15.1 p_r17.1 (by decide) (by decide)), (KK.tr (KK.tr (KK.tr hk_59 p_r8.1 (by decide) (by decide)) p_r15.2.1 (by decide) (by decide)) p_r17.1 (by decide) (by decide)), (PQ.tr (PQ.tr (PQ.ah hp_59 p_r8.2.1 p_r8.1 (by decide)) p_r15.2.2.1) p_r17.2.1), Or.inr rfl, fun _ => PQ.ad hq126 (p_r17.2.2.2.1 (p_r17.2.2.1.resolve_left b_129)), hN126, hW78.kk p_r17.1 (by decide), fun p l h0 => (hfin126 p l).r1 b_129 p_r17.2.2.1⟩ | exact ⟨(MI.kk p_r15.1 p_r17.1 (by decide) (by decide)), (KK.tr (KK.tr (KK.tr hk_59 p_r8.1 (by decide) (by decide)) p_r15.2.1 (by decide) (by decide)) p_r17.1 (by decide) (by decide)), (PQ.tr (PQ.tr (PQ.ah hp_59 p_r8.2.1 p_r8.1 (by decide)) p_r15.2.2.1) p_r17.2.1), Or.inl rfl, fun q => absurd q (by decide), hN126, hW78.kk p_r17.1 (by decide), fun p l h0 => (hfin126 p l).zero b_129⟩ | exact ⟨(MI.kk p_r15.1 p_r17.1 (by decide) (by decide)), (KK.tr (KK.tr (KK.tr hk_59 p_r8.1 (by decide) (by decide)) p_r15.2.1 (by decide) (by decide)) p_r17.1 (by decide) (by decide)), (PQ.tr (PQ.tr (PQ.ah hp_59 p_r8.2.1 p_r8.1 (by decide)) p_r15.2.2.1) p_r17.2.1), Or.inl rfl, fun q => absurd q (by decide), hN78, hW78, fun p l h0 => hz78 p l⟩)
          · refine lv_aload_n hx hb dX11_pressPart_71 rfl (lv_at hl 1 rfl) ?_
            refine lv_sipush (v := 13204) hx hb dX11_pressPart_72 (by decide) ?_
            refine lv_iconst (v := 4) hx hb dX11_pressPart_75 (by decide) ?_
            refine lv_bipush (v := 40) hx hb dX11_pressPart_76 (by decide) ?_
            refine EffI.cv (wr := ([])) (w' := fun u20 => wX11 g a_m u20 J_m) (As := [.int (13204 : Int32), .int (4 : Int32), .int (40 : Int32)]) (kX11_number l g a_m u9 J_m (13204 : Int32) (4 : Int32) (40 : Int32) (MI.kk hc_59 p_r8.1 (by decide) (by decide)) hN63 (by omega) (by omega) (PQ.ah hp_59 p_r8.2.1 p_r8.1 (by decide)).1) fx (gUV (uT _) u_577 u_578 u_579 u_5 u_580) rfl hdX11_number ⟨Nat.le_of_ble_eq_true rfl, Nat.le_of_ble_eq_true rfl⟩ hK hP hD hS hA [0, 1, 2, 3, 4, 5, 6, 7, 8, 9, 10, 11, 12, 13, 14, 15, 16, 17, 18, 19, 20, 21, 22] [] [0, 1, 2, 3, 4, 5, 6, 7, 8, 9, 10, 11, 12, 13, 14, 15, 16, 17, 18, 19, 20, 21, 22] rfl rfl rfl rfl (by decide) rfl (fun _ => rfl) rfl rfl rfl rfl hl.1 (Nat.le_of_ble_eq_true rfl) dX11_pressPart_78 (fun r19 u20 H locs p_r19 hP hD hS => ?_)
            have hP : va_P g.1 vwCl (wX11 g a_m u20 J_m) H := hP
            have hD : va_D A (wX11 g a_m u20 J_m) := hD
            have hN78 := p_r19.2.2.2.2.2.1
            have hR78 : u20 6 = I_m 6 ∧ u20 0 10 = I_m 0 10 := ⟨(show KK [1] [11, 12, 13, 14, 16, 17, 19] I_m u20 from (KK.tr (KK.tr hk_59 p_r8.1 (by decide) (by decide)) p_r19.2.1 (by decide) (by decide))).row 6 (by decide), (show KK [1] [11, 12, 13, 14, 16, 17, 19] I_m u20 from (KK.tr (KK.tr hk_59 p_r8.1 (by decide) (by decide)) p_r19.2.1 (by decide) (by decide))).num 10 (by decide)⟩
            have hr78 : u20 0 19 = u9 0 19 := p_r19.2.1.num 19 (by decide)
            have hW78 : fxLow I_m u20 := ((show fxLow I_m (uF I_m 0 19 x7) from fxLow.rf I_m).kk hK63 (by decide)).tr p_r19.2.2.2.2.2.2.1
            have hM78 := p_r19.2.2.2.2.2.2.2 (I_m 0 13).toInt (fxTdM (u9 0 19)) (((r1.toInt.toNat - 1 : Nat)) : Int) hL63 h63 (by omega) (by first | omega | (rw [show (13204 : Int32).toInt = 13204 by decide]; omega) | (rw [show (13205 : Int32).toInt = 13205 by decide]; omega)) (by unfold fxLo; first | (rw [if_pos (by omega)]; decide) | (rw [if_neg (by omega), if_pos (by omega)]; decide) | (rw [if_neg (by omega), if_neg (by omega)]; decide)) (by unfold fxHi; first | (rw [if_pos (by omega)]; decide) | (rw [if_neg (by omega), if_pos (by omega)]; decide) | (rw [if_neg (by omega), if_neg (by omega)]; decide))
            refine q_if_eq (tgt := 136) hx hb dX11_pressPart_81 (by decide) rfl (fun b_81 k_81 => ?_) (fun b_81 k_81 => ?_)
            · have hz78 : ∀ p : Int, fxLM I_m p → fxMo I_m u20 0 p (fxS0M I_m) (fxS0M u20) := fun p l => (hM78.then hR63.1 hR63.2 (hG63 p l)).zero b_81
              refine lv_iconst (v := 0) hx hb dX11_pressPart_136 (by decide) ?_
              refine hret 137 ls (0 : Int32) _ _ u20 dX11_pressPart_137 (Or.inl rfl) hS hP hD ?_
              exact (by exact ⟨p_r19.1, (KK.tr (KK.tr hk_59 p_r8.1 (by decide) (by decide)) p_r19.2.1 (by decide) (by decide)), (PQ.tr (PQ.ah hp_59 p_r8.2.1 p_r8.1 (by decide)) p_r19.2.2.1), Or.inl rfl, fun q => absurd q (by decide), hN78, hW78, fun p l h0 => hz78 p l⟩)
            · have hv78 := hM78.one b_81
              refine lv_goto (tgt := 123) hx hb dX11_pressPart_84 (by decide) ?_
              refine lv_aload_n hx hb dX11_pressPart_123 rfl (lv_at hl 1 rfl) ?_
              refine lv_bipush (v := 59) hx hb dX11_pressPart_124 (by decide) ?_
              have hq126 : PQ I_m u20 := (PQ.tr (PQ.ah hp_59 p_r8.2.1 p_r8.1 (by decide)) p_r19.2.2.1)
              refine EffI.cv (wr := ([])) (w' := fun u22 => wX11 g a_m u22 J_m) (As := [.int (59 : Int32)]) (kX11_wantSign l g a_m u20 J_m (59 : Int32) (PQ.tr (PQ.ah hp_59 p_r8.2.1 p_r8.1 (by decide)) p_r19.2.2.1).1) fx (gUV (uT _) u_573 u_574 u_575 u_5 u_576) rfl hdX11_wantSign ⟨Nat.le_of_ble_eq_true rfl, Nat.le_of_ble_eq_true rfl⟩ hK hP hD hS hA [0, 1, 2, 3, 4, 5, 6, 7, 8, 9, 10, 11, 12, 13, 14, 15, 16, 17, 18, 19, 20, 21, 22] [] [0, 1, 2, 3, 4, 5, 6, 7, 8, 9, 10, 11, 12, 13, 14, 15, 16, 17, 18, 19, 20, 21, 22] rfl rfl rfl rfl (by decide) rfl (fun _ => rfl) rfl rfl rfl rfl hl.1 (Nat.le_of_ble_eq_true rfl) dX11_pressPart_126 (fun r21 u22 H locs p_r21 hP hD hS => ?_)
              have hP : va_P g.1 vwCl (wX11 g a_m u22 J_m) H := hP
              have hD : va_D A (wX11 g a_m u22 J_m) := hD
              have hN126 := hN78.row (p_r21.1.row 1 (by decide))
              have hr126 : u22 1 = u20 1 ∧ u22 0 19 = u20 0 19 := ⟨p_r21.1.row 1 (by decide), p_r21.1.num 19 (by decide)⟩
              have hM126 := p_r21.2.2.2.2
              have hfin126 : ∀ p : Int, fxLM I_m p → fxMo I_m u22 r21 p (fxS0M I_m) (fxS0M u22) := fun p l => (show fxMo I_m u22 r21 p (fxS0M I_m) (0, 0, fxTdM (u20 0 19), fxTM (u20 1) 13200, fxE) from (by obtain ⟨h8, q8, g8, l8⟩ := hv78; rw [hR63.1, hR63.2] at g8; exact ((hM126 q8 (7, 0, fxTdM (u20 0 19), fxTM (u20 1) 13200, fxE) (0, 0, fxTdM (u20 0 19), fxTM (u20 1) 13200, fxE) l8 h8 (by decide) (fun _ va => by rw [fx_st7 (by decide), if_pos rfl]) (fun z z1 => fx_s7 (fun y => z ((fxKm_all l8.2.2).2.2.2.2.mpr y)) (fun y => z1 ((fxKm_all l8.2.2).2.1.mpr y)))).then hR78.1 hR78.2 (by rw [hr78]; exact (hG63 p l).tr g8)))).as (by unfold fxS0M; rw [hr126.1, hr126.2])
              refine q_if_eq (tgt := 136) hx hb dX11_pressPart_129 (by decide) rfl (fun b_129 k_129 => ?_) (fun b_129 k_129 => ?_)
              · refine lv_iconst (v := 0) hx hb dX11_pressPart_136 (by decide) ?_
                refine hret 137 ls (0 : Int32) _ _ u22 dX11_pressPart_137 (Or.inl rfl) hS hP hD ?_
                exact (by first | exact ⟨(MI.kk p_r19.1 p_r21.1 (by decide) (by decide)), (KK.tr (KK.tr (KK.tr hk_59 p_r8.1 (by decide) (by decide)) p_r19.2.1 (by decide) (by decide)) p_r21.1 (by decide) (by decide)), (PQ.tr (PQ.tr (PQ.ah hp_59 p_r8.2.1 p_r8.1 (by decide)) p_r19.2.2.1) p_r21.2.1), Or.inr rfl, fun _ => PQ.ad hq126 (p_r21.2.2.2.1 (p_r21.2.2.1.resolve_left b_129)), hN126, hW78.kk p_r21.1 (by decide), fun p l h0 => (hfin126 p l).r1 b_129 p_r21.2.2.1⟩ | exact ⟨(MI.kk p_r19.1 p_r21.1 (by decide) (by decide)), (KK.tr (KK.tr (KK.tr hk_59 p_r8.1 (by decide) (by decide)) p_r19.2.1 (by decide) (by decide)) p_r21.1 (by decide) (by decide)), (PQ.tr (PQ.tr (PQ.ah hp_59 p_r8.2.1 p_r8.1 (by decide)) p_r19.2.2.1) p_r21.2.1), Or.inl rfl, fun q => absurd q (by decide), hN126, hW78.kk p_r21.1 (by decide), fun p l h0 => (hfin126 p l).zero b_129⟩ | exact ⟨(MI.kk p_r19.1 p_r21.1 (by decide) (by decide)), (KK.tr (KK.tr (KK.tr hk_59 p_r8.1 (by decide) (by decide)) p_r19.2.1 (by decide) (by decide)) p_r21.1 (by decide) (by decide)), (PQ.tr (PQ.tr (PQ.ah hp_59 p_r8.2.1 p_r8.1 (by decide)) p_r19.2.2.1) p_r21.2.1), Or.inl rfl, fun q => absurd q (by decide), hN78, hW78, fun p l h0 => hz78 p l⟩)
              · refine lv_iconst (v := 1) hx hb dX11_pressPart_132 (by decide) ?_
                refine lv_goto (tgt := 137) hx hb dX11_pressPart_133 (by decide) ?_
                have lr : (1 : Int32).toInt = 1 := by decide
                refine hret 137 ls (1 : Int32) _ _ u22 dX11_pressPart_137 (Or.inr rfl) hS hP hD ?_
                exact (by first | exact ⟨(MI.kk p_r19.1 p_r21.1 (by decide) (by decide)), (KK.tr (KK.tr (KK.tr hk_59 p_r8.1 (by decide) (by decide)) p_r19.2.1 (by decide) (by decide)) p_r21.1 (by decide) (by decide)), (PQ.tr (PQ.tr (PQ.ah hp_59 p_r8.2.1 p_r8.1 (by decide)) p_r19.2.2.1) p_r21.2.1), Or.inr rfl, fun _ => PQ.ad hq126 (p_r21.2.2.2.1 (p_r21.2.2.1.resolve_left b_129)), hN126, hW78.kk p_r21.1 (by decide), fun p l h0 => (hfin126 p l).r1 b_129 p_r21.2.2.1⟩ | exact ⟨(MI.kk p_r19.1 p_r21.1 (by decide) (by decide)), (KK.tr (KK.tr (KK.tr hk_59 p_r8.1 (by decide) (by decide)) p_r19.2.1 (by decide) (by decide)) p_r21.1 (by decide) (by decide)), (PQ.tr (PQ.tr (PQ.ah hp_59 p_r8.2.1 p_r8.1 (by decide)) p_r19.2.2.1) p_r21.2.1), Or.inl rfl, fun q => absurd q (by decide), hN126, hW78.kk p_r21.1 (by decide), fun p l h0 => (hfin126 p l).zero b_129⟩ | exact ⟨(MI.kk p_r19.1 p_r21.1 (by decide) (by decide)), (KK.tr (KK.tr (KK.tr hk_59 p_r8.1 (by decide) (by decide)) p_r19.2.1 (by decide) (by decide)) p_r21.1 (by decide) (by decide)), (PQ.tr (PQ.tr (PQ.ah hp_59 p_r8.2.1 p_r8.1 (by decide)) p_r19.2.2.1) p_r21.2.1), Or.inl rfl, fun q => absurd q (by decide), hN78, hW78, fun p l h0 => hz78 p l⟩)
        · have hwk : fxIs (fxKm (I_m 0 11).toInt) (fxWm I_m) ((r1.toInt.toNat - 1) + 1) := (by rw [show r1.toInt.toNat - 1 + 1 = r1.toInt.toNat by omega]; exact fx_w0 p_r1 (by omega))
          refine lv_aload_n hx hb dX11_pressPart_44 rfl (lv_at hl 1 rfl) ?_
          refine lv_iconst (v := 5) hx hb dX11_pressPart_45 (by decide) ?_
          refine EffI.cv (wr := ([])) (w' := fun u24 => wX11 g a_m u24 J_m) (As := [.int (5 : Int32)]) (kX11_fails l g a_m I_m J_m (5 : Int32)) fx (gUV (uT _) u_557 u_558 u_559 u_5 u_560) rfl hdX11_fails ⟨Nat.le_of_ble_eq_true rfl, Nat.le_of_ble_eq_true rfl⟩ hK hP hD hS hA [0, 1, 2, 3, 4, 5, 6, 7, 8, 9, 10, 11, 12, 13, 14, 15, 16, 17, 18, 19, 20, 21, 22] [] [0, 1, 2, 3, 4, 5, 6, 7, 8, 9, 10, 11, 12, 13, 14, 15, 16, 17, 18, 19, 20, 21, 22] rfl rfl rfl rfl (by decide) rfl (fun _ => rfl) rfl rfl rfl rfl hl.1 (Nat.le_of_ble_eq_true rfl) dX11_pressPart_46 (fun r23 u24 H locs p_r23 hP hD hS => ?_)
          have hP : va_P g.1 vwCl (wX11 g a_m u24 J_m) H := hP
          have hD : va_D A (wX11 g a_m u24 J_m) := hD
          refine hret 49 ls r23 _ _ u24 dX11_pressPart_49 (Or.inl p_r23.2.1) hS hP hD ?_
          exact ⟨(MI.kk hM p_r23.1 (by decide) (by decide)), (KK.tr (KK.rf I_m) p_r23.1 (by decide) (by decide)), (PQ.fl (PQ.rf h_p) p_r23.1 (by decide) (p_r23.2.2.2 (by decide))), Or.inl p_r23.2.1, fun q => absurd (q.symm.trans p_r23.2.1) (by decide), hN.row (p_r23.1.row 1 (by decide)), (fxLow.rf I_m).kk p_r23.1 (by decide), fun p l h0 => fxMo.fail p_r23 h17 (by decide) l rfl rfl fxRe.rf (fun q => (fx_s6f hwk (by omega) ((fx_toldM (s := r1) (by omega) (by omega) e_x4 e_x5).mpr k_41)).trans (congrArg Sum.inl (by decide)))⟩
      · refine lv_aload_n hx hb dX11_pressPart_26 rfl (lv_at hl 1 rfl) ?_
        refine lv_iconst (v := 2) hx hb dX11_pressPart_27 (by decide) ?_
        refine EffI.cv (wr := ([])) (w' := fun u26 => wX11 g a_m u26 J_m) (As := [.int (2 : Int32)]) (kX11_fails l g a_m I_m J_m (2 : Int32)) fx (gUV (uT _) u_557 u_558 u_559 u_5 u_560) rfl hdX11_fails ⟨Nat.le_of_ble_eq_true rfl, Nat.le_of_ble_eq_true rfl⟩ hK hP hD hS hA [0, 1, 2, 3, 4, 5, 6, 7, 8, 9, 10, 11, 12, 13, 14, 15, 16, 17, 18, 19, 20, 21, 22] [] [0, 1, 2, 3, 4, 5, 6, 7, 8, 9, 10, 11, 12, 13, 14, 15, 16, 17, 18, 19, 20, 21, 22] rfl rfl rfl rfl (by decide) rfl (fun _ => rfl) rfl rfl rfl rfl hl.1 (Nat.le_of_ble_eq_true rfl) dX11_pressPart_28 (fun r25 u26 H locs p_r25 hP hD hS => ?_)
        have hP : va_P g.1 vwCl (wX11 g a_m u26 J_m) H := hP
        have hD : va_D A (wX11 g a_m u26 J_m) := hD
        refine hret 31 ls r25 _ _ u26 dX11_pressPart_31 (Or.inl p_r25.2.1) hS hP hD ?_
        exact ⟨(MI.kk hM p_r25.1 (by decide) (by decide)), (KK.tr (KK.rf I_m) p_r25.1 (by decide) (by decide)), (PQ.fl (PQ.rf h_p) p_r25.1 (by decide) (p_r25.2.2.2 (by decide))), Or.inl p_r25.2.1, fun q => absurd (q.symm.trans p_r25.2.1) (by decide), hN.row (p_r25.1.row 1 (by decide)), (fxLow.rf I_m).kk p_r25.1 (by decide), fun p l h0 => fxMo.fail p_r25 h17 (by decide) l rfl rfl fxRe.rf (fun q => (fx_s0n p_r1 (by omega) l.2.2 h0 q).trans (congrArg Sum.inl (by decide)))⟩
  · refine lv_aload_n hx hb dX11_pressPart_11 rfl (lv_at hl 1 rfl) ?_
    refine EffIS.cv (wr := ([])) (w' := fun u28 => wX11 g a_m u28 J_m) (As := []) (kX11_aRule l g ad av a_m I_m J_m hM hN (PQ.rf h_p).1 (by omega)) fx (gUV (uT _) u_550 u_551 u_552 u_5 u_553) rfl hdX11_aRule ⟨Nat.le_of_ble_eq_true rfl, Nat.le_of_ble_eq_true rfl⟩ hJ hK hP hD hS hA [0, 1, 2, 3, 4, 5, 6, 7, 8, 9, 10, 11, 12, 13, 14, 15, 16, 17, 18, 19, 20, 21, 22] [] [0, 1, 2, 3, 4, 5, 6, 7, 8, 9, 10, 11, 12, 13, 14, 15, 16, 17, 18, 19, 20, 21, 22] rfl rfl rfl rfl (by decide) rfl (fun _ => rfl) rfl rfl rfl rfl hl.1 (Nat.le_of_ble_eq_true rfl) dX11_pressPart_12 (fun r27 u28 H locs p_r27 hP hD hS => ?_)
    have hP : va_P g.1 vwCl (wX11 g a_m u28 J_m) H := hP
    have hD : va_D A (wX11 g a_m u28 J_m) := hD
    refine hret 15 ls r27 _ _ u28 dX11_pressPart_15 p_r27.2.2.2.1 hS hP hD ?_
    exact ⟨p_r27.1, (KK.tr (KK.rf I_m) p_r27.2.1 (by decide) (by decide)), p_r27.2.2.1, p_r27.2.2.2.1, p_r27.2.2.2.2.1, p_r27.2.2.2.2.2.1, p_r27.2.2.2.2.2.2.1, fun p l h0 => p_r27.2.2.2.2.2.2.2 p l (by have w := fx_w0 p_r1 (by omega); rw [show (r1).toInt.toNat = 0 by omega] at w; exact w)⟩

set_option maxHeartbeats 4000000 in
set_option maxRecDepth 100000 in
theorem kX11_empties (l : Launch) (g : gG) (a_m : Nat → Nat) (I_m : Nat → Nat → Int32) (J_m : Nat → Nat → Int64) (slot : Int32) (h_s : 0 ≤ slot.toInt ∧ slot.toInt ≤ 16500) : EffV l g yX11_empties wsX11_empties 0 [.ref (a_m 0), .int slot] (wX11 g a_m I_m J_m) (fun (u : (Nat → Nat → Int32)) => wX11 g a_m u J_m) (fun (u : (Nat → Nat → Int32)) => KK [1] [] I_m (u) ∧ TS ((u) 1) slot.toInt.toNat ∧ SS ((u) 1) slot.toInt.toNat ∧ (∀ j : Nat, j < slot.toInt.toNat ∨ slot.toInt.toNat + 3300 ≤ j → (u) 1 j = I_m 1 j) ∧ fxTM ((u) 1) slot.toInt.toNat = fxT0 ∧ ((u) 1 (slot.toInt.toNat + 6)).toInt = 0) := by
  refine EffV.st (cc := cX11_empties) (maxL := 3) (by decide) rfl (Nat.le_of_ble_eq_true rfl) (fun p e s m args below meth c A Q ls fx hK hP hD hA hS hl hret => ?_)
  have hx := fx.1
  have hb := fx.2.1
  have hml := fx.2.2.1
  have hown := fx.2.2.2.1
  have hts := fx.2.2.2.2
  have hl : lv_has ls 3 [(0, .ref (a_m 0)), (1, .int slot)] := hl
  have hP : va_P g.1 vwCl (wX11 g a_m I_m J_m) s.heap := hP
  have hf_7 := hts _ (uT _ _ u_170)
  have hi_X11 : ∀ w ∈ wsX110, w.before args s = true := fun w h => hts w (uT _ w (u_wsX110 w h))
  have lm1 : (-1 : Int32).toInt = -1 := by decide
  have lm0 : (0 : Int32).toInt = 0 := by decide
  have lm2 : (1 : Int32).toInt = 1 := by decide
  have lq4 : (4 : Int32).toInt = 4 := by decide
  have lq5 : (5 : Int32).toInt = 5 := by decide
  have lq7 : (7 : Int32).toInt = 7 := by decide
  have lq32 : (32 : Int32).toInt = 32 := by decide
  have lq3300 : (3300 : Int32).toInt = 3300 := by decide
  refine lv_iconst (v := 0) hx hb dX11_empties_0 (by decide) ?_
  refine lv_istore_n (lv' := [(2, .int (0 : Int32)), (0, .ref (a_m 0)), (1, .int slot)]) hx hb dX11_empties_1 rfl hl (by decide) rfl (fun ls hl => ?_)
  have L2 : ∀ (nn : Nat) (v2_2 : Int32) (I_m_2 : Nat → Nat → Int32), (hk_2 : KK [1] [] I_m I_m_2) → (hv_2 : 0 ≤ v2_2.toInt ∧ v2_2.toInt ≤ 3300) → (he_2 : ∀ j : Nat, I_m_2 1 j = if slot.toInt ≤ (j : Int) ∧ (j : Int) < slot.toInt + v2_2.toInt then 0 else I_m 1 j) → ((3301 - v2_2.toInt) < (nn : Int)) → ∀ (H : Heap) (locs : List Loc), va_P g.1 vwCl (wX11 g a_m I_m_2 J_m) H → va_D A (wX11 g a_m I_m_2 J_m) → va_S A s.heap H locs → ∀ ls : Array Slot, lv_has ls 3 [(2, .int v2_2), (0, .ref (a_m 0)), (1, .int slot)] → W p l e (rm 0) s m args below meth c H locs 0 0 Q (F0 m 2 ls []) := by
    intro n_2
    induction n_2 with
    | zero =>
      intro v2_2 I_m_2 hk_2 hv_2 he_2 hms_2 H locs hP hD hS ls hl
      exfalso; omega
    | succ n_2 ih_2 =>
      intro v2_2 I_m_2 hk_2 hv_2 he_2 hms_2 H locs hP hD hS ls hl
      refine lv_iload_n hx hb dX11_empties_2 rfl (lv_at hl 0 rfl) ?_
      refine lv_sipush (v := 3300) hx hb dX11_empties_3 (by decide) ?_
      refine q_icmp_ge (tgt := 24) hx hb dX11_empties_6 (by decide) rfl (by decide : (3300 : Int32).toInt = 3300) (fun k_6 => ?_) (fun k_6 => ?_)
      · refine lv_aload_n hx hb dX11_empties_24 rfl (lv_at hl 1 rfl) ?_
        refine va_get (D := g.1) (ci := 11) (v := .ref (a_m 1)) (C := RX11) (T := TX11) (N := 46) hx hb hi_X11 (fun _ h => h) hown hK.1 hP 0 rfl rfl 0 (by decide) hf_7 (fun _ h9 => h9) rfl dX11_empties_25 ?_
        refine lv_iload_n hx hb dX11_empties_28 rfl (lv_at hl 2 rfl) ?_
        refine lv_iconst (v := 4) hx hb dX11_empties_29 (by decide) ?_
        refine r_iadd hx hb dX11_empties_30 rfl (by decide : (4 : Int32).toInt = 4) (fun x1 e_x1 t_x1 => ?_)
        try have t_x1 := t_x1 (by omega)
        refine lv_bipush (v := 32) hx hb dX11_empties_31 (by decide) ?_
        have n_33 : vp_in x1 19800 := (t_in (by omega))
        obtain ⟨f2, e_f2⟩ : ∃ z, z = upd (I_m_2 1) x1.toNatClampNeg (32 : Int32) := ⟨_, rfl⟩
        refine va_iast hx hb hK.1 hP hD hS 1 0 rfl rfl n_33 dX11_empties_33 (fun H locs hP hD hS => ?_)
        have hP : va_P g.1 vwCl (wX11 g a_m (uR I_m_2 1 f2) J_m) H := by rw [e_f2]; exact hP
        have hD : va_D A (wX11 g a_m (uR I_m_2 1 f2) J_m) := by rw [e_f2]; exact hD
        have hk_33 : KK [1] [] I_m (uR I_m_2 1 f2) := KK.ur hk_2 (by decide) (by decide)
        refine lv_aload_n hx hb dX11_empties_34 rfl (lv_at hl 1 rfl) ?_
        refine va_get (D := g.1) (ci := 11) (v := .ref (a_m 1)) (C := RX11) (T := TX11) (N := 46) hx hb hi_X11 (fun _ h => h) hown hK.1 hP 0 rfl rfl 0 (by decide) hf_7 (fun _ h9 => h9) rfl dX11_empties_35 ?_
        refine lv_iload_n hx hb dX11_empties_38 rfl (lv_at hl 2 rfl) ?_
        refine lv_iconst (v := 5) hx hb dX11_empties_39 (by decide) ?_
        refine r_iadd hx hb dX11_empties_40 rfl (by decide : (5 : Int32).toInt = 5) (fun x3 e_x3 t_x3 => ?_)
        try have t_x3 := t_x3 (by omega)
        refine lv_bipush (v := 25) hx hb dX11_empties_41 (by decide) ?_
        have n_43 : vp_in x3 19800 := (t_in (by omega))
        obtain ⟨f4, e_f4⟩ : ∃ z, z = upd f2 x3.toNatClampNeg (25 : Int32) := ⟨_, rfl⟩
        refine va_iast hx hb hK.1 hP hD hS 1 0 rfl rfl n_43 dX11_empties_43 (fun H locs hP hD hS => ?_)
        have hP : va_P g.1 vwCl (wX11 g a_m (uR (uR I_m_2 1 f2) 1 f4) J_m) H := by rw [e_f4]; exact hP
        have hD : va_D A (wX11 g a_m (uR (uR I_m_2 1 f2) 1 f4) J_m) := by rw [e_f4]; exact hD
        have hk_43 : KK [1] [] I_m (uR (uR I_m_2 1 f2) 1 f4) := KK.ur hk_33 (by decide) (by decide)
        refine lv_aload_n hx hb dX11_empties_44 rfl (lv_at hl 1 rfl) ?_
        refine va_get (D := g.1) (ci := 11) (v := .ref (a_m 1)) (C := RX11) (T := TX11) (N := 46) hx hb hi_X11 (fun _ h => h) hown hK.1 hP 0 rfl rfl 0 (by decide) hf_7 (fun _ h9 => h9) rfl dX11_empties_45 ?_
        refine lv_iload_n hx hb dX11_empties_48 rfl (lv_at hl 2 rfl) ?_
        refine lv_bipush (v := 7) hx hb dX11_empties_49 (by decide) ?_
        refine r_iadd hx hb dX11_empties_51 rfl (by decide : (7 : Int32).toInt = 7) (fun x5 e_x5 t_x5 => ?_)
        try have t_x5 := t_x5 (by omega)
        refine lv_iconst (v := -1) hx hb dX11_empties_52 (by decide) ?_
        have n_53 : vp_in x5 19800 := (t_in (by omega))
        obtain ⟨f6, e_f6⟩ : ∃ z, z = upd f4 x5.toNatClampNeg (-1 : Int32) := ⟨_, rfl⟩
        refine va_iast hx hb hK.1 hP hD hS 1 0 rfl rfl n_53 dX11_empties_53 (fun H locs hP hD hS => ?_)
        have hP : va_P g.1 vwCl (wX11 g a_m (uR (uR (uR I_m_2 1 f2) 1 f4) 1 f6) J_m) H := by rw [e_f6]; exact hP
        have hD : va_D A (wX11 g a_m (uR (uR (uR I_m_2 1 f2) 1 f4) 1 f6) J_m) := by rw [e_f6]; exact hD
        have hk_53 : KK [1] [] I_m (uR (uR (uR I_m_2 1 f2) 1 f4) 1 f6) := KK.ur hk_43 (by decide) (by decide)
        refine hret 54 ls _ _ (uR (uR (uR I_m_2 1 f2) 1 f4) 1 f6) dX11_empties_54 hS hP hD ?_
        exact (by have em := em_ok (F0 := I_m_2 1) (G := I_m 1) (fun j => by rw [he_2 j]; congr 1; simp only [eq_iff_iff]; constructor <;> intro q <;> omega) e_f2 e_f4 e_f6 (s := slot.toInt.toNat) (by omega) (by omega) (by omega); have em2 := fx_em (F := I_m_2 1) (A := I_m 1) (s := slot.toInt.toNat) (fun j => by rw [he_2 j]; congr 1; simp only [eq_iff_iff]; constructor <;> intro q <;> omega) e_f2 e_f4 e_f6 (by omega) (by omega) (by omega); exact ⟨hk_53, em.1, em.2.1, em.2.2, em2.1, em2.2⟩)
      · refine lv_aload_n hx hb dX11_empties_9 rfl (lv_at hl 1 rfl) ?_
        refine va_get (D := g.1) (ci := 11) (v := .ref (a_m 1)) (C := RX11) (T := TX11) (N := 46) hx hb hi_X11 (fun _ h => h) hown hK.1 hP 0 rfl rfl 0 (by decide) hf_7 (fun _ h9 => h9) rfl dX11_empties_10 ?_
        refine lv_iload_n hx hb dX11_empties_13 rfl (lv_at hl 2 rfl) ?_
        refine lv_iload_n hx hb dX11_empties_14 rfl (lv_at hl 0 rfl) ?_
        refine r_iadd hx hb dX11_empties_15 rfl rfl (fun x7 e_x7 t_x7 => ?_)
        try have t_x7 := t_x7 (by omega)
        refine lv_iconst (v := 0) hx hb dX11_empties_16 (by decide) ?_
        have n_17 : vp_in x7 19800 := (t_in (by omega))
        obtain ⟨f8, e_f8⟩ : ∃ z, z = upd (I_m_2 1) x7.toNatClampNeg (0 : Int32) := ⟨_, rfl⟩
        refine va_iast hx hb hK.1 hP hD hS 1 0 rfl rfl n_17 dX11_empties_17 (fun H locs hP hD hS => ?_)
        have hP : va_P g.1 vwCl (wX11 g a_m (uR I_m_2 1 f8) J_m) H := by rw [e_f8]; exact hP
        have hD : va_D A (wX11 g a_m (uR I_m_2 1 f8) J_m) := by rw [e_f8]; exact hD
        have hk_17 : KK [1] [] I_m (uR I_m_2 1 f8) := KK.ur hk_2 (by decide) (by decide)
        refine r_iinc (lv' := fun i9 => [(2, .int i9), (0, .ref (a_m 0)), (1, .int slot)]) hx hb dX11_empties_18 hl (k := 0) rfl (by decide) rfl (by decide) (fun _ => rfl) (fun i9 e_i9 t_i9 ls hl => ?_)
        try have t_i9 := t_i9 (by omega)
        refine lv_goto (tgt := 2) hx hb dX11_empties_21 (by decide) ?_
        exact ih_2 i9 (uR I_m_2 1 f8) hk_17 (by omega) (fun j => em_st he_2 e_f8 (by show (((x7).toInt.toNat : Nat) : Int) = _; omega) (by omega) (by omega) j) (by omega) _ _ hP hD hS ls hl
  exact L2 ((3301 - (0 : Int32).toInt) + 1).toNat (0 : Int32) I_m (KK.rf I_m) (by omega) (fun j => by rw [if_neg (by rw [lm0]; omega)]) (by omega) _ _ hP hD hS ls hl

set_option maxHeartbeats 4000000 in
set_option maxRecDepth 100000 in
theorem kX11_begins (l : Launch) (g : gG) (a_m : Nat → Nat) (I_m : Nat → Nat → Int32) (J_m : Nat → Nat → Int64) (n : Int32) (most : Int32) (hM : MI I_m) : EffI l g yX11_begins wsX11_begins 2 [.ref (a_m 0), .int n, .int most] (wX11 g a_m I_m J_m) (fun (u : (Nat → Nat → Int32)) => wX11 g a_m u J_m) (fun r (u : (Nat → Nat → Int32)) => MI (u) ∧ KK [6] [9, 10, 11, 12, 13, 14, 16, 17, 18] I_m (u) ∧ bP ((0 ≤ n.toInt ∧ n.toInt ≤ (I_m 0 9).toInt ∧ n.toInt ≤ most.toInt) ∧ ((u) 0 9).toInt = 0 ∧ PS (u) ∧ (∀ j : Nat, (j : Int) < n.toInt → fxBm ((u) 6) j = fxBm (I_m 5) j) ∧ (u) 0 10 = n ∧ ((u) 0 17).toInt = 0 ∧ ((u) 0 16).toInt = -1 ∧ fxLM (u) 0) (¬ (0 ≤ n.toInt ∧ n.toInt ≤ (I_m 0 9).toInt ∧ n.toInt ≤ most.toInt) ∧ (u) = I_m) r) := by
  refine EffI.sz (cc := cX11_begins) (maxL := 4) (by decide) rfl (Nat.le_of_ble_eq_true rfl) (fun p e s m args below meth c A Q ls fx hK hP hD hA hS hl hret => ?_)
  have hx := fx.1
  have hb := fx.2.1
  have hml := fx.2.2.1
  have hown := fx.2.2.2.1
  have hts := fx.2.2.2.2
  have hl : lv_has ls 4 [(0, .ref (a_m 0)), (1, .int n), (2, .int most)] := hl
  have hP : va_P g.1 vwCl (wX11 g a_m I_m J_m) s.heap := hP
  have hf_27 := hts _ (uT _ _ u_176)
  have hf_31 := hts _ (uT _ _ u_177)
  have hf_38 := hts _ (uT _ _ u_179)
  have hf_122 := hts _ (uT _ _ u_345)
  have hf_128 := hts _ (uT _ _ u_512)
  have hf_131 := hts _ (uT _ _ u_513)
  have hf_169 := hts _ (uT _ _ u_507)
  have hf_172 := hts _ (uT _ _ u_514)
  have hi_X11 : ∀ w ∈ wsX110, w.before args s = true := fun w h => hts w (uT _ w (u_wsX110 w h))
  have lm1 : (-1 : Int32).toInt = -1 := by decide
  have lm0 : (0 : Int32).toInt = 0 := by decide
  have lm2 : (1 : Int32).toInt = 1 := by decide
  have hp0 := hM.tp
  refine lv_iload_n hx hb dX11_begins_0 rfl (lv_at hl 1 rfl) ?_
  refine q_if_lt (tgt := 17) hx hb dX11_begins_1 (by decide) rfl (fun k_1 => ?_) (fun k_1 => ?_)
  · refine lv_iconst (v := 0) hx hb dX11_begins_17 (by decide) ?_
    refine hret 18 ls (0 : Int32) _ _ I_m dX11_begins_18 (Or.inl rfl) hS hP hD ?_
    exact ⟨hM, (KK.rf I_m), Or.inr ⟨rfl, by omega, rfl⟩⟩
  · refine lv_iload_n hx hb dX11_begins_4 rfl (lv_at hl 1 rfl) ?_
    refine lv_aload_n hx hb dX11_begins_5 rfl (lv_at hl 0 rfl) ?_
    refine va_get (D := g.1) (ci := 11) (v := .int (I_m 0 9)) (C := RX11) (T := TX11) (N := 46) hx hb hi_X11 (fun _ h => h) hown hK.1 hP 0 rfl rfl 9 (by decide) hf_122 (fun _ h9 => h9) rfl dX11_begins_6 ?_
    refine q_icmp_gt (tgt := 17) hx hb dX11_begins_9 (by decide) rfl rfl (fun k_9 => ?_) (fun k_9 => ?_)
    · refine lv_iconst (v := 0) hx hb dX11_begins_17 (by decide) ?_
      refine hret 18 ls (0 : Int32) _ _ I_m dX11_begins_18 (Or.inl rfl) hS hP hD ?_
      exact ⟨hM, (KK.rf I_m), Or.inr ⟨rfl, by omega, rfl⟩⟩
    · refine lv_iload_n hx hb dX11_begins_12 rfl (lv_at hl 1 rfl) ?_
      refine lv_iload_n hx hb dX11_begins_13 rfl (lv_at hl 2 rfl) ?_
      refine q_icmp_le (tgt := 19) hx hb dX11_begins_14 (by decide) rfl rfl (fun k_14 => ?_) (fun k_14 => ?_)
      · refine lv_aload_n hx hb dX11_begins_19 rfl (lv_at hl 0 rfl) ?_
        refine lv_iload_n hx hb dX11_begins_20 rfl (lv_at hl 1 rfl) ?_
        refine va_put (D := g.1) (ci := 11) (v := .int n) (ty := .int) (C := RX11) (T := TX11) (N := 46) hx hb hi_X11 (fun _ h => h) tyX11 tyX11_ok nmX11 hown hK.1 hP hD hS 0 rfl rfl 10 (by decide) hf_128 (fun _ h9 => h9) rfl (by decide +kernel) rfl rfl (Nat.le_of_ble_eq_true rfl) dX11_begins_21 (fun H locs hP hD hS => ?_)
        have hP : va_P g.1 vwCl (wX11 g a_m (uF I_m 0 10 n) J_m) H := hP
        have hD : va_D A (wX11 g a_m (uF I_m 0 10 n) J_m) := hD
        have hc_21 : MI (uF I_m 0 10 n) := MI.uf hM (by decide)
        have hk_21 : KK [6] [9, 10, 11, 12, 13, 14, 16, 17, 18] I_m (uF I_m 0 10 n) := KK.uf (KK.rf I_m) (by decide)
        refine lv_iconst (v := 0) hx hb dX11_begins_24 (by decide) ?_
        refine lv_istore_n (lv' := [(3, .int (0 : Int32)), (0, .ref (a_m 0)), (1, .int n), (2, .int most)]) hx hb dX11_begins_25 rfl hl (by decide) rfl (fun ls hl => ?_)
        have L26 : ∀ (nn : Nat) (v3_26 : Int32) (I_m_26 : Nat → Nat → Int32), (hM_26 : MI I_m_26) → (hk_26 : KK [6] [9, 10, 11, 12, 13, 14, 16, 17, 18] I_m I_m_26) → (hv_26 : 0 ≤ v3_26.toInt ∧ v3_26.toInt ≤ n.toInt) → (hs_26 : I_m_26 0 10 = n) → (hcp_26 : ∀ j : Nat, (j : Int) < v3_26.toInt → fxBm (I_m_26 6) j = fxBm (I_m 5) j) → ((n.toInt + 1 - v3_26.toInt) < (nn : Int)) → ∀ (H : Heap) (locs : List Loc), va_P g.1 vwCl (wX11 g a_m I_m_26 J_m) H → va_D A (wX11 g a_m I_m_26 J_m) → va_S A s.heap H locs → ∀ ls : Array Slot, lv_has ls 4 [(3, .int v3_26), (0, .ref (a_m 0)), (1, .int n), (2, .int most)] → W p l e (rm 2) s m args below meth c H locs 0 0 Q (F0 m 26 ls []) := by
          intro n_26
          induction n_26 with
          | zero =>
            intro v3_26 I_m_26 hM_26 hk_26 hv_26 hs_26 hcp_26 hms_26 H locs hP hD hS ls hl
            exfalso; omega
          | succ n_26 ih_26 =>
            intro v3_26 I_m_26 hM_26 hk_26 hv_26 hs_26 hcp_26 hms_26 H locs hP hD hS ls hl
            have hr5 : I_m_26 5 = I_m 5 := hk_26.row 5 (by decide)
            refine lv_iload_n hx hb dX11_begins_26 rfl (lv_at hl 0 rfl) ?_
            refine lv_iload_n hx hb dX11_begins_27 rfl (lv_at hl 2 rfl) ?_
            refine q_icmp_ge (tgt := 49) hx hb dX11_begins_28 (by decide) rfl rfl (fun k_28 => ?_) (fun k_28 => ?_)
            · refine lv_aload_n hx hb dX11_begins_49 rfl (lv_at hl 1 rfl) ?_
              refine lv_iconst (v := 0) hx hb dX11_begins_50 (by decide) ?_
              refine va_put (D := g.1) (ci := 11) (v := .int (0 : Int32)) (ty := .int) (C := RX11) (T := TX11) (N := 46) hx hb hi_X11 (fun _ h => h) tyX11 tyX11_ok nmX11 hown hK.1 hP hD hS 0 rfl rfl 9 (by decide) hf_122 (fun _ h9 => h9) rfl (by decide +kernel) rfl rfl (Nat.le_of_ble_eq_true rfl) dX11_begins_51 (fun H locs hP hD hS => ?_)
              have hP : va_P g.1 vwCl (wX11 g a_m (uF I_m_26 0 9 (0 : Int32)) J_m) H := hP
              have hD : va_D A (wX11 g a_m (uF I_m_26 0 9 (0 : Int32)) J_m) := hD
              have hk_51 : KK [6] [9, 10, 11, 12, 13, 14, 16, 17, 18] I_m (uF I_m_26 0 9 (0 : Int32)) := KK.uf hk_26 (by decide)
              have hc_51 : MI (uF I_m_26 0 9 (0 : Int32)) := MI.tpd hM_26 (by omega)
              refine lv_aload_n hx hb dX11_begins_54 rfl (lv_at hl 1 rfl) ?_
              refine lv_iconst (v := 0) hx hb dX11_begins_55 (by decide) ?_
              refine va_put (D := g.1) (ci := 11) (v := .int (0 : Int32)) (ty := .int) (C := RX11) (T := TX11) (N := 46) hx hb hi_X11 (fun _ h => h) tyX11 tyX11_ok nmX11 hown hK.1 hP hD hS 0 rfl rfl 17 (by decide) hf_169 (fun _ h9 => h9) rfl (by decide +kernel) rfl rfl (Nat.le_of_ble_eq_true rfl) dX11_begins_56 (fun H locs hP hD hS => ?_)
              have hP : va_P g.1 vwCl (wX11 g a_m (uF (uF I_m_26 0 9 (0 : Int32)) 0 17 (0 : Int32)) J_m) H := hP
              have hD : va_D A (wX11 g a_m (uF (uF I_m_26 0 9 (0 : Int32)) 0 17 (0 : Int32)) J_m) := hD
              have hc_56 : MI (uF (uF I_m_26 0 9 (0 : Int32)) 0 17 (0 : Int32)) := MI.uf hc_51 (by decide)
              have hk_56 : KK [6] [9, 10, 11, 12, 13, 14, 16, 17, 18] I_m (uF (uF I_m_26 0 9 (0 : Int32)) 0 17 (0 : Int32)) := KK.uf hk_51 (by decide)
              refine lv_aload_n hx hb dX11_begins_59 rfl (lv_at hl 1 rfl) ?_
              refine lv_iconst (v := -1) hx hb dX11_begins_60 (by decide) ?_
              refine va_put (D := g.1) (ci := 11) (v := .int (-1 : Int32)) (ty := .int) (C := RX11) (T := TX11) (N := 46) hx hb hi_X11 (fun _ h => h) tyX11 tyX11_ok nmX11 hown hK.1 hP hD hS 0 rfl rfl 16 (by decide) hf_38 (fun _ h9 => h9) rfl (by decide +kernel) rfl rfl (Nat.le_of_ble_eq_true rfl) dX11_begins_61 (fun H locs hP hD hS => ?_)
              have hP : va_P g.1 vwCl (wX11 g a_m (uF (uF (uF I_m_26 0 9 (0 : Int32)) 0 17 (0 : Int32)) 0 16 (-1 : Int32)) J_m) H := hP
              have hD : va_D A (wX11 g a_m (uF (uF (uF I_m_26 0 9 (0 : Int32)) 0 17 (0 : Int32)) 0 16 (-1 : Int32)) J_m) := hD
              have hc_61 : MI (uF (uF (uF I_m_26 0 9 (0 : Int32)) 0 17 (0 : Int32)) 0 16 (-1 : Int32)) := MI.uf hc_56 (by decide)
              have hk_61 : KK [6] [9, 10, 11, 12, 13, 14, 16, 17, 18] I_m (uF (uF (uF I_m_26 0 9 (0 : Int32)) 0 17 (0 : Int32)) 0 16 (-1 : Int32)) := KK.uf hk_56 (by decide)
              refine lv_aload_n hx hb dX11_begins_64 rfl (lv_at hl 1 rfl) ?_
              refine lv_iconst (v := 0) hx hb dX11_begins_65 (by decide) ?_
              refine va_put (D := g.1) (ci := 11) (v := .int (0 : Int32)) (ty := .int) (C := RX11) (T := TX11) (N := 46) hx hb hi_X11 (fun _ h => h) tyX11 tyX11_ok nmX11 hown hK.1 hP hD hS 0 rfl rfl 13 (by decide) hf_131 (fun _ h9 => h9) rfl (by decide +kernel) rfl rfl (Nat.le_of_ble_eq_true rfl) dX11_begins_66 (fun H locs hP hD hS => ?_)
              have hP : va_P g.1 vwCl (wX11 g a_m (uF (uF (uF (uF I_m_26 0 9 (0 : Int32)) 0 17 (0 : Int32)) 0 16 (-1 : Int32)) 0 13 (0 : Int32)) J_m) H := hP
              have hD : va_D A (wX11 g a_m (uF (uF (uF (uF I_m_26 0 9 (0 : Int32)) 0 17 (0 : Int32)) 0 16 (-1 : Int32)) 0 13 (0 : Int32)) J_m) := hD
              have hc_66 : MI (uF (uF (uF (uF I_m_26 0 9 (0 : Int32)) 0 17 (0 : Int32)) 0 16 (-1 : Int32)) 0 13 (0 : Int32)) := MI.uf hc_61 (by decide)
              have hk_66 : KK [6] [9, 10, 11, 12, 13, 14, 16, 17, 18] I_m (uF (uF (uF (uF I_m_26 0 9 (0 : Int32)) 0 17 (0 : Int32)) 0 16 (-1 : Int32)) 0 13 (0 : Int32)) := KK.uf hk_61 (by decide)
              refine lv_aload_n hx hb dX11_begins_69 rfl (lv_at hl 1 rfl) ?_
              refine lv_iconst (v := 0) hx hb dX11_begins_70 (by decide) ?_
              refine va_put (D := g.1) (ci := 11) (v := .int (0 : Int32)) (ty := .int) (C := RX11) (T := TX11) (N := 46) hx hb hi_X11 (fun _ h => h) tyX11 tyX11_ok nmX11 hown hK.1 hP hD hS 0 rfl rfl 18 (by decide) hf_172 (fun _ h9 => h9) rfl (by decide +kernel) rfl rfl (Nat.le_of_ble_eq_true rfl) dX11_begins_71 (fun H locs hP hD hS => ?_)
              have hP : va_P g.1 vwCl (wX11 g a_m (uF (uF (uF (uF (uF I_m_26 0 9 (0 : Int32)) 0 17 (0 : Int32)) 0 16 (-1 : Int32)) 0 13 (0 : Int32)) 0 18 (0 : Int32)) J_m) H := hP
              have hD : va_D A (wX11 g a_m (uF (uF (uF (uF (uF I_m_26 0 9 (0 : Int32)) 0 17 (0 : Int32)) 0 16 (-1 : Int32)) 0 13 (0 : Int32)) 0 18 (0 : Int32)) J_m) := hD
              have hc_71 : MI (uF (uF (uF (uF (uF I_m_26 0 9 (0 : Int32)) 0 17 (0 : Int32)) 0 16 (-1 : Int32)) 0 13 (0 : Int32)) 0 18 (0 : Int32)) := MI.uf hc_66 (by decide)
              have hk_71 : KK [6] [9, 10, 11, 12, 13, 14, 16, 17, 18] I_m (uF (uF (uF (uF (uF I_m_26 0 9 (0 : Int32)) 0 17 (0 : Int32)) 0 16 (-1 : Int32)) 0 13 (0 : Int32)) 0 18 (0 : Int32)) := KK.uf hk_66 (by decide)
              refine lv_aload_n hx hb dX11_begins_74 rfl (lv_at hl 1 rfl) ?_
              refine EffV.cv (wr := ([])) (w' := fun u2 => wX11 g a_m u2 J_m) (As := []) (kX11_ahead l g a_m (uF (uF (uF (uF (uF I_m_26 0 9 (0 : Int32)) 0 17 (0 : Int32)) 0 16 (-1 : Int32)) 0 13 (0 : Int32)) 0 18 (0 : Int32)) J_m (show (0 ≤ ((I_m_26 0 10)).toInt ∧ ((I_m_26 0 10)).toInt ≤ 900) ∧ 0 ≤ ((0 : Int32)).toInt ∧ ((0 : Int32)).toInt ≤ ((I_m_26 0 10)).toInt from (by rw [hs_26]; omega))) fx (gUV (uT _) u_515 u_516 u_517 u_5 u_518) rfl hdX11_ahead ⟨Nat.le_of_ble_eq_true rfl, Nat.le_of_ble_eq_true rfl⟩ hK hP hD hS hA [0, 1, 2, 3, 4, 5, 6, 7, 8, 9, 10, 11, 12, 13, 14, 15, 16, 17, 18, 19, 20, 21, 22] [] [0, 1, 2, 3, 4, 5, 6, 7, 8, 9, 10, 11, 12, 13, 14, 15, 16, 17, 18, 19, 20, 21, 22] rfl rfl rfl rfl (by decide) rfl (fun _ => rfl) rfl rfl rfl rfl hl.1 (Nat.le_of_ble_eq_true rfl) dX11_begins_75 (fun u2 H locs p_r1 hP hD hS => ?_)
              have hP : va_P g.1 vwCl (wX11 g a_m u2 J_m) H := hP
              have hD : va_D A (wX11 g a_m u2 J_m) := hD
              have p_r1 : KK [] [11, 12, 13, 14] (uF (uF (uF (uF (uF I_m_26 0 9 (0 : Int32)) 0 17 (0 : Int32)) 0 16 (-1 : Int32)) 0 13 (0 : Int32)) 0 18 (0 : Int32)) u2 ∧ AH (uF (uF (uF (uF (uF I_m_26 0 9 (0 : Int32)) 0 17 (0 : Int32)) 0 16 (-1 : Int32)) 0 13 (0 : Int32)) 0 18 (0 : Int32)) u2 ∧ fxLM u2 (0 : Int32).toInt := p_r1
              refine lv_iconst (v := 1) hx hb dX11_begins_78 (by decide) ?_
              have lr : (1 : Int32).toInt = 1 := by decide
              refine hret 79 ls (1 : Int32) _ _ u2 dX11_begins_79 (Or.inr rfl) hS hP hD ?_
              exact ⟨(MI.kk hc_71 p_r1.1 (by decide) (by decide)), (KK.tr hk_71 p_r1.1 (by decide) (by decide)), Or.inl ⟨rfl, by omega, (by rw [p_r1.1.num 9 (by decide)]; exact lm0), p_r1.2.1.1, fun j hj => by rw [p_r1.1.row 6 (by decide)]; exact hcp_26 j (by omega), (p_r1.1.num 10 (by decide)).trans hs_26, by rw [p_r1.1.num 17 (by decide)]; exact lm0, by rw [p_r1.1.num 16 (by decide)]; exact lm1, fxLM.at p_r1.2.2 lm0⟩⟩
            · refine lv_aload_n hx hb dX11_begins_31 rfl (lv_at hl 1 rfl) ?_
              refine va_get (D := g.1) (ci := 11) (v := .ref (a_m 6)) (C := RX11) (T := TX11) (N := 46) hx hb hi_X11 (fun _ h => h) hown hK.1 hP 0 rfl rfl 8 (by decide) hf_31 (fun _ h9 => h9) rfl dX11_begins_32 ?_
              refine lv_iload_n hx hb dX11_begins_35 rfl (lv_at hl 0 rfl) ?_
              refine lv_aload_n hx hb dX11_begins_36 rfl (lv_at hl 1 rfl) ?_
              refine va_get (D := g.1) (ci := 11) (v := .ref (a_m 5)) (C := RX11) (T := TX11) (N := 46) hx hb hi_X11 (fun _ h => h) hown hK.1 hP 0 rfl rfl 7 (by decide) hf_27 (fun _ h9 => h9) rfl dX11_begins_37 ?_
              refine lv_iload_n hx hb dX11_begins_40 rfl (lv_at hl 0 rfl) ?_
              have n_41 : vp_in v3_26 900 := (t_in (by omega))
              refine va_bald hx hb hK.1 hP 5 2 rfl rfl n_41 dX11_begins_41 ?_
              refine q_nm (fun x3 e_x3 => ?_)
              have e_x3 : x3 = (I_m_26 5) v3_26.toNatClampNeg := e_x3
              have g_x3 : x3.toInt = ((I_m_26 5) v3_26.toNatClampNeg).toInt := congrArg _ e_x3
              have n_42 : vp_in v3_26 900 := (t_in (by omega))
              obtain ⟨f4, e_f4⟩ : ∃ z, z = upd (I_m_26 6) v3_26.toNatClampNeg x3.toInt8.toInt32 := ⟨_, rfl⟩
              refine va_bast hx hb hK.1 hP hD hS 6 2 rfl rfl n_42 dX11_begins_42 (fun H locs hP hD hS => ?_)
              have hP : va_P g.1 vwCl (wX11 g a_m (uR I_m_26 6 f4) J_m) H := by rw [e_f4]; exact hP
              have hD : va_D A (wX11 g a_m (uR I_m_26 6 f4) J_m) := by rw [e_f4]; exact hD
              have hc_42 : MI (uR I_m_26 6 f4) := MI.ur hM_26 (by decide)
              have hk_42 : KK [6] [9, 10, 11, 12, 13, 14, 16, 17, 18] I_m (uR I_m_26 6 f4) := KK.ur hk_26 (by decide) (by decide)
              refine r_iinc (lv' := fun i5 => [(3, .int i5), (0, .ref (a_m 0)), (1, .int n), (2, .int most)]) hx hb dX11_begins_43 hl (k := 0) rfl (by decide) rfl (by decide) (fun _ => rfl) (fun i5 e_i5 t_i5 ls hl => ?_)
              try have t_i5 := t_i5 (by omega)
              refine lv_goto (tgt := 26) hx hb dX11_begins_46 (by decide) ?_
              exact ih_26 i5 (uR I_m_26 6 f4) hc_42 hk_42 (by omega) hs_26 (fx_cpb (T := I_m 5) hcp_26 (uR_eq.trans e_f4) (by rw [← hr5]; exact e_x3) rfl (by omega) (by omega)) (by omega) _ _ hP hD hS ls hl
        exact L26 ((n.toInt + 1 - (0 : Int32).toInt) + 1).toNat (0 : Int32) (uF I_m 0 10 n) hc_21 hk_21 (by omega) rfl (fun j q => by rw [lm0] at q; omega) (by omega) _ _ hP hD hS ls hl
      · refine lv_iconst (v := 0) hx hb dX11_begins_17 (by decide) ?_
        refine hret 18 ls (0 : Int32) _ _ I_m dX11_begins_18 (Or.inl rfl) hS hP hD ?_
        exact ⟨hM, (KK.rf I_m), Or.inr ⟨rfl, by omega, rfl⟩⟩

set_option maxHeartbeats 4000000 in
set_option maxRecDepth 100000 in
theorem kX11_press (l : Launch) (g : gG) (ad av : Nat → Nat) (a_m : Nat → Nat) (I_m : Nat → Nat → Int32) (J_m : Nat → Nat → Int64) (n : Int32) (hM : MI I_m) : EffIS l g ad av yX11_press wsX11_press 8 [.ref (a_m 0), .int n] (wX11 g a_m I_m J_m) (fun (u : (Nat → Nat → Int32)) => wX11 g a_m u J_m) (fun r (u : (Nat → Nat → Int32)) => MI (u) ∧ KK [1, 6] [1, 9, 10, 11, 12, 13, 14, 15, 16, 17, 18, 19] I_m (u) ∧ ((¬ (0 ≤ n.toInt ∧ n.toInt ≤ (I_m 0 9).toInt) ∧ (u) 0 9 = I_m 0 9) ∨ ((0 ≤ n.toInt ∧ n.toInt ≤ (I_m 0 9).toInt) ∧ ((u) 0 9).toInt = 0)) ∧ ((0 ≤ n.toInt ∧ n.toInt ≤ (I_m 0 9).toInt) → ∃ (c : Int × fxS) (pl : Int), fxRe (fxBm (I_m 5)) n.toInt (0, fxS0) c ∧ fxVd (fxBm (I_m 5)) n.toInt c ((u) 0 15).toInt pl ∧ ((r = (u) 1 0 ∧ ((u) 0 15).toInt = 0 ∧ c.2.2.2.2.1 = fxTM ((u) 1) 0 ∧ ((u) 1 6).toInt = 0 ∧ ∀ j : Nat, 3300 ≤ j → j < 13200 → (u) 1 j = I_m 1 j) ∨ (r = -1 ∧ ((u) 0 15).toInt ≠ 0 ∧ ((u) 0 16).toInt = pl ∧ ∀ j : Nat, j < 13200 → (u) 1 j = I_m 1 j))) ∧ (¬ (0 ≤ n.toInt ∧ n.toInt ≤ (I_m 0 9).toInt) → r = -1 ∧ (u) 0 15 = I_m 0 15 ∧ (u) 0 16 = I_m 0 16 ∧ (u) 1 = I_m 1) ∧ ((0 ≤ n.toInt ∧ n.toInt ≤ (I_m 0 9).toInt) → ((u) 0 15).toInt = 0 → ((u) 0 16).toInt = -1)) := by
  refine EffIS.st (cc := cX11_press) (maxL := 4) (by decide) rfl (Nat.le_of_ble_eq_true rfl) (fun p e s m args below meth c A Q ls fx hK hP hD hA hS hJ hl hret => ?_)
  have hx := fx.1
  have hb := fx.2.1
  have hml := fx.2.2.1
  have hown := fx.2.2.2.1
  have hts := fx.2.2.2.2
  have hl : lv_has ls 4 [(0, .ref (a_m 0)), (1, .int n)] := hl
  have hP : va_P g.1 vwCl (wX11 g a_m I_m J_m) s.heap := hP
  have hf_7 := hts _ (uT _ _ u_170)
  have hf_144 := hts _ (uT _ _ u_506)
  have hf_169 := hts _ (uT _ _ u_507)
  have hf_214 := hts _ (uT _ _ u_505)
  have hi_X11 : ∀ w ∈ wsX110, w.before args s = true := fun w h => hts w (uT _ w (u_wsX110 w h))
  have lm1 : (-1 : Int32).toInt = -1 := by decide
  have lm0 : (0 : Int32).toInt = 0 := by decide
  have lm2 : (1 : Int32).toInt = 1 := by decide
  have hp0 := hM.tp
  have lq900 : (900 : Int32).toInt = 900 := by decide
  have lq13200 : (13200 : Int32).toInt = 13200 := by decide
  have lqn : (13200 : Int32).toInt.toNat = 13200 := by decide
  have lq3300 : (3300 : Int32).toInt = 3300 := by decide
  refine lv_aload_n hx hb dX11_press_0 rfl (lv_at hl 0 rfl) ?_
  refine lv_iload_n hx hb dX11_press_1 rfl (lv_at hl 1 rfl) ?_
  refine lv_sipush (v := 900) hx hb dX11_press_2 (by decide) ?_
  refine EffI.cv (wr := ([])) (w' := fun u2 => wX11 g a_m u2 J_m) (As := [.int n, .int (900 : Int32)]) (kX11_begins l g a_m I_m J_m n (900 : Int32) hM) fx (gUV (uT _) u_508 u_509 u_510 u_5 u_511) rfl hdX11_begins ⟨Nat.le_of_ble_eq_true rfl, Nat.le_of_ble_eq_true rfl⟩ hK hP hD hS hA [0, 1, 2, 3, 4, 5, 6, 7, 8, 9, 10, 11, 12, 13, 14, 15, 16, 17, 18, 19, 20, 21, 22] [] [0, 1, 2, 3, 4, 5, 6, 7, 8, 9, 10, 11, 12, 13, 14, 15, 16, 17, 18, 19, 20, 21, 22] rfl rfl rfl rfl (by decide) rfl (fun _ => rfl) rfl rfl rfl rfl hl.1 (Nat.le_of_ble_eq_true rfl) dX11_press_5 (fun r1 u2 H locs p_r1 hP hD hS => ?_)
  have hP : va_P g.1 vwCl (wX11 g a_m u2 J_m) H := hP
  have hD : va_D A (wX11 g a_m u2 J_m) := hD
  have hb5 := p_r1.1
  have hrow5 : u2 1 = I_m 1 := p_r1.2.1.row 1 (by decide)
  refine q_if_ne (tgt := 17) hx hb dX11_press_8 (by decide) rfl (fun b_8 k_8 => ?_) (fun b_8 k_8 => ?_)
  · have q_8 := bP.t p_r1.2.2 b_8
    refine lv_aload_n hx hb dX11_press_17 rfl (lv_at hl 0 rfl) ?_
    refine lv_sipush (v := 13200) hx hb dX11_press_18 (by decide) ?_
    refine EffV.cv (wr := ([])) (w' := fun u4 => wX11 g a_m u4 J_m) (As := [.int (13200 : Int32)]) (kX11_empties l g a_m u2 J_m (13200 : Int32) (by omega)) fx (gUV (uT _) u_198 u_199 u_200 u_5 u_201) rfl hdX11_empties ⟨Nat.le_of_ble_eq_true rfl, Nat.le_of_ble_eq_true rfl⟩ hK hP hD hS hA [0, 1, 2, 3, 4, 5, 6, 7, 8, 9, 10, 11, 12, 13, 14, 15, 16, 17, 18, 19, 20, 21, 22] [] [0, 1, 2, 3, 4, 5, 6, 7, 8, 9, 10, 11, 12, 13, 14, 15, 16, 17, 18, 19, 20, 21, 22] rfl rfl rfl rfl (by decide) rfl (fun _ => rfl) rfl rfl rfl rfl hl.1 (Nat.le_of_ble_eq_true rfl) dX11_press_21 (fun u4 H locs p_r3 hP hD hS => ?_)
    have hP : va_P g.1 vwCl (wX11 g a_m u4 J_m) H := hP
    have hD : va_D A (wX11 g a_m u4 J_m) := hD
    have hM21 : MI u4 := hb5.em p_r3.1 (by decide) (by have q := p_r3.2.2.2.1; rw [lqn] at q; exact fun j hj => q j (by omega))
    have hN21 : NS u4 := (by have q := p_r3.2; rw [lqn] at q; exact ⟨q.1, q.2.1⟩)
    have hS21 : PS u4 := q_8.2.2.1.of (p_r3.1.num 10 (by decide)) (p_r3.1.num 11 (by decide)) (p_r3.1.num 12 (by decide)) (p_r3.1.num 13 (by decide))
    have ht21 : (u4 0 9).toInt = 0 := by rw [p_r3.1.num 9 (by decide)]; exact q_8.2.1
    have hB21 : (∀ j : Nat, (j : Int) < n.toInt → fxBm (u4 6) j = fxBm (I_m 5) j) ∧ (u4 0 10).toInt = n.toInt := ⟨fun j hj => by rw [p_r3.1.row 6 (by decide)]; exact q_8.2.2.2.1 j hj, congrArg Int32.toInt ((p_r3.1.num 10 (by decide)).trans q_8.2.2.2.2.1)⟩
    have hW21 : (∀ j : Nat, j < 13200 → u4 1 j = I_m 1 j) ∧ (u4 1 13206).toInt = 0 := ⟨fun j hj => by rw [p_r3.2.2.2.1 j (by rw [lqn]; omega), hrow5], by have w := p_r3.2.2.2.2.2; rw [lqn] at w; exact w⟩
    have h1721 : (u4 0 17).toInt = 0 := by rw [p_r3.1.num 17 (by decide)]; exact q_8.2.2.2.2.2.1
    have hL21 : fxLM u4 0 := q_8.2.2.2.2.2.2.2.kk p_r3.1 (by decide) (by decide)
    have hT21 : fxTM (u4 1) 13200 = fxT0 := by have w := p_r3.2.2.2.2.1; rw [lqn] at w; exact w
    have hj21 : JF u4 := fun _ => by rw [p_r3.1.num 16 (by decide)]; exact q_8.2.2.2.2.2.2.1
    refine lv_aload_n hx hb dX11_press_24 rfl (lv_at hl 0 rfl) ?_
    refine lv_iconst (v := 0) hx hb dX11_press_25 (by decide) ?_
    refine va_put (D := g.1) (ci := 11) (v := .int (0 : Int32)) (ty := .int) (C := RX11) (T := TX11) (N := 46) hx hb hi_X11 (fun _ h => h) tyX11 tyX11_ok nmX11 hown hK.1 hP hD hS 0 rfl rfl 19 (by decide) hf_214 (fun _ h9 => h9) rfl (by decide +kernel) rfl rfl (Nat.le_of_ble_eq_true rfl) dX11_press_26 (fun H locs hP hD hS => ?_)
    have hP : va_P g.1 vwCl (wX11 g a_m (uF u4 0 19 (0 : Int32)) J_m) H := hP
    have hD : va_D A (wX11 g a_m (uF u4 0 19 (0 : Int32)) J_m) := hD
    have hk_26 : KK [1, 6] [1, 9, 10, 11, 12, 13, 14, 15, 16, 17, 18, 19] I_m (uF u4 0 19 (0 : Int32)) := KK.uf (KK.tr (KK.tr (KK.rf I_m) p_r1.2.1 (by decide) (by decide)) p_r3.1 (by decide) (by decide)) (by decide)
    have hc_26 : MI (uF u4 0 19 (0 : Int32)) := hM21.uf (by decide)
    refine lv_iconst (v := 1) hx hb dX11_press_29 (by decide) ?_
    refine lv_istore_n (lv' := [(2, .int (1 : Int32)), (0, .ref (a_m 0)), (1, .int n)]) hx hb dX11_press_30 rfl hl (by decide) rfl (fun ls hl => ?_)
    have L31 : ∀ (nn : Nat) (v2_31 : Int32) (I_m_31 : Nat → Nat → Int32), (hM_31 : MI I_m_31) → (hk_31 : KK [1, 6] [1, 9, 10, 11, 12, 13, 14, 15, 16, 17, 18, 19] I_m I_m_31) → (hN_31 : NS I_m_31) → (hs_31 : PS I_m_31) → (ht_31 : (I_m_31 0 9).toInt = 0) → (hz_31 : 0 ≤ v2_31.toInt ∧ v2_31.toInt ≤ 1) → (hB_31 : (∀ j : Nat, (j : Int) < n.toInt → fxBm (I_m_31 6) j = fxBm (I_m 5) j) ∧ (I_m_31 0 10).toInt = n.toInt) → (hW_31 : (∀ j : Nat, j < 13200 → I_m_31 1 j = I_m 1 j) ∧ (I_m_31 1 13206).toInt = 0) → (hg_31 : v2_31.toInt = 1 → ((I_m_31 0 17).toInt = 0 ∧ ∃ p : Int, fxLM I_m_31 p ∧ fxRe (fxBm (I_m 5)) n.toInt (0, fxS0) (p, fxS0M I_m_31))) → (hf_31 : v2_31.toInt = 0 → ((I_m_31 0 17).toInt ≠ 0 ∧ ∃ c : Int × fxS, fxRe (fxBm (I_m 5)) n.toInt (0, fxS0) c ∧ fxVd (fxBm (I_m 5)) n.toInt c (I_m_31 0 17).toInt (I_m_31 0 16).toInt)) → (hj_31 : JF I_m_31) → ((2 * (((I_m_31 0 10)).toInt - ((I_m_31 0 13)).toInt) + min ((I_m_31 0 11)).toInt 1 + v2_31.toInt) < (nn : Int)) → ∀ (H : Heap) (locs : List Loc), va_P g.1 vwCl (wX11 g a_m I_m_31 J_m) H → va_D A (wX11 g a_m I_m_31 J_m) → va_S A s.heap H locs → ∀ ls : Array Slot, lv_has ls 4 [(2, .int v2_31), (0, .ref (a_m 0)), (1, .int n)] → W p l e (rm 8) s m args below meth c H locs 0 0 Q (F0 m 31 ls []) := by
      intro n_31
      induction n_31 with
      | zero =>
        intro v2_31 I_m_31 hM_31 hk_31 hN_31 hs_31 ht_31 hz_31 hB_31 hW_31 hg_31 hf_31 hj_31 hms_31 H locs hP hD hS ls hl
        have hpt31 := hs_31.1.2; have hpw31 := hs_31.2.2.1; exfalso; omega
      | succ n_31 ih_31 =>
        intro v2_31 I_m_31 hM_31 hk_31 hN_31 hs_31 ht_31 hz_31 hB_31 hW_31 hg_31 hf_31 hj_31 hms_31 H locs hP hD hS ls hl
        have hps31 := hs_31.1.1
        have hpt31 := hs_31.1.2
        have hpu31 := hs_31.2.1
        have hpv31 := hs_31.2.2.2
        have hpw31 := hs_31.2.2.1
        refine lv_iload_n hx hb dX11_press_31 rfl (lv_at hl 0 rfl) ?_
        refine q_if_eq (tgt := 50) hx hb dX11_press_32 (by decide) rfl (fun b_32 k_32 => ?_) (fun b_32 k_32 => ?_)
        · have hbad := hf_31 (by omega)
          refine lv_aload_n hx hb dX11_press_50 rfl (lv_at hl 1 rfl) ?_
          refine va_get (D := g.1) (ci := 11) (v := .int (I_m_31 0 17)) (C := RX11) (T := TX11) (N := 46) hx hb hi_X11 (fun _ h => h) hown hK.1 hP 0 rfl rfl 17 (by decide) hf_169 (fun _ h9 => h9) rfl dX11_press_51 ?_
          refine q_if_ne (tgt := 88) hx hb dX11_press_54 (by decide) rfl (fun b_54 k_54 => ?_) (fun b_54 k_54 => ?_)
          · have hM59 := hM_31
            have ht59 := ht_31
            refine lv_aload_n hx hb dX11_press_88 rfl (lv_at hl 1 rfl) ?_
            refine lv_aload_n hx hb dX11_press_89 rfl (lv_at hl 1 rfl) ?_
            refine va_get (D := g.1) (ci := 11) (v := .ref (a_m 1)) (C := RX11) (T := TX11) (N := 46) hx hb hi_X11 (fun _ h => h) hown hK.1 hP 0 rfl rfl 0 (by decide) hf_7 (fun _ h9 => h9) rfl dX11_press_90 ?_
            refine lv_iconst (v := 0) hx hb dX11_press_93 (by decide) ?_
            have n_94 : vp_in (0 : Int32) 19800 := (t_in (by decide))
            refine va_iald hx hb hK.1 hP 1 0 rfl rfl n_94 dX11_press_94 ?_
            refine q_nm (fun x5 e_x5 => ?_)
            have e_x5 : x5 = (I_m_31 1) 0 := e_x5
            have g_x5 : x5.toInt = ((I_m_31 1) 0).toInt := congrArg _ e_x5
            have f_x5 := MI.many hM_31 e_x5
            refine EffI.cv (wr := ([])) (w' := fun u7 => wX11 g a_m u7 J_m) (As := [.int x5]) (kX11_taken l g a_m I_m_31 J_m x5) fx (gUV (uT _) u_581 u_582 u_583 u_5 u_584) rfl hdX11_taken ⟨Nat.le_of_ble_eq_true rfl, Nat.le_of_ble_eq_true rfl⟩ hK hP hD hS hA [0, 1, 2, 3, 4, 5, 6, 7, 8, 9, 10, 11, 12, 13, 14, 15, 16, 17, 18, 19, 20, 21, 22] [] [0, 1, 2, 3, 4, 5, 6, 7, 8, 9, 10, 11, 12, 13, 14, 15, 16, 17, 18, 19, 20, 21, 22] rfl rfl rfl rfl (by decide) rfl (fun _ => rfl) rfl rfl rfl rfl hl.1 (Nat.le_of_ble_eq_true rfl) dX11_press_95 (fun r6 u7 H locs p_r6 hP hD hS => ?_)
            have hP : va_P g.1 vwCl (wX11 g a_m u7 J_m) H := hP
            have hD : va_D A (wX11 g a_m u7 J_m) := hD
            refine hret 98 ls r6 _ _ u7 dX11_press_98 hS hP hD ?_
            exact (by first | (have hb9 := hbad; obtain ⟨hn9, c9, g9, v9⟩ := hb9; exact ⟨(hM59.kk p_r6.1 (by decide) (by decide)), (KK.tr hk_31 p_r6.1 (by decide) (by decide)), Or.inr ⟨by omega, by rw [p_r6.1.num 9 (by decide)]; exact ht59⟩, fun _ => ⟨c9, _, g9, (by rw [p_r6.2.1]; exact v9), Or.inr ⟨p_r6.2.2.2 (by have w := fxVd.pos v9; omega), by rw [p_r6.2.1]; exact hn9, congrArg Int32.toInt (p_r6.1.num 16 (by decide)), fun j hj => by rw [p_r6.1.row 1 (by decide)]; exact hW_31.1 j hj⟩⟩, fun q => absurd q (by omega), fun _ z => absurd z (by rw [p_r6.2.1]; exact hn9)⟩) | (obtain ⟨hn9, c9, g9, v9, t9⟩ := hgood; have hx17 : (I_m_31 0 17).toInt = (I_m_31 0 17).toInt := congrArg Int32.toInt (hx_59.num 17 (by decide)); exact ⟨(hM59.kk p_r6.1 (by decide) (by decide)), (KK.tr hk_31 p_r6.1 (by decide) (by decide)), Or.inr ⟨by omega, by rw [p_r6.1.num 9 (by decide)]; exact ht59⟩, fun _ => ⟨c9, _, g9, (by rw [p_r6.2.1, hx17, hn9]; exact v9), Or.inl ⟨(p_r6.2.2.1 (by omega)).trans (by rw [p_r6.1.row 1 (by decide)]; exact e_x5), by rw [p_r6.2.1, hx17]; exact hn9, t9.trans (by rw [p_r6.1.row 1 (by decide)]; exact (fxTM.cp hN_31.1 (fun j hj => by rw [hc_59 j, if_pos (by omega)])).symm), by rw [p_r6.1.row 1 (by decide), hc_59 6, if_pos (by omega)]; exact hW_31.2, fun j h1 h2 => by rw [p_r6.1.row 1 (by decide), hc_59 j, if_neg (by omega)]; exact hW_31.1 j h2⟩⟩, fun q => absurd q (by omega), fun _ _ => (by rw [p_r6.1.num 16 (by decide), show (I_m_31 0 16) = _ from hx_59.num 16 (by decide)]; exact hj_31 hn9)⟩) | (exfalso; first | (obtain ⟨hn9, _⟩ := hgood; omega) | (obtain ⟨hn9, _⟩ := hbad; omega)))
          · refine lv_iconst (v := 0) hx hb dX11_press_57 (by decide) ?_
            refine lv_istore_n (lv' := [(3, .int (0 : Int32)), (2, .int v2_31), (0, .ref (a_m 0)), (1, .int n)]) hx hb dX11_press_58 rfl hl (by decide) rfl (fun ls hl => ?_)
            have L59 : ∀ (nn : Nat) (v3_59 : Int32) (I_m_59 : Nat → Nat → Int32), (hk_59 : KK [1, 6] [1, 9, 10, 11, 12, 13, 14, 15, 16, 17, 18, 19] I_m I_m_59) → (hx_59 : KK [1] [] I_m_31 I_m_59) → (hv_59 : 0 ≤ v3_59.toInt ∧ v3_59.toInt ≤ 3300) → (hc_59 : ∀ j : Nat, I_m_59 1 j = if (j : Int) < v3_59.toInt then I_m_31 1 (13200 + j) else I_m_31 1 j) → ((3301 - v3_59.toInt) < (nn : Int)) → ∀ (H : Heap) (locs : List Loc), va_P g.1 vwCl (wX11 g a_m I_m_59 J_m) H → va_D A (wX11 g a_m I_m_59 J_m) → va_S A s.heap H locs → ∀ ls : Array Slot, lv_has ls 4 [(3, .int v3_59), (2, .int v2_31), (0, .ref (a_m 0)), (1, .int n)] → W p l e (rm 8) s m args below meth c H locs 0 0 Q (F0 m 59 ls []) := by
              intro n_59
              induction n_59 with
              | zero =>
                intro v3_59 I_m_59 hk_59 hx_59 hv_59 hc_59 hms_59 H locs hP hD hS ls hl
                exfalso; omega
              | succ n_59 ih_59 =>
                intro v3_59 I_m_59 hk_59 hx_59 hv_59 hc_59 hms_59 H locs hP hD hS ls hl
                refine lv_iload_n hx hb dX11_press_59 rfl (lv_at hl 0 rfl) ?_
                refine lv_sipush (v := 3300) hx hb dX11_press_60 (by decide) ?_
                refine q_icmp_ge (tgt := 88) hx hb dX11_press_63 (by decide) rfl (by decide : (3300 : Int32).toInt = 3300) (fun k_63 => ?_) (fun k_63 => ?_)
                · have hM59 : MI I_m_59 := MI.cp ⟨hM_31, hN_31⟩ hx_59 (by decide) (fun j hj => by rw [hc_59 j, if_pos (by omega)]) (fun j hj => by rw [hc_59 j, if_neg (by omega)])
                  have ht59 : (I_m_59 0 9).toInt = 0 := by rw [hx_59.num 9 (by decide)]; exact ht_31
                  refine lv_aload_n hx hb dX11_press_88 rfl (lv_at hl 2 rfl) ?_
                  refine lv_aload_n hx hb dX11_press_89 rfl (lv_at hl 2 rfl) ?_
                  refine va_get (D := g.1) (ci := 11) (v := .ref (a_m 1)) (C := RX11) (T := TX11) (N := 46) hx hb hi_X11 (fun _ h => h) hown hK.1 hP 0 rfl rfl 0 (by decide) hf_7 (fun _ h9 => h9) rfl dX11_press_90 ?_
                  refine lv_iconst (v := 0) hx hb dX11_press_93 (by decide) ?_
                  have n_94 : vp_in (0 : Int32) 19800 := (t_in (by decide))
                  refine va_iald hx hb hK.1 hP 1 0 rfl rfl n_94 dX11_press_94 ?_
                  refine q_nm (fun x8 e_x8 => ?_)
                  have e_x8 : x8 = (I_m_59 1) 0 := e_x8
                  have g_x8 : x8.toInt = ((I_m_59 1) 0).toInt := congrArg _ e_x8
                  refine EffI.cv (wr := ([])) (w' := fun u10 => wX11 g a_m u10 J_m) (As := [.int x8]) (kX11_taken l g a_m I_m_59 J_m x8) fx (gUV (uT _) u_581 u_582 u_583 u_5 u_584) rfl hdX11_taken ⟨Nat.le_of_ble_eq_true rfl, Nat.le_of_ble_eq_true rfl⟩ hK hP hD hS hA [0, 1, 2, 3, 4, 5, 6, 7, 8, 9, 10, 11, 12, 13, 14, 15, 16, 17, 18, 19, 20, 21, 22] [] [0, 1, 2, 3, 4, 5, 6, 7, 8, 9, 10, 11, 12, 13, 14, 15, 16, 17, 18, 19, 20, 21, 22] rfl rfl rfl rfl (by decide) rfl (fun _ => rfl) rfl rfl rfl rfl hl.1 (Nat.le_of_ble_eq_true rfl) dX11_press_95 (fun r9 u10 H locs p_r9 hP hD hS => ?_)
                  have hP : va_P g.1 vwCl (wX11 g a_m u10 J_m) H := hP
                  have hD : va_D A (wX11 g a_m u10 J_m) := hD
                  refine hret 98 ls r9 _ _ u10 dX11_press_98 hS hP hD ?_
                  exact (by first | (have hb9 := hbad; obtain ⟨hn9, c9, g9, v9⟩ := hb9; exact ⟨(hM59.kk p_r9.1 (by decide) (by decide)), (KK.tr hk_59 p_r9.1 (by decide) (by decide)), Or.inr ⟨by omega, by rw [p_r9.1.num 9 (by decide)]; exact ht59⟩, fun _ => ⟨c9, _, g9, (by rw [p_r9.2.1]; exact v9), Or.inr ⟨p_r9.2.2.2 (by have w := fxVd.pos v9; omega), by rw [p_r9.2.1]; exact hn9, congrArg Int32.toInt (p_r9.1.num 16 (by decide)), fun j hj => by rw [p_r9.1.row 1 (by decide)]; exact hW_31.1 j hj⟩⟩, fun q => absurd q (by omega), fun _ z => absurd z (by rw [p_r9.2.1]; exact hn9)⟩) | (obtain ⟨hn9, c9, g9, v9, t9⟩ := hgood; have hx17 : (I_m_59 0 17).toInt = (I_m_31 0 17).toInt := congrArg Int32.toInt (hx_59.num 17 (by decide)); exact ⟨(hM59.kk p_r9.1 (by decide) (by decide)), (KK.tr hk_59 p_r9.1 (by decide) (by decide)), Or.inr ⟨by omega, by rw [p_r9.1.num 9 (by decide)]; exact ht59⟩, fun _ => ⟨c9, _, g9, (by rw [p_r9.2.1, hx17, hn9]; exact v9), Or.inl ⟨(p_r9.2.2.1 (by omega)).trans (by rw [p_r9.1.row 1 (by decide)]; exact e_x8), by rw [p_r9.2.1, hx17]; exact hn9, t9.trans (by rw [p_r9.1.row 1 (by decide)]; exact (fxTM.cp hN_31.1 (fun j hj => by rw [hc_59 j, if_pos (by omega)])).symm), by rw [p_r9.1.row 1 (by decide), hc_59 6, if_pos (by omega)]; exact hW_31.2, fun j h1 h2 => by rw [p_r9.1.row 1 (by decide), hc_59 j, if_neg (by omega)]; exact hW_31.1 j h2⟩⟩, fun q => absurd q (by omega), fun _ _ => (by rw [p_r9.1.num 16 (by decide), show (I_m_59 0 16) = _ from hx_59.num 16 (by decide)]; exact hj_31 hn9)⟩) | (exfalso; first | (obtain ⟨hn9, _⟩ := hgood; omega) | (obtain ⟨hn9, _⟩ := hbad; omega)))
                · refine lv_aload_n hx hb dX11_press_66 rfl (lv_at hl 2 rfl) ?_
                  refine va_get (D := g.1) (ci := 11) (v := .ref (a_m 1)) (C := RX11) (T := TX11) (N := 46) hx hb hi_X11 (fun _ h => h) hown hK.1 hP 0 rfl rfl 0 (by decide) hf_7 (fun _ h9 => h9) rfl dX11_press_67 ?_
                  refine lv_iload_n hx hb dX11_press_70 rfl (lv_at hl 0 rfl) ?_
                  refine lv_aload_n hx hb dX11_press_71 rfl (lv_at hl 2 rfl) ?_
                  refine va_get (D := g.1) (ci := 11) (v := .ref (a_m 1)) (C := RX11) (T := TX11) (N := 46) hx hb hi_X11 (fun _ h => h) hown hK.1 hP 0 rfl rfl 0 (by decide) hf_7 (fun _ h9 => h9) rfl dX11_press_72 ?_
                  refine lv_sipush (v := 13200) hx hb dX11_press_75 (by decide) ?_
                  refine lv_iload_n hx hb dX11_press_78 rfl (lv_at hl 0 rfl) ?_
                  refine r_iadd hx hb dX11_press_79 (by decide : (13200 : Int32).toInt = 13200) rfl (fun x11 e_x11 t_x11 => ?_)
                  try have t_x11 := t_x11 (by omega)
                  have n_80 : vp_in x11 19800 := (t_in (by omega))
                  refine va_iald hx hb hK.1 hP 1 0 rfl rfl n_80 dX11_press_80 ?_
                  refine q_nm (fun x12 e_x12 => ?_)
                  have e_x12 : x12 = (I_m_59 1) x11.toNatClampNeg := e_x12
                  have g_x12 : x12.toInt = ((I_m_59 1) x11.toNatClampNeg).toInt := congrArg _ e_x12
                  have n_81 : vp_in v3_59 19800 := (t_in (by omega))
                  obtain ⟨f13, e_f13⟩ : ∃ z, z = upd (I_m_59 1) v3_59.toNatClampNeg x12 := ⟨_, rfl⟩
                  refine va_iast hx hb hK.1 hP hD hS 1 0 rfl rfl n_81 dX11_press_81 (fun H locs hP hD hS => ?_)
                  have hP : va_P g.1 vwCl (wX11 g a_m (uR I_m_59 1 f13) J_m) H := by rw [e_f13]; exact hP
                  have hD : va_D A (wX11 g a_m (uR I_m_59 1 f13) J_m) := by rw [e_f13]; exact hD
                  have hk_81 : KK [1, 6] [1, 9, 10, 11, 12, 13, 14, 15, 16, 17, 18, 19] I_m (uR I_m_59 1 f13) := KK.ur hk_59 (by decide) (by decide)
                  refine r_iinc (lv' := fun i14 => [(3, .int i14), (2, .int v2_31), (0, .ref (a_m 0)), (1, .int n)]) hx hb dX11_press_82 hl (k := 0) rfl (by decide) rfl (by decide) (fun _ => rfl) (fun i14 e_i14 t_i14 ls hl => ?_)
                  try have t_i14 := t_i14 (by omega)
                  refine lv_goto (tgt := 59) hx hb dX11_press_85 (by decide) ?_
                  exact ih_59 i14 (uR I_m_59 1 f13) hk_81 (hx_59.ur (by decide) (by decide)) (by omega) (fun j => em_cp hc_59 e_f13 e_x12 (by omega) (by omega) (by omega) (by omega) j) (by omega) _ _ hP hD hS ls hl
            exact L59 ((3301 - (0 : Int32).toInt) + 1).toNat (0 : Int32) I_m_31 hk_31 (KK.rf _) (by omega) (fun j => by rw [if_neg (by rw [lm0]; omega)]) (by omega) _ _ hP hD hS ls hl
        · refine lv_aload_n hx hb dX11_press_35 rfl (lv_at hl 1 rfl) ?_
          refine va_get (D := g.1) (ci := 11) (v := .int (I_m_31 0 11)) (C := RX11) (T := TX11) (N := 46) hx hb hi_X11 (fun _ h => h) hown hK.1 hP 0 rfl rfl 11 (by decide) hf_144 (fun _ h9 => h9) rfl dX11_press_36 ?_
          refine q_if_eq (tgt := 50) hx hb dX11_press_39 (by decide) rfl (fun b_39 k_39 => ?_) (fun b_39 k_39 => ?_)
          · have hgood : (I_m_31 0 17).toInt = 0 ∧ ∃ c : Int × fxS, fxRe (fxBm (I_m 5)) n.toInt (0, fxS0) c ∧ fxVd (fxBm (I_m 5)) n.toInt c 0 (I_m_31 0 12).toInt ∧ c.2.2.2.2.1 = fxTM (I_m_31 1) 13200 := (by obtain ⟨h8, p8, l8, g8⟩ := hg_31 (by omega); exact ⟨h8, _, g8, fx_fin l8 (by omega) hB_31 g8.fwd, rfl⟩)
            refine lv_aload_n hx hb dX11_press_50 rfl (lv_at hl 1 rfl) ?_
            refine va_get (D := g.1) (ci := 11) (v := .int (I_m_31 0 17)) (C := RX11) (T := TX11) (N := 46) hx hb hi_X11 (fun _ h => h) hown hK.1 hP 0 rfl rfl 17 (by decide) hf_169 (fun _ h9 => h9) rfl dX11_press_51 ?_
            refine q_if_ne (tgt := 88) hx hb dX11_press_54 (by decide) rfl (fun b_54 k_54 => ?_) (fun b_54 k_54 => ?_)
            · have hM59 := hM_31
              have ht59 := ht_31
              refine lv_aload_n hx hb dX11_press_88 rfl (lv_at hl 1 rfl) ?_
              refine lv_aload_n hx hb dX11_press_89 rfl (lv_at hl 1 rfl) ?_
              refine va_get (D := g.1) (ci := 11) (v := .ref (a_m 1)) (C := RX11) (T := TX11) (N := 46) hx hb hi_X11 (fun _ h => h) hown hK.1 hP 0 rfl rfl 0 (by decide) hf_7 (fun _ h9 => h9) rfl dX11_press_90 ?_
              refine lv_iconst (v := 0) hx hb dX11_press_93 (by decide) ?_
              have n_94 : vp_in (0 : Int32) 19800 := (t_in (by decide))
              refine va_iald hx hb hK.1 hP 1 0 rfl rfl n_94 dX11_press_94 ?_
              refine q_nm (fun x15 e_x15 => ?_)
              have e_x15 : x15 = (I_m_31 1) 0 := e_x15
              have g_x15 : x15.toInt = ((I_m_31 1) 0).toInt := congrArg _ e_x15
              have f_x15 := MI.many hM_31 e_x15
              refine EffI.cv (wr := ([])) (w' := fun u17 => wX11 g a_m u17 J_m) (As := [.int x15]) (kX11_taken l g a_m I_m_31 J_m x15) fx (gUV (uT _) u_581 u_582 u_583 u_5 u_584) rfl hdX11_taken ⟨Nat.le_of_ble_eq_true rfl, Nat.le_of_ble_eq_true rfl⟩ hK hP hD hS hA [0, 1, 2, 3, 4, 5, 6, 7, 8, 9, 10, 11, 12, 13, 14, 15, 16, 17, 18, 19, 20, 21, 22] [] [0, 1, 2, 3, 4, 5, 6, 7, 8, 9, 10, 11, 12, 13, 14, 15, 16, 17, 18, 19, 20, 21, 22] rfl rfl rfl rfl (by decide) rfl (fun _ => rfl) rfl rfl rfl rfl hl.1 (Nat.le_of_ble_eq_true rfl) dX11_press_95 (fun r16 u17 H locs p_r16 hP hD hS => ?_)
              have hP : va_P g.1 vwCl (wX11 g a_m u17 J_m) H := hP
              have hD : va_D A (wX11 g a_m u17 J_m) := hD
              refine hret 98 ls r16 _ _ u17 dX11_press_98 hS hP hD ?_
              exact (by first | (have hb9 := hbad; obtain ⟨hn9, c9, g9, v9⟩ := hb9; exact ⟨(hM59.kk p_r16.1 (by decide) (by decide)), (KK.tr hk_31 p_r16.1 (by decide) (by decide)), Or.inr ⟨by omega, by rw [p_r16.1.num 9 (by decide)]; exact ht59⟩, fun _ => ⟨c9, _, g9, (by rw [p_r16.2.1]; exact v9), Or.inr ⟨p_r16.2.2.2 (by have w := fxVd.pos v9; omega), by rw [p_r16.2.1]; exact hn9, congrArg Int32.toInt (p_r16.1.num 16 (by decide)), fun j hj => by rw [p_r16.1.row 1 (by decide)]; exact hW_31.1 j hj⟩⟩, fun q => absurd q (by omega), fun _ z => absurd z (by rw [p_r16.2.1]; exact hn9)⟩) | (obtain ⟨hn9, c9, g9, v9, t9⟩ := hgood; have hx17 : (I_m_31 0 17).toInt = (I_m_31 0 17).toInt := congrArg Int32.toInt (hx_59.num 17 (by decide)); exact ⟨(hM59.kk p_r16.1 (by decide) (by decide)), (KK.tr hk_31 p_r16.1 (by decide) (by decide)), Or.inr ⟨by omega, by rw [p_r16.1.num 9 (by decide)]; exact ht59⟩, fun _ => ⟨c9, _, g9, (by rw [p_r16.2.1, hx17, hn9]; exact v9), Or.inl ⟨(p_r16.2.2.1 (by omega)).trans (by rw [p_r16.1.row 1 (by decide)]; exact e_x15), by rw [p_r16.2.1, hx17]; exact hn9, t9.trans (by rw [p_r16.1.row 1 (by decide)]; exact (fxTM.cp hN_31.1 (fun j hj => by rw [hc_59 j, if_pos (by omega)])).symm), by rw [p_r16.1.row 1 (by decide), hc_59 6, if_pos (by omega)]; exact hW_31.2, fun j h1 h2 => by rw [p_r16.1.row 1 (by decide), hc_59 j, if_neg (by omega)]; exact hW_31.1 j h2⟩⟩, fun q => absurd q (by omega), fun _ _ => (by rw [p_r16.1.num 16 (by decide), show (I_m_31 0 16) = _ from hx_59.num 16 (by decide)]; exact hj_31 hn9)⟩) | (exfalso; first | (obtain ⟨hn9, _⟩ := hgood; omega) | (obtain ⟨hn9, _⟩ := hbad; omega)))
            · refine lv_iconst (v := 0) hx hb dX11_press_57 (by decide) ?_
              refine lv_istore_n (lv' := [(3, .int (0 : Int32)), (2, .int v2_31), (0, .ref (a_m 0)), (1, .int n)]) hx hb dX11_press_58 rfl hl (by decide) rfl (fun ls hl => ?_)
              have L59 : ∀ (nn : Nat) (v3_59 : Int32) (I_m_59 : Nat → Nat → Int32), (hk_59 : KK [1, 6] [1, 9, 10, 11, 12, 13, 14, 15, 16, 17, 18, 19] I_m I_m_59) → (hx_59 : KK [1] [] I_m_31 I_m_59) → (hv_59 : 0 ≤ v3_59.toInt ∧ v3_59.toInt ≤ 3300) → (hc_59 : ∀ j : Nat, I_m_59 1 j = if (j : Int) < v3_59.toInt then I_m_31 1 (13200 + j) else I_m_31 1 j) → ((3301 - v3_59.toInt) < (nn : Int)) → ∀ (H : Heap) (locs : List Loc), va_P g.1 vwCl (wX11 g a_m I_m_59 J_m) H → va_D A (wX11 g a_m I_m_59 J_m) → va_S A s.heap H locs → ∀ ls : Array Slot, lv_has ls 4 [(3, .int v3_59), (2, .int v2_31), (0, .ref (a_m 0)), (1, .int n)] → W p l e (rm 8) s m args below meth c H locs 0 0 Q (F0 m 59 ls []) := by
                intro n_59
                induction n_59 with
                | zero =>
                  intro v3_59 I_m_59 hk_59 hx_59 hv_59 hc_59 hms_59 H locs hP hD hS ls hl
                  exfalso; omega
                | succ n_59 ih_59 =>
                  intro v3_59 I_m_59 hk_59 hx_59 hv_59 hc_59 hms_59 H locs hP hD hS ls hl
                  refine lv_iload_n hx hb dX11_press_59 rfl (lv_at hl 0 rfl) ?_
                  refine lv_sipush (v := 3300) hx hb dX11_press_60 (by decide) ?_
                  refine q_icmp_ge (tgt := 88) hx hb dX11_press_63 (by decide) rfl (by decide : (3300 : Int32).toInt = 3300) (fun k_63 => ?_) (fun k_63 => ?_)
                  · have hM59 : MI I_m_59 := MI.cp ⟨hM_31, hN_31⟩ hx_59 (by decide) (fun j hj => by rw [hc_59 j, if_pos (by omega)]) (fun j hj => by rw [hc_59 j, if_neg (by omega)])
                    have ht59 : (I_m_59 0 9).toInt = 0 := by rw [hx_59.num 9 (by decide)]; exact ht_31
                    refine lv_aload_n hx hb dX11_press_88 rfl (lv_at hl 2 rfl) ?_
                    refine lv_aload_n hx hb dX11_press_89 rfl (lv_at hl 2 rfl) ?_
                    refine va_get (D := g.1) (ci := 11) (v := .ref (a_m 1)) (C := RX11) (T := TX11) (N := 46) hx hb hi_X11 (fun _ h => h) hown hK.1 hP 0 rfl rfl 0 (by decide) hf_7 (fun _ h9 => h9) rfl dX11_press_90 ?_
                    refine lv_iconst (v := 0) hx hb dX11_press_93 (by decide) ?_
                    have n_94 : vp_in (0 : Int32) 19800 := (t_in (by decide))
                    refine va_iald hx hb hK.1 hP 1 0 rfl rfl n_94 dX11_press_94 ?_
                    refine q_nm (fun x18 e_x18 => ?_)
                    have e_x18 : x18 = (I_m_59 1) 0 := e_x18
                    have g_x18 : x18.toInt = ((I_m_59 1) 0).toInt := congrArg _ e_x18
                    refine EffI.cv (wr := ([])) (w' := fun u20 => wX11 g a_m u20 J_m) (As := [.int x18]) (kX11_taken l g a_m I_m_59 J_m x18) fx (gUV (uT _) u_581 u_582 u_583 u_5 u_584) rfl hdX11_taken ⟨Nat.le_of_ble_eq_true rfl, Nat.le_of_ble_eq_true rfl⟩ hK hP hD hS hA [0, 1, 2, 3, 4, 5, 6, 7, 8, 9, 10, 11, 12, 13, 14, 15, 16, 17, 18, 19, 20, 21, 22] [] [0, 1, 2, 3, 4, 5, 6, 7, 8, 9, 10, 11, 12, 13, 14, 15, 16, 17, 18, 19, 20, 21, 22] rfl rfl rfl rfl (by decide) rfl (fun _ => rfl) rfl rfl rfl rfl hl.1 (Nat.le_of_ble_eq_true rfl) dX11_press_95 (fun r19 u20 H locs p_r19 hP hD hS => ?_)
                    have hP : va_P g.1 vwCl (wX11 g a_m u20 J_m) H := hP
                    have hD : va_D A (wX11 g a_m u20 J_m) := hD
                    refine hret 98 ls r19 _ _ u20 dX11_press_98 hS hP hD ?_
                    exact (by first | (have hb9 := hbad; obtain ⟨hn9, c9, g9, v9⟩ := hb9; exact ⟨(hM59.kk p_r19.1 (by decide) (by decide)), (KK.tr hk_59 p_r19.1 (by decide) (by decide)), Or.inr ⟨by omega, by rw [p_r19.1.num 9 (by decide)]; exact ht59⟩, fun _ => ⟨c9, _, g9, (by rw [p_r19.2.1]; exact v9), Or.inr ⟨p_r19.2.2.2 (by have w := fxVd.pos v9; omega), by rw [p_r19.2.1]; exact hn9, congrArg Int32.toInt (p_r19.1.num 16 (by decide)), fun j hj => by rw [p_r19.1.row 1 (by decide)]; exact hW_31.1 j hj⟩⟩, fun q => absurd q (by omega), fun _ z => absurd z (by rw [p_r19.2.1]; exact hn9)⟩) | (obtain ⟨hn9, c9, g9, v9, t9⟩ := hgood; have hx17 : (I_m_59 0 17).toInt = (I_m_31 0 17).toInt := congrArg Int32.toInt (hx_59.num 17 (by decide)); exact ⟨(hM59.kk p_r19.1 (by decide) (by decide)), (KK.tr hk_59 p_r19.1 (by decide) (by decide)), Or.inr ⟨by omega, by rw [p_r19.1.num 9 (by decide)]; exact ht59⟩, fun _ => ⟨c9, _, g9, (by rw [p_r19.2.1, hx17, hn9]; exact v9), Or.inl ⟨(p_r19.2.2.1 (by omega)).trans (by rw [p_r19.1.row 1 (by decide)]; exact e_x18), by rw [p_r19.2.1, hx17]; exact hn9, t9.trans (by rw [p_r19.1.row 1 (by decide)]; exact (fxTM.cp hN_31.1 (fun j hj => by rw [hc_59 j, if_pos (by omega)])).symm), by rw [p_r19.1.row 1 (by decide), hc_59 6, if_pos (by omega)]; exact hW_31.2, fun j h1 h2 => by rw [p_r19.1.row 1 (by decide), hc_59 j, if_neg (by omega)]; exact hW_31.1 j h2⟩⟩, fun q => absurd q (by omega), fun _ _ => (by rw [p_r19.1.num 16 (by decide), show (I_m_59 0 16) = _ from hx_59.num 16 (by decide)]; exact hj_31 hn9)⟩) | (exfalso; first | (obtain ⟨hn9, _⟩ := hgood; omega) | (obtain ⟨hn9, _⟩ := hbad; omega)))
                  · refine lv_aload_n hx hb dX11_press_66 rfl (lv_at hl 2 rfl) ?_
                    refine va_get (D := g.1) (ci := 11) (v := .ref (a_m 1)) (C := RX11) (T := TX11) (N := 46) hx hb hi_X11 (fun _ h => h) hown hK.1 hP 0 rfl rfl 0 (by decide) hf_7 (fun _ h9 => h9) rfl dX11_press_67 ?_
                    refine lv_iload_n hx hb dX11_press_70 rfl (lv_at hl 0 rfl) ?_
                    refine lv_aload_n hx hb dX11_press_71 rfl (lv_at hl 2 rfl) ?_
                    refine va_get (D := g.1) (ci := 11) (v := .ref (a_m 1)) (C := RX11) (T := TX11) (N := 46) hx hb hi_X11 (fun _ h => h) hown hK.1 hP 0 rfl rfl 0 (by decide) hf_7 (fun _ h9 => h9) rfl dX11_press_72 ?_
                    refine lv_sipush (v := 13200) hx hb dX11_press_75 (by decide) ?_
                    refine lv_iload_n hx hb dX11_press_78 rfl (lv_at hl 0 rfl) ?_
                    refine r_iadd hx hb dX11_press_79 (by decide : (13200 : Int32).toInt = 13200) rfl (fun x21 e_x21 t_x21 => ?_)
                    try have t_x21 := t_x21 (by omega)
                    have n_80 : vp_in x21 19800 := (t_in (by omega))
                    refine va_iald hx hb hK.1 hP 1 0 rfl rfl n_80 dX11_press_80 ?_
                    refine q_nm (fun x22 e_x22 => ?_)
                    have e_x22 : x22 = (I_m_59 1) x21.toNatClampNeg := e_x22
                    have g_x22 : x22.toInt = ((I_m_59 1) x21.toNatClampNeg).toInt := congrArg _ e_x22
                    have n_81 : vp_in v3_59 19800 := (t_in (by omega))
                    obtain ⟨f23, e_f23⟩ : ∃ z, z = upd (I_m_59 1) v3_59.toNatClampNeg x22 := ⟨_, rfl⟩
                    refine va_iast hx hb hK.1 hP hD hS 1 0 rfl rfl n_81 dX11_press_81 (fun H locs hP hD hS => ?_)
                    have hP : va_P g.1 vwCl (wX11 g a_m (uR I_m_59 1 f23) J_m) H := by rw [e_f23]; exact hP
                    have hD : va_D A (wX11 g a_m (uR I_m_59 1 f23) J_m) := by rw [e_f23]; exact hD
                    have hk_81 : KK [1, 6] [1, 9, 10, 11, 12, 13, 14, 15, 16, 17, 18, 19] I_m (uR I_m_59 1 f23) := KK.ur hk_59 (by decide) (by decide)
                    refine r_iinc (lv' := fun i24 => [(3, .int i24), (2, .int v2_31), (0, .ref (a_m 0)), (1, .int n)]) hx hb dX11_press_82 hl (k := 0) rfl (by decide) rfl (by decide) (fun _ => rfl) (fun i24 e_i24 t_i24 ls hl => ?_)
                    try have t_i24 := t_i24 (by omega)
                    refine lv_goto (tgt := 59) hx hb dX11_press_85 (by decide) ?_
                    exact ih_59 i24 (uR I_m_59 1 f23) hk_81 (hx_59.ur (by decide) (by decide)) (by omega) (fun j => em_cp hc_59 e_f23 e_x22 (by omega) (by omega) (by omega) (by omega) j) (by omega) _ _ hP hD hS ls hl
              exact L59 ((3301 - (0 : Int32).toInt) + 1).toNat (0 : Int32) I_m_31 hk_31 (KK.rf _) (by omega) (fun j => by rw [if_neg (by rw [lm0]; omega)]) (by omega) _ _ hP hD hS ls hl
          · refine lv_aload_n hx hb dX11_press_42 rfl (lv_at hl 1 rfl) ?_
            refine EffIS.cv (wr := ([])) (w' := fun u26 => wX11 g a_m u26 J_m) (As := []) (kX11_pressPart l g ad av a_m I_m_31 J_m hM_31 hN_31 hs_31 (hg_31 (by omega)).1) fx (gUV (uT _) u_540 u_541 u_542 u_5 u_543) rfl hdX11_pressPart ⟨Nat.le_of_ble_eq_true rfl, Nat.le_of_ble_eq_true rfl⟩ hJ hK hP hD hS hA [0, 1, 2, 3, 4, 5, 6, 7, 8, 9, 10, 11, 12, 13, 14, 15, 16, 17, 18, 19, 20, 21, 22] [] [0, 1, 2, 3, 4, 5, 6, 7, 8, 9, 10, 11, 12, 13, 14, 15, 16, 17, 18, 19, 20, 21, 22] rfl rfl rfl rfl (by decide) rfl (fun _ => rfl) rfl rfl rfl rfl hl.1 (Nat.le_of_ble_eq_true rfl) dX11_press_43 (fun r25 u26 H locs p_r25 hP hD hS => ?_)
            have hP : va_P g.1 vwCl (wX11 g a_m u26 J_m) H := hP
            have hD : va_D A (wX11 g a_m u26 J_m) := hD
            have hk43 := congrArg Int32.toInt (p_r25.2.1.num 10 (by decide))
            have hl43 := p_r25.2.2.1.1.1.2
            have ha43 : (u26 0 9).toInt = 0 := by rw [p_r25.2.1.num 9 (by decide)]; exact ht_31
            have hu43 := p_r25.2.2.1.2
            have hu44 := p_r25.2.2.1.1.2.2.1
            have hu45 := hz_31
            have hu46 : r25.toInt = 0 ∨ (r25.toInt = 1 ∧ ((u26 0 11).toInt = 0 ∨ (I_m_31 0 13).toInt < (u26 0 13).toInt)) := (by rcases p_r25.2.2.2.1 with q | q; exact Or.inl (by rw [q]; decide); exact Or.inr ⟨by rw [q]; decide, p_r25.2.2.2.2.1 q⟩)
            have hgo43 : (r25 = 1 ∧ (u26 0 17).toInt = 0 ∧ ∃ q : Int, fxLM u26 q ∧ fxRe (fxBm (I_m 5)) n.toInt (0, fxS0) (q, fxS0M u26)) ∨ (r25 = 0 ∧ (u26 0 17).toInt ≠ 0 ∧ ∃ c : Int × fxS, fxRe (fxBm (I_m 5)) n.toInt (0, fxS0) c ∧ fxVd (fxBm (I_m 5)) n.toInt c (u26 0 17).toInt (u26 0 16).toInt) := (by obtain ⟨h8, p8, l8, g8⟩ := hg_31 (by omega); exact fxMo.go (p_r25.2.2.2.2.2.2.2 p8 l8 (by omega)) hB_31 g8)
            refine lv_istore_n (lv' := [(2, .int r25), (0, .ref (a_m 0)), (1, .int n)]) hx hb dX11_press_46 rfl hl (by decide) rfl (fun ls hl => ?_)
            refine lv_goto (tgt := 31) hx hb dX11_press_47 (by decide) ?_
            exact ih_31 r25 u26 p_r25.1 (KK.tr hk_31 p_r25.2.1 (by decide) (by decide)) p_r25.2.2.2.2.2.1 p_r25.2.2.1.1 ha43 (by rcases hu46 with q | q; omega; omega) ⟨fun j hj => by rw [p_r25.2.1.row 6 (by decide)]; exact hB_31.1 j hj, by rw [p_r25.2.1.num 10 (by decide)]; exact hB_31.2⟩ ⟨fun j hj => (p_r25.2.2.2.2.2.2.1 j (Or.inl hj)).trans (hW_31.1 j hj), (congrArg Int32.toInt (p_r25.2.2.2.2.2.2.1 13206 (Or.inr rfl))).trans hW_31.2⟩ (fun q => hgo43.elim (fun w => ⟨w.2.1, w.2.2⟩) (fun w => absurd (congrArg Int32.toInt w.1) (by rw [lm0]; omega))) (fun q => hgo43.elim (fun w => absurd (congrArg Int32.toInt w.1) (by rw [lm2]; omega)) (fun w => ⟨w.2.1, w.2.2⟩)) (p_r25.2.2.1.2.2 hj_31) (show 2 * (((u26 0 10)).toInt - ((u26 0 13)).toInt) + min ((u26 0 11)).toInt 1 + r25.toInt < _ from (by omega)) _ _ hP hD hS ls hl
    exact L31 ((2 * (((u4 0 10)).toInt - ((u4 0 13)).toInt) + min ((u4 0 11)).toInt 1 + (1 : Int32).toInt) + 1).toNat (1 : Int32) (uF u4 0 19 (0 : Int32)) hc_26 hk_26 hN21 hS21 ht21 (by omega) hB21 hW21 (fun _ => ⟨(show ((u4 0 17)).toInt = 0 from h1721), 0, hL21.of rfl rfl rfl rfl rfl rfl, (by rw [show fxS0M (uF u4 0 19 (0 : Int32)) = fxS0 from fx_S00 rfl hT21]; exact fxRe.rf)⟩) (fun q => absurd q (by decide)) (hj21.of rfl rfl) (show 2 * (((u4 0 10)).toInt - ((u4 0 13)).toInt) + min ((u4 0 11)).toInt 1 + (1 : Int32).toInt < _ from (by omega)) _ _ hP hD hS ls hl
  · have q_8 := bP.f p_r1.2.2 b_8
    refine lv_aload_n hx hb dX11_press_11 rfl (lv_at hl 0 rfl) ?_
    refine lv_iconst (v := 1) hx hb dX11_press_12 (by decide) ?_
    refine EffI.cv (wr := ([])) (w' := fun u28 => wX11 g a_m u28 J_m) (As := [.int (1 : Int32)]) (kX11_refuse l g a_m u2 J_m (1 : Int32)) fx (gUV (uT _) u_536 u_537 u_538 u_5 u_539) rfl hdX11_refuse ⟨Nat.le_of_ble_eq_true rfl, Nat.le_of_ble_eq_true rfl⟩ hK hP hD hS hA [0, 1, 2, 3, 4, 5, 6, 7, 8, 9, 10, 11, 12, 13, 14, 15, 16, 17, 18, 19, 20, 21, 22] [] [0, 1, 2, 3, 4, 5, 6, 7, 8, 9, 10, 11, 12, 13, 14, 15, 16, 17, 18, 19, 20, 21, 22] rfl rfl rfl rfl (by decide) rfl (fun _ => rfl) rfl rfl rfl rfl hl.1 (Nat.le_of_ble_eq_true rfl) dX11_press_13 (fun r27 u28 H locs p_r27 hP hD hS => ?_)
    have hP : va_P g.1 vwCl (wX11 g a_m u28 J_m) H := hP
    have hD : va_D A (wX11 g a_m u28 J_m) := hD
    refine hret 16 ls r27 _ _ u28 dX11_press_16 hS hP hD ?_
    exact ⟨(MI.st (p_r1.1) p_r27.2), (KK.st (KK.tr (KK.rf I_m) p_r1.2.1 (by decide) (by decide)) p_r27.2 (by decide)), Or.inl ⟨by omega, (ST.num p_r27.2 9 (by decide)).trans (by rw [q_8.2])⟩, fun q => absurd q (by omega), fun _ => ⟨p_r27.1, (ST.num p_r27.2 15 (by decide)).trans (by rw [q_8.2]), (ST.num p_r27.2 16 (by decide)).trans (by rw [q_8.2]), (ST.row p_r27.2 1 (by decide)).trans (by rw [q_8.2])⟩, fun q => absurd q (by omega)⟩
