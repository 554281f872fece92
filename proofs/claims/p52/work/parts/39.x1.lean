set_option maxHeartbeats 4000000 in
set_option maxRecDepth 100000 in
theorem kX11_isLine (l : Launch) (g : gG) (a_m : Nat → Nat) (I_m : Nat → Nat → Int32) (J_m : Nat → Nat → Int64) (line : Int32) (hM : MI I_m) : EffI l g yX11_isLine wsX11_isLine 2 [.ref (a_m 0), .int line] (wX11 g a_m I_m J_m) (fun (u : (Nat → Nat → Int32)) => wX11 g a_m u J_m) (fun r (u : (Nat → Nat → Int32)) => MI (u) ∧ KK [7, 8, 9, 10, 11] [27, 28, 29] I_m (u) ∧ bP (0 ≤ line.toInt ∧ line.toInt < 1300) True r) := by
  refine EffI.sz (cc := cX11_isLine) (maxL := 2) (by decide) rfl (Nat.le_of_ble_eq_true rfl) (fun p e s m args below meth c A Q ls fx hK hP hD hA hS hl hret => ?_)
  have hx := fx.1
  have hb := fx.2.1
  have hml := fx.2.2.1
  have hown := fx.2.2.2.1
  have hts := fx.2.2.2.2
  have hl : lv_has ls 2 [(0, .ref (a_m 0)), (1, .int line)] := hl
  have hP : va_P g.1 vwCl (wX11 g a_m I_m J_m) s.heap := hP
  have hf_315 := hts _ (uT _ _ u_883)
  have hi_X11 : ∀ w ∈ wsX110, w.before args s = true := fun w h => hts w (uT _ w (u_wsX110 w h))
  have lm1 : (-1 : Int32).toInt = -1 := by decide
  have lm0 : (0 : Int32).toInt = 0 := by decide
  have lm2 : (1 : Int32).toInt = 1 := by decide
  have lq1 : (1 : Int32).toInt = 1 := by decide
  refine lv_aload_n hx hb dX11_isLine_0 rfl (lv_at hl 0 rfl) ?_
  refine PurI.cv (As := []) (kX11_isSet l g a_m I_m J_m hM) fx (gUV (uT _) u_856 u_857 u_858 u_5 u_859) rfl hdX11_isSet ⟨Nat.le_of_ble_eq_true rfl, Nat.le_of_ble_eq_true rfl⟩ hK hP [0, 1, 2, 3, 4, 5, 6, 7, 8, 9, 10, 11, 12, 13, 14, 15, 16, 17, 18, 19, 20, 21, 22] rfl rfl rfl rfl rfl hl.1 (Nat.le_of_ble_eq_true rfl) dX11_isLine_1 (fun r1 p_r1 => ?_)
  refine q_if_ne (tgt := 9) hx hb dX11_isLine_4 (by decide) rfl (fun b_4 k_4 => ?_) (fun b_4 k_4 => ?_)
  · have q_4 := bP.t p_r1 b_4
    refine lv_aload_n hx hb dX11_isLine_9 rfl (lv_at hl 0 rfl) ?_
    refine EffV.cv (wr := ([])) (w' := fun u3 => wX11 g a_m u3 J_m) (As := []) (kX11_laysLines l g a_m I_m J_m hM) fx (gUV (uT _) u_884 u_885 u_886 u_5 u_887) rfl hdX11_laysLines ⟨Nat.le_of_ble_eq_true rfl, Nat.le_of_ble_eq_true rfl⟩ hK hP hD hS hA [0, 1, 2, 3, 4, 5, 6, 7, 8, 9, 10, 11, 12, 13, 14, 15, 16, 17, 18, 19, 20, 21, 22] [] [0, 1, 2, 3, 4, 5, 6, 7, 8, 9, 10, 11, 12, 13, 14, 15, 16, 17, 18, 19, 20, 21, 22] rfl rfl rfl rfl (by decide) rfl (fun _ => rfl) rfl rfl rfl rfl hl.1 (Nat.le_of_ble_eq_true rfl) dX11_isLine_10 (fun u3 H locs p_r2 hP hD hS => ?_)
    have hP : va_P g.1 vwCl (wX11 g a_m u3 J_m) H := hP
    have hD : va_D A (wX11 g a_m u3 J_m) := hD
    have hn10 := p_r2.2.2.1
    refine lv_iload_n hx hb dX11_isLine_13 rfl (lv_at hl 1 rfl) ?_
    refine q_if_lt (tgt := 29) hx hb dX11_isLine_14 (by decide) rfl (fun k_14 => ?_) (fun k_14 => ?_)
    · refine lv_iconst (v := 0) hx hb dX11_isLine_29 (by decide) ?_
      refine hret 30 ls (0 : Int32) _ _ u3 dX11_isLine_30 (Or.inl rfl) hS hP hD ?_
      exact ⟨(p_r2.1), (KK.tr (KK.rf I_m) p_r2.2.1 (by decide) (by decide)), (by first | exact Or.inr ⟨rfl, trivial⟩ | exact Or.inl ⟨rfl, by omega⟩)⟩
    · refine lv_iload_n hx hb dX11_isLine_17 rfl (lv_at hl 1 rfl) ?_
      refine lv_aload_n hx hb dX11_isLine_18 rfl (lv_at hl 0 rfl) ?_
      refine va_get (D := g.1) (ci := 11) (v := .int (u3 0 27)) (C := RX11) (T := TX11) (N := 46) hx hb hi_X11 (fun _ h => h) hown hK.1 hP 0 rfl rfl 27 (by decide) hf_315 (fun _ h9 => h9) rfl dX11_isLine_19 ?_
      refine q_icmp_ge (tgt := 29) hx hb dX11_isLine_22 (by decide) rfl rfl (fun k_22 => ?_) (fun k_22 => ?_)
      · refine lv_iconst (v := 0) hx hb dX11_isLine_29 (by decide) ?_
        refine hret 30 ls (0 : Int32) _ _ u3 dX11_isLine_30 (Or.inl rfl) hS hP hD ?_
        exact ⟨(p_r2.1), (KK.tr (KK.rf I_m) p_r2.2.1 (by decide) (by decide)), (by first | exact Or.inr ⟨rfl, trivial⟩ | exact Or.inl ⟨rfl, by omega⟩)⟩
      · refine lv_iconst (v := 1) hx hb dX11_isLine_25 (by decide) ?_
        refine lv_goto (tgt := 30) hx hb dX11_isLine_26 (by decide) ?_
        have lr : (1 : Int32).toInt = 1 := by decide
        refine hret 30 ls (1 : Int32) _ _ u3 dX11_isLine_30 (Or.inr rfl) hS hP hD ?_
        exact ⟨(p_r2.1), (KK.tr (KK.rf I_m) p_r2.2.1 (by decide) (by decide)), (by first | exact Or.inr ⟨rfl, trivial⟩ | exact Or.inl ⟨rfl, by omega⟩)⟩
  · have q_4 := bP.f p_r1 b_4
    refine lv_iconst (v := 0) hx hb dX11_isLine_7 (by decide) ?_
    refine hret 8 ls (0 : Int32) _ _ I_m dX11_isLine_8 (Or.inl rfl) hS hP hD ?_
    exact ⟨hM, (KK.rf I_m), (by first | exact Or.inr ⟨rfl, trivial⟩ | exact Or.inl ⟨rfl, by omega⟩)⟩

set_option maxHeartbeats 4000000 in
set_option maxRecDepth 100000 in
theorem kX11_size (l : Launch) (g : gG) (a_m : Nat → Nat) (I_m : Nat → Nat → Int32) (J_m : Nat → Nat → Int64) (what : Int32) (hM : MI I_m) : EffI l g yX11_size wsX11_size 2 [.ref (a_m 0), .int what] (wX11 g a_m I_m J_m) (fun (u : (Nat → Nat → Int32)) => wX11 g a_m u J_m) (fun r (u : (Nat → Nat → Int32)) => MI (u) ∧ KK [7, 8, 9, 10, 11] [1, 27, 28, 29] I_m (u)) := by
  refine EffI.st (cc := cX11_size) (maxL := 2) (by decide) rfl (Nat.le_of_ble_eq_true rfl) (fun p e s m args below meth c A Q ls fx hK hP hD hA hS hl hret => ?_)
  have hx := fx.1
  have hb := fx.2.1
  have hml := fx.2.2.1
  have hown := fx.2.2.2.1
  have hts := fx.2.2.2.2
  have hl : lv_has ls 2 [(0, .ref (a_m 0)), (1, .int what)] := hl
  have hP : va_P g.1 vwCl (wX11 g a_m I_m J_m) s.heap := hP
  have hf_7 := hts _ (uT _ _ u_170)
  have hf_315 := hts _ (uT _ _ u_883)
  have hi_X11 : ∀ w ∈ wsX110, w.before args s = true := fun w h => hts w (uT _ w (u_wsX110 w h))
  have lm1 : (-1 : Int32).toInt = -1 := by decide
  have lm0 : (0 : Int32).toInt = 0 := by decide
  have lm2 : (1 : Int32).toInt = 1 := by decide
  have lq2 : (2 : Int32).toInt = 2 := by decide
  have lq3 : (3 : Int32).toInt = 3 := by decide
  have lq4 : (4 : Int32).toInt = 4 := by decide
  have lq5 : (5 : Int32).toInt = 5 := by decide
  have lq6 : (6 : Int32).toInt = 6 := by decide
  have lq10 : (10 : Int32).toInt = 10 := by decide
  have lq8 : (8 : Int32).toInt = 8 := by decide
  have lq9 : (9 : Int32).toInt = 9 := by decide
  have lq1 : (1 : Int32).toInt = 1 := by decide
  refine lv_iload_n hx hb dX11_size_0 rfl (lv_at hl 1 rfl) ?_
  refine q_if_lt (tgt := 9) hx hb dX11_size_1 (by decide) rfl (fun k_1 => ?_) (fun k_1 => ?_)
  · refine lv_aload_n hx hb dX11_size_9 rfl (lv_at hl 0 rfl) ?_
    refine lv_iconst (v := 1) hx hb dX11_size_10 (by decide) ?_
    refine EffI.cv (wr := ([])) (w' := fun u2 => wX11 g a_m u2 J_m) (As := [.int (1 : Int32)]) (kX11_refuse l g a_m I_m J_m (1 : Int32)) fx (gUV (uT _) u_536 u_537 u_538 u_5 u_539) rfl hdX11_refuse ⟨Nat.le_of_ble_eq_true rfl, Nat.le_of_ble_eq_true rfl⟩ hK hP hD hS hA [0, 1, 2, 3, 4, 5, 6, 7, 8, 9, 10, 11, 12, 13, 14, 15, 16, 17, 18, 19, 20, 21, 22] [] [0, 1, 2, 3, 4, 5, 6, 7, 8, 9, 10, 11, 12, 13, 14, 15, 16, 17, 18, 19, 20, 21, 22] rfl rfl rfl rfl (by decide) rfl (fun _ => rfl) rfl rfl rfl rfl hl.1 (Nat.le_of_ble_eq_true rfl) dX11_size_11 (fun r1 u2 H locs p_r1 hP hD hS => ?_)
    have hP : va_P g.1 vwCl (wX11 g a_m u2 J_m) H := hP
    have hD : va_D A (wX11 g a_m u2 J_m) := hD
    refine hret 14 ls r1 _ _ u2 dX11_size_14 hS hP hD ?_
    exact ⟨(MI.st hM p_r1.2), (KK.st (KK.rf I_m) p_r1.2 (by decide))⟩
  · refine lv_iload_n hx hb dX11_size_4 rfl (lv_at hl 1 rfl) ?_
    refine lv_iconst (v := 4) hx hb dX11_size_5 (by decide) ?_
    refine q_icmp_le (tgt := 15) hx hb dX11_size_6 (by decide) rfl (by decide : (4 : Int32).toInt = 4) (fun k_6 => ?_) (fun k_6 => ?_)
    · refine lv_aload_n hx hb dX11_size_15 rfl (lv_at hl 0 rfl) ?_
      refine PurI.cv (As := []) (kX11_isSet l g a_m I_m J_m hM) fx (gUV (uT _) u_856 u_857 u_858 u_5 u_859) rfl hdX11_isSet ⟨Nat.le_of_ble_eq_true rfl, Nat.le_of_ble_eq_true rfl⟩ hK hP [0, 1, 2, 3, 4, 5, 6, 7, 8, 9, 10, 11, 12, 13, 14, 15, 16, 17, 18, 19, 20, 21, 22] rfl rfl rfl rfl rfl hl.1 (Nat.le_of_ble_eq_true rfl) dX11_size_16 (fun r3 p_r3 => ?_)
      refine q_if_ne (tgt := 29) hx hb dX11_size_19 (by decide) rfl (fun b_19 k_19 => ?_) (fun b_19 k_19 => ?_)
      · have q_19 := bP.t p_r3 b_19
        refine lv_aload_n hx hb dX11_size_29 rfl (lv_at hl 0 rfl) ?_
        refine EffV.cv (wr := ([])) (w' := fun u5 => wX11 g a_m u5 J_m) (As := []) (kX11_laysLines l g a_m I_m J_m hM) fx (gUV (uT _) u_884 u_885 u_886 u_5 u_887) rfl hdX11_laysLines ⟨Nat.le_of_ble_eq_true rfl, Nat.le_of_ble_eq_true rfl⟩ hK hP hD hS hA [0, 1, 2, 3, 4, 5, 6, 7, 8, 9, 10, 11, 12, 13, 14, 15, 16, 17, 18, 19, 20, 21, 22] [] [0, 1, 2, 3, 4, 5, 6, 7, 8, 9, 10, 11, 12, 13, 14, 15, 16, 17, 18, 19, 20, 21, 22] rfl rfl rfl rfl (by decide) rfl (fun _ => rfl) rfl rfl rfl rfl hl.1 (Nat.le_of_ble_eq_true rfl) dX11_size_30 (fun u5 H locs p_r4 hP hD hS => ?_)
        have hP : va_P g.1 vwCl (wX11 g a_m u5 J_m) H := hP
        have hD : va_D A (wX11 g a_m u5 J_m) := hD
        refine lv_aload_n hx hb dX11_size_33 rfl (lv_at hl 0 rfl) ?_
        refine lv_iload_n hx hb dX11_size_34 rfl (lv_at hl 1 rfl) ?_
        refine q_if_ne (tgt := 48) hx hb dX11_size_35 (by decide) rfl (fun b_35 k_35 => ?_) (fun b_35 k_35 => ?_)
        · refine lv_iload_n hx hb dX11_size_48 rfl (lv_at hl 1 rfl) ?_
          refine lv_iconst (v := 1) hx hb dX11_size_49 (by decide) ?_
          refine q_icmp_ne (tgt := 60) hx hb dX11_size_50 (by decide) rfl (by decide : (1 : Int32).toInt = 1) (fun k_50 => ?_) (fun k_50 => ?_)
          · refine lv_iload_n hx hb dX11_size_60 rfl (lv_at hl 1 rfl) ?_
            refine lv_iconst (v := 2) hx hb dX11_size_61 (by decide) ?_
            refine q_icmp_ne (tgt := 88) hx hb dX11_size_62 (by decide) rfl (by decide : (2 : Int32).toInt = 2) (fun k_62 => ?_) (fun k_62 => ?_)
            · refine lv_iload_n hx hb dX11_size_88 rfl (lv_at hl 1 rfl) ?_
              refine lv_iconst (v := 3) hx hb dX11_size_89 (by decide) ?_
              refine q_icmp_ne (tgt := 103) hx hb dX11_size_90 (by decide) rfl (by decide : (3 : Int32).toInt = 3) (fun k_90 => ?_) (fun k_90 => ?_)
              · refine lv_aload_n hx hb dX11_size_103 rfl (lv_at hl 0 rfl) ?_
                refine va_get (D := g.1) (ci := 11) (v := .ref (a_m 1)) (C := RX11) (T := TX11) (N := 46) hx hb hi_X11 (fun _ h => h) hown hK.1 hP 0 rfl rfl 0 (by decide) hf_7 (fun _ h9 => h9) rfl dX11_size_104 ?_
                refine lv_bipush (v := 10) hx hb dX11_size_107 (by decide) ?_
                have n_109 : vp_in (10 : Int32) 19800 := (t_in (by decide))
                refine va_iald hx hb hK.1 hP 1 0 rfl rfl n_109 dX11_size_109 ?_
                refine q_nm (fun x6 e_x6 => ?_)
                have e_x6 : x6 = (u5 1) 10 := e_x6
                have g_x6 : x6.toInt = ((u5 1) 10).toInt := congrArg _ e_x6
                refine EffI.cv (wr := ([])) (w' := fun u8 => wX11 g a_m u8 J_m) (As := [.int x6]) (kX11_gives l g a_m u5 J_m x6) fx (gUV (uT _) u_585 u_586 u_587 u_5 u_588) rfl hdX11_gives ⟨Nat.le_of_ble_eq_true rfl, Nat.le_of_ble_eq_true rfl⟩ hK hP hD hS hA [0, 1, 2, 3, 4, 5, 6, 7, 8, 9, 10, 11, 12, 13, 14, 15, 16, 17, 18, 19, 20, 21, 22] [] [0, 1, 2, 3, 4, 5, 6, 7, 8, 9, 10, 11, 12, 13, 14, 15, 16, 17, 18, 19, 20, 21, 22] rfl rfl rfl rfl (by decide) rfl (fun _ => rfl) rfl rfl rfl rfl hl.1 (Nat.le_of_ble_eq_true rfl) dX11_size_110 (fun r7 u8 H locs p_r7 hP hD hS => ?_)
                have hP : va_P g.1 vwCl (wX11 g a_m u8 J_m) H := hP
                have hD : va_D A (wX11 g a_m u8 J_m) := hD
                refine hret 113 ls r7 _ _ u8 dX11_size_113 hS hP hD ?_
                exact ⟨(MI.st (p_r4.1) p_r7.2), (KK.st (KK.tr (KK.rf I_m) p_r4.2.1 (by decide) (by decide)) p_r7.2 (by decide))⟩
              · refine lv_aload_n hx hb dX11_size_93 rfl (lv_at hl 0 rfl) ?_
                refine va_get (D := g.1) (ci := 11) (v := .ref (a_m 1)) (C := RX11) (T := TX11) (N := 46) hx hb hi_X11 (fun _ h => h) hown hK.1 hP 0 rfl rfl 0 (by decide) hf_7 (fun _ h9 => h9) rfl dX11_size_94 ?_
                refine lv_bipush (v := 9) hx hb dX11_size_97 (by decide) ?_
                have n_99 : vp_in (9 : Int32) 19800 := (t_in (by decide))
                refine va_iald hx hb hK.1 hP 1 0 rfl rfl n_99 dX11_size_99 ?_
                refine q_nm (fun x9 e_x9 => ?_)
                have e_x9 : x9 = (u5 1) 9 := e_x9
                have g_x9 : x9.toInt = ((u5 1) 9).toInt := congrArg _ e_x9
                have f_x9 := MI.pcs (p_r4.1) e_x9
                refine lv_goto (tgt := 110) hx hb dX11_size_100 (by decide) ?_
                refine EffI.cv (wr := ([])) (w' := fun u11 => wX11 g a_m u11 J_m) (As := [.int x9]) (kX11_gives l g a_m u5 J_m x9) fx (gUV (uT _) u_585 u_586 u_587 u_5 u_588) rfl hdX11_gives ⟨Nat.le_of_ble_eq_true rfl, Nat.le_of_ble_eq_true rfl⟩ hK hP hD hS hA [0, 1, 2, 3, 4, 5, 6, 7, 8, 9, 10, 11, 12, 13, 14, 15, 16, 17, 18, 19, 20, 21, 22] [] [0, 1, 2, 3, 4, 5, 6, 7, 8, 9, 10, 11, 12, 13, 14, 15, 16, 17, 18, 19, 20, 21, 22] rfl rfl rfl rfl (by decide) rfl (fun _ => rfl) rfl rfl rfl rfl hl.1 (Nat.le_of_ble_eq_true rfl) dX11_size_110 (fun r10 u11 H locs p_r10 hP hD hS => ?_)
                have hP : va_P g.1 vwCl (wX11 g a_m u11 J_m) H := hP
                have hD : va_D A (wX11 g a_m u11 J_m) := hD
                refine hret 113 ls r10 _ _ u11 dX11_size_113 hS hP hD ?_
                exact ⟨(MI.st (p_r4.1) p_r10.2), (KK.st (KK.tr (KK.rf I_m) p_r4.2.1 (by decide) (by decide)) p_r10.2 (by decide))⟩
            · refine lv_aload_n hx hb dX11_size_65 rfl (lv_at hl 0 rfl) ?_
              refine va_get (D := g.1) (ci := 11) (v := .int (u5 0 27)) (C := RX11) (T := TX11) (N := 46) hx hb hi_X11 (fun _ h => h) hown hK.1 hP 0 rfl rfl 27 (by decide) hf_315 (fun _ h9 => h9) rfl dX11_size_66 ?_
              refine lv_aload_n hx hb dX11_size_69 rfl (lv_at hl 0 rfl) ?_
              refine va_get (D := g.1) (ci := 11) (v := .ref (a_m 1)) (C := RX11) (T := TX11) (N := 46) hx hb hi_X11 (fun _ h => h) hown hK.1 hP 0 rfl rfl 0 (by decide) hf_7 (fun _ h9 => h9) rfl dX11_size_70 ?_
              refine lv_iconst (v := 5) hx hb dX11_size_73 (by decide) ?_
              have n_74 : vp_in (5 : Int32) 19800 := (t_in (by decide))
              refine va_iald hx hb hK.1 hP 1 0 rfl rfl n_74 dX11_size_74 ?_
              refine q_nm (fun x12 e_x12 => ?_)
              have e_x12 : x12 = (u5 1) 5 := e_x12
              have g_x12 : x12.toInt = ((u5 1) 5).toInt := congrArg _ e_x12
              have f_x12 := MI.page (p_r4.1) e_x12
              refine r_iadd hx hb dX11_size_75 rfl rfl (fun x13 e_x13 t_x13 => ?_)
              try have t_x13 := t_x13 (by omega)
              refine lv_iconst (v := 1) hx hb dX11_size_76 (by decide) ?_
              refine r_isub hx hb dX11_size_77 rfl (by decide : (1 : Int32).toInt = 1) (fun x14 e_x14 t_x14 => ?_)
              try have t_x14 := t_x14 (by omega)
              refine lv_aload_n hx hb dX11_size_78 rfl (lv_at hl 0 rfl) ?_
              refine va_get (D := g.1) (ci := 11) (v := .ref (a_m 1)) (C := RX11) (T := TX11) (N := 46) hx hb hi_X11 (fun _ h => h) hown hK.1 hP 0 rfl rfl 0 (by decide) hf_7 (fun _ h9 => h9) rfl dX11_size_79 ?_
              refine lv_iconst (v := 5) hx hb dX11_size_82 (by decide) ?_
              have n_83 : vp_in (5 : Int32) 19800 := (t_in (by decide))
              refine va_iald hx hb hK.1 hP 1 0 rfl rfl n_83 dX11_size_83 ?_
              refine q_nm (fun x15 e_x15 => ?_)
              have e_x15 : x15 = (u5 1) 5 := e_x15
              have g_x15 : x15.toInt = ((u5 1) 5).toInt := congrArg _ e_x15
              have f_x15 := MI.page (p_r4.1) e_x15
              refine lv_idiv hx hb dX11_size_84 (fun h => by have := t_eq h rfl (by decide : (0 : Int32).toInt = 0); omega) ?_
              refine q_nm (fun x16 e_x16 => ?_)
              try have t_x16 := t_div e_x16 rfl rfl (by omega) (by omega)
              refine lv_goto (tgt := 110) hx hb dX11_size_85 (by decide) ?_
              refine EffI.cv (wr := ([])) (w' := fun u18 => wX11 g a_m u18 J_m) (As := [.int x16]) (kX11_gives l g a_m u5 J_m x16) fx (gUV (uT _) u_585 u_586 u_587 u_5 u_588) rfl hdX11_gives ⟨Nat.le_of_ble_eq_true rfl, Nat.le_of_ble_eq_true rfl⟩ hK hP hD hS hA [0, 1, 2, 3, 4, 5, 6, 7, 8, 9, 10, 11, 12, 13, 14, 15, 16, 17, 18, 19, 20, 21, 22] [] [0, 1, 2, 3, 4, 5, 6, 7, 8, 9, 10, 11, 12, 13, 14, 15, 16, 17, 18, 19, 20, 21, 22] rfl rfl rfl rfl (by decide) rfl (fun _ => rfl) rfl rfl rfl rfl hl.1 (Nat.le_of_ble_eq_true rfl) dX11_size_110 (fun r17 u18 H locs p_r17 hP hD hS => ?_)
              have hP : va_P g.1 vwCl (wX11 g a_m u18 J_m) H := hP
              have hD : va_D A (wX11 g a_m u18 J_m) := hD
              refine hret 113 ls r17 _ _ u18 dX11_size_113 hS hP hD ?_
              exact ⟨(MI.st (p_r4.1) p_r17.2), (KK.st (KK.tr (KK.rf I_m) p_r4.2.1 (by decide) (by decide)) p_r17.2 (by decide))⟩
          · refine lv_aload_n hx hb dX11_size_53 rfl (lv_at hl 0 rfl) ?_
            refine va_get (D := g.1) (ci := 11) (v := .int (u5 0 27)) (C := RX11) (T := TX11) (N := 46) hx hb hi_X11 (fun _ h => h) hown hK.1 hP 0 rfl rfl 27 (by decide) hf_315 (fun _ h9 => h9) rfl dX11_size_54 ?_
            refine lv_goto (tgt := 110) hx hb dX11_size_57 (by decide) ?_
            refine EffI.cv (wr := ([])) (w' := fun u20 => wX11 g a_m u20 J_m) (As := [.int (u5 0 27)]) (kX11_gives l g a_m u5 J_m (u5 0 27)) fx (gUV (uT _) u_585 u_586 u_587 u_5 u_588) rfl hdX11_gives ⟨Nat.le_of_ble_eq_true rfl, Nat.le_of_ble_eq_true rfl⟩ hK hP hD hS hA [0, 1, 2, 3, 4, 5, 6, 7, 8, 9, 10, 11, 12, 13, 14, 15, 16, 17, 18, 19, 20, 21, 22] [] [0, 1, 2, 3, 4, 5, 6, 7, 8, 9, 10, 11, 12, 13, 14, 15, 16, 17, 18, 19, 20, 21, 22] rfl rfl rfl rfl (by decide) rfl (fun _ => rfl) rfl rfl rfl rfl hl.1 (Nat.le_of_ble_eq_true rfl) dX11_size_110 (fun r19 u20 H locs p_r19 hP hD hS => ?_)
            have hP : va_P g.1 vwCl (wX11 g a_m u20 J_m) H := hP
            have hD : va_D A (wX11 g a_m u20 J_m) := hD
            refine hret 113 ls r19 _ _ u20 dX11_size_113 hS hP hD ?_
            exact ⟨(MI.st (p_r4.1) p_r19.2), (KK.st (KK.tr (KK.rf I_m) p_r4.2.1 (by decide) (by decide)) p_r19.2 (by decide))⟩
        · refine lv_aload_n hx hb dX11_size_38 rfl (lv_at hl 0 rfl) ?_
          refine va_get (D := g.1) (ci := 11) (v := .ref (a_m 1)) (C := RX11) (T := TX11) (N := 46) hx hb hi_X11 (fun _ h => h) hown hK.1 hP 0 rfl rfl 0 (by decide) hf_7 (fun _ h9 => h9) rfl dX11_size_39 ?_
          refine lv_bipush (v := 8) hx hb dX11_size_42 (by decide) ?_
          have n_44 : vp_in (8 : Int32) 19800 := (t_in (by decide))
          refine va_iald hx hb hK.1 hP 1 0 rfl rfl n_44 dX11_size_44 ?_
          refine q_nm (fun x21 e_x21 => ?_)
          have e_x21 : x21 = (u5 1) 8 := e_x21
          have g_x21 : x21.toInt = ((u5 1) 8).toInt := congrArg _ e_x21
          have f_x21 := MI.set (p_r4.1) e_x21
          refine lv_goto (tgt := 110) hx hb dX11_size_45 (by decide) ?_
          refine EffI.cv (wr := ([])) (w' := fun u23 => wX11 g a_m u23 J_m) (As := [.int x21]) (kX11_gives l g a_m u5 J_m x21) fx (gUV (uT _) u_585 u_586 u_587 u_5 u_588) rfl hdX11_gives ⟨Nat.le_of_ble_eq_true rfl, Nat.le_of_ble_eq_true rfl⟩ hK hP hD hS hA [0, 1, 2, 3, 4, 5, 6, 7, 8, 9, 10, 11, 12, 13, 14, 15, 16, 17, 18, 19, 20, 21, 22] [] [0, 1, 2, 3, 4, 5, 6, 7, 8, 9, 10, 11, 12, 13, 14, 15, 16, 17, 18, 19, 20, 21, 22] rfl rfl rfl rfl (by decide) rfl (fun _ => rfl) rfl rfl rfl rfl hl.1 (Nat.le_of_ble_eq_true rfl) dX11_size_110 (fun r22 u23 H locs p_r22 hP hD hS => ?_)
          have hP : va_P g.1 vwCl (wX11 g a_m u23 J_m) H := hP
          have hD : va_D A (wX11 g a_m u23 J_m) := hD
          refine hret 113 ls r22 _ _ u23 dX11_size_113 hS hP hD ?_
          exact ⟨(MI.st (p_r4.1) p_r22.2), (KK.st (KK.tr (KK.rf I_m) p_r4.2.1 (by decide) (by decide)) p_r22.2 (by decide))⟩
      · have q_19 := bP.f p_r3 b_19
        refine lv_aload_n hx hb dX11_size_22 rfl (lv_at hl 0 rfl) ?_
        refine lv_bipush (v := 6) hx hb dX11_size_23 (by decide) ?_
        refine EffI.cv (wr := ([])) (w' := fun u25 => wX11 g a_m u25 J_m) (As := [.int (6 : Int32)]) (kX11_refuse l g a_m I_m J_m (6 : Int32)) fx (gUV (uT _) u_536 u_537 u_538 u_5 u_539) rfl hdX11_refuse ⟨Nat.le_of_ble_eq_true rfl, Nat.le_of_ble_eq_true rfl⟩ hK hP hD hS hA [0, 1, 2, 3, 4, 5, 6, 7, 8, 9, 10, 11, 12, 13, 14, 15, 16, 17, 18, 19, 20, 21, 22] [] [0, 1, 2, 3, 4, 5, 6, 7, 8, 9, 10, 11, 12, 13, 14, 15, 16, 17, 18, 19, 20, 21, 22] rfl rfl rfl rfl (by decide) rfl (fun _ => rfl) rfl rfl rfl rfl hl.1 (Nat.le_of_ble_eq_true rfl) dX11_size_25 (fun r24 u25 H locs p_r24 hP hD hS => ?_)
        have hP : va_P g.1 vwCl (wX11 g a_m u25 J_m) H := hP
        have hD : va_D A (wX11 g a_m u25 J_m) := hD
        refine hret 28 ls r24 _ _ u25 dX11_size_28 hS hP hD ?_
        exact ⟨(MI.st hM p_r24.2), (KK.st (KK.rf I_m) p_r24.2 (by decide))⟩
    · refine lv_aload_n hx hb dX11_size_9 rfl (lv_at hl 0 rfl) ?_
      refine lv_iconst (v := 1) hx hb dX11_size_10 (by decide) ?_
      refine EffI.cv (wr := ([])) (w' := fun u27 => wX11 g a_m u27 J_m) (As := [.int (1 : Int32)]) (kX11_refuse l g a_m I_m J_m (1 : Int32)) fx (gUV (uT _) u_536 u_537 u_538 u_5 u_539) rfl hdX11_refuse ⟨Nat.le_of_ble_eq_true rfl, Nat.le_of_ble_eq_true rfl⟩ hK hP hD hS hA [0, 1, 2, 3, 4, 5, 6, 7, 8, 9, 10, 11, 12, 13, 14, 15, 16, 17, 18, 19, 20, 21, 22] [] [0, 1, 2, 3, 4, 5, 6, 7, 8, 9, 10, 11, 12, 13, 14, 15, 16, 17, 18, 19, 20, 21, 22] rfl rfl rfl rfl (by decide) rfl (fun _ => rfl) rfl rfl rfl rfl hl.1 (Nat.le_of_ble_eq_true rfl) dX11_size_11 (fun r26 u27 H locs p_r26 hP hD hS => ?_)
      have hP : va_P g.1 vwCl (wX11 g a_m u27 J_m) H := hP
      have hD : va_D A (wX11 g a_m u27 J_m) := hD
      refine hret 14 ls r26 _ _ u27 dX11_size_14 hS hP hD ?_
      exact ⟨(MI.st hM p_r26.2), (KK.st (KK.rf I_m) p_r26.2 (by decide))⟩

set_option maxHeartbeats 4000000 in
set_option maxRecDepth 100000 in
theorem kX11_cell (l : Launch) (g : gG) (a_m : Nat → Nat) (I_m : Nat → Nat → Int32) (J_m : Nat → Nat → Int64) (k : Int32) (hM : MI I_m) : EffI l g yX11_cell wsX11_cell 1 [.ref (a_m 0), .int k] (wX11 g a_m I_m J_m) (fun (u : (Nat → Nat → Int32)) => wX11 g a_m u J_m) (fun r (u : (Nat → Nat → Int32)) => KK [] [1] I_m (u)) := by
  refine EffI.st (cc := cX11_cell) (maxL := 2) (by decide) rfl (Nat.le_of_ble_eq_true rfl) (fun p e s m args below meth c A Q ls fx hK hP hD hA hS hl hret => ?_)
  have hx := fx.1
  have hb := fx.2.1
  have hml := fx.2.2.1
  have hown := fx.2.2.2.1
  have hts := fx.2.2.2.2
  have hl : lv_has ls 2 [(0, .ref (a_m 0)), (1, .int k)] := hl
  have hP : va_P g.1 vwCl (wX11 g a_m I_m J_m) s.heap := hP
  have hf_7 := hts _ (uT _ _ u_170)
  have hi_X11 : ∀ w ∈ wsX110, w.before args s = true := fun w h => hts w (uT _ w (u_wsX110 w h))
  have lm1 : (-1 : Int32).toInt = -1 := by decide
  have lm0 : (0 : Int32).toInt = 0 := by decide
  have lm2 : (1 : Int32).toInt = 1 := by decide
  have lq6 : (6 : Int32).toInt = 6 := by decide
  have lq600 : (600 : Int32).toInt = 600 := by decide
  have lq8 : (8 : Int32).toInt = 8 := by decide
  have lq1 : (1 : Int32).toInt = 1 := by decide
  refine lv_aload_n hx hb dX11_cell_0 rfl (lv_at hl 0 rfl) ?_
  refine PurI.cv (As := []) (kX11_isSet l g a_m I_m J_m hM) fx (gUV (uT _) u_856 u_857 u_858 u_5 u_859) rfl hdX11_isSet ⟨Nat.le_of_ble_eq_true rfl, Nat.le_of_ble_eq_true rfl⟩ hK hP [0, 1, 2, 3, 4, 5, 6, 7, 8, 9, 10, 11, 12, 13, 14, 15, 16, 17, 18, 19, 20, 21, 22] rfl rfl rfl rfl rfl hl.1 (Nat.le_of_ble_eq_true rfl) dX11_cell_1 (fun r1 p_r1 => ?_)
  refine q_if_eq (tgt := 22) hx hb dX11_cell_4 (by decide) rfl (fun b_4 k_4 => ?_) (fun b_4 k_4 => ?_)
  · have q_4 := bP.f p_r1 b_4
    refine lv_aload_n hx hb dX11_cell_22 rfl (lv_at hl 0 rfl) ?_
    refine lv_bipush (v := 6) hx hb dX11_cell_23 (by decide) ?_
    refine EffI.cv (wr := ([])) (w' := fun u3 => wX11 g a_m u3 J_m) (As := [.int (6 : Int32)]) (kX11_refuse l g a_m I_m J_m (6 : Int32)) fx (gUV (uT _) u_536 u_537 u_538 u_5 u_539) rfl hdX11_refuse ⟨Nat.le_of_ble_eq_true rfl, Nat.le_of_ble_eq_true rfl⟩ hK hP hD hS hA [0, 1, 2, 3, 4, 5, 6, 7, 8, 9, 10, 11, 12, 13, 14, 15, 16, 17, 18, 19, 20, 21, 22] [] [0, 1, 2, 3, 4, 5, 6, 7, 8, 9, 10, 11, 12, 13, 14, 15, 16, 17, 18, 19, 20, 21, 22] rfl rfl rfl rfl (by decide) rfl (fun _ => rfl) rfl rfl rfl rfl hl.1 (Nat.le_of_ble_eq_true rfl) dX11_cell_25 (fun r2 u3 H locs p_r2 hP hD hS => ?_)
    have hP : va_P g.1 vwCl (wX11 g a_m u3 J_m) H := hP
    have hD : va_D A (wX11 g a_m u3 J_m) := hD
    refine lv_goto (tgt := 45) hx hb dX11_cell_28 (by decide) ?_
    refine hret 45 ls r2 _ _ u3 dX11_cell_45 hS hP hD ?_
    exact (KK.st (KK.rf I_m) p_r2.2 (by decide))
  · have q_4 := bP.t p_r1 b_4
    refine lv_iload_n hx hb dX11_cell_7 rfl (lv_at hl 1 rfl) ?_
    refine q_if_lt (tgt := 22) hx hb dX11_cell_8 (by decide) rfl (fun k_8 => ?_) (fun k_8 => ?_)
    · refine lv_aload_n hx hb dX11_cell_22 rfl (lv_at hl 0 rfl) ?_
      refine lv_bipush (v := 6) hx hb dX11_cell_23 (by decide) ?_
      refine EffI.cv (wr := ([])) (w' := fun u5 => wX11 g a_m u5 J_m) (As := [.int (6 : Int32)]) (kX11_refuse l g a_m I_m J_m (6 : Int32)) fx (gUV (uT _) u_536 u_537 u_538 u_5 u_539) rfl hdX11_refuse ⟨Nat.le_of_ble_eq_true rfl, Nat.le_of_ble_eq_true rfl⟩ hK hP hD hS hA [0, 1, 2, 3, 4, 5, 6, 7, 8, 9, 10, 11, 12, 13, 14, 15, 16, 17, 18, 19, 20, 21, 22] [] [0, 1, 2, 3, 4, 5, 6, 7, 8, 9, 10, 11, 12, 13, 14, 15, 16, 17, 18, 19, 20, 21, 22] rfl rfl rfl rfl (by decide) rfl (fun _ => rfl) rfl rfl rfl rfl hl.1 (Nat.le_of_ble_eq_true rfl) dX11_cell_25 (fun r4 u5 H locs p_r4 hP hD hS => ?_)
      have hP : va_P g.1 vwCl (wX11 g a_m u5 J_m) H := hP
      have hD : va_D A (wX11 g a_m u5 J_m) := hD
      refine lv_goto (tgt := 45) hx hb dX11_cell_28 (by decide) ?_
      refine hret 45 ls r4 _ _ u5 dX11_cell_45 hS hP hD ?_
      exact (KK.st (KK.rf I_m) p_r4.2 (by decide))
    · refine lv_iload_n hx hb dX11_cell_11 rfl (lv_at hl 1 rfl) ?_
      refine lv_aload_n hx hb dX11_cell_12 rfl (lv_at hl 0 rfl) ?_
      refine va_get (D := g.1) (ci := 11) (v := .ref (a_m 1)) (C := RX11) (T := TX11) (N := 46) hx hb hi_X11 (fun _ h => h) hown hK.1 hP 0 rfl rfl 0 (by decide) hf_7 (fun _ h9 => h9) rfl dX11_cell_13 ?_
      refine lv_bipush (v := 8) hx hb dX11_cell_16 (by decide) ?_
      have n_18 : vp_in (8 : Int32) 19800 := (t_in (by decide))
      refine va_iald hx hb hK.1 hP 1 0 rfl rfl n_18 dX11_cell_18 ?_
      refine q_nm (fun x6 e_x6 => ?_)
      have e_x6 : x6 = (I_m 1) 8 := e_x6
      have g_x6 : x6.toInt = ((I_m 1) 8).toInt := congrArg _ e_x6
      have f_x6 := MI.set hM e_x6
      refine q_icmp_lt (tgt := 31) hx hb dX11_cell_19 (by decide) rfl rfl (fun k_19 => ?_) (fun k_19 => ?_)
      · refine lv_aload_n hx hb dX11_cell_31 rfl (lv_at hl 0 rfl) ?_
        refine lv_aload_n hx hb dX11_cell_32 rfl (lv_at hl 0 rfl) ?_
        refine va_get (D := g.1) (ci := 11) (v := .ref (a_m 1)) (C := RX11) (T := TX11) (N := 46) hx hb hi_X11 (fun _ h => h) hown hK.1 hP 0 rfl rfl 0 (by decide) hf_7 (fun _ h9 => h9) rfl dX11_cell_33 ?_
        refine lv_sipush (v := 600) hx hb dX11_cell_36 (by decide) ?_
        refine lv_iload_n hx hb dX11_cell_39 rfl (lv_at hl 1 rfl) ?_
        refine r_iadd hx hb dX11_cell_40 (by decide : (600 : Int32).toInt = 600) rfl (fun x7 e_x7 t_x7 => ?_)
        try have t_x7 := t_x7 (by omega)
        have n_41 : vp_in x7 19800 := (t_in (by omega))
        refine va_iald hx hb hK.1 hP 1 0 rfl rfl n_41 dX11_cell_41 ?_
        refine q_nm (fun x8 e_x8 => ?_)
        have e_x8 : x8 = (I_m 1) x7.toNatClampNeg := e_x8
        have g_x8 : x8.toInt = ((I_m 1) x7.toNatClampNeg).toInt := congrArg _ e_x8
        refine EffI.cv (wr := ([])) (w' := fun u10 => wX11 g a_m u10 J_m) (As := [.int x8]) (kX11_gives l g a_m I_m J_m x8) fx (gUV (uT _) u_585 u_586 u_587 u_5 u_588) rfl hdX11_gives ⟨Nat.le_of_ble_eq_true rfl, Nat.le_of_ble_eq_true rfl⟩ hK hP hD hS hA [0, 1, 2, 3, 4, 5, 6, 7, 8, 9, 10, 11, 12, 13, 14, 15, 16, 17, 18, 19, 20, 21, 22] [] [0, 1, 2, 3, 4, 5, 6, 7, 8, 9, 10, 11, 12, 13, 14, 15, 16, 17, 18, 19, 20, 21, 22] rfl rfl rfl rfl (by decide) rfl (fun _ => rfl) rfl rfl rfl rfl hl.1 (Nat.le_of_ble_eq_true rfl) dX11_cell_42 (fun r9 u10 H locs p_r9 hP hD hS => ?_)
        have hP : va_P g.1 vwCl (wX11 g a_m u10 J_m) H := hP
        have hD : va_D A (wX11 g a_m u10 J_m) := hD
        refine hret 45 ls r9 _ _ u10 dX11_cell_45 hS hP hD ?_
        exact (KK.st (KK.rf I_m) p_r9.2 (by decide))
      · refine lv_aload_n hx hb dX11_cell_22 rfl (lv_at hl 0 rfl) ?_
        refine lv_bipush (v := 6) hx hb dX11_cell_23 (by decide) ?_
        refine EffI.cv (wr := ([])) (w' := fun u12 => wX11 g a_m u12 J_m) (As := [.int (6 : Int32)]) (kX11_refuse l g a_m I_m J_m (6 : Int32)) fx (gUV (uT _) u_536 u_537 u_538 u_5 u_539) rfl hdX11_refuse ⟨Nat.le_of_ble_eq_true rfl, Nat.le_of_ble_eq_true rfl⟩ hK hP hD hS hA [0, 1, 2, 3, 4, 5, 6, 7, 8, 9, 10, 11, 12, 13, 14, 15, 16, 17, 18, 19, 20, 21, 22] [] [0, 1, 2, 3, 4, 5, 6, 7, 8, 9, 10, 11, 12, 13, 14, 15, 16, 17, 18, 19, 20, 21, 22] rfl rfl rfl rfl (by decide) rfl (fun _ => rfl) rfl rfl rfl rfl hl.1 (Nat.le_of_ble_eq_true rfl) dX11_cell_25 (fun r11 u12 H locs p_r11 hP hD hS => ?_)
        have hP : va_P g.1 vwCl (wX11 g a_m u12 J_m) H := hP
        have hD : va_D A (wX11 g a_m u12 J_m) := hD
        refine lv_goto (tgt := 45) hx hb dX11_cell_28 (by decide) ?_
        refine hret 45 ls r11 _ _ u12 dX11_cell_45 hS hP hD ?_
        exact (KK.st (KK.rf I_m) p_r11.2 (by decide))

set_option maxHeartbeats 4000000 in
set_option maxRecDepth 100000 in
theorem kX11_line (l : Launch) (g : gG) (a_m : Nat → Nat) (I_m : Nat → Nat → Int32) (J_m : Nat → Nat → Int64) (line : Int32) (hM : MI I_m) : EffI l g yX11_line wsX11_line 3 [.ref (a_m 0), .int line] (wX11 g a_m I_m J_m) (fun (u : (Nat → Nat → Int32)) => wX11 g a_m u J_m) (fun r (u : (Nat → Nat → Int32)) => MI (u) ∧ KK [7, 8, 9, 10, 11] [1, 27, 28, 29] I_m (u)) := by
  refine EffI.st (cc := cX11_line) (maxL := 2) (by decide) rfl (Nat.le_of_ble_eq_true rfl) (fun p e s m args below meth c A Q ls fx hK hP hD hA hS hl hret => ?_)
  have hx := fx.1
  have hb := fx.2.1
  have hml := fx.2.2.1
  have hown := fx.2.2.2.1
  have hts := fx.2.2.2.2
  have hl : lv_has ls 2 [(0, .ref (a_m 0)), (1, .int line)] := hl
  have hP : va_P g.1 vwCl (wX11 g a_m I_m J_m) s.heap := hP
  have hf_47 := hts _ (uT _ _ u_182)
  have hi_X11 : ∀ w ∈ wsX110, w.before args s = true := fun w h => hts w (uT _ w (u_wsX110 w h))
  have lm1 : (-1 : Int32).toInt = -1 := by decide
  have lm0 : (0 : Int32).toInt = 0 := by decide
  have lm2 : (1 : Int32).toInt = 1 := by decide
  have lq6 : (6 : Int32).toInt = 6 := by decide
  have lq1 : (1 : Int32).toInt = 1 := by decide
  refine lv_aload_n hx hb dX11_line_0 rfl (lv_at hl 0 rfl) ?_
  refine lv_iload_n hx hb dX11_line_1 rfl (lv_at hl 1 rfl) ?_
  refine EffI.cv (wr := ([])) (w' := fun u2 => wX11 g a_m u2 J_m) (As := [.int line]) (kX11_isLine l g a_m I_m J_m line hM) fx (gUV (uT _) u_931 u_932 u_933 u_5 u_934) rfl hdX11_isLine ⟨Nat.le_of_ble_eq_true rfl, Nat.le_of_ble_eq_true rfl⟩ hK hP hD hS hA [0, 1, 2, 3, 4, 5, 6, 7, 8, 9, 10, 11, 12, 13, 14, 15, 16, 17, 18, 19, 20, 21, 22] [] [0, 1, 2, 3, 4, 5, 6, 7, 8, 9, 10, 11, 12, 13, 14, 15, 16, 17, 18, 19, 20, 21, 22] rfl rfl rfl rfl (by decide) rfl (fun _ => rfl) rfl rfl rfl rfl hl.1 (Nat.le_of_ble_eq_true rfl) dX11_line_2 (fun r1 u2 H locs p_r1 hP hD hS => ?_)
  have hP : va_P g.1 vwCl (wX11 g a_m u2 J_m) H := hP
  have hD : va_D A (wX11 g a_m u2 J_m) := hD
  refine q_if_eq (tgt := 21) hx hb dX11_line_5 (by decide) rfl (fun b_5 k_5 => ?_) (fun b_5 k_5 => ?_)
  · have q_5 := bP.f p_r1.2.2 b_5
    refine lv_aload_n hx hb dX11_line_21 rfl (lv_at hl 0 rfl) ?_
    refine lv_bipush (v := 6) hx hb dX11_line_22 (by decide) ?_
    refine EffI.cv (wr := ([])) (w' := fun u4 => wX11 g a_m u4 J_m) (As := [.int (6 : Int32)]) (kX11_refuse l g a_m u2 J_m (6 : Int32)) fx (gUV (uT _) u_536 u_537 u_538 u_5 u_539) rfl hdX11_refuse ⟨Nat.le_of_ble_eq_true rfl, Nat.le_of_ble_eq_true rfl⟩ hK hP hD hS hA [0, 1, 2, 3, 4, 5, 6, 7, 8, 9, 10, 11, 12, 13, 14, 15, 16, 17, 18, 19, 20, 21, 22] [] [0, 1, 2, 3, 4, 5, 6, 7, 8, 9, 10, 11, 12, 13, 14, 15, 16, 17, 18, 19, 20, 21, 22] rfl rfl rfl rfl (by decide) rfl (fun _ => rfl) rfl rfl rfl rfl hl.1 (Nat.le_of_ble_eq_true rfl) dX11_line_24 (fun r3 u4 H locs p_r3 hP hD hS => ?_)
    have hP : va_P g.1 vwCl (wX11 g a_m u4 J_m) H := hP
    have hD : va_D A (wX11 g a_m u4 J_m) := hD
    refine hret 27 ls r3 _ _ u4 dX11_line_27 hS hP hD ?_
    exact ⟨(MI.st (p_r1.1) p_r3.2), (KK.st (KK.tr (KK.rf I_m) p_r1.2.1 (by decide) (by decide)) p_r3.2 (by decide))⟩
  · have q_5 := bP.t p_r1.2.2 b_5
    refine lv_aload_n hx hb dX11_line_8 rfl (lv_at hl 0 rfl) ?_
    refine lv_aload_n hx hb dX11_line_9 rfl (lv_at hl 0 rfl) ?_
    refine va_get (D := g.1) (ci := 11) (v := .ref (a_m 9)) (C := RX11) (T := TX11) (N := 46) hx hb hi_X11 (fun _ h => h) hown hK.1 hP 0 rfl rfl 24 (by decide) hf_47 (fun _ h9 => h9) rfl dX11_line_10 ?_
    refine lv_iload_n hx hb dX11_line_13 rfl (lv_at hl 1 rfl) ?_
    have n_14 : vp_in line 1300 := (t_in (by omega))
    refine va_iald hx hb hK.1 hP 9 0 rfl rfl n_14 dX11_line_14 ?_
    refine q_nm (fun x5 e_x5 => ?_)
    have e_x5 : x5 = (u2 9) line.toNatClampNeg := e_x5
    have g_x5 : x5.toInt = ((u2 9) line.toNatClampNeg).toInt := congrArg _ e_x5
    refine EffI.cv (wr := ([])) (w' := fun u7 => wX11 g a_m u7 J_m) (As := [.int x5]) (kX11_gives l g a_m u2 J_m x5) fx (gUV (uT _) u_585 u_586 u_587 u_5 u_588) rfl hdX11_gives ⟨Nat.le_of_ble_eq_true rfl, Nat.le_of_ble_eq_true rfl⟩ hK hP hD hS hA [0, 1, 2, 3, 4, 5, 6, 7, 8, 9, 10, 11, 12, 13, 14, 15, 16, 17, 18, 19, 20, 21, 22] [] [0, 1, 2, 3, 4, 5, 6, 7, 8, 9, 10, 11, 12, 13, 14, 15, 16, 17, 18, 19, 20, 21, 22] rfl rfl rfl rfl (by decide) rfl (fun _ => rfl) rfl rfl rfl rfl hl.1 (Nat.le_of_ble_eq_true rfl) dX11_line_15 (fun r6 u7 H locs p_r6 hP hD hS => ?_)
    have hP : va_P g.1 vwCl (wX11 g a_m u7 J_m) H := hP
    have hD : va_D A (wX11 g a_m u7 J_m) := hD
    refine lv_goto (tgt := 27) hx hb dX11_line_18 (by decide) ?_
    refine hret 27 ls r6 _ _ u7 dX11_line_27 hS hP hD ?_
    exact ⟨(MI.st (p_r1.1) p_r6.2), (KK.st (KK.tr (KK.rf I_m) p_r1.2.1 (by decide) (by decide)) p_r6.2 (by decide))⟩

set_option maxHeartbeats 4000000 in
set_option maxRecDepth 100000 in
theorem kX11_lineAt (l : Launch) (g : gG) (a_m : Nat → Nat) (I_m : Nat → Nat → Int32) (J_m : Nat → Nat → Int64) (line : Int32) (k : Int32) (hM : MI I_m) : EffI l g yX11_lineAt wsX11_lineAt 3 [.ref (a_m 0), .int line, .int k] (wX11 g a_m I_m J_m) (fun (u : (Nat → Nat → Int32)) => wX11 g a_m u J_m) (fun r (u : (Nat → Nat → Int32)) => MI (u) ∧ KK [7, 8, 9, 10, 11] [1, 27, 28, 29] I_m (u)) := by
  refine EffI.st (cc := cX11_lineAt) (maxL := 3) (by decide) rfl (Nat.le_of_ble_eq_true rfl) (fun p e s m args below meth c A Q ls fx hK hP hD hA hS hl hret => ?_)
  have hx := fx.1
  have hb := fx.2.1
  have hml := fx.2.2.1
  have hown := fx.2.2.2.1
  have hts := fx.2.2.2.2
  have hl : lv_has ls 3 [(0, .ref (a_m 0)), (1, .int line), (2, .int k)] := hl
  have hP : va_P g.1 vwCl (wX11 g a_m I_m J_m) s.heap := hP
  have hf_41 := hts _ (uT _ _ u_180)
  have hf_44 := hts _ (uT _ _ u_181)
  have hf_47 := hts _ (uT _ _ u_182)
  have hi_X11 : ∀ w ∈ wsX110, w.before args s = true := fun w h => hts w (uT _ w (u_wsX110 w h))
  have lm1 : (-1 : Int32).toInt = -1 := by decide
  have lm0 : (0 : Int32).toInt = 0 := by decide
  have lm2 : (1 : Int32).toInt = 1 := by decide
  have lq6 : (6 : Int32).toInt = 6 := by decide
  have lq1 : (1 : Int32).toInt = 1 := by decide
  refine lv_aload_n hx hb dX11_lineAt_0 rfl (lv_at hl 0 rfl) ?_
  refine lv_iload_n hx hb dX11_lineAt_1 rfl (lv_at hl 1 rfl) ?_
  refine EffI.cv (wr := ([])) (w' := fun u2 => wX11 g a_m u2 J_m) (As := [.int line]) (kX11_isLine l g a_m I_m J_m line hM) fx (gUV (uT _) u_931 u_932 u_933 u_5 u_934) rfl hdX11_isLine ⟨Nat.le_of_ble_eq_true rfl, Nat.le_of_ble_eq_true rfl⟩ hK hP hD hS hA [0, 1, 2, 3, 4, 5, 6, 7, 8, 9, 10, 11, 12, 13, 14, 15, 16, 17, 18, 19, 20, 21, 22] [] [0, 1, 2, 3, 4, 5, 6, 7, 8, 9, 10, 11, 12, 13, 14, 15, 16, 17, 18, 19, 20, 21, 22] rfl rfl rfl rfl (by decide) rfl (fun _ => rfl) rfl rfl rfl rfl hl.1 (Nat.le_of_ble_eq_true rfl) dX11_lineAt_2 (fun r1 u2 H locs p_r1 hP hD hS => ?_)
  have hP : va_P g.1 vwCl (wX11 g a_m u2 J_m) H := hP
  have hD : va_D A (wX11 g a_m u2 J_m) := hD
  have hlg2 := p_r1.1.lg (line).toNatClampNeg
  refine q_if_eq (tgt := 42) hx hb dX11_lineAt_5 (by decide) rfl (fun b_5 k_5 => ?_) (fun b_5 k_5 => ?_)
  · have q_5 := bP.f p_r1.2.2 b_5
    refine lv_aload_n hx hb dX11_lineAt_42 rfl (lv_at hl 0 rfl) ?_
    refine lv_bipush (v := 6) hx hb dX11_lineAt_43 (by decide) ?_
    refine EffI.cv (wr := ([])) (w' := fun u4 => wX11 g a_m u4 J_m) (As := [.int (6 : Int32)]) (kX11_refuse l g a_m u2 J_m (6 : Int32)) fx (gUV (uT _) u_536 u_537 u_538 u_5 u_539) rfl hdX11_refuse ⟨Nat.le_of_ble_eq_true rfl, Nat.le_of_ble_eq_true rfl⟩ hK hP hD hS hA [0, 1, 2, 3, 4, 5, 6, 7, 8, 9, 10, 11, 12, 13, 14, 15, 16, 17, 18, 19, 20, 21, 22] [] [0, 1, 2, 3, 4, 5, 6, 7, 8, 9, 10, 11, 12, 13, 14, 15, 16, 17, 18, 19, 20, 21, 22] rfl rfl rfl rfl (by decide) rfl (fun _ => rfl) rfl rfl rfl rfl hl.1 (Nat.le_of_ble_eq_true rfl) dX11_lineAt_45 (fun r3 u4 H locs p_r3 hP hD hS => ?_)
    have hP : va_P g.1 vwCl (wX11 g a_m u4 J_m) H := hP
    have hD : va_D A (wX11 g a_m u4 J_m) := hD
    refine hret 48 ls r3 _ _ u4 dX11_lineAt_48 hS hP hD ?_
    exact ⟨(MI.st (p_r1.1) p_r3.2), (KK.st (KK.tr (KK.rf I_m) p_r1.2.1 (by decide) (by decide)) p_r3.2 (by decide))⟩
  · have q_5 := bP.t p_r1.2.2 b_5
    refine lv_iload_n hx hb dX11_lineAt_8 rfl (lv_at hl 2 rfl) ?_
    refine q_if_lt (tgt := 42) hx hb dX11_lineAt_9 (by decide) rfl (fun k_9 => ?_) (fun k_9 => ?_)
    · refine lv_aload_n hx hb dX11_lineAt_42 rfl (lv_at hl 0 rfl) ?_
      refine lv_bipush (v := 6) hx hb dX11_lineAt_43 (by decide) ?_
      refine EffI.cv (wr := ([])) (w' := fun u6 => wX11 g a_m u6 J_m) (As := [.int (6 : Int32)]) (kX11_refuse l g a_m u2 J_m (6 : Int32)) fx (gUV (uT _) u_536 u_537 u_538 u_5 u_539) rfl hdX11_refuse ⟨Nat.le_of_ble_eq_true rfl, Nat.le_of_ble_eq_true rfl⟩ hK hP hD hS hA [0, 1, 2, 3, 4, 5, 6, 7, 8, 9, 10, 11, 12, 13, 14, 15, 16, 17, 18, 19, 20, 21, 22] [] [0, 1, 2, 3, 4, 5, 6, 7, 8, 9, 10, 11, 12, 13, 14, 15, 16, 17, 18, 19, 20, 21, 22] rfl rfl rfl rfl (by decide) rfl (fun _ => rfl) rfl rfl rfl rfl hl.1 (Nat.le_of_ble_eq_true rfl) dX11_lineAt_45 (fun r5 u6 H locs p_r5 hP hD hS => ?_)
      have hP : va_P g.1 vwCl (wX11 g a_m u6 J_m) H := hP
      have hD : va_D A (wX11 g a_m u6 J_m) := hD
      refine hret 48 ls r5 _ _ u6 dX11_lineAt_48 hS hP hD ?_
      exact ⟨(MI.st (p_r1.1) p_r5.2), (KK.st (KK.tr (KK.rf I_m) p_r1.2.1 (by decide) (by decide)) p_r5.2 (by decide))⟩
    · refine lv_iload_n hx hb dX11_lineAt_12 rfl (lv_at hl 2 rfl) ?_
      refine lv_aload_n hx hb dX11_lineAt_13 rfl (lv_at hl 0 rfl) ?_
      refine va_get (D := g.1) (ci := 11) (v := .ref (a_m 9)) (C := RX11) (T := TX11) (N := 46) hx hb hi_X11 (fun _ h => h) hown hK.1 hP 0 rfl rfl 24 (by decide) hf_47 (fun _ h9 => h9) rfl dX11_lineAt_14 ?_
      refine lv_iload_n hx hb dX11_lineAt_17 rfl (lv_at hl 1 rfl) ?_
      have n_18 : vp_in line 1300 := (t_in (by omega))
      refine va_iald hx hb hK.1 hP 9 0 rfl rfl n_18 dX11_lineAt_18 ?_
      refine q_nm (fun x7 e_x7 => ?_)
      have e_x7 : x7 = (u2 9) line.toNatClampNeg := e_x7
      have g_x7 : x7.toInt = ((u2 9) line.toNatClampNeg).toInt := congrArg _ e_x7
      refine q_icmp_ge (tgt := 42) hx hb dX11_lineAt_19 (by decide) rfl rfl (fun k_19 => ?_) (fun k_19 => ?_)
      · refine lv_aload_n hx hb dX11_lineAt_42 rfl (lv_at hl 0 rfl) ?_
        refine lv_bipush (v := 6) hx hb dX11_lineAt_43 (by decide) ?_
        refine EffI.cv (wr := ([])) (w' := fun u9 => wX11 g a_m u9 J_m) (As := [.int (6 : Int32)]) (kX11_refuse l g a_m u2 J_m (6 : Int32)) fx (gUV (uT _) u_536 u_537 u_538 u_5 u_539) rfl hdX11_refuse ⟨Nat.le_of_ble_eq_true rfl, Nat.le_of_ble_eq_true rfl⟩ hK hP hD hS hA [0, 1, 2, 3, 4, 5, 6, 7, 8, 9, 10, 11, 12, 13, 14, 15, 16, 17, 18, 19, 20, 21, 22] [] [0, 1, 2, 3, 4, 5, 6, 7, 8, 9, 10, 11, 12, 13, 14, 15, 16, 17, 18, 19, 20, 21, 22] rfl rfl rfl rfl (by decide) rfl (fun _ => rfl) rfl rfl rfl rfl hl.1 (Nat.le_of_ble_eq_true rfl) dX11_lineAt_45 (fun r8 u9 H locs p_r8 hP hD hS => ?_)
        have hP : va_P g.1 vwCl (wX11 g a_m u9 J_m) H := hP
        have hD : va_D A (wX11 g a_m u9 J_m) := hD
        refine hret 48 ls r8 _ _ u9 dX11_lineAt_48 hS hP hD ?_
        exact ⟨(MI.st (p_r1.1) p_r8.2), (KK.st (KK.tr (KK.rf I_m) p_r1.2.1 (by decide) (by decide)) p_r8.2 (by decide))⟩
      · refine lv_aload_n hx hb dX11_lineAt_22 rfl (lv_at hl 0 rfl) ?_
        refine lv_aload_n hx hb dX11_lineAt_23 rfl (lv_at hl 0 rfl) ?_
        refine va_get (D := g.1) (ci := 11) (v := .ref (a_m 7)) (C := RX11) (T := TX11) (N := 46) hx hb hi_X11 (fun _ h => h) hown hK.1 hP 0 rfl rfl 22 (by decide) hf_41 (fun _ h9 => h9) rfl dX11_lineAt_24 ?_
        refine lv_aload_n hx hb dX11_lineAt_27 rfl (lv_at hl 0 rfl) ?_
        refine va_get (D := g.1) (ci := 11) (v := .ref (a_m 8)) (C := RX11) (T := TX11) (N := 46) hx hb hi_X11 (fun _ h => h) hown hK.1 hP 0 rfl rfl 23 (by decide) hf_44 (fun _ h9 => h9) rfl dX11_lineAt_28 ?_
        refine lv_iload_n hx hb dX11_lineAt_31 rfl (lv_at hl 1 rfl) ?_
        have n_32 : vp_in line 1300 := (t_in (by omega))
        refine va_iald hx hb hK.1 hP 8 0 rfl rfl n_32 dX11_lineAt_32 ?_
        refine q_nm (fun x10 e_x10 => ?_)
        have e_x10 : x10 = (u2 8) line.toNatClampNeg := e_x10
        have g_x10 : x10.toInt = ((u2 8) line.toNatClampNeg).toInt := congrArg _ e_x10
        refine lv_iload_n hx hb dX11_lineAt_33 rfl (lv_at hl 2 rfl) ?_
        refine r_iadd hx hb dX11_lineAt_34 rfl rfl (fun x11 e_x11 t_x11 => ?_)
        try have t_x11 := t_x11 (by omega)
        have n_35 : vp_in x11 2600 := (t_in (by omega))
        refine va_iald hx hb hK.1 hP 7 0 rfl rfl n_35 dX11_lineAt_35 ?_
        refine q_nm (fun x12 e_x12 => ?_)
        have e_x12 : x12 = (u2 7) x11.toNatClampNeg := e_x12
        have g_x12 : x12.toInt = ((u2 7) x11.toNatClampNeg).toInt := congrArg _ e_x12
        refine EffI.cv (wr := ([])) (w' := fun u14 => wX11 g a_m u14 J_m) (As := [.int x12]) (kX11_gives l g a_m u2 J_m x12) fx (gUV (uT _) u_585 u_586 u_587 u_5 u_588) rfl hdX11_gives ⟨Nat.le_of_ble_eq_true rfl, Nat.le_of_ble_eq_true rfl⟩ hK hP hD hS hA [0, 1, 2, 3, 4, 5, 6, 7, 8, 9, 10, 11, 12, 13, 14, 15, 16, 17, 18, 19, 20, 21, 22] [] [0, 1, 2, 3, 4, 5, 6, 7, 8, 9, 10, 11, 12, 13, 14, 15, 16, 17, 18, 19, 20, 21, 22] rfl rfl rfl rfl (by decide) rfl (fun _ => rfl) rfl rfl rfl rfl hl.1 (Nat.le_of_ble_eq_true rfl) dX11_lineAt_36 (fun r13 u14 H locs p_r13 hP hD hS => ?_)
        have hP : va_P g.1 vwCl (wX11 g a_m u14 J_m) H := hP
        have hD : va_D A (wX11 g a_m u14 J_m) := hD
        refine lv_goto (tgt := 48) hx hb dX11_lineAt_39 (by decide) ?_
        refine hret 48 ls r13 _ _ u14 dX11_lineAt_48 hS hP hD ?_
        exact ⟨(MI.st (p_r1.1) p_r13.2), (KK.st (KK.tr (KK.rf I_m) p_r1.2.1 (by decide) (by decide)) p_r13.2 (by decide))⟩

set_option maxHeartbeats 4000000 in
set_option maxRecDepth 100000 in
theorem kX11_onPage (l : Launch) (g : gG) (a_m : Nat → Nat) (I_m : Nat → Nat → Int32) (J_m : Nat → Nat → Int64) (page : Int32) (line : Int32) (place : Int32) (hM : MI I_m) : EffI l g yX11_onPage wsX11_onPage 3 [.ref (a_m 0), .int page, .int line, .int place] (wX11 g a_m I_m J_m) (fun (u : (Nat → Nat → Int32)) => wX11 g a_m u J_m) (fun r (u : (Nat → Nat → Int32)) => MI (u) ∧ KK [7, 8, 9, 10, 11] [1, 27, 28, 29] I_m (u)) := by
  refine EffI.st (cc := cX11_onPage) (maxL := 5) (by decide) rfl (Nat.le_of_ble_eq_true rfl) (fun p e s m args below meth c A Q ls fx hK hP hD hA hS hl hret => ?_)
  have hx := fx.1
  have hb := fx.2.1
  have hml := fx.2.2.1
  have hown := fx.2.2.2.1
  have hts := fx.2.2.2.2
  have hl : lv_has ls 5 [(0, .ref (a_m 0)), (1, .int page), (2, .int line), (3, .int place)] := hl
  have hP : va_P g.1 vwCl (wX11 g a_m I_m J_m) s.heap := hP
  have hf_7 := hts _ (uT _ _ u_170)
  have hf_41 := hts _ (uT _ _ u_180)
  have hf_44 := hts _ (uT _ _ u_181)
  have hf_47 := hts _ (uT _ _ u_182)
  have hi_X11 : ∀ w ∈ wsX110, w.before args s = true := fun w h => hts w (uT _ w (u_wsX110 w h))
  have lm1 : (-1 : Int32).toInt = -1 := by decide
  have lm0 : (0 : Int32).toInt = 0 := by decide
  have lm2 : (1 : Int32).toInt = 1 := by decide
  have lq4 : (4 : Int32).toInt = 4 := by decide
  have lq5 : (5 : Int32).toInt = 5 := by decide
  have lq6 : (6 : Int32).toInt = 6 := by decide
  have lq2000 : (2000 : Int32).toInt = 2000 := by decide
  have lq1 : (1 : Int32).toInt = 1 := by decide
  refine lv_iload_n hx hb dX11_onPage_0 rfl (lv_at hl 3 rfl) ?_
  refine q_if_lt (tgt := 28) hx hb dX11_onPage_1 (by decide) rfl (fun k_1 => ?_) (fun k_1 => ?_)
  · refine lv_aload_n hx hb dX11_onPage_28 rfl (lv_at hl 0 rfl) ?_
    refine lv_iconst (v := 1) hx hb dX11_onPage_29 (by decide) ?_
    refine EffI.cv (wr := ([])) (w' := fun u2 => wX11 g a_m u2 J_m) (As := [.int (1 : Int32)]) (kX11_refuse l g a_m I_m J_m (1 : Int32)) fx (gUV (uT _) u_536 u_537 u_538 u_5 u_539) rfl hdX11_refuse ⟨Nat.le_of_ble_eq_true rfl, Nat.le_of_ble_eq_true rfl⟩ hK hP hD hS hA [0, 1, 2, 3, 4, 5, 6, 7, 8, 9, 10, 11, 12, 13, 14, 15, 16, 17, 18, 19, 20, 21, 22] [] [0, 1, 2, 3, 4, 5, 6, 7, 8, 9, 10, 11, 12, 13, 14, 15, 16, 17, 18, 19, 20, 21, 22] rfl rfl rfl rfl (by decide) rfl (fun _ => rfl) rfl rfl rfl rfl hl.1 (Nat.le_of_ble_eq_true rfl) dX11_onPage_30 (fun r1 u2 H locs p_r1 hP hD hS => ?_)
    have hP : va_P g.1 vwCl (wX11 g a_m u2 J_m) H := hP
    have hD : va_D A (wX11 g a_m u2 J_m) := hD
    refine hret 33 ls r1 _ _ u2 dX11_onPage_33 hS hP hD ?_
    exact ⟨(MI.st hM p_r1.2), (KK.st (KK.rf I_m) p_r1.2 (by decide))⟩
  · refine lv_iload_n hx hb dX11_onPage_4 rfl (lv_at hl 3 rfl) ?_
    refine lv_aload_n hx hb dX11_onPage_5 rfl (lv_at hl 0 rfl) ?_
    refine va_get (D := g.1) (ci := 11) (v := .ref (a_m 1)) (C := RX11) (T := TX11) (N := 46) hx hb hi_X11 (fun _ h => h) hown hK.1 hP 0 rfl rfl 0 (by decide) hf_7 (fun _ h9 => h9) rfl dX11_onPage_6 ?_
    refine lv_iconst (v := 4) hx hb dX11_onPage_9 (by decide) ?_
    have n_10 : vp_in (4 : Int32) 19800 := (t_in (by decide))
    refine va_iald hx hb hK.1 hP 1 0 rfl rfl n_10 dX11_onPage_10 ?_
    refine q_nm (fun x3 e_x3 => ?_)
    have e_x3 : x3 = (I_m 1) 4 := e_x3
    have g_x3 : x3.toInt = ((I_m 1) 4).toInt := congrArg _ e_x3
    have f_x3 := MI.line hM e_x3
    refine q_icmp_ge (tgt := 28) hx hb dX11_onPage_11 (by decide) rfl rfl (fun k_11 => ?_) (fun k_11 => ?_)
    · refine lv_aload_n hx hb dX11_onPage_28 rfl (lv_at hl 0 rfl) ?_
      refine lv_iconst (v := 1) hx hb dX11_onPage_29 (by decide) ?_
      refine EffI.cv (wr := ([])) (w' := fun u5 => wX11 g a_m u5 J_m) (As := [.int (1 : Int32)]) (kX11_refuse l g a_m I_m J_m (1 : Int32)) fx (gUV (uT _) u_536 u_537 u_538 u_5 u_539) rfl hdX11_refuse ⟨Nat.le_of_ble_eq_true rfl, Nat.le_of_ble_eq_true rfl⟩ hK hP hD hS hA [0, 1, 2, 3, 4, 5, 6, 7, 8, 9, 10, 11, 12, 13, 14, 15, 16, 17, 18, 19, 20, 21, 22] [] [0, 1, 2, 3, 4, 5, 6, 7, 8, 9, 10, 11, 12, 13, 14, 15, 16, 17, 18, 19, 20, 21, 22] rfl rfl rfl rfl (by decide) rfl (fun _ => rfl) rfl rfl rfl rfl hl.1 (Nat.le_of_ble_eq_true rfl) dX11_onPage_30 (fun r4 u5 H locs p_r4 hP hD hS => ?_)
      have hP : va_P g.1 vwCl (wX11 g a_m u5 J_m) H := hP
      have hD : va_D A (wX11 g a_m u5 J_m) := hD
      refine hret 33 ls r4 _ _ u5 dX11_onPage_33 hS hP hD ?_
      exact ⟨(MI.st hM p_r4.2), (KK.st (KK.rf I_m) p_r4.2 (by decide))⟩
    · refine lv_iload_n hx hb dX11_onPage_14 rfl (lv_at hl 2 rfl) ?_
      refine q_if_lt (tgt := 28) hx hb dX11_onPage_15 (by decide) rfl (fun k_15 => ?_) (fun k_15 => ?_)
      · refine lv_aload_n hx hb dX11_onPage_28 rfl (lv_at hl 0 rfl) ?_
        refine lv_iconst (v := 1) hx hb dX11_onPage_29 (by decide) ?_
        refine EffI.cv (wr := ([])) (w' := fun u7 => wX11 g a_m u7 J_m) (As := [.int (1 : Int32)]) (kX11_refuse l g a_m I_m J_m (1 : Int32)) fx (gUV (uT _) u_536 u_537 u_538 u_5 u_539) rfl hdX11_refuse ⟨Nat.le_of_ble_eq_true rfl, Nat.le_of_ble_eq_true rfl⟩ hK hP hD hS hA [0, 1, 2, 3, 4, 5, 6, 7, 8, 9, 10, 11, 12, 13, 14, 15, 16, 17, 18, 19, 20, 21, 22] [] [0, 1, 2, 3, 4, 5, 6, 7, 8, 9, 10, 11, 12, 13, 14, 15, 16, 17, 18, 19, 20, 21, 22] rfl rfl rfl rfl (by decide) rfl (fun _ => rfl) rfl rfl rfl rfl hl.1 (Nat.le_of_ble_eq_true rfl) dX11_onPage_30 (fun r6 u7 H locs p_r6 hP hD hS => ?_)
        have hP : va_P g.1 vwCl (wX11 g a_m u7 J_m) H := hP
        have hD : va_D A (wX11 g a_m u7 J_m) := hD
        refine hret 33 ls r6 _ _ u7 dX11_onPage_33 hS hP hD ?_
        exact ⟨(MI.st hM p_r6.2), (KK.st (KK.rf I_m) p_r6.2 (by decide))⟩
      · refine lv_iload_n hx hb dX11_onPage_18 rfl (lv_at hl 2 rfl) ?_
        refine lv_aload_n hx hb dX11_onPage_19 rfl (lv_at hl 0 rfl) ?_
        refine va_get (D := g.1) (ci := 11) (v := .ref (a_m 1)) (C := RX11) (T := TX11) (N := 46) hx hb hi_X11 (fun _ h => h) hown hK.1 hP 0 rfl rfl 0 (by decide) hf_7 (fun _ h9 => h9) rfl dX11_onPage_20 ?_
        refine lv_iconst (v := 5) hx hb dX11_onPage_23 (by decide) ?_
        have n_24 : vp_in (5 : Int32) 19800 := (t_in (by decide))
        refine va_iald hx hb hK.1 hP 1 0 rfl rfl n_24 dX11_onPage_24 ?_
        refine q_nm (fun x8 e_x8 => ?_)
        have e_x8 : x8 = (I_m 1) 5 := e_x8
        have g_x8 : x8.toInt = ((I_m 1) 5).toInt := congrArg _ e_x8
        have f_x8 := MI.page hM e_x8
        refine q_icmp_lt (tgt := 34) hx hb dX11_onPage_25 (by decide) rfl rfl (fun k_25 => ?_) (fun k_25 => ?_)
        · have J61 : ∀ (v4_61 : Int32), ∀ (H : Heap) (locs : List Loc), va_P g.1 vwCl (wX11 g a_m I_m J_m) H → va_D A (wX11 g a_m I_m J_m) → va_S A s.heap H locs → ∀ ls : Array Slot, lv_has ls 5 [(0, .ref (a_m 0)), (1, .int page), (2, .int line), (3, .int place), (4, .int v4_61)] → W p l e (rm 3) s m args below meth c H locs 0 0 Q (F0 m 61 ls []) := by
            intro v4_61 H locs hP hD hS ls hl
            refine lv_aload_n hx hb dX11_onPage_61 rfl (lv_at hl 0 rfl) ?_
            refine lv_iload hx hb dX11_onPage_62 (lv_at hl 4 rfl) ?_
            refine EffI.cv (wr := ([])) (w' := fun u10 => wX11 g a_m u10 J_m) (As := [.int v4_61]) (kX11_isLine l g a_m I_m J_m v4_61 hM) fx (gUV (uT _) u_931 u_932 u_933 u_5 u_934) rfl hdX11_isLine ⟨Nat.le_of_ble_eq_true rfl, Nat.le_of_ble_eq_true rfl⟩ hK hP hD hS hA [0, 1, 2, 3, 4, 5, 6, 7, 8, 9, 10, 11, 12, 13, 14, 15, 16, 17, 18, 19, 20, 21, 22] [] [0, 1, 2, 3, 4, 5, 6, 7, 8, 9, 10, 11, 12, 13, 14, 15, 16, 17, 18, 19, 20, 21, 22] rfl rfl rfl rfl (by decide) rfl (fun _ => rfl) rfl rfl rfl rfl hl.1 (Nat.le_of_ble_eq_true rfl) dX11_onPage_64 (fun r9 u10 H locs p_r9 hP hD hS => ?_)
            have hP : va_P g.1 vwCl (wX11 g a_m u10 J_m) H := hP
            have hD : va_D A (wX11 g a_m u10 J_m) := hD
            have hlg64 := p_r9.1.lg (v4_61).toNatClampNeg
            refine q_if_ne (tgt := 77) hx hb dX11_onPage_67 (by decide) rfl (fun b_67 k_67 => ?_) (fun b_67 k_67 => ?_)
            · have q_67 := bP.t p_r9.2.2 b_67
              refine lv_aload_n hx hb dX11_onPage_77 rfl (lv_at hl 0 rfl) ?_
              refine lv_iload_n hx hb dX11_onPage_78 rfl (lv_at hl 3 rfl) ?_
              refine lv_aload_n hx hb dX11_onPage_79 rfl (lv_at hl 0 rfl) ?_
              refine va_get (D := g.1) (ci := 11) (v := .ref (a_m 9)) (C := RX11) (T := TX11) (N := 46) hx hb hi_X11 (fun _ h => h) hown hK.1 hP 0 rfl rfl 24 (by decide) hf_47 (fun _ h9 => h9) rfl dX11_onPage_80 ?_
              refine lv_iload hx hb dX11_onPage_83 (lv_at hl 4 rfl) ?_
              have n_85 : vp_in v4_61 1300 := (t_in (by omega))
              refine va_iald hx hb hK.1 hP 9 0 rfl rfl n_85 dX11_onPage_85 ?_
              refine q_nm (fun x11 e_x11 => ?_)
              have e_x11 : x11 = (u10 9) v4_61.toNatClampNeg := e_x11
              have g_x11 : x11.toInt = ((u10 9) v4_61.toNatClampNeg).toInt := congrArg _ e_x11
              refine q_icmp_ge (tgt := 106) hx hb dX11_onPage_86 (by decide) rfl rfl (fun k_86 => ?_) (fun k_86 => ?_)
              · refine lv_iconst (v := 0) hx hb dX11_onPage_106 (by decide) ?_
                refine EffI.cv (wr := ([])) (w' := fun u13 => wX11 g a_m u13 J_m) (As := [.int (0 : Int32)]) (kX11_gives l g a_m u10 J_m (0 : Int32)) fx (gUV (uT _) u_585 u_586 u_587 u_5 u_588) rfl hdX11_gives ⟨Nat.le_of_ble_eq_true rfl, Nat.le_of_ble_eq_true rfl⟩ hK hP hD hS hA [0, 1, 2, 3, 4, 5, 6, 7, 8, 9, 10, 11, 12, 13, 14, 15, 16, 17, 18, 19, 20, 21, 22] [] [0, 1, 2, 3, 4, 5, 6, 7, 8, 9, 10, 11, 12, 13, 14, 15, 16, 17, 18, 19, 20, 21, 22] rfl rfl rfl rfl (by decide) rfl (fun _ => rfl) rfl rfl rfl rfl hl.1 (Nat.le_of_ble_eq_true rfl) dX11_onPage_107 (fun r12 u13 H locs p_r12 hP hD hS => ?_)
                have hP : va_P g.1 vwCl (wX11 g a_m u13 J_m) H := hP
                have hD : va_D A (wX11 g a_m u13 J_m) := hD
                refine hret 110 ls r12 _ _ u13 dX11_onPage_110 hS hP hD ?_
                exact ⟨(MI.st (p_r9.1) p_r12.2), (KK.st (KK.tr (KK.rf I_m) p_r9.2.1 (by decide) (by decide)) p_r12.2 (by decide))⟩
              · refine lv_aload_n hx hb dX11_onPage_89 rfl (lv_at hl 0 rfl) ?_
                refine va_get (D := g.1) (ci := 11) (v := .ref (a_m 7)) (C := RX11) (T := TX11) (N := 46) hx hb hi_X11 (fun _ h => h) hown hK.1 hP 0 rfl rfl 22 (by decide) hf_41 (fun _ h9 => h9) rfl dX11_onPage_90 ?_
                refine lv_aload_n hx hb dX11_onPage_93 rfl (lv_at hl 0 rfl) ?_
                refine va_get (D := g.1) (ci := 11) (v := .ref (a_m 8)) (C := RX11) (T := TX11) (N := 46) hx hb hi_X11 (fun _ h => h) hown hK.1 hP 0 rfl rfl 23 (by decide) hf_44 (fun _ h9 => h9) rfl dX11_onPage_94 ?_
                refine lv_iload hx hb dX11_onPage_97 (lv_at hl 4 rfl) ?_
                have n_99 : vp_in v4_61 1300 := (t_in (by omega))
                refine va_iald hx hb hK.1 hP 8 0 rfl rfl n_99 dX11_onPage_99 ?_
                refine q_nm (fun x14 e_x14 => ?_)
                have e_x14 : x14 = (u10 8) v4_61.toNatClampNeg := e_x14
                have g_x14 : x14.toInt = ((u10 8) v4_61.toNatClampNeg).toInt := congrArg _ e_x14
                refine lv_iload_n hx hb dX11_onPage_100 rfl (lv_at hl 3 rfl) ?_
                refine r_iadd hx hb dX11_onPage_101 rfl rfl (fun x15 e_x15 t_x15 => ?_)
                try have t_x15 := t_x15 (by omega)
                have n_102 : vp_in x15 2600 := (t_in (by omega))
                refine va_iald hx hb hK.1 hP 7 0 rfl rfl n_102 dX11_onPage_102 ?_
                refine q_nm (fun x16 e_x16 => ?_)
                have e_x16 : x16 = (u10 7) x15.toNatClampNeg := e_x16
                have g_x16 : x16.toInt = ((u10 7) x15.toNatClampNeg).toInt := congrArg _ e_x16
                refine lv_goto (tgt := 107) hx hb dX11_onPage_103 (by decide) ?_
                refine EffI.cv (wr := ([])) (w' := fun u18 => wX11 g a_m u18 J_m) (As := [.int x16]) (kX11_gives l g a_m u10 J_m x16) fx (gUV (uT _) u_585 u_586 u_587 u_5 u_588) rfl hdX11_gives ⟨Nat.le_of_ble_eq_true rfl, Nat.le_of_ble_eq_true rfl⟩ hK hP hD hS hA [0, 1, 2, 3, 4, 5, 6, 7, 8, 9, 10, 11, 12, 13, 14, 15, 16, 17, 18, 19, 20, 21, 22] [] [0, 1, 2, 3, 4, 5, 6, 7, 8, 9, 10, 11, 12, 13, 14, 15, 16, 17, 18, 19, 20, 21, 22] rfl rfl rfl rfl (by decide) rfl (fun _ => rfl) rfl rfl rfl rfl hl.1 (Nat.le_of_ble_eq_true rfl) dX11_onPage_107 (fun r17 u18 H locs p_r17 hP hD hS => ?_)
                have hP : va_P g.1 vwCl (wX11 g a_m u18 J_m) H := hP
                have hD : va_D A (wX11 g a_m u18 J_m) := hD
                refine hret 110 ls r17 _ _ u18 dX11_onPage_110 hS hP hD ?_
                exact ⟨(MI.st (p_r9.1) p_r17.2), (KK.st (KK.tr (KK.rf I_m) p_r9.2.1 (by decide) (by decide)) p_r17.2 (by decide))⟩
            · have q_67 := bP.f p_r9.2.2 b_67
              refine lv_aload_n hx hb dX11_onPage_70 rfl (lv_at hl 0 rfl) ?_
              refine lv_bipush (v := 6) hx hb dX11_onPage_71 (by decide) ?_
              refine EffI.cv (wr := ([])) (w' := fun u20 => wX11 g a_m u20 J_m) (As := [.int (6 : Int32)]) (kX11_refuse l g a_m u10 J_m (6 : Int32)) fx (gUV (uT _) u_536 u_537 u_538 u_5 u_539) rfl hdX11_refuse ⟨Nat.le_of_ble_eq_true rfl, Nat.le_of_ble_eq_true rfl⟩ hK hP hD hS hA [0, 1, 2, 3, 4, 5, 6, 7, 8, 9, 10, 11, 12, 13, 14, 15, 16, 17, 18, 19, 20, 21, 22] [] [0, 1, 2, 3, 4, 5, 6, 7, 8, 9, 10, 11, 12, 13, 14, 15, 16, 17, 18, 19, 20, 21, 22] rfl rfl rfl rfl (by decide) rfl (fun _ => rfl) rfl rfl rfl rfl hl.1 (Nat.le_of_ble_eq_true rfl) dX11_onPage_73 (fun r19 u20 H locs p_r19 hP hD hS => ?_)
              have hP : va_P g.1 vwCl (wX11 g a_m u20 J_m) H := hP
              have hD : va_D A (wX11 g a_m u20 J_m) := hD
              refine hret 76 ls r19 _ _ u20 dX11_onPage_76 hS hP hD ?_
              exact ⟨(MI.st (p_r9.1) p_r19.2), (KK.st (KK.tr (KK.rf I_m) p_r9.2.1 (by decide) (by decide)) p_r19.2 (by decide))⟩
          refine lv_iload_n hx hb dX11_onPage_34 rfl (lv_at hl 1 rfl) ?_
          refine q_if_lt (tgt := 45) hx hb dX11_onPage_35 (by decide) rfl (fun k_35 => ?_) (fun k_35 => ?_)
          · refine lv_iconst (v := -1) hx hb dX11_onPage_45 (by decide) ?_
            refine lv_goto (tgt := 59) hx hb dX11_onPage_46 (by decide) ?_
            refine lv_istore (lv' := [(4, .int (-1 : Int32)), (0, .ref (a_m 0)), (1, .int page), (2, .int line), (3, .int place)]) hx hb dX11_onPage_59 hl (by decide) rfl (fun ls hl => ?_)
            exact J61 (-1 : Int32) _ _ hP hD hS ls (lv_sub hl [1, 2, 3, 4, 0] rfl)
          · refine lv_iload_n hx hb dX11_onPage_38 rfl (lv_at hl 1 rfl) ?_
            refine lv_sipush (v := 2000) hx hb dX11_onPage_39 (by decide) ?_
            refine q_icmp_le (tgt := 49) hx hb dX11_onPage_42 (by decide) rfl (by decide : (2000 : Int32).toInt = 2000) (fun k_42 => ?_) (fun k_42 => ?_)
            · refine lv_iload_n hx hb dX11_onPage_49 rfl (lv_at hl 1 rfl) ?_
              refine lv_aload_n hx hb dX11_onPage_50 rfl (lv_at hl 0 rfl) ?_
              refine va_get (D := g.1) (ci := 11) (v := .ref (a_m 1)) (C := RX11) (T := TX11) (N := 46) hx hb hi_X11 (fun _ h => h) hown hK.1 hP 0 rfl rfl 0 (by decide) hf_7 (fun _ h9 => h9) rfl dX11_onPage_51 ?_
              refine lv_iconst (v := 5) hx hb dX11_onPage_54 (by decide) ?_
              have n_55 : vp_in (5 : Int32) 19800 := (t_in (by decide))
              refine va_iald hx hb hK.1 hP 1 0 rfl rfl n_55 dX11_onPage_55 ?_
              refine q_nm (fun x21 e_x21 => ?_)
              have e_x21 : x21 = (I_m 1) 5 := e_x21
              have g_x21 : x21.toInt = ((I_m 1) 5).toInt := congrArg _ e_x21
              have f_x21 := MI.page hM e_x21
              refine r_imul hx hb dX11_onPage_56 rfl rfl (fun x22 e_x22 t_x22 => ?_)
              try have t_x22 := t_x22 (by omega)
              refine lv_iload_n hx hb dX11_onPage_57 rfl (lv_at hl 2 rfl) ?_
              refine r_iadd hx hb dX11_onPage_58 rfl rfl (fun x23 e_x23 t_x23 => ?_)
              try have t_x23 := t_x23 (by omega)
              refine lv_istore (lv' := [(4, .int x23), (0, .ref (a_m 0)), (1, .int page), (2, .int line), (3, .int place)]) hx hb dX11_onPage_59 hl (by decide) rfl (fun ls hl => ?_)
              exact J61 x23 _ _ hP hD hS ls (lv_sub hl [1, 2, 3, 4, 0] rfl)
            · refine lv_iconst (v := -1) hx hb dX11_onPage_45 (by decide) ?_
              refine lv_goto (tgt := 59) hx hb dX11_onPage_46 (by decide) ?_
              refine lv_istore (lv' := [(4, .int (-1 : Int32)), (0, .ref (a_m 0)), (1, .int page), (2, .int line), (3, .int place)]) hx hb dX11_onPage_59 hl (by decide) rfl (fun ls hl => ?_)
              exact J61 (-1 : Int32) _ _ hP hD hS ls (lv_sub hl [1, 2, 3, 4, 0] rfl)
        · refine lv_aload_n hx hb dX11_onPage_28 rfl (lv_at hl 0 rfl) ?_
          refine lv_iconst (v := 1) hx hb dX11_onPage_29 (by decide) ?_
          refine EffI.cv (wr := ([])) (w' := fun u25 => wX11 g a_m u25 J_m) (As := [.int (1 : Int32)]) (kX11_refuse l g a_m I_m J_m (1 : Int32)) fx (gUV (uT _) u_536 u_537 u_538 u_5 u_539) rfl hdX11_refuse ⟨Nat.le_of_ble_eq_true rfl, Nat.le_of_ble_eq_true rfl⟩ hK hP hD hS hA [0, 1, 2, 3, 4, 5, 6, 7, 8, 9, 10, 11, 12, 13, 14, 15, 16, 17, 18, 19, 20, 21, 22] [] [0, 1, 2, 3, 4, 5, 6, 7, 8, 9, 10, 11, 12, 13, 14, 15, 16, 17, 18, 19, 20, 21, 22] rfl rfl rfl rfl (by decide) rfl (fun _ => rfl) rfl rfl rfl rfl hl.1 (Nat.le_of_ble_eq_true rfl) dX11_onPage_30 (fun r24 u25 H locs p_r24 hP hD hS => ?_)
          have hP : va_P g.1 vwCl (wX11 g a_m u25 J_m) H := hP
          have hD : va_D A (wX11 g a_m u25 J_m) := hD
          refine hret 33 ls r24 _ _ u25 dX11_onPage_33 hS hP hD ?_
          exact ⟨(MI.st hM p_r24.2), (KK.st (KK.rf I_m) p_r24.2 (by decide))⟩

set_option maxHeartbeats 4000000 in
set_option maxRecDepth 100000 in
theorem kX11_hyphens (l : Launch) (g : gG) (a_m : Nat → Nat) (I_m : Nat → Nat → Int32) (J_m : Nat → Nat → Int64) (hM : MI I_m) : EffI l g yX11_hyphens wsX11_hyphens 2 [.ref (a_m 0)] (wX11 g a_m I_m J_m) (fun (u : (Nat → Nat → Int32)) => wX11 g a_m u J_m) (fun r (u : (Nat → Nat → Int32)) => MI (u) ∧ KK [7, 8, 9, 10, 11] [1, 27, 28, 29] I_m (u)) := by
  refine EffI.st (cc := cX11_hyphens) (maxL := 1) (by decide) rfl (Nat.le_of_ble_eq_true rfl) (fun p e s m args below meth c A Q ls fx hK hP hD hA hS hl hret => ?_)
  have hx := fx.1
  have hb := fx.2.1
  have hml := fx.2.2.1
  have hown := fx.2.2.2.1
  have hts := fx.2.2.2.2
  have hl : lv_has ls 1 [(0, .ref (a_m 0))] := hl
  have hP : va_P g.1 vwCl (wX11 g a_m I_m J_m) s.heap := hP
  have hf_318 := hts _ (uT _ _ u_889)
  have hi_X11 : ∀ w ∈ wsX110, w.before args s = true := fun w h => hts w (uT _ w (u_wsX110 w h))
  have lm1 : (-1 : Int32).toInt = -1 := by decide
  have lm0 : (0 : Int32).toInt = 0 := by decide
  have lm2 : (1 : Int32).toInt = 1 := by decide
  have lq6 : (6 : Int32).toInt = 6 := by decide
  have lq1 : (1 : Int32).toInt = 1 := by decide
  refine lv_aload_n hx hb dX11_hyphens_0 rfl (lv_at hl 0 rfl) ?_
  refine PurI.cv (As := []) (kX11_isSet l g a_m I_m J_m hM) fx (gUV (uT _) u_856 u_857 u_858 u_5 u_859) rfl hdX11_isSet ⟨Nat.le_of_ble_eq_true rfl, Nat.le_of_ble_eq_true rfl⟩ hK hP [0, 1, 2, 3, 4, 5, 6, 7, 8, 9, 10, 11, 12, 13, 14, 15, 16, 17, 18, 19, 20, 21, 22] rfl rfl rfl rfl rfl hl.1 (Nat.le_of_ble_eq_true rfl) dX11_hyphens_1 (fun r1 p_r1 => ?_)
  refine q_if_ne (tgt := 14) hx hb dX11_hyphens_4 (by decide) rfl (fun b_4 k_4 => ?_) (fun b_4 k_4 => ?_)
  · have q_4 := bP.t p_r1 b_4
    refine lv_aload_n hx hb dX11_hyphens_14 rfl (lv_at hl 0 rfl) ?_
    refine EffV.cv (wr := ([])) (w' := fun u3 => wX11 g a_m u3 J_m) (As := []) (kX11_laysLines l g a_m I_m J_m hM) fx (gUV (uT _) u_884 u_885 u_886 u_5 u_887) rfl hdX11_laysLines ⟨Nat.le_of_ble_eq_true rfl, Nat.le_of_ble_eq_true rfl⟩ hK hP hD hS hA [0, 1, 2, 3, 4, 5, 6, 7, 8, 9, 10, 11, 12, 13, 14, 15, 16, 17, 18, 19, 20, 21, 22] [] [0, 1, 2, 3, 4, 5, 6, 7, 8, 9, 10, 11, 12, 13, 14, 15, 16, 17, 18, 19, 20, 21, 22] rfl rfl rfl rfl (by decide) rfl (fun _ => rfl) rfl rfl rfl rfl hl.1 (Nat.le_of_ble_eq_true rfl) dX11_hyphens_15 (fun u3 H locs p_r2 hP hD hS => ?_)
    have hP : va_P g.1 vwCl (wX11 g a_m u3 J_m) H := hP
    have hD : va_D A (wX11 g a_m u3 J_m) := hD
    refine lv_aload_n hx hb dX11_hyphens_18 rfl (lv_at hl 0 rfl) ?_
    refine lv_aload_n hx hb dX11_hyphens_19 rfl (lv_at hl 0 rfl) ?_
    refine va_get (D := g.1) (ci := 11) (v := .int (u3 0 29)) (C := RX11) (T := TX11) (N := 46) hx hb hi_X11 (fun _ h => h) hown hK.1 hP 0 rfl rfl 29 (by decide) hf_318 (fun _ h9 => h9) rfl dX11_hyphens_20 ?_
    refine EffI.cv (wr := ([])) (w' := fun u5 => wX11 g a_m u5 J_m) (As := [.int (u3 0 29)]) (kX11_gives l g a_m u3 J_m (u3 0 29)) fx (gUV (uT _) u_585 u_586 u_587 u_5 u_588) rfl hdX11_gives ⟨Nat.le_of_ble_eq_true rfl, Nat.le_of_ble_eq_true rfl⟩ hK hP hD hS hA [0, 1, 2, 3, 4, 5, 6, 7, 8, 9, 10, 11, 12, 13, 14, 15, 16, 17, 18, 19, 20, 21, 22] [] [0, 1, 2, 3, 4, 5, 6, 7, 8, 9, 10, 11, 12, 13, 14, 15, 16, 17, 18, 19, 20, 21, 22] rfl rfl rfl rfl (by decide) rfl (fun _ => rfl) rfl rfl rfl rfl hl.1 (Nat.le_of_ble_eq_true rfl) dX11_hyphens_23 (fun r4 u5 H locs p_r4 hP hD hS => ?_)
    have hP : va_P g.1 vwCl (wX11 g a_m u5 J_m) H := hP
    have hD : va_D A (wX11 g a_m u5 J_m) := hD
    refine hret 26 ls r4 _ _ u5 dX11_hyphens_26 hS hP hD ?_
    exact ⟨(MI.st (p_r2.1) p_r4.2), (KK.st (KK.tr (KK.rf I_m) p_r2.2.1 (by decide) (by decide)) p_r4.2 (by decide))⟩
  · have q_4 := bP.f p_r1 b_4
    refine lv_aload_n hx hb dX11_hyphens_7 rfl (lv_at hl 0 rfl) ?_
    refine lv_bipush (v := 6) hx hb dX11_hyphens_8 (by decide) ?_
    refine EffI.cv (wr := ([])) (w' := fun u7 => wX11 g a_m u7 J_m) (As := [.int (6 : Int32)]) (kX11_refuse l g a_m I_m J_m (6 : Int32)) fx (gUV (uT _) u_536 u_537 u_538 u_5 u_539) rfl hdX11_refuse ⟨Nat.le_of_ble_eq_true rfl, Nat.le_of_ble_eq_true rfl⟩ hK hP hD hS hA [0, 1, 2, 3, 4, 5, 6, 7, 8, 9, 10, 11, 12, 13, 14, 15, 16, 17, 18, 19, 20, 21, 22] [] [0, 1, 2, 3, 4, 5, 6, 7, 8, 9, 10, 11, 12, 13, 14, 15, 16, 17, 18, 19, 20, 21, 22] rfl rfl rfl rfl (by decide) rfl (fun _ => rfl) rfl rfl rfl rfl hl.1 (Nat.le_of_ble_eq_true rfl) dX11_hyphens_10 (fun r6 u7 H locs p_r6 hP hD hS => ?_)
    have hP : va_P g.1 vwCl (wX11 g a_m u7 J_m) H := hP
    have hD : va_D A (wX11 g a_m u7 J_m) := hD
    refine hret 13 ls r6 _ _ u7 dX11_hyphens_13 hS hP hD ?_
    exact ⟨(MI.st hM p_r6.2), (KK.st (KK.rf I_m) p_r6.2 (by decide))⟩

set_option maxHeartbeats 4000000 in
set_option maxRecDepth 100000 in
theorem kX11_used (l : Launch) (g : gG) (a_m : Nat → Nat) (I_m : Nat → Nat → Int32) (J_m : Nat → Nat → Int64) (rule : Int32) (hM : MI I_m) : EffI l g yX11_used wsX11_used 1 [.ref (a_m 0), .int rule] (wX11 g a_m I_m J_m) (fun (u : (Nat → Nat → Int32)) => wX11 g a_m u J_m) (fun r (u : (Nat → Nat → Int32)) => KK [] [1] I_m (u)) := by
  refine EffI.st (cc := cX11_used) (maxL := 2) (by decide) rfl (Nat.le_of_ble_eq_true rfl) (fun p e s m args below meth c A Q ls fx hK hP hD hA hS hl hret => ?_)
  have hx := fx.1
  have hb := fx.2.1
  have hml := fx.2.2.1
  have hown := fx.2.2.2.1
  have hts := fx.2.2.2.2
  have hl : lv_has ls 2 [(0, .ref (a_m 0)), (1, .int rule)] := hl
  have hP : va_P g.1 vwCl (wX11 g a_m I_m J_m) s.heap := hP
  have hf_7 := hts _ (uT _ _ u_170)
  have hi_X11 : ∀ w ∈ wsX110, w.before args s = true := fun w h => hts w (uT _ w (u_wsX110 w h))
  have lm1 : (-1 : Int32).toInt = -1 := by decide
  have lm0 : (0 : Int32).toInt = 0 := by decide
  have lm2 : (1 : Int32).toInt = 1 := by decide
  have lq6 : (6 : Int32).toInt = 6 := by decide
  have lq2010 : (2010 : Int32).toInt = 2010 := by decide
  have lq1 : (1 : Int32).toInt = 1 := by decide
  have hmn := hM.many rfl
  refine lv_aload_n hx hb dX11_used_0 rfl (lv_at hl 0 rfl) ?_
  refine lv_iload_n hx hb dX11_used_1 rfl (lv_at hl 1 rfl) ?_
  refine PurI.cv (As := [.int rule]) (kX11_isRule l g a_m I_m J_m rule hM) fx (gUV (uT _) u_804 u_805 u_806 u_5 u_807) rfl hdX11_isRule ⟨Nat.le_of_ble_eq_true rfl, Nat.le_of_ble_eq_true rfl⟩ hK hP [0, 1, 2, 3, 4, 5, 6, 7, 8, 9, 10, 11, 12, 13, 14, 15, 16, 17, 18, 19, 20, 21, 22] rfl rfl rfl rfl rfl hl.1 (Nat.le_of_ble_eq_true rfl) dX11_used_2 (fun r1 p_r1 => ?_)
  refine q_if_ne (tgt := 16) hx hb dX11_used_5 (by decide) rfl (fun b_5 k_5 => ?_) (fun b_5 k_5 => ?_)
  · have q_5 := bP.t p_r1 b_5
    refine lv_aload_n hx hb dX11_used_16 rfl (lv_at hl 0 rfl) ?_
    refine PurI.cv (As := []) (kX11_isSet l g a_m I_m J_m hM) fx (gUV (uT _) u_856 u_857 u_858 u_5 u_859) rfl hdX11_isSet ⟨Nat.le_of_ble_eq_true rfl, Nat.le_of_ble_eq_true rfl⟩ hK hP [0, 1, 2, 3, 4, 5, 6, 7, 8, 9, 10, 11, 12, 13, 14, 15, 16, 17, 18, 19, 20, 21, 22] rfl rfl rfl rfl rfl hl.1 (Nat.le_of_ble_eq_true rfl) dX11_used_17 (fun r2 p_r2 => ?_)
    refine q_if_eq (tgt := 40) hx hb dX11_used_20 (by decide) rfl (fun b_20 k_20 => ?_) (fun b_20 k_20 => ?_)
    · have q_20 := bP.f p_r2 b_20
      refine lv_aload_n hx hb dX11_used_40 rfl (lv_at hl 0 rfl) ?_
      refine lv_bipush (v := 6) hx hb dX11_used_41 (by decide) ?_
      refine EffI.cv (wr := ([])) (w' := fun u4 => wX11 g a_m u4 J_m) (As := [.int (6 : Int32)]) (kX11_refuse l g a_m I_m J_m (6 : Int32)) fx (gUV (uT _) u_536 u_537 u_538 u_5 u_539) rfl hdX11_refuse ⟨Nat.le_of_ble_eq_true rfl, Nat.le_of_ble_eq_true rfl⟩ hK hP hD hS hA [0, 1, 2, 3, 4, 5, 6, 7, 8, 9, 10, 11, 12, 13, 14, 15, 16, 17, 18, 19, 20, 21, 22] [] [0, 1, 2, 3, 4, 5, 6, 7, 8, 9, 10, 11, 12, 13, 14, 15, 16, 17, 18, 19, 20, 21, 22] rfl rfl rfl rfl (by decide) rfl (fun _ => rfl) rfl rfl rfl rfl hl.1 (Nat.le_of_ble_eq_true rfl) dX11_used_43 (fun r3 u4 H locs p_r3 hP hD hS => ?_)
      have hP : va_P g.1 vwCl (wX11 g a_m u4 J_m) H := hP
      have hD : va_D A (wX11 g a_m u4 J_m) := hD
      refine hret 46 ls r3 _ _ u4 dX11_used_46 hS hP hD ?_
      exact (KK.st (KK.rf I_m) p_r3.2 (by decide))
    · have q_20 := bP.t p_r2 b_20
      refine lv_aload_n hx hb dX11_used_23 rfl (lv_at hl 0 rfl) ?_
      refine lv_aload_n hx hb dX11_used_24 rfl (lv_at hl 0 rfl) ?_
      refine va_get (D := g.1) (ci := 11) (v := .ref (a_m 1)) (C := RX11) (T := TX11) (N := 46) hx hb hi_X11 (fun _ h => h) hown hK.1 hP 0 rfl rfl 0 (by decide) hf_7 (fun _ h9 => h9) rfl dX11_used_25 ?_
      refine lv_sipush (v := 2010) hx hb dX11_used_28 (by decide) ?_
      refine lv_iload_n hx hb dX11_used_31 rfl (lv_at hl 1 rfl) ?_
      refine r_iadd hx hb dX11_used_32 (by decide : (2010 : Int32).toInt = 2010) rfl (fun x5 e_x5 t_x5 => ?_)
      try have t_x5 := t_x5 (by omega)
      have n_33 : vp_in x5 19800 := (t_in (by omega))
      refine va_iald hx hb hK.1 hP 1 0 rfl rfl n_33 dX11_used_33 ?_
      refine q_nm (fun x6 e_x6 => ?_)
      have e_x6 : x6 = (I_m 1) x5.toNatClampNeg := e_x6
      have g_x6 : x6.toInt = ((I_m 1) x5.toNatClampNeg).toInt := congrArg _ e_x6
      refine EffI.cv (wr := ([])) (w' := fun u8 => wX11 g a_m u8 J_m) (As := [.int x6]) (kX11_gives l g a_m I_m J_m x6) fx (gUV (uT _) u_585 u_586 u_587 u_5 u_588) rfl hdX11_gives ⟨Nat.le_of_ble_eq_true rfl, Nat.le_of_ble_eq_true rfl⟩ hK hP hD hS hA [0, 1, 2, 3, 4, 5, 6, 7, 8, 9, 10, 11, 12, 13, 14, 15, 16, 17, 18, 19, 20, 21, 22] [] [0, 1, 2, 3, 4, 5, 6, 7, 8, 9, 10, 11, 12, 13, 14, 15, 16, 17, 18, 19, 20, 21, 22] rfl rfl rfl rfl (by decide) rfl (fun _ => rfl) rfl rfl rfl rfl hl.1 (Nat.le_of_ble_eq_true rfl) dX11_used_34 (fun r7 u8 H locs p_r7 hP hD hS => ?_)
      have hP : va_P g.1 vwCl (wX11 g a_m u8 J_m) H := hP
      have hD : va_D A (wX11 g a_m u8 J_m) := hD
      refine lv_goto (tgt := 46) hx hb dX11_used_37 (by decide) ?_
      refine hret 46 ls r7 _ _ u8 dX11_used_46 hS hP hD ?_
      exact (KK.st (KK.rf I_m) p_r7.2 (by decide))
  · have q_5 := bP.f p_r1 b_5
    refine lv_aload_n hx hb dX11_used_8 rfl (lv_at hl 0 rfl) ?_
    refine lv_iconst (v := 1) hx hb dX11_used_9 (by decide) ?_
    refine EffI.cv (wr := ([])) (w' := fun u10 => wX11 g a_m u10 J_m) (As := [.int (1 : Int32)]) (kX11_refuse l g a_m I_m J_m (1 : Int32)) fx (gUV (uT _) u_536 u_537 u_538 u_5 u_539) rfl hdX11_refuse ⟨Nat.le_of_ble_eq_true rfl, Nat.le_of_ble_eq_true rfl⟩ hK hP hD hS hA [0, 1, 2, 3, 4, 5, 6, 7, 8, 9, 10, 11, 12, 13, 14, 15, 16, 17, 18, 19, 20, 21, 22] [] [0, 1, 2, 3, 4, 5, 6, 7, 8, 9, 10, 11, 12, 13, 14, 15, 16, 17, 18, 19, 20, 21, 22] rfl rfl rfl rfl (by decide) rfl (fun _ => rfl) rfl rfl rfl rfl hl.1 (Nat.le_of_ble_eq_true rfl) dX11_used_10 (fun r9 u10 H locs p_r9 hP hD hS => ?_)
    have hP : va_P g.1 vwCl (wX11 g a_m u10 J_m) H := hP
    have hD : va_D A (wX11 g a_m u10 J_m) := hD
    refine lv_goto (tgt := 46) hx hb dX11_used_13 (by decide) ?_
    refine hret 46 ls r9 _ _ u10 dX11_used_46 hS hP hD ?_
    exact (KK.st (KK.rf I_m) p_r9.2 (by decide))

set_option maxHeartbeats 4000000 in
set_option maxRecDepth 100000 in
theorem kX11_useless (l : Launch) (g : gG) (a_m : Nat → Nat) (I_m : Nat → Nat → Int32) (J_m : Nat → Nat → Int64) (hM : MI I_m) : EffI l g yX11_useless wsX11_useless 1 [.ref (a_m 0)] (wX11 g a_m I_m J_m) (fun (u : (Nat → Nat → Int32)) => wX11 g a_m u J_m) (fun r (u : (Nat → Nat → Int32)) => KK [] [1] I_m (u)) := by
  refine EffI.st (cc := cX11_useless) (maxL := 3) (by decide) rfl (Nat.le_of_ble_eq_true rfl) (fun p e s m args below meth c A Q ls fx hK hP hD hA hS hl hret => ?_)
  have hx := fx.1
  have hb := fx.2.1
  have hml := fx.2.2.1
  have hown := fx.2.2.2.1
  have hts := fx.2.2.2.2
  have hl : lv_has ls 3 [(0, .ref (a_m 0))] := hl
  have hP : va_P g.1 vwCl (wX11 g a_m I_m J_m) s.heap := hP
  have hf_7 := hts _ (uT _ _ u_170)
  have hi_X11 : ∀ w ∈ wsX110, w.before args s = true := fun w h => hts w (uT _ w (u_wsX110 w h))
  have lm1 : (-1 : Int32).toInt = -1 := by decide
  have lm0 : (0 : Int32).toInt = 0 := by decide
  have lm2 : (1 : Int32).toInt = 1 := by decide
  have lq6 : (6 : Int32).toInt = 6 := by decide
  have lq2010 : (2010 : Int32).toInt = 2010 := by decide
  have lq1 : (1 : Int32).toInt = 1 := by decide
  have hmn := hM.many rfl
  refine lv_aload_n hx hb dX11_useless_0 rfl (lv_at hl 0 rfl) ?_
  refine PurI.cv (As := []) (kX11_isSet l g a_m I_m J_m hM) fx (gUV (uT _) u_856 u_857 u_858 u_5 u_859) rfl hdX11_isSet ⟨Nat.le_of_ble_eq_true rfl, Nat.le_of_ble_eq_true rfl⟩ hK hP [0, 1, 2, 3, 4, 5, 6, 7, 8, 9, 10, 11, 12, 13, 14, 15, 16, 17, 18, 19, 20, 21, 22] rfl rfl rfl rfl rfl hl.1 (Nat.le_of_ble_eq_true rfl) dX11_useless_1 (fun r1 p_r1 => ?_)
  refine q_if_ne (tgt := 14) hx hb dX11_useless_4 (by decide) rfl (fun b_4 k_4 => ?_) (fun b_4 k_4 => ?_)
  · have q_4 := bP.t p_r1 b_4
    refine lv_iconst (v := 0) hx hb dX11_useless_14 (by decide) ?_
    refine lv_istore_n (lv' := [(1, .int (0 : Int32)), (0, .ref (a_m 0))]) hx hb dX11_useless_15 rfl hl (by decide) rfl (fun ls hl => ?_)
    refine lv_iconst (v := 0) hx hb dX11_useless_16 (by decide) ?_
    refine lv_istore_n (lv' := [(2, .int (0 : Int32)), (1, .int (0 : Int32)), (0, .ref (a_m 0))]) hx hb dX11_useless_17 rfl hl (by decide) rfl (fun ls hl => ?_)
    have L18 : ∀ (nn : Nat) (v1_18 : Int32) (v2_18 : Int32), (hv_18 : 0 ≤ v2_18.toInt ∧ v2_18.toInt ≤ 24) → ((25 - v2_18.toInt) < (nn : Int)) → ∀ (H : Heap) (locs : List Loc), va_P g.1 vwCl (wX11 g a_m I_m J_m) H → va_D A (wX11 g a_m I_m J_m) → va_S A s.heap H locs → ∀ ls : Array Slot, lv_has ls 3 [(2, .int v2_18), (1, .int v1_18), (0, .ref (a_m 0))] → W p l e (rm 1) s m args below meth c H locs 0 0 Q (F0 m 18 ls []) := by
      intro n_18
      induction n_18 with
      | zero =>
        intro v1_18 v2_18 hv_18 hms_18 H locs hP hD hS ls hl
        exfalso; omega
      | succ n_18 ih_18 =>
        intro v1_18 v2_18 hv_18 hms_18 H locs hP hD hS ls hl
        refine lv_iload_n hx hb dX11_useless_18 rfl (lv_at hl 0 rfl) ?_
        refine lv_aload_n hx hb dX11_useless_19 rfl (lv_at hl 2 rfl) ?_
        refine va_get (D := g.1) (ci := 11) (v := .ref (a_m 1)) (C := RX11) (T := TX11) (N := 46) hx hb hi_X11 (fun _ h => h) hown hK.1 hP 0 rfl rfl 0 (by decide) hf_7 (fun _ h9 => h9) rfl dX11_useless_20 ?_
        refine lv_iconst (v := 0) hx hb dX11_useless_23 (by decide) ?_
        have n_24 : vp_in (0 : Int32) 19800 := (t_in (by decide))
        refine va_iald hx hb hK.1 hP 1 0 rfl rfl n_24 dX11_useless_24 ?_
        refine q_nm (fun x2 e_x2 => ?_)
        have e_x2 : x2 = (I_m 1) 0 := e_x2
        have g_x2 : x2.toInt = ((I_m 1) 0).toInt := congrArg _ e_x2
        have f_x2 := MI.many hM e_x2
        refine q_icmp_ge (tgt := 71) hx hb dX11_useless_25 (by decide) rfl rfl (fun k_25 => ?_) (fun k_25 => ?_)
        · refine lv_aload_n hx hb dX11_useless_71 rfl (lv_at hl 2 rfl) ?_
          refine lv_iload_n hx hb dX11_useless_72 rfl (lv_at hl 1 rfl) ?_
          refine EffI.cv (wr := ([])) (w' := fun u4 => wX11 g a_m u4 J_m) (As := [.int v1_18]) (kX11_gives l g a_m I_m J_m v1_18) fx (gUV (uT _) u_585 u_586 u_587 u_5 u_588) rfl hdX11_gives ⟨Nat.le_of_ble_eq_true rfl, Nat.le_of_ble_eq_true rfl⟩ hK hP hD hS hA [0, 1, 2, 3, 4, 5, 6, 7, 8, 9, 10, 11, 12, 13, 14, 15, 16, 17, 18, 19, 20, 21, 22] [] [0, 1, 2, 3, 4, 5, 6, 7, 8, 9, 10, 11, 12, 13, 14, 15, 16, 17, 18, 19, 20, 21, 22] rfl rfl rfl rfl (by decide) rfl (fun _ => rfl) rfl rfl rfl rfl hl.1 (Nat.le_of_ble_eq_true rfl) dX11_useless_73 (fun r3 u4 H locs p_r3 hP hD hS => ?_)
          have hP : va_P g.1 vwCl (wX11 g a_m u4 J_m) H := hP
          have hD : va_D A (wX11 g a_m u4 J_m) := hD
          refine hret 76 ls r3 _ _ u4 dX11_useless_76 hS hP hD ?_
          exact (KK.st (KK.rf I_m) p_r3.2 (by decide))
        · refine lv_iload_n hx hb dX11_useless_28 rfl (lv_at hl 1 rfl) ?_
          refine lv_aload_n hx hb dX11_useless_29 rfl (lv_at hl 2 rfl) ?_
          refine va_get (D := g.1) (ci := 11) (v := .ref (a_m 1)) (C := RX11) (T := TX11) (N := 46) hx hb hi_X11 (fun _ h => h) hown hK.1 hP 0 rfl rfl 0 (by decide) hf_7 (fun _ h9 => h9) rfl dX11_useless_30 ?_
          refine lv_bipush (v := 6) hx hb dX11_useless_33 (by decide) ?_
          have n_35 : vp_in (6 : Int32) 19800 := (t_in (by decide))
          refine va_iald hx hb hK.1 hP 1 0 rfl rfl n_35 dX11_useless_35 ?_
          refine q_nm (fun x5 e_x5 => ?_)
          have e_x5 : x5 = (I_m 1) 6 := e_x5
          have g_x5 : x5.toInt = ((I_m 1) 6).toInt := congrArg _ e_x5
          refine lv_iload_n hx hb dX11_useless_36 rfl (lv_at hl 0 rfl) ?_
          refine PurI.cs (C := RX11) (As := [.int x5, .int v2_18]) (kX11_isOut l g x5 v2_18) fx (gUS (uT _) u_740 u_741 u_5 u_742) rfl hdX11_isOut ⟨Nat.le_of_ble_eq_true rfl, Nat.le_of_ble_eq_true rfl⟩ hK hP [] rfl rfl rfl hl.1 (Nat.le_of_ble_eq_true rfl) dX11_useless_37 (fun r6 p_r6 => ?_)
          refine q_if_ne (tgt := 62) hx hb dX11_useless_40 (by decide) rfl (fun b_40 k_40 => ?_) (fun b_40 k_40 => ?_)
          · have q_40 := bP.t p_r6 b_40
            refine lv_iconst (v := 0) hx hb dX11_useless_62 (by decide) ?_
            refine lv_ior hx hb dX11_useless_63 ?_
            refine q_nm (fun x7 e_x7 => ?_)
            refine lv_istore_n (lv' := [(1, .int x7), (2, .int v2_18), (0, .ref (a_m 0))]) hx hb dX11_useless_64 rfl hl (by decide) rfl (fun ls hl => ?_)
            refine r_iinc (lv' := fun i8 => [(2, .int i8), (1, .int x7), (0, .ref (a_m 0))]) hx hb dX11_useless_65 hl (k := 1) rfl (by decide) rfl (by decide) (fun _ => rfl) (fun i8 e_i8 t_i8 ls hl => ?_)
            try have t_i8 := t_i8 (by omega)
            refine lv_goto (tgt := 18) hx hb dX11_useless_68 (by decide) ?_
            exact ih_18 x7 i8 (by omega) (by omega) _ _ hP hD hS ls hl
          · have q_40 := bP.f p_r6 b_40
            refine lv_aload_n hx hb dX11_useless_43 rfl (lv_at hl 2 rfl) ?_
            refine va_get (D := g.1) (ci := 11) (v := .ref (a_m 1)) (C := RX11) (T := TX11) (N := 46) hx hb hi_X11 (fun _ h => h) hown hK.1 hP 0 rfl rfl 0 (by decide) hf_7 (fun _ h9 => h9) rfl dX11_useless_44 ?_
            refine lv_sipush (v := 2010) hx hb dX11_useless_47 (by decide) ?_
            refine lv_iload_n hx hb dX11_useless_50 rfl (lv_at hl 0 rfl) ?_
            refine r_iadd hx hb dX11_useless_51 (by decide : (2010 : Int32).toInt = 2010) rfl (fun x9 e_x9 t_x9 => ?_)
            try have t_x9 := t_x9 (by omega)
            have n_52 : vp_in x9 19800 := (t_in (by omega))
            refine va_iald hx hb hK.1 hP 1 0 rfl rfl n_52 dX11_useless_52 ?_
            refine q_nm (fun x10 e_x10 => ?_)
            have e_x10 : x10 = (I_m 1) x9.toNatClampNeg := e_x10
            have g_x10 : x10.toInt = ((I_m 1) x9.toNatClampNeg).toInt := congrArg _ e_x10
            refine q_if_ne (tgt := 62) hx hb dX11_useless_53 (by decide) rfl (fun b_53 k_53 => ?_) (fun b_53 k_53 => ?_)
            · refine lv_iconst (v := 0) hx hb dX11_useless_62 (by decide) ?_
              refine lv_ior hx hb dX11_useless_63 ?_
              refine q_nm (fun x11 e_x11 => ?_)
              refine lv_istore_n (lv' := [(1, .int x11), (2, .int v2_18), (0, .ref (a_m 0))]) hx hb dX11_useless_64 rfl hl (by decide) rfl (fun ls hl => ?_)
              refine r_iinc (lv' := fun i12 => [(2, .int i12), (1, .int x11), (0, .ref (a_m 0))]) hx hb dX11_useless_65 hl (k := 1) rfl (by decide) rfl (by decide) (fun _ => rfl) (fun i12 e_i12 t_i12 ls hl => ?_)
              try have t_i12 := t_i12 (by omega)
              refine lv_goto (tgt := 18) hx hb dX11_useless_68 (by decide) ?_
              exact ih_18 x11 i12 (by omega) (by omega) _ _ hP hD hS ls hl
            · refine lv_iconst (v := 1) hx hb dX11_useless_56 (by decide) ?_
              refine lv_iload_n hx hb dX11_useless_57 rfl (lv_at hl 0 rfl) ?_
              refine lv_ishl hx hb dX11_useless_58 ?_
              refine q_nm (fun x13 e_x13 => ?_)
              refine lv_goto (tgt := 63) hx hb dX11_useless_59 (by decide) ?_
              refine lv_ior hx hb dX11_useless_63 ?_
              refine q_nm (fun x14 e_x14 => ?_)
              refine lv_istore_n (lv' := [(1, .int x14), (2, .int v2_18), (0, .ref (a_m 0))]) hx hb dX11_useless_64 rfl hl (by decide) rfl (fun ls hl => ?_)
              refine r_iinc (lv' := fun i15 => [(2, .int i15), (1, .int x14), (0, .ref (a_m 0))]) hx hb dX11_useless_65 hl (k := 1) rfl (by decide) rfl (by decide) (fun _ => rfl) (fun i15 e_i15 t_i15 ls hl => ?_)
              try have t_i15 := t_i15 (by omega)
              refine lv_goto (tgt := 18) hx hb dX11_useless_68 (by decide) ?_
              exact ih_18 x14 i15 (by omega) (by omega) _ _ hP hD hS ls hl
    exact L18 ((25 - (0 : Int32).toInt) + 1).toNat (0 : Int32) (0 : Int32) (by omega) (by omega) _ _ hP hD hS ls hl
  · have q_4 := bP.f p_r1 b_4
    refine lv_aload_n hx hb dX11_useless_7 rfl (lv_at hl 0 rfl) ?_
    refine lv_bipush (v := 6) hx hb dX11_useless_8 (by decide) ?_
    refine EffI.cv (wr := ([])) (w' := fun u17 => wX11 g a_m u17 J_m) (As := [.int (6 : Int32)]) (kX11_refuse l g a_m I_m J_m (6 : Int32)) fx (gUV (uT _) u_536 u_537 u_538 u_5 u_539) rfl hdX11_refuse ⟨Nat.le_of_ble_eq_true rfl, Nat.le_of_ble_eq_true rfl⟩ hK hP hD hS hA [0, 1, 2, 3, 4, 5, 6, 7, 8, 9, 10, 11, 12, 13, 14, 15, 16, 17, 18, 19, 20, 21, 22] [] [0, 1, 2, 3, 4, 5, 6, 7, 8, 9, 10, 11, 12, 13, 14, 15, 16, 17, 18, 19, 20, 21, 22] rfl rfl rfl rfl (by decide) rfl (fun _ => rfl) rfl rfl rfl rfl hl.1 (Nat.le_of_ble_eq_true rfl) dX11_useless_10 (fun r16 u17 H locs p_r16 hP hD hS => ?_)
    have hP : va_P g.1 vwCl (wX11 g a_m u17 J_m) H := hP
    have hD : va_D A (wX11 g a_m u17 J_m) := hD
    refine hret 13 ls r16 _ _ u17 dX11_useless_13 hS hP hD ?_
    exact (KK.st (KK.rf I_m) p_r16.2 (by decide))

set_option maxHeartbeats 4000000 in
set_option maxRecDepth 100000 in
theorem kX11_bits (l : Launch) (g : gG) (v : Int32) (h_v : 0 ≤ v.toInt) : PurI l g yX11_bits wsX11_bits 0 [.int v] ([]) (fun r => (v.toInt < 64 → r.toInt = popI v)) := by
  refine PurI.st (cc := cX11_bits) (maxL := 3) (by decide) rfl (Nat.le_of_ble_eq_true rfl) (fun p e s m args below meth c Q ls fx hK hP hl hret => ?_)
  have hx := fx.1
  have hb := fx.2.1
  have hml := fx.2.2.1
  have hown := fx.2.2.2.1
  have hts := fx.2.2.2.2
  have hl : lv_has ls 3 [(0, .int v)] := hl
  have hP : va_P g.1 vwCl ([]) s.heap := hP
  have lm1 : (-1 : Int32).toInt = -1 := by decide
  have lm0 : (0 : Int32).toInt = 0 := by decide
  have lm2 : (1 : Int32).toInt = 1 := by decide
  have lq1 : (1 : Int32).toInt = 1 := by decide
  refine lv_iconst (v := 0) hx hb dX11_bits_0 (by decide) ?_
  refine lv_istore_n (lv' := [(1, .int (0 : Int32)), (0, .int v)]) hx hb dX11_bits_1 rfl hl (by decide) rfl (fun ls hl => ?_)
  refine lv_iload_n hx hb dX11_bits_2 rfl (lv_at hl 1 rfl) ?_
  refine lv_istore_n (lv' := [(2, .int v), (1, .int (0 : Int32)), (0, .int v)]) hx hb dX11_bits_3 rfl hl (by decide) rfl (fun ls hl => ?_)
  have L4 : ∀ (nn : Nat) (v1_4 : Int32) (v2_4 : Int32), (hv_4 : 0 ≤ v2_4.toInt) → (hb9_4 : 0 ≤ v1_4.toInt ∧ v1_4.toInt + v2_4.toInt ≤ v.toInt) → (hp9_4 : v.toInt < 64 → v1_4.toInt + popI v2_4 = popI v ∧ v2_4.toInt < 64) → (v2_4.toInt < (nn : Int)) → ∀ ls : Array Slot, lv_has ls 3 [(2, .int v2_4), (1, .int v1_4), (0, .int v)] → W p l e (rm 0) s m args below meth c s.heap [] 0 0 Q (F0 m 4 ls []) := by
    intro n_4
    induction n_4 with
    | zero =>
      intro v1_4 v2_4 hv_4 hb9_4 hp9_4 hms_4 ls hl
      exfalso; omega
    | succ n_4 ih_4 =>
      intro v1_4 v2_4 hv_4 hb9_4 hp9_4 hms_4 ls hl
      have rgv := t_rng v2_4
      have rgv9 := t_rng v
      refine lv_iload_n hx hb dX11_bits_4 rfl (lv_at hl 0 rfl) ?_
      refine q_if_eq (tgt := 20) hx hb dX11_bits_5 (by decide) rfl (fun b_5 k_5 => ?_) (fun b_5 k_5 => ?_)
      · refine lv_iload_n hx hb dX11_bits_20 rfl (lv_at hl 1 rfl) ?_
        exact hret 21 ls v1_4 dX11_bits_21 (fun q => by have w := hp9_4 q; have z := pop_0 (x := v2_4) (by omega); omega)
      · refine r_iinc (lv' := fun i1 => [(1, .int i1), (2, .int v2_4), (0, .int v)]) hx hb dX11_bits_8 hl (k := 1) rfl (by decide) rfl (by decide) (fun _ => rfl) (fun i1 e_i1 t_i1 ls hl => ?_)
        try have t_i1 := t_i1 (by omega)
        refine lv_iload_n hx hb dX11_bits_11 rfl (lv_at hl 1 rfl) ?_
        refine lv_iload_n hx hb dX11_bits_12 rfl (lv_at hl 1 rfl) ?_
        refine lv_iconst (v := 1) hx hb dX11_bits_13 (by decide) ?_
        refine r_isub hx hb dX11_bits_14 rfl (by decide : (1 : Int32).toInt = 1) (fun x2 e_x2 t_x2 => ?_)
        try have t_x2 := t_x2 (by omega)
        refine lv_iand hx hb dX11_bits_15 ?_
        refine q_nm (fun x3 e_x3 => ?_)
        have d_x3 := and_dec e_x3 (by omega) (by omega)
        refine lv_istore_n (lv' := [(2, .int x3), (1, .int i1), (0, .int v)]) hx hb dX11_bits_16 rfl hl (by decide) rfl (fun ls hl => ?_)
        refine lv_goto (tgt := 4) hx hb dX11_bits_17 (by decide) ?_
        exact ih_4 i1 x3 (by omega) (by omega) (fun q => by have w := hp9_4 q; have s9 := pop_st (x := v2_4) (by omega) (by omega) e_x3; exact ⟨by omega, s9.2⟩) (by omega) ls hl
  exact L4 (v.toInt + 1).toNat (0 : Int32) v (by omega) (by omega) (fun q => ⟨by rw [lm0, Int.zero_add], q⟩) (by omega) ls hl

set_option maxHeartbeats 4000000 in
set_option maxRecDepth 100000 in
theorem kX11_dots (l : Launch) (g : gG) (a_m : Nat → Nat) (I_m : Nat → Nat → Int32) (J_m : Nat → Nat → Int64) (hM : MI I_m) : EffI l g yX11_dots wsX11_dots 1 [.ref (a_m 0)] (wX11 g a_m I_m J_m) (fun (u : (Nat → Nat → Int32)) => wX11 g a_m u J_m) (fun r (u : (Nat → Nat → Int32)) => KK [] [1] I_m (u)) := by
  refine EffI.st (cc := cX11_dots) (maxL := 3) (by decide) rfl (Nat.le_of_ble_eq_true rfl) (fun p e s m args below meth c A Q ls fx hK hP hD hA hS hl hret => ?_)
  have hx := fx.1
  have hb := fx.2.1
  have hml := fx.2.2.1
  have hown := fx.2.2.2.1
  have hts := fx.2.2.2.2
  have hl : lv_has ls 3 [(0, .ref (a_m 0))] := hl
  have hP : va_P g.1 vwCl (wX11 g a_m I_m J_m) s.heap := hP
  have hf_7 := hts _ (uT _ _ u_170)
  have hi_X11 : ∀ w ∈ wsX110, w.before args s = true := fun w h => hts w (uT _ w (u_wsX110 w h))
  have lm1 : (-1 : Int32).toInt = -1 := by decide
  have lm0 : (0 : Int32).toInt = 0 := by decide
  have lm2 : (1 : Int32).toInt = 1 := by decide
  have lq6 : (6 : Int32).toInt = 6 := by decide
  have lq600 : (600 : Int32).toInt = 600 := by decide
  have lq8 : (8 : Int32).toInt = 8 := by decide
  have lq1 : (1 : Int32).toInt = 1 := by decide
  refine lv_aload_n hx hb dX11_dots_0 rfl (lv_at hl 0 rfl) ?_
  refine PurI.cv (As := []) (kX11_isSet l g a_m I_m J_m hM) fx (gUV (uT _) u_856 u_857 u_858 u_5 u_859) rfl hdX11_isSet ⟨Nat.le_of_ble_eq_true rfl, Nat.le_of_ble_eq_true rfl⟩ hK hP [0, 1, 2, 3, 4, 5, 6, 7, 8, 9, 10, 11, 12, 13, 14, 15, 16, 17, 18, 19, 20, 21, 22] rfl rfl rfl rfl rfl hl.1 (Nat.le_of_ble_eq_true rfl) dX11_dots_1 (fun r1 p_r1 => ?_)
  refine q_if_ne (tgt := 14) hx hb dX11_dots_4 (by decide) rfl (fun b_4 k_4 => ?_) (fun b_4 k_4 => ?_)
  · have q_4 := bP.t p_r1 b_4
    refine lv_iconst (v := 0) hx hb dX11_dots_14 (by decide) ?_
    refine lv_istore_n (lv' := [(1, .int (0 : Int32)), (0, .ref (a_m 0))]) hx hb dX11_dots_15 rfl hl (by decide) rfl (fun ls hl => ?_)
    refine lv_iconst (v := 0) hx hb dX11_dots_16 (by decide) ?_
    refine lv_istore_n (lv' := [(2, .int (0 : Int32)), (1, .int (0 : Int32)), (0, .ref (a_m 0))]) hx hb dX11_dots_17 rfl hl (by decide) rfl (fun ls hl => ?_)
    have L18 : ∀ (nn : Nat) (v1_18 : Int32) (v2_18 : Int32), (hv_18 : 0 ≤ v2_18.toInt ∧ v2_18.toInt ≤ 1200) → ((1201 - v2_18.toInt) < (nn : Int)) → ∀ (H : Heap) (locs : List Loc), va_P g.1 vwCl (wX11 g a_m I_m J_m) H → va_D A (wX11 g a_m I_m J_m) → va_S A s.heap H locs → ∀ ls : Array Slot, lv_has ls 3 [(2, .int v2_18), (1, .int v1_18), (0, .ref (a_m 0))] → W p l e (rm 1) s m args below meth c H locs 0 0 Q (F0 m 18 ls []) := by
      intro n_18
      induction n_18 with
      | zero =>
        intro v1_18 v2_18 hv_18 hms_18 H locs hP hD hS ls hl
        exfalso; omega
      | succ n_18 ih_18 =>
        intro v1_18 v2_18 hv_18 hms_18 H locs hP hD hS ls hl
        refine lv_iload_n hx hb dX11_dots_18 rfl (lv_at hl 0 rfl) ?_
        refine lv_aload_n hx hb dX11_dots_19 rfl (lv_at hl 2 rfl) ?_
        refine va_get (D := g.1) (ci := 11) (v := .ref (a_m 1)) (C := RX11) (T := TX11) (N := 46) hx hb hi_X11 (fun _ h => h) hown hK.1 hP 0 rfl rfl 0 (by decide) hf_7 (fun _ h9 => h9) rfl dX11_dots_20 ?_
        refine lv_bipush (v := 8) hx hb dX11_dots_23 (by decide) ?_
        have n_25 : vp_in (8 : Int32) 19800 := (t_in (by decide))
        refine va_iald hx hb hK.1 hP 1 0 rfl rfl n_25 dX11_dots_25 ?_
        refine q_nm (fun x2 e_x2 => ?_)
        have e_x2 : x2 = (I_m 1) 8 := e_x2
        have g_x2 : x2.toInt = ((I_m 1) 8).toInt := congrArg _ e_x2
        have f_x2 := MI.set hM e_x2
        refine q_icmp_ge (tgt := 51) hx hb dX11_dots_26 (by decide) rfl rfl (fun k_26 => ?_) (fun k_26 => ?_)
        · refine lv_aload_n hx hb dX11_dots_51 rfl (lv_at hl 2 rfl) ?_
          refine lv_iload_n hx hb dX11_dots_52 rfl (lv_at hl 1 rfl) ?_
          refine EffI.cv (wr := ([])) (w' := fun u4 => wX11 g a_m u4 J_m) (As := [.int v1_18]) (kX11_gives l g a_m I_m J_m v1_18) fx (gUV (uT _) u_585 u_586 u_587 u_5 u_588) rfl hdX11_gives ⟨Nat.le_of_ble_eq_true rfl, Nat.le_of_ble_eq_true rfl⟩ hK hP hD hS hA [0, 1, 2, 3, 4, 5, 6, 7, 8, 9, 10, 11, 12, 13, 14, 15, 16, 17, 18, 19, 20, 21, 22] [] [0, 1, 2, 3, 4, 5, 6, 7, 8, 9, 10, 11, 12, 13, 14, 15, 16, 17, 18, 19, 20, 21, 22] rfl rfl rfl rfl (by decide) rfl (fun _ => rfl) rfl rfl rfl rfl hl.1 (Nat.le_of_ble_eq_true rfl) dX11_dots_53 (fun r3 u4 H locs p_r3 hP hD hS => ?_)
          have hP : va_P g.1 vwCl (wX11 g a_m u4 J_m) H := hP
          have hD : va_D A (wX11 g a_m u4 J_m) := hD
          refine hret 56 ls r3 _ _ u4 dX11_dots_56 hS hP hD ?_
          exact (KK.st (KK.rf I_m) p_r3.2 (by decide))
        · refine lv_iload_n hx hb dX11_dots_29 rfl (lv_at hl 1 rfl) ?_
          refine lv_aload_n hx hb dX11_dots_30 rfl (lv_at hl 2 rfl) ?_
          refine va_get (D := g.1) (ci := 11) (v := .ref (a_m 1)) (C := RX11) (T := TX11) (N := 46) hx hb hi_X11 (fun _ h => h) hown hK.1 hP 0 rfl rfl 0 (by decide) hf_7 (fun _ h9 => h9) rfl dX11_dots_31 ?_
          refine lv_sipush (v := 600) hx hb dX11_dots_34 (by decide) ?_
          refine lv_iload_n hx hb dX11_dots_37 rfl (lv_at hl 0 rfl) ?_
          refine r_iadd hx hb dX11_dots_38 (by decide : (600 : Int32).toInt = 600) rfl (fun x5 e_x5 t_x5 => ?_)
          try have t_x5 := t_x5 (by omega)
          have n_39 : vp_in x5 19800 := (t_in (by omega))
          refine va_iald hx hb hK.1 hP 1 0 rfl rfl n_39 dX11_dots_39 ?_
          refine q_nm (fun x6 e_x6 => ?_)
          have e_x6 : x6 = (I_m 1) x5.toNatClampNeg := e_x6
          have g_x6 : x6.toInt = ((I_m 1) x5.toNatClampNeg).toInt := congrArg _ e_x6
          have f_x6 := hM.cell (k := v2_18.toInt) e_x6 (by omega) (by omega)
          refine PurI.cs (C := RX11) (As := [.int x6]) (kX11_bits l g x6 (by omega)) fx (gUS (uT _) u_1009 u_1010 u_5 u_1011) rfl hdX11_bits ⟨Nat.le_of_ble_eq_true rfl, Nat.le_of_ble_eq_true rfl⟩ hK hP [] rfl rfl rfl hl.1 (Nat.le_of_ble_eq_true rfl) dX11_dots_40 (fun r7 p_r7 => ?_)
          refine r_iadd hx hb dX11_dots_43 rfl rfl (fun x8 e_x8 t_x8 => ?_)
          try have t_x8 := t_x8 (by omega)
          refine lv_istore_n (lv' := [(1, .int x8), (2, .int v2_18), (0, .ref (a_m 0))]) hx hb dX11_dots_44 rfl hl (by decide) rfl (fun ls hl => ?_)
          refine r_iinc (lv' := fun i9 => [(2, .int i9), (1, .int x8), (0, .ref (a_m 0))]) hx hb dX11_dots_45 hl (k := 1) rfl (by decide) rfl (by decide) (fun _ => rfl) (fun i9 e_i9 t_i9 ls hl => ?_)
          try have t_i9 := t_i9 (by omega)
          refine lv_goto (tgt := 18) hx hb dX11_dots_48 (by decide) ?_
          exact ih_18 x8 i9 (by omega) (by omega) _ _ hP hD hS ls hl
    exact L18 ((1201 - (0 : Int32).toInt) + 1).toNat (0 : Int32) (0 : Int32) (by omega) (by omega) _ _ hP hD hS ls hl
  · have q_4 := bP.f p_r1 b_4
    refine lv_aload_n hx hb dX11_dots_7 rfl (lv_at hl 0 rfl) ?_
    refine lv_bipush (v := 6) hx hb dX11_dots_8 (by decide) ?_
    refine EffI.cv (wr := ([])) (w' := fun u11 => wX11 g a_m u11 J_m) (As := [.int (6 : Int32)]) (kX11_refuse l g a_m I_m J_m (6 : Int32)) fx (gUV (uT _) u_536 u_537 u_538 u_5 u_539) rfl hdX11_refuse ⟨Nat.le_of_ble_eq_true rfl, Nat.le_of_ble_eq_true rfl⟩ hK hP hD hS hA [0, 1, 2, 3, 4, 5, 6, 7, 8, 9, 10, 11, 12, 13, 14, 15, 16, 17, 18, 19, 20, 21, 22] [] [0, 1, 2, 3, 4, 5, 6, 7, 8, 9, 10, 11, 12, 13, 14, 15, 16, 17, 18, 19, 20, 21, 22] rfl rfl rfl rfl (by decide) rfl (fun _ => rfl) rfl rfl rfl rfl hl.1 (Nat.le_of_ble_eq_true rfl) dX11_dots_10 (fun r10 u11 H locs p_r10 hP hD hS => ?_)
    have hP : va_P g.1 vwCl (wX11 g a_m u11 J_m) H := hP
    have hD : va_D A (wX11 g a_m u11 J_m) := hD
    refine hret 13 ls r10 _ _ u11 dX11_dots_13 hS hP hD ?_
    exact (KK.st (KK.rf I_m) p_r10.2 (by decide))

set_option maxHeartbeats 4000000 in
set_option maxRecDepth 100000 in
theorem kX11_piece (l : Launch) (g : gG) (a_m : Nat → Nat) (I_m : Nat → Nat → Int32) (J_m : Nat → Nat → Int64) (k : Int32) (what : Int32) (hM : MI I_m) : EffI l g yX11_piece wsX11_piece 2 [.ref (a_m 0), .int k, .int what] (wX11 g a_m I_m J_m) (fun (u : (Nat → Nat → Int32)) => wX11 g a_m u J_m) (fun r (u : (Nat → Nat → Int32)) => MI (u) ∧ KK [7, 8, 9, 10, 11] [1, 27, 28, 29] I_m (u)) := by
  refine EffI.st (cc := cX11_piece) (maxL := 3) (by decide) rfl (Nat.le_of_ble_eq_true rfl) (fun p e s m args below meth c A Q ls fx hK hP hD hA hS hl hret => ?_)
  have hx := fx.1
  have hb := fx.2.1
  have hml := fx.2.2.1
  have hown := fx.2.2.2.1
  have hts := fx.2.2.2.2
  have hl : lv_has ls 3 [(0, .ref (a_m 0)), (1, .int k), (2, .int what)] := hl
  have hP : va_P g.1 vwCl (wX11 g a_m I_m J_m) s.heap := hP
  have hf_7 := hts _ (uT _ _ u_170)
  have hf_50 := hts _ (uT _ _ u_183)
  have hi_X11 : ∀ w ∈ wsX110, w.before args s = true := fun w h => hts w (uT _ w (u_wsX110 w h))
  have lm1 : (-1 : Int32).toInt = -1 := by decide
  have lm0 : (0 : Int32).toInt = 0 := by decide
  have lm2 : (1 : Int32).toInt = 1 := by decide
  have lq6 : (6 : Int32).toInt = 6 := by decide
  have lq9 : (9 : Int32).toInt = 9 := by decide
  have lq1 : (1 : Int32).toInt = 1 := by decide
  refine lv_iload_n hx hb dX11_piece_0 rfl (lv_at hl 2 rfl) ?_
  refine q_if_lt (tgt := 9) hx hb dX11_piece_1 (by decide) rfl (fun k_1 => ?_) (fun k_1 => ?_)
  · refine lv_aload_n hx hb dX11_piece_9 rfl (lv_at hl 0 rfl) ?_
    refine lv_iconst (v := 1) hx hb dX11_piece_10 (by decide) ?_
    refine EffI.cv (wr := ([])) (w' := fun u2 => wX11 g a_m u2 J_m) (As := [.int (1 : Int32)]) (kX11_refuse l g a_m I_m J_m (1 : Int32)) fx (gUV (uT _) u_536 u_537 u_538 u_5 u_539) rfl hdX11_refuse ⟨Nat.le_of_ble_eq_true rfl, Nat.le_of_ble_eq_true rfl⟩ hK hP hD hS hA [0, 1, 2, 3, 4, 5, 6, 7, 8, 9, 10, 11, 12, 13, 14, 15, 16, 17, 18, 19, 20, 21, 22] [] [0, 1, 2, 3, 4, 5, 6, 7, 8, 9, 10, 11, 12, 13, 14, 15, 16, 17, 18, 19, 20, 21, 22] rfl rfl rfl rfl (by decide) rfl (fun _ => rfl) rfl rfl rfl rfl hl.1 (Nat.le_of_ble_eq_true rfl) dX11_piece_11 (fun r1 u2 H locs p_r1 hP hD hS => ?_)
    have hP : va_P g.1 vwCl (wX11 g a_m u2 J_m) H := hP
    have hD : va_D A (wX11 g a_m u2 J_m) := hD
    refine hret 14 ls r1 _ _ u2 dX11_piece_14 hS hP hD ?_
    exact ⟨(MI.st hM p_r1.2), (KK.st (KK.rf I_m) p_r1.2 (by decide))⟩
  · refine lv_iload_n hx hb dX11_piece_4 rfl (lv_at hl 2 rfl) ?_
    refine lv_iconst (v := 1) hx hb dX11_piece_5 (by decide) ?_
    refine q_icmp_le (tgt := 15) hx hb dX11_piece_6 (by decide) rfl (by decide : (1 : Int32).toInt = 1) (fun k_6 => ?_) (fun k_6 => ?_)
    · refine lv_aload_n hx hb dX11_piece_15 rfl (lv_at hl 0 rfl) ?_
      refine PurI.cv (As := []) (kX11_isSet l g a_m I_m J_m hM) fx (gUV (uT _) u_856 u_857 u_858 u_5 u_859) rfl hdX11_isSet ⟨Nat.le_of_ble_eq_true rfl, Nat.le_of_ble_eq_true rfl⟩ hK hP [0, 1, 2, 3, 4, 5, 6, 7, 8, 9, 10, 11, 12, 13, 14, 15, 16, 17, 18, 19, 20, 21, 22] rfl rfl rfl rfl rfl hl.1 (Nat.le_of_ble_eq_true rfl) dX11_piece_16 (fun r3 p_r3 => ?_)
      refine q_if_eq (tgt := 37) hx hb dX11_piece_19 (by decide) rfl (fun b_19 k_19 => ?_) (fun b_19 k_19 => ?_)
      · have q_19 := bP.f p_r3 b_19
        refine lv_aload_n hx hb dX11_piece_37 rfl (lv_at hl 0 rfl) ?_
        refine lv_bipush (v := 6) hx hb dX11_piece_38 (by decide) ?_
        refine EffI.cv (wr := ([])) (w' := fun u5 => wX11 g a_m u5 J_m) (As := [.int (6 : Int32)]) (kX11_refuse l g a_m I_m J_m (6 : Int32)) fx (gUV (uT _) u_536 u_537 u_538 u_5 u_539) rfl hdX11_refuse ⟨Nat.le_of_ble_eq_true rfl, Nat.le_of_ble_eq_true rfl⟩ hK hP hD hS hA [0, 1, 2, 3, 4, 5, 6, 7, 8, 9, 10, 11, 12, 13, 14, 15, 16, 17, 18, 19, 20, 21, 22] [] [0, 1, 2, 3, 4, 5, 6, 7, 8, 9, 10, 11, 12, 13, 14, 15, 16, 17, 18, 19, 20, 21, 22] rfl rfl rfl rfl (by decide) rfl (fun _ => rfl) rfl rfl rfl rfl hl.1 (Nat.le_of_ble_eq_true rfl) dX11_piece_40 (fun r4 u5 H locs p_r4 hP hD hS => ?_)
        have hP : va_P g.1 vwCl (wX11 g a_m u5 J_m) H := hP
        have hD : va_D A (wX11 g a_m u5 J_m) := hD
        refine hret 43 ls r4 _ _ u5 dX11_piece_43 hS hP hD ?_
        exact ⟨(MI.st hM p_r4.2), (KK.st (KK.rf I_m) p_r4.2 (by decide))⟩
      · have q_19 := bP.t p_r3 b_19
        refine lv_iload_n hx hb dX11_piece_22 rfl (lv_at hl 1 rfl) ?_
        refine q_if_lt (tgt := 37) hx hb dX11_piece_23 (by decide) rfl (fun k_23 => ?_) (fun k_23 => ?_)
        · refine lv_aload_n hx hb dX11_piece_37 rfl (lv_at hl 0 rfl) ?_
          refine lv_bipush (v := 6) hx hb dX11_piece_38 (by decide) ?_
          refine EffI.cv (wr := ([])) (w' := fun u7 => wX11 g a_m u7 J_m) (As := [.int (6 : Int32)]) (kX11_refuse l g a_m I_m J_m (6 : Int32)) fx (gUV (uT _) u_536 u_537 u_538 u_5 u_539) rfl hdX11_refuse ⟨Nat.le_of_ble_eq_true rfl, Nat.le_of_ble_eq_true rfl⟩ hK hP hD hS hA [0, 1, 2, 3, 4, 5, 6, 7, 8, 9, 10, 11, 12, 13, 14, 15, 16, 17, 18, 19, 20, 21, 22] [] [0, 1, 2, 3, 4, 5, 6, 7, 8, 9, 10, 11, 12, 13, 14, 15, 16, 17, 18, 19, 20, 21, 22] rfl rfl rfl rfl (by decide) rfl (fun _ => rfl) rfl rfl rfl rfl hl.1 (Nat.le_of_ble_eq_true rfl) dX11_piece_40 (fun r6 u7 H locs p_r6 hP hD hS => ?_)
          have hP : va_P g.1 vwCl (wX11 g a_m u7 J_m) H := hP
          have hD : va_D A (wX11 g a_m u7 J_m) := hD
          refine hret 43 ls r6 _ _ u7 dX11_piece_43 hS hP hD ?_
          exact ⟨(MI.st hM p_r6.2), (KK.st (KK.rf I_m) p_r6.2 (by decide))⟩
        · refine lv_iload_n hx hb dX11_piece_26 rfl (lv_at hl 1 rfl) ?_
          refine lv_aload_n hx hb dX11_piece_27 rfl (lv_at hl 0 rfl) ?_
          refine va_get (D := g.1) (ci := 11) (v := .ref (a_m 1)) (C := RX11) (T := TX11) (N := 46) hx hb hi_X11 (fun _ h => h) hown hK.1 hP 0 rfl rfl 0 (by decide) hf_7 (fun _ h9 => h9) rfl dX11_piece_28 ?_
          refine lv_bipush (v := 9) hx hb dX11_piece_31 (by decide) ?_
          have n_33 : vp_in (9 : Int32) 19800 := (t_in (by decide))
          refine va_iald hx hb hK.1 hP 1 0 rfl rfl n_33 dX11_piece_33 ?_
          refine q_nm (fun x8 e_x8 => ?_)
          have e_x8 : x8 = (I_m 1) 9 := e_x8
          have g_x8 : x8.toInt = ((I_m 1) 9).toInt := congrArg _ e_x8
          have f_x8 := MI.pcs hM e_x8
          refine q_icmp_lt (tgt := 44) hx hb dX11_piece_34 (by decide) rfl rfl (fun k_34 => ?_) (fun k_34 => ?_)
          · refine lv_aload_n hx hb dX11_piece_44 rfl (lv_at hl 0 rfl) ?_
            refine EffV.cv (wr := ([])) (w' := fun u10 => wX11 g a_m u10 J_m) (As := []) (kX11_laysLines l g a_m I_m J_m hM) fx (gUV (uT _) u_884 u_885 u_886 u_5 u_887) rfl hdX11_laysLines ⟨Nat.le_of_ble_eq_true rfl, Nat.le_of_ble_eq_true rfl⟩ hK hP hD hS hA [0, 1, 2, 3, 4, 5, 6, 7, 8, 9, 10, 11, 12, 13, 14, 15, 16, 17, 18, 19, 20, 21, 22] [] [0, 1, 2, 3, 4, 5, 6, 7, 8, 9, 10, 11, 12, 13, 14, 15, 16, 17, 18, 19, 20, 21, 22] rfl rfl rfl rfl (by decide) rfl (fun _ => rfl) rfl rfl rfl rfl hl.1 (Nat.le_of_ble_eq_true rfl) dX11_piece_45 (fun u10 H locs p_r9 hP hD hS => ?_)
            have hP : va_P g.1 vwCl (wX11 g a_m u10 J_m) H := hP
            have hD : va_D A (wX11 g a_m u10 J_m) := hD
            refine lv_aload_n hx hb dX11_piece_48 rfl (lv_at hl 0 rfl) ?_
            refine lv_iload_n hx hb dX11_piece_49 rfl (lv_at hl 2 rfl) ?_
            refine q_if_ne (tgt := 61) hx hb dX11_piece_50 (by decide) rfl (fun b_50 k_50 => ?_) (fun b_50 k_50 => ?_)
            · refine lv_aload_n hx hb dX11_piece_61 rfl (lv_at hl 0 rfl) ?_
              refine va_get (D := g.1) (ci := 11) (v := .ref (a_m 10)) (C := RX11) (T := TX11) (N := 46) hx hb hi_X11 (fun _ h => h) hown hK.1 hP 0 rfl rfl 25 (by decide) hf_50 (fun _ h9 => h9) rfl dX11_piece_62 ?_
              refine lv_iload_n hx hb dX11_piece_65 rfl (lv_at hl 1 rfl) ?_
              have n_66 : vp_in k 160 := (t_in (by omega))
              refine va_iald hx hb hK.1 hP 10 0 rfl rfl n_66 dX11_piece_66 ?_
              refine q_nm (fun x11 e_x11 => ?_)
              have e_x11 : x11 = (u10 10) k.toNatClampNeg := e_x11
              have g_x11 : x11.toInt = ((u10 10) k.toNatClampNeg).toInt := congrArg _ e_x11
              refine EffI.cv (wr := ([])) (w' := fun u13 => wX11 g a_m u13 J_m) (As := [.int x11]) (kX11_gives l g a_m u10 J_m x11) fx (gUV (uT _) u_585 u_586 u_587 u_5 u_588) rfl hdX11_gives ⟨Nat.le_of_ble_eq_true rfl, Nat.le_of_ble_eq_true rfl⟩ hK hP hD hS hA [0, 1, 2, 3, 4, 5, 6, 7, 8, 9, 10, 11, 12, 13, 14, 15, 16, 17, 18, 19, 20, 21, 22] [] [0, 1, 2, 3, 4, 5, 6, 7, 8, 9, 10, 11, 12, 13, 14, 15, 16, 17, 18, 19, 20, 21, 22] rfl rfl rfl rfl (by decide) rfl (fun _ => rfl) rfl rfl rfl rfl hl.1 (Nat.le_of_ble_eq_true rfl) dX11_piece_67 (fun r12 u13 H locs p_r12 hP hD hS => ?_)
              have hP : va_P g.1 vwCl (wX11 g a_m u13 J_m) H := hP
              have hD : va_D A (wX11 g a_m u13 J_m) := hD
              refine hret 70 ls r12 _ _ u13 dX11_piece_70 hS hP hD ?_
              exact ⟨(MI.st (p_r9.1) p_r12.2), (KK.st (KK.tr (KK.rf I_m) p_r9.2.1 (by decide) (by decide)) p_r12.2 (by decide))⟩
            · refine lv_aload_n hx hb dX11_piece_53 rfl (lv_at hl 0 rfl) ?_
              refine lv_iload_n hx hb dX11_piece_54 rfl (lv_at hl 1 rfl) ?_
              refine PurI.cv (As := [.int k]) (kX11_pieceMany l g a_m u10 J_m k (p_r9.1) (by rw [p_r9.2.1.row 1 (by decide)]; omega)) fx (gUV (uT _) u_890 u_891 u_892 u_5 u_893) rfl hdX11_pieceMany ⟨Nat.le_of_ble_eq_true rfl, Nat.le_of_ble_eq_true rfl⟩ hK hP [0, 1, 2, 3, 4, 5, 6, 7, 8, 9, 10, 11, 12, 13, 14, 15, 16, 17, 18, 19, 20, 21, 22] rfl rfl rfl rfl rfl hl.1 (Nat.le_of_ble_eq_true rfl) dX11_piece_55 (fun r14 p_r14 => ?_)
              refine lv_goto (tgt := 67) hx hb dX11_piece_58 (by decide) ?_
              refine EffI.cv (wr := ([])) (w' := fun u16 => wX11 g a_m u16 J_m) (As := [.int r14]) (kX11_gives l g a_m u10 J_m r14) fx (gUV (uT _) u_585 u_586 u_587 u_5 u_588) rfl hdX11_gives ⟨Nat.le_of_ble_eq_true rfl, Nat.le_of_ble_eq_true rfl⟩ hK hP hD hS hA [0, 1, 2, 3, 4, 5, 6, 7, 8, 9, 10, 11, 12, 13, 14, 15, 16, 17, 18, 19, 20, 21, 22] [] [0, 1, 2, 3, 4, 5, 6, 7, 8, 9, 10, 11, 12, 13, 14, 15, 16, 17, 18, 19, 20, 21, 22] rfl rfl rfl rfl (by decide) rfl (fun _ => rfl) rfl rfl rfl rfl hl.1 (Nat.le_of_ble_eq_true rfl) dX11_piece_67 (fun r15 u16 H locs p_r15 hP hD hS => ?_)
              have hP : va_P g.1 vwCl (wX11 g a_m u16 J_m) H := hP
              have hD : va_D A (wX11 g a_m u16 J_m) := hD
              refine hret 70 ls r15 _ _ u16 dX11_piece_70 hS hP hD ?_
              exact ⟨(MI.st (p_r9.1) p_r15.2), (KK.st (KK.tr (KK.rf I_m) p_r9.2.1 (by decide) (by decide)) p_r15.2 (by decide))⟩
          · refine lv_aload_n hx hb dX11_piece_37 rfl (lv_at hl 0 rfl) ?_
            refine lv_bipush (v := 6) hx hb dX11_piece_38 (by decide) ?_
            refine EffI.cv (wr := ([])) (w' := fun u18 => wX11 g a_m u18 J_m) (As := [.int (6 : Int32)]) (kX11_refuse l g a_m I_m J_m (6 : Int32)) fx (gUV (uT _) u_536 u_537 u_538 u_5 u_539) rfl hdX11_refuse ⟨Nat.le_of_ble_eq_true rfl, Nat.le_of_ble_eq_true rfl⟩ hK hP hD hS hA [0, 1, 2, 3, 4, 5, 6, 7, 8, 9, 10, 11, 12, 13, 14, 15, 16, 17, 18, 19, 20, 21, 22] [] [0, 1, 2, 3, 4, 5, 6, 7, 8, 9, 10, 11, 12, 13, 14, 15, 16, 17, 18, 19, 20, 21, 22] rfl rfl rfl rfl (by decide) rfl (fun _ => rfl) rfl rfl rfl rfl hl.1 (Nat.le_of_ble_eq_true rfl) dX11_piece_40 (fun r17 u18 H locs p_r17 hP hD hS => ?_)
            have hP : va_P g.1 vwCl (wX11 g a_m u18 J_m) H := hP
            have hD : va_D A (wX11 g a_m u18 J_m) := hD
            refine hret 43 ls r17 _ _ u18 dX11_piece_43 hS hP hD ?_
            exact ⟨(MI.st hM p_r17.2), (KK.st (KK.rf I_m) p_r17.2 (by decide))⟩
    · refine lv_aload_n hx hb dX11_piece_9 rfl (lv_at hl 0 rfl) ?_
      refine lv_iconst (v := 1) hx hb dX11_piece_10 (by decide) ?_
      refine EffI.cv (wr := ([])) (w' := fun u20 => wX11 g a_m u20 J_m) (As := [.int (1 : Int32)]) (kX11_refuse l g a_m I_m J_m (1 : Int32)) fx (gUV (uT _) u_536 u_537 u_538 u_5 u_539) rfl hdX11_refuse ⟨Nat.le_of_ble_eq_true rfl, Nat.le_of_ble_eq_true rfl⟩ hK hP hD hS hA [0, 1, 2, 3, 4, 5, 6, 7, 8, 9, 10, 11, 12, 13, 14, 15, 16, 17, 18, 19, 20, 21, 22] [] [0, 1, 2, 3, 4, 5, 6, 7, 8, 9, 10, 11, 12, 13, 14, 15, 16, 17, 18, 19, 20, 21, 22] rfl rfl rfl rfl (by decide) rfl (fun _ => rfl) rfl rfl rfl rfl hl.1 (Nat.le_of_ble_eq_true rfl) dX11_piece_11 (fun r19 u20 H locs p_r19 hP hD hS => ?_)
      have hP : va_P g.1 vwCl (wX11 g a_m u20 J_m) H := hP
      have hD : va_D A (wX11 g a_m u20 J_m) := hD
      refine hret 14 ls r19 _ _ u20 dX11_piece_14 hS hP hD ?_
      exact ⟨(MI.st hM p_r19.2), (KK.st (KK.rf I_m) p_r19.2 (by decide))⟩

set_option maxHeartbeats 4000000 in
set_option maxRecDepth 100000 in
theorem kX11_by (l : Launch) (g : gG) (a_m : Nat → Nat) (I_m : Nat → Nat → Int32) (J_m : Nat → Nat → Int64) (k : Int32) (hM : MI I_m) : EffI l g yX11_by wsX11_by 1 [.ref (a_m 0), .int k] (wX11 g a_m I_m J_m) (fun (u : (Nat → Nat → Int32)) => wX11 g a_m u J_m) (fun r (u : (Nat → Nat → Int32)) => KK [] [1] I_m (u)) := by
  refine EffI.st (cc := cX11_by) (maxL := 2) (by decide) rfl (Nat.le_of_ble_eq_true rfl) (fun p e s m args below meth c A Q ls fx hK hP hD hA hS hl hret => ?_)
  have hx := fx.1
  have hb := fx.2.1
  have hml := fx.2.2.1
  have hown := fx.2.2.2.1
  have hts := fx.2.2.2.2
  have hl : lv_has ls 2 [(0, .ref (a_m 0)), (1, .int k)] := hl
  have hP : va_P g.1 vwCl (wX11 g a_m I_m J_m) s.heap := hP
  have hf_7 := hts _ (uT _ _ u_170)
  have hi_X11 : ∀ w ∈ wsX110, w.before args s = true := fun w h => hts w (uT _ w (u_wsX110 w h))
  have lm1 : (-1 : Int32).toInt = -1 := by decide
  have lm0 : (0 : Int32).toInt = 0 := by decide
  have lm2 : (1 : Int32).toInt = 1 := by decide
  have lq6 : (6 : Int32).toInt = 6 := by decide
  have lq2040 : (2040 : Int32).toInt = 2040 := by decide
  have lq8 : (8 : Int32).toInt = 8 := by decide
  have lq1 : (1 : Int32).toInt = 1 := by decide
  refine lv_aload_n hx hb dX11_by_0 rfl (lv_at hl 0 rfl) ?_
  refine PurI.cv (As := []) (kX11_isSet l g a_m I_m J_m hM) fx (gUV (uT _) u_856 u_857 u_858 u_5 u_859) rfl hdX11_isSet ⟨Nat.le_of_ble_eq_true rfl, Nat.le_of_ble_eq_true rfl⟩ hK hP [0, 1, 2, 3, 4, 5, 6, 7, 8, 9, 10, 11, 12, 13, 14, 15, 16, 17, 18, 19, 20, 21, 22] rfl rfl rfl rfl rfl hl.1 (Nat.le_of_ble_eq_true rfl) dX11_by_1 (fun r1 p_r1 => ?_)
  refine q_if_eq (tgt := 36) hx hb dX11_by_4 (by decide) rfl (fun b_4 k_4 => ?_) (fun b_4 k_4 => ?_)
  · have q_4 := bP.f p_r1 b_4
    refine lv_aload_n hx hb dX11_by_36 rfl (lv_at hl 0 rfl) ?_
    refine lv_bipush (v := 6) hx hb dX11_by_37 (by decide) ?_
    refine EffI.cv (wr := ([])) (w' := fun u3 => wX11 g a_m u3 J_m) (As := [.int (6 : Int32)]) (kX11_refuse l g a_m I_m J_m (6 : Int32)) fx (gUV (uT _) u_536 u_537 u_538 u_5 u_539) rfl hdX11_refuse ⟨Nat.le_of_ble_eq_true rfl, Nat.le_of_ble_eq_true rfl⟩ hK hP hD hS hA [0, 1, 2, 3, 4, 5, 6, 7, 8, 9, 10, 11, 12, 13, 14, 15, 16, 17, 18, 19, 20, 21, 22] [] [0, 1, 2, 3, 4, 5, 6, 7, 8, 9, 10, 11, 12, 13, 14, 15, 16, 17, 18, 19, 20, 21, 22] rfl rfl rfl rfl (by decide) rfl (fun _ => rfl) rfl rfl rfl rfl hl.1 (Nat.le_of_ble_eq_true rfl) dX11_by_39 (fun r2 u3 H locs p_r2 hP hD hS => ?_)
    have hP : va_P g.1 vwCl (wX11 g a_m u3 J_m) H := hP
    have hD : va_D A (wX11 g a_m u3 J_m) := hD
    refine lv_goto (tgt := 59) hx hb dX11_by_42 (by decide) ?_
    refine hret 59 ls r2 _ _ u3 dX11_by_59 hS hP hD ?_
    exact (KK.st (KK.rf I_m) p_r2.2 (by decide))
  · have q_4 := bP.t p_r1 b_4
    refine lv_iload_n hx hb dX11_by_7 rfl (lv_at hl 1 rfl) ?_
    refine q_if_lt (tgt := 36) hx hb dX11_by_8 (by decide) rfl (fun k_8 => ?_) (fun k_8 => ?_)
    · refine lv_aload_n hx hb dX11_by_36 rfl (lv_at hl 0 rfl) ?_
      refine lv_bipush (v := 6) hx hb dX11_by_37 (by decide) ?_
      refine EffI.cv (wr := ([])) (w' := fun u5 => wX11 g a_m u5 J_m) (As := [.int (6 : Int32)]) (kX11_refuse l g a_m I_m J_m (6 : Int32)) fx (gUV (uT _) u_536 u_537 u_538 u_5 u_539) rfl hdX11_refuse ⟨Nat.le_of_ble_eq_true rfl, Nat.le_of_ble_eq_true rfl⟩ hK hP hD hS hA [0, 1, 2, 3, 4, 5, 6, 7, 8, 9, 10, 11, 12, 13, 14, 15, 16, 17, 18, 19, 20, 21, 22] [] [0, 1, 2, 3, 4, 5, 6, 7, 8, 9, 10, 11, 12, 13, 14, 15, 16, 17, 18, 19, 20, 21, 22] rfl rfl rfl rfl (by decide) rfl (fun _ => rfl) rfl rfl rfl rfl hl.1 (Nat.le_of_ble_eq_true rfl) dX11_by_39 (fun r4 u5 H locs p_r4 hP hD hS => ?_)
      have hP : va_P g.1 vwCl (wX11 g a_m u5 J_m) H := hP
      have hD : va_D A (wX11 g a_m u5 J_m) := hD
      refine lv_goto (tgt := 59) hx hb dX11_by_42 (by decide) ?_
      refine hret 59 ls r4 _ _ u5 dX11_by_59 hS hP hD ?_
      exact (KK.st (KK.rf I_m) p_r4.2 (by decide))
    · refine lv_iload_n hx hb dX11_by_11 rfl (lv_at hl 1 rfl) ?_
      refine lv_aload_n hx hb dX11_by_12 rfl (lv_at hl 0 rfl) ?_
      refine va_get (D := g.1) (ci := 11) (v := .ref (a_m 1)) (C := RX11) (T := TX11) (N := 46) hx hb hi_X11 (fun _ h => h) hown hK.1 hP 0 rfl rfl 0 (by decide) hf_7 (fun _ h9 => h9) rfl dX11_by_13 ?_
      refine lv_bipush (v := 8) hx hb dX11_by_16 (by decide) ?_
      have n_18 : vp_in (8 : Int32) 19800 := (t_in (by decide))
      refine va_iald hx hb hK.1 hP 1 0 rfl rfl n_18 dX11_by_18 ?_
      refine q_nm (fun x6 e_x6 => ?_)
      have e_x6 : x6 = (I_m 1) 8 := e_x6
      have g_x6 : x6.toInt = ((I_m 1) 8).toInt := congrArg _ e_x6
      have f_x6 := MI.set hM e_x6
      refine q_icmp_ge (tgt := 36) hx hb dX11_by_19 (by decide) rfl rfl (fun k_19 => ?_) (fun k_19 => ?_)
      · refine lv_aload_n hx hb dX11_by_36 rfl (lv_at hl 0 rfl) ?_
        refine lv_bipush (v := 6) hx hb dX11_by_37 (by decide) ?_
        refine EffI.cv (wr := ([])) (w' := fun u8 => wX11 g a_m u8 J_m) (As := [.int (6 : Int32)]) (kX11_refuse l g a_m I_m J_m (6 : Int32)) fx (gUV (uT _) u_536 u_537 u_538 u_5 u_539) rfl hdX11_refuse ⟨Nat.le_of_ble_eq_true rfl, Nat.le_of_ble_eq_true rfl⟩ hK hP hD hS hA [0, 1, 2, 3, 4, 5, 6, 7, 8, 9, 10, 11, 12, 13, 14, 15, 16, 17, 18, 19, 20, 21, 22] [] [0, 1, 2, 3, 4, 5, 6, 7, 8, 9, 10, 11, 12, 13, 14, 15, 16, 17, 18, 19, 20, 21, 22] rfl rfl rfl rfl (by decide) rfl (fun _ => rfl) rfl rfl rfl rfl hl.1 (Nat.le_of_ble_eq_true rfl) dX11_by_39 (fun r7 u8 H locs p_r7 hP hD hS => ?_)
        have hP : va_P g.1 vwCl (wX11 g a_m u8 J_m) H := hP
        have hD : va_D A (wX11 g a_m u8 J_m) := hD
        refine lv_goto (tgt := 59) hx hb dX11_by_42 (by decide) ?_
        refine hret 59 ls r7 _ _ u8 dX11_by_59 hS hP hD ?_
        exact (KK.st (KK.rf I_m) p_r7.2 (by decide))
      · refine lv_aload_n hx hb dX11_by_22 rfl (lv_at hl 0 rfl) ?_
        refine va_get (D := g.1) (ci := 11) (v := .ref (a_m 1)) (C := RX11) (T := TX11) (N := 46) hx hb hi_X11 (fun _ h => h) hown hK.1 hP 0 rfl rfl 0 (by decide) hf_7 (fun _ h9 => h9) rfl dX11_by_23 ?_
        refine lv_sipush (v := 2040) hx hb dX11_by_26 (by decide) ?_
        refine lv_iload_n hx hb dX11_by_29 rfl (lv_at hl 1 rfl) ?_
        refine r_iadd hx hb dX11_by_30 (by decide : (2040 : Int32).toInt = 2040) rfl (fun x9 e_x9 t_x9 => ?_)
        try have t_x9 := t_x9 (by omega)
        have n_31 : vp_in x9 19800 := (t_in (by omega))
        refine va_iald hx hb hK.1 hP 1 0 rfl rfl n_31 dX11_by_31 ?_
        refine q_nm (fun x10 e_x10 => ?_)
        have e_x10 : x10 = (I_m 1) x9.toNatClampNeg := e_x10
        have g_x10 : x10.toInt = ((I_m 1) x9.toNatClampNeg).toInt := congrArg _ e_x10
        refine lv_iconst (v := -1) hx hb dX11_by_32 (by decide) ?_
        refine q_icmp_ne (tgt := 45) hx hb dX11_by_33 (by decide) rfl (by decide : (-1 : Int32).toInt = -1) (fun k_33 => ?_) (fun k_33 => ?_)
        · refine lv_aload_n hx hb dX11_by_45 rfl (lv_at hl 0 rfl) ?_
          refine lv_aload_n hx hb dX11_by_46 rfl (lv_at hl 0 rfl) ?_
          refine va_get (D := g.1) (ci := 11) (v := .ref (a_m 1)) (C := RX11) (T := TX11) (N := 46) hx hb hi_X11 (fun _ h => h) hown hK.1 hP 0 rfl rfl 0 (by decide) hf_7 (fun _ h9 => h9) rfl dX11_by_47 ?_
          refine lv_sipush (v := 2040) hx hb dX11_by_50 (by decide) ?_
          refine lv_iload_n hx hb dX11_by_53 rfl (lv_at hl 1 rfl) ?_
          refine r_iadd hx hb dX11_by_54 (by decide : (2040 : Int32).toInt = 2040) rfl (fun x11 e_x11 t_x11 => ?_)
          try have t_x11 := t_x11 (by omega)
          have n_55 : vp_in x11 19800 := (t_in (by omega))
          refine va_iald hx hb hK.1 hP 1 0 rfl rfl n_55 dX11_by_55 ?_
          refine q_nm (fun x12 e_x12 => ?_)
          have e_x12 : x12 = (I_m 1) x11.toNatClampNeg := e_x12
          have g_x12 : x12.toInt = ((I_m 1) x11.toNatClampNeg).toInt := congrArg _ e_x12
          refine EffI.cv (wr := ([])) (w' := fun u14 => wX11 g a_m u14 J_m) (As := [.int x12]) (kX11_gives l g a_m I_m J_m x12) fx (gUV (uT _) u_585 u_586 u_587 u_5 u_588) rfl hdX11_gives ⟨Nat.le_of_ble_eq_true rfl, Nat.le_of_ble_eq_true rfl⟩ hK hP hD hS hA [0, 1, 2, 3, 4, 5, 6, 7, 8, 9, 10, 11, 12, 13, 14, 15, 16, 17, 18, 19, 20, 21, 22] [] [0, 1, 2, 3, 4, 5, 6, 7, 8, 9, 10, 11, 12, 13, 14, 15, 16, 17, 18, 19, 20, 21, 22] rfl rfl rfl rfl (by decide) rfl (fun _ => rfl) rfl rfl rfl rfl hl.1 (Nat.le_of_ble_eq_true rfl) dX11_by_56 (fun r13 u14 H locs p_r13 hP hD hS => ?_)
          have hP : va_P g.1 vwCl (wX11 g a_m u14 J_m) H := hP
          have hD : va_D A (wX11 g a_m u14 J_m) := hD
          refine hret 59 ls r13 _ _ u14 dX11_by_59 hS hP hD ?_
          exact (KK.st (KK.rf I_m) p_r13.2 (by decide))
        · refine lv_aload_n hx hb dX11_by_36 rfl (lv_at hl 0 rfl) ?_
          refine lv_bipush (v := 6) hx hb dX11_by_37 (by decide) ?_
          refine EffI.cv (wr := ([])) (w' := fun u16 => wX11 g a_m u16 J_m) (As := [.int (6 : Int32)]) (kX11_refuse l g a_m I_m J_m (6 : Int32)) fx (gUV (uT _) u_536 u_537 u_538 u_5 u_539) rfl hdX11_refuse ⟨Nat.le_of_ble_eq_true rfl, Nat.le_of_ble_eq_true rfl⟩ hK hP hD hS hA [0, 1, 2, 3, 4, 5, 6, 7, 8, 9, 10, 11, 12, 13, 14, 15, 16, 17, 18, 19, 20, 21, 22] [] [0, 1, 2, 3, 4, 5, 6, 7, 8, 9, 10, 11, 12, 13, 14, 15, 16, 17, 18, 19, 20, 21, 22] rfl rfl rfl rfl (by decide) rfl (fun _ => rfl) rfl rfl rfl rfl hl.1 (Nat.le_of_ble_eq_true rfl) dX11_by_39 (fun r15 u16 H locs p_r15 hP hD hS => ?_)
          have hP : va_P g.1 vwCl (wX11 g a_m u16 J_m) H := hP
          have hD : va_D A (wX11 g a_m u16 J_m) := hD
          refine lv_goto (tgt := 59) hx hb dX11_by_42 (by decide) ?_
          refine hret 59 ls r15 _ _ u16 dX11_by_59 hS hP hD ?_
          exact (KK.st (KK.rf I_m) p_r15.2 (by decide))

set_option maxHeartbeats 4000000 in
set_option maxRecDepth 100000 in
theorem kX11_dense (l : Launch) (g : gG) (a_m : Nat → Nat) (I_m : Nat → Nat → Int32) (J_m : Nat → Nat → Int64) (cells : Int32) (hM : MI I_m) : EffI l g yX11_dense wsX11_dense 1 [.ref (a_m 0), .int cells] (wX11 g a_m I_m J_m) (fun (u : (Nat → Nat → Int32)) => wX11 g a_m u J_m) (fun r (u : (Nat → Nat → Int32)) => KK [] [1] I_m (u)) := by
  refine EffI.st (cc := cX11_dense) (maxL := 5) (by decide) rfl (Nat.le_of_ble_eq_true rfl) (fun p e s m args below meth c A Q ls fx hK hP hD hA hS hl hret => ?_)
  have hx := fx.1
  have hb := fx.2.1
  have hml := fx.2.2.1
  have hown := fx.2.2.2.1
  have hts := fx.2.2.2.2
  have hl : lv_has ls 5 [(0, .ref (a_m 0)), (1, .int cells)] := hl
  have hP : va_P g.1 vwCl (wX11 g a_m I_m J_m) s.heap := hP
  have hf_7 := hts _ (uT _ _ u_170)
  have hi_X11 : ∀ w ∈ wsX110, w.before args s = true := fun w h => hts w (uT _ w (u_wsX110 w h))
  have lm1 : (-1 : Int32).toInt = -1 := by decide
  have lm0 : (0 : Int32).toInt = 0 := by decide
  have lm2 : (1 : Int32).toInt = 1 := by decide
  have lq6 : (6 : Int32).toInt = 6 := by decide
  have lq7 : (7 : Int32).toInt = 7 := by decide
  have lq600 : (600 : Int32).toInt = 600 := by decide
  have lq8 : (8 : Int32).toInt = 8 := by decide
  have lq1 : (1 : Int32).toInt = 1 := by decide
  have ll0 : (0 : Int64).toInt = 0 := by decide
  have ll1 : (1 : Int64).toInt = 1 := by decide
  have ll16 : (16 : Int64).toInt = 16 := by decide
  have ll20 : (20 : Int64).toInt = 20 := by decide
  have ll40 : (40 : Int64).toInt = 40 := by decide
  have ll63 : (63 : Int64).toInt = 63 := by decide
  have ll9999 : (9999 : Int64).toInt = 9999 := by decide
  refine lv_iload_n hx hb dX11_dense_0 rfl (lv_at hl 1 rfl) ?_
  refine lv_i2l hx hb dX11_dense_1 rfl ?_
  refine q_nml (fun w1 e_w1 => ?_)
  have m_w1 : w1.toInt = (cells).toInt := by rw [e_w1]; exact Int32.toInt_toInt64 _
  refine lv_lconst (v := 1) hx hb dX11_dense_2 (by decide) ?_
  refine lv_ldc2 hx hb hown (hts _ (uT _ _ u_1130)) dX11_dense_3 ?_
  refine PurI.cs (C := RX11) (As := [.long w1, .long (1 : Int64), .long (40 : Int64)]) (kX11_isFrom l g w1 (1 : Int64) (40 : Int64)) fx (gUS (uT _) u_1132 u_1133 u_5 u_1134) rfl hdX11_isFrom ⟨Nat.le_of_ble_eq_true rfl, Nat.le_of_ble_eq_true rfl⟩ hK hP [] rfl rfl rfl hl.1 (Nat.le_of_ble_eq_true rfl) dX11_dense_6 (fun r2 p_r2 => ?_)
  refine q_if_ne (tgt := 18) hx hb dX11_dense_9 (by decide) rfl (fun b_9 k_9 => ?_) (fun b_9 k_9 => ?_)
  · have q_9 := bP.t p_r2 b_9
    refine lv_aload_n hx hb dX11_dense_18 rfl (lv_at hl 0 rfl) ?_
    refine PurI.cv (As := []) (kX11_isSet l g a_m I_m J_m hM) fx (gUV (uT _) u_856 u_857 u_858 u_5 u_859) rfl hdX11_isSet ⟨Nat.le_of_ble_eq_true rfl, Nat.le_of_ble_eq_true rfl⟩ hK hP [0, 1, 2, 3, 4, 5, 6, 7, 8, 9, 10, 11, 12, 13, 14, 15, 16, 17, 18, 19, 20, 21, 22] rfl rfl rfl rfl rfl hl.1 (Nat.le_of_ble_eq_true rfl) dX11_dense_19 (fun r3 p_r3 => ?_)
    refine q_if_ne (tgt := 32) hx hb dX11_dense_22 (by decide) rfl (fun b_22 k_22 => ?_) (fun b_22 k_22 => ?_)
    · have q_22 := bP.t p_r3 b_22
      refine lv_iload_n hx hb dX11_dense_32 rfl (lv_at hl 1 rfl) ?_
      refine lv_aload_n hx hb dX11_dense_33 rfl (lv_at hl 0 rfl) ?_
      refine va_get (D := g.1) (ci := 11) (v := .ref (a_m 1)) (C := RX11) (T := TX11) (N := 46) hx hb hi_X11 (fun _ h => h) hown hK.1 hP 0 rfl rfl 0 (by decide) hf_7 (fun _ h9 => h9) rfl dX11_dense_34 ?_
      refine lv_bipush (v := 8) hx hb dX11_dense_37 (by decide) ?_
      have n_39 : vp_in (8 : Int32) 19800 := (t_in (by decide))
      refine va_iald hx hb hK.1 hP 1 0 rfl rfl n_39 dX11_dense_39 ?_
      refine q_nm (fun x4 e_x4 => ?_)
      have e_x4 : x4 = (I_m 1) 8 := e_x4
      have g_x4 : x4.toInt = ((I_m 1) 8).toInt := congrArg _ e_x4
      have f_x4 := MI.set hM e_x4
      refine q_icmp_le (tgt := 50) hx hb dX11_dense_40 (by decide) rfl rfl (fun k_40 => ?_) (fun k_40 => ?_)
      · refine lv_iconst (v := 0) hx hb dX11_dense_50 (by decide) ?_
        refine lv_istore_n (lv' := [(2, .int (0 : Int32)), (0, .ref (a_m 0)), (1, .int cells)]) hx hb dX11_dense_51 rfl hl (by decide) rfl (fun ls hl => ?_)
        refine lv_iconst (v := 0) hx hb dX11_dense_52 (by decide) ?_
        refine lv_istore_n (lv' := [(3, .int (0 : Int32)), (2, .int (0 : Int32)), (0, .ref (a_m 0)), (1, .int cells)]) hx hb dX11_dense_53 rfl hl (by decide) rfl (fun ls hl => ?_)
        refine lv_iconst (v := 0) hx hb dX11_dense_54 (by decide) ?_
        refine lv_istore (lv' := [(4, .int (0 : Int32)), (3, .int (0 : Int32)), (2, .int (0 : Int32)), (0, .ref (a_m 0)), (1, .int cells)]) hx hb dX11_dense_55 hl (by decide) rfl (fun ls hl => ?_)
        have L57 : ∀ (nn : Nat) (v2_57 : Int32) (v3_57 : Int32) (v4_57 : Int32), (hv_57 : 0 ≤ v4_57.toInt ∧ v4_57.toInt ≤ 1200) → ((1201 - v4_57.toInt) < (nn : Int)) → ∀ (H : Heap) (locs : List Loc), va_P g.1 vwCl (wX11 g a_m I_m J_m) H → va_D A (wX11 g a_m I_m J_m) → va_S A s.heap H locs → ∀ ls : Array Slot, lv_has ls 5 [(4, .int v4_57), (3, .int v3_57), (2, .int v2_57), (0, .ref (a_m 0)), (1, .int cells)] → W p l e (rm 1) s m args below meth c H locs 0 0 Q (F0 m 57 ls []) := by
          intro n_57
          induction n_57 with
          | zero =>
            intro v2_57 v3_57 v4_57 hv_57 hms_57 H locs hP hD hS ls hl
            exfalso; omega
          | succ n_57 ih_57 =>
            intro v2_57 v3_57 v4_57 hv_57 hms_57 H locs hP hD hS ls hl
            refine lv_iload hx hb dX11_dense_57 (lv_at hl 0 rfl) ?_
            refine lv_aload_n hx hb dX11_dense_59 rfl (lv_at hl 3 rfl) ?_
            refine va_get (D := g.1) (ci := 11) (v := .ref (a_m 1)) (C := RX11) (T := TX11) (N := 46) hx hb hi_X11 (fun _ h => h) hown hK.1 hP 0 rfl rfl 0 (by decide) hf_7 (fun _ h9 => h9) rfl dX11_dense_60 ?_
            refine lv_bipush (v := 8) hx hb dX11_dense_63 (by decide) ?_
            have n_65 : vp_in (8 : Int32) 19800 := (t_in (by decide))
            refine va_iald hx hb hK.1 hP 1 0 rfl rfl n_65 dX11_dense_65 ?_
            refine q_nm (fun x5 e_x5 => ?_)
            have e_x5 : x5 = (I_m 1) 8 := e_x5
            have g_x5 : x5.toInt = ((I_m 1) 8).toInt := congrArg _ e_x5
            have f_x5 := MI.set hM e_x5
            refine q_icmp_ge (tgt := 133) hx hb dX11_dense_66 (by decide) rfl rfl (fun k_66 => ?_) (fun k_66 => ?_)
            · refine lv_aload_n hx hb dX11_dense_133 rfl (lv_at hl 3 rfl) ?_
              refine lv_iload_n hx hb dX11_dense_134 rfl (lv_at hl 2 rfl) ?_
              refine EffI.cv (wr := ([])) (w' := fun u7 => wX11 g a_m u7 J_m) (As := [.int v2_57]) (kX11_gives l g a_m I_m J_m v2_57) fx (gUV (uT _) u_585 u_586 u_587 u_5 u_588) rfl hdX11_gives ⟨Nat.le_of_ble_eq_true rfl, Nat.le_of_ble_eq_true rfl⟩ hK hP hD hS hA [0, 1, 2, 3, 4, 5, 6, 7, 8, 9, 10, 11, 12, 13, 14, 15, 16, 17, 18, 19, 20, 21, 22] [] [0, 1, 2, 3, 4, 5, 6, 7, 8, 9, 10, 11, 12, 13, 14, 15, 16, 17, 18, 19, 20, 21, 22] rfl rfl rfl rfl (by decide) rfl (fun _ => rfl) rfl rfl rfl rfl hl.1 (Nat.le_of_ble_eq_true rfl) dX11_dense_135 (fun r6 u7 H locs p_r6 hP hD hS => ?_)
              have hP : va_P g.1 vwCl (wX11 g a_m u7 J_m) H := hP
              have hD : va_D A (wX11 g a_m u7 J_m) := hD
              refine hret 138 ls r6 _ _ u7 dX11_dense_138 hS hP hD ?_
              exact (KK.st (KK.rf I_m) p_r6.2 (by decide))
            · refine lv_iload_n hx hb dX11_dense_69 rfl (lv_at hl 1 rfl) ?_
              refine lv_aload_n hx hb dX11_dense_70 rfl (lv_at hl 3 rfl) ?_
              refine va_get (D := g.1) (ci := 11) (v := .ref (a_m 1)) (C := RX11) (T := TX11) (N := 46) hx hb hi_X11 (fun _ h => h) hown hK.1 hP 0 rfl rfl 0 (by decide) hf_7 (fun _ h9 => h9) rfl dX11_dense_71 ?_
              refine lv_sipush (v := 600) hx hb dX11_dense_74 (by decide) ?_
              refine lv_iload hx hb dX11_dense_77 (lv_at hl 0 rfl) ?_
              refine r_iadd hx hb dX11_dense_79 (by decide : (600 : Int32).toInt = 600) rfl (fun x8 e_x8 t_x8 => ?_)
              try have t_x8 := t_x8 (by omega)
              have n_80 : vp_in x8 19800 := (t_in (by omega))
              refine va_iald hx hb hK.1 hP 1 0 rfl rfl n_80 dX11_dense_80 ?_
              refine q_nm (fun x9 e_x9 => ?_)
              have e_x9 : x9 = (I_m 1) x8.toNatClampNeg := e_x9
              have g_x9 : x9.toInt = ((I_m 1) x8.toNatClampNeg).toInt := congrArg _ e_x9
              have f_x9 := hM.cell (k := v4_57.toInt) e_x9 (by omega) (by omega)
              refine PurI.cs (C := RX11) (As := [.int x9]) (kX11_bits l g x9 (by omega)) fx (gUS (uT _) u_1009 u_1010 u_5 u_1011) rfl hdX11_bits ⟨Nat.le_of_ble_eq_true rfl, Nat.le_of_ble_eq_true rfl⟩ hK hP [] rfl rfl rfl hl.1 (Nat.le_of_ble_eq_true rfl) dX11_dense_81 (fun r10 p_r10 => ?_)
              refine lv_iload hx hb dX11_dense_84 (lv_at hl 0 rfl) ?_
              refine lv_iload_n hx hb dX11_dense_86 rfl (lv_at hl 4 rfl) ?_
              refine q_icmp_lt (tgt := 109) hx hb dX11_dense_87 (by decide) rfl rfl (fun k_87 => ?_) (fun k_87 => ?_)
              · refine lv_iconst (v := 0) hx hb dX11_dense_109 (by decide) ?_
                refine r_isub hx hb dX11_dense_110 rfl (by decide : (0 : Int32).toInt = 0) (fun x11 e_x11 t_x11 => ?_)
                try have t_x11 := t_x11 (by omega)
                refine r_iadd hx hb dX11_dense_111 rfl rfl (fun x12 e_x12 t_x12 => ?_)
                try have t_x12 := t_x12 (by omega)
                refine lv_istore_n (lv' := [(3, .int x12), (4, .int v4_57), (2, .int v2_57), (0, .ref (a_m 0)), (1, .int cells)]) hx hb dX11_dense_112 rfl hl (by decide) rfl (fun ls hl => ?_)
                refine lv_iload hx hb dX11_dense_113 (lv_at hl 1 rfl) ?_
                refine lv_iconst (v := 1) hx hb dX11_dense_115 (by decide) ?_
                refine r_iadd hx hb dX11_dense_116 rfl (by decide : (1 : Int32).toInt = 1) (fun x13 e_x13 t_x13 => ?_)
                try have t_x13 := t_x13 (by omega)
                refine lv_iload_n hx hb dX11_dense_117 rfl (lv_at hl 4 rfl) ?_
                refine q_icmp_lt (tgt := 127) hx hb dX11_dense_118 (by decide) rfl rfl (fun k_118 => ?_) (fun k_118 => ?_)
                · refine r_iinc (lv' := fun i14 => [(4, .int i14), (3, .int x12), (2, .int v2_57), (0, .ref (a_m 0)), (1, .int cells)]) hx hb dX11_dense_127 hl (k := 1) rfl (by decide) rfl (by decide) (fun _ => rfl) (fun i14 e_i14 t_i14 ls hl => ?_)
                  try have t_i14 := t_i14 (by omega)
                  refine lv_goto (tgt := 57) hx hb dX11_dense_130 (by decide) ?_
                  exact ih_57 v2_57 x12 i14 (by omega) (by omega) _ _ hP hD hS ls hl
                · refine lv_iload_n hx hb dX11_dense_121 rfl (lv_at hl 2 rfl) ?_
                  refine lv_iload_n hx hb dX11_dense_122 rfl (lv_at hl 0 rfl) ?_
                  refine va_mmax hx hb (hml.trans hl.1.symm) hown (hts _ (uT _ _ u_1131)) (hts _ (uT _ _ u_688)) (hts _ (uT _ _ u_524)) (hts _ (uT _ _ u_689)) (Nat.le_of_ble_eq_true rfl) (Nat.le_of_ble_eq_true rfl) (Nat.zero_le _) (Nat.zero_le _) dX11_dense_123 ?_
                  refine q_nm (fun x15 e_x15 => ?_)
                  have t_x15 := t_max e_x15 rfl rfl
                  refine lv_istore_n (lv' := [(2, .int x15), (3, .int x12), (4, .int v4_57), (0, .ref (a_m 0)), (1, .int cells)]) hx hb dX11_dense_126 rfl hl (by decide) rfl (fun ls hl => ?_)
                  refine r_iinc (lv' := fun i16 => [(4, .int i16), (2, .int x15), (3, .int x12), (0, .ref (a_m 0)), (1, .int cells)]) hx hb dX11_dense_127 hl (k := 2) rfl (by decide) rfl (by decide) (fun _ => rfl) (fun i16 e_i16 t_i16 ls hl => ?_)
                  try have t_i16 := t_i16 (by omega)
                  refine lv_goto (tgt := 57) hx hb dX11_dense_130 (by decide) ?_
                  exact ih_57 x15 x12 i16 (by omega) (by omega) _ _ hP hD hS ls (lv_sub hl [0, 2, 1, 3, 4] rfl)
              · refine lv_aload_n hx hb dX11_dense_90 rfl (lv_at hl 3 rfl) ?_
                refine va_get (D := g.1) (ci := 11) (v := .ref (a_m 1)) (C := RX11) (T := TX11) (N := 46) hx hb hi_X11 (fun _ h => h) hown hK.1 hP 0 rfl rfl 0 (by decide) hf_7 (fun _ h9 => h9) rfl dX11_dense_91 ?_
                refine lv_sipush (v := 600) hx hb dX11_dense_94 (by decide) ?_
                refine lv_iload hx hb dX11_dense_97 (lv_at hl 0 rfl) ?_
                refine r_iadd hx hb dX11_dense_99 (by decide : (600 : Int32).toInt = 600) rfl (fun x17 e_x17 t_x17 => ?_)
                try have t_x17 := t_x17 (by omega)
                refine lv_iload_n hx hb dX11_dense_100 rfl (lv_at hl 4 rfl) ?_
                refine r_isub hx hb dX11_dense_101 rfl rfl (fun x18 e_x18 t_x18 => ?_)
                try have t_x18 := t_x18 (by omega)
                have n_102 : vp_in x18 19800 := (t_in (by omega))
                refine va_iald hx hb hK.1 hP 1 0 rfl rfl n_102 dX11_dense_102 ?_
                refine q_nm (fun x19 e_x19 => ?_)
                have e_x19 : x19 = (I_m 1) x18.toNatClampNeg := e_x19
                have g_x19 : x19.toInt = ((I_m 1) x18.toNatClampNeg).toInt := congrArg _ e_x19
                have f_x19 := hM.cell (k := (v4_57.toInt - cells.toInt)) e_x19 (by omega) (by omega)
                refine PurI.cs (C := RX11) (As := [.int x19]) (kX11_bits l g x19 (by omega)) fx (gUS (uT _) u_1009 u_1010 u_5 u_1011) rfl hdX11_bits ⟨Nat.le_of_ble_eq_true rfl, Nat.le_of_ble_eq_true rfl⟩ hK hP [] rfl rfl rfl hl.1 (Nat.le_of_ble_eq_true rfl) dX11_dense_103 (fun r20 p_r20 => ?_)
                refine lv_goto (tgt := 110) hx hb dX11_dense_106 (by decide) ?_
                refine r_isub hx hb dX11_dense_110 rfl rfl (fun x21 e_x21 t_x21 => ?_)
                try have t_x21 := t_x21 (by omega)
                refine r_iadd hx hb dX11_dense_111 rfl rfl (fun x22 e_x22 t_x22 => ?_)
                try have t_x22 := t_x22 (by omega)
                refine lv_istore_n (lv' := [(3, .int x22), (4, .int v4_57), (2, .int v2_57), (0, .ref (a_m 0)), (1, .int cells)]) hx hb dX11_dense_112 rfl hl (by decide) rfl (fun ls hl => ?_)
                refine lv_iload hx hb dX11_dense_113 (lv_at hl 1 rfl) ?_
                refine lv_iconst (v := 1) hx hb dX11_dense_115 (by decide) ?_
                refine r_iadd hx hb dX11_dense_116 rfl (by decide : (1 : Int32).toInt = 1) (fun x23 e_x23 t_x23 => ?_)
                try have t_x23 := t_x23 (by omega)
                refine lv_iload_n hx hb dX11_dense_117 rfl (lv_at hl 4 rfl) ?_
                refine q_icmp_lt (tgt := 127) hx hb dX11_dense_118 (by decide) rfl rfl (fun k_118 => ?_) (fun k_118 => ?_)
                · refine r_iinc (lv' := fun i24 => [(4, .int i24), (3, .int x22), (2, .int v2_57), (0, .ref (a_m 0)), (1, .int cells)]) hx hb dX11_dense_127 hl (k := 1) rfl (by decide) rfl (by decide) (fun _ => rfl) (fun i24 e_i24 t_i24 ls hl => ?_)
                  try have t_i24 := t_i24 (by omega)
                  refine lv_goto (tgt := 57) hx hb dX11_dense_130 (by decide) ?_
                  exact ih_57 v2_57 x22 i24 (by omega) (by omega) _ _ hP hD hS ls hl
                · refine lv_iload_n hx hb dX11_dense_121 rfl (lv_at hl 2 rfl) ?_
                  refine lv_iload_n hx hb dX11_dense_122 rfl (lv_at hl 0 rfl) ?_
                  refine va_mmax hx hb (hml.trans hl.1.symm) hown (hts _ (uT _ _ u_1131)) (hts _ (uT _ _ u_688)) (hts _ (uT _ _ u_524)) (hts _ (uT _ _ u_689)) (Nat.le_of_ble_eq_true rfl) (Nat.le_of_ble_eq_true rfl) (Nat.zero_le _) (Nat.zero_le _) dX11_dense_123 ?_
                  refine q_nm (fun x25 e_x25 => ?_)
                  have t_x25 := t_max e_x25 rfl rfl
                  refine lv_istore_n (lv' := [(2, .int x25), (3, .int x22), (4, .int v4_57), (0, .ref (a_m 0)), (1, .int cells)]) hx hb dX11_dense_126 rfl hl (by decide) rfl (fun ls hl => ?_)
                  refine r_iinc (lv' := fun i26 => [(4, .int i26), (2, .int x25), (3, .int x22), (0, .ref (a_m 0)), (1, .int cells)]) hx hb dX11_dense_127 hl (k := 2) rfl (by decide) rfl (by decide) (fun _ => rfl) (fun i26 e_i26 t_i26 ls hl => ?_)
                  try have t_i26 := t_i26 (by omega)
                  refine lv_goto (tgt := 57) hx hb dX11_dense_130 (by decide) ?_
                  exact ih_57 x25 x22 i26 (by omega) (by omega) _ _ hP hD hS ls (lv_sub hl [0, 2, 1, 3, 4] rfl)
        exact L57 ((1201 - (0 : Int32).toInt) + 1).toNat (0 : Int32) (0 : Int32) (0 : Int32) (by omega) (by omega) _ _ hP hD hS ls hl
      · refine lv_aload_n hx hb dX11_dense_43 rfl (lv_at hl 0 rfl) ?_
        refine lv_bipush (v := 7) hx hb dX11_dense_44 (by decide) ?_
        refine EffI.cv (wr := ([])) (w' := fun u28 => wX11 g a_m u28 J_m) (As := [.int (7 : Int32)]) (kX11_refuse l g a_m I_m J_m (7 : Int32)) fx (gUV (uT _) u_536 u_537 u_538 u_5 u_539) rfl hdX11_refuse ⟨Nat.le_of_ble_eq_true rfl, Nat.le_of_ble_eq_true rfl⟩ hK hP hD hS hA [0, 1, 2, 3, 4, 5, 6, 7, 8, 9, 10, 11, 12, 13, 14, 15, 16, 17, 18, 19, 20, 21, 22] [] [0, 1, 2, 3, 4, 5, 6, 7, 8, 9, 10, 11, 12, 13, 14, 15, 16, 17, 18, 19, 20, 21, 22] rfl rfl rfl rfl (by decide) rfl (fun _ => rfl) rfl rfl rfl rfl hl.1 (Nat.le_of_ble_eq_true rfl) dX11_dense_46 (fun r27 u28 H locs p_r27 hP hD hS => ?_)
        have hP : va_P g.1 vwCl (wX11 g a_m u28 J_m) H := hP
        have hD : va_D A (wX11 g a_m u28 J_m) := hD
        refine hret 49 ls r27 _ _ u28 dX11_dense_49 hS hP hD ?_
        exact (KK.st (KK.rf I_m) p_r27.2 (by decide))
    · have q_22 := bP.f p_r3 b_22
      refine lv_aload_n hx hb dX11_dense_25 rfl (lv_at hl 0 rfl) ?_
      refine lv_bipush (v := 6) hx hb dX11_dense_26 (by decide) ?_
      refine EffI.cv (wr := ([])) (w' := fun u30 => wX11 g a_m u30 J_m) (As := [.int (6 : Int32)]) (kX11_refuse l g a_m I_m J_m (6 : Int32)) fx (gUV (uT _) u_536 u_537 u_538 u_5 u_539) rfl hdX11_refuse ⟨Nat.le_of_ble_eq_true rfl, Nat.le_of_ble_eq_true rfl⟩ hK hP hD hS hA [0, 1, 2, 3, 4, 5, 6, 7, 8, 9, 10, 11, 12, 13, 14, 15, 16, 17, 18, 19, 20, 21, 22] [] [0, 1, 2, 3, 4, 5, 6, 7, 8, 9, 10, 11, 12, 13, 14, 15, 16, 17, 18, 19, 20, 21, 22] rfl rfl rfl rfl (by decide) rfl (fun _ => rfl) rfl rfl rfl rfl hl.1 (Nat.le_of_ble_eq_true rfl) dX11_dense_28 (fun r29 u30 H locs p_r29 hP hD hS => ?_)
      have hP : va_P g.1 vwCl (wX11 g a_m u30 J_m) H := hP
      have hD : va_D A (wX11 g a_m u30 J_m) := hD
      refine hret 31 ls r29 _ _ u30 dX11_dense_31 hS hP hD ?_
      exact (KK.st (KK.rf I_m) p_r29.2 (by decide))
  · have q_9 := bP.f p_r2 b_9
    refine lv_aload_n hx hb dX11_dense_12 rfl (lv_at hl 0 rfl) ?_
    refine lv_iconst (v := 1) hx hb dX11_dense_13 (by decide) ?_
    refine EffI.cv (wr := ([])) (w' := fun u32 => wX11 g a_m u32 J_m) (As := [.int (1 : Int32)]) (kX11_refuse l g a_m I_m J_m (1 : Int32)) fx (gUV (uT _) u_536 u_537 u_538 u_5 u_539) rfl hdX11_refuse ⟨Nat.le_of_ble_eq_true rfl, Nat.le_of_ble_eq_true rfl⟩ hK hP hD hS hA [0, 1, 2, 3, 4, 5, 6, 7, 8, 9, 10, 11, 12, 13, 14, 15, 16, 17, 18, 19, 20, 21, 22] [] [0, 1, 2, 3, 4, 5, 6, 7, 8, 9, 10, 11, 12, 13, 14, 15, 16, 17, 18, 19, 20, 21, 22] rfl rfl rfl rfl (by decide) rfl (fun _ => rfl) rfl rfl rfl rfl hl.1 (Nat.le_of_ble_eq_true rfl) dX11_dense_14 (fun r31 u32 H locs p_r31 hP hD hS => ?_)
    have hP : va_P g.1 vwCl (wX11 g a_m u32 J_m) H := hP
    have hD : va_D A (wX11 g a_m u32 J_m) := hD
    refine hret 17 ls r31 _ _ u32 dX11_dense_17 hS hP hD ?_
    exact (KK.st (KK.rf I_m) p_r31.2 (by decide))

set_option maxHeartbeats 4000000 in
set_option maxRecDepth 100000 in
theorem kX11_alike (l : Launch) (g : gG) (a_m : Nat → Nat) (I_m : Nat → Nat → Int32) (J_m : Nat → Nat → Int64) (la : Int32) (lb : Int32) (hM : MI I_m) : EffI l g yX11_alike wsX11_alike 3 [.ref (a_m 0), .int la, .int lb] (wX11 g a_m I_m J_m) (fun (u : (Nat → Nat → Int32)) => wX11 g a_m u J_m) (fun r (u : (Nat → Nat → Int32)) => MI (u) ∧ KK [7, 8, 9, 10, 11] [1, 27, 28, 29] I_m (u)) := by
  refine EffI.st (cc := cX11_alike) (maxL := 5) (by decide) rfl (Nat.le_of_ble_eq_true rfl) (fun p e s m args below meth c A Q ls fx hK hP hD hA hS hl hret => ?_)
  have hx := fx.1
  have hb := fx.2.1
  have hml := fx.2.2.1
  have hown := fx.2.2.2.1
  have hts := fx.2.2.2.2
  have hl : lv_has ls 5 [(0, .ref (a_m 0)), (1, .int la), (2, .int lb)] := hl
  have hP : va_P g.1 vwCl (wX11 g a_m I_m J_m) s.heap := hP
  have hf_41 := hts _ (uT _ _ u_180)
  have hf_44 := hts _ (uT _ _ u_181)
  have hf_47 := hts _ (uT _ _ u_182)
  have hi_X11 : ∀ w ∈ wsX110, w.before args s = true := fun w h => hts w (uT _ w (u_wsX110 w h))
  have lm1 : (-1 : Int32).toInt = -1 := by decide
  have lm0 : (0 : Int32).toInt = 0 := by decide
  have lm2 : (1 : Int32).toInt = 1 := by decide
  have lq6 : (6 : Int32).toInt = 6 := by decide
  have lq1 : (1 : Int32).toInt = 1 := by decide
  refine lv_aload_n hx hb dX11_alike_0 rfl (lv_at hl 0 rfl) ?_
  refine lv_iload_n hx hb dX11_alike_1 rfl (lv_at hl 1 rfl) ?_
  refine EffI.cv (wr := ([])) (w' := fun u2 => wX11 g a_m u2 J_m) (As := [.int la]) (kX11_isLine l g a_m I_m J_m la hM) fx (gUV (uT _) u_931 u_932 u_933 u_5 u_934) rfl hdX11_isLine ⟨Nat.le_of_ble_eq_true rfl, Nat.le_of_ble_eq_true rfl⟩ hK hP hD hS hA [0, 1, 2, 3, 4, 5, 6, 7, 8, 9, 10, 11, 12, 13, 14, 15, 16, 17, 18, 19, 20, 21, 22] [] [0, 1, 2, 3, 4, 5, 6, 7, 8, 9, 10, 11, 12, 13, 14, 15, 16, 17, 18, 19, 20, 21, 22] rfl rfl rfl rfl (by decide) rfl (fun _ => rfl) rfl rfl rfl rfl hl.1 (Nat.le_of_ble_eq_true rfl) dX11_alike_2 (fun r1 u2 H locs p_r1 hP hD hS => ?_)
  have hP : va_P g.1 vwCl (wX11 g a_m u2 J_m) H := hP
  have hD : va_D A (wX11 g a_m u2 J_m) := hD
  refine q_if_eq (tgt := 16) hx hb dX11_alike_5 (by decide) rfl (fun b_5 k_5 => ?_) (fun b_5 k_5 => ?_)
  · have q_5 := bP.f p_r1.2.2 b_5
    refine lv_aload_n hx hb dX11_alike_16 rfl (lv_at hl 0 rfl) ?_
    refine lv_bipush (v := 6) hx hb dX11_alike_17 (by decide) ?_
    refine EffI.cv (wr := ([])) (w' := fun u4 => wX11 g a_m u4 J_m) (As := [.int (6 : Int32)]) (kX11_refuse l g a_m u2 J_m (6 : Int32)) fx (gUV (uT _) u_536 u_537 u_538 u_5 u_539) rfl hdX11_refuse ⟨Nat.le_of_ble_eq_true rfl, Nat.le_of_ble_eq_true rfl⟩ hK hP hD hS hA [0, 1, 2, 3, 4, 5, 6, 7, 8, 9, 10, 11, 12, 13, 14, 15, 16, 17, 18, 19, 20, 21, 22] [] [0, 1, 2, 3, 4, 5, 6, 7, 8, 9, 10, 11, 12, 13, 14, 15, 16, 17, 18, 19, 20, 21, 22] rfl rfl rfl rfl (by decide) rfl (fun _ => rfl) rfl rfl rfl rfl hl.1 (Nat.le_of_ble_eq_true rfl) dX11_alike_19 (fun r3 u4 H locs p_r3 hP hD hS => ?_)
    have hP : va_P g.1 vwCl (wX11 g a_m u4 J_m) H := hP
    have hD : va_D A (wX11 g a_m u4 J_m) := hD
    refine hret 22 ls r3 _ _ u4 dX11_alike_22 hS hP hD ?_
    exact ⟨(MI.st (p_r1.1) p_r3.2), (KK.st (KK.tr (KK.rf I_m) p_r1.2.1 (by decide) (by decide)) p_r3.2 (by decide))⟩
  · have q_5 := bP.t p_r1.2.2 b_5
    refine lv_aload_n hx hb dX11_alike_8 rfl (lv_at hl 0 rfl) ?_
    refine lv_iload_n hx hb dX11_alike_9 rfl (lv_at hl 2 rfl) ?_
    refine EffI.cv (wr := ([])) (w' := fun u6 => wX11 g a_m u6 J_m) (As := [.int lb]) (kX11_isLine l g a_m u2 J_m lb (p_r1.1)) fx (gUV (uT _) u_931 u_932 u_933 u_5 u_934) rfl hdX11_isLine ⟨Nat.le_of_ble_eq_true rfl, Nat.le_of_ble_eq_true rfl⟩ hK hP hD hS hA [0, 1, 2, 3, 4, 5, 6, 7, 8, 9, 10, 11, 12, 13, 14, 15, 16, 17, 18, 19, 20, 21, 22] [] [0, 1, 2, 3, 4, 5, 6, 7, 8, 9, 10, 11, 12, 13, 14, 15, 16, 17, 18, 19, 20, 21, 22] rfl rfl rfl rfl (by decide) rfl (fun _ => rfl) rfl rfl rfl rfl hl.1 (Nat.le_of_ble_eq_true rfl) dX11_alike_10 (fun r5 u6 H locs p_r5 hP hD hS => ?_)
    have hP : va_P g.1 vwCl (wX11 g a_m u6 J_m) H := hP
    have hD : va_D A (wX11 g a_m u6 J_m) := hD
    have hlga := p_r5.1.lg la.toNatClampNeg
    have hlgb := p_r5.1.lg lb.toNatClampNeg
    refine q_if_ne (tgt := 23) hx hb dX11_alike_13 (by decide) rfl (fun b_13 k_13 => ?_) (fun b_13 k_13 => ?_)
    · have q_13 := bP.t p_r5.2.2 b_13
      refine lv_iconst (v := 0) hx hb dX11_alike_23 (by decide) ?_
      refine lv_istore_n (lv' := [(3, .int (0 : Int32)), (0, .ref (a_m 0)), (1, .int la), (2, .int lb)]) hx hb dX11_alike_24 rfl hl (by decide) rfl (fun ls hl => ?_)
      refine lv_iconst (v := 0) hx hb dX11_alike_25 (by decide) ?_
      refine lv_istore (lv' := [(4, .int (0 : Int32)), (3, .int (0 : Int32)), (0, .ref (a_m 0)), (1, .int la), (2, .int lb)]) hx hb dX11_alike_26 hl (by decide) rfl (fun ls hl => ?_)
      have L28 : ∀ (nn : Nat) (v3_28 : Int32) (v4_28 : Int32), (hv_28 : 0 ≤ v4_28.toInt ∧ v4_28.toInt ≤ 2600) → ((2601 - v4_28.toInt) < (nn : Int)) → ∀ (H : Heap) (locs : List Loc), va_P g.1 vwCl (wX11 g a_m u6 J_m) H → va_D A (wX11 g a_m u6 J_m) → va_S A s.heap H locs → ∀ ls : Array Slot, lv_has ls 5 [(4, .int v4_28), (3, .int v3_28), (0, .ref (a_m 0)), (1, .int la), (2, .int lb)] → W p l e (rm 3) s m args below meth c H locs 0 0 Q (F0 m 28 ls []) := by
        intro n_28
        induction n_28 with
        | zero =>
          intro v3_28 v4_28 hv_28 hms_28 H locs hP hD hS ls hl
          exfalso; omega
        | succ n_28 ih_28 =>
          intro v3_28 v4_28 hv_28 hms_28 H locs hP hD hS ls hl
          refine lv_iload hx hb dX11_alike_28 (lv_at hl 0 rfl) ?_
          refine lv_aload_n hx hb dX11_alike_30 rfl (lv_at hl 2 rfl) ?_
          refine va_get (D := g.1) (ci := 11) (v := .ref (a_m 9)) (C := RX11) (T := TX11) (N := 46) hx hb hi_X11 (fun _ h => h) hown hK.1 hP 0 rfl rfl 24 (by decide) hf_47 (fun _ h9 => h9) rfl dX11_alike_31 ?_
          refine lv_iload_n hx hb dX11_alike_34 rfl (lv_at hl 3 rfl) ?_
          have n_35 : vp_in la 1300 := (t_in (by omega))
          refine va_iald hx hb hK.1 hP 9 0 rfl rfl n_35 dX11_alike_35 ?_
          refine q_nm (fun x7 e_x7 => ?_)
          have e_x7 : x7 = (u6 9) la.toNatClampNeg := e_x7
          have g_x7 : x7.toInt = ((u6 9) la.toNatClampNeg).toInt := congrArg _ e_x7
          refine q_icmp_ge (tgt := 95) hx hb dX11_alike_36 (by decide) rfl rfl (fun k_36 => ?_) (fun k_36 => ?_)
          · refine lv_aload_n hx hb dX11_alike_95 rfl (lv_at hl 2 rfl) ?_
            refine lv_iload_n hx hb dX11_alike_96 rfl (lv_at hl 1 rfl) ?_
            refine EffI.cv (wr := ([])) (w' := fun u9 => wX11 g a_m u9 J_m) (As := [.int v3_28]) (kX11_gives l g a_m u6 J_m v3_28) fx (gUV (uT _) u_585 u_586 u_587 u_5 u_588) rfl hdX11_gives ⟨Nat.le_of_ble_eq_true rfl, Nat.le_of_ble_eq_true rfl⟩ hK hP hD hS hA [0, 1, 2, 3, 4, 5, 6, 7, 8, 9, 10, 11, 12, 13, 14, 15, 16, 17, 18, 19, 20, 21, 22] [] [0, 1, 2, 3, 4, 5, 6, 7, 8, 9, 10, 11, 12, 13, 14, 15, 16, 17, 18, 19, 20, 21, 22] rfl rfl rfl rfl (by decide) rfl (fun _ => rfl) rfl rfl rfl rfl hl.1 (Nat.le_of_ble_eq_true rfl) dX11_alike_97 (fun r8 u9 H locs p_r8 hP hD hS => ?_)
            have hP : va_P g.1 vwCl (wX11 g a_m u9 J_m) H := hP
            have hD : va_D A (wX11 g a_m u9 J_m) := hD
            refine hret 100 ls r8 _ _ u9 dX11_alike_100 hS hP hD ?_
            exact ⟨(MI.st (p_r5.1) p_r8.2), (KK.st (KK.tr (KK.tr (KK.rf I_m) p_r1.2.1 (by decide) (by decide)) p_r5.2.1 (by decide) (by decide)) p_r8.2 (by decide))⟩
          · refine lv_iload hx hb dX11_alike_39 (lv_at hl 0 rfl) ?_
            refine lv_aload_n hx hb dX11_alike_41 rfl (lv_at hl 2 rfl) ?_
            refine va_get (D := g.1) (ci := 11) (v := .ref (a_m 9)) (C := RX11) (T := TX11) (N := 46) hx hb hi_X11 (fun _ h => h) hown hK.1 hP 0 rfl rfl 24 (by decide) hf_47 (fun _ h9 => h9) rfl dX11_alike_42 ?_
            refine lv_iload_n hx hb dX11_alike_45 rfl (lv_at hl 4 rfl) ?_
            have n_46 : vp_in lb 1300 := (t_in (by omega))
            refine va_iald hx hb hK.1 hP 9 0 rfl rfl n_46 dX11_alike_46 ?_
            refine q_nm (fun x10 e_x10 => ?_)
            have e_x10 : x10 = (u6 9) lb.toNatClampNeg := e_x10
            have g_x10 : x10.toInt = ((u6 9) lb.toNatClampNeg).toInt := congrArg _ e_x10
            refine q_icmp_ge (tgt := 95) hx hb dX11_alike_47 (by decide) rfl rfl (fun k_47 => ?_) (fun k_47 => ?_)
            · refine lv_aload_n hx hb dX11_alike_95 rfl (lv_at hl 2 rfl) ?_
              refine lv_iload_n hx hb dX11_alike_96 rfl (lv_at hl 1 rfl) ?_
              refine EffI.cv (wr := ([])) (w' := fun u12 => wX11 g a_m u12 J_m) (As := [.int v3_28]) (kX11_gives l g a_m u6 J_m v3_28) fx (gUV (uT _) u_585 u_586 u_587 u_5 u_588) rfl hdX11_gives ⟨Nat.le_of_ble_eq_true rfl, Nat.le_of_ble_eq_true rfl⟩ hK hP hD hS hA [0, 1, 2, 3, 4, 5, 6, 7, 8, 9, 10, 11, 12, 13, 14, 15, 16, 17, 18, 19, 20, 21, 22] [] [0, 1, 2, 3, 4, 5, 6, 7, 8, 9, 10, 11, 12, 13, 14, 15, 16, 17, 18, 19, 20, 21, 22] rfl rfl rfl rfl (by decide) rfl (fun _ => rfl) rfl rfl rfl rfl hl.1 (Nat.le_of_ble_eq_true rfl) dX11_alike_97 (fun r11 u12 H locs p_r11 hP hD hS => ?_)
              have hP : va_P g.1 vwCl (wX11 g a_m u12 J_m) H := hP
              have hD : va_D A (wX11 g a_m u12 J_m) := hD
              refine hret 100 ls r11 _ _ u12 dX11_alike_100 hS hP hD ?_
              exact ⟨(MI.st (p_r5.1) p_r11.2), (KK.st (KK.tr (KK.tr (KK.rf I_m) p_r1.2.1 (by decide) (by decide)) p_r5.2.1 (by decide) (by decide)) p_r11.2 (by decide))⟩
            · refine lv_iload_n hx hb dX11_alike_50 rfl (lv_at hl 1 rfl) ?_
              refine lv_aload_n hx hb dX11_alike_51 rfl (lv_at hl 2 rfl) ?_
              refine va_get (D := g.1) (ci := 11) (v := .ref (a_m 7)) (C := RX11) (T := TX11) (N := 46) hx hb hi_X11 (fun _ h => h) hown hK.1 hP 0 rfl rfl 22 (by decide) hf_41 (fun _ h9 => h9) rfl dX11_alike_52 ?_
              refine lv_aload_n hx hb dX11_alike_55 rfl (lv_at hl 2 rfl) ?_
              refine va_get (D := g.1) (ci := 11) (v := .ref (a_m 8)) (C := RX11) (T := TX11) (N := 46) hx hb hi_X11 (fun _ h => h) hown hK.1 hP 0 rfl rfl 23 (by decide) hf_44 (fun _ h9 => h9) rfl dX11_alike_56 ?_
              refine lv_iload_n hx hb dX11_alike_59 rfl (lv_at hl 3 rfl) ?_
              have n_60 : vp_in la 1300 := (t_in (by omega))
              refine va_iald hx hb hK.1 hP 8 0 rfl rfl n_60 dX11_alike_60 ?_
              refine q_nm (fun x13 e_x13 => ?_)
              have e_x13 : x13 = (u6 8) la.toNatClampNeg := e_x13
              have g_x13 : x13.toInt = ((u6 8) la.toNatClampNeg).toInt := congrArg _ e_x13
              refine lv_iload hx hb dX11_alike_61 (lv_at hl 0 rfl) ?_
              refine r_iadd hx hb dX11_alike_63 rfl rfl (fun x14 e_x14 t_x14 => ?_)
              try have t_x14 := t_x14 (by omega)
              have n_64 : vp_in x14 2600 := (t_in (by omega))
              refine va_iald hx hb hK.1 hP 7 0 rfl rfl n_64 dX11_alike_64 ?_
              refine q_nm (fun x15 e_x15 => ?_)
              have e_x15 : x15 = (u6 7) x14.toNatClampNeg := e_x15
              have g_x15 : x15.toInt = ((u6 7) x14.toNatClampNeg).toInt := congrArg _ e_x15
              refine lv_aload_n hx hb dX11_alike_65 rfl (lv_at hl 2 rfl) ?_
              refine va_get (D := g.1) (ci := 11) (v := .ref (a_m 7)) (C := RX11) (T := TX11) (N := 46) hx hb hi_X11 (fun _ h => h) hown hK.1 hP 0 rfl rfl 22 (by decide) hf_41 (fun _ h9 => h9) rfl dX11_alike_66 ?_
              refine lv_aload_n hx hb dX11_alike_69 rfl (lv_at hl 2 rfl) ?_
              refine va_get (D := g.1) (ci := 11) (v := .ref (a_m 8)) (C := RX11) (T := TX11) (N := 46) hx hb hi_X11 (fun _ h => h) hown hK.1 hP 0 rfl rfl 23 (by decide) hf_44 (fun _ h9 => h9) rfl dX11_alike_70 ?_
              refine lv_iload_n hx hb dX11_alike_73 rfl (lv_at hl 4 rfl) ?_
              have n_74 : vp_in lb 1300 := (t_in (by omega))
              refine va_iald hx hb hK.1 hP 8 0 rfl rfl n_74 dX11_alike_74 ?_
              refine q_nm (fun x16 e_x16 => ?_)
              have e_x16 : x16 = (u6 8) lb.toNatClampNeg := e_x16
              have g_x16 : x16.toInt = ((u6 8) lb.toNatClampNeg).toInt := congrArg _ e_x16
              refine lv_iload hx hb dX11_alike_75 (lv_at hl 0 rfl) ?_
              refine r_iadd hx hb dX11_alike_77 rfl rfl (fun x17 e_x17 t_x17 => ?_)
              try have t_x17 := t_x17 (by omega)
              have n_78 : vp_in x17 2600 := (t_in (by omega))
              refine va_iald hx hb hK.1 hP 7 0 rfl rfl n_78 dX11_alike_78 ?_
              refine q_nm (fun x18 e_x18 => ?_)
              have e_x18 : x18 = (u6 7) x17.toNatClampNeg := e_x18
              have g_x18 : x18.toInt = ((u6 7) x17.toNatClampNeg).toInt := congrArg _ e_x18
              refine q_icmp_ne (tgt := 86) hx hb dX11_alike_79 (by decide) rfl rfl (fun k_79 => ?_) (fun k_79 => ?_)
              · refine lv_iconst (v := 0) hx hb dX11_alike_86 (by decide) ?_
                refine r_iadd hx hb dX11_alike_87 rfl (by decide : (0 : Int32).toInt = 0) (fun x19 e_x19 t_x19 => ?_)
                try have t_x19 := t_x19 (by omega)
                refine lv_istore_n (lv' := [(3, .int x19), (4, .int v4_28), (0, .ref (a_m 0)), (1, .int la), (2, .int lb)]) hx hb dX11_alike_88 rfl hl (by decide) rfl (fun ls hl => ?_)
                refine r_iinc (lv' := fun i20 => [(4, .int i20), (3, .int x19), (0, .ref (a_m 0)), (1, .int la), (2, .int lb)]) hx hb dX11_alike_89 hl (k := 1) rfl (by decide) rfl (by decide) (fun _ => rfl) (fun i20 e_i20 t_i20 ls hl => ?_)
                try have t_i20 := t_i20 (by omega)
                refine lv_goto (tgt := 28) hx hb dX11_alike_92 (by decide) ?_
                exact ih_28 x19 i20 (by omega) (by omega) _ _ hP hD hS ls hl
              · refine lv_iconst (v := 1) hx hb dX11_alike_82 (by decide) ?_
                refine lv_goto (tgt := 87) hx hb dX11_alike_83 (by decide) ?_
                refine r_iadd hx hb dX11_alike_87 rfl (by decide : (1 : Int32).toInt = 1) (fun x21 e_x21 t_x21 => ?_)
                try have t_x21 := t_x21 (by omega)
                refine lv_istore_n (lv' := [(3, .int x21), (4, .int v4_28), (0, .ref (a_m 0)), (1, .int la), (2, .int lb)]) hx hb dX11_alike_88 rfl hl (by decide) rfl (fun ls hl => ?_)
                refine r_iinc (lv' := fun i22 => [(4, .int i22), (3, .int x21), (0, .ref (a_m 0)), (1, .int la), (2, .int lb)]) hx hb dX11_alike_89 hl (k := 1) rfl (by decide) rfl (by decide) (fun _ => rfl) (fun i22 e_i22 t_i22 ls hl => ?_)
                try have t_i22 := t_i22 (by omega)
                refine lv_goto (tgt := 28) hx hb dX11_alike_92 (by decide) ?_
                exact ih_28 x21 i22 (by omega) (by omega) _ _ hP hD hS ls hl
      exact L28 ((2601 - (0 : Int32).toInt) + 1).toNat (0 : Int32) (0 : Int32) (by omega) (by omega) _ _ hP hD hS ls hl
    · have q_13 := bP.f p_r5.2.2 b_13
      refine lv_aload_n hx hb dX11_alike_16 rfl (lv_at hl 0 rfl) ?_
      refine lv_bipush (v := 6) hx hb dX11_alike_17 (by decide) ?_
      refine EffI.cv (wr := ([])) (w' := fun u24 => wX11 g a_m u24 J_m) (As := [.int (6 : Int32)]) (kX11_refuse l g a_m u6 J_m (6 : Int32)) fx (gUV (uT _) u_536 u_537 u_538 u_5 u_539) rfl hdX11_refuse ⟨Nat.le_of_ble_eq_true rfl, Nat.le_of_ble_eq_true rfl⟩ hK hP hD hS hA [0, 1, 2, 3, 4, 5, 6, 7, 8, 9, 10, 11, 12, 13, 14, 15, 16, 17, 18, 19, 20, 21, 22] [] [0, 1, 2, 3, 4, 5, 6, 7, 8, 9, 10, 11, 12, 13, 14, 15, 16, 17, 18, 19, 20, 21, 22] rfl rfl rfl rfl (by decide) rfl (fun _ => rfl) rfl rfl rfl rfl hl.1 (Nat.le_of_ble_eq_true rfl) dX11_alike_19 (fun r23 u24 H locs p_r23 hP hD hS => ?_)
      have hP : va_P g.1 vwCl (wX11 g a_m u24 J_m) H := hP
      have hD : va_D A (wX11 g a_m u24 J_m) := hD
      refine hret 22 ls r23 _ _ u24 dX11_alike_22 hS hP hD ?_
      exact ⟨(MI.st (p_r5.1) p_r23.2), (KK.st (KK.tr (KK.tr (KK.rf I_m) p_r1.2.1 (by decide) (by decide)) p_r5.2.1 (by decide) (by decide)) p_r23.2 (by decide))⟩

set_option maxHeartbeats 4000000 in
set_option maxRecDepth 100000 in
theorem kX11_longest (l : Launch) (g : gG) (a_m : Nat → Nat) (I_m : Nat → Nat → Int32) (J_m : Nat → Nat → Int64) (hM : MI I_m) : EffI l g yX11_longest wsX11_longest 1 [.ref (a_m 0)] (wX11 g a_m I_m J_m) (fun (u : (Nat → Nat → Int32)) => wX11 g a_m u J_m) (fun r (u : (Nat → Nat → Int32)) => KK [] [1] I_m (u)) := by
  refine EffI.st (cc := cX11_longest) (maxL := 3) (by decide) rfl (Nat.le_of_ble_eq_true rfl) (fun p e s m args below meth c A Q ls fx hK hP hD hA hS hl hret => ?_)
  have hx := fx.1
  have hb := fx.2.1
  have hml := fx.2.2.1
  have hown := fx.2.2.2.1
  have hts := fx.2.2.2.2
  have hl : lv_has ls 3 [(0, .ref (a_m 0))] := hl
  have hP : va_P g.1 vwCl (wX11 g a_m I_m J_m) s.heap := hP
  have hf_7 := hts _ (uT _ _ u_170)
  have hi_X11 : ∀ w ∈ wsX110, w.before args s = true := fun w h => hts w (uT _ w (u_wsX110 w h))
  have lm1 : (-1 : Int32).toInt = -1 := by decide
  have lm0 : (0 : Int32).toInt = 0 := by decide
  have lm2 : (1 : Int32).toInt = 1 := by decide
  have lq6 : (6 : Int32).toInt = 6 := by decide
  have lq9 : (9 : Int32).toInt = 9 := by decide
  have lq1 : (1 : Int32).toInt = 1 := by decide
  have hp9 := hM.pcs rfl
  have hs8 := hM.set rfl
  refine lv_aload_n hx hb dX11_longest_0 rfl (lv_at hl 0 rfl) ?_
  refine PurI.cv (As := []) (kX11_isSet l g a_m I_m J_m hM) fx (gUV (uT _) u_856 u_857 u_858 u_5 u_859) rfl hdX11_isSet ⟨Nat.le_of_ble_eq_true rfl, Nat.le_of_ble_eq_true rfl⟩ hK hP [0, 1, 2, 3, 4, 5, 6, 7, 8, 9, 10, 11, 12, 13, 14, 15, 16, 17, 18, 19, 20, 21, 22] rfl rfl rfl rfl rfl hl.1 (Nat.le_of_ble_eq_true rfl) dX11_longest_1 (fun r1 p_r1 => ?_)
  refine q_if_eq (tgt := 17) hx hb dX11_longest_4 (by decide) rfl (fun b_4 k_4 => ?_) (fun b_4 k_4 => ?_)
  · have q_4 := bP.f p_r1 b_4
    refine lv_aload_n hx hb dX11_longest_17 rfl (lv_at hl 0 rfl) ?_
    refine lv_bipush (v := 6) hx hb dX11_longest_18 (by decide) ?_
    refine EffI.cv (wr := ([])) (w' := fun u3 => wX11 g a_m u3 J_m) (As := [.int (6 : Int32)]) (kX11_refuse l g a_m I_m J_m (6 : Int32)) fx (gUV (uT _) u_536 u_537 u_538 u_5 u_539) rfl hdX11_refuse ⟨Nat.le_of_ble_eq_true rfl, Nat.le_of_ble_eq_true rfl⟩ hK hP hD hS hA [0, 1, 2, 3, 4, 5, 6, 7, 8, 9, 10, 11, 12, 13, 14, 15, 16, 17, 18, 19, 20, 21, 22] [] [0, 1, 2, 3, 4, 5, 6, 7, 8, 9, 10, 11, 12, 13, 14, 15, 16, 17, 18, 19, 20, 21, 22] rfl rfl rfl rfl (by decide) rfl (fun _ => rfl) rfl rfl rfl rfl hl.1 (Nat.le_of_ble_eq_true rfl) dX11_longest_20 (fun r2 u3 H locs p_r2 hP hD hS => ?_)
    have hP : va_P g.1 vwCl (wX11 g a_m u3 J_m) H := hP
    have hD : va_D A (wX11 g a_m u3 J_m) := hD
    refine hret 23 ls r2 _ _ u3 dX11_longest_23 hS hP hD ?_
    exact (KK.st (KK.rf I_m) p_r2.2 (by decide))
  · have q_4 := bP.t p_r1 b_4
    refine lv_aload_n hx hb dX11_longest_7 rfl (lv_at hl 0 rfl) ?_
    refine va_get (D := g.1) (ci := 11) (v := .ref (a_m 1)) (C := RX11) (T := TX11) (N := 46) hx hb hi_X11 (fun _ h => h) hown hK.1 hP 0 rfl rfl 0 (by decide) hf_7 (fun _ h9 => h9) rfl dX11_longest_8 ?_
    refine lv_bipush (v := 9) hx hb dX11_longest_11 (by decide) ?_
    have n_13 : vp_in (9 : Int32) 19800 := (t_in (by decide))
    refine va_iald hx hb hK.1 hP 1 0 rfl rfl n_13 dX11_longest_13 ?_
    refine q_nm (fun x4 e_x4 => ?_)
    have e_x4 : x4 = (I_m 1) 9 := e_x4
    have g_x4 : x4.toInt = ((I_m 1) 9).toInt := congrArg _ e_x4
    have f_x4 := MI.pcs hM e_x4
    refine q_if_ne (tgt := 24) hx hb dX11_longest_14 (by decide) rfl (fun b_14 k_14 => ?_) (fun b_14 k_14 => ?_)
    · refine lv_iconst (v := 0) hx hb dX11_longest_24 (by decide) ?_
      refine lv_istore_n (lv' := [(1, .int (0 : Int32)), (0, .ref (a_m 0))]) hx hb dX11_longest_25 rfl hl (by decide) rfl (fun ls hl => ?_)
      refine lv_iconst (v := 1) hx hb dX11_longest_26 (by decide) ?_
      refine lv_istore_n (lv' := [(2, .int (1 : Int32)), (1, .int (0 : Int32)), (0, .ref (a_m 0))]) hx hb dX11_longest_27 rfl hl (by decide) rfl (fun ls hl => ?_)
      have L28 : ∀ (nn : Nat) (v1_28 : Int32) (v2_28 : Int32), (hv_28 : 1 ≤ v2_28.toInt ∧ v2_28.toInt ≤ 151 ∧ 0 ≤ v1_28.toInt ∧ v1_28.toInt < (I_m 1 9).toInt) → ((152 - v2_28.toInt) < (nn : Int)) → ∀ (H : Heap) (locs : List Loc), va_P g.1 vwCl (wX11 g a_m I_m J_m) H → va_D A (wX11 g a_m I_m J_m) → va_S A s.heap H locs → ∀ ls : Array Slot, lv_has ls 3 [(2, .int v2_28), (1, .int v1_28), (0, .ref (a_m 0))] → W p l e (rm 1) s m args below meth c H locs 0 0 Q (F0 m 28 ls []) := by
        intro n_28
        induction n_28 with
        | zero =>
          intro v1_28 v2_28 hv_28 hms_28 H locs hP hD hS ls hl
          exfalso; omega
        | succ n_28 ih_28 =>
          intro v1_28 v2_28 hv_28 hms_28 H locs hP hD hS ls hl
          refine lv_iload_n hx hb dX11_longest_28 rfl (lv_at hl 0 rfl) ?_
          refine lv_aload_n hx hb dX11_longest_29 rfl (lv_at hl 2 rfl) ?_
          refine va_get (D := g.1) (ci := 11) (v := .ref (a_m 1)) (C := RX11) (T := TX11) (N := 46) hx hb hi_X11 (fun _ h => h) hown hK.1 hP 0 rfl rfl 0 (by decide) hf_7 (fun _ h9 => h9) rfl dX11_longest_30 ?_
          refine lv_bipush (v := 9) hx hb dX11_longest_33 (by decide) ?_
          have n_35 : vp_in (9 : Int32) 19800 := (t_in (by decide))
          refine va_iald hx hb hK.1 hP 1 0 rfl rfl n_35 dX11_longest_35 ?_
          refine q_nm (fun x5 e_x5 => ?_)
          have e_x5 : x5 = (I_m 1) 9 := e_x5
          have g_x5 : x5.toInt = ((I_m 1) 9).toInt := congrArg _ e_x5
          have f_x5 := MI.pcs hM e_x5
          refine q_icmp_ge (tgt := 60) hx hb dX11_longest_36 (by decide) rfl rfl (fun k_36 => ?_) (fun k_36 => ?_)
          · refine lv_aload_n hx hb dX11_longest_60 rfl (lv_at hl 2 rfl) ?_
            refine lv_iload_n hx hb dX11_longest_61 rfl (lv_at hl 1 rfl) ?_
            refine EffI.cv (wr := ([])) (w' := fun u7 => wX11 g a_m u7 J_m) (As := [.int v1_28]) (kX11_gives l g a_m I_m J_m v1_28) fx (gUV (uT _) u_585 u_586 u_587 u_5 u_588) rfl hdX11_gives ⟨Nat.le_of_ble_eq_true rfl, Nat.le_of_ble_eq_true rfl⟩ hK hP hD hS hA [0, 1, 2, 3, 4, 5, 6, 7, 8, 9, 10, 11, 12, 13, 14, 15, 16, 17, 18, 19, 20, 21, 22] [] [0, 1, 2, 3, 4, 5, 6, 7, 8, 9, 10, 11, 12, 13, 14, 15, 16, 17, 18, 19, 20, 21, 22] rfl rfl rfl rfl (by decide) rfl (fun _ => rfl) rfl rfl rfl rfl hl.1 (Nat.le_of_ble_eq_true rfl) dX11_longest_62 (fun r6 u7 H locs p_r6 hP hD hS => ?_)
            have hP : va_P g.1 vwCl (wX11 g a_m u7 J_m) H := hP
            have hD : va_D A (wX11 g a_m u7 J_m) := hD
            refine hret 65 ls r6 _ _ u7 dX11_longest_65 hS hP hD ?_
            exact (KK.st (KK.rf I_m) p_r6.2 (by decide))
          · refine lv_aload_n hx hb dX11_longest_39 rfl (lv_at hl 2 rfl) ?_
            refine lv_iload_n hx hb dX11_longest_40 rfl (lv_at hl 0 rfl) ?_
            refine PurI.cv (As := [.int v2_28]) (kX11_pieceMany l g a_m I_m J_m v2_28 hM (by omega)) fx (gUV (uT _) u_890 u_891 u_892 u_5 u_893) rfl hdX11_pieceMany ⟨Nat.le_of_ble_eq_true rfl, Nat.le_of_ble_eq_true rfl⟩ hK hP [0, 1, 2, 3, 4, 5, 6, 7, 8, 9, 10, 11, 12, 13, 14, 15, 16, 17, 18, 19, 20, 21, 22] rfl rfl rfl rfl rfl hl.1 (Nat.le_of_ble_eq_true rfl) dX11_longest_41 (fun r8 p_r8 => ?_)
            refine lv_aload_n hx hb dX11_longest_44 rfl (lv_at hl 2 rfl) ?_
            refine lv_iload_n hx hb dX11_longest_45 rfl (lv_at hl 1 rfl) ?_
            refine PurI.cv (As := [.int v1_28]) (kX11_pieceMany l g a_m I_m J_m v1_28 hM (by omega)) fx (gUV (uT _) u_890 u_891 u_892 u_5 u_893) rfl hdX11_pieceMany ⟨Nat.le_of_ble_eq_true rfl, Nat.le_of_ble_eq_true rfl⟩ hK hP [0, 1, 2, 3, 4, 5, 6, 7, 8, 9, 10, 11, 12, 13, 14, 15, 16, 17, 18, 19, 20, 21, 22] rfl rfl rfl rfl rfl hl.1 (Nat.le_of_ble_eq_true rfl) dX11_longest_46 (fun r9 p_r9 => ?_)
            refine q_icmp_le (tgt := 54) hx hb dX11_longest_49 (by decide) rfl rfl (fun k_49 => ?_) (fun k_49 => ?_)
            · refine r_iinc (lv' := fun i10 => [(2, .int i10), (1, .int v1_28), (0, .ref (a_m 0))]) hx hb dX11_longest_54 hl (k := 0) rfl (by decide) rfl (by decide) (fun _ => rfl) (fun i10 e_i10 t_i10 ls hl => ?_)
              try have t_i10 := t_i10 (by omega)
              refine lv_goto (tgt := 28) hx hb dX11_longest_57 (by decide) ?_
              exact ih_28 v1_28 i10 (by omega) (by omega) _ _ hP hD hS ls hl
            · refine lv_iload_n hx hb dX11_longest_52 rfl (lv_at hl 0 rfl) ?_
              refine lv_istore_n (lv' := [(1, .int v2_28), (2, .int v2_28), (0, .ref (a_m 0))]) hx hb dX11_longest_53 rfl hl (by decide) rfl (fun ls hl => ?_)
              refine r_iinc (lv' := fun i11 => [(2, .int i11), (1, .int v2_28), (0, .ref (a_m 0))]) hx hb dX11_longest_54 hl (k := 1) rfl (by decide) rfl (by decide) (fun _ => rfl) (fun i11 e_i11 t_i11 ls hl => ?_)
              try have t_i11 := t_i11 (by omega)
              refine lv_goto (tgt := 28) hx hb dX11_longest_57 (by decide) ?_
              exact ih_28 v2_28 i11 (by omega) (by omega) _ _ hP hD hS ls hl
      exact L28 ((152 - (1 : Int32).toInt) + 1).toNat (0 : Int32) (1 : Int32) (by omega) (by omega) _ _ hP hD hS ls hl
    · refine lv_aload_n hx hb dX11_longest_17 rfl (lv_at hl 0 rfl) ?_
      refine lv_bipush (v := 6) hx hb dX11_longest_18 (by decide) ?_
      refine EffI.cv (wr := ([])) (w' := fun u13 => wX11 g a_m u13 J_m) (As := [.int (6 : Int32)]) (kX11_refuse l g a_m I_m J_m (6 : Int32)) fx (gUV (uT _) u_536 u_537 u_538 u_5 u_539) rfl hdX11_refuse ⟨Nat.le_of_ble_eq_true rfl, Nat.le_of_ble_eq_true rfl⟩ hK hP hD hS hA [0, 1, 2, 3, 4, 5, 6, 7, 8, 9, 10, 11, 12, 13, 14, 15, 16, 17, 18, 19, 20, 21, 22] [] [0, 1, 2, 3, 4, 5, 6, 7, 8, 9, 10, 11, 12, 13, 14, 15, 16, 17, 18, 19, 20, 21, 22] rfl rfl rfl rfl (by decide) rfl (fun _ => rfl) rfl rfl rfl rfl hl.1 (Nat.le_of_ble_eq_true rfl) dX11_longest_20 (fun r12 u13 H locs p_r12 hP hD hS => ?_)
      have hP : va_P g.1 vwCl (wX11 g a_m u13 J_m) H := hP
      have hD : va_D A (wX11 g a_m u13 J_m) := hD
      refine hret 23 ls r12 _ _ u13 dX11_longest_23 hS hP hD ?_
      exact (KK.st (KK.rf I_m) p_r12.2 (by decide))

set_option maxHeartbeats 4000000 in
set_option maxRecDepth 100000 in
theorem kX11_inLine (l : Launch) (g : gG) (a_m : Nat → Nat) (I_m : Nat → Nat → Int32) (J_m : Nat → Nat → Int64) (line : Int32) (hM : MI I_m) : EffI l g yX11_inLine wsX11_inLine 3 [.ref (a_m 0), .int line] (wX11 g a_m I_m J_m) (fun (u : (Nat → Nat → Int32)) => wX11 g a_m u J_m) (fun r (u : (Nat → Nat → Int32)) => MI (u) ∧ KK [7, 8, 9, 10, 11] [1, 27, 28, 29] I_m (u)) := by
  refine EffI.st (cc := cX11_inLine) (maxL := 4) (by decide) rfl (Nat.le_of_ble_eq_true rfl) (fun p e s m args below meth c A Q ls fx hK hP hD hA hS hl hret => ?_)
  have hx := fx.1
  have hb := fx.2.1
  have hml := fx.2.2.1
  have hown := fx.2.2.2.1
  have hts := fx.2.2.2.2
  have hl : lv_has ls 4 [(0, .ref (a_m 0)), (1, .int line)] := hl
  have hP : va_P g.1 vwCl (wX11 g a_m I_m J_m) s.heap := hP
  have hf_7 := hts _ (uT _ _ u_170)
  have hf_50 := hts _ (uT _ _ u_183)
  have hf_53 := hts _ (uT _ _ u_184)
  have hi_X11 : ∀ w ∈ wsX110, w.before args s = true := fun w h => hts w (uT _ w (u_wsX110 w h))
  have lm1 : (-1 : Int32).toInt = -1 := by decide
  have lm0 : (0 : Int32).toInt = 0 := by decide
  have lm2 : (1 : Int32).toInt = 1 := by decide
  have lq6 : (6 : Int32).toInt = 6 := by decide
  have lq9 : (9 : Int32).toInt = 9 := by decide
  have lq1 : (1 : Int32).toInt = 1 := by decide
  refine lv_aload_n hx hb dX11_inLine_0 rfl (lv_at hl 0 rfl) ?_
  refine lv_iload_n hx hb dX11_inLine_1 rfl (lv_at hl 1 rfl) ?_
  refine EffI.cv (wr := ([])) (w' := fun u2 => wX11 g a_m u2 J_m) (As := [.int line]) (kX11_isLine l g a_m I_m J_m line hM) fx (gUV (uT _) u_931 u_932 u_933 u_5 u_934) rfl hdX11_isLine ⟨Nat.le_of_ble_eq_true rfl, Nat.le_of_ble_eq_true rfl⟩ hK hP hD hS hA [0, 1, 2, 3, 4, 5, 6, 7, 8, 9, 10, 11, 12, 13, 14, 15, 16, 17, 18, 19, 20, 21, 22] [] [0, 1, 2, 3, 4, 5, 6, 7, 8, 9, 10, 11, 12, 13, 14, 15, 16, 17, 18, 19, 20, 21, 22] rfl rfl rfl rfl (by decide) rfl (fun _ => rfl) rfl rfl rfl rfl hl.1 (Nat.le_of_ble_eq_true rfl) dX11_inLine_2 (fun r1 u2 H locs p_r1 hP hD hS => ?_)
  have hP : va_P g.1 vwCl (wX11 g a_m u2 J_m) H := hP
  have hD : va_D A (wX11 g a_m u2 J_m) := hD
  refine q_if_ne (tgt := 15) hx hb dX11_inLine_5 (by decide) rfl (fun b_5 k_5 => ?_) (fun b_5 k_5 => ?_)
  · have q_5 := bP.t p_r1.2.2 b_5
    refine lv_iconst (v := 0) hx hb dX11_inLine_15 (by decide) ?_
    refine lv_istore_n (lv' := [(2, .int (0 : Int32)), (0, .ref (a_m 0)), (1, .int line)]) hx hb dX11_inLine_16 rfl hl (by decide) rfl (fun ls hl => ?_)
    refine lv_iconst (v := 0) hx hb dX11_inLine_17 (by decide) ?_
    refine lv_istore_n (lv' := [(3, .int (0 : Int32)), (2, .int (0 : Int32)), (0, .ref (a_m 0)), (1, .int line)]) hx hb dX11_inLine_18 rfl hl (by decide) rfl (fun ls hl => ?_)
    have L19 : ∀ (nn : Nat) (v2_19 : Int32) (v3_19 : Int32), (hv_19 : 0 ≤ v3_19.toInt ∧ v3_19.toInt ≤ 150) → ((151 - v3_19.toInt) < (nn : Int)) → ∀ (H : Heap) (locs : List Loc), va_P g.1 vwCl (wX11 g a_m u2 J_m) H → va_D A (wX11 g a_m u2 J_m) → va_S A s.heap H locs → ∀ ls : Array Slot, lv_has ls 4 [(3, .int v3_19), (2, .int v2_19), (0, .ref (a_m 0)), (1, .int line)] → W p l e (rm 3) s m args below meth c H locs 0 0 Q (F0 m 19 ls []) := by
      intro n_19
      induction n_19 with
      | zero =>
        intro v2_19 v3_19 hv_19 hms_19 H locs hP hD hS ls hl
        exfalso; omega
      | succ n_19 ih_19 =>
        intro v2_19 v3_19 hv_19 hms_19 H locs hP hD hS ls hl
        refine lv_iload_n hx hb dX11_inLine_19 rfl (lv_at hl 0 rfl) ?_
        refine lv_aload_n hx hb dX11_inLine_20 rfl (lv_at hl 2 rfl) ?_
        refine va_get (D := g.1) (ci := 11) (v := .ref (a_m 1)) (C := RX11) (T := TX11) (N := 46) hx hb hi_X11 (fun _ h => h) hown hK.1 hP 0 rfl rfl 0 (by decide) hf_7 (fun _ h9 => h9) rfl dX11_inLine_21 ?_
        refine lv_bipush (v := 9) hx hb dX11_inLine_24 (by decide) ?_
        have n_26 : vp_in (9 : Int32) 19800 := (t_in (by decide))
        refine va_iald hx hb hK.1 hP 1 0 rfl rfl n_26 dX11_inLine_26 ?_
        refine q_nm (fun x3 e_x3 => ?_)
        have e_x3 : x3 = (u2 1) 9 := e_x3
        have g_x3 : x3.toInt = ((u2 1) 9).toInt := congrArg _ e_x3
        have f_x3 := MI.pcs (p_r1.1) e_x3
        refine q_icmp_ge (tgt := 64) hx hb dX11_inLine_27 (by decide) rfl rfl (fun k_27 => ?_) (fun k_27 => ?_)
        · refine lv_aload_n hx hb dX11_inLine_64 rfl (lv_at hl 2 rfl) ?_
          refine lv_iload_n hx hb dX11_inLine_65 rfl (lv_at hl 1 rfl) ?_
          refine EffI.cv (wr := ([])) (w' := fun u5 => wX11 g a_m u5 J_m) (As := [.int v2_19]) (kX11_gives l g a_m u2 J_m v2_19) fx (gUV (uT _) u_585 u_586 u_587 u_5 u_588) rfl hdX11_gives ⟨Nat.le_of_ble_eq_true rfl, Nat.le_of_ble_eq_true rfl⟩ hK hP hD hS hA [0, 1, 2, 3, 4, 5, 6, 7, 8, 9, 10, 11, 12, 13, 14, 15, 16, 17, 18, 19, 20, 21, 22] [] [0, 1, 2, 3, 4, 5, 6, 7, 8, 9, 10, 11, 12, 13, 14, 15, 16, 17, 18, 19, 20, 21, 22] rfl rfl rfl rfl (by decide) rfl (fun _ => rfl) rfl rfl rfl rfl hl.1 (Nat.le_of_ble_eq_true rfl) dX11_inLine_66 (fun r4 u5 H locs p_r4 hP hD hS => ?_)
          have hP : va_P g.1 vwCl (wX11 g a_m u5 J_m) H := hP
          have hD : va_D A (wX11 g a_m u5 J_m) := hD
          refine hret 69 ls r4 _ _ u5 dX11_inLine_69 hS hP hD ?_
          exact ⟨(MI.st (p_r1.1) p_r4.2), (KK.st (KK.tr (KK.rf I_m) p_r1.2.1 (by decide) (by decide)) p_r4.2 (by decide))⟩
        · refine lv_iload_n hx hb dX11_inLine_30 rfl (lv_at hl 1 rfl) ?_
          refine lv_aload_n hx hb dX11_inLine_31 rfl (lv_at hl 2 rfl) ?_
          refine va_get (D := g.1) (ci := 11) (v := .ref (a_m 10)) (C := RX11) (T := TX11) (N := 46) hx hb hi_X11 (fun _ h => h) hown hK.1 hP 0 rfl rfl 25 (by decide) hf_50 (fun _ h9 => h9) rfl dX11_inLine_32 ?_
          refine lv_iload_n hx hb dX11_inLine_35 rfl (lv_at hl 0 rfl) ?_
          have n_36 : vp_in v3_19 160 := (t_in (by omega))
          refine va_iald hx hb hK.1 hP 10 0 rfl rfl n_36 dX11_inLine_36 ?_
          refine q_nm (fun x6 e_x6 => ?_)
          have e_x6 : x6 = (u2 10) v3_19.toNatClampNeg := e_x6
          have g_x6 : x6.toInt = ((u2 10) v3_19.toNatClampNeg).toInt := congrArg _ e_x6
          refine lv_iload_n hx hb dX11_inLine_37 rfl (lv_at hl 3 rfl) ?_
          refine q_icmp_gt (tgt := 55) hx hb dX11_inLine_38 (by decide) rfl rfl (fun k_38 => ?_) (fun k_38 => ?_)
          · refine lv_iconst (v := 0) hx hb dX11_inLine_55 (by decide) ?_
            refine r_iadd hx hb dX11_inLine_56 rfl (by decide : (0 : Int32).toInt = 0) (fun x7 e_x7 t_x7 => ?_)
            try have t_x7 := t_x7 (by omega)
            refine lv_istore_n (lv' := [(2, .int x7), (3, .int v3_19), (0, .ref (a_m 0)), (1, .int line)]) hx hb dX11_inLine_57 rfl hl (by decide) rfl (fun ls hl => ?_)
            refine r_iinc (lv' := fun i8 => [(3, .int i8), (2, .int x7), (0, .ref (a_m 0)), (1, .int line)]) hx hb dX11_inLine_58 hl (k := 1) rfl (by decide) rfl (by decide) (fun _ => rfl) (fun i8 e_i8 t_i8 ls hl => ?_)
            try have t_i8 := t_i8 (by omega)
            refine lv_goto (tgt := 19) hx hb dX11_inLine_61 (by decide) ?_
            exact ih_19 x7 i8 (by omega) (by omega) _ _ hP hD hS ls hl
          · refine lv_aload_n hx hb dX11_inLine_41 rfl (lv_at hl 2 rfl) ?_
            refine va_get (D := g.1) (ci := 11) (v := .ref (a_m 11)) (C := RX11) (T := TX11) (N := 46) hx hb hi_X11 (fun _ h => h) hown hK.1 hP 0 rfl rfl 26 (by decide) hf_53 (fun _ h9 => h9) rfl dX11_inLine_42 ?_
            refine lv_iload_n hx hb dX11_inLine_45 rfl (lv_at hl 0 rfl) ?_
            have n_46 : vp_in v3_19 160 := (t_in (by omega))
            refine va_iald hx hb hK.1 hP 11 0 rfl rfl n_46 dX11_inLine_46 ?_
            refine q_nm (fun x9 e_x9 => ?_)
            have e_x9 : x9 = (u2 11) v3_19.toNatClampNeg := e_x9
            have g_x9 : x9.toInt = ((u2 11) v3_19.toNatClampNeg).toInt := congrArg _ e_x9
            refine lv_iload_n hx hb dX11_inLine_47 rfl (lv_at hl 3 rfl) ?_
            refine q_icmp_lt (tgt := 55) hx hb dX11_inLine_48 (by decide) rfl rfl (fun k_48 => ?_) (fun k_48 => ?_)
            · refine lv_iconst (v := 0) hx hb dX11_inLine_55 (by decide) ?_
              refine r_iadd hx hb dX11_inLine_56 rfl (by decide : (0 : Int32).toInt = 0) (fun x10 e_x10 t_x10 => ?_)
              try have t_x10 := t_x10 (by omega)
              refine lv_istore_n (lv' := [(2, .int x10), (3, .int v3_19), (0, .ref (a_m 0)), (1, .int line)]) hx hb dX11_inLine_57 rfl hl (by decide) rfl (fun ls hl => ?_)
              refine r_iinc (lv' := fun i11 => [(3, .int i11), (2, .int x10), (0, .ref (a_m 0)), (1, .int line)]) hx hb dX11_inLine_58 hl (k := 1) rfl (by decide) rfl (by decide) (fun _ => rfl) (fun i11 e_i11 t_i11 ls hl => ?_)
              try have t_i11 := t_i11 (by omega)
              refine lv_goto (tgt := 19) hx hb dX11_inLine_61 (by decide) ?_
              exact ih_19 x10 i11 (by omega) (by omega) _ _ hP hD hS ls hl
            · refine lv_iconst (v := 1) hx hb dX11_inLine_51 (by decide) ?_
              refine lv_goto (tgt := 56) hx hb dX11_inLine_52 (by decide) ?_
              refine r_iadd hx hb dX11_inLine_56 rfl (by decide : (1 : Int32).toInt = 1) (fun x12 e_x12 t_x12 => ?_)
              try have t_x12 := t_x12 (by omega)
              refine lv_istore_n (lv' := [(2, .int x12), (3, .int v3_19), (0, .ref (a_m 0)), (1, .int line)]) hx hb dX11_inLine_57 rfl hl (by decide) rfl (fun ls hl => ?_)
              refine r_iinc (lv' := fun i13 => [(3, .int i13), (2, .int x12), (0, .ref (a_m 0)), (1, .int line)]) hx hb dX11_inLine_58 hl (k := 1) rfl (by decide) rfl (by decide) (fun _ => rfl) (fun i13 e_i13 t_i13 ls hl => ?_)
              try have t_i13 := t_i13 (by omega)
              refine lv_goto (tgt := 19) hx hb dX11_inLine_61 (by decide) ?_
              exact ih_19 x12 i13 (by omega) (by omega) _ _ hP hD hS ls hl
    exact L19 ((151 - (0 : Int32).toInt) + 1).toNat (0 : Int32) (0 : Int32) (by omega) (by omega) _ _ hP hD hS ls hl
  · have q_5 := bP.f p_r1.2.2 b_5
    refine lv_aload_n hx hb dX11_inLine_8 rfl (lv_at hl 0 rfl) ?_
    refine lv_bipush (v := 6) hx hb dX11_inLine_9 (by decide) ?_
    refine EffI.cv (wr := ([])) (w' := fun u15 => wX11 g a_m u15 J_m) (As := [.int (6 : Int32)]) (kX11_refuse l g a_m u2 J_m (6 : Int32)) fx (gUV (uT _) u_536 u_537 u_538 u_5 u_539) rfl hdX11_refuse ⟨Nat.le_of_ble_eq_true rfl, Nat.le_of_ble_eq_true rfl⟩ hK hP hD hS hA [0, 1, 2, 3, 4, 5, 6, 7, 8, 9, 10, 11, 12, 13, 14, 15, 16, 17, 18, 19, 20, 21, 22] [] [0, 1, 2, 3, 4, 5, 6, 7, 8, 9, 10, 11, 12, 13, 14, 15, 16, 17, 18, 19, 20, 21, 22] rfl rfl rfl rfl (by decide) rfl (fun _ => rfl) rfl rfl rfl rfl hl.1 (Nat.le_of_ble_eq_true rfl) dX11_inLine_11 (fun r14 u15 H locs p_r14 hP hD hS => ?_)
    have hP : va_P g.1 vwCl (wX11 g a_m u15 J_m) H := hP
    have hD : va_D A (wX11 g a_m u15 J_m) := hD
    refine hret 14 ls r14 _ _ u15 dX11_inLine_14 hS hP hD ?_
    exact ⟨(MI.st (p_r1.1) p_r14.2), (KK.st (KK.tr (KK.rf I_m) p_r1.2.1 (by decide) (by decide)) p_r14.2 (by decide))⟩

set_option maxHeartbeats 4000000 in
set_option maxRecDepth 100000 in
theorem kX11_covers (l : Launch) (g : gG) (a_m : Nat → Nat) (I_m : Nat → Nat → Int32) (J_m : Nat → Nat → Int64) (rule : Int32) (hM : MI I_m) : EffI l g yX11_covers wsX11_covers 3 [.ref (a_m 0), .int rule] (wX11 g a_m I_m J_m) (fun (u : (Nat → Nat → Int32)) => wX11 g a_m u J_m) (fun r (u : (Nat → Nat → Int32)) => MI (u) ∧ WK I_m (u) ∧ KK [1] [1] I_m (u)) := by
  refine EffI.st (cc := cX11_covers) (maxL := 5) (by decide) rfl (Nat.le_of_ble_eq_true rfl) (fun p e s m args below meth c A Q ls fx hK hP hD hA hS hl hret => ?_)
  have hx := fx.1
  have hb := fx.2.1
  have hml := fx.2.2.1
  have hown := fx.2.2.2.1
  have hts := fx.2.2.2.2
  have hl : lv_has ls 5 [(0, .ref (a_m 0)), (1, .int rule)] := hl
  have hP : va_P g.1 vwCl (wX11 g a_m I_m J_m) s.heap := hP
  have hf_7 := hts _ (uT _ _ u_170)
  have hi_X11 : ∀ w ∈ wsX110, w.before args s = true := fun w h => hts w (uT _ w (u_wsX110 w h))
  have lm1 : (-1 : Int32).toInt = -1 := by decide
  have lm0 : (0 : Int32).toInt = 0 := by decide
  have lm2 : (1 : Int32).toInt = 1 := by decide
  have lq6 : (6 : Int32).toInt = 6 := by decide
  have lq7 : (7 : Int32).toInt = 7 := by decide
  have lq1 : (1 : Int32).toInt = 1 := by decide
  have hmn := hM.many rfl
  refine lv_aload_n hx hb dX11_covers_0 rfl (lv_at hl 0 rfl) ?_
  refine lv_iload_n hx hb dX11_covers_1 rfl (lv_at hl 1 rfl) ?_
  refine PurI.cv (As := [.int rule]) (kX11_isRule l g a_m I_m J_m rule hM) fx (gUV (uT _) u_804 u_805 u_806 u_5 u_807) rfl hdX11_isRule ⟨Nat.le_of_ble_eq_true rfl, Nat.le_of_ble_eq_true rfl⟩ hK hP [0, 1, 2, 3, 4, 5, 6, 7, 8, 9, 10, 11, 12, 13, 14, 15, 16, 17, 18, 19, 20, 21, 22] rfl rfl rfl rfl rfl hl.1 (Nat.le_of_ble_eq_true rfl) dX11_covers_2 (fun r1 p_r1 => ?_)
  refine q_if_ne (tgt := 14) hx hb dX11_covers_5 (by decide) rfl (fun b_5 k_5 => ?_) (fun b_5 k_5 => ?_)
  · have q_5 := bP.t p_r1 b_5
    refine lv_aload_n hx hb dX11_covers_14 rfl (lv_at hl 0 rfl) ?_
    refine PurI.cv (As := []) (kX11_isSet l g a_m I_m J_m hM) fx (gUV (uT _) u_856 u_857 u_858 u_5 u_859) rfl hdX11_isSet ⟨Nat.le_of_ble_eq_true rfl, Nat.le_of_ble_eq_true rfl⟩ hK hP [0, 1, 2, 3, 4, 5, 6, 7, 8, 9, 10, 11, 12, 13, 14, 15, 16, 17, 18, 19, 20, 21, 22] rfl rfl rfl rfl rfl hl.1 (Nat.le_of_ble_eq_true rfl) dX11_covers_15 (fun r2 p_r2 => ?_)
    refine q_if_ne (tgt := 28) hx hb dX11_covers_18 (by decide) rfl (fun b_18 k_18 => ?_) (fun b_18 k_18 => ?_)
    · have q_18 := bP.t p_r2 b_18
      refine lv_aload_n hx hb dX11_covers_28 rfl (lv_at hl 0 rfl) ?_
      refine EffV.cv (wr := ([])) (w' := fun u4 => wX11 g a_m u4 J_m) (As := []) (kX11_laysBytes l g a_m I_m J_m hM q_18) fx (gUV (uT _) u_860 u_861 u_862 u_5 u_863) rfl hdX11_laysBytes ⟨Nat.le_of_ble_eq_true rfl, Nat.le_of_ble_eq_true rfl⟩ hK hP hD hS hA [0, 1, 2, 3, 4, 5, 6, 7, 8, 9, 10, 11, 12, 13, 14, 15, 16, 17, 18, 19, 20, 21, 22] [] [0, 1, 2, 3, 4, 5, 6, 7, 8, 9, 10, 11, 12, 13, 14, 15, 16, 17, 18, 19, 20, 21, 22] rfl rfl rfl rfl (by decide) rfl (fun _ => rfl) rfl rfl rfl rfl hl.1 (Nat.le_of_ble_eq_true rfl) dX11_covers_29 (fun u4 H locs p_r3 hP hD hS => ?_)
      have hP : va_P g.1 vwCl (wX11 g a_m u4 J_m) H := hP
      have hD : va_D A (wX11 g a_m u4 J_m) := hD
      have hwb29 := p_r3.1.wb rfl
      refine lv_iconst (v := 0) hx hb dX11_covers_32 (by decide) ?_
      refine lv_istore_n (lv' := [(2, .int (0 : Int32)), (0, .ref (a_m 0)), (1, .int rule)]) hx hb dX11_covers_33 rfl hl (by decide) rfl (fun ls hl => ?_)
      refine lv_iconst (v := -1) hx hb dX11_covers_34 (by decide) ?_
      refine lv_istore_n (lv' := [(3, .int (-1 : Int32)), (2, .int (0 : Int32)), (0, .ref (a_m 0)), (1, .int rule)]) hx hb dX11_covers_35 rfl hl (by decide) rfl (fun ls hl => ?_)
      refine lv_iconst (v := 0) hx hb dX11_covers_36 (by decide) ?_
      refine lv_istore (lv' := [(4, .int (0 : Int32)), (3, .int (-1 : Int32)), (2, .int (0 : Int32)), (0, .ref (a_m 0)), (1, .int rule)]) hx hb dX11_covers_37 hl (by decide) rfl (fun ls hl => ?_)
      have L39 : ∀ (nn : Nat) (v2_39 : Int32) (v3_39 : Int32) (v4_39 : Int32), (hv_39 : 0 ≤ v4_39.toInt ∧ v4_39.toInt ≤ 300) → ((301 - v4_39.toInt) < (nn : Int)) → ∀ (H : Heap) (locs : List Loc), va_P g.1 vwCl (wX11 g a_m u4 J_m) H → va_D A (wX11 g a_m u4 J_m) → va_S A s.heap H locs → ∀ ls : Array Slot, lv_has ls 5 [(4, .int v4_39), (3, .int v3_39), (2, .int v2_39), (0, .ref (a_m 0)), (1, .int rule)] → W p l e (rm 3) s m args below meth c H locs 0 0 Q (F0 m 39 ls []) := by
        intro n_39
        induction n_39 with
        | zero =>
          intro v2_39 v3_39 v4_39 hv_39 hms_39 H locs hP hD hS ls hl
          exfalso; omega
        | succ n_39 ih_39 =>
          intro v2_39 v3_39 v4_39 hv_39 hms_39 H locs hP hD hS ls hl
          refine lv_iload hx hb dX11_covers_39 (lv_at hl 0 rfl) ?_
          refine lv_aload_n hx hb dX11_covers_41 rfl (lv_at hl 3 rfl) ?_
          refine va_get (D := g.1) (ci := 11) (v := .ref (a_m 1)) (C := RX11) (T := TX11) (N := 46) hx hb hi_X11 (fun _ h => h) hown hK.1 hP 0 rfl rfl 0 (by decide) hf_7 (fun _ h9 => h9) rfl dX11_covers_42 ?_
          refine lv_bipush (v := 7) hx hb dX11_covers_45 (by decide) ?_
          have n_47 : vp_in (7 : Int32) 19800 := (t_in (by decide))
          refine va_iald hx hb hK.1 hP 1 0 rfl rfl n_47 dX11_covers_47 ?_
          refine q_nm (fun x5 e_x5 => ?_)
          have e_x5 : x5 = (u4 1) 7 := e_x5
          have g_x5 : x5.toInt = ((u4 1) 7).toInt := congrArg _ e_x5
          have f_x5 := MI.bytes (p_r3.1) e_x5
          refine q_icmp_ge (tgt := 121) hx hb dX11_covers_48 (by decide) rfl rfl (fun k_48 => ?_) (fun k_48 => ?_)
          · refine lv_aload_n hx hb dX11_covers_121 rfl (lv_at hl 3 rfl) ?_
            refine lv_iload_n hx hb dX11_covers_122 rfl (lv_at hl 2 rfl) ?_
            refine EffI.cv (wr := ([])) (w' := fun u7 => wX11 g a_m u7 J_m) (As := [.int v2_39]) (kX11_gives l g a_m u4 J_m v2_39) fx (gUV (uT _) u_585 u_586 u_587 u_5 u_588) rfl hdX11_gives ⟨Nat.le_of_ble_eq_true rfl, Nat.le_of_ble_eq_true rfl⟩ hK hP hD hS hA [0, 1, 2, 3, 4, 5, 6, 7, 8, 9, 10, 11, 12, 13, 14, 15, 16, 17, 18, 19, 20, 21, 22] [] [0, 1, 2, 3, 4, 5, 6, 7, 8, 9, 10, 11, 12, 13, 14, 15, 16, 17, 18, 19, 20, 21, 22] rfl rfl rfl rfl (by decide) rfl (fun _ => rfl) rfl rfl rfl rfl hl.1 (Nat.le_of_ble_eq_true rfl) dX11_covers_123 (fun r6 u7 H locs p_r6 hP hD hS => ?_)
            have hP : va_P g.1 vwCl (wX11 g a_m u7 J_m) H := hP
            have hD : va_D A (wX11 g a_m u7 J_m) := hD
            refine hret 126 ls r6 _ _ u7 dX11_covers_126 hS hP hD ?_
            exact ⟨(MI.st (p_r3.1) p_r6.2), (WK.st (WK.tr (WK.rf I_m) p_r3.2.1) p_r6.2), (KK.st (KK.tr (KK.rf I_m) p_r3.2.2 (by decide) (by decide)) p_r6.2 (by decide))⟩
          · refine lv_aload_n hx hb dX11_covers_51 rfl (lv_at hl 3 rfl) ?_
            refine lv_iload hx hb dX11_covers_52 (lv_at hl 0 rfl) ?_
            refine PurI.cv (As := [.int v4_39]) (kX11_byteOf l g a_m u4 J_m v4_39 (p_r3.1) (by omega)) fx (gUV (uT _) u_704 u_705 u_706 u_5 u_707) rfl hdX11_byteOf ⟨Nat.le_of_ble_eq_true rfl, Nat.le_of_ble_eq_true rfl⟩ hK hP [0, 1, 2, 3, 4, 5, 6, 7, 8, 9, 10, 11, 12, 13, 14, 15, 16, 17, 18, 19, 20, 21, 22] rfl rfl rfl rfl rfl hl.1 (Nat.le_of_ble_eq_true rfl) dX11_covers_54 (fun r8 p_r8 => ?_)
            refine PurI.cs (C := RX11) (As := [.int r8]) (kX11_isLetter l g r8) fx (gUS (uT _) u_711 u_712 u_5 u_713) rfl hdX11_isLetter ⟨Nat.le_of_ble_eq_true rfl, Nat.le_of_ble_eq_true rfl⟩ hK hP [] rfl rfl rfl hl.1 (Nat.le_of_ble_eq_true rfl) dX11_covers_57 (fun r9 p_r9 => ?_)
            refine q_if_ne (tgt := 68) hx hb dX11_covers_60 (by decide) rfl (fun b_60 k_60 => ?_) (fun b_60 k_60 => ?_)
            · have q_60 := bP.t p_r9 b_60
              refine lv_iload_n hx hb dX11_covers_68 rfl (lv_at hl 1 rfl) ?_
              refine lv_iconst (v := -1) hx hb dX11_covers_69 (by decide) ?_
              refine q_icmp_ne (tgt := 76) hx hb dX11_covers_70 (by decide) rfl (by decide : (-1 : Int32).toInt = -1) (fun k_70 => ?_) (fun k_70 => ?_)
              · refine lv_iload_n hx hb dX11_covers_76 rfl (lv_at hl 2 rfl) ?_
                refine lv_aload_n hx hb dX11_covers_77 rfl (lv_at hl 3 rfl) ?_
                refine va_get (D := g.1) (ci := 11) (v := .ref (a_m 1)) (C := RX11) (T := TX11) (N := 46) hx hb hi_X11 (fun _ h => h) hown hK.1 hP 0 rfl rfl 0 (by decide) hf_7 (fun _ h9 => h9) rfl dX11_covers_78 ?_
                refine lv_bipush (v := 6) hx hb dX11_covers_81 (by decide) ?_
                have n_83 : vp_in (6 : Int32) 19800 := (t_in (by decide))
                refine va_iald hx hb hK.1 hP 1 0 rfl rfl n_83 dX11_covers_83 ?_
                refine q_nm (fun x10 e_x10 => ?_)
                have e_x10 : x10 = (u4 1) 6 := e_x10
                have g_x10 : x10.toInt = ((u4 1) 6).toInt := congrArg _ e_x10
                refine lv_iload_n hx hb dX11_covers_84 rfl (lv_at hl 4 rfl) ?_
                refine PurI.cs (C := RX11) (As := [.int x10, .int rule]) (kX11_isOut l g x10 rule) fx (gUS (uT _) u_740 u_741 u_5 u_742) rfl hdX11_isOut ⟨Nat.le_of_ble_eq_true rfl, Nat.le_of_ble_eq_true rfl⟩ hK hP [] rfl rfl rfl hl.1 (Nat.le_of_ble_eq_true rfl) dX11_covers_85 (fun r11 p_r11 => ?_)
                refine q_if_ne (tgt := 112) hx hb dX11_covers_88 (by decide) rfl (fun b_88 k_88 => ?_) (fun b_88 k_88 => ?_)
                · have q_88 := bP.t p_r11 b_88
                  refine lv_iconst (v := 0) hx hb dX11_covers_112 (by decide) ?_
                  refine r_iadd hx hb dX11_covers_113 rfl (by decide : (0 : Int32).toInt = 0) (fun x12 e_x12 t_x12 => ?_)
                  try have t_x12 := t_x12 (by omega)
                  refine lv_istore_n (lv' := [(2, .int x12), (4, .int v4_39), (3, .int v3_39), (0, .ref (a_m 0)), (1, .int rule)]) hx hb dX11_covers_114 rfl hl (by decide) rfl (fun ls hl => ?_)
                  refine r_iinc (lv' := fun i13 => [(4, .int i13), (2, .int x12), (3, .int v3_39), (0, .ref (a_m 0)), (1, .int rule)]) hx hb dX11_covers_115 hl (k := 1) rfl (by decide) rfl (by decide) (fun _ => rfl) (fun i13 e_i13 t_i13 ls hl => ?_)
                  try have t_i13 := t_i13 (by omega)
                  refine lv_goto (tgt := 39) hx hb dX11_covers_118 (by decide) ?_
                  exact ih_39 x12 v3_39 i13 (by omega) (by omega) _ _ hP hD hS ls (lv_sub hl [0, 2, 1, 3, 4] rfl)
                · have q_88 := bP.f p_r11 b_88
                  refine lv_aload_n hx hb dX11_covers_91 rfl (lv_at hl 3 rfl) ?_
                  refine lv_iload_n hx hb dX11_covers_92 rfl (lv_at hl 4 rfl) ?_
                  refine lv_iload hx hb dX11_covers_93 (lv_at hl 0 rfl) ?_
                  refine lv_iload_n hx hb dX11_covers_95 rfl (lv_at hl 1 rfl) ?_
                  refine lv_aload_n hx hb dX11_covers_96 rfl (lv_at hl 3 rfl) ?_
                  refine lv_iload hx hb dX11_covers_97 (lv_at hl 0 rfl) ?_
                  refine PurI.cv (As := [.int v4_39]) (kX11_wordEnd l g a_m u4 J_m v4_39 (p_r3.1) (by omega)) fx (gUV (uT _) u_728 u_729 u_730 u_5 u_731) rfl hdX11_wordEnd ⟨Nat.le_of_ble_eq_true rfl, Nat.le_of_ble_eq_true rfl⟩ hK hP [0, 1, 2, 3, 4, 5, 6, 7, 8, 9, 10, 11, 12, 13, 14, 15, 16, 17, 18, 19, 20, 21, 22] rfl rfl rfl rfl rfl hl.1 (Nat.le_of_ble_eq_true rfl) dX11_covers_99 (fun r14 p_r14 => ?_)
                  have hw99 := p_r14.2.1
                  have hw98 := p_r14.1
                  refine PurI.cv (As := [.int rule, .int v4_39, .int v3_39, .int r14]) (kX11_stands l g a_m u4 J_m rule v4_39 v3_39 r14 (p_r3.1) (by omega) (by omega) (by omega)) fx (gUV (uT _) u_743 u_744 u_745 u_5 u_746) rfl hdX11_stands ⟨Nat.le_of_ble_eq_true rfl, Nat.le_of_ble_eq_true rfl⟩ hK hP [0, 1, 2, 3, 4, 5, 6, 7, 8, 9, 10, 11, 12, 13, 14, 15, 16, 17, 18, 19, 20, 21, 22] rfl rfl rfl rfl rfl hl.1 (Nat.le_of_ble_eq_true rfl) dX11_covers_102 (fun r15 p_r15 => ?_)
                  refine q_if_eq (tgt := 112) hx hb dX11_covers_105 (by decide) rfl (fun b_105 k_105 => ?_) (fun b_105 k_105 => ?_)
                  · have q_105 := bP.f p_r15 b_105
                    refine lv_iconst (v := 0) hx hb dX11_covers_112 (by decide) ?_
                    refine r_iadd hx hb dX11_covers_113 rfl (by decide : (0 : Int32).toInt = 0) (fun x16 e_x16 t_x16 => ?_)
                    try have t_x16 := t_x16 (by omega)
                    refine lv_istore_n (lv' := [(2, .int x16), (4, .int v4_39), (3, .int v3_39), (0, .ref (a_m 0)), (1, .int rule)]) hx hb dX11_covers_114 rfl hl (by decide) rfl (fun ls hl => ?_)
                    refine r_iinc (lv' := fun i17 => [(4, .int i17), (2, .int x16), (3, .int v3_39), (0, .ref (a_m 0)), (1, .int rule)]) hx hb dX11_covers_115 hl (k := 1) rfl (by decide) rfl (by decide) (fun _ => rfl) (fun i17 e_i17 t_i17 ls hl => ?_)
                    try have t_i17 := t_i17 (by omega)
                    refine lv_goto (tgt := 39) hx hb dX11_covers_118 (by decide) ?_
                    exact ih_39 x16 v3_39 i17 (by omega) (by omega) _ _ hP hD hS ls (lv_sub hl [0, 2, 1, 3, 4] rfl)
                  · have q_105 := bP.t p_r15 b_105
                    refine lv_iconst (v := 1) hx hb dX11_covers_108 (by decide) ?_
                    refine lv_goto (tgt := 113) hx hb dX11_covers_109 (by decide) ?_
                    refine r_iadd hx hb dX11_covers_113 rfl (by decide : (1 : Int32).toInt = 1) (fun x18 e_x18 t_x18 => ?_)
                    try have t_x18 := t_x18 (by omega)
                    refine lv_istore_n (lv' := [(2, .int x18), (4, .int v4_39), (3, .int v3_39), (0, .ref (a_m 0)), (1, .int rule)]) hx hb dX11_covers_114 rfl hl (by decide) rfl (fun ls hl => ?_)
                    refine r_iinc (lv' := fun i19 => [(4, .int i19), (2, .int x18), (3, .int v3_39), (0, .ref (a_m 0)), (1, .int rule)]) hx hb dX11_covers_115 hl (k := 1) rfl (by decide) rfl (by decide) (fun _ => rfl) (fun i19 e_i19 t_i19 ls hl => ?_)
                    try have t_i19 := t_i19 (by omega)
                    refine lv_goto (tgt := 39) hx hb dX11_covers_118 (by decide) ?_
                    exact ih_39 x18 v3_39 i19 (by omega) (by omega) _ _ hP hD hS ls (lv_sub hl [0, 2, 1, 3, 4] rfl)
              · refine lv_iload hx hb dX11_covers_73 (lv_at hl 0 rfl) ?_
                refine lv_istore_n (lv' := [(3, .int v4_39), (4, .int v4_39), (2, .int v2_39), (0, .ref (a_m 0)), (1, .int rule)]) hx hb dX11_covers_75 rfl hl (by decide) rfl (fun ls hl => ?_)
                refine lv_iload_n hx hb dX11_covers_76 rfl (lv_at hl 2 rfl) ?_
                refine lv_aload_n hx hb dX11_covers_77 rfl (lv_at hl 3 rfl) ?_
                refine va_get (D := g.1) (ci := 11) (v := .ref (a_m 1)) (C := RX11) (T := TX11) (N := 46) hx hb hi_X11 (fun _ h => h) hown hK.1 hP 0 rfl rfl 0 (by decide) hf_7 (fun _ h9 => h9) rfl dX11_covers_78 ?_
                refine lv_bipush (v := 6) hx hb dX11_covers_81 (by decide) ?_
                have n_83 : vp_in (6 : Int32) 19800 := (t_in (by decide))
                refine va_iald hx hb hK.1 hP 1 0 rfl rfl n_83 dX11_covers_83 ?_
                refine q_nm (fun x20 e_x20 => ?_)
                have e_x20 : x20 = (u4 1) 6 := e_x20
                have g_x20 : x20.toInt = ((u4 1) 6).toInt := congrArg _ e_x20
                refine lv_iload_n hx hb dX11_covers_84 rfl (lv_at hl 4 rfl) ?_
                refine PurI.cs (C := RX11) (As := [.int x20, .int rule]) (kX11_isOut l g x20 rule) fx (gUS (uT _) u_740 u_741 u_5 u_742) rfl hdX11_isOut ⟨Nat.le_of_ble_eq_true rfl, Nat.le_of_ble_eq_true rfl⟩ hK hP [] rfl rfl rfl hl.1 (Nat.le_of_ble_eq_true rfl) dX11_covers_85 (fun r21 p_r21 => ?_)
                refine q_if_ne (tgt := 112) hx hb dX11_covers_88 (by decide) rfl (fun b_88 k_88 => ?_) (fun b_88 k_88 => ?_)
                · have q_88 := bP.t p_r21 b_88
                  refine lv_iconst (v := 0) hx hb dX11_covers_112 (by decide) ?_
                  refine r_iadd hx hb dX11_covers_113 rfl (by decide : (0 : Int32).toInt = 0) (fun x22 e_x22 t_x22 => ?_)
                  try have t_x22 := t_x22 (by omega)
                  refine lv_istore_n (lv' := [(2, .int x22), (3, .int v4_39), (4, .int v4_39), (0, .ref (a_m 0)), (1, .int rule)]) hx hb dX11_covers_114 rfl hl (by decide) rfl (fun ls hl => ?_)
                  refine r_iinc (lv' := fun i23 => [(4, .int i23), (2, .int x22), (3, .int v4_39), (0, .ref (a_m 0)), (1, .int rule)]) hx hb dX11_covers_115 hl (k := 2) rfl (by decide) rfl (by decide) (fun _ => rfl) (fun i23 e_i23 t_i23 ls hl => ?_)
                  try have t_i23 := t_i23 (by omega)
                  refine lv_goto (tgt := 39) hx hb dX11_covers_118 (by decide) ?_
                  exact ih_39 x22 v4_39 i23 (by omega) (by omega) _ _ hP hD hS ls (lv_sub hl [0, 2, 1, 3, 4] rfl)
                · have q_88 := bP.f p_r21 b_88
                  refine lv_aload_n hx hb dX11_covers_91 rfl (lv_at hl 3 rfl) ?_
                  refine lv_iload_n hx hb dX11_covers_92 rfl (lv_at hl 4 rfl) ?_
                  refine lv_iload hx hb dX11_covers_93 (lv_at hl 1 rfl) ?_
                  refine lv_iload_n hx hb dX11_covers_95 rfl (lv_at hl 0 rfl) ?_
                  refine lv_aload_n hx hb dX11_covers_96 rfl (lv_at hl 3 rfl) ?_
                  refine lv_iload hx hb dX11_covers_97 (lv_at hl 1 rfl) ?_
                  refine PurI.cv (As := [.int v4_39]) (kX11_wordEnd l g a_m u4 J_m v4_39 (p_r3.1) (by omega)) fx (gUV (uT _) u_728 u_729 u_730 u_5 u_731) rfl hdX11_wordEnd ⟨Nat.le_of_ble_eq_true rfl, Nat.le_of_ble_eq_true rfl⟩ hK hP [0, 1, 2, 3, 4, 5, 6, 7, 8, 9, 10, 11, 12, 13, 14, 15, 16, 17, 18, 19, 20, 21, 22] rfl rfl rfl rfl rfl hl.1 (Nat.le_of_ble_eq_true rfl) dX11_covers_99 (fun r24 p_r24 => ?_)
                  have hw99 := p_r24.2.1
                  have hw98 := p_r24.1
                  refine PurI.cv (As := [.int rule, .int v4_39, .int v4_39, .int r24]) (kX11_stands l g a_m u4 J_m rule v4_39 v4_39 r24 (p_r3.1) (by omega) (by omega) (by omega)) fx (gUV (uT _) u_743 u_744 u_745 u_5 u_746) rfl hdX11_stands ⟨Nat.le_of_ble_eq_true rfl, Nat.le_of_ble_eq_true rfl⟩ hK hP [0, 1, 2, 3, 4, 5, 6, 7, 8, 9, 10, 11, 12, 13, 14, 15, 16, 17, 18, 19, 20, 21, 22] rfl rfl rfl rfl rfl hl.1 (Nat.le_of_ble_eq_true rfl) dX11_covers_102 (fun r25 p_r25 => ?_)
                  refine q_if_eq (tgt := 112) hx hb dX11_covers_105 (by decide) rfl (fun b_105 k_105 => ?_) (fun b_105 k_105 => ?_)
                  · have q_105 := bP.f p_r25 b_105
                    refine lv_iconst (v := 0) hx hb dX11_covers_112 (by decide) ?_
                    refine r_iadd hx hb dX11_covers_113 rfl (by decide : (0 : Int32).toInt = 0) (fun x26 e_x26 t_x26 => ?_)
                    try have t_x26 := t_x26 (by omega)
                    refine lv_istore_n (lv' := [(2, .int x26), (3, .int v4_39), (4, .int v4_39), (0, .ref (a_m 0)), (1, .int rule)]) hx hb dX11_covers_114 rfl hl (by decide) rfl (fun ls hl => ?_)
                    refine r_iinc (lv' := fun i27 => [(4, .int i27), (2, .int x26), (3, .int v4_39), (0, .ref (a_m 0)), (1, .int rule)]) hx hb dX11_covers_115 hl (k := 2) rfl (by decide) rfl (by decide) (fun _ => rfl) (fun i27 e_i27 t_i27 ls hl => ?_)
                    try have t_i27 := t_i27 (by omega)
                    refine lv_goto (tgt := 39) hx hb dX11_covers_118 (by decide) ?_
                    exact ih_39 x26 v4_39 i27 (by omega) (by omega) _ _ hP hD hS ls (lv_sub hl [0, 2, 1, 3, 4] rfl)
                  · have q_105 := bP.t p_r25 b_105
                    refine lv_iconst (v := 1) hx hb dX11_covers_108 (by decide) ?_
                    refine lv_goto (tgt := 113) hx hb dX11_covers_109 (by decide) ?_
                    refine r_iadd hx hb dX11_covers_113 rfl (by decide : (1 : Int32).toInt = 1) (fun x28 e_x28 t_x28 => ?_)
                    try have t_x28 := t_x28 (by omega)
                    refine lv_istore_n (lv' := [(2, .int x28), (3, .int v4_39), (4, .int v4_39), (0, .ref (a_m 0)), (1, .int rule)]) hx hb dX11_covers_114 rfl hl (by decide) rfl (fun ls hl => ?_)
                    refine r_iinc (lv' := fun i29 => [(4, .int i29), (2, .int x28), (3, .int v4_39), (0, .ref (a_m 0)), (1, .int rule)]) hx hb dX11_covers_115 hl (k := 2) rfl (by decide) rfl (by decide) (fun _ => rfl) (fun i29 e_i29 t_i29 ls hl => ?_)
                    try have t_i29 := t_i29 (by omega)
                    refine lv_goto (tgt := 39) hx hb dX11_covers_118 (by decide) ?_
                    exact ih_39 x28 v4_39 i29 (by omega) (by omega) _ _ hP hD hS ls (lv_sub hl [0, 2, 1, 3, 4] rfl)
            · have q_60 := bP.f p_r9 b_60
              refine lv_iconst (v := -1) hx hb dX11_covers_63 (by decide) ?_
              refine lv_istore_n (lv' := [(3, .int (-1 : Int32)), (4, .int v4_39), (2, .int v2_39), (0, .ref (a_m 0)), (1, .int rule)]) hx hb dX11_covers_64 rfl hl (by decide) rfl (fun ls hl => ?_)
              refine lv_goto (tgt := 115) hx hb dX11_covers_65 (by decide) ?_
              refine r_iinc (lv' := fun i30 => [(4, .int i30), (3, .int (-1 : Int32)), (2, .int v2_39), (0, .ref (a_m 0)), (1, .int rule)]) hx hb dX11_covers_115 hl (k := 1) rfl (by decide) rfl (by decide) (fun _ => rfl) (fun i30 e_i30 t_i30 ls hl => ?_)
              try have t_i30 := t_i30 (by omega)
              refine lv_goto (tgt := 39) hx hb dX11_covers_118 (by decide) ?_
              exact ih_39 v2_39 (-1 : Int32) i30 (by omega) (by omega) _ _ hP hD hS ls hl
      exact L39 ((301 - (0 : Int32).toInt) + 1).toNat (0 : Int32) (-1 : Int32) (0 : Int32) (by omega) (by omega) _ _ hP hD hS ls hl
    · have q_18 := bP.f p_r2 b_18
      refine lv_aload_n hx hb dX11_covers_21 rfl (lv_at hl 0 rfl) ?_
      refine lv_bipush (v := 6) hx hb dX11_covers_22 (by decide) ?_
      refine EffI.cv (wr := ([])) (w' := fun u32 => wX11 g a_m u32 J_m) (As := [.int (6 : Int32)]) (kX11_refuse l g a_m I_m J_m (6 : Int32)) fx (gUV (uT _) u_536 u_537 u_538 u_5 u_539) rfl hdX11_refuse ⟨Nat.le_of_ble_eq_true rfl, Nat.le_of_ble_eq_true rfl⟩ hK hP hD hS hA [0, 1, 2, 3, 4, 5, 6, 7, 8, 9, 10, 11, 12, 13, 14, 15, 16, 17, 18, 19, 20, 21, 22] [] [0, 1, 2, 3, 4, 5, 6, 7, 8, 9, 10, 11, 12, 13, 14, 15, 16, 17, 18, 19, 20, 21, 22] rfl rfl rfl rfl (by decide) rfl (fun _ => rfl) rfl rfl rfl rfl hl.1 (Nat.le_of_ble_eq_true rfl) dX11_covers_24 (fun r31 u32 H locs p_r31 hP hD hS => ?_)
      have hP : va_P g.1 vwCl (wX11 g a_m u32 J_m) H := hP
      have hD : va_D A (wX11 g a_m u32 J_m) := hD
      refine hret 27 ls r31 _ _ u32 dX11_covers_27 hS hP hD ?_
      exact ⟨(MI.st hM p_r31.2), (WK.st (WK.rf I_m) p_r31.2), (KK.st (KK.rf I_m) p_r31.2 (by decide))⟩
  · have q_5 := bP.f p_r1 b_5
    refine lv_aload_n hx hb dX11_covers_8 rfl (lv_at hl 0 rfl) ?_
    refine lv_iconst (v := 1) hx hb dX11_covers_9 (by decide) ?_
    refine EffI.cv (wr := ([])) (w' := fun u34 => wX11 g a_m u34 J_m) (As := [.int (1 : Int32)]) (kX11_refuse l g a_m I_m J_m (1 : Int32)) fx (gUV (uT _) u_536 u_537 u_538 u_5 u_539) rfl hdX11_refuse ⟨Nat.le_of_ble_eq_true rfl, Nat.le_of_ble_eq_true rfl⟩ hK hP hD hS hA [0, 1, 2, 3, 4, 5, 6, 7, 8, 9, 10, 11, 12, 13, 14, 15, 16, 17, 18, 19, 20, 21, 22] [] [0, 1, 2, 3, 4, 5, 6, 7, 8, 9, 10, 11, 12, 13, 14, 15, 16, 17, 18, 19, 20, 21, 22] rfl rfl rfl rfl (by decide) rfl (fun _ => rfl) rfl rfl rfl rfl hl.1 (Nat.le_of_ble_eq_true rfl) dX11_covers_10 (fun r33 u34 H locs p_r33 hP hD hS => ?_)
    have hP : va_P g.1 vwCl (wX11 g a_m u34 J_m) H := hP
    have hD : va_D A (wX11 g a_m u34 J_m) := hD
    refine hret 13 ls r33 _ _ u34 dX11_covers_13 hS hP hD ?_
    exact ⟨(MI.st hM p_r33.2), (WK.st (WK.rf I_m) p_r33.2), (KK.st (KK.rf I_m) p_r33.2 (by decide))⟩

set_option maxHeartbeats 4000000 in
set_option maxRecDepth 100000 in
theorem kX11_oftenOf (l : Launch) (g : gG) (a_m : Nat → Nat) (I_m : Nat → Nat → Int32) (J_m : Nat → Nat → Int64) (cell : Int32) (hM : MI I_m) : PurI l g yX11_oftenOf wsX11_oftenOf 0 [.ref (a_m 0), .int cell] (wX11 g a_m I_m J_m) (fun r => True) := by
  refine PurI.st (cc := cX11_oftenOf) (maxL := 4) (by decide) rfl (Nat.le_of_ble_eq_true rfl) (fun p e s m args below meth c Q ls fx hK hP hl hret => ?_)
  have hx := fx.1
  have hb := fx.2.1
  have hml := fx.2.2.1
  have hown := fx.2.2.2.1
  have hts := fx.2.2.2.2
  have hl : lv_has ls 4 [(0, .ref (a_m 0)), (1, .int cell)] := hl
  have hP : va_P g.1 vwCl (wX11 g a_m I_m J_m) s.heap := hP
  have hf_7 := hts _ (uT _ _ u_170)
  have hi_X11 : ∀ w ∈ wsX110, w.before args s = true := fun w h => hts w (uT _ w (u_wsX110 w h))
  have lm1 : (-1 : Int32).toInt = -1 := by decide
  have lm0 : (0 : Int32).toInt = 0 := by decide
  have lm2 : (1 : Int32).toInt = 1 := by decide
  have lq600 : (600 : Int32).toInt = 600 := by decide
  have lq8 : (8 : Int32).toInt = 8 := by decide
  have lq1 : (1 : Int32).toInt = 1 := by decide
  refine lv_iconst (v := 0) hx hb dX11_oftenOf_0 (by decide) ?_
  refine lv_istore_n (lv' := [(2, .int (0 : Int32)), (0, .ref (a_m 0)), (1, .int cell)]) hx hb dX11_oftenOf_1 rfl hl (by decide) rfl (fun ls hl => ?_)
  refine lv_iconst (v := 0) hx hb dX11_oftenOf_2 (by decide) ?_
  refine lv_istore_n (lv' := [(3, .int (0 : Int32)), (2, .int (0 : Int32)), (0, .ref (a_m 0)), (1, .int cell)]) hx hb dX11_oftenOf_3 rfl hl (by decide) rfl (fun ls hl => ?_)
  have L4 : ∀ (nn : Nat) (v2_4 : Int32) (v3_4 : Int32), (hv_4 : 0 ≤ v3_4.toInt ∧ v3_4.toInt ≤ 1200) → ((1201 - v3_4.toInt) < (nn : Int)) → ∀ ls : Array Slot, lv_has ls 4 [(3, .int v3_4), (2, .int v2_4), (0, .ref (a_m 0)), (1, .int cell)] → W p l e (rm 0) s m args below meth c s.heap [] 0 0 Q (F0 m 4 ls []) := by
    intro n_4
    induction n_4 with
    | zero =>
      intro v2_4 v3_4 hv_4 hms_4 ls hl
      exfalso; omega
    | succ n_4 ih_4 =>
      intro v2_4 v3_4 hv_4 hms_4 ls hl
      refine lv_iload_n hx hb dX11_oftenOf_4 rfl (lv_at hl 0 rfl) ?_
      refine lv_aload_n hx hb dX11_oftenOf_5 rfl (lv_at hl 2 rfl) ?_
      refine va_get (D := g.1) (ci := 11) (v := .ref (a_m 1)) (C := RX11) (T := TX11) (N := 46) hx hb hi_X11 (fun _ h => h) hown hK.1 hP 0 rfl rfl 0 (by decide) hf_7 (fun _ h9 => h9) rfl dX11_oftenOf_6 ?_
      refine lv_bipush (v := 8) hx hb dX11_oftenOf_9 (by decide) ?_
      have n_11 : vp_in (8 : Int32) 19800 := (t_in (by decide))
      refine va_iald hx hb hK.1 hP 1 0 rfl rfl n_11 dX11_oftenOf_11 ?_
      refine q_nm (fun x1 e_x1 => ?_)
      have e_x1 : x1 = (I_m 1) 8 := e_x1
      have g_x1 : x1.toInt = ((I_m 1) 8).toInt := congrArg _ e_x1
      have f_x1 := MI.set hM e_x1
      refine q_icmp_ge (tgt := 43) hx hb dX11_oftenOf_12 (by decide) rfl rfl (fun k_12 => ?_) (fun k_12 => ?_)
      · refine lv_iload_n hx hb dX11_oftenOf_43 rfl (lv_at hl 1 rfl) ?_
        exact hret 44 ls v2_4 dX11_oftenOf_44 trivial
      · refine lv_iload_n hx hb dX11_oftenOf_15 rfl (lv_at hl 1 rfl) ?_
        refine lv_aload_n hx hb dX11_oftenOf_16 rfl (lv_at hl 2 rfl) ?_
        refine va_get (D := g.1) (ci := 11) (v := .ref (a_m 1)) (C := RX11) (T := TX11) (N := 46) hx hb hi_X11 (fun _ h => h) hown hK.1 hP 0 rfl rfl 0 (by decide) hf_7 (fun _ h9 => h9) rfl dX11_oftenOf_17 ?_
        refine lv_sipush (v := 600) hx hb dX11_oftenOf_20 (by decide) ?_
        refine lv_iload_n hx hb dX11_oftenOf_23 rfl (lv_at hl 0 rfl) ?_
        refine r_iadd hx hb dX11_oftenOf_24 (by decide : (600 : Int32).toInt = 600) rfl (fun x2 e_x2 t_x2 => ?_)
        try have t_x2 := t_x2 (by omega)
        have n_25 : vp_in x2 19800 := (t_in (by omega))
        refine va_iald hx hb hK.1 hP 1 0 rfl rfl n_25 dX11_oftenOf_25 ?_
        refine q_nm (fun x3 e_x3 => ?_)
        have e_x3 : x3 = (I_m 1) x2.toNatClampNeg := e_x3
        have g_x3 : x3.toInt = ((I_m 1) x2.toNatClampNeg).toInt := congrArg _ e_x3
        refine lv_iload_n hx hb dX11_oftenOf_26 rfl (lv_at hl 3 rfl) ?_
        refine q_icmp_ne (tgt := 34) hx hb dX11_oftenOf_27 (by decide) rfl rfl (fun k_27 => ?_) (fun k_27 => ?_)
        · refine lv_iconst (v := 0) hx hb dX11_oftenOf_34 (by decide) ?_
          refine r_iadd hx hb dX11_oftenOf_35 rfl (by decide : (0 : Int32).toInt = 0) (fun x4 e_x4 t_x4 => ?_)
          try have t_x4 := t_x4 (by omega)
          refine lv_istore_n (lv' := [(2, .int x4), (3, .int v3_4), (0, .ref (a_m 0)), (1, .int cell)]) hx hb dX11_oftenOf_36 rfl hl (by decide) rfl (fun ls hl => ?_)
          refine r_iinc (lv' := fun i5 => [(3, .int i5), (2, .int x4), (0, .ref (a_m 0)), (1, .int cell)]) hx hb dX11_oftenOf_37 hl (k := 1) rfl (by decide) rfl (by decide) (fun _ => rfl) (fun i5 e_i5 t_i5 ls hl => ?_)
          try have t_i5 := t_i5 (by omega)
          refine lv_goto (tgt := 4) hx hb dX11_oftenOf_40 (by decide) ?_
          exact ih_4 x4 i5 (by omega) (by omega) ls hl
        · refine lv_iconst (v := 1) hx hb dX11_oftenOf_30 (by decide) ?_
          refine lv_goto (tgt := 35) hx hb dX11_oftenOf_31 (by decide) ?_
          refine r_iadd hx hb dX11_oftenOf_35 rfl (by decide : (1 : Int32).toInt = 1) (fun x6 e_x6 t_x6 => ?_)
          try have t_x6 := t_x6 (by omega)
          refine lv_istore_n (lv' := [(2, .int x6), (3, .int v3_4), (0, .ref (a_m 0)), (1, .int cell)]) hx hb dX11_oftenOf_36 rfl hl (by decide) rfl (fun ls hl => ?_)
          refine r_iinc (lv' := fun i7 => [(3, .int i7), (2, .int x6), (0, .ref (a_m 0)), (1, .int cell)]) hx hb dX11_oftenOf_37 hl (k := 1) rfl (by decide) rfl (by decide) (fun _ => rfl) (fun i7 e_i7 t_i7 ls hl => ?_)
          try have t_i7 := t_i7 (by omega)
          refine lv_goto (tgt := 4) hx hb dX11_oftenOf_40 (by decide) ?_
          exact ih_4 x6 i7 (by omega) (by omega) ls hl
  exact L4 ((1201 - (0 : Int32).toInt) + 1).toNat (0 : Int32) (0 : Int32) (by omega) (by omega) ls hl

set_option maxHeartbeats 4000000 in
set_option maxRecDepth 100000 in
theorem kX11_often (l : Launch) (g : gG) (a_m : Nat → Nat) (I_m : Nat → Nat → Int32) (J_m : Nat → Nat → Int64) (cell : Int32) (hM : MI I_m) : EffI l g yX11_often wsX11_often 1 [.ref (a_m 0), .int cell] (wX11 g a_m I_m J_m) (fun (u : (Nat → Nat → Int32)) => wX11 g a_m u J_m) (fun r (u : (Nat → Nat → Int32)) => KK [] [1] I_m (u)) := by
  refine EffI.st (cc := cX11_often) (maxL := 2) (by decide) rfl (Nat.le_of_ble_eq_true rfl) (fun p e s m args below meth c A Q ls fx hK hP hD hA hS hl hret => ?_)
  have hx := fx.1
  have hb := fx.2.1
  have hml := fx.2.2.1
  have hown := fx.2.2.2.1
  have hts := fx.2.2.2.2
  have hl : lv_has ls 2 [(0, .ref (a_m 0)), (1, .int cell)] := hl
  have hP : va_P g.1 vwCl (wX11 g a_m I_m J_m) s.heap := hP
  have lm1 : (-1 : Int32).toInt = -1 := by decide
  have lm0 : (0 : Int32).toInt = 0 := by decide
  have lm2 : (1 : Int32).toInt = 1 := by decide
  have lq6 : (6 : Int32).toInt = 6 := by decide
  have lq1 : (1 : Int32).toInt = 1 := by decide
  refine lv_iload_n hx hb dX11_often_0 rfl (lv_at hl 1 rfl) ?_
  refine lv_i2l hx hb dX11_often_1 rfl ?_
  refine q_nml (fun w1 e_w1 => ?_)
  refine lv_lconst (v := 0) hx hb dX11_often_2 (by decide) ?_
  refine lv_ldc2 hx hb hown (hts _ (uT _ _ u_1249)) dX11_often_3 ?_
  refine PurI.cs (C := RX11) (As := [.long w1, .long (0 : Int64), .long (63 : Int64)]) (kX11_isFrom l g w1 (0 : Int64) (63 : Int64)) fx (gUS (uT _) u_1132 u_1133 u_5 u_1134) rfl hdX11_isFrom ⟨Nat.le_of_ble_eq_true rfl, Nat.le_of_ble_eq_true rfl⟩ hK hP [] rfl rfl rfl hl.1 (Nat.le_of_ble_eq_true rfl) dX11_often_6 (fun r2 p_r2 => ?_)
  refine q_if_ne (tgt := 20) hx hb dX11_often_9 (by decide) rfl (fun b_9 k_9 => ?_) (fun b_9 k_9 => ?_)
  · have q_9 := bP.t p_r2 b_9
    refine lv_aload_n hx hb dX11_often_20 rfl (lv_at hl 0 rfl) ?_
    refine PurI.cv (As := []) (kX11_isSet l g a_m I_m J_m hM) fx (gUV (uT _) u_856 u_857 u_858 u_5 u_859) rfl hdX11_isSet ⟨Nat.le_of_ble_eq_true rfl, Nat.le_of_ble_eq_true rfl⟩ hK hP [0, 1, 2, 3, 4, 5, 6, 7, 8, 9, 10, 11, 12, 13, 14, 15, 16, 17, 18, 19, 20, 21, 22] rfl rfl rfl rfl rfl hl.1 (Nat.le_of_ble_eq_true rfl) dX11_often_21 (fun r3 p_r3 => ?_)
    refine q_if_eq (tgt := 39) hx hb dX11_often_24 (by decide) rfl (fun b_24 k_24 => ?_) (fun b_24 k_24 => ?_)
    · have q_24 := bP.f p_r3 b_24
      refine lv_aload_n hx hb dX11_often_39 rfl (lv_at hl 0 rfl) ?_
      refine lv_bipush (v := 6) hx hb dX11_often_40 (by decide) ?_
      refine EffI.cv (wr := ([])) (w' := fun u5 => wX11 g a_m u5 J_m) (As := [.int (6 : Int32)]) (kX11_refuse l g a_m I_m J_m (6 : Int32)) fx (gUV (uT _) u_536 u_537 u_538 u_5 u_539) rfl hdX11_refuse ⟨Nat.le_of_ble_eq_true rfl, Nat.le_of_ble_eq_true rfl⟩ hK hP hD hS hA [0, 1, 2, 3, 4, 5, 6, 7, 8, 9, 10, 11, 12, 13, 14, 15, 16, 17, 18, 19, 20, 21, 22] [] [0, 1, 2, 3, 4, 5, 6, 7, 8, 9, 10, 11, 12, 13, 14, 15, 16, 17, 18, 19, 20, 21, 22] rfl rfl rfl rfl (by decide) rfl (fun _ => rfl) rfl rfl rfl rfl hl.1 (Nat.le_of_ble_eq_true rfl) dX11_often_42 (fun r4 u5 H locs p_r4 hP hD hS => ?_)
      have hP : va_P g.1 vwCl (wX11 g a_m u5 J_m) H := hP
      have hD : va_D A (wX11 g a_m u5 J_m) := hD
      refine hret 45 ls r4 _ _ u5 dX11_often_45 hS hP hD ?_
      exact (KK.st (KK.rf I_m) p_r4.2 (by decide))
    · have q_24 := bP.t p_r3 b_24
      refine lv_aload_n hx hb dX11_often_27 rfl (lv_at hl 0 rfl) ?_
      refine lv_aload_n hx hb dX11_often_28 rfl (lv_at hl 0 rfl) ?_
      refine lv_iload_n hx hb dX11_often_29 rfl (lv_at hl 1 rfl) ?_
      refine PurI.cv (As := [.int cell]) (kX11_oftenOf l g a_m I_m J_m cell hM) fx (gUV (uT _) u_1250 u_1251 u_1252 u_5 u_1253) rfl hdX11_oftenOf ⟨Nat.le_of_ble_eq_true rfl, Nat.le_of_ble_eq_true rfl⟩ hK hP [0, 1, 2, 3, 4, 5, 6, 7, 8, 9, 10, 11, 12, 13, 14, 15, 16, 17, 18, 19, 20, 21, 22] rfl rfl rfl rfl rfl hl.1 (Nat.le_of_ble_eq_true rfl) dX11_often_30 (fun r6 p_r6 => ?_)
      refine EffI.cv (wr := ([])) (w' := fun u8 => wX11 g a_m u8 J_m) (As := [.int r6]) (kX11_gives l g a_m I_m J_m r6) fx (gUV (uT _) u_585 u_586 u_587 u_5 u_588) rfl hdX11_gives ⟨Nat.le_of_ble_eq_true rfl, Nat.le_of_ble_eq_true rfl⟩ hK hP hD hS hA [0, 1, 2, 3, 4, 5, 6, 7, 8, 9, 10, 11, 12, 13, 14, 15, 16, 17, 18, 19, 20, 21, 22] [] [0, 1, 2, 3, 4, 5, 6, 7, 8, 9, 10, 11, 12, 13, 14, 15, 16, 17, 18, 19, 20, 21, 22] rfl rfl rfl rfl (by decide) rfl (fun _ => rfl) rfl rfl rfl rfl hl.1 (Nat.le_of_ble_eq_true rfl) dX11_often_33 (fun r7 u8 H locs p_r7 hP hD hS => ?_)
      have hP : va_P g.1 vwCl (wX11 g a_m u8 J_m) H := hP
      have hD : va_D A (wX11 g a_m u8 J_m) := hD
      refine lv_goto (tgt := 45) hx hb dX11_often_36 (by decide) ?_
      refine hret 45 ls r7 _ _ u8 dX11_often_45 hS hP hD ?_
      exact (KK.st (KK.rf I_m) p_r7.2 (by decide))
  · have q_9 := bP.f p_r2 b_9
    refine lv_aload_n hx hb dX11_often_12 rfl (lv_at hl 0 rfl) ?_
    refine lv_iconst (v := 1) hx hb dX11_often_13 (by decide) ?_
    refine EffI.cv (wr := ([])) (w' := fun u10 => wX11 g a_m u10 J_m) (As := [.int (1 : Int32)]) (kX11_refuse l g a_m I_m J_m (1 : Int32)) fx (gUV (uT _) u_536 u_537 u_538 u_5 u_539) rfl hdX11_refuse ⟨Nat.le_of_ble_eq_true rfl, Nat.le_of_ble_eq_true rfl⟩ hK hP hD hS hA [0, 1, 2, 3, 4, 5, 6, 7, 8, 9, 10, 11, 12, 13, 14, 15, 16, 17, 18, 19, 20, 21, 22] [] [0, 1, 2, 3, 4, 5, 6, 7, 8, 9, 10, 11, 12, 13, 14, 15, 16, 17, 18, 19, 20, 21, 22] rfl rfl rfl rfl (by decide) rfl (fun _ => rfl) rfl rfl rfl rfl hl.1 (Nat.le_of_ble_eq_true rfl) dX11_often_14 (fun r9 u10 H locs p_r9 hP hD hS => ?_)
    have hP : va_P g.1 vwCl (wX11 g a_m u10 J_m) H := hP
    have hD : va_D A (wX11 g a_m u10 J_m) := hD
    refine lv_goto (tgt := 45) hx hb dX11_often_17 (by decide) ?_
    refine hret 45 ls r9 _ _ u10 dX11_often_45 hS hP hD ?_
    exact (KK.st (KK.rf I_m) p_r9.2 (by decide))

set_option maxHeartbeats 4000000 in
set_option maxRecDepth 100000 in
theorem kX11_commonest (l : Launch) (g : gG) (a_m : Nat → Nat) (I_m : Nat → Nat → Int32) (J_m : Nat → Nat → Int64) (hM : MI I_m) : EffI l g yX11_commonest wsX11_commonest 1 [.ref (a_m 0)] (wX11 g a_m I_m J_m) (fun (u : (Nat → Nat → Int32)) => wX11 g a_m u J_m) (fun r (u : (Nat → Nat → Int32)) => KK [] [1] I_m (u)) := by
  refine EffI.st (cc := cX11_commonest) (maxL := 4) (by decide) rfl (Nat.le_of_ble_eq_true rfl) (fun p e s m args below meth c A Q ls fx hK hP hD hA hS hl hret => ?_)
  have hx := fx.1
  have hb := fx.2.1
  have hml := fx.2.2.1
  have hown := fx.2.2.2.1
  have hts := fx.2.2.2.2
  have hl : lv_has ls 4 [(0, .ref (a_m 0))] := hl
  have hP : va_P g.1 vwCl (wX11 g a_m I_m J_m) s.heap := hP
  have lm1 : (-1 : Int32).toInt = -1 := by decide
  have lm0 : (0 : Int32).toInt = 0 := by decide
  have lm2 : (1 : Int32).toInt = 1 := by decide
  have lq6 : (6 : Int32).toInt = 6 := by decide
  have lq63 : (63 : Int32).toInt = 63 := by decide
  have lq1 : (1 : Int32).toInt = 1 := by decide
  refine lv_aload_n hx hb dX11_commonest_0 rfl (lv_at hl 0 rfl) ?_
  refine PurI.cv (As := []) (kX11_isSet l g a_m I_m J_m hM) fx (gUV (uT _) u_856 u_857 u_858 u_5 u_859) rfl hdX11_isSet ⟨Nat.le_of_ble_eq_true rfl, Nat.le_of_ble_eq_true rfl⟩ hK hP [0, 1, 2, 3, 4, 5, 6, 7, 8, 9, 10, 11, 12, 13, 14, 15, 16, 17, 18, 19, 20, 21, 22] rfl rfl rfl rfl rfl hl.1 (Nat.le_of_ble_eq_true rfl) dX11_commonest_1 (fun r1 p_r1 => ?_)
  refine q_if_ne (tgt := 14) hx hb dX11_commonest_4 (by decide) rfl (fun b_4 k_4 => ?_) (fun b_4 k_4 => ?_)
  · have q_4 := bP.t p_r1 b_4
    refine lv_iconst (v := 0) hx hb dX11_commonest_14 (by decide) ?_
    refine lv_istore_n (lv' := [(1, .int (0 : Int32)), (0, .ref (a_m 0))]) hx hb dX11_commonest_15 rfl hl (by decide) rfl (fun ls hl => ?_)
    refine lv_iconst (v := 0) hx hb dX11_commonest_16 (by decide) ?_
    refine lv_istore_n (lv' := [(2, .int (0 : Int32)), (1, .int (0 : Int32)), (0, .ref (a_m 0))]) hx hb dX11_commonest_17 rfl hl (by decide) rfl (fun ls hl => ?_)
    refine lv_iconst (v := 1) hx hb dX11_commonest_18 (by decide) ?_
    refine lv_istore_n (lv' := [(3, .int (1 : Int32)), (2, .int (0 : Int32)), (1, .int (0 : Int32)), (0, .ref (a_m 0))]) hx hb dX11_commonest_19 rfl hl (by decide) rfl (fun ls hl => ?_)
    have L20 : ∀ (nn : Nat) (v1_20 : Int32) (v2_20 : Int32) (v3_20 : Int32), (hv_20 : 1 ≤ v3_20.toInt ∧ v3_20.toInt ≤ 64) → ((65 - v3_20.toInt) < (nn : Int)) → ∀ (H : Heap) (locs : List Loc), va_P g.1 vwCl (wX11 g a_m I_m J_m) H → va_D A (wX11 g a_m I_m J_m) → va_S A s.heap H locs → ∀ ls : Array Slot, lv_has ls 4 [(3, .int v3_20), (2, .int v2_20), (1, .int v1_20), (0, .ref (a_m 0))] → W p l e (rm 1) s m args below meth c H locs 0 0 Q (F0 m 20 ls []) := by
      intro n_20
      induction n_20 with
      | zero =>
        intro v1_20 v2_20 v3_20 hv_20 hms_20 H locs hP hD hS ls hl
        exfalso; omega
      | succ n_20 ih_20 =>
        intro v1_20 v2_20 v3_20 hv_20 hms_20 H locs hP hD hS ls hl
        refine lv_iload_n hx hb dX11_commonest_20 rfl (lv_at hl 0 rfl) ?_
        refine lv_bipush (v := 63) hx hb dX11_commonest_21 (by decide) ?_
        refine q_icmp_gt (tgt := 52) hx hb dX11_commonest_23 (by decide) rfl (by decide : (63 : Int32).toInt = 63) (fun k_23 => ?_) (fun k_23 => ?_)
        · refine lv_iload_n hx hb dX11_commonest_52 rfl (lv_at hl 2 rfl) ?_
          refine q_if_ne (tgt := 65) hx hb dX11_commonest_53 (by decide) rfl (fun b_53 k_53 => ?_) (fun b_53 k_53 => ?_)
          · refine lv_aload_n hx hb dX11_commonest_65 rfl (lv_at hl 3 rfl) ?_
            refine lv_iload_n hx hb dX11_commonest_66 rfl (lv_at hl 2 rfl) ?_
            refine EffI.cv (wr := ([])) (w' := fun u3 => wX11 g a_m u3 J_m) (As := [.int v1_20]) (kX11_gives l g a_m I_m J_m v1_20) fx (gUV (uT _) u_585 u_586 u_587 u_5 u_588) rfl hdX11_gives ⟨Nat.le_of_ble_eq_true rfl, Nat.le_of_ble_eq_true rfl⟩ hK hP hD hS hA [0, 1, 2, 3, 4, 5, 6, 7, 8, 9, 10, 11, 12, 13, 14, 15, 16, 17, 18, 19, 20, 21, 22] [] [0, 1, 2, 3, 4, 5, 6, 7, 8, 9, 10, 11, 12, 13, 14, 15, 16, 17, 18, 19, 20, 21, 22] rfl rfl rfl rfl (by decide) rfl (fun _ => rfl) rfl rfl rfl rfl hl.1 (Nat.le_of_ble_eq_true rfl) dX11_commonest_67 (fun r2 u3 H locs p_r2 hP hD hS => ?_)
            have hP : va_P g.1 vwCl (wX11 g a_m u3 J_m) H := hP
            have hD : va_D A (wX11 g a_m u3 J_m) := hD
            refine hret 70 ls r2 _ _ u3 dX11_commonest_70 hS hP hD ?_
            exact (KK.st (KK.rf I_m) p_r2.2 (by decide))
          · refine lv_aload_n hx hb dX11_commonest_56 rfl (lv_at hl 3 rfl) ?_
            refine lv_bipush (v := 6) hx hb dX11_commonest_57 (by decide) ?_
            refine EffI.cv (wr := ([])) (w' := fun u5 => wX11 g a_m u5 J_m) (As := [.int (6 : Int32)]) (kX11_refuse l g a_m I_m J_m (6 : Int32)) fx (gUV (uT _) u_536 u_537 u_538 u_5 u_539) rfl hdX11_refuse ⟨Nat.le_of_ble_eq_true rfl, Nat.le_of_ble_eq_true rfl⟩ hK hP hD hS hA [0, 1, 2, 3, 4, 5, 6, 7, 8, 9, 10, 11, 12, 13, 14, 15, 16, 17, 18, 19, 20, 21, 22] [] [0, 1, 2, 3, 4, 5, 6, 7, 8, 9, 10, 11, 12, 13, 14, 15, 16, 17, 18, 19, 20, 21, 22] rfl rfl rfl rfl (by decide) rfl (fun _ => rfl) rfl rfl rfl rfl hl.1 (Nat.le_of_ble_eq_true rfl) dX11_commonest_59 (fun r4 u5 H locs p_r4 hP hD hS => ?_)
            have hP : va_P g.1 vwCl (wX11 g a_m u5 J_m) H := hP
            have hD : va_D A (wX11 g a_m u5 J_m) := hD
            refine lv_goto (tgt := 70) hx hb dX11_commonest_62 (by decide) ?_
            refine hret 70 ls r4 _ _ u5 dX11_commonest_70 hS hP hD ?_
            exact (KK.st (KK.rf I_m) p_r4.2 (by decide))
        · refine lv_aload_n hx hb dX11_commonest_26 rfl (lv_at hl 3 rfl) ?_
          refine lv_iload_n hx hb dX11_commonest_27 rfl (lv_at hl 0 rfl) ?_
          refine PurI.cv (As := [.int v3_20]) (kX11_oftenOf l g a_m I_m J_m v3_20 hM) fx (gUV (uT _) u_1250 u_1251 u_1252 u_5 u_1253) rfl hdX11_oftenOf ⟨Nat.le_of_ble_eq_true rfl, Nat.le_of_ble_eq_true rfl⟩ hK hP [0, 1, 2, 3, 4, 5, 6, 7, 8, 9, 10, 11, 12, 13, 14, 15, 16, 17, 18, 19, 20, 21, 22] rfl rfl rfl rfl rfl hl.1 (Nat.le_of_ble_eq_true rfl) dX11_commonest_28 (fun r6 p_r6 => ?_)
          refine lv_iload_n hx hb dX11_commonest_31 rfl (lv_at hl 1 rfl) ?_
          refine q_icmp_gt (tgt := 38) hx hb dX11_commonest_32 (by decide) rfl rfl (fun k_32 => ?_) (fun k_32 => ?_)
          · refine lv_aload_n hx hb dX11_commonest_38 rfl (lv_at hl 3 rfl) ?_
            refine lv_iload_n hx hb dX11_commonest_39 rfl (lv_at hl 0 rfl) ?_
            refine PurI.cv (As := [.int v3_20]) (kX11_oftenOf l g a_m I_m J_m v3_20 hM) fx (gUV (uT _) u_1250 u_1251 u_1252 u_5 u_1253) rfl hdX11_oftenOf ⟨Nat.le_of_ble_eq_true rfl, Nat.le_of_ble_eq_true rfl⟩ hK hP [0, 1, 2, 3, 4, 5, 6, 7, 8, 9, 10, 11, 12, 13, 14, 15, 16, 17, 18, 19, 20, 21, 22] rfl rfl rfl rfl rfl hl.1 (Nat.le_of_ble_eq_true rfl) dX11_commonest_40 (fun r7 p_r7 => ?_)
            refine lv_istore_n (lv' := [(2, .int r7), (3, .int v3_20), (1, .int v1_20), (0, .ref (a_m 0))]) hx hb dX11_commonest_43 rfl hl (by decide) rfl (fun ls hl => ?_)
            refine lv_iload_n hx hb dX11_commonest_44 rfl (lv_at hl 1 rfl) ?_
            refine lv_istore_n (lv' := [(1, .int v3_20), (2, .int r7), (3, .int v3_20), (0, .ref (a_m 0))]) hx hb dX11_commonest_45 rfl hl (by decide) rfl (fun ls hl => ?_)
            refine r_iinc (lv' := fun i8 => [(3, .int i8), (1, .int v3_20), (2, .int r7), (0, .ref (a_m 0))]) hx hb dX11_commonest_46 hl (k := 2) rfl (by decide) rfl (by decide) (fun _ => rfl) (fun i8 e_i8 t_i8 ls hl => ?_)
            try have t_i8 := t_i8 (by omega)
            refine lv_goto (tgt := 20) hx hb dX11_commonest_49 (by decide) ?_
            exact ih_20 v3_20 r7 i8 (by omega) (by omega) _ _ hP hD hS ls (lv_sub hl [0, 2, 1, 3] rfl)
          · refine lv_goto (tgt := 46) hx hb dX11_commonest_35 (by decide) ?_
            refine r_iinc (lv' := fun i9 => [(3, .int i9), (2, .int v2_20), (1, .int v1_20), (0, .ref (a_m 0))]) hx hb dX11_commonest_46 hl (k := 0) rfl (by decide) rfl (by decide) (fun _ => rfl) (fun i9 e_i9 t_i9 ls hl => ?_)
            try have t_i9 := t_i9 (by omega)
            refine lv_goto (tgt := 20) hx hb dX11_commonest_49 (by decide) ?_
            exact ih_20 v1_20 v2_20 i9 (by omega) (by omega) _ _ hP hD hS ls hl
    exact L20 ((65 - (1 : Int32).toInt) + 1).toNat (0 : Int32) (0 : Int32) (1 : Int32) (by omega) (by omega) _ _ hP hD hS ls hl
  · have q_4 := bP.f p_r1 b_4
    refine lv_aload_n hx hb dX11_commonest_7 rfl (lv_at hl 0 rfl) ?_
    refine lv_bipush (v := 6) hx hb dX11_commonest_8 (by decide) ?_
    refine EffI.cv (wr := ([])) (w' := fun u11 => wX11 g a_m u11 J_m) (As := [.int (6 : Int32)]) (kX11_refuse l g a_m I_m J_m (6 : Int32)) fx (gUV (uT _) u_536 u_537 u_538 u_5 u_539) rfl hdX11_refuse ⟨Nat.le_of_ble_eq_true rfl, Nat.le_of_ble_eq_true rfl⟩ hK hP hD hS hA [0, 1, 2, 3, 4, 5, 6, 7, 8, 9, 10, 11, 12, 13, 14, 15, 16, 17, 18, 19, 20, 21, 22] [] [0, 1, 2, 3, 4, 5, 6, 7, 8, 9, 10, 11, 12, 13, 14, 15, 16, 17, 18, 19, 20, 21, 22] rfl rfl rfl rfl (by decide) rfl (fun _ => rfl) rfl rfl rfl rfl hl.1 (Nat.le_of_ble_eq_true rfl) dX11_commonest_10 (fun r10 u11 H locs p_r10 hP hD hS => ?_)
    have hP : va_P g.1 vwCl (wX11 g a_m u11 J_m) H := hP
    have hD : va_D A (wX11 g a_m u11 J_m) := hD
    refine hret 13 ls r10 _ _ u11 dX11_commonest_13 hS hP hD ?_
    exact (KK.st (KK.rf I_m) p_r10.2 (by decide))

set_option maxHeartbeats 4000000 in
set_option maxRecDepth 100000 in
theorem kX11_shorter (l : Launch) (g : gG) (a_m : Nat → Nat) (I_m : Nat → Nat → Int32) (J_m : Nat → Nat → Int64) (many : Int32) (hM : MI I_m) : PurI l g yX11_shorter wsX11_shorter 0 [.ref (a_m 0), .int many] (wX11 g a_m I_m J_m) (fun r => True) := by
  refine PurI.st (cc := cX11_shorter) (maxL := 2) (by decide) rfl (Nat.le_of_ble_eq_true rfl) (fun p e s m args below meth c Q ls fx hK hP hl hret => ?_)
  have hx := fx.1
  have hb := fx.2.1
  have hml := fx.2.2.1
  have hown := fx.2.2.2.1
  have hts := fx.2.2.2.2
  have hl : lv_has ls 2 [(0, .ref (a_m 0)), (1, .int many)] := hl
  have hP : va_P g.1 vwCl (wX11 g a_m I_m J_m) s.heap := hP
  have hf_7 := hts _ (uT _ _ u_170)
  have hi_X11 : ∀ w ∈ wsX110, w.before args s = true := fun w h => hts w (uT _ w (u_wsX110 w h))
  have lm1 : (-1 : Int32).toInt = -1 := by decide
  have lm0 : (0 : Int32).toInt = 0 := by decide
  have lm2 : (1 : Int32).toInt = 1 := by decide
  have lq4 : (4 : Int32).toInt = 4 := by decide
  have lq1 : (1 : Int32).toInt = 1 := by decide
  refine lv_aload_n hx hb dX11_shorter_0 rfl (lv_at hl 0 rfl) ?_
  refine va_get (D := g.1) (ci := 11) (v := .ref (a_m 1)) (C := RX11) (T := TX11) (N := 46) hx hb hi_X11 (fun _ h => h) hown hK.1 hP 0 rfl rfl 0 (by decide) hf_7 (fun _ h9 => h9) rfl dX11_shorter_1 ?_
  refine lv_iconst (v := 4) hx hb dX11_shorter_4 (by decide) ?_
  have n_5 : vp_in (4 : Int32) 19800 := (t_in (by decide))
  refine va_iald hx hb hK.1 hP 1 0 rfl rfl n_5 dX11_shorter_5 ?_
  refine q_nm (fun x1 e_x1 => ?_)
  have e_x1 : x1 = (I_m 1) 4 := e_x1
  have g_x1 : x1.toInt = ((I_m 1) 4).toInt := congrArg _ e_x1
  have f_x1 := MI.line hM e_x1
  refine lv_iload_n hx hb dX11_shorter_6 rfl (lv_at hl 1 rfl) ?_
  refine r_isub hx hb dX11_shorter_7 rfl rfl (fun x2 e_x2 t_x2 => ?_)
  try have t_x2 := t_x2 (by omega)
  refine lv_aload_n hx hb dX11_shorter_8 rfl (lv_at hl 0 rfl) ?_
  refine va_get (D := g.1) (ci := 11) (v := .ref (a_m 1)) (C := RX11) (T := TX11) (N := 46) hx hb hi_X11 (fun _ h => h) hown hK.1 hP 0 rfl rfl 0 (by decide) hf_7 (fun _ h9 => h9) rfl dX11_shorter_9 ?_
  refine lv_iconst (v := 4) hx hb dX11_shorter_12 (by decide) ?_
  have n_13 : vp_in (4 : Int32) 19800 := (t_in (by decide))
  refine va_iald hx hb hK.1 hP 1 0 rfl rfl n_13 dX11_shorter_13 ?_
  refine q_nm (fun x3 e_x3 => ?_)
  have e_x3 : x3 = (I_m 1) 4 := e_x3
  have g_x3 : x3.toInt = ((I_m 1) 4).toInt := congrArg _ e_x3
  have f_x3 := MI.line hM e_x3
  refine lv_iload_n hx hb dX11_shorter_14 rfl (lv_at hl 1 rfl) ?_
  refine r_isub hx hb dX11_shorter_15 rfl rfl (fun x4 e_x4 t_x4 => ?_)
  try have t_x4 := t_x4 (by omega)
  refine r_imul hx hb dX11_shorter_16 rfl rfl (fun x5 e_x5 t_x5 => ?_)
  try have t_x5 := t_x5 (by omega)
  exact hret 17 ls x5 dX11_shorter_17 trivial

set_option maxHeartbeats 4000000 in
set_option maxRecDepth 100000 in
theorem kX11_ragged (l : Launch) (g : gG) (a_m : Nat → Nat) (I_m : Nat → Nat → Int32) (J_m : Nat → Nat → Int64) (hM : MI I_m) : EffI l g yX11_ragged wsX11_ragged 2 [.ref (a_m 0)] (wX11 g a_m I_m J_m) (fun (u : (Nat → Nat → Int32)) => wX11 g a_m u J_m) (fun r (u : (Nat → Nat → Int32)) => MI (u) ∧ KK [7, 8, 9, 10, 11] [1, 27, 28, 29] I_m (u)) := by
  refine EffI.st (cc := cX11_ragged) (maxL := 3) (by decide) rfl (Nat.le_of_ble_eq_true rfl) (fun p e s m args below meth c A Q ls fx hK hP hD hA hS hl hret => ?_)
  have hx := fx.1
  have hb := fx.2.1
  have hml := fx.2.2.1
  have hown := fx.2.2.2.1
  have hts := fx.2.2.2.2
  have hl : lv_has ls 3 [(0, .ref (a_m 0))] := hl
  have hP : va_P g.1 vwCl (wX11 g a_m I_m J_m) s.heap := hP
  have hf_47 := hts _ (uT _ _ u_182)
  have hf_315 := hts _ (uT _ _ u_883)
  have hi_X11 : ∀ w ∈ wsX110, w.before args s = true := fun w h => hts w (uT _ w (u_wsX110 w h))
  have lm1 : (-1 : Int32).toInt = -1 := by decide
  have lm0 : (0 : Int32).toInt = 0 := by decide
  have lm2 : (1 : Int32).toInt = 1 := by decide
  have lq6 : (6 : Int32).toInt = 6 := by decide
  have lq1 : (1 : Int32).toInt = 1 := by decide
  refine lv_aload_n hx hb dX11_ragged_0 rfl (lv_at hl 0 rfl) ?_
  refine PurI.cv (As := []) (kX11_isSet l g a_m I_m J_m hM) fx (gUV (uT _) u_856 u_857 u_858 u_5 u_859) rfl hdX11_isSet ⟨Nat.le_of_ble_eq_true rfl, Nat.le_of_ble_eq_true rfl⟩ hK hP [0, 1, 2, 3, 4, 5, 6, 7, 8, 9, 10, 11, 12, 13, 14, 15, 16, 17, 18, 19, 20, 21, 22] rfl rfl rfl rfl rfl hl.1 (Nat.le_of_ble_eq_true rfl) dX11_ragged_1 (fun r1 p_r1 => ?_)
  refine q_if_ne (tgt := 14) hx hb dX11_ragged_4 (by decide) rfl (fun b_4 k_4 => ?_) (fun b_4 k_4 => ?_)
  · have q_4 := bP.t p_r1 b_4
    refine lv_aload_n hx hb dX11_ragged_14 rfl (lv_at hl 0 rfl) ?_
    refine EffV.cv (wr := ([])) (w' := fun u3 => wX11 g a_m u3 J_m) (As := []) (kX11_laysLines l g a_m I_m J_m hM) fx (gUV (uT _) u_884 u_885 u_886 u_5 u_887) rfl hdX11_laysLines ⟨Nat.le_of_ble_eq_true rfl, Nat.le_of_ble_eq_true rfl⟩ hK hP hD hS hA [0, 1, 2, 3, 4, 5, 6, 7, 8, 9, 10, 11, 12, 13, 14, 15, 16, 17, 18, 19, 20, 21, 22] [] [0, 1, 2, 3, 4, 5, 6, 7, 8, 9, 10, 11, 12, 13, 14, 15, 16, 17, 18, 19, 20, 21, 22] rfl rfl rfl rfl (by decide) rfl (fun _ => rfl) rfl rfl rfl rfl hl.1 (Nat.le_of_ble_eq_true rfl) dX11_ragged_15 (fun u3 H locs p_r2 hP hD hS => ?_)
    have hP : va_P g.1 vwCl (wX11 g a_m u3 J_m) H := hP
    have hD : va_D A (wX11 g a_m u3 J_m) := hD
    have hn15 := p_r2.2.2.1
    refine lv_iconst (v := 0) hx hb dX11_ragged_18 (by decide) ?_
    refine lv_istore_n (lv' := [(1, .int (0 : Int32)), (0, .ref (a_m 0))]) hx hb dX11_ragged_19 rfl hl (by decide) rfl (fun ls hl => ?_)
    refine lv_iconst (v := 0) hx hb dX11_ragged_20 (by decide) ?_
    refine lv_istore_n (lv' := [(2, .int (0 : Int32)), (1, .int (0 : Int32)), (0, .ref (a_m 0))]) hx hb dX11_ragged_21 rfl hl (by decide) rfl (fun ls hl => ?_)
    have L22 : ∀ (nn : Nat) (v1_22 : Int32) (v2_22 : Int32), (hv_22 : 0 ≤ v2_22.toInt ∧ v2_22.toInt ≤ 1300) → ((1301 - v2_22.toInt) < (nn : Int)) → ∀ (H : Heap) (locs : List Loc), va_P g.1 vwCl (wX11 g a_m u3 J_m) H → va_D A (wX11 g a_m u3 J_m) → va_S A s.heap H locs → ∀ ls : Array Slot, lv_has ls 3 [(2, .int v2_22), (1, .int v1_22), (0, .ref (a_m 0))] → W p l e (rm 2) s m args below meth c H locs 0 0 Q (F0 m 22 ls []) := by
      intro n_22
      induction n_22 with
      | zero =>
        intro v1_22 v2_22 hv_22 hms_22 H locs hP hD hS ls hl
        exfalso; omega
      | succ n_22 ih_22 =>
        intro v1_22 v2_22 hv_22 hms_22 H locs hP hD hS ls hl
        refine lv_iload_n hx hb dX11_ragged_22 rfl (lv_at hl 0 rfl) ?_
        refine lv_aload_n hx hb dX11_ragged_23 rfl (lv_at hl 2 rfl) ?_
        refine va_get (D := g.1) (ci := 11) (v := .int (u3 0 27)) (C := RX11) (T := TX11) (N := 46) hx hb hi_X11 (fun _ h => h) hown hK.1 hP 0 rfl rfl 27 (by decide) hf_315 (fun _ h9 => h9) rfl dX11_ragged_24 ?_
        refine lv_iconst (v := 1) hx hb dX11_ragged_27 (by decide) ?_
        refine r_isub hx hb dX11_ragged_28 rfl (by decide : (1 : Int32).toInt = 1) (fun x4 e_x4 t_x4 => ?_)
        try have t_x4 := t_x4 (by omega)
        refine q_icmp_ge (tgt := 51) hx hb dX11_ragged_29 (by decide) rfl rfl (fun k_29 => ?_) (fun k_29 => ?_)
        · refine lv_aload_n hx hb dX11_ragged_51 rfl (lv_at hl 2 rfl) ?_
          refine lv_iload_n hx hb dX11_ragged_52 rfl (lv_at hl 1 rfl) ?_
          refine EffI.cv (wr := ([])) (w' := fun u6 => wX11 g a_m u6 J_m) (As := [.int v1_22]) (kX11_gives l g a_m u3 J_m v1_22) fx (gUV (uT _) u_585 u_586 u_587 u_5 u_588) rfl hdX11_gives ⟨Nat.le_of_ble_eq_true rfl, Nat.le_of_ble_eq_true rfl⟩ hK hP hD hS hA [0, 1, 2, 3, 4, 5, 6, 7, 8, 9, 10, 11, 12, 13, 14, 15, 16, 17, 18, 19, 20, 21, 22] [] [0, 1, 2, 3, 4, 5, 6, 7, 8, 9, 10, 11, 12, 13, 14, 15, 16, 17, 18, 19, 20, 21, 22] rfl rfl rfl rfl (by decide) rfl (fun _ => rfl) rfl rfl rfl rfl hl.1 (Nat.le_of_ble_eq_true rfl) dX11_ragged_53 (fun r5 u6 H locs p_r5 hP hD hS => ?_)
          have hP : va_P g.1 vwCl (wX11 g a_m u6 J_m) H := hP
          have hD : va_D A (wX11 g a_m u6 J_m) := hD
          refine hret 56 ls r5 _ _ u6 dX11_ragged_56 hS hP hD ?_
          exact ⟨(MI.st (p_r2.1) p_r5.2), (KK.st (KK.tr (KK.rf I_m) p_r2.2.1 (by decide) (by decide)) p_r5.2 (by decide))⟩
        · refine lv_iload_n hx hb dX11_ragged_32 rfl (lv_at hl 1 rfl) ?_
          refine lv_aload_n hx hb dX11_ragged_33 rfl (lv_at hl 2 rfl) ?_
          refine lv_aload_n hx hb dX11_ragged_34 rfl (lv_at hl 2 rfl) ?_
          refine va_get (D := g.1) (ci := 11) (v := .ref (a_m 9)) (C := RX11) (T := TX11) (N := 46) hx hb hi_X11 (fun _ h => h) hown hK.1 hP 0 rfl rfl 24 (by decide) hf_47 (fun _ h9 => h9) rfl dX11_ragged_35 ?_
          refine lv_iload_n hx hb dX11_ragged_38 rfl (lv_at hl 0 rfl) ?_
          have n_39 : vp_in v2_22 1300 := (t_in (by omega))
          refine va_iald hx hb hK.1 hP 9 0 rfl rfl n_39 dX11_ragged_39 ?_
          refine q_nm (fun x7 e_x7 => ?_)
          have e_x7 : x7 = (u3 9) v2_22.toNatClampNeg := e_x7
          have g_x7 : x7.toInt = ((u3 9) v2_22.toNatClampNeg).toInt := congrArg _ e_x7
          refine PurI.cv (As := [.int x7]) (kX11_shorter l g a_m u3 J_m x7 (p_r2.1)) fx (gUV (uT _) u_1275 u_1276 u_1277 u_5 u_1278) rfl hdX11_shorter ⟨Nat.le_of_ble_eq_true rfl, Nat.le_of_ble_eq_true rfl⟩ hK hP [0, 1, 2, 3, 4, 5, 6, 7, 8, 9, 10, 11, 12, 13, 14, 15, 16, 17, 18, 19, 20, 21, 22] rfl rfl rfl rfl rfl hl.1 (Nat.le_of_ble_eq_true rfl) dX11_ragged_40 (fun r8 p_r8 => ?_)
          refine r_iadd hx hb dX11_ragged_43 rfl rfl (fun x9 e_x9 t_x9 => ?_)
          try have t_x9 := t_x9 (by omega)
          refine lv_istore_n (lv' := [(1, .int x9), (2, .int v2_22), (0, .ref (a_m 0))]) hx hb dX11_ragged_44 rfl hl (by decide) rfl (fun ls hl => ?_)
          refine r_iinc (lv' := fun i10 => [(2, .int i10), (1, .int x9), (0, .ref (a_m 0))]) hx hb dX11_ragged_45 hl (k := 1) rfl (by decide) rfl (by decide) (fun _ => rfl) (fun i10 e_i10 t_i10 ls hl => ?_)
          try have t_i10 := t_i10 (by omega)
          refine lv_goto (tgt := 22) hx hb dX11_ragged_48 (by decide) ?_
          exact ih_22 x9 i10 (by omega) (by omega) _ _ hP hD hS ls hl
    exact L22 ((1301 - (0 : Int32).toInt) + 1).toNat (0 : Int32) (0 : Int32) (by omega) (by omega) _ _ hP hD hS ls hl
  · have q_4 := bP.f p_r1 b_4
    refine lv_aload_n hx hb dX11_ragged_7 rfl (lv_at hl 0 rfl) ?_
    refine lv_bipush (v := 6) hx hb dX11_ragged_8 (by decide) ?_
    refine EffI.cv (wr := ([])) (w' := fun u12 => wX11 g a_m u12 J_m) (As := [.int (6 : Int32)]) (kX11_refuse l g a_m I_m J_m (6 : Int32)) fx (gUV (uT _) u_536 u_537 u_538 u_5 u_539) rfl hdX11_refuse ⟨Nat.le_of_ble_eq_true rfl, Nat.le_of_ble_eq_true rfl⟩ hK hP hD hS hA [0, 1, 2, 3, 4, 5, 6, 7, 8, 9, 10, 11, 12, 13, 14, 15, 16, 17, 18, 19, 20, 21, 22] [] [0, 1, 2, 3, 4, 5, 6, 7, 8, 9, 10, 11, 12, 13, 14, 15, 16, 17, 18, 19, 20, 21, 22] rfl rfl rfl rfl (by decide) rfl (fun _ => rfl) rfl rfl rfl rfl hl.1 (Nat.le_of_ble_eq_true rfl) dX11_ragged_10 (fun r11 u12 H locs p_r11 hP hD hS => ?_)
    have hP : va_P g.1 vwCl (wX11 g a_m u12 J_m) H := hP
    have hD : va_D A (wX11 g a_m u12 J_m) := hD
    refine hret 13 ls r11 _ _ u12 dX11_ragged_13 hS hP hD ?_
    exact ⟨(MI.st hM p_r11.2), (KK.st (KK.rf I_m) p_r11.2 (by decide))⟩

set_option maxHeartbeats 4000000 in
set_option maxRecDepth 100000 in
theorem kX11_leastRagged (l : Launch) (g : gG) (a_m : Nat → Nat) (I_m : Nat → Nat → Int32) (J_m : Nat → Nat → Int64) (hM : MI I_m) : EffI l g yX11_leastRagged wsX11_leastRagged 1 [.ref (a_m 0)] (wX11 g a_m I_m J_m) (fun (u : (Nat → Nat → Int32)) => wX11 g a_m u J_m) (fun r (u : (Nat → Nat → Int32)) => KK [12] [1] I_m (u)) := by
  refine EffI.st (cc := cX11_leastRagged) (maxL := 6) (by decide) rfl (Nat.le_of_ble_eq_true rfl) (fun p e s m args below meth c A Q ls fx hK hP hD hA hS hl hret => ?_)
  have hx := fx.1
  have hb := fx.2.1
  have hml := fx.2.2.1
  have hown := fx.2.2.2.1
  have hts := fx.2.2.2.2
  have hl : lv_has ls 6 [(0, .ref (a_m 0))] := hl
  have hP : va_P g.1 vwCl (wX11 g a_m I_m J_m) s.heap := hP
  have hf_7 := hts _ (uT _ _ u_170)
  have hf_56 := hts _ (uT _ _ u_185)
  have hi_X11 : ∀ w ∈ wsX110, w.before args s = true := fun w h => hts w (uT _ w (u_wsX110 w h))
  have hc_358 := hts _ (uT _ _ u_1295)
  have lm1 : (-1 : Int32).toInt = -1 := by decide
  have lm0 : (0 : Int32).toInt = 0 := by decide
  have lm2 : (1 : Int32).toInt = 1 := by decide
  have lq4 : (4 : Int32).toInt = 4 := by decide
  have lq6 : (6 : Int32).toInt = 6 := by decide
  have lq7 : (7 : Int32).toInt = 7 := by decide
  have lq9 : (9 : Int32).toInt = 9 := by decide
  have lq1 : (1 : Int32).toInt = 1 := by decide
  have hp9 := hM.pcs rfl
  have hs8 := hM.set rfl
  refine lv_aload_n hx hb dX11_leastRagged_0 rfl (lv_at hl 0 rfl) ?_
  refine PurI.cv (As := []) (kX11_isSet l g a_m I_m J_m hM) fx (gUV (uT _) u_856 u_857 u_858 u_5 u_859) rfl hdX11_isSet ⟨Nat.le_of_ble_eq_true rfl, Nat.le_of_ble_eq_true rfl⟩ hK hP [0, 1, 2, 3, 4, 5, 6, 7, 8, 9, 10, 11, 12, 13, 14, 15, 16, 17, 18, 19, 20, 21, 22] rfl rfl rfl rfl rfl hl.1 (Nat.le_of_ble_eq_true rfl) dX11_leastRagged_1 (fun r1 p_r1 => ?_)
  refine q_if_ne (tgt := 14) hx hb dX11_leastRagged_4 (by decide) rfl (fun b_4 k_4 => ?_) (fun b_4 k_4 => ?_)
  · have q_4 := bP.t p_r1 b_4
    refine lv_aload_n hx hb dX11_leastRagged_14 rfl (lv_at hl 0 rfl) ?_
    refine va_get (D := g.1) (ci := 11) (v := .ref (a_m 1)) (C := RX11) (T := TX11) (N := 46) hx hb hi_X11 (fun _ h => h) hown hK.1 hP 0 rfl rfl 0 (by decide) hf_7 (fun _ h9 => h9) rfl dX11_leastRagged_15 ?_
    refine lv_bipush (v := 9) hx hb dX11_leastRagged_18 (by decide) ?_
    have n_20 : vp_in (9 : Int32) 19800 := (t_in (by decide))
    refine va_iald hx hb hK.1 hP 1 0 rfl rfl n_20 dX11_leastRagged_20 ?_
    refine q_nm (fun x2 e_x2 => ?_)
    have e_x2 : x2 = (I_m 1) 9 := e_x2
    have g_x2 : x2.toInt = ((I_m 1) 9).toInt := congrArg _ e_x2
    have f_x2 := MI.pcs hM e_x2
    refine lv_istore_n (lv' := [(1, .int x2), (0, .ref (a_m 0))]) hx hb dX11_leastRagged_21 rfl hl (by decide) rfl (fun ls hl => ?_)
    refine lv_iconst (v := 0) hx hb dX11_leastRagged_22 (by decide) ?_
    refine lv_istore_n (lv' := [(2, .int (0 : Int32)), (1, .int x2), (0, .ref (a_m 0))]) hx hb dX11_leastRagged_23 rfl hl (by decide) rfl (fun ls hl => ?_)
    have L24 : ∀ (nn : Nat) (v2_24 : Int32), (hv_24 : 0 ≤ v2_24.toInt ∧ v2_24.toInt ≤ x2.toInt) → ((151 - v2_24.toInt) < (nn : Int)) → ∀ (H : Heap) (locs : List Loc), va_P g.1 vwCl (wX11 g a_m I_m J_m) H → va_D A (wX11 g a_m I_m J_m) → va_S A s.heap H locs → ∀ ls : Array Slot, lv_has ls 6 [(2, .int v2_24), (1, .int x2), (0, .ref (a_m 0))] → W p l e (rm 1) s m args below meth c H locs 0 0 Q (F0 m 24 ls []) := by
      intro n_24
      induction n_24 with
      | zero =>
        intro v2_24 hv_24 hms_24 H locs hP hD hS ls hl
        exfalso; omega
      | succ n_24 ih_24 =>
        intro v2_24 hv_24 hms_24 H locs hP hD hS ls hl
        refine lv_iload_n hx hb dX11_leastRagged_24 rfl (lv_at hl 0 rfl) ?_
        refine lv_iload_n hx hb dX11_leastRagged_25 rfl (lv_at hl 1 rfl) ?_
        refine q_icmp_ge (tgt := 56) hx hb dX11_leastRagged_26 (by decide) rfl rfl (fun k_26 => ?_) (fun k_26 => ?_)
        · refine lv_aload_n hx hb dX11_leastRagged_56 rfl (lv_at hl 2 rfl) ?_
          refine va_get (D := g.1) (ci := 11) (v := .ref (a_m 12)) (C := RX11) (T := TX11) (N := 46) hx hb hi_X11 (fun _ h => h) hown hK.1 hP 0 rfl rfl 30 (by decide) hf_56 (fun _ h9 => h9) rfl dX11_leastRagged_57 ?_
          refine lv_iload_n hx hb dX11_leastRagged_60 rfl (lv_at hl 1 rfl) ?_
          refine lv_iconst (v := 0) hx hb dX11_leastRagged_61 (by decide) ?_
          have n_62 : vp_in x2 160 := (t_in (by omega))
          obtain ⟨f3, e_f3⟩ : ∃ z, z = upd (I_m 12) x2.toNatClampNeg (0 : Int32) := ⟨_, rfl⟩
          refine va_iast hx hb hK.1 hP hD hS 12 0 rfl rfl n_62 dX11_leastRagged_62 (fun H locs hP hD hS => ?_)
          have hP : va_P g.1 vwCl (wX11 g a_m (uR I_m 12 f3) J_m) H := by rw [e_f3]; exact hP
          have hD : va_D A (wX11 g a_m (uR I_m 12 f3) J_m) := by rw [e_f3]; exact hD
          have hc_62 : MI (uR I_m 12 f3) := MI.ur hM (by decide)
          have hk_62 : KK [12] [1] I_m (uR I_m 12 f3) := KK.ur (KK.rf I_m) (by decide) (by decide)
          refine lv_iload_n hx hb dX11_leastRagged_63 rfl (lv_at hl 1 rfl) ?_
          refine lv_iconst (v := 1) hx hb dX11_leastRagged_64 (by decide) ?_
          refine r_isub hx hb dX11_leastRagged_65 rfl (by decide : (1 : Int32).toInt = 1) (fun x4 e_x4 t_x4 => ?_)
          try have t_x4 := t_x4 (by omega)
          refine lv_istore_n (lv' := [(2, .int x4), (1, .int x2), (0, .ref (a_m 0))]) hx hb dX11_leastRagged_66 rfl hl (by decide) rfl (fun ls hl => ?_)
          have L67 : ∀ (nn : Nat) (v2_67 : Int32) (I_m_67 : Nat → Nat → Int32), (hM_67 : MI I_m_67) → (hk_67 : KK [12] [1] I_m I_m_67) → (hv_67 : -1 ≤ v2_67.toInt ∧ v2_67.toInt < x2.toInt) → ((v2_67.toInt + 2) < (nn : Int)) → ∀ (H : Heap) (locs : List Loc), va_P g.1 vwCl (wX11 g a_m I_m_67 J_m) H → va_D A (wX11 g a_m I_m_67 J_m) → va_S A s.heap H locs → ∀ ls : Array Slot, lv_has ls 6 [(2, .int v2_67), (1, .int x2), (0, .ref (a_m 0))] → W p l e (rm 1) s m args below meth c H locs 0 0 Q (F0 m 67 ls []) := by
            intro n_67
            induction n_67 with
            | zero =>
              intro v2_67 I_m_67 hM_67 hk_67 hv_67 hms_67 H locs hP hD hS ls hl
              exfalso; omega
            | succ n_67 ih_67 =>
              intro v2_67 I_m_67 hM_67 hk_67 hv_67 hms_67 H locs hP hD hS ls hl
              refine lv_iload_n hx hb dX11_leastRagged_67 rfl (lv_at hl 0 rfl) ?_
              refine q_if_lt (tgt := 165) hx hb dX11_leastRagged_68 (by decide) rfl (fun k_68 => ?_) (fun k_68 => ?_)
              · refine lv_aload_n hx hb dX11_leastRagged_165 rfl (lv_at hl 2 rfl) ?_
                refine lv_aload_n hx hb dX11_leastRagged_166 rfl (lv_at hl 2 rfl) ?_
                refine va_get (D := g.1) (ci := 11) (v := .ref (a_m 12)) (C := RX11) (T := TX11) (N := 46) hx hb hi_X11 (fun _ h => h) hown hK.1 hP 0 rfl rfl 30 (by decide) hf_56 (fun _ h9 => h9) rfl dX11_leastRagged_167 ?_
                refine lv_iconst (v := 0) hx hb dX11_leastRagged_170 (by decide) ?_
                have n_171 : vp_in (0 : Int32) 160 := (t_in (by decide))
                refine va_iald hx hb hK.1 hP 12 0 rfl rfl n_171 dX11_leastRagged_171 ?_
                refine q_nm (fun x5 e_x5 => ?_)
                have e_x5 : x5 = (I_m_67 12) 0 := e_x5
                have g_x5 : x5.toInt = ((I_m_67 12) 0).toInt := congrArg _ e_x5
                refine EffI.cv (wr := ([])) (w' := fun u7 => wX11 g a_m u7 J_m) (As := [.int x5]) (kX11_gives l g a_m I_m_67 J_m x5) fx (gUV (uT _) u_585 u_586 u_587 u_5 u_588) rfl hdX11_gives ⟨Nat.le_of_ble_eq_true rfl, Nat.le_of_ble_eq_true rfl⟩ hK hP hD hS hA [0, 1, 2, 3, 4, 5, 6, 7, 8, 9, 10, 11, 12, 13, 14, 15, 16, 17, 18, 19, 20, 21, 22] [] [0, 1, 2, 3, 4, 5, 6, 7, 8, 9, 10, 11, 12, 13, 14, 15, 16, 17, 18, 19, 20, 21, 22] rfl rfl rfl rfl (by decide) rfl (fun _ => rfl) rfl rfl rfl rfl hl.1 (Nat.le_of_ble_eq_true rfl) dX11_leastRagged_172 (fun r6 u7 H locs p_r6 hP hD hS => ?_)
                have hP : va_P g.1 vwCl (wX11 g a_m u7 J_m) H := hP
                have hD : va_D A (wX11 g a_m u7 J_m) := hD
                refine hret 175 ls r6 _ _ u7 dX11_leastRagged_175 hS hP hD ?_
                exact (KK.st hk_67 p_r6.2 (by decide))
              · refine lv_iconst (v := -1) hx hb dX11_leastRagged_71 (by decide) ?_
                refine lv_istore_n (lv' := [(3, .int (-1 : Int32)), (2, .int v2_67), (1, .int x2), (0, .ref (a_m 0))]) hx hb dX11_leastRagged_72 rfl hl (by decide) rfl (fun ls hl => ?_)
                refine lv_ldcw hx hb hown hc_358 dX11_leastRagged_73 ?_
                refine lv_istore (lv' := [(4, .int (2147483647 : Int32)), (3, .int (-1 : Int32)), (2, .int v2_67), (1, .int x2), (0, .ref (a_m 0))]) hx hb dX11_leastRagged_76 hl (by decide) rfl (fun ls hl => ?_)
                refine lv_iload_n hx hb dX11_leastRagged_78 rfl (lv_at hl 2 rfl) ?_
                refine lv_istore (lv' := [(5, .int v2_67), (4, .int (2147483647 : Int32)), (3, .int (-1 : Int32)), (2, .int v2_67), (1, .int x2), (0, .ref (a_m 0))]) hx hb dX11_leastRagged_79 hl (by decide) rfl (fun ls hl => ?_)
                have L81 : ∀ (nn : Nat) (v3_81 : Int32) (v4_81 : Int32) (v5_81 : Int32), (hw2_81 : v2_67.toInt ≤ v5_81.toInt ∧ v5_81.toInt ≤ x2.toInt) → ((151 - v5_81.toInt) < (nn : Int)) → ∀ (H : Heap) (locs : List Loc), va_P g.1 vwCl (wX11 g a_m I_m_67 J_m) H → va_D A (wX11 g a_m I_m_67 J_m) → va_S A s.heap H locs → ∀ ls : Array Slot, lv_has ls 6 [(5, .int v5_81), (4, .int v4_81), (3, .int v3_81), (2, .int v2_67), (1, .int x2), (0, .ref (a_m 0))] → W p l e (rm 1) s m args below meth c H locs 0 0 Q (F0 m 81 ls []) := by
                  intro n_81
                  induction n_81 with
                  | zero =>
                    intro v3_81 v4_81 v5_81 hw2_81 hms_81 H locs hP hD hS ls hl
                    exfalso; omega
                  | succ n_81 ih_81 =>
                    intro v3_81 v4_81 v5_81 hw2_81 hms_81 H locs hP hD hS ls hl
                    refine lv_iload hx hb dX11_leastRagged_81 (lv_at hl 0 rfl) ?_
                    refine lv_iload_n hx hb dX11_leastRagged_83 rfl (lv_at hl 4 rfl) ?_
                    refine q_icmp_ge (tgt := 151) hx hb dX11_leastRagged_84 (by decide) rfl rfl (fun k_84 => ?_) (fun k_84 => ?_)
                    · refine lv_aload_n hx hb dX11_leastRagged_151 rfl (lv_at hl 5 rfl) ?_
                      refine va_get (D := g.1) (ci := 11) (v := .ref (a_m 12)) (C := RX11) (T := TX11) (N := 46) hx hb hi_X11 (fun _ h => h) hown hK.1 hP 0 rfl rfl 30 (by decide) hf_56 (fun _ h9 => h9) rfl dX11_leastRagged_152 ?_
                      refine lv_iload_n hx hb dX11_leastRagged_155 rfl (lv_at hl 3 rfl) ?_
                      refine lv_iload hx hb dX11_leastRagged_156 (lv_at hl 1 rfl) ?_
                      have n_158 : vp_in v2_67 160 := (t_in (by omega))
                      obtain ⟨f8, e_f8⟩ : ∃ z, z = upd (I_m_67 12) v2_67.toNatClampNeg v4_81 := ⟨_, rfl⟩
                      refine va_iast hx hb hK.1 hP hD hS 12 0 rfl rfl n_158 dX11_leastRagged_158 (fun H locs hP hD hS => ?_)
                      have hP : va_P g.1 vwCl (wX11 g a_m (uR I_m_67 12 f8) J_m) H := by rw [e_f8]; exact hP
                      have hD : va_D A (wX11 g a_m (uR I_m_67 12 f8) J_m) := by rw [e_f8]; exact hD
                      have hc_158 : MI (uR I_m_67 12 f8) := MI.ur hM_67 (by decide)
                      have hk_158 : KK [12] [1] I_m (uR I_m_67 12 f8) := KK.ur hk_67 (by decide) (by decide)
                      refine r_iinc (lv' := fun i9 => [(2, .int i9), (5, .int v5_81), (4, .int v4_81), (3, .int v3_81), (1, .int x2), (0, .ref (a_m 0))]) hx hb dX11_leastRagged_159 hl (k := 3) rfl (by decide) rfl (by decide) (fun _ => rfl) (fun i9 e_i9 t_i9 ls hl => ?_)
                      try have t_i9 := t_i9 (by omega)
                      refine lv_goto (tgt := 67) hx hb dX11_leastRagged_162 (by decide) ?_
                      exact ih_67 i9 (uR I_m_67 12 f8) hc_158 hk_158 (by omega) (by omega) _ _ hP hD hS ls (lv_sub hl [0, 4, 5] rfl)
                    · refine lv_iload_n hx hb dX11_leastRagged_87 rfl (lv_at hl 2 rfl) ?_
                      refine lv_iconst (v := 1) hx hb dX11_leastRagged_88 (by decide) ?_
                      refine lv_aload_n hx hb dX11_leastRagged_89 rfl (lv_at hl 5 rfl) ?_
                      refine lv_iload hx hb dX11_leastRagged_90 (lv_at hl 0 rfl) ?_
                      refine PurI.cv (As := [.int v5_81]) (kX11_pieceMany l g a_m I_m_67 J_m v5_81 hM_67 (by rw [hk_67.row 1 (by decide)]; omega)) fx (gUV (uT _) u_890 u_891 u_892 u_5 u_893) rfl hdX11_pieceMany ⟨Nat.le_of_ble_eq_true rfl, Nat.le_of_ble_eq_true rfl⟩ hK hP [0, 1, 2, 3, 4, 5, 6, 7, 8, 9, 10, 11, 12, 13, 14, 15, 16, 17, 18, 19, 20, 21, 22] rfl rfl rfl rfl rfl hl.1 (Nat.le_of_ble_eq_true rfl) dX11_leastRagged_92 (fun r10 p_r10 => ?_)
                      refine r_iadd hx hb dX11_leastRagged_95 (by decide : (1 : Int32).toInt = 1) rfl (fun x11 e_x11 t_x11 => ?_)
                      try have t_x11 := t_x11 (by omega)
                      refine r_iadd hx hb dX11_leastRagged_96 rfl rfl (fun x12 e_x12 t_x12 => ?_)
                      try have t_x12 := t_x12 (by omega)
                      refine lv_istore_n (lv' := [(3, .int x12), (5, .int v5_81), (4, .int v4_81), (2, .int v2_67), (1, .int x2), (0, .ref (a_m 0))]) hx hb dX11_leastRagged_97 rfl hl (by decide) rfl (fun ls hl => ?_)
                      refine lv_iload_n hx hb dX11_leastRagged_98 rfl (lv_at hl 0 rfl) ?_
                      refine lv_aload_n hx hb dX11_leastRagged_99 rfl (lv_at hl 5 rfl) ?_
                      refine va_get (D := g.1) (ci := 11) (v := .ref (a_m 1)) (C := RX11) (T := TX11) (N := 46) hx hb hi_X11 (fun _ h => h) hown hK.1 hP 0 rfl rfl 0 (by decide) hf_7 (fun _ h9 => h9) rfl dX11_leastRagged_100 ?_
                      refine lv_iconst (v := 4) hx hb dX11_leastRagged_103 (by decide) ?_
                      have n_104 : vp_in (4 : Int32) 19800 := (t_in (by decide))
                      refine va_iald hx hb hK.1 hP 1 0 rfl rfl n_104 dX11_leastRagged_104 ?_
                      refine q_nm (fun x13 e_x13 => ?_)
                      have e_x13 : x13 = (I_m_67 1) 4 := e_x13
                      have g_x13 : x13.toInt = ((I_m_67 1) 4).toInt := congrArg _ e_x13
                      have f_x13 := MI.line hM_67 e_x13
                      refine q_icmp_le (tgt := 111) hx hb dX11_leastRagged_105 (by decide) rfl rfl (fun k_105 => ?_) (fun k_105 => ?_)
                      · refine lv_iload hx hb dX11_leastRagged_111 (lv_at hl 2 rfl) ?_
                        refine lv_iload hx hb dX11_leastRagged_113 (lv_at hl 1 rfl) ?_
                        refine lv_iconst (v := 1) hx hb dX11_leastRagged_115 (by decide) ?_
                        refine r_iadd hx hb dX11_leastRagged_116 rfl (by decide : (1 : Int32).toInt = 1) (fun x14 e_x14 t_x14 => ?_)
                        try have t_x14 := t_x14 (by omega)
                        refine lv_iload_n hx hb dX11_leastRagged_117 rfl (lv_at hl 4 rfl) ?_
                        refine q_icmp_ne (tgt := 125) hx hb dX11_leastRagged_118 (by decide) rfl rfl (fun k_118 => ?_) (fun k_118 => ?_)
                        · refine lv_aload_n hx hb dX11_leastRagged_125 rfl (lv_at hl 5 rfl) ?_
                          refine lv_iload_n hx hb dX11_leastRagged_126 rfl (lv_at hl 0 rfl) ?_
                          refine PurI.cv (As := [.int x12]) (kX11_shorter l g a_m I_m_67 J_m x12 hM_67) fx (gUV (uT _) u_1275 u_1276 u_1277 u_5 u_1278) rfl hdX11_shorter ⟨Nat.le_of_ble_eq_true rfl, Nat.le_of_ble_eq_true rfl⟩ hK hP [0, 1, 2, 3, 4, 5, 6, 7, 8, 9, 10, 11, 12, 13, 14, 15, 16, 17, 18, 19, 20, 21, 22] rfl rfl rfl rfl rfl hl.1 (Nat.le_of_ble_eq_true rfl) dX11_leastRagged_127 (fun r15 p_r15 => ?_)
                          refine lv_aload_n hx hb dX11_leastRagged_130 rfl (lv_at hl 5 rfl) ?_
                          refine va_get (D := g.1) (ci := 11) (v := .ref (a_m 12)) (C := RX11) (T := TX11) (N := 46) hx hb hi_X11 (fun _ h => h) hown hK.1 hP 0 rfl rfl 30 (by decide) hf_56 (fun _ h9 => h9) rfl dX11_leastRagged_131 ?_
                          refine lv_iload hx hb dX11_leastRagged_134 (lv_at hl 1 rfl) ?_
                          refine lv_iconst (v := 1) hx hb dX11_leastRagged_136 (by decide) ?_
                          refine r_iadd hx hb dX11_leastRagged_137 rfl (by decide : (1 : Int32).toInt = 1) (fun x16 e_x16 t_x16 => ?_)
                          try have t_x16 := t_x16 (by omega)
                          have n_138 : vp_in x16 160 := (t_in (by omega))
                          refine va_iald hx hb hK.1 hP 12 0 rfl rfl n_138 dX11_leastRagged_138 ?_
                          refine q_nm (fun x17 e_x17 => ?_)
                          have e_x17 : x17 = (I_m_67 12) x16.toNatClampNeg := e_x17
                          have g_x17 : x17.toInt = ((I_m_67 12) x16.toNatClampNeg).toInt := congrArg _ e_x17
                          refine r_iadd hx hb dX11_leastRagged_139 rfl rfl (fun x18 e_x18 t_x18 => ?_)
                          try have t_x18 := t_x18 (by omega)
                          refine va_mmin hx hb (hml.trans hl.1.symm) hown (hts _ (uT _ _ u_522)) (hts _ (uT _ _ u_523)) (hts _ (uT _ _ u_524)) (hts _ (uT _ _ u_525)) (Nat.le_of_ble_eq_true rfl) (Nat.le_of_ble_eq_true rfl) (Nat.zero_le _) (Nat.zero_le _) dX11_leastRagged_140 ?_
                          refine q_nm (fun x19 e_x19 => ?_)
                          have t_x19 := t_min e_x19 rfl rfl
                          refine lv_istore (lv' := [(4, .int x19), (3, .int x12), (5, .int v5_81), (2, .int v2_67), (1, .int x2), (0, .ref (a_m 0))]) hx hb dX11_leastRagged_143 hl (by decide) rfl (fun ls hl => ?_)
                          refine r_iinc (lv' := fun i20 => [(5, .int i20), (4, .int x19), (3, .int x12), (2, .int v2_67), (1, .int x2), (0, .ref (a_m 0))]) hx hb dX11_leastRagged_145 hl (k := 2) rfl (by decide) rfl (by decide) (fun _ => rfl) (fun i20 e_i20 t_i20 ls hl => ?_)
                          try have t_i20 := t_i20 (by omega)
                          refine lv_goto (tgt := 81) hx hb dX11_leastRagged_148 (by decide) ?_
                          exact ih_81 x12 x19 i20 (by omega) (by omega) _ _ hP hD hS ls hl
                        · refine lv_iconst (v := 0) hx hb dX11_leastRagged_121 (by decide) ?_
                          refine lv_goto (tgt := 140) hx hb dX11_leastRagged_122 (by decide) ?_
                          refine va_mmin hx hb (hml.trans hl.1.symm) hown (hts _ (uT _ _ u_522)) (hts _ (uT _ _ u_523)) (hts _ (uT _ _ u_524)) (hts _ (uT _ _ u_525)) (Nat.le_of_ble_eq_true rfl) (Nat.le_of_ble_eq_true rfl) (Nat.zero_le _) (Nat.zero_le _) dX11_leastRagged_140 ?_
                          refine q_nm (fun x21 e_x21 => ?_)
                          have t_x21 := t_min e_x21 rfl (by decide : (0 : Int32).toInt = 0)
                          refine lv_istore (lv' := [(4, .int x21), (3, .int x12), (5, .int v5_81), (2, .int v2_67), (1, .int x2), (0, .ref (a_m 0))]) hx hb dX11_leastRagged_143 hl (by decide) rfl (fun ls hl => ?_)
                          refine r_iinc (lv' := fun i22 => [(5, .int i22), (4, .int x21), (3, .int x12), (2, .int v2_67), (1, .int x2), (0, .ref (a_m 0))]) hx hb dX11_leastRagged_145 hl (k := 2) rfl (by decide) rfl (by decide) (fun _ => rfl) (fun i22 e_i22 t_i22 ls hl => ?_)
                          try have t_i22 := t_i22 (by omega)
                          refine lv_goto (tgt := 81) hx hb dX11_leastRagged_148 (by decide) ?_
                          exact ih_81 x12 x21 i22 (by omega) (by omega) _ _ hP hD hS ls hl
                      · refine lv_goto (tgt := 151) hx hb dX11_leastRagged_108 (by decide) ?_
                        refine lv_aload_n hx hb dX11_leastRagged_151 rfl (lv_at hl 5 rfl) ?_
                        refine va_get (D := g.1) (ci := 11) (v := .ref (a_m 12)) (C := RX11) (T := TX11) (N := 46) hx hb hi_X11 (fun _ h => h) hown hK.1 hP 0 rfl rfl 30 (by decide) hf_56 (fun _ h9 => h9) rfl dX11_leastRagged_152 ?_
                        refine lv_iload_n hx hb dX11_leastRagged_155 rfl (lv_at hl 3 rfl) ?_
                        refine lv_iload hx hb dX11_leastRagged_156 (lv_at hl 2 rfl) ?_
                        have n_158 : vp_in v2_67 160 := (t_in (by omega))
                        obtain ⟨f23, e_f23⟩ : ∃ z, z = upd (I_m_67 12) v2_67.toNatClampNeg v4_81 := ⟨_, rfl⟩
                        refine va_iast hx hb hK.1 hP hD hS 12 0 rfl rfl n_158 dX11_leastRagged_158 (fun H locs hP hD hS => ?_)
                        have hP : va_P g.1 vwCl (wX11 g a_m (uR I_m_67 12 f23) J_m) H := by rw [e_f23]; exact hP
                        have hD : va_D A (wX11 g a_m (uR I_m_67 12 f23) J_m) := by rw [e_f23]; exact hD
                        have hc_158 : MI (uR I_m_67 12 f23) := MI.ur hM_67 (by decide)
                        have hk_158 : KK [12] [1] I_m (uR I_m_67 12 f23) := KK.ur hk_67 (by decide) (by decide)
                        refine r_iinc (lv' := fun i24 => [(2, .int i24), (3, .int x12), (5, .int v5_81), (4, .int v4_81), (1, .int x2), (0, .ref (a_m 0))]) hx hb dX11_leastRagged_159 hl (k := 3) rfl (by decide) rfl (by decide) (fun _ => rfl) (fun i24 e_i24 t_i24 ls hl => ?_)
                        try have t_i24 := t_i24 (by omega)
                        refine lv_goto (tgt := 67) hx hb dX11_leastRagged_162 (by decide) ?_
                        exact ih_67 i24 (uR I_m_67 12 f23) hc_158 hk_158 (by omega) (by omega) _ _ hP hD hS ls (lv_sub hl [0, 4, 5] rfl)
                exact L81 ((151 - v2_67.toInt) + 1).toNat (-1 : Int32) (2147483647 : Int32) v2_67 (by omega) (by omega) _ _ hP hD hS ls hl
          exact L67 ((x4.toInt + 2) + 1).toNat x4 (uR I_m 12 f3) hc_62 hk_62 (by omega) (by omega) _ _ hP hD hS ls hl
        · refine lv_aload_n hx hb dX11_leastRagged_29 rfl (lv_at hl 2 rfl) ?_
          refine lv_iload_n hx hb dX11_leastRagged_30 rfl (lv_at hl 0 rfl) ?_
          refine PurI.cv (As := [.int v2_24]) (kX11_pieceMany l g a_m I_m J_m v2_24 hM (by omega)) fx (gUV (uT _) u_890 u_891 u_892 u_5 u_893) rfl hdX11_pieceMany ⟨Nat.le_of_ble_eq_true rfl, Nat.le_of_ble_eq_true rfl⟩ hK hP [0, 1, 2, 3, 4, 5, 6, 7, 8, 9, 10, 11, 12, 13, 14, 15, 16, 17, 18, 19, 20, 21, 22] rfl rfl rfl rfl rfl hl.1 (Nat.le_of_ble_eq_true rfl) dX11_leastRagged_31 (fun r25 p_r25 => ?_)
          refine lv_aload_n hx hb dX11_leastRagged_34 rfl (lv_at hl 2 rfl) ?_
          refine va_get (D := g.1) (ci := 11) (v := .ref (a_m 1)) (C := RX11) (T := TX11) (N := 46) hx hb hi_X11 (fun _ h => h) hown hK.1 hP 0 rfl rfl 0 (by decide) hf_7 (fun _ h9 => h9) rfl dX11_leastRagged_35 ?_
          refine lv_iconst (v := 4) hx hb dX11_leastRagged_38 (by decide) ?_
          have n_39 : vp_in (4 : Int32) 19800 := (t_in (by decide))
          refine va_iald hx hb hK.1 hP 1 0 rfl rfl n_39 dX11_leastRagged_39 ?_
          refine q_nm (fun x26 e_x26 => ?_)
          have e_x26 : x26 = (I_m 1) 4 := e_x26
          have g_x26 : x26.toInt = ((I_m 1) 4).toInt := congrArg _ e_x26
          have f_x26 := MI.line hM e_x26
          refine q_icmp_le (tgt := 50) hx hb dX11_leastRagged_40 (by decide) rfl rfl (fun k_40 => ?_) (fun k_40 => ?_)
          · refine r_iinc (lv' := fun i27 => [(2, .int i27), (1, .int x2), (0, .ref (a_m 0))]) hx hb dX11_leastRagged_50 hl (k := 0) rfl (by decide) rfl (by decide) (fun _ => rfl) (fun i27 e_i27 t_i27 ls hl => ?_)
            try have t_i27 := t_i27 (by omega)
            refine lv_goto (tgt := 24) hx hb dX11_leastRagged_53 (by decide) ?_
            exact ih_24 i27 (by omega) (by omega) _ _ hP hD hS ls hl
          · refine lv_aload_n hx hb dX11_leastRagged_43 rfl (lv_at hl 2 rfl) ?_
            refine lv_bipush (v := 7) hx hb dX11_leastRagged_44 (by decide) ?_
            refine EffI.cv (wr := ([])) (w' := fun u29 => wX11 g a_m u29 J_m) (As := [.int (7 : Int32)]) (kX11_refuse l g a_m I_m J_m (7 : Int32)) fx (gUV (uT _) u_536 u_537 u_538 u_5 u_539) rfl hdX11_refuse ⟨Nat.le_of_ble_eq_true rfl, Nat.le_of_ble_eq_true rfl⟩ hK hP hD hS hA [0, 1, 2, 3, 4, 5, 6, 7, 8, 9, 10, 11, 12, 13, 14, 15, 16, 17, 18, 19, 20, 21, 22] [] [0, 1, 2, 3, 4, 5, 6, 7, 8, 9, 10, 11, 12, 13, 14, 15, 16, 17, 18, 19, 20, 21, 22] rfl rfl rfl rfl (by decide) rfl (fun _ => rfl) rfl rfl rfl rfl hl.1 (Nat.le_of_ble_eq_true rfl) dX11_leastRagged_46 (fun r28 u29 H locs p_r28 hP hD hS => ?_)
            have hP : va_P g.1 vwCl (wX11 g a_m u29 J_m) H := hP
            have hD : va_D A (wX11 g a_m u29 J_m) := hD
            refine hret 49 ls r28 _ _ u29 dX11_leastRagged_49 hS hP hD ?_
            exact (KK.st (KK.rf I_m) p_r28.2 (by decide))
    exact L24 ((151 - (0 : Int32).toInt) + 1).toNat (0 : Int32) (by omega) (by omega) _ _ hP hD hS ls hl
  · have q_4 := bP.f p_r1 b_4
    refine lv_aload_n hx hb dX11_leastRagged_7 rfl (lv_at hl 0 rfl) ?_
    refine lv_bipush (v := 6) hx hb dX11_leastRagged_8 (by decide) ?_
    refine EffI.cv (wr := ([])) (w' := fun u31 => wX11 g a_m u31 J_m) (As := [.int (6 : Int32)]) (kX11_refuse l g a_m I_m J_m (6 : Int32)) fx (gUV (uT _) u_536 u_537 u_538 u_5 u_539) rfl hdX11_refuse ⟨Nat.le_of_ble_eq_true rfl, Nat.le_of_ble_eq_true rfl⟩ hK hP hD hS hA [0, 1, 2, 3, 4, 5, 6, 7, 8, 9, 10, 11, 12, 13, 14, 15, 16, 17, 18, 19, 20, 21, 22] [] [0, 1, 2, 3, 4, 5, 6, 7, 8, 9, 10, 11, 12, 13, 14, 15, 16, 17, 18, 19, 20, 21, 22] rfl rfl rfl rfl (by decide) rfl (fun _ => rfl) rfl rfl rfl rfl hl.1 (Nat.le_of_ble_eq_true rfl) dX11_leastRagged_10 (fun r30 u31 H locs p_r30 hP hD hS => ?_)
    have hP : va_P g.1 vwCl (wX11 g a_m u31 J_m) H := hP
    have hD : va_D A (wX11 g a_m u31 J_m) := hD
    refine hret 13 ls r30 _ _ u31 dX11_leastRagged_13 hS hP hD ?_
    exact (KK.st (KK.rf I_m) p_r30.2 (by decide))

set_option maxHeartbeats 4000000 in
set_option maxRecDepth 100000 in
theorem kX11_wasted (l : Launch) (g : gG) (a_m : Nat → Nat) (I_m : Nat → Nat → Int32) (J_m : Nat → Nat → Int64) (line : Int32) (hM : MI I_m) : EffI l g yX11_wasted wsX11_wasted 3 [.ref (a_m 0), .int line] (wX11 g a_m I_m J_m) (fun (u : (Nat → Nat → Int32)) => wX11 g a_m u J_m) (fun r (u : (Nat → Nat → Int32)) => MI (u) ∧ KK [7, 8, 9, 10, 11] [1, 27, 28, 29] I_m (u)) := by
  refine EffI.st (cc := cX11_wasted) (maxL := 2) (by decide) rfl (Nat.le_of_ble_eq_true rfl) (fun p e s m args below meth c A Q ls fx hK hP hD hA hS hl hret => ?_)
  have hx := fx.1
  have hb := fx.2.1
  have hml := fx.2.2.1
  have hown := fx.2.2.2.1
  have hts := fx.2.2.2.2
  have hl : lv_has ls 2 [(0, .ref (a_m 0)), (1, .int line)] := hl
  have hP : va_P g.1 vwCl (wX11 g a_m I_m J_m) s.heap := hP
  have hf_7 := hts _ (uT _ _ u_170)
  have hf_47 := hts _ (uT _ _ u_182)
  have hi_X11 : ∀ w ∈ wsX110, w.before args s = true := fun w h => hts w (uT _ w (u_wsX110 w h))
  have lm1 : (-1 : Int32).toInt = -1 := by decide
  have lm0 : (0 : Int32).toInt = 0 := by decide
  have lm2 : (1 : Int32).toInt = 1 := by decide
  have lq4 : (4 : Int32).toInt = 4 := by decide
  have lq6 : (6 : Int32).toInt = 6 := by decide
  have lq1 : (1 : Int32).toInt = 1 := by decide
  refine lv_aload_n hx hb dX11_wasted_0 rfl (lv_at hl 0 rfl) ?_
  refine lv_iload_n hx hb dX11_wasted_1 rfl (lv_at hl 1 rfl) ?_
  refine EffI.cv (wr := ([])) (w' := fun u2 => wX11 g a_m u2 J_m) (As := [.int line]) (kX11_isLine l g a_m I_m J_m line hM) fx (gUV (uT _) u_931 u_932 u_933 u_5 u_934) rfl hdX11_isLine ⟨Nat.le_of_ble_eq_true rfl, Nat.le_of_ble_eq_true rfl⟩ hK hP hD hS hA [0, 1, 2, 3, 4, 5, 6, 7, 8, 9, 10, 11, 12, 13, 14, 15, 16, 17, 18, 19, 20, 21, 22] [] [0, 1, 2, 3, 4, 5, 6, 7, 8, 9, 10, 11, 12, 13, 14, 15, 16, 17, 18, 19, 20, 21, 22] rfl rfl rfl rfl (by decide) rfl (fun _ => rfl) rfl rfl rfl rfl hl.1 (Nat.le_of_ble_eq_true rfl) dX11_wasted_2 (fun r1 u2 H locs p_r1 hP hD hS => ?_)
  have hP : va_P g.1 vwCl (wX11 g a_m u2 J_m) H := hP
  have hD : va_D A (wX11 g a_m u2 J_m) := hD
  refine q_if_eq (tgt := 28) hx hb dX11_wasted_5 (by decide) rfl (fun b_5 k_5 => ?_) (fun b_5 k_5 => ?_)
  · have q_5 := bP.f p_r1.2.2 b_5
    refine lv_aload_n hx hb dX11_wasted_28 rfl (lv_at hl 0 rfl) ?_
    refine lv_bipush (v := 6) hx hb dX11_wasted_29 (by decide) ?_
    refine EffI.cv (wr := ([])) (w' := fun u4 => wX11 g a_m u4 J_m) (As := [.int (6 : Int32)]) (kX11_refuse l g a_m u2 J_m (6 : Int32)) fx (gUV (uT _) u_536 u_537 u_538 u_5 u_539) rfl hdX11_refuse ⟨Nat.le_of_ble_eq_true rfl, Nat.le_of_ble_eq_true rfl⟩ hK hP hD hS hA [0, 1, 2, 3, 4, 5, 6, 7, 8, 9, 10, 11, 12, 13, 14, 15, 16, 17, 18, 19, 20, 21, 22] [] [0, 1, 2, 3, 4, 5, 6, 7, 8, 9, 10, 11, 12, 13, 14, 15, 16, 17, 18, 19, 20, 21, 22] rfl rfl rfl rfl (by decide) rfl (fun _ => rfl) rfl rfl rfl rfl hl.1 (Nat.le_of_ble_eq_true rfl) dX11_wasted_31 (fun r3 u4 H locs p_r3 hP hD hS => ?_)
    have hP : va_P g.1 vwCl (wX11 g a_m u4 J_m) H := hP
    have hD : va_D A (wX11 g a_m u4 J_m) := hD
    refine hret 34 ls r3 _ _ u4 dX11_wasted_34 hS hP hD ?_
    exact ⟨(MI.st (p_r1.1) p_r3.2), (KK.st (KK.tr (KK.rf I_m) p_r1.2.1 (by decide) (by decide)) p_r3.2 (by decide))⟩
  · have q_5 := bP.t p_r1.2.2 b_5
    refine lv_aload_n hx hb dX11_wasted_8 rfl (lv_at hl 0 rfl) ?_
    refine lv_aload_n hx hb dX11_wasted_9 rfl (lv_at hl 0 rfl) ?_
    refine va_get (D := g.1) (ci := 11) (v := .ref (a_m 1)) (C := RX11) (T := TX11) (N := 46) hx hb hi_X11 (fun _ h => h) hown hK.1 hP 0 rfl rfl 0 (by decide) hf_7 (fun _ h9 => h9) rfl dX11_wasted_10 ?_
    refine lv_iconst (v := 4) hx hb dX11_wasted_13 (by decide) ?_
    have n_14 : vp_in (4 : Int32) 19800 := (t_in (by decide))
    refine va_iald hx hb hK.1 hP 1 0 rfl rfl n_14 dX11_wasted_14 ?_
    refine q_nm (fun x5 e_x5 => ?_)
    have e_x5 : x5 = (u2 1) 4 := e_x5
    have g_x5 : x5.toInt = ((u2 1) 4).toInt := congrArg _ e_x5
    have f_x5 := MI.line (p_r1.1) e_x5
    refine lv_aload_n hx hb dX11_wasted_15 rfl (lv_at hl 0 rfl) ?_
    refine va_get (D := g.1) (ci := 11) (v := .ref (a_m 9)) (C := RX11) (T := TX11) (N := 46) hx hb hi_X11 (fun _ h => h) hown hK.1 hP 0 rfl rfl 24 (by decide) hf_47 (fun _ h9 => h9) rfl dX11_wasted_16 ?_
    refine lv_iload_n hx hb dX11_wasted_19 rfl (lv_at hl 1 rfl) ?_
    have n_20 : vp_in line 1300 := (t_in (by omega))
    refine va_iald hx hb hK.1 hP 9 0 rfl rfl n_20 dX11_wasted_20 ?_
    refine q_nm (fun x6 e_x6 => ?_)
    have e_x6 : x6 = (u2 9) line.toNatClampNeg := e_x6
    have g_x6 : x6.toInt = ((u2 9) line.toNatClampNeg).toInt := congrArg _ e_x6
    refine r_isub hx hb dX11_wasted_21 rfl rfl (fun x7 e_x7 t_x7 => ?_)
    try have t_x7 := t_x7 (by omega)
    refine EffI.cv (wr := ([])) (w' := fun u9 => wX11 g a_m u9 J_m) (As := [.int x7]) (kX11_gives l g a_m u2 J_m x7) fx (gUV (uT _) u_585 u_586 u_587 u_5 u_588) rfl hdX11_gives ⟨Nat.le_of_ble_eq_true rfl, Nat.le_of_ble_eq_true rfl⟩ hK hP hD hS hA [0, 1, 2, 3, 4, 5, 6, 7, 8, 9, 10, 11, 12, 13, 14, 15, 16, 17, 18, 19, 20, 21, 22] [] [0, 1, 2, 3, 4, 5, 6, 7, 8, 9, 10, 11, 12, 13, 14, 15, 16, 17, 18, 19, 20, 21, 22] rfl rfl rfl rfl (by decide) rfl (fun _ => rfl) rfl rfl rfl rfl hl.1 (Nat.le_of_ble_eq_true rfl) dX11_wasted_22 (fun r8 u9 H locs p_r8 hP hD hS => ?_)
    have hP : va_P g.1 vwCl (wX11 g a_m u9 J_m) H := hP
    have hD : va_D A (wX11 g a_m u9 J_m) := hD
    refine lv_goto (tgt := 34) hx hb dX11_wasted_25 (by decide) ?_
    refine hret 34 ls r8 _ _ u9 dX11_wasted_34 hS hP hD ?_
    exact ⟨(MI.st (p_r1.1) p_r8.2), (KK.st (KK.tr (KK.rf I_m) p_r1.2.1 (by decide) (by decide)) p_r8.2 (by decide))⟩

set_option maxHeartbeats 4000000 in
set_option maxRecDepth 100000 in
theorem kX11_frequent (l : Launch) (g : gG) (a_m : Nat → Nat) (I_m : Nat → Nat → Int32) (J_m : Nat → Nat → Int64) (hM : MI I_m) : EffI l g yX11_frequent wsX11_frequent 2 [.ref (a_m 0)] (wX11 g a_m I_m J_m) (fun (u : (Nat → Nat → Int32)) => wX11 g a_m u J_m) (fun r (u : (Nat → Nat → Int32)) => KK [] [1] I_m (u)) := by
  refine EffI.st (cc := cX11_frequent) (maxL := 6) (by decide) rfl (Nat.le_of_ble_eq_true rfl) (fun p e s m args below meth c A Q ls fx hK hP hD hA hS hl hret => ?_)
  have hx := fx.1
  have hb := fx.2.1
  have hml := fx.2.2.1
  have hown := fx.2.2.2.1
  have hts := fx.2.2.2.2
  have hl : lv_has ls 6 [(0, .ref (a_m 0))] := hl
  have hP : va_P g.1 vwCl (wX11 g a_m I_m J_m) s.heap := hP
  have hf_7 := hts _ (uT _ _ u_170)
  have hi_X11 : ∀ w ∈ wsX110, w.before args s = true := fun w h => hts w (uT _ w (u_wsX110 w h))
  have lm1 : (-1 : Int32).toInt = -1 := by decide
  have lm0 : (0 : Int32).toInt = 0 := by decide
  have lm2 : (1 : Int32).toInt = 1 := by decide
  have lq6 : (6 : Int32).toInt = 6 := by decide
  have lq7 : (7 : Int32).toInt = 7 := by decide
  have lq300 : (300 : Int32).toInt = 300 := by decide
  have lq26 : (26 : Int32).toInt = 26 := by decide
  have lq1 : (1 : Int32).toInt = 1 := by decide
  refine lv_aload_n hx hb dX11_frequent_0 rfl (lv_at hl 0 rfl) ?_
  refine PurI.cv (As := []) (kX11_isSet l g a_m I_m J_m hM) fx (gUV (uT _) u_856 u_857 u_858 u_5 u_859) rfl hdX11_isSet ⟨Nat.le_of_ble_eq_true rfl, Nat.le_of_ble_eq_true rfl⟩ hK hP [0, 1, 2, 3, 4, 5, 6, 7, 8, 9, 10, 11, 12, 13, 14, 15, 16, 17, 18, 19, 20, 21, 22] rfl rfl rfl rfl rfl hl.1 (Nat.le_of_ble_eq_true rfl) dX11_frequent_1 (fun r1 p_r1 => ?_)
  refine q_if_ne (tgt := 14) hx hb dX11_frequent_4 (by decide) rfl (fun b_4 k_4 => ?_) (fun b_4 k_4 => ?_)
  · have q_4 := bP.t p_r1 b_4
    refine lv_iconst (v := -1) hx hb dX11_frequent_14 (by decide) ?_
    refine lv_istore_n (lv' := [(1, .int (-1 : Int32)), (0, .ref (a_m 0))]) hx hb dX11_frequent_15 rfl hl (by decide) rfl (fun ls hl => ?_)
    refine lv_iconst (v := 0) hx hb dX11_frequent_16 (by decide) ?_
    refine lv_istore_n (lv' := [(2, .int (0 : Int32)), (1, .int (-1 : Int32)), (0, .ref (a_m 0))]) hx hb dX11_frequent_17 rfl hl (by decide) rfl (fun ls hl => ?_)
    refine lv_iconst (v := 1) hx hb dX11_frequent_18 (by decide) ?_
    refine lv_istore_n (lv' := [(3, .int (1 : Int32)), (2, .int (0 : Int32)), (1, .int (-1 : Int32)), (0, .ref (a_m 0))]) hx hb dX11_frequent_19 rfl hl (by decide) rfl (fun ls hl => ?_)
    have L20 : ∀ (nn : Nat) (v1_20 : Int32) (v2_20 : Int32) (v3_20 : Int32), (hv_20 : 1 ≤ v3_20.toInt ∧ v3_20.toInt ≤ 27) → ((28 - v3_20.toInt) < (nn : Int)) → ∀ (H : Heap) (locs : List Loc), va_P g.1 vwCl (wX11 g a_m I_m J_m) H → va_D A (wX11 g a_m I_m J_m) → va_S A s.heap H locs → ∀ ls : Array Slot, lv_has ls 6 [(3, .int v3_20), (2, .int v2_20), (1, .int v1_20), (0, .ref (a_m 0))] → W p l e (rm 2) s m args below meth c H locs 0 0 Q (F0 m 20 ls []) := by
      intro n_20
      induction n_20 with
      | zero =>
        intro v1_20 v2_20 v3_20 hv_20 hms_20 H locs hP hD hS ls hl
        exfalso; omega
      | succ n_20 ih_20 =>
        intro v1_20 v2_20 v3_20 hv_20 hms_20 H locs hP hD hS ls hl
        refine lv_iload_n hx hb dX11_frequent_20 rfl (lv_at hl 0 rfl) ?_
        refine lv_bipush (v := 26) hx hb dX11_frequent_21 (by decide) ?_
        refine q_icmp_gt (tgt := 115) hx hb dX11_frequent_23 (by decide) rfl (by decide : (26 : Int32).toInt = 26) (fun k_23 => ?_) (fun k_23 => ?_)
        · refine lv_iload_n hx hb dX11_frequent_115 rfl (lv_at hl 2 rfl) ?_
          refine lv_iconst (v := -1) hx hb dX11_frequent_116 (by decide) ?_
          refine q_icmp_ne (tgt := 129) hx hb dX11_frequent_117 (by decide) rfl (by decide : (-1 : Int32).toInt = -1) (fun k_117 => ?_) (fun k_117 => ?_)
          · refine lv_aload_n hx hb dX11_frequent_129 rfl (lv_at hl 3 rfl) ?_
            refine lv_iload_n hx hb dX11_frequent_130 rfl (lv_at hl 2 rfl) ?_
            refine EffI.cv (wr := ([])) (w' := fun u3 => wX11 g a_m u3 J_m) (As := [.int v1_20]) (kX11_gives l g a_m I_m J_m v1_20) fx (gUV (uT _) u_585 u_586 u_587 u_5 u_588) rfl hdX11_gives ⟨Nat.le_of_ble_eq_true rfl, Nat.le_of_ble_eq_true rfl⟩ hK hP hD hS hA [0, 1, 2, 3, 4, 5, 6, 7, 8, 9, 10, 11, 12, 13, 14, 15, 16, 17, 18, 19, 20, 21, 22] [] [0, 1, 2, 3, 4, 5, 6, 7, 8, 9, 10, 11, 12, 13, 14, 15, 16, 17, 18, 19, 20, 21, 22] rfl rfl rfl rfl (by decide) rfl (fun _ => rfl) rfl rfl rfl rfl hl.1 (Nat.le_of_ble_eq_true rfl) dX11_frequent_131 (fun r2 u3 H locs p_r2 hP hD hS => ?_)
            have hP : va_P g.1 vwCl (wX11 g a_m u3 J_m) H := hP
            have hD : va_D A (wX11 g a_m u3 J_m) := hD
            refine hret 134 ls r2 _ _ u3 dX11_frequent_134 hS hP hD ?_
            exact (KK.st (KK.rf I_m) p_r2.2 (by decide))
          · refine lv_aload_n hx hb dX11_frequent_120 rfl (lv_at hl 3 rfl) ?_
            refine lv_bipush (v := 6) hx hb dX11_frequent_121 (by decide) ?_
            refine EffI.cv (wr := ([])) (w' := fun u5 => wX11 g a_m u5 J_m) (As := [.int (6 : Int32)]) (kX11_refuse l g a_m I_m J_m (6 : Int32)) fx (gUV (uT _) u_536 u_537 u_538 u_5 u_539) rfl hdX11_refuse ⟨Nat.le_of_ble_eq_true rfl, Nat.le_of_ble_eq_true rfl⟩ hK hP hD hS hA [0, 1, 2, 3, 4, 5, 6, 7, 8, 9, 10, 11, 12, 13, 14, 15, 16, 17, 18, 19, 20, 21, 22] [] [0, 1, 2, 3, 4, 5, 6, 7, 8, 9, 10, 11, 12, 13, 14, 15, 16, 17, 18, 19, 20, 21, 22] rfl rfl rfl rfl (by decide) rfl (fun _ => rfl) rfl rfl rfl rfl hl.1 (Nat.le_of_ble_eq_true rfl) dX11_frequent_123 (fun r4 u5 H locs p_r4 hP hD hS => ?_)
            have hP : va_P g.1 vwCl (wX11 g a_m u5 J_m) H := hP
            have hD : va_D A (wX11 g a_m u5 J_m) := hD
            refine lv_goto (tgt := 134) hx hb dX11_frequent_126 (by decide) ?_
            refine hret 134 ls r4 _ _ u5 dX11_frequent_134 hS hP hD ?_
            exact (KK.st (KK.rf I_m) p_r4.2 (by decide))
        · refine lv_iconst (v := 0) hx hb dX11_frequent_26 (by decide) ?_
          refine lv_istore (lv' := [(4, .int (0 : Int32)), (3, .int v3_20), (2, .int v2_20), (1, .int v1_20), (0, .ref (a_m 0))]) hx hb dX11_frequent_27 hl (by decide) rfl (fun ls hl => ?_)
          refine lv_iconst (v := 0) hx hb dX11_frequent_29 (by decide) ?_
          refine lv_istore (lv' := [(5, .int (0 : Int32)), (4, .int (0 : Int32)), (3, .int v3_20), (2, .int v2_20), (1, .int v1_20), (0, .ref (a_m 0))]) hx hb dX11_frequent_30 hl (by decide) rfl (fun ls hl => ?_)
          have L32 : ∀ (nn : Nat) (v4_32 : Int32) (v5_32 : Int32), (hu_32 : 0 ≤ v5_32.toInt ∧ v5_32.toInt ≤ 300) → ((301 - v5_32.toInt) < (nn : Int)) → ∀ (H : Heap) (locs : List Loc), va_P g.1 vwCl (wX11 g a_m I_m J_m) H → va_D A (wX11 g a_m I_m J_m) → va_S A s.heap H locs → ∀ ls : Array Slot, lv_has ls 6 [(5, .int v5_32), (4, .int v4_32), (3, .int v3_20), (2, .int v2_20), (1, .int v1_20), (0, .ref (a_m 0))] → W p l e (rm 2) s m args below meth c H locs 0 0 Q (F0 m 32 ls []) := by
            intro n_32
            induction n_32 with
            | zero =>
              intro v4_32 v5_32 hu_32 hms_32 H locs hP hD hS ls hl
              exfalso; omega
            | succ n_32 ih_32 =>
              intro v4_32 v5_32 hu_32 hms_32 H locs hP hD hS ls hl
              refine lv_iload hx hb dX11_frequent_32 (lv_at hl 0 rfl) ?_
              refine lv_aload_n hx hb dX11_frequent_34 rfl (lv_at hl 5 rfl) ?_
              refine va_get (D := g.1) (ci := 11) (v := .ref (a_m 1)) (C := RX11) (T := TX11) (N := 46) hx hb hi_X11 (fun _ h => h) hown hK.1 hP 0 rfl rfl 0 (by decide) hf_7 (fun _ h9 => h9) rfl dX11_frequent_35 ?_
              refine lv_bipush (v := 7) hx hb dX11_frequent_38 (by decide) ?_
              have n_40 : vp_in (7 : Int32) 19800 := (t_in (by decide))
              refine va_iald hx hb hK.1 hP 1 0 rfl rfl n_40 dX11_frequent_40 ?_
              refine q_nm (fun x6 e_x6 => ?_)
              have e_x6 : x6 = (I_m 1) 7 := e_x6
              have g_x6 : x6.toInt = ((I_m 1) 7).toInt := congrArg _ e_x6
              have f_x6 := MI.bytes hM e_x6
              refine q_icmp_ge (tgt := 95) hx hb dX11_frequent_41 (by decide) rfl rfl (fun k_41 => ?_) (fun k_41 => ?_)
              · refine lv_iload hx hb dX11_frequent_95 (lv_at hl 1 rfl) ?_
                refine lv_iload_n hx hb dX11_frequent_97 rfl (lv_at hl 3 rfl) ?_
                refine q_icmp_gt (tgt := 104) hx hb dX11_frequent_98 (by decide) rfl rfl (fun k_98 => ?_) (fun k_98 => ?_)
                · refine lv_iload hx hb dX11_frequent_104 (lv_at hl 1 rfl) ?_
                  refine lv_istore_n (lv' := [(2, .int v4_32), (5, .int v5_32), (4, .int v4_32), (3, .int v3_20), (1, .int v1_20), (0, .ref (a_m 0))]) hx hb dX11_frequent_106 rfl hl (by decide) rfl (fun ls hl => ?_)
                  refine lv_iload_n hx hb dX11_frequent_107 rfl (lv_at hl 3 rfl) ?_
                  refine lv_istore_n (lv' := [(1, .int v3_20), (2, .int v4_32), (5, .int v5_32), (4, .int v4_32), (3, .int v3_20), (0, .ref (a_m 0))]) hx hb dX11_frequent_108 rfl hl (by decide) rfl (fun ls hl => ?_)
                  refine r_iinc (lv' := fun i7 => [(3, .int i7), (1, .int v3_20), (2, .int v4_32), (5, .int v5_32), (4, .int v4_32), (0, .ref (a_m 0))]) hx hb dX11_frequent_109 hl (k := 4) rfl (by decide) rfl (by decide) (fun _ => rfl) (fun i7 e_i7 t_i7 ls hl => ?_)
                  try have t_i7 := t_i7 (by omega)
                  refine lv_goto (tgt := 20) hx hb dX11_frequent_112 (by decide) ?_
                  exact ih_20 v3_20 v4_32 i7 (by omega) (by omega) _ _ hP hD hS ls (lv_sub hl [0, 2, 1, 5] rfl)
                · refine lv_goto (tgt := 109) hx hb dX11_frequent_101 (by decide) ?_
                  refine r_iinc (lv' := fun i8 => [(3, .int i8), (5, .int v5_32), (4, .int v4_32), (2, .int v2_20), (1, .int v1_20), (0, .ref (a_m 0))]) hx hb dX11_frequent_109 hl (k := 2) rfl (by decide) rfl (by decide) (fun _ => rfl) (fun i8 e_i8 t_i8 ls hl => ?_)
                  try have t_i8 := t_i8 (by omega)
                  refine lv_goto (tgt := 20) hx hb dX11_frequent_112 (by decide) ?_
                  exact ih_20 v1_20 v2_20 i8 (by omega) (by omega) _ _ hP hD hS ls (lv_sub hl [0, 3, 4, 5] rfl)
              · refine lv_iload hx hb dX11_frequent_44 (lv_at hl 1 rfl) ?_
                refine lv_aload_n hx hb dX11_frequent_46 rfl (lv_at hl 5 rfl) ?_
                refine va_get (D := g.1) (ci := 11) (v := .ref (a_m 1)) (C := RX11) (T := TX11) (N := 46) hx hb hi_X11 (fun _ h => h) hown hK.1 hP 0 rfl rfl 0 (by decide) hf_7 (fun _ h9 => h9) rfl dX11_frequent_47 ?_
                refine lv_sipush (v := 300) hx hb dX11_frequent_50 (by decide) ?_
                refine lv_iload hx hb dX11_frequent_53 (lv_at hl 0 rfl) ?_
                refine r_iadd hx hb dX11_frequent_55 (by decide : (300 : Int32).toInt = 300) rfl (fun x9 e_x9 t_x9 => ?_)
                try have t_x9 := t_x9 (by omega)
                have n_56 : vp_in x9 19800 := (t_in (by omega))
                refine va_iald hx hb hK.1 hP 1 0 rfl rfl n_56 dX11_frequent_56 ?_
                refine q_nm (fun x10 e_x10 => ?_)
                have e_x10 : x10 = (I_m 1) x9.toNatClampNeg := e_x10
                have g_x10 : x10.toInt = ((I_m 1) x9.toNatClampNeg).toInt := congrArg _ e_x10
                refine PurI.cs (C := RX11) (As := [.int x10]) (kX11_isLetter l g x10) fx (gUS (uT _) u_711 u_712 u_5 u_713) rfl hdX11_isLetter ⟨Nat.le_of_ble_eq_true rfl, Nat.le_of_ble_eq_true rfl⟩ hK hP [] rfl rfl rfl hl.1 (Nat.le_of_ble_eq_true rfl) dX11_frequent_57 (fun r11 p_r11 => ?_)
                refine q_if_eq (tgt := 85) hx hb dX11_frequent_60 (by decide) rfl (fun b_60 k_60 => ?_) (fun b_60 k_60 => ?_)
                · have q_60 := bP.f p_r11 b_60
                  refine lv_iconst (v := 0) hx hb dX11_frequent_85 (by decide) ?_
                  refine r_iadd hx hb dX11_frequent_86 rfl (by decide : (0 : Int32).toInt = 0) (fun x12 e_x12 t_x12 => ?_)
                  try have t_x12 := t_x12 (by omega)
                  refine lv_istore (lv' := [(4, .int x12), (5, .int v5_32), (3, .int v3_20), (2, .int v2_20), (1, .int v1_20), (0, .ref (a_m 0))]) hx hb dX11_frequent_87 hl (by decide) rfl (fun ls hl => ?_)
                  refine r_iinc (lv' := fun i13 => [(5, .int i13), (4, .int x12), (3, .int v3_20), (2, .int v2_20), (1, .int v1_20), (0, .ref (a_m 0))]) hx hb dX11_frequent_89 hl (k := 1) rfl (by decide) rfl (by decide) (fun _ => rfl) (fun i13 e_i13 t_i13 ls hl => ?_)
                  try have t_i13 := t_i13 (by omega)
                  refine lv_goto (tgt := 32) hx hb dX11_frequent_92 (by decide) ?_
                  exact ih_32 x12 i13 (by omega) (by omega) _ _ hP hD hS ls hl
                · have q_60 := bP.t p_r11 b_60
                  refine lv_aload_n hx hb dX11_frequent_63 rfl (lv_at hl 5 rfl) ?_
                  refine va_get (D := g.1) (ci := 11) (v := .ref (a_m 1)) (C := RX11) (T := TX11) (N := 46) hx hb hi_X11 (fun _ h => h) hown hK.1 hP 0 rfl rfl 0 (by decide) hf_7 (fun _ h9 => h9) rfl dX11_frequent_64 ?_
                  refine lv_sipush (v := 300) hx hb dX11_frequent_67 (by decide) ?_
                  refine lv_iload hx hb dX11_frequent_70 (lv_at hl 0 rfl) ?_
                  refine r_iadd hx hb dX11_frequent_72 (by decide : (300 : Int32).toInt = 300) rfl (fun x14 e_x14 t_x14 => ?_)
                  try have t_x14 := t_x14 (by omega)
                  have n_73 : vp_in x14 19800 := (t_in (by omega))
                  refine va_iald hx hb hK.1 hP 1 0 rfl rfl n_73 dX11_frequent_73 ?_
                  refine q_nm (fun x15 e_x15 => ?_)
                  have e_x15 : x15 = (I_m 1) x14.toNatClampNeg := e_x15
                  have g_x15 : x15.toInt = ((I_m 1) x14.toNatClampNeg).toInt := congrArg _ e_x15
                  refine PurI.cs (C := RX11) (As := [.int x15]) (kX11_letterOf l g x15) fx (gUS (uT _) u_747 u_748 u_5 u_749) rfl hdX11_letterOf ⟨Nat.le_of_ble_eq_true rfl, Nat.le_of_ble_eq_true rfl⟩ hK hP [] rfl rfl rfl hl.1 (Nat.le_of_ble_eq_true rfl) dX11_frequent_74 (fun r16 p_r16 => ?_)
                  refine lv_iload_n hx hb dX11_frequent_77 rfl (lv_at hl 2 rfl) ?_
                  refine q_icmp_ne (tgt := 85) hx hb dX11_frequent_78 (by decide) rfl rfl (fun k_78 => ?_) (fun k_78 => ?_)
                  · refine lv_iconst (v := 0) hx hb dX11_frequent_85 (by decide) ?_
                    refine r_iadd hx hb dX11_frequent_86 rfl (by decide : (0 : Int32).toInt = 0) (fun x17 e_x17 t_x17 => ?_)
                    try have t_x17 := t_x17 (by omega)
                    refine lv_istore (lv' := [(4, .int x17), (5, .int v5_32), (3, .int v3_20), (2, .int v2_20), (1, .int v1_20), (0, .ref (a_m 0))]) hx hb dX11_frequent_87 hl (by decide) rfl (fun ls hl => ?_)
                    refine r_iinc (lv' := fun i18 => [(5, .int i18), (4, .int x17), (3, .int v3_20), (2, .int v2_20), (1, .int v1_20), (0, .ref (a_m 0))]) hx hb dX11_frequent_89 hl (k := 1) rfl (by decide) rfl (by decide) (fun _ => rfl) (fun i18 e_i18 t_i18 ls hl => ?_)
                    try have t_i18 := t_i18 (by omega)
                    refine lv_goto (tgt := 32) hx hb dX11_frequent_92 (by decide) ?_
                    exact ih_32 x17 i18 (by omega) (by omega) _ _ hP hD hS ls hl
                  · refine lv_iconst (v := 1) hx hb dX11_frequent_81 (by decide) ?_
                    refine lv_goto (tgt := 86) hx hb dX11_frequent_82 (by decide) ?_
                    refine r_iadd hx hb dX11_frequent_86 rfl (by decide : (1 : Int32).toInt = 1) (fun x19 e_x19 t_x19 => ?_)
                    try have t_x19 := t_x19 (by omega)
                    refine lv_istore (lv' := [(4, .int x19), (5, .int v5_32), (3, .int v3_20), (2, .int v2_20), (1, .int v1_20), (0, .ref (a_m 0))]) hx hb dX11_frequent_87 hl (by decide) rfl (fun ls hl => ?_)
                    refine r_iinc (lv' := fun i20 => [(5, .int i20), (4, .int x19), (3, .int v3_20), (2, .int v2_20), (1, .int v1_20), (0, .ref (a_m 0))]) hx hb dX11_frequent_89 hl (k := 1) rfl (by decide) rfl (by decide) (fun _ => rfl) (fun i20 e_i20 t_i20 ls hl => ?_)
                    try have t_i20 := t_i20 (by omega)
                    refine lv_goto (tgt := 32) hx hb dX11_frequent_92 (by decide) ?_
                    exact ih_32 x19 i20 (by omega) (by omega) _ _ hP hD hS ls hl
          exact L32 ((301 - (0 : Int32).toInt) + 1).toNat (0 : Int32) (0 : Int32) (by omega) (by omega) _ _ hP hD hS ls hl
    exact L20 ((28 - (1 : Int32).toInt) + 1).toNat (-1 : Int32) (0 : Int32) (1 : Int32) (by omega) (by omega) _ _ hP hD hS ls hl
  · have q_4 := bP.f p_r1 b_4
    refine lv_aload_n hx hb dX11_frequent_7 rfl (lv_at hl 0 rfl) ?_
    refine lv_bipush (v := 6) hx hb dX11_frequent_8 (by decide) ?_
    refine EffI.cv (wr := ([])) (w' := fun u22 => wX11 g a_m u22 J_m) (As := [.int (6 : Int32)]) (kX11_refuse l g a_m I_m J_m (6 : Int32)) fx (gUV (uT _) u_536 u_537 u_538 u_5 u_539) rfl hdX11_refuse ⟨Nat.le_of_ble_eq_true rfl, Nat.le_of_ble_eq_true rfl⟩ hK hP hD hS hA [0, 1, 2, 3, 4, 5, 6, 7, 8, 9, 10, 11, 12, 13, 14, 15, 16, 17, 18, 19, 20, 21, 22] [] [0, 1, 2, 3, 4, 5, 6, 7, 8, 9, 10, 11, 12, 13, 14, 15, 16, 17, 18, 19, 20, 21, 22] rfl rfl rfl rfl (by decide) rfl (fun _ => rfl) rfl rfl rfl rfl hl.1 (Nat.le_of_ble_eq_true rfl) dX11_frequent_10 (fun r21 u22 H locs p_r21 hP hD hS => ?_)
    have hP : va_P g.1 vwCl (wX11 g a_m u22 J_m) H := hP
    have hD : va_D A (wX11 g a_m u22 J_m) := hD
    refine hret 13 ls r21 _ _ u22 dX11_frequent_13 hS hP hD ?_
    exact (KK.st (KK.rf I_m) p_r21.2 (by decide))

set_option maxHeartbeats 4000000 in
set_option maxRecDepth 100000 in
theorem kX11_signs (l : Launch) (g : gG) (a_m : Nat → Nat) (I_m : Nat → Nat → Int32) (J_m : Nat → Nat → Int64) (what : Int32) (hM : MI I_m) : EffI l g yX11_signs wsX11_signs 1 [.ref (a_m 0), .int what] (wX11 g a_m I_m J_m) (fun (u : (Nat → Nat → Int32)) => wX11 g a_m u J_m) (fun r (u : (Nat → Nat → Int32)) => KK [] [1] I_m (u)) := by
  refine EffI.st (cc := cX11_signs) (maxL := 6) (by decide) rfl (Nat.le_of_ble_eq_true rfl) (fun p e s m args below meth c A Q ls fx hK hP hD hA hS hl hret => ?_)
  have hx := fx.1
  have hb := fx.2.1
  have hml := fx.2.2.1
  have hown := fx.2.2.2.1
  have hts := fx.2.2.2.2
  have hl : lv_has ls 6 [(0, .ref (a_m 0)), (1, .int what)] := hl
  have hP : va_P g.1 vwCl (wX11 g a_m I_m J_m) s.heap := hP
  have hf_7 := hts _ (uT _ _ u_170)
  have hi_X11 : ∀ w ∈ wsX110, w.before args s = true := fun w h => hts w (uT _ w (u_wsX110 w h))
  have lm1 : (-1 : Int32).toInt = -1 := by decide
  have lm0 : (0 : Int32).toInt = 0 := by decide
  have lm2 : (1 : Int32).toInt = 1 := by decide
  have lq6 : (6 : Int32).toInt = 6 := by decide
  have lq7 : (7 : Int32).toInt = 7 := by decide
  have lq300 : (300 : Int32).toInt = 300 := by decide
  have lq1 : (1 : Int32).toInt = 1 := by decide
  refine lv_iload_n hx hb dX11_signs_0 rfl (lv_at hl 1 rfl) ?_
  refine q_if_lt (tgt := 9) hx hb dX11_signs_1 (by decide) rfl (fun k_1 => ?_) (fun k_1 => ?_)
  · refine lv_aload_n hx hb dX11_signs_9 rfl (lv_at hl 0 rfl) ?_
    refine lv_iconst (v := 1) hx hb dX11_signs_10 (by decide) ?_
    refine EffI.cv (wr := ([])) (w' := fun u2 => wX11 g a_m u2 J_m) (As := [.int (1 : Int32)]) (kX11_refuse l g a_m I_m J_m (1 : Int32)) fx (gUV (uT _) u_536 u_537 u_538 u_5 u_539) rfl hdX11_refuse ⟨Nat.le_of_ble_eq_true rfl, Nat.le_of_ble_eq_true rfl⟩ hK hP hD hS hA [0, 1, 2, 3, 4, 5, 6, 7, 8, 9, 10, 11, 12, 13, 14, 15, 16, 17, 18, 19, 20, 21, 22] [] [0, 1, 2, 3, 4, 5, 6, 7, 8, 9, 10, 11, 12, 13, 14, 15, 16, 17, 18, 19, 20, 21, 22] rfl rfl rfl rfl (by decide) rfl (fun _ => rfl) rfl rfl rfl rfl hl.1 (Nat.le_of_ble_eq_true rfl) dX11_signs_11 (fun r1 u2 H locs p_r1 hP hD hS => ?_)
    have hP : va_P g.1 vwCl (wX11 g a_m u2 J_m) H := hP
    have hD : va_D A (wX11 g a_m u2 J_m) := hD
    refine hret 14 ls r1 _ _ u2 dX11_signs_14 hS hP hD ?_
    exact (KK.st (KK.rf I_m) p_r1.2 (by decide))
  · refine lv_iload_n hx hb dX11_signs_4 rfl (lv_at hl 1 rfl) ?_
    refine lv_iconst (v := 1) hx hb dX11_signs_5 (by decide) ?_
    refine q_icmp_le (tgt := 15) hx hb dX11_signs_6 (by decide) rfl (by decide : (1 : Int32).toInt = 1) (fun k_6 => ?_) (fun k_6 => ?_)
    · refine lv_aload_n hx hb dX11_signs_15 rfl (lv_at hl 0 rfl) ?_
      refine PurI.cv (As := []) (kX11_isSet l g a_m I_m J_m hM) fx (gUV (uT _) u_856 u_857 u_858 u_5 u_859) rfl hdX11_isSet ⟨Nat.le_of_ble_eq_true rfl, Nat.le_of_ble_eq_true rfl⟩ hK hP [0, 1, 2, 3, 4, 5, 6, 7, 8, 9, 10, 11, 12, 13, 14, 15, 16, 17, 18, 19, 20, 21, 22] rfl rfl rfl rfl rfl hl.1 (Nat.le_of_ble_eq_true rfl) dX11_signs_16 (fun r3 p_r3 => ?_)
      refine q_if_ne (tgt := 29) hx hb dX11_signs_19 (by decide) rfl (fun b_19 k_19 => ?_) (fun b_19 k_19 => ?_)
      · have q_19 := bP.t p_r3 b_19
        refine lv_iconst (v := 0) hx hb dX11_signs_29 (by decide) ?_
        refine lv_istore_n (lv' := [(2, .int (0 : Int32)), (0, .ref (a_m 0)), (1, .int what)]) hx hb dX11_signs_30 rfl hl (by decide) rfl (fun ls hl => ?_)
        refine lv_iconst (v := 0) hx hb dX11_signs_31 (by decide) ?_
        refine lv_istore_n (lv' := [(3, .int (0 : Int32)), (2, .int (0 : Int32)), (0, .ref (a_m 0)), (1, .int what)]) hx hb dX11_signs_32 rfl hl (by decide) rfl (fun ls hl => ?_)
        have L33 : ∀ (nn : Nat) (v2_33 : Int32) (v3_33 : Int32), (hv_33 : 0 ≤ v3_33.toInt ∧ v3_33.toInt ≤ 300) → ((301 - v3_33.toInt) < (nn : Int)) → ∀ (H : Heap) (locs : List Loc), va_P g.1 vwCl (wX11 g a_m I_m J_m) H → va_D A (wX11 g a_m I_m J_m) → va_S A s.heap H locs → ∀ ls : Array Slot, lv_has ls 6 [(3, .int v3_33), (2, .int v2_33), (0, .ref (a_m 0)), (1, .int what)] → W p l e (rm 1) s m args below meth c H locs 0 0 Q (F0 m 33 ls []) := by
          intro n_33
          induction n_33 with
          | zero =>
            intro v2_33 v3_33 hv_33 hms_33 H locs hP hD hS ls hl
            exfalso; omega
          | succ n_33 ih_33 =>
            intro v2_33 v3_33 hv_33 hms_33 H locs hP hD hS ls hl
            refine lv_iload_n hx hb dX11_signs_33 rfl (lv_at hl 0 rfl) ?_
            refine lv_aload_n hx hb dX11_signs_34 rfl (lv_at hl 2 rfl) ?_
            refine va_get (D := g.1) (ci := 11) (v := .ref (a_m 1)) (C := RX11) (T := TX11) (N := 46) hx hb hi_X11 (fun _ h => h) hown hK.1 hP 0 rfl rfl 0 (by decide) hf_7 (fun _ h9 => h9) rfl dX11_signs_35 ?_
            refine lv_bipush (v := 7) hx hb dX11_signs_38 (by decide) ?_
            have n_40 : vp_in (7 : Int32) 19800 := (t_in (by decide))
            refine va_iald hx hb hK.1 hP 1 0 rfl rfl n_40 dX11_signs_40 ?_
            refine q_nm (fun x4 e_x4 => ?_)
            have e_x4 : x4 = (I_m 1) 7 := e_x4
            have g_x4 : x4.toInt = ((I_m 1) 7).toInt := congrArg _ e_x4
            have f_x4 := MI.bytes hM e_x4
            refine q_icmp_ge (tgt := 129) hx hb dX11_signs_41 (by decide) rfl rfl (fun k_41 => ?_) (fun k_41 => ?_)
            · refine lv_aload_n hx hb dX11_signs_129 rfl (lv_at hl 2 rfl) ?_
              refine lv_iload_n hx hb dX11_signs_130 rfl (lv_at hl 1 rfl) ?_
              refine EffI.cv (wr := ([])) (w' := fun u6 => wX11 g a_m u6 J_m) (As := [.int v2_33]) (kX11_gives l g a_m I_m J_m v2_33) fx (gUV (uT _) u_585 u_586 u_587 u_5 u_588) rfl hdX11_gives ⟨Nat.le_of_ble_eq_true rfl, Nat.le_of_ble_eq_true rfl⟩ hK hP hD hS hA [0, 1, 2, 3, 4, 5, 6, 7, 8, 9, 10, 11, 12, 13, 14, 15, 16, 17, 18, 19, 20, 21, 22] [] [0, 1, 2, 3, 4, 5, 6, 7, 8, 9, 10, 11, 12, 13, 14, 15, 16, 17, 18, 19, 20, 21, 22] rfl rfl rfl rfl (by decide) rfl (fun _ => rfl) rfl rfl rfl rfl hl.1 (Nat.le_of_ble_eq_true rfl) dX11_signs_131 (fun r5 u6 H locs p_r5 hP hD hS => ?_)
              have hP : va_P g.1 vwCl (wX11 g a_m u6 J_m) H := hP
              have hD : va_D A (wX11 g a_m u6 J_m) := hD
              refine hret 134 ls r5 _ _ u6 dX11_signs_134 hS hP hD ?_
              exact (KK.st (KK.rf I_m) p_r5.2 (by decide))
            · refine lv_aload_n hx hb dX11_signs_44 rfl (lv_at hl 2 rfl) ?_
              refine va_get (D := g.1) (ci := 11) (v := .ref (a_m 1)) (C := RX11) (T := TX11) (N := 46) hx hb hi_X11 (fun _ h => h) hown hK.1 hP 0 rfl rfl 0 (by decide) hf_7 (fun _ h9 => h9) rfl dX11_signs_45 ?_
              refine lv_sipush (v := 300) hx hb dX11_signs_48 (by decide) ?_
              refine lv_iload_n hx hb dX11_signs_51 rfl (lv_at hl 0 rfl) ?_
              refine r_iadd hx hb dX11_signs_52 (by decide : (300 : Int32).toInt = 300) rfl (fun x7 e_x7 t_x7 => ?_)
              try have t_x7 := t_x7 (by omega)
              have n_53 : vp_in x7 19800 := (t_in (by omega))
              refine va_iald hx hb hK.1 hP 1 0 rfl rfl n_53 dX11_signs_53 ?_
              refine q_nm (fun x8 e_x8 => ?_)
              have e_x8 : x8 = (I_m 1) x7.toNatClampNeg := e_x8
              have g_x8 : x8.toInt = ((I_m 1) x7.toNatClampNeg).toInt := congrArg _ e_x8
              refine lv_istore (lv' := [(4, .int x8), (3, .int v3_33), (2, .int v2_33), (0, .ref (a_m 0)), (1, .int what)]) hx hb dX11_signs_54 hl (by decide) rfl (fun ls hl => ?_)
              refine lv_iload_n hx hb dX11_signs_56 rfl (lv_at hl 1 rfl) ?_
              refine q_if_eq (tgt := 78) hx hb dX11_signs_57 (by decide) rfl (fun b_57 k_57 => ?_) (fun b_57 k_57 => ?_)
              · refine lv_iconst (v := 1) hx hb dX11_signs_78 (by decide) ?_
                refine lv_goto (tgt := 83) hx hb dX11_signs_79 (by decide) ?_
                refine lv_istore (lv' := [(5, .int (1 : Int32)), (4, .int x8), (3, .int v3_33), (2, .int v2_33), (0, .ref (a_m 0)), (1, .int what)]) hx hb dX11_signs_83 hl (by decide) rfl (fun ls hl => ?_)
                refine lv_iload_n hx hb dX11_signs_85 rfl (lv_at hl 3 rfl) ?_
                refine lv_iload_n hx hb dX11_signs_86 rfl (lv_at hl 5 rfl) ?_
                refine q_if_ne (tgt := 98) hx hb dX11_signs_87 (by decide) rfl (fun b_87 k_87 => ?_) (fun b_87 k_87 => ?_)
                · refine lv_iload_n hx hb dX11_signs_98 rfl (lv_at hl 5 rfl) ?_
                  refine lv_iconst (v := 1) hx hb dX11_signs_99 (by decide) ?_
                  refine q_icmp_ne (tgt := 120) hx hb dX11_signs_100 (by decide) rfl (by decide : (1 : Int32).toInt = 1) (fun k_100 => ?_) (fun k_100 => ?_)
                  · refine lv_iconst (v := 0) hx hb dX11_signs_120 (by decide) ?_
                    refine r_iadd hx hb dX11_signs_121 rfl (by decide : (0 : Int32).toInt = 0) (fun x9 e_x9 t_x9 => ?_)
                    try have t_x9 := t_x9 (by omega)
                    refine lv_istore_n (lv' := [(2, .int x9), (5, .int (1 : Int32)), (4, .int x8), (3, .int v3_33), (0, .ref (a_m 0)), (1, .int what)]) hx hb dX11_signs_122 rfl hl (by decide) rfl (fun ls hl => ?_)
                    refine r_iinc (lv' := fun i10 => [(3, .int i10), (2, .int x9), (5, .int (1 : Int32)), (4, .int x8), (0, .ref (a_m 0)), (1, .int what)]) hx hb dX11_signs_123 hl (k := 3) rfl (by decide) rfl (by decide) (fun _ => rfl) (fun i10 e_i10 t_i10 ls hl => ?_)
                    try have t_i10 := t_i10 (by omega)
                    refine lv_goto (tgt := 33) hx hb dX11_signs_126 (by decide) ?_
                    exact ih_33 x9 i10 (by omega) (by omega) _ _ hP hD hS ls (lv_sub hl [0, 1, 4, 5] rfl)
                  · refine lv_iload hx hb dX11_signs_103 (lv_at hl 1 rfl) ?_
                    refine PurI.cs (C := RX11) (As := [.int x8]) (kX11_isDigit0 l g x8) fx (gUS (uT _) u_717 u_718 u_5 u_719) rfl hdX11_isDigit0 ⟨Nat.le_of_ble_eq_true rfl, Nat.le_of_ble_eq_true rfl⟩ hK hP [] rfl rfl rfl hl.1 (Nat.le_of_ble_eq_true rfl) dX11_signs_105 (fun r11 p_r11 => ?_)
                    refine q_if_eq (tgt := 120) hx hb dX11_signs_108 (by decide) rfl (fun b_108 k_108 => ?_) (fun b_108 k_108 => ?_)
                    · have q_108 := bP.f p_r11 b_108
                      refine lv_iconst (v := 0) hx hb dX11_signs_120 (by decide) ?_
                      refine r_iadd hx hb dX11_signs_121 rfl (by decide : (0 : Int32).toInt = 0) (fun x12 e_x12 t_x12 => ?_)
                      try have t_x12 := t_x12 (by omega)
                      refine lv_istore_n (lv' := [(2, .int x12), (5, .int (1 : Int32)), (4, .int x8), (3, .int v3_33), (0, .ref (a_m 0)), (1, .int what)]) hx hb dX11_signs_122 rfl hl (by decide) rfl (fun ls hl => ?_)
                      refine r_iinc (lv' := fun i13 => [(3, .int i13), (2, .int x12), (5, .int (1 : Int32)), (4, .int x8), (0, .ref (a_m 0)), (1, .int what)]) hx hb dX11_signs_123 hl (k := 3) rfl (by decide) rfl (by decide) (fun _ => rfl) (fun i13 e_i13 t_i13 ls hl => ?_)
                      try have t_i13 := t_i13 (by omega)
                      refine lv_goto (tgt := 33) hx hb dX11_signs_126 (by decide) ?_
                      exact ih_33 x12 i13 (by omega) (by omega) _ _ hP hD hS ls (lv_sub hl [0, 1, 4, 5] rfl)
                    · have q_108 := bP.t p_r11 b_108
                      refine lv_iload hx hb dX11_signs_111 (lv_at hl 0 rfl) ?_
                      refine q_if_eq (tgt := 120) hx hb dX11_signs_113 (by decide) (by decide : (1 : Int32).toInt = 1) (fun b_113 k_113 => ?_) (fun b_113 k_113 => ?_)
                      · exfalso
                        omega
                      · refine lv_iconst (v := 1) hx hb dX11_signs_116 (by decide) ?_
                        refine lv_goto (tgt := 121) hx hb dX11_signs_117 (by decide) ?_
                        refine r_iadd hx hb dX11_signs_121 rfl (by decide : (1 : Int32).toInt = 1) (fun x14 e_x14 t_x14 => ?_)
                        try have t_x14 := t_x14 (by omega)
                        refine lv_istore_n (lv' := [(2, .int x14), (5, .int (1 : Int32)), (4, .int x8), (3, .int v3_33), (0, .ref (a_m 0)), (1, .int what)]) hx hb dX11_signs_122 rfl hl (by decide) rfl (fun ls hl => ?_)
                        refine r_iinc (lv' := fun i15 => [(3, .int i15), (2, .int x14), (5, .int (1 : Int32)), (4, .int x8), (0, .ref (a_m 0)), (1, .int what)]) hx hb dX11_signs_123 hl (k := 3) rfl (by decide) rfl (by decide) (fun _ => rfl) (fun i15 e_i15 t_i15 ls hl => ?_)
                        try have t_i15 := t_i15 (by omega)
                        refine lv_goto (tgt := 33) hx hb dX11_signs_126 (by decide) ?_
                        exact ih_33 x14 i15 (by omega) (by omega) _ _ hP hD hS ls (lv_sub hl [0, 1, 4, 5] rfl)
                · refine lv_iload hx hb dX11_signs_90 (lv_at hl 1 rfl) ?_
                  refine PurI.cs (C := RX11) (As := [.int x8]) (kX11_isGreat l g x8) fx (gUS (uT _) u_714 u_715 u_5 u_716) rfl hdX11_isGreat ⟨Nat.le_of_ble_eq_true rfl, Nat.le_of_ble_eq_true rfl⟩ hK hP [] rfl rfl rfl hl.1 (Nat.le_of_ble_eq_true rfl) dX11_signs_92 (fun r16 p_r16 => ?_)
                  refine q_if_ne (tgt := 116) hx hb dX11_signs_95 (by decide) rfl (fun b_95 k_95 => ?_) (fun b_95 k_95 => ?_)
                  · have q_95 := bP.t p_r16 b_95
                    refine lv_iconst (v := 1) hx hb dX11_signs_116 (by decide) ?_
                    refine lv_goto (tgt := 121) hx hb dX11_signs_117 (by decide) ?_
                    refine r_iadd hx hb dX11_signs_121 rfl (by decide : (1 : Int32).toInt = 1) (fun x17 e_x17 t_x17 => ?_)
                    try have t_x17 := t_x17 (by omega)
                    refine lv_istore_n (lv' := [(2, .int x17), (5, .int (1 : Int32)), (4, .int x8), (3, .int v3_33), (0, .ref (a_m 0)), (1, .int what)]) hx hb dX11_signs_122 rfl hl (by decide) rfl (fun ls hl => ?_)
                    refine r_iinc (lv' := fun i18 => [(3, .int i18), (2, .int x17), (5, .int (1 : Int32)), (4, .int x8), (0, .ref (a_m 0)), (1, .int what)]) hx hb dX11_signs_123 hl (k := 3) rfl (by decide) rfl (by decide) (fun _ => rfl) (fun i18 e_i18 t_i18 ls hl => ?_)
                    try have t_i18 := t_i18 (by omega)
                    refine lv_goto (tgt := 33) hx hb dX11_signs_126 (by decide) ?_
                    exact ih_33 x17 i18 (by omega) (by omega) _ _ hP hD hS ls (lv_sub hl [0, 1, 4, 5] rfl)
                  · have q_95 := bP.f p_r16 b_95
                    refine lv_iload_n hx hb dX11_signs_98 rfl (lv_at hl 5 rfl) ?_
                    refine lv_iconst (v := 1) hx hb dX11_signs_99 (by decide) ?_
                    refine q_icmp_ne (tgt := 120) hx hb dX11_signs_100 (by decide) rfl (by decide : (1 : Int32).toInt = 1) (fun k_100 => ?_) (fun k_100 => ?_)
                    · refine lv_iconst (v := 0) hx hb dX11_signs_120 (by decide) ?_
                      refine r_iadd hx hb dX11_signs_121 rfl (by decide : (0 : Int32).toInt = 0) (fun x19 e_x19 t_x19 => ?_)
                      try have t_x19 := t_x19 (by omega)
                      refine lv_istore_n (lv' := [(2, .int x19), (5, .int (1 : Int32)), (4, .int x8), (3, .int v3_33), (0, .ref (a_m 0)), (1, .int what)]) hx hb dX11_signs_122 rfl hl (by decide) rfl (fun ls hl => ?_)
                      refine r_iinc (lv' := fun i20 => [(3, .int i20), (2, .int x19), (5, .int (1 : Int32)), (4, .int x8), (0, .ref (a_m 0)), (1, .int what)]) hx hb dX11_signs_123 hl (k := 3) rfl (by decide) rfl (by decide) (fun _ => rfl) (fun i20 e_i20 t_i20 ls hl => ?_)
                      try have t_i20 := t_i20 (by omega)
                      refine lv_goto (tgt := 33) hx hb dX11_signs_126 (by decide) ?_
                      exact ih_33 x19 i20 (by omega) (by omega) _ _ hP hD hS ls (lv_sub hl [0, 1, 4, 5] rfl)
                    · refine lv_iload hx hb dX11_signs_103 (lv_at hl 1 rfl) ?_
                      refine PurI.cs (C := RX11) (As := [.int x8]) (kX11_isDigit0 l g x8) fx (gUS (uT _) u_717 u_718 u_5 u_719) rfl hdX11_isDigit0 ⟨Nat.le_of_ble_eq_true rfl, Nat.le_of_ble_eq_true rfl⟩ hK hP [] rfl rfl rfl hl.1 (Nat.le_of_ble_eq_true rfl) dX11_signs_105 (fun r21 p_r21 => ?_)
                      refine q_if_eq (tgt := 120) hx hb dX11_signs_108 (by decide) rfl (fun b_108 k_108 => ?_) (fun b_108 k_108 => ?_)
                      · have q_108 := bP.f p_r21 b_108
                        refine lv_iconst (v := 0) hx hb dX11_signs_120 (by decide) ?_
                        refine r_iadd hx hb dX11_signs_121 rfl (by decide : (0 : Int32).toInt = 0) (fun x22 e_x22 t_x22 => ?_)
                        try have t_x22 := t_x22 (by omega)
                        refine lv_istore_n (lv' := [(2, .int x22), (5, .int (1 : Int32)), (4, .int x8), (3, .int v3_33), (0, .ref (a_m 0)), (1, .int what)]) hx hb dX11_signs_122 rfl hl (by decide) rfl (fun ls hl => ?_)
                        refine r_iinc (lv' := fun i23 => [(3, .int i23), (2, .int x22), (5, .int (1 : Int32)), (4, .int x8), (0, .ref (a_m 0)), (1, .int what)]) hx hb dX11_signs_123 hl (k := 3) rfl (by decide) rfl (by decide) (fun _ => rfl) (fun i23 e_i23 t_i23 ls hl => ?_)
                        try have t_i23 := t_i23 (by omega)
                        refine lv_goto (tgt := 33) hx hb dX11_signs_126 (by decide) ?_
                        exact ih_33 x22 i23 (by omega) (by omega) _ _ hP hD hS ls (lv_sub hl [0, 1, 4, 5] rfl)
                      · have q_108 := bP.t p_r21 b_108
                        refine lv_iload hx hb dX11_signs_111 (lv_at hl 0 rfl) ?_
                        refine q_if_eq (tgt := 120) hx hb dX11_signs_113 (by decide) (by decide : (1 : Int32).toInt = 1) (fun b_113 k_113 => ?_) (fun b_113 k_113 => ?_)
                        · exfalso
                          omega
                        · refine lv_iconst (v := 1) hx hb dX11_signs_116 (by decide) ?_
                          refine lv_goto (tgt := 121) hx hb dX11_signs_117 (by decide) ?_
                          refine r_iadd hx hb dX11_signs_121 rfl (by decide : (1 : Int32).toInt = 1) (fun x24 e_x24 t_x24 => ?_)
                          try have t_x24 := t_x24 (by omega)
                          refine lv_istore_n (lv' := [(2, .int x24), (5, .int (1 : Int32)), (4, .int x8), (3, .int v3_33), (0, .ref (a_m 0)), (1, .int what)]) hx hb dX11_signs_122 rfl hl (by decide) rfl (fun ls hl => ?_)
                          refine r_iinc (lv' := fun i25 => [(3, .int i25), (2, .int x24), (5, .int (1 : Int32)), (4, .int x8), (0, .ref (a_m 0)), (1, .int what)]) hx hb dX11_signs_123 hl (k := 3) rfl (by decide) rfl (by decide) (fun _ => rfl) (fun i25 e_i25 t_i25 ls hl => ?_)
                          try have t_i25 := t_i25 (by omega)
                          refine lv_goto (tgt := 33) hx hb dX11_signs_126 (by decide) ?_
                          exact ih_33 x24 i25 (by omega) (by omega) _ _ hP hD hS ls (lv_sub hl [0, 1, 4, 5] rfl)
              · refine lv_aload_n hx hb dX11_signs_60 rfl (lv_at hl 3 rfl) ?_
                refine va_get (D := g.1) (ci := 11) (v := .ref (a_m 1)) (C := RX11) (T := TX11) (N := 46) hx hb hi_X11 (fun _ h => h) hown hK.1 hP 0 rfl rfl 0 (by decide) hf_7 (fun _ h9 => h9) rfl dX11_signs_61 ?_
                refine lv_sipush (v := 300) hx hb dX11_signs_64 (by decide) ?_
                refine lv_iload_n hx hb dX11_signs_67 rfl (lv_at hl 1 rfl) ?_
                refine r_iadd hx hb dX11_signs_68 (by decide : (300 : Int32).toInt = 300) rfl (fun x26 e_x26 t_x26 => ?_)
                try have t_x26 := t_x26 (by omega)
                refine lv_iconst (v := 1) hx hb dX11_signs_69 (by decide) ?_
                refine r_isub hx hb dX11_signs_70 rfl (by decide : (1 : Int32).toInt = 1) (fun x27 e_x27 t_x27 => ?_)
                try have t_x27 := t_x27 (by omega)
                have n_71 : vp_in x27 19800 := (t_in (by omega))
                refine va_iald hx hb hK.1 hP 1 0 rfl rfl n_71 dX11_signs_71 ?_
                refine q_nm (fun x28 e_x28 => ?_)
                have e_x28 : x28 = (I_m 1) x27.toNatClampNeg := e_x28
                have g_x28 : x28.toInt = ((I_m 1) x27.toNatClampNeg).toInt := congrArg _ e_x28
                refine PurI.cs (C := RX11) (As := [.int x28]) (kX11_isDigit0 l g x28) fx (gUS (uT _) u_717 u_718 u_5 u_719) rfl hdX11_isDigit0 ⟨Nat.le_of_ble_eq_true rfl, Nat.le_of_ble_eq_true rfl⟩ hK hP [] rfl rfl rfl hl.1 (Nat.le_of_ble_eq_true rfl) dX11_signs_72 (fun r29 p_r29 => ?_)
                refine q_if_ne (tgt := 82) hx hb dX11_signs_75 (by decide) rfl (fun b_75 k_75 => ?_) (fun b_75 k_75 => ?_)
                · have q_75 := bP.t p_r29 b_75
                  refine lv_iconst (v := 0) hx hb dX11_signs_82 (by decide) ?_
                  refine lv_istore (lv' := [(5, .int (0 : Int32)), (4, .int x8), (3, .int v3_33), (2, .int v2_33), (0, .ref (a_m 0)), (1, .int what)]) hx hb dX11_signs_83 hl (by decide) rfl (fun ls hl => ?_)
                  refine lv_iload_n hx hb dX11_signs_85 rfl (lv_at hl 3 rfl) ?_
                  refine lv_iload_n hx hb dX11_signs_86 rfl (lv_at hl 5 rfl) ?_
                  refine q_if_ne (tgt := 98) hx hb dX11_signs_87 (by decide) rfl (fun b_87 k_87 => ?_) (fun b_87 k_87 => ?_)
                  · refine lv_iload_n hx hb dX11_signs_98 rfl (lv_at hl 5 rfl) ?_
                    refine lv_iconst (v := 1) hx hb dX11_signs_99 (by decide) ?_
                    refine q_icmp_ne (tgt := 120) hx hb dX11_signs_100 (by decide) rfl (by decide : (1 : Int32).toInt = 1) (fun k_100 => ?_) (fun k_100 => ?_)
                    · refine lv_iconst (v := 0) hx hb dX11_signs_120 (by decide) ?_
                      refine r_iadd hx hb dX11_signs_121 rfl (by decide : (0 : Int32).toInt = 0) (fun x30 e_x30 t_x30 => ?_)
                      try have t_x30 := t_x30 (by omega)
                      refine lv_istore_n (lv' := [(2, .int x30), (5, .int (0 : Int32)), (4, .int x8), (3, .int v3_33), (0, .ref (a_m 0)), (1, .int what)]) hx hb dX11_signs_122 rfl hl (by decide) rfl (fun ls hl => ?_)
                      refine r_iinc (lv' := fun i31 => [(3, .int i31), (2, .int x30), (5, .int (0 : Int32)), (4, .int x8), (0, .ref (a_m 0)), (1, .int what)]) hx hb dX11_signs_123 hl (k := 3) rfl (by decide) rfl (by decide) (fun _ => rfl) (fun i31 e_i31 t_i31 ls hl => ?_)
                      try have t_i31 := t_i31 (by omega)
                      refine lv_goto (tgt := 33) hx hb dX11_signs_126 (by decide) ?_
                      exact ih_33 x30 i31 (by omega) (by omega) _ _ hP hD hS ls (lv_sub hl [0, 1, 4, 5] rfl)
                    · refine lv_iload hx hb dX11_signs_103 (lv_at hl 1 rfl) ?_
                      refine PurI.cs (C := RX11) (As := [.int x8]) (kX11_isDigit0 l g x8) fx (gUS (uT _) u_717 u_718 u_5 u_719) rfl hdX11_isDigit0 ⟨Nat.le_of_ble_eq_true rfl, Nat.le_of_ble_eq_true rfl⟩ hK hP [] rfl rfl rfl hl.1 (Nat.le_of_ble_eq_true rfl) dX11_signs_105 (fun r32 p_r32 => ?_)
                      refine q_if_eq (tgt := 120) hx hb dX11_signs_108 (by decide) rfl (fun b_108 k_108 => ?_) (fun b_108 k_108 => ?_)
                      · have q_108 := bP.f p_r32 b_108
                        refine lv_iconst (v := 0) hx hb dX11_signs_120 (by decide) ?_
                        refine r_iadd hx hb dX11_signs_121 rfl (by decide : (0 : Int32).toInt = 0) (fun x33 e_x33 t_x33 => ?_)
                        try have t_x33 := t_x33 (by omega)
                        refine lv_istore_n (lv' := [(2, .int x33), (5, .int (0 : Int32)), (4, .int x8), (3, .int v3_33), (0, .ref (a_m 0)), (1, .int what)]) hx hb dX11_signs_122 rfl hl (by decide) rfl (fun ls hl => ?_)
                        refine r_iinc (lv' := fun i34 => [(3, .int i34), (2, .int x33), (5, .int (0 : Int32)), (4, .int x8), (0, .ref (a_m 0)), (1, .int what)]) hx hb dX11_signs_123 hl (k := 3) rfl (by decide) rfl (by decide) (fun _ => rfl) (fun i34 e_i34 t_i34 ls hl => ?_)
                        try have t_i34 := t_i34 (by omega)
                        refine lv_goto (tgt := 33) hx hb dX11_signs_126 (by decide) ?_
                        exact ih_33 x33 i34 (by omega) (by omega) _ _ hP hD hS ls (lv_sub hl [0, 1, 4, 5] rfl)
                      · have q_108 := bP.t p_r32 b_108
                        refine lv_iload hx hb dX11_signs_111 (lv_at hl 0 rfl) ?_
                        refine q_if_eq (tgt := 120) hx hb dX11_signs_113 (by decide) (by decide : (0 : Int32).toInt = 0) (fun b_113 k_113 => ?_) (fun b_113 k_113 => ?_)
                        · refine lv_iconst (v := 0) hx hb dX11_signs_120 (by decide) ?_
                          refine r_iadd hx hb dX11_signs_121 rfl (by decide : (0 : Int32).toInt = 0) (fun x35 e_x35 t_x35 => ?_)
                          try have t_x35 := t_x35 (by omega)
                          refine lv_istore_n (lv' := [(2, .int x35), (5, .int (0 : Int32)), (4, .int x8), (3, .int v3_33), (0, .ref (a_m 0)), (1, .int what)]) hx hb dX11_signs_122 rfl hl (by decide) rfl (fun ls hl => ?_)
                          refine r_iinc (lv' := fun i36 => [(3, .int i36), (2, .int x35), (5, .int (0 : Int32)), (4, .int x8), (0, .ref (a_m 0)), (1, .int what)]) hx hb dX11_signs_123 hl (k := 3) rfl (by decide) rfl (by decide) (fun _ => rfl) (fun i36 e_i36 t_i36 ls hl => ?_)
                          try have t_i36 := t_i36 (by omega)
                          refine lv_goto (tgt := 33) hx hb dX11_signs_126 (by decide) ?_
                          exact ih_33 x35 i36 (by omega) (by omega) _ _ hP hD hS ls (lv_sub hl [0, 1, 4, 5] rfl)
                        · exfalso
                          omega
                  · refine lv_iload hx hb dX11_signs_90 (lv_at hl 1 rfl) ?_
                    refine PurI.cs (C := RX11) (As := [.int x8]) (kX11_isGreat l g x8) fx (gUS (uT _) u_714 u_715 u_5 u_716) rfl hdX11_isGreat ⟨Nat.le_of_ble_eq_true rfl, Nat.le_of_ble_eq_true rfl⟩ hK hP [] rfl rfl rfl hl.1 (Nat.le_of_ble_eq_true rfl) dX11_signs_92 (fun r37 p_r37 => ?_)
                    refine q_if_ne (tgt := 116) hx hb dX11_signs_95 (by decide) rfl (fun b_95 k_95 => ?_) (fun b_95 k_95 => ?_)
                    · have q_95 := bP.t p_r37 b_95
                      refine lv_iconst (v := 1) hx hb dX11_signs_116 (by decide) ?_
                      refine lv_goto (tgt := 121) hx hb dX11_signs_117 (by decide) ?_
                      refine r_iadd hx hb dX11_signs_121 rfl (by decide : (1 : Int32).toInt = 1) (fun x38 e_x38 t_x38 => ?_)
                      try have t_x38 := t_x38 (by omega)
                      refine lv_istore_n (lv' := [(2, .int x38), (5, .int (0 : Int32)), (4, .int x8), (3, .int v3_33), (0, .ref (a_m 0)), (1, .int what)]) hx hb dX11_signs_122 rfl hl (by decide) rfl (fun ls hl => ?_)
                      refine r_iinc (lv' := fun i39 => [(3, .int i39), (2, .int x38), (5, .int (0 : Int32)), (4, .int x8), (0, .ref (a_m 0)), (1, .int what)]) hx hb dX11_signs_123 hl (k := 3) rfl (by decide) rfl (by decide) (fun _ => rfl) (fun i39 e_i39 t_i39 ls hl => ?_)
                      try have t_i39 := t_i39 (by omega)
                      refine lv_goto (tgt := 33) hx hb dX11_signs_126 (by decide) ?_
                      exact ih_33 x38 i39 (by omega) (by omega) _ _ hP hD hS ls (lv_sub hl [0, 1, 4, 5] rfl)
                    · have q_95 := bP.f p_r37 b_95
                      refine lv_iload_n hx hb dX11_signs_98 rfl (lv_at hl 5 rfl) ?_
                      refine lv_iconst (v := 1) hx hb dX11_signs_99 (by decide) ?_
                      refine q_icmp_ne (tgt := 120) hx hb dX11_signs_100 (by decide) rfl (by decide : (1 : Int32).toInt = 1) (fun k_100 => ?_) (fun k_100 => ?_)
                      · refine lv_iconst (v := 0) hx hb dX11_signs_120 (by decide) ?_
                        refine r_iadd hx hb dX11_signs_121 rfl (by decide : (0 : Int32).toInt = 0) (fun x40 e_x40 t_x40 => ?_)
                        try have t_x40 := t_x40 (by omega)
                        refine lv_istore_n (lv' := [(2, .int x40), (5, .int (0 : Int32)), (4, .int x8), (3, .int v3_33), (0, .ref (a_m 0)), (1, .int what)]) hx hb dX11_signs_122 rfl hl (by decide) rfl (fun ls hl => ?_)
                        refine r_iinc (lv' := fun i41 => [(3, .int i41), (2, .int x40), (5, .int (0 : Int32)), (4, .int x8), (0, .ref (a_m 0)), (1, .int what)]) hx hb dX11_signs_123 hl (k := 3) rfl (by decide) rfl (by decide) (fun _ => rfl) (fun i41 e_i41 t_i41 ls hl => ?_)
                        try have t_i41 := t_i41 (by omega)
                        refine lv_goto (tgt := 33) hx hb dX11_signs_126 (by decide) ?_
                        exact ih_33 x40 i41 (by omega) (by omega) _ _ hP hD hS ls (lv_sub hl [0, 1, 4, 5] rfl)
                      · refine lv_iload hx hb dX11_signs_103 (lv_at hl 1 rfl) ?_
                        refine PurI.cs (C := RX11) (As := [.int x8]) (kX11_isDigit0 l g x8) fx (gUS (uT _) u_717 u_718 u_5 u_719) rfl hdX11_isDigit0 ⟨Nat.le_of_ble_eq_true rfl, Nat.le_of_ble_eq_true rfl⟩ hK hP [] rfl rfl rfl hl.1 (Nat.le_of_ble_eq_true rfl) dX11_signs_105 (fun r42 p_r42 => ?_)
                        refine q_if_eq (tgt := 120) hx hb dX11_signs_108 (by decide) rfl (fun b_108 k_108 => ?_) (fun b_108 k_108 => ?_)
                        · have q_108 := bP.f p_r42 b_108
                          refine lv_iconst (v := 0) hx hb dX11_signs_120 (by decide) ?_
                          refine r_iadd hx hb dX11_signs_121 rfl (by decide : (0 : Int32).toInt = 0) (fun x43 e_x43 t_x43 => ?_)
                          try have t_x43 := t_x43 (by omega)
                          refine lv_istore_n (lv' := [(2, .int x43), (5, .int (0 : Int32)), (4, .int x8), (3, .int v3_33), (0, .ref (a_m 0)), (1, .int what)]) hx hb dX11_signs_122 rfl hl (by decide) rfl (fun ls hl => ?_)
                          refine r_iinc (lv' := fun i44 => [(3, .int i44), (2, .int x43), (5, .int (0 : Int32)), (4, .int x8), (0, .ref (a_m 0)), (1, .int what)]) hx hb dX11_signs_123 hl (k := 3) rfl (by decide) rfl (by decide) (fun _ => rfl) (fun i44 e_i44 t_i44 ls hl => ?_)
                          try have t_i44 := t_i44 (by omega)
                          refine lv_goto (tgt := 33) hx hb dX11_signs_126 (by decide) ?_
                          exact ih_33 x43 i44 (by omega) (by omega) _ _ hP hD hS ls (lv_sub hl [0, 1, 4, 5] rfl)
                        · have q_108 := bP.t p_r42 b_108
                          refine lv_iload hx hb dX11_signs_111 (lv_at hl 0 rfl) ?_
                          refine q_if_eq (tgt := 120) hx hb dX11_signs_113 (by decide) (by decide : (0 : Int32).toInt = 0) (fun b_113 k_113 => ?_) (fun b_113 k_113 => ?_)
                          · refine lv_iconst (v := 0) hx hb dX11_signs_120 (by decide) ?_
                            refine r_iadd hx hb dX11_signs_121 rfl (by decide : (0 : Int32).toInt = 0) (fun x45 e_x45 t_x45 => ?_)
                            try have t_x45 := t_x45 (by omega)
                            refine lv_istore_n (lv' := [(2, .int x45), (5, .int (0 : Int32)), (4, .int x8), (3, .int v3_33), (0, .ref (a_m 0)), (1, .int what)]) hx hb dX11_signs_122 rfl hl (by decide) rfl (fun ls hl => ?_)
                            refine r_iinc (lv' := fun i46 => [(3, .int i46), (2, .int x45), (5, .int (0 : Int32)), (4, .int x8), (0, .ref (a_m 0)), (1, .int what)]) hx hb dX11_signs_123 hl (k := 3) rfl (by decide) rfl (by decide) (fun _ => rfl) (fun i46 e_i46 t_i46 ls hl => ?_)
                            try have t_i46 := t_i46 (by omega)
                            refine lv_goto (tgt := 33) hx hb dX11_signs_126 (by decide) ?_
                            exact ih_33 x45 i46 (by omega) (by omega) _ _ hP hD hS ls (lv_sub hl [0, 1, 4, 5] rfl)
                          · exfalso
                            omega
                · have q_75 := bP.f p_r29 b_75
                  refine lv_iconst (v := 1) hx hb dX11_signs_78 (by decide) ?_
                  refine lv_goto (tgt := 83) hx hb dX11_signs_79 (by decide) ?_
                  refine lv_istore (lv' := [(5, .int (1 : Int32)), (4, .int x8), (3, .int v3_33), (2, .int v2_33), (0, .ref (a_m 0)), (1, .int what)]) hx hb dX11_signs_83 hl (by decide) rfl (fun ls hl => ?_)
                  refine lv_iload_n hx hb dX11_signs_85 rfl (lv_at hl 3 rfl) ?_
                  refine lv_iload_n hx hb dX11_signs_86 rfl (lv_at hl 5 rfl) ?_
                  refine q_if_ne (tgt := 98) hx hb dX11_signs_87 (by decide) rfl (fun b_87 k_87 => ?_) (fun b_87 k_87 => ?_)
                  · refine lv_iload_n hx hb dX11_signs_98 rfl (lv_at hl 5 rfl) ?_
                    refine lv_iconst (v := 1) hx hb dX11_signs_99 (by decide) ?_
                    refine q_icmp_ne (tgt := 120) hx hb dX11_signs_100 (by decide) rfl (by decide : (1 : Int32).toInt = 1) (fun k_100 => ?_) (fun k_100 => ?_)
                    · refine lv_iconst (v := 0) hx hb dX11_signs_120 (by decide) ?_
                      refine r_iadd hx hb dX11_signs_121 rfl (by decide : (0 : Int32).toInt = 0) (fun x47 e_x47 t_x47 => ?_)
                      try have t_x47 := t_x47 (by omega)
                      refine lv_istore_n (lv' := [(2, .int x47), (5, .int (1 : Int32)), (4, .int x8), (3, .int v3_33), (0, .ref (a_m 0)), (1, .int what)]) hx hb dX11_signs_122 rfl hl (by decide) rfl (fun ls hl => ?_)
                      refine r_iinc (lv' := fun i48 => [(3, .int i48), (2, .int x47), (5, .int (1 : Int32)), (4, .int x8), (0, .ref (a_m 0)), (1, .int what)]) hx hb dX11_signs_123 hl (k := 3) rfl (by decide) rfl (by decide) (fun _ => rfl) (fun i48 e_i48 t_i48 ls hl => ?_)
                      try have t_i48 := t_i48 (by omega)
                      refine lv_goto (tgt := 33) hx hb dX11_signs_126 (by decide) ?_
                      exact ih_33 x47 i48 (by omega) (by omega) _ _ hP hD hS ls (lv_sub hl [0, 1, 4, 5] rfl)
                    · refine lv_iload hx hb dX11_signs_103 (lv_at hl 1 rfl) ?_
                      refine PurI.cs (C := RX11) (As := [.int x8]) (kX11_isDigit0 l g x8) fx (gUS (uT _) u_717 u_718 u_5 u_719) rfl hdX11_isDigit0 ⟨Nat.le_of_ble_eq_true rfl, Nat.le_of_ble_eq_true rfl⟩ hK hP [] rfl rfl rfl hl.1 (Nat.le_of_ble_eq_true rfl) dX11_signs_105 (fun r49 p_r49 => ?_)
                      refine q_if_eq (tgt := 120) hx hb dX11_signs_108 (by decide) rfl (fun b_108 k_108 => ?_) (fun b_108 k_108 => ?_)
                      · have q_108 := bP.f p_r49 b_108
                        refine lv_iconst (v := 0) hx hb dX11_signs_120 (by decide) ?_
                        refine r_iadd hx hb dX11_signs_121 rfl (by decide : (0 : Int32).toInt = 0) (fun x50 e_x50 t_x50 => ?_)
                        try have t_x50 := t_x50 (by omega)
                        refine lv_istore_n (lv' := [(2, .int x50), (5, .int (1 : Int32)), (4, .int x8), (3, .int v3_33), (0, .ref (a_m 0)), (1, .int what)]) hx hb dX11_signs_122 rfl hl (by decide) rfl (fun ls hl => ?_)
                        refine r_iinc (lv' := fun i51 => [(3, .int i51), (2, .int x50), (5, .int (1 : Int32)), (4, .int x8), (0, .ref (a_m 0)), (1, .int what)]) hx hb dX11_signs_123 hl (k := 3) rfl (by decide) rfl (by decide) (fun _ => rfl) (fun i51 e_i51 t_i51 ls hl => ?_)
                        try have t_i51 := t_i51 (by omega)
                        refine lv_goto (tgt := 33) hx hb dX11_signs_126 (by decide) ?_
                        exact ih_33 x50 i51 (by omega) (by omega) _ _ hP hD hS ls (lv_sub hl [0, 1, 4, 5] rfl)
                      · have q_108 := bP.t p_r49 b_108
                        refine lv_iload hx hb dX11_signs_111 (lv_at hl 0 rfl) ?_
                        refine q_if_eq (tgt := 120) hx hb dX11_signs_113 (by decide) (by decide : (1 : Int32).toInt = 1) (fun b_113 k_113 => ?_) (fun b_113 k_113 => ?_)
                        · exfalso
                          omega
                        · refine lv_iconst (v := 1) hx hb dX11_signs_116 (by decide) ?_
                          refine lv_goto (tgt := 121) hx hb dX11_signs_117 (by decide) ?_
                          refine r_iadd hx hb dX11_signs_121 rfl (by decide : (1 : Int32).toInt = 1) (fun x52 e_x52 t_x52 => ?_)
                          try have t_x52 := t_x52 (by omega)
                          refine lv_istore_n (lv' := [(2, .int x52), (5, .int (1 : Int32)), (4, .int x8), (3, .int v3_33), (0, .ref (a_m 0)), (1, .int what)]) hx hb dX11_signs_122 rfl hl (by decide) rfl (fun ls hl => ?_)
                          refine r_iinc (lv' := fun i53 => [(3, .int i53), (2, .int x52), (5, .int (1 : Int32)), (4, .int x8), (0, .ref (a_m 0)), (1, .int what)]) hx hb dX11_signs_123 hl (k := 3) rfl (by decide) rfl (by decide) (fun _ => rfl) (fun i53 e_i53 t_i53 ls hl => ?_)
                          try have t_i53 := t_i53 (by omega)
                          refine lv_goto (tgt := 33) hx hb dX11_signs_126 (by decide) ?_
                          exact ih_33 x52 i53 (by omega) (by omega) _ _ hP hD hS ls (lv_sub hl [0, 1, 4, 5] rfl)
                  · refine lv_iload hx hb dX11_signs_90 (lv_at hl 1 rfl) ?_
                    refine PurI.cs (C := RX11) (As := [.int x8]) (kX11_isGreat l g x8) fx (gUS (uT _) u_714 u_715 u_5 u_716) rfl hdX11_isGreat ⟨Nat.le_of_ble_eq_true rfl, Nat.le_of_ble_eq_true rfl⟩ hK hP [] rfl rfl rfl hl.1 (Nat.le_of_ble_eq_true rfl) dX11_signs_92 (fun r54 p_r54 => ?_)
                    refine q_if_ne (tgt := 116) hx hb dX11_signs_95 (by decide) rfl (fun b_95 k_95 => ?_) (fun b_95 k_95 => ?_)
                    · have q_95 := bP.t p_r54 b_95
                      refine lv_iconst (v := 1) hx hb dX11_signs_116 (by decide) ?_
                      refine lv_goto (tgt := 121) hx hb dX11_signs_117 (by decide) ?_
                      refine r_iadd hx hb dX11_signs_121 rfl (by decide : (1 : Int32).toInt = 1) (fun x55 e_x55 t_x55 => ?_)
                      try have t_x55 := t_x55 (by omega)
                      refine lv_istore_n (lv' := [(2, .int x55), (5, .int (1 : Int32)), (4, .int x8), (3, .int v3_33), (0, .ref (a_m 0)), (1, .int what)]) hx hb dX11_signs_122 rfl hl (by decide) rfl (fun ls hl => ?_)
                      refine r_iinc (lv' := fun i56 => [(3, .int i56), (2, .int x55), (5, .int (1 : Int32)), (4, .int x8), (0, .ref (a_m 0)), (1, .int what)]) hx hb dX11_signs_123 hl (k := 3) rfl (by decide) rfl (by decide) (fun _ => rfl) (fun i56 e_i56 t_i56 ls hl => ?_)
                      try have t_i56 := t_i56 (by omega)
                      refine lv_goto (tgt := 33) hx hb dX11_signs_126 (by decide) ?_
                      exact ih_33 x55 i56 (by omega) (by omega) _ _ hP hD hS ls (lv_sub hl [0, 1, 4, 5] rfl)
                    · have q_95 := bP.f p_r54 b_95
                      refine lv_iload_n hx hb dX11_signs_98 rfl (lv_at hl 5 rfl) ?_
                      refine lv_iconst (v := 1) hx hb dX11_signs_99 (by decide) ?_
                      refine q_icmp_ne (tgt := 120) hx hb dX11_signs_100 (by decide) rfl (by decide : (1 : Int32).toInt = 1) (fun k_100 => ?_) (fun k_100 => ?_)
                      · refine lv_iconst (v := 0) hx hb dX11_signs_120 (by decide) ?_
                        refine r_iadd hx hb dX11_signs_121 rfl (by decide : (0 : Int32).toInt = 0) (fun x57 e_x57 t_x57 => ?_)
                        try have t_x57 := t_x57 (by omega)
                        refine lv_istore_n (lv' := [(2, .int x57), (5, .int (1 : Int32)), (4, .int x8), (3, .int v3_33), (0, .ref (a_m 0)), (1, .int what)]) hx hb dX11_signs_122 rfl hl (by decide) rfl (fun ls hl => ?_)
                        refine r_iinc (lv' := fun i58 => [(3, .int i58), (2, .int x57), (5, .int (1 : Int32)), (4, .int x8), (0, .ref (a_m 0)), (1, .int what)]) hx hb dX11_signs_123 hl (k := 3) rfl (by decide) rfl (by decide) (fun _ => rfl) (fun i58 e_i58 t_i58 ls hl => ?_)
                        try have t_i58 := t_i58 (by omega)
                        refine lv_goto (tgt := 33) hx hb dX11_signs_126 (by decide) ?_
                        exact ih_33 x57 i58 (by omega) (by omega) _ _ hP hD hS ls (lv_sub hl [0, 1, 4, 5] rfl)
                      · refine lv_iload hx hb dX11_signs_103 (lv_at hl 1 rfl) ?_
                        refine PurI.cs (C := RX11) (As := [.int x8]) (kX11_isDigit0 l g x8) fx (gUS (uT _) u_717 u_718 u_5 u_719) rfl hdX11_isDigit0 ⟨Nat.le_of_ble_eq_true rfl, Nat.le_of_ble_eq_true rfl⟩ hK hP [] rfl rfl rfl hl.1 (Nat.le_of_ble_eq_true rfl) dX11_signs_105 (fun r59 p_r59 => ?_)
                        refine q_if_eq (tgt := 120) hx hb dX11_signs_108 (by decide) rfl (fun b_108 k_108 => ?_) (fun b_108 k_108 => ?_)
                        · have q_108 := bP.f p_r59 b_108
                          refine lv_iconst (v := 0) hx hb dX11_signs_120 (by decide) ?_
                          refine r_iadd hx hb dX11_signs_121 rfl (by decide : (0 : Int32).toInt = 0) (fun x60 e_x60 t_x60 => ?_)
                          try have t_x60 := t_x60 (by omega)
                          refine lv_istore_n (lv' := [(2, .int x60), (5, .int (1 : Int32)), (4, .int x8), (3, .int v3_33), (0, .ref (a_m 0)), (1, .int what)]) hx hb dX11_signs_122 rfl hl (by decide) rfl (fun ls hl => ?_)
                          refine r_iinc (lv' := fun i61 => [(3, .int i61), (2, .int x60), (5, .int (1 : Int32)), (4, .int x8), (0, .ref (a_m 0)), (1, .int what)]) hx hb dX11_signs_123 hl (k := 3) rfl (by decide) rfl (by decide) (fun _ => rfl) (fun i61 e_i61 t_i61 ls hl => ?_)
                          try have t_i61 := t_i61 (by omega)
                          refine lv_goto (tgt := 33) hx hb dX11_signs_126 (by decide) ?_
                          exact ih_33 x60 i61 (by omega) (by omega) _ _ hP hD hS ls (lv_sub hl [0, 1, 4, 5] rfl)
                        · have q_108 := bP.t p_r59 b_108
                          refine lv_iload hx hb dX11_signs_111 (lv_at hl 0 rfl) ?_
                          refine q_if_eq (tgt := 120) hx hb dX11_signs_113 (by decide) (by decide : (1 : Int32).toInt = 1) (fun b_113 k_113 => ?_) (fun b_113 k_113 => ?_)
                          · exfalso
                            omega
                          · refine lv_iconst (v := 1) hx hb dX11_signs_116 (by decide) ?_
                            refine lv_goto (tgt := 121) hx hb dX11_signs_117 (by decide) ?_
                            refine r_iadd hx hb dX11_signs_121 rfl (by decide : (1 : Int32).toInt = 1) (fun x62 e_x62 t_x62 => ?_)
                            try have t_x62 := t_x62 (by omega)
                            refine lv_istore_n (lv' := [(2, .int x62), (5, .int (1 : Int32)), (4, .int x8), (3, .int v3_33), (0, .ref (a_m 0)), (1, .int what)]) hx hb dX11_signs_122 rfl hl (by decide) rfl (fun ls hl => ?_)
                            refine r_iinc (lv' := fun i63 => [(3, .int i63), (2, .int x62), (5, .int (1 : Int32)), (4, .int x8), (0, .ref (a_m 0)), (1, .int what)]) hx hb dX11_signs_123 hl (k := 3) rfl (by decide) rfl (by decide) (fun _ => rfl) (fun i63 e_i63 t_i63 ls hl => ?_)
                            try have t_i63 := t_i63 (by omega)
                            refine lv_goto (tgt := 33) hx hb dX11_signs_126 (by decide) ?_
                            exact ih_33 x62 i63 (by omega) (by omega) _ _ hP hD hS ls (lv_sub hl [0, 1, 4, 5] rfl)
        exact L33 ((301 - (0 : Int32).toInt) + 1).toNat (0 : Int32) (0 : Int32) (by omega) (by omega) _ _ hP hD hS ls hl
      · have q_19 := bP.f p_r3 b_19
        refine lv_aload_n hx hb dX11_signs_22 rfl (lv_at hl 0 rfl) ?_
        refine lv_bipush (v := 6) hx hb dX11_signs_23 (by decide) ?_
        refine EffI.cv (wr := ([])) (w' := fun u65 => wX11 g a_m u65 J_m) (As := [.int (6 : Int32)]) (kX11_refuse l g a_m I_m J_m (6 : Int32)) fx (gUV (uT _) u_536 u_537 u_538 u_5 u_539) rfl hdX11_refuse ⟨Nat.le_of_ble_eq_true rfl, Nat.le_of_ble_eq_true rfl⟩ hK hP hD hS hA [0, 1, 2, 3, 4, 5, 6, 7, 8, 9, 10, 11, 12, 13, 14, 15, 16, 17, 18, 19, 20, 21, 22] [] [0, 1, 2, 3, 4, 5, 6, 7, 8, 9, 10, 11, 12, 13, 14, 15, 16, 17, 18, 19, 20, 21, 22] rfl rfl rfl rfl (by decide) rfl (fun _ => rfl) rfl rfl rfl rfl hl.1 (Nat.le_of_ble_eq_true rfl) dX11_signs_25 (fun r64 u65 H locs p_r64 hP hD hS => ?_)
        have hP : va_P g.1 vwCl (wX11 g a_m u65 J_m) H := hP
        have hD : va_D A (wX11 g a_m u65 J_m) := hD
        refine hret 28 ls r64 _ _ u65 dX11_signs_28 hS hP hD ?_
        exact (KK.st (KK.rf I_m) p_r64.2 (by decide))
    · refine lv_aload_n hx hb dX11_signs_9 rfl (lv_at hl 0 rfl) ?_
      refine lv_iconst (v := 1) hx hb dX11_signs_10 (by decide) ?_
      refine EffI.cv (wr := ([])) (w' := fun u67 => wX11 g a_m u67 J_m) (As := [.int (1 : Int32)]) (kX11_refuse l g a_m I_m J_m (1 : Int32)) fx (gUV (uT _) u_536 u_537 u_538 u_5 u_539) rfl hdX11_refuse ⟨Nat.le_of_ble_eq_true rfl, Nat.le_of_ble_eq_true rfl⟩ hK hP hD hS hA [0, 1, 2, 3, 4, 5, 6, 7, 8, 9, 10, 11, 12, 13, 14, 15, 16, 17, 18, 19, 20, 21, 22] [] [0, 1, 2, 3, 4, 5, 6, 7, 8, 9, 10, 11, 12, 13, 14, 15, 16, 17, 18, 19, 20, 21, 22] rfl rfl rfl rfl (by decide) rfl (fun _ => rfl) rfl rfl rfl rfl hl.1 (Nat.le_of_ble_eq_true rfl) dX11_signs_11 (fun r66 u67 H locs p_r66 hP hD hS => ?_)
      have hP : va_P g.1 vwCl (wX11 g a_m u67 J_m) H := hP
      have hD : va_D A (wX11 g a_m u67 J_m) := hD
      refine hret 14 ls r66 _ _ u67 dX11_signs_14 hS hP hD ?_
      exact (KK.st (KK.rf I_m) p_r66.2 (by decide))

set_option maxHeartbeats 4000000 in
set_option maxRecDepth 100000 in
theorem kX11_pieceOf (l : Launch) (g : gG) (a_m : Nat → Nat) (I_m : Nat → Nat → Int32) (J_m : Nat → Nat → Int64) (k : Int32) (hM : MI I_m) : EffI l g yX11_pieceOf wsX11_pieceOf 1 [.ref (a_m 0), .int k] (wX11 g a_m I_m J_m) (fun (u : (Nat → Nat → Int32)) => wX11 g a_m u J_m) (fun r (u : (Nat → Nat → Int32)) => KK [] [1] I_m (u)) := by
  refine EffI.st (cc := cX11_pieceOf) (maxL := 3) (by decide) rfl (Nat.le_of_ble_eq_true rfl) (fun p e s m args below meth c A Q ls fx hK hP hD hA hS hl hret => ?_)
  have hx := fx.1
  have hb := fx.2.1
  have hml := fx.2.2.1
  have hown := fx.2.2.2.1
  have hts := fx.2.2.2.2
  have hl : lv_has ls 3 [(0, .ref (a_m 0)), (1, .int k)] := hl
  have hP : va_P g.1 vwCl (wX11 g a_m I_m J_m) s.heap := hP
  have hf_7 := hts _ (uT _ _ u_170)
  have hi_X11 : ∀ w ∈ wsX110, w.before args s = true := fun w h => hts w (uT _ w (u_wsX110 w h))
  have lm1 : (-1 : Int32).toInt = -1 := by decide
  have lm0 : (0 : Int32).toInt = 0 := by decide
  have lm2 : (1 : Int32).toInt = 1 := by decide
  have lq6 : (6 : Int32).toInt = 6 := by decide
  have lq1850 : (1850 : Int32).toInt = 1850 := by decide
  have lq8 : (8 : Int32).toInt = 8 := by decide
  have lq9 : (9 : Int32).toInt = 9 := by decide
  have lq1 : (1 : Int32).toInt = 1 := by decide
  have hp9 := hM.pcs rfl
  have hs8 := hM.set rfl
  refine lv_aload_n hx hb dX11_pieceOf_0 rfl (lv_at hl 0 rfl) ?_
  refine PurI.cv (As := []) (kX11_isSet l g a_m I_m J_m hM) fx (gUV (uT _) u_856 u_857 u_858 u_5 u_859) rfl hdX11_isSet ⟨Nat.le_of_ble_eq_true rfl, Nat.le_of_ble_eq_true rfl⟩ hK hP [0, 1, 2, 3, 4, 5, 6, 7, 8, 9, 10, 11, 12, 13, 14, 15, 16, 17, 18, 19, 20, 21, 22] rfl rfl rfl rfl rfl hl.1 (Nat.le_of_ble_eq_true rfl) dX11_pieceOf_1 (fun r1 p_r1 => ?_)
  refine q_if_eq (tgt := 22) hx hb dX11_pieceOf_4 (by decide) rfl (fun b_4 k_4 => ?_) (fun b_4 k_4 => ?_)
  · have q_4 := bP.f p_r1 b_4
    refine lv_aload_n hx hb dX11_pieceOf_22 rfl (lv_at hl 0 rfl) ?_
    refine lv_bipush (v := 6) hx hb dX11_pieceOf_23 (by decide) ?_
    refine EffI.cv (wr := ([])) (w' := fun u3 => wX11 g a_m u3 J_m) (As := [.int (6 : Int32)]) (kX11_refuse l g a_m I_m J_m (6 : Int32)) fx (gUV (uT _) u_536 u_537 u_538 u_5 u_539) rfl hdX11_refuse ⟨Nat.le_of_ble_eq_true rfl, Nat.le_of_ble_eq_true rfl⟩ hK hP hD hS hA [0, 1, 2, 3, 4, 5, 6, 7, 8, 9, 10, 11, 12, 13, 14, 15, 16, 17, 18, 19, 20, 21, 22] [] [0, 1, 2, 3, 4, 5, 6, 7, 8, 9, 10, 11, 12, 13, 14, 15, 16, 17, 18, 19, 20, 21, 22] rfl rfl rfl rfl (by decide) rfl (fun _ => rfl) rfl rfl rfl rfl hl.1 (Nat.le_of_ble_eq_true rfl) dX11_pieceOf_25 (fun r2 u3 H locs p_r2 hP hD hS => ?_)
    have hP : va_P g.1 vwCl (wX11 g a_m u3 J_m) H := hP
    have hD : va_D A (wX11 g a_m u3 J_m) := hD
    refine hret 28 ls r2 _ _ u3 dX11_pieceOf_28 hS hP hD ?_
    exact (KK.st (KK.rf I_m) p_r2.2 (by decide))
  · have q_4 := bP.t p_r1 b_4
    refine lv_iload_n hx hb dX11_pieceOf_7 rfl (lv_at hl 1 rfl) ?_
    refine q_if_lt (tgt := 22) hx hb dX11_pieceOf_8 (by decide) rfl (fun k_8 => ?_) (fun k_8 => ?_)
    · refine lv_aload_n hx hb dX11_pieceOf_22 rfl (lv_at hl 0 rfl) ?_
      refine lv_bipush (v := 6) hx hb dX11_pieceOf_23 (by decide) ?_
      refine EffI.cv (wr := ([])) (w' := fun u5 => wX11 g a_m u5 J_m) (As := [.int (6 : Int32)]) (kX11_refuse l g a_m I_m J_m (6 : Int32)) fx (gUV (uT _) u_536 u_537 u_538 u_5 u_539) rfl hdX11_refuse ⟨Nat.le_of_ble_eq_true rfl, Nat.le_of_ble_eq_true rfl⟩ hK hP hD hS hA [0, 1, 2, 3, 4, 5, 6, 7, 8, 9, 10, 11, 12, 13, 14, 15, 16, 17, 18, 19, 20, 21, 22] [] [0, 1, 2, 3, 4, 5, 6, 7, 8, 9, 10, 11, 12, 13, 14, 15, 16, 17, 18, 19, 20, 21, 22] rfl rfl rfl rfl (by decide) rfl (fun _ => rfl) rfl rfl rfl rfl hl.1 (Nat.le_of_ble_eq_true rfl) dX11_pieceOf_25 (fun r4 u5 H locs p_r4 hP hD hS => ?_)
      have hP : va_P g.1 vwCl (wX11 g a_m u5 J_m) H := hP
      have hD : va_D A (wX11 g a_m u5 J_m) := hD
      refine hret 28 ls r4 _ _ u5 dX11_pieceOf_28 hS hP hD ?_
      exact (KK.st (KK.rf I_m) p_r4.2 (by decide))
    · refine lv_iload_n hx hb dX11_pieceOf_11 rfl (lv_at hl 1 rfl) ?_
      refine lv_aload_n hx hb dX11_pieceOf_12 rfl (lv_at hl 0 rfl) ?_
      refine va_get (D := g.1) (ci := 11) (v := .ref (a_m 1)) (C := RX11) (T := TX11) (N := 46) hx hb hi_X11 (fun _ h => h) hown hK.1 hP 0 rfl rfl 0 (by decide) hf_7 (fun _ h9 => h9) rfl dX11_pieceOf_13 ?_
      refine lv_bipush (v := 8) hx hb dX11_pieceOf_16 (by decide) ?_
      have n_18 : vp_in (8 : Int32) 19800 := (t_in (by decide))
      refine va_iald hx hb hK.1 hP 1 0 rfl rfl n_18 dX11_pieceOf_18 ?_
      refine q_nm (fun x6 e_x6 => ?_)
      have e_x6 : x6 = (I_m 1) 8 := e_x6
      have g_x6 : x6.toInt = ((I_m 1) 8).toInt := congrArg _ e_x6
      have f_x6 := MI.set hM e_x6
      refine q_icmp_lt (tgt := 29) hx hb dX11_pieceOf_19 (by decide) rfl rfl (fun k_19 => ?_) (fun k_19 => ?_)
      · refine lv_iconst (v := 0) hx hb dX11_pieceOf_29 (by decide) ?_
        refine lv_istore_n (lv' := [(2, .int (0 : Int32)), (0, .ref (a_m 0)), (1, .int k)]) hx hb dX11_pieceOf_30 rfl hl (by decide) rfl (fun ls hl => ?_)
        have L31 : ∀ (nn : Nat) (v2_31 : Int32), (hv_31 : 0 ≤ v2_31.toInt ∧ v2_31.toInt ≤ 150) → ((151 - v2_31.toInt) < (nn : Int)) → ∀ (H : Heap) (locs : List Loc), va_P g.1 vwCl (wX11 g a_m I_m J_m) H → va_D A (wX11 g a_m I_m J_m) → va_S A s.heap H locs → ∀ ls : Array Slot, lv_has ls 3 [(2, .int v2_31), (0, .ref (a_m 0)), (1, .int k)] → W p l e (rm 1) s m args below meth c H locs 0 0 Q (F0 m 31 ls []) := by
          intro n_31
          induction n_31 with
          | zero =>
            intro v2_31 hv_31 hms_31 H locs hP hD hS ls hl
            exfalso; omega
          | succ n_31 ih_31 =>
            intro v2_31 hv_31 hms_31 H locs hP hD hS ls hl
            refine lv_iload_n hx hb dX11_pieceOf_31 rfl (lv_at hl 0 rfl) ?_
            refine lv_aload_n hx hb dX11_pieceOf_32 rfl (lv_at hl 1 rfl) ?_
            refine va_get (D := g.1) (ci := 11) (v := .ref (a_m 1)) (C := RX11) (T := TX11) (N := 46) hx hb hi_X11 (fun _ h => h) hown hK.1 hP 0 rfl rfl 0 (by decide) hf_7 (fun _ h9 => h9) rfl dX11_pieceOf_33 ?_
            refine lv_bipush (v := 9) hx hb dX11_pieceOf_36 (by decide) ?_
            have n_38 : vp_in (9 : Int32) 19800 := (t_in (by decide))
            refine va_iald hx hb hK.1 hP 1 0 rfl rfl n_38 dX11_pieceOf_38 ?_
            refine q_nm (fun x7 e_x7 => ?_)
            have e_x7 : x7 = (I_m 1) 9 := e_x7
            have g_x7 : x7.toInt = ((I_m 1) 9).toInt := congrArg _ e_x7
            have f_x7 := MI.pcs hM e_x7
            refine q_icmp_ge (tgt := 88) hx hb dX11_pieceOf_39 (by decide) rfl rfl (fun k_39 => ?_) (fun k_39 => ?_)
            · refine lv_aload_n hx hb dX11_pieceOf_88 rfl (lv_at hl 1 rfl) ?_
              refine lv_bipush (v := 6) hx hb dX11_pieceOf_89 (by decide) ?_
              refine EffI.cv (wr := ([])) (w' := fun u9 => wX11 g a_m u9 J_m) (As := [.int (6 : Int32)]) (kX11_refuse l g a_m I_m J_m (6 : Int32)) fx (gUV (uT _) u_536 u_537 u_538 u_5 u_539) rfl hdX11_refuse ⟨Nat.le_of_ble_eq_true rfl, Nat.le_of_ble_eq_true rfl⟩ hK hP hD hS hA [0, 1, 2, 3, 4, 5, 6, 7, 8, 9, 10, 11, 12, 13, 14, 15, 16, 17, 18, 19, 20, 21, 22] [] [0, 1, 2, 3, 4, 5, 6, 7, 8, 9, 10, 11, 12, 13, 14, 15, 16, 17, 18, 19, 20, 21, 22] rfl rfl rfl rfl (by decide) rfl (fun _ => rfl) rfl rfl rfl rfl hl.1 (Nat.le_of_ble_eq_true rfl) dX11_pieceOf_91 (fun r8 u9 H locs p_r8 hP hD hS => ?_)
              have hP : va_P g.1 vwCl (wX11 g a_m u9 J_m) H := hP
              have hD : va_D A (wX11 g a_m u9 J_m) := hD
              refine hret 94 ls r8 _ _ u9 dX11_pieceOf_94 hS hP hD ?_
              exact (KK.st (KK.rf I_m) p_r8.2 (by decide))
            · refine lv_iload_n hx hb dX11_pieceOf_42 rfl (lv_at hl 2 rfl) ?_
              refine lv_aload_n hx hb dX11_pieceOf_43 rfl (lv_at hl 1 rfl) ?_
              refine va_get (D := g.1) (ci := 11) (v := .ref (a_m 1)) (C := RX11) (T := TX11) (N := 46) hx hb hi_X11 (fun _ h => h) hown hK.1 hP 0 rfl rfl 0 (by decide) hf_7 (fun _ h9 => h9) rfl dX11_pieceOf_44 ?_
              refine lv_sipush (v := 1850) hx hb dX11_pieceOf_47 (by decide) ?_
              refine lv_iload_n hx hb dX11_pieceOf_50 rfl (lv_at hl 0 rfl) ?_
              refine r_iadd hx hb dX11_pieceOf_51 (by decide : (1850 : Int32).toInt = 1850) rfl (fun x10 e_x10 t_x10 => ?_)
              try have t_x10 := t_x10 (by omega)
              have n_52 : vp_in x10 19800 := (t_in (by omega))
              refine va_iald hx hb hK.1 hP 1 0 rfl rfl n_52 dX11_pieceOf_52 ?_
              refine q_nm (fun x11 e_x11 => ?_)
              have e_x11 : x11 = (I_m 1) x10.toNatClampNeg := e_x11
              have g_x11 : x11.toInt = ((I_m 1) x10.toNatClampNeg).toInt := congrArg _ e_x11
              refine q_icmp_lt (tgt := 82) hx hb dX11_pieceOf_53 (by decide) rfl rfl (fun k_53 => ?_) (fun k_53 => ?_)
              · refine r_iinc (lv' := fun i12 => [(2, .int i12), (0, .ref (a_m 0)), (1, .int k)]) hx hb dX11_pieceOf_82 hl (k := 0) rfl (by decide) rfl (by decide) (fun _ => rfl) (fun i12 e_i12 t_i12 ls hl => ?_)
                try have t_i12 := t_i12 (by omega)
                refine lv_goto (tgt := 31) hx hb dX11_pieceOf_85 (by decide) ?_
                exact ih_31 i12 (by omega) (by omega) _ _ hP hD hS ls hl
              · refine lv_iload_n hx hb dX11_pieceOf_56 rfl (lv_at hl 2 rfl) ?_
                refine lv_aload_n hx hb dX11_pieceOf_57 rfl (lv_at hl 1 rfl) ?_
                refine va_get (D := g.1) (ci := 11) (v := .ref (a_m 1)) (C := RX11) (T := TX11) (N := 46) hx hb hi_X11 (fun _ h => h) hown hK.1 hP 0 rfl rfl 0 (by decide) hf_7 (fun _ h9 => h9) rfl dX11_pieceOf_58 ?_
                refine lv_sipush (v := 1850) hx hb dX11_pieceOf_61 (by decide) ?_
                refine lv_iload_n hx hb dX11_pieceOf_64 rfl (lv_at hl 0 rfl) ?_
                refine r_iadd hx hb dX11_pieceOf_65 (by decide : (1850 : Int32).toInt = 1850) rfl (fun x13 e_x13 t_x13 => ?_)
                try have t_x13 := t_x13 (by omega)
                have n_66 : vp_in x13 19800 := (t_in (by omega))
                refine va_iald hx hb hK.1 hP 1 0 rfl rfl n_66 dX11_pieceOf_66 ?_
                refine q_nm (fun x14 e_x14 => ?_)
                have e_x14 : x14 = (I_m 1) x13.toNatClampNeg := e_x14
                have g_x14 : x14.toInt = ((I_m 1) x13.toNatClampNeg).toInt := congrArg _ e_x14
                refine lv_aload_n hx hb dX11_pieceOf_67 rfl (lv_at hl 1 rfl) ?_
                refine lv_iload_n hx hb dX11_pieceOf_68 rfl (lv_at hl 0 rfl) ?_
                refine PurI.cv (As := [.int v2_31]) (kX11_pieceMany l g a_m I_m J_m v2_31 hM (by omega)) fx (gUV (uT _) u_890 u_891 u_892 u_5 u_893) rfl hdX11_pieceMany ⟨Nat.le_of_ble_eq_true rfl, Nat.le_of_ble_eq_true rfl⟩ hK hP [0, 1, 2, 3, 4, 5, 6, 7, 8, 9, 10, 11, 12, 13, 14, 15, 16, 17, 18, 19, 20, 21, 22] rfl rfl rfl rfl rfl hl.1 (Nat.le_of_ble_eq_true rfl) dX11_pieceOf_69 (fun r15 p_r15 => ?_)
                refine r_iadd hx hb dX11_pieceOf_72 rfl rfl (fun x16 e_x16 t_x16 => ?_)
                try have t_x16 := t_x16 (by omega)
                refine q_icmp_ge (tgt := 82) hx hb dX11_pieceOf_73 (by decide) rfl rfl (fun k_73 => ?_) (fun k_73 => ?_)
                · refine r_iinc (lv' := fun i17 => [(2, .int i17), (0, .ref (a_m 0)), (1, .int k)]) hx hb dX11_pieceOf_82 hl (k := 0) rfl (by decide) rfl (by decide) (fun _ => rfl) (fun i17 e_i17 t_i17 ls hl => ?_)
                  try have t_i17 := t_i17 (by omega)
                  refine lv_goto (tgt := 31) hx hb dX11_pieceOf_85 (by decide) ?_
                  exact ih_31 i17 (by omega) (by omega) _ _ hP hD hS ls hl
                · refine lv_aload_n hx hb dX11_pieceOf_76 rfl (lv_at hl 1 rfl) ?_
                  refine lv_iload_n hx hb dX11_pieceOf_77 rfl (lv_at hl 0 rfl) ?_
                  refine EffI.cv (wr := ([])) (w' := fun u19 => wX11 g a_m u19 J_m) (As := [.int v2_31]) (kX11_gives l g a_m I_m J_m v2_31) fx (gUV (uT _) u_585 u_586 u_587 u_5 u_588) rfl hdX11_gives ⟨Nat.le_of_ble_eq_true rfl, Nat.le_of_ble_eq_true rfl⟩ hK hP hD hS hA [0, 1, 2, 3, 4, 5, 6, 7, 8, 9, 10, 11, 12, 13, 14, 15, 16, 17, 18, 19, 20, 21, 22] [] [0, 1, 2, 3, 4, 5, 6, 7, 8, 9, 10, 11, 12, 13, 14, 15, 16, 17, 18, 19, 20, 21, 22] rfl rfl rfl rfl (by decide) rfl (fun _ => rfl) rfl rfl rfl rfl hl.1 (Nat.le_of_ble_eq_true rfl) dX11_pieceOf_78 (fun r18 u19 H locs p_r18 hP hD hS => ?_)
                  have hP : va_P g.1 vwCl (wX11 g a_m u19 J_m) H := hP
                  have hD : va_D A (wX11 g a_m u19 J_m) := hD
                  refine hret 81 ls r18 _ _ u19 dX11_pieceOf_81 hS hP hD ?_
                  exact (KK.st (KK.rf I_m) p_r18.2 (by decide))
        exact L31 ((151 - (0 : Int32).toInt) + 1).toNat (0 : Int32) (by omega) (by omega) _ _ hP hD hS ls hl
      · refine lv_aload_n hx hb dX11_pieceOf_22 rfl (lv_at hl 0 rfl) ?_
        refine lv_bipush (v := 6) hx hb dX11_pieceOf_23 (by decide) ?_
        refine EffI.cv (wr := ([])) (w' := fun u21 => wX11 g a_m u21 J_m) (As := [.int (6 : Int32)]) (kX11_refuse l g a_m I_m J_m (6 : Int32)) fx (gUV (uT _) u_536 u_537 u_538 u_5 u_539) rfl hdX11_refuse ⟨Nat.le_of_ble_eq_true rfl, Nat.le_of_ble_eq_true rfl⟩ hK hP hD hS hA [0, 1, 2, 3, 4, 5, 6, 7, 8, 9, 10, 11, 12, 13, 14, 15, 16, 17, 18, 19, 20, 21, 22] [] [0, 1, 2, 3, 4, 5, 6, 7, 8, 9, 10, 11, 12, 13, 14, 15, 16, 17, 18, 19, 20, 21, 22] rfl rfl rfl rfl (by decide) rfl (fun _ => rfl) rfl rfl rfl rfl hl.1 (Nat.le_of_ble_eq_true rfl) dX11_pieceOf_25 (fun r20 u21 H locs p_r20 hP hD hS => ?_)
        have hP : va_P g.1 vwCl (wX11 g a_m u21 J_m) H := hP
        have hD : va_D A (wX11 g a_m u21 J_m) := hD
        refine hret 28 ls r20 _ _ u21 dX11_pieceOf_28 hS hP hD ?_
        exact (KK.st (KK.rf I_m) p_r20.2 (by decide))

set_option maxHeartbeats 4000000 in
set_option maxRecDepth 100000 in
theorem kX11_plainOf (l : Launch) (g : gG) (a_m : Nat → Nat) (I_m : Nat → Nat → Int32) (J_m : Nat → Nat → Int64) (hM : MI I_m) : PurI l g yX11_plainOf wsX11_plainOf 2 [.ref (a_m 0)] (wX11 g a_m I_m J_m) (fun r => True) := by
  refine PurI.st (cc := cX11_plainOf) (maxL := 4) (by decide) rfl (Nat.le_of_ble_eq_true rfl) (fun p e s m args below meth c Q ls fx hK hP hl hret => ?_)
  have hx := fx.1
  have hb := fx.2.1
  have hml := fx.2.2.1
  have hown := fx.2.2.2.1
  have hts := fx.2.2.2.2
  have hl : lv_has ls 4 [(0, .ref (a_m 0))] := hl
  have hP : va_P g.1 vwCl (wX11 g a_m I_m J_m) s.heap := hP
  have hf_7 := hts _ (uT _ _ u_170)
  have hi_X11 : ∀ w ∈ wsX110, w.before args s = true := fun w h => hts w (uT _ w (u_wsX110 w h))
  have lm1 : (-1 : Int32).toInt = -1 := by decide
  have lm0 : (0 : Int32).toInt = 0 := by decide
  have lm2 : (1 : Int32).toInt = 1 := by decide
  have lq6 : (6 : Int32).toInt = 6 := by decide
  have lq7 : (7 : Int32).toInt = 7 := by decide
  have lq11 : (11 : Int32).toInt = 11 := by decide
  have lq300 : (300 : Int32).toInt = 300 := by decide
  have lq8 : (8 : Int32).toInt = 8 := by decide
  have lq1 : (1 : Int32).toInt = 1 := by decide
  have hmn := hM.many rfl
  refine lv_aload_n hx hb dX11_plainOf_0 rfl (lv_at hl 0 rfl) ?_
  refine va_get (D := g.1) (ci := 11) (v := .ref (a_m 1)) (C := RX11) (T := TX11) (N := 46) hx hb hi_X11 (fun _ h => h) hown hK.1 hP 0 rfl rfl 0 (by decide) hf_7 (fun _ h9 => h9) rfl dX11_plainOf_1 ?_
  refine lv_bipush (v := 8) hx hb dX11_plainOf_4 (by decide) ?_
  have n_6 : vp_in (8 : Int32) 19800 := (t_in (by decide))
  refine va_iald hx hb hK.1 hP 1 0 rfl rfl n_6 dX11_plainOf_6 ?_
  refine q_nm (fun x1 e_x1 => ?_)
  have e_x1 : x1 = (I_m 1) 8 := e_x1
  have g_x1 : x1.toInt = ((I_m 1) 8).toInt := congrArg _ e_x1
  have f_x1 := MI.set hM e_x1
  refine lv_aload_n hx hb dX11_plainOf_7 rfl (lv_at hl 0 rfl) ?_
  refine va_get (D := g.1) (ci := 11) (v := .ref (a_m 1)) (C := RX11) (T := TX11) (N := 46) hx hb hi_X11 (fun _ h => h) hown hK.1 hP 0 rfl rfl 0 (by decide) hf_7 (fun _ h9 => h9) rfl dX11_plainOf_8 ?_
  refine lv_bipush (v := 11) hx hb dX11_plainOf_11 (by decide) ?_
  have n_13 : vp_in (11 : Int32) 19800 := (t_in (by decide))
  refine va_iald hx hb hK.1 hP 1 0 rfl rfl n_13 dX11_plainOf_13 ?_
  refine q_nm (fun x2 e_x2 => ?_)
  have e_x2 : x2 = (I_m 1) 11 := e_x2
  have g_x2 : x2.toInt = ((I_m 1) 11).toInt := congrArg _ e_x2
  refine r_isub hx hb dX11_plainOf_14 rfl rfl (fun x3 e_x3 t_x3 => ?_)
  try have t_x3 := t_x3 (by omega)
  refine lv_istore_n (lv' := [(1, .int x3), (0, .ref (a_m 0))]) hx hb dX11_plainOf_15 rfl hl (by decide) rfl (fun ls hl => ?_)
  refine lv_iconst (v := 0) hx hb dX11_plainOf_16 (by decide) ?_
  refine lv_istore_n (lv' := [(2, .int (0 : Int32)), (1, .int x3), (0, .ref (a_m 0))]) hx hb dX11_plainOf_17 rfl hl (by decide) rfl (fun ls hl => ?_)
  have L18 : ∀ (nn : Nat) (v1_18 : Int32) (v2_18 : Int32), (hv_18 : 0 ≤ v2_18.toInt ∧ v2_18.toInt ≤ 300) → ((301 - v2_18.toInt) < (nn : Int)) → ∀ ls : Array Slot, lv_has ls 4 [(2, .int v2_18), (1, .int v1_18), (0, .ref (a_m 0))] → W p l e (rm 2) s m args below meth c s.heap [] 0 0 Q (F0 m 18 ls []) := by
    intro n_18
    induction n_18 with
    | zero =>
      intro v1_18 v2_18 hv_18 hms_18 ls hl
      exfalso; omega
    | succ n_18 ih_18 =>
      intro v1_18 v2_18 hv_18 hms_18 ls hl
      refine lv_iload_n hx hb dX11_plainOf_18 rfl (lv_at hl 0 rfl) ?_
      refine lv_aload_n hx hb dX11_plainOf_19 rfl (lv_at hl 2 rfl) ?_
      refine va_get (D := g.1) (ci := 11) (v := .ref (a_m 1)) (C := RX11) (T := TX11) (N := 46) hx hb hi_X11 (fun _ h => h) hown hK.1 hP 0 rfl rfl 0 (by decide) hf_7 (fun _ h9 => h9) rfl dX11_plainOf_20 ?_
      refine lv_bipush (v := 7) hx hb dX11_plainOf_23 (by decide) ?_
      have n_25 : vp_in (7 : Int32) 19800 := (t_in (by decide))
      refine va_iald hx hb hK.1 hP 1 0 rfl rfl n_25 dX11_plainOf_25 ?_
      refine q_nm (fun x4 e_x4 => ?_)
      have e_x4 : x4 = (I_m 1) 7 := e_x4
      have g_x4 : x4.toInt = ((I_m 1) 7).toInt := congrArg _ e_x4
      have f_x4 := MI.bytes hM e_x4
      refine q_icmp_ge (tgt := 94) hx hb dX11_plainOf_26 (by decide) rfl rfl (fun k_26 => ?_) (fun k_26 => ?_)
      · refine lv_iload_n hx hb dX11_plainOf_94 rfl (lv_at hl 1 rfl) ?_
        exact hret 95 ls v1_18 dX11_plainOf_95 trivial
      · refine lv_aload_n hx hb dX11_plainOf_29 rfl (lv_at hl 2 rfl) ?_
        refine va_get (D := g.1) (ci := 11) (v := .ref (a_m 1)) (C := RX11) (T := TX11) (N := 46) hx hb hi_X11 (fun _ h => h) hown hK.1 hP 0 rfl rfl 0 (by decide) hf_7 (fun _ h9 => h9) rfl dX11_plainOf_30 ?_
        refine lv_sipush (v := 300) hx hb dX11_plainOf_33 (by decide) ?_
        refine lv_iload_n hx hb dX11_plainOf_36 rfl (lv_at hl 0 rfl) ?_
        refine r_iadd hx hb dX11_plainOf_37 (by decide : (300 : Int32).toInt = 300) rfl (fun x5 e_x5 t_x5 => ?_)
        try have t_x5 := t_x5 (by omega)
        have n_38 : vp_in x5 19800 := (t_in (by omega))
        refine va_iald hx hb hK.1 hP 1 0 rfl rfl n_38 dX11_plainOf_38 ?_
        refine q_nm (fun x6 e_x6 => ?_)
        have e_x6 : x6 = (I_m 1) x5.toNatClampNeg := e_x6
        have g_x6 : x6.toInt = ((I_m 1) x5.toNatClampNeg).toInt := congrArg _ e_x6
        refine PurI.cs (C := RX11) (As := [.int x6]) (kX11_isLetter l g x6) fx (gUS (uT _) u_711 u_712 u_5 u_713) rfl hdX11_isLetter ⟨Nat.le_of_ble_eq_true rfl, Nat.le_of_ble_eq_true rfl⟩ hK hP [] rfl rfl rfl hl.1 (Nat.le_of_ble_eq_true rfl) dX11_plainOf_39 (fun r7 p_r7 => ?_)
        refine q_if_ne (tgt := 48) hx hb dX11_plainOf_42 (by decide) rfl (fun b_42 k_42 => ?_) (fun b_42 k_42 => ?_)
        · have q_42 := bP.t p_r7 b_42
          refine lv_aload_n hx hb dX11_plainOf_48 rfl (lv_at hl 2 rfl) ?_
          refine lv_aload_n hx hb dX11_plainOf_49 rfl (lv_at hl 2 rfl) ?_
          refine va_get (D := g.1) (ci := 11) (v := .ref (a_m 1)) (C := RX11) (T := TX11) (N := 46) hx hb hi_X11 (fun _ h => h) hown hK.1 hP 0 rfl rfl 0 (by decide) hf_7 (fun _ h9 => h9) rfl dX11_plainOf_50 ?_
          refine lv_sipush (v := 300) hx hb dX11_plainOf_53 (by decide) ?_
          refine lv_iload_n hx hb dX11_plainOf_56 rfl (lv_at hl 0 rfl) ?_
          refine r_iadd hx hb dX11_plainOf_57 (by decide : (300 : Int32).toInt = 300) rfl (fun x8 e_x8 t_x8 => ?_)
          try have t_x8 := t_x8 (by omega)
          have n_58 : vp_in x8 19800 := (t_in (by omega))
          refine va_iald hx hb hK.1 hP 1 0 rfl rfl n_58 dX11_plainOf_58 ?_
          refine q_nm (fun x9 e_x9 => ?_)
          have e_x9 : x9 = (I_m 1) x8.toNatClampNeg := e_x9
          have g_x9 : x9.toInt = ((I_m 1) x8.toNatClampNeg).toInt := congrArg _ e_x9
          refine PurI.cs (C := RX11) (As := [.int x9]) (kX11_letterOf l g x9) fx (gUS (uT _) u_747 u_748 u_5 u_749) rfl hdX11_letterOf ⟨Nat.le_of_ble_eq_true rfl, Nat.le_of_ble_eq_true rfl⟩ hK hP [] rfl rfl rfl hl.1 (Nat.le_of_ble_eq_true rfl) dX11_plainOf_59 (fun r10 p_r10 => ?_)
          refine lv_aload_n hx hb dX11_plainOf_62 rfl (lv_at hl 2 rfl) ?_
          refine va_get (D := g.1) (ci := 11) (v := .ref (a_m 1)) (C := RX11) (T := TX11) (N := 46) hx hb hi_X11 (fun _ h => h) hown hK.1 hP 0 rfl rfl 0 (by decide) hf_7 (fun _ h9 => h9) rfl dX11_plainOf_63 ?_
          refine lv_bipush (v := 6) hx hb dX11_plainOf_66 (by decide) ?_
          have n_68 : vp_in (6 : Int32) 19800 := (t_in (by decide))
          refine va_iald hx hb hK.1 hP 1 0 rfl rfl n_68 dX11_plainOf_68 ?_
          refine q_nm (fun x11 e_x11 => ?_)
          have e_x11 : x11 = (I_m 1) 6 := e_x11
          have g_x11 : x11.toInt = ((I_m 1) 6).toInt := congrArg _ e_x11
          refine PurI.cv (As := [.int r10, .int x11]) (kX11_justOf l g a_m I_m J_m r10 x11 hM) fx (gUV (uT _) u_760 u_761 u_762 u_5 u_763) rfl hdX11_justOf ⟨Nat.le_of_ble_eq_true rfl, Nat.le_of_ble_eq_true rfl⟩ hK hP [0, 1, 2, 3, 4, 5, 6, 7, 8, 9, 10, 11, 12, 13, 14, 15, 16, 17, 18, 19, 20, 21, 22] rfl rfl rfl rfl rfl hl.1 (Nat.le_of_ble_eq_true rfl) dX11_plainOf_69 (fun r12 p_r12 => ?_)
          refine lv_istore_n (lv' := [(3, .int r12), (2, .int v2_18), (1, .int v1_18), (0, .ref (a_m 0))]) hx hb dX11_plainOf_72 rfl hl (by decide) rfl (fun ls hl => ?_)
          refine lv_iload_n hx hb dX11_plainOf_73 rfl (lv_at hl 0 rfl) ?_
          refine lv_iconst (v := -1) hx hb dX11_plainOf_74 (by decide) ?_
          refine q_icmp_ne (tgt := 80) hx hb dX11_plainOf_75 (by decide) rfl (by decide : (-1 : Int32).toInt = -1) (fun k_75 => ?_) (fun k_75 => ?_)
          · refine lv_iload_n hx hb dX11_plainOf_80 rfl (lv_at hl 2 rfl) ?_
            refine lv_aload_n hx hb dX11_plainOf_81 rfl (lv_at hl 3 rfl) ?_
            refine lv_iload_n hx hb dX11_plainOf_82 rfl (lv_at hl 0 rfl) ?_
            refine PurI.cv (As := [.int r12]) (kX11_cellsOf l g a_m I_m J_m r12 hM (by omega)) fx (gUV (uT _) u_826 u_827 u_828 u_5 u_829) rfl hdX11_cellsOf ⟨Nat.le_of_ble_eq_true rfl, Nat.le_of_ble_eq_true rfl⟩ hK hP [0, 1, 2, 3, 4, 5, 6, 7, 8, 9, 10, 11, 12, 13, 14, 15, 16, 17, 18, 19, 20, 21, 22] rfl rfl rfl rfl rfl hl.1 (Nat.le_of_ble_eq_true rfl) dX11_plainOf_83 (fun r13 p_r13 => ?_)
            refine r_iadd hx hb dX11_plainOf_86 rfl rfl (fun x14 e_x14 t_x14 => ?_)
            try have t_x14 := t_x14 (by omega)
            refine lv_istore_n (lv' := [(1, .int x14), (3, .int r12), (2, .int v2_18), (0, .ref (a_m 0))]) hx hb dX11_plainOf_87 rfl hl (by decide) rfl (fun ls hl => ?_)
            refine r_iinc (lv' := fun i15 => [(2, .int i15), (1, .int x14), (3, .int r12), (0, .ref (a_m 0))]) hx hb dX11_plainOf_88 hl (k := 2) rfl (by decide) rfl (by decide) (fun _ => rfl) (fun i15 e_i15 t_i15 ls hl => ?_)
            try have t_i15 := t_i15 (by omega)
            refine lv_goto (tgt := 18) hx hb dX11_plainOf_91 (by decide) ?_
            exact ih_18 x14 i15 (by omega) (by omega) ls (lv_sub hl [0, 1, 3] rfl)
          · refine lv_iconst (v := -1) hx hb dX11_plainOf_78 (by decide) ?_
            exact hret 79 ls (-1 : Int32) dX11_plainOf_79 trivial
        · have q_42 := bP.f p_r7 b_42
          refine lv_goto (tgt := 88) hx hb dX11_plainOf_45 (by decide) ?_
          refine r_iinc (lv' := fun i16 => [(2, .int i16), (1, .int v1_18), (0, .ref (a_m 0))]) hx hb dX11_plainOf_88 hl (k := 0) rfl (by decide) rfl (by decide) (fun _ => rfl) (fun i16 e_i16 t_i16 ls hl => ?_)
          try have t_i16 := t_i16 (by omega)
          refine lv_goto (tgt := 18) hx hb dX11_plainOf_91 (by decide) ?_
          exact ih_18 v1_18 i16 (by omega) (by omega) ls hl
  exact L18 ((301 - (0 : Int32).toInt) + 1).toNat x3 (0 : Int32) (by omega) (by omega) ls hl

set_option maxHeartbeats 4000000 in
set_option maxRecDepth 100000 in
theorem kX11_saved (l : Launch) (g : gG) (a_m : Nat → Nat) (I_m : Nat → Nat → Int32) (J_m : Nat → Nat → Int64) (hM : MI I_m) : EffI l g yX11_saved wsX11_saved 3 [.ref (a_m 0)] (wX11 g a_m I_m J_m) (fun (u : (Nat → Nat → Int32)) => wX11 g a_m u J_m) (fun r (u : (Nat → Nat → Int32)) => KK [] [1] I_m (u)) := by
  refine EffI.st (cc := cX11_saved) (maxL := 1) (by decide) rfl (Nat.le_of_ble_eq_true rfl) (fun p e s m args below meth c A Q ls fx hK hP hD hA hS hl hret => ?_)
  have hx := fx.1
  have hb := fx.2.1
  have hml := fx.2.2.1
  have hown := fx.2.2.2.1
  have hts := fx.2.2.2.2
  have hl : lv_has ls 1 [(0, .ref (a_m 0))] := hl
  have hP : va_P g.1 vwCl (wX11 g a_m I_m J_m) s.heap := hP
  have hf_7 := hts _ (uT _ _ u_170)
  have hi_X11 : ∀ w ∈ wsX110, w.before args s = true := fun w h => hts w (uT _ w (u_wsX110 w h))
  have lm1 : (-1 : Int32).toInt = -1 := by decide
  have lm0 : (0 : Int32).toInt = 0 := by decide
  have lm2 : (1 : Int32).toInt = 1 := by decide
  have lq6 : (6 : Int32).toInt = 6 := by decide
  have lq7 : (7 : Int32).toInt = 7 := by decide
  have lq8 : (8 : Int32).toInt = 8 := by decide
  have lq1 : (1 : Int32).toInt = 1 := by decide
  refine lv_aload_n hx hb dX11_saved_0 rfl (lv_at hl 0 rfl) ?_
  refine PurI.cv (As := []) (kX11_isSet l g a_m I_m J_m hM) fx (gUV (uT _) u_856 u_857 u_858 u_5 u_859) rfl hdX11_isSet ⟨Nat.le_of_ble_eq_true rfl, Nat.le_of_ble_eq_true rfl⟩ hK hP [0, 1, 2, 3, 4, 5, 6, 7, 8, 9, 10, 11, 12, 13, 14, 15, 16, 17, 18, 19, 20, 21, 22] rfl rfl rfl rfl rfl hl.1 (Nat.le_of_ble_eq_true rfl) dX11_saved_1 (fun r1 p_r1 => ?_)
  refine q_if_ne (tgt := 14) hx hb dX11_saved_4 (by decide) rfl (fun b_4 k_4 => ?_) (fun b_4 k_4 => ?_)
  · have q_4 := bP.t p_r1 b_4
    refine lv_aload_n hx hb dX11_saved_14 rfl (lv_at hl 0 rfl) ?_
    refine PurI.cv (As := []) (kX11_plainOf l g a_m I_m J_m hM) fx (gUV (uT _) u_1036 u_1037 u_1038 u_5 u_1039) rfl hdX11_plainOf ⟨Nat.le_of_ble_eq_true rfl, Nat.le_of_ble_eq_true rfl⟩ hK hP [0, 1, 2, 3, 4, 5, 6, 7, 8, 9, 10, 11, 12, 13, 14, 15, 16, 17, 18, 19, 20, 21, 22] rfl rfl rfl rfl rfl hl.1 (Nat.le_of_ble_eq_true rfl) dX11_saved_15 (fun r2 p_r2 => ?_)
    refine lv_iconst (v := -1) hx hb dX11_saved_18 (by decide) ?_
    refine q_icmp_ne (tgt := 31) hx hb dX11_saved_19 (by decide) rfl (by decide : (-1 : Int32).toInt = -1) (fun k_19 => ?_) (fun k_19 => ?_)
    · refine lv_aload_n hx hb dX11_saved_31 rfl (lv_at hl 0 rfl) ?_
      refine lv_aload_n hx hb dX11_saved_32 rfl (lv_at hl 0 rfl) ?_
      refine PurI.cv (As := []) (kX11_plainOf l g a_m I_m J_m hM) fx (gUV (uT _) u_1036 u_1037 u_1038 u_5 u_1039) rfl hdX11_plainOf ⟨Nat.le_of_ble_eq_true rfl, Nat.le_of_ble_eq_true rfl⟩ hK hP [0, 1, 2, 3, 4, 5, 6, 7, 8, 9, 10, 11, 12, 13, 14, 15, 16, 17, 18, 19, 20, 21, 22] rfl rfl rfl rfl rfl hl.1 (Nat.le_of_ble_eq_true rfl) dX11_saved_33 (fun r3 p_r3 => ?_)
      refine lv_aload_n hx hb dX11_saved_36 rfl (lv_at hl 0 rfl) ?_
      refine va_get (D := g.1) (ci := 11) (v := .ref (a_m 1)) (C := RX11) (T := TX11) (N := 46) hx hb hi_X11 (fun _ h => h) hown hK.1 hP 0 rfl rfl 0 (by decide) hf_7 (fun _ h9 => h9) rfl dX11_saved_37 ?_
      refine lv_bipush (v := 8) hx hb dX11_saved_40 (by decide) ?_
      have n_42 : vp_in (8 : Int32) 19800 := (t_in (by decide))
      refine va_iald hx hb hK.1 hP 1 0 rfl rfl n_42 dX11_saved_42 ?_
      refine q_nm (fun x4 e_x4 => ?_)
      have e_x4 : x4 = (I_m 1) 8 := e_x4
      have g_x4 : x4.toInt = ((I_m 1) 8).toInt := congrArg _ e_x4
      have f_x4 := MI.set hM e_x4
      refine r_isub hx hb dX11_saved_43 rfl rfl (fun x5 e_x5 t_x5 => ?_)
      try have t_x5 := t_x5 (by omega)
      refine EffI.cv (wr := ([])) (w' := fun u7 => wX11 g a_m u7 J_m) (As := [.int x5]) (kX11_gives l g a_m I_m J_m x5) fx (gUV (uT _) u_585 u_586 u_587 u_5 u_588) rfl hdX11_gives ⟨Nat.le_of_ble_eq_true rfl, Nat.le_of_ble_eq_true rfl⟩ hK hP hD hS hA [0, 1, 2, 3, 4, 5, 6, 7, 8, 9, 10, 11, 12, 13, 14, 15, 16, 17, 18, 19, 20, 21, 22] [] [0, 1, 2, 3, 4, 5, 6, 7, 8, 9, 10, 11, 12, 13, 14, 15, 16, 17, 18, 19, 20, 21, 22] rfl rfl rfl rfl (by decide) rfl (fun _ => rfl) rfl rfl rfl rfl hl.1 (Nat.le_of_ble_eq_true rfl) dX11_saved_44 (fun r6 u7 H locs p_r6 hP hD hS => ?_)
      have hP : va_P g.1 vwCl (wX11 g a_m u7 J_m) H := hP
      have hD : va_D A (wX11 g a_m u7 J_m) := hD
      refine hret 47 ls r6 _ _ u7 dX11_saved_47 hS hP hD ?_
      exact (KK.st (KK.rf I_m) p_r6.2 (by decide))
    · refine lv_aload_n hx hb dX11_saved_22 rfl (lv_at hl 0 rfl) ?_
      refine lv_bipush (v := 7) hx hb dX11_saved_23 (by decide) ?_
      refine EffI.cv (wr := ([])) (w' := fun u9 => wX11 g a_m u9 J_m) (As := [.int (7 : Int32)]) (kX11_refuse l g a_m I_m J_m (7 : Int32)) fx (gUV (uT _) u_536 u_537 u_538 u_5 u_539) rfl hdX11_refuse ⟨Nat.le_of_ble_eq_true rfl, Nat.le_of_ble_eq_true rfl⟩ hK hP hD hS hA [0, 1, 2, 3, 4, 5, 6, 7, 8, 9, 10, 11, 12, 13, 14, 15, 16, 17, 18, 19, 20, 21, 22] [] [0, 1, 2, 3, 4, 5, 6, 7, 8, 9, 10, 11, 12, 13, 14, 15, 16, 17, 18, 19, 20, 21, 22] rfl rfl rfl rfl (by decide) rfl (fun _ => rfl) rfl rfl rfl rfl hl.1 (Nat.le_of_ble_eq_true rfl) dX11_saved_25 (fun r8 u9 H locs p_r8 hP hD hS => ?_)
      have hP : va_P g.1 vwCl (wX11 g a_m u9 J_m) H := hP
      have hD : va_D A (wX11 g a_m u9 J_m) := hD
      refine lv_goto (tgt := 47) hx hb dX11_saved_28 (by decide) ?_
      refine hret 47 ls r8 _ _ u9 dX11_saved_47 hS hP hD ?_
      exact (KK.st (KK.rf I_m) p_r8.2 (by decide))
  · have q_4 := bP.f p_r1 b_4
    refine lv_aload_n hx hb dX11_saved_7 rfl (lv_at hl 0 rfl) ?_
    refine lv_bipush (v := 6) hx hb dX11_saved_8 (by decide) ?_
    refine EffI.cv (wr := ([])) (w' := fun u11 => wX11 g a_m u11 J_m) (As := [.int (6 : Int32)]) (kX11_refuse l g a_m I_m J_m (6 : Int32)) fx (gUV (uT _) u_536 u_537 u_538 u_5 u_539) rfl hdX11_refuse ⟨Nat.le_of_ble_eq_true rfl, Nat.le_of_ble_eq_true rfl⟩ hK hP hD hS hA [0, 1, 2, 3, 4, 5, 6, 7, 8, 9, 10, 11, 12, 13, 14, 15, 16, 17, 18, 19, 20, 21, 22] [] [0, 1, 2, 3, 4, 5, 6, 7, 8, 9, 10, 11, 12, 13, 14, 15, 16, 17, 18, 19, 20, 21, 22] rfl rfl rfl rfl (by decide) rfl (fun _ => rfl) rfl rfl rfl rfl hl.1 (Nat.le_of_ble_eq_true rfl) dX11_saved_10 (fun r10 u11 H locs p_r10 hP hD hS => ?_)
    have hP : va_P g.1 vwCl (wX11 g a_m u11 J_m) H := hP
    have hD : va_D A (wX11 g a_m u11 J_m) := hD
    refine hret 13 ls r10 _ _ u11 dX11_saved_13 hS hP hD ?_
    exact (KK.st (KK.rf I_m) p_r10.2 (by decide))

set_option maxHeartbeats 4000000 in
set_option maxRecDepth 100000 in
theorem kX11_plain (l : Launch) (g : gG) (a_m : Nat → Nat) (I_m : Nat → Nat → Int32) (J_m : Nat → Nat → Int64) (hM : MI I_m) : EffI l g yX11_plain wsX11_plain 3 [.ref (a_m 0)] (wX11 g a_m I_m J_m) (fun (u : (Nat → Nat → Int32)) => wX11 g a_m u J_m) (fun r (u : (Nat → Nat → Int32)) => KK [] [1] I_m (u)) := by
  refine EffI.st (cc := cX11_plain) (maxL := 1) (by decide) rfl (Nat.le_of_ble_eq_true rfl) (fun p e s m args below meth c A Q ls fx hK hP hD hA hS hl hret => ?_)
  have hx := fx.1
  have hb := fx.2.1
  have hml := fx.2.2.1
  have hown := fx.2.2.2.1
  have hts := fx.2.2.2.2
  have hl : lv_has ls 1 [(0, .ref (a_m 0))] := hl
  have hP : va_P g.1 vwCl (wX11 g a_m I_m J_m) s.heap := hP
  have lm1 : (-1 : Int32).toInt = -1 := by decide
  have lm0 : (0 : Int32).toInt = 0 := by decide
  have lm2 : (1 : Int32).toInt = 1 := by decide
  have lq6 : (6 : Int32).toInt = 6 := by decide
  have lq7 : (7 : Int32).toInt = 7 := by decide
  have lq1 : (1 : Int32).toInt = 1 := by decide
  refine lv_aload_n hx hb dX11_plain_0 rfl (lv_at hl 0 rfl) ?_
  refine PurI.cv (As := []) (kX11_isSet l g a_m I_m J_m hM) fx (gUV (uT _) u_856 u_857 u_858 u_5 u_859) rfl hdX11_isSet ⟨Nat.le_of_ble_eq_true rfl, Nat.le_of_ble_eq_true rfl⟩ hK hP [0, 1, 2, 3, 4, 5, 6, 7, 8, 9, 10, 11, 12, 13, 14, 15, 16, 17, 18, 19, 20, 21, 22] rfl rfl rfl rfl rfl hl.1 (Nat.le_of_ble_eq_true rfl) dX11_plain_1 (fun r1 p_r1 => ?_)
  refine q_if_ne (tgt := 14) hx hb dX11_plain_4 (by decide) rfl (fun b_4 k_4 => ?_) (fun b_4 k_4 => ?_)
  · have q_4 := bP.t p_r1 b_4
    refine lv_aload_n hx hb dX11_plain_14 rfl (lv_at hl 0 rfl) ?_
    refine PurI.cv (As := []) (kX11_plainOf l g a_m I_m J_m hM) fx (gUV (uT _) u_1036 u_1037 u_1038 u_5 u_1039) rfl hdX11_plainOf ⟨Nat.le_of_ble_eq_true rfl, Nat.le_of_ble_eq_true rfl⟩ hK hP [0, 1, 2, 3, 4, 5, 6, 7, 8, 9, 10, 11, 12, 13, 14, 15, 16, 17, 18, 19, 20, 21, 22] rfl rfl rfl rfl rfl hl.1 (Nat.le_of_ble_eq_true rfl) dX11_plain_15 (fun r2 p_r2 => ?_)
    refine lv_iconst (v := -1) hx hb dX11_plain_18 (by decide) ?_
    refine q_icmp_ne (tgt := 31) hx hb dX11_plain_19 (by decide) rfl (by decide : (-1 : Int32).toInt = -1) (fun k_19 => ?_) (fun k_19 => ?_)
    · refine lv_aload_n hx hb dX11_plain_31 rfl (lv_at hl 0 rfl) ?_
      refine lv_aload_n hx hb dX11_plain_32 rfl (lv_at hl 0 rfl) ?_
      refine PurI.cv (As := []) (kX11_plainOf l g a_m I_m J_m hM) fx (gUV (uT _) u_1036 u_1037 u_1038 u_5 u_1039) rfl hdX11_plainOf ⟨Nat.le_of_ble_eq_true rfl, Nat.le_of_ble_eq_true rfl⟩ hK hP [0, 1, 2, 3, 4, 5, 6, 7, 8, 9, 10, 11, 12, 13, 14, 15, 16, 17, 18, 19, 20, 21, 22] rfl rfl rfl rfl rfl hl.1 (Nat.le_of_ble_eq_true rfl) dX11_plain_33 (fun r3 p_r3 => ?_)
      refine EffI.cv (wr := ([])) (w' := fun u5 => wX11 g a_m u5 J_m) (As := [.int r3]) (kX11_gives l g a_m I_m J_m r3) fx (gUV (uT _) u_585 u_586 u_587 u_5 u_588) rfl hdX11_gives ⟨Nat.le_of_ble_eq_true rfl, Nat.le_of_ble_eq_true rfl⟩ hK hP hD hS hA [0, 1, 2, 3, 4, 5, 6, 7, 8, 9, 10, 11, 12, 13, 14, 15, 16, 17, 18, 19, 20, 21, 22] [] [0, 1, 2, 3, 4, 5, 6, 7, 8, 9, 10, 11, 12, 13, 14, 15, 16, 17, 18, 19, 20, 21, 22] rfl rfl rfl rfl (by decide) rfl (fun _ => rfl) rfl rfl rfl rfl hl.1 (Nat.le_of_ble_eq_true rfl) dX11_plain_36 (fun r4 u5 H locs p_r4 hP hD hS => ?_)
      have hP : va_P g.1 vwCl (wX11 g a_m u5 J_m) H := hP
      have hD : va_D A (wX11 g a_m u5 J_m) := hD
      refine hret 39 ls r4 _ _ u5 dX11_plain_39 hS hP hD ?_
      exact (KK.st (KK.rf I_m) p_r4.2 (by decide))
    · refine lv_aload_n hx hb dX11_plain_22 rfl (lv_at hl 0 rfl) ?_
      refine lv_bipush (v := 7) hx hb dX11_plain_23 (by decide) ?_
      refine EffI.cv (wr := ([])) (w' := fun u7 => wX11 g a_m u7 J_m) (As := [.int (7 : Int32)]) (kX11_refuse l g a_m I_m J_m (7 : Int32)) fx (gUV (uT _) u_536 u_537 u_538 u_5 u_539) rfl hdX11_refuse ⟨Nat.le_of_ble_eq_true rfl, Nat.le_of_ble_eq_true rfl⟩ hK hP hD hS hA [0, 1, 2, 3, 4, 5, 6, 7, 8, 9, 10, 11, 12, 13, 14, 15, 16, 17, 18, 19, 20, 21, 22] [] [0, 1, 2, 3, 4, 5, 6, 7, 8, 9, 10, 11, 12, 13, 14, 15, 16, 17, 18, 19, 20, 21, 22] rfl rfl rfl rfl (by decide) rfl (fun _ => rfl) rfl rfl rfl rfl hl.1 (Nat.le_of_ble_eq_true rfl) dX11_plain_25 (fun r6 u7 H locs p_r6 hP hD hS => ?_)
      have hP : va_P g.1 vwCl (wX11 g a_m u7 J_m) H := hP
      have hD : va_D A (wX11 g a_m u7 J_m) := hD
      refine lv_goto (tgt := 39) hx hb dX11_plain_28 (by decide) ?_
      refine hret 39 ls r6 _ _ u7 dX11_plain_39 hS hP hD ?_
      exact (KK.st (KK.rf I_m) p_r6.2 (by decide))
  · have q_4 := bP.f p_r1 b_4
    refine lv_aload_n hx hb dX11_plain_7 rfl (lv_at hl 0 rfl) ?_
    refine lv_bipush (v := 6) hx hb dX11_plain_8 (by decide) ?_
    refine EffI.cv (wr := ([])) (w' := fun u9 => wX11 g a_m u9 J_m) (As := [.int (6 : Int32)]) (kX11_refuse l g a_m I_m J_m (6 : Int32)) fx (gUV (uT _) u_536 u_537 u_538 u_5 u_539) rfl hdX11_refuse ⟨Nat.le_of_ble_eq_true rfl, Nat.le_of_ble_eq_true rfl⟩ hK hP hD hS hA [0, 1, 2, 3, 4, 5, 6, 7, 8, 9, 10, 11, 12, 13, 14, 15, 16, 17, 18, 19, 20, 21, 22] [] [0, 1, 2, 3, 4, 5, 6, 7, 8, 9, 10, 11, 12, 13, 14, 15, 16, 17, 18, 19, 20, 21, 22] rfl rfl rfl rfl (by decide) rfl (fun _ => rfl) rfl rfl rfl rfl hl.1 (Nat.le_of_ble_eq_true rfl) dX11_plain_10 (fun r8 u9 H locs p_r8 hP hD hS => ?_)
    have hP : va_P g.1 vwCl (wX11 g a_m u9 J_m) H := hP
    have hD : va_D A (wX11 g a_m u9 J_m) := hD
    refine hret 13 ls r8 _ _ u9 dX11_plain_13 hS hP hD ?_
    exact (KK.st (KK.rf I_m) p_r8.2 (by decide))

set_option maxHeartbeats 4000000 in
set_option maxRecDepth 100000 in
theorem kX11_leastOf (l : Launch) (g : gG) (a_m : Nat → Nat) (I_m : Nat → Nat → Int32) (J_m : Nat → Nat → Int64) (first : Int32) (last : Int32) (hM : MI I_m) (h_f : 0 ≤ first.toInt ∧ first.toInt ≤ last.toInt ∧ last.toInt ≤ 300) : EffI l g yX11_leastOf wsX11_leastOf 3 [.ref (a_m 0), .int first, .int last] (wX11 g a_m I_m J_m) (fun (u : (Nat → Nat → Int32)) => wX11 g a_m u J_m) (fun r (u : (Nat → Nat → Int32)) => KK [13] [] I_m (u)) := by
  refine EffI.st (cc := cX11_leastOf) (maxL := 5) (by decide) rfl (Nat.le_of_ble_eq_true rfl) (fun p e s m args below meth c A Q ls fx hK hP hD hA hS hl hret => ?_)
  have hx := fx.1
  have hb := fx.2.1
  have hml := fx.2.2.1
  have hown := fx.2.2.2.1
  have hts := fx.2.2.2.2
  have hl : lv_has ls 5 [(0, .ref (a_m 0)), (1, .int first), (2, .int last)] := hl
  have hP : va_P g.1 vwCl (wX11 g a_m I_m J_m) s.heap := hP
  have hf_7 := hts _ (uT _ _ u_170)
  have hf_59 := hts _ (uT _ _ u_186)
  have hi_X11 : ∀ w ∈ wsX110, w.before args s = true := fun w h => hts w (uT _ w (u_wsX110 w h))
  have hc_362 := hts _ (uT _ _ u_1076)
  have lm1 : (-1 : Int32).toInt = -1 := by decide
  have lm0 : (0 : Int32).toInt = 0 := by decide
  have lm2 : (1 : Int32).toInt = 1 := by decide
  have lq6 : (6 : Int32).toInt = 6 := by decide
  have lq1 : (1 : Int32).toInt = 1 := by decide
  refine lv_aload_n hx hb dX11_leastOf_0 rfl (lv_at hl 0 rfl) ?_
  refine va_get (D := g.1) (ci := 11) (v := .ref (a_m 13)) (C := RX11) (T := TX11) (N := 46) hx hb hi_X11 (fun _ h => h) hown hK.1 hP 0 rfl rfl 31 (by decide) hf_59 (fun _ h9 => h9) rfl dX11_leastOf_1 ?_
  refine lv_iload_n hx hb dX11_leastOf_4 rfl (lv_at hl 2 rfl) ?_
  refine lv_iconst (v := 0) hx hb dX11_leastOf_5 (by decide) ?_
  have n_6 : vp_in last 301 := (t_in (by omega))
  obtain ⟨f1, e_f1⟩ : ∃ z, z = upd (I_m 13) last.toNatClampNeg (0 : Int32) := ⟨_, rfl⟩
  refine va_iast hx hb hK.1 hP hD hS 13 0 rfl rfl n_6 dX11_leastOf_6 (fun H locs hP hD hS => ?_)
  have hP : va_P g.1 vwCl (wX11 g a_m (uR I_m 13 f1) J_m) H := by rw [e_f1]; exact hP
  have hD : va_D A (wX11 g a_m (uR I_m 13 f1) J_m) := by rw [e_f1]; exact hD
  have hc_6 : MI (uR I_m 13 f1) := MI.ur hM (by decide)
  have hk_6 : KK [13] [] I_m (uR I_m 13 f1) := KK.ur (KK.rf I_m) (by decide) (by decide)
  refine lv_iload_n hx hb dX11_leastOf_7 rfl (lv_at hl 2 rfl) ?_
  refine lv_iconst (v := 1) hx hb dX11_leastOf_8 (by decide) ?_
  refine r_isub hx hb dX11_leastOf_9 rfl (by decide : (1 : Int32).toInt = 1) (fun x2 e_x2 t_x2 => ?_)
  try have t_x2 := t_x2 (by omega)
  refine lv_istore_n (lv' := [(3, .int x2), (0, .ref (a_m 0)), (1, .int first), (2, .int last)]) hx hb dX11_leastOf_10 rfl hl (by decide) rfl (fun ls hl => ?_)
  have L11 : ∀ (nn : Nat) (v3_11 : Int32) (I_m_11 : Nat → Nat → Int32), (hM_11 : MI I_m_11) → (hk_11 : KK [13] [] I_m I_m_11) → (hv_11 : first.toInt - 1 ≤ v3_11.toInt ∧ v3_11.toInt < last.toInt) → ((v3_11.toInt + 2) < (nn : Int)) → ∀ (H : Heap) (locs : List Loc), va_P g.1 vwCl (wX11 g a_m I_m_11 J_m) H → va_D A (wX11 g a_m I_m_11 J_m) → va_S A s.heap H locs → ∀ ls : Array Slot, lv_has ls 5 [(3, .int v3_11), (0, .ref (a_m 0)), (1, .int first), (2, .int last)] → W p l e (rm 3) s m args below meth c H locs 0 0 Q (F0 m 11 ls []) := by
    intro n_11
    induction n_11 with
    | zero =>
      intro v3_11 I_m_11 hM_11 hk_11 hv_11 hms_11 H locs hP hD hS ls hl
      exfalso; omega
    | succ n_11 ih_11 =>
      intro v3_11 I_m_11 hM_11 hk_11 hv_11 hms_11 H locs hP hD hS ls hl
      refine lv_iload_n hx hb dX11_leastOf_11 rfl (lv_at hl 0 rfl) ?_
      refine lv_iload_n hx hb dX11_leastOf_12 rfl (lv_at hl 2 rfl) ?_
      refine q_icmp_lt (tgt := 135) hx hb dX11_leastOf_13 (by decide) rfl rfl (fun k_13 => ?_) (fun k_13 => ?_)
      · refine lv_aload_n hx hb dX11_leastOf_135 rfl (lv_at hl 1 rfl) ?_
        refine va_get (D := g.1) (ci := 11) (v := .ref (a_m 13)) (C := RX11) (T := TX11) (N := 46) hx hb hi_X11 (fun _ h => h) hown hK.1 hP 0 rfl rfl 31 (by decide) hf_59 (fun _ h9 => h9) rfl dX11_leastOf_136 ?_
        refine lv_iload_n hx hb dX11_leastOf_139 rfl (lv_at hl 2 rfl) ?_
        have n_140 : vp_in first 301 := (t_in (by omega))
        refine va_iald hx hb hK.1 hP 13 0 rfl rfl n_140 dX11_leastOf_140 ?_
        refine q_nm (fun x3 e_x3 => ?_)
        have e_x3 : x3 = (I_m_11 13) first.toNatClampNeg := e_x3
        have g_x3 : x3.toInt = ((I_m_11 13) first.toNatClampNeg).toInt := congrArg _ e_x3
        refine hret 141 ls x3 _ _ I_m_11 dX11_leastOf_141 hS hP hD ?_
        exact hk_11
      · refine lv_aload_n hx hb dX11_leastOf_16 rfl (lv_at hl 1 rfl) ?_
        refine va_get (D := g.1) (ci := 11) (v := .ref (a_m 13)) (C := RX11) (T := TX11) (N := 46) hx hb hi_X11 (fun _ h => h) hown hK.1 hP 0 rfl rfl 31 (by decide) hf_59 (fun _ h9 => h9) rfl dX11_leastOf_17 ?_
        refine lv_iload_n hx hb dX11_leastOf_20 rfl (lv_at hl 0 rfl) ?_
        refine lv_ldcw hx hb hown hc_362 dX11_leastOf_21 ?_
        have n_24 : vp_in v3_11 301 := (t_in (by omega))
        obtain ⟨f4, e_f4⟩ : ∃ z, z = upd (I_m_11 13) v3_11.toNatClampNeg (1000000 : Int32) := ⟨_, rfl⟩
        refine va_iast hx hb hK.1 hP hD hS 13 0 rfl rfl n_24 dX11_leastOf_24 (fun H locs hP hD hS => ?_)
        have hP : va_P g.1 vwCl (wX11 g a_m (uR I_m_11 13 f4) J_m) H := by rw [e_f4]; exact hP
        have hD : va_D A (wX11 g a_m (uR I_m_11 13 f4) J_m) := by rw [e_f4]; exact hD
        have hc_24 : MI (uR I_m_11 13 f4) := MI.ur hM_11 (by decide)
        have hk_24 : KK [13] [] I_m (uR I_m_11 13 f4) := KK.ur hk_11 (by decide) (by decide)
        refine lv_iconst (v := 0) hx hb dX11_leastOf_25 (by decide) ?_
        refine lv_istore (lv' := [(4, .int (0 : Int32)), (3, .int v3_11), (0, .ref (a_m 0)), (1, .int first), (2, .int last)]) hx hb dX11_leastOf_26 hl (by decide) rfl (fun ls hl => ?_)
        have L28 : ∀ (nn : Nat) (v4_28 : Int32) (I_m_28 : Nat → Nat → Int32), (hM_28 : MI I_m_28) → (hk_28 : KK [13] [] I_m I_m_28) → (hu_28 : 0 ≤ v4_28.toInt ∧ v4_28.toInt ≤ 24) → ((25 - v4_28.toInt) < (nn : Int)) → ∀ (H : Heap) (locs : List Loc), va_P g.1 vwCl (wX11 g a_m I_m_28 J_m) H → va_D A (wX11 g a_m I_m_28 J_m) → va_S A s.heap H locs → ∀ ls : Array Slot, lv_has ls 5 [(4, .int v4_28), (3, .int v3_11), (0, .ref (a_m 0)), (1, .int first), (2, .int last)] → W p l e (rm 3) s m args below meth c H locs 0 0 Q (F0 m 28 ls []) := by
          intro n_28
          induction n_28 with
          | zero =>
            intro v4_28 I_m_28 hM_28 hk_28 hu_28 hms_28 H locs hP hD hS ls hl
            exfalso; omega
          | succ n_28 ih_28 =>
            intro v4_28 I_m_28 hM_28 hk_28 hu_28 hms_28 H locs hP hD hS ls hl
            refine lv_iload hx hb dX11_leastOf_28 (lv_at hl 0 rfl) ?_
            refine lv_aload_n hx hb dX11_leastOf_30 rfl (lv_at hl 2 rfl) ?_
            refine va_get (D := g.1) (ci := 11) (v := .ref (a_m 1)) (C := RX11) (T := TX11) (N := 46) hx hb hi_X11 (fun _ h => h) hown hK.1 hP 0 rfl rfl 0 (by decide) hf_7 (fun _ h9 => h9) rfl dX11_leastOf_31 ?_
            refine lv_iconst (v := 0) hx hb dX11_leastOf_34 (by decide) ?_
            have n_35 : vp_in (0 : Int32) 19800 := (t_in (by decide))
            refine va_iald hx hb hK.1 hP 1 0 rfl rfl n_35 dX11_leastOf_35 ?_
            refine q_nm (fun x5 e_x5 => ?_)
            have e_x5 : x5 = (I_m_28 1) 0 := e_x5
            have g_x5 : x5.toInt = ((I_m_28 1) 0).toInt := congrArg _ e_x5
            have f_x5 := MI.many hM_28 e_x5
            refine q_icmp_ge (tgt := 129) hx hb dX11_leastOf_36 (by decide) rfl rfl (fun k_36 => ?_) (fun k_36 => ?_)
            · refine r_iinc (lv' := fun i6 => [(3, .int i6), (4, .int v4_28), (0, .ref (a_m 0)), (1, .int first), (2, .int last)]) hx hb dX11_leastOf_129 hl (k := 1) rfl (by decide) rfl (by decide) (fun _ => rfl) (fun i6 e_i6 t_i6 ls hl => ?_)
              try have t_i6 := t_i6 (by omega)
              refine lv_goto (tgt := 11) hx hb dX11_leastOf_132 (by decide) ?_
              exact ih_11 i6 I_m_28 hM_28 hk_28 (by omega) (by omega) _ _ hP hD hS ls (lv_sub hl [0, 2, 3, 4] rfl)
            · refine lv_aload_n hx hb dX11_leastOf_39 rfl (lv_at hl 2 rfl) ?_
              refine va_get (D := g.1) (ci := 11) (v := .ref (a_m 1)) (C := RX11) (T := TX11) (N := 46) hx hb hi_X11 (fun _ h => h) hown hK.1 hP 0 rfl rfl 0 (by decide) hf_7 (fun _ h9 => h9) rfl dX11_leastOf_40 ?_
              refine lv_bipush (v := 6) hx hb dX11_leastOf_43 (by decide) ?_
              have n_45 : vp_in (6 : Int32) 19800 := (t_in (by decide))
              refine va_iald hx hb hK.1 hP 1 0 rfl rfl n_45 dX11_leastOf_45 ?_
              refine q_nm (fun x7 e_x7 => ?_)
              have e_x7 : x7 = (I_m_28 1) 6 := e_x7
              have g_x7 : x7.toInt = ((I_m_28 1) 6).toInt := congrArg _ e_x7
              refine lv_iload hx hb dX11_leastOf_46 (lv_at hl 0 rfl) ?_
              refine PurI.cs (C := RX11) (As := [.int x7, .int v4_28]) (kX11_isOut l g x7 v4_28) fx (gUS (uT _) u_740 u_741 u_5 u_742) rfl hdX11_isOut ⟨Nat.le_of_ble_eq_true rfl, Nat.le_of_ble_eq_true rfl⟩ hK hP [] rfl rfl rfl hl.1 (Nat.le_of_ble_eq_true rfl) dX11_leastOf_48 (fun r8 p_r8 => ?_)
              refine q_if_ne (tgt := 123) hx hb dX11_leastOf_51 (by decide) rfl (fun b_51 k_51 => ?_) (fun b_51 k_51 => ?_)
              · have q_51 := bP.t p_r8 b_51
                refine r_iinc (lv' := fun i9 => [(4, .int i9), (3, .int v3_11), (0, .ref (a_m 0)), (1, .int first), (2, .int last)]) hx hb dX11_leastOf_123 hl (k := 0) rfl (by decide) rfl (by decide) (fun _ => rfl) (fun i9 e_i9 t_i9 ls hl => ?_)
                try have t_i9 := t_i9 (by omega)
                refine lv_goto (tgt := 28) hx hb dX11_leastOf_126 (by decide) ?_
                exact ih_28 i9 I_m_28 hM_28 hk_28 (by omega) (by omega) _ _ hP hD hS ls hl
              · have q_51 := bP.f p_r8 b_51
                refine lv_aload_n hx hb dX11_leastOf_54 rfl (lv_at hl 2 rfl) ?_
                refine lv_iload hx hb dX11_leastOf_55 (lv_at hl 0 rfl) ?_
                refine lv_iload_n hx hb dX11_leastOf_57 rfl (lv_at hl 1 rfl) ?_
                refine lv_iload_n hx hb dX11_leastOf_58 rfl (lv_at hl 3 rfl) ?_
                refine lv_iload_n hx hb dX11_leastOf_59 rfl (lv_at hl 4 rfl) ?_
                refine PurI.cv (As := [.int v4_28, .int v3_11, .int first, .int last]) (kX11_stands l g a_m I_m_28 J_m v4_28 v3_11 first last hM_28 (by omega) (by omega) (by omega)) fx (gUV (uT _) u_743 u_744 u_745 u_5 u_746) rfl hdX11_stands ⟨Nat.le_of_ble_eq_true rfl, Nat.le_of_ble_eq_true rfl⟩ hK hP [0, 1, 2, 3, 4, 5, 6, 7, 8, 9, 10, 11, 12, 13, 14, 15, 16, 17, 18, 19, 20, 21, 22] rfl rfl rfl rfl rfl hl.1 (Nat.le_of_ble_eq_true rfl) dX11_leastOf_60 (fun r10 p_r10 => ?_)
                have hs60 := p_r10
                refine q_if_eq (tgt := 123) hx hb dX11_leastOf_63 (by decide) rfl (fun b_63 k_63 => ?_) (fun b_63 k_63 => ?_)
                · have q_63 := bP.f p_r10 b_63
                  refine r_iinc (lv' := fun i11 => [(4, .int i11), (3, .int v3_11), (0, .ref (a_m 0)), (1, .int first), (2, .int last)]) hx hb dX11_leastOf_123 hl (k := 0) rfl (by decide) rfl (by decide) (fun _ => rfl) (fun i11 e_i11 t_i11 ls hl => ?_)
                  try have t_i11 := t_i11 (by omega)
                  refine lv_goto (tgt := 28) hx hb dX11_leastOf_126 (by decide) ?_
                  exact ih_28 i11 I_m_28 hM_28 hk_28 (by omega) (by omega) _ _ hP hD hS ls hl
                · have q_63 := bP.t p_r10 b_63
                  refine lv_aload_n hx hb dX11_leastOf_66 rfl (lv_at hl 2 rfl) ?_
                  refine va_get (D := g.1) (ci := 11) (v := .ref (a_m 13)) (C := RX11) (T := TX11) (N := 46) hx hb hi_X11 (fun _ h => h) hown hK.1 hP 0 rfl rfl 31 (by decide) hf_59 (fun _ h9 => h9) rfl dX11_leastOf_67 ?_
                  refine lv_iload_n hx hb dX11_leastOf_70 rfl (lv_at hl 1 rfl) ?_
                  refine lv_aload_n hx hb dX11_leastOf_71 rfl (lv_at hl 2 rfl) ?_
                  refine va_get (D := g.1) (ci := 11) (v := .ref (a_m 13)) (C := RX11) (T := TX11) (N := 46) hx hb hi_X11 (fun _ h => h) hown hK.1 hP 0 rfl rfl 31 (by decide) hf_59 (fun _ h9 => h9) rfl dX11_leastOf_72 ?_
                  refine lv_iload_n hx hb dX11_leastOf_75 rfl (lv_at hl 1 rfl) ?_
                  have n_76 : vp_in v3_11 301 := (t_in (by omega))
                  refine va_iald hx hb hK.1 hP 13 0 rfl rfl n_76 dX11_leastOf_76 ?_
                  refine q_nm (fun x12 e_x12 => ?_)
                  have e_x12 : x12 = (I_m_28 13) v3_11.toNatClampNeg := e_x12
                  have g_x12 : x12.toInt = ((I_m_28 13) v3_11.toNatClampNeg).toInt := congrArg _ e_x12
                  refine lv_aload_n hx hb dX11_leastOf_77 rfl (lv_at hl 2 rfl) ?_
                  refine lv_iload hx hb dX11_leastOf_78 (lv_at hl 0 rfl) ?_
                  refine PurI.cv (As := [.int v4_28]) (kX11_cellsOf l g a_m I_m_28 J_m v4_28 hM_28 (by omega)) fx (gUV (uT _) u_826 u_827 u_828 u_5 u_829) rfl hdX11_cellsOf ⟨Nat.le_of_ble_eq_true rfl, Nat.le_of_ble_eq_true rfl⟩ hK hP [0, 1, 2, 3, 4, 5, 6, 7, 8, 9, 10, 11, 12, 13, 14, 15, 16, 17, 18, 19, 20, 21, 22] rfl rfl rfl rfl rfl hl.1 (Nat.le_of_ble_eq_true rfl) dX11_leastOf_80 (fun r13 p_r13 => ?_)
                  refine lv_aload_n hx hb dX11_leastOf_83 rfl (lv_at hl 2 rfl) ?_
                  refine lv_iload_n hx hb dX11_leastOf_84 rfl (lv_at hl 1 rfl) ?_
                  refine PurI.cv (As := [.int v3_11]) (kX11_byteOf l g a_m I_m_28 J_m v3_11 hM_28 (by omega)) fx (gUV (uT _) u_704 u_705 u_706 u_5 u_707) rfl hdX11_byteOf ⟨Nat.le_of_ble_eq_true rfl, Nat.le_of_ble_eq_true rfl⟩ hK hP [0, 1, 2, 3, 4, 5, 6, 7, 8, 9, 10, 11, 12, 13, 14, 15, 16, 17, 18, 19, 20, 21, 22] rfl rfl rfl rfl rfl hl.1 (Nat.le_of_ble_eq_true rfl) dX11_leastOf_85 (fun r14 p_r14 => ?_)
                  refine PurI.cs (C := RX11) (As := [.int r14]) (kX11_isGreat l g r14) fx (gUS (uT _) u_714 u_715 u_5 u_716) rfl hdX11_isGreat ⟨Nat.le_of_ble_eq_true rfl, Nat.le_of_ble_eq_true rfl⟩ hK hP [] rfl rfl rfl hl.1 (Nat.le_of_ble_eq_true rfl) dX11_leastOf_88 (fun r15 p_r15 => ?_)
                  refine q_if_eq (tgt := 98) hx hb dX11_leastOf_91 (by decide) rfl (fun b_91 k_91 => ?_) (fun b_91 k_91 => ?_)
                  · have q_91 := bP.f p_r15 b_91
                    refine lv_iconst (v := 0) hx hb dX11_leastOf_98 (by decide) ?_
                    refine r_iadd hx hb dX11_leastOf_99 rfl (by decide : (0 : Int32).toInt = 0) (fun x16 e_x16 t_x16 => ?_)
                    try have t_x16 := t_x16 (by omega)
                    refine lv_aload_n hx hb dX11_leastOf_100 rfl (lv_at hl 2 rfl) ?_
                    refine va_get (D := g.1) (ci := 11) (v := .ref (a_m 13)) (C := RX11) (T := TX11) (N := 46) hx hb hi_X11 (fun _ h => h) hown hK.1 hP 0 rfl rfl 31 (by decide) hf_59 (fun _ h9 => h9) rfl dX11_leastOf_101 ?_
                    refine lv_iload_n hx hb dX11_leastOf_104 rfl (lv_at hl 1 rfl) ?_
                    refine lv_aload_n hx hb dX11_leastOf_105 rfl (lv_at hl 2 rfl) ?_
                    refine va_get (D := g.1) (ci := 11) (v := .ref (a_m 1)) (C := RX11) (T := TX11) (N := 46) hx hb hi_X11 (fun _ h => h) hown hK.1 hP 0 rfl rfl 0 (by decide) hf_7 (fun _ h9 => h9) rfl dX11_leastOf_106 ?_
                    refine lv_iconst (v := 0) hx hb dX11_leastOf_109 (by decide) ?_
                    refine lv_iload hx hb dX11_leastOf_110 (lv_at hl 0 rfl) ?_
                    refine PurI.cs (C := RX11) (As := [.int (0 : Int32), .int v4_28]) (kX11_ruleAt l g (0 : Int32) v4_28 (by omega) (by omega)) fx (gUS (uT _) u_554 u_555 u_5 u_556) rfl hdX11_ruleAt ⟨Nat.le_of_ble_eq_true rfl, Nat.le_of_ble_eq_true rfl⟩ hK hP [] rfl rfl rfl hl.1 (Nat.le_of_ble_eq_true rfl) dX11_leastOf_112 (fun r17 p_r17 => ?_)
                    have n_115 : vp_in r17 19800 := (t_in (by omega))
                    refine va_iald hx hb hK.1 hP 1 0 rfl rfl n_115 dX11_leastOf_115 ?_
                    refine q_nm (fun x18 e_x18 => ?_)
                    have e_x18 : x18 = (I_m_28 1) r17.toNatClampNeg := e_x18
                    have g_x18 : x18.toInt = ((I_m_28 1) r17.toNatClampNeg).toInt := congrArg _ e_x18
                    have m_x18 : x18.toInt = (I_m_28 1 (12 * (v4_28).toInt.toNat + 12)).toInt := congrArg Int32.toInt (at_ix e_x18 (by omega))
                    have f_x18 := TS.lc hM_28.t0 (r := v4_28.toInt) e_x18 (by omega) (by omega)
                    refine r_iadd hx hb dX11_leastOf_116 rfl rfl (fun x19 e_x19 t_x19 => ?_)
                    try have t_x19 := t_x19 (by omega)
                    have n_117 : vp_in x19 301 := (t_in (by omega))
                    refine va_iald hx hb hK.1 hP 13 0 rfl rfl n_117 dX11_leastOf_117 ?_
                    refine q_nm (fun x20 e_x20 => ?_)
                    have e_x20 : x20 = (I_m_28 13) x19.toNatClampNeg := e_x20
                    have g_x20 : x20.toInt = ((I_m_28 13) x19.toNatClampNeg).toInt := congrArg _ e_x20
                    refine r_iadd hx hb dX11_leastOf_118 rfl rfl (fun x21 e_x21 t_x21 => ?_)
                    try have t_x21 := t_x21 (by omega)
                    refine va_mmin hx hb (hml.trans hl.1.symm) hown (hts _ (uT _ _ u_522)) (hts _ (uT _ _ u_523)) (hts _ (uT _ _ u_524)) (hts _ (uT _ _ u_525)) (Nat.le_of_ble_eq_true rfl) (Nat.le_of_ble_eq_true rfl) (Nat.zero_le _) (Nat.zero_le _) dX11_leastOf_119 ?_
                    refine q_nm (fun x22 e_x22 => ?_)
                    have t_x22 := t_min e_x22 rfl rfl
                    have n_122 : vp_in v3_11 301 := (t_in (by omega))
                    obtain ⟨f23, e_f23⟩ : ∃ z, z = upd (I_m_28 13) v3_11.toNatClampNeg x22 := ⟨_, rfl⟩
                    refine va_iast hx hb hK.1 hP hD hS 13 0 rfl rfl n_122 dX11_leastOf_122 (fun H locs hP hD hS => ?_)
                    have hP : va_P g.1 vwCl (wX11 g a_m (uR I_m_28 13 f23) J_m) H := by rw [e_f23]; exact hP
                    have hD : va_D A (wX11 g a_m (uR I_m_28 13 f23) J_m) := by rw [e_f23]; exact hD
                    have hc_122 : MI (uR I_m_28 13 f23) := MI.ur hM_28 (by decide)
                    have hk_122 : KK [13] [] I_m (uR I_m_28 13 f23) := KK.ur hk_28 (by decide) (by decide)
                    refine r_iinc (lv' := fun i24 => [(4, .int i24), (3, .int v3_11), (0, .ref (a_m 0)), (1, .int first), (2, .int last)]) hx hb dX11_leastOf_123 hl (k := 0) rfl (by decide) rfl (by decide) (fun _ => rfl) (fun i24 e_i24 t_i24 ls hl => ?_)
                    try have t_i24 := t_i24 (by omega)
                    refine lv_goto (tgt := 28) hx hb dX11_leastOf_126 (by decide) ?_
                    exact ih_28 i24 (uR I_m_28 13 f23) hc_122 hk_122 (by omega) (by omega) _ _ hP hD hS ls hl
                  · have q_91 := bP.t p_r15 b_91
                    refine lv_iconst (v := 1) hx hb dX11_leastOf_94 (by decide) ?_
                    refine lv_goto (tgt := 99) hx hb dX11_leastOf_95 (by decide) ?_
                    refine r_iadd hx hb dX11_leastOf_99 rfl (by decide : (1 : Int32).toInt = 1) (fun x25 e_x25 t_x25 => ?_)
                    try have t_x25 := t_x25 (by omega)
                    refine lv_aload_n hx hb dX11_leastOf_100 rfl (lv_at hl 2 rfl) ?_
                    refine va_get (D := g.1) (ci := 11) (v := .ref (a_m 13)) (C := RX11) (T := TX11) (N := 46) hx hb hi_X11 (fun _ h => h) hown hK.1 hP 0 rfl rfl 31 (by decide) hf_59 (fun _ h9 => h9) rfl dX11_leastOf_101 ?_
                    refine lv_iload_n hx hb dX11_leastOf_104 rfl (lv_at hl 1 rfl) ?_
                    refine lv_aload_n hx hb dX11_leastOf_105 rfl (lv_at hl 2 rfl) ?_
                    refine va_get (D := g.1) (ci := 11) (v := .ref (a_m 1)) (C := RX11) (T := TX11) (N := 46) hx hb hi_X11 (fun _ h => h) hown hK.1 hP 0 rfl rfl 0 (by decide) hf_7 (fun _ h9 => h9) rfl dX11_leastOf_106 ?_
                    refine lv_iconst (v := 0) hx hb dX11_leastOf_109 (by decide) ?_
                    refine lv_iload hx hb dX11_leastOf_110 (lv_at hl 0 rfl) ?_
                    refine PurI.cs (C := RX11) (As := [.int (0 : Int32), .int v4_28]) (kX11_ruleAt l g (0 : Int32) v4_28 (by omega) (by omega)) fx (gUS (uT _) u_554 u_555 u_5 u_556) rfl hdX11_ruleAt ⟨Nat.le_of_ble_eq_true rfl, Nat.le_of_ble_eq_true rfl⟩ hK hP [] rfl rfl rfl hl.1 (Nat.le_of_ble_eq_true rfl) dX11_leastOf_112 (fun r26 p_r26 => ?_)
                    have n_115 : vp_in r26 19800 := (t_in (by omega))
                    refine va_iald hx hb hK.1 hP 1 0 rfl rfl n_115 dX11_leastOf_115 ?_
                    refine q_nm (fun x27 e_x27 => ?_)
                    have e_x27 : x27 = (I_m_28 1) r26.toNatClampNeg := e_x27
                    have g_x27 : x27.toInt = ((I_m_28 1) r26.toNatClampNeg).toInt := congrArg _ e_x27
                    have m_x27 : x27.toInt = (I_m_28 1 (12 * (v4_28).toInt.toNat + 12)).toInt := congrArg Int32.toInt (at_ix e_x27 (by omega))
                    have f_x27 := TS.lc hM_28.t0 (r := v4_28.toInt) e_x27 (by omega) (by omega)
                    refine r_iadd hx hb dX11_leastOf_116 rfl rfl (fun x28 e_x28 t_x28 => ?_)
                    try have t_x28 := t_x28 (by omega)
                    have n_117 : vp_in x28 301 := (t_in (by omega))
                    refine va_iald hx hb hK.1 hP 13 0 rfl rfl n_117 dX11_leastOf_117 ?_
                    refine q_nm (fun x29 e_x29 => ?_)
                    have e_x29 : x29 = (I_m_28 13) x28.toNatClampNeg := e_x29
                    have g_x29 : x29.toInt = ((I_m_28 13) x28.toNatClampNeg).toInt := congrArg _ e_x29
                    refine r_iadd hx hb dX11_leastOf_118 rfl rfl (fun x30 e_x30 t_x30 => ?_)
                    try have t_x30 := t_x30 (by omega)
                    refine va_mmin hx hb (hml.trans hl.1.symm) hown (hts _ (uT _ _ u_522)) (hts _ (uT _ _ u_523)) (hts _ (uT _ _ u_524)) (hts _ (uT _ _ u_525)) (Nat.le_of_ble_eq_true rfl) (Nat.le_of_ble_eq_true rfl) (Nat.zero_le _) (Nat.zero_le _) dX11_leastOf_119 ?_
                    refine q_nm (fun x31 e_x31 => ?_)
                    have t_x31 := t_min e_x31 rfl rfl
                    have n_122 : vp_in v3_11 301 := (t_in (by omega))
                    obtain ⟨f32, e_f32⟩ : ∃ z, z = upd (I_m_28 13) v3_11.toNatClampNeg x31 := ⟨_, rfl⟩
                    refine va_iast hx hb hK.1 hP hD hS 13 0 rfl rfl n_122 dX11_leastOf_122 (fun H locs hP hD hS => ?_)
                    have hP : va_P g.1 vwCl (wX11 g a_m (uR I_m_28 13 f32) J_m) H := by rw [e_f32]; exact hP
                    have hD : va_D A (wX11 g a_m (uR I_m_28 13 f32) J_m) := by rw [e_f32]; exact hD
                    have hc_122 : MI (uR I_m_28 13 f32) := MI.ur hM_28 (by decide)
                    have hk_122 : KK [13] [] I_m (uR I_m_28 13 f32) := KK.ur hk_28 (by decide) (by decide)
                    refine r_iinc (lv' := fun i33 => [(4, .int i33), (3, .int v3_11), (0, .ref (a_m 0)), (1, .int first), (2, .int last)]) hx hb dX11_leastOf_123 hl (k := 0) rfl (by decide) rfl (by decide) (fun _ => rfl) (fun i33 e_i33 t_i33 ls hl => ?_)
                    try have t_i33 := t_i33 (by omega)
                    refine lv_goto (tgt := 28) hx hb dX11_leastOf_126 (by decide) ?_
                    exact ih_28 i33 (uR I_m_28 13 f32) hc_122 hk_122 (by omega) (by omega) _ _ hP hD hS ls hl
        exact L28 ((25 - (0 : Int32).toInt) + 1).toNat (0 : Int32) (uR I_m_11 13 f4) hc_24 hk_24 (by omega) (by omega) _ _ hP hD hS ls hl
  exact L11 ((x2.toInt + 2) + 1).toNat x2 (uR I_m 13 f1) hc_6 hk_6 (by omega) (by omega) _ _ hP hD hS ls hl

set_option maxHeartbeats 4000000 in
set_option maxRecDepth 100000 in
theorem kX11_fewest (l : Launch) (g : gG) (a_m : Nat → Nat) (I_m : Nat → Nat → Int32) (J_m : Nat → Nat → Int64) (hM : MI I_m) : EffI l g yX11_fewest wsX11_fewest 6 [.ref (a_m 0)] (wX11 g a_m I_m J_m) (fun (u : (Nat → Nat → Int32)) => wX11 g a_m u J_m) (fun r (u : (Nat → Nat → Int32)) => MI (u) ∧ WK I_m (u) ∧ KK [1, 13] [1, 20, 21] I_m (u)) := by
  refine EffI.st (cc := cX11_fewest) (maxL := 3) (by decide) rfl (Nat.le_of_ble_eq_true rfl) (fun p e s m args below meth c A Q ls fx hK hP hD hA hS hl hret => ?_)
  have hx := fx.1
  have hb := fx.2.1
  have hml := fx.2.2.1
  have hown := fx.2.2.2.1
  have hts := fx.2.2.2.2
  have hl : lv_has ls 3 [(0, .ref (a_m 0))] := hl
  have hP : va_P g.1 vwCl (wX11 g a_m I_m J_m) s.heap := hP
  have hf_7 := hts _ (uT _ _ u_170)
  have hi_X11 : ∀ w ∈ wsX110, w.before args s = true := fun w h => hts w (uT _ w (u_wsX110 w h))
  have lm1 : (-1 : Int32).toInt = -1 := by decide
  have lm0 : (0 : Int32).toInt = 0 := by decide
  have lm2 : (1 : Int32).toInt = 1 := by decide
  have lq6 : (6 : Int32).toInt = 6 := by decide
  have lq7 : (7 : Int32).toInt = 7 := by decide
  have lq16509 : (16509 : Int32).toInt = 16509 := by decide
  have lq1 : (1 : Int32).toInt = 1 := by decide
  have hmn := hM.many rfl
  refine lv_aload_n hx hb dX11_fewest_0 rfl (lv_at hl 0 rfl) ?_
  refine PurI.cv (As := []) (kX11_isSet l g a_m I_m J_m hM) fx (gUV (uT _) u_856 u_857 u_858 u_5 u_859) rfl hdX11_isSet ⟨Nat.le_of_ble_eq_true rfl, Nat.le_of_ble_eq_true rfl⟩ hK hP [0, 1, 2, 3, 4, 5, 6, 7, 8, 9, 10, 11, 12, 13, 14, 15, 16, 17, 18, 19, 20, 21, 22] rfl rfl rfl rfl rfl hl.1 (Nat.le_of_ble_eq_true rfl) dX11_fewest_1 (fun r1 p_r1 => ?_)
  refine q_if_ne (tgt := 14) hx hb dX11_fewest_4 (by decide) rfl (fun b_4 k_4 => ?_) (fun b_4 k_4 => ?_)
  · have q_4 := bP.t p_r1 b_4
    refine lv_aload_n hx hb dX11_fewest_14 rfl (lv_at hl 0 rfl) ?_
    refine EffV.cv (wr := ([])) (w' := fun u3 => wX11 g a_m u3 J_m) (As := []) (kX11_laysBytes l g a_m I_m J_m hM q_4) fx (gUV (uT _) u_860 u_861 u_862 u_5 u_863) rfl hdX11_laysBytes ⟨Nat.le_of_ble_eq_true rfl, Nat.le_of_ble_eq_true rfl⟩ hK hP hD hS hA [0, 1, 2, 3, 4, 5, 6, 7, 8, 9, 10, 11, 12, 13, 14, 15, 16, 17, 18, 19, 20, 21, 22] [] [0, 1, 2, 3, 4, 5, 6, 7, 8, 9, 10, 11, 12, 13, 14, 15, 16, 17, 18, 19, 20, 21, 22] rfl rfl rfl rfl (by decide) rfl (fun _ => rfl) rfl rfl rfl rfl hl.1 (Nat.le_of_ble_eq_true rfl) dX11_fewest_15 (fun u3 H locs p_r2 hP hD hS => ?_)
    have hP : va_P g.1 vwCl (wX11 g a_m u3 J_m) H := hP
    have hD : va_D A (wX11 g a_m u3 J_m) := hD
    refine lv_aload_n hx hb dX11_fewest_18 rfl (lv_at hl 0 rfl) ?_
    refine lv_aload_n hx hb dX11_fewest_19 rfl (lv_at hl 0 rfl) ?_
    refine va_get (D := g.1) (ci := 11) (v := .ref (a_m 1)) (C := RX11) (T := TX11) (N := 46) hx hb hi_X11 (fun _ h => h) hown hK.1 hP 0 rfl rfl 0 (by decide) hf_7 (fun _ h9 => h9) rfl dX11_fewest_20 ?_
    refine lv_bipush (v := 6) hx hb dX11_fewest_23 (by decide) ?_
    have n_25 : vp_in (6 : Int32) 19800 := (t_in (by decide))
    refine va_iald hx hb hK.1 hP 1 0 rfl rfl n_25 dX11_fewest_25 ?_
    refine q_nm (fun x4 e_x4 => ?_)
    have e_x4 : x4 = (u3 1) 6 := e_x4
    have g_x4 : x4.toInt = ((u3 1) 6).toInt := congrArg _ e_x4
    refine EffI.cv (wr := ([])) (w' := fun u6 => wX11 g a_m u6 J_m) (As := [.int x4]) (kX11_setsAll l g a_m u3 J_m x4 (p_r2.1)) fx (gUV (uT _) u_700 u_701 u_702 u_5 u_703) rfl hdX11_setsAll ⟨Nat.le_of_ble_eq_true rfl, Nat.le_of_ble_eq_true rfl⟩ hK hP hD hS hA [0, 1, 2, 3, 4, 5, 6, 7, 8, 9, 10, 11, 12, 13, 14, 15, 16, 17, 18, 19, 20, 21, 22] [] [0, 1, 2, 3, 4, 5, 6, 7, 8, 9, 10, 11, 12, 13, 14, 15, 16, 17, 18, 19, 20, 21, 22] rfl rfl rfl rfl (by decide) rfl (fun _ => rfl) rfl rfl rfl rfl hl.1 (Nat.le_of_ble_eq_true rfl) dX11_fewest_26 (fun r5 u6 H locs p_r5 hP hD hS => ?_)
    have hP : va_P g.1 vwCl (wX11 g a_m u6 J_m) H := hP
    have hD : va_D A (wX11 g a_m u6 J_m) := hD
    refine q_if_ne (tgt := 39) hx hb dX11_fewest_29 (by decide) rfl (fun b_29 k_29 => ?_) (fun b_29 k_29 => ?_)
    · refine lv_aload_n hx hb dX11_fewest_39 rfl (lv_at hl 0 rfl) ?_
      refine va_get (D := g.1) (ci := 11) (v := .ref (a_m 1)) (C := RX11) (T := TX11) (N := 46) hx hb hi_X11 (fun _ h => h) hown hK.1 hP 0 rfl rfl 0 (by decide) hf_7 (fun _ h9 => h9) rfl dX11_fewest_40 ?_
      refine lv_sipush (v := 16509) hx hb dX11_fewest_43 (by decide) ?_
      have n_46 : vp_in (16509 : Int32) 19800 := (t_in (by decide))
      refine va_iald hx hb hK.1 hP 1 0 rfl rfl n_46 dX11_fewest_46 ?_
      refine q_nm (fun x7 e_x7 => ?_)
      have e_x7 : x7 = (u6 1) 16509 := e_x7
      have g_x7 : x7.toInt = ((u6 1) 16509).toInt := congrArg _ e_x7
      refine q_if_le (tgt := 63) hx hb dX11_fewest_47 (by decide) rfl (fun k_47 => ?_) (fun k_47 => ?_)
      · refine lv_iconst (v := 0) hx hb dX11_fewest_63 (by decide) ?_
        refine lv_istore_n (lv' := [(1, .int (0 : Int32)), (0, .ref (a_m 0))]) hx hb dX11_fewest_64 rfl hl (by decide) rfl (fun ls hl => ?_)
        refine lv_iconst (v := 0) hx hb dX11_fewest_65 (by decide) ?_
        refine lv_istore_n (lv' := [(2, .int (0 : Int32)), (1, .int (0 : Int32)), (0, .ref (a_m 0))]) hx hb dX11_fewest_66 rfl hl (by decide) rfl (fun ls hl => ?_)
        have L67 : ∀ (nn : Nat) (v1_67 : Int32) (v2_67 : Int32) (I_m_67 : Nat → Nat → Int32), (hM_67 : MI I_m_67) → (hw_67 : WK I_m I_m_67) → (hk_67 : KK [1, 13] [1, 20, 21] I_m I_m_67) → (hv_67 : 0 ≤ v2_67.toInt ∧ v2_67.toInt ≤ 300) → ((301 - v2_67.toInt) < (nn : Int)) → ∀ (H : Heap) (locs : List Loc), va_P g.1 vwCl (wX11 g a_m I_m_67 J_m) H → va_D A (wX11 g a_m I_m_67 J_m) → va_S A s.heap H locs → ∀ ls : Array Slot, lv_has ls 3 [(2, .int v2_67), (1, .int v1_67), (0, .ref (a_m 0))] → W p l e (rm 6) s m args below meth c H locs 0 0 Q (F0 m 67 ls []) := by
          intro n_67
          induction n_67 with
          | zero =>
            intro v1_67 v2_67 I_m_67 hM_67 hw_67 hk_67 hv_67 hms_67 H locs hP hD hS ls hl
            exfalso; omega
          | succ n_67 ih_67 =>
            intro v1_67 v2_67 I_m_67 hM_67 hw_67 hk_67 hv_67 hms_67 H locs hP hD hS ls hl
            refine lv_iload_n hx hb dX11_fewest_67 rfl (lv_at hl 0 rfl) ?_
            refine lv_aload_n hx hb dX11_fewest_68 rfl (lv_at hl 2 rfl) ?_
            refine va_get (D := g.1) (ci := 11) (v := .ref (a_m 1)) (C := RX11) (T := TX11) (N := 46) hx hb hi_X11 (fun _ h => h) hown hK.1 hP 0 rfl rfl 0 (by decide) hf_7 (fun _ h9 => h9) rfl dX11_fewest_69 ?_
            refine lv_bipush (v := 7) hx hb dX11_fewest_72 (by decide) ?_
            have n_74 : vp_in (7 : Int32) 19800 := (t_in (by decide))
            refine va_iald hx hb hK.1 hP 1 0 rfl rfl n_74 dX11_fewest_74 ?_
            refine q_nm (fun x8 e_x8 => ?_)
            have e_x8 : x8 = (I_m_67 1) 7 := e_x8
            have g_x8 : x8.toInt = ((I_m_67 1) 7).toInt := congrArg _ e_x8
            have f_x8 := MI.bytes hM_67 e_x8
            refine q_icmp_ge (tgt := 177) hx hb dX11_fewest_75 (by decide) rfl rfl (fun k_75 => ?_) (fun k_75 => ?_)
            · refine lv_aload_n hx hb dX11_fewest_177 rfl (lv_at hl 2 rfl) ?_
              refine lv_iload_n hx hb dX11_fewest_178 rfl (lv_at hl 1 rfl) ?_
              refine EffI.cv (wr := ([])) (w' := fun u10 => wX11 g a_m u10 J_m) (As := [.int v1_67]) (kX11_gives l g a_m I_m_67 J_m v1_67) fx (gUV (uT _) u_585 u_586 u_587 u_5 u_588) rfl hdX11_gives ⟨Nat.le_of_ble_eq_true rfl, Nat.le_of_ble_eq_true rfl⟩ hK hP hD hS hA [0, 1, 2, 3, 4, 5, 6, 7, 8, 9, 10, 11, 12, 13, 14, 15, 16, 17, 18, 19, 20, 21, 22] [] [0, 1, 2, 3, 4, 5, 6, 7, 8, 9, 10, 11, 12, 13, 14, 15, 16, 17, 18, 19, 20, 21, 22] rfl rfl rfl rfl (by decide) rfl (fun _ => rfl) rfl rfl rfl rfl hl.1 (Nat.le_of_ble_eq_true rfl) dX11_fewest_179 (fun r9 u10 H locs p_r9 hP hD hS => ?_)
              have hP : va_P g.1 vwCl (wX11 g a_m u10 J_m) H := hP
              have hD : va_D A (wX11 g a_m u10 J_m) := hD
              refine hret 182 ls r9 _ _ u10 dX11_fewest_182 hS hP hD ?_
              exact ⟨(MI.st hM_67 p_r9.2), (WK.st hw_67 p_r9.2), (KK.st hk_67 p_r9.2 (by decide))⟩
            · refine lv_aload_n hx hb dX11_fewest_78 rfl (lv_at hl 2 rfl) ?_
              refine lv_iload_n hx hb dX11_fewest_79 rfl (lv_at hl 0 rfl) ?_
              refine PurI.cv (As := [.int v2_67]) (kX11_byteOf l g a_m I_m_67 J_m v2_67 hM_67 (by omega)) fx (gUV (uT _) u_704 u_705 u_706 u_5 u_707) rfl hdX11_byteOf ⟨Nat.le_of_ble_eq_true rfl, Nat.le_of_ble_eq_true rfl⟩ hK hP [0, 1, 2, 3, 4, 5, 6, 7, 8, 9, 10, 11, 12, 13, 14, 15, 16, 17, 18, 19, 20, 21, 22] rfl rfl rfl rfl rfl hl.1 (Nat.le_of_ble_eq_true rfl) dX11_fewest_80 (fun r11 p_r11 => ?_)
              have hb80 := p_r11
              refine PurI.cs (C := RX11) (As := [.int r11]) (kX11_isLetter l g r11) fx (gUS (uT _) u_711 u_712 u_5 u_713) rfl hdX11_isLetter ⟨Nat.le_of_ble_eq_true rfl, Nat.le_of_ble_eq_true rfl⟩ hK hP [] rfl rfl rfl hl.1 (Nat.le_of_ble_eq_true rfl) dX11_fewest_83 (fun r12 p_r12 => ?_)
              refine q_if_eq (tgt := 111) hx hb dX11_fewest_86 (by decide) rfl (fun b_86 k_86 => ?_) (fun b_86 k_86 => ?_)
              · have q_86 := bP.f p_r12 b_86
                refine lv_aload_n hx hb dX11_fewest_111 rfl (lv_at hl 2 rfl) ?_
                refine lv_iload_n hx hb dX11_fewest_112 rfl (lv_at hl 0 rfl) ?_
                refine PurI.cv (As := [.int v2_67]) (kX11_byteOf l g a_m I_m_67 J_m v2_67 hM_67 (by omega)) fx (gUV (uT _) u_704 u_705 u_706 u_5 u_707) rfl hdX11_byteOf ⟨Nat.le_of_ble_eq_true rfl, Nat.le_of_ble_eq_true rfl⟩ hK hP [0, 1, 2, 3, 4, 5, 6, 7, 8, 9, 10, 11, 12, 13, 14, 15, 16, 17, 18, 19, 20, 21, 22] rfl rfl rfl rfl rfl hl.1 (Nat.le_of_ble_eq_true rfl) dX11_fewest_113 (fun r13 p_r13 => ?_)
                refine PurI.cs (C := RX11) (As := [.int r13]) (kX11_isDigit0 l g r13) fx (gUS (uT _) u_717 u_718 u_5 u_719) rfl hdX11_isDigit0 ⟨Nat.le_of_ble_eq_true rfl, Nat.le_of_ble_eq_true rfl⟩ hK hP [] rfl rfl rfl hl.1 (Nat.le_of_ble_eq_true rfl) dX11_fewest_116 (fun r14 p_r14 => ?_)
                refine q_if_eq (tgt := 171) hx hb dX11_fewest_119 (by decide) rfl (fun b_119 k_119 => ?_) (fun b_119 k_119 => ?_)
                · have q_119 := bP.f p_r14 b_119
                  refine r_iinc (lv' := fun i15 => [(2, .int i15), (1, .int v1_67), (0, .ref (a_m 0))]) hx hb dX11_fewest_171 hl (k := 0) rfl (by decide) rfl (by decide) (fun _ => rfl) (fun i15 e_i15 t_i15 ls hl => ?_)
                  try have t_i15 := t_i15 (by omega)
                  refine lv_goto (tgt := 67) hx hb dX11_fewest_174 (by decide) ?_
                  exact ih_67 v1_67 i15 I_m_67 hM_67 hw_67 hk_67 (by omega) (by omega) _ _ hP hD hS ls hl
                · have q_119 := bP.t p_r14 b_119
                  refine lv_iload_n hx hb dX11_fewest_122 rfl (lv_at hl 1 rfl) ?_
                  refine lv_aload_n hx hb dX11_fewest_123 rfl (lv_at hl 2 rfl) ?_
                  refine lv_aload_n hx hb dX11_fewest_124 rfl (lv_at hl 2 rfl) ?_
                  refine lv_aload_n hx hb dX11_fewest_125 rfl (lv_at hl 2 rfl) ?_
                  refine lv_iload_n hx hb dX11_fewest_126 rfl (lv_at hl 0 rfl) ?_
                  refine PurI.cv (As := [.int v2_67]) (kX11_byteOf l g a_m I_m_67 J_m v2_67 hM_67 (by omega)) fx (gUV (uT _) u_704 u_705 u_706 u_5 u_707) rfl hdX11_byteOf ⟨Nat.le_of_ble_eq_true rfl, Nat.le_of_ble_eq_true rfl⟩ hK hP [0, 1, 2, 3, 4, 5, 6, 7, 8, 9, 10, 11, 12, 13, 14, 15, 16, 17, 18, 19, 20, 21, 22] rfl rfl rfl rfl rfl hl.1 (Nat.le_of_ble_eq_true rfl) dX11_fewest_127 (fun r16 p_r16 => ?_)
                  refine PurI.cs (C := RX11) (As := [.int r16]) (kX11_figureLetter l g r16) fx (gUS (uT _) u_757 u_758 u_5 u_759) rfl hdX11_figureLetter ⟨Nat.le_of_ble_eq_true rfl, Nat.le_of_ble_eq_true rfl⟩ hK hP [] rfl rfl rfl hl.1 (Nat.le_of_ble_eq_true rfl) dX11_fewest_130 (fun r17 p_r17 => ?_)
                  refine lv_aload_n hx hb dX11_fewest_133 rfl (lv_at hl 2 rfl) ?_
                  refine va_get (D := g.1) (ci := 11) (v := .ref (a_m 1)) (C := RX11) (T := TX11) (N := 46) hx hb hi_X11 (fun _ h => h) hown hK.1 hP 0 rfl rfl 0 (by decide) hf_7 (fun _ h9 => h9) rfl dX11_fewest_134 ?_
                  refine lv_bipush (v := 6) hx hb dX11_fewest_137 (by decide) ?_
                  have n_139 : vp_in (6 : Int32) 19800 := (t_in (by decide))
                  refine va_iald hx hb hK.1 hP 1 0 rfl rfl n_139 dX11_fewest_139 ?_
                  refine q_nm (fun x18 e_x18 => ?_)
                  have e_x18 : x18 = (I_m_67 1) 6 := e_x18
                  have g_x18 : x18.toInt = ((I_m_67 1) 6).toInt := congrArg _ e_x18
                  refine PurI.cv (As := [.int r17, .int x18]) (kX11_justOf l g a_m I_m_67 J_m r17 x18 hM_67) fx (gUV (uT _) u_760 u_761 u_762 u_5 u_763) rfl hdX11_justOf ⟨Nat.le_of_ble_eq_true rfl, Nat.le_of_ble_eq_true rfl⟩ hK hP [0, 1, 2, 3, 4, 5, 6, 7, 8, 9, 10, 11, 12, 13, 14, 15, 16, 17, 18, 19, 20, 21, 22] rfl rfl rfl rfl rfl hl.1 (Nat.le_of_ble_eq_true rfl) dX11_fewest_140 (fun r19 p_r19 => ?_)
                  have hm140 := hM_67.many rfl
                  refine PurI.cv (As := [.int r19]) (kX11_cellsOf l g a_m I_m_67 J_m r19 hM_67 (by omega)) fx (gUV (uT _) u_826 u_827 u_828 u_5 u_829) rfl hdX11_cellsOf ⟨Nat.le_of_ble_eq_true rfl, Nat.le_of_ble_eq_true rfl⟩ hK hP [0, 1, 2, 3, 4, 5, 6, 7, 8, 9, 10, 11, 12, 13, 14, 15, 16, 17, 18, 19, 20, 21, 22] rfl rfl rfl rfl rfl hl.1 (Nat.le_of_ble_eq_true rfl) dX11_fewest_143 (fun r20 p_r20 => ?_)
                  refine lv_iload_n hx hb dX11_fewest_146 rfl (lv_at hl 0 rfl) ?_
                  refine q_if_eq (tgt := 163) hx hb dX11_fewest_147 (by decide) rfl (fun b_147 k_147 => ?_) (fun b_147 k_147 => ?_)
                  · refine lv_iconst (v := 1) hx hb dX11_fewest_163 (by decide) ?_
                    refine lv_goto (tgt := 168) hx hb dX11_fewest_164 (by decide) ?_
                    refine r_iadd hx hb dX11_fewest_168 rfl (by decide : (1 : Int32).toInt = 1) (fun x21 e_x21 t_x21 => ?_)
                    try have t_x21 := t_x21 (by omega)
                    refine r_iadd hx hb dX11_fewest_169 rfl rfl (fun x22 e_x22 t_x22 => ?_)
                    try have t_x22 := t_x22 (by omega)
                    refine lv_istore_n (lv' := [(1, .int x22), (2, .int v2_67), (0, .ref (a_m 0))]) hx hb dX11_fewest_170 rfl hl (by decide) rfl (fun ls hl => ?_)
                    refine r_iinc (lv' := fun i23 => [(2, .int i23), (1, .int x22), (0, .ref (a_m 0))]) hx hb dX11_fewest_171 hl (k := 1) rfl (by decide) rfl (by decide) (fun _ => rfl) (fun i23 e_i23 t_i23 ls hl => ?_)
                    try have t_i23 := t_i23 (by omega)
                    refine lv_goto (tgt := 67) hx hb dX11_fewest_174 (by decide) ?_
                    exact ih_67 x22 i23 I_m_67 hM_67 hw_67 hk_67 (by omega) (by omega) _ _ hP hD hS ls hl
                  · refine lv_aload_n hx hb dX11_fewest_150 rfl (lv_at hl 2 rfl) ?_
                    refine lv_iload_n hx hb dX11_fewest_151 rfl (lv_at hl 0 rfl) ?_
                    refine lv_iconst (v := 1) hx hb dX11_fewest_152 (by decide) ?_
                    refine r_isub hx hb dX11_fewest_153 rfl (by decide : (1 : Int32).toInt = 1) (fun x24 e_x24 t_x24 => ?_)
                    try have t_x24 := t_x24 (by omega)
                    refine PurI.cv (As := [.int x24]) (kX11_byteOf l g a_m I_m_67 J_m x24 hM_67 (by omega)) fx (gUV (uT _) u_704 u_705 u_706 u_5 u_707) rfl hdX11_byteOf ⟨Nat.le_of_ble_eq_true rfl, Nat.le_of_ble_eq_true rfl⟩ hK hP [0, 1, 2, 3, 4, 5, 6, 7, 8, 9, 10, 11, 12, 13, 14, 15, 16, 17, 18, 19, 20, 21, 22] rfl rfl rfl rfl rfl hl.1 (Nat.le_of_ble_eq_true rfl) dX11_fewest_154 (fun r25 p_r25 => ?_)
                    refine PurI.cs (C := RX11) (As := [.int r25]) (kX11_isDigit0 l g r25) fx (gUS (uT _) u_717 u_718 u_5 u_719) rfl hdX11_isDigit0 ⟨Nat.le_of_ble_eq_true rfl, Nat.le_of_ble_eq_true rfl⟩ hK hP [] rfl rfl rfl hl.1 (Nat.le_of_ble_eq_true rfl) dX11_fewest_157 (fun r26 p_r26 => ?_)
                    refine q_if_ne (tgt := 167) hx hb dX11_fewest_160 (by decide) rfl (fun b_160 k_160 => ?_) (fun b_160 k_160 => ?_)
                    · have q_160 := bP.t p_r26 b_160
                      refine lv_iconst (v := 0) hx hb dX11_fewest_167 (by decide) ?_
                      refine r_iadd hx hb dX11_fewest_168 rfl (by decide : (0 : Int32).toInt = 0) (fun x27 e_x27 t_x27 => ?_)
                      try have t_x27 := t_x27 (by omega)
                      refine r_iadd hx hb dX11_fewest_169 rfl rfl (fun x28 e_x28 t_x28 => ?_)
                      try have t_x28 := t_x28 (by omega)
                      refine lv_istore_n (lv' := [(1, .int x28), (2, .int v2_67), (0, .ref (a_m 0))]) hx hb dX11_fewest_170 rfl hl (by decide) rfl (fun ls hl => ?_)
                      refine r_iinc (lv' := fun i29 => [(2, .int i29), (1, .int x28), (0, .ref (a_m 0))]) hx hb dX11_fewest_171 hl (k := 1) rfl (by decide) rfl (by decide) (fun _ => rfl) (fun i29 e_i29 t_i29 ls hl => ?_)
                      try have t_i29 := t_i29 (by omega)
                      refine lv_goto (tgt := 67) hx hb dX11_fewest_174 (by decide) ?_
                      exact ih_67 x28 i29 I_m_67 hM_67 hw_67 hk_67 (by omega) (by omega) _ _ hP hD hS ls hl
                    · have q_160 := bP.f p_r26 b_160
                      refine lv_iconst (v := 1) hx hb dX11_fewest_163 (by decide) ?_
                      refine lv_goto (tgt := 168) hx hb dX11_fewest_164 (by decide) ?_
                      refine r_iadd hx hb dX11_fewest_168 rfl (by decide : (1 : Int32).toInt = 1) (fun x30 e_x30 t_x30 => ?_)
                      try have t_x30 := t_x30 (by omega)
                      refine r_iadd hx hb dX11_fewest_169 rfl rfl (fun x31 e_x31 t_x31 => ?_)
                      try have t_x31 := t_x31 (by omega)
                      refine lv_istore_n (lv' := [(1, .int x31), (2, .int v2_67), (0, .ref (a_m 0))]) hx hb dX11_fewest_170 rfl hl (by decide) rfl (fun ls hl => ?_)
                      refine r_iinc (lv' := fun i32 => [(2, .int i32), (1, .int x31), (0, .ref (a_m 0))]) hx hb dX11_fewest_171 hl (k := 1) rfl (by decide) rfl (by decide) (fun _ => rfl) (fun i32 e_i32 t_i32 ls hl => ?_)
                      try have t_i32 := t_i32 (by omega)
                      refine lv_goto (tgt := 67) hx hb dX11_fewest_174 (by decide) ?_
                      exact ih_67 x31 i32 I_m_67 hM_67 hw_67 hk_67 (by omega) (by omega) _ _ hP hD hS ls hl
              · have q_86 := bP.t p_r12 b_86
                refine lv_iload_n hx hb dX11_fewest_89 rfl (lv_at hl 1 rfl) ?_
                refine lv_aload_n hx hb dX11_fewest_90 rfl (lv_at hl 2 rfl) ?_
                refine lv_iload_n hx hb dX11_fewest_91 rfl (lv_at hl 0 rfl) ?_
                refine lv_aload_n hx hb dX11_fewest_92 rfl (lv_at hl 2 rfl) ?_
                refine lv_iload_n hx hb dX11_fewest_93 rfl (lv_at hl 0 rfl) ?_
                refine PurI.cv (As := [.int v2_67]) (kX11_wordEnd l g a_m I_m_67 J_m v2_67 hM_67 (by omega)) fx (gUV (uT _) u_728 u_729 u_730 u_5 u_731) rfl hdX11_wordEnd ⟨Nat.le_of_ble_eq_true rfl, Nat.le_of_ble_eq_true rfl⟩ hK hP [0, 1, 2, 3, 4, 5, 6, 7, 8, 9, 10, 11, 12, 13, 14, 15, 16, 17, 18, 19, 20, 21, 22] rfl rfl rfl rfl rfl hl.1 (Nat.le_of_ble_eq_true rfl) dX11_fewest_94 (fun r33 p_r33 => ?_)
                have hq94 := p_r33.lt (by rcases hb80 with w | w; exact w.1; exfalso; omega) (by rcases hb80 with w | w; rw [← w.2]; exact q_86; exfalso; omega)
                have hwb94 := hM_67.wb rfl
                refine EffI.cv (wr := ([])) (w' := fun u35 => wX11 g a_m u35 J_m) (As := [.int v2_67, .int r33]) (kX11_leastOf l g a_m I_m_67 J_m v2_67 r33 hM_67 (by omega)) fx (gUV (uT _) u_1072 u_1073 u_1074 u_5 u_1075) rfl hdX11_leastOf ⟨Nat.le_of_ble_eq_true rfl, Nat.le_of_ble_eq_true rfl⟩ hK hP hD hS hA [0, 1, 2, 3, 4, 5, 6, 7, 8, 9, 10, 11, 12, 13, 14, 15, 16, 17, 18, 19, 20, 21, 22] [] [0, 1, 2, 3, 4, 5, 6, 7, 8, 9, 10, 11, 12, 13, 14, 15, 16, 17, 18, 19, 20, 21, 22] rfl rfl rfl rfl (by decide) rfl (fun _ => rfl) rfl rfl rfl rfl hl.1 (Nat.le_of_ble_eq_true rfl) dX11_fewest_97 (fun r34 u35 H locs p_r34 hP hD hS => ?_)
                have hP : va_P g.1 vwCl (wX11 g a_m u35 J_m) H := hP
                have hD : va_D A (wX11 g a_m u35 J_m) := hD
                have hwb97 := (MI.kk hM_67 p_r34 (by decide) (by decide)).wb rfl
                have hbs97 : BS I_m_67 u35 := (BS.rf _).kk p_r34 (by decide)
                refine r_iadd hx hb dX11_fewest_100 rfl rfl (fun x36 e_x36 t_x36 => ?_)
                try have t_x36 := t_x36 (by omega)
                refine lv_istore_n (lv' := [(1, .int x36), (2, .int v2_67), (0, .ref (a_m 0))]) hx hb dX11_fewest_101 rfl hl (by decide) rfl (fun ls hl => ?_)
                refine lv_aload_n hx hb dX11_fewest_102 rfl (lv_at hl 2 rfl) ?_
                refine lv_iload_n hx hb dX11_fewest_103 rfl (lv_at hl 1 rfl) ?_
                refine PurI.cv (As := [.int v2_67]) (kX11_wordEnd l g a_m u35 J_m v2_67 (MI.kk hM_67 p_r34 (by decide) (by decide)) (by omega)) fx (gUV (uT _) u_728 u_729 u_730 u_5 u_731) rfl hdX11_wordEnd ⟨Nat.le_of_ble_eq_true rfl, Nat.le_of_ble_eq_true rfl⟩ hK hP [0, 1, 2, 3, 4, 5, 6, 7, 8, 9, 10, 11, 12, 13, 14, 15, 16, 17, 18, 19, 20, 21, 22] rfl rfl rfl rfl rfl hl.1 (Nat.le_of_ble_eq_true rfl) dX11_fewest_104 (fun r37 p_r37 => ?_)
                have hq104 := (p_r37.bs hbs97 (by omega) (by omega)).lt (by rcases hb80 with w | w; exact w.1; exfalso; omega) (by rcases hb80 with w | w; rw [← w.2]; exact q_86; exfalso; omega)
                refine lv_istore_n (lv' := [(2, .int r37), (1, .int x36), (0, .ref (a_m 0))]) hx hb dX11_fewest_107 rfl hl (by decide) rfl (fun ls hl => ?_)
                refine lv_goto (tgt := 67) hx hb dX11_fewest_108 (by decide) ?_
                exact ih_67 x36 r37 u35 (MI.kk hM_67 p_r34 (by decide) (by decide)) (WK.kk hw_67 p_r34 (by decide)) (KK.tr hk_67 p_r34 (by decide) (by decide)) (by omega) (by omega) _ _ hP hD hS ls hl
        exact L67 ((301 - (0 : Int32).toInt) + 1).toNat (0 : Int32) (0 : Int32) u6 (p_r5.1) (WK.tr (WK.tr (WK.rf I_m) p_r2.2.1) p_r5.2.1) (KK.tr (KK.tr (KK.rf I_m) p_r2.2.2 (by decide) (by decide)) p_r5.2.2.1 (by decide) (by decide)) (by omega) (by omega) _ _ hP hD hS ls hl
      · refine lv_aload_n hx hb dX11_fewest_50 rfl (lv_at hl 0 rfl) ?_
        refine va_get (D := g.1) (ci := 11) (v := .ref (a_m 1)) (C := RX11) (T := TX11) (N := 46) hx hb hi_X11 (fun _ h => h) hown hK.1 hP 0 rfl rfl 0 (by decide) hf_7 (fun _ h9 => h9) rfl dX11_fewest_51 ?_
        refine lv_sipush (v := 16509) hx hb dX11_fewest_54 (by decide) ?_
        have n_57 : vp_in (16509 : Int32) 19800 := (t_in (by decide))
        refine va_iald hx hb hK.1 hP 1 0 rfl rfl n_57 dX11_fewest_57 ?_
        refine q_nm (fun x38 e_x38 => ?_)
        have e_x38 : x38 = (u6 1) 16509 := e_x38
        have g_x38 : x38.toInt = ((u6 1) 16509).toInt := congrArg _ e_x38
        refine lv_iconst (v := 1) hx hb dX11_fewest_58 (by decide) ?_
        refine r_isub hx hb dX11_fewest_59 rfl (by decide : (1 : Int32).toInt = 1) (fun x39 e_x39 t_x39 => ?_)
        try have t_x39 := t_x39 (by omega)
        refine lv_goto (tgt := 64) hx hb dX11_fewest_60 (by decide) ?_
        refine lv_istore_n (lv' := [(1, .int x39), (0, .ref (a_m 0))]) hx hb dX11_fewest_64 rfl hl (by decide) rfl (fun ls hl => ?_)
        refine lv_iconst (v := 0) hx hb dX11_fewest_65 (by decide) ?_
        refine lv_istore_n (lv' := [(2, .int (0 : Int32)), (1, .int x39), (0, .ref (a_m 0))]) hx hb dX11_fewest_66 rfl hl (by decide) rfl (fun ls hl => ?_)
        have L67 : ∀ (nn : Nat) (v1_67 : Int32) (v2_67 : Int32) (I_m_67 : Nat → Nat → Int32), (hM_67 : MI I_m_67) → (hw_67 : WK I_m I_m_67) → (hk_67 : KK [1, 13] [1, 20, 21] I_m I_m_67) → (hv_67 : 0 ≤ v2_67.toInt ∧ v2_67.toInt ≤ 300) → ((301 - v2_67.toInt) < (nn : Int)) → ∀ (H : Heap) (locs : List Loc), va_P g.1 vwCl (wX11 g a_m I_m_67 J_m) H → va_D A (wX11 g a_m I_m_67 J_m) → va_S A s.heap H locs → ∀ ls : Array Slot, lv_has ls 3 [(2, .int v2_67), (1, .int v1_67), (0, .ref (a_m 0))] → W p l e (rm 6) s m args below meth c H locs 0 0 Q (F0 m 67 ls []) := by
          intro n_67
          induction n_67 with
          | zero =>
            intro v1_67 v2_67 I_m_67 hM_67 hw_67 hk_67 hv_67 hms_67 H locs hP hD hS ls hl
            exfalso; omega
          | succ n_67 ih_67 =>
            intro v1_67 v2_67 I_m_67 hM_67 hw_67 hk_67 hv_67 hms_67 H locs hP hD hS ls hl
            refine lv_iload_n hx hb dX11_fewest_67 rfl (lv_at hl 0 rfl) ?_
            refine lv_aload_n hx hb dX11_fewest_68 rfl (lv_at hl 2 rfl) ?_
            refine va_get (D := g.1) (ci := 11) (v := .ref (a_m 1)) (C := RX11) (T := TX11) (N := 46) hx hb hi_X11 (fun _ h => h) hown hK.1 hP 0 rfl rfl 0 (by decide) hf_7 (fun _ h9 => h9) rfl dX11_fewest_69 ?_
            refine lv_bipush (v := 7) hx hb dX11_fewest_72 (by decide) ?_
            have n_74 : vp_in (7 : Int32) 19800 := (t_in (by decide))
            refine va_iald hx hb hK.1 hP 1 0 rfl rfl n_74 dX11_fewest_74 ?_
            refine q_nm (fun x40 e_x40 => ?_)
            have e_x40 : x40 = (I_m_67 1) 7 := e_x40
            have g_x40 : x40.toInt = ((I_m_67 1) 7).toInt := congrArg _ e_x40
            have f_x40 := MI.bytes hM_67 e_x40
            refine q_icmp_ge (tgt := 177) hx hb dX11_fewest_75 (by decide) rfl rfl (fun k_75 => ?_) (fun k_75 => ?_)
            · refine lv_aload_n hx hb dX11_fewest_177 rfl (lv_at hl 2 rfl) ?_
              refine lv_iload_n hx hb dX11_fewest_178 rfl (lv_at hl 1 rfl) ?_
              refine EffI.cv (wr := ([])) (w' := fun u42 => wX11 g a_m u42 J_m) (As := [.int v1_67]) (kX11_gives l g a_m I_m_67 J_m v1_67) fx (gUV (uT _) u_585 u_586 u_587 u_5 u_588) rfl hdX11_gives ⟨Nat.le_of_ble_eq_true rfl, Nat.le_of_ble_eq_true rfl⟩ hK hP hD hS hA [0, 1, 2, 3, 4, 5, 6, 7, 8, 9, 10, 11, 12, 13, 14, 15, 16, 17, 18, 19, 20, 21, 22] [] [0, 1, 2, 3, 4, 5, 6, 7, 8, 9, 10, 11, 12, 13, 14, 15, 16, 17, 18, 19, 20, 21, 22] rfl rfl rfl rfl (by decide) rfl (fun _ => rfl) rfl rfl rfl rfl hl.1 (Nat.le_of_ble_eq_true rfl) dX11_fewest_179 (fun r41 u42 H locs p_r41 hP hD hS => ?_)
              have hP : va_P g.1 vwCl (wX11 g a_m u42 J_m) H := hP
              have hD : va_D A (wX11 g a_m u42 J_m) := hD
              refine hret 182 ls r41 _ _ u42 dX11_fewest_182 hS hP hD ?_
              exact ⟨(MI.st hM_67 p_r41.2), (WK.st hw_67 p_r41.2), (KK.st hk_67 p_r41.2 (by decide))⟩
            · refine lv_aload_n hx hb dX11_fewest_78 rfl (lv_at hl 2 rfl) ?_
              refine lv_iload_n hx hb dX11_fewest_79 rfl (lv_at hl 0 rfl) ?_
              refine PurI.cv (As := [.int v2_67]) (kX11_byteOf l g a_m I_m_67 J_m v2_67 hM_67 (by omega)) fx (gUV (uT _) u_704 u_705 u_706 u_5 u_707) rfl hdX11_byteOf ⟨Nat.le_of_ble_eq_true rfl, Nat.le_of_ble_eq_true rfl⟩ hK hP [0, 1, 2, 3, 4, 5, 6, 7, 8, 9, 10, 11, 12, 13, 14, 15, 16, 17, 18, 19, 20, 21, 22] rfl rfl rfl rfl rfl hl.1 (Nat.le_of_ble_eq_true rfl) dX11_fewest_80 (fun r43 p_r43 => ?_)
              have hb80 := p_r43
              refine PurI.cs (C := RX11) (As := [.int r43]) (kX11_isLetter l g r43) fx (gUS (uT _) u_711 u_712 u_5 u_713) rfl hdX11_isLetter ⟨Nat.le_of_ble_eq_true rfl, Nat.le_of_ble_eq_true rfl⟩ hK hP [] rfl rfl rfl hl.1 (Nat.le_of_ble_eq_true rfl) dX11_fewest_83 (fun r44 p_r44 => ?_)
              refine q_if_eq (tgt := 111) hx hb dX11_fewest_86 (by decide) rfl (fun b_86 k_86 => ?_) (fun b_86 k_86 => ?_)
              · have q_86 := bP.f p_r44 b_86
                refine lv_aload_n hx hb dX11_fewest_111 rfl (lv_at hl 2 rfl) ?_
                refine lv_iload_n hx hb dX11_fewest_112 rfl (lv_at hl 0 rfl) ?_
                refine PurI.cv (As := [.int v2_67]) (kX11_byteOf l g a_m I_m_67 J_m v2_67 hM_67 (by omega)) fx (gUV (uT _) u_704 u_705 u_706 u_5 u_707) rfl hdX11_byteOf ⟨Nat.le_of_ble_eq_true rfl, Nat.le_of_ble_eq_true rfl⟩ hK hP [0, 1, 2, 3, 4, 5, 6, 7, 8, 9, 10, 11, 12, 13, 14, 15, 16, 17, 18, 19, 20, 21, 22] rfl rfl rfl rfl rfl hl.1 (Nat.le_of_ble_eq_true rfl) dX11_fewest_113 (fun r45 p_r45 => ?_)
                refine PurI.cs (C := RX11) (As := [.int r45]) (kX11_isDigit0 l g r45) fx (gUS (uT _) u_717 u_718 u_5 u_719) rfl hdX11_isDigit0 ⟨Nat.le_of_ble_eq_true rfl, Nat.le_of_ble_eq_true rfl⟩ hK hP [] rfl rfl rfl hl.1 (Nat.le_of_ble_eq_true rfl) dX11_fewest_116 (fun r46 p_r46 => ?_)
                refine q_if_eq (tgt := 171) hx hb dX11_fewest_119 (by decide) rfl (fun b_119 k_119 => ?_) (fun b_119 k_119 => ?_)
                · have q_119 := bP.f p_r46 b_119
                  refine r_iinc (lv' := fun i47 => [(2, .int i47), (1, .int v1_67), (0, .ref (a_m 0))]) hx hb dX11_fewest_171 hl (k := 0) rfl (by decide) rfl (by decide) (fun _ => rfl) (fun i47 e_i47 t_i47 ls hl => ?_)
                  try have t_i47 := t_i47 (by omega)
                  refine lv_goto (tgt := 67) hx hb dX11_fewest_174 (by decide) ?_
                  exact ih_67 v1_67 i47 I_m_67 hM_67 hw_67 hk_67 (by omega) (by omega) _ _ hP hD hS ls hl
                · have q_119 := bP.t p_r46 b_119
                  refine lv_iload_n hx hb dX11_fewest_122 rfl (lv_at hl 1 rfl) ?_
                  refine lv_aload_n hx hb dX11_fewest_123 rfl (lv_at hl 2 rfl) ?_
                  refine lv_aload_n hx hb dX11_fewest_124 rfl (lv_at hl 2 rfl) ?_
                  refine lv_aload_n hx hb dX11_fewest_125 rfl (lv_at hl 2 rfl) ?_
                  refine lv_iload_n hx hb dX11_fewest_126 rfl (lv_at hl 0 rfl) ?_
                  refine PurI.cv (As := [.int v2_67]) (kX11_byteOf l g a_m I_m_67 J_m v2_67 hM_67 (by omega)) fx (gUV (uT _) u_704 u_705 u_706 u_5 u_707) rfl hdX11_byteOf ⟨Nat.le_of_ble_eq_true rfl, Nat.le_of_ble_eq_true rfl⟩ hK hP [0, 1, 2, 3, 4, 5, 6, 7, 8, 9, 10, 11, 12, 13, 14, 15, 16, 17, 18, 19, 20, 21, 22] rfl rfl rfl rfl rfl hl.1 (Nat.le_of_ble_eq_true rfl) dX11_fewest_127 (fun r48 p_r48 => ?_)
                  refine PurI.cs (C := RX11) (As := [.int r48]) (kX11_figureLetter l g r48) fx (gUS (uT _) u_757 u_758 u_5 u_759) rfl hdX11_figureLetter ⟨Nat.le_of_ble_eq_true rfl, Nat.le_of_ble_eq_true rfl⟩ hK hP [] rfl rfl rfl hl.1 (Nat.le_of_ble_eq_true rfl) dX11_fewest_130 (fun r49 p_r49 => ?_)
                  refine lv_aload_n hx hb dX11_fewest_133 rfl (lv_at hl 2 rfl) ?_
                  refine va_get (D := g.1) (ci := 11) (v := .ref (a_m 1)) (C := RX11) (T := TX11) (N := 46) hx hb hi_X11 (fun _ h => h) hown hK.1 hP 0 rfl rfl 0 (by decide) hf_7 (fun _ h9 => h9) rfl dX11_fewest_134 ?_
                  refine lv_bipush (v := 6) hx hb dX11_fewest_137 (by decide) ?_
                  have n_139 : vp_in (6 : Int32) 19800 := (t_in (by decide))
                  refine va_iald hx hb hK.1 hP 1 0 rfl rfl n_139 dX11_fewest_139 ?_
                  refine q_nm (fun x50 e_x50 => ?_)
                  have e_x50 : x50 = (I_m_67 1) 6 := e_x50
                  have g_x50 : x50.toInt = ((I_m_67 1) 6).toInt := congrArg _ e_x50
                  refine PurI.cv (As := [.int r49, .int x50]) (kX11_justOf l g a_m I_m_67 J_m r49 x50 hM_67) fx (gUV (uT _) u_760 u_761 u_762 u_5 u_763) rfl hdX11_justOf ⟨Nat.le_of_ble_eq_true rfl, Nat.le_of_ble_eq_true rfl⟩ hK hP [0, 1, 2, 3, 4, 5, 6, 7, 8, 9, 10, 11, 12, 13, 14, 15, 16, 17, 18, 19, 20, 21, 22] rfl rfl rfl rfl rfl hl.1 (Nat.le_of_ble_eq_true rfl) dX11_fewest_140 (fun r51 p_r51 => ?_)
                  have hm140 := hM_67.many rfl
                  refine PurI.cv (As := [.int r51]) (kX11_cellsOf l g a_m I_m_67 J_m r51 hM_67 (by omega)) fx (gUV (uT _) u_826 u_827 u_828 u_5 u_829) rfl hdX11_cellsOf ⟨Nat.le_of_ble_eq_true rfl, Nat.le_of_ble_eq_true rfl⟩ hK hP [0, 1, 2, 3, 4, 5, 6, 7, 8, 9, 10, 11, 12, 13, 14, 15, 16, 17, 18, 19, 20, 21, 22] rfl rfl rfl rfl rfl hl.1 (Nat.le_of_ble_eq_true rfl) dX11_fewest_143 (fun r52 p_r52 => ?_)
                  refine lv_iload_n hx hb dX11_fewest_146 rfl (lv_at hl 0 rfl) ?_
                  refine q_if_eq (tgt := 163) hx hb dX11_fewest_147 (by decide) rfl (fun b_147 k_147 => ?_) (fun b_147 k_147 => ?_)
                  · refine lv_iconst (v := 1) hx hb dX11_fewest_163 (by decide) ?_
                    refine lv_goto (tgt := 168) hx hb dX11_fewest_164 (by decide) ?_
                    refine r_iadd hx hb dX11_fewest_168 rfl (by decide : (1 : Int32).toInt = 1) (fun x53 e_x53 t_x53 => ?_)
                    try have t_x53 := t_x53 (by omega)
                    refine r_iadd hx hb dX11_fewest_169 rfl rfl (fun x54 e_x54 t_x54 => ?_)
                    try have t_x54 := t_x54 (by omega)
                    refine lv_istore_n (lv' := [(1, .int x54), (2, .int v2_67), (0, .ref (a_m 0))]) hx hb dX11_fewest_170 rfl hl (by decide) rfl (fun ls hl => ?_)
                    refine r_iinc (lv' := fun i55 => [(2, .int i55), (1, .int x54), (0, .ref (a_m 0))]) hx hb dX11_fewest_171 hl (k := 1) rfl (by decide) rfl (by decide) (fun _ => rfl) (fun i55 e_i55 t_i55 ls hl => ?_)
                    try have t_i55 := t_i55 (by omega)
                    refine lv_goto (tgt := 67) hx hb dX11_fewest_174 (by decide) ?_
                    exact ih_67 x54 i55 I_m_67 hM_67 hw_67 hk_67 (by omega) (by omega) _ _ hP hD hS ls hl
                  · refine lv_aload_n hx hb dX11_fewest_150 rfl (lv_at hl 2 rfl) ?_
                    refine lv_iload_n hx hb dX11_fewest_151 rfl (lv_at hl 0 rfl) ?_
                    refine lv_iconst (v := 1) hx hb dX11_fewest_152 (by decide) ?_
                    refine r_isub hx hb dX11_fewest_153 rfl (by decide : (1 : Int32).toInt = 1) (fun x56 e_x56 t_x56 => ?_)
                    try have t_x56 := t_x56 (by omega)
                    refine PurI.cv (As := [.int x56]) (kX11_byteOf l g a_m I_m_67 J_m x56 hM_67 (by omega)) fx (gUV (uT _) u_704 u_705 u_706 u_5 u_707) rfl hdX11_byteOf ⟨Nat.le_of_ble_eq_true rfl, Nat.le_of_ble_eq_true rfl⟩ hK hP [0, 1, 2, 3, 4, 5, 6, 7, 8, 9, 10, 11, 12, 13, 14, 15, 16, 17, 18, 19, 20, 21, 22] rfl rfl rfl rfl rfl hl.1 (Nat.le_of_ble_eq_true rfl) dX11_fewest_154 (fun r57 p_r57 => ?_)
                    refine PurI.cs (C := RX11) (As := [.int r57]) (kX11_isDigit0 l g r57) fx (gUS (uT _) u_717 u_718 u_5 u_719) rfl hdX11_isDigit0 ⟨Nat.le_of_ble_eq_true rfl, Nat.le_of_ble_eq_true rfl⟩ hK hP [] rfl rfl rfl hl.1 (Nat.le_of_ble_eq_true rfl) dX11_fewest_157 (fun r58 p_r58 => ?_)
                    refine q_if_ne (tgt := 167) hx hb dX11_fewest_160 (by decide) rfl (fun b_160 k_160 => ?_) (fun b_160 k_160 => ?_)
                    · have q_160 := bP.t p_r58 b_160
                      refine lv_iconst (v := 0) hx hb dX11_fewest_167 (by decide) ?_
                      refine r_iadd hx hb dX11_fewest_168 rfl (by decide : (0 : Int32).toInt = 0) (fun x59 e_x59 t_x59 => ?_)
                      try have t_x59 := t_x59 (by omega)
                      refine r_iadd hx hb dX11_fewest_169 rfl rfl (fun x60 e_x60 t_x60 => ?_)
                      try have t_x60 := t_x60 (by omega)
                      refine lv_istore_n (lv' := [(1, .int x60), (2, .int v2_67), (0, .ref (a_m 0))]) hx hb dX11_fewest_170 rfl hl (by decide) rfl (fun ls hl => ?_)
                      refine r_iinc (lv' := fun i61 => [(2, .int i61), (1, .int x60), (0, .ref (a_m 0))]) hx hb dX11_fewest_171 hl (k := 1) rfl (by decide) rfl (by decide) (fun _ => rfl) (fun i61 e_i61 t_i61 ls hl => ?_)
                      try have t_i61 := t_i61 (by omega)
                      refine lv_goto (tgt := 67) hx hb dX11_fewest_174 (by decide) ?_
                      exact ih_67 x60 i61 I_m_67 hM_67 hw_67 hk_67 (by omega) (by omega) _ _ hP hD hS ls hl
                    · have q_160 := bP.f p_r58 b_160
                      refine lv_iconst (v := 1) hx hb dX11_fewest_163 (by decide) ?_
                      refine lv_goto (tgt := 168) hx hb dX11_fewest_164 (by decide) ?_
                      refine r_iadd hx hb dX11_fewest_168 rfl (by decide : (1 : Int32).toInt = 1) (fun x62 e_x62 t_x62 => ?_)
                      try have t_x62 := t_x62 (by omega)
                      refine r_iadd hx hb dX11_fewest_169 rfl rfl (fun x63 e_x63 t_x63 => ?_)
                      try have t_x63 := t_x63 (by omega)
                      refine lv_istore_n (lv' := [(1, .int x63), (2, .int v2_67), (0, .ref (a_m 0))]) hx hb dX11_fewest_170 rfl hl (by decide) rfl (fun ls hl => ?_)
                      refine r_iinc (lv' := fun i64 => [(2, .int i64), (1, .int x63), (0, .ref (a_m 0))]) hx hb dX11_fewest_171 hl (k := 1) rfl (by decide) rfl (by decide) (fun _ => rfl) (fun i64 e_i64 t_i64 ls hl => ?_)
                      try have t_i64 := t_i64 (by omega)
                      refine lv_goto (tgt := 67) hx hb dX11_fewest_174 (by decide) ?_
                      exact ih_67 x63 i64 I_m_67 hM_67 hw_67 hk_67 (by omega) (by omega) _ _ hP hD hS ls hl
              · have q_86 := bP.t p_r44 b_86
                refine lv_iload_n hx hb dX11_fewest_89 rfl (lv_at hl 1 rfl) ?_
                refine lv_aload_n hx hb dX11_fewest_90 rfl (lv_at hl 2 rfl) ?_
                refine lv_iload_n hx hb dX11_fewest_91 rfl (lv_at hl 0 rfl) ?_
                refine lv_aload_n hx hb dX11_fewest_92 rfl (lv_at hl 2 rfl) ?_
                refine lv_iload_n hx hb dX11_fewest_93 rfl (lv_at hl 0 rfl) ?_
                refine PurI.cv (As := [.int v2_67]) (kX11_wordEnd l g a_m I_m_67 J_m v2_67 hM_67 (by omega)) fx (gUV (uT _) u_728 u_729 u_730 u_5 u_731) rfl hdX11_wordEnd ⟨Nat.le_of_ble_eq_true rfl, Nat.le_of_ble_eq_true rfl⟩ hK hP [0, 1, 2, 3, 4, 5, 6, 7, 8, 9, 10, 11, 12, 13, 14, 15, 16, 17, 18, 19, 20, 21, 22] rfl rfl rfl rfl rfl hl.1 (Nat.le_of_ble_eq_true rfl) dX11_fewest_94 (fun r65 p_r65 => ?_)
                have hq94 := p_r65.lt (by rcases hb80 with w | w; exact w.1; exfalso; omega) (by rcases hb80 with w | w; rw [← w.2]; exact q_86; exfalso; omega)
                have hwb94 := hM_67.wb rfl
                refine EffI.cv (wr := ([])) (w' := fun u67 => wX11 g a_m u67 J_m) (As := [.int v2_67, .int r65]) (kX11_leastOf l g a_m I_m_67 J_m v2_67 r65 hM_67 (by omega)) fx (gUV (uT _) u_1072 u_1073 u_1074 u_5 u_1075) rfl hdX11_leastOf ⟨Nat.le_of_ble_eq_true rfl, Nat.le_of_ble_eq_true rfl⟩ hK hP hD hS hA [0, 1, 2, 3, 4, 5, 6, 7, 8, 9, 10, 11, 12, 13, 14, 15, 16, 17, 18, 19, 20, 21, 22] [] [0, 1, 2, 3, 4, 5, 6, 7, 8, 9, 10, 11, 12, 13, 14, 15, 16, 17, 18, 19, 20, 21, 22] rfl rfl rfl rfl (by decide) rfl (fun _ => rfl) rfl rfl rfl rfl hl.1 (Nat.le_of_ble_eq_true rfl) dX11_fewest_97 (fun r66 u67 H locs p_r66 hP hD hS => ?_)
                have hP : va_P g.1 vwCl (wX11 g a_m u67 J_m) H := hP
                have hD : va_D A (wX11 g a_m u67 J_m) := hD
                have hwb97 := (MI.kk hM_67 p_r66 (by decide) (by decide)).wb rfl
                have hbs97 : BS I_m_67 u67 := (BS.rf _).kk p_r66 (by decide)
                refine r_iadd hx hb dX11_fewest_100 rfl rfl (fun x68 e_x68 t_x68 => ?_)
                try have t_x68 := t_x68 (by omega)
                refine lv_istore_n (lv' := [(1, .int x68), (2, .int v2_67), (0, .ref (a_m 0))]) hx hb dX11_fewest_101 rfl hl (by decide) rfl (fun ls hl => ?_)
                refine lv_aload_n hx hb dX11_fewest_102 rfl (lv_at hl 2 rfl) ?_
                refine lv_iload_n hx hb dX11_fewest_103 rfl (lv_at hl 1 rfl) ?_
                refine PurI.cv (As := [.int v2_67]) (kX11_wordEnd l g a_m u67 J_m v2_67 (MI.kk hM_67 p_r66 (by decide) (by decide)) (by omega)) fx (gUV (uT _) u_728 u_729 u_730 u_5 u_731) rfl hdX11_wordEnd ⟨Nat.le_of_ble_eq_true rfl, Nat.le_of_ble_eq_true rfl⟩ hK hP [0, 1, 2, 3, 4, 5, 6, 7, 8, 9, 10, 11, 12, 13, 14, 15, 16, 17, 18, 19, 20, 21, 22] rfl rfl rfl rfl rfl hl.1 (Nat.le_of_ble_eq_true rfl) dX11_fewest_104 (fun r69 p_r69 => ?_)
                have hq104 := (p_r69.bs hbs97 (by omega) (by omega)).lt (by rcases hb80 with w | w; exact w.1; exfalso; omega) (by rcases hb80 with w | w; rw [← w.2]; exact q_86; exfalso; omega)
                refine lv_istore_n (lv' := [(2, .int r69), (1, .int x68), (0, .ref (a_m 0))]) hx hb dX11_fewest_107 rfl hl (by decide) rfl (fun ls hl => ?_)
                refine lv_goto (tgt := 67) hx hb dX11_fewest_108 (by decide) ?_
                exact ih_67 x68 r69 u67 (MI.kk hM_67 p_r66 (by decide) (by decide)) (WK.kk hw_67 p_r66 (by decide)) (KK.tr hk_67 p_r66 (by decide) (by decide)) (by omega) (by omega) _ _ hP hD hS ls hl
        exact L67 ((301 - (0 : Int32).toInt) + 1).toNat x39 (0 : Int32) u6 (p_r5.1) (WK.tr (WK.tr (WK.rf I_m) p_r2.2.1) p_r5.2.1) (KK.tr (KK.tr (KK.rf I_m) p_r2.2.2 (by decide) (by decide)) p_r5.2.2.1 (by decide) (by decide)) (by omega) (by omega) _ _ hP hD hS ls hl
    · refine lv_aload_n hx hb dX11_fewest_32 rfl (lv_at hl 0 rfl) ?_
      refine lv_bipush (v := 7) hx hb dX11_fewest_33 (by decide) ?_
      refine EffI.cv (wr := ([])) (w' := fun u71 => wX11 g a_m u71 J_m) (As := [.int (7 : Int32)]) (kX11_refuse l g a_m u6 J_m (7 : Int32)) fx (gUV (uT _) u_536 u_537 u_538 u_5 u_539) rfl hdX11_refuse ⟨Nat.le_of_ble_eq_true rfl, Nat.le_of_ble_eq_true rfl⟩ hK hP hD hS hA [0, 1, 2, 3, 4, 5, 6, 7, 8, 9, 10, 11, 12, 13, 14, 15, 16, 17, 18, 19, 20, 21, 22] [] [0, 1, 2, 3, 4, 5, 6, 7, 8, 9, 10, 11, 12, 13, 14, 15, 16, 17, 18, 19, 20, 21, 22] rfl rfl rfl rfl (by decide) rfl (fun _ => rfl) rfl rfl rfl rfl hl.1 (Nat.le_of_ble_eq_true rfl) dX11_fewest_35 (fun r70 u71 H locs p_r70 hP hD hS => ?_)
      have hP : va_P g.1 vwCl (wX11 g a_m u71 J_m) H := hP
      have hD : va_D A (wX11 g a_m u71 J_m) := hD
      refine hret 38 ls r70 _ _ u71 dX11_fewest_38 hS hP hD ?_
      exact ⟨(MI.st (p_r5.1) p_r70.2), (WK.st (WK.tr (WK.tr (WK.rf I_m) p_r2.2.1) p_r5.2.1) p_r70.2), (KK.st (KK.tr (KK.tr (KK.rf I_m) p_r2.2.2 (by decide) (by decide)) p_r5.2.2.1 (by decide) (by decide)) p_r70.2 (by decide))⟩
  · have q_4 := bP.f p_r1 b_4
    refine lv_aload_n hx hb dX11_fewest_7 rfl (lv_at hl 0 rfl) ?_
    refine lv_bipush (v := 6) hx hb dX11_fewest_8 (by decide) ?_
    refine EffI.cv (wr := ([])) (w' := fun u73 => wX11 g a_m u73 J_m) (As := [.int (6 : Int32)]) (kX11_refuse l g a_m I_m J_m (6 : Int32)) fx (gUV (uT _) u_536 u_537 u_538 u_5 u_539) rfl hdX11_refuse ⟨Nat.le_of_ble_eq_true rfl, Nat.le_of_ble_eq_true rfl⟩ hK hP hD hS hA [0, 1, 2, 3, 4, 5, 6, 7, 8, 9, 10, 11, 12, 13, 14, 15, 16, 17, 18, 19, 20, 21, 22] [] [0, 1, 2, 3, 4, 5, 6, 7, 8, 9, 10, 11, 12, 13, 14, 15, 16, 17, 18, 19, 20, 21, 22] rfl rfl rfl rfl (by decide) rfl (fun _ => rfl) rfl rfl rfl rfl hl.1 (Nat.le_of_ble_eq_true rfl) dX11_fewest_10 (fun r72 u73 H locs p_r72 hP hD hS => ?_)
    have hP : va_P g.1 vwCl (wX11 g a_m u73 J_m) H := hP
    have hD : va_D A (wX11 g a_m u73 J_m) := hD
    refine hret 13 ls r72 _ _ u73 dX11_fewest_13 hS hP hD ?_
    exact ⟨(MI.st hM p_r72.2), (WK.st (WK.rf I_m) p_r72.2), (KK.st (KK.rf I_m) p_r72.2 (by decide))⟩

set_option maxHeartbeats 4000000 in
set_option maxRecDepth 100000 in
theorem kX11_takesBy (l : Launch) (g : gG) (a_m : Nat → Nat) (I_m : Nat → Nat → Int32) (J_m : Nat → Nat → Int64) (gone : Int32) (hM : MI I_m) (h_b : 0 ≤ (I_m 1 7).toInt) : EffI l g yX11_takesBy wsX11_takesBy 6 [.ref (a_m 0), .int gone] (wX11 g a_m I_m J_m) (fun (u : (Nat → Nat → Int32)) => wX11 g a_m u J_m) (fun r (u : (Nat → Nat → Int32)) => MI (u) ∧ WK I_m (u) ∧ KK [1] [20, 21] I_m (u)) := by
  refine EffI.st (cc := cX11_takesBy) (maxL := 2) (by decide) rfl (Nat.le_of_ble_eq_true rfl) (fun p e s m args below meth c A Q ls fx hK hP hD hA hS hl hret => ?_)
  have hx := fx.1
  have hb := fx.2.1
  have hml := fx.2.2.1
  have hown := fx.2.2.2.1
  have hts := fx.2.2.2.2
  have hl : lv_has ls 2 [(0, .ref (a_m 0)), (1, .int gone)] := hl
  have hP : va_P g.1 vwCl (wX11 g a_m I_m J_m) s.heap := hP
  have hf_7 := hts _ (uT _ _ u_170)
  have hi_X11 : ∀ w ∈ wsX110, w.before args s = true := fun w h => hts w (uT _ w (u_wsX110 w h))
  have lm1 : (-1 : Int32).toInt = -1 := by decide
  have lm0 : (0 : Int32).toInt = 0 := by decide
  have lm2 : (1 : Int32).toInt = 1 := by decide
  have lq16508 : (16508 : Int32).toInt = 16508 := by decide
  have lq1 : (1 : Int32).toInt = 1 := by decide
  refine lv_aload_n hx hb dX11_takesBy_0 rfl (lv_at hl 0 rfl) ?_
  refine EffV.cv (wr := ([])) (w' := fun u2 => wX11 g a_m u2 J_m) (As := []) (kX11_laysBytes l g a_m I_m J_m hM h_b) fx (gUV (uT _) u_860 u_861 u_862 u_5 u_863) rfl hdX11_laysBytes ⟨Nat.le_of_ble_eq_true rfl, Nat.le_of_ble_eq_true rfl⟩ hK hP hD hS hA [0, 1, 2, 3, 4, 5, 6, 7, 8, 9, 10, 11, 12, 13, 14, 15, 16, 17, 18, 19, 20, 21, 22] [] [0, 1, 2, 3, 4, 5, 6, 7, 8, 9, 10, 11, 12, 13, 14, 15, 16, 17, 18, 19, 20, 21, 22] rfl rfl rfl rfl (by decide) rfl (fun _ => rfl) rfl rfl rfl rfl hl.1 (Nat.le_of_ble_eq_true rfl) dX11_takesBy_1 (fun u2 H locs p_r1 hP hD hS => ?_)
  have hP : va_P g.1 vwCl (wX11 g a_m u2 J_m) H := hP
  have hD : va_D A (wX11 g a_m u2 J_m) := hD
  refine lv_aload_n hx hb dX11_takesBy_4 rfl (lv_at hl 0 rfl) ?_
  refine lv_iload_n hx hb dX11_takesBy_5 rfl (lv_at hl 1 rfl) ?_
  refine EffI.cv (wr := ([])) (w' := fun u4 => wX11 g a_m u4 J_m) (As := [.int gone]) (kX11_setsAll l g a_m u2 J_m gone (p_r1.1)) fx (gUV (uT _) u_700 u_701 u_702 u_5 u_703) rfl hdX11_setsAll ⟨Nat.le_of_ble_eq_true rfl, Nat.le_of_ble_eq_true rfl⟩ hK hP hD hS hA [0, 1, 2, 3, 4, 5, 6, 7, 8, 9, 10, 11, 12, 13, 14, 15, 16, 17, 18, 19, 20, 21, 22] [] [0, 1, 2, 3, 4, 5, 6, 7, 8, 9, 10, 11, 12, 13, 14, 15, 16, 17, 18, 19, 20, 21, 22] rfl rfl rfl rfl (by decide) rfl (fun _ => rfl) rfl rfl rfl rfl hl.1 (Nat.le_of_ble_eq_true rfl) dX11_takesBy_6 (fun r3 u4 H locs p_r3 hP hD hS => ?_)
  have hP : va_P g.1 vwCl (wX11 g a_m u4 J_m) H := hP
  have hD : va_D A (wX11 g a_m u4 J_m) := hD
  refine q_if_eq (tgt := 23) hx hb dX11_takesBy_9 (by decide) rfl (fun b_9 k_9 => ?_) (fun b_9 k_9 => ?_)
  · refine lv_iconst (v := -1) hx hb dX11_takesBy_23 (by decide) ?_
    refine hret 24 ls (-1 : Int32) _ _ u4 dX11_takesBy_24 hS hP hD ?_
    exact ⟨(p_r3.1), (WK.tr (WK.tr (WK.rf I_m) p_r1.2.1) p_r3.2.1), (KK.tr (KK.tr (KK.rf I_m) p_r1.2.2 (by decide) (by decide)) p_r3.2.2.1 (by decide) (by decide))⟩
  · refine lv_aload_n hx hb dX11_takesBy_12 rfl (lv_at hl 0 rfl) ?_
    refine va_get (D := g.1) (ci := 11) (v := .ref (a_m 1)) (C := RX11) (T := TX11) (N := 46) hx hb hi_X11 (fun _ h => h) hown hK.1 hP 0 rfl rfl 0 (by decide) hf_7 (fun _ h9 => h9) rfl dX11_takesBy_13 ?_
    refine lv_sipush (v := 16508) hx hb dX11_takesBy_16 (by decide) ?_
    have n_19 : vp_in (16508 : Int32) 19800 := (t_in (by decide))
    refine va_iald hx hb hK.1 hP 1 0 rfl rfl n_19 dX11_takesBy_19 ?_
    refine q_nm (fun x5 e_x5 => ?_)
    have e_x5 : x5 = (u4 1) 16508 := e_x5
    have g_x5 : x5.toInt = ((u4 1) 16508).toInt := congrArg _ e_x5
    refine lv_goto (tgt := 24) hx hb dX11_takesBy_20 (by decide) ?_
    refine hret 24 ls x5 _ _ u4 dX11_takesBy_24 hS hP hD ?_
    exact ⟨(p_r3.1), (WK.tr (WK.tr (WK.rf I_m) p_r1.2.1) p_r3.2.1), (KK.tr (KK.tr (KK.rf I_m) p_r1.2.2 (by decide) (by decide)) p_r3.2.2.1 (by decide) (by decide))⟩

set_option maxHeartbeats 4000000 in
set_option maxRecDepth 100000 in
theorem kX11_saving (l : Launch) (g : gG) (a_m : Nat → Nat) (I_m : Nat → Nat → Int32) (J_m : Nat → Nat → Int64) (rule : Int32) (hM : MI I_m) : EffI l g yX11_saving wsX11_saving 7 [.ref (a_m 0), .int rule] (wX11 g a_m I_m J_m) (fun (u : (Nat → Nat → Int32)) => wX11 g a_m u J_m) (fun r (u : (Nat → Nat → Int32)) => MI (u) ∧ WK I_m (u) ∧ KK [1] [1, 20, 21] I_m (u)) := by
  refine EffI.st (cc := cX11_saving) (maxL := 4) (by decide) rfl (Nat.le_of_ble_eq_true rfl) (fun p e s m args below meth c A Q ls fx hK hP hD hA hS hl hret => ?_)
  have hx := fx.1
  have hb := fx.2.1
  have hml := fx.2.2.1
  have hown := fx.2.2.2.1
  have hts := fx.2.2.2.2
  have hl : lv_has ls 4 [(0, .ref (a_m 0)), (1, .int rule)] := hl
  have hP : va_P g.1 vwCl (wX11 g a_m I_m J_m) s.heap := hP
  have hf_7 := hts _ (uT _ _ u_170)
  have hi_X11 : ∀ w ∈ wsX110, w.before args s = true := fun w h => hts w (uT _ w (u_wsX110 w h))
  have lm1 : (-1 : Int32).toInt = -1 := by decide
  have lm0 : (0 : Int32).toInt = 0 := by decide
  have lm2 : (1 : Int32).toInt = 1 := by decide
  have lq6 : (6 : Int32).toInt = 6 := by decide
  have lq7 : (7 : Int32).toInt = 7 := by decide
  have lq1 : (1 : Int32).toInt = 1 := by decide
  refine lv_aload_n hx hb dX11_saving_0 rfl (lv_at hl 0 rfl) ?_
  refine lv_iload_n hx hb dX11_saving_1 rfl (lv_at hl 1 rfl) ?_
  refine PurI.cv (As := [.int rule]) (kX11_isRule l g a_m I_m J_m rule hM) fx (gUV (uT _) u_804 u_805 u_806 u_5 u_807) rfl hdX11_isRule ⟨Nat.le_of_ble_eq_true rfl, Nat.le_of_ble_eq_true rfl⟩ hK hP [0, 1, 2, 3, 4, 5, 6, 7, 8, 9, 10, 11, 12, 13, 14, 15, 16, 17, 18, 19, 20, 21, 22] rfl rfl rfl rfl rfl hl.1 (Nat.le_of_ble_eq_true rfl) dX11_saving_2 (fun r1 p_r1 => ?_)
  refine q_if_ne (tgt := 14) hx hb dX11_saving_5 (by decide) rfl (fun b_5 k_5 => ?_) (fun b_5 k_5 => ?_)
  · have q_5 := bP.t p_r1 b_5
    refine lv_aload_n hx hb dX11_saving_14 rfl (lv_at hl 0 rfl) ?_
    refine PurI.cv (As := []) (kX11_isSet l g a_m I_m J_m hM) fx (gUV (uT _) u_856 u_857 u_858 u_5 u_859) rfl hdX11_isSet ⟨Nat.le_of_ble_eq_true rfl, Nat.le_of_ble_eq_true rfl⟩ hK hP [0, 1, 2, 3, 4, 5, 6, 7, 8, 9, 10, 11, 12, 13, 14, 15, 16, 17, 18, 19, 20, 21, 22] rfl rfl rfl rfl rfl hl.1 (Nat.le_of_ble_eq_true rfl) dX11_saving_15 (fun r2 p_r2 => ?_)
    refine q_if_ne (tgt := 28) hx hb dX11_saving_18 (by decide) rfl (fun b_18 k_18 => ?_) (fun b_18 k_18 => ?_)
    · have q_18 := bP.t p_r2 b_18
      refine lv_aload_n hx hb dX11_saving_28 rfl (lv_at hl 0 rfl) ?_
      refine lv_aload_n hx hb dX11_saving_29 rfl (lv_at hl 0 rfl) ?_
      refine va_get (D := g.1) (ci := 11) (v := .ref (a_m 1)) (C := RX11) (T := TX11) (N := 46) hx hb hi_X11 (fun _ h => h) hown hK.1 hP 0 rfl rfl 0 (by decide) hf_7 (fun _ h9 => h9) rfl dX11_saving_30 ?_
      refine lv_bipush (v := 6) hx hb dX11_saving_33 (by decide) ?_
      have n_35 : vp_in (6 : Int32) 19800 := (t_in (by decide))
      refine va_iald hx hb hK.1 hP 1 0 rfl rfl n_35 dX11_saving_35 ?_
      refine q_nm (fun x3 e_x3 => ?_)
      have e_x3 : x3 = (I_m 1) 6 := e_x3
      have g_x3 : x3.toInt = ((I_m 1) 6).toInt := congrArg _ e_x3
      refine EffI.cv (wr := ([])) (w' := fun u5 => wX11 g a_m u5 J_m) (As := [.int x3]) (kX11_takesBy l g a_m I_m J_m x3 hM q_18) fx (gUV (uT _) u_1085 u_1086 u_1087 u_5 u_1088) rfl hdX11_takesBy ⟨Nat.le_of_ble_eq_true rfl, Nat.le_of_ble_eq_true rfl⟩ hK hP hD hS hA [0, 1, 2, 3, 4, 5, 6, 7, 8, 9, 10, 11, 12, 13, 14, 15, 16, 17, 18, 19, 20, 21, 22] [] [0, 1, 2, 3, 4, 5, 6, 7, 8, 9, 10, 11, 12, 13, 14, 15, 16, 17, 18, 19, 20, 21, 22] rfl rfl rfl rfl (by decide) rfl (fun _ => rfl) rfl rfl rfl rfl hl.1 (Nat.le_of_ble_eq_true rfl) dX11_saving_36 (fun r4 u5 H locs p_r4 hP hD hS => ?_)
      have hP : va_P g.1 vwCl (wX11 g a_m u5 J_m) H := hP
      have hD : va_D A (wX11 g a_m u5 J_m) := hD
      refine lv_istore_n (lv' := [(2, .int r4), (0, .ref (a_m 0)), (1, .int rule)]) hx hb dX11_saving_39 rfl hl (by decide) rfl (fun ls hl => ?_)
      refine lv_aload_n hx hb dX11_saving_40 rfl (lv_at hl 1 rfl) ?_
      refine lv_aload_n hx hb dX11_saving_41 rfl (lv_at hl 1 rfl) ?_
      refine va_get (D := g.1) (ci := 11) (v := .ref (a_m 1)) (C := RX11) (T := TX11) (N := 46) hx hb hi_X11 (fun _ h => h) hown hK.1 hP 0 rfl rfl 0 (by decide) hf_7 (fun _ h9 => h9) rfl dX11_saving_42 ?_
      refine lv_bipush (v := 6) hx hb dX11_saving_45 (by decide) ?_
      have n_47 : vp_in (6 : Int32) 19800 := (t_in (by decide))
      refine va_iald hx hb hK.1 hP 1 0 rfl rfl n_47 dX11_saving_47 ?_
      refine q_nm (fun x6 e_x6 => ?_)
      have e_x6 : x6 = (u5 1) 6 := e_x6
      have g_x6 : x6.toInt = ((u5 1) 6).toInt := congrArg _ e_x6
      refine lv_iconst (v := 1) hx hb dX11_saving_48 (by decide) ?_
      refine lv_iload_n hx hb dX11_saving_49 rfl (lv_at hl 2 rfl) ?_
      refine lv_ishl hx hb dX11_saving_50 ?_
      refine q_nm (fun x7 e_x7 => ?_)
      refine lv_ior hx hb dX11_saving_51 ?_
      refine q_nm (fun x8 e_x8 => ?_)
      refine EffI.cv (wr := ([])) (w' := fun u10 => wX11 g a_m u10 J_m) (As := [.int x8]) (kX11_takesBy l g a_m u5 J_m x8 (p_r4.1) (by rw [p_r4.2.1 7 (by decide)]; exact q_18)) fx (gUV (uT _) u_1085 u_1086 u_1087 u_5 u_1088) rfl hdX11_takesBy ⟨Nat.le_of_ble_eq_true rfl, Nat.le_of_ble_eq_true rfl⟩ hK hP hD hS hA [0, 1, 2, 3, 4, 5, 6, 7, 8, 9, 10, 11, 12, 13, 14, 15, 16, 17, 18, 19, 20, 21, 22] [] [0, 1, 2, 3, 4, 5, 6, 7, 8, 9, 10, 11, 12, 13, 14, 15, 16, 17, 18, 19, 20, 21, 22] rfl rfl rfl rfl (by decide) rfl (fun _ => rfl) rfl rfl rfl rfl hl.1 (Nat.le_of_ble_eq_true rfl) dX11_saving_52 (fun r9 u10 H locs p_r9 hP hD hS => ?_)
      have hP : va_P g.1 vwCl (wX11 g a_m u10 J_m) H := hP
      have hD : va_D A (wX11 g a_m u10 J_m) := hD
      refine lv_istore_n (lv' := [(3, .int r9), (2, .int r4), (0, .ref (a_m 0)), (1, .int rule)]) hx hb dX11_saving_55 rfl hl (by decide) rfl (fun ls hl => ?_)
      refine lv_iload_n hx hb dX11_saving_56 rfl (lv_at hl 1 rfl) ?_
      refine lv_iconst (v := -1) hx hb dX11_saving_57 (by decide) ?_
      refine q_icmp_eq (tgt := 66) hx hb dX11_saving_58 (by decide) rfl (by decide : (-1 : Int32).toInt = -1) (fun k_58 => ?_) (fun k_58 => ?_)
      · refine lv_aload_n hx hb dX11_saving_66 rfl (lv_at hl 2 rfl) ?_
        refine lv_bipush (v := 7) hx hb dX11_saving_67 (by decide) ?_
        refine EffI.cv (wr := ([])) (w' := fun u12 => wX11 g a_m u12 J_m) (As := [.int (7 : Int32)]) (kX11_refuse l g a_m u10 J_m (7 : Int32)) fx (gUV (uT _) u_536 u_537 u_538 u_5 u_539) rfl hdX11_refuse ⟨Nat.le_of_ble_eq_true rfl, Nat.le_of_ble_eq_true rfl⟩ hK hP hD hS hA [0, 1, 2, 3, 4, 5, 6, 7, 8, 9, 10, 11, 12, 13, 14, 15, 16, 17, 18, 19, 20, 21, 22] [] [0, 1, 2, 3, 4, 5, 6, 7, 8, 9, 10, 11, 12, 13, 14, 15, 16, 17, 18, 19, 20, 21, 22] rfl rfl rfl rfl (by decide) rfl (fun _ => rfl) rfl rfl rfl rfl hl.1 (Nat.le_of_ble_eq_true rfl) dX11_saving_69 (fun r11 u12 H locs p_r11 hP hD hS => ?_)
        have hP : va_P g.1 vwCl (wX11 g a_m u12 J_m) H := hP
        have hD : va_D A (wX11 g a_m u12 J_m) := hD
        refine lv_goto (tgt := 82) hx hb dX11_saving_72 (by decide) ?_
        refine hret 82 ls r11 _ _ u12 dX11_saving_82 hS hP hD ?_
        exact ⟨(MI.st (p_r9.1) p_r11.2), (WK.st (WK.tr (WK.tr (WK.rf I_m) p_r4.2.1) p_r9.2.1) p_r11.2), (KK.st (KK.tr (KK.tr (KK.rf I_m) p_r4.2.2 (by decide) (by decide)) p_r9.2.2 (by decide) (by decide)) p_r11.2 (by decide))⟩
      · refine lv_iload_n hx hb dX11_saving_61 rfl (lv_at hl 0 rfl) ?_
        refine lv_iconst (v := -1) hx hb dX11_saving_62 (by decide) ?_
        refine q_icmp_ne (tgt := 75) hx hb dX11_saving_63 (by decide) rfl (by decide : (-1 : Int32).toInt = -1) (fun k_63 => ?_) (fun k_63 => ?_)
        · refine lv_aload_n hx hb dX11_saving_75 rfl (lv_at hl 2 rfl) ?_
          refine lv_iload_n hx hb dX11_saving_76 rfl (lv_at hl 0 rfl) ?_
          refine lv_iload_n hx hb dX11_saving_77 rfl (lv_at hl 1 rfl) ?_
          refine r_isub hx hb dX11_saving_78 rfl rfl (fun x13 e_x13 t_x13 => ?_)
          try have t_x13 := t_x13 (by omega)
          refine EffI.cv (wr := ([])) (w' := fun u15 => wX11 g a_m u15 J_m) (As := [.int x13]) (kX11_gives l g a_m u10 J_m x13) fx (gUV (uT _) u_585 u_586 u_587 u_5 u_588) rfl hdX11_gives ⟨Nat.le_of_ble_eq_true rfl, Nat.le_of_ble_eq_true rfl⟩ hK hP hD hS hA [0, 1, 2, 3, 4, 5, 6, 7, 8, 9, 10, 11, 12, 13, 14, 15, 16, 17, 18, 19, 20, 21, 22] [] [0, 1, 2, 3, 4, 5, 6, 7, 8, 9, 10, 11, 12, 13, 14, 15, 16, 17, 18, 19, 20, 21, 22] rfl rfl rfl rfl (by decide) rfl (fun _ => rfl) rfl rfl rfl rfl hl.1 (Nat.le_of_ble_eq_true rfl) dX11_saving_79 (fun r14 u15 H locs p_r14 hP hD hS => ?_)
          have hP : va_P g.1 vwCl (wX11 g a_m u15 J_m) H := hP
          have hD : va_D A (wX11 g a_m u15 J_m) := hD
          refine hret 82 ls r14 _ _ u15 dX11_saving_82 hS hP hD ?_
          exact ⟨(MI.st (p_r9.1) p_r14.2), (WK.st (WK.tr (WK.tr (WK.rf I_m) p_r4.2.1) p_r9.2.1) p_r14.2), (KK.st (KK.tr (KK.tr (KK.rf I_m) p_r4.2.2 (by decide) (by decide)) p_r9.2.2 (by decide) (by decide)) p_r14.2 (by decide))⟩
        · refine lv_aload_n hx hb dX11_saving_66 rfl (lv_at hl 2 rfl) ?_
          refine lv_bipush (v := 7) hx hb dX11_saving_67 (by decide) ?_
          refine EffI.cv (wr := ([])) (w' := fun u17 => wX11 g a_m u17 J_m) (As := [.int (7 : Int32)]) (kX11_refuse l g a_m u10 J_m (7 : Int32)) fx (gUV (uT _) u_536 u_537 u_538 u_5 u_539) rfl hdX11_refuse ⟨Nat.le_of_ble_eq_true rfl, Nat.le_of_ble_eq_true rfl⟩ hK hP hD hS hA [0, 1, 2, 3, 4, 5, 6, 7, 8, 9, 10, 11, 12, 13, 14, 15, 16, 17, 18, 19, 20, 21, 22] [] [0, 1, 2, 3, 4, 5, 6, 7, 8, 9, 10, 11, 12, 13, 14, 15, 16, 17, 18, 19, 20, 21, 22] rfl rfl rfl rfl (by decide) rfl (fun _ => rfl) rfl rfl rfl rfl hl.1 (Nat.le_of_ble_eq_true rfl) dX11_saving_69 (fun r16 u17 H locs p_r16 hP hD hS => ?_)
          have hP : va_P g.1 vwCl (wX11 g a_m u17 J_m) H := hP
          have hD : va_D A (wX11 g a_m u17 J_m) := hD
          refine lv_goto (tgt := 82) hx hb dX11_saving_72 (by decide) ?_
          refine hret 82 ls r16 _ _ u17 dX11_saving_82 hS hP hD ?_
          exact ⟨(MI.st (p_r9.1) p_r16.2), (WK.st (WK.tr (WK.tr (WK.rf I_m) p_r4.2.1) p_r9.2.1) p_r16.2), (KK.st (KK.tr (KK.tr (KK.rf I_m) p_r4.2.2 (by decide) (by decide)) p_r9.2.2 (by decide) (by decide)) p_r16.2 (by decide))⟩
    · have q_18 := bP.f p_r2 b_18
      refine lv_aload_n hx hb dX11_saving_21 rfl (lv_at hl 0 rfl) ?_
      refine lv_bipush (v := 6) hx hb dX11_saving_22 (by decide) ?_
      refine EffI.cv (wr := ([])) (w' := fun u19 => wX11 g a_m u19 J_m) (As := [.int (6 : Int32)]) (kX11_refuse l g a_m I_m J_m (6 : Int32)) fx (gUV (uT _) u_536 u_537 u_538 u_5 u_539) rfl hdX11_refuse ⟨Nat.le_of_ble_eq_true rfl, Nat.le_of_ble_eq_true rfl⟩ hK hP hD hS hA [0, 1, 2, 3, 4, 5, 6, 7, 8, 9, 10, 11, 12, 13, 14, 15, 16, 17, 18, 19, 20, 21, 22] [] [0, 1, 2, 3, 4, 5, 6, 7, 8, 9, 10, 11, 12, 13, 14, 15, 16, 17, 18, 19, 20, 21, 22] rfl rfl rfl rfl (by decide) rfl (fun _ => rfl) rfl rfl rfl rfl hl.1 (Nat.le_of_ble_eq_true rfl) dX11_saving_24 (fun r18 u19 H locs p_r18 hP hD hS => ?_)
      have hP : va_P g.1 vwCl (wX11 g a_m u19 J_m) H := hP
      have hD : va_D A (wX11 g a_m u19 J_m) := hD
      refine hret 27 ls r18 _ _ u19 dX11_saving_27 hS hP hD ?_
      exact ⟨(MI.st hM p_r18.2), (WK.st (WK.rf I_m) p_r18.2), (KK.st (KK.rf I_m) p_r18.2 (by decide))⟩
  · have q_5 := bP.f p_r1 b_5
    refine lv_aload_n hx hb dX11_saving_8 rfl (lv_at hl 0 rfl) ?_
    refine lv_iconst (v := 1) hx hb dX11_saving_9 (by decide) ?_
    refine EffI.cv (wr := ([])) (w' := fun u21 => wX11 g a_m u21 J_m) (As := [.int (1 : Int32)]) (kX11_refuse l g a_m I_m J_m (1 : Int32)) fx (gUV (uT _) u_536 u_537 u_538 u_5 u_539) rfl hdX11_refuse ⟨Nat.le_of_ble_eq_true rfl, Nat.le_of_ble_eq_true rfl⟩ hK hP hD hS hA [0, 1, 2, 3, 4, 5, 6, 7, 8, 9, 10, 11, 12, 13, 14, 15, 16, 17, 18, 19, 20, 21, 22] [] [0, 1, 2, 3, 4, 5, 6, 7, 8, 9, 10, 11, 12, 13, 14, 15, 16, 17, 18, 19, 20, 21, 22] rfl rfl rfl rfl (by decide) rfl (fun _ => rfl) rfl rfl rfl rfl hl.1 (Nat.le_of_ble_eq_true rfl) dX11_saving_10 (fun r20 u21 H locs p_r20 hP hD hS => ?_)
    have hP : va_P g.1 vwCl (wX11 g a_m u21 J_m) H := hP
    have hD : va_D A (wX11 g a_m u21 J_m) := hD
    refine hret 13 ls r20 _ _ u21 dX11_saving_13 hS hP hD ?_
    exact ⟨(MI.st hM p_r20.2), (WK.st (WK.rf I_m) p_r20.2), (KK.st (KK.rf I_m) p_r20.2 (by decide))⟩

set_option maxHeartbeats 4000000 in
set_option maxRecDepth 100000 in
theorem kX11_cheapest (l : Launch) (g : gG) (a_m : Nat → Nat) (I_m : Nat → Nat → Int32) (J_m : Nat → Nat → Int64) (hM : MI I_m) : EffI l g yX11_cheapest wsX11_cheapest 7 [.ref (a_m 0)] (wX11 g a_m I_m J_m) (fun (u : (Nat → Nat → Int32)) => wX11 g a_m u J_m) (fun r (u : (Nat → Nat → Int32)) => MI (u) ∧ WK I_m (u) ∧ KK [1] [1, 20, 21] I_m (u)) := by
  refine EffI.st (cc := cX11_cheapest) (maxL := 5) (by decide) rfl (Nat.le_of_ble_eq_true rfl) (fun p e s m args below meth c A Q ls fx hK hP hD hA hS hl hret => ?_)
  have hx := fx.1
  have hb := fx.2.1
  have hml := fx.2.2.1
  have hown := fx.2.2.2.1
  have hts := fx.2.2.2.2
  have hl : lv_has ls 5 [(0, .ref (a_m 0))] := hl
  have hP : va_P g.1 vwCl (wX11 g a_m I_m J_m) s.heap := hP
  have hf_7 := hts _ (uT _ _ u_170)
  have hi_X11 : ∀ w ∈ wsX110, w.before args s = true := fun w h => hts w (uT _ w (u_wsX110 w h))
  have lm1 : (-1 : Int32).toInt = -1 := by decide
  have lm0 : (0 : Int32).toInt = 0 := by decide
  have lm2 : (1 : Int32).toInt = 1 := by decide
  have lq6 : (6 : Int32).toInt = 6 := by decide
  have lq7 : (7 : Int32).toInt = 7 := by decide
  have lq1 : (1 : Int32).toInt = 1 := by decide
  have hmn := hM.many rfl
  refine lv_aload_n hx hb dX11_cheapest_0 rfl (lv_at hl 0 rfl) ?_
  refine PurI.cv (As := []) (kX11_isSet l g a_m I_m J_m hM) fx (gUV (uT _) u_856 u_857 u_858 u_5 u_859) rfl hdX11_isSet ⟨Nat.le_of_ble_eq_true rfl, Nat.le_of_ble_eq_true rfl⟩ hK hP [0, 1, 2, 3, 4, 5, 6, 7, 8, 9, 10, 11, 12, 13, 14, 15, 16, 17, 18, 19, 20, 21, 22] rfl rfl rfl rfl rfl hl.1 (Nat.le_of_ble_eq_true rfl) dX11_cheapest_1 (fun r1 p_r1 => ?_)
  refine q_if_ne (tgt := 14) hx hb dX11_cheapest_4 (by decide) rfl (fun b_4 k_4 => ?_) (fun b_4 k_4 => ?_)
  · have q_4 := bP.t p_r1 b_4
    refine lv_aload_n hx hb dX11_cheapest_14 rfl (lv_at hl 0 rfl) ?_
    refine lv_aload_n hx hb dX11_cheapest_15 rfl (lv_at hl 0 rfl) ?_
    refine va_get (D := g.1) (ci := 11) (v := .ref (a_m 1)) (C := RX11) (T := TX11) (N := 46) hx hb hi_X11 (fun _ h => h) hown hK.1 hP 0 rfl rfl 0 (by decide) hf_7 (fun _ h9 => h9) rfl dX11_cheapest_16 ?_
    refine lv_bipush (v := 6) hx hb dX11_cheapest_19 (by decide) ?_
    have n_21 : vp_in (6 : Int32) 19800 := (t_in (by decide))
    refine va_iald hx hb hK.1 hP 1 0 rfl rfl n_21 dX11_cheapest_21 ?_
    refine q_nm (fun x2 e_x2 => ?_)
    have e_x2 : x2 = (I_m 1) 6 := e_x2
    have g_x2 : x2.toInt = ((I_m 1) 6).toInt := congrArg _ e_x2
    refine EffI.cv (wr := ([])) (w' := fun u4 => wX11 g a_m u4 J_m) (As := [.int x2]) (kX11_takesBy l g a_m I_m J_m x2 hM q_4) fx (gUV (uT _) u_1085 u_1086 u_1087 u_5 u_1088) rfl hdX11_takesBy ⟨Nat.le_of_ble_eq_true rfl, Nat.le_of_ble_eq_true rfl⟩ hK hP hD hS hA [0, 1, 2, 3, 4, 5, 6, 7, 8, 9, 10, 11, 12, 13, 14, 15, 16, 17, 18, 19, 20, 21, 22] [] [0, 1, 2, 3, 4, 5, 6, 7, 8, 9, 10, 11, 12, 13, 14, 15, 16, 17, 18, 19, 20, 21, 22] rfl rfl rfl rfl (by decide) rfl (fun _ => rfl) rfl rfl rfl rfl hl.1 (Nat.le_of_ble_eq_true rfl) dX11_cheapest_22 (fun r3 u4 H locs p_r3 hP hD hS => ?_)
    have hP : va_P g.1 vwCl (wX11 g a_m u4 J_m) H := hP
    have hD : va_D A (wX11 g a_m u4 J_m) := hD
    refine lv_iconst (v := -1) hx hb dX11_cheapest_25 (by decide) ?_
    refine q_icmp_ne (tgt := 36) hx hb dX11_cheapest_26 (by decide) rfl (by decide : (-1 : Int32).toInt = -1) (fun k_26 => ?_) (fun k_26 => ?_)
    · refine lv_iconst (v := -1) hx hb dX11_cheapest_36 (by decide) ?_
      refine lv_istore_n (lv' := [(1, .int (-1 : Int32)), (0, .ref (a_m 0))]) hx hb dX11_cheapest_37 rfl hl (by decide) rfl (fun ls hl => ?_)
      refine lv_iconst (v := 0) hx hb dX11_cheapest_38 (by decide) ?_
      refine lv_istore_n (lv' := [(2, .int (0 : Int32)), (1, .int (-1 : Int32)), (0, .ref (a_m 0))]) hx hb dX11_cheapest_39 rfl hl (by decide) rfl (fun ls hl => ?_)
      refine lv_iconst (v := 0) hx hb dX11_cheapest_40 (by decide) ?_
      refine lv_istore_n (lv' := [(3, .int (0 : Int32)), (2, .int (0 : Int32)), (1, .int (-1 : Int32)), (0, .ref (a_m 0))]) hx hb dX11_cheapest_41 rfl hl (by decide) rfl (fun ls hl => ?_)
      have L42 : ∀ (nn : Nat) (v1_42 : Int32) (v2_42 : Int32) (v3_42 : Int32) (I_m_42 : Nat → Nat → Int32), (hM_42 : MI I_m_42) → (hw_42 : WK I_m I_m_42) → (hk_42 : KK [1] [1, 20, 21] I_m I_m_42) → (hv_42 : 0 ≤ v3_42.toInt ∧ v3_42.toInt ≤ 24) → ((25 - v3_42.toInt) < (nn : Int)) → ∀ (H : Heap) (locs : List Loc), va_P g.1 vwCl (wX11 g a_m I_m_42 J_m) H → va_D A (wX11 g a_m I_m_42 J_m) → va_S A s.heap H locs → ∀ ls : Array Slot, lv_has ls 5 [(3, .int v3_42), (2, .int v2_42), (1, .int v1_42), (0, .ref (a_m 0))] → W p l e (rm 7) s m args below meth c H locs 0 0 Q (F0 m 42 ls []) := by
        intro n_42
        induction n_42 with
        | zero =>
          intro v1_42 v2_42 v3_42 I_m_42 hM_42 hw_42 hk_42 hv_42 hms_42 H locs hP hD hS ls hl
          exfalso; omega
        | succ n_42 ih_42 =>
          intro v1_42 v2_42 v3_42 I_m_42 hM_42 hw_42 hk_42 hv_42 hms_42 H locs hP hD hS ls hl
          refine lv_iload_n hx hb dX11_cheapest_42 rfl (lv_at hl 0 rfl) ?_
          refine lv_aload_n hx hb dX11_cheapest_43 rfl (lv_at hl 3 rfl) ?_
          refine va_get (D := g.1) (ci := 11) (v := .ref (a_m 1)) (C := RX11) (T := TX11) (N := 46) hx hb hi_X11 (fun _ h => h) hown hK.1 hP 0 rfl rfl 0 (by decide) hf_7 (fun _ h9 => h9) rfl dX11_cheapest_44 ?_
          refine lv_iconst (v := 0) hx hb dX11_cheapest_47 (by decide) ?_
          have n_48 : vp_in (0 : Int32) 19800 := (t_in (by decide))
          refine va_iald hx hb hK.1 hP 1 0 rfl rfl n_48 dX11_cheapest_48 ?_
          refine q_nm (fun x5 e_x5 => ?_)
          have e_x5 : x5 = (I_m_42 1) 0 := e_x5
          have g_x5 : x5.toInt = ((I_m_42 1) 0).toInt := congrArg _ e_x5
          have f_x5 := MI.many hM_42 e_x5
          refine q_icmp_ge (tgt := 117) hx hb dX11_cheapest_49 (by decide) rfl rfl (fun k_49 => ?_) (fun k_49 => ?_)
          · refine lv_iload_n hx hb dX11_cheapest_117 rfl (lv_at hl 2 rfl) ?_
            refine lv_iconst (v := -1) hx hb dX11_cheapest_118 (by decide) ?_
            refine q_icmp_ne (tgt := 131) hx hb dX11_cheapest_119 (by decide) rfl (by decide : (-1 : Int32).toInt = -1) (fun k_119 => ?_) (fun k_119 => ?_)
            · refine lv_aload_n hx hb dX11_cheapest_131 rfl (lv_at hl 3 rfl) ?_
              refine lv_iload_n hx hb dX11_cheapest_132 rfl (lv_at hl 2 rfl) ?_
              refine EffI.cv (wr := ([])) (w' := fun u7 => wX11 g a_m u7 J_m) (As := [.int v1_42]) (kX11_gives l g a_m I_m_42 J_m v1_42) fx (gUV (uT _) u_585 u_586 u_587 u_5 u_588) rfl hdX11_gives ⟨Nat.le_of_ble_eq_true rfl, Nat.le_of_ble_eq_true rfl⟩ hK hP hD hS hA [0, 1, 2, 3, 4, 5, 6, 7, 8, 9, 10, 11, 12, 13, 14, 15, 16, 17, 18, 19, 20, 21, 22] [] [0, 1, 2, 3, 4, 5, 6, 7, 8, 9, 10, 11, 12, 13, 14, 15, 16, 17, 18, 19, 20, 21, 22] rfl rfl rfl rfl (by decide) rfl (fun _ => rfl) rfl rfl rfl rfl hl.1 (Nat.le_of_ble_eq_true rfl) dX11_cheapest_133 (fun r6 u7 H locs p_r6 hP hD hS => ?_)
              have hP : va_P g.1 vwCl (wX11 g a_m u7 J_m) H := hP
              have hD : va_D A (wX11 g a_m u7 J_m) := hD
              refine hret 136 ls r6 _ _ u7 dX11_cheapest_136 hS hP hD ?_
              exact ⟨(MI.st hM_42 p_r6.2), (WK.st hw_42 p_r6.2), (KK.st hk_42 p_r6.2 (by decide))⟩
            · refine lv_aload_n hx hb dX11_cheapest_122 rfl (lv_at hl 3 rfl) ?_
              refine lv_bipush (v := 6) hx hb dX11_cheapest_123 (by decide) ?_
              refine EffI.cv (wr := ([])) (w' := fun u9 => wX11 g a_m u9 J_m) (As := [.int (6 : Int32)]) (kX11_refuse l g a_m I_m_42 J_m (6 : Int32)) fx (gUV (uT _) u_536 u_537 u_538 u_5 u_539) rfl hdX11_refuse ⟨Nat.le_of_ble_eq_true rfl, Nat.le_of_ble_eq_true rfl⟩ hK hP hD hS hA [0, 1, 2, 3, 4, 5, 6, 7, 8, 9, 10, 11, 12, 13, 14, 15, 16, 17, 18, 19, 20, 21, 22] [] [0, 1, 2, 3, 4, 5, 6, 7, 8, 9, 10, 11, 12, 13, 14, 15, 16, 17, 18, 19, 20, 21, 22] rfl rfl rfl rfl (by decide) rfl (fun _ => rfl) rfl rfl rfl rfl hl.1 (Nat.le_of_ble_eq_true rfl) dX11_cheapest_125 (fun r8 u9 H locs p_r8 hP hD hS => ?_)
              have hP : va_P g.1 vwCl (wX11 g a_m u9 J_m) H := hP
              have hD : va_D A (wX11 g a_m u9 J_m) := hD
              refine lv_goto (tgt := 136) hx hb dX11_cheapest_128 (by decide) ?_
              refine hret 136 ls r8 _ _ u9 dX11_cheapest_136 hS hP hD ?_
              exact ⟨(MI.st hM_42 p_r8.2), (WK.st hw_42 p_r8.2), (KK.st hk_42 p_r8.2 (by decide))⟩
          · refine lv_aload_n hx hb dX11_cheapest_52 rfl (lv_at hl 3 rfl) ?_
            refine va_get (D := g.1) (ci := 11) (v := .ref (a_m 1)) (C := RX11) (T := TX11) (N := 46) hx hb hi_X11 (fun _ h => h) hown hK.1 hP 0 rfl rfl 0 (by decide) hf_7 (fun _ h9 => h9) rfl dX11_cheapest_53 ?_
            refine lv_bipush (v := 6) hx hb dX11_cheapest_56 (by decide) ?_
            have n_58 : vp_in (6 : Int32) 19800 := (t_in (by decide))
            refine va_iald hx hb hK.1 hP 1 0 rfl rfl n_58 dX11_cheapest_58 ?_
            refine q_nm (fun x10 e_x10 => ?_)
            have e_x10 : x10 = (I_m_42 1) 6 := e_x10
            have g_x10 : x10.toInt = ((I_m_42 1) 6).toInt := congrArg _ e_x10
            refine lv_iload_n hx hb dX11_cheapest_59 rfl (lv_at hl 0 rfl) ?_
            refine PurI.cs (C := RX11) (As := [.int x10, .int v3_42]) (kX11_isOut l g x10 v3_42) fx (gUS (uT _) u_740 u_741 u_5 u_742) rfl hdX11_isOut ⟨Nat.le_of_ble_eq_true rfl, Nat.le_of_ble_eq_true rfl⟩ hK hP [] rfl rfl rfl hl.1 (Nat.le_of_ble_eq_true rfl) dX11_cheapest_60 (fun r11 p_r11 => ?_)
            refine q_if_eq (tgt := 69) hx hb dX11_cheapest_63 (by decide) rfl (fun b_63 k_63 => ?_) (fun b_63 k_63 => ?_)
            · have q_63 := bP.f p_r11 b_63
              refine lv_aload_n hx hb dX11_cheapest_69 rfl (lv_at hl 3 rfl) ?_
              refine lv_aload_n hx hb dX11_cheapest_70 rfl (lv_at hl 3 rfl) ?_
              refine va_get (D := g.1) (ci := 11) (v := .ref (a_m 1)) (C := RX11) (T := TX11) (N := 46) hx hb hi_X11 (fun _ h => h) hown hK.1 hP 0 rfl rfl 0 (by decide) hf_7 (fun _ h9 => h9) rfl dX11_cheapest_71 ?_
              refine lv_bipush (v := 6) hx hb dX11_cheapest_74 (by decide) ?_
              have n_76 : vp_in (6 : Int32) 19800 := (t_in (by decide))
              refine va_iald hx hb hK.1 hP 1 0 rfl rfl n_76 dX11_cheapest_76 ?_
              refine q_nm (fun x12 e_x12 => ?_)
              have e_x12 : x12 = (I_m_42 1) 6 := e_x12
              have g_x12 : x12.toInt = ((I_m_42 1) 6).toInt := congrArg _ e_x12
              refine lv_iconst (v := 1) hx hb dX11_cheapest_77 (by decide) ?_
              refine lv_iload_n hx hb dX11_cheapest_78 rfl (lv_at hl 0 rfl) ?_
              refine lv_ishl hx hb dX11_cheapest_79 ?_
              refine q_nm (fun x13 e_x13 => ?_)
              refine lv_ior hx hb dX11_cheapest_80 ?_
              refine q_nm (fun x14 e_x14 => ?_)
              refine EffI.cv (wr := ([])) (w' := fun u16 => wX11 g a_m u16 J_m) (As := [.int x14]) (kX11_takesBy l g a_m I_m_42 J_m x14 hM_42 (by rw [hw_42 7 (by decide)]; exact q_4)) fx (gUV (uT _) u_1085 u_1086 u_1087 u_5 u_1088) rfl hdX11_takesBy ⟨Nat.le_of_ble_eq_true rfl, Nat.le_of_ble_eq_true rfl⟩ hK hP hD hS hA [0, 1, 2, 3, 4, 5, 6, 7, 8, 9, 10, 11, 12, 13, 14, 15, 16, 17, 18, 19, 20, 21, 22] [] [0, 1, 2, 3, 4, 5, 6, 7, 8, 9, 10, 11, 12, 13, 14, 15, 16, 17, 18, 19, 20, 21, 22] rfl rfl rfl rfl (by decide) rfl (fun _ => rfl) rfl rfl rfl rfl hl.1 (Nat.le_of_ble_eq_true rfl) dX11_cheapest_81 (fun r15 u16 H locs p_r15 hP hD hS => ?_)
              have hP : va_P g.1 vwCl (wX11 g a_m u16 J_m) H := hP
              have hD : va_D A (wX11 g a_m u16 J_m) := hD
              refine lv_istore (lv' := [(4, .int r15), (3, .int v3_42), (2, .int v2_42), (1, .int v1_42), (0, .ref (a_m 0))]) hx hb dX11_cheapest_84 hl (by decide) rfl (fun ls hl => ?_)
              refine lv_iload hx hb dX11_cheapest_86 (lv_at hl 0 rfl) ?_
              refine lv_iconst (v := -1) hx hb dX11_cheapest_88 (by decide) ?_
              refine q_icmp_eq (tgt := 111) hx hb dX11_cheapest_89 (by decide) rfl (by decide : (-1 : Int32).toInt = -1) (fun k_89 => ?_) (fun k_89 => ?_)
              · refine r_iinc (lv' := fun i17 => [(3, .int i17), (4, .int r15), (2, .int v2_42), (1, .int v1_42), (0, .ref (a_m 0))]) hx hb dX11_cheapest_111 hl (k := 1) rfl (by decide) rfl (by decide) (fun _ => rfl) (fun i17 e_i17 t_i17 ls hl => ?_)
                try have t_i17 := t_i17 (by omega)
                refine lv_goto (tgt := 42) hx hb dX11_cheapest_114 (by decide) ?_
                exact ih_42 v1_42 v2_42 i17 u16 (p_r15.1) (WK.tr hw_42 p_r15.2.1) (KK.tr hk_42 p_r15.2.2 (by decide) (by decide)) (by omega) (by omega) _ _ hP hD hS ls (lv_sub hl [0, 2, 3, 4] rfl)
              · refine lv_iload_n hx hb dX11_cheapest_92 rfl (lv_at hl 3 rfl) ?_
                refine lv_iconst (v := -1) hx hb dX11_cheapest_93 (by decide) ?_
                refine q_icmp_eq (tgt := 106) hx hb dX11_cheapest_94 (by decide) rfl (by decide : (-1 : Int32).toInt = -1) (fun k_94 => ?_) (fun k_94 => ?_)
                · refine lv_iload hx hb dX11_cheapest_106 (lv_at hl 0 rfl) ?_
                  refine lv_istore_n (lv' := [(2, .int r15), (4, .int r15), (3, .int v3_42), (1, .int v1_42), (0, .ref (a_m 0))]) hx hb dX11_cheapest_108 rfl hl (by decide) rfl (fun ls hl => ?_)
                  refine lv_iload_n hx hb dX11_cheapest_109 rfl (lv_at hl 2 rfl) ?_
                  refine lv_istore_n (lv' := [(1, .int v3_42), (2, .int r15), (4, .int r15), (3, .int v3_42), (0, .ref (a_m 0))]) hx hb dX11_cheapest_110 rfl hl (by decide) rfl (fun ls hl => ?_)
                  refine r_iinc (lv' := fun i18 => [(3, .int i18), (1, .int v3_42), (2, .int r15), (4, .int r15), (0, .ref (a_m 0))]) hx hb dX11_cheapest_111 hl (k := 3) rfl (by decide) rfl (by decide) (fun _ => rfl) (fun i18 e_i18 t_i18 ls hl => ?_)
                  try have t_i18 := t_i18 (by omega)
                  refine lv_goto (tgt := 42) hx hb dX11_cheapest_114 (by decide) ?_
                  exact ih_42 v3_42 r15 i18 u16 (p_r15.1) (WK.tr hw_42 p_r15.2.1) (KK.tr hk_42 p_r15.2.2 (by decide) (by decide)) (by omega) (by omega) _ _ hP hD hS ls (lv_sub hl [0, 2, 1, 4] rfl)
                · refine lv_iload hx hb dX11_cheapest_97 (lv_at hl 0 rfl) ?_
                  refine lv_iload_n hx hb dX11_cheapest_99 rfl (lv_at hl 2 rfl) ?_
                  refine q_icmp_lt (tgt := 106) hx hb dX11_cheapest_100 (by decide) rfl rfl (fun k_100 => ?_) (fun k_100 => ?_)
                  · refine lv_iload hx hb dX11_cheapest_106 (lv_at hl 0 rfl) ?_
                    refine lv_istore_n (lv' := [(2, .int r15), (4, .int r15), (3, .int v3_42), (1, .int v1_42), (0, .ref (a_m 0))]) hx hb dX11_cheapest_108 rfl hl (by decide) rfl (fun ls hl => ?_)
                    refine lv_iload_n hx hb dX11_cheapest_109 rfl (lv_at hl 2 rfl) ?_
                    refine lv_istore_n (lv' := [(1, .int v3_42), (2, .int r15), (4, .int r15), (3, .int v3_42), (0, .ref (a_m 0))]) hx hb dX11_cheapest_110 rfl hl (by decide) rfl (fun ls hl => ?_)
                    refine r_iinc (lv' := fun i19 => [(3, .int i19), (1, .int v3_42), (2, .int r15), (4, .int r15), (0, .ref (a_m 0))]) hx hb dX11_cheapest_111 hl (k := 3) rfl (by decide) rfl (by decide) (fun _ => rfl) (fun i19 e_i19 t_i19 ls hl => ?_)
                    try have t_i19 := t_i19 (by omega)
                    refine lv_goto (tgt := 42) hx hb dX11_cheapest_114 (by decide) ?_
                    exact ih_42 v3_42 r15 i19 u16 (p_r15.1) (WK.tr hw_42 p_r15.2.1) (KK.tr hk_42 p_r15.2.2 (by decide) (by decide)) (by omega) (by omega) _ _ hP hD hS ls (lv_sub hl [0, 2, 1, 4] rfl)
                  · refine lv_goto (tgt := 111) hx hb dX11_cheapest_103 (by decide) ?_
                    refine r_iinc (lv' := fun i20 => [(3, .int i20), (4, .int r15), (2, .int v2_42), (1, .int v1_42), (0, .ref (a_m 0))]) hx hb dX11_cheapest_111 hl (k := 1) rfl (by decide) rfl (by decide) (fun _ => rfl) (fun i20 e_i20 t_i20 ls hl => ?_)
                    try have t_i20 := t_i20 (by omega)
                    refine lv_goto (tgt := 42) hx hb dX11_cheapest_114 (by decide) ?_
                    exact ih_42 v1_42 v2_42 i20 u16 (p_r15.1) (WK.tr hw_42 p_r15.2.1) (KK.tr hk_42 p_r15.2.2 (by decide) (by decide)) (by omega) (by omega) _ _ hP hD hS ls (lv_sub hl [0, 2, 3, 4] rfl)
            · have q_63 := bP.t p_r11 b_63
              refine lv_goto (tgt := 111) hx hb dX11_cheapest_66 (by decide) ?_
              refine r_iinc (lv' := fun i21 => [(3, .int i21), (2, .int v2_42), (1, .int v1_42), (0, .ref (a_m 0))]) hx hb dX11_cheapest_111 hl (k := 0) rfl (by decide) rfl (by decide) (fun _ => rfl) (fun i21 e_i21 t_i21 ls hl => ?_)
              try have t_i21 := t_i21 (by omega)
              refine lv_goto (tgt := 42) hx hb dX11_cheapest_114 (by decide) ?_
              exact ih_42 v1_42 v2_42 i21 I_m_42 hM_42 hw_42 hk_42 (by omega) (by omega) _ _ hP hD hS ls hl
      exact L42 ((25 - (0 : Int32).toInt) + 1).toNat (-1 : Int32) (0 : Int32) (0 : Int32) u4 (p_r3.1) (WK.tr (WK.rf I_m) p_r3.2.1) (KK.tr (KK.rf I_m) p_r3.2.2 (by decide) (by decide)) (by omega) (by omega) _ _ hP hD hS ls hl
    · refine lv_aload_n hx hb dX11_cheapest_29 rfl (lv_at hl 0 rfl) ?_
      refine lv_bipush (v := 7) hx hb dX11_cheapest_30 (by decide) ?_
      refine EffI.cv (wr := ([])) (w' := fun u23 => wX11 g a_m u23 J_m) (As := [.int (7 : Int32)]) (kX11_refuse l g a_m u4 J_m (7 : Int32)) fx (gUV (uT _) u_536 u_537 u_538 u_5 u_539) rfl hdX11_refuse ⟨Nat.le_of_ble_eq_true rfl, Nat.le_of_ble_eq_true rfl⟩ hK hP hD hS hA [0, 1, 2, 3, 4, 5, 6, 7, 8, 9, 10, 11, 12, 13, 14, 15, 16, 17, 18, 19, 20, 21, 22] [] [0, 1, 2, 3, 4, 5, 6, 7, 8, 9, 10, 11, 12, 13, 14, 15, 16, 17, 18, 19, 20, 21, 22] rfl rfl rfl rfl (by decide) rfl (fun _ => rfl) rfl rfl rfl rfl hl.1 (Nat.le_of_ble_eq_true rfl) dX11_cheapest_32 (fun r22 u23 H locs p_r22 hP hD hS => ?_)
      have hP : va_P g.1 vwCl (wX11 g a_m u23 J_m) H := hP
      have hD : va_D A (wX11 g a_m u23 J_m) := hD
      refine hret 35 ls r22 _ _ u23 dX11_cheapest_35 hS hP hD ?_
      exact ⟨(MI.st (p_r3.1) p_r22.2), (WK.st (WK.tr (WK.rf I_m) p_r3.2.1) p_r22.2), (KK.st (KK.tr (KK.rf I_m) p_r3.2.2 (by decide) (by decide)) p_r22.2 (by decide))⟩
  · have q_4 := bP.f p_r1 b_4
    refine lv_aload_n hx hb dX11_cheapest_7 rfl (lv_at hl 0 rfl) ?_
    refine lv_bipush (v := 6) hx hb dX11_cheapest_8 (by decide) ?_
    refine EffI.cv (wr := ([])) (w' := fun u25 => wX11 g a_m u25 J_m) (As := [.int (6 : Int32)]) (kX11_refuse l g a_m I_m J_m (6 : Int32)) fx (gUV (uT _) u_536 u_537 u_538 u_5 u_539) rfl hdX11_refuse ⟨Nat.le_of_ble_eq_true rfl, Nat.le_of_ble_eq_true rfl⟩ hK hP hD hS hA [0, 1, 2, 3, 4, 5, 6, 7, 8, 9, 10, 11, 12, 13, 14, 15, 16, 17, 18, 19, 20, 21, 22] [] [0, 1, 2, 3, 4, 5, 6, 7, 8, 9, 10, 11, 12, 13, 14, 15, 16, 17, 18, 19, 20, 21, 22] rfl rfl rfl rfl (by decide) rfl (fun _ => rfl) rfl rfl rfl rfl hl.1 (Nat.le_of_ble_eq_true rfl) dX11_cheapest_10 (fun r24 u25 H locs p_r24 hP hD hS => ?_)
    have hP : va_P g.1 vwCl (wX11 g a_m u25 J_m) H := hP
    have hD : va_D A (wX11 g a_m u25 J_m) := hD
    refine hret 13 ls r24 _ _ u25 dX11_cheapest_13 hS hP hD ?_
    exact ⟨(MI.st hM p_r24.2), (WK.st (WK.rf I_m) p_r24.2), (KK.st (KK.rf I_m) p_r24.2 (by decide))⟩
