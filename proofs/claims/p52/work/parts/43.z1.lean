set_option maxHeartbeats 4000000 in
set_option maxRecDepth 100000 in
theorem kX11_truths (l : Launch) (g : gG) (a_m : Nat → Nat) (I_m : Nat → Nat → Int32) (J_m : Nat → Nat → Int64) (tray : Int32) (many : Int32) (hM : MI I_m) : EffI l g yX11_truths wsX11_truths 7 [.ref (a_m 0), .int tray, .int many] (wX11 g a_m I_m J_m) (fun (u : (Nat → Nat → Int32)) => wX11 g a_m u J_m) (fun r (u : (Nat → Nat → Int32)) => MI (u) ∧ WK I_m (u) ∧ KK [1, 14, 15, 16, 18, 19] [1, 20, 21] I_m (u) ∧ ((¬ okRow (I_m 3) (J_m 4) tray many 1 ∧ r = -1) ∨ (okRow (I_m 3) (J_m 4) tray many 1 ∧ rowP (J_m 4) tray.toInt (-1 : Int32).toInt ((u) 14) ((u) 15) many.toInt ∧ cntM (I_m 1) ((u) 14) ((u) 15) ((u) 16) many ∧ ((9999 < ((u) 16 0).toInt ∧ r = -1) ∨ (((u) 16 0).toInt ≤ 9999 ∧ (pqM I_m → r.toInt = tQM (I_m 1) ((u) 14) ((u) 15) ((u) 16) (uTM I_m) many.toInt.toNat)))))) := by
  refine EffI.st (cc := cX11_truths) (maxL := 8) (by decide) rfl (Nat.le_of_ble_eq_true rfl) (fun p e s m args below meth c A Q ls fx hK hP hD hA hS hl hret => ?_)
  have hx := fx.1
  have hb := fx.2.1
  have hml := fx.2.2.1
  have hown := fx.2.2.2.1
  have hts := fx.2.2.2.2
  have hl : lv_has ls 8 [(0, .ref (a_m 0)), (1, .int tray), (2, .int many)] := hl
  have hP : va_P g.1 vwCl (wX11 g a_m I_m J_m) s.heap := hP
  have hf_7 := hts _ (uT _ _ u_170)
  have hf_68 := hts _ (uT _ _ u_189)
  have hf_77 := hts _ (uT _ _ u_192)
  have hf_80 := hts _ (uT _ _ u_193)
  have hi_X11 : ∀ w ∈ wsX110, w.before args s = true := fun w h => hts w (uT _ w (u_wsX110 w h))
  have lm1 : (-1 : Int32).toInt = -1 := by decide
  have lm0 : (0 : Int32).toInt = 0 := by decide
  have lm2 : (1 : Int32).toInt = 1 := by decide
  have lq7 : (7 : Int32).toInt = 7 := by decide
  have lq1 : (1 : Int32).toInt = 1 := by decide
  have hmn := hM.many rfl
  have tm0 : ∀ (J : Nat → Nat → Int32) (v : Int32), TA J v.toInt (I_m 1 0).toInt many.toInt → -1 ≤ v.toInt ∧ v.toInt ≤ 19 → 0 ≤ tm (J 18) (v.toInt + 1).toNat := fun J v h hv => tm_0 h hv (by omega)
  refine lv_aload_n hx hb dX11_truths_0 rfl (lv_at hl 0 rfl) ?_
  refine lv_iload_n hx hb dX11_truths_1 rfl (lv_at hl 1 rfl) ?_
  refine lv_iload_n hx hb dX11_truths_2 rfl (lv_at hl 2 rfl) ?_
  refine lv_iconst (v := 1) hx hb dX11_truths_3 (by decide) ?_
  refine PurI.cv (As := [.int tray, .int many, .int (1 : Int32)]) (kX11_wrongRow l g a_m I_m J_m tray many (1 : Int32) hM) fx (gUV (uT _) u_1341 u_1342 u_1343 u_5 u_1344) rfl hdX11_wrongRow ⟨Nat.le_of_ble_eq_true rfl, Nat.le_of_ble_eq_true rfl⟩ hK hP [0, 1, 2, 3, 4, 5, 6, 7, 8, 9, 10, 11, 12, 13, 14, 15, 16, 17, 18, 19, 20, 21, 22] rfl rfl rfl rfl rfl hl.1 (Nat.le_of_ble_eq_true rfl) dX11_truths_4 (fun r1 p_r1 => ?_)
  have hw4 := p_r1.1
  refine lv_istore_n (lv' := [(3, .int r1), (0, .ref (a_m 0)), (1, .int tray), (2, .int many)]) hx hb dX11_truths_7 rfl hl (by decide) rfl (fun ls hl => ?_)
  refine lv_iload_n hx hb dX11_truths_8 rfl (lv_at hl 0 rfl) ?_
  refine q_if_le (tgt := 18) hx hb dX11_truths_9 (by decide) rfl (fun k_9 => ?_) (fun k_9 => ?_)
  · refine lv_aload_n hx hb dX11_truths_18 rfl (lv_at hl 1 rfl) ?_
    refine lv_iload_n hx hb dX11_truths_19 rfl (lv_at hl 2 rfl) ?_
    refine lv_iload_n hx hb dX11_truths_20 rfl (lv_at hl 3 rfl) ?_
    refine EffV.cv (wr := ([])) (w' := fun u3 => wX11 g a_m u3 J_m) (As := [.int tray, .int many]) (kX11_laysRow l g a_m I_m J_m tray many hM (by omega) (by omega)) fx (gUV (uT _) u_1345 u_1346 u_1347 u_5 u_1348) rfl hdX11_laysRow ⟨Nat.le_of_ble_eq_true rfl, Nat.le_of_ble_eq_true rfl⟩ hK hP hD hS hA [0, 1, 2, 3, 4, 5, 6, 7, 8, 9, 10, 11, 12, 13, 14, 15, 16, 17, 18, 19, 20, 21, 22] [] [0, 1, 2, 3, 4, 5, 6, 7, 8, 9, 10, 11, 12, 13, 14, 15, 16, 17, 18, 19, 20, 21, 22] rfl rfl rfl rfl (by decide) rfl (fun _ => rfl) rfl rfl rfl rfl hl.1 (Nat.le_of_ble_eq_true rfl) dX11_truths_21 (fun u3 H locs p_r2 hP hD hS => ?_)
    have hP : va_P g.1 vwCl (wX11 g a_m u3 J_m) H := hP
    have hD : va_D A (wX11 g a_m u3 J_m) := hD
    refine lv_aload_n hx hb dX11_truths_24 rfl (lv_at hl 1 rfl) ?_
    refine lv_iload_n hx hb dX11_truths_25 rfl (lv_at hl 3 rfl) ?_
    refine EffI.cv (wr := ([])) (w' := fun u5 => wX11 g a_m u5 J_m) (As := [.int many]) (kX11_countsWays l g a_m u3 J_m many (MI.kk hM p_r2.1 (by decide) (by decide)) (by omega)) fx (gUV (uT _) u_1349 u_1350 u_1351 u_5 u_1352) rfl hdX11_countsWays ⟨Nat.le_of_ble_eq_true rfl, Nat.le_of_ble_eq_true rfl⟩ hK hP hD hS hA [0, 1, 2, 3, 4, 5, 6, 7, 8, 9, 10, 11, 12, 13, 14, 15, 16, 17, 18, 19, 20, 21, 22] [] [0, 1, 2, 3, 4, 5, 6, 7, 8, 9, 10, 11, 12, 13, 14, 15, 16, 17, 18, 19, 20, 21, 22] rfl rfl rfl rfl (by decide) rfl (fun _ => rfl) rfl rfl rfl rfl hl.1 (Nat.le_of_ble_eq_true rfl) dX11_truths_26 (fun r4 u5 H locs p_r4 hP hD hS => ?_)
    have hP : va_P g.1 vwCl (wX11 g a_m u5 J_m) H := hP
    have hD : va_D A (wX11 g a_m u5 J_m) := hD
    have hM26 := (MI.kk (MI.kk hM p_r2.1 (by decide) (by decide)) p_r4.1 (by decide) (by decide))
    have hR27 := congrArg Int32.toInt p_r4.2.1
    have hC27 := cntM.of p_r4.2.2.2 (p_r2.1.row 1 (by decide)).symm (p_r4.1.row 14 (by decide)) (p_r4.1.row 15 (by decide)) rfl
    have hrp27 := rowP.of p_r2.2 (p_r4.1.row 14 (by decide)) (p_r4.1.row 15 (by decide))
    obtain ⟨R14, hR14⟩ : ∃ f, f = u5 14 := ⟨_, rfl⟩
    obtain ⟨R15, hR15⟩ : ∃ f, f = u5 15 := ⟨_, rfl⟩
    obtain ⟨R16, hR16⟩ : ∃ f, f = u5 16 := ⟨_, rfl⟩
    have hw5 : (0 ≤ tray.toInt ∧ tray.toInt < 4) ∧ 1 ≤ many.toInt ∧ many.toInt ≤ 20 ∧ 0 ≤ (r1).toInt := by omega
    replace hw4 := hidQ.of hw4
    replace p_r1 := hidQ.of p_r1
    refine lv_sipush (v := 9999) hx hb dX11_truths_29 (by decide) ?_
    refine q_icmp_le (tgt := 42) hx hb dX11_truths_32 (by decide) rfl (by decide : (9999 : Int32).toInt = 9999) (fun k_32 => ?_) (fun k_32 => ?_)
    · have hB42 : tQM (I_m 1) R14 R15 R16 (uTM I_m) many.toInt.toNat ≤ 9999 := tQM.le hM (by rw [hR14, hR15, hR16]; exact hC27) (by rw [hR16]; omega)
      have hcn := gM.cn (R := R14) (Z := R15) (W := R16) (m := many.toInt.toNat) hM
      refine lv_iconst (v := 0) hx hb dX11_truths_42 (by decide) ?_
      refine lv_istore (lv' := [(4, .int (0 : Int32)), (3, .int r1), (0, .ref (a_m 0)), (1, .int tray), (2, .int many)]) hx hb dX11_truths_43 hl (by decide) rfl (fun ls hl => ?_)
      refine lv_iconst (v := 0) hx hb dX11_truths_45 (by decide) ?_
      refine lv_istore (lv' := [(5, .int (0 : Int32)), (4, .int (0 : Int32)), (3, .int r1), (0, .ref (a_m 0)), (1, .int tray), (2, .int many)]) hx hb dX11_truths_46 hl (by decide) rfl (fun ls hl => ?_)
      refine lv_aload_n hx hb dX11_truths_48 rfl (lv_at hl 3 rfl) ?_
      refine va_get (D := g.1) (ci := 11) (v := .ref (a_m 18)) (C := RX11) (T := TX11) (N := 46) hx hb hi_X11 (fun _ h => h) hown hK.1 hP 0 rfl rfl 38 (by decide) hf_77 (fun _ h9 => h9) rfl dX11_truths_49 ?_
      refine lv_iconst (v := 0) hx hb dX11_truths_52 (by decide) ?_
      refine lv_iconst (v := -1) hx hb dX11_truths_53 (by decide) ?_
      have n_54 : vp_in (0 : Int32) 21 := (t_in (by decide))
      obtain ⟨f6, e_f6⟩ : ∃ z, z = upd (u5 18) (0 : Int32).toNatClampNeg (-1 : Int32) := ⟨_, rfl⟩
      refine va_iast hx hb hK.1 hP hD hS 18 0 rfl rfl n_54 dX11_truths_54 (fun H locs hP hD hS => ?_)
      have hP : va_P g.1 vwCl (wX11 g a_m (uR u5 18 f6) J_m) H := by rw [e_f6]; exact hP
      have hD : va_D A (wX11 g a_m (uR u5 18 f6) J_m) := by rw [e_f6]; exact hD
      have hc_54 : MI (uR u5 18 f6) := MI.ur (MI.kk (MI.kk hM p_r2.1 (by decide) (by decide)) p_r4.1 (by decide) (by decide)) (by decide)
      have hk_54 : KK [1, 14, 15, 16, 18, 19] [1, 20, 21] I_m (uR u5 18 f6) := KK.ur (KK.tr (KK.tr (KK.rf I_m) p_r2.1 (by decide) (by decide)) p_r4.1 (by decide) (by decide)) (by decide) (by decide)
      have hw_54 : WK I_m (uR u5 18 f6) := WK.ur (WK.kk (WK.kk (WK.rf I_m) p_r2.1 (by decide)) p_r4.1 (by decide)) (by decide)
      refine lv_aload_n hx hb dX11_truths_55 rfl (lv_at hl 3 rfl) ?_
      refine va_get (D := g.1) (ci := 11) (v := .ref (a_m 19)) (C := RX11) (T := TX11) (N := 46) hx hb hi_X11 (fun _ h => h) hown hK.1 hP 0 rfl rfl 39 (by decide) hf_80 (fun _ h9 => h9) rfl dX11_truths_56 ?_
      refine lv_iconst (v := 0) hx hb dX11_truths_59 (by decide) ?_
      refine lv_iconst (v := 0) hx hb dX11_truths_60 (by decide) ?_
      have n_61 : vp_in (0 : Int32) 22 := (t_in (by decide))
      obtain ⟨f7, e_f7⟩ : ∃ z, z = upd (u5 19) (0 : Int32).toNatClampNeg (0 : Int32) := ⟨_, rfl⟩
      refine va_iast hx hb hK.1 hP hD hS 19 0 rfl rfl n_61 dX11_truths_61 (fun H locs hP hD hS => ?_)
      have hP : va_P g.1 vwCl (wX11 g a_m (uR (uR u5 18 f6) 19 f7) J_m) H := by rw [e_f7]; exact hP
      have hD : va_D A (wX11 g a_m (uR (uR u5 18 f6) 19 f7) J_m) := by rw [e_f7]; exact hD
      have hc_61 : MI (uR (uR u5 18 f6) 19 f7) := MI.ur hc_54 (by decide)
      have hk_61 : KK [1, 14, 15, 16, 18, 19] [1, 20, 21] I_m (uR (uR u5 18 f6) 19 f7) := KK.ur hk_54 (by decide) (by decide)
      have hw_61 : WK I_m (uR (uR u5 18 f6) 19 f7) := WK.ur hw_54 (by decide)
      have ha61 : TA (uR (uR u5 18 f6) 19 f7) 0 (I_m 1 0).toInt many.toInt := fun l hl => by have e9 : l = 0 := (by omega); subst e9; show (-1 ≤ (f6 0).toInt ∧ (f6 0).toInt < _) ∧ (_ ≤ (f7 0).toInt ∧ (f7 0).toInt < _) ∧ _; rw [e_f6, e_f7, upd_at (show (0 : Nat) = (0 : Int32).toNatClampNeg from rfl), upd_at (show (0 : Nat) = (0 : Int32).toNatClampNeg from rfl)]; exact ⟨by omega, by omega, fun q => by exfalso; omega⟩
      have L62 : ∀ (nn : Nat) (v4_62 : Int32) (v5_62 : Int32) (I_m_62 : Nat → Nat → Int32), (hM_62 : MI I_m_62) → (hw_62 : WK I_m I_m_62) → (hk_62 : KK [1, 14, 15, 16, 18, 19] [1, 20, 21] I_m I_m_62) → (hv_62 : -1 ≤ v5_62.toInt ∧ v5_62.toInt ≤ 19) → (ha_62 : TA I_m_62 v5_62.toInt (I_m 1 0).toInt many.toInt) → (hrw_62 : I_m_62 14 = R14 ∧ I_m_62 15 = R15 ∧ I_m_62 16 = R16) → (hD_62 : tDQ (pqM I_m) (I_m 1) R14 R15 R16 (uTM I_m) many.toInt.toNat (I_m_62 18) (I_m_62 19) (v5_62.toInt + 1).toNat v4_62.toInt) → (tm (I_m_62 18) (v5_62.toInt + 1).toNat < (nn : Int)) → ∀ (H : Heap) (locs : List Loc), va_P g.1 vwCl (wX11 g a_m I_m_62 J_m) H → va_D A (wX11 g a_m I_m_62 J_m) → va_S A s.heap H locs → ∀ ls : Array Slot, lv_has ls 8 [(5, .int v5_62), (4, .int v4_62), (3, .int r1), (0, .ref (a_m 0)), (1, .int tray), (2, .int many)] → W p l e (rm 7) s m args below meth c H locs 0 0 Q (F0 m 62 ls []) := by
        intro n_62
        induction n_62 with
        | zero =>
          intro v4_62 v5_62 I_m_62 hM_62 hw_62 hk_62 hv_62 ha_62 hrw_62 hD_62 hms_62 H locs hP hD hS ls hl
          have q := tm0 I_m_62 v5_62 ha_62 hv_62; exfalso; omega
        | succ n_62 ih_62 =>
          intro v4_62 v5_62 I_m_62 hM_62 hw_62 hk_62 hv_62 ha_62 hrw_62 hD_62 hms_62 H locs hP hD hS ls hl
          refine lv_iload hx hb dX11_truths_62 (lv_at hl 0 rfl) ?_
          refine q_if_lt (tgt := 207) hx hb dX11_truths_64 (by decide) rfl (fun k_64 => ?_) (fun k_64 => ?_)
          · refine lv_aload_n hx hb dX11_truths_207 rfl (lv_at hl 3 rfl) ?_
            refine lv_iload hx hb dX11_truths_208 (lv_at hl 1 rfl) ?_
            refine EffI.cv (wr := ([])) (w' := fun u9 => wX11 g a_m u9 J_m) (As := [.int v4_62]) (kX11_gives l g a_m I_m_62 J_m v4_62) fx (gUV (uT _) u_585 u_586 u_587 u_5 u_588) rfl hdX11_gives ⟨Nat.le_of_ble_eq_true rfl, Nat.le_of_ble_eq_true rfl⟩ hK hP hD hS hA [0, 1, 2, 3, 4, 5, 6, 7, 8, 9, 10, 11, 12, 13, 14, 15, 16, 17, 18, 19, 20, 21, 22] [] [0, 1, 2, 3, 4, 5, 6, 7, 8, 9, 10, 11, 12, 13, 14, 15, 16, 17, 18, 19, 20, 21, 22] rfl rfl rfl rfl (by decide) rfl (fun _ => rfl) rfl rfl rfl rfl hl.1 (Nat.le_of_ble_eq_true rfl) dX11_truths_210 (fun r8 u9 H locs p_r8 hP hD hS => ?_)
            have hP : va_P g.1 vwCl (wX11 g a_m u9 J_m) H := hP
            have hD : va_D A (wX11 g a_m u9 J_m) := hD
            refine hret 213 ls r8 _ _ u9 dX11_truths_213 hS hP hD ?_
            exact ⟨(MI.st hM_62 p_r8.2), (WK.st hw_62 p_r8.2), (KK.st hk_62 p_r8.2 (by decide)), Or.inr ⟨(by have w9 := (p_r1.2.resolve_right (fun q => by have := q.1; omega)).2; rw [lm2] at w9; exact w9), rowP.of (by rw [hR14, hR15]; exact hrp27) ((ST.row p_r8.2 14 (by decide)).trans hrw_62.1) ((ST.row p_r8.2 15 (by decide)).trans hrw_62.2.1), cntM.of (by rw [hR14, hR15, hR16]; exact hC27) rfl ((ST.row p_r8.2 14 (by decide)).trans hrw_62.1) ((ST.row p_r8.2 15 (by decide)).trans hrw_62.2.1) ((ST.row p_r8.2 16 (by decide)).trans hrw_62.2.2), Or.inr ⟨(by rw [(ST.row p_r8.2 16 (by decide)), hrw_62.2.2, hR16]; omega), fun w => (by rw [p_r8.1, (ST.row p_r8.2 14 (by decide)), (ST.row p_r8.2 15 (by decide)), (ST.row p_r8.2 16 (by decide)), hrw_62.1, hrw_62.2.1, hrw_62.2.2]; have q := hD_62 w; rw [show (v5_62.toInt + 1).toNat = 0 by omega] at q; exact tDf.out q)⟩⟩⟩
          · refine lv_aload_n hx hb dX11_truths_67 rfl (lv_at hl 3 rfl) ?_
            refine va_get (D := g.1) (ci := 11) (v := .ref (a_m 18)) (C := RX11) (T := TX11) (N := 46) hx hb hi_X11 (fun _ h => h) hown hK.1 hP 0 rfl rfl 38 (by decide) hf_77 (fun _ h9 => h9) rfl dX11_truths_68 ?_
            refine lv_iload hx hb dX11_truths_71 (lv_at hl 0 rfl) ?_
            refine lv_dup2_11 hx hb dX11_truths_73 rfl rfl ?_
            have n_74 : vp_in v5_62 21 := (t_in (by omega))
            refine va_iald hx hb hK.1 hP 18 0 rfl rfl n_74 dX11_truths_74 ?_
            refine q_nm (fun x10 e_x10 => ?_)
            have e_x10 : x10 = (I_m_62 18) v5_62.toNatClampNeg := e_x10
            have g_x10 : x10.toInt = ((I_m_62 18) v5_62.toNatClampNeg).toInt := congrArg _ e_x10
            have m_x10 : x10 = I_m_62 18 (v5_62).toInt.toNat := at_ix e_x10 (by omega)
            have q_x10 := ha_62 (v5_62).toInt.toNat (by omega)
            rw [← m_x10] at q_x10
            refine lv_iconst (v := 1) hx hb dX11_truths_75 (by decide) ?_
            refine r_iadd hx hb dX11_truths_76 rfl (by decide : (1 : Int32).toInt = 1) (fun x11 e_x11 t_x11 => ?_)
            try have t_x11 := t_x11 (by omega)
            have n_77 : vp_in v5_62 21 := (t_in (by omega))
            obtain ⟨f12, e_f12⟩ : ∃ z, z = upd (I_m_62 18) v5_62.toNatClampNeg x11 := ⟨_, rfl⟩
            refine va_iast hx hb hK.1 hP hD hS 18 0 rfl rfl n_77 dX11_truths_77 (fun H locs hP hD hS => ?_)
            have hP : va_P g.1 vwCl (wX11 g a_m (uR I_m_62 18 f12) J_m) H := by rw [e_f12]; exact hP
            have hD : va_D A (wX11 g a_m (uR I_m_62 18 f12) J_m) := by rw [e_f12]; exact hD
            have hc_77 : MI (uR I_m_62 18 f12) := MI.ur hM_62 (by decide)
            have hk_77 : KK [1, 14, 15, 16, 18, 19] [1, 20, 21] I_m (uR I_m_62 18 f12) := KK.ur hk_62 (by decide) (by decide)
            have hw_77 : WK I_m (uR I_m_62 18 f12) := WK.ur hw_62 (by decide)
            have hlt77 : tm f12 ((v5_62).toInt + 1).toNat < tm (I_m_62 18) ((v5_62).toInt + 1).toNat := tm_lt e_f12 rfl (by omega) (by rw [← m_x10]; omega)
            refine lv_aload_n hx hb dX11_truths_78 rfl (lv_at hl 3 rfl) ?_
            refine va_get (D := g.1) (ci := 11) (v := .ref (a_m 18)) (C := RX11) (T := TX11) (N := 46) hx hb hi_X11 (fun _ h => h) hown hK.1 hP 0 rfl rfl 38 (by decide) hf_77 (fun _ h9 => h9) rfl dX11_truths_79 ?_
            refine lv_iload hx hb dX11_truths_82 (lv_at hl 0 rfl) ?_
            have n_84 : vp_in v5_62 21 := (t_in (by omega))
            refine va_iald hx hb hK.1 hP 18 0 rfl rfl n_84 dX11_truths_84 ?_
            refine q_nm (fun x13 e_x13 => ?_)
            have e_x13 : x13 = f12 v5_62.toNatClampNeg := e_x13
            have g_x13 : x13.toInt = (f12 v5_62.toNatClampNeg).toInt := congrArg _ e_x13
            have m_x13 : x13 = x11 := by rw [e_x13, e_f12]; exact upd_at rfl
            have n_x13 := congrArg Int32.toInt m_x13
            refine lv_istore (lv' := [(6, .int x13), (5, .int v5_62), (4, .int v4_62), (3, .int r1), (0, .ref (a_m 0)), (1, .int tray), (2, .int many)]) hx hb dX11_truths_85 hl (by decide) rfl (fun ls hl => ?_)
            refine lv_iload hx hb dX11_truths_87 (lv_at hl 0 rfl) ?_
            refine lv_aload_n hx hb dX11_truths_89 rfl (lv_at hl 4 rfl) ?_
            refine va_get (D := g.1) (ci := 11) (v := .ref (a_m 1)) (C := RX11) (T := TX11) (N := 46) hx hb hi_X11 (fun _ h => h) hown hK.1 hP 0 rfl rfl 0 (by decide) hf_7 (fun _ h9 => h9) rfl dX11_truths_90 ?_
            refine lv_iconst (v := 0) hx hb dX11_truths_93 (by decide) ?_
            have n_94 : vp_in (0 : Int32) 19800 := (t_in (by decide))
            refine va_iald hx hb hK.1 hP 1 0 rfl rfl n_94 dX11_truths_94 ?_
            refine q_nm (fun x14 e_x14 => ?_)
            have e_x14 : x14 = (I_m_62 1) 0 := e_x14
            have g_x14 : x14.toInt = ((I_m_62 1) 0).toInt := congrArg _ e_x14
            have f_x14 := MI.many hc_77 e_x14
            have m_x14 : x14.toInt = (I_m 1 0).toInt := by rw [e_x14]; exact congrArg Int32.toInt (hw_62 0 (by decide))
            refine q_icmp_ne (tgt := 104) hx hb dX11_truths_95 (by decide) rfl rfl (fun k_95 => ?_) (fun k_95 => ?_)
            · have ha77 : TA (uR I_m_62 18 f12) v5_62.toInt (I_m 1 0).toInt many.toInt := ha_62.same e_f12 rfl (by omega) (by omega)
              have d104 : tDQ (pqM I_m) (I_m 1) R14 R15 R16 (uTM I_m) many.toInt.toNat (I_m_62 18) (I_m_62 19) (v5_62.toInt.toNat + 1) v4_62.toInt := fun w => (by have q := hD_62 w; rw [show (v5_62.toInt + 1).toNat = v5_62.toInt.toNat + 1 by omega] at q; exact q)
              have h1_104 : hidQ ((I_m_62 18 v5_62.toInt.toNat).toInt = (((x13).toInt.toNat : Nat) : Int) - 1) := (by show (I_m_62 18 v5_62.toInt.toNat).toInt = (((x13).toInt.toNat : Nat) : Int) - 1; rw [← m_x10]; omega)
              have h3_104 : ∀ k, k < v5_62.toInt.toNat → I_m_62 18 k = f12 k := fun k hk => (by rw [e_f12, pk_un (by show k ≠ v5_62.toInt.toNat; omega)])
              have h5_104 : (f12 v5_62.toInt.toNat).toInt = (x13).toInt := congrArg Int32.toInt (at_ix (k := v5_62.toInt.toNat) e_x13 (by omega)).symm
              have h2_104 : hidQ ((f12 v5_62.toInt.toNat).toInt = (((x13).toInt.toNat : Nat) : Int)) := (by show (f12 v5_62.toInt.toNat).toInt = (((x13).toInt.toNat : Nat) : Int); rw [h5_104]; omega)
              have h4_104 : hidQ ((x13).toInt.toNat < (I_m 1 0).toInt.toNat) := (by show (x13).toInt.toNat < (I_m 1 0).toInt.toNat; omega)
              have c3_104 := hM.c3 (r := (x13).toInt.toNat) (by omega)
              refine lv_aload_n hx hb dX11_truths_104 rfl (lv_at hl 4 rfl) ?_
              refine lv_iload hx hb dX11_truths_105 (lv_at hl 0 rfl) ?_
              refine lv_aload_n hx hb dX11_truths_107 rfl (lv_at hl 4 rfl) ?_
              refine va_get (D := g.1) (ci := 11) (v := .ref (a_m 19)) (C := RX11) (T := TX11) (N := 46) hx hb hi_X11 (fun _ h => h) hown hK.1 hP 0 rfl rfl 39 (by decide) hf_80 (fun _ h9 => h9) rfl dX11_truths_108 ?_
              refine lv_iload hx hb dX11_truths_111 (lv_at hl 1 rfl) ?_
              have n_113 : vp_in v5_62 22 := (t_in (by omega))
              refine va_iald hx hb hK.1 hP 19 0 rfl rfl n_113 dX11_truths_113 ?_
              refine q_nm (fun x15 e_x15 => ?_)
              have e_x15 : x15 = (I_m_62 19) v5_62.toNatClampNeg := e_x15
              have g_x15 : x15.toInt = ((I_m_62 19) v5_62.toNatClampNeg).toInt := congrArg _ e_x15
              have m_x15 : x15 = I_m_62 19 (v5_62).toInt.toNat := at_ix e_x15 (by omega)
              have q_x15 := (ha_62 (v5_62).toInt.toNat (by omega)).2.1
              rw [← m_x15] at q_x15
              refine lv_iload_n hx hb dX11_truths_114 rfl (lv_at hl 6 rfl) ?_
              have rif115 := (RD.iff (I := (uR I_m_62 18 f12)) (rule := (x13)) (p := (x15).toInt) (many := many.toInt) (by omega) (by omega) (by omega) (TS.cc (hc_77).t0 (x := nI (12 * (x13).toInt.toNat + 19)) (r := (x13).toInt) (by rw [nI_clamp (by omega)]) (by omega) (by rw [nI_toInt (by omega)]; omega)).1)
              rw [show (uR I_m_62 18 f12) 14 = R14 from hrw_62.1, show (uR I_m_62 18 f12) 15 = R15 from hrw_62.2.1, okM.wk (A := I_m 1) (show ∀ j, j < 16500 → (uR I_m_62 18 f12) 1 j = I_m 1 j from hw_62) (by omega) c3_104.2] at rif115
              replace rif115 := hidQ.of rif115
              refine PurI.cv (As := [.int x13, .int x15, .int many]) (kX11_reads l g a_m (uR I_m_62 18 f12) J_m x13 x15 many hc_77 (by omega) (by omega)) fx (gUV (uT _) u_1354 u_1355 u_1356 u_5 u_1357) rfl hdX11_reads ⟨Nat.le_of_ble_eq_true rfl, Nat.le_of_ble_eq_true rfl⟩ hK hP [0, 1, 2, 3, 4, 5, 6, 7, 8, 9, 10, 11, 12, 13, 14, 15, 16, 17, 18, 19, 20, 21, 22] rfl rfl rfl rfl rfl hl.1 (Nat.le_of_ble_eq_true rfl) dX11_truths_115 (fun r16 p_r16 => ?_)
              have p_r16 : bP (RD (uR I_m_62 18 f12) (x13) (x15).toInt (many).toInt) (¬ RD (uR I_m_62 18 f12) (x13) (x15).toInt (many).toInt) r16 := p_r16
              refine q_if_ne (tgt := 124) hx hb dX11_truths_118 (by decide) rfl (fun b_118 k_118 => ?_) (fun b_118 k_118 => ?_)
              · have q_118 := bP.t p_r16 b_118
                have hl118 : (x15).toInt + (I_m_62 1 (12 * (x13).toInt.toNat + 19)).toInt ≤ many.toInt := q_118.2.1
                have o118 : okM (I_m 1) R14 R15 many.toInt.toNat (x13).toInt.toNat (I_m_62 19 v5_62.toInt.toNat).toInt.toNat := (by rw [← m_x15]; exact rif115.1 q_118)
                refine lv_aload_n hx hb dX11_truths_124 rfl (lv_at hl 4 rfl) ?_
                refine va_get (D := g.1) (ci := 11) (v := .ref (a_m 19)) (C := RX11) (T := TX11) (N := 46) hx hb hi_X11 (fun _ h => h) hown hK.1 hP 0 rfl rfl 39 (by decide) hf_80 (fun _ h9 => h9) rfl dX11_truths_125 ?_
                refine lv_iload hx hb dX11_truths_128 (lv_at hl 1 rfl) ?_
                have n_130 : vp_in v5_62 22 := (t_in (by omega))
                refine va_iald hx hb hK.1 hP 19 0 rfl rfl n_130 dX11_truths_130 ?_
                refine q_nm (fun x17 e_x17 => ?_)
                have e_x17 : x17 = (I_m_62 19) v5_62.toNatClampNeg := e_x17
                have g_x17 : x17.toInt = ((I_m_62 19) v5_62.toNatClampNeg).toInt := congrArg _ e_x17
                have m_x17 : x17 = I_m_62 19 (v5_62).toInt.toNat := at_ix e_x17 (by omega)
                have q_x17 := (ha_62 (v5_62).toInt.toNat (by omega)).2.1
                rw [← m_x17] at q_x17
                refine lv_aload_n hx hb dX11_truths_131 rfl (lv_at hl 4 rfl) ?_
                refine lv_iload hx hb dX11_truths_132 (lv_at hl 0 rfl) ?_
                refine PurI.cv (As := [.int x13]) (kX11_cellsOf l g a_m (uR I_m_62 18 f12) J_m x13 hc_77 (by omega)) fx (gUV (uT _) u_826 u_827 u_828 u_5 u_829) rfl hdX11_cellsOf ⟨Nat.le_of_ble_eq_true rfl, Nat.le_of_ble_eq_true rfl⟩ hK hP [0, 1, 2, 3, 4, 5, 6, 7, 8, 9, 10, 11, 12, 13, 14, 15, 16, 17, 18, 19, 20, 21, 22] rfl rfl rfl rfl rfl hl.1 (Nat.le_of_ble_eq_true rfl) dX11_truths_134 (fun r18 p_r18 => ?_)
                have p_r18 : ((x13).toInt = -1) ∨ (0 ≤ (x13).toInt ∧ r18.toInt = ((I_m_62 1) (12 * (x13).toInt.toNat + 19)).toInt ∧ 0 ≤ r18.toInt ∧ r18.toInt ≤ 3 ∧ ((I_m_62 1 0).toInt ≤ (x13).toInt ∨ 1 ≤ r18.toInt)) := p_r18
                rename_i y18
                clear y18
                have e134 : (r18).toInt = (I_m 1 (12 * (x13).toInt.toNat + 19)).toInt := (by have a9 := (p_r18.resolve_left (fun z => by omega)).2.1; rw [a9]; exact congrArg Int32.toInt (hw_62 _ (by omega)))
                have c134 := p_r18.resolve_left (fun z => by omega)
                have d134 : 1 ≤ (r18).toInt := by omega
                have f134 := c134.2.1
                have g134 := c134.2.2.2.1
                replace c134 := hidQ.of c134
                replace p_r18 := hidQ.of p_r18
                refine r_iadd hx hb dX11_truths_137 rfl rfl (fun x19 e_x19 t_x19 => ?_)
                try have t_x19 := t_x19 (by omega)
                refine lv_istore (lv' := [(7, .int x19), (6, .int x13), (5, .int v5_62), (4, .int v4_62), (3, .int r1), (0, .ref (a_m 0)), (1, .int tray), (2, .int many)]) hx hb dX11_truths_138 hl (by decide) rfl (fun ls hl => ?_)
                have e130 : (x17).toInt = (I_m_62 19 v5_62.toInt.toNat).toInt := congrArg Int32.toInt m_x17
                have k138 : hidQ ((I_m_62 19 v5_62.toInt.toNat).toInt.toNat + mN (I_m 1) (x13).toInt.toNat = (x19).toInt.toNat) := (by show (I_m_62 19 v5_62.toInt.toNat).toInt.toNat + (I_m 1 (12 * (x13).toInt.toNat + 19)).toInt.toNat = _; rw [← e130, ← e134]; omega)
                refine lv_aload_n hx hb dX11_truths_140 rfl (lv_at hl 5 rfl) ?_
                refine va_get (D := g.1) (ci := 11) (v := .ref (a_m 16)) (C := RX11) (T := TX11) (N := 46) hx hb hi_X11 (fun _ h => h) hown hK.1 hP 0 rfl rfl 34 (by decide) hf_68 (fun _ h9 => h9) rfl dX11_truths_141 ?_
                refine lv_iload hx hb dX11_truths_144 (lv_at hl 0 rfl) ?_
                have n_146 : vp_in x19 21 := (t_in (by omega))
                refine va_iald hx hb hK.1 hP 16 0 rfl rfl n_146 dX11_truths_146 ?_
                refine q_nm (fun x20 e_x20 => ?_)
                have e_x20 : x20 = (I_m_62 16) x19.toNatClampNeg := e_x20
                have g_x20 : x20.toInt = ((I_m_62 16) x19.toNatClampNeg).toInt := congrArg _ e_x20
                have m_x20 : x20 = R16 (x19).toInt.toNat := (by rw [← hrw_62.2.2]; exact at_ix (k := (x19).toInt.toNat) e_x20 (by omega))
                refine q_if_ne (tgt := 153) hx hb dX11_truths_147 (by decide) rfl (fun b_147 k_147 => ?_) (fun b_147 k_147 => ?_)
                · have g153 : gM (I_m 1) R14 R15 R16 many.toInt.toNat (x13).toInt.toNat (I_m_62 19 v5_62.toInt.toNat).toInt.toNat := ⟨o118, (by rw [show (I_m_62 19 v5_62.toInt.toNat).toInt.toNat + mN (I_m 1) (x13).toInt.toNat = (x19).toInt.toNat from k138, ← m_x20]; exact k_147)⟩
                  refine lv_iload hx hb dX11_truths_153 (lv_at hl 0 rfl) ?_
                  refine lv_iload_n hx hb dX11_truths_155 rfl (lv_at hl 7 rfl) ?_
                  refine q_icmp_ne (tgt := 184) hx hb dX11_truths_156 (by decide) rfl rfl (fun k_156 => ?_) (fun k_156 => ?_)
                  · refine r_iinc (lv' := fun i21 => [(5, .int i21), (7, .int x19), (6, .int x13), (4, .int v4_62), (3, .int r1), (0, .ref (a_m 0)), (1, .int tray), (2, .int many)]) hx hb dX11_truths_184 hl (k := 2) rfl (by decide) rfl (by decide) (fun _ => rfl) (fun i21 e_i21 t_i21 ls hl => ?_)
                    try have t_i21 := t_i21 (by omega)
                    refine lv_aload_n hx hb dX11_truths_187 rfl (lv_at hl 5 rfl) ?_
                    refine va_get (D := g.1) (ci := 11) (v := .ref (a_m 18)) (C := RX11) (T := TX11) (N := 46) hx hb hi_X11 (fun _ h => h) hown hK.1 hP 0 rfl rfl 38 (by decide) hf_77 (fun _ h9 => h9) rfl dX11_truths_188 ?_
                    refine lv_iload hx hb dX11_truths_191 (lv_at hl 0 rfl) ?_
                    refine lv_iconst (v := -1) hx hb dX11_truths_193 (by decide) ?_
                    have n_194 : vp_in i21 21 := (t_in (by omega))
                    obtain ⟨f22, e_f22⟩ : ∃ z, z = upd f12 i21.toNatClampNeg (-1 : Int32) := ⟨_, rfl⟩
                    refine va_iast hx hb hK.1 hP hD hS 18 0 rfl rfl n_194 dX11_truths_194 (fun H locs hP hD hS => ?_)
                    have hP : va_P g.1 vwCl (wX11 g a_m (uR (uR I_m_62 18 f12) 18 f22) J_m) H := by rw [e_f22]; exact hP
                    have hD : va_D A (wX11 g a_m (uR (uR I_m_62 18 f12) 18 f22) J_m) := by rw [e_f22]; exact hD
                    have hc_194 : MI (uR (uR I_m_62 18 f12) 18 f22) := MI.ur hc_77 (by decide)
                    have hk_194 : KK [1, 14, 15, 16, 18, 19] [1, 20, 21] I_m (uR (uR I_m_62 18 f12) 18 f22) := KK.ur hk_77 (by decide) (by decide)
                    have hw_194 : WK I_m (uR (uR I_m_62 18 f12) 18 f22) := WK.ur hw_77 (by decide)
                    have hq194 : 0 ≤ (f12 v5_62.toInt.toNat).toInt := by rw [e_f12, upd_at (show v5_62.toInt.toNat = v5_62.toNatClampNeg from rfl)]; omega
                    refine lv_aload_n hx hb dX11_truths_195 rfl (lv_at hl 5 rfl) ?_
                    refine va_get (D := g.1) (ci := 11) (v := .ref (a_m 19)) (C := RX11) (T := TX11) (N := 46) hx hb hi_X11 (fun _ h => h) hown hK.1 hP 0 rfl rfl 39 (by decide) hf_80 (fun _ h9 => h9) rfl dX11_truths_196 ?_
                    refine lv_iload hx hb dX11_truths_199 (lv_at hl 0 rfl) ?_
                    refine lv_iload hx hb dX11_truths_201 (lv_at hl 1 rfl) ?_
                    have n_203 : vp_in i21 22 := (t_in (by omega))
                    obtain ⟨f23, e_f23⟩ : ∃ z, z = upd (I_m_62 19) i21.toNatClampNeg x19 := ⟨_, rfl⟩
                    refine va_iast hx hb hK.1 hP hD hS 19 0 rfl rfl n_203 dX11_truths_203 (fun H locs hP hD hS => ?_)
                    have hP : va_P g.1 vwCl (wX11 g a_m (uR (uR (uR I_m_62 18 f12) 18 f22) 19 f23) J_m) H := by rw [e_f23]; exact hP
                    have hD : va_D A (wX11 g a_m (uR (uR (uR I_m_62 18 f12) 18 f22) 19 f23) J_m) := by rw [e_f23]; exact hD
                    have hc_203 : MI (uR (uR (uR I_m_62 18 f12) 18 f22) 19 f23) := MI.ur hc_194 (by decide)
                    have hk_203 : KK [1, 14, 15, 16, 18, 19] [1, 20, 21] I_m (uR (uR (uR I_m_62 18 f12) 18 f22) 19 f23) := KK.ur hk_194 (by decide) (by decide)
                    have hw_203 : WK I_m (uR (uR (uR I_m_62 18 f12) 18 f22) 19 f23) := WK.ur hw_194 (by decide)
                    have haD : TA (uR (uR (uR I_m_62 18 f12) 18 f22) 19 f23) (i21).toInt (I_m 1 0).toInt many.toInt := ha77.deep (lev := v5_62.toInt) hq194 e_f22 e_f23 (by omega) (by omega) (by omega) (by omega) (by omega) (by omega) rfl rfl
                    have hmD : tm f22 ((i21).toInt + 1).toNat < tm (I_m_62 18) (v5_62.toInt + 1).toNat := tm_deep (lev := v5_62.toInt) e_f12 rfl (by omega) (by omega) (by rw [← m_x10]; omega) e_f22 (by omega) (by omega)
                    have h2_204 : hidQ ((f22 v5_62.toInt.toNat).toInt = (((x13).toInt.toNat : Nat) : Int)) := (by show (f22 v5_62.toInt.toNat).toInt = (((x13).toInt.toNat : Nat) : Int); rw [e_f22, pk_un (by show v5_62.toInt.toNat ≠ (i21).toInt.toNat; omega)]; exact h2_104)
                    have h3_204 : ∀ k, k < v5_62.toInt.toNat → I_m_62 18 k = f22 k := fun k hk => (by rw [e_f22, pk_un (by show k ≠ (i21).toInt.toNat; omega)]; exact h3_104 k hk)
                    have p3_204 : ∀ k, k ≤ v5_62.toInt.toNat → I_m_62 19 k = f23 k := fun k hk => (by rw [e_f23, pk_un (by show k ≠ (i21).toInt.toNat; omega)])
                    have f_204 : (f22 (v5_62.toInt.toNat + 1)).toInt = -1 := (by rw [e_f22]; exact (congrArg Int32.toInt (upd_at (show v5_62.toInt.toNat + 1 = (i21).toInt.toNat by omega))).trans lm1)
                    have p_204 : f23 (v5_62.toInt.toNat + 1) = x19 := (by rw [e_f23]; exact upd_at (show v5_62.toInt.toNat + 1 = (i21).toInt.toNat by omega))
                    have dE204 : tDQ (pqM I_m) (I_m 1) R14 R15 R16 (uTM I_m) many.toInt.toNat ((uR (uR (uR I_m_62 18 f12) 18 f22) 19 f23) 18) ((uR (uR (uR I_m_62 18 f12) 18 f22) 19 f23) 19) ((i21).toInt + 1).toNat v4_62.toInt := fun w => (by rw [show ((i21).toInt + 1).toNat = v5_62.toInt.toNat + 2 by omega]; exact tDf.dn (F' := f22) (P' := f23) hcn (d104 w) h4_104 h1_104 h2_204 f_204 h3_204 p3_204 g153 (by rw [p_204]; have a9 : ((mN (I_m 1) (x13).toInt.toNat : Nat) : Int) = (I_m 1 (12 * (x13).toInt.toNat + 19)).toInt := (by show (((I_m 1 (12 * (x13).toInt.toNat + 19)).toInt.toNat : Nat) : Int) = _; omega); omega) (by rw [p_204]; omega))
                    refine lv_goto (tgt := 62) hx hb dX11_truths_204 (by decide) ?_
                    exact ih_62 v4_62 i21 (uR (uR (uR I_m_62 18 f12) 18 f22) 19 f23) hc_203 hw_203 hk_203 (by omega) (by first | exact haD | exact haU | exact haW | exact ha77) (by exact hrw_62) (by first | exact dC181 | exact dE204 | exact dU101 | exact dB150 | exact dA121) (by first | exact Int.lt_of_lt_of_le hmU (by omega) | exact Int.lt_of_lt_of_le hmD (by omega) | exact Int.lt_of_lt_of_le hmW (by omega) | exact Int.lt_of_lt_of_le hlt77 (by omega) | omega) _ _ hP hD hS ls (lv_sub hl [0, 3, 4, 5, 6, 7] rfl)
                  · refine lv_iload hx hb dX11_truths_159 (lv_at hl 3 rfl) ?_
                    refine lv_aload_n hx hb dX11_truths_161 rfl (lv_at hl 5 rfl) ?_
                    refine lv_iload hx hb dX11_truths_162 (lv_at hl 2 rfl) ?_
                    refine lv_iconst (v := 1) hx hb dX11_truths_164 (by decide) ?_
                    refine r_iadd hx hb dX11_truths_165 rfl (by decide : (1 : Int32).toInt = 1) (fun x24 e_x24 t_x24 => ?_)
                    try have t_x24 := t_x24 (by omega)
                    refine lv_iload_n hx hb dX11_truths_166 rfl (lv_at hl 7 rfl) ?_
                    refine EffI.cv (wr := ([])) (w' := fun u26 => wX11 g a_m u26 J_m) (As := [.int x24, .int many]) (kX11_isTrue l g a_m (uR I_m_62 18 f12) J_m x24 many hc_77 (by omega) (fun k hk => by have q := ha77 k (by omega); exact ⟨by by_cases w : (k : Int) < v5_62.toInt; exact q.2.2 w; show 0 ≤ (f12 k).toInt; rw [show k = v5_62.toInt.toNat by omega, e_f12, upd_at (show v5_62.toInt.toNat = v5_62.toNatClampNeg from rfl)]; omega, by omega⟩)) fx (gUV (uT _) u_1429 u_1430 u_1431 u_5 u_1432) rfl hdX11_isTrue ⟨Nat.le_of_ble_eq_true rfl, Nat.le_of_ble_eq_true rfl⟩ hK hP hD hS hA [0, 1, 2, 3, 4, 5, 6, 7, 8, 9, 10, 11, 12, 13, 14, 15, 16, 17, 18, 19, 20, 21, 22] [] [0, 1, 2, 3, 4, 5, 6, 7, 8, 9, 10, 11, 12, 13, 14, 15, 16, 17, 18, 19, 20, 21, 22] rfl rfl rfl rfl (by decide) rfl (fun _ => rfl) rfl rfl rfl rfl hl.1 (Nat.le_of_ble_eq_true rfl) dX11_truths_167 (fun r25 u26 H locs p_r25 hP hD hS => ?_)
                    have hP : va_P g.1 vwCl (wX11 g a_m u26 J_m) H := hP
                    have hD : va_D A (wX11 g a_m u26 J_m) := hD
                    have p_r25 : MI u26 ∧ WK (uR I_m_62 18 f12) u26 ∧ KK [1] [20, 21] (uR I_m_62 18 f12) u26 ∧ (r25 = 0 ∨ r25 = 1) ∧ ((1 ≤ (x24).toInt ∧ 0 ≤ (many).toInt ∧ pqM (uR I_m_62 18 f12) ∧ ∀ k : Nat, (k : Int) < (x24).toInt → (f12 k).toInt < (I_m_62 1 0).toInt) → (r25 = 1 ∧ tTr (uTM (uR I_m_62 18 f12)) (I_m_62 1 6) (rwM ((I_m_62 14)) (many).toInt.toNat) (tRs (f12) (x24).toInt.toNat)) ∨ (r25 = 0 ∧ ¬ tTr (uTM (uR I_m_62 18 f12)) (I_m_62 1 6) (rwM ((I_m_62 14)) (many).toInt.toNat) (tRs (f12) (x24).toInt.toNat))) := p_r25
                    rename_i y25 y26 y27
                    clear y25
                    have hr18 := p_r25.2.2.1.row 18 (by decide)
                    have hr19 := p_r25.2.2.1.row 19 (by decide)
                    have haU := ha77.row hr18 hr19
                    have hmU : tm (u26 18) ((v5_62).toInt + 1).toNat < tm (I_m_62 18) ((v5_62).toInt + 1).toNat := by rw [hr18]; exact hlt77
                    replace p_r25 := hidQ.a5 p_r25
                    have x167 := p_r25.2.2.2.2
                    have t167 : uTM (uR I_m_62 18 f12) = uTM I_m := uTM.of (show WK I_m (uR I_m_62 18 f12) from hw_62) hM
                    have l167 : hidQ ((x24).toInt.toNat = v5_62.toInt.toNat + 1) := (by show (x24).toInt.toNat = v5_62.toInt.toNat + 1; omega)
                    have z167 : hidQ (pqM I_m → (r25 = 1 ∧ tTr (uTM I_m) (I_m 1 6) (rwM R14 many.toInt.toNat) (tRs f12 (v5_62.toInt.toNat + 1))) ∨ (r25 = 0 ∧ ¬ tTr (uTM I_m) (I_m 1 6) (rwM R14 many.toInt.toNat) (tRs f12 (v5_62.toInt.toNat + 1)))) := fun w => (by have c9 := x167 ⟨by omega, by omega, (by unfold pqM; rw [t167]; exact w), fun k hk => (by have a9 := (ha77 k (by omega)).1.2; have b9 := congrArg Int32.toInt (hw_62 0 (by decide)); show (f12 k).toInt < (I_m_62 1 0).toInt; have c8 : (f12 k).toInt < _ := a9; omega)⟩; rw [t167, show (x24).toInt.toNat = v5_62.toInt.toNat + 1 from l167, show I_m_62 14 = R14 from hrw_62.1, show I_m_62 1 6 = I_m 1 6 from hw_62 6 (by decide)] at c9; exact c9)
                    refine q_if_eq (tgt := 177) hx hb dX11_truths_170 (by decide) rfl (fun b_170 k_170 => ?_) (fun b_170 k_170 => ?_)
                    · refine lv_iconst (v := 0) hx hb dX11_truths_177 (by decide) ?_
                      refine r_iadd hx hb dX11_truths_178 rfl (by decide : (0 : Int32).toInt = 0) (fun x27 e_x27 t_x27 => ?_)
                      try have t_x27 := t_x27 (by omega)
                      refine lv_istore (lv' := [(4, .int x27), (7, .int x19), (6, .int x13), (5, .int v5_62), (3, .int r1), (0, .ref (a_m 0)), (1, .int tray), (2, .int many)]) hx hb dX11_truths_179 hl (by decide) rfl (fun ls hl => ?_)
                      have dC181 : tDQ (pqM I_m) (I_m 1) R14 R15 R16 (uTM I_m) many.toInt.toNat (u26 18) (u26 19) (v5_62.toInt + 1).toNat (x27).toInt := fun w => (by have a9 := d104 w; have b9 : tQM (I_m 1) R14 R15 R16 (uTM I_m) many.toInt.toNat = v4_62.toInt + _ := a9.1; have nn9 : 0 ≤ sumN _ _ := sumN.nn (f := tRm (I_m 1 0).toInt.toNat many.toInt.toNat (gM (I_m 1) R14 R15 R16 many.toInt.toNat) (mN (I_m 1)) (tTr (uTM I_m) (I_m 1 6) (rwM R14 many.toInt.toNat)) (I_m_62 18) (I_m_62 19)) (v5_62.toInt.toNat + 1) (fun _ => tRm.nn); have n9 : 0 ≤ v4_62.toInt := a9.2.1; have u9 : v4_62.toInt ≤ 9999 := (by rw [b9] at hB42; exact Int.le_trans (Int.le_add_of_nonneg_right nn9) hB42); have e9 : pM (gM (I_m 1) R14 R15 R16 many.toInt.toNat (x13).toInt.toNat (I_m_62 19 v5_62.toInt.toNat).toInt.toNat) (tK (I_m 1 0).toInt.toNat many.toInt.toNat (gM (I_m 1) R14 R15 R16 many.toInt.toNat) (mN (I_m 1)) (tTr (uTM I_m) (I_m 1 6) (rwM R14 many.toInt.toNat)) ((I_m_62 19 v5_62.toInt.toNat).toInt.toNat + mN (I_m 1) (x13).toInt.toNat) (tRs f12 v5_62.toInt.toNat ++ [(x13).toInt.toNat])) = pI (tTr (uTM I_m) (I_m 1 6) (rwM R14 many.toInt.toNat) (tRs f12 (v5_62.toInt.toNat + 1))) := (by rw [pM.t g153, show (I_m_62 19 v5_62.toInt.toNat).toInt.toNat + mN (I_m 1) (x13).toInt.toNat = many.toInt.toNat by (rw [show (I_m_62 19 v5_62.toInt.toNat).toInt.toNat + mN (I_m 1) (x13).toInt.toNat = (x19).toInt.toNat from k138]; omega), tK.at, tRs.sn, congrArg Int.toNat h5_104]); rw [show u26 18 = f12 from hr18, show u26 19 = I_m_62 19 from hr19, show (v5_62.toInt + 1).toNat = v5_62.toInt.toNat + 1 by omega]; rcases z167 w with ⟨c9, t9⟩ | ⟨c9, t9⟩; (rw [pI.t t9] at e9; first | exact absurd b_170 (by rw [c9]; decide) | exact tDf.at (x := 1) a9 h4_104 h1_104 h2_104 h3_104 e9 (by decide) (by have z9 := t_add e_x27 rfl lm2 (by omega); omega)); (rw [pI.f t9] at e9; first | exact absurd c9 b_170 | exact tDf.at (x := 0) a9 h4_104 h1_104 h2_104 h3_104 e9 (by decide) (by have z9 := t_add e_x27 rfl lm0 (by omega); omega)))
                      refine lv_goto (tgt := 62) hx hb dX11_truths_181 (by decide) ?_
                      exact ih_62 x27 v5_62 u26 (p_r25.1) (WK.tr hw_77 p_r25.2.1) (KK.tr hk_77 p_r25.2.2.1 (by decide) (by decide)) (by omega) (by first | exact haD | exact haU | exact haW | exact ha77) (by first | exact ⟨(p_r25.2.2.1.row 14 (by decide)).trans hrw_62.1, (p_r25.2.2.1.row 15 (by decide)).trans hrw_62.2.1, (p_r25.2.2.1.row 16 (by decide)).trans hrw_62.2.2⟩ | exact hrw_62) (by first | exact dC181 | exact dE204 | exact dU101 | exact dB150 | exact dA121) (by first | exact Int.lt_of_lt_of_le hmU (by omega) | exact Int.lt_of_lt_of_le hmD (by omega) | exact Int.lt_of_lt_of_le hmW (by omega) | exact Int.lt_of_lt_of_le hlt77 (by omega) | omega) _ _ hP hD hS ls (lv_sub hl [3, 0, 4, 5, 6, 7] rfl)
                    · refine lv_iconst (v := 1) hx hb dX11_truths_173 (by decide) ?_
                      refine lv_goto (tgt := 178) hx hb dX11_truths_174 (by decide) ?_
                      refine r_iadd hx hb dX11_truths_178 rfl (by decide : (1 : Int32).toInt = 1) (fun x28 e_x28 t_x28 => ?_)
                      try have t_x28 := t_x28 (by omega)
                      refine lv_istore (lv' := [(4, .int x28), (7, .int x19), (6, .int x13), (5, .int v5_62), (3, .int r1), (0, .ref (a_m 0)), (1, .int tray), (2, .int many)]) hx hb dX11_truths_179 hl (by decide) rfl (fun ls hl => ?_)
                      have dC181 : tDQ (pqM I_m) (I_m 1) R14 R15 R16 (uTM I_m) many.toInt.toNat (u26 18) (u26 19) (v5_62.toInt + 1).toNat (x28).toInt := fun w => (by have a9 := d104 w; have b9 : tQM (I_m 1) R14 R15 R16 (uTM I_m) many.toInt.toNat = v4_62.toInt + _ := a9.1; have nn9 : 0 ≤ sumN _ _ := sumN.nn (f := tRm (I_m 1 0).toInt.toNat many.toInt.toNat (gM (I_m 1) R14 R15 R16 many.toInt.toNat) (mN (I_m 1)) (tTr (uTM I_m) (I_m 1 6) (rwM R14 many.toInt.toNat)) (I_m_62 18) (I_m_62 19)) (v5_62.toInt.toNat + 1) (fun _ => tRm.nn); have n9 : 0 ≤ v4_62.toInt := a9.2.1; have u9 : v4_62.toInt ≤ 9999 := (by rw [b9] at hB42; exact Int.le_trans (Int.le_add_of_nonneg_right nn9) hB42); have e9 : pM (gM (I_m 1) R14 R15 R16 many.toInt.toNat (x13).toInt.toNat (I_m_62 19 v5_62.toInt.toNat).toInt.toNat) (tK (I_m 1 0).toInt.toNat many.toInt.toNat (gM (I_m 1) R14 R15 R16 many.toInt.toNat) (mN (I_m 1)) (tTr (uTM I_m) (I_m 1 6) (rwM R14 many.toInt.toNat)) ((I_m_62 19 v5_62.toInt.toNat).toInt.toNat + mN (I_m 1) (x13).toInt.toNat) (tRs f12 v5_62.toInt.toNat ++ [(x13).toInt.toNat])) = pI (tTr (uTM I_m) (I_m 1 6) (rwM R14 many.toInt.toNat) (tRs f12 (v5_62.toInt.toNat + 1))) := (by rw [pM.t g153, show (I_m_62 19 v5_62.toInt.toNat).toInt.toNat + mN (I_m 1) (x13).toInt.toNat = many.toInt.toNat by (rw [show (I_m_62 19 v5_62.toInt.toNat).toInt.toNat + mN (I_m 1) (x13).toInt.toNat = (x19).toInt.toNat from k138]; omega), tK.at, tRs.sn, congrArg Int.toNat h5_104]); rw [show u26 18 = f12 from hr18, show u26 19 = I_m_62 19 from hr19, show (v5_62.toInt + 1).toNat = v5_62.toInt.toNat + 1 by omega]; rcases z167 w with ⟨c9, t9⟩ | ⟨c9, t9⟩; (rw [pI.t t9] at e9; first | exact absurd b_170 (by rw [c9]; decide) | exact tDf.at (x := 1) a9 h4_104 h1_104 h2_104 h3_104 e9 (by decide) (by have z9 := t_add e_x28 rfl lm2 (by omega); omega)); (rw [pI.f t9] at e9; first | exact absurd c9 b_170 | exact tDf.at (x := 0) a9 h4_104 h1_104 h2_104 h3_104 e9 (by decide) (by have z9 := t_add e_x28 rfl lm0 (by omega); omega)))
                      refine lv_goto (tgt := 62) hx hb dX11_truths_181 (by decide) ?_
                      exact ih_62 x28 v5_62 u26 (p_r25.1) (WK.tr hw_77 p_r25.2.1) (KK.tr hk_77 p_r25.2.2.1 (by decide) (by decide)) (by omega) (by first | exact haD | exact haU | exact haW | exact ha77) (by first | exact ⟨(p_r25.2.2.1.row 14 (by decide)).trans hrw_62.1, (p_r25.2.2.1.row 15 (by decide)).trans hrw_62.2.1, (p_r25.2.2.1.row 16 (by decide)).trans hrw_62.2.2⟩ | exact hrw_62) (by first | exact dC181 | exact dE204 | exact dU101 | exact dB150 | exact dA121) (by first | exact Int.lt_of_lt_of_le hmU (by omega) | exact Int.lt_of_lt_of_le hmD (by omega) | exact Int.lt_of_lt_of_le hmW (by omega) | exact Int.lt_of_lt_of_le hlt77 (by omega) | omega) _ _ hP hD hS ls (lv_sub hl [3, 0, 4, 5, 6, 7] rfl)
                · have dB150 : tDQ (pqM I_m) (I_m 1) R14 R15 R16 (uTM I_m) many.toInt.toNat f12 (I_m_62 19) (v5_62.toInt + 1).toNat v4_62.toInt := fun w => (by rw [show (v5_62.toInt + 1).toNat = v5_62.toInt.toNat + 1 by omega]; exact tDf.at (x := 0) (d104 w) h4_104 h1_104 h2_104 h3_104 (pM.f (fun q => q.2 (by rw [show (I_m_62 19 v5_62.toInt.toNat).toInt.toNat + mN (I_m 1) (x13).toInt.toNat = (x19).toInt.toNat from k138, ← m_x20, b_147]; exact lm0))) (Int.le_refl 0) (by omega))
                  refine lv_goto (tgt := 62) hx hb dX11_truths_150 (by decide) ?_
                  exact ih_62 v4_62 v5_62 (uR I_m_62 18 f12) hc_77 hw_77 hk_77 (by omega) (by first | exact haD | exact haU | exact haW | exact ha77) (by exact hrw_62) (by first | exact dC181 | exact dE204 | exact dU101 | exact dB150 | exact dA121) (by first | exact Int.lt_of_lt_of_le hmU (by omega) | exact Int.lt_of_lt_of_le hmD (by omega) | exact Int.lt_of_lt_of_le hmW (by omega) | exact Int.lt_of_lt_of_le hlt77 (by omega) | omega) _ _ hP hD hS ls (lv_sub hl [2, 3, 4, 5, 6, 7] rfl)
              · have q_118 := bP.f p_r16 b_118
                have o118 : ¬ okM (I_m 1) R14 R15 many.toInt.toNat (x13).toInt.toNat (I_m_62 19 v5_62.toInt.toNat).toInt.toNat := fun q => q_118 (rif115.2 (by rw [m_x15]; exact q))
                have dA121 : tDQ (pqM I_m) (I_m 1) R14 R15 R16 (uTM I_m) many.toInt.toNat f12 (I_m_62 19) (v5_62.toInt + 1).toNat v4_62.toInt := fun w => (by rw [show (v5_62.toInt + 1).toNat = v5_62.toInt.toNat + 1 by omega]; exact tDf.at (x := 0) (d104 w) h4_104 h1_104 h2_104 h3_104 (pM.f (fun q => o118 q.1)) (Int.le_refl 0) (by omega))
                refine lv_goto (tgt := 62) hx hb dX11_truths_121 (by decide) ?_
                exact ih_62 v4_62 v5_62 (uR I_m_62 18 f12) hc_77 hw_77 hk_77 (by omega) (by first | exact haD | exact haU | exact haW | exact ha77) (by exact hrw_62) (by first | exact dC181 | exact dE204 | exact dU101 | exact dB150 | exact dA121) (by first | exact Int.lt_of_lt_of_le hmU (by omega) | exact Int.lt_of_lt_of_le hmD (by omega) | exact Int.lt_of_lt_of_le hmW (by omega) | exact Int.lt_of_lt_of_le hlt77 (by omega) | omega) _ _ hP hD hS ls (lv_sub hl [1, 2, 3, 4, 5, 6] rfl)
            · refine r_iinc (lv' := fun i29 => [(5, .int i29), (6, .int x13), (4, .int v4_62), (3, .int r1), (0, .ref (a_m 0)), (1, .int tray), (2, .int many)]) hx hb dX11_truths_98 hl (k := 1) rfl (by decide) rfl (by decide) (fun _ => rfl) (fun i29 e_i29 t_i29 ls hl => ?_)
              try have t_i29 := t_i29 (by omega)
              have haW : TA (uR I_m_62 18 f12) (i29).toInt (I_m 1 0).toInt many.toInt := ha_62.down e_f12 rfl (by omega) (by omega)
              have hmW : tm f12 ((i29).toInt + 1).toNat < tm (I_m_62 18) (v5_62.toInt + 1).toNat := tm_down (lev := v5_62.toInt) e_f12 rfl (by omega) (by rw [← m_x10]; omega) (by omega) (by omega)
              have d104 : tDQ (pqM I_m) (I_m 1) R14 R15 R16 (uTM I_m) many.toInt.toNat (I_m_62 18) (I_m_62 19) (v5_62.toInt.toNat + 1) v4_62.toInt := fun w => (by have q := hD_62 w; rw [show (v5_62.toInt + 1).toNat = v5_62.toInt.toNat + 1 by omega] at q; exact q)
              have h1_104 : hidQ ((I_m_62 18 v5_62.toInt.toNat).toInt = (((x13).toInt.toNat : Nat) : Int) - 1) := (by show (I_m_62 18 v5_62.toInt.toNat).toInt = (((x13).toInt.toNat : Nat) : Int) - 1; rw [← m_x10]; omega)
              have h3_104 : ∀ k, k < v5_62.toInt.toNat → I_m_62 18 k = f12 k := fun k hk => (by rw [e_f12, pk_un (by show k ≠ v5_62.toInt.toNat; omega)])
              have dU101 : tDQ (pqM I_m) (I_m 1) R14 R15 R16 (uTM I_m) many.toInt.toNat f12 (I_m_62 19) ((i29).toInt + 1).toNat v4_62.toInt := fun w => (by rw [show ((i29).toInt + 1).toNat = v5_62.toInt.toNat by omega]; exact tDf.up (d104 w) h3_104 (by have y := (show (I_m_62 18 v5_62.toInt.toNat).toInt = (((x13).toInt.toNat : Nat) : Int) - 1 from h1_104); omega))
              refine lv_goto (tgt := 62) hx hb dX11_truths_101 (by decide) ?_
              exact ih_62 v4_62 i29 (uR I_m_62 18 f12) hc_77 hw_77 hk_77 (by omega) (by first | exact haD | exact haU | exact haW | exact ha77) (by exact hrw_62) (by first | exact dC181 | exact dE204 | exact dU101 | exact dB150 | exact dA121) (by first | exact Int.lt_of_lt_of_le hmU (by omega) | exact Int.lt_of_lt_of_le hmD (by omega) | exact Int.lt_of_lt_of_le hmW (by omega) | exact Int.lt_of_lt_of_le hlt77 (by omega) | omega) _ _ hP hD hS ls (lv_sub hl [0, 2, 3, 4, 5, 6] rfl)
      exact L62 (tm ((uR (uR u5 18 f6) 19 f7) 18) ((0 : Int32).toInt + 1).toNat + 1).toNat (0 : Int32) (0 : Int32) (uR (uR u5 18 f6) 19 f7) hc_61 hw_61 hk_61 (by omega) (by rw [lm0]; exact ha61) ⟨hR14.symm, hR15.symm, hR16.symm⟩ (fun _ => tDf.in hcn (by omega) (by show (f6 0).toInt = -1; rw [e_f6]; exact (congrArg Int32.toInt (upd_at (show (0 : Nat) = (0 : Int32).toNatClampNeg from rfl))).trans lm1) (by show (f7 0).toInt = 0; rw [e_f7]; exact (congrArg Int32.toInt (upd_at (show (0 : Nat) = (0 : Int32).toNatClampNeg from rfl))).trans lm0) (by rw [lm0]; rfl) lm0) (by first | exact Int.lt_of_lt_of_le hmU (by omega) | exact Int.lt_of_lt_of_le hmD (by omega) | exact Int.lt_of_lt_of_le hmW (by omega) | exact Int.lt_of_lt_of_le hlt77 (by omega) | omega) _ _ hP hD hS ls hl
    · refine lv_aload_n hx hb dX11_truths_35 rfl (lv_at hl 1 rfl) ?_
      refine lv_bipush (v := 7) hx hb dX11_truths_36 (by decide) ?_
      refine EffI.cv (wr := ([])) (w' := fun u31 => wX11 g a_m u31 J_m) (As := [.int (7 : Int32)]) (kX11_refuse l g a_m u5 J_m (7 : Int32)) fx (gUV (uT _) u_536 u_537 u_538 u_5 u_539) rfl hdX11_refuse ⟨Nat.le_of_ble_eq_true rfl, Nat.le_of_ble_eq_true rfl⟩ hK hP hD hS hA [0, 1, 2, 3, 4, 5, 6, 7, 8, 9, 10, 11, 12, 13, 14, 15, 16, 17, 18, 19, 20, 21, 22] [] [0, 1, 2, 3, 4, 5, 6, 7, 8, 9, 10, 11, 12, 13, 14, 15, 16, 17, 18, 19, 20, 21, 22] rfl rfl rfl rfl (by decide) rfl (fun _ => rfl) rfl rfl rfl rfl hl.1 (Nat.le_of_ble_eq_true rfl) dX11_truths_38 (fun r30 u31 H locs p_r30 hP hD hS => ?_)
      have hP : va_P g.1 vwCl (wX11 g a_m u31 J_m) H := hP
      have hD : va_D A (wX11 g a_m u31 J_m) := hD
      refine hret 41 ls r30 _ _ u31 dX11_truths_41 hS hP hD ?_
      exact ⟨(MI.st (MI.kk (MI.kk hM p_r2.1 (by decide) (by decide)) p_r4.1 (by decide) (by decide)) p_r30.2), (WK.st (WK.kk (WK.kk (WK.rf I_m) p_r2.1 (by decide)) p_r4.1 (by decide)) p_r30.2), (KK.st (KK.tr (KK.tr (KK.rf I_m) p_r2.1 (by decide) (by decide)) p_r4.1 (by decide) (by decide)) p_r30.2 (by decide)), Or.inr ⟨(by have w9 := (p_r1.2.resolve_right (fun q => by have := q.1; omega)).2; rw [lm2] at w9; exact w9), rowP.of hrp27 (ST.row p_r30.2 14 (by decide)) (ST.row p_r30.2 15 (by decide)), cntM.of hC27 rfl (ST.row p_r30.2 14 (by decide)) (ST.row p_r30.2 15 (by decide)) (ST.row p_r30.2 16 (by decide)), Or.inl ⟨(by rw [(ST.row p_r30.2 16 (by decide))]; omega), p_r30.1⟩⟩⟩
  · refine lv_aload_n hx hb dX11_truths_12 rfl (lv_at hl 1 rfl) ?_
    refine lv_iload_n hx hb dX11_truths_13 rfl (lv_at hl 0 rfl) ?_
    refine EffI.cv (wr := ([])) (w' := fun u33 => wX11 g a_m u33 J_m) (As := [.int r1]) (kX11_refuse l g a_m I_m J_m r1) fx (gUV (uT _) u_536 u_537 u_538 u_5 u_539) rfl hdX11_refuse ⟨Nat.le_of_ble_eq_true rfl, Nat.le_of_ble_eq_true rfl⟩ hK hP hD hS hA [0, 1, 2, 3, 4, 5, 6, 7, 8, 9, 10, 11, 12, 13, 14, 15, 16, 17, 18, 19, 20, 21, 22] [] [0, 1, 2, 3, 4, 5, 6, 7, 8, 9, 10, 11, 12, 13, 14, 15, 16, 17, 18, 19, 20, 21, 22] rfl rfl rfl rfl (by decide) rfl (fun _ => rfl) rfl rfl rfl rfl hl.1 (Nat.le_of_ble_eq_true rfl) dX11_truths_14 (fun r32 u33 H locs p_r32 hP hD hS => ?_)
    have hP : va_P g.1 vwCl (wX11 g a_m u33 J_m) H := hP
    have hD : va_D A (wX11 g a_m u33 J_m) := hD
    refine hret 17 ls r32 _ _ u33 dX11_truths_17 hS hP hD ?_
    exact ⟨(MI.st hM p_r32.2), (WK.st (WK.rf I_m) p_r32.2), (KK.st (KK.rf I_m) p_r32.2 (by decide)), Or.inl ⟨(by have w9 := (p_r1.2.resolve_left (fun q => by have := q.1; omega)).2; rw [lm2] at w9; exact w9), p_r32.1⟩⟩

set_option maxHeartbeats 4000000 in
set_option maxRecDepth 100000 in
theorem kX11_failed (l : Launch) (g : gG) (a_m : Nat → Nat) (I_m : Nat → Nat → Int32) (J_m : Nat → Nat → Int64) (tray : Int32) (dots : Int32) (many : Int32) (hM : MI I_m) : EffI l g yX11_failed wsX11_failed 4 [.ref (a_m 0), .int tray, .int dots, .int many] (wX11 g a_m I_m J_m) (fun (u : (Nat → Nat → Int32)) => wX11 g a_m u J_m) (fun r (u : (Nat → Nat → Int32)) => KK [14, 15, 16] [1] I_m (u) ∧ ((¬ (okRow (I_m 3) (J_m 4) tray many 1 ∧ okRow (I_m 3) (J_m 4) dots many 0) ∧ r = -1) ∨ ((okRow (I_m 3) (J_m 4) tray many 1 ∧ okRow (I_m 3) (J_m 4) dots many 0) ∧ r = (u) 16 0 ∧ rowP (J_m 4) tray.toInt dots.toInt ((u) 14) ((u) 15) many.toInt ∧ cntM (I_m 1) ((u) 14) ((u) 15) ((u) 16) many))) := by
  refine EffI.st (cc := cX11_failed) (maxL := 6) (by decide) rfl (Nat.le_of_ble_eq_true rfl) (fun p e s m args below meth c A Q ls fx hK hP hD hA hS hl hret => ?_)
  have hx := fx.1
  have hb := fx.2.1
  have hml := fx.2.2.1
  have hown := fx.2.2.2.1
  have hts := fx.2.2.2.2
  have hl : lv_has ls 6 [(0, .ref (a_m 0)), (1, .int tray), (2, .int dots), (3, .int many)] := hl
  have hP : va_P g.1 vwCl (wX11 g a_m I_m J_m) s.heap := hP
  have hf_20 := hts _ (uT _ _ u_173)
  have hf_23 := hts _ (uT _ _ u_174)
  have hf_65 := hts _ (uT _ _ u_188)
  have hi_X11 : ∀ w ∈ wsX110, w.before args s = true := fun w h => hts w (uT _ w (u_wsX110 w h))
  have lm1 : (-1 : Int32).toInt = -1 := by decide
  have lm0 : (0 : Int32).toInt = 0 := by decide
  have lm2 : (1 : Int32).toInt = 1 := by decide
  have lq2 : (2 : Int32).toInt = 2 := by decide
  have lq3 : (3 : Int32).toInt = 3 := by decide
  have lq5 : (5 : Int32).toInt = 5 := by decide
  have lq1 : (1 : Int32).toInt = 1 := by decide
  have hdz := hM.tm tray.toNatClampNeg
  have hdz2 := hM.tm dots.toNatClampNeg
  have lq60 : (60 : Int32).toInt = 60 := by decide
  refine lv_iload_n hx hb dX11_failed_0 rfl (lv_at hl 2 rfl) ?_
  refine PurI.cs (C := RX11) (As := [.int dots]) (kX11_isTray l g dots) fx (gUS (uT _) u_256 u_257 u_5 u_258) rfl hdX11_isTray ⟨Nat.le_of_ble_eq_true rfl, Nat.le_of_ble_eq_true rfl⟩ hK hP [] rfl rfl rfl hl.1 (Nat.le_of_ble_eq_true rfl) dX11_failed_1 (fun r1 p_r1 => ?_)
  refine q_if_ne (tgt := 13) hx hb dX11_failed_4 (by decide) rfl (fun b_4 k_4 => ?_) (fun b_4 k_4 => ?_)
  · have q_4 := bP.t p_r1 b_4
    refine lv_aload_n hx hb dX11_failed_13 rfl (lv_at hl 0 rfl) ?_
    refine lv_iload_n hx hb dX11_failed_14 rfl (lv_at hl 1 rfl) ?_
    refine lv_iload_n hx hb dX11_failed_15 rfl (lv_at hl 3 rfl) ?_
    refine lv_iconst (v := 1) hx hb dX11_failed_16 (by decide) ?_
    refine PurI.cv (As := [.int tray, .int many, .int (1 : Int32)]) (kX11_wrongRow l g a_m I_m J_m tray many (1 : Int32) hM) fx (gUV (uT _) u_1341 u_1342 u_1343 u_5 u_1344) rfl hdX11_wrongRow ⟨Nat.le_of_ble_eq_true rfl, Nat.le_of_ble_eq_true rfl⟩ hK hP [0, 1, 2, 3, 4, 5, 6, 7, 8, 9, 10, 11, 12, 13, 14, 15, 16, 17, 18, 19, 20, 21, 22] rfl rfl rfl rfl rfl hl.1 (Nat.le_of_ble_eq_true rfl) dX11_failed_17 (fun r2 p_r2 => ?_)
    have hw17 := p_r2.1
    refine lv_istore (lv' := [(4, .int r2), (0, .ref (a_m 0)), (1, .int tray), (2, .int dots), (3, .int many)]) hx hb dX11_failed_20 hl (by decide) rfl (fun ls hl => ?_)
    refine lv_iload hx hb dX11_failed_22 (lv_at hl 0 rfl) ?_
    refine lv_iconst (v := 1) hx hb dX11_failed_24 (by decide) ?_
    refine q_icmp_ne (tgt := 34) hx hb dX11_failed_25 (by decide) rfl (by decide : (1 : Int32).toInt = 1) (fun k_25 => ?_) (fun k_25 => ?_)
    · refine lv_aload_n hx hb dX11_failed_34 rfl (lv_at hl 1 rfl) ?_
      refine va_get (D := g.1) (ci := 11) (v := .ref (a_m 3)) (C := RX11) (T := TX11) (N := 46) hx hb hi_X11 (fun _ h => h) hown hK.1 hP 0 rfl rfl 5 (by decide) hf_20 (fun _ h9 => h9) rfl dX11_failed_35 ?_
      refine lv_iload_n hx hb dX11_failed_38 rfl (lv_at hl 2 rfl) ?_
      have n_39 : vp_in tray 4 := (t_in (by omega))
      refine va_iald hx hb hK.1 hP 3 0 rfl rfl n_39 dX11_failed_39 ?_
      refine q_nm (fun x3 e_x3 => ?_)
      have e_x3 : x3 = (I_m 3) tray.toNatClampNeg := e_x3
      have g_x3 : x3.toInt = ((I_m 3) tray.toNatClampNeg).toInt := congrArg _ e_x3
      refine lv_iconst (v := -1) hx hb dX11_failed_40 (by decide) ?_
      refine q_icmp_eq (tgt := 54) hx hb dX11_failed_41 (by decide) rfl (by decide : (-1 : Int32).toInt = -1) (fun k_41 => ?_) (fun k_41 => ?_)
      · refine lv_aload_n hx hb dX11_failed_54 rfl (lv_at hl 1 rfl) ?_
        refine lv_iconst (v := 2) hx hb dX11_failed_55 (by decide) ?_
        refine EffI.cv (wr := ([])) (w' := fun u5 => wX11 g a_m u5 J_m) (As := [.int (2 : Int32)]) (kX11_refuse l g a_m I_m J_m (2 : Int32)) fx (gUV (uT _) u_536 u_537 u_538 u_5 u_539) rfl hdX11_refuse ⟨Nat.le_of_ble_eq_true rfl, Nat.le_of_ble_eq_true rfl⟩ hK hP hD hS hA [0, 1, 2, 3, 4, 5, 6, 7, 8, 9, 10, 11, 12, 13, 14, 15, 16, 17, 18, 19, 20, 21, 22] [] [0, 1, 2, 3, 4, 5, 6, 7, 8, 9, 10, 11, 12, 13, 14, 15, 16, 17, 18, 19, 20, 21, 22] rfl rfl rfl rfl (by decide) rfl (fun _ => rfl) rfl rfl rfl rfl hl.1 (Nat.le_of_ble_eq_true rfl) dX11_failed_56 (fun r4 u5 H locs p_r4 hP hD hS => ?_)
        have hP : va_P g.1 vwCl (wX11 g a_m u5 J_m) H := hP
        have hD : va_D A (wX11 g a_m u5 J_m) := hD
        refine hret 59 ls r4 _ _ u5 dX11_failed_59 hS hP hD ?_
        exact ⟨(KK.st (KK.rf I_m) p_r4.2 (by decide)), Or.inl ⟨fun q => (by have q1 := q.1.1; have q2 : many.toInt ≤ (I_m 3 tray.toNatClampNeg).toInt := q.1.2.1; have q3 := q.2.1; have q4 : many.toInt ≤ (I_m 3 dots.toNatClampNeg).toInt := q.2.2.1; (rw [← e_x3] at q2; omega)), p_r4.1⟩⟩
      · refine lv_aload_n hx hb dX11_failed_44 rfl (lv_at hl 1 rfl) ?_
        refine va_get (D := g.1) (ci := 11) (v := .ref (a_m 3)) (C := RX11) (T := TX11) (N := 46) hx hb hi_X11 (fun _ h => h) hown hK.1 hP 0 rfl rfl 5 (by decide) hf_20 (fun _ h9 => h9) rfl dX11_failed_45 ?_
        refine lv_iload_n hx hb dX11_failed_48 rfl (lv_at hl 3 rfl) ?_
        have n_49 : vp_in dots 4 := (t_in (by omega))
        refine va_iald hx hb hK.1 hP 3 0 rfl rfl n_49 dX11_failed_49 ?_
        refine q_nm (fun x6 e_x6 => ?_)
        have e_x6 : x6 = (I_m 3) dots.toNatClampNeg := e_x6
        have g_x6 : x6.toInt = ((I_m 3) dots.toNatClampNeg).toInt := congrArg _ e_x6
        refine lv_iconst (v := -1) hx hb dX11_failed_50 (by decide) ?_
        refine q_icmp_ne (tgt := 60) hx hb dX11_failed_51 (by decide) rfl (by decide : (-1 : Int32).toInt = -1) (fun k_51 => ?_) (fun k_51 => ?_)
        · refine lv_aload_n hx hb dX11_failed_60 rfl (lv_at hl 1 rfl) ?_
          refine va_get (D := g.1) (ci := 11) (v := .ref (a_m 3)) (C := RX11) (T := TX11) (N := 46) hx hb hi_X11 (fun _ h => h) hown hK.1 hP 0 rfl rfl 5 (by decide) hf_20 (fun _ h9 => h9) rfl dX11_failed_61 ?_
          refine lv_iload_n hx hb dX11_failed_64 rfl (lv_at hl 2 rfl) ?_
          have n_65 : vp_in tray 4 := (t_in (by omega))
          refine va_iald hx hb hK.1 hP 3 0 rfl rfl n_65 dX11_failed_65 ?_
          refine q_nm (fun x7 e_x7 => ?_)
          have e_x7 : x7 = (I_m 3) tray.toNatClampNeg := e_x7
          have g_x7 : x7.toInt = ((I_m 3) tray.toNatClampNeg).toInt := congrArg _ e_x7
          refine lv_iload_n hx hb dX11_failed_66 rfl (lv_at hl 4 rfl) ?_
          refine q_icmp_lt (tgt := 80) hx hb dX11_failed_67 (by decide) rfl rfl (fun k_67 => ?_) (fun k_67 => ?_)
          · refine lv_aload_n hx hb dX11_failed_80 rfl (lv_at hl 1 rfl) ?_
            refine lv_iconst (v := 3) hx hb dX11_failed_81 (by decide) ?_
            refine EffI.cv (wr := ([])) (w' := fun u9 => wX11 g a_m u9 J_m) (As := [.int (3 : Int32)]) (kX11_refuse l g a_m I_m J_m (3 : Int32)) fx (gUV (uT _) u_536 u_537 u_538 u_5 u_539) rfl hdX11_refuse ⟨Nat.le_of_ble_eq_true rfl, Nat.le_of_ble_eq_true rfl⟩ hK hP hD hS hA [0, 1, 2, 3, 4, 5, 6, 7, 8, 9, 10, 11, 12, 13, 14, 15, 16, 17, 18, 19, 20, 21, 22] [] [0, 1, 2, 3, 4, 5, 6, 7, 8, 9, 10, 11, 12, 13, 14, 15, 16, 17, 18, 19, 20, 21, 22] rfl rfl rfl rfl (by decide) rfl (fun _ => rfl) rfl rfl rfl rfl hl.1 (Nat.le_of_ble_eq_true rfl) dX11_failed_82 (fun r8 u9 H locs p_r8 hP hD hS => ?_)
            have hP : va_P g.1 vwCl (wX11 g a_m u9 J_m) H := hP
            have hD : va_D A (wX11 g a_m u9 J_m) := hD
            refine hret 85 ls r8 _ _ u9 dX11_failed_85 hS hP hD ?_
            exact ⟨(KK.st (KK.rf I_m) p_r8.2 (by decide)), Or.inl ⟨fun q => (by have q1 := q.1.1; have q2 : many.toInt ≤ (I_m 3 tray.toNatClampNeg).toInt := q.1.2.1; have q3 := q.2.1; have q4 : many.toInt ≤ (I_m 3 dots.toNatClampNeg).toInt := q.2.2.1; (rw [← e_x7] at q2; omega)), p_r8.1⟩⟩
          · refine lv_aload_n hx hb dX11_failed_70 rfl (lv_at hl 1 rfl) ?_
            refine va_get (D := g.1) (ci := 11) (v := .ref (a_m 3)) (C := RX11) (T := TX11) (N := 46) hx hb hi_X11 (fun _ h => h) hown hK.1 hP 0 rfl rfl 5 (by decide) hf_20 (fun _ h9 => h9) rfl dX11_failed_71 ?_
            refine lv_iload_n hx hb dX11_failed_74 rfl (lv_at hl 3 rfl) ?_
            have n_75 : vp_in dots 4 := (t_in (by omega))
            refine va_iald hx hb hK.1 hP 3 0 rfl rfl n_75 dX11_failed_75 ?_
            refine q_nm (fun x10 e_x10 => ?_)
            have e_x10 : x10 = (I_m 3) dots.toNatClampNeg := e_x10
            have g_x10 : x10.toInt = ((I_m 3) dots.toNatClampNeg).toInt := congrArg _ e_x10
            refine lv_iload_n hx hb dX11_failed_76 rfl (lv_at hl 4 rfl) ?_
            refine q_icmp_ge (tgt := 86) hx hb dX11_failed_77 (by decide) rfl rfl (fun k_77 => ?_) (fun k_77 => ?_)
            · refine lv_iload hx hb dX11_failed_86 (lv_at hl 0 rfl) ?_
              refine q_if_gt (tgt := 101) hx hb dX11_failed_88 (by decide) rfl (fun k_88 => ?_) (fun k_88 => ?_)
              · refine lv_aload_n hx hb dX11_failed_101 rfl (lv_at hl 1 rfl) ?_
                refine lv_iconst (v := 5) hx hb dX11_failed_102 (by decide) ?_
                refine EffI.cv (wr := ([])) (w' := fun u12 => wX11 g a_m u12 J_m) (As := [.int (5 : Int32)]) (kX11_refuse l g a_m I_m J_m (5 : Int32)) fx (gUV (uT _) u_536 u_537 u_538 u_5 u_539) rfl hdX11_refuse ⟨Nat.le_of_ble_eq_true rfl, Nat.le_of_ble_eq_true rfl⟩ hK hP hD hS hA [0, 1, 2, 3, 4, 5, 6, 7, 8, 9, 10, 11, 12, 13, 14, 15, 16, 17, 18, 19, 20, 21, 22] [] [0, 1, 2, 3, 4, 5, 6, 7, 8, 9, 10, 11, 12, 13, 14, 15, 16, 17, 18, 19, 20, 21, 22] rfl rfl rfl rfl (by decide) rfl (fun _ => rfl) rfl rfl rfl rfl hl.1 (Nat.le_of_ble_eq_true rfl) dX11_failed_103 (fun r11 u12 H locs p_r11 hP hD hS => ?_)
                have hP : va_P g.1 vwCl (wX11 g a_m u12 J_m) H := hP
                have hD : va_D A (wX11 g a_m u12 J_m) := hD
                refine hret 106 ls r11 _ _ u12 dX11_failed_106 hS hP hD ?_
                exact ⟨(KK.st (KK.rf I_m) p_r11.2 (by decide)), Or.inl ⟨fun q => (by (have w9 := (p_r2.2.resolve_left (fun q => by have := q.1; omega)).2; rw [lm2] at w9; exact w9 q.1)), p_r11.1⟩⟩
              · refine lv_aload_n hx hb dX11_failed_91 rfl (lv_at hl 1 rfl) ?_
                refine lv_iload_n hx hb dX11_failed_92 rfl (lv_at hl 3 rfl) ?_
                refine lv_iload_n hx hb dX11_failed_93 rfl (lv_at hl 4 rfl) ?_
                refine lv_iconst (v := 0) hx hb dX11_failed_94 (by decide) ?_
                refine PurI.cv (As := [.int dots, .int many, .int (0 : Int32)]) (kX11_wrongRow l g a_m I_m J_m dots many (0 : Int32) hM) fx (gUV (uT _) u_1341 u_1342 u_1343 u_5 u_1344) rfl hdX11_wrongRow ⟨Nat.le_of_ble_eq_true rfl, Nat.le_of_ble_eq_true rfl⟩ hK hP [0, 1, 2, 3, 4, 5, 6, 7, 8, 9, 10, 11, 12, 13, 14, 15, 16, 17, 18, 19, 20, 21, 22] rfl rfl rfl rfl rfl hl.1 (Nat.le_of_ble_eq_true rfl) dX11_failed_95 (fun r13 p_r13 => ?_)
                have hw95 := p_r13.1
                refine q_if_le (tgt := 107) hx hb dX11_failed_98 (by decide) rfl (fun k_98 => ?_) (fun k_98 => ?_)
                · refine lv_aload_n hx hb dX11_failed_107 rfl (lv_at hl 1 rfl) ?_
                  refine lv_iload_n hx hb dX11_failed_108 rfl (lv_at hl 2 rfl) ?_
                  refine lv_iload_n hx hb dX11_failed_109 rfl (lv_at hl 4 rfl) ?_
                  refine EffV.cv (wr := ([])) (w' := fun u15 => wX11 g a_m u15 J_m) (As := [.int tray, .int many]) (kX11_laysRow l g a_m I_m J_m tray many hM (by omega) (by omega)) fx (gUV (uT _) u_1345 u_1346 u_1347 u_5 u_1348) rfl hdX11_laysRow ⟨Nat.le_of_ble_eq_true rfl, Nat.le_of_ble_eq_true rfl⟩ hK hP hD hS hA [0, 1, 2, 3, 4, 5, 6, 7, 8, 9, 10, 11, 12, 13, 14, 15, 16, 17, 18, 19, 20, 21, 22] [] [0, 1, 2, 3, 4, 5, 6, 7, 8, 9, 10, 11, 12, 13, 14, 15, 16, 17, 18, 19, 20, 21, 22] rfl rfl rfl rfl (by decide) rfl (fun _ => rfl) rfl rfl rfl rfl hl.1 (Nat.le_of_ble_eq_true rfl) dX11_failed_110 (fun u15 H locs p_r14 hP hD hS => ?_)
                  have hP : va_P g.1 vwCl (wX11 g a_m u15 J_m) H := hP
                  have hD : va_D A (wX11 g a_m u15 J_m) := hD
                  refine lv_iconst (v := 0) hx hb dX11_failed_113 (by decide) ?_
                  refine lv_istore (lv' := [(5, .int (0 : Int32)), (4, .int r2), (0, .ref (a_m 0)), (1, .int tray), (2, .int dots), (3, .int many)]) hx hb dX11_failed_114 hl (by decide) rfl (fun ls hl => ?_)
                  have L116 : ∀ (nn : Nat) (v5_116 : Int32) (I_m_116 : Nat → Nat → Int32), (hM_116 : MI I_m_116) → (hk_116 : KK [14, 15, 16] [1] I_m I_m_116) → (hv_116 : 0 ≤ v5_116.toInt ∧ v5_116.toInt ≤ 20) → (hla_116 : ∀ k : Nat, (k : Int) < many.toInt → I_m_116 14 k = (J_m 4 (tray.toInt * 60 + (k : Int)).toNat).toInt32) → (hlb_116 : ∀ k : Nat, (k : Int) < v5_116.toInt → I_m_116 15 k = (J_m 4 (dots.toInt * 60 + (k : Int)).toNat).toInt32) → (hr1_116 : I_m_116 1 = I_m 1) → ((21 - v5_116.toInt) < (nn : Int)) → ∀ (H : Heap) (locs : List Loc), va_P g.1 vwCl (wX11 g a_m I_m_116 J_m) H → va_D A (wX11 g a_m I_m_116 J_m) → va_S A s.heap H locs → ∀ ls : Array Slot, lv_has ls 6 [(5, .int v5_116), (4, .int r2), (0, .ref (a_m 0)), (1, .int tray), (2, .int dots), (3, .int many)] → W p l e (rm 4) s m args below meth c H locs 0 0 Q (F0 m 116 ls []) := by
                    intro n_116
                    induction n_116 with
                    | zero =>
                      intro v5_116 I_m_116 hM_116 hk_116 hv_116 hla_116 hlb_116 hr1_116 hms_116 H locs hP hD hS ls hl
                      exfalso; omega
                    | succ n_116 ih_116 =>
                      intro v5_116 I_m_116 hM_116 hk_116 hv_116 hla_116 hlb_116 hr1_116 hms_116 H locs hP hD hS ls hl
                      refine lv_iload hx hb dX11_failed_116 (lv_at hl 0 rfl) ?_
                      refine lv_iload_n hx hb dX11_failed_118 rfl (lv_at hl 5 rfl) ?_
                      refine q_icmp_ge (tgt := 148) hx hb dX11_failed_119 (by decide) rfl rfl (fun k_119 => ?_) (fun k_119 => ?_)
                      · refine lv_aload_n hx hb dX11_failed_148 rfl (lv_at hl 2 rfl) ?_
                        refine lv_aload_n hx hb dX11_failed_149 rfl (lv_at hl 2 rfl) ?_
                        refine lv_iload_n hx hb dX11_failed_150 rfl (lv_at hl 5 rfl) ?_
                        refine EffI.cv (wr := ([])) (w' := fun u17 => wX11 g a_m u17 J_m) (As := [.int many]) (kX11_countsWays l g a_m I_m_116 J_m many hM_116 (by omega)) fx (gUV (uT _) u_1349 u_1350 u_1351 u_5 u_1352) rfl hdX11_countsWays ⟨Nat.le_of_ble_eq_true rfl, Nat.le_of_ble_eq_true rfl⟩ hK hP hD hS hA [0, 1, 2, 3, 4, 5, 6, 7, 8, 9, 10, 11, 12, 13, 14, 15, 16, 17, 18, 19, 20, 21, 22] [] [0, 1, 2, 3, 4, 5, 6, 7, 8, 9, 10, 11, 12, 13, 14, 15, 16, 17, 18, 19, 20, 21, 22] rfl rfl rfl rfl (by decide) rfl (fun _ => rfl) rfl rfl rfl rfl hl.1 (Nat.le_of_ble_eq_true rfl) dX11_failed_151 (fun r16 u17 H locs p_r16 hP hD hS => ?_)
                        have hP : va_P g.1 vwCl (wX11 g a_m u17 J_m) H := hP
                        have hD : va_D A (wX11 g a_m u17 J_m) := hD
                        refine EffI.cv (wr := ([])) (w' := fun u19 => wX11 g a_m u19 J_m) (As := [.int r16]) (kX11_gives l g a_m u17 J_m r16) fx (gUV (uT _) u_585 u_586 u_587 u_5 u_588) rfl hdX11_gives ⟨Nat.le_of_ble_eq_true rfl, Nat.le_of_ble_eq_true rfl⟩ hK hP hD hS hA [0, 1, 2, 3, 4, 5, 6, 7, 8, 9, 10, 11, 12, 13, 14, 15, 16, 17, 18, 19, 20, 21, 22] [] [0, 1, 2, 3, 4, 5, 6, 7, 8, 9, 10, 11, 12, 13, 14, 15, 16, 17, 18, 19, 20, 21, 22] rfl rfl rfl rfl (by decide) rfl (fun _ => rfl) rfl rfl rfl rfl hl.1 (Nat.le_of_ble_eq_true rfl) dX11_failed_154 (fun r18 u19 H locs p_r18 hP hD hS => ?_)
                        have hP : va_P g.1 vwCl (wX11 g a_m u19 J_m) H := hP
                        have hD : va_D A (wX11 g a_m u19 J_m) := hD
                        refine hret 157 ls r18 _ _ u19 dX11_failed_157 hS hP hD ?_
                        exact ⟨(KK.st (KK.tr hk_116 p_r16.1 (by decide) (by decide)) p_r18.2 (by decide)), Or.inr ⟨⟨(by have w9 := (p_r2.2.resolve_right (fun q => by have := q.1; omega)).2; rw [lm2] at w9; exact w9), (by have w9 := (p_r13.2.resolve_right (fun q => by have := q.1; omega)).2; rw [lm0] at w9; exact w9)⟩, p_r18.1.trans (p_r16.2.1.trans (congrFun (ST.row p_r18.2 16 (by decide)) 0).symm), (fun k hk => ⟨by rw [(ST.row p_r18.2 14 (by decide)), p_r16.1.row 14 (by decide)]; exact hla_116 k hk, by rw [if_neg (by omega), (ST.row p_r18.2 15 (by decide)), p_r16.1.row 15 (by decide)]; exact hlb_116 k (by omega)⟩), cntM.of p_r16.2.2.2 hr1_116.symm ((ST.row p_r18.2 14 (by decide)).trans (p_r16.1.row 14 (by decide))) ((ST.row p_r18.2 15 (by decide)).trans (p_r16.1.row 15 (by decide))) (ST.row p_r18.2 16 (by decide))⟩⟩
                      · refine lv_aload_n hx hb dX11_failed_122 rfl (lv_at hl 2 rfl) ?_
                        refine va_get (D := g.1) (ci := 11) (v := .ref (a_m 15)) (C := RX11) (T := TX11) (N := 46) hx hb hi_X11 (fun _ h => h) hown hK.1 hP 0 rfl rfl 33 (by decide) hf_65 (fun _ h9 => h9) rfl dX11_failed_123 ?_
                        refine lv_iload hx hb dX11_failed_126 (lv_at hl 0 rfl) ?_
                        refine lv_aload_n hx hb dX11_failed_128 rfl (lv_at hl 2 rfl) ?_
                        refine va_get (D := g.1) (ci := 11) (v := .ref (a_m 4)) (C := RX11) (T := TX11) (N := 46) hx hb hi_X11 (fun _ h => h) hown hK.1 hP 0 rfl rfl 6 (by decide) hf_23 (fun _ h9 => h9) rfl dX11_failed_129 ?_
                        refine lv_bipush (v := 60) hx hb dX11_failed_132 (by decide) ?_
                        refine lv_iload_n hx hb dX11_failed_134 rfl (lv_at hl 4 rfl) ?_
                        refine r_imul hx hb dX11_failed_135 (by decide : (60 : Int32).toInt = 60) rfl (fun x20 e_x20 t_x20 => ?_)
                        try have t_x20 := t_x20 (by omega)
                        refine lv_iload hx hb dX11_failed_136 (lv_at hl 0 rfl) ?_
                        refine r_iadd hx hb dX11_failed_138 rfl rfl (fun x21 e_x21 t_x21 => ?_)
                        try have t_x21 := t_x21 (by omega)
                        have n_139 : vp_in x21 240 := (t_in (by omega))
                        refine va_lald hx hb hK.1 hP 4 1 rfl rfl n_139 dX11_failed_139 ?_
                        refine q_nml (fun w22 e_w22 => ?_)
                        have e_w22 : w22 = (J_m 4) x21.toNatClampNeg := e_w22
                        refine lv_l2i hx hb dX11_failed_140 rfl ?_
                        refine q_nm (fun x23 e_x23 => ?_)
                        have n_141 : vp_in v5_116 20 := (t_in (by omega))
                        obtain ⟨f24, e_f24⟩ : ∃ z, z = upd (I_m_116 15) v5_116.toNatClampNeg x23 := ⟨_, rfl⟩
                        refine va_iast hx hb hK.1 hP hD hS 15 0 rfl rfl n_141 dX11_failed_141 (fun H locs hP hD hS => ?_)
                        have hP : va_P g.1 vwCl (wX11 g a_m (uR I_m_116 15 f24) J_m) H := by rw [e_f24]; exact hP
                        have hD : va_D A (wX11 g a_m (uR I_m_116 15 f24) J_m) := by rw [e_f24]; exact hD
                        have hc_141 : MI (uR I_m_116 15 f24) := MI.ur hM_116 (by decide)
                        have hk_141 : KK [14, 15, 16] [1] I_m (uR I_m_116 15 f24) := KK.ur hk_116 (by decide) (by decide)
                        refine r_iinc (lv' := fun i25 => [(5, .int i25), (4, .int r2), (0, .ref (a_m 0)), (1, .int tray), (2, .int dots), (3, .int many)]) hx hb dX11_failed_142 hl (k := 0) rfl (by decide) rfl (by decide) (fun _ => rfl) (fun i25 e_i25 t_i25 ls hl => ?_)
                        try have t_i25 := t_i25 (by omega)
                        refine lv_goto (tgt := 116) hx hb dX11_failed_145 (by decide) ?_
                        exact ih_116 i25 (uR I_m_116 15 f24) hc_141 hk_141 (by omega) hla_116 (fun k hk => by show f24 k = _; rw [e_f24]; have ic := t_cl (i := v5_116) rfl (by omega); by_cases w : k = v5_116.toNatClampNeg; (rw [upd_at w, e_x23, e_w22, show (x21).toNatClampNeg = (dots.toInt * 60 + (k : Int)).toNat from (by show (x21).toInt.toNat = _; omega)]); (rw [pk_un w]; exact hlb_116 k (by omega))) hr1_116 (by omega) _ _ hP hD hS ls hl
                  exact L116 ((21 - (0 : Int32).toInt) + 1).toNat (0 : Int32) u15 (MI.kk hM p_r14.1 (by decide) (by decide)) (KK.tr (KK.rf I_m) p_r14.1 (by decide) (by decide)) (by omega) (fun k hk => (p_r14.2 k hk).1) (fun k q => by rw [lm0] at q; exfalso; omega) (p_r14.1.row 1 (by decide)) (by omega) _ _ hP hD hS ls hl
                · refine lv_aload_n hx hb dX11_failed_101 rfl (lv_at hl 1 rfl) ?_
                  refine lv_iconst (v := 5) hx hb dX11_failed_102 (by decide) ?_
                  refine EffI.cv (wr := ([])) (w' := fun u27 => wX11 g a_m u27 J_m) (As := [.int (5 : Int32)]) (kX11_refuse l g a_m I_m J_m (5 : Int32)) fx (gUV (uT _) u_536 u_537 u_538 u_5 u_539) rfl hdX11_refuse ⟨Nat.le_of_ble_eq_true rfl, Nat.le_of_ble_eq_true rfl⟩ hK hP hD hS hA [0, 1, 2, 3, 4, 5, 6, 7, 8, 9, 10, 11, 12, 13, 14, 15, 16, 17, 18, 19, 20, 21, 22] [] [0, 1, 2, 3, 4, 5, 6, 7, 8, 9, 10, 11, 12, 13, 14, 15, 16, 17, 18, 19, 20, 21, 22] rfl rfl rfl rfl (by decide) rfl (fun _ => rfl) rfl rfl rfl rfl hl.1 (Nat.le_of_ble_eq_true rfl) dX11_failed_103 (fun r26 u27 H locs p_r26 hP hD hS => ?_)
                  have hP : va_P g.1 vwCl (wX11 g a_m u27 J_m) H := hP
                  have hD : va_D A (wX11 g a_m u27 J_m) := hD
                  refine hret 106 ls r26 _ _ u27 dX11_failed_106 hS hP hD ?_
                  exact ⟨(KK.st (KK.rf I_m) p_r26.2 (by decide)), Or.inl ⟨fun q => (by first | (have w9 := (p_r2.2.resolve_left (fun q => by have := q.1; omega)).2; rw [lm2] at w9; exact w9 q.1) | (have w9 := (p_r13.2.resolve_left (fun q => by have := q.1; omega)).2; rw [lm0] at w9; exact w9 q.2)), p_r26.1⟩⟩
            · refine lv_aload_n hx hb dX11_failed_80 rfl (lv_at hl 1 rfl) ?_
              refine lv_iconst (v := 3) hx hb dX11_failed_81 (by decide) ?_
              refine EffI.cv (wr := ([])) (w' := fun u29 => wX11 g a_m u29 J_m) (As := [.int (3 : Int32)]) (kX11_refuse l g a_m I_m J_m (3 : Int32)) fx (gUV (uT _) u_536 u_537 u_538 u_5 u_539) rfl hdX11_refuse ⟨Nat.le_of_ble_eq_true rfl, Nat.le_of_ble_eq_true rfl⟩ hK hP hD hS hA [0, 1, 2, 3, 4, 5, 6, 7, 8, 9, 10, 11, 12, 13, 14, 15, 16, 17, 18, 19, 20, 21, 22] [] [0, 1, 2, 3, 4, 5, 6, 7, 8, 9, 10, 11, 12, 13, 14, 15, 16, 17, 18, 19, 20, 21, 22] rfl rfl rfl rfl (by decide) rfl (fun _ => rfl) rfl rfl rfl rfl hl.1 (Nat.le_of_ble_eq_true rfl) dX11_failed_82 (fun r28 u29 H locs p_r28 hP hD hS => ?_)
              have hP : va_P g.1 vwCl (wX11 g a_m u29 J_m) H := hP
              have hD : va_D A (wX11 g a_m u29 J_m) := hD
              refine hret 85 ls r28 _ _ u29 dX11_failed_85 hS hP hD ?_
              exact ⟨(KK.st (KK.rf I_m) p_r28.2 (by decide)), Or.inl ⟨fun q => (by have q1 := q.1.1; have q2 : many.toInt ≤ (I_m 3 tray.toNatClampNeg).toInt := q.1.2.1; have q3 := q.2.1; have q4 : many.toInt ≤ (I_m 3 dots.toNatClampNeg).toInt := q.2.2.1; first | (rw [← e_x7] at q2; omega) | (rw [← e_x10] at q4; omega)), p_r28.1⟩⟩
        · refine lv_aload_n hx hb dX11_failed_54 rfl (lv_at hl 1 rfl) ?_
          refine lv_iconst (v := 2) hx hb dX11_failed_55 (by decide) ?_
          refine EffI.cv (wr := ([])) (w' := fun u31 => wX11 g a_m u31 J_m) (As := [.int (2 : Int32)]) (kX11_refuse l g a_m I_m J_m (2 : Int32)) fx (gUV (uT _) u_536 u_537 u_538 u_5 u_539) rfl hdX11_refuse ⟨Nat.le_of_ble_eq_true rfl, Nat.le_of_ble_eq_true rfl⟩ hK hP hD hS hA [0, 1, 2, 3, 4, 5, 6, 7, 8, 9, 10, 11, 12, 13, 14, 15, 16, 17, 18, 19, 20, 21, 22] [] [0, 1, 2, 3, 4, 5, 6, 7, 8, 9, 10, 11, 12, 13, 14, 15, 16, 17, 18, 19, 20, 21, 22] rfl rfl rfl rfl (by decide) rfl (fun _ => rfl) rfl rfl rfl rfl hl.1 (Nat.le_of_ble_eq_true rfl) dX11_failed_56 (fun r30 u31 H locs p_r30 hP hD hS => ?_)
          have hP : va_P g.1 vwCl (wX11 g a_m u31 J_m) H := hP
          have hD : va_D A (wX11 g a_m u31 J_m) := hD
          refine hret 59 ls r30 _ _ u31 dX11_failed_59 hS hP hD ?_
          exact ⟨(KK.st (KK.rf I_m) p_r30.2 (by decide)), Or.inl ⟨fun q => (by have q1 := q.1.1; have q2 : many.toInt ≤ (I_m 3 tray.toNatClampNeg).toInt := q.1.2.1; have q3 := q.2.1; have q4 : many.toInt ≤ (I_m 3 dots.toNatClampNeg).toInt := q.2.2.1; first | (rw [← e_x3] at q2; omega) | (rw [← e_x6] at q4; omega)), p_r30.1⟩⟩
    · refine lv_aload_n hx hb dX11_failed_28 rfl (lv_at hl 1 rfl) ?_
      refine lv_iconst (v := 1) hx hb dX11_failed_29 (by decide) ?_
      refine EffI.cv (wr := ([])) (w' := fun u33 => wX11 g a_m u33 J_m) (As := [.int (1 : Int32)]) (kX11_refuse l g a_m I_m J_m (1 : Int32)) fx (gUV (uT _) u_536 u_537 u_538 u_5 u_539) rfl hdX11_refuse ⟨Nat.le_of_ble_eq_true rfl, Nat.le_of_ble_eq_true rfl⟩ hK hP hD hS hA [0, 1, 2, 3, 4, 5, 6, 7, 8, 9, 10, 11, 12, 13, 14, 15, 16, 17, 18, 19, 20, 21, 22] [] [0, 1, 2, 3, 4, 5, 6, 7, 8, 9, 10, 11, 12, 13, 14, 15, 16, 17, 18, 19, 20, 21, 22] rfl rfl rfl rfl (by decide) rfl (fun _ => rfl) rfl rfl rfl rfl hl.1 (Nat.le_of_ble_eq_true rfl) dX11_failed_30 (fun r32 u33 H locs p_r32 hP hD hS => ?_)
      have hP : va_P g.1 vwCl (wX11 g a_m u33 J_m) H := hP
      have hD : va_D A (wX11 g a_m u33 J_m) := hD
      refine hret 33 ls r32 _ _ u33 dX11_failed_33 hS hP hD ?_
      exact ⟨(KK.st (KK.rf I_m) p_r32.2 (by decide)), Or.inl ⟨fun q => by have w9 := (p_r2.2.resolve_left (fun q => by have := q.1; omega)).2; rw [lm2] at w9; exact w9 q.1, p_r32.1⟩⟩
  · have q_4 := bP.f p_r1 b_4
    refine lv_aload_n hx hb dX11_failed_7 rfl (lv_at hl 0 rfl) ?_
    refine lv_iconst (v := 1) hx hb dX11_failed_8 (by decide) ?_
    refine EffI.cv (wr := ([])) (w' := fun u35 => wX11 g a_m u35 J_m) (As := [.int (1 : Int32)]) (kX11_refuse l g a_m I_m J_m (1 : Int32)) fx (gUV (uT _) u_536 u_537 u_538 u_5 u_539) rfl hdX11_refuse ⟨Nat.le_of_ble_eq_true rfl, Nat.le_of_ble_eq_true rfl⟩ hK hP hD hS hA [0, 1, 2, 3, 4, 5, 6, 7, 8, 9, 10, 11, 12, 13, 14, 15, 16, 17, 18, 19, 20, 21, 22] [] [0, 1, 2, 3, 4, 5, 6, 7, 8, 9, 10, 11, 12, 13, 14, 15, 16, 17, 18, 19, 20, 21, 22] rfl rfl rfl rfl (by decide) rfl (fun _ => rfl) rfl rfl rfl rfl hl.1 (Nat.le_of_ble_eq_true rfl) dX11_failed_9 (fun r34 u35 H locs p_r34 hP hD hS => ?_)
    have hP : va_P g.1 vwCl (wX11 g a_m u35 J_m) H := hP
    have hD : va_D A (wX11 g a_m u35 J_m) := hD
    refine hret 12 ls r34 _ _ u35 dX11_failed_12 hS hP hD ?_
    exact ⟨(KK.st (KK.rf I_m) p_r34.2 (by decide)), Or.inl ⟨fun q => by have q3 := q.2.1; omega, p_r34.1⟩⟩

set_option maxHeartbeats 4000000 in
set_option maxRecDepth 100000 in
theorem kX11_mirror (l : Launch) (g : gG) (a_m : Nat → Nat) (I_m : Nat → Nat → Int32) (J_m : Nat → Nat → Int64) (cell : Int32) (hM : MI I_m) : EffI l g yX11_mirror wsX11_mirror 1 [.ref (a_m 0), .int cell] (wX11 g a_m I_m J_m) (fun (u : (Nat → Nat → Int32)) => wX11 g a_m u J_m) (fun r (u : (Nat → Nat → Int32)) => KK [] [1] I_m (u)) := by
  refine EffI.st (cc := cX11_mirror) (maxL := 2) (by decide) rfl (Nat.le_of_ble_eq_true rfl) (fun p e s m args below meth c A Q ls fx hK hP hD hA hS hl hret => ?_)
  have hx := fx.1
  have hb := fx.2.1
  have hml := fx.2.2.1
  have hown := fx.2.2.2.1
  have hts := fx.2.2.2.2
  have hl : lv_has ls 2 [(0, .ref (a_m 0)), (1, .int cell)] := hl
  have hP : va_P g.1 vwCl (wX11 g a_m I_m J_m) s.heap := hP
  have lm1 : (-1 : Int32).toInt = -1 := by decide
  have lm0 : (0 : Int32).toInt = 0 := by decide
  have lm2 : (1 : Int32).toInt = 1 := by decide
  have lq1 : (1 : Int32).toInt = 1 := by decide
  refine lv_iload_n hx hb dX11_mirror_0 rfl (lv_at hl 1 rfl) ?_
  refine lv_i2l hx hb dX11_mirror_1 rfl ?_
  refine q_nml (fun w1 e_w1 => ?_)
  refine lv_lconst (v := 0) hx hb dX11_mirror_2 (by decide) ?_
  refine lv_ldc2 hx hb hown (hts _ (uT _ _ u_1249)) dX11_mirror_3 ?_
  refine PurI.cs (C := RX11) (As := [.long w1, .long (0 : Int64), .long (63 : Int64)]) (kX11_isFrom l g w1 (0 : Int64) (63 : Int64)) fx (gUS (uT _) u_1132 u_1133 u_5 u_1134) rfl hdX11_isFrom ⟨Nat.le_of_ble_eq_true rfl, Nat.le_of_ble_eq_true rfl⟩ hK hP [] rfl rfl rfl hl.1 (Nat.le_of_ble_eq_true rfl) dX11_mirror_6 (fun r2 p_r2 => ?_)
  refine q_if_eq (tgt := 23) hx hb dX11_mirror_9 (by decide) rfl (fun b_9 k_9 => ?_) (fun b_9 k_9 => ?_)
  · have q_9 := bP.f p_r2 b_9
    refine lv_aload_n hx hb dX11_mirror_23 rfl (lv_at hl 0 rfl) ?_
    refine lv_iconst (v := 1) hx hb dX11_mirror_24 (by decide) ?_
    refine EffI.cv (wr := ([])) (w' := fun u4 => wX11 g a_m u4 J_m) (As := [.int (1 : Int32)]) (kX11_refuse l g a_m I_m J_m (1 : Int32)) fx (gUV (uT _) u_536 u_537 u_538 u_5 u_539) rfl hdX11_refuse ⟨Nat.le_of_ble_eq_true rfl, Nat.le_of_ble_eq_true rfl⟩ hK hP hD hS hA [0, 1, 2, 3, 4, 5, 6, 7, 8, 9, 10, 11, 12, 13, 14, 15, 16, 17, 18, 19, 20, 21, 22] [] [0, 1, 2, 3, 4, 5, 6, 7, 8, 9, 10, 11, 12, 13, 14, 15, 16, 17, 18, 19, 20, 21, 22] rfl rfl rfl rfl (by decide) rfl (fun _ => rfl) rfl rfl rfl rfl hl.1 (Nat.le_of_ble_eq_true rfl) dX11_mirror_25 (fun r3 u4 H locs p_r3 hP hD hS => ?_)
    have hP : va_P g.1 vwCl (wX11 g a_m u4 J_m) H := hP
    have hD : va_D A (wX11 g a_m u4 J_m) := hD
    refine hret 28 ls r3 _ _ u4 dX11_mirror_28 hS hP hD ?_
    exact (KK.st (KK.rf I_m) p_r3.2 (by decide))
  · have q_9 := bP.t p_r2 b_9
    refine lv_aload_n hx hb dX11_mirror_12 rfl (lv_at hl 0 rfl) ?_
    refine lv_iload_n hx hb dX11_mirror_13 rfl (lv_at hl 1 rfl) ?_
    refine PurI.cs (C := RX11) (As := [.int cell]) (kX11_mirrorOf l g cell) fx (gUS (uT _) u_1456 u_1457 u_5 u_1458) rfl hdX11_mirrorOf ⟨Nat.le_of_ble_eq_true rfl, Nat.le_of_ble_eq_true rfl⟩ hK hP [] rfl rfl rfl hl.1 (Nat.le_of_ble_eq_true rfl) dX11_mirror_14 (fun r5 p_r5 => ?_)
    refine EffI.cv (wr := ([])) (w' := fun u7 => wX11 g a_m u7 J_m) (As := [.int r5]) (kX11_gives l g a_m I_m J_m r5) fx (gUV (uT _) u_585 u_586 u_587 u_5 u_588) rfl hdX11_gives ⟨Nat.le_of_ble_eq_true rfl, Nat.le_of_ble_eq_true rfl⟩ hK hP hD hS hA [0, 1, 2, 3, 4, 5, 6, 7, 8, 9, 10, 11, 12, 13, 14, 15, 16, 17, 18, 19, 20, 21, 22] [] [0, 1, 2, 3, 4, 5, 6, 7, 8, 9, 10, 11, 12, 13, 14, 15, 16, 17, 18, 19, 20, 21, 22] rfl rfl rfl rfl (by decide) rfl (fun _ => rfl) rfl rfl rfl rfl hl.1 (Nat.le_of_ble_eq_true rfl) dX11_mirror_17 (fun r6 u7 H locs p_r6 hP hD hS => ?_)
    have hP : va_P g.1 vwCl (wX11 g a_m u7 J_m) H := hP
    have hD : va_D A (wX11 g a_m u7 J_m) := hD
    refine lv_goto (tgt := 28) hx hb dX11_mirror_20 (by decide) ?_
    refine hret 28 ls r6 _ _ u7 dX11_mirror_28 hS hP hD ?_
    exact (KK.st (KK.rf I_m) p_r6.2 (by decide))

set_option maxHeartbeats 4000000 in
set_option maxRecDepth 100000 in
theorem kX11_isMirror (l : Launch) (g : gG) (a_m : Nat → Nat) (I_m : Nat → Nat → Int32) (J_m : Nat → Nat → Int64) (ra : Int32) (rb : Int32) (hM : MI I_m) (h_ra : 0 ≤ ra.toInt ∧ ra.toInt < 24) (h_rb : 0 ≤ rb.toInt ∧ rb.toInt < 24) : PurI l g yX11_isMirror wsX11_isMirror 2 [.ref (a_m 0), .int ra, .int rb] (wX11 g a_m I_m J_m) (fun r => bP (tbMir (mC (I_m 1)) (mL (I_m 1)) ra.toInt.toNat rb.toInt.toNat) (¬ tbMir (mC (I_m 1)) (mL (I_m 1)) ra.toInt.toNat rb.toInt.toNat) r) := by
  refine PurI.sz (cc := cX11_isMirror) (maxL := 4) (by decide) rfl (Nat.le_of_ble_eq_true rfl) (fun p e s m args below meth c Q ls fx hK hP hl hret => ?_)
  have hx := fx.1
  have hb := fx.2.1
  have hml := fx.2.2.1
  have hown := fx.2.2.2.1
  have hts := fx.2.2.2.2
  have hl : lv_has ls 4 [(0, .ref (a_m 0)), (1, .int ra), (2, .int rb)] := hl
  have hP : va_P g.1 vwCl (wX11 g a_m I_m J_m) s.heap := hP
  have lm1 : (-1 : Int32).toInt = -1 := by decide
  have lm0 : (0 : Int32).toInt = 0 := by decide
  have lm2 : (1 : Int32).toInt = 1 := by decide
  have lq1 : (1 : Int32).toInt = 1 := by decide
  refine lv_aload_n hx hb dX11_isMirror_0 rfl (lv_at hl 0 rfl) ?_
  refine lv_iload_n hx hb dX11_isMirror_1 rfl (lv_at hl 1 rfl) ?_
  refine PurI.cv (As := [.int ra]) (kX11_cellsOf l g a_m I_m J_m ra hM (by omega)) fx (gUV (uT _) u_826 u_827 u_828 u_5 u_829) rfl hdX11_cellsOf ⟨Nat.le_of_ble_eq_true rfl, Nat.le_of_ble_eq_true rfl⟩ hK hP [0, 1, 2, 3, 4, 5, 6, 7, 8, 9, 10, 11, 12, 13, 14, 15, 16, 17, 18, 19, 20, 21, 22] rfl rfl rfl rfl rfl hl.1 (Nat.le_of_ble_eq_true rfl) dX11_isMirror_2 (fun r1 p_r1 => ?_)
  refine lv_aload_n hx hb dX11_isMirror_5 rfl (lv_at hl 0 rfl) ?_
  refine lv_iload_n hx hb dX11_isMirror_6 rfl (lv_at hl 2 rfl) ?_
  refine PurI.cv (As := [.int rb]) (kX11_cellsOf l g a_m I_m J_m rb hM (by omega)) fx (gUV (uT _) u_826 u_827 u_828 u_5 u_829) rfl hdX11_cellsOf ⟨Nat.le_of_ble_eq_true rfl, Nat.le_of_ble_eq_true rfl⟩ hK hP [0, 1, 2, 3, 4, 5, 6, 7, 8, 9, 10, 11, 12, 13, 14, 15, 16, 17, 18, 19, 20, 21, 22] rfl rfl rfl rfl rfl hl.1 (Nat.le_of_ble_eq_true rfl) dX11_isMirror_7 (fun r2 p_r2 => ?_)
  refine q_icmp_eq (tgt := 15) hx hb dX11_isMirror_10 (by decide) rfl rfl (fun k_10 => ?_) (fun k_10 => ?_)
  · refine lv_iconst (v := 0) hx hb dX11_isMirror_15 (by decide) ?_
    refine lv_istore_n (lv' := [(3, .int (0 : Int32)), (0, .ref (a_m 0)), (1, .int ra), (2, .int rb)]) hx hb dX11_isMirror_16 rfl hl (by decide) rfl (fun ls hl => ?_)
    have L17 : ∀ (nn : Nat) (v3_17 : Int32), (hv_17 : 0 ≤ v3_17.toInt ∧ v3_17.toInt ≤ 3) → (hq_17 : ∀ k : Nat, (k : Int) < v3_17.toInt → mirO (mL (I_m 1) ra.toInt.toNat k) = mL (I_m 1) rb.toInt.toNat k) → ((4 - v3_17.toInt) < (nn : Int)) → ∀ ls : Array Slot, lv_has ls 4 [(3, .int v3_17), (0, .ref (a_m 0)), (1, .int ra), (2, .int rb)] → W p l e (rm 2) s m args below meth c s.heap [] 0 0 Q (F0 m 17 ls []) := by
      intro n_17
      induction n_17 with
      | zero =>
        intro v3_17 hv_17 hq_17 hms_17 ls hl
        exfalso; omega
      | succ n_17 ih_17 =>
        intro v3_17 hv_17 hq_17 hms_17 ls hl
        refine lv_iload_n hx hb dX11_isMirror_17 rfl (lv_at hl 0 rfl) ?_
        refine lv_aload_n hx hb dX11_isMirror_18 rfl (lv_at hl 1 rfl) ?_
        refine lv_iload_n hx hb dX11_isMirror_19 rfl (lv_at hl 2 rfl) ?_
        refine PurI.cv (As := [.int ra]) (kX11_cellsOf l g a_m I_m J_m ra hM (by omega)) fx (gUV (uT _) u_826 u_827 u_828 u_5 u_829) rfl hdX11_cellsOf ⟨Nat.le_of_ble_eq_true rfl, Nat.le_of_ble_eq_true rfl⟩ hK hP [0, 1, 2, 3, 4, 5, 6, 7, 8, 9, 10, 11, 12, 13, 14, 15, 16, 17, 18, 19, 20, 21, 22] rfl rfl rfl rfl rfl hl.1 (Nat.le_of_ble_eq_true rfl) dX11_isMirror_20 (fun r3 p_r3 => ?_)
        refine q_icmp_ge (tgt := 52) hx hb dX11_isMirror_23 (by decide) rfl rfl (fun k_23 => ?_) (fun k_23 => ?_)
        · refine lv_iconst (v := 1) hx hb dX11_isMirror_52 (by decide) ?_
          have lr : (1 : Int32).toInt = 1 := by decide
          exact hret 53 ls (1 : Int32) dX11_isMirror_53 (Or.inr rfl) (Or.inl ⟨rfl, by show (I_m 1 (12 * ra.toInt.toNat + 19)).toInt = (I_m 1 (12 * rb.toInt.toNat + 19)).toInt; omega, fun k hk => hq_17 k (by have w : (k : Int) < (I_m 1 (12 * ra.toInt.toNat + 19)).toInt := hk; omega)⟩)
        · refine lv_aload_n hx hb dX11_isMirror_26 rfl (lv_at hl 1 rfl) ?_
          refine lv_iload_n hx hb dX11_isMirror_27 rfl (lv_at hl 3 rfl) ?_
          refine lv_iload_n hx hb dX11_isMirror_28 rfl (lv_at hl 0 rfl) ?_
          refine PurI.cv (As := [.int rb, .int v3_17]) (kX11_cellAt l g a_m I_m J_m rb v3_17 hM (by omega) (by omega)) fx (gUV (uT _) u_830 u_831 u_832 u_5 u_833) rfl hdX11_cellAt ⟨Nat.le_of_ble_eq_true rfl, Nat.le_of_ble_eq_true rfl⟩ hK hP [0, 1, 2, 3, 4, 5, 6, 7, 8, 9, 10, 11, 12, 13, 14, 15, 16, 17, 18, 19, 20, 21, 22] rfl rfl rfl rfl rfl hl.1 (Nat.le_of_ble_eq_true rfl) dX11_isMirror_29 (fun r4 p_r4 => ?_)
          refine lv_aload_n hx hb dX11_isMirror_32 rfl (lv_at hl 1 rfl) ?_
          refine lv_iload_n hx hb dX11_isMirror_33 rfl (lv_at hl 2 rfl) ?_
          refine lv_iload_n hx hb dX11_isMirror_34 rfl (lv_at hl 0 rfl) ?_
          refine PurI.cv (As := [.int ra, .int v3_17]) (kX11_cellAt l g a_m I_m J_m ra v3_17 hM (by omega) (by omega)) fx (gUV (uT _) u_830 u_831 u_832 u_5 u_833) rfl hdX11_cellAt ⟨Nat.le_of_ble_eq_true rfl, Nat.le_of_ble_eq_true rfl⟩ hK hP [0, 1, 2, 3, 4, 5, 6, 7, 8, 9, 10, 11, 12, 13, 14, 15, 16, 17, 18, 19, 20, 21, 22] rfl rfl rfl rfl rfl hl.1 (Nat.le_of_ble_eq_true rfl) dX11_isMirror_35 (fun r5 p_r5 => ?_)
          refine PurI.cs (C := RX11) (As := [.int r5]) (kX11_mirrorOf l g r5) fx (gUS (uT _) u_1456 u_1457 u_5 u_1458) rfl hdX11_mirrorOf ⟨Nat.le_of_ble_eq_true rfl, Nat.le_of_ble_eq_true rfl⟩ hK hP [] rfl rfl rfl hl.1 (Nat.le_of_ble_eq_true rfl) dX11_isMirror_38 (fun r6 p_r6 => ?_)
          refine q_icmp_eq (tgt := 46) hx hb dX11_isMirror_41 (by decide) rfl rfl (fun k_41 => ?_) (fun k_41 => ?_)
          · refine r_iinc (lv' := fun i7 => [(3, .int i7), (0, .ref (a_m 0)), (1, .int ra), (2, .int rb)]) hx hb dX11_isMirror_46 hl (k := 0) rfl (by decide) rfl (by decide) (fun _ => rfl) (fun i7 e_i7 t_i7 ls hl => ?_)
            try have t_i7 := t_i7 (by omega)
            refine lv_goto (tgt := 17) hx hb dX11_isMirror_49 (by decide) ?_
            exact ih_17 i7 (by omega) (tq_ext (P := fun k => mirO (mL (I_m 1) ra.toInt.toNat k) = mL (I_m 1) rb.toInt.toNat k) hq_17 (by omega) (by omega) (by show mirO (I_m 1 (12 * ra.toInt.toNat + (20 + v3_17.toInt.toNat))) = I_m 1 (12 * rb.toInt.toNat + (20 + v3_17.toInt.toNat)); rw [← p_r4.2, ← p_r5.2, ← p_r6]; exact t_inj (by omega))) (by omega) ls hl
          · refine lv_iconst (v := 0) hx hb dX11_isMirror_44 (by decide) ?_
            exact hret 45 ls (0 : Int32) dX11_isMirror_45 (Or.inl rfl) (Or.inr ⟨rfl, fun q => by have w : mirO (I_m 1 (12 * ra.toInt.toNat + (20 + v3_17.toInt.toNat))) = I_m 1 (12 * rb.toInt.toNat + (20 + v3_17.toInt.toNat)) := q.2 v3_17.toInt.toNat (by show _ < (I_m 1 (12 * ra.toInt.toNat + 19)).toInt; omega); rw [← p_r4.2, ← p_r5.2, ← p_r6] at w; have := congrArg Int32.toInt w; omega⟩)
    exact L17 ((4 - (0 : Int32).toInt) + 1).toNat (0 : Int32) (by omega) (fun k q => by rw [lm0] at q; exfalso; omega) (by omega) ls hl
  · refine lv_iconst (v := 0) hx hb dX11_isMirror_13 (by decide) ?_
    exact hret 14 ls (0 : Int32) dX11_isMirror_14 (Or.inl rfl) (Or.inr ⟨rfl, fun q => by have w : (I_m 1 (12 * ra.toInt.toNat + 19)).toInt = (I_m 1 (12 * rb.toInt.toNat + 19)).toInt := q.1; omega⟩)

set_option maxHeartbeats 4000000 in
set_option maxRecDepth 100000 in
theorem kX11_turned (l : Launch) (g : gG) (a_m : Nat → Nat) (I_m : Nat → Nat → Int32) (J_m : Nat → Nat → Int64) (rule : Int32) (hM : MI I_m) : EffI l g yX11_turned wsX11_turned 3 [.ref (a_m 0), .int rule] (wX11 g a_m I_m J_m) (fun (u : (Nat → Nat → Int32)) => wX11 g a_m u J_m) (fun r (u : (Nat → Nat → Int32)) => KK [] [1] I_m (u) ∧ ((¬ (0 ≤ rule.toInt ∧ rule.toInt < (I_m 1 0).toInt) ∧ r = -1) ∨ ((0 ≤ rule.toInt ∧ rule.toInt < (I_m 1 0).toInt) ∧ tbFst (tbMir (mC (I_m 1)) (mL (I_m 1)) rule.toInt.toNat) (I_m 1 0).toInt r))) := by
  refine EffI.st (cc := cX11_turned) (maxL := 3) (by decide) rfl (Nat.le_of_ble_eq_true rfl) (fun p e s m args below meth c A Q ls fx hK hP hD hA hS hl hret => ?_)
  have hx := fx.1
  have hb := fx.2.1
  have hml := fx.2.2.1
  have hown := fx.2.2.2.1
  have hts := fx.2.2.2.2
  have hl : lv_has ls 3 [(0, .ref (a_m 0)), (1, .int rule)] := hl
  have hP : va_P g.1 vwCl (wX11 g a_m I_m J_m) s.heap := hP
  have hf_7 := hts _ (uT _ _ u_170)
  have hi_X11 : ∀ w ∈ wsX110, w.before args s = true := fun w h => hts w (uT _ w (u_wsX110 w h))
  have lm1 : (-1 : Int32).toInt = -1 := by decide
  have lm0 : (0 : Int32).toInt = 0 := by decide
  have lm2 : (1 : Int32).toInt = 1 := by decide
  have lq6 : (6 : Int32).toInt = 6 := by decide
  have lq1 : (1 : Int32).toInt = 1 := by decide
  have hmn := hM.many rfl
  refine lv_aload_n hx hb dX11_turned_0 rfl (lv_at hl 0 rfl) ?_
  refine lv_iload_n hx hb dX11_turned_1 rfl (lv_at hl 1 rfl) ?_
  refine PurI.cv (As := [.int rule]) (kX11_isRule l g a_m I_m J_m rule hM) fx (gUV (uT _) u_804 u_805 u_806 u_5 u_807) rfl hdX11_isRule ⟨Nat.le_of_ble_eq_true rfl, Nat.le_of_ble_eq_true rfl⟩ hK hP [0, 1, 2, 3, 4, 5, 6, 7, 8, 9, 10, 11, 12, 13, 14, 15, 16, 17, 18, 19, 20, 21, 22] rfl rfl rfl rfl rfl hl.1 (Nat.le_of_ble_eq_true rfl) dX11_turned_2 (fun r1 p_r1 => ?_)
  refine q_if_ne (tgt := 14) hx hb dX11_turned_5 (by decide) rfl (fun b_5 k_5 => ?_) (fun b_5 k_5 => ?_)
  · have q_5 := bP.t p_r1 b_5
    refine lv_iconst (v := 0) hx hb dX11_turned_14 (by decide) ?_
    refine lv_istore_n (lv' := [(2, .int (0 : Int32)), (0, .ref (a_m 0)), (1, .int rule)]) hx hb dX11_turned_15 rfl hl (by decide) rfl (fun ls hl => ?_)
    have L16 : ∀ (nn : Nat) (v2_16 : Int32), (hv_16 : 0 ≤ v2_16.toInt ∧ v2_16.toInt ≤ 24) → (hno_16 : ∀ i : Nat, (i : Int) < v2_16.toInt → ¬ tbMir (mC (I_m 1)) (mL (I_m 1)) rule.toInt.toNat i) → ((25 - v2_16.toInt) < (nn : Int)) → ∀ (H : Heap) (locs : List Loc), va_P g.1 vwCl (wX11 g a_m I_m J_m) H → va_D A (wX11 g a_m I_m J_m) → va_S A s.heap H locs → ∀ ls : Array Slot, lv_has ls 3 [(2, .int v2_16), (0, .ref (a_m 0)), (1, .int rule)] → W p l e (rm 3) s m args below meth c H locs 0 0 Q (F0 m 16 ls []) := by
      intro n_16
      induction n_16 with
      | zero =>
        intro v2_16 hv_16 hno_16 hms_16 H locs hP hD hS ls hl
        exfalso; omega
      | succ n_16 ih_16 =>
        intro v2_16 hv_16 hno_16 hms_16 H locs hP hD hS ls hl
        refine lv_iload_n hx hb dX11_turned_16 rfl (lv_at hl 0 rfl) ?_
        refine lv_aload_n hx hb dX11_turned_17 rfl (lv_at hl 1 rfl) ?_
        refine va_get (D := g.1) (ci := 11) (v := .ref (a_m 1)) (C := RX11) (T := TX11) (N := 46) hx hb hi_X11 (fun _ h => h) hown hK.1 hP 0 rfl rfl 0 (by decide) hf_7 (fun _ h9 => h9) rfl dX11_turned_18 ?_
        refine lv_iconst (v := 0) hx hb dX11_turned_21 (by decide) ?_
        have n_22 : vp_in (0 : Int32) 19800 := (t_in (by decide))
        refine va_iald hx hb hK.1 hP 1 0 rfl rfl n_22 dX11_turned_22 ?_
        refine q_nm (fun x2 e_x2 => ?_)
        have e_x2 : x2 = (I_m 1) 0 := e_x2
        have g_x2 : x2.toInt = ((I_m 1) 0).toInt := congrArg _ e_x2
        have f_x2 := MI.many hM e_x2
        refine q_icmp_ge (tgt := 47) hx hb dX11_turned_23 (by decide) rfl rfl (fun k_23 => ?_) (fun k_23 => ?_)
        · refine lv_aload_n hx hb dX11_turned_47 rfl (lv_at hl 1 rfl) ?_
          refine lv_bipush (v := 6) hx hb dX11_turned_48 (by decide) ?_
          refine EffI.cv (wr := ([])) (w' := fun u4 => wX11 g a_m u4 J_m) (As := [.int (6 : Int32)]) (kX11_refuse l g a_m I_m J_m (6 : Int32)) fx (gUV (uT _) u_536 u_537 u_538 u_5 u_539) rfl hdX11_refuse ⟨Nat.le_of_ble_eq_true rfl, Nat.le_of_ble_eq_true rfl⟩ hK hP hD hS hA [0, 1, 2, 3, 4, 5, 6, 7, 8, 9, 10, 11, 12, 13, 14, 15, 16, 17, 18, 19, 20, 21, 22] [] [0, 1, 2, 3, 4, 5, 6, 7, 8, 9, 10, 11, 12, 13, 14, 15, 16, 17, 18, 19, 20, 21, 22] rfl rfl rfl rfl (by decide) rfl (fun _ => rfl) rfl rfl rfl rfl hl.1 (Nat.le_of_ble_eq_true rfl) dX11_turned_50 (fun r3 u4 H locs p_r3 hP hD hS => ?_)
          have hP : va_P g.1 vwCl (wX11 g a_m u4 J_m) H := hP
          have hD : va_D A (wX11 g a_m u4 J_m) := hD
          refine hret 53 ls r3 _ _ u4 dX11_turned_53 hS hP hD ?_
          exact ⟨(KK.st (KK.rf I_m) p_r3.2 (by decide)), Or.inr ⟨by omega, Or.inr ⟨fun i hi => hno_16 i (by omega), p_r3.1⟩⟩⟩
        · refine lv_aload_n hx hb dX11_turned_26 rfl (lv_at hl 1 rfl) ?_
          refine lv_iload_n hx hb dX11_turned_27 rfl (lv_at hl 2 rfl) ?_
          refine lv_iload_n hx hb dX11_turned_28 rfl (lv_at hl 0 rfl) ?_
          refine PurI.cv (As := [.int rule, .int v2_16]) (kX11_isMirror l g a_m I_m J_m rule v2_16 hM (by omega) (by omega)) fx (gUV (uT _) u_1472 u_1473 u_1474 u_5 u_1475) rfl hdX11_isMirror ⟨Nat.le_of_ble_eq_true rfl, Nat.le_of_ble_eq_true rfl⟩ hK hP [0, 1, 2, 3, 4, 5, 6, 7, 8, 9, 10, 11, 12, 13, 14, 15, 16, 17, 18, 19, 20, 21, 22] rfl rfl rfl rfl rfl hl.1 (Nat.le_of_ble_eq_true rfl) dX11_turned_29 (fun r5 p_r5 => ?_)
          refine q_if_eq (tgt := 41) hx hb dX11_turned_32 (by decide) rfl (fun b_32 k_32 => ?_) (fun b_32 k_32 => ?_)
          · have q_32 := bP.f p_r5 b_32
            refine r_iinc (lv' := fun i6 => [(2, .int i6), (0, .ref (a_m 0)), (1, .int rule)]) hx hb dX11_turned_41 hl (k := 0) rfl (by decide) rfl (by decide) (fun _ => rfl) (fun i6 e_i6 t_i6 ls hl => ?_)
            try have t_i6 := t_i6 (by omega)
            refine lv_goto (tgt := 16) hx hb dX11_turned_44 (by decide) ?_
            exact ih_16 i6 (by omega) (tq_ext (P := fun i => ¬ tbMir (mC (I_m 1)) (mL (I_m 1)) rule.toInt.toNat i) hno_16 (by omega) (by omega) q_32) (by omega) _ _ hP hD hS ls hl
          · have q_32 := bP.t p_r5 b_32
            refine lv_aload_n hx hb dX11_turned_35 rfl (lv_at hl 1 rfl) ?_
            refine lv_iload_n hx hb dX11_turned_36 rfl (lv_at hl 0 rfl) ?_
            refine EffI.cv (wr := ([])) (w' := fun u8 => wX11 g a_m u8 J_m) (As := [.int v2_16]) (kX11_gives l g a_m I_m J_m v2_16) fx (gUV (uT _) u_585 u_586 u_587 u_5 u_588) rfl hdX11_gives ⟨Nat.le_of_ble_eq_true rfl, Nat.le_of_ble_eq_true rfl⟩ hK hP hD hS hA [0, 1, 2, 3, 4, 5, 6, 7, 8, 9, 10, 11, 12, 13, 14, 15, 16, 17, 18, 19, 20, 21, 22] [] [0, 1, 2, 3, 4, 5, 6, 7, 8, 9, 10, 11, 12, 13, 14, 15, 16, 17, 18, 19, 20, 21, 22] rfl rfl rfl rfl (by decide) rfl (fun _ => rfl) rfl rfl rfl rfl hl.1 (Nat.le_of_ble_eq_true rfl) dX11_turned_37 (fun r7 u8 H locs p_r7 hP hD hS => ?_)
            have hP : va_P g.1 vwCl (wX11 g a_m u8 J_m) H := hP
            have hD : va_D A (wX11 g a_m u8 J_m) := hD
            refine hret 40 ls r7 _ _ u8 dX11_turned_40 hS hP hD ?_
            exact ⟨(KK.st (KK.rf I_m) p_r7.2 (by decide)), Or.inr ⟨by omega, Or.inl ⟨v2_16.toInt.toNat, by omega, q_32, fun i hi => hno_16 i (by omega), by rw [p_r7.1]; omega⟩⟩⟩
    exact L16 ((25 - (0 : Int32).toInt) + 1).toNat (0 : Int32) (by omega) (fun i q => by rw [lm0] at q; exfalso; omega) (by omega) _ _ hP hD hS ls hl
  · have q_5 := bP.f p_r1 b_5
    refine lv_aload_n hx hb dX11_turned_8 rfl (lv_at hl 0 rfl) ?_
    refine lv_iconst (v := 1) hx hb dX11_turned_9 (by decide) ?_
    refine EffI.cv (wr := ([])) (w' := fun u10 => wX11 g a_m u10 J_m) (As := [.int (1 : Int32)]) (kX11_refuse l g a_m I_m J_m (1 : Int32)) fx (gUV (uT _) u_536 u_537 u_538 u_5 u_539) rfl hdX11_refuse ⟨Nat.le_of_ble_eq_true rfl, Nat.le_of_ble_eq_true rfl⟩ hK hP hD hS hA [0, 1, 2, 3, 4, 5, 6, 7, 8, 9, 10, 11, 12, 13, 14, 15, 16, 17, 18, 19, 20, 21, 22] [] [0, 1, 2, 3, 4, 5, 6, 7, 8, 9, 10, 11, 12, 13, 14, 15, 16, 17, 18, 19, 20, 21, 22] rfl rfl rfl rfl (by decide) rfl (fun _ => rfl) rfl rfl rfl rfl hl.1 (Nat.le_of_ble_eq_true rfl) dX11_turned_10 (fun r9 u10 H locs p_r9 hP hD hS => ?_)
    have hP : va_P g.1 vwCl (wX11 g a_m u10 J_m) H := hP
    have hD : va_D A (wX11 g a_m u10 J_m) := hD
    refine hret 13 ls r9 _ _ u10 dX11_turned_13 hS hP hD ?_
    exact ⟨(KK.st (KK.rf I_m) p_r9.2 (by decide)), Or.inl ⟨by omega, p_r9.1⟩⟩

set_option maxHeartbeats 4000000 in
set_option maxRecDepth 100000 in
theorem kX11_doClash (l : Launch) (g : gG) (a_m : Nat → Nat) (I_m : Nat → Nat → Int32) (J_m : Nat → Nat → Int64) (ra : Int32) (rb : Int32) (hM : MI I_m) (h_ra : 0 ≤ ra.toInt ∧ ra.toInt < 24) (h_rb : 0 ≤ rb.toInt ∧ rb.toInt < 24) : PurI l g yX11_doClash wsX11_doClash 2 [.ref (a_m 0), .int ra, .int rb] (wX11 g a_m I_m J_m) (fun r => bP ((I_m 1 (12 * ra.toInt.toNat + 19)).toInt ≤ (I_m 1 (12 * rb.toInt.toNat + 19)).toInt ∧ begB (mC (I_m 1)) (mL (I_m 1)) ra.toInt.toNat rb.toInt.toNat = true) (begB (mC (I_m 1)) (mL (I_m 1)) ra.toInt.toNat rb.toInt.toNat = false) r) := by
  refine PurI.sz (cc := cX11_doClash) (maxL := 4) (by decide) rfl (Nat.le_of_ble_eq_true rfl) (fun p e s m args below meth c Q ls fx hK hP hl hret => ?_)
  have hx := fx.1
  have hb := fx.2.1
  have hml := fx.2.2.1
  have hown := fx.2.2.2.1
  have hts := fx.2.2.2.2
  have hl : lv_has ls 4 [(0, .ref (a_m 0)), (1, .int ra), (2, .int rb)] := hl
  have hP : va_P g.1 vwCl (wX11 g a_m I_m J_m) s.heap := hP
  have lm1 : (-1 : Int32).toInt = -1 := by decide
  have lm0 : (0 : Int32).toInt = 0 := by decide
  have lm2 : (1 : Int32).toInt = 1 := by decide
  have lq1 : (1 : Int32).toInt = 1 := by decide
  refine lv_aload_n hx hb dX11_doClash_0 rfl (lv_at hl 0 rfl) ?_
  refine lv_iload_n hx hb dX11_doClash_1 rfl (lv_at hl 1 rfl) ?_
  refine PurI.cv (As := [.int ra]) (kX11_cellsOf l g a_m I_m J_m ra hM (by omega)) fx (gUV (uT _) u_826 u_827 u_828 u_5 u_829) rfl hdX11_cellsOf ⟨Nat.le_of_ble_eq_true rfl, Nat.le_of_ble_eq_true rfl⟩ hK hP [0, 1, 2, 3, 4, 5, 6, 7, 8, 9, 10, 11, 12, 13, 14, 15, 16, 17, 18, 19, 20, 21, 22] rfl rfl rfl rfl rfl hl.1 (Nat.le_of_ble_eq_true rfl) dX11_doClash_2 (fun r1 p_r1 => ?_)
  have hc2 := p_r1
  refine lv_aload_n hx hb dX11_doClash_5 rfl (lv_at hl 0 rfl) ?_
  refine lv_iload_n hx hb dX11_doClash_6 rfl (lv_at hl 2 rfl) ?_
  refine PurI.cv (As := [.int rb]) (kX11_cellsOf l g a_m I_m J_m rb hM (by omega)) fx (gUV (uT _) u_826 u_827 u_828 u_5 u_829) rfl hdX11_cellsOf ⟨Nat.le_of_ble_eq_true rfl, Nat.le_of_ble_eq_true rfl⟩ hK hP [0, 1, 2, 3, 4, 5, 6, 7, 8, 9, 10, 11, 12, 13, 14, 15, 16, 17, 18, 19, 20, 21, 22] rfl rfl rfl rfl rfl hl.1 (Nat.le_of_ble_eq_true rfl) dX11_doClash_7 (fun r2 p_r2 => ?_)
  have hc7 := p_r2
  refine q_icmp_le (tgt := 15) hx hb dX11_doClash_10 (by decide) rfl rfl (fun k_10 => ?_) (fun k_10 => ?_)
  · refine lv_iconst (v := 0) hx hb dX11_doClash_15 (by decide) ?_
    refine lv_istore_n (lv' := [(3, .int (0 : Int32)), (0, .ref (a_m 0)), (1, .int ra), (2, .int rb)]) hx hb dX11_doClash_16 rfl hl (by decide) rfl (fun ls hl => ?_)
    have L17 : ∀ (nn : Nat) (v3_17 : Int32), (hv_17 : 0 ≤ v3_17.toInt ∧ v3_17.toInt ≤ 3) → (hq_17 : ∀ k : Nat, (k : Int) < v3_17.toInt → mL (I_m 1) ra.toInt.toNat k = mL (I_m 1) rb.toInt.toNat k) → ((4 - v3_17.toInt) < (nn : Int)) → ∀ ls : Array Slot, lv_has ls 4 [(3, .int v3_17), (0, .ref (a_m 0)), (1, .int ra), (2, .int rb)] → W p l e (rm 2) s m args below meth c s.heap [] 0 0 Q (F0 m 17 ls []) := by
      intro n_17
      induction n_17 with
      | zero =>
        intro v3_17 hv_17 hq_17 hms_17 ls hl
        exfalso; omega
      | succ n_17 ih_17 =>
        intro v3_17 hv_17 hq_17 hms_17 ls hl
        refine lv_iload_n hx hb dX11_doClash_17 rfl (lv_at hl 0 rfl) ?_
        refine lv_aload_n hx hb dX11_doClash_18 rfl (lv_at hl 1 rfl) ?_
        refine lv_iload_n hx hb dX11_doClash_19 rfl (lv_at hl 2 rfl) ?_
        refine PurI.cv (As := [.int ra]) (kX11_cellsOf l g a_m I_m J_m ra hM (by omega)) fx (gUV (uT _) u_826 u_827 u_828 u_5 u_829) rfl hdX11_cellsOf ⟨Nat.le_of_ble_eq_true rfl, Nat.le_of_ble_eq_true rfl⟩ hK hP [0, 1, 2, 3, 4, 5, 6, 7, 8, 9, 10, 11, 12, 13, 14, 15, 16, 17, 18, 19, 20, 21, 22] rfl rfl rfl rfl rfl hl.1 (Nat.le_of_ble_eq_true rfl) dX11_doClash_20 (fun r3 p_r3 => ?_)
        refine q_icmp_ge (tgt := 49) hx hb dX11_doClash_23 (by decide) rfl rfl (fun k_23 => ?_) (fun k_23 => ?_)
        · refine lv_iconst (v := 1) hx hb dX11_doClash_49 (by decide) ?_
          have lr : (1 : Int32).toInt = 1 := by decide
          exact hret 50 ls (1 : Int32) dX11_doClash_50 (Or.inr rfl) (Or.inl ⟨rfl, by omega, begB.t (by show (I_m 1 (12 * ra.toInt.toNat + 19)).toInt ≤ (I_m 1 (12 * rb.toInt.toNat + 19)).toInt; omega) (fun k hk => hq_17 k (by have w : (k : Int) < (I_m 1 (12 * ra.toInt.toNat + 19)).toInt := hk; omega))⟩)
        · refine lv_aload_n hx hb dX11_doClash_26 rfl (lv_at hl 1 rfl) ?_
          refine lv_iload_n hx hb dX11_doClash_27 rfl (lv_at hl 2 rfl) ?_
          refine lv_iload_n hx hb dX11_doClash_28 rfl (lv_at hl 0 rfl) ?_
          refine PurI.cv (As := [.int ra, .int v3_17]) (kX11_cellAt l g a_m I_m J_m ra v3_17 hM (by omega) (by omega)) fx (gUV (uT _) u_830 u_831 u_832 u_5 u_833) rfl hdX11_cellAt ⟨Nat.le_of_ble_eq_true rfl, Nat.le_of_ble_eq_true rfl⟩ hK hP [0, 1, 2, 3, 4, 5, 6, 7, 8, 9, 10, 11, 12, 13, 14, 15, 16, 17, 18, 19, 20, 21, 22] rfl rfl rfl rfl rfl hl.1 (Nat.le_of_ble_eq_true rfl) dX11_doClash_29 (fun r4 p_r4 => ?_)
          refine lv_aload_n hx hb dX11_doClash_32 rfl (lv_at hl 1 rfl) ?_
          refine lv_iload_n hx hb dX11_doClash_33 rfl (lv_at hl 3 rfl) ?_
          refine lv_iload_n hx hb dX11_doClash_34 rfl (lv_at hl 0 rfl) ?_
          refine PurI.cv (As := [.int rb, .int v3_17]) (kX11_cellAt l g a_m I_m J_m rb v3_17 hM (by omega) (by omega)) fx (gUV (uT _) u_830 u_831 u_832 u_5 u_833) rfl hdX11_cellAt ⟨Nat.le_of_ble_eq_true rfl, Nat.le_of_ble_eq_true rfl⟩ hK hP [0, 1, 2, 3, 4, 5, 6, 7, 8, 9, 10, 11, 12, 13, 14, 15, 16, 17, 18, 19, 20, 21, 22] rfl rfl rfl rfl rfl hl.1 (Nat.le_of_ble_eq_true rfl) dX11_doClash_35 (fun r5 p_r5 => ?_)
          refine q_icmp_eq (tgt := 43) hx hb dX11_doClash_38 (by decide) rfl rfl (fun k_38 => ?_) (fun k_38 => ?_)
          · refine r_iinc (lv' := fun i6 => [(3, .int i6), (0, .ref (a_m 0)), (1, .int ra), (2, .int rb)]) hx hb dX11_doClash_43 hl (k := 0) rfl (by decide) rfl (by decide) (fun _ => rfl) (fun i6 e_i6 t_i6 ls hl => ?_)
            try have t_i6 := t_i6 (by omega)
            refine lv_goto (tgt := 17) hx hb dX11_doClash_46 (by decide) ?_
            exact ih_17 i6 (by omega) (tq_ext (P := fun k => mL (I_m 1) ra.toInt.toNat k = mL (I_m 1) rb.toInt.toNat k) hq_17 (by omega) (by omega) (by show (I_m 1 (12 * ra.toInt.toNat + (20 + v3_17.toInt.toNat))) = (I_m 1 (12 * rb.toInt.toNat + (20 + v3_17.toInt.toNat))); rw [← p_r4.2, ← p_r5.2]; exact t_inj (by omega))) (by omega) ls hl
          · refine lv_iconst (v := 0) hx hb dX11_doClash_41 (by decide) ?_
            exact hret 42 ls (0 : Int32) dX11_doClash_42 (Or.inl rfl) (Or.inr ⟨rfl, begB.f2 v3_17.toInt.toNat (by show _ < (I_m 1 (12 * ra.toInt.toNat + 19)).toInt; omega) (by show ¬ (I_m 1 (12 * ra.toInt.toNat + (20 + v3_17.toInt.toNat))) = (I_m 1 (12 * rb.toInt.toNat + (20 + v3_17.toInt.toNat))); rw [← p_r4.2, ← p_r5.2]; exact fun q => by have := congrArg Int32.toInt q; omega)⟩)
    exact L17 ((4 - (0 : Int32).toInt) + 1).toNat (0 : Int32) (by omega) (fun k q => by rw [lm0] at q; exfalso; omega) (by omega) ls hl
  · refine lv_iconst (v := 0) hx hb dX11_doClash_13 (by decide) ?_
    exact hret 14 ls (0 : Int32) dX11_doClash_14 (Or.inl rfl) (Or.inr ⟨rfl, begB.f1 (by show ¬ (I_m 1 (12 * ra.toInt.toNat + 19)).toInt ≤ (I_m 1 (12 * rb.toInt.toNat + 19)).toInt; omega)⟩)

set_option maxHeartbeats 4000000 in
set_option maxRecDepth 100000 in
theorem kX11_areIn (l : Launch) (g : gG) (a_m : Nat → Nat) (I_m : Nat → Nat → Int32) (J_m : Nat → Nat → Int64) (ra : Int32) (rb : Int32) (hM : MI I_m) : PurI l g yX11_areIn wsX11_areIn 1 [.ref (a_m 0), .int ra, .int rb] (wX11 g a_m I_m J_m) (fun r => bP (ra.toInt ≠ rb.toInt ∧ outB (I_m 1 6) ra = false ∧ outB (I_m 1 6) rb = false) (ra.toInt = rb.toInt ∨ outB (I_m 1 6) ra = true ∨ outB (I_m 1 6) rb = true) r) := by
  refine PurI.sz (cc := cX11_areIn) (maxL := 3) (by decide) rfl (Nat.le_of_ble_eq_true rfl) (fun p e s m args below meth c Q ls fx hK hP hl hret => ?_)
  have hx := fx.1
  have hb := fx.2.1
  have hml := fx.2.2.1
  have hown := fx.2.2.2.1
  have hts := fx.2.2.2.2
  have hl : lv_has ls 3 [(0, .ref (a_m 0)), (1, .int ra), (2, .int rb)] := hl
  have hP : va_P g.1 vwCl (wX11 g a_m I_m J_m) s.heap := hP
  have hf_7 := hts _ (uT _ _ u_170)
  have hi_X11 : ∀ w ∈ wsX110, w.before args s = true := fun w h => hts w (uT _ w (u_wsX110 w h))
  have lm1 : (-1 : Int32).toInt = -1 := by decide
  have lm0 : (0 : Int32).toInt = 0 := by decide
  have lm2 : (1 : Int32).toInt = 1 := by decide
  have lq6 : (6 : Int32).toInt = 6 := by decide
  have lq1 : (1 : Int32).toInt = 1 := by decide
  refine lv_iload_n hx hb dX11_areIn_0 rfl (lv_at hl 1 rfl) ?_
  refine lv_iload_n hx hb dX11_areIn_1 rfl (lv_at hl 2 rfl) ?_
  refine q_icmp_eq (tgt := 37) hx hb dX11_areIn_2 (by decide) rfl rfl (fun k_2 => ?_) (fun k_2 => ?_)
  · refine lv_iconst (v := 0) hx hb dX11_areIn_37 (by decide) ?_
    exact hret 38 ls (0 : Int32) dX11_areIn_38 (Or.inl rfl) (by exact Or.inr ⟨rfl, Or.inl (by omega)⟩)
  · refine lv_aload_n hx hb dX11_areIn_5 rfl (lv_at hl 0 rfl) ?_
    refine va_get (D := g.1) (ci := 11) (v := .ref (a_m 1)) (C := RX11) (T := TX11) (N := 46) hx hb hi_X11 (fun _ h => h) hown hK.1 hP 0 rfl rfl 0 (by decide) hf_7 (fun _ h9 => h9) rfl dX11_areIn_6 ?_
    refine lv_bipush (v := 6) hx hb dX11_areIn_9 (by decide) ?_
    have n_11 : vp_in (6 : Int32) 19800 := (t_in (by decide))
    refine va_iald hx hb hK.1 hP 1 0 rfl rfl n_11 dX11_areIn_11 ?_
    refine q_nm (fun x1 e_x1 => ?_)
    have e_x1 : x1 = (I_m 1) 6 := e_x1
    have g_x1 : x1.toInt = ((I_m 1) 6).toInt := congrArg _ e_x1
    refine lv_iload_n hx hb dX11_areIn_12 rfl (lv_at hl 1 rfl) ?_
    refine PurI.cs (C := RX11) (As := [.int x1, .int ra]) (kX11_isOut l g x1 ra) fx (gUS (uT _) u_740 u_741 u_5 u_742) rfl hdX11_isOut ⟨Nat.le_of_ble_eq_true rfl, Nat.le_of_ble_eq_true rfl⟩ hK hP [] rfl rfl rfl hl.1 (Nat.le_of_ble_eq_true rfl) dX11_areIn_13 (fun r2 p_r2 => ?_)
    refine q_if_ne (tgt := 37) hx hb dX11_areIn_16 (by decide) rfl (fun b_16 k_16 => ?_) (fun b_16 k_16 => ?_)
    · have q_16 := bP.t p_r2 b_16
      refine lv_iconst (v := 0) hx hb dX11_areIn_37 (by decide) ?_
      exact hret 38 ls (0 : Int32) dX11_areIn_38 (Or.inl rfl) (by first | exact Or.inr ⟨rfl, Or.inl (by omega)⟩ | exact Or.inr ⟨rfl, Or.inr (Or.inl (by rw [show I_m 1 6 = x1 from e_x1.symm]; exact outB.tP q_16))⟩)
    · have q_16 := bP.f p_r2 b_16
      refine lv_aload_n hx hb dX11_areIn_19 rfl (lv_at hl 0 rfl) ?_
      refine va_get (D := g.1) (ci := 11) (v := .ref (a_m 1)) (C := RX11) (T := TX11) (N := 46) hx hb hi_X11 (fun _ h => h) hown hK.1 hP 0 rfl rfl 0 (by decide) hf_7 (fun _ h9 => h9) rfl dX11_areIn_20 ?_
      refine lv_bipush (v := 6) hx hb dX11_areIn_23 (by decide) ?_
      have n_25 : vp_in (6 : Int32) 19800 := (t_in (by decide))
      refine va_iald hx hb hK.1 hP 1 0 rfl rfl n_25 dX11_areIn_25 ?_
      refine q_nm (fun x3 e_x3 => ?_)
      have e_x3 : x3 = (I_m 1) 6 := e_x3
      have g_x3 : x3.toInt = ((I_m 1) 6).toInt := congrArg _ e_x3
      refine lv_iload_n hx hb dX11_areIn_26 rfl (lv_at hl 2 rfl) ?_
      refine PurI.cs (C := RX11) (As := [.int x3, .int rb]) (kX11_isOut l g x3 rb) fx (gUS (uT _) u_740 u_741 u_5 u_742) rfl hdX11_isOut ⟨Nat.le_of_ble_eq_true rfl, Nat.le_of_ble_eq_true rfl⟩ hK hP [] rfl rfl rfl hl.1 (Nat.le_of_ble_eq_true rfl) dX11_areIn_27 (fun r4 p_r4 => ?_)
      refine q_if_ne (tgt := 37) hx hb dX11_areIn_30 (by decide) rfl (fun b_30 k_30 => ?_) (fun b_30 k_30 => ?_)
      · have q_30 := bP.t p_r4 b_30
        refine lv_iconst (v := 0) hx hb dX11_areIn_37 (by decide) ?_
        exact hret 38 ls (0 : Int32) dX11_areIn_38 (Or.inl rfl) (by first | exact Or.inr ⟨rfl, Or.inl (by omega)⟩ | exact Or.inr ⟨rfl, Or.inr (Or.inl (by rw [show I_m 1 6 = x1 from e_x1.symm]; exact outB.tP q_16))⟩ | exact Or.inr ⟨rfl, Or.inr (Or.inr (by rw [show I_m 1 6 = x3 from e_x3.symm]; exact outB.tP q_30))⟩ | exact Or.inl ⟨rfl, by omega, (by rw [show I_m 1 6 = x1 from e_x1.symm]; exact outB.fP q_16), (by rw [show I_m 1 6 = x3 from e_x3.symm]; exact outB.fP q_30)⟩)
      · have q_30 := bP.f p_r4 b_30
        refine lv_iconst (v := 1) hx hb dX11_areIn_33 (by decide) ?_
        refine lv_goto (tgt := 38) hx hb dX11_areIn_34 (by decide) ?_
        have lr : (1 : Int32).toInt = 1 := by decide
        exact hret 38 ls (1 : Int32) dX11_areIn_38 (Or.inr rfl) (by first | exact Or.inr ⟨rfl, Or.inl (by omega)⟩ | exact Or.inr ⟨rfl, Or.inr (Or.inl (by rw [show I_m 1 6 = x1 from e_x1.symm]; exact outB.tP q_16))⟩ | exact Or.inr ⟨rfl, Or.inr (Or.inr (by rw [show I_m 1 6 = x3 from e_x3.symm]; exact outB.tP q_30))⟩ | exact Or.inl ⟨rfl, by omega, (by rw [show I_m 1 6 = x1 from e_x1.symm]; exact outB.fP q_16), (by rw [show I_m 1 6 = x3 from e_x3.symm]; exact outB.fP q_30)⟩)

set_option maxHeartbeats 4000000 in
set_option maxRecDepth 100000 in
theorem kX11_twins (l : Launch) (g : gG) (a_m : Nat → Nat) (I_m : Nat → Nat → Int32) (J_m : Nat → Nat → Int64) (hM : MI I_m) : EffI l g yX11_twins wsX11_twins 3 [.ref (a_m 0)] (wX11 g a_m I_m J_m) (fun (u : (Nat → Nat → Int32)) => wX11 g a_m u J_m) (fun r (u : (Nat → Nat → Int32)) => KK [] [1] I_m (u) ∧ r.toInt = sumN (tmR (I_m 1 6) (mC (I_m 1)) (mL (I_m 1)) (I_m 1 0).toInt.toNat) (I_m 1 0).toInt.toNat) := by
  refine EffI.st (cc := cX11_twins) (maxL := 4) (by decide) rfl (Nat.le_of_ble_eq_true rfl) (fun p e s m args below meth c A Q ls fx hK hP hD hA hS hl hret => ?_)
  have hx := fx.1
  have hb := fx.2.1
  have hml := fx.2.2.1
  have hown := fx.2.2.2.1
  have hts := fx.2.2.2.2
  have hl : lv_has ls 4 [(0, .ref (a_m 0))] := hl
  have hP : va_P g.1 vwCl (wX11 g a_m I_m J_m) s.heap := hP
  have hf_7 := hts _ (uT _ _ u_170)
  have hi_X11 : ∀ w ∈ wsX110, w.before args s = true := fun w h => hts w (uT _ w (u_wsX110 w h))
  have lm1 : (-1 : Int32).toInt = -1 := by decide
  have lm0 : (0 : Int32).toInt = 0 := by decide
  have lm2 : (1 : Int32).toInt = 1 := by decide
  have lq1 : (1 : Int32).toInt = 1 := by decide
  have hmn := hM.many rfl
  refine lv_iconst (v := 0) hx hb dX11_twins_0 (by decide) ?_
  refine lv_istore_n (lv' := [(1, .int (0 : Int32)), (0, .ref (a_m 0))]) hx hb dX11_twins_1 rfl hl (by decide) rfl (fun ls hl => ?_)
  refine lv_iconst (v := 0) hx hb dX11_twins_2 (by decide) ?_
  refine lv_istore_n (lv' := [(2, .int (0 : Int32)), (1, .int (0 : Int32)), (0, .ref (a_m 0))]) hx hb dX11_twins_3 rfl hl (by decide) rfl (fun ls hl => ?_)
  have L4 : ∀ (nn : Nat) (v1_4 : Int32) (v2_4 : Int32), (hv_4 : 0 ≤ v2_4.toInt ∧ v2_4.toInt ≤ (I_m 1 0).toInt) → (hb_4 : 0 ≤ v1_4.toInt ∧ v1_4.toInt ≤ 24 * v2_4.toInt) → (hs_4 : v1_4.toInt = sumN (tmR (I_m 1 6) (mC (I_m 1)) (mL (I_m 1)) (I_m 1 0).toInt.toNat) v2_4.toInt.toNat) → ((25 - v2_4.toInt) < (nn : Int)) → ∀ (H : Heap) (locs : List Loc), va_P g.1 vwCl (wX11 g a_m I_m J_m) H → va_D A (wX11 g a_m I_m J_m) → va_S A s.heap H locs → ∀ ls : Array Slot, lv_has ls 4 [(2, .int v2_4), (1, .int v1_4), (0, .ref (a_m 0))] → W p l e (rm 3) s m args below meth c H locs 0 0 Q (F0 m 4 ls []) := by
    intro n_4
    induction n_4 with
    | zero =>
      intro v1_4 v2_4 hv_4 hb_4 hs_4 hms_4 H locs hP hD hS ls hl
      exfalso; omega
    | succ n_4 ih_4 =>
      intro v1_4 v2_4 hv_4 hb_4 hs_4 hms_4 H locs hP hD hS ls hl
      refine lv_iload_n hx hb dX11_twins_4 rfl (lv_at hl 0 rfl) ?_
      refine lv_aload_n hx hb dX11_twins_5 rfl (lv_at hl 2 rfl) ?_
      refine va_get (D := g.1) (ci := 11) (v := .ref (a_m 1)) (C := RX11) (T := TX11) (N := 46) hx hb hi_X11 (fun _ h => h) hown hK.1 hP 0 rfl rfl 0 (by decide) hf_7 (fun _ h9 => h9) rfl dX11_twins_6 ?_
      refine lv_iconst (v := 0) hx hb dX11_twins_9 (by decide) ?_
      have n_10 : vp_in (0 : Int32) 19800 := (t_in (by decide))
      refine va_iald hx hb hK.1 hP 1 0 rfl rfl n_10 dX11_twins_10 ?_
      refine q_nm (fun x1 e_x1 => ?_)
      have e_x1 : x1 = (I_m 1) 0 := e_x1
      have g_x1 : x1.toInt = ((I_m 1) 0).toInt := congrArg _ e_x1
      have f_x1 := MI.many hM e_x1
      refine q_icmp_ge (tgt := 68) hx hb dX11_twins_11 (by decide) rfl rfl (fun k_11 => ?_) (fun k_11 => ?_)
      · refine lv_aload_n hx hb dX11_twins_68 rfl (lv_at hl 2 rfl) ?_
        refine lv_iload_n hx hb dX11_twins_69 rfl (lv_at hl 1 rfl) ?_
        refine EffI.cv (wr := ([])) (w' := fun u3 => wX11 g a_m u3 J_m) (As := [.int v1_4]) (kX11_gives l g a_m I_m J_m v1_4) fx (gUV (uT _) u_585 u_586 u_587 u_5 u_588) rfl hdX11_gives ⟨Nat.le_of_ble_eq_true rfl, Nat.le_of_ble_eq_true rfl⟩ hK hP hD hS hA [0, 1, 2, 3, 4, 5, 6, 7, 8, 9, 10, 11, 12, 13, 14, 15, 16, 17, 18, 19, 20, 21, 22] [] [0, 1, 2, 3, 4, 5, 6, 7, 8, 9, 10, 11, 12, 13, 14, 15, 16, 17, 18, 19, 20, 21, 22] rfl rfl rfl rfl (by decide) rfl (fun _ => rfl) rfl rfl rfl rfl hl.1 (Nat.le_of_ble_eq_true rfl) dX11_twins_70 (fun r2 u3 H locs p_r2 hP hD hS => ?_)
        have hP : va_P g.1 vwCl (wX11 g a_m u3 J_m) H := hP
        have hD : va_D A (wX11 g a_m u3 J_m) := hD
        refine hret 73 ls r2 _ _ u3 dX11_twins_73 hS hP hD ?_
        exact ⟨(KK.st (KK.rf I_m) p_r2.2 (by decide)), (by rw [p_r2.1, hs_4, show v2_4.toInt.toNat = (I_m 1 0).toInt.toNat by omega])⟩
      · refine lv_iconst (v := 0) hx hb dX11_twins_14 (by decide) ?_
        refine lv_istore_n (lv' := [(3, .int (0 : Int32)), (2, .int v2_4), (1, .int v1_4), (0, .ref (a_m 0))]) hx hb dX11_twins_15 rfl hl (by decide) rfl (fun ls hl => ?_)
        have L16 : ∀ (nn : Nat) (v1_16 : Int32) (v3_16 : Int32), (hu_16 : 0 ≤ v3_16.toInt ∧ v3_16.toInt ≤ v2_4.toInt) → (hb_16 : 0 ≤ v1_16.toInt ∧ v1_16.toInt ≤ 24 * v2_4.toInt + v3_16.toInt) → (hs_16 : v1_16.toInt = sumN (tmR (I_m 1 6) (mC (I_m 1)) (mL (I_m 1)) (I_m 1 0).toInt.toNat) v2_4.toInt.toNat + tmR (I_m 1 6) (mC (I_m 1)) (mL (I_m 1)) v3_16.toInt.toNat v2_4.toInt.toNat) → ((25 - v3_16.toInt) < (nn : Int)) → ∀ (H : Heap) (locs : List Loc), va_P g.1 vwCl (wX11 g a_m I_m J_m) H → va_D A (wX11 g a_m I_m J_m) → va_S A s.heap H locs → ∀ ls : Array Slot, lv_has ls 4 [(3, .int v3_16), (2, .int v2_4), (1, .int v1_16), (0, .ref (a_m 0))] → W p l e (rm 3) s m args below meth c H locs 0 0 Q (F0 m 16 ls []) := by
          intro n_16
          induction n_16 with
          | zero =>
            intro v1_16 v3_16 hu_16 hb_16 hs_16 hms_16 H locs hP hD hS ls hl
            exfalso; omega
          | succ n_16 ih_16 =>
            intro v1_16 v3_16 hu_16 hb_16 hs_16 hms_16 H locs hP hD hS ls hl
            refine lv_iload_n hx hb dX11_twins_16 rfl (lv_at hl 0 rfl) ?_
            refine lv_iload_n hx hb dX11_twins_17 rfl (lv_at hl 1 rfl) ?_
            refine q_icmp_ge (tgt := 62) hx hb dX11_twins_18 (by decide) rfl rfl (fun k_18 => ?_) (fun k_18 => ?_)
            · refine r_iinc (lv' := fun i4 => [(2, .int i4), (3, .int v3_16), (1, .int v1_16), (0, .ref (a_m 0))]) hx hb dX11_twins_62 hl (k := 1) rfl (by decide) rfl (by decide) (fun _ => rfl) (fun i4 e_i4 t_i4 ls hl => ?_)
              try have t_i4 := t_i4 (by omega)
              refine lv_goto (tgt := 4) hx hb dX11_twins_65 (by decide) ?_
              exact ih_4 v1_16 i4 (by omega) (by omega) (by rw [show (i4).toInt.toNat = v2_4.toInt.toNat + 1 by omega]; show _ = sumN (tmR (I_m 1 6) (mC (I_m 1)) (mL (I_m 1)) (I_m 1 0).toInt.toNat) v2_4.toInt.toNat + tmR (I_m 1 6) (mC (I_m 1)) (mL (I_m 1)) (I_m 1 0).toInt.toNat v2_4.toInt.toNat; rw [hs_16, show v3_16.toInt.toNat = v2_4.toInt.toNat by omega, tm_hi (i := v2_4.toInt.toNat) (I_m 1 0).toInt.toNat (by omega)]) (by omega) _ _ hP hD hS ls (lv_sub hl [0, 2, 3] rfl)
            · refine lv_iload_n hx hb dX11_twins_21 rfl (lv_at hl 2 rfl) ?_
              refine lv_aload_n hx hb dX11_twins_22 rfl (lv_at hl 3 rfl) ?_
              refine lv_iload_n hx hb dX11_twins_23 rfl (lv_at hl 1 rfl) ?_
              refine lv_iload_n hx hb dX11_twins_24 rfl (lv_at hl 0 rfl) ?_
              refine PurI.cv (As := [.int v2_4, .int v3_16]) (kX11_areIn l g a_m I_m J_m v2_4 v3_16 hM) fx (gUV (uT _) u_1497 u_1498 u_1499 u_5 u_1500) rfl hdX11_areIn ⟨Nat.le_of_ble_eq_true rfl, Nat.le_of_ble_eq_true rfl⟩ hK hP [0, 1, 2, 3, 4, 5, 6, 7, 8, 9, 10, 11, 12, 13, 14, 15, 16, 17, 18, 19, 20, 21, 22] rfl rfl rfl rfl rfl hl.1 (Nat.le_of_ble_eq_true rfl) dX11_twins_25 (fun r5 p_r5 => ?_)
              refine q_if_eq (tgt := 53) hx hb dX11_twins_28 (by decide) rfl (fun b_28 k_28 => ?_) (fun b_28 k_28 => ?_)
              · have q_28 := bP.f p_r5 b_28
                refine lv_iconst (v := 0) hx hb dX11_twins_53 (by decide) ?_
                refine r_iadd hx hb dX11_twins_54 rfl (by decide : (0 : Int32).toInt = 0) (fun x6 e_x6 t_x6 => ?_)
                try have t_x6 := t_x6 (by omega)
                refine lv_istore_n (lv' := [(1, .int x6), (3, .int v3_16), (2, .int v2_4), (0, .ref (a_m 0))]) hx hb dX11_twins_55 rfl hl (by decide) rfl (fun ls hl => ?_)
                refine r_iinc (lv' := fun i7 => [(3, .int i7), (1, .int x6), (2, .int v2_4), (0, .ref (a_m 0))]) hx hb dX11_twins_56 hl (k := 1) rfl (by decide) rfl (by decide) (fun _ => rfl) (fun i7 e_i7 t_i7 ls hl => ?_)
                try have t_i7 := t_i7 (by omega)
                refine lv_goto (tgt := 16) hx hb dX11_twins_59 (by decide) ?_
                exact ih_16 x6 i7 (by omega) (by omega) (by first | (rw [show (i7).toInt.toNat = v3_16.toInt.toNat + 1 by omega, tm_in (by omega) (tbQ.t (by omega) (by omega) q_28.2.1 q_28.2.2 q_37.2 q_46.2), ← Int.add_assoc, ← hs_16]; show _ = _ + 1; omega) | (rw [show (i7).toInt.toNat = v3_16.toInt.toNat + 1 by omega, tm_in (by omega) (tbQ.f (by omega) (by omega) (by first | exact (by rcases q_28 with w | w | w; exfalso; omega; exact Or.inl w; exact Or.inr (Or.inl w)) | exact Or.inr (Or.inr (Or.inl q_37)) | exact Or.inr (Or.inr (Or.inr q_46)))), ← Int.add_assoc, ← hs_16]; show _ = _ + 0; omega)) (by omega) _ _ hP hD hS ls (lv_sub hl [0, 2, 1, 3] rfl)
              · have q_28 := bP.t p_r5 b_28
                refine lv_aload_n hx hb dX11_twins_31 rfl (lv_at hl 3 rfl) ?_
                refine lv_iload_n hx hb dX11_twins_32 rfl (lv_at hl 1 rfl) ?_
                refine lv_iload_n hx hb dX11_twins_33 rfl (lv_at hl 0 rfl) ?_
                refine PurI.cv (As := [.int v2_4, .int v3_16]) (kX11_doClash l g a_m I_m J_m v2_4 v3_16 hM (by omega) (by omega)) fx (gUV (uT _) u_1501 u_1502 u_1503 u_5 u_1504) rfl hdX11_doClash ⟨Nat.le_of_ble_eq_true rfl, Nat.le_of_ble_eq_true rfl⟩ hK hP [0, 1, 2, 3, 4, 5, 6, 7, 8, 9, 10, 11, 12, 13, 14, 15, 16, 17, 18, 19, 20, 21, 22] rfl rfl rfl rfl rfl hl.1 (Nat.le_of_ble_eq_true rfl) dX11_twins_34 (fun r8 p_r8 => ?_)
                refine q_if_eq (tgt := 53) hx hb dX11_twins_37 (by decide) rfl (fun b_37 k_37 => ?_) (fun b_37 k_37 => ?_)
                · have q_37 := bP.f p_r8 b_37
                  refine lv_iconst (v := 0) hx hb dX11_twins_53 (by decide) ?_
                  refine r_iadd hx hb dX11_twins_54 rfl (by decide : (0 : Int32).toInt = 0) (fun x9 e_x9 t_x9 => ?_)
                  try have t_x9 := t_x9 (by omega)
                  refine lv_istore_n (lv' := [(1, .int x9), (3, .int v3_16), (2, .int v2_4), (0, .ref (a_m 0))]) hx hb dX11_twins_55 rfl hl (by decide) rfl (fun ls hl => ?_)
                  refine r_iinc (lv' := fun i10 => [(3, .int i10), (1, .int x9), (2, .int v2_4), (0, .ref (a_m 0))]) hx hb dX11_twins_56 hl (k := 1) rfl (by decide) rfl (by decide) (fun _ => rfl) (fun i10 e_i10 t_i10 ls hl => ?_)
                  try have t_i10 := t_i10 (by omega)
                  refine lv_goto (tgt := 16) hx hb dX11_twins_59 (by decide) ?_
                  exact ih_16 x9 i10 (by omega) (by omega) (by first | (rw [show (i10).toInt.toNat = v3_16.toInt.toNat + 1 by omega, tm_in (by omega) (tbQ.t (by omega) (by omega) q_28.2.1 q_28.2.2 q_37.2 q_46.2), ← Int.add_assoc, ← hs_16]; show _ = _ + 1; omega) | (rw [show (i10).toInt.toNat = v3_16.toInt.toNat + 1 by omega, tm_in (by omega) (tbQ.f (by omega) (by omega) (by first | exact (by rcases q_28 with w | w | w; exfalso; omega; exact Or.inl w; exact Or.inr (Or.inl w)) | exact Or.inr (Or.inr (Or.inl q_37)) | exact Or.inr (Or.inr (Or.inr q_46)))), ← Int.add_assoc, ← hs_16]; show _ = _ + 0; omega)) (by omega) _ _ hP hD hS ls (lv_sub hl [0, 2, 1, 3] rfl)
                · have q_37 := bP.t p_r8 b_37
                  refine lv_aload_n hx hb dX11_twins_40 rfl (lv_at hl 3 rfl) ?_
                  refine lv_iload_n hx hb dX11_twins_41 rfl (lv_at hl 0 rfl) ?_
                  refine lv_iload_n hx hb dX11_twins_42 rfl (lv_at hl 1 rfl) ?_
                  refine PurI.cv (As := [.int v3_16, .int v2_4]) (kX11_doClash l g a_m I_m J_m v3_16 v2_4 hM (by omega) (by omega)) fx (gUV (uT _) u_1501 u_1502 u_1503 u_5 u_1504) rfl hdX11_doClash ⟨Nat.le_of_ble_eq_true rfl, Nat.le_of_ble_eq_true rfl⟩ hK hP [0, 1, 2, 3, 4, 5, 6, 7, 8, 9, 10, 11, 12, 13, 14, 15, 16, 17, 18, 19, 20, 21, 22] rfl rfl rfl rfl rfl hl.1 (Nat.le_of_ble_eq_true rfl) dX11_twins_43 (fun r11 p_r11 => ?_)
                  refine q_if_eq (tgt := 53) hx hb dX11_twins_46 (by decide) rfl (fun b_46 k_46 => ?_) (fun b_46 k_46 => ?_)
                  · have q_46 := bP.f p_r11 b_46
                    refine lv_iconst (v := 0) hx hb dX11_twins_53 (by decide) ?_
                    refine r_iadd hx hb dX11_twins_54 rfl (by decide : (0 : Int32).toInt = 0) (fun x12 e_x12 t_x12 => ?_)
                    try have t_x12 := t_x12 (by omega)
                    refine lv_istore_n (lv' := [(1, .int x12), (3, .int v3_16), (2, .int v2_4), (0, .ref (a_m 0))]) hx hb dX11_twins_55 rfl hl (by decide) rfl (fun ls hl => ?_)
                    refine r_iinc (lv' := fun i13 => [(3, .int i13), (1, .int x12), (2, .int v2_4), (0, .ref (a_m 0))]) hx hb dX11_twins_56 hl (k := 1) rfl (by decide) rfl (by decide) (fun _ => rfl) (fun i13 e_i13 t_i13 ls hl => ?_)
                    try have t_i13 := t_i13 (by omega)
                    refine lv_goto (tgt := 16) hx hb dX11_twins_59 (by decide) ?_
                    exact ih_16 x12 i13 (by omega) (by omega) (by first | (rw [show (i13).toInt.toNat = v3_16.toInt.toNat + 1 by omega, tm_in (by omega) (tbQ.t (by omega) (by omega) q_28.2.1 q_28.2.2 q_37.2 q_46.2), ← Int.add_assoc, ← hs_16]; show _ = _ + 1; omega) | (rw [show (i13).toInt.toNat = v3_16.toInt.toNat + 1 by omega, tm_in (by omega) (tbQ.f (by omega) (by omega) (by first | exact (by rcases q_28 with w | w | w; exfalso; omega; exact Or.inl w; exact Or.inr (Or.inl w)) | exact Or.inr (Or.inr (Or.inl q_37)) | exact Or.inr (Or.inr (Or.inr q_46)))), ← Int.add_assoc, ← hs_16]; show _ = _ + 0; omega)) (by omega) _ _ hP hD hS ls (lv_sub hl [0, 2, 1, 3] rfl)
                  · have q_46 := bP.t p_r11 b_46
                    refine lv_iconst (v := 1) hx hb dX11_twins_49 (by decide) ?_
                    refine lv_goto (tgt := 54) hx hb dX11_twins_50 (by decide) ?_
                    refine r_iadd hx hb dX11_twins_54 rfl (by decide : (1 : Int32).toInt = 1) (fun x14 e_x14 t_x14 => ?_)
                    try have t_x14 := t_x14 (by omega)
                    refine lv_istore_n (lv' := [(1, .int x14), (3, .int v3_16), (2, .int v2_4), (0, .ref (a_m 0))]) hx hb dX11_twins_55 rfl hl (by decide) rfl (fun ls hl => ?_)
                    refine r_iinc (lv' := fun i15 => [(3, .int i15), (1, .int x14), (2, .int v2_4), (0, .ref (a_m 0))]) hx hb dX11_twins_56 hl (k := 1) rfl (by decide) rfl (by decide) (fun _ => rfl) (fun i15 e_i15 t_i15 ls hl => ?_)
                    try have t_i15 := t_i15 (by omega)
                    refine lv_goto (tgt := 16) hx hb dX11_twins_59 (by decide) ?_
                    exact ih_16 x14 i15 (by omega) (by omega) (by first | (rw [show (i15).toInt.toNat = v3_16.toInt.toNat + 1 by omega, tm_in (by omega) (tbQ.t (by omega) (by omega) q_28.2.1 q_28.2.2 q_37.2 q_46.2), ← Int.add_assoc, ← hs_16]; show _ = _ + 1; omega) | (rw [show (i15).toInt.toNat = v3_16.toInt.toNat + 1 by omega, tm_in (by omega) (tbQ.f (by omega) (by omega) (by first | exact (by rcases q_28 with w | w | w; exfalso; omega; exact Or.inl w; exact Or.inr (Or.inl w)) | exact Or.inr (Or.inr (Or.inl q_37)) | exact Or.inr (Or.inr (Or.inr q_46)))), ← Int.add_assoc, ← hs_16]; show _ = _ + 0; omega)) (by omega) _ _ hP hD hS ls (lv_sub hl [0, 2, 1, 3] rfl)
        exact L16 ((25 - (0 : Int32).toInt) + 1).toNat v1_4 (0 : Int32) (by omega) (by omega) (by rw [lm0]; show _ = _ + 0; rw [Int.add_zero]; exact hs_4) (by omega) _ _ hP hD hS ls hl
  exact L4 ((25 - (0 : Int32).toInt) + 1).toNat (0 : Int32) (0 : Int32) (by omega) (by omega) (by rw [lm0]; rfl) (by omega) _ _ hP hD hS ls hl

set_option maxHeartbeats 4000000 in
set_option maxRecDepth 100000 in
theorem kX11_near (l : Launch) (g : gG) (a_m : Nat → Nat) (I_m : Nat → Nat → Int32) (J_m : Nat → Nat → Int64) (ra : Int32) (rb : Int32) (hM : MI I_m) : EffI l g yX11_near wsX11_near 2 [.ref (a_m 0), .int ra, .int rb] (wX11 g a_m I_m J_m) (fun (u : (Nat → Nat → Int32)) => wX11 g a_m u J_m) (fun r (u : (Nat → Nat → Int32)) => KK [] [1] I_m (u) ∧ ((¬ ((0 ≤ ra.toInt ∧ ra.toInt < (I_m 1 0).toInt) ∧ 0 ≤ rb.toInt ∧ rb.toInt < (I_m 1 0).toInt) ∧ r = -1) ∨ (((0 ≤ ra.toInt ∧ ra.toInt < (I_m 1 0).toInt) ∧ 0 ≤ rb.toInt ∧ rb.toInt < (I_m 1 0).toInt) ∧ ((((mC (I_m 1) ra.toInt.toNat).toInt ≠ (mC (I_m 1) rb.toInt.toNat).toInt) ∧ r = -1) ∨ (((mC (I_m 1) ra.toInt.toNat).toInt = (mC (I_m 1) rb.toInt.toNat).toInt) ∧ r.toInt = nrR (mL (I_m 1)) ra.toInt.toNat rb.toInt.toNat (mC (I_m 1) ra.toInt.toNat).toInt.toNat))))) := by
  refine EffI.st (cc := cX11_near) (maxL := 5) (by decide) rfl (Nat.le_of_ble_eq_true rfl) (fun p e s m args below meth c A Q ls fx hK hP hD hA hS hl hret => ?_)
  have hx := fx.1
  have hb := fx.2.1
  have hml := fx.2.2.1
  have hown := fx.2.2.2.1
  have hts := fx.2.2.2.2
  have hl : lv_has ls 5 [(0, .ref (a_m 0)), (1, .int ra), (2, .int rb)] := hl
  have hP : va_P g.1 vwCl (wX11 g a_m I_m J_m) s.heap := hP
  have lm1 : (-1 : Int32).toInt = -1 := by decide
  have lm0 : (0 : Int32).toInt = 0 := by decide
  have lm2 : (1 : Int32).toInt = 1 := by decide
  have lq7 : (7 : Int32).toInt = 7 := by decide
  have lq1 : (1 : Int32).toInt = 1 := by decide
  have hmn := hM.many rfl
  refine lv_aload_n hx hb dX11_near_0 rfl (lv_at hl 0 rfl) ?_
  refine lv_iload_n hx hb dX11_near_1 rfl (lv_at hl 1 rfl) ?_
  refine PurI.cv (As := [.int ra]) (kX11_isRule l g a_m I_m J_m ra hM) fx (gUV (uT _) u_804 u_805 u_806 u_5 u_807) rfl hdX11_isRule ⟨Nat.le_of_ble_eq_true rfl, Nat.le_of_ble_eq_true rfl⟩ hK hP [0, 1, 2, 3, 4, 5, 6, 7, 8, 9, 10, 11, 12, 13, 14, 15, 16, 17, 18, 19, 20, 21, 22] rfl rfl rfl rfl rfl hl.1 (Nat.le_of_ble_eq_true rfl) dX11_near_2 (fun r1 p_r1 => ?_)
  refine q_if_eq (tgt := 16) hx hb dX11_near_5 (by decide) rfl (fun b_5 k_5 => ?_) (fun b_5 k_5 => ?_)
  · have q_5 := bP.f p_r1 b_5
    refine lv_aload_n hx hb dX11_near_16 rfl (lv_at hl 0 rfl) ?_
    refine lv_iconst (v := 1) hx hb dX11_near_17 (by decide) ?_
    refine EffI.cv (wr := ([])) (w' := fun u3 => wX11 g a_m u3 J_m) (As := [.int (1 : Int32)]) (kX11_refuse l g a_m I_m J_m (1 : Int32)) fx (gUV (uT _) u_536 u_537 u_538 u_5 u_539) rfl hdX11_refuse ⟨Nat.le_of_ble_eq_true rfl, Nat.le_of_ble_eq_true rfl⟩ hK hP hD hS hA [0, 1, 2, 3, 4, 5, 6, 7, 8, 9, 10, 11, 12, 13, 14, 15, 16, 17, 18, 19, 20, 21, 22] [] [0, 1, 2, 3, 4, 5, 6, 7, 8, 9, 10, 11, 12, 13, 14, 15, 16, 17, 18, 19, 20, 21, 22] rfl rfl rfl rfl (by decide) rfl (fun _ => rfl) rfl rfl rfl rfl hl.1 (Nat.le_of_ble_eq_true rfl) dX11_near_18 (fun r2 u3 H locs p_r2 hP hD hS => ?_)
    have hP : va_P g.1 vwCl (wX11 g a_m u3 J_m) H := hP
    have hD : va_D A (wX11 g a_m u3 J_m) := hD
    refine hret 21 ls r2 _ _ u3 dX11_near_21 hS hP hD ?_
    exact ⟨(KK.st (KK.rf I_m) p_r2.2 (by decide)), Or.inl ⟨by omega, p_r2.1⟩⟩
  · have q_5 := bP.t p_r1 b_5
    refine lv_aload_n hx hb dX11_near_8 rfl (lv_at hl 0 rfl) ?_
    refine lv_iload_n hx hb dX11_near_9 rfl (lv_at hl 2 rfl) ?_
    refine PurI.cv (As := [.int rb]) (kX11_isRule l g a_m I_m J_m rb hM) fx (gUV (uT _) u_804 u_805 u_806 u_5 u_807) rfl hdX11_isRule ⟨Nat.le_of_ble_eq_true rfl, Nat.le_of_ble_eq_true rfl⟩ hK hP [0, 1, 2, 3, 4, 5, 6, 7, 8, 9, 10, 11, 12, 13, 14, 15, 16, 17, 18, 19, 20, 21, 22] rfl rfl rfl rfl rfl hl.1 (Nat.le_of_ble_eq_true rfl) dX11_near_10 (fun r4 p_r4 => ?_)
    refine q_if_ne (tgt := 22) hx hb dX11_near_13 (by decide) rfl (fun b_13 k_13 => ?_) (fun b_13 k_13 => ?_)
    · have q_13 := bP.t p_r4 b_13
      refine lv_aload_n hx hb dX11_near_22 rfl (lv_at hl 0 rfl) ?_
      refine lv_iload_n hx hb dX11_near_23 rfl (lv_at hl 1 rfl) ?_
      refine PurI.cv (As := [.int ra]) (kX11_cellsOf l g a_m I_m J_m ra hM (by omega)) fx (gUV (uT _) u_826 u_827 u_828 u_5 u_829) rfl hdX11_cellsOf ⟨Nat.le_of_ble_eq_true rfl, Nat.le_of_ble_eq_true rfl⟩ hK hP [0, 1, 2, 3, 4, 5, 6, 7, 8, 9, 10, 11, 12, 13, 14, 15, 16, 17, 18, 19, 20, 21, 22] rfl rfl rfl rfl rfl hl.1 (Nat.le_of_ble_eq_true rfl) dX11_near_24 (fun r5 p_r5 => ?_)
      refine lv_aload_n hx hb dX11_near_27 rfl (lv_at hl 0 rfl) ?_
      refine lv_iload_n hx hb dX11_near_28 rfl (lv_at hl 2 rfl) ?_
      refine PurI.cv (As := [.int rb]) (kX11_cellsOf l g a_m I_m J_m rb hM (by omega)) fx (gUV (uT _) u_826 u_827 u_828 u_5 u_829) rfl hdX11_cellsOf ⟨Nat.le_of_ble_eq_true rfl, Nat.le_of_ble_eq_true rfl⟩ hK hP [0, 1, 2, 3, 4, 5, 6, 7, 8, 9, 10, 11, 12, 13, 14, 15, 16, 17, 18, 19, 20, 21, 22] rfl rfl rfl rfl rfl hl.1 (Nat.le_of_ble_eq_true rfl) dX11_near_29 (fun r6 p_r6 => ?_)
      refine q_icmp_eq (tgt := 42) hx hb dX11_near_32 (by decide) rfl rfl (fun k_32 => ?_) (fun k_32 => ?_)
      · refine lv_iconst (v := 0) hx hb dX11_near_42 (by decide) ?_
        refine lv_istore_n (lv' := [(3, .int (0 : Int32)), (0, .ref (a_m 0)), (1, .int ra), (2, .int rb)]) hx hb dX11_near_43 rfl hl (by decide) rfl (fun ls hl => ?_)
        refine lv_iconst (v := 0) hx hb dX11_near_44 (by decide) ?_
        refine lv_istore (lv' := [(4, .int (0 : Int32)), (3, .int (0 : Int32)), (0, .ref (a_m 0)), (1, .int ra), (2, .int rb)]) hx hb dX11_near_45 hl (by decide) rfl (fun ls hl => ?_)
        have L47 : ∀ (nn : Nat) (v3_47 : Int32) (v4_47 : Int32), (hv_47 : 0 ≤ v4_47.toInt ∧ v4_47.toInt ≤ 3) → (hb_47 : 0 ≤ v3_47.toInt ∧ v3_47.toInt ≤ 6 * v4_47.toInt) → (hs_47 : v3_47.toInt = nrR (mL (I_m 1)) ra.toInt.toNat rb.toInt.toNat v4_47.toInt.toNat) → (h4_47 : v4_47.toInt ≤ (I_m 1 (12 * ra.toInt.toNat + 19)).toInt) → ((4 - v4_47.toInt) < (nn : Int)) → ∀ (H : Heap) (locs : List Loc), va_P g.1 vwCl (wX11 g a_m I_m J_m) H → va_D A (wX11 g a_m I_m J_m) → va_S A s.heap H locs → ∀ ls : Array Slot, lv_has ls 5 [(4, .int v4_47), (3, .int v3_47), (0, .ref (a_m 0)), (1, .int ra), (2, .int rb)] → W p l e (rm 2) s m args below meth c H locs 0 0 Q (F0 m 47 ls []) := by
          intro n_47
          induction n_47 with
          | zero =>
            intro v3_47 v4_47 hv_47 hb_47 hs_47 h4_47 hms_47 H locs hP hD hS ls hl
            exfalso; omega
          | succ n_47 ih_47 =>
            intro v3_47 v4_47 hv_47 hb_47 hs_47 h4_47 hms_47 H locs hP hD hS ls hl
            refine lv_iload hx hb dX11_near_47 (lv_at hl 0 rfl) ?_
            refine lv_aload_n hx hb dX11_near_49 rfl (lv_at hl 2 rfl) ?_
            refine lv_iload_n hx hb dX11_near_50 rfl (lv_at hl 3 rfl) ?_
            refine PurI.cv (As := [.int ra]) (kX11_cellsOf l g a_m I_m J_m ra hM (by omega)) fx (gUV (uT _) u_826 u_827 u_828 u_5 u_829) rfl hdX11_cellsOf ⟨Nat.le_of_ble_eq_true rfl, Nat.le_of_ble_eq_true rfl⟩ hK hP [0, 1, 2, 3, 4, 5, 6, 7, 8, 9, 10, 11, 12, 13, 14, 15, 16, 17, 18, 19, 20, 21, 22] rfl rfl rfl rfl rfl hl.1 (Nat.le_of_ble_eq_true rfl) dX11_near_51 (fun r7 p_r7 => ?_)
            refine q_icmp_ge (tgt := 84) hx hb dX11_near_54 (by decide) rfl rfl (fun k_54 => ?_) (fun k_54 => ?_)
            · refine lv_aload_n hx hb dX11_near_84 rfl (lv_at hl 2 rfl) ?_
              refine lv_iload_n hx hb dX11_near_85 rfl (lv_at hl 1 rfl) ?_
              refine EffI.cv (wr := ([])) (w' := fun u9 => wX11 g a_m u9 J_m) (As := [.int v3_47]) (kX11_gives l g a_m I_m J_m v3_47) fx (gUV (uT _) u_585 u_586 u_587 u_5 u_588) rfl hdX11_gives ⟨Nat.le_of_ble_eq_true rfl, Nat.le_of_ble_eq_true rfl⟩ hK hP hD hS hA [0, 1, 2, 3, 4, 5, 6, 7, 8, 9, 10, 11, 12, 13, 14, 15, 16, 17, 18, 19, 20, 21, 22] [] [0, 1, 2, 3, 4, 5, 6, 7, 8, 9, 10, 11, 12, 13, 14, 15, 16, 17, 18, 19, 20, 21, 22] rfl rfl rfl rfl (by decide) rfl (fun _ => rfl) rfl rfl rfl rfl hl.1 (Nat.le_of_ble_eq_true rfl) dX11_near_86 (fun r8 u9 H locs p_r8 hP hD hS => ?_)
              have hP : va_P g.1 vwCl (wX11 g a_m u9 J_m) H := hP
              have hD : va_D A (wX11 g a_m u9 J_m) := hD
              refine hret 89 ls r8 _ _ u9 dX11_near_89 hS hP hD ?_
              exact ⟨(KK.st (KK.rf I_m) p_r8.2 (by decide)), Or.inr ⟨by omega, Or.inr ⟨by show (I_m 1 (12 * ra.toInt.toNat + 19)).toInt = (I_m 1 (12 * rb.toInt.toNat + 19)).toInt; omega, by rw [p_r8.1, hs_47]; show _ = nrR (mL (I_m 1)) ra.toInt.toNat rb.toInt.toNat ((I_m 1 (12 * ra.toInt.toNat + 19)).toInt).toNat; congr 1; omega⟩⟩⟩
            · refine lv_iload_n hx hb dX11_near_57 rfl (lv_at hl 1 rfl) ?_
              refine lv_aload_n hx hb dX11_near_58 rfl (lv_at hl 2 rfl) ?_
              refine lv_iload_n hx hb dX11_near_59 rfl (lv_at hl 3 rfl) ?_
              refine lv_iload hx hb dX11_near_60 (lv_at hl 0 rfl) ?_
              refine PurI.cv (As := [.int ra, .int v4_47]) (kX11_cellAt l g a_m I_m J_m ra v4_47 hM (by omega) (by omega)) fx (gUV (uT _) u_830 u_831 u_832 u_5 u_833) rfl hdX11_cellAt ⟨Nat.le_of_ble_eq_true rfl, Nat.le_of_ble_eq_true rfl⟩ hK hP [0, 1, 2, 3, 4, 5, 6, 7, 8, 9, 10, 11, 12, 13, 14, 15, 16, 17, 18, 19, 20, 21, 22] rfl rfl rfl rfl rfl hl.1 (Nat.le_of_ble_eq_true rfl) dX11_near_62 (fun r10 p_r10 => ?_)
              have hca := p_r10.1
              refine lv_aload_n hx hb dX11_near_65 rfl (lv_at hl 2 rfl) ?_
              refine lv_iload_n hx hb dX11_near_66 rfl (lv_at hl 4 rfl) ?_
              refine lv_iload hx hb dX11_near_67 (lv_at hl 0 rfl) ?_
              refine PurI.cv (As := [.int rb, .int v4_47]) (kX11_cellAt l g a_m I_m J_m rb v4_47 hM (by omega) (by omega)) fx (gUV (uT _) u_830 u_831 u_832 u_5 u_833) rfl hdX11_cellAt ⟨Nat.le_of_ble_eq_true rfl, Nat.le_of_ble_eq_true rfl⟩ hK hP [0, 1, 2, 3, 4, 5, 6, 7, 8, 9, 10, 11, 12, 13, 14, 15, 16, 17, 18, 19, 20, 21, 22] rfl rfl rfl rfl rfl hl.1 (Nat.le_of_ble_eq_true rfl) dX11_near_69 (fun r11 p_r11 => ?_)
              have hcb := p_r11.1
              refine lv_ixor hx hb dX11_near_72 ?_
              refine q_nm (fun x12 e_x12 => ?_)
              have d_x12 := xor_pos e_x12 hca hcb
              have d63_x12 := xor_63 e_x12 hca hcb
              have r63_x12 := popI.rng x12
              refine PurI.cs (C := RX11) (As := [.int x12]) (kX11_bits l g x12 (by omega)) fx (gUS (uT _) u_1009 u_1010 u_5 u_1011) rfl hdX11_bits ⟨Nat.le_of_ble_eq_true rfl, Nat.le_of_ble_eq_true rfl⟩ hK hP [] rfl rfl rfl hl.1 (Nat.le_of_ble_eq_true rfl) dX11_near_73 (fun r13 p_r13 => ?_)
              have hb73 := p_r13 (by omega)
              refine r_iadd hx hb dX11_near_76 rfl rfl (fun x14 e_x14 t_x14 => ?_)
              try have t_x14 := t_x14 (by omega)
              refine lv_istore_n (lv' := [(3, .int x14), (4, .int v4_47), (0, .ref (a_m 0)), (1, .int ra), (2, .int rb)]) hx hb dX11_near_77 rfl hl (by decide) rfl (fun ls hl => ?_)
              refine r_iinc (lv' := fun i15 => [(4, .int i15), (3, .int x14), (0, .ref (a_m 0)), (1, .int ra), (2, .int rb)]) hx hb dX11_near_78 hl (k := 1) rfl (by decide) rfl (by decide) (fun _ => rfl) (fun i15 e_i15 t_i15 ls hl => ?_)
              try have t_i15 := t_i15 (by omega)
              refine lv_goto (tgt := 47) hx hb dX11_near_81 (by decide) ?_
              exact ih_47 x14 i15 (by omega) (by omega) (by rw [show (i15).toInt.toNat = v4_47.toInt.toNat + 1 by omega]; show _ = nrR (mL (I_m 1)) ra.toInt.toNat rb.toInt.toNat v4_47.toInt.toNat + popI (I_m 1 (12 * ra.toInt.toNat + (20 + v4_47.toInt.toNat)) ^^^ I_m 1 (12 * rb.toInt.toNat + (20 + v4_47.toInt.toNat))); rw [← hs_47, ← p_r10.2, ← p_r11.2, ← e_x12]; omega) (by omega) (by omega) _ _ hP hD hS ls hl
        exact L47 ((4 - (0 : Int32).toInt) + 1).toNat (0 : Int32) (0 : Int32) (by omega) (by omega) (by rw [lm0]; rfl) (by omega) (by omega) _ _ hP hD hS ls hl
      · refine lv_aload_n hx hb dX11_near_35 rfl (lv_at hl 0 rfl) ?_
        refine lv_bipush (v := 7) hx hb dX11_near_36 (by decide) ?_
        refine EffI.cv (wr := ([])) (w' := fun u17 => wX11 g a_m u17 J_m) (As := [.int (7 : Int32)]) (kX11_refuse l g a_m I_m J_m (7 : Int32)) fx (gUV (uT _) u_536 u_537 u_538 u_5 u_539) rfl hdX11_refuse ⟨Nat.le_of_ble_eq_true rfl, Nat.le_of_ble_eq_true rfl⟩ hK hP hD hS hA [0, 1, 2, 3, 4, 5, 6, 7, 8, 9, 10, 11, 12, 13, 14, 15, 16, 17, 18, 19, 20, 21, 22] [] [0, 1, 2, 3, 4, 5, 6, 7, 8, 9, 10, 11, 12, 13, 14, 15, 16, 17, 18, 19, 20, 21, 22] rfl rfl rfl rfl (by decide) rfl (fun _ => rfl) rfl rfl rfl rfl hl.1 (Nat.le_of_ble_eq_true rfl) dX11_near_38 (fun r16 u17 H locs p_r16 hP hD hS => ?_)
        have hP : va_P g.1 vwCl (wX11 g a_m u17 J_m) H := hP
        have hD : va_D A (wX11 g a_m u17 J_m) := hD
        refine hret 41 ls r16 _ _ u17 dX11_near_41 hS hP hD ?_
        exact ⟨(KK.st (KK.rf I_m) p_r16.2 (by decide)), Or.inr ⟨by omega, Or.inl ⟨by show (I_m 1 (12 * ra.toInt.toNat + 19)).toInt ≠ (I_m 1 (12 * rb.toInt.toNat + 19)).toInt; omega, p_r16.1⟩⟩⟩
    · have q_13 := bP.f p_r4 b_13
      refine lv_aload_n hx hb dX11_near_16 rfl (lv_at hl 0 rfl) ?_
      refine lv_iconst (v := 1) hx hb dX11_near_17 (by decide) ?_
      refine EffI.cv (wr := ([])) (w' := fun u19 => wX11 g a_m u19 J_m) (As := [.int (1 : Int32)]) (kX11_refuse l g a_m I_m J_m (1 : Int32)) fx (gUV (uT _) u_536 u_537 u_538 u_5 u_539) rfl hdX11_refuse ⟨Nat.le_of_ble_eq_true rfl, Nat.le_of_ble_eq_true rfl⟩ hK hP hD hS hA [0, 1, 2, 3, 4, 5, 6, 7, 8, 9, 10, 11, 12, 13, 14, 15, 16, 17, 18, 19, 20, 21, 22] [] [0, 1, 2, 3, 4, 5, 6, 7, 8, 9, 10, 11, 12, 13, 14, 15, 16, 17, 18, 19, 20, 21, 22] rfl rfl rfl rfl (by decide) rfl (fun _ => rfl) rfl rfl rfl rfl hl.1 (Nat.le_of_ble_eq_true rfl) dX11_near_18 (fun r18 u19 H locs p_r18 hP hD hS => ?_)
      have hP : va_P g.1 vwCl (wX11 g a_m u19 J_m) H := hP
      have hD : va_D A (wX11 g a_m u19 J_m) := hD
      refine hret 21 ls r18 _ _ u19 dX11_near_21 hS hP hD ?_
      exact ⟨(KK.st (KK.rf I_m) p_r18.2 (by decide)), Or.inl ⟨by omega, p_r18.1⟩⟩

set_option maxHeartbeats 4000000 in
set_option maxRecDepth 100000 in
theorem kX11_clash (l : Launch) (g : gG) (a_m : Nat → Nat) (I_m : Nat → Nat → Int32) (J_m : Nat → Nat → Int64) (ra : Int32) (rb : Int32) (hM : MI I_m) : EffI l g yX11_clash wsX11_clash 3 [.ref (a_m 0), .int ra, .int rb] (wX11 g a_m I_m J_m) (fun (u : (Nat → Nat → Int32)) => wX11 g a_m u J_m) (fun r (u : (Nat → Nat → Int32)) => KK [] [1] I_m (u) ∧ ((¬ ((0 ≤ ra.toInt ∧ ra.toInt < (I_m 1 0).toInt) ∧ 0 ≤ rb.toInt ∧ rb.toInt < (I_m 1 0).toInt) ∧ r = -1) ∨ (((0 ≤ ra.toInt ∧ ra.toInt < (I_m 1 0).toInt) ∧ 0 ≤ rb.toInt ∧ rb.toInt < (I_m 1 0).toInt) ∧ r.toInt = bI (begB (mC (I_m 1)) (mL (I_m 1)) ra.toInt.toNat rb.toInt.toNat)))) := by
  refine EffI.st (cc := cX11_clash) (maxL := 3) (by decide) rfl (Nat.le_of_ble_eq_true rfl) (fun p e s m args below meth c A Q ls fx hK hP hD hA hS hl hret => ?_)
  have hx := fx.1
  have hb := fx.2.1
  have hml := fx.2.2.1
  have hown := fx.2.2.2.1
  have hts := fx.2.2.2.2
  have hl : lv_has ls 3 [(0, .ref (a_m 0)), (1, .int ra), (2, .int rb)] := hl
  have hP : va_P g.1 vwCl (wX11 g a_m I_m J_m) s.heap := hP
  have lm1 : (-1 : Int32).toInt = -1 := by decide
  have lm0 : (0 : Int32).toInt = 0 := by decide
  have lm2 : (1 : Int32).toInt = 1 := by decide
  have lq1 : (1 : Int32).toInt = 1 := by decide
  have hmn := hM.many rfl
  refine lv_aload_n hx hb dX11_clash_0 rfl (lv_at hl 0 rfl) ?_
  refine lv_iload_n hx hb dX11_clash_1 rfl (lv_at hl 1 rfl) ?_
  refine PurI.cv (As := [.int ra]) (kX11_isRule l g a_m I_m J_m ra hM) fx (gUV (uT _) u_804 u_805 u_806 u_5 u_807) rfl hdX11_isRule ⟨Nat.le_of_ble_eq_true rfl, Nat.le_of_ble_eq_true rfl⟩ hK hP [0, 1, 2, 3, 4, 5, 6, 7, 8, 9, 10, 11, 12, 13, 14, 15, 16, 17, 18, 19, 20, 21, 22] rfl rfl rfl rfl rfl hl.1 (Nat.le_of_ble_eq_true rfl) dX11_clash_2 (fun r1 p_r1 => ?_)
  refine q_if_eq (tgt := 37) hx hb dX11_clash_5 (by decide) rfl (fun b_5 k_5 => ?_) (fun b_5 k_5 => ?_)
  · have q_5 := bP.f p_r1 b_5
    refine lv_aload_n hx hb dX11_clash_37 rfl (lv_at hl 0 rfl) ?_
    refine lv_iconst (v := 1) hx hb dX11_clash_38 (by decide) ?_
    refine EffI.cv (wr := ([])) (w' := fun u3 => wX11 g a_m u3 J_m) (As := [.int (1 : Int32)]) (kX11_refuse l g a_m I_m J_m (1 : Int32)) fx (gUV (uT _) u_536 u_537 u_538 u_5 u_539) rfl hdX11_refuse ⟨Nat.le_of_ble_eq_true rfl, Nat.le_of_ble_eq_true rfl⟩ hK hP hD hS hA [0, 1, 2, 3, 4, 5, 6, 7, 8, 9, 10, 11, 12, 13, 14, 15, 16, 17, 18, 19, 20, 21, 22] [] [0, 1, 2, 3, 4, 5, 6, 7, 8, 9, 10, 11, 12, 13, 14, 15, 16, 17, 18, 19, 20, 21, 22] rfl rfl rfl rfl (by decide) rfl (fun _ => rfl) rfl rfl rfl rfl hl.1 (Nat.le_of_ble_eq_true rfl) dX11_clash_39 (fun r2 u3 H locs p_r2 hP hD hS => ?_)
    have hP : va_P g.1 vwCl (wX11 g a_m u3 J_m) H := hP
    have hD : va_D A (wX11 g a_m u3 J_m) := hD
    refine hret 42 ls r2 _ _ u3 dX11_clash_42 hS hP hD ?_
    exact ⟨(KK.st (KK.rf I_m) p_r2.2 (by decide)), (by exact Or.inl ⟨by omega, p_r2.1⟩)⟩
  · have q_5 := bP.t p_r1 b_5
    refine lv_aload_n hx hb dX11_clash_8 rfl (lv_at hl 0 rfl) ?_
    refine lv_iload_n hx hb dX11_clash_9 rfl (lv_at hl 2 rfl) ?_
    refine PurI.cv (As := [.int rb]) (kX11_isRule l g a_m I_m J_m rb hM) fx (gUV (uT _) u_804 u_805 u_806 u_5 u_807) rfl hdX11_isRule ⟨Nat.le_of_ble_eq_true rfl, Nat.le_of_ble_eq_true rfl⟩ hK hP [0, 1, 2, 3, 4, 5, 6, 7, 8, 9, 10, 11, 12, 13, 14, 15, 16, 17, 18, 19, 20, 21, 22] rfl rfl rfl rfl rfl hl.1 (Nat.le_of_ble_eq_true rfl) dX11_clash_10 (fun r4 p_r4 => ?_)
    refine q_if_eq (tgt := 37) hx hb dX11_clash_13 (by decide) rfl (fun b_13 k_13 => ?_) (fun b_13 k_13 => ?_)
    · have q_13 := bP.f p_r4 b_13
      refine lv_aload_n hx hb dX11_clash_37 rfl (lv_at hl 0 rfl) ?_
      refine lv_iconst (v := 1) hx hb dX11_clash_38 (by decide) ?_
      refine EffI.cv (wr := ([])) (w' := fun u6 => wX11 g a_m u6 J_m) (As := [.int (1 : Int32)]) (kX11_refuse l g a_m I_m J_m (1 : Int32)) fx (gUV (uT _) u_536 u_537 u_538 u_5 u_539) rfl hdX11_refuse ⟨Nat.le_of_ble_eq_true rfl, Nat.le_of_ble_eq_true rfl⟩ hK hP hD hS hA [0, 1, 2, 3, 4, 5, 6, 7, 8, 9, 10, 11, 12, 13, 14, 15, 16, 17, 18, 19, 20, 21, 22] [] [0, 1, 2, 3, 4, 5, 6, 7, 8, 9, 10, 11, 12, 13, 14, 15, 16, 17, 18, 19, 20, 21, 22] rfl rfl rfl rfl (by decide) rfl (fun _ => rfl) rfl rfl rfl rfl hl.1 (Nat.le_of_ble_eq_true rfl) dX11_clash_39 (fun r5 u6 H locs p_r5 hP hD hS => ?_)
      have hP : va_P g.1 vwCl (wX11 g a_m u6 J_m) H := hP
      have hD : va_D A (wX11 g a_m u6 J_m) := hD
      refine hret 42 ls r5 _ _ u6 dX11_clash_42 hS hP hD ?_
      exact ⟨(KK.st (KK.rf I_m) p_r5.2 (by decide)), (by exact Or.inl ⟨by omega, p_r5.1⟩)⟩
    · have q_13 := bP.t p_r4 b_13
      refine lv_aload_n hx hb dX11_clash_16 rfl (lv_at hl 0 rfl) ?_
      refine lv_aload_n hx hb dX11_clash_17 rfl (lv_at hl 0 rfl) ?_
      refine lv_iload_n hx hb dX11_clash_18 rfl (lv_at hl 1 rfl) ?_
      refine lv_iload_n hx hb dX11_clash_19 rfl (lv_at hl 2 rfl) ?_
      refine PurI.cv (As := [.int ra, .int rb]) (kX11_doClash l g a_m I_m J_m ra rb hM (by omega) (by omega)) fx (gUV (uT _) u_1501 u_1502 u_1503 u_5 u_1504) rfl hdX11_doClash ⟨Nat.le_of_ble_eq_true rfl, Nat.le_of_ble_eq_true rfl⟩ hK hP [0, 1, 2, 3, 4, 5, 6, 7, 8, 9, 10, 11, 12, 13, 14, 15, 16, 17, 18, 19, 20, 21, 22] rfl rfl rfl rfl rfl hl.1 (Nat.le_of_ble_eq_true rfl) dX11_clash_20 (fun r7 p_r7 => ?_)
      refine q_if_eq (tgt := 30) hx hb dX11_clash_23 (by decide) rfl (fun b_23 k_23 => ?_) (fun b_23 k_23 => ?_)
      · have q_23 := bP.f p_r7 b_23
        refine lv_iconst (v := 0) hx hb dX11_clash_30 (by decide) ?_
        refine EffI.cv (wr := ([])) (w' := fun u9 => wX11 g a_m u9 J_m) (As := [.int (0 : Int32)]) (kX11_gives l g a_m I_m J_m (0 : Int32)) fx (gUV (uT _) u_585 u_586 u_587 u_5 u_588) rfl hdX11_gives ⟨Nat.le_of_ble_eq_true rfl, Nat.le_of_ble_eq_true rfl⟩ hK hP hD hS hA [0, 1, 2, 3, 4, 5, 6, 7, 8, 9, 10, 11, 12, 13, 14, 15, 16, 17, 18, 19, 20, 21, 22] [] [0, 1, 2, 3, 4, 5, 6, 7, 8, 9, 10, 11, 12, 13, 14, 15, 16, 17, 18, 19, 20, 21, 22] rfl rfl rfl rfl (by decide) rfl (fun _ => rfl) rfl rfl rfl rfl hl.1 (Nat.le_of_ble_eq_true rfl) dX11_clash_31 (fun r8 u9 H locs p_r8 hP hD hS => ?_)
        have hP : va_P g.1 vwCl (wX11 g a_m u9 J_m) H := hP
        have hD : va_D A (wX11 g a_m u9 J_m) := hD
        refine lv_goto (tgt := 42) hx hb dX11_clash_34 (by decide) ?_
        refine hret 42 ls r8 _ _ u9 dX11_clash_42 hS hP hD ?_
        exact ⟨(KK.st (KK.rf I_m) p_r8.2 (by decide)), (by first | exact Or.inr ⟨by omega, by rw [p_r8.1, bI.t q_23.2]; rfl⟩ | exact Or.inr ⟨by omega, by rw [p_r8.1, bI.f q_23]; rfl⟩)⟩
      · have q_23 := bP.t p_r7 b_23
        refine lv_iconst (v := 1) hx hb dX11_clash_26 (by decide) ?_
        refine lv_goto (tgt := 31) hx hb dX11_clash_27 (by decide) ?_
        refine EffI.cv (wr := ([])) (w' := fun u11 => wX11 g a_m u11 J_m) (As := [.int (1 : Int32)]) (kX11_gives l g a_m I_m J_m (1 : Int32)) fx (gUV (uT _) u_585 u_586 u_587 u_5 u_588) rfl hdX11_gives ⟨Nat.le_of_ble_eq_true rfl, Nat.le_of_ble_eq_true rfl⟩ hK hP hD hS hA [0, 1, 2, 3, 4, 5, 6, 7, 8, 9, 10, 11, 12, 13, 14, 15, 16, 17, 18, 19, 20, 21, 22] [] [0, 1, 2, 3, 4, 5, 6, 7, 8, 9, 10, 11, 12, 13, 14, 15, 16, 17, 18, 19, 20, 21, 22] rfl rfl rfl rfl (by decide) rfl (fun _ => rfl) rfl rfl rfl rfl hl.1 (Nat.le_of_ble_eq_true rfl) dX11_clash_31 (fun r10 u11 H locs p_r10 hP hD hS => ?_)
        have hP : va_P g.1 vwCl (wX11 g a_m u11 J_m) H := hP
        have hD : va_D A (wX11 g a_m u11 J_m) := hD
        refine lv_goto (tgt := 42) hx hb dX11_clash_34 (by decide) ?_
        refine hret 42 ls r10 _ _ u11 dX11_clash_42 hS hP hD ?_
        exact ⟨(KK.st (KK.rf I_m) p_r10.2 (by decide)), (by first | exact Or.inr ⟨by omega, by rw [p_r10.1, bI.t q_23.2]; rfl⟩ | exact Or.inr ⟨by omega, by rw [p_r10.1, bI.f q_23]; rfl⟩)⟩

set_option maxHeartbeats 4000000 in
set_option maxRecDepth 100000 in
theorem kX11_clashes (l : Launch) (g : gG) (a_m : Nat → Nat) (I_m : Nat → Nat → Int32) (J_m : Nat → Nat → Int64) (hM : MI I_m) : EffI l g yX11_clashes wsX11_clashes 3 [.ref (a_m 0)] (wX11 g a_m I_m J_m) (fun (u : (Nat → Nat → Int32)) => wX11 g a_m u J_m) (fun r (u : (Nat → Nat → Int32)) => KK [] [1] I_m (u) ∧ r.toInt = sumN (clR (I_m 1 6) (mC (I_m 1)) (mL (I_m 1)) (I_m 1 0).toInt.toNat) (I_m 1 0).toInt.toNat) := by
  refine EffI.st (cc := cX11_clashes) (maxL := 4) (by decide) rfl (Nat.le_of_ble_eq_true rfl) (fun p e s m args below meth c A Q ls fx hK hP hD hA hS hl hret => ?_)
  have hx := fx.1
  have hb := fx.2.1
  have hml := fx.2.2.1
  have hown := fx.2.2.2.1
  have hts := fx.2.2.2.2
  have hl : lv_has ls 4 [(0, .ref (a_m 0))] := hl
  have hP : va_P g.1 vwCl (wX11 g a_m I_m J_m) s.heap := hP
  have hf_7 := hts _ (uT _ _ u_170)
  have hi_X11 : ∀ w ∈ wsX110, w.before args s = true := fun w h => hts w (uT _ w (u_wsX110 w h))
  have lm1 : (-1 : Int32).toInt = -1 := by decide
  have lm0 : (0 : Int32).toInt = 0 := by decide
  have lm2 : (1 : Int32).toInt = 1 := by decide
  have lq1 : (1 : Int32).toInt = 1 := by decide
  have hmn := hM.many rfl
  refine lv_iconst (v := 0) hx hb dX11_clashes_0 (by decide) ?_
  refine lv_istore_n (lv' := [(1, .int (0 : Int32)), (0, .ref (a_m 0))]) hx hb dX11_clashes_1 rfl hl (by decide) rfl (fun ls hl => ?_)
  refine lv_iconst (v := 0) hx hb dX11_clashes_2 (by decide) ?_
  refine lv_istore_n (lv' := [(2, .int (0 : Int32)), (1, .int (0 : Int32)), (0, .ref (a_m 0))]) hx hb dX11_clashes_3 rfl hl (by decide) rfl (fun ls hl => ?_)
  have L4 : ∀ (nn : Nat) (v1_4 : Int32) (v2_4 : Int32), (hv_4 : 0 ≤ v2_4.toInt ∧ v2_4.toInt ≤ (I_m 1 0).toInt) → (hb_4 : 0 ≤ v1_4.toInt ∧ v1_4.toInt ≤ 24 * v2_4.toInt) → (hs_4 : v1_4.toInt = sumN (clR (I_m 1 6) (mC (I_m 1)) (mL (I_m 1)) (I_m 1 0).toInt.toNat) v2_4.toInt.toNat) → ((25 - v2_4.toInt) < (nn : Int)) → ∀ (H : Heap) (locs : List Loc), va_P g.1 vwCl (wX11 g a_m I_m J_m) H → va_D A (wX11 g a_m I_m J_m) → va_S A s.heap H locs → ∀ ls : Array Slot, lv_has ls 4 [(2, .int v2_4), (1, .int v1_4), (0, .ref (a_m 0))] → W p l e (rm 3) s m args below meth c H locs 0 0 Q (F0 m 4 ls []) := by
    intro n_4
    induction n_4 with
    | zero =>
      intro v1_4 v2_4 hv_4 hb_4 hs_4 hms_4 H locs hP hD hS ls hl
      exfalso; omega
    | succ n_4 ih_4 =>
      intro v1_4 v2_4 hv_4 hb_4 hs_4 hms_4 H locs hP hD hS ls hl
      refine lv_iload_n hx hb dX11_clashes_4 rfl (lv_at hl 0 rfl) ?_
      refine lv_aload_n hx hb dX11_clashes_5 rfl (lv_at hl 2 rfl) ?_
      refine va_get (D := g.1) (ci := 11) (v := .ref (a_m 1)) (C := RX11) (T := TX11) (N := 46) hx hb hi_X11 (fun _ h => h) hown hK.1 hP 0 rfl rfl 0 (by decide) hf_7 (fun _ h9 => h9) rfl dX11_clashes_6 ?_
      refine lv_iconst (v := 0) hx hb dX11_clashes_9 (by decide) ?_
      have n_10 : vp_in (0 : Int32) 19800 := (t_in (by decide))
      refine va_iald hx hb hK.1 hP 1 0 rfl rfl n_10 dX11_clashes_10 ?_
      refine q_nm (fun x1 e_x1 => ?_)
      have e_x1 : x1 = (I_m 1) 0 := e_x1
      have g_x1 : x1.toInt = ((I_m 1) 0).toInt := congrArg _ e_x1
      have f_x1 := MI.many hM e_x1
      refine q_icmp_ge (tgt := 64) hx hb dX11_clashes_11 (by decide) rfl rfl (fun k_11 => ?_) (fun k_11 => ?_)
      · refine lv_aload_n hx hb dX11_clashes_64 rfl (lv_at hl 2 rfl) ?_
        refine lv_iload_n hx hb dX11_clashes_65 rfl (lv_at hl 1 rfl) ?_
        refine EffI.cv (wr := ([])) (w' := fun u3 => wX11 g a_m u3 J_m) (As := [.int v1_4]) (kX11_gives l g a_m I_m J_m v1_4) fx (gUV (uT _) u_585 u_586 u_587 u_5 u_588) rfl hdX11_gives ⟨Nat.le_of_ble_eq_true rfl, Nat.le_of_ble_eq_true rfl⟩ hK hP hD hS hA [0, 1, 2, 3, 4, 5, 6, 7, 8, 9, 10, 11, 12, 13, 14, 15, 16, 17, 18, 19, 20, 21, 22] [] [0, 1, 2, 3, 4, 5, 6, 7, 8, 9, 10, 11, 12, 13, 14, 15, 16, 17, 18, 19, 20, 21, 22] rfl rfl rfl rfl (by decide) rfl (fun _ => rfl) rfl rfl rfl rfl hl.1 (Nat.le_of_ble_eq_true rfl) dX11_clashes_66 (fun r2 u3 H locs p_r2 hP hD hS => ?_)
        have hP : va_P g.1 vwCl (wX11 g a_m u3 J_m) H := hP
        have hD : va_D A (wX11 g a_m u3 J_m) := hD
        refine hret 69 ls r2 _ _ u3 dX11_clashes_69 hS hP hD ?_
        exact ⟨(KK.st (KK.rf I_m) p_r2.2 (by decide)), (by rw [p_r2.1, hs_4, show v2_4.toInt.toNat = (I_m 1 0).toInt.toNat by omega])⟩
      · refine lv_iconst (v := 0) hx hb dX11_clashes_14 (by decide) ?_
        refine lv_istore_n (lv' := [(3, .int (0 : Int32)), (2, .int v2_4), (1, .int v1_4), (0, .ref (a_m 0))]) hx hb dX11_clashes_15 rfl hl (by decide) rfl (fun ls hl => ?_)
        have L16 : ∀ (nn : Nat) (v1_16 : Int32) (v3_16 : Int32), (hu_16 : 0 ≤ v3_16.toInt ∧ v3_16.toInt ≤ (I_m 1 0).toInt) → (hb_16 : 0 ≤ v1_16.toInt ∧ v1_16.toInt ≤ 24 * v2_4.toInt + v3_16.toInt) → (hs_16 : v1_16.toInt = sumN (clR (I_m 1 6) (mC (I_m 1)) (mL (I_m 1)) (I_m 1 0).toInt.toNat) v2_4.toInt.toNat + clR (I_m 1 6) (mC (I_m 1)) (mL (I_m 1)) v3_16.toInt.toNat v2_4.toInt.toNat) → ((25 - v3_16.toInt) < (nn : Int)) → ∀ (H : Heap) (locs : List Loc), va_P g.1 vwCl (wX11 g a_m I_m J_m) H → va_D A (wX11 g a_m I_m J_m) → va_S A s.heap H locs → ∀ ls : Array Slot, lv_has ls 4 [(3, .int v3_16), (2, .int v2_4), (1, .int v1_16), (0, .ref (a_m 0))] → W p l e (rm 3) s m args below meth c H locs 0 0 Q (F0 m 16 ls []) := by
          intro n_16
          induction n_16 with
          | zero =>
            intro v1_16 v3_16 hu_16 hb_16 hs_16 hms_16 H locs hP hD hS ls hl
            exfalso; omega
          | succ n_16 ih_16 =>
            intro v1_16 v3_16 hu_16 hb_16 hs_16 hms_16 H locs hP hD hS ls hl
            refine lv_iload_n hx hb dX11_clashes_16 rfl (lv_at hl 0 rfl) ?_
            refine lv_aload_n hx hb dX11_clashes_17 rfl (lv_at hl 3 rfl) ?_
            refine va_get (D := g.1) (ci := 11) (v := .ref (a_m 1)) (C := RX11) (T := TX11) (N := 46) hx hb hi_X11 (fun _ h => h) hown hK.1 hP 0 rfl rfl 0 (by decide) hf_7 (fun _ h9 => h9) rfl dX11_clashes_18 ?_
            refine lv_iconst (v := 0) hx hb dX11_clashes_21 (by decide) ?_
            have n_22 : vp_in (0 : Int32) 19800 := (t_in (by decide))
            refine va_iald hx hb hK.1 hP 1 0 rfl rfl n_22 dX11_clashes_22 ?_
            refine q_nm (fun x4 e_x4 => ?_)
            have e_x4 : x4 = (I_m 1) 0 := e_x4
            have g_x4 : x4.toInt = ((I_m 1) 0).toInt := congrArg _ e_x4
            have f_x4 := MI.many hM e_x4
            refine q_icmp_ge (tgt := 58) hx hb dX11_clashes_23 (by decide) rfl rfl (fun k_23 => ?_) (fun k_23 => ?_)
            · refine r_iinc (lv' := fun i5 => [(2, .int i5), (3, .int v3_16), (1, .int v1_16), (0, .ref (a_m 0))]) hx hb dX11_clashes_58 hl (k := 1) rfl (by decide) rfl (by decide) (fun _ => rfl) (fun i5 e_i5 t_i5 ls hl => ?_)
              try have t_i5 := t_i5 (by omega)
              refine lv_goto (tgt := 4) hx hb dX11_clashes_61 (by decide) ?_
              exact ih_4 v1_16 i5 (by omega) (by omega) (by rw [show (i5).toInt.toNat = v2_4.toInt.toNat + 1 by omega]; show _ = sumN (clR (I_m 1 6) (mC (I_m 1)) (mL (I_m 1)) (I_m 1 0).toInt.toNat) v2_4.toInt.toNat + clR (I_m 1 6) (mC (I_m 1)) (mL (I_m 1)) (I_m 1 0).toInt.toNat v2_4.toInt.toNat; rw [hs_16, show v3_16.toInt.toNat = (I_m 1 0).toInt.toNat by omega]) (by omega) _ _ hP hD hS ls (lv_sub hl [0, 2, 3] rfl)
            · refine lv_iload_n hx hb dX11_clashes_26 rfl (lv_at hl 2 rfl) ?_
              refine lv_aload_n hx hb dX11_clashes_27 rfl (lv_at hl 3 rfl) ?_
              refine lv_iload_n hx hb dX11_clashes_28 rfl (lv_at hl 1 rfl) ?_
              refine lv_iload_n hx hb dX11_clashes_29 rfl (lv_at hl 0 rfl) ?_
              refine PurI.cv (As := [.int v2_4, .int v3_16]) (kX11_areIn l g a_m I_m J_m v2_4 v3_16 hM) fx (gUV (uT _) u_1497 u_1498 u_1499 u_5 u_1500) rfl hdX11_areIn ⟨Nat.le_of_ble_eq_true rfl, Nat.le_of_ble_eq_true rfl⟩ hK hP [0, 1, 2, 3, 4, 5, 6, 7, 8, 9, 10, 11, 12, 13, 14, 15, 16, 17, 18, 19, 20, 21, 22] rfl rfl rfl rfl rfl hl.1 (Nat.le_of_ble_eq_true rfl) dX11_clashes_30 (fun r6 p_r6 => ?_)
              refine q_if_eq (tgt := 49) hx hb dX11_clashes_33 (by decide) rfl (fun b_33 k_33 => ?_) (fun b_33 k_33 => ?_)
              · have q_33 := bP.f p_r6 b_33
                refine lv_iconst (v := 0) hx hb dX11_clashes_49 (by decide) ?_
                refine r_iadd hx hb dX11_clashes_50 rfl (by decide : (0 : Int32).toInt = 0) (fun x7 e_x7 t_x7 => ?_)
                try have t_x7 := t_x7 (by omega)
                refine lv_istore_n (lv' := [(1, .int x7), (3, .int v3_16), (2, .int v2_4), (0, .ref (a_m 0))]) hx hb dX11_clashes_51 rfl hl (by decide) rfl (fun ls hl => ?_)
                refine r_iinc (lv' := fun i8 => [(3, .int i8), (1, .int x7), (2, .int v2_4), (0, .ref (a_m 0))]) hx hb dX11_clashes_52 hl (k := 1) rfl (by decide) rfl (by decide) (fun _ => rfl) (fun i8 e_i8 t_i8 ls hl => ?_)
                try have t_i8 := t_i8 (by omega)
                refine lv_goto (tgt := 16) hx hb dX11_clashes_55 (by decide) ?_
                exact ih_16 x7 i8 (by omega) (by omega) (by first | (rw [show (i8).toInt.toNat = v3_16.toInt.toNat + 1 by omega, cl_in (clQ.t (by omega) (by omega) (by omega) q_33.2.1 q_33.2.2 q_42.2), ← Int.add_assoc, ← hs_16]; show _ = _ + 1; omega) | (rw [show (i8).toInt.toNat = v3_16.toInt.toNat + 1 by omega, cl_in (clQ.f (by omega) (by omega) (by first | exact (by rcases q_33 with w | w | w; exact Or.inl w; exact Or.inr (Or.inl w); exact Or.inr (Or.inr (Or.inl w))) | exact Or.inr (Or.inr (Or.inr q_42)))), ← Int.add_assoc, ← hs_16]; show _ = _ + 0; omega)) (by omega) _ _ hP hD hS ls (lv_sub hl [0, 2, 1, 3] rfl)
              · have q_33 := bP.t p_r6 b_33
                refine lv_aload_n hx hb dX11_clashes_36 rfl (lv_at hl 3 rfl) ?_
                refine lv_iload_n hx hb dX11_clashes_37 rfl (lv_at hl 1 rfl) ?_
                refine lv_iload_n hx hb dX11_clashes_38 rfl (lv_at hl 0 rfl) ?_
                refine PurI.cv (As := [.int v2_4, .int v3_16]) (kX11_doClash l g a_m I_m J_m v2_4 v3_16 hM (by omega) (by omega)) fx (gUV (uT _) u_1501 u_1502 u_1503 u_5 u_1504) rfl hdX11_doClash ⟨Nat.le_of_ble_eq_true rfl, Nat.le_of_ble_eq_true rfl⟩ hK hP [0, 1, 2, 3, 4, 5, 6, 7, 8, 9, 10, 11, 12, 13, 14, 15, 16, 17, 18, 19, 20, 21, 22] rfl rfl rfl rfl rfl hl.1 (Nat.le_of_ble_eq_true rfl) dX11_clashes_39 (fun r9 p_r9 => ?_)
                refine q_if_eq (tgt := 49) hx hb dX11_clashes_42 (by decide) rfl (fun b_42 k_42 => ?_) (fun b_42 k_42 => ?_)
                · have q_42 := bP.f p_r9 b_42
                  refine lv_iconst (v := 0) hx hb dX11_clashes_49 (by decide) ?_
                  refine r_iadd hx hb dX11_clashes_50 rfl (by decide : (0 : Int32).toInt = 0) (fun x10 e_x10 t_x10 => ?_)
                  try have t_x10 := t_x10 (by omega)
                  refine lv_istore_n (lv' := [(1, .int x10), (3, .int v3_16), (2, .int v2_4), (0, .ref (a_m 0))]) hx hb dX11_clashes_51 rfl hl (by decide) rfl (fun ls hl => ?_)
                  refine r_iinc (lv' := fun i11 => [(3, .int i11), (1, .int x10), (2, .int v2_4), (0, .ref (a_m 0))]) hx hb dX11_clashes_52 hl (k := 1) rfl (by decide) rfl (by decide) (fun _ => rfl) (fun i11 e_i11 t_i11 ls hl => ?_)
                  try have t_i11 := t_i11 (by omega)
                  refine lv_goto (tgt := 16) hx hb dX11_clashes_55 (by decide) ?_
                  exact ih_16 x10 i11 (by omega) (by omega) (by first | (rw [show (i11).toInt.toNat = v3_16.toInt.toNat + 1 by omega, cl_in (clQ.t (by omega) (by omega) (by omega) q_33.2.1 q_33.2.2 q_42.2), ← Int.add_assoc, ← hs_16]; show _ = _ + 1; omega) | (rw [show (i11).toInt.toNat = v3_16.toInt.toNat + 1 by omega, cl_in (clQ.f (by omega) (by omega) (by first | exact (by rcases q_33 with w | w | w; exact Or.inl w; exact Or.inr (Or.inl w); exact Or.inr (Or.inr (Or.inl w))) | exact Or.inr (Or.inr (Or.inr q_42)))), ← Int.add_assoc, ← hs_16]; show _ = _ + 0; omega)) (by omega) _ _ hP hD hS ls (lv_sub hl [0, 2, 1, 3] rfl)
                · have q_42 := bP.t p_r9 b_42
                  refine lv_iconst (v := 1) hx hb dX11_clashes_45 (by decide) ?_
                  refine lv_goto (tgt := 50) hx hb dX11_clashes_46 (by decide) ?_
                  refine r_iadd hx hb dX11_clashes_50 rfl (by decide : (1 : Int32).toInt = 1) (fun x12 e_x12 t_x12 => ?_)
                  try have t_x12 := t_x12 (by omega)
                  refine lv_istore_n (lv' := [(1, .int x12), (3, .int v3_16), (2, .int v2_4), (0, .ref (a_m 0))]) hx hb dX11_clashes_51 rfl hl (by decide) rfl (fun ls hl => ?_)
                  refine r_iinc (lv' := fun i13 => [(3, .int i13), (1, .int x12), (2, .int v2_4), (0, .ref (a_m 0))]) hx hb dX11_clashes_52 hl (k := 1) rfl (by decide) rfl (by decide) (fun _ => rfl) (fun i13 e_i13 t_i13 ls hl => ?_)
                  try have t_i13 := t_i13 (by omega)
                  refine lv_goto (tgt := 16) hx hb dX11_clashes_55 (by decide) ?_
                  exact ih_16 x12 i13 (by omega) (by omega) (by first | (rw [show (i13).toInt.toNat = v3_16.toInt.toNat + 1 by omega, cl_in (clQ.t (by omega) (by omega) (by omega) q_33.2.1 q_33.2.2 q_42.2), ← Int.add_assoc, ← hs_16]; show _ = _ + 1; omega) | (rw [show (i13).toInt.toNat = v3_16.toInt.toNat + 1 by omega, cl_in (clQ.f (by omega) (by omega) (by first | exact (by rcases q_33 with w | w | w; exact Or.inl w; exact Or.inr (Or.inl w); exact Or.inr (Or.inr (Or.inl w))) | exact Or.inr (Or.inr (Or.inr q_42)))), ← Int.add_assoc, ← hs_16]; show _ = _ + 0; omega)) (by omega) _ _ hP hD hS ls (lv_sub hl [0, 2, 1, 3] rfl)
        exact L16 ((25 - (0 : Int32).toInt) + 1).toNat v1_4 (0 : Int32) (by omega) (by omega) (by rw [lm0]; show _ = _ + 0; rw [Int.add_zero]; exact hs_4) (by omega) _ _ hP hD hS ls hl
  exact L4 ((25 - (0 : Int32).toInt) + 1).toNat (0 : Int32) (0 : Int32) (by omega) (by omega) (by rw [lm0]; rfl) (by omega) _ _ hP hD hS ls hl

set_option maxHeartbeats 4000000 in
set_option maxRecDepth 100000 in
theorem kX11_overOf (l : Launch) (g : gG) (a_m : Nat → Nat) (I_m : Nat → Nat → Int32) (J_m : Nat → Nat → Int64) (rule : Int32) (fr : Int32) (hM : MI I_m) (h_rule : 0 ≤ rule.toInt ∧ rule.toInt < 24) (h_f : 0 ≤ fr.toInt ∧ fr.toInt ≤ (I_m 1 (12 * rule.toInt.toNat + 19)).toInt) : PurI l g yX11_overOf wsX11_overOf 2 [.ref (a_m 0), .int rule, .int fr] (wX11 g a_m I_m J_m) (fun r => 0 ≤ r.toInt ∧ r.toInt ≤ 4160 ∧ r.toInt = gwO (mC (I_m 1)) (mL (I_m 1)) rule.toInt.toNat fr.toInt.toNat) := by
  refine PurI.st (cc := cX11_overOf) (maxL := 4) (by decide) rfl (Nat.le_of_ble_eq_true rfl) (fun p e s m args below meth c Q ls fx hK hP hl hret => ?_)
  have hx := fx.1
  have hb := fx.2.1
  have hml := fx.2.2.1
  have hown := fx.2.2.2.1
  have hts := fx.2.2.2.2
  have hl : lv_has ls 4 [(0, .ref (a_m 0)), (1, .int rule), (2, .int fr)] := hl
  have hP : va_P g.1 vwCl (wX11 g a_m I_m J_m) s.heap := hP
  have lm1 : (-1 : Int32).toInt = -1 := by decide
  have lm0 : (0 : Int32).toInt = 0 := by decide
  have lm2 : (1 : Int32).toInt = 1 := by decide
  have lq1 : (1 : Int32).toInt = 1 := by decide
  have lq64 : (64 : Int32).toInt = 64 := by decide
  have lqF : (1000000 : Int32).toInt = 1000000 := by decide
  refine lv_aload_n hx hb dX11_overOf_0 rfl (lv_at hl 0 rfl) ?_
  refine lv_iload_n hx hb dX11_overOf_1 rfl (lv_at hl 1 rfl) ?_
  refine PurI.cv (As := [.int rule]) (kX11_cellsOf l g a_m I_m J_m rule hM (by omega)) fx (gUV (uT _) u_826 u_827 u_828 u_5 u_829) rfl hdX11_cellsOf ⟨Nat.le_of_ble_eq_true rfl, Nat.le_of_ble_eq_true rfl⟩ hK hP [0, 1, 2, 3, 4, 5, 6, 7, 8, 9, 10, 11, 12, 13, 14, 15, 16, 17, 18, 19, 20, 21, 22] rfl rfl rfl rfl rfl hl.1 (Nat.le_of_ble_eq_true rfl) dX11_overOf_2 (fun r1 p_r1 => ?_)
  have hc2 := p_r1
  refine lv_iload_n hx hb dX11_overOf_5 rfl (lv_at hl 2 rfl) ?_
  refine r_isub hx hb dX11_overOf_6 rfl rfl (fun x2 e_x2 t_x2 => ?_)
  try have t_x2 := t_x2 (by omega)
  refine lv_istore_n (lv' := [(3, .int x2), (0, .ref (a_m 0)), (1, .int rule), (2, .int fr)]) hx hb dX11_overOf_7 rfl hl (by decide) rfl (fun ls hl => ?_)
  refine lv_iload_n hx hb dX11_overOf_8 rfl (lv_at hl 0 rfl) ?_
  refine q_if_ne (tgt := 16) hx hb dX11_overOf_9 (by decide) rfl (fun b_9 k_9 => ?_) (fun b_9 k_9 => ?_)
  · refine lv_iload_n hx hb dX11_overOf_16 rfl (lv_at hl 0 rfl) ?_
    refine lv_iconst (v := 1) hx hb dX11_overOf_17 (by decide) ?_
    refine q_icmp_ne (tgt := 30) hx hb dX11_overOf_18 (by decide) rfl (by decide : (1 : Int32).toInt = 1) (fun k_18 => ?_) (fun k_18 => ?_)
    · refine lv_bipush (v := 64) hx hb dX11_overOf_30 (by decide) ?_
      refine lv_aload_n hx hb dX11_overOf_32 rfl (lv_at hl 1 rfl) ?_
      refine lv_iload_n hx hb dX11_overOf_33 rfl (lv_at hl 2 rfl) ?_
      refine lv_iload_n hx hb dX11_overOf_34 rfl (lv_at hl 3 rfl) ?_
      refine PurI.cv (As := [.int rule, .int fr]) (kX11_cellAt l g a_m I_m J_m rule fr hM (by omega) (by omega)) fx (gUV (uT _) u_830 u_831 u_832 u_5 u_833) rfl hdX11_cellAt ⟨Nat.le_of_ble_eq_true rfl, Nat.le_of_ble_eq_true rfl⟩ hK hP [0, 1, 2, 3, 4, 5, 6, 7, 8, 9, 10, 11, 12, 13, 14, 15, 16, 17, 18, 19, 20, 21, 22] rfl rfl rfl rfl rfl hl.1 (Nat.le_of_ble_eq_true rfl) dX11_overOf_35 (fun r3 p_r3 => ?_)
      have hd35 := p_r3.1
      have he35 := p_r3.2
      refine r_imul hx hb dX11_overOf_38 (by decide : (64 : Int32).toInt = 64) rfl (fun x4 e_x4 t_x4 => ?_)
      try have t_x4 := t_x4 (by omega)
      refine lv_aload_n hx hb dX11_overOf_39 rfl (lv_at hl 1 rfl) ?_
      refine lv_iload_n hx hb dX11_overOf_40 rfl (lv_at hl 2 rfl) ?_
      refine lv_iload_n hx hb dX11_overOf_41 rfl (lv_at hl 3 rfl) ?_
      refine lv_iconst (v := 1) hx hb dX11_overOf_42 (by decide) ?_
      refine r_iadd hx hb dX11_overOf_43 rfl (by decide : (1 : Int32).toInt = 1) (fun x5 e_x5 t_x5 => ?_)
      try have t_x5 := t_x5 (by omega)
      refine PurI.cv (As := [.int rule, .int x5]) (kX11_cellAt l g a_m I_m J_m rule x5 hM (by omega) (by omega)) fx (gUV (uT _) u_830 u_831 u_832 u_5 u_833) rfl hdX11_cellAt ⟨Nat.le_of_ble_eq_true rfl, Nat.le_of_ble_eq_true rfl⟩ hK hP [0, 1, 2, 3, 4, 5, 6, 7, 8, 9, 10, 11, 12, 13, 14, 15, 16, 17, 18, 19, 20, 21, 22] rfl rfl rfl rfl rfl hl.1 (Nat.le_of_ble_eq_true rfl) dX11_overOf_44 (fun r6 p_r6 => ?_)
      have hd44 := p_r6.1
      have he44 := p_r6.2
      refine r_iadd hx hb dX11_overOf_47 rfl rfl (fun x7 e_x7 t_x7 => ?_)
      try have t_x7 := t_x7 (by omega)
      exact hret 48 ls x7 dX11_overOf_48 (by refine ⟨by omega, by omega, ?_⟩; have hcc : gwc (mC (I_m 1)) rule.toInt.toNat = (r1).toInt.toNat := (by show (I_m 1 (12 * rule.toInt.toNat + 19)).toInt.toNat = _; omega); unfold gwO; rw [hcc]; first | (rw [if_pos (by omega)]; exact lm0) | (rw [if_neg (by omega), if_pos (by omega)]; exact congrArg Int32.toInt he24) | (rw [if_neg (by omega), if_neg (by omega)]; have a9 : (r3).toInt = (mL (I_m 1) rule.toInt.toNat fr.toInt.toNat).toInt := congrArg Int32.toInt he35; (have b9 : (r6).toInt = (mL (I_m 1) rule.toInt.toNat (fr.toInt.toNat + 1)).toInt := (by rw [he44, show (x5).toInt.toNat = fr.toInt.toNat + 1 by omega]; rfl)); omega))
    · refine lv_aload_n hx hb dX11_overOf_21 rfl (lv_at hl 1 rfl) ?_
      refine lv_iload_n hx hb dX11_overOf_22 rfl (lv_at hl 2 rfl) ?_
      refine lv_iload_n hx hb dX11_overOf_23 rfl (lv_at hl 3 rfl) ?_
      refine PurI.cv (As := [.int rule, .int fr]) (kX11_cellAt l g a_m I_m J_m rule fr hM (by omega) (by omega)) fx (gUV (uT _) u_830 u_831 u_832 u_5 u_833) rfl hdX11_cellAt ⟨Nat.le_of_ble_eq_true rfl, Nat.le_of_ble_eq_true rfl⟩ hK hP [0, 1, 2, 3, 4, 5, 6, 7, 8, 9, 10, 11, 12, 13, 14, 15, 16, 17, 18, 19, 20, 21, 22] rfl rfl rfl rfl rfl hl.1 (Nat.le_of_ble_eq_true rfl) dX11_overOf_24 (fun r8 p_r8 => ?_)
      have hd24 := p_r8.1
      have he24 := p_r8.2
      refine lv_goto (tgt := 48) hx hb dX11_overOf_27 (by decide) ?_
      exact hret 48 ls r8 dX11_overOf_48 (by refine ⟨by omega, by omega, ?_⟩; have hcc : gwc (mC (I_m 1)) rule.toInt.toNat = (r1).toInt.toNat := (by show (I_m 1 (12 * rule.toInt.toNat + 19)).toInt.toNat = _; omega); unfold gwO; rw [hcc]; first | (rw [if_pos (by omega)]; exact lm0) | (rw [if_neg (by omega), if_pos (by omega)]; exact congrArg Int32.toInt he24))
  · refine lv_iconst (v := 0) hx hb dX11_overOf_12 (by decide) ?_
    refine lv_goto (tgt := 48) hx hb dX11_overOf_13 (by decide) ?_
    exact hret 48 ls (0 : Int32) dX11_overOf_48 (by refine ⟨by omega, by omega, ?_⟩; have hcc : gwc (mC (I_m 1)) rule.toInt.toNat = (r1).toInt.toNat := (by show (I_m 1 (12 * rule.toInt.toNat + 19)).toInt.toNat = _; omega); unfold gwO; rw [hcc]; first | (rw [if_pos (by omega)]; exact lm0) | (rw [if_neg (by omega), if_pos (by omega)]; exact congrArg Int32.toInt he24))

set_option maxHeartbeats 4000000 in
set_option maxRecDepth 100000 in
theorem kX11_comesTo (l : Launch) (g : gG) (a_m : Nat → Nat) (I_m : Nat → Nat → Int32) (J_m : Nat → Nat → Int64) (ov : Int32) (cells : Int32) (hM : MI I_m) (h_o : 0 ≤ ov.toInt ∧ ov.toInt ≤ 4160) (h_v : OV I_m) (h_c : 0 ≤ cells.toInt) : EffI l g yX11_comesTo wsX11_comesTo 0 [.ref (a_m 0), .int ov, .int cells] (wX11 g a_m I_m J_m) (fun (u : (Nat → Nat → Int32)) => wX11 g a_m u J_m) (fun r (u : (Nat → Nat → Int32)) => KK [20] [] I_m (u) ∧ OV (u) ∧ (r = 0 ∨ r = 1) ∧ sv ((u) 20) 4161 + r.toInt ≤ sv (I_m 20) 4161 ∧ gwU (I_m 20) ((u) 20) ov.toInt.toNat cells.toInt r) := by
  refine EffI.sz (cc := cX11_comesTo) (maxL := 3) (by decide) rfl (Nat.le_of_ble_eq_true rfl) (fun p e s m args below meth c A Q ls fx hK hP hD hA hS hl hret => ?_)
  have hx := fx.1
  have hb := fx.2.1
  have hml := fx.2.2.1
  have hown := fx.2.2.2.1
  have hts := fx.2.2.2.2
  have hl : lv_has ls 3 [(0, .ref (a_m 0)), (1, .int ov), (2, .int cells)] := hl
  have hP : va_P g.1 vwCl (wX11 g a_m I_m J_m) s.heap := hP
  have hf_83 := hts _ (uT _ _ u_194)
  have hi_X11 : ∀ w ∈ wsX110, w.before args s = true := fun w h => hts w (uT _ w (u_wsX110 w h))
  have lm1 : (-1 : Int32).toInt = -1 := by decide
  have lm0 : (0 : Int32).toInt = 0 := by decide
  have lm2 : (1 : Int32).toInt = 1 := by decide
  have lq1 : (1 : Int32).toInt = 1 := by decide
  have lqF : (1000000 : Int32).toInt = 1000000 := by decide
  refine lv_iload_n hx hb dX11_comesTo_0 rfl (lv_at hl 2 rfl) ?_
  refine lv_aload_n hx hb dX11_comesTo_1 rfl (lv_at hl 0 rfl) ?_
  refine va_get (D := g.1) (ci := 11) (v := .ref (a_m 20)) (C := RX11) (T := TX11) (N := 46) hx hb hi_X11 (fun _ h => h) hown hK.1 hP 0 rfl rfl 40 (by decide) hf_83 (fun _ h9 => h9) rfl dX11_comesTo_2 ?_
  refine lv_iload_n hx hb dX11_comesTo_5 rfl (lv_at hl 1 rfl) ?_
  have n_6 : vp_in ov 4161 := (t_in (by omega))
  refine va_iald hx hb hK.1 hP 20 0 rfl rfl n_6 dX11_comesTo_6 ?_
  refine q_nm (fun x1 e_x1 => ?_)
  have e_x1 : x1 = (I_m 20) ov.toNatClampNeg := e_x1
  have g_x1 : x1.toInt = ((I_m 20) ov.toNatClampNeg).toInt := congrArg _ e_x1
  refine q_icmp_lt (tgt := 12) hx hb dX11_comesTo_7 (by decide) rfl rfl (fun k_7 => ?_) (fun k_7 => ?_)
  · refine lv_aload_n hx hb dX11_comesTo_12 rfl (lv_at hl 0 rfl) ?_
    refine va_get (D := g.1) (ci := 11) (v := .ref (a_m 20)) (C := RX11) (T := TX11) (N := 46) hx hb hi_X11 (fun _ h => h) hown hK.1 hP 0 rfl rfl 40 (by decide) hf_83 (fun _ h9 => h9) rfl dX11_comesTo_13 ?_
    refine lv_iload_n hx hb dX11_comesTo_16 rfl (lv_at hl 1 rfl) ?_
    refine lv_iload_n hx hb dX11_comesTo_17 rfl (lv_at hl 2 rfl) ?_
    have n_18 : vp_in ov 4161 := (t_in (by omega))
    obtain ⟨f2, e_f2⟩ : ∃ z, z = upd (I_m 20) ov.toNatClampNeg cells := ⟨_, rfl⟩
    refine va_iast hx hb hK.1 hP hD hS 20 0 rfl rfl n_18 dX11_comesTo_18 (fun H locs hP hD hS => ?_)
    have hP : va_P g.1 vwCl (wX11 g a_m (uR I_m 20 f2) J_m) H := by rw [e_f2]; exact hP
    have hD : va_D A (wX11 g a_m (uR I_m 20 f2) J_m) := by rw [e_f2]; exact hD
    have hc_18 : MI (uR I_m 20 f2) := MI.ur hM (by decide)
    have hk_18 : KK [20] [] I_m (uR I_m 20 f2) := KK.ur (KK.rf I_m) (by decide) (by decide)
    refine lv_iconst (v := 1) hx hb dX11_comesTo_19 (by decide) ?_
    have lr : (1 : Int32).toInt = 1 := by decide
    refine hret 20 ls (1 : Int32) _ _ (uR I_m 20 f2) dX11_comesTo_20 (Or.inr rfl) hS hP hD ?_
    exact ⟨hk_18, (by have g9 : (I_m 20 ov.toInt.toNat).toInt = (x1).toInt := congrArg Int32.toInt e_x1.symm; have q := OV.st h_v e_f2 rfl h_o ⟨h_c, by rw [← e_x1]; omega⟩; exact ⟨q.1, Or.inr rfl, by rw [lm2]; exact q.2, Or.inl ⟨by omega, rfl, cells, (show f2 = _ from e_f2), rfl⟩⟩)⟩
  · refine lv_iconst (v := 0) hx hb dX11_comesTo_10 (by decide) ?_
    refine hret 11 ls (0 : Int32) _ _ I_m dX11_comesTo_11 (Or.inl rfl) hS hP hD ?_
    exact ⟨(KK.rf I_m), ⟨h_v, Or.inl rfl, by rw [lm0]; omega, Or.inr ⟨(by have g9 : (I_m 20 ov.toInt.toNat).toInt = (x1).toInt := congrArg Int32.toInt e_x1.symm; omega), rfl, rfl⟩⟩⟩

set_option maxHeartbeats 4000000 in
set_option maxRecDepth 100000 in
theorem kX11_goesOn (l : Launch) (g : gG) (a_m : Nat → Nat) (I_m : Nat → Nat → Int32) (J_m : Nat → Nat → Int64) (ov : Int32) (rule : Int32) (hM : MI I_m) (h_o : 0 ≤ ov.toInt ∧ ov.toInt ≤ 4160) (h_v : OV I_m) (h_rule : 0 ≤ rule.toInt ∧ rule.toInt < 24) (h_p1 : gwP (I_m 1 0).toInt.toNat (mC (I_m 1)) (mL (I_m 1))) (h_sm : gwSm (I_m 1 0).toInt.toNat (I_m 1 6) (mC (I_m 1)) (mL (I_m 1)) (I_m 20)) (h_o1 : 1 ≤ ov.toInt) (h_fl : (I_m 20 ov.toInt.toNat).toInt < 1000000) (h_in : gwIn (I_m 1 0).toInt.toNat (I_m 1 6) rule.toInt.toNat) : EffI l g yX11_goesOn wsX11_goesOn 3 [.ref (a_m 0), .int ov, .int rule] (wX11 g a_m I_m J_m) (fun (u : (Nat → Nat → Int32)) => wX11 g a_m u J_m) (fun r (u : (Nat → Nat → Int32)) => KK [20] [] I_m (u) ∧ OV (u) ∧ (r = 0 ∨ r = 1) ∧ sv ((u) 20) 4161 + r.toInt ≤ sv (I_m 20) 4161 ∧ gwSm (I_m 1 0).toInt.toNat (I_m 1 6) (mC (I_m 1)) (mL (I_m 1)) ((u) 20) ∧ (∀ j, ((u) 20 j).toInt ≤ (I_m 20 j).toInt) ∧ gwT (I_m 1 0).toInt.toNat (I_m 1 6) (mC (I_m 1)) (mL (I_m 1)) (gwN (mC (I_m 1)) (mL (I_m 1))) (gwM (mC (I_m 1)) (mL (I_m 1)) (I_m 20)) (gwM (mC (I_m 1)) (mL (I_m 1)) ((u) 20)) (I_m 20 0) ((u) 20 0) ov.toInt.toNat rule.toInt.toNat r) := by
  refine EffI.sz (cc := cX11_goesOn) (maxL := 6) (by decide) rfl (Nat.le_of_ble_eq_true rfl) (fun p e s m args below meth c A Q ls fx hK hP hD hA hS hl hret => ?_)
  have hx := fx.1
  have hb := fx.2.1
  have hml := fx.2.2.1
  have hown := fx.2.2.2.1
  have hts := fx.2.2.2.2
  have hl : lv_has ls 6 [(0, .ref (a_m 0)), (1, .int ov), (2, .int rule)] := hl
  have hP : va_P g.1 vwCl (wX11 g a_m I_m J_m) s.heap := hP
  have hf_83 := hts _ (uT _ _ u_194)
  have hi_X11 : ∀ w ∈ wsX110, w.before args s = true := fun w h => hts w (uT _ w (u_wsX110 w h))
  have lm1 : (-1 : Int32).toInt = -1 := by decide
  have lm0 : (0 : Int32).toInt = 0 := by decide
  have lm2 : (1 : Int32).toInt = 1 := by decide
  have lq1 : (1 : Int32).toInt = 1 := by decide
  have lqF : (1000000 : Int32).toInt = 1000000 := by decide
  refine lv_iload_n hx hb dX11_goesOn_0 rfl (lv_at hl 1 rfl) ?_
  refine PurI.cs (C := RX11) (As := [.int ov]) (kX11_sizeOf l g ov (by omega)) fx (gUS (uT _) u_1585 u_1586 u_5 u_1587) rfl hdX11_sizeOf ⟨Nat.le_of_ble_eq_true rfl, Nat.le_of_ble_eq_true rfl⟩ hK hP [] rfl rfl rfl hl.1 (Nat.le_of_ble_eq_true rfl) dX11_goesOn_1 (fun r1 p_r1 => ?_)
  have hz1 := p_r1
  refine lv_istore_n (lv' := [(3, .int r1), (0, .ref (a_m 0)), (1, .int ov), (2, .int rule)]) hx hb dX11_goesOn_4 rfl hl (by decide) rfl (fun ls hl => ?_)
  refine lv_aload_n hx hb dX11_goesOn_5 rfl (lv_at hl 1 rfl) ?_
  refine lv_iload_n hx hb dX11_goesOn_6 rfl (lv_at hl 3 rfl) ?_
  refine PurI.cv (As := [.int rule]) (kX11_cellsOf l g a_m I_m J_m rule hM (by omega)) fx (gUV (uT _) u_826 u_827 u_828 u_5 u_829) rfl hdX11_cellsOf ⟨Nat.le_of_ble_eq_true rfl, Nat.le_of_ble_eq_true rfl⟩ hK hP [0, 1, 2, 3, 4, 5, 6, 7, 8, 9, 10, 11, 12, 13, 14, 15, 16, 17, 18, 19, 20, 21, 22] rfl rfl rfl rfl rfl hl.1 (Nat.le_of_ble_eq_true rfl) dX11_goesOn_7 (fun r2 p_r2 => ?_)
  have hc7 := p_r2
  refine lv_istore (lv' := [(4, .int r2), (3, .int r1), (0, .ref (a_m 0)), (1, .int ov), (2, .int rule)]) hx hb dX11_goesOn_10 hl (by decide) rfl (fun ls hl => ?_)
  refine lv_iconst (v := 0) hx hb dX11_goesOn_12 (by decide) ?_
  refine lv_istore (lv' := [(5, .int (0 : Int32)), (4, .int r2), (3, .int r1), (0, .ref (a_m 0)), (1, .int ov), (2, .int rule)]) hx hb dX11_goesOn_13 hl (by decide) rfl (fun ls hl => ?_)
  have L15 : ∀ (nn : Nat) (v5_15 : Int32), (hv_15 : 0 ≤ v5_15.toInt ∧ v5_15.toInt ≤ 2) → (hg_15 : ∀ k : Nat, (k : Int) < v5_15.toInt → gwCi ov.toInt k = (mL (I_m 1) rule.toInt.toNat k).toInt) → ((3 - v5_15.toInt) < (nn : Int)) → ∀ (H : Heap) (locs : List Loc), va_P g.1 vwCl (wX11 g a_m I_m J_m) H → va_D A (wX11 g a_m I_m J_m) → va_S A s.heap H locs → ∀ ls : Array Slot, lv_has ls 6 [(5, .int v5_15), (4, .int r2), (3, .int r1), (0, .ref (a_m 0)), (1, .int ov), (2, .int rule)] → W p l e (rm 3) s m args below meth c H locs 0 0 Q (F0 m 15 ls []) := by
    intro n_15
    induction n_15 with
    | zero =>
      intro v5_15 hv_15 hg_15 hms_15 H locs hP hD hS ls hl
      exfalso; omega
    | succ n_15 ih_15 =>
      intro v5_15 hv_15 hg_15 hms_15 H locs hP hD hS ls hl
      refine lv_iload hx hb dX11_goesOn_15 (lv_at hl 0 rfl) ?_
      refine lv_iload_n hx hb dX11_goesOn_17 rfl (lv_at hl 2 rfl) ?_
      refine q_icmp_ge (tgt := 52) hx hb dX11_goesOn_18 (by decide) rfl rfl (fun k_18 => ?_) (fun k_18 => ?_)
      · refine lv_iload hx hb dX11_goesOn_52 (lv_at hl 1 rfl) ?_
        refine lv_iload_n hx hb dX11_goesOn_54 rfl (lv_at hl 2 rfl) ?_
        refine q_icmp_lt (tgt := 80) hx hb dX11_goesOn_55 (by decide) rfl rfl (fun k_55 => ?_) (fun k_55 => ?_)
        · refine lv_aload_n hx hb dX11_goesOn_80 rfl (lv_at hl 3 rfl) ?_
          refine lv_iload_n hx hb dX11_goesOn_81 rfl (lv_at hl 4 rfl) ?_
          refine lv_iconst (v := 1) hx hb dX11_goesOn_82 (by decide) ?_
          refine PurI.cs (C := RX11) (As := [.int ov, .int (1 : Int32)]) (kX11_cellIn l g ov (1 : Int32) (by omega)) fx (gUS (uT _) u_1588 u_1589 u_5 u_1590) rfl hdX11_cellIn ⟨Nat.le_of_ble_eq_true rfl, Nat.le_of_ble_eq_true rfl⟩ hK hP [] rfl rfl rfl hl.1 (Nat.le_of_ble_eq_true rfl) dX11_goesOn_83 (fun r3 p_r3 => ?_)
          have hd83 := p_r3
          have hci83 := p_r3.2.2.2
          refine lv_aload_n hx hb dX11_goesOn_86 rfl (lv_at hl 3 rfl) ?_
          refine va_get (D := g.1) (ci := 11) (v := .ref (a_m 20)) (C := RX11) (T := TX11) (N := 46) hx hb hi_X11 (fun _ h => h) hown hK.1 hP 0 rfl rfl 40 (by decide) hf_83 (fun _ h9 => h9) rfl dX11_goesOn_87 ?_
          refine lv_iload_n hx hb dX11_goesOn_90 rfl (lv_at hl 4 rfl) ?_
          have n_91 : vp_in ov 4161 := (t_in (by omega))
          refine va_iald hx hb hK.1 hP 20 0 rfl rfl n_91 dX11_goesOn_91 ?_
          refine q_nm (fun x4 e_x4 => ?_)
          have e_x4 : x4 = (I_m 20) ov.toNatClampNeg := e_x4
          have g_x4 : x4.toInt = ((I_m 20) ov.toNatClampNeg).toInt := congrArg _ e_x4
          have f_x4 := h_v ov.toNatClampNeg (by show ov.toInt.toNat < 4161; omega)
          rw [← e_x4] at f_x4
          refine EffI.cv (wr := ([])) (w' := fun u6 => wX11 g a_m u6 J_m) (As := [.int r3, .int x4]) (kX11_comesTo l g a_m I_m J_m r3 x4 hM (by omega) h_v (by omega)) fx (gUV (uT _) u_1577 u_1578 u_1579 u_5 u_1580) rfl hdX11_comesTo ⟨Nat.le_of_ble_eq_true rfl, Nat.le_of_ble_eq_true rfl⟩ hK hP hD hS hA [0, 1, 2, 3, 4, 5, 6, 7, 8, 9, 10, 11, 12, 13, 14, 15, 16, 17, 18, 19, 20, 21, 22] [] [0, 1, 2, 3, 4, 5, 6, 7, 8, 9, 10, 11, 12, 13, 14, 15, 16, 17, 18, 19, 20, 21, 22] rfl rfl rfl rfl (by decide) rfl (fun _ => rfl) rfl rfl rfl rfl hl.1 (Nat.le_of_ble_eq_true rfl) dX11_goesOn_92 (fun r5 u6 H locs p_r5 hP hD hS => ?_)
          have hP : va_P g.1 vwCl (wX11 g a_m u6 J_m) H := hP
          have hD : va_D A (wX11 g a_m u6 J_m) := hD
          have hu92 := p_r5.2.2.2.2
          refine hret 95 ls r5 _ _ u6 dX11_goesOn_95 p_r5.2.2.1 hS hP hD ?_
          exact ⟨(KK.tr (KK.rf I_m) p_r5.1 (by decide) (by decide)), (by have eo : ((ov.toInt.toNat : Nat) : Int) = ov.toInt := (by omega); have hnv : gwc (mC (I_m 1)) rule.toInt.toNat = (r2).toInt.toNat := (by show (I_m 1 (12 * rule.toInt.toNat + 19)).toInt.toNat = _; omega); have hgA : ∀ k : Nat, (k : Int) < gwSz ((ov.toInt.toNat : Nat) : Int) → k < gwc (mC (I_m 1)) rule.toInt.toNat → gwCi ((ov.toInt.toNat : Nat) : Int) k = (mL (I_m 1) rule.toInt.toNat k).toInt := fun k h3 h4 => (by rw [eo, ← hz1.2.2.2] at h3; rw [hnv] at h4; rw [eo]; exact hg_15 k (by omega)); have T9 := gwU.tt hM.gH h_p1 h_sm (o := ov.toInt.toNat) (q := (r3).toInt.toNat) ⟨by omega, by omega⟩ h_fl h_in hgA (Or.inr ⟨by rw [eo, ← hz1.2.2.2, hnv]; omega, (by rw [eo, show (1 : Int) = (1 : Int32).toInt from lm2.symm, ← hci83]; omega), (by rw [show (I_m 20 ov.toInt.toNat).toInt = (x4).toInt from congrArg Int32.toInt e_x4.symm]; exact hu92)⟩); exact ⟨p_r5.2.1, p_r5.2.2.1, p_r5.2.2.2.1, T9.1, hu92.dn, T9.2⟩)⟩
        · refine lv_aload_n hx hb dX11_goesOn_58 rfl (lv_at hl 3 rfl) ?_
          refine lv_aload_n hx hb dX11_goesOn_59 rfl (lv_at hl 3 rfl) ?_
          refine lv_iload_n hx hb dX11_goesOn_60 rfl (lv_at hl 5 rfl) ?_
          refine lv_iload_n hx hb dX11_goesOn_61 rfl (lv_at hl 2 rfl) ?_
          refine PurI.cv (As := [.int rule, .int r1]) (kX11_overOf l g a_m I_m J_m rule r1 hM (by omega) (by omega)) fx (gUV (uT _) u_1573 u_1574 u_1575 u_5 u_1576) rfl hdX11_overOf ⟨Nat.le_of_ble_eq_true rfl, Nat.le_of_ble_eq_true rfl⟩ hK hP [0, 1, 2, 3, 4, 5, 6, 7, 8, 9, 10, 11, 12, 13, 14, 15, 16, 17, 18, 19, 20, 21, 22] rfl rfl rfl rfl rfl hl.1 (Nat.le_of_ble_eq_true rfl) dX11_goesOn_62 (fun r7 p_r7 => ?_)
          have hd62 := p_r7
          have hov62 := p_r7.2.2
          refine lv_aload_n hx hb dX11_goesOn_65 rfl (lv_at hl 3 rfl) ?_
          refine va_get (D := g.1) (ci := 11) (v := .ref (a_m 20)) (C := RX11) (T := TX11) (N := 46) hx hb hi_X11 (fun _ h => h) hown hK.1 hP 0 rfl rfl 40 (by decide) hf_83 (fun _ h9 => h9) rfl dX11_goesOn_66 ?_
          refine lv_iload_n hx hb dX11_goesOn_69 rfl (lv_at hl 4 rfl) ?_
          have n_70 : vp_in ov 4161 := (t_in (by omega))
          refine va_iald hx hb hK.1 hP 20 0 rfl rfl n_70 dX11_goesOn_70 ?_
          refine q_nm (fun x8 e_x8 => ?_)
          have e_x8 : x8 = (I_m 20) ov.toNatClampNeg := e_x8
          have g_x8 : x8.toInt = ((I_m 20) ov.toNatClampNeg).toInt := congrArg _ e_x8
          have f_x8 := h_v ov.toNatClampNeg (by show ov.toInt.toNat < 4161; omega)
          rw [← e_x8] at f_x8
          refine lv_iload hx hb dX11_goesOn_71 (lv_at hl 1 rfl) ?_
          refine r_iadd hx hb dX11_goesOn_73 rfl rfl (fun x9 e_x9 t_x9 => ?_)
          try have t_x9 := t_x9 (by omega)
          refine lv_iload_n hx hb dX11_goesOn_74 rfl (lv_at hl 2 rfl) ?_
          refine r_isub hx hb dX11_goesOn_75 rfl rfl (fun x10 e_x10 t_x10 => ?_)
          try have t_x10 := t_x10 (by omega)
          refine EffI.cv (wr := ([])) (w' := fun u12 => wX11 g a_m u12 J_m) (As := [.int r7, .int x10]) (kX11_comesTo l g a_m I_m J_m r7 x10 hM (by omega) h_v (by omega)) fx (gUV (uT _) u_1577 u_1578 u_1579 u_5 u_1580) rfl hdX11_comesTo ⟨Nat.le_of_ble_eq_true rfl, Nat.le_of_ble_eq_true rfl⟩ hK hP hD hS hA [0, 1, 2, 3, 4, 5, 6, 7, 8, 9, 10, 11, 12, 13, 14, 15, 16, 17, 18, 19, 20, 21, 22] [] [0, 1, 2, 3, 4, 5, 6, 7, 8, 9, 10, 11, 12, 13, 14, 15, 16, 17, 18, 19, 20, 21, 22] rfl rfl rfl rfl (by decide) rfl (fun _ => rfl) rfl rfl rfl rfl hl.1 (Nat.le_of_ble_eq_true rfl) dX11_goesOn_76 (fun r11 u12 H locs p_r11 hP hD hS => ?_)
          have hP : va_P g.1 vwCl (wX11 g a_m u12 J_m) H := hP
          have hD : va_D A (wX11 g a_m u12 J_m) := hD
          have hu76 := p_r11.2.2.2.2
          refine hret 79 ls r11 _ _ u12 dX11_goesOn_79 p_r11.2.2.1 hS hP hD ?_
          exact ⟨(KK.tr (KK.rf I_m) p_r11.1 (by decide) (by decide)), (by have eo : ((ov.toInt.toNat : Nat) : Int) = ov.toInt := (by omega); have hnv : gwc (mC (I_m 1)) rule.toInt.toNat = (r2).toInt.toNat := (by show (I_m 1 (12 * rule.toInt.toNat + 19)).toInt.toNat = _; omega); have hgA : ∀ k : Nat, (k : Int) < gwSz ((ov.toInt.toNat : Nat) : Int) → k < gwc (mC (I_m 1)) rule.toInt.toNat → gwCi ((ov.toInt.toNat : Nat) : Int) k = (mL (I_m 1) rule.toInt.toNat k).toInt := fun k h3 h4 => (by rw [eo, ← hz1.2.2.2] at h3; rw [hnv] at h4; rw [eo]; exact hg_15 k (by omega)); have T9 := gwU.tt hM.gH h_p1 h_sm (o := ov.toInt.toNat) (q := (r7).toInt.toNat) ⟨by omega, by omega⟩ h_fl h_in hgA (Or.inl ⟨by rw [eo, ← hz1.2.2.2, hnv]; omega, (by rw [eo, ← hz1.2.2.2, ← hov62]; omega), (by rw [show (I_m 20 ov.toInt.toNat).toInt + ((gwc (mC (I_m 1)) rule.toInt.toNat : Nat) : Int) - gwSz ((ov.toInt.toNat : Nat) : Int) = (x10).toInt from (by rw [eo, ← hz1.2.2.2, hnv]; have g9 : (I_m 20 ov.toInt.toNat).toInt = (x8).toInt := congrArg Int32.toInt e_x8.symm; omega)]; exact hu76)⟩); exact ⟨p_r11.2.1, p_r11.2.2.1, p_r11.2.2.2.1, T9.1, hu76.dn, T9.2⟩)⟩
      · refine lv_iload hx hb dX11_goesOn_21 (lv_at hl 0 rfl) ?_
        refine lv_iload hx hb dX11_goesOn_23 (lv_at hl 1 rfl) ?_
        refine q_icmp_ge (tgt := 52) hx hb dX11_goesOn_25 (by decide) rfl rfl (fun k_25 => ?_) (fun k_25 => ?_)
        · refine lv_iload hx hb dX11_goesOn_52 (lv_at hl 1 rfl) ?_
          refine lv_iload_n hx hb dX11_goesOn_54 rfl (lv_at hl 2 rfl) ?_
          refine q_icmp_lt (tgt := 80) hx hb dX11_goesOn_55 (by decide) rfl rfl (fun k_55 => ?_) (fun k_55 => ?_)
          · refine lv_aload_n hx hb dX11_goesOn_80 rfl (lv_at hl 3 rfl) ?_
            refine lv_iload_n hx hb dX11_goesOn_81 rfl (lv_at hl 4 rfl) ?_
            refine lv_iconst (v := 1) hx hb dX11_goesOn_82 (by decide) ?_
            refine PurI.cs (C := RX11) (As := [.int ov, .int (1 : Int32)]) (kX11_cellIn l g ov (1 : Int32) (by omega)) fx (gUS (uT _) u_1588 u_1589 u_5 u_1590) rfl hdX11_cellIn ⟨Nat.le_of_ble_eq_true rfl, Nat.le_of_ble_eq_true rfl⟩ hK hP [] rfl rfl rfl hl.1 (Nat.le_of_ble_eq_true rfl) dX11_goesOn_83 (fun r13 p_r13 => ?_)
            have hd83 := p_r13
            have hci83 := p_r13.2.2.2
            refine lv_aload_n hx hb dX11_goesOn_86 rfl (lv_at hl 3 rfl) ?_
            refine va_get (D := g.1) (ci := 11) (v := .ref (a_m 20)) (C := RX11) (T := TX11) (N := 46) hx hb hi_X11 (fun _ h => h) hown hK.1 hP 0 rfl rfl 40 (by decide) hf_83 (fun _ h9 => h9) rfl dX11_goesOn_87 ?_
            refine lv_iload_n hx hb dX11_goesOn_90 rfl (lv_at hl 4 rfl) ?_
            have n_91 : vp_in ov 4161 := (t_in (by omega))
            refine va_iald hx hb hK.1 hP 20 0 rfl rfl n_91 dX11_goesOn_91 ?_
            refine q_nm (fun x14 e_x14 => ?_)
            have e_x14 : x14 = (I_m 20) ov.toNatClampNeg := e_x14
            have g_x14 : x14.toInt = ((I_m 20) ov.toNatClampNeg).toInt := congrArg _ e_x14
            have f_x14 := h_v ov.toNatClampNeg (by show ov.toInt.toNat < 4161; omega)
            rw [← e_x14] at f_x14
            refine EffI.cv (wr := ([])) (w' := fun u16 => wX11 g a_m u16 J_m) (As := [.int r13, .int x14]) (kX11_comesTo l g a_m I_m J_m r13 x14 hM (by omega) h_v (by omega)) fx (gUV (uT _) u_1577 u_1578 u_1579 u_5 u_1580) rfl hdX11_comesTo ⟨Nat.le_of_ble_eq_true rfl, Nat.le_of_ble_eq_true rfl⟩ hK hP hD hS hA [0, 1, 2, 3, 4, 5, 6, 7, 8, 9, 10, 11, 12, 13, 14, 15, 16, 17, 18, 19, 20, 21, 22] [] [0, 1, 2, 3, 4, 5, 6, 7, 8, 9, 10, 11, 12, 13, 14, 15, 16, 17, 18, 19, 20, 21, 22] rfl rfl rfl rfl (by decide) rfl (fun _ => rfl) rfl rfl rfl rfl hl.1 (Nat.le_of_ble_eq_true rfl) dX11_goesOn_92 (fun r15 u16 H locs p_r15 hP hD hS => ?_)
            have hP : va_P g.1 vwCl (wX11 g a_m u16 J_m) H := hP
            have hD : va_D A (wX11 g a_m u16 J_m) := hD
            have hu92 := p_r15.2.2.2.2
            refine hret 95 ls r15 _ _ u16 dX11_goesOn_95 p_r15.2.2.1 hS hP hD ?_
            exact ⟨(KK.tr (KK.rf I_m) p_r15.1 (by decide) (by decide)), (by have eo : ((ov.toInt.toNat : Nat) : Int) = ov.toInt := (by omega); have hnv : gwc (mC (I_m 1)) rule.toInt.toNat = (r2).toInt.toNat := (by show (I_m 1 (12 * rule.toInt.toNat + 19)).toInt.toNat = _; omega); have hgA : ∀ k : Nat, (k : Int) < gwSz ((ov.toInt.toNat : Nat) : Int) → k < gwc (mC (I_m 1)) rule.toInt.toNat → gwCi ((ov.toInt.toNat : Nat) : Int) k = (mL (I_m 1) rule.toInt.toNat k).toInt := fun k h3 h4 => (by rw [eo, ← hz1.2.2.2] at h3; rw [hnv] at h4; rw [eo]; exact hg_15 k (by omega)); have T9 := gwU.tt hM.gH h_p1 h_sm (o := ov.toInt.toNat) (q := (r13).toInt.toNat) ⟨by omega, by omega⟩ h_fl h_in hgA (Or.inr ⟨by rw [eo, ← hz1.2.2.2, hnv]; omega, (by rw [eo, show (1 : Int) = (1 : Int32).toInt from lm2.symm, ← hci83]; omega), (by rw [show (I_m 20 ov.toInt.toNat).toInt = (x14).toInt from congrArg Int32.toInt e_x14.symm]; exact hu92)⟩); exact ⟨p_r15.2.1, p_r15.2.2.1, p_r15.2.2.2.1, T9.1, hu92.dn, T9.2⟩)⟩
          · refine lv_aload_n hx hb dX11_goesOn_58 rfl (lv_at hl 3 rfl) ?_
            refine lv_aload_n hx hb dX11_goesOn_59 rfl (lv_at hl 3 rfl) ?_
            refine lv_iload_n hx hb dX11_goesOn_60 rfl (lv_at hl 5 rfl) ?_
            refine lv_iload_n hx hb dX11_goesOn_61 rfl (lv_at hl 2 rfl) ?_
            refine PurI.cv (As := [.int rule, .int r1]) (kX11_overOf l g a_m I_m J_m rule r1 hM (by omega) (by omega)) fx (gUV (uT _) u_1573 u_1574 u_1575 u_5 u_1576) rfl hdX11_overOf ⟨Nat.le_of_ble_eq_true rfl, Nat.le_of_ble_eq_true rfl⟩ hK hP [0, 1, 2, 3, 4, 5, 6, 7, 8, 9, 10, 11, 12, 13, 14, 15, 16, 17, 18, 19, 20, 21, 22] rfl rfl rfl rfl rfl hl.1 (Nat.le_of_ble_eq_true rfl) dX11_goesOn_62 (fun r17 p_r17 => ?_)
            have hd62 := p_r17
            have hov62 := p_r17.2.2
            refine lv_aload_n hx hb dX11_goesOn_65 rfl (lv_at hl 3 rfl) ?_
            refine va_get (D := g.1) (ci := 11) (v := .ref (a_m 20)) (C := RX11) (T := TX11) (N := 46) hx hb hi_X11 (fun _ h => h) hown hK.1 hP 0 rfl rfl 40 (by decide) hf_83 (fun _ h9 => h9) rfl dX11_goesOn_66 ?_
            refine lv_iload_n hx hb dX11_goesOn_69 rfl (lv_at hl 4 rfl) ?_
            have n_70 : vp_in ov 4161 := (t_in (by omega))
            refine va_iald hx hb hK.1 hP 20 0 rfl rfl n_70 dX11_goesOn_70 ?_
            refine q_nm (fun x18 e_x18 => ?_)
            have e_x18 : x18 = (I_m 20) ov.toNatClampNeg := e_x18
            have g_x18 : x18.toInt = ((I_m 20) ov.toNatClampNeg).toInt := congrArg _ e_x18
            have f_x18 := h_v ov.toNatClampNeg (by show ov.toInt.toNat < 4161; omega)
            rw [← e_x18] at f_x18
            refine lv_iload hx hb dX11_goesOn_71 (lv_at hl 1 rfl) ?_
            refine r_iadd hx hb dX11_goesOn_73 rfl rfl (fun x19 e_x19 t_x19 => ?_)
            try have t_x19 := t_x19 (by omega)
            refine lv_iload_n hx hb dX11_goesOn_74 rfl (lv_at hl 2 rfl) ?_
            refine r_isub hx hb dX11_goesOn_75 rfl rfl (fun x20 e_x20 t_x20 => ?_)
            try have t_x20 := t_x20 (by omega)
            refine EffI.cv (wr := ([])) (w' := fun u22 => wX11 g a_m u22 J_m) (As := [.int r17, .int x20]) (kX11_comesTo l g a_m I_m J_m r17 x20 hM (by omega) h_v (by omega)) fx (gUV (uT _) u_1577 u_1578 u_1579 u_5 u_1580) rfl hdX11_comesTo ⟨Nat.le_of_ble_eq_true rfl, Nat.le_of_ble_eq_true rfl⟩ hK hP hD hS hA [0, 1, 2, 3, 4, 5, 6, 7, 8, 9, 10, 11, 12, 13, 14, 15, 16, 17, 18, 19, 20, 21, 22] [] [0, 1, 2, 3, 4, 5, 6, 7, 8, 9, 10, 11, 12, 13, 14, 15, 16, 17, 18, 19, 20, 21, 22] rfl rfl rfl rfl (by decide) rfl (fun _ => rfl) rfl rfl rfl rfl hl.1 (Nat.le_of_ble_eq_true rfl) dX11_goesOn_76 (fun r21 u22 H locs p_r21 hP hD hS => ?_)
            have hP : va_P g.1 vwCl (wX11 g a_m u22 J_m) H := hP
            have hD : va_D A (wX11 g a_m u22 J_m) := hD
            have hu76 := p_r21.2.2.2.2
            refine hret 79 ls r21 _ _ u22 dX11_goesOn_79 p_r21.2.2.1 hS hP hD ?_
            exact ⟨(KK.tr (KK.rf I_m) p_r21.1 (by decide) (by decide)), (by have eo : ((ov.toInt.toNat : Nat) : Int) = ov.toInt := (by omega); have hnv : gwc (mC (I_m 1)) rule.toInt.toNat = (r2).toInt.toNat := (by show (I_m 1 (12 * rule.toInt.toNat + 19)).toInt.toNat = _; omega); have hgA : ∀ k : Nat, (k : Int) < gwSz ((ov.toInt.toNat : Nat) : Int) → k < gwc (mC (I_m 1)) rule.toInt.toNat → gwCi ((ov.toInt.toNat : Nat) : Int) k = (mL (I_m 1) rule.toInt.toNat k).toInt := fun k h3 h4 => (by rw [eo, ← hz1.2.2.2] at h3; rw [hnv] at h4; rw [eo]; exact hg_15 k (by omega)); have T9 := gwU.tt hM.gH h_p1 h_sm (o := ov.toInt.toNat) (q := (r17).toInt.toNat) ⟨by omega, by omega⟩ h_fl h_in hgA (Or.inl ⟨by rw [eo, ← hz1.2.2.2, hnv]; omega, (by rw [eo, ← hz1.2.2.2, ← hov62]; omega), (by rw [show (I_m 20 ov.toInt.toNat).toInt + ((gwc (mC (I_m 1)) rule.toInt.toNat : Nat) : Int) - gwSz ((ov.toInt.toNat : Nat) : Int) = (x20).toInt from (by rw [eo, ← hz1.2.2.2, hnv]; have g9 : (I_m 20 ov.toInt.toNat).toInt = (x18).toInt := congrArg Int32.toInt e_x18.symm; omega)]; exact hu76)⟩); exact ⟨p_r21.2.1, p_r21.2.2.1, p_r21.2.2.2.1, T9.1, hu76.dn, T9.2⟩)⟩
        · refine lv_iload_n hx hb dX11_goesOn_28 rfl (lv_at hl 4 rfl) ?_
          refine lv_iload hx hb dX11_goesOn_29 (lv_at hl 0 rfl) ?_
          refine PurI.cs (C := RX11) (As := [.int ov, .int v5_15]) (kX11_cellIn l g ov v5_15 (by omega)) fx (gUS (uT _) u_1588 u_1589 u_5 u_1590) rfl hdX11_cellIn ⟨Nat.le_of_ble_eq_true rfl, Nat.le_of_ble_eq_true rfl⟩ hK hP [] rfl rfl rfl hl.1 (Nat.le_of_ble_eq_true rfl) dX11_goesOn_31 (fun r23 p_r23 => ?_)
          refine lv_aload_n hx hb dX11_goesOn_34 rfl (lv_at hl 3 rfl) ?_
          refine lv_iload_n hx hb dX11_goesOn_35 rfl (lv_at hl 5 rfl) ?_
          refine lv_iload hx hb dX11_goesOn_36 (lv_at hl 0 rfl) ?_
          refine PurI.cv (As := [.int rule, .int v5_15]) (kX11_cellAt l g a_m I_m J_m rule v5_15 hM (by omega) (by omega)) fx (gUV (uT _) u_830 u_831 u_832 u_5 u_833) rfl hdX11_cellAt ⟨Nat.le_of_ble_eq_true rfl, Nat.le_of_ble_eq_true rfl⟩ hK hP [0, 1, 2, 3, 4, 5, 6, 7, 8, 9, 10, 11, 12, 13, 14, 15, 16, 17, 18, 19, 20, 21, 22] rfl rfl rfl rfl rfl hl.1 (Nat.le_of_ble_eq_true rfl) dX11_goesOn_38 (fun r24 p_r24 => ?_)
          refine q_icmp_eq (tgt := 46) hx hb dX11_goesOn_41 (by decide) rfl rfl (fun k_41 => ?_) (fun k_41 => ?_)
          · refine r_iinc (lv' := fun i25 => [(5, .int i25), (4, .int r2), (3, .int r1), (0, .ref (a_m 0)), (1, .int ov), (2, .int rule)]) hx hb dX11_goesOn_46 hl (k := 0) rfl (by decide) rfl (by decide) (fun _ => rfl) (fun i25 e_i25 t_i25 ls hl => ?_)
            try have t_i25 := t_i25 (by omega)
            refine lv_goto (tgt := 15) hx hb dX11_goesOn_49 (by decide) ?_
            exact ih_15 i25 (by omega) (tq_ext (P := fun k : Nat => gwCi ov.toInt k = (mL (I_m 1) rule.toInt.toNat k).toInt) hg_15 (by omega) (by omega) (by show gwCi ov.toInt ((v5_15.toInt.toNat : Nat) : Int) = (I_m 1 (12 * rule.toInt.toNat + (20 + v5_15.toInt.toNat))).toInt; rw [show ((v5_15.toInt.toNat : Nat) : Int) = v5_15.toInt by omega, ← p_r23.2.2.2, ← p_r24.2]; omega)) (by omega) _ _ hP hD hS ls hl
          · refine lv_iconst (v := 0) hx hb dX11_goesOn_44 (by decide) ?_
            refine hret 45 ls (0 : Int32) _ _ I_m dX11_goesOn_45 (Or.inl rfl) hS hP hD ?_
            exact ⟨(KK.rf I_m), ⟨h_v, Or.inl rfl, by rw [lm0]; omega, h_sm, fun _ => Int.le_refl _, gwM.no hM.gH h_p1 (fun w => (by have eo : ((ov.toInt.toNat : Nat) : Int) = ov.toInt := (by omega); have hnv : gwc (mC (I_m 1)) rule.toInt.toNat = (r2).toInt.toNat := (by show (I_m 1 (12 * rule.toInt.toNat + 19)).toInt.toNat = _; omega); have w9 := w v5_15.toInt.toNat (by rw [eo, ← hz1.2.2.2]; omega) (by rw [hnv]; omega); rw [eo, show ((v5_15.toInt.toNat : Nat) : Int) = v5_15.toInt by omega, ← p_r23.2.2.2, show mL (I_m 1) rule.toInt.toNat v5_15.toInt.toNat = r24 from p_r24.2.symm] at w9; omega)) rfl⟩⟩
  exact L15 ((3 - (0 : Int32).toInt) + 1).toNat (0 : Int32) (by omega) (fun k q => by rw [lm0] at q; exfalso; omega) (by omega) _ _ hP hD hS ls hl

set_option maxHeartbeats 4000000 in
set_option maxRecDepth 100000 in
theorem kX11_twinOf (l : Launch) (g : gG) (a_m : Nat → Nat) (I_m : Nat → Nat → Int32) (J_m : Nat → Nat → Int64) (hM : MI I_m) (h_p1 : gwP (I_m 1 0).toInt.toNat (mC (I_m 1)) (mL (I_m 1))) : EffI l g yX11_twinOf wsX11_twinOf 4 [.ref (a_m 0)] (wX11 g a_m I_m J_m) (fun (u : (Nat → Nat → Int32)) => wX11 g a_m u J_m) (fun r (u : (Nat → Nat → Int32)) => KK [20] [] I_m (u) ∧ gwL (I_m 1 0).toInt.toNat (I_m 1 6) (mC (I_m 1)) (mL (I_m 1)) r.toInt) := by
  refine EffI.st (cc := cX11_twinOf) (maxL := 4) (by decide) rfl (Nat.le_of_ble_eq_true rfl) (fun p e s m args below meth c A Q ls fx hK hP hD hA hS hl hret => ?_)
  have hx := fx.1
  have hb := fx.2.1
  have hml := fx.2.2.1
  have hown := fx.2.2.2.1
  have hts := fx.2.2.2.2
  have hl : lv_has ls 4 [(0, .ref (a_m 0))] := hl
  have hP : va_P g.1 vwCl (wX11 g a_m I_m J_m) s.heap := hP
  have hf_7 := hts _ (uT _ _ u_170)
  have hf_83 := hts _ (uT _ _ u_194)
  have hi_X11 : ∀ w ∈ wsX110, w.before args s = true := fun w h => hts w (uT _ w (u_wsX110 w h))
  have hc_362 := hts _ (uT _ _ u_1076)
  have lm1 : (-1 : Int32).toInt = -1 := by decide
  have lm0 : (0 : Int32).toInt = 0 := by decide
  have lm2 : (1 : Int32).toInt = 1 := by decide
  have lq6 : (6 : Int32).toInt = 6 := by decide
  have lq1 : (1 : Int32).toInt = 1 := by decide
  have hmn := hM.many rfl
  have lq4161 : (4161 : Int32).toInt = 4161 := by decide
  have lqF : (1000000 : Int32).toInt = 1000000 := by decide
  refine lv_iconst (v := 0) hx hb dX11_twinOf_0 (by decide) ?_
  refine lv_istore_n (lv' := [(1, .int (0 : Int32)), (0, .ref (a_m 0))]) hx hb dX11_twinOf_1 rfl hl (by decide) rfl (fun ls hl => ?_)
  have L2 : ∀ (nn : Nat) (v1_2 : Int32) (I_m_2 : Nat → Nat → Int32), (hM_2 : MI I_m_2) → (hk_2 : KK [20] [] I_m I_m_2) → (hv_2 : 0 ≤ v1_2.toInt ∧ v1_2.toInt ≤ 4161) → (hf_2 : ∀ j : Nat, (j : Int) < v1_2.toInt → I_m_2 20 j = 1000000) → ((4162 - v1_2.toInt) < (nn : Int)) → ∀ (H : Heap) (locs : List Loc), va_P g.1 vwCl (wX11 g a_m I_m_2 J_m) H → va_D A (wX11 g a_m I_m_2 J_m) → va_S A s.heap H locs → ∀ ls : Array Slot, lv_has ls 4 [(1, .int v1_2), (0, .ref (a_m 0))] → W p l e (rm 4) s m args below meth c H locs 0 0 Q (F0 m 2 ls []) := by
    intro n_2
    induction n_2 with
    | zero =>
      intro v1_2 I_m_2 hM_2 hk_2 hv_2 hf_2 hms_2 H locs hP hD hS ls hl
      exfalso; omega
    | succ n_2 ih_2 =>
      intro v1_2 I_m_2 hM_2 hk_2 hv_2 hf_2 hms_2 H locs hP hD hS ls hl
      refine lv_iload_n hx hb dX11_twinOf_2 rfl (lv_at hl 0 rfl) ?_
      refine lv_aload_n hx hb dX11_twinOf_3 rfl (lv_at hl 1 rfl) ?_
      refine va_get (D := g.1) (ci := 11) (v := .ref (a_m 20)) (C := RX11) (T := TX11) (N := 46) hx hb hi_X11 (fun _ h => h) hown hK.1 hP 0 rfl rfl 40 (by decide) hf_83 (fun _ h9 => h9) rfl dX11_twinOf_4 ?_
      refine va_alen (v := 4161) hx hb hK.1 hP 20 0 rfl rfl (show Int32.ofNat 4161 = 4161 from (by decide)) dX11_twinOf_7 ?_
      refine q_icmp_ge (tgt := 26) hx hb dX11_twinOf_8 (by decide) rfl (by decide : (4161 : Int32).toInt = 4161) (fun k_8 => ?_) (fun k_8 => ?_)
      · have hO2 : OV I_m_2 := fun j hj => by rw [hf_2 j (by omega)]; omega
        refine lv_iconst (v := 0) hx hb dX11_twinOf_26 (by decide) ?_
        refine lv_istore_n (lv' := [(1, .int (0 : Int32)), (0, .ref (a_m 0))]) hx hb dX11_twinOf_27 rfl hl (by decide) rfl (fun ls hl => ?_)
        refine lv_iconst (v := 0) hx hb dX11_twinOf_28 (by decide) ?_
        refine lv_istore_n (lv' := [(2, .int (0 : Int32)), (1, .int (0 : Int32)), (0, .ref (a_m 0))]) hx hb dX11_twinOf_29 rfl hl (by decide) rfl (fun ls hl => ?_)
        have L30 : ∀ (nn : Nat) (v1_30 : Int32) (v2_30 : Int32) (I_m_30 : Nat → Nat → Int32), (hM_30 : MI I_m_30) → (hk_30 : KK [20] [] I_m I_m_30) → (hv_30 : 0 ≤ v2_30.toInt ∧ v2_30.toInt ≤ 24) → (hb_30 : 0 ≤ v1_30.toInt ∧ v1_30.toInt ≤ 1) → (hO_30 : OV I_m_30) → (hSm_30 : gwSm (I_m 1 0).toInt.toNat (I_m 1 6) (mC (I_m 1)) (mL (I_m 1)) (I_m_30 20)) → (hJ_30 : gwJ (I_m 1 0).toInt.toNat (I_m 1 6) (mC (I_m 1)) (mL (I_m 1)) (gwM (mC (I_m 1)) (mL (I_m 1)) (I_m_30 20)) (I_m_30 20 0) v2_30.toInt.toNat 0) → (hN_30 : v1_30.toInt = 0 → ∀ j : Nat, j < 4161 → I_m_30 20 j = 1000000) → ((25 - v2_30.toInt) < (nn : Int)) → ∀ (H : Heap) (locs : List Loc), va_P g.1 vwCl (wX11 g a_m I_m_30 J_m) H → va_D A (wX11 g a_m I_m_30 J_m) → va_S A s.heap H locs → ∀ ls : Array Slot, lv_has ls 4 [(2, .int v2_30), (1, .int v1_30), (0, .ref (a_m 0))] → W p l e (rm 4) s m args below meth c H locs 0 0 Q (F0 m 30 ls []) := by
          intro n_30
          induction n_30 with
          | zero =>
            intro v1_30 v2_30 I_m_30 hM_30 hk_30 hv_30 hb_30 hO_30 hSm_30 hJ_30 hN_30 hms_30 H locs hP hD hS ls hl
            exfalso; omega
          | succ n_30 ih_30 =>
            intro v1_30 v2_30 I_m_30 hM_30 hk_30 hv_30 hb_30 hO_30 hSm_30 hJ_30 hN_30 hms_30 H locs hP hD hS ls hl
            refine lv_iload_n hx hb dX11_twinOf_30 rfl (lv_at hl 0 rfl) ?_
            refine lv_aload_n hx hb dX11_twinOf_31 rfl (lv_at hl 2 rfl) ?_
            refine va_get (D := g.1) (ci := 11) (v := .ref (a_m 1)) (C := RX11) (T := TX11) (N := 46) hx hb hi_X11 (fun _ h => h) hown hK.1 hP 0 rfl rfl 0 (by decide) hf_7 (fun _ h9 => h9) rfl dX11_twinOf_32 ?_
            refine lv_iconst (v := 0) hx hb dX11_twinOf_35 (by decide) ?_
            have n_36 : vp_in (0 : Int32) 19800 := (t_in (by decide))
            refine va_iald hx hb hK.1 hP 1 0 rfl rfl n_36 dX11_twinOf_36 ?_
            refine q_nm (fun x1 e_x1 => ?_)
            have e_x1 : x1 = (I_m_30 1) 0 := e_x1
            have g_x1 : x1.toInt = ((I_m_30 1) 0).toInt := congrArg _ e_x1
            have f_x1 := MI.many hM_30 e_x1
            have m_x1 : (x1).toInt = (I_m 1 0).toInt := (by rw [e_x1, hk_30.row 1 (by decide)])
            refine q_icmp_ge (tgt := 106) hx hb dX11_twinOf_37 (by decide) rfl rfl (fun k_37 => ?_) (fun k_37 => ?_)
            · have L106 : ∀ (nn : Nat) (v1_106 : Int32) (v2_106 : Int32) (I_m_106 : Nat → Nat → Int32), (hM_106 : MI I_m_106) → (hk_106 : KK [20] [] I_m I_m_106) → (hb_106 : 0 ≤ v1_106.toInt ∧ v1_106.toInt ≤ 1) → (hO_106 : OV I_m_106) → (hSm_106 : gwSm (I_m 1 0).toInt.toNat (I_m 1 6) (mC (I_m 1)) (mL (I_m 1)) (I_m_106 20)) → (hK_106 : gwK (I_m 1 0).toInt.toNat (I_m 1 6) (mC (I_m 1)) (mL (I_m 1)) (gwM (mC (I_m 1)) (mL (I_m 1)) (I_m_106 20)) (I_m_106 20 0) 0) → (hZ_106 : v1_106.toInt = 0 → gwZ (I_m 1 0).toInt.toNat (I_m 1 6) (mC (I_m 1)) (mL (I_m 1)) (gwM (mC (I_m 1)) (mL (I_m 1)) (I_m_106 20)) (I_m_106 20 0)) → ((2 * sv (I_m_106 20) 4161 + v1_106.toInt) < (nn : Int)) → ∀ (H : Heap) (locs : List Loc), va_P g.1 vwCl (wX11 g a_m I_m_106 J_m) H → va_D A (wX11 g a_m I_m_106 J_m) → va_S A s.heap H locs → ∀ ls : Array Slot, lv_has ls 4 [(2, .int v2_106), (1, .int v1_106), (0, .ref (a_m 0))] → W p l e (rm 4) s m args below meth c H locs 0 0 Q (F0 m 106 ls []) := by
                intro n_106
                induction n_106 with
                | zero =>
                  intro v1_106 v2_106 I_m_106 hM_106 hk_106 hb_106 hO_106 hSm_106 hK_106 hZ_106 hms_106 H locs hP hD hS ls hl
                  have q := hO_106.s0; exfalso; omega
                | succ n_106 ih_106 =>
                  intro v1_106 v2_106 I_m_106 hM_106 hk_106 hb_106 hO_106 hSm_106 hK_106 hZ_106 hms_106 H locs hP hD hS ls hl
                  refine lv_iload_n hx hb dX11_twinOf_106 rfl (lv_at hl 1 rfl) ?_
                  refine q_if_eq (tgt := 190) hx hb dX11_twinOf_107 (by decide) rfl (fun b_107 k_107 => ?_) (fun b_107 k_107 => ?_)
                  · refine lv_aload_n hx hb dX11_twinOf_190 rfl (lv_at hl 2 rfl) ?_
                    refine va_get (D := g.1) (ci := 11) (v := .ref (a_m 20)) (C := RX11) (T := TX11) (N := 46) hx hb hi_X11 (fun _ h => h) hown hK.1 hP 0 rfl rfl 40 (by decide) hf_83 (fun _ h9 => h9) rfl dX11_twinOf_191 ?_
                    refine lv_iconst (v := 0) hx hb dX11_twinOf_194 (by decide) ?_
                    have n_195 : vp_in (0 : Int32) 4161 := (t_in (by decide))
                    refine va_iald hx hb hK.1 hP 20 0 rfl rfl n_195 dX11_twinOf_195 ?_
                    refine q_nm (fun x2 e_x2 => ?_)
                    have e_x2 : x2 = (I_m_106 20) 0 := e_x2
                    have g_x2 : x2.toInt = ((I_m_106 20) 0).toInt := congrArg _ e_x2
                    refine hret 196 ls x2 _ _ I_m_106 dX11_twinOf_196 hS hP hD ?_
                    exact ⟨hk_106, (by have w9 := gwK.fin hM.gH (by omega) (gwSm.b hM.gH h_p1 hSm_106) (fun w => ((hSm_106 0 (by decide)).2 w).1 rfl) hK_106 (Or.inl (hZ_106 (by omega))); rw [show (x2).toInt = (I_m_106 20 0).toInt from congrArg Int32.toInt e_x2]; exact w9)⟩
                  · refine lv_iconst (v := 0) hx hb dX11_twinOf_110 (by decide) ?_
                    refine lv_istore_n (lv' := [(1, .int (0 : Int32)), (2, .int v2_106), (0, .ref (a_m 0))]) hx hb dX11_twinOf_111 rfl hl (by decide) rfl (fun ls hl => ?_)
                    refine lv_iconst (v := 1) hx hb dX11_twinOf_112 (by decide) ?_
                    refine lv_istore_n (lv' := [(2, .int (1 : Int32)), (1, .int (0 : Int32)), (0, .ref (a_m 0))]) hx hb dX11_twinOf_113 rfl hl (by decide) rfl (fun ls hl => ?_)
                    have L114 : ∀ (nn : Nat) (v1_114 : Int32) (v2_114 : Int32) (I_m_114 : Nat → Nat → Int32), (hM_114 : MI I_m_114) → (hk_114 : KK [20] [] I_m I_m_114) → (hu_114 : 1 ≤ v2_114.toInt ∧ v2_114.toInt ≤ 4161) → (hb_114 : 0 ≤ v1_114.toInt ∧ v1_114.toInt ≤ 1) → (hO_114 : OV I_m_114) → (hs_114 : sv (I_m_114 20) 4161 + v1_114.toInt ≤ sv (I_m_106 20) 4161) → (hSm_114 : gwSm (I_m 1 0).toInt.toNat (I_m 1 6) (mC (I_m 1)) (mL (I_m 1)) (I_m_114 20)) → (hPr_114 : gwPr (I_m 1 0).toInt.toNat (I_m 1 6) (mC (I_m 1)) (mL (I_m 1)) (gwN (mC (I_m 1)) (mL (I_m 1))) (gwM (mC (I_m 1)) (mL (I_m 1)) (I_m_106 20)) (gwM (mC (I_m 1)) (mL (I_m 1)) (I_m_114 20)) (I_m_106 20 0) (I_m_114 20 0) v1_114 v2_114.toInt.toNat 0) → ((4162 - v2_114.toInt) < (nn : Int)) → ∀ (H : Heap) (locs : List Loc), va_P g.1 vwCl (wX11 g a_m I_m_114 J_m) H → va_D A (wX11 g a_m I_m_114 J_m) → va_S A s.heap H locs → ∀ ls : Array Slot, lv_has ls 4 [(2, .int v2_114), (1, .int v1_114), (0, .ref (a_m 0))] → W p l e (rm 4) s m args below meth c H locs 0 0 Q (F0 m 114 ls []) := by
                      intro n_114
                      induction n_114 with
                      | zero =>
                        intro v1_114 v2_114 I_m_114 hM_114 hk_114 hu_114 hb_114 hO_114 hs_114 hSm_114 hPr_114 hms_114 H locs hP hD hS ls hl
                        exfalso; omega
                      | succ n_114 ih_114 =>
                        intro v1_114 v2_114 I_m_114 hM_114 hk_114 hu_114 hb_114 hO_114 hs_114 hSm_114 hPr_114 hms_114 H locs hP hD hS ls hl
                        refine lv_iload_n hx hb dX11_twinOf_114 rfl (lv_at hl 0 rfl) ?_
                        refine lv_aload_n hx hb dX11_twinOf_115 rfl (lv_at hl 2 rfl) ?_
                        refine va_get (D := g.1) (ci := 11) (v := .ref (a_m 20)) (C := RX11) (T := TX11) (N := 46) hx hb hi_X11 (fun _ h => h) hown hK.1 hP 0 rfl rfl 40 (by decide) hf_83 (fun _ h9 => h9) rfl dX11_twinOf_116 ?_
                        refine va_alen (v := 4161) hx hb hK.1 hP 20 0 rfl rfl (show Int32.ofNat 4161 = 4161 from (by decide)) dX11_twinOf_119 ?_
                        refine q_icmp_ge (tgt := 187) hx hb dX11_twinOf_120 (by decide) rfl (by decide : (4161 : Int32).toInt = 4161) (fun k_120 => ?_) (fun k_120 => ?_)
                        · refine lv_goto (tgt := 106) hx hb dX11_twinOf_187 (by decide) ?_
                          exact ih_106 v1_114 v2_114 I_m_114 hM_114 hk_114 (by omega) hO_114 hSm_114 (gwK.mn hK_106 hPr_114.1) (fun e => gwGo.z (gwPr.go hPr_114 (fun s a => (by have := gwN.all hM.gH h_p1 s a; omega))) (t_inj (by omega))) (by omega) _ _ hP hD hS ls hl
                        · refine lv_aload_n hx hb dX11_twinOf_123 rfl (lv_at hl 2 rfl) ?_
                          refine va_get (D := g.1) (ci := 11) (v := .ref (a_m 20)) (C := RX11) (T := TX11) (N := 46) hx hb hi_X11 (fun _ h => h) hown hK.1 hP 0 rfl rfl 40 (by decide) hf_83 (fun _ h9 => h9) rfl dX11_twinOf_124 ?_
                          refine lv_iload_n hx hb dX11_twinOf_127 rfl (lv_at hl 0 rfl) ?_
                          have n_128 : vp_in v2_114 4161 := (t_in (by omega))
                          refine va_iald hx hb hK.1 hP 20 0 rfl rfl n_128 dX11_twinOf_128 ?_
                          refine q_nm (fun x3 e_x3 => ?_)
                          have e_x3 : x3 = (I_m_114 20) v2_114.toNatClampNeg := e_x3
                          have g_x3 : x3.toInt = ((I_m_114 20) v2_114.toNatClampNeg).toInt := congrArg _ e_x3
                          refine lv_ldcw hx hb hown hc_362 dX11_twinOf_129 ?_
                          refine q_icmp_ne (tgt := 138) hx hb dX11_twinOf_132 (by decide) rfl (by decide : (1000000 : Int32).toInt = 1000000) (fun k_132 => ?_) (fun k_132 => ?_)
                          · refine lv_iconst (v := 0) hx hb dX11_twinOf_138 (by decide) ?_
                            refine lv_istore_n (lv' := [(3, .int (0 : Int32)), (2, .int v2_114), (1, .int v1_114), (0, .ref (a_m 0))]) hx hb dX11_twinOf_139 rfl hl (by decide) rfl (fun ls hl => ?_)
                            have L140 : ∀ (nn : Nat) (v1_140 : Int32) (v3_140 : Int32) (I_m_140 : Nat → Nat → Int32), (hM_140 : MI I_m_140) → (hk_140 : KK [20] [] I_m I_m_140) → (hy_140 : 0 ≤ v3_140.toInt ∧ v3_140.toInt ≤ 24) → (hb_140 : 0 ≤ v1_140.toInt ∧ v1_140.toInt ≤ 1) → (hO_140 : OV I_m_140) → (hs_140 : sv (I_m_140 20) 4161 + v1_140.toInt ≤ sv (I_m_106 20) 4161) → (hSm_140 : gwSm (I_m 1 0).toInt.toNat (I_m 1 6) (mC (I_m 1)) (mL (I_m 1)) (I_m_140 20)) → (hPr_140 : gwPr (I_m 1 0).toInt.toNat (I_m 1 6) (mC (I_m 1)) (mL (I_m 1)) (gwN (mC (I_m 1)) (mL (I_m 1))) (gwM (mC (I_m 1)) (mL (I_m 1)) (I_m_106 20)) (gwM (mC (I_m 1)) (mL (I_m 1)) (I_m_140 20)) (I_m_106 20 0) (I_m_140 20 0) v1_140 v2_114.toInt.toNat v3_140.toInt.toNat) → (hfl_140 : (I_m_140 20 v2_114.toInt.toNat).toInt < 1000000) → ((25 - v3_140.toInt) < (nn : Int)) → ∀ (H : Heap) (locs : List Loc), va_P g.1 vwCl (wX11 g a_m I_m_140 J_m) H → va_D A (wX11 g a_m I_m_140 J_m) → va_S A s.heap H locs → ∀ ls : Array Slot, lv_has ls 4 [(3, .int v3_140), (2, .int v2_114), (1, .int v1_140), (0, .ref (a_m 0))] → W p l e (rm 4) s m args below meth c H locs 0 0 Q (F0 m 140 ls []) := by
                              intro n_140
                              induction n_140 with
                              | zero =>
                                intro v1_140 v3_140 I_m_140 hM_140 hk_140 hy_140 hb_140 hO_140 hs_140 hSm_140 hPr_140 hfl_140 hms_140 H locs hP hD hS ls hl
                                exfalso; omega
                              | succ n_140 ih_140 =>
                                intro v1_140 v3_140 I_m_140 hM_140 hk_140 hy_140 hb_140 hO_140 hs_140 hSm_140 hPr_140 hfl_140 hms_140 H locs hP hD hS ls hl
                                have hr140 : I_m_140 1 = I_m 1 := hk_140.row 1 (by decide)
                                refine lv_iload_n hx hb dX11_twinOf_140 rfl (lv_at hl 0 rfl) ?_
                                refine lv_aload_n hx hb dX11_twinOf_141 rfl (lv_at hl 3 rfl) ?_
                                refine va_get (D := g.1) (ci := 11) (v := .ref (a_m 1)) (C := RX11) (T := TX11) (N := 46) hx hb hi_X11 (fun _ h => h) hown hK.1 hP 0 rfl rfl 0 (by decide) hf_7 (fun _ h9 => h9) rfl dX11_twinOf_142 ?_
                                refine lv_iconst (v := 0) hx hb dX11_twinOf_145 (by decide) ?_
                                have n_146 : vp_in (0 : Int32) 19800 := (t_in (by decide))
                                refine va_iald hx hb hK.1 hP 1 0 rfl rfl n_146 dX11_twinOf_146 ?_
                                refine q_nm (fun x4 e_x4 => ?_)
                                have e_x4 : x4 = (I_m_140 1) 0 := e_x4
                                have g_x4 : x4.toInt = ((I_m_140 1) 0).toInt := congrArg _ e_x4
                                have f_x4 := MI.many hM_140 e_x4
                                have m_x4 : (x4).toInt = (I_m 1 0).toInt := (by rw [e_x4, hr140])
                                refine q_icmp_ge (tgt := 181) hx hb dX11_twinOf_147 (by decide) rfl rfl (fun k_147 => ?_) (fun k_147 => ?_)
                                · refine r_iinc (lv' := fun i5 => [(2, .int i5), (3, .int v3_140), (1, .int v1_140), (0, .ref (a_m 0))]) hx hb dX11_twinOf_181 hl (k := 1) rfl (by decide) rfl (by decide) (fun _ => rfl) (fun i5 e_i5 t_i5 ls hl => ?_)
                                  try have t_i5 := t_i5 (by omega)
                                  refine lv_goto (tgt := 114) hx hb dX11_twinOf_184 (by decide) ?_
                                  exact ih_114 v1_140 i5 I_m_140 hM_140 hk_140 (by omega) (by omega) (by first | exact hO_140 | exact hO_114) (by first | exact hs_140 | exact hs_114) (by first | exact hSm_140 | exact hSm_114) (by rw [show (i5).toInt.toNat = v2_114.toInt.toNat + 1 by omega]; first | exact gwPr.nx hPr_140 (Or.inl (by omega)) | exact gwPr.nx hPr_114 (Or.inr (fun s a e => (by have m9 : (I_m_114 20 (gwN (mC (I_m 1)) (mL (I_m 1)) s)).toInt ≤ (I_m_106 20 (gwN (mC (I_m 1)) (mL (I_m 1)) s)).toInt := hPr_114.1.1 s; (have x9 : (I_m_114 20 (gwN (mC (I_m 1)) (mL (I_m 1)) s)).toInt = (x3).toInt := (by rw [e]; exact congrArg Int32.toInt e_x3.symm)); show 1000000 ≤ (I_m_106 20 (gwN (mC (I_m 1)) (mL (I_m 1)) s)).toInt; omega)))) (by omega) _ _ hP hD hS ls (lv_sub hl [0, 2, 3] rfl)
                                · refine lv_aload_n hx hb dX11_twinOf_150 rfl (lv_at hl 3 rfl) ?_
                                  refine va_get (D := g.1) (ci := 11) (v := .ref (a_m 1)) (C := RX11) (T := TX11) (N := 46) hx hb hi_X11 (fun _ h => h) hown hK.1 hP 0 rfl rfl 0 (by decide) hf_7 (fun _ h9 => h9) rfl dX11_twinOf_151 ?_
                                  refine lv_bipush (v := 6) hx hb dX11_twinOf_154 (by decide) ?_
                                  have n_156 : vp_in (6 : Int32) 19800 := (t_in (by decide))
                                  refine va_iald hx hb hK.1 hP 1 0 rfl rfl n_156 dX11_twinOf_156 ?_
                                  refine q_nm (fun x6 e_x6 => ?_)
                                  have e_x6 : x6 = (I_m_140 1) 6 := e_x6
                                  have g_x6 : x6.toInt = ((I_m_140 1) 6).toInt := congrArg _ e_x6
                                  refine lv_iload_n hx hb dX11_twinOf_157 rfl (lv_at hl 0 rfl) ?_
                                  refine PurI.cs (C := RX11) (As := [.int x6, .int v3_140]) (kX11_isOut l g x6 v3_140) fx (gUS (uT _) u_740 u_741 u_5 u_742) rfl hdX11_isOut ⟨Nat.le_of_ble_eq_true rfl, Nat.le_of_ble_eq_true rfl⟩ hK hP [] rfl rfl rfl hl.1 (Nat.le_of_ble_eq_true rfl) dX11_twinOf_158 (fun r7 p_r7 => ?_)
                                  refine q_if_ne (tgt := 175) hx hb dX11_twinOf_161 (by decide) rfl (fun b_161 k_161 => ?_) (fun b_161 k_161 => ?_)
                                  · have q_161 := bP.t p_r7 b_161
                                    have hn161 : ¬ gwIn (I_m 1 0).toInt.toNat (I_m 1 6) (v3_140).toInt.toNat := fun w => (by have e9 := (t_nI (x := v3_140) rfl (by omega)).1; have w9 := w.2; rw [← e9, ← hr140, show I_m_140 1 6 = x6 from e_x6.symm, outB.tP q_161] at w9; exact absurd w9 (by decide))
                                    refine r_iinc (lv' := fun i8 => [(3, .int i8), (2, .int v2_114), (1, .int v1_140), (0, .ref (a_m 0))]) hx hb dX11_twinOf_175 hl (k := 0) rfl (by decide) rfl (by decide) (fun _ => rfl) (fun i8 e_i8 t_i8 ls hl => ?_)
                                    try have t_i8 := t_i8 (by omega)
                                    refine lv_goto (tgt := 140) hx hb dX11_twinOf_178 (by decide) ?_
                                    exact ih_140 v1_140 i8 I_m_140 hM_140 hk_140 (by omega) (by omega) (by first | exact hO167 | exact hO_140) (by omega) (by first | exact x167.1 | exact hSm_140) (by rw [show (i8).toInt.toNat = v3_140.toInt.toNat + 1 by omega]; first | exact gwPr.sk hPr_140 hn161 | exact gwPr.st hPr_140 x167.2.2 (fun e => absurd e (by decide)) | exact gwPr.st hPr_140 x167.2.2 (fun e => ⟨e, t_inj (by omega)⟩)) (by first | exact Int.lt_of_le_of_lt (x167.2.1 _) hfl_140 | exact hfl_140) (by omega) _ _ hP hD hS ls hl
                                  · have q_161 := bP.f p_r7 b_161
                                    have hi161 : gwIn (I_m 1 0).toInt.toNat (I_m 1 6) (v3_140).toInt.toNat := ⟨by omega, (by have e9 := (t_nI (x := v3_140) rfl (by omega)).1; rw [← e9, ← hr140, show I_m_140 1 6 = x6 from e_x6.symm]; exact outB.fP q_161)⟩
                                    refine lv_aload_n hx hb dX11_twinOf_164 rfl (lv_at hl 3 rfl) ?_
                                    refine lv_iload_n hx hb dX11_twinOf_165 rfl (lv_at hl 1 rfl) ?_
                                    refine lv_iload_n hx hb dX11_twinOf_166 rfl (lv_at hl 0 rfl) ?_
                                    refine EffI.cv (wr := ([])) (w' := fun u10 => wX11 g a_m u10 J_m) (As := [.int v2_114, .int v3_140]) (kX11_goesOn l g a_m I_m_140 J_m v2_114 v3_140 hM_140 (by omega) hO_140 (by omega) (by rw [hr140]; exact h_p1) (by rw [hr140]; exact hSm_140) (by omega) hfl_140 (by rw [hr140]; exact hi161)) fx (gUV (uT _) u_1581 u_1582 u_1583 u_5 u_1584) rfl hdX11_goesOn ⟨Nat.le_of_ble_eq_true rfl, Nat.le_of_ble_eq_true rfl⟩ hK hP hD hS hA [0, 1, 2, 3, 4, 5, 6, 7, 8, 9, 10, 11, 12, 13, 14, 15, 16, 17, 18, 19, 20, 21, 22] [] [0, 1, 2, 3, 4, 5, 6, 7, 8, 9, 10, 11, 12, 13, 14, 15, 16, 17, 18, 19, 20, 21, 22] rfl rfl rfl rfl (by decide) rfl (fun _ => rfl) rfl rfl rfl rfl hl.1 (Nat.le_of_ble_eq_true rfl) dX11_twinOf_167 (fun r9 u10 H locs p_r9 hP hD hS => ?_)
                                    have hP : va_P g.1 vwCl (wX11 g a_m u10 J_m) H := hP
                                    have hD : va_D A (wX11 g a_m u10 J_m) := hD
                                    have hO167 := p_r9.2.1
                                    have hs167 := p_r9.2.2.2.1
                                    have hr167 := p_r9.2.2.1
                                    have hr168 : r9.toInt = 0 ∨ r9.toInt = 1 := by rcases p_r9.2.2.1 with q | q; exact Or.inl (by rw [q]; exact lm0); exact Or.inr (by rw [q]; exact lm2)
                                    have x167 := p_r9.2.2.2.2
                                    rw [hr140] at x167
                                    refine q_if_eq (tgt := 175) hx hb dX11_twinOf_170 (by decide) rfl (fun b_170 k_170 => ?_) (fun b_170 k_170 => ?_)
                                    · refine r_iinc (lv' := fun i11 => [(3, .int i11), (2, .int v2_114), (1, .int v1_140), (0, .ref (a_m 0))]) hx hb dX11_twinOf_175 hl (k := 0) rfl (by decide) rfl (by decide) (fun _ => rfl) (fun i11 e_i11 t_i11 ls hl => ?_)
                                      try have t_i11 := t_i11 (by omega)
                                      refine lv_goto (tgt := 140) hx hb dX11_twinOf_178 (by decide) ?_
                                      exact ih_140 v1_140 i11 u10 (MI.kk hM_140 p_r9.1 (by decide) (by decide)) (KK.tr hk_140 p_r9.1 (by decide) (by decide)) (by omega) (by omega) (by first | exact hO167 | exact hO_140) (by omega) (by first | exact x167.1 | exact hSm_140) (by rw [show (i11).toInt.toNat = v3_140.toInt.toNat + 1 by omega]; first | exact gwPr.sk hPr_140 hn161 | exact gwPr.st hPr_140 x167.2.2 (fun e => absurd e (by decide)) | exact gwPr.st hPr_140 x167.2.2 (fun e => ⟨e, t_inj (by omega)⟩)) (by first | exact Int.lt_of_le_of_lt (x167.2.1 _) hfl_140 | exact hfl_140) (by omega) _ _ hP hD hS ls hl
                                    · refine lv_iconst (v := 1) hx hb dX11_twinOf_173 (by decide) ?_
                                      refine lv_istore_n (lv' := [(1, .int (1 : Int32)), (3, .int v3_140), (2, .int v2_114), (0, .ref (a_m 0))]) hx hb dX11_twinOf_174 rfl hl (by decide) rfl (fun ls hl => ?_)
                                      refine r_iinc (lv' := fun i12 => [(3, .int i12), (1, .int (1 : Int32)), (2, .int v2_114), (0, .ref (a_m 0))]) hx hb dX11_twinOf_175 hl (k := 1) rfl (by decide) rfl (by decide) (fun _ => rfl) (fun i12 e_i12 t_i12 ls hl => ?_)
                                      try have t_i12 := t_i12 (by omega)
                                      refine lv_goto (tgt := 140) hx hb dX11_twinOf_178 (by decide) ?_
                                      exact ih_140 (1 : Int32) i12 u10 (MI.kk hM_140 p_r9.1 (by decide) (by decide)) (KK.tr hk_140 p_r9.1 (by decide) (by decide)) (by omega) (by omega) (by first | exact hO167 | exact hO_140) (by omega) (by first | exact x167.1 | exact hSm_140) (by rw [show (i12).toInt.toNat = v3_140.toInt.toNat + 1 by omega]; first | exact gwPr.sk hPr_140 hn161 | exact gwPr.st hPr_140 x167.2.2 (fun e => absurd e (by decide)) | exact gwPr.st hPr_140 x167.2.2 (fun e => ⟨e, t_inj (by omega)⟩)) (by first | exact Int.lt_of_le_of_lt (x167.2.1 _) hfl_140 | exact hfl_140) (by omega) _ _ hP hD hS ls (lv_sub hl [0, 2, 1, 3] rfl)
                            exact L140 ((25 - (0 : Int32).toInt) + 1).toNat v1_114 (0 : Int32) I_m_114 hM_114 hk_114 (by omega) (by omega) hO_114 hs_114 hSm_114 (by rw [lm0]; exact hPr_114) (by have o9 := (hO_114 (v2_114).toInt.toNat (by omega)).2; have x9 : (I_m_114 20 (v2_114).toInt.toNat).toInt = (x3).toInt := congrArg Int32.toInt e_x3.symm; omega) (by omega) _ _ hP hD hS ls hl
                          · refine lv_goto (tgt := 181) hx hb dX11_twinOf_135 (by decide) ?_
                            refine r_iinc (lv' := fun i13 => [(2, .int i13), (1, .int v1_114), (0, .ref (a_m 0))]) hx hb dX11_twinOf_181 hl (k := 0) rfl (by decide) rfl (by decide) (fun _ => rfl) (fun i13 e_i13 t_i13 ls hl => ?_)
                            try have t_i13 := t_i13 (by omega)
                            refine lv_goto (tgt := 114) hx hb dX11_twinOf_184 (by decide) ?_
                            exact ih_114 v1_114 i13 I_m_114 hM_114 hk_114 (by omega) (by omega) (by first | exact hO_140 | exact hO_114) (by first | exact hs_140 | exact hs_114) (by first | exact hSm_140 | exact hSm_114) (by rw [show (i13).toInt.toNat = v2_114.toInt.toNat + 1 by omega]; first | exact gwPr.nx hPr_140 (Or.inl (by omega)) | exact gwPr.nx hPr_114 (Or.inr (fun s a e => (by have m9 : (I_m_114 20 (gwN (mC (I_m 1)) (mL (I_m 1)) s)).toInt ≤ (I_m_106 20 (gwN (mC (I_m 1)) (mL (I_m 1)) s)).toInt := hPr_114.1.1 s; (have x9 : (I_m_114 20 (gwN (mC (I_m 1)) (mL (I_m 1)) s)).toInt = (x3).toInt := (by rw [e]; exact congrArg Int32.toInt e_x3.symm)); show 1000000 ≤ (I_m_106 20 (gwN (mC (I_m 1)) (mL (I_m 1)) s)).toInt; omega)))) (by omega) _ _ hP hD hS ls hl
                    exact L114 ((4162 - (1 : Int32).toInt) + 1).toNat (0 : Int32) (1 : Int32) I_m_106 hM_106 hk_106 (by omega) (by omega) hO_106 (by rw [lm0]; omega) hSm_106 (by rw [show (1 : Int32).toInt.toNat = 1 from rfl]; exact gwPr.in (gwN.in hM.gH h_p1)) (by omega) _ _ hP hD hS ls hl
              exact L106 ((2 * sv (I_m_30 20) 4161 + v1_30.toInt) + 1).toNat v1_30 v2_30 I_m_30 hM_30 hk_30 (by omega) hO_30 hSm_30 (gwJ.kk hJ_30 (by omega)) (fun e s a b t9 => (by exfalso; have w9 : I_m_30 20 (gwN (mC (I_m 1)) (mL (I_m 1)) s) = 1000000 := hN_30 e _ (gwN.all hM.gH h_p1 s a); have b9 : (I_m_30 20 (gwN (mC (I_m 1)) (mL (I_m 1)) s)).toInt < 1000000 := b; rw [w9, lqF] at b9; omega)) (by omega) _ _ hP hD hS ls hl
            · refine lv_iconst (v := 0) hx hb dX11_twinOf_40 (by decide) ?_
              refine lv_istore_n (lv' := [(3, .int (0 : Int32)), (2, .int v2_30), (1, .int v1_30), (0, .ref (a_m 0))]) hx hb dX11_twinOf_41 rfl hl (by decide) rfl (fun ls hl => ?_)
              have L42 : ∀ (nn : Nat) (v1_42 : Int32) (v3_42 : Int32) (I_m_42 : Nat → Nat → Int32), (hM_42 : MI I_m_42) → (hk_42 : KK [20] [] I_m I_m_42) → (hu_42 : 0 ≤ v3_42.toInt ∧ v3_42.toInt ≤ 24) → (hb_42 : 0 ≤ v1_42.toInt ∧ v1_42.toInt ≤ 1) → (hO_42 : OV I_m_42) → (hSm_42 : gwSm (I_m 1 0).toInt.toNat (I_m 1 6) (mC (I_m 1)) (mL (I_m 1)) (I_m_42 20)) → (hJ_42 : gwJ (I_m 1 0).toInt.toNat (I_m 1 6) (mC (I_m 1)) (mL (I_m 1)) (gwM (mC (I_m 1)) (mL (I_m 1)) (I_m_42 20)) (I_m_42 20 0) v2_30.toInt.toNat v3_42.toInt.toNat) → (hN_42 : v1_42.toInt = 0 → ∀ j : Nat, j < 4161 → I_m_42 20 j = 1000000) → ((25 - v3_42.toInt) < (nn : Int)) → ∀ (H : Heap) (locs : List Loc), va_P g.1 vwCl (wX11 g a_m I_m_42 J_m) H → va_D A (wX11 g a_m I_m_42 J_m) → va_S A s.heap H locs → ∀ ls : Array Slot, lv_has ls 4 [(3, .int v3_42), (2, .int v2_30), (1, .int v1_42), (0, .ref (a_m 0))] → W p l e (rm 4) s m args below meth c H locs 0 0 Q (F0 m 42 ls []) := by
                intro n_42
                induction n_42 with
                | zero =>
                  intro v1_42 v3_42 I_m_42 hM_42 hk_42 hu_42 hb_42 hO_42 hSm_42 hJ_42 hN_42 hms_42 H locs hP hD hS ls hl
                  exfalso; omega
                | succ n_42 ih_42 =>
                  intro v1_42 v3_42 I_m_42 hM_42 hk_42 hu_42 hb_42 hO_42 hSm_42 hJ_42 hN_42 hms_42 H locs hP hD hS ls hl
                  have hr42 : I_m_42 1 = I_m 1 := hk_42.row 1 (by decide)
                  refine lv_iload_n hx hb dX11_twinOf_42 rfl (lv_at hl 0 rfl) ?_
                  refine lv_aload_n hx hb dX11_twinOf_43 rfl (lv_at hl 3 rfl) ?_
                  refine va_get (D := g.1) (ci := 11) (v := .ref (a_m 1)) (C := RX11) (T := TX11) (N := 46) hx hb hi_X11 (fun _ h => h) hown hK.1 hP 0 rfl rfl 0 (by decide) hf_7 (fun _ h9 => h9) rfl dX11_twinOf_44 ?_
                  refine lv_iconst (v := 0) hx hb dX11_twinOf_47 (by decide) ?_
                  have n_48 : vp_in (0 : Int32) 19800 := (t_in (by decide))
                  refine va_iald hx hb hK.1 hP 1 0 rfl rfl n_48 dX11_twinOf_48 ?_
                  refine q_nm (fun x14 e_x14 => ?_)
                  have e_x14 : x14 = (I_m_42 1) 0 := e_x14
                  have g_x14 : x14.toInt = ((I_m_42 1) 0).toInt := congrArg _ e_x14
                  have f_x14 := MI.many hM_42 e_x14
                  have m_x14 : (x14).toInt = (I_m 1 0).toInt := (by rw [e_x14, hr42])
                  refine q_icmp_ge (tgt := 100) hx hb dX11_twinOf_49 (by decide) rfl rfl (fun k_49 => ?_) (fun k_49 => ?_)
                  · refine r_iinc (lv' := fun i15 => [(2, .int i15), (3, .int v3_42), (1, .int v1_42), (0, .ref (a_m 0))]) hx hb dX11_twinOf_100 hl (k := 1) rfl (by decide) rfl (by decide) (fun _ => rfl) (fun i15 e_i15 t_i15 ls hl => ?_)
                    try have t_i15 := t_i15 (by omega)
                    refine lv_goto (tgt := 30) hx hb dX11_twinOf_103 (by decide) ?_
                    exact ih_30 v1_42 i15 I_m_42 hM_42 hk_42 (by omega) (by omega) hO_42 hSm_42 (by rw [show (i15).toInt.toNat = v2_30.toInt.toNat + 1 by omega]; exact gwJ.nx hJ_42 (by omega)) hN_42 (by omega) _ _ hP hD hS ls (lv_sub hl [0, 2, 3] rfl)
                  · refine lv_aload_n hx hb dX11_twinOf_52 rfl (lv_at hl 3 rfl) ?_
                    refine lv_iload_n hx hb dX11_twinOf_53 rfl (lv_at hl 1 rfl) ?_
                    refine lv_iload_n hx hb dX11_twinOf_54 rfl (lv_at hl 0 rfl) ?_
                    refine PurI.cv (As := [.int v2_30, .int v3_42]) (kX11_areIn l g a_m I_m_42 J_m v2_30 v3_42 hM_42) fx (gUV (uT _) u_1497 u_1498 u_1499 u_5 u_1500) rfl hdX11_areIn ⟨Nat.le_of_ble_eq_true rfl, Nat.le_of_ble_eq_true rfl⟩ hK hP [0, 1, 2, 3, 4, 5, 6, 7, 8, 9, 10, 11, 12, 13, 14, 15, 16, 17, 18, 19, 20, 21, 22] rfl rfl rfl rfl rfl hl.1 (Nat.le_of_ble_eq_true rfl) dX11_twinOf_55 (fun r16 p_r16 => ?_)
                    refine q_if_eq (tgt := 94) hx hb dX11_twinOf_58 (by decide) rfl (fun b_58 k_58 => ?_) (fun b_58 k_58 => ?_)
                    · have q_58 := bP.f p_r16 b_58
                      have q58 := q_58
                      rw [hr42] at q58
                      refine r_iinc (lv' := fun i17 => [(3, .int i17), (2, .int v2_30), (1, .int v1_42), (0, .ref (a_m 0))]) hx hb dX11_twinOf_94 hl (k := 0) rfl (by decide) rfl (by decide) (fun _ => rfl) (fun i17 e_i17 t_i17 ls hl => ?_)
                      try have t_i17 := t_i17 (by omega)
                      refine lv_goto (tgt := 42) hx hb dX11_twinOf_97 (by decide) ?_
                      exact ih_42 v1_42 i17 I_m_42 hM_42 hk_42 (by omega) (by omega) (by first | exact hO86 | exact hO_42) (by first | exact j86.1 | exact hSm_42) (by rw [show (i17).toInt.toNat = v3_42.toInt.toNat + 1 by omega]; first | exact gwJ.st hJ_42 j86.2.1 ⟨j86.2.2.1, j86.2.2.2⟩ | exact gwJ.sk hJ_42 (fun w => (by first | exact w.2.2.1 (by rcases q58 with y | y | y; exact (by omega); (exfalso; have e9 := (t_nI (x := v2_30) rfl (by omega)).1; have w9 := w.1.2; rw [← e9, y] at w9; exact absurd w9 (by decide)); (exfalso; have e9 := (t_nI (x := v3_42) rfl (by omega)).1; have w9 := w.2.1.2; rw [← e9, y] at w9; exact absurd w9 (by decide))) | exact absurd (w.2.2.2.symm.trans q67) (by decide)))) (by first | exact (fun e => absurd e (by decide)) | exact (fun e j hj => by rw [hu86.z (t_inj (by omega))]; exact hN_42 e j hj) | exact hN_42) (by omega) _ _ hP hD hS ls hl
                    · have q_58 := bP.t p_r16 b_58
                      have q58 := q_58
                      rw [hr42] at q58
                      refine lv_aload_n hx hb dX11_twinOf_61 rfl (lv_at hl 3 rfl) ?_
                      refine lv_iload_n hx hb dX11_twinOf_62 rfl (lv_at hl 1 rfl) ?_
                      refine lv_iload_n hx hb dX11_twinOf_63 rfl (lv_at hl 0 rfl) ?_
                      refine PurI.cv (As := [.int v2_30, .int v3_42]) (kX11_doClash l g a_m I_m_42 J_m v2_30 v3_42 hM_42 (by omega) (by omega)) fx (gUV (uT _) u_1501 u_1502 u_1503 u_5 u_1504) rfl hdX11_doClash ⟨Nat.le_of_ble_eq_true rfl, Nat.le_of_ble_eq_true rfl⟩ hK hP [0, 1, 2, 3, 4, 5, 6, 7, 8, 9, 10, 11, 12, 13, 14, 15, 16, 17, 18, 19, 20, 21, 22] rfl rfl rfl rfl rfl hl.1 (Nat.le_of_ble_eq_true rfl) dX11_twinOf_64 (fun r18 p_r18 => ?_)
                      have hcl64 := p_r18
                      refine q_if_eq (tgt := 94) hx hb dX11_twinOf_67 (by decide) rfl (fun b_67 k_67 => ?_) (fun b_67 k_67 => ?_)
                      · have q_67 := bP.f p_r18 b_67
                        have q67 := q_67
                        rw [hr42] at q67
                        refine r_iinc (lv' := fun i19 => [(3, .int i19), (2, .int v2_30), (1, .int v1_42), (0, .ref (a_m 0))]) hx hb dX11_twinOf_94 hl (k := 0) rfl (by decide) rfl (by decide) (fun _ => rfl) (fun i19 e_i19 t_i19 ls hl => ?_)
                        try have t_i19 := t_i19 (by omega)
                        refine lv_goto (tgt := 42) hx hb dX11_twinOf_97 (by decide) ?_
                        exact ih_42 v1_42 i19 I_m_42 hM_42 hk_42 (by omega) (by omega) (by first | exact hO86 | exact hO_42) (by first | exact j86.1 | exact hSm_42) (by rw [show (i19).toInt.toNat = v3_42.toInt.toNat + 1 by omega]; first | exact gwJ.st hJ_42 j86.2.1 ⟨j86.2.2.1, j86.2.2.2⟩ | exact gwJ.sk hJ_42 (fun w => (by first | exact w.2.2.1 (by rcases q58 with y | y | y; exact (by omega); (exfalso; have e9 := (t_nI (x := v2_30) rfl (by omega)).1; have w9 := w.1.2; rw [← e9, y] at w9; exact absurd w9 (by decide)); (exfalso; have e9 := (t_nI (x := v3_42) rfl (by omega)).1; have w9 := w.2.1.2; rw [← e9, y] at w9; exact absurd w9 (by decide))) | exact absurd (w.2.2.2.symm.trans q67) (by decide)))) (by first | exact (fun e => absurd e (by decide)) | exact (fun e j hj => by rw [hu86.z (t_inj (by omega))]; exact hN_42 e j hj) | exact hN_42) (by omega) _ _ hP hD hS ls hl
                      · have q_67 := bP.t p_r18 b_67
                        have q67 := q_67
                        rw [hr42] at q67
                        refine lv_aload_n hx hb dX11_twinOf_70 rfl (lv_at hl 3 rfl) ?_
                        refine lv_aload_n hx hb dX11_twinOf_71 rfl (lv_at hl 3 rfl) ?_
                        refine lv_iload_n hx hb dX11_twinOf_72 rfl (lv_at hl 0 rfl) ?_
                        refine lv_aload_n hx hb dX11_twinOf_73 rfl (lv_at hl 3 rfl) ?_
                        refine lv_iload_n hx hb dX11_twinOf_74 rfl (lv_at hl 1 rfl) ?_
                        refine PurI.cv (As := [.int v2_30]) (kX11_cellsOf l g a_m I_m_42 J_m v2_30 hM_42 (by omega)) fx (gUV (uT _) u_826 u_827 u_828 u_5 u_829) rfl hdX11_cellsOf ⟨Nat.le_of_ble_eq_true rfl, Nat.le_of_ble_eq_true rfl⟩ hK hP [0, 1, 2, 3, 4, 5, 6, 7, 8, 9, 10, 11, 12, 13, 14, 15, 16, 17, 18, 19, 20, 21, 22] rfl rfl rfl rfl rfl hl.1 (Nat.le_of_ble_eq_true rfl) dX11_twinOf_75 (fun r20 p_r20 => ?_)
                        have hc75 := p_r20
                        refine PurI.cv (As := [.int v3_42, .int r20]) (kX11_overOf l g a_m I_m_42 J_m v3_42 r20 hM_42 (by omega) (by have q := q_67; omega)) fx (gUV (uT _) u_1573 u_1574 u_1575 u_5 u_1576) rfl hdX11_overOf ⟨Nat.le_of_ble_eq_true rfl, Nat.le_of_ble_eq_true rfl⟩ hK hP [0, 1, 2, 3, 4, 5, 6, 7, 8, 9, 10, 11, 12, 13, 14, 15, 16, 17, 18, 19, 20, 21, 22] rfl rfl rfl rfl rfl hl.1 (Nat.le_of_ble_eq_true rfl) dX11_twinOf_78 (fun r21 p_r21 => ?_)
                        have hd78 := p_r21
                        have hov78 := p_r21.2.2
                        refine lv_aload_n hx hb dX11_twinOf_81 rfl (lv_at hl 3 rfl) ?_
                        refine lv_iload_n hx hb dX11_twinOf_82 rfl (lv_at hl 0 rfl) ?_
                        refine PurI.cv (As := [.int v3_42]) (kX11_cellsOf l g a_m I_m_42 J_m v3_42 hM_42 (by omega)) fx (gUV (uT _) u_826 u_827 u_828 u_5 u_829) rfl hdX11_cellsOf ⟨Nat.le_of_ble_eq_true rfl, Nat.le_of_ble_eq_true rfl⟩ hK hP [0, 1, 2, 3, 4, 5, 6, 7, 8, 9, 10, 11, 12, 13, 14, 15, 16, 17, 18, 19, 20, 21, 22] rfl rfl rfl rfl rfl hl.1 (Nat.le_of_ble_eq_true rfl) dX11_twinOf_83 (fun r22 p_r22 => ?_)
                        have hc83 := p_r22
                        have hq78 : (((r21).toInt.toNat : Nat) : Int) = gwO (mC (I_m 1)) (mL (I_m 1)) (v3_42).toInt.toNat (gwc (mC (I_m 1)) (v2_30).toInt.toNat) := (by have w9 := hov78; rw [hr42] at w9; rw [show gwc (mC (I_m 1)) (v2_30).toInt.toNat = (r20).toInt.toNat from (by show (I_m 1 (12 * (v2_30).toInt.toNat + 19)).toInt.toNat = _; have y9 := hc75; rw [hr42] at y9; omega), ← w9]; omega)
                        refine EffI.cv (wr := ([])) (w' := fun u24 => wX11 g a_m u24 J_m) (As := [.int r21, .int r22]) (kX11_comesTo l g a_m I_m_42 J_m r21 r22 hM_42 (by omega) hO_42 (by omega)) fx (gUV (uT _) u_1577 u_1578 u_1579 u_5 u_1580) rfl hdX11_comesTo ⟨Nat.le_of_ble_eq_true rfl, Nat.le_of_ble_eq_true rfl⟩ hK hP hD hS hA [0, 1, 2, 3, 4, 5, 6, 7, 8, 9, 10, 11, 12, 13, 14, 15, 16, 17, 18, 19, 20, 21, 22] [] [0, 1, 2, 3, 4, 5, 6, 7, 8, 9, 10, 11, 12, 13, 14, 15, 16, 17, 18, 19, 20, 21, 22] rfl rfl rfl rfl (by decide) rfl (fun _ => rfl) rfl rfl rfl rfl hl.1 (Nat.le_of_ble_eq_true rfl) dX11_twinOf_86 (fun r23 u24 H locs p_r23 hP hD hS => ?_)
                        have hP : va_P g.1 vwCl (wX11 g a_m u24 J_m) H := hP
                        have hD : va_D A (wX11 g a_m u24 J_m) := hD
                        have hO86 := p_r23.2.1
                        have hs86 := p_r23.2.2.2.1
                        have hu86 := p_r23.2.2.2.2
                        have j86 := gwU.j (a := (v2_30).toInt.toNat) (b := (v3_42).toInt.toNat) (q := (r21).toInt.toNat) hM.gH h_p1 ⟨by omega, (by have e9 := (t_nI (x := v2_30) rfl (by omega)).1; rw [← e9]; exact q58.2.1)⟩ ⟨by omega, (by have e9 := (t_nI (x := v3_42) rfl (by omega)).1; rw [← e9]; exact q58.2.2)⟩ (by have := q58.1; omega) q67.2 hSm_42 hq78 (by rw [show ((gwc (mC (I_m 1)) (v3_42).toInt.toNat : Nat) : Int) = (r22).toInt from (by show (((I_m 1 (12 * (v3_42).toInt.toNat + 19)).toInt.toNat : Nat) : Int) = _; rw [hr42] at hc83; omega)]; exact p_r23.2.2.2.2)
                        refine q_if_eq (tgt := 94) hx hb dX11_twinOf_89 (by decide) rfl (fun b_89 k_89 => ?_) (fun b_89 k_89 => ?_)
                        · refine r_iinc (lv' := fun i25 => [(3, .int i25), (2, .int v2_30), (1, .int v1_42), (0, .ref (a_m 0))]) hx hb dX11_twinOf_94 hl (k := 0) rfl (by decide) rfl (by decide) (fun _ => rfl) (fun i25 e_i25 t_i25 ls hl => ?_)
                          try have t_i25 := t_i25 (by omega)
                          refine lv_goto (tgt := 42) hx hb dX11_twinOf_97 (by decide) ?_
                          exact ih_42 v1_42 i25 u24 (MI.kk hM_42 p_r23.1 (by decide) (by decide)) (KK.tr hk_42 p_r23.1 (by decide) (by decide)) (by omega) (by omega) (by first | exact hO86 | exact hO_42) (by first | exact j86.1 | exact hSm_42) (by rw [show (i25).toInt.toNat = v3_42.toInt.toNat + 1 by omega]; first | exact gwJ.st hJ_42 j86.2.1 ⟨j86.2.2.1, j86.2.2.2⟩ | exact gwJ.sk hJ_42 (fun w => (by first | exact w.2.2.1 (by rcases q58 with y | y | y; exact (by omega); (exfalso; have e9 := (t_nI (x := v2_30) rfl (by omega)).1; have w9 := w.1.2; rw [← e9, y] at w9; exact absurd w9 (by decide)); (exfalso; have e9 := (t_nI (x := v3_42) rfl (by omega)).1; have w9 := w.2.1.2; rw [← e9, y] at w9; exact absurd w9 (by decide))) | exact absurd (w.2.2.2.symm.trans q67) (by decide)))) (by first | exact (fun e => absurd e (by decide)) | exact (fun e j hj => by rw [hu86.z (t_inj (by omega))]; exact hN_42 e j hj) | exact hN_42) (by omega) _ _ hP hD hS ls hl
                        · refine lv_iconst (v := 1) hx hb dX11_twinOf_92 (by decide) ?_
                          refine lv_istore_n (lv' := [(1, .int (1 : Int32)), (3, .int v3_42), (2, .int v2_30), (0, .ref (a_m 0))]) hx hb dX11_twinOf_93 rfl hl (by decide) rfl (fun ls hl => ?_)
                          refine r_iinc (lv' := fun i26 => [(3, .int i26), (1, .int (1 : Int32)), (2, .int v2_30), (0, .ref (a_m 0))]) hx hb dX11_twinOf_94 hl (k := 1) rfl (by decide) rfl (by decide) (fun _ => rfl) (fun i26 e_i26 t_i26 ls hl => ?_)
                          try have t_i26 := t_i26 (by omega)
                          refine lv_goto (tgt := 42) hx hb dX11_twinOf_97 (by decide) ?_
                          exact ih_42 (1 : Int32) i26 u24 (MI.kk hM_42 p_r23.1 (by decide) (by decide)) (KK.tr hk_42 p_r23.1 (by decide) (by decide)) (by omega) (by omega) (by first | exact hO86 | exact hO_42) (by first | exact j86.1 | exact hSm_42) (by rw [show (i26).toInt.toNat = v3_42.toInt.toNat + 1 by omega]; first | exact gwJ.st hJ_42 j86.2.1 ⟨j86.2.2.1, j86.2.2.2⟩ | exact gwJ.sk hJ_42 (fun w => (by first | exact w.2.2.1 (by rcases q58 with y | y | y; exact (by omega); (exfalso; have e9 := (t_nI (x := v2_30) rfl (by omega)).1; have w9 := w.1.2; rw [← e9, y] at w9; exact absurd w9 (by decide)); (exfalso; have e9 := (t_nI (x := v3_42) rfl (by omega)).1; have w9 := w.2.1.2; rw [← e9, y] at w9; exact absurd w9 (by decide))) | exact absurd (w.2.2.2.symm.trans q67) (by decide)))) (by first | exact (fun e => absurd e (by decide)) | exact (fun e j hj => by rw [hu86.z (t_inj (by omega))]; exact hN_42 e j hj) | exact hN_42) (by omega) _ _ hP hD hS ls (lv_sub hl [0, 2, 1, 3] rfl)
              exact L42 ((25 - (0 : Int32).toInt) + 1).toNat v1_30 (0 : Int32) I_m_30 hM_30 hk_30 (by omega) (by omega) hO_30 hSm_30 (by rw [lm0]; exact hJ_30) hN_30 (by omega) _ _ hP hD hS ls hl
        exact L30 ((25 - (0 : Int32).toInt) + 1).toNat (0 : Int32) (0 : Int32) I_m_2 hM_2 hk_2 (by omega) (by omega) hO2 (gwSm.in (fun o9 h9 => by rw [hf_2 o9 (by omega)]; exact lqF)) (by rw [lm0]; exact gwJ.in) (fun _ j hj => hf_2 j (by omega)) (by omega) _ _ hP hD hS ls hl
      · refine lv_aload_n hx hb dX11_twinOf_11 rfl (lv_at hl 1 rfl) ?_
        refine va_get (D := g.1) (ci := 11) (v := .ref (a_m 20)) (C := RX11) (T := TX11) (N := 46) hx hb hi_X11 (fun _ h => h) hown hK.1 hP 0 rfl rfl 40 (by decide) hf_83 (fun _ h9 => h9) rfl dX11_twinOf_12 ?_
        refine lv_iload_n hx hb dX11_twinOf_15 rfl (lv_at hl 0 rfl) ?_
        refine lv_ldcw hx hb hown hc_362 dX11_twinOf_16 ?_
        have n_19 : vp_in v1_2 4161 := (t_in (by omega))
        obtain ⟨f27, e_f27⟩ : ∃ z, z = upd (I_m_2 20) v1_2.toNatClampNeg (1000000 : Int32) := ⟨_, rfl⟩
        refine va_iast hx hb hK.1 hP hD hS 20 0 rfl rfl n_19 dX11_twinOf_19 (fun H locs hP hD hS => ?_)
        have hP : va_P g.1 vwCl (wX11 g a_m (uR I_m_2 20 f27) J_m) H := by rw [e_f27]; exact hP
        have hD : va_D A (wX11 g a_m (uR I_m_2 20 f27) J_m) := by rw [e_f27]; exact hD
        have hc_19 : MI (uR I_m_2 20 f27) := MI.ur hM_2 (by decide)
        have hk_19 : KK [20] [] I_m (uR I_m_2 20 f27) := KK.ur hk_2 (by decide) (by decide)
        refine r_iinc (lv' := fun i28 => [(1, .int i28), (0, .ref (a_m 0))]) hx hb dX11_twinOf_20 hl (k := 0) rfl (by decide) rfl (by decide) (fun _ => rfl) (fun i28 e_i28 t_i28 ls hl => ?_)
        try have t_i28 := t_i28 (by omega)
        refine lv_goto (tgt := 2) hx hb dX11_twinOf_23 (by decide) ?_
        exact ih_2 i28 (uR I_m_2 20 f27) hc_19 hk_19 (by omega) (fun j q => by show f27 j = _; rw [e_f27]; by_cases w : j = v1_2.toNatClampNeg; exact upd_at w; rw [pk_un w]; exact hf_2 j (by have i := t_cl (i := v1_2) rfl (by omega); omega)) (by omega) _ _ hP hD hS ls hl
  exact L2 ((4162 - (0 : Int32).toInt) + 1).toNat (0 : Int32) I_m hM (KK.rf I_m) (by omega) (fun j q => by exfalso; omega) (by omega) _ _ hP hD hS ls hl

set_option maxHeartbeats 4000000 in
set_option maxRecDepth 100000 in
theorem kX11_clear (l : Launch) (g : gG) (a_m : Nat → Nat) (I_m : Nat → Nat → Int32) (J_m : Nat → Nat → Int64) (hM : MI I_m) (h_p1 : gwP (I_m 1 0).toInt.toNat (mC (I_m 1)) (mL (I_m 1))) : EffI l g yX11_clear wsX11_clear 5 [.ref (a_m 0)] (wX11 g a_m I_m J_m) (fun (u : (Nat → Nat → Int32)) => wX11 g a_m u J_m) (fun r (u : (Nat → Nat → Int32)) => KK [20] [1] I_m (u) ∧ ((r = 1 ∧ gwL (I_m 1 0).toInt.toNat (I_m 1 6) (mC (I_m 1)) (mL (I_m 1)) 1000000) ∨ (r = 0 ∧ ∃ x : Int, x ≠ 1000000 ∧ gwL (I_m 1 0).toInt.toNat (I_m 1 6) (mC (I_m 1)) (mL (I_m 1)) x))) := by
  refine EffI.st (cc := cX11_clear) (maxL := 1) (by decide) rfl (Nat.le_of_ble_eq_true rfl) (fun p e s m args below meth c A Q ls fx hK hP hD hA hS hl hret => ?_)
  have hx := fx.1
  have hb := fx.2.1
  have hml := fx.2.2.1
  have hown := fx.2.2.2.1
  have hts := fx.2.2.2.2
  have hl : lv_has ls 1 [(0, .ref (a_m 0))] := hl
  have hP : va_P g.1 vwCl (wX11 g a_m I_m J_m) s.heap := hP
  have hc_362 := hts _ (uT _ _ u_1076)
  have lm1 : (-1 : Int32).toInt = -1 := by decide
  have lm0 : (0 : Int32).toInt = 0 := by decide
  have lm2 : (1 : Int32).toInt = 1 := by decide
  have lq1 : (1 : Int32).toInt = 1 := by decide
  have lqF : (1000000 : Int32).toInt = 1000000 := by decide
  refine lv_aload_n hx hb dX11_clear_0 rfl (lv_at hl 0 rfl) ?_
  refine lv_aload_n hx hb dX11_clear_1 rfl (lv_at hl 0 rfl) ?_
  refine EffI.cv (wr := ([])) (w' := fun u2 => wX11 g a_m u2 J_m) (As := []) (kX11_twinOf l g a_m I_m J_m hM h_p1) fx (gUV (uT _) u_1569 u_1570 u_1571 u_5 u_1572) rfl hdX11_twinOf ⟨Nat.le_of_ble_eq_true rfl, Nat.le_of_ble_eq_true rfl⟩ hK hP hD hS hA [0, 1, 2, 3, 4, 5, 6, 7, 8, 9, 10, 11, 12, 13, 14, 15, 16, 17, 18, 19, 20, 21, 22] [] [0, 1, 2, 3, 4, 5, 6, 7, 8, 9, 10, 11, 12, 13, 14, 15, 16, 17, 18, 19, 20, 21, 22] rfl rfl rfl rfl (by decide) rfl (fun _ => rfl) rfl rfl rfl rfl hl.1 (Nat.le_of_ble_eq_true rfl) dX11_clear_2 (fun r1 u2 H locs p_r1 hP hD hS => ?_)
  have hP : va_P g.1 vwCl (wX11 g a_m u2 J_m) H := hP
  have hD : va_D A (wX11 g a_m u2 J_m) := hD
  have hl2 := p_r1.2
  refine lv_ldcw hx hb hown hc_362 dX11_clear_5 ?_
  refine q_icmp_ne (tgt := 15) hx hb dX11_clear_8 (by decide) rfl (by decide : (1000000 : Int32).toInt = 1000000) (fun k_8 => ?_) (fun k_8 => ?_)
  · refine lv_iconst (v := 0) hx hb dX11_clear_15 (by decide) ?_
    refine EffI.cv (wr := ([])) (w' := fun u4 => wX11 g a_m u4 J_m) (As := [.int (0 : Int32)]) (kX11_gives l g a_m u2 J_m (0 : Int32)) fx (gUV (uT _) u_585 u_586 u_587 u_5 u_588) rfl hdX11_gives ⟨Nat.le_of_ble_eq_true rfl, Nat.le_of_ble_eq_true rfl⟩ hK hP hD hS hA [0, 1, 2, 3, 4, 5, 6, 7, 8, 9, 10, 11, 12, 13, 14, 15, 16, 17, 18, 19, 20, 21, 22] [] [0, 1, 2, 3, 4, 5, 6, 7, 8, 9, 10, 11, 12, 13, 14, 15, 16, 17, 18, 19, 20, 21, 22] rfl rfl rfl rfl (by decide) rfl (fun _ => rfl) rfl rfl rfl rfl hl.1 (Nat.le_of_ble_eq_true rfl) dX11_clear_16 (fun r3 u4 H locs p_r3 hP hD hS => ?_)
    have hP : va_P g.1 vwCl (wX11 g a_m u4 J_m) H := hP
    have hD : va_D A (wX11 g a_m u4 J_m) := hD
    refine hret 19 ls r3 _ _ u4 dX11_clear_19 hS hP hD ?_
    exact ⟨(KK.st (KK.tr (KK.rf I_m) p_r1.1 (by decide) (by decide)) p_r3.2 (by decide)), (by first | exact Or.inl ⟨p_r3.1, (by rw [show (r1).toInt = 1000000 by omega] at hl2; exact hl2)⟩ | exact Or.inr ⟨p_r3.1, (r1).toInt, by omega, hl2⟩)⟩
  · refine lv_iconst (v := 1) hx hb dX11_clear_11 (by decide) ?_
    refine lv_goto (tgt := 16) hx hb dX11_clear_12 (by decide) ?_
    refine EffI.cv (wr := ([])) (w' := fun u6 => wX11 g a_m u6 J_m) (As := [.int (1 : Int32)]) (kX11_gives l g a_m u2 J_m (1 : Int32)) fx (gUV (uT _) u_585 u_586 u_587 u_5 u_588) rfl hdX11_gives ⟨Nat.le_of_ble_eq_true rfl, Nat.le_of_ble_eq_true rfl⟩ hK hP hD hS hA [0, 1, 2, 3, 4, 5, 6, 7, 8, 9, 10, 11, 12, 13, 14, 15, 16, 17, 18, 19, 20, 21, 22] [] [0, 1, 2, 3, 4, 5, 6, 7, 8, 9, 10, 11, 12, 13, 14, 15, 16, 17, 18, 19, 20, 21, 22] rfl rfl rfl rfl (by decide) rfl (fun _ => rfl) rfl rfl rfl rfl hl.1 (Nat.le_of_ble_eq_true rfl) dX11_clear_16 (fun r5 u6 H locs p_r5 hP hD hS => ?_)
    have hP : va_P g.1 vwCl (wX11 g a_m u6 J_m) H := hP
    have hD : va_D A (wX11 g a_m u6 J_m) := hD
    refine hret 19 ls r5 _ _ u6 dX11_clear_19 hS hP hD ?_
    exact ⟨(KK.st (KK.tr (KK.rf I_m) p_r1.1 (by decide) (by decide)) p_r5.2 (by decide)), (by first | exact Or.inl ⟨p_r5.1, (by rw [show (r1).toInt = 1000000 by omega] at hl2; exact hl2)⟩ | exact Or.inr ⟨p_r5.1, (r1).toInt, by omega, hl2⟩)⟩

set_option maxHeartbeats 4000000 in
set_option maxRecDepth 100000 in
theorem kX11_twin (l : Launch) (g : gG) (a_m : Nat → Nat) (I_m : Nat → Nat → Int32) (J_m : Nat → Nat → Int64) (hM : MI I_m) (h_p1 : gwP (I_m 1 0).toInt.toNat (mC (I_m 1)) (mL (I_m 1))) : EffI l g yX11_twin wsX11_twin 5 [.ref (a_m 0)] (wX11 g a_m I_m J_m) (fun (u : (Nat → Nat → Int32)) => wX11 g a_m u J_m) (fun r (u : (Nat → Nat → Int32)) => KK [20] [1] I_m (u) ∧ ((r = -1 ∧ gwL (I_m 1 0).toInt.toNat (I_m 1 6) (mC (I_m 1)) (mL (I_m 1)) 1000000) ∨ (r.toInt ≠ 1000000 ∧ gwL (I_m 1 0).toInt.toNat (I_m 1 6) (mC (I_m 1)) (mL (I_m 1)) r.toInt))) := by
  refine EffI.st (cc := cX11_twin) (maxL := 2) (by decide) rfl (Nat.le_of_ble_eq_true rfl) (fun p e s m args below meth c A Q ls fx hK hP hD hA hS hl hret => ?_)
  have hx := fx.1
  have hb := fx.2.1
  have hml := fx.2.2.1
  have hown := fx.2.2.2.1
  have hts := fx.2.2.2.2
  have hl : lv_has ls 2 [(0, .ref (a_m 0))] := hl
  have hP : va_P g.1 vwCl (wX11 g a_m I_m J_m) s.heap := hP
  have hc_362 := hts _ (uT _ _ u_1076)
  have lm1 : (-1 : Int32).toInt = -1 := by decide
  have lm0 : (0 : Int32).toInt = 0 := by decide
  have lm2 : (1 : Int32).toInt = 1 := by decide
  have lq6 : (6 : Int32).toInt = 6 := by decide
  have lq1 : (1 : Int32).toInt = 1 := by decide
  have lqF : (1000000 : Int32).toInt = 1000000 := by decide
  refine lv_aload_n hx hb dX11_twin_0 rfl (lv_at hl 0 rfl) ?_
  refine EffI.cv (wr := ([])) (w' := fun u2 => wX11 g a_m u2 J_m) (As := []) (kX11_twinOf l g a_m I_m J_m hM h_p1) fx (gUV (uT _) u_1569 u_1570 u_1571 u_5 u_1572) rfl hdX11_twinOf ⟨Nat.le_of_ble_eq_true rfl, Nat.le_of_ble_eq_true rfl⟩ hK hP hD hS hA [0, 1, 2, 3, 4, 5, 6, 7, 8, 9, 10, 11, 12, 13, 14, 15, 16, 17, 18, 19, 20, 21, 22] [] [0, 1, 2, 3, 4, 5, 6, 7, 8, 9, 10, 11, 12, 13, 14, 15, 16, 17, 18, 19, 20, 21, 22] rfl rfl rfl rfl (by decide) rfl (fun _ => rfl) rfl rfl rfl rfl hl.1 (Nat.le_of_ble_eq_true rfl) dX11_twin_1 (fun r1 u2 H locs p_r1 hP hD hS => ?_)
  have hP : va_P g.1 vwCl (wX11 g a_m u2 J_m) H := hP
  have hD : va_D A (wX11 g a_m u2 J_m) := hD
  have hl1 := p_r1.2
  refine lv_istore_n (lv' := [(1, .int r1), (0, .ref (a_m 0))]) hx hb dX11_twin_4 rfl hl (by decide) rfl (fun ls hl => ?_)
  refine lv_iload_n hx hb dX11_twin_5 rfl (lv_at hl 0 rfl) ?_
  refine lv_ldcw hx hb hown hc_362 dX11_twin_6 ?_
  refine q_icmp_ne (tgt := 21) hx hb dX11_twin_9 (by decide) rfl (by decide : (1000000 : Int32).toInt = 1000000) (fun k_9 => ?_) (fun k_9 => ?_)
  · refine lv_aload_n hx hb dX11_twin_21 rfl (lv_at hl 1 rfl) ?_
    refine lv_iload_n hx hb dX11_twin_22 rfl (lv_at hl 0 rfl) ?_
    refine EffI.cv (wr := ([])) (w' := fun u4 => wX11 g a_m u4 J_m) (As := [.int r1]) (kX11_gives l g a_m u2 J_m r1) fx (gUV (uT _) u_585 u_586 u_587 u_5 u_588) rfl hdX11_gives ⟨Nat.le_of_ble_eq_true rfl, Nat.le_of_ble_eq_true rfl⟩ hK hP hD hS hA [0, 1, 2, 3, 4, 5, 6, 7, 8, 9, 10, 11, 12, 13, 14, 15, 16, 17, 18, 19, 20, 21, 22] [] [0, 1, 2, 3, 4, 5, 6, 7, 8, 9, 10, 11, 12, 13, 14, 15, 16, 17, 18, 19, 20, 21, 22] rfl rfl rfl rfl (by decide) rfl (fun _ => rfl) rfl rfl rfl rfl hl.1 (Nat.le_of_ble_eq_true rfl) dX11_twin_23 (fun r3 u4 H locs p_r3 hP hD hS => ?_)
    have hP : va_P g.1 vwCl (wX11 g a_m u4 J_m) H := hP
    have hD : va_D A (wX11 g a_m u4 J_m) := hD
    refine hret 26 ls r3 _ _ u4 dX11_twin_26 hS hP hD ?_
    exact ⟨(KK.st (KK.tr (KK.rf I_m) p_r1.1 (by decide) (by decide)) p_r3.2 (by decide)), (by exact Or.inr ⟨by rw [p_r3.1]; omega, by rw [p_r3.1]; exact hl1⟩)⟩
  · refine lv_aload_n hx hb dX11_twin_12 rfl (lv_at hl 1 rfl) ?_
    refine lv_bipush (v := 6) hx hb dX11_twin_13 (by decide) ?_
    refine EffI.cv (wr := ([])) (w' := fun u6 => wX11 g a_m u6 J_m) (As := [.int (6 : Int32)]) (kX11_refuse l g a_m u2 J_m (6 : Int32)) fx (gUV (uT _) u_536 u_537 u_538 u_5 u_539) rfl hdX11_refuse ⟨Nat.le_of_ble_eq_true rfl, Nat.le_of_ble_eq_true rfl⟩ hK hP hD hS hA [0, 1, 2, 3, 4, 5, 6, 7, 8, 9, 10, 11, 12, 13, 14, 15, 16, 17, 18, 19, 20, 21, 22] [] [0, 1, 2, 3, 4, 5, 6, 7, 8, 9, 10, 11, 12, 13, 14, 15, 16, 17, 18, 19, 20, 21, 22] rfl rfl rfl rfl (by decide) rfl (fun _ => rfl) rfl rfl rfl rfl hl.1 (Nat.le_of_ble_eq_true rfl) dX11_twin_15 (fun r5 u6 H locs p_r5 hP hD hS => ?_)
    have hP : va_P g.1 vwCl (wX11 g a_m u6 J_m) H := hP
    have hD : va_D A (wX11 g a_m u6 J_m) := hD
    refine lv_goto (tgt := 26) hx hb dX11_twin_18 (by decide) ?_
    refine hret 26 ls r5 _ _ u6 dX11_twin_26 hS hP hD ?_
    exact ⟨(KK.st (KK.tr (KK.rf I_m) p_r1.1 (by decide) (by decide)) p_r5.2 (by decide)), (by exact Or.inl ⟨p_r5.1, (by rw [show (r1).toInt = 1000000 by omega] at hl1; exact hl1)⟩)⟩

set_option maxHeartbeats 4000000 in
set_option maxRecDepth 100000 in
theorem kX11_lacks (l : Launch) (g : gG) (a_m : Nat → Nat) (I_m : Nat → Nat → Int32) (J_m : Nat → Nat → Int64) (hM : MI I_m) : EffI l g yX11_lacks wsX11_lacks 2 [.ref (a_m 0)] (wX11 g a_m I_m J_m) (fun (u : (Nat → Nat → Int32)) => wX11 g a_m u J_m) (fun r (u : (Nat → Nat → Int32)) => KK [] [1] I_m (u) ∧ r = jsB (fun k => jsN (I_m 1 6) (fun i => I_m 1 (12 * i + 12)) (fun i => I_m 1 (12 * i + 23)) (fun i => I_m 1 (12 * i + 13)) (nI k) (I_m 1 0).toInt.toNat) 26) := by
  refine EffI.st (cc := cX11_lacks) (maxL := 3) (by decide) rfl (Nat.le_of_ble_eq_true rfl) (fun p e s m args below meth c A Q ls fx hK hP hD hA hS hl hret => ?_)
  have hx := fx.1
  have hb := fx.2.1
  have hml := fx.2.2.1
  have hown := fx.2.2.2.1
  have hts := fx.2.2.2.2
  have hl : lv_has ls 3 [(0, .ref (a_m 0))] := hl
  have hP : va_P g.1 vwCl (wX11 g a_m I_m J_m) s.heap := hP
  have hf_7 := hts _ (uT _ _ u_170)
  have hi_X11 : ∀ w ∈ wsX110, w.before args s = true := fun w h => hts w (uT _ w (u_wsX110 w h))
  have lm1 : (-1 : Int32).toInt = -1 := by decide
  have lm0 : (0 : Int32).toInt = 0 := by decide
  have lm2 : (1 : Int32).toInt = 1 := by decide
  have lq6 : (6 : Int32).toInt = 6 := by decide
  have lq26 : (26 : Int32).toInt = 26 := by decide
  have lq1 : (1 : Int32).toInt = 1 := by decide
  refine lv_iconst (v := 0) hx hb dX11_lacks_0 (by decide) ?_
  refine lv_istore_n (lv' := [(1, .int (0 : Int32)), (0, .ref (a_m 0))]) hx hb dX11_lacks_1 rfl hl (by decide) rfl (fun ls hl => ?_)
  refine lv_iconst (v := 1) hx hb dX11_lacks_2 (by decide) ?_
  refine lv_istore_n (lv' := [(2, .int (1 : Int32)), (1, .int (0 : Int32)), (0, .ref (a_m 0))]) hx hb dX11_lacks_3 rfl hl (by decide) rfl (fun ls hl => ?_)
  have L4 : ∀ (nn : Nat) (v1_4 : Int32) (v2_4 : Int32), (hv_4 : 1 ≤ v2_4.toInt ∧ v2_4.toInt ≤ 27) → (hs_4 : v1_4 = jsB (fun k => jsN (I_m 1 6) (fun i => I_m 1 (12 * i + 12)) (fun i => I_m 1 (12 * i + 23)) (fun i => I_m 1 (12 * i + 13)) (nI k) (I_m 1 0).toInt.toNat) (v2_4.toInt.toNat - 1)) → ((28 - v2_4.toInt) < (nn : Int)) → ∀ (H : Heap) (locs : List Loc), va_P g.1 vwCl (wX11 g a_m I_m J_m) H → va_D A (wX11 g a_m I_m J_m) → va_S A s.heap H locs → ∀ ls : Array Slot, lv_has ls 3 [(2, .int v2_4), (1, .int v1_4), (0, .ref (a_m 0))] → W p l e (rm 2) s m args below meth c H locs 0 0 Q (F0 m 4 ls []) := by
    intro n_4
    induction n_4 with
    | zero =>
      intro v1_4 v2_4 hv_4 hs_4 hms_4 H locs hP hD hS ls hl
      exfalso; omega
    | succ n_4 ih_4 =>
      intro v1_4 v2_4 hv_4 hs_4 hms_4 H locs hP hD hS ls hl
      refine lv_iload_n hx hb dX11_lacks_4 rfl (lv_at hl 0 rfl) ?_
      refine lv_bipush (v := 26) hx hb dX11_lacks_5 (by decide) ?_
      refine q_icmp_gt (tgt := 44) hx hb dX11_lacks_7 (by decide) rfl (by decide : (26 : Int32).toInt = 26) (fun k_7 => ?_) (fun k_7 => ?_)
      · refine lv_aload_n hx hb dX11_lacks_44 rfl (lv_at hl 2 rfl) ?_
        refine lv_iload_n hx hb dX11_lacks_45 rfl (lv_at hl 1 rfl) ?_
        refine EffI.cv (wr := ([])) (w' := fun u2 => wX11 g a_m u2 J_m) (As := [.int v1_4]) (kX11_gives l g a_m I_m J_m v1_4) fx (gUV (uT _) u_585 u_586 u_587 u_5 u_588) rfl hdX11_gives ⟨Nat.le_of_ble_eq_true rfl, Nat.le_of_ble_eq_true rfl⟩ hK hP hD hS hA [0, 1, 2, 3, 4, 5, 6, 7, 8, 9, 10, 11, 12, 13, 14, 15, 16, 17, 18, 19, 20, 21, 22] [] [0, 1, 2, 3, 4, 5, 6, 7, 8, 9, 10, 11, 12, 13, 14, 15, 16, 17, 18, 19, 20, 21, 22] rfl rfl rfl rfl (by decide) rfl (fun _ => rfl) rfl rfl rfl rfl hl.1 (Nat.le_of_ble_eq_true rfl) dX11_lacks_46 (fun r1 u2 H locs p_r1 hP hD hS => ?_)
        have hP : va_P g.1 vwCl (wX11 g a_m u2 J_m) H := hP
        have hD : va_D A (wX11 g a_m u2 J_m) := hD
        refine hret 49 ls r1 _ _ u2 dX11_lacks_49 hS hP hD ?_
        exact ⟨(KK.st (KK.rf I_m) p_r1.2 (by decide)), (by rw [p_r1.1, hs_4, show v2_4.toInt.toNat - 1 = 26 by omega])⟩
      · refine lv_iload_n hx hb dX11_lacks_10 rfl (lv_at hl 1 rfl) ?_
        refine lv_aload_n hx hb dX11_lacks_11 rfl (lv_at hl 2 rfl) ?_
        refine lv_iload_n hx hb dX11_lacks_12 rfl (lv_at hl 0 rfl) ?_
        refine lv_aload_n hx hb dX11_lacks_13 rfl (lv_at hl 2 rfl) ?_
        refine va_get (D := g.1) (ci := 11) (v := .ref (a_m 1)) (C := RX11) (T := TX11) (N := 46) hx hb hi_X11 (fun _ h => h) hown hK.1 hP 0 rfl rfl 0 (by decide) hf_7 (fun _ h9 => h9) rfl dX11_lacks_14 ?_
        refine lv_bipush (v := 6) hx hb dX11_lacks_17 (by decide) ?_
        have n_19 : vp_in (6 : Int32) 19800 := (t_in (by decide))
        refine va_iald hx hb hK.1 hP 1 0 rfl rfl n_19 dX11_lacks_19 ?_
        refine q_nm (fun x3 e_x3 => ?_)
        have e_x3 : x3 = (I_m 1) 6 := e_x3
        have g_x3 : x3.toInt = ((I_m 1) 6).toInt := congrArg _ e_x3
        refine PurI.cv (As := [.int v2_4, .int x3]) (kX11_justOf l g a_m I_m J_m v2_4 x3 hM) fx (gUV (uT _) u_760 u_761 u_762 u_5 u_763) rfl hdX11_justOf ⟨Nat.le_of_ble_eq_true rfl, Nat.le_of_ble_eq_true rfl⟩ hK hP [0, 1, 2, 3, 4, 5, 6, 7, 8, 9, 10, 11, 12, 13, 14, 15, 16, 17, 18, 19, 20, 21, 22] rfl rfl rfl rfl rfl hl.1 (Nat.le_of_ble_eq_true rfl) dX11_lacks_20 (fun r4 p_r4 => ?_)
        refine lv_iconst (v := -1) hx hb dX11_lacks_23 (by decide) ?_
        refine q_icmp_ne (tgt := 35) hx hb dX11_lacks_24 (by decide) rfl (by decide : (-1 : Int32).toInt = -1) (fun k_24 => ?_) (fun k_24 => ?_)
        · refine lv_iconst (v := 0) hx hb dX11_lacks_35 (by decide) ?_
          refine lv_ior hx hb dX11_lacks_36 ?_
          refine q_nm (fun x5 e_x5 => ?_)
          refine lv_istore_n (lv' := [(1, .int x5), (2, .int v2_4), (0, .ref (a_m 0))]) hx hb dX11_lacks_37 rfl hl (by decide) rfl (fun ls hl => ?_)
          refine r_iinc (lv' := fun i6 => [(2, .int i6), (1, .int x5), (0, .ref (a_m 0))]) hx hb dX11_lacks_38 hl (k := 1) rfl (by decide) rfl (by decide) (fun _ => rfl) (fun i6 e_i6 t_i6 ls hl => ?_)
          try have t_i6 := t_i6 (by omega)
          refine lv_goto (tgt := 4) hx hb dX11_lacks_41 (by decide) ?_
          exact ih_4 x5 i6 (by omega) (by rw [show (i6).toInt.toNat - 1 = v2_4.toInt.toNat - 1 + 1 by omega, jsB]; have en : nI (v2_4.toInt.toNat - 1 + 1) = v2_4 := (by rw [show v2_4.toInt.toNat - 1 + 1 = v2_4.toInt.toNat by omega]; exact (t_nI (x := v2_4) rfl (by omega)).1.symm); rw [en]; have h19 : x3 = I_m 1 6 := e_x3; rcases p_r4.2.2.1 with w | w; (rw [h19] at w; rw [if_pos w.2, ← hs_4]; (exfalso; omega)); (rw [h19] at w; rw [if_neg (by rw [w.2]; decide), ← hs_4]; try first | (rw [e_x5]; exact or_0 _) | (exfalso; omega))) (by omega) _ _ hP hD hS ls hl
        · refine lv_iconst (v := 1) hx hb dX11_lacks_27 (by decide) ?_
          refine lv_iload_n hx hb dX11_lacks_28 rfl (lv_at hl 0 rfl) ?_
          refine lv_iconst (v := 1) hx hb dX11_lacks_29 (by decide) ?_
          refine r_isub hx hb dX11_lacks_30 rfl (by decide : (1 : Int32).toInt = 1) (fun x7 e_x7 t_x7 => ?_)
          try have t_x7 := t_x7 (by omega)
          refine lv_ishl hx hb dX11_lacks_31 ?_
          refine q_nm (fun x8 e_x8 => ?_)
          refine lv_goto (tgt := 36) hx hb dX11_lacks_32 (by decide) ?_
          refine lv_ior hx hb dX11_lacks_36 ?_
          refine q_nm (fun x9 e_x9 => ?_)
          refine lv_istore_n (lv' := [(1, .int x9), (2, .int v2_4), (0, .ref (a_m 0))]) hx hb dX11_lacks_37 rfl hl (by decide) rfl (fun ls hl => ?_)
          refine r_iinc (lv' := fun i10 => [(2, .int i10), (1, .int x9), (0, .ref (a_m 0))]) hx hb dX11_lacks_38 hl (k := 1) rfl (by decide) rfl (by decide) (fun _ => rfl) (fun i10 e_i10 t_i10 ls hl => ?_)
          try have t_i10 := t_i10 (by omega)
          refine lv_goto (tgt := 4) hx hb dX11_lacks_41 (by decide) ?_
          exact ih_4 x9 i10 (by omega) (by rw [show (i10).toInt.toNat - 1 = v2_4.toInt.toNat - 1 + 1 by omega, jsB]; have en : nI (v2_4.toInt.toNat - 1 + 1) = v2_4 := (by rw [show v2_4.toInt.toNat - 1 + 1 = v2_4.toInt.toNat by omega]; exact (t_nI (x := v2_4) rfl (by omega)).1.symm); rw [en]; have h19 : x3 = I_m 1 6 := e_x3; rcases p_r4.2.2.1 with w | w; (rw [h19] at w; rw [if_pos w.2, ← hs_4]; first | (exfalso; omega) | (rw [e_x9, e_x8, show nI (v2_4.toInt.toNat - 1) = x7 from (by rw [show v2_4.toInt.toNat - 1 = (v2_4.toInt - 1).toNat by omega]; exact (t_nI (x := x7) (by omega) (by omega)).1.symm)])); (rw [h19] at w; rw [if_neg (by rw [w.2]; decide), ← hs_4]; try first | (rw [e_x9]; exact or_0 _) | (exfalso; omega))) (by omega) _ _ hP hD hS ls hl
  exact L4 ((28 - (1 : Int32).toInt) + 1).toNat (0 : Int32) (1 : Int32) (by omega) rfl (by omega) _ _ hP hD hS ls hl

set_option maxHeartbeats 4000000 in
set_option maxRecDepth 100000 in
theorem kX11_draw (l : Launch) (g : gG) (a_m : Nat → Nat) (I_m : Nat → Nat → Int32) (J_m : Nat → Nat → Int64) (hM : MI I_m) : EffI l g yX11_draw wsX11_draw 0 [.ref (a_m 0)] (wX11 g a_m I_m J_m) (fun (u : (Nat → Nat → Int32)) => wX11 g a_m u J_m) (fun r (u : (Nat → Nat → Int32)) => KK [] [41] I_m (u)) := by
  refine EffI.st (cc := cX11_draw) (maxL := 1) (by decide) rfl (Nat.le_of_ble_eq_true rfl) (fun p e s m args below meth c A Q ls fx hK hP hD hA hS hl hret => ?_)
  have hx := fx.1
  have hb := fx.2.1
  have hml := fx.2.2.1
  have hown := fx.2.2.2.1
  have hts := fx.2.2.2.2
  have hl : lv_has ls 1 [(0, .ref (a_m 0))] := hl
  have hP : va_P g.1 vwCl (wX11 g a_m I_m J_m) s.heap := hP
  have hf_419 := hts _ (uT _ _ u_1637)
  have hi_X11 : ∀ w ∈ wsX110, w.before args s = true := fun w h => hts w (uT _ w (u_wsX110 w h))
  have hc_422 := hts _ (uT _ _ u_1642)
  have lm1 : (-1 : Int32).toInt = -1 := by decide
  have lm0 : (0 : Int32).toInt = 0 := by decide
  have lm2 : (1 : Int32).toInt = 1 := by decide
  have lq8 : (8 : Int32).toInt = 8 := by decide
  have lq1 : (1 : Int32).toInt = 1 := by decide
  refine lv_aload_n hx hb dX11_draw_0 rfl (lv_at hl 0 rfl) ?_
  refine lv_aload_n hx hb dX11_draw_1 rfl (lv_at hl 0 rfl) ?_
  refine va_get (D := g.1) (ci := 11) (v := .int (I_m 0 41)) (C := RX11) (T := TX11) (N := 46) hx hb hi_X11 (fun _ h => h) hown hK.1 hP 0 rfl rfl 41 (by decide) hf_419 (fun _ h9 => h9) rfl dX11_draw_2 ?_
  refine lv_sipush (v := 2801) hx hb dX11_draw_5 (by decide) ?_
  refine r_imul hx hb dX11_draw_8 rfl (by decide : (2801 : Int32).toInt = 2801) (fun x1 e_x1 t_x1 => ?_)
  try have t_x1 := t_x1 (by omega)
  refine lv_sipush (v := 10163) hx hb dX11_draw_9 (by decide) ?_
  refine r_iadd hx hb dX11_draw_12 rfl (by decide : (10163 : Int32).toInt = 10163) (fun x2 e_x2 t_x2 => ?_)
  try have t_x2 := t_x2 (by omega)
  refine lv_ldcw hx hb hown hc_422 dX11_draw_13 ?_
  refine lv_irem hx hb dX11_draw_16 (by decide) ?_
  refine q_nm (fun x3 e_x3 => ?_)
  try have t_x3 := t_rem e_x3 rfl (by decide : (65536 : Int32).toInt = 65536) (by omega) (by omega)
  refine va_put (D := g.1) (ci := 11) (v := .int x3) (ty := .int) (C := RX11) (T := TX11) (N := 46) hx hb hi_X11 (fun _ h => h) tyX11 tyX11_ok nmX11 hown hK.1 hP hD hS 0 rfl rfl 41 (by decide) hf_419 (fun _ h9 => h9) rfl (by decide +kernel) rfl rfl (Nat.le_of_ble_eq_true rfl) dX11_draw_17 (fun H locs hP hD hS => ?_)
  have hP : va_P g.1 vwCl (wX11 g a_m (uF I_m 0 41 x3) J_m) H := hP
  have hD : va_D A (wX11 g a_m (uF I_m 0 41 x3) J_m) := hD
  have hc_17 : MI (uF I_m 0 41 x3) := MI.uf hM (by decide)
  have hk_17 : KK [] [41] I_m (uF I_m 0 41 x3) := KK.uf (KK.rf I_m) (by decide)
  refine lv_aload_n hx hb dX11_draw_20 rfl (lv_at hl 0 rfl) ?_
  refine va_get (D := g.1) (ci := 11) (v := .int x3) (C := RX11) (T := TX11) (N := 46) hx hb hi_X11 (fun _ h => h) hown hK.1 hP 0 rfl rfl 41 (by decide) hf_419 (fun _ h9 => h9) rfl dX11_draw_21 ?_
  refine lv_bipush (v := 8) hx hb dX11_draw_24 (by decide) ?_
  refine lv_idiv hx hb dX11_draw_26 (by decide) ?_
  refine q_nm (fun x4 e_x4 => ?_)
  try have t_x4 := t_div e_x4 rfl (by decide : (8 : Int32).toInt = 8) (by omega) (by omega)
  refine lv_bipush (v := 16) hx hb dX11_draw_27 (by decide) ?_
  refine lv_irem hx hb dX11_draw_29 (by decide) ?_
  refine q_nm (fun x5 e_x5 => ?_)
  try have t_x5 := t_rem e_x5 rfl (by decide : (16 : Int32).toInt = 16) (by omega) (by omega)
  refine hret 30 ls x5 _ _ (uF I_m 0 41 x3) dX11_draw_30 hS hP hD ?_
  exact hk_17

set_option maxHeartbeats 4000000 in
set_option maxRecDepth 100000 in
theorem kX11_wears (l : Launch) (g : gG) (a_m : Nat → Nat) (I_m : Nat → Nat → Int32) (J_m : Nat → Nat → Int64) (seed : Int32) (six : Int32) (hM : MI I_m) : EffI l g yX11_wears wsX11_wears 1 [.ref (a_m 0), .int seed, .int six] (wX11 g a_m I_m J_m) (fun (u : (Nat → Nat → Int32)) => wX11 g a_m u J_m) (fun r (u : (Nat → Nat → Int32)) => KK [21] [41] I_m (u)) := by
  refine EffI.st (cc := cX11_wears) (maxL := 6) (by decide) rfl (Nat.le_of_ble_eq_true rfl) (fun p e s m args below meth c A Q ls fx hK hP hD hA hS hl hret => ?_)
  have hx := fx.1
  have hb := fx.2.1
  have hml := fx.2.2.1
  have hown := fx.2.2.2.1
  have hts := fx.2.2.2.2
  have hl : lv_has ls 6 [(0, .ref (a_m 0)), (1, .int seed), (2, .int six)] := hl
  have hP : va_P g.1 vwCl (wX11 g a_m I_m J_m) s.heap := hP
  have hf_7 := hts _ (uT _ _ u_170)
  have hf_89 := hts _ (uT _ _ u_196)
  have hf_419 := hts _ (uT _ _ u_1637)
  have hi_X11 : ∀ w ∈ wsX110, w.before args s = true := fun w h => hts w (uT _ w (u_wsX110 w h))
  have lm1 : (-1 : Int32).toInt = -1 := by decide
  have lm0 : (0 : Int32).toInt = 0 := by decide
  have lm2 : (1 : Int32).toInt = 1 := by decide
  have lq6 : (6 : Int32).toInt = 6 := by decide
  have lq600 : (600 : Int32).toInt = 600 := by decide
  have lq8 : (8 : Int32).toInt = 8 := by decide
  have lq1 : (1 : Int32).toInt = 1 := by decide
  refine lv_aload_n hx hb dX11_wears_0 rfl (lv_at hl 0 rfl) ?_
  refine lv_iload_n hx hb dX11_wears_1 rfl (lv_at hl 1 rfl) ?_
  refine va_put (D := g.1) (ci := 11) (v := .int seed) (ty := .int) (C := RX11) (T := TX11) (N := 46) hx hb hi_X11 (fun _ h => h) tyX11 tyX11_ok nmX11 hown hK.1 hP hD hS 0 rfl rfl 41 (by decide) hf_419 (fun _ h9 => h9) rfl (by decide +kernel) rfl rfl (Nat.le_of_ble_eq_true rfl) dX11_wears_2 (fun H locs hP hD hS => ?_)
  have hP : va_P g.1 vwCl (wX11 g a_m (uF I_m 0 41 seed) J_m) H := hP
  have hD : va_D A (wX11 g a_m (uF I_m 0 41 seed) J_m) := hD
  have hc_2 : MI (uF I_m 0 41 seed) := MI.uf hM (by decide)
  have hk_2 : KK [21] [41] I_m (uF I_m 0 41 seed) := KK.uf (KK.rf I_m) (by decide)
  refine lv_iconst (v := 0) hx hb dX11_wears_5 (by decide) ?_
  refine lv_istore_n (lv' := [(3, .int (0 : Int32)), (0, .ref (a_m 0)), (1, .int seed), (2, .int six)]) hx hb dX11_wears_6 rfl hl (by decide) rfl (fun ls hl => ?_)
  refine lv_iconst (v := 0) hx hb dX11_wears_7 (by decide) ?_
  refine lv_istore (lv' := [(4, .int (0 : Int32)), (3, .int (0 : Int32)), (0, .ref (a_m 0)), (1, .int seed), (2, .int six)]) hx hb dX11_wears_8 hl (by decide) rfl (fun ls hl => ?_)
  have L10 : ∀ (nn : Nat) (v3_10 : Int32) (v4_10 : Int32) (I_m_10 : Nat → Nat → Int32), (hM_10 : MI I_m_10) → (hk_10 : KK [21] [41] I_m I_m_10) → (hv_10 : 0 ≤ v4_10.toInt ∧ v4_10.toInt ≤ 1200) → ((1201 - v4_10.toInt) < (nn : Int)) → ∀ (H : Heap) (locs : List Loc), va_P g.1 vwCl (wX11 g a_m I_m_10 J_m) H → va_D A (wX11 g a_m I_m_10 J_m) → va_S A s.heap H locs → ∀ ls : Array Slot, lv_has ls 6 [(4, .int v4_10), (3, .int v3_10), (0, .ref (a_m 0)), (1, .int seed), (2, .int six)] → W p l e (rm 1) s m args below meth c H locs 0 0 Q (F0 m 10 ls []) := by
    intro n_10
    induction n_10 with
    | zero =>
      intro v3_10 v4_10 I_m_10 hM_10 hk_10 hv_10 hms_10 H locs hP hD hS ls hl
      exfalso; omega
    | succ n_10 ih_10 =>
      intro v3_10 v4_10 I_m_10 hM_10 hk_10 hv_10 hms_10 H locs hP hD hS ls hl
      refine lv_iload hx hb dX11_wears_10 (lv_at hl 0 rfl) ?_
      refine lv_aload_n hx hb dX11_wears_12 rfl (lv_at hl 2 rfl) ?_
      refine va_get (D := g.1) (ci := 11) (v := .ref (a_m 1)) (C := RX11) (T := TX11) (N := 46) hx hb hi_X11 (fun _ h => h) hown hK.1 hP 0 rfl rfl 0 (by decide) hf_7 (fun _ h9 => h9) rfl dX11_wears_13 ?_
      refine lv_bipush (v := 8) hx hb dX11_wears_16 (by decide) ?_
      have n_18 : vp_in (8 : Int32) 19800 := (t_in (by decide))
      refine va_iald hx hb hK.1 hP 1 0 rfl rfl n_18 dX11_wears_18 ?_
      refine q_nm (fun x1 e_x1 => ?_)
      have e_x1 : x1 = (I_m_10 1) 8 := e_x1
      have g_x1 : x1.toInt = ((I_m_10 1) 8).toInt := congrArg _ e_x1
      have f_x1 := MI.set hM_10 e_x1
      refine q_icmp_ge (tgt := 111) hx hb dX11_wears_19 (by decide) rfl rfl (fun k_19 => ?_) (fun k_19 => ?_)
      · refine lv_iload_n hx hb dX11_wears_111 rfl (lv_at hl 1 rfl) ?_
        refine hret 112 ls v3_10 _ _ I_m_10 dX11_wears_112 hS hP hD ?_
        exact hk_10
      · refine lv_aload_n hx hb dX11_wears_22 rfl (lv_at hl 2 rfl) ?_
        refine va_get (D := g.1) (ci := 11) (v := .ref (a_m 21)) (C := RX11) (T := TX11) (N := 46) hx hb hi_X11 (fun _ h => h) hown hK.1 hP 0 rfl rfl 43 (by decide) hf_89 (fun _ h9 => h9) rfl dX11_wears_23 ?_
        refine lv_iload hx hb dX11_wears_26 (lv_at hl 0 rfl) ?_
        refine lv_aload_n hx hb dX11_wears_28 rfl (lv_at hl 2 rfl) ?_
        refine va_get (D := g.1) (ci := 11) (v := .ref (a_m 1)) (C := RX11) (T := TX11) (N := 46) hx hb hi_X11 (fun _ h => h) hown hK.1 hP 0 rfl rfl 0 (by decide) hf_7 (fun _ h9 => h9) rfl dX11_wears_29 ?_
        refine lv_sipush (v := 600) hx hb dX11_wears_32 (by decide) ?_
        refine lv_iload hx hb dX11_wears_35 (lv_at hl 0 rfl) ?_
        refine r_iadd hx hb dX11_wears_37 (by decide : (600 : Int32).toInt = 600) rfl (fun x2 e_x2 t_x2 => ?_)
        try have t_x2 := t_x2 (by omega)
        have n_38 : vp_in x2 19800 := (t_in (by omega))
        refine va_iald hx hb hK.1 hP 1 0 rfl rfl n_38 dX11_wears_38 ?_
        refine q_nm (fun x3 e_x3 => ?_)
        have e_x3 : x3 = (I_m_10 1) x2.toNatClampNeg := e_x3
        have g_x3 : x3.toInt = ((I_m_10 1) x2.toNatClampNeg).toInt := congrArg _ e_x3
        have n_39 : vp_in v4_10 1250 := (t_in (by omega))
        obtain ⟨f4, e_f4⟩ : ∃ z, z = upd (I_m_10 21) v4_10.toNatClampNeg x3 := ⟨_, rfl⟩
        refine va_iast hx hb hK.1 hP hD hS 21 0 rfl rfl n_39 dX11_wears_39 (fun H locs hP hD hS => ?_)
        have hP : va_P g.1 vwCl (wX11 g a_m (uR I_m_10 21 f4) J_m) H := by rw [e_f4]; exact hP
        have hD : va_D A (wX11 g a_m (uR I_m_10 21 f4) J_m) := by rw [e_f4]; exact hD
        have hc_39 : MI (uR I_m_10 21 f4) := MI.ur hM_10 (by decide)
        have hk_39 : KK [21] [41] I_m (uR I_m_10 21 f4) := KK.ur hk_10 (by decide) (by decide)
        refine lv_iconst (v := 0) hx hb dX11_wears_40 (by decide) ?_
        refine lv_istore (lv' := [(5, .int (0 : Int32)), (4, .int v4_10), (3, .int v3_10), (0, .ref (a_m 0)), (1, .int seed), (2, .int six)]) hx hb dX11_wears_41 hl (by decide) rfl (fun ls hl => ?_)
        have L43 : ∀ (nn : Nat) (v3_43 : Int32) (v5_43 : Int32) (I_m_43 : Nat → Nat → Int32), (hM_43 : MI I_m_43) → (hk_43 : KK [21] [41] I_m I_m_43) → (hu_43 : 0 ≤ v5_43.toInt ∧ v5_43.toInt ≤ 6) → ((7 - v5_43.toInt) < (nn : Int)) → ∀ (H : Heap) (locs : List Loc), va_P g.1 vwCl (wX11 g a_m I_m_43 J_m) H → va_D A (wX11 g a_m I_m_43 J_m) → va_S A s.heap H locs → ∀ ls : Array Slot, lv_has ls 6 [(5, .int v5_43), (4, .int v4_10), (3, .int v3_43), (0, .ref (a_m 0)), (1, .int seed), (2, .int six)] → W p l e (rm 1) s m args below meth c H locs 0 0 Q (F0 m 43 ls []) := by
          intro n_43
          induction n_43 with
          | zero =>
            intro v3_43 v5_43 I_m_43 hM_43 hk_43 hu_43 hms_43 H locs hP hD hS ls hl
            exfalso; omega
          | succ n_43 ih_43 =>
            intro v3_43 v5_43 I_m_43 hM_43 hk_43 hu_43 hms_43 H locs hP hD hS ls hl
            refine lv_iload hx hb dX11_wears_43 (lv_at hl 0 rfl) ?_
            refine lv_bipush (v := 6) hx hb dX11_wears_45 (by decide) ?_
            refine q_icmp_ge (tgt := 105) hx hb dX11_wears_47 (by decide) rfl (by decide : (6 : Int32).toInt = 6) (fun k_47 => ?_) (fun k_47 => ?_)
            · refine r_iinc (lv' := fun i5 => [(4, .int i5), (5, .int v5_43), (3, .int v3_43), (0, .ref (a_m 0)), (1, .int seed), (2, .int six)]) hx hb dX11_wears_105 hl (k := 1) rfl (by decide) rfl (by decide) (fun _ => rfl) (fun i5 e_i5 t_i5 ls hl => ?_)
              try have t_i5 := t_i5 (by omega)
              refine lv_goto (tgt := 10) hx hb dX11_wears_108 (by decide) ?_
              exact ih_10 v3_43 i5 I_m_43 hM_43 hk_43 (by omega) (by omega) _ _ hP hD hS ls (lv_sub hl [0, 2, 3, 4, 5] rfl)
            · refine lv_aload_n hx hb dX11_wears_50 rfl (lv_at hl 3 rfl) ?_
              refine va_get (D := g.1) (ci := 11) (v := .ref (a_m 1)) (C := RX11) (T := TX11) (N := 46) hx hb hi_X11 (fun _ h => h) hown hK.1 hP 0 rfl rfl 0 (by decide) hf_7 (fun _ h9 => h9) rfl dX11_wears_51 ?_
              refine lv_sipush (v := 600) hx hb dX11_wears_54 (by decide) ?_
              refine lv_iload hx hb dX11_wears_57 (lv_at hl 1 rfl) ?_
              refine r_iadd hx hb dX11_wears_59 (by decide : (600 : Int32).toInt = 600) rfl (fun x6 e_x6 t_x6 => ?_)
              try have t_x6 := t_x6 (by omega)
              have n_60 : vp_in x6 19800 := (t_in (by omega))
              refine va_iald hx hb hK.1 hP 1 0 rfl rfl n_60 dX11_wears_60 ?_
              refine q_nm (fun x7 e_x7 => ?_)
              have e_x7 : x7 = (I_m_43 1) x6.toNatClampNeg := e_x7
              have g_x7 : x7.toInt = ((I_m_43 1) x6.toNatClampNeg).toInt := congrArg _ e_x7
              refine lv_iload hx hb dX11_wears_61 (lv_at hl 0 rfl) ?_
              refine lv_ishr hx hb dX11_wears_63 ?_
              refine q_nm (fun x8 e_x8 => ?_)
              refine lv_iconst (v := 1) hx hb dX11_wears_64 (by decide) ?_
              refine lv_iand hx hb dX11_wears_65 ?_
              refine q_nm (fun x9 e_x9 => ?_)
              refine q_if_eq (tgt := 99) hx hb dX11_wears_66 (by decide) rfl (fun b_66 k_66 => ?_) (fun b_66 k_66 => ?_)
              · refine r_iinc (lv' := fun i10 => [(5, .int i10), (4, .int v4_10), (3, .int v3_43), (0, .ref (a_m 0)), (1, .int seed), (2, .int six)]) hx hb dX11_wears_99 hl (k := 0) rfl (by decide) rfl (by decide) (fun _ => rfl) (fun i10 e_i10 t_i10 ls hl => ?_)
                try have t_i10 := t_i10 (by omega)
                refine lv_goto (tgt := 43) hx hb dX11_wears_102 (by decide) ?_
                exact ih_43 v3_43 i10 I_m_43 hM_43 hk_43 (by omega) (by omega) _ _ hP hD hS ls hl
              · refine lv_aload_n hx hb dX11_wears_69 rfl (lv_at hl 3 rfl) ?_
                refine EffI.cv (wr := ([])) (w' := fun u12 => wX11 g a_m u12 J_m) (As := []) (kX11_draw l g a_m I_m_43 J_m hM_43) fx (gUV (uT _) u_1638 u_1639 u_1640 u_5 u_1641) rfl hdX11_draw ⟨Nat.le_of_ble_eq_true rfl, Nat.le_of_ble_eq_true rfl⟩ hK hP hD hS hA [0, 1, 2, 3, 4, 5, 6, 7, 8, 9, 10, 11, 12, 13, 14, 15, 16, 17, 18, 19, 20, 21, 22] [] [0, 1, 2, 3, 4, 5, 6, 7, 8, 9, 10, 11, 12, 13, 14, 15, 16, 17, 18, 19, 20, 21, 22] rfl rfl rfl rfl (by decide) rfl (fun _ => rfl) rfl rfl rfl rfl hl.1 (Nat.le_of_ble_eq_true rfl) dX11_wears_70 (fun r11 u12 H locs p_r11 hP hD hS => ?_)
                have hP : va_P g.1 vwCl (wX11 g a_m u12 J_m) H := hP
                have hD : va_D A (wX11 g a_m u12 J_m) := hD
                refine lv_iload_n hx hb dX11_wears_73 rfl (lv_at hl 5 rfl) ?_
                refine q_icmp_lt (tgt := 80) hx hb dX11_wears_74 (by decide) rfl rfl (fun k_74 => ?_) (fun k_74 => ?_)
                · refine lv_aload_n hx hb dX11_wears_80 rfl (lv_at hl 3 rfl) ?_
                  refine va_get (D := g.1) (ci := 11) (v := .ref (a_m 21)) (C := RX11) (T := TX11) (N := 46) hx hb hi_X11 (fun _ h => h) hown hK.1 hP 0 rfl rfl 43 (by decide) hf_89 (fun _ h9 => h9) rfl dX11_wears_81 ?_
                  refine lv_iload hx hb dX11_wears_84 (lv_at hl 1 rfl) ?_
                  refine lv_dup2_11 hx hb dX11_wears_86 rfl rfl ?_
                  have n_87 : vp_in v4_10 1250 := (t_in (by omega))
                  refine va_iald hx hb hK.1 hP 21 0 rfl rfl n_87 dX11_wears_87 ?_
                  refine q_nm (fun x13 e_x13 => ?_)
                  have e_x13 : x13 = (u12 21) v4_10.toNatClampNeg := e_x13
                  have g_x13 : x13.toInt = ((u12 21) v4_10.toNatClampNeg).toInt := congrArg _ e_x13
                  refine lv_iconst (v := 1) hx hb dX11_wears_88 (by decide) ?_
                  refine lv_iload hx hb dX11_wears_89 (lv_at hl 0 rfl) ?_
                  refine lv_ishl hx hb dX11_wears_91 ?_
                  refine q_nm (fun x14 e_x14 => ?_)
                  refine lv_iconst (v := -1) hx hb dX11_wears_92 (by decide) ?_
                  refine lv_ixor hx hb dX11_wears_93 ?_
                  refine q_nm (fun x15 e_x15 => ?_)
                  refine lv_iand hx hb dX11_wears_94 ?_
                  refine q_nm (fun x16 e_x16 => ?_)
                  have n_95 : vp_in v4_10 1250 := (t_in (by omega))
                  obtain ⟨f17, e_f17⟩ : ∃ z, z = upd (u12 21) v4_10.toNatClampNeg x16 := ⟨_, rfl⟩
                  refine va_iast hx hb hK.1 hP hD hS 21 0 rfl rfl n_95 dX11_wears_95 (fun H locs hP hD hS => ?_)
                  have hP : va_P g.1 vwCl (wX11 g a_m (uR u12 21 f17) J_m) H := by rw [e_f17]; exact hP
                  have hD : va_D A (wX11 g a_m (uR u12 21 f17) J_m) := by rw [e_f17]; exact hD
                  have hc_95 : MI (uR u12 21 f17) := MI.ur (MI.kk hM_43 p_r11 (by decide) (by decide)) (by decide)
                  have hk_95 : KK [21] [41] I_m (uR u12 21 f17) := KK.ur (KK.tr hk_43 p_r11 (by decide) (by decide)) (by decide) (by decide)
                  refine r_iinc (lv' := fun i18 => [(3, .int i18), (5, .int v5_43), (4, .int v4_10), (0, .ref (a_m 0)), (1, .int seed), (2, .int six)]) hx hb dX11_wears_96 hl (k := 2) rfl (by decide) rfl (by decide) (fun _ => rfl) (fun i18 e_i18 t_i18 ls hl => ?_)
                  try have t_i18 := t_i18 (by omega)
                  refine r_iinc (lv' := fun i19 => [(5, .int i19), (3, .int i18), (4, .int v4_10), (0, .ref (a_m 0)), (1, .int seed), (2, .int six)]) hx hb dX11_wears_99 hl (k := 1) rfl (by decide) rfl (by decide) (fun _ => rfl) (fun i19 e_i19 t_i19 ls hl => ?_)
                  try have t_i19 := t_i19 (by omega)
                  refine lv_goto (tgt := 43) hx hb dX11_wears_102 (by decide) ?_
                  exact ih_43 i18 i19 (uR u12 21 f17) hc_95 hk_95 (by omega) (by omega) _ _ hP hD hS ls (lv_sub hl [0, 2, 1, 3, 4, 5] rfl)
                · refine lv_goto (tgt := 99) hx hb dX11_wears_77 (by decide) ?_
                  refine r_iinc (lv' := fun i20 => [(5, .int i20), (4, .int v4_10), (3, .int v3_43), (0, .ref (a_m 0)), (1, .int seed), (2, .int six)]) hx hb dX11_wears_99 hl (k := 0) rfl (by decide) rfl (by decide) (fun _ => rfl) (fun i20 e_i20 t_i20 ls hl => ?_)
                  try have t_i20 := t_i20 (by omega)
                  refine lv_goto (tgt := 43) hx hb dX11_wears_102 (by decide) ?_
                  exact ih_43 v3_43 i20 u12 (MI.kk hM_43 p_r11 (by decide) (by decide)) (KK.tr hk_43 p_r11 (by decide) (by decide)) (by omega) (by omega) _ _ hP hD hS ls hl
        exact L43 ((7 - (0 : Int32).toInt) + 1).toNat v3_10 (0 : Int32) (uR I_m_10 21 f4) hc_39 hk_39 (by omega) (by omega) _ _ hP hD hS ls hl
  exact L10 ((1201 - (0 : Int32).toInt) + 1).toNat (0 : Int32) (0 : Int32) (uF I_m 0 41 seed) hc_2 hk_2 (by omega) (by omega) _ _ hP hD hS ls hl

set_option maxHeartbeats 4000000 in
set_option maxRecDepth 100000 in
theorem kX11_worn (l : Launch) (g : gG) (a_m : Nat → Nat) (I_m : Nat → Nat → Int32) (J_m : Nat → Nat → Int64) (seed : Int32) (six : Int32) (hM : MI I_m) : EffI l g yX11_worn wsX11_worn 2 [.ref (a_m 0), .int seed, .int six] (wX11 g a_m I_m J_m) (fun (u : (Nat → Nat → Int32)) => wX11 g a_m u J_m) (fun r (u : (Nat → Nat → Int32)) => MI (u) ∧ KK [21, 22] [1, 41, 42] I_m (u)) := by
  refine EffI.st (cc := cX11_worn) (maxL := 5) (by decide) rfl (Nat.le_of_ble_eq_true rfl) (fun p e s m args below meth c A Q ls fx hK hP hD hA hS hl hret => ?_)
  have hx := fx.1
  have hb := fx.2.1
  have hml := fx.2.2.1
  have hown := fx.2.2.2.1
  have hts := fx.2.2.2.2
  have hl : lv_has ls 5 [(0, .ref (a_m 0)), (1, .int seed), (2, .int six)] := hl
  have hP : va_P g.1 vwCl (wX11 g a_m I_m J_m) s.heap := hP
  have hf_7 := hts _ (uT _ _ u_170)
  have hf_86 := hts _ (uT _ _ u_195)
  have hf_89 := hts _ (uT _ _ u_196)
  have hf_92 := hts _ (uT _ _ u_197)
  have hi_X11 : ∀ w ∈ wsX110, w.before args s = true := fun w h => hts w (uT _ w (u_wsX110 w h))
  have lm1 : (-1 : Int32).toInt = -1 := by decide
  have lm0 : (0 : Int32).toInt = 0 := by decide
  have lm2 : (1 : Int32).toInt = 1 := by decide
  have lq6 : (6 : Int32).toInt = 6 := by decide
  have lq8 : (8 : Int32).toInt = 8 := by decide
  have lq1 : (1 : Int32).toInt = 1 := by decide
  refine lv_iload_n hx hb dX11_worn_0 rfl (lv_at hl 1 rfl) ?_
  refine lv_i2l hx hb dX11_worn_1 rfl ?_
  refine q_nml (fun w1 e_w1 => ?_)
  refine lv_lconst (v := 0) hx hb dX11_worn_2 (by decide) ?_
  refine lv_ldc2 hx hb hown (hts _ (uT _ _ u_1631)) dX11_worn_3 ?_
  refine PurI.cs (C := RX11) (As := [.long w1, .long (0 : Int64), .long (9999 : Int64)]) (kX11_isFrom l g w1 (0 : Int64) (9999 : Int64)) fx (gUS (uT _) u_1132 u_1133 u_5 u_1134) rfl hdX11_isFrom ⟨Nat.le_of_ble_eq_true rfl, Nat.le_of_ble_eq_true rfl⟩ hK hP [] rfl rfl rfl hl.1 (Nat.le_of_ble_eq_true rfl) dX11_worn_6 (fun r2 p_r2 => ?_)
  refine q_if_eq (tgt := 24) hx hb dX11_worn_9 (by decide) rfl (fun b_9 k_9 => ?_) (fun b_9 k_9 => ?_)
  · have q_9 := bP.f p_r2 b_9
    refine lv_aload_n hx hb dX11_worn_24 rfl (lv_at hl 0 rfl) ?_
    refine lv_iconst (v := 1) hx hb dX11_worn_25 (by decide) ?_
    refine EffI.cv (wr := ([])) (w' := fun u4 => wX11 g a_m u4 J_m) (As := [.int (1 : Int32)]) (kX11_refuse l g a_m I_m J_m (1 : Int32)) fx (gUV (uT _) u_536 u_537 u_538 u_5 u_539) rfl hdX11_refuse ⟨Nat.le_of_ble_eq_true rfl, Nat.le_of_ble_eq_true rfl⟩ hK hP hD hS hA [0, 1, 2, 3, 4, 5, 6, 7, 8, 9, 10, 11, 12, 13, 14, 15, 16, 17, 18, 19, 20, 21, 22] [] [0, 1, 2, 3, 4, 5, 6, 7, 8, 9, 10, 11, 12, 13, 14, 15, 16, 17, 18, 19, 20, 21, 22] rfl rfl rfl rfl (by decide) rfl (fun _ => rfl) rfl rfl rfl rfl hl.1 (Nat.le_of_ble_eq_true rfl) dX11_worn_26 (fun r3 u4 H locs p_r3 hP hD hS => ?_)
    have hP : va_P g.1 vwCl (wX11 g a_m u4 J_m) H := hP
    have hD : va_D A (wX11 g a_m u4 J_m) := hD
    refine hret 29 ls r3 _ _ u4 dX11_worn_29 hS hP hD ?_
    exact ⟨(MI.st hM p_r3.2), (KK.st (KK.rf I_m) p_r3.2 (by decide))⟩
  · have q_9 := bP.t p_r2 b_9
    refine lv_iload_n hx hb dX11_worn_12 rfl (lv_at hl 2 rfl) ?_
    refine lv_i2l hx hb dX11_worn_13 rfl ?_
    refine q_nml (fun w5 e_w5 => ?_)
    refine lv_lconst (v := 0) hx hb dX11_worn_14 (by decide) ?_
    refine lv_ldc2 hx hb hown (hts _ (uT _ _ u_1632)) dX11_worn_15 ?_
    refine PurI.cs (C := RX11) (As := [.long w5, .long (0 : Int64), .long (16 : Int64)]) (kX11_isFrom l g w5 (0 : Int64) (16 : Int64)) fx (gUS (uT _) u_1132 u_1133 u_5 u_1134) rfl hdX11_isFrom ⟨Nat.le_of_ble_eq_true rfl, Nat.le_of_ble_eq_true rfl⟩ hK hP [] rfl rfl rfl hl.1 (Nat.le_of_ble_eq_true rfl) dX11_worn_18 (fun r6 p_r6 => ?_)
    refine q_if_ne (tgt := 30) hx hb dX11_worn_21 (by decide) rfl (fun b_21 k_21 => ?_) (fun b_21 k_21 => ?_)
    · have q_21 := bP.t p_r6 b_21
      refine lv_aload_n hx hb dX11_worn_30 rfl (lv_at hl 0 rfl) ?_
      refine PurI.cv (As := []) (kX11_isSet l g a_m I_m J_m hM) fx (gUV (uT _) u_856 u_857 u_858 u_5 u_859) rfl hdX11_isSet ⟨Nat.le_of_ble_eq_true rfl, Nat.le_of_ble_eq_true rfl⟩ hK hP [0, 1, 2, 3, 4, 5, 6, 7, 8, 9, 10, 11, 12, 13, 14, 15, 16, 17, 18, 19, 20, 21, 22] rfl rfl rfl rfl rfl hl.1 (Nat.le_of_ble_eq_true rfl) dX11_worn_31 (fun r7 p_r7 => ?_)
      refine q_if_ne (tgt := 44) hx hb dX11_worn_34 (by decide) rfl (fun b_34 k_34 => ?_) (fun b_34 k_34 => ?_)
      · have q_34 := bP.t p_r7 b_34
        refine lv_aload_n hx hb dX11_worn_44 rfl (lv_at hl 0 rfl) ?_
        refine lv_iload_n hx hb dX11_worn_45 rfl (lv_at hl 1 rfl) ?_
        refine lv_iload_n hx hb dX11_worn_46 rfl (lv_at hl 2 rfl) ?_
        refine EffI.cv (wr := ([])) (w' := fun u9 => wX11 g a_m u9 J_m) (As := [.int seed, .int six]) (kX11_wears l g a_m I_m J_m seed six hM) fx (gUV (uT _) u_1633 u_1634 u_1635 u_5 u_1636) rfl hdX11_wears ⟨Nat.le_of_ble_eq_true rfl, Nat.le_of_ble_eq_true rfl⟩ hK hP hD hS hA [0, 1, 2, 3, 4, 5, 6, 7, 8, 9, 10, 11, 12, 13, 14, 15, 16, 17, 18, 19, 20, 21, 22] [] [0, 1, 2, 3, 4, 5, 6, 7, 8, 9, 10, 11, 12, 13, 14, 15, 16, 17, 18, 19, 20, 21, 22] rfl rfl rfl rfl (by decide) rfl (fun _ => rfl) rfl rfl rfl rfl hl.1 (Nat.le_of_ble_eq_true rfl) dX11_worn_47 (fun r8 u9 H locs p_r8 hP hD hS => ?_)
        have hP : va_P g.1 vwCl (wX11 g a_m u9 J_m) H := hP
        have hD : va_D A (wX11 g a_m u9 J_m) := hD
        have hM47 := (MI.kk hM p_r8 (by decide) (by decide))
        refine lv_istore_n (lv' := [(3, .int r8), (0, .ref (a_m 0)), (1, .int seed), (2, .int six)]) hx hb dX11_worn_50 rfl hl (by decide) rfl (fun ls hl => ?_)
        refine lv_aload_n hx hb dX11_worn_51 rfl (lv_at hl 1 rfl) ?_
        refine lv_aload_n hx hb dX11_worn_52 rfl (lv_at hl 1 rfl) ?_
        refine va_get (D := g.1) (ci := 11) (v := .ref (a_m 1)) (C := RX11) (T := TX11) (N := 46) hx hb hi_X11 (fun _ h => h) hown hK.1 hP 0 rfl rfl 0 (by decide) hf_7 (fun _ h9 => h9) rfl dX11_worn_53 ?_
        refine lv_bipush (v := 8) hx hb dX11_worn_56 (by decide) ?_
        have n_58 : vp_in (8 : Int32) 19800 := (t_in (by decide))
        refine va_iald hx hb hK.1 hP 1 0 rfl rfl n_58 dX11_worn_58 ?_
        refine q_nm (fun x10 e_x10 => ?_)
        have e_x10 : x10 = (u9 1) 8 := e_x10
        have g_x10 : x10.toInt = ((u9 1) 8).toInt := congrArg _ e_x10
        have f_x10 := MI.set (MI.kk hM p_r8 (by decide) (by decide)) e_x10
        refine va_put (D := g.1) (ci := 11) (v := .int x10) (ty := .int) (C := RX11) (T := TX11) (N := 46) hx hb hi_X11 (fun _ h => h) tyX11 tyX11_ok nmX11 hown hK.1 hP hD hS 0 rfl rfl 42 (by decide) hf_86 (fun _ h9 => h9) rfl (by decide +kernel) rfl rfl (Nat.le_of_ble_eq_true rfl) dX11_worn_59 (fun H locs hP hD hS => ?_)
        have hP : va_P g.1 vwCl (wX11 g a_m (uF u9 0 42 x10) J_m) H := hP
        have hD : va_D A (wX11 g a_m (uF u9 0 42 x10) J_m) := hD
        have hk_59 : KK [21, 22] [1, 41, 42] I_m (uF u9 0 42 x10) := KK.uf (KK.tr (KK.rf I_m) p_r8 (by decide) (by decide)) (by decide)
        have hc_59 : MI (uF u9 0 42 x10) := MI.wmd hM47 (by omega)
        refine lv_iconst (v := 0) hx hb dX11_worn_62 (by decide) ?_
        refine lv_istore (lv' := [(4, .int (0 : Int32)), (3, .int r8), (0, .ref (a_m 0)), (1, .int seed), (2, .int six)]) hx hb dX11_worn_63 hl (by decide) rfl (fun ls hl => ?_)
        have L65 : ∀ (nn : Nat) (v4_65 : Int32) (I_m_65 : Nat → Nat → Int32), (hM_65 : MI I_m_65) → (hk_65 : KK [21, 22] [1, 41, 42] I_m I_m_65) → (hv_65 : 0 ≤ v4_65.toInt ∧ v4_65.toInt ≤ 1200) → ((1201 - v4_65.toInt) < (nn : Int)) → ∀ (H : Heap) (locs : List Loc), va_P g.1 vwCl (wX11 g a_m I_m_65 J_m) H → va_D A (wX11 g a_m I_m_65 J_m) → va_S A s.heap H locs → ∀ ls : Array Slot, lv_has ls 5 [(4, .int v4_65), (3, .int r8), (0, .ref (a_m 0)), (1, .int seed), (2, .int six)] → W p l e (rm 2) s m args below meth c H locs 0 0 Q (F0 m 65 ls []) := by
          intro n_65
          induction n_65 with
          | zero =>
            intro v4_65 I_m_65 hM_65 hk_65 hv_65 hms_65 H locs hP hD hS ls hl
            exfalso; omega
          | succ n_65 ih_65 =>
            intro v4_65 I_m_65 hM_65 hk_65 hv_65 hms_65 H locs hP hD hS ls hl
            have hwm65 := hM_65.wm
            refine lv_iload hx hb dX11_worn_65 (lv_at hl 0 rfl) ?_
            refine lv_aload_n hx hb dX11_worn_67 rfl (lv_at hl 2 rfl) ?_
            refine va_get (D := g.1) (ci := 11) (v := .int (I_m_65 0 42)) (C := RX11) (T := TX11) (N := 46) hx hb hi_X11 (fun _ h => h) hown hK.1 hP 0 rfl rfl 42 (by decide) hf_86 (fun _ h9 => h9) rfl dX11_worn_68 ?_
            refine q_icmp_ge (tgt := 94) hx hb dX11_worn_71 (by decide) rfl rfl (fun k_71 => ?_) (fun k_71 => ?_)
            · refine lv_aload_n hx hb dX11_worn_94 rfl (lv_at hl 2 rfl) ?_
              refine lv_iload_n hx hb dX11_worn_95 rfl (lv_at hl 1 rfl) ?_
              refine EffI.cv (wr := ([])) (w' := fun u12 => wX11 g a_m u12 J_m) (As := [.int r8]) (kX11_gives l g a_m I_m_65 J_m r8) fx (gUV (uT _) u_585 u_586 u_587 u_5 u_588) rfl hdX11_gives ⟨Nat.le_of_ble_eq_true rfl, Nat.le_of_ble_eq_true rfl⟩ hK hP hD hS hA [0, 1, 2, 3, 4, 5, 6, 7, 8, 9, 10, 11, 12, 13, 14, 15, 16, 17, 18, 19, 20, 21, 22] [] [0, 1, 2, 3, 4, 5, 6, 7, 8, 9, 10, 11, 12, 13, 14, 15, 16, 17, 18, 19, 20, 21, 22] rfl rfl rfl rfl (by decide) rfl (fun _ => rfl) rfl rfl rfl rfl hl.1 (Nat.le_of_ble_eq_true rfl) dX11_worn_96 (fun r11 u12 H locs p_r11 hP hD hS => ?_)
              have hP : va_P g.1 vwCl (wX11 g a_m u12 J_m) H := hP
              have hD : va_D A (wX11 g a_m u12 J_m) := hD
              refine hret 99 ls r11 _ _ u12 dX11_worn_99 hS hP hD ?_
              exact ⟨(MI.st hM_65 p_r11.2), (KK.st hk_65 p_r11.2 (by decide))⟩
            · refine lv_aload_n hx hb dX11_worn_74 rfl (lv_at hl 2 rfl) ?_
              refine va_get (D := g.1) (ci := 11) (v := .ref (a_m 22)) (C := RX11) (T := TX11) (N := 46) hx hb hi_X11 (fun _ h => h) hown hK.1 hP 0 rfl rfl 44 (by decide) hf_92 (fun _ h9 => h9) rfl dX11_worn_75 ?_
              refine lv_iload hx hb dX11_worn_78 (lv_at hl 0 rfl) ?_
              refine lv_aload_n hx hb dX11_worn_80 rfl (lv_at hl 2 rfl) ?_
              refine va_get (D := g.1) (ci := 11) (v := .ref (a_m 21)) (C := RX11) (T := TX11) (N := 46) hx hb hi_X11 (fun _ h => h) hown hK.1 hP 0 rfl rfl 43 (by decide) hf_89 (fun _ h9 => h9) rfl dX11_worn_81 ?_
              refine lv_iload hx hb dX11_worn_84 (lv_at hl 0 rfl) ?_
              have n_86 : vp_in v4_65 1250 := (t_in (by omega))
              refine va_iald hx hb hK.1 hP 21 0 rfl rfl n_86 dX11_worn_86 ?_
              refine q_nm (fun x13 e_x13 => ?_)
              have e_x13 : x13 = (I_m_65 21) v4_65.toNatClampNeg := e_x13
              have g_x13 : x13.toInt = ((I_m_65 21) v4_65.toNatClampNeg).toInt := congrArg _ e_x13
              have n_87 : vp_in v4_65 1250 := (t_in (by omega))
              obtain ⟨f14, e_f14⟩ : ∃ z, z = upd (I_m_65 22) v4_65.toNatClampNeg x13 := ⟨_, rfl⟩
              refine va_iast hx hb hK.1 hP hD hS 22 0 rfl rfl n_87 dX11_worn_87 (fun H locs hP hD hS => ?_)
              have hP : va_P g.1 vwCl (wX11 g a_m (uR I_m_65 22 f14) J_m) H := by rw [e_f14]; exact hP
              have hD : va_D A (wX11 g a_m (uR I_m_65 22 f14) J_m) := by rw [e_f14]; exact hD
              have hc_87 : MI (uR I_m_65 22 f14) := MI.ur hM_65 (by decide)
              have hk_87 : KK [21, 22] [1, 41, 42] I_m (uR I_m_65 22 f14) := KK.ur hk_65 (by decide) (by decide)
              refine r_iinc (lv' := fun i15 => [(4, .int i15), (3, .int r8), (0, .ref (a_m 0)), (1, .int seed), (2, .int six)]) hx hb dX11_worn_88 hl (k := 0) rfl (by decide) rfl (by decide) (fun _ => rfl) (fun i15 e_i15 t_i15 ls hl => ?_)
              try have t_i15 := t_i15 (by omega)
              refine lv_goto (tgt := 65) hx hb dX11_worn_91 (by decide) ?_
              exact ih_65 i15 (uR I_m_65 22 f14) hc_87 hk_87 (by omega) (by omega) _ _ hP hD hS ls hl
        exact L65 ((1201 - (0 : Int32).toInt) + 1).toNat (0 : Int32) (uF u9 0 42 x10) hc_59 hk_59 (by omega) (by omega) _ _ hP hD hS ls hl
      · have q_34 := bP.f p_r7 b_34
        refine lv_aload_n hx hb dX11_worn_37 rfl (lv_at hl 0 rfl) ?_
        refine lv_bipush (v := 6) hx hb dX11_worn_38 (by decide) ?_
        refine EffI.cv (wr := ([])) (w' := fun u17 => wX11 g a_m u17 J_m) (As := [.int (6 : Int32)]) (kX11_refuse l g a_m I_m J_m (6 : Int32)) fx (gUV (uT _) u_536 u_537 u_538 u_5 u_539) rfl hdX11_refuse ⟨Nat.le_of_ble_eq_true rfl, Nat.le_of_ble_eq_true rfl⟩ hK hP hD hS hA [0, 1, 2, 3, 4, 5, 6, 7, 8, 9, 10, 11, 12, 13, 14, 15, 16, 17, 18, 19, 20, 21, 22] [] [0, 1, 2, 3, 4, 5, 6, 7, 8, 9, 10, 11, 12, 13, 14, 15, 16, 17, 18, 19, 20, 21, 22] rfl rfl rfl rfl (by decide) rfl (fun _ => rfl) rfl rfl rfl rfl hl.1 (Nat.le_of_ble_eq_true rfl) dX11_worn_40 (fun r16 u17 H locs p_r16 hP hD hS => ?_)
        have hP : va_P g.1 vwCl (wX11 g a_m u17 J_m) H := hP
        have hD : va_D A (wX11 g a_m u17 J_m) := hD
        refine hret 43 ls r16 _ _ u17 dX11_worn_43 hS hP hD ?_
        exact ⟨(MI.st hM p_r16.2), (KK.st (KK.rf I_m) p_r16.2 (by decide))⟩
    · have q_21 := bP.f p_r6 b_21
      refine lv_aload_n hx hb dX11_worn_24 rfl (lv_at hl 0 rfl) ?_
      refine lv_iconst (v := 1) hx hb dX11_worn_25 (by decide) ?_
      refine EffI.cv (wr := ([])) (w' := fun u19 => wX11 g a_m u19 J_m) (As := [.int (1 : Int32)]) (kX11_refuse l g a_m I_m J_m (1 : Int32)) fx (gUV (uT _) u_536 u_537 u_538 u_5 u_539) rfl hdX11_refuse ⟨Nat.le_of_ble_eq_true rfl, Nat.le_of_ble_eq_true rfl⟩ hK hP hD hS hA [0, 1, 2, 3, 4, 5, 6, 7, 8, 9, 10, 11, 12, 13, 14, 15, 16, 17, 18, 19, 20, 21, 22] [] [0, 1, 2, 3, 4, 5, 6, 7, 8, 9, 10, 11, 12, 13, 14, 15, 16, 17, 18, 19, 20, 21, 22] rfl rfl rfl rfl (by decide) rfl (fun _ => rfl) rfl rfl rfl rfl hl.1 (Nat.le_of_ble_eq_true rfl) dX11_worn_26 (fun r18 u19 H locs p_r18 hP hD hS => ?_)
      have hP : va_P g.1 vwCl (wX11 g a_m u19 J_m) H := hP
      have hD : va_D A (wX11 g a_m u19 J_m) := hD
      refine hret 29 ls r18 _ _ u19 dX11_worn_29 hS hP hD ?_
      exact ⟨(MI.st hM p_r18.2), (KK.st (KK.rf I_m) p_r18.2 (by decide))⟩

set_option maxHeartbeats 4000000 in
set_option maxRecDepth 100000 in
theorem kX11_wornAt (l : Launch) (g : gG) (a_m : Nat → Nat) (I_m : Nat → Nat → Int32) (J_m : Nat → Nat → Int64) (k : Int32) (hM : MI I_m) : EffI l g yX11_wornAt wsX11_wornAt 1 [.ref (a_m 0), .int k] (wX11 g a_m I_m J_m) (fun (u : (Nat → Nat → Int32)) => wX11 g a_m u J_m) (fun r (u : (Nat → Nat → Int32)) => KK [] [1] I_m (u)) := by
  refine EffI.st (cc := cX11_wornAt) (maxL := 2) (by decide) rfl (Nat.le_of_ble_eq_true rfl) (fun p e s m args below meth c A Q ls fx hK hP hD hA hS hl hret => ?_)
  have hx := fx.1
  have hb := fx.2.1
  have hml := fx.2.2.1
  have hown := fx.2.2.2.1
  have hts := fx.2.2.2.2
  have hl : lv_has ls 2 [(0, .ref (a_m 0)), (1, .int k)] := hl
  have hP : va_P g.1 vwCl (wX11 g a_m I_m J_m) s.heap := hP
  have hf_86 := hts _ (uT _ _ u_195)
  have hf_92 := hts _ (uT _ _ u_197)
  have hi_X11 : ∀ w ∈ wsX110, w.before args s = true := fun w h => hts w (uT _ w (u_wsX110 w h))
  have lm1 : (-1 : Int32).toInt = -1 := by decide
  have lm0 : (0 : Int32).toInt = 0 := by decide
  have lm2 : (1 : Int32).toInt = 1 := by decide
  have lq6 : (6 : Int32).toInt = 6 := by decide
  have lq1 : (1 : Int32).toInt = 1 := by decide
  have hwm := hM.wm
  refine lv_iload_n hx hb dX11_wornAt_0 rfl (lv_at hl 1 rfl) ?_
  refine q_if_lt (tgt := 12) hx hb dX11_wornAt_1 (by decide) rfl (fun k_1 => ?_) (fun k_1 => ?_)
  · refine lv_aload_n hx hb dX11_wornAt_12 rfl (lv_at hl 0 rfl) ?_
    refine lv_bipush (v := 6) hx hb dX11_wornAt_13 (by decide) ?_
    refine EffI.cv (wr := ([])) (w' := fun u2 => wX11 g a_m u2 J_m) (As := [.int (6 : Int32)]) (kX11_refuse l g a_m I_m J_m (6 : Int32)) fx (gUV (uT _) u_536 u_537 u_538 u_5 u_539) rfl hdX11_refuse ⟨Nat.le_of_ble_eq_true rfl, Nat.le_of_ble_eq_true rfl⟩ hK hP hD hS hA [0, 1, 2, 3, 4, 5, 6, 7, 8, 9, 10, 11, 12, 13, 14, 15, 16, 17, 18, 19, 20, 21, 22] [] [0, 1, 2, 3, 4, 5, 6, 7, 8, 9, 10, 11, 12, 13, 14, 15, 16, 17, 18, 19, 20, 21, 22] rfl rfl rfl rfl (by decide) rfl (fun _ => rfl) rfl rfl rfl rfl hl.1 (Nat.le_of_ble_eq_true rfl) dX11_wornAt_15 (fun r1 u2 H locs p_r1 hP hD hS => ?_)
    have hP : va_P g.1 vwCl (wX11 g a_m u2 J_m) H := hP
    have hD : va_D A (wX11 g a_m u2 J_m) := hD
    refine lv_goto (tgt := 31) hx hb dX11_wornAt_18 (by decide) ?_
    refine hret 31 ls r1 _ _ u2 dX11_wornAt_31 hS hP hD ?_
    exact (KK.st (KK.rf I_m) p_r1.2 (by decide))
  · refine lv_iload_n hx hb dX11_wornAt_4 rfl (lv_at hl 1 rfl) ?_
    refine lv_aload_n hx hb dX11_wornAt_5 rfl (lv_at hl 0 rfl) ?_
    refine va_get (D := g.1) (ci := 11) (v := .int (I_m 0 42)) (C := RX11) (T := TX11) (N := 46) hx hb hi_X11 (fun _ h => h) hown hK.1 hP 0 rfl rfl 42 (by decide) hf_86 (fun _ h9 => h9) rfl dX11_wornAt_6 ?_
    refine q_icmp_lt (tgt := 21) hx hb dX11_wornAt_9 (by decide) rfl rfl (fun k_9 => ?_) (fun k_9 => ?_)
    · refine lv_aload_n hx hb dX11_wornAt_21 rfl (lv_at hl 0 rfl) ?_
      refine lv_aload_n hx hb dX11_wornAt_22 rfl (lv_at hl 0 rfl) ?_
      refine va_get (D := g.1) (ci := 11) (v := .ref (a_m 22)) (C := RX11) (T := TX11) (N := 46) hx hb hi_X11 (fun _ h => h) hown hK.1 hP 0 rfl rfl 44 (by decide) hf_92 (fun _ h9 => h9) rfl dX11_wornAt_23 ?_
      refine lv_iload_n hx hb dX11_wornAt_26 rfl (lv_at hl 1 rfl) ?_
      have n_27 : vp_in k 1250 := (t_in (by omega))
      refine va_iald hx hb hK.1 hP 22 0 rfl rfl n_27 dX11_wornAt_27 ?_
      refine q_nm (fun x3 e_x3 => ?_)
      have e_x3 : x3 = (I_m 22) k.toNatClampNeg := e_x3
      have g_x3 : x3.toInt = ((I_m 22) k.toNatClampNeg).toInt := congrArg _ e_x3
      refine EffI.cv (wr := ([])) (w' := fun u5 => wX11 g a_m u5 J_m) (As := [.int x3]) (kX11_gives l g a_m I_m J_m x3) fx (gUV (uT _) u_585 u_586 u_587 u_5 u_588) rfl hdX11_gives ⟨Nat.le_of_ble_eq_true rfl, Nat.le_of_ble_eq_true rfl⟩ hK hP hD hS hA [0, 1, 2, 3, 4, 5, 6, 7, 8, 9, 10, 11, 12, 13, 14, 15, 16, 17, 18, 19, 20, 21, 22] [] [0, 1, 2, 3, 4, 5, 6, 7, 8, 9, 10, 11, 12, 13, 14, 15, 16, 17, 18, 19, 20, 21, 22] rfl rfl rfl rfl (by decide) rfl (fun _ => rfl) rfl rfl rfl rfl hl.1 (Nat.le_of_ble_eq_true rfl) dX11_wornAt_28 (fun r4 u5 H locs p_r4 hP hD hS => ?_)
      have hP : va_P g.1 vwCl (wX11 g a_m u5 J_m) H := hP
      have hD : va_D A (wX11 g a_m u5 J_m) := hD
      refine hret 31 ls r4 _ _ u5 dX11_wornAt_31 hS hP hD ?_
      exact (KK.st (KK.rf I_m) p_r4.2 (by decide))
    · refine lv_aload_n hx hb dX11_wornAt_12 rfl (lv_at hl 0 rfl) ?_
      refine lv_bipush (v := 6) hx hb dX11_wornAt_13 (by decide) ?_
      refine EffI.cv (wr := ([])) (w' := fun u7 => wX11 g a_m u7 J_m) (As := [.int (6 : Int32)]) (kX11_refuse l g a_m I_m J_m (6 : Int32)) fx (gUV (uT _) u_536 u_537 u_538 u_5 u_539) rfl hdX11_refuse ⟨Nat.le_of_ble_eq_true rfl, Nat.le_of_ble_eq_true rfl⟩ hK hP hD hS hA [0, 1, 2, 3, 4, 5, 6, 7, 8, 9, 10, 11, 12, 13, 14, 15, 16, 17, 18, 19, 20, 21, 22] [] [0, 1, 2, 3, 4, 5, 6, 7, 8, 9, 10, 11, 12, 13, 14, 15, 16, 17, 18, 19, 20, 21, 22] rfl rfl rfl rfl (by decide) rfl (fun _ => rfl) rfl rfl rfl rfl hl.1 (Nat.le_of_ble_eq_true rfl) dX11_wornAt_15 (fun r6 u7 H locs p_r6 hP hD hS => ?_)
      have hP : va_P g.1 vwCl (wX11 g a_m u7 J_m) H := hP
      have hD : va_D A (wX11 g a_m u7 J_m) := hD
      refine lv_goto (tgt := 31) hx hb dX11_wornAt_18 (by decide) ?_
      refine hret 31 ls r6 _ _ u7 dX11_wornAt_31 hS hP hD ?_
      exact (KK.st (KK.rf I_m) p_r6.2 (by decide))

set_option maxHeartbeats 4000000 in
set_option maxRecDepth 100000 in
theorem kX11_tellsBy (l : Launch) (g : gG) (a_m : Nat → Nat) (I_m : Nat → Nat → Int32) (J_m : Nat → Nat → Int64) (nn_ : Int64) (dd : Int64) (h_n : 0 ≤ nn_.toInt ∧ nn_.toInt ≤ 20 ∧ 1 ≤ dd.toInt ∧ dd.toInt ≤ 20) : EffI l g yX11_tellsBy wsX11_tellsBy 1 [.ref (a_m 0), .long nn_, .long dd] (wX11 g a_m I_m J_m) (fun (u : ((Nat → Nat → Int32) × (Nat → Nat → Int64))) => wX11 g a_m (u.1) (u.2)) (fun r (u : ((Nat → Nat → Int32) × (Nat → Nat → Int64))) => KK [] [1] I_m (u.1) ∧ (r = 0 ∨ r = 1) ∧ (u.2) 4 = J_m 4) := by
  refine EffI.sz (cc := cX11_tellsBy) (maxL := 11) (by decide) rfl (Nat.le_of_ble_eq_true rfl) (fun p e s m args below meth c A Q ls fx hK hP hD hA hS hl hret => ?_)
  have hx := fx.1
  have hb := fx.2.1
  have hml := fx.2.2.1
  have hown := fx.2.2.2.1
  have hts := fx.2.2.2.2
  have hl : lv_has ls 11 [(0, .ref (a_m 0)), (1, .long nn_), (3, .long dd)] := hl
  have hP : va_P g.1 vwCl (wX11 g a_m I_m J_m) s.heap := hP
  have hf_13 := hts _ (uT _ _ u_171)
  have hf_102 := hts _ (uT _ _ u_219)
  have hi_X11 : ∀ w ∈ wsX110, w.before args s = true := fun w h => hts w (uT _ w (u_wsX110 w h))
  have lm1 : (-1 : Int32).toInt = -1 := by decide
  have lm0 : (0 : Int32).toInt = 0 := by decide
  have lm2 : (1 : Int32).toInt = 1 := by decide
  have lq1 : (1 : Int32).toInt = 1 := by decide
  have ll0 : (0 : Int64).toInt = 0 := by decide
  have ll1 : (1 : Int64).toInt = 1 := by decide
  have ll16 : (16 : Int64).toInt = 16 := by decide
  have ll20 : (20 : Int64).toInt = 20 := by decide
  have ll40 : (40 : Int64).toInt = 40 := by decide
  have ll63 : (63 : Int64).toInt = 63 := by decide
  have ll9999 : (9999 : Int64).toInt = 9999 := by decide
  refine lv_lload_n hx hb dX11_tellsBy_0 rfl (lv_at hl 1 rfl) ?_
  refine lv_lstore (lv' := [(5, .long nn_), (0, .ref (a_m 0)), (1, .long nn_), (3, .long dd)]) hx hb dX11_tellsBy_1 hl (by decide) rfl (fun ls hl => ?_)
  refine lv_lload_n hx hb dX11_tellsBy_3 rfl (lv_at hl 3 rfl) ?_
  refine lv_lstore (lv' := [(7, .long dd), (5, .long nn_), (0, .ref (a_m 0)), (1, .long nn_), (3, .long dd)]) hx hb dX11_tellsBy_4 hl (by decide) rfl (fun ls hl => ?_)
  have L6 : ∀ (nn : Nat) (v5_6 : Int64) (v7_6 : Int64), (hv_6 : 0 ≤ (v5_6).toInt ∧ 0 ≤ (v7_6).toInt ∧ (0 < (v5_6).toInt ∨ 0 < (v7_6).toInt)) → (((v7_6).toInt + 1) < (nn : Int)) → ∀ (H : Heap) (locs : List Loc), va_P g.1 vwCl (wX11 g a_m I_m J_m) H → va_D A (wX11 g a_m I_m J_m) → va_S A s.heap H locs → ∀ ls : Array Slot, lv_has ls 11 [(7, .long v7_6), (5, .long v5_6), (0, .ref (a_m 0)), (1, .long nn_), (3, .long dd)] → W p l e (rm 1) s m args below meth c H locs 0 0 Q (F0 m 6 ls []) := by
    intro n_6
    induction n_6 with
    | zero =>
      intro v5_6 v7_6 hv_6 hms_6 H locs hP hD hS ls hl
      exfalso; omega
    | succ n_6 ih_6 =>
      intro v5_6 v7_6 hv_6 hms_6 H locs hP hD hS ls hl
      refine lv_lload hx hb dX11_tellsBy_6 (lv_at hl 0 rfl) ?_
      refine lv_lconst (v := 0) hx hb dX11_tellsBy_8 (by decide) ?_
      refine W.lcmp hx hb dX11_tellsBy_9 ?_
      refine q_nm (fun x1 e_x1 => ?_)
      refine q_if_eq (tgt := 31) hx hb dX11_tellsBy_10 (by decide) rfl (fun b_10 k_10 => ?_) (fun b_10 k_10 => ?_)
      · have hb10 : (v7_6).toInt = 0 := by rw [cmp_eq e_x1 b_10]; exact ll0
        refine lv_aload_n hx hb dX11_tellsBy_31 rfl (lv_at hl 2 rfl) ?_
        refine lv_lload_n hx hb dX11_tellsBy_32 rfl (lv_at hl 3 rfl) ?_
        refine lv_lload hx hb dX11_tellsBy_33 (lv_at hl 1 rfl) ?_
        refine lv_ldiv hx hb dX11_tellsBy_35 (fun q => absurd (congrArg Int64.toInt q) (by omega)) ?_
        refine q_nml (fun w2 e_w2 => ?_)
        refine va_put (D := g.1) (ci := 11) (v := .long w2) (ty := .long) (C := RX11) (T := TX11) (N := 46) hx hb hi_X11 (fun _ h => h) tyX11 tyX11_ok nmX11 hown hK.1 hP hD hS 0 rfl rfl 2 (by decide) hf_102 (fun _ h9 => h9) rfl (by decide +kernel) rfl rfl (Nat.le_of_ble_eq_true rfl) dX11_tellsBy_36 (fun H locs hP hD hS => ?_)
        have hP : va_P g.1 vwCl (wX11 g a_m I_m (vF J_m 0 2 w2)) H := hP
        have hD : va_D A (wX11 g a_m I_m (vF J_m 0 2 w2)) := hD
        refine lv_aload_n hx hb dX11_tellsBy_39 rfl (lv_at hl 2 rfl) ?_
        refine lv_lload_n hx hb dX11_tellsBy_40 rfl (lv_at hl 4 rfl) ?_
        refine lv_lload hx hb dX11_tellsBy_41 (lv_at hl 1 rfl) ?_
        refine lv_ldiv hx hb dX11_tellsBy_43 (fun q => absurd (congrArg Int64.toInt q) (by omega)) ?_
        refine q_nml (fun w3 e_w3 => ?_)
        refine va_put (D := g.1) (ci := 11) (v := .long w3) (ty := .long) (C := RX11) (T := TX11) (N := 46) hx hb hi_X11 (fun _ h => h) tyX11 tyX11_ok nmX11 hown hK.1 hP hD hS 0 rfl rfl 3 (by decide) hf_13 (fun _ h9 => h9) rfl (by decide +kernel) rfl rfl (Nat.le_of_ble_eq_true rfl) dX11_tellsBy_44 (fun H locs hP hD hS => ?_)
        have hP : va_P g.1 vwCl (wX11 g a_m I_m (vF (vF J_m 0 2 w2) 0 3 w3)) H := hP
        have hD : va_D A (wX11 g a_m I_m (vF (vF J_m 0 2 w2) 0 3 w3)) := hD
        refine lv_aload_n hx hb dX11_tellsBy_47 rfl (lv_at hl 2 rfl) ?_
        refine lv_iconst (v := 0) hx hb dX11_tellsBy_48 (by decide) ?_
        refine EffI.cv (wr := ([])) (w' := fun u5 => wX11 g a_m u5 (vF (vF J_m 0 2 w2) 0 3 w3)) (As := [.int (0 : Int32)]) (kX11_is l g a_m I_m (vF (vF J_m 0 2 w2) 0 3 w3) (0 : Int32)) fx (gUV (uT _) u_259 u_260 u_261 u_5 u_262) rfl hdX11_is ⟨Nat.le_of_ble_eq_true rfl, Nat.le_of_ble_eq_true rfl⟩ hK hP hD hS hA [0, 1, 2, 3, 4, 5, 6, 7, 8, 9, 10, 11, 12, 13, 14, 15, 16, 17, 18, 19, 20, 21, 22] [] [0, 1, 2, 3, 4, 5, 6, 7, 8, 9, 10, 11, 12, 13, 14, 15, 16, 17, 18, 19, 20, 21, 22] rfl rfl rfl rfl (by decide) rfl (fun _ => rfl) rfl rfl rfl rfl hl.1 (Nat.le_of_ble_eq_true rfl) dX11_tellsBy_49 (fun r4 u5 H locs p_r4 hP hD hS => ?_)
        have hP : va_P g.1 vwCl (wX11 g a_m u5 (vF (vF J_m 0 2 w2) 0 3 w3)) H := hP
        have hD : va_D A (wX11 g a_m u5 (vF (vF J_m 0 2 w2) 0 3 w3)) := hD
        refine hret 52 ls r4 _ _ (u5, (vF (vF J_m 0 2 w2) 0 3 w3)) dX11_tellsBy_52 (is_z p_r4.1) hS hP hD ?_
        exact ⟨(KK.st (KK.rf I_m) p_r4.2 (by decide)), ⟨is_z p_r4.1, rfl⟩⟩
      · have hb10 : (v7_6).toInt ≠ 0 := fun q => cmp_ne e_x1 b_10 (Int64.toInt_inj.mp (q.trans ll0.symm))
        refine lv_lload hx hb dX11_tellsBy_13 (lv_at hl 1 rfl) ?_
        refine lv_lload hx hb dX11_tellsBy_15 (lv_at hl 0 rfl) ?_
        refine lv_lrem hx hb dX11_tellsBy_17 (cmp_ne e_x1 b_10) ?_
        refine q_nml (fun w6 e_w6 => ?_)
        have r_w6 := l_rem e_w6 rfl rfl (by omega) (by omega)
        have r1_w6 := Int.emod_nonneg (v5_6).toInt hb10
        have r2_w6 := Int.emod_lt_of_pos (v5_6).toInt (by omega : 0 < (v7_6).toInt)
        refine lv_lstore (lv' := [(9, .long w6), (7, .long v7_6), (5, .long v5_6), (0, .ref (a_m 0)), (1, .long nn_), (3, .long dd)]) hx hb dX11_tellsBy_18 hl (by decide) rfl (fun ls hl => ?_)
        refine lv_lload hx hb dX11_tellsBy_20 (lv_at hl 1 rfl) ?_
        refine lv_lstore (lv' := [(5, .long v7_6), (9, .long w6), (7, .long v7_6), (0, .ref (a_m 0)), (1, .long nn_), (3, .long dd)]) hx hb dX11_tellsBy_22 hl (by decide) rfl (fun ls hl => ?_)
        refine lv_lload hx hb dX11_tellsBy_24 (lv_at hl 1 rfl) ?_
        refine lv_lstore (lv' := [(7, .long w6), (5, .long v7_6), (9, .long w6), (0, .ref (a_m 0)), (1, .long nn_), (3, .long dd)]) hx hb dX11_tellsBy_26 hl (by decide) rfl (fun ls hl => ?_)
        refine lv_goto (tgt := 6) hx hb dX11_tellsBy_28 (by decide) ?_
        exact ih_6 v7_6 w6 (by omega) (by omega) _ _ hP hD hS ls (lv_sub hl [0, 1, 3, 4, 5] rfl)
  exact L6 (((dd).toInt + 1) + 1).toNat nn_ dd (by omega) (by omega) _ _ hP hD hS ls hl

set_option maxHeartbeats 4000000 in
set_option maxRecDepth 100000 in
theorem kX11_odds (l : Launch) (g : gG) (a_m : Nat → Nat) (I_m : Nat → Nat → Int32) (J_m : Nat → Nat → Int64) (seed : Int32) (many : Int32) (six : Int32) (hM : MI I_m) : EffI l g yX11_odds wsX11_odds 2 [.ref (a_m 0), .int seed, .int many, .int six] (wX11 g a_m I_m J_m) (fun (u : ((Nat → Nat → Int32) × (Nat → Nat → Int64))) => wX11 g a_m (u.1) (u.2)) (fun r (u : ((Nat → Nat → Int32) × (Nat → Nat → Int64))) => KK [21] [1, 41] I_m (u.1) ∧ (r = 0 ∨ r = 1) ∧ (u.2) 4 = J_m 4) := by
  refine EffI.sz (cc := cX11_odds) (maxL := 9) (by decide) rfl (Nat.le_of_ble_eq_true rfl) (fun p e s m args below meth c A Q ls fx hK hP hD hA hS hl hret => ?_)
  have hx := fx.1
  have hb := fx.2.1
  have hml := fx.2.2.1
  have hown := fx.2.2.2.1
  have hts := fx.2.2.2.2
  have hl : lv_has ls 9 [(0, .ref (a_m 0)), (1, .int seed), (2, .int many), (3, .int six)] := hl
  have hP : va_P g.1 vwCl (wX11 g a_m I_m J_m) s.heap := hP
  have hf_7 := hts _ (uT _ _ u_170)
  have hf_89 := hts _ (uT _ _ u_196)
  have hi_X11 : ∀ w ∈ wsX110, w.before args s = true := fun w h => hts w (uT _ w (u_wsX110 w h))
  have lm1 : (-1 : Int32).toInt = -1 := by decide
  have lm0 : (0 : Int32).toInt = 0 := by decide
  have lm2 : (1 : Int32).toInt = 1 := by decide
  have lq6 : (6 : Int32).toInt = 6 := by decide
  have lq600 : (600 : Int32).toInt = 600 := by decide
  have lq8 : (8 : Int32).toInt = 8 := by decide
  have lq1 : (1 : Int32).toInt = 1 := by decide
  have ll0 : (0 : Int64).toInt = 0 := by decide
  have ll1 : (1 : Int64).toInt = 1 := by decide
  have ll16 : (16 : Int64).toInt = 16 := by decide
  have ll20 : (20 : Int64).toInt = 20 := by decide
  have ll40 : (40 : Int64).toInt = 40 := by decide
  have ll63 : (63 : Int64).toInt = 63 := by decide
  have ll9999 : (9999 : Int64).toInt = 9999 := by decide
  refine lv_iload_n hx hb dX11_odds_0 rfl (lv_at hl 1 rfl) ?_
  refine lv_i2l hx hb dX11_odds_1 rfl ?_
  refine q_nml (fun w1 e_w1 => ?_)
  have m_w1 : w1.toInt = (seed).toInt := by rw [e_w1]; exact Int32.toInt_toInt64 _
  refine lv_lconst (v := 0) hx hb dX11_odds_2 (by decide) ?_
  refine lv_ldc2 hx hb hown (hts _ (uT _ _ u_1631)) dX11_odds_3 ?_
  refine PurI.cs (C := RX11) (As := [.long w1, .long (0 : Int64), .long (9999 : Int64)]) (kX11_isFrom l g w1 (0 : Int64) (9999 : Int64)) fx (gUS (uT _) u_1132 u_1133 u_5 u_1134) rfl hdX11_isFrom ⟨Nat.le_of_ble_eq_true rfl, Nat.le_of_ble_eq_true rfl⟩ hK hP [] rfl rfl rfl hl.1 (Nat.le_of_ble_eq_true rfl) dX11_odds_6 (fun r2 p_r2 => ?_)
  refine q_if_eq (tgt := 47) hx hb dX11_odds_9 (by decide) rfl (fun b_9 k_9 => ?_) (fun b_9 k_9 => ?_)
  · have q_9 := bP.f p_r2 b_9
    refine lv_aload_n hx hb dX11_odds_47 rfl (lv_at hl 0 rfl) ?_
    refine lv_iconst (v := 1) hx hb dX11_odds_48 (by decide) ?_
    refine EffI.cv (wr := ([])) (w' := fun u4 => wX11 g a_m u4 J_m) (As := [.int (1 : Int32)]) (kX11_is l g a_m I_m J_m (1 : Int32)) fx (gUV (uT _) u_259 u_260 u_261 u_5 u_262) rfl hdX11_is ⟨Nat.le_of_ble_eq_true rfl, Nat.le_of_ble_eq_true rfl⟩ hK hP hD hS hA [0, 1, 2, 3, 4, 5, 6, 7, 8, 9, 10, 11, 12, 13, 14, 15, 16, 17, 18, 19, 20, 21, 22] [] [0, 1, 2, 3, 4, 5, 6, 7, 8, 9, 10, 11, 12, 13, 14, 15, 16, 17, 18, 19, 20, 21, 22] rfl rfl rfl rfl (by decide) rfl (fun _ => rfl) rfl rfl rfl rfl hl.1 (Nat.le_of_ble_eq_true rfl) dX11_odds_49 (fun r3 u4 H locs p_r3 hP hD hS => ?_)
    have hP : va_P g.1 vwCl (wX11 g a_m u4 J_m) H := hP
    have hD : va_D A (wX11 g a_m u4 J_m) := hD
    refine hret 52 ls r3 _ _ (u4, J_m) dX11_odds_52 (is_z p_r3.1) hS hP hD ?_
    exact ⟨(KK.st (KK.rf I_m) p_r3.2 (by decide)), ⟨is_z p_r3.1, rfl⟩⟩
  · have q_9 := bP.t p_r2 b_9
    refine lv_iload_n hx hb dX11_odds_12 rfl (lv_at hl 2 rfl) ?_
    refine lv_i2l hx hb dX11_odds_13 rfl ?_
    refine q_nml (fun w5 e_w5 => ?_)
    have m_w5 : w5.toInt = (many).toInt := by rw [e_w5]; exact Int32.toInt_toInt64 _
    refine lv_lconst (v := 1) hx hb dX11_odds_14 (by decide) ?_
    refine lv_ldc2 hx hb hown (hts _ (uT _ _ u_1669)) dX11_odds_15 ?_
    refine PurI.cs (C := RX11) (As := [.long w5, .long (1 : Int64), .long (20 : Int64)]) (kX11_isFrom l g w5 (1 : Int64) (20 : Int64)) fx (gUS (uT _) u_1132 u_1133 u_5 u_1134) rfl hdX11_isFrom ⟨Nat.le_of_ble_eq_true rfl, Nat.le_of_ble_eq_true rfl⟩ hK hP [] rfl rfl rfl hl.1 (Nat.le_of_ble_eq_true rfl) dX11_odds_18 (fun r6 p_r6 => ?_)
    refine q_if_eq (tgt := 47) hx hb dX11_odds_21 (by decide) rfl (fun b_21 k_21 => ?_) (fun b_21 k_21 => ?_)
    · have q_21 := bP.f p_r6 b_21
      refine lv_aload_n hx hb dX11_odds_47 rfl (lv_at hl 0 rfl) ?_
      refine lv_iconst (v := 1) hx hb dX11_odds_48 (by decide) ?_
      refine EffI.cv (wr := ([])) (w' := fun u8 => wX11 g a_m u8 J_m) (As := [.int (1 : Int32)]) (kX11_is l g a_m I_m J_m (1 : Int32)) fx (gUV (uT _) u_259 u_260 u_261 u_5 u_262) rfl hdX11_is ⟨Nat.le_of_ble_eq_true rfl, Nat.le_of_ble_eq_true rfl⟩ hK hP hD hS hA [0, 1, 2, 3, 4, 5, 6, 7, 8, 9, 10, 11, 12, 13, 14, 15, 16, 17, 18, 19, 20, 21, 22] [] [0, 1, 2, 3, 4, 5, 6, 7, 8, 9, 10, 11, 12, 13, 14, 15, 16, 17, 18, 19, 20, 21, 22] rfl rfl rfl rfl (by decide) rfl (fun _ => rfl) rfl rfl rfl rfl hl.1 (Nat.le_of_ble_eq_true rfl) dX11_odds_49 (fun r7 u8 H locs p_r7 hP hD hS => ?_)
      have hP : va_P g.1 vwCl (wX11 g a_m u8 J_m) H := hP
      have hD : va_D A (wX11 g a_m u8 J_m) := hD
      refine hret 52 ls r7 _ _ (u8, J_m) dX11_odds_52 (is_z p_r7.1) hS hP hD ?_
      exact ⟨(KK.st (KK.rf I_m) p_r7.2 (by decide)), ⟨is_z p_r7.1, rfl⟩⟩
    · have q_21 := bP.t p_r6 b_21
      refine lv_iload_n hx hb dX11_odds_24 rfl (lv_at hl 1 rfl) ?_
      refine lv_iload_n hx hb dX11_odds_25 rfl (lv_at hl 2 rfl) ?_
      refine r_iadd hx hb dX11_odds_26 rfl rfl (fun x9 e_x9 t_x9 => ?_)
      try have t_x9 := t_x9 (by omega)
      refine lv_iconst (v := 1) hx hb dX11_odds_27 (by decide) ?_
      refine r_isub hx hb dX11_odds_28 rfl (by decide : (1 : Int32).toInt = 1) (fun x10 e_x10 t_x10 => ?_)
      try have t_x10 := t_x10 (by omega)
      refine lv_sipush (v := 9999) hx hb dX11_odds_29 (by decide) ?_
      refine q_icmp_gt (tgt := 47) hx hb dX11_odds_32 (by decide) rfl (by decide : (9999 : Int32).toInt = 9999) (fun k_32 => ?_) (fun k_32 => ?_)
      · refine lv_aload_n hx hb dX11_odds_47 rfl (lv_at hl 0 rfl) ?_
        refine lv_iconst (v := 1) hx hb dX11_odds_48 (by decide) ?_
        refine EffI.cv (wr := ([])) (w' := fun u12 => wX11 g a_m u12 J_m) (As := [.int (1 : Int32)]) (kX11_is l g a_m I_m J_m (1 : Int32)) fx (gUV (uT _) u_259 u_260 u_261 u_5 u_262) rfl hdX11_is ⟨Nat.le_of_ble_eq_true rfl, Nat.le_of_ble_eq_true rfl⟩ hK hP hD hS hA [0, 1, 2, 3, 4, 5, 6, 7, 8, 9, 10, 11, 12, 13, 14, 15, 16, 17, 18, 19, 20, 21, 22] [] [0, 1, 2, 3, 4, 5, 6, 7, 8, 9, 10, 11, 12, 13, 14, 15, 16, 17, 18, 19, 20, 21, 22] rfl rfl rfl rfl (by decide) rfl (fun _ => rfl) rfl rfl rfl rfl hl.1 (Nat.le_of_ble_eq_true rfl) dX11_odds_49 (fun r11 u12 H locs p_r11 hP hD hS => ?_)
        have hP : va_P g.1 vwCl (wX11 g a_m u12 J_m) H := hP
        have hD : va_D A (wX11 g a_m u12 J_m) := hD
        refine hret 52 ls r11 _ _ (u12, J_m) dX11_odds_52 (is_z p_r11.1) hS hP hD ?_
        exact ⟨(KK.st (KK.rf I_m) p_r11.2 (by decide)), ⟨is_z p_r11.1, rfl⟩⟩
      · refine lv_iload_n hx hb dX11_odds_35 rfl (lv_at hl 3 rfl) ?_
        refine lv_i2l hx hb dX11_odds_36 rfl ?_
        refine q_nml (fun w13 e_w13 => ?_)
        have m_w13 : w13.toInt = (six).toInt := by rw [e_w13]; exact Int32.toInt_toInt64 _
        refine lv_lconst (v := 0) hx hb dX11_odds_37 (by decide) ?_
        refine lv_ldc2 hx hb hown (hts _ (uT _ _ u_1632)) dX11_odds_38 ?_
        refine PurI.cs (C := RX11) (As := [.long w13, .long (0 : Int64), .long (16 : Int64)]) (kX11_isFrom l g w13 (0 : Int64) (16 : Int64)) fx (gUS (uT _) u_1132 u_1133 u_5 u_1134) rfl hdX11_isFrom ⟨Nat.le_of_ble_eq_true rfl, Nat.le_of_ble_eq_true rfl⟩ hK hP [] rfl rfl rfl hl.1 (Nat.le_of_ble_eq_true rfl) dX11_odds_41 (fun r14 p_r14 => ?_)
        refine q_if_ne (tgt := 53) hx hb dX11_odds_44 (by decide) rfl (fun b_44 k_44 => ?_) (fun b_44 k_44 => ?_)
        · have q_44 := bP.t p_r14 b_44
          refine lv_aload_n hx hb dX11_odds_53 rfl (lv_at hl 0 rfl) ?_
          refine PurI.cv (As := []) (kX11_isSet l g a_m I_m J_m hM) fx (gUV (uT _) u_856 u_857 u_858 u_5 u_859) rfl hdX11_isSet ⟨Nat.le_of_ble_eq_true rfl, Nat.le_of_ble_eq_true rfl⟩ hK hP [0, 1, 2, 3, 4, 5, 6, 7, 8, 9, 10, 11, 12, 13, 14, 15, 16, 17, 18, 19, 20, 21, 22] rfl rfl rfl rfl rfl hl.1 (Nat.le_of_ble_eq_true rfl) dX11_odds_54 (fun r15 p_r15 => ?_)
          refine q_if_ne (tgt := 67) hx hb dX11_odds_57 (by decide) rfl (fun b_57 k_57 => ?_) (fun b_57 k_57 => ?_)
          · have q_57 := bP.t p_r15 b_57
            refine lv_iconst (v := 0) hx hb dX11_odds_67 (by decide) ?_
            refine lv_istore (lv' := [(4, .int (0 : Int32)), (0, .ref (a_m 0)), (1, .int seed), (2, .int many), (3, .int six)]) hx hb dX11_odds_68 hl (by decide) rfl (fun ls hl => ?_)
            refine lv_iconst (v := 0) hx hb dX11_odds_70 (by decide) ?_
            refine lv_istore (lv' := [(5, .int (0 : Int32)), (4, .int (0 : Int32)), (0, .ref (a_m 0)), (1, .int seed), (2, .int many), (3, .int six)]) hx hb dX11_odds_71 hl (by decide) rfl (fun ls hl => ?_)
            have L73 : ∀ (nn : Nat) (v4_73 : Int32) (v5_73 : Int32) (I_m_73 : Nat → Nat → Int32), (hM_73 : MI I_m_73) → (hk_73 : KK [21] [1, 41] I_m I_m_73) → (hv_73 : 0 ≤ v5_73.toInt ∧ v5_73.toInt ≤ many.toInt ∧ 0 ≤ v4_73.toInt ∧ v4_73.toInt ≤ v5_73.toInt) → ((21 - v5_73.toInt) < (nn : Int)) → ∀ (H : Heap) (locs : List Loc), va_P g.1 vwCl (wX11 g a_m I_m_73 J_m) H → va_D A (wX11 g a_m I_m_73 J_m) → va_S A s.heap H locs → ∀ ls : Array Slot, lv_has ls 9 [(5, .int v5_73), (4, .int v4_73), (0, .ref (a_m 0)), (1, .int seed), (2, .int many), (3, .int six)] → W p l e (rm 2) s m args below meth c H locs 0 0 Q (F0 m 73 ls []) := by
              intro n_73
              induction n_73 with
              | zero =>
                intro v4_73 v5_73 I_m_73 hM_73 hk_73 hv_73 hms_73 H locs hP hD hS ls hl
                exfalso; omega
              | succ n_73 ih_73 =>
                intro v4_73 v5_73 I_m_73 hM_73 hk_73 hv_73 hms_73 H locs hP hD hS ls hl
                refine lv_iload hx hb dX11_odds_73 (lv_at hl 0 rfl) ?_
                refine lv_iload_n hx hb dX11_odds_75 rfl (lv_at hl 4 rfl) ?_
                refine q_icmp_ge (tgt := 180) hx hb dX11_odds_76 (by decide) rfl rfl (fun k_76 => ?_) (fun k_76 => ?_)
                · refine lv_aload_n hx hb dX11_odds_180 rfl (lv_at hl 2 rfl) ?_
                  refine lv_iload hx hb dX11_odds_181 (lv_at hl 1 rfl) ?_
                  refine lv_i2l hx hb dX11_odds_183 rfl ?_
                  refine q_nml (fun w16 e_w16 => ?_)
                  have m_w16 : w16.toInt = (v4_73).toInt := by rw [e_w16]; exact Int32.toInt_toInt64 _
                  refine lv_iload_n hx hb dX11_odds_184 rfl (lv_at hl 4 rfl) ?_
                  refine lv_i2l hx hb dX11_odds_185 rfl ?_
                  refine q_nml (fun w17 e_w17 => ?_)
                  have m_w17 : w17.toInt = (many).toInt := by rw [e_w17]; exact Int32.toInt_toInt64 _
                  refine EffI.cv (wr := ([])) (w' := fun u19 => wX11 g a_m u19.1 u19.2) (As := [.long w16, .long w17]) (kX11_tellsBy l g a_m I_m_73 J_m w16 w17 (by omega)) fx (gUV (uT _) u_1670 u_1671 u_1672 u_5 u_1673) rfl hdX11_tellsBy ⟨Nat.le_of_ble_eq_true rfl, Nat.le_of_ble_eq_true rfl⟩ hK hP hD hS hA [0, 1, 2, 3, 4, 5, 6, 7, 8, 9, 10, 11, 12, 13, 14, 15, 16, 17, 18, 19, 20, 21, 22] [] [0, 1, 2, 3, 4, 5, 6, 7, 8, 9, 10, 11, 12, 13, 14, 15, 16, 17, 18, 19, 20, 21, 22] rfl rfl rfl rfl (by decide) rfl (fun _ => rfl) rfl rfl rfl rfl hl.1 (Nat.le_of_ble_eq_true rfl) dX11_odds_186 (fun r18 u19 H locs p_r18 hP hD hS => ?_)
                  obtain ⟨I20, I21⟩ := u19
                  try dsimp only at p_r18
                  have hP : va_P g.1 vwCl (wX11 g a_m I20 I21) H := hP
                  have hD : va_D A (wX11 g a_m I20 I21) := hD
                  refine hret 189 ls r18 _ _ (I20, I21) dX11_odds_189 p_r18.2.1 hS hP hD ?_
                  exact ⟨(KK.tr hk_73 p_r18.1 (by decide) (by decide)), p_r18.2⟩
                · refine lv_aload_n hx hb dX11_odds_79 rfl (lv_at hl 2 rfl) ?_
                  refine lv_iload_n hx hb dX11_odds_80 rfl (lv_at hl 3 rfl) ?_
                  refine lv_iload hx hb dX11_odds_81 (lv_at hl 0 rfl) ?_
                  refine r_iadd hx hb dX11_odds_83 rfl rfl (fun x22 e_x22 t_x22 => ?_)
                  try have t_x22 := t_x22 (by omega)
                  refine lv_iload_n hx hb dX11_odds_84 rfl (lv_at hl 5 rfl) ?_
                  refine EffI.cv (wr := ([])) (w' := fun u24 => wX11 g a_m u24 J_m) (As := [.int x22, .int six]) (kX11_wears l g a_m I_m_73 J_m x22 six hM_73) fx (gUV (uT _) u_1633 u_1634 u_1635 u_5 u_1636) rfl hdX11_wears ⟨Nat.le_of_ble_eq_true rfl, Nat.le_of_ble_eq_true rfl⟩ hK hP hD hS hA [0, 1, 2, 3, 4, 5, 6, 7, 8, 9, 10, 11, 12, 13, 14, 15, 16, 17, 18, 19, 20, 21, 22] [] [0, 1, 2, 3, 4, 5, 6, 7, 8, 9, 10, 11, 12, 13, 14, 15, 16, 17, 18, 19, 20, 21, 22] rfl rfl rfl rfl (by decide) rfl (fun _ => rfl) rfl rfl rfl rfl hl.1 (Nat.le_of_ble_eq_true rfl) dX11_odds_85 (fun r23 u24 H locs p_r23 hP hD hS => ?_)
                  have hP : va_P g.1 vwCl (wX11 g a_m u24 J_m) H := hP
                  have hD : va_D A (wX11 g a_m u24 J_m) := hD
                  refine lv_istore (lv' := [(6, .int r23), (5, .int v5_73), (4, .int v4_73), (0, .ref (a_m 0)), (1, .int seed), (2, .int many), (3, .int six)]) hx hb dX11_odds_88 hl (by decide) rfl (fun ls hl => ?_)
                  refine lv_iload hx hb dX11_odds_90 (lv_at hl 0 rfl) ?_
                  refine q_if_lt (tgt := 99) hx hb dX11_odds_92 (by decide) rfl (fun k_92 => ?_) (fun k_92 => ?_)
                  · refine lv_iconst (v := 0) hx hb dX11_odds_99 (by decide) ?_
                    refine lv_istore (lv' := [(7, .int (0 : Int32)), (6, .int r23), (5, .int v5_73), (4, .int v4_73), (0, .ref (a_m 0)), (1, .int seed), (2, .int many), (3, .int six)]) hx hb dX11_odds_100 hl (by decide) rfl (fun ls hl => ?_)
                    refine lv_iconst (v := 0) hx hb dX11_odds_102 (by decide) ?_
                    refine lv_istore (lv' := [(8, .int (0 : Int32)), (7, .int (0 : Int32)), (6, .int r23), (5, .int v5_73), (4, .int v4_73), (0, .ref (a_m 0)), (1, .int seed), (2, .int many), (3, .int six)]) hx hb dX11_odds_103 hl (by decide) rfl (fun ls hl => ?_)
                    have L105 : ∀ (nn : Nat) (v7_105 : Int32) (v8_105 : Int32), (hu_105 : 0 ≤ v8_105.toInt ∧ v8_105.toInt ≤ 1200) → ((1201 - v8_105.toInt) < (nn : Int)) → ∀ (H : Heap) (locs : List Loc), va_P g.1 vwCl (wX11 g a_m u24 J_m) H → va_D A (wX11 g a_m u24 J_m) → va_S A s.heap H locs → ∀ ls : Array Slot, lv_has ls 9 [(8, .int v8_105), (7, .int v7_105), (6, .int r23), (5, .int v5_73), (4, .int v4_73), (0, .ref (a_m 0)), (1, .int seed), (2, .int many), (3, .int six)] → W p l e (rm 2) s m args below meth c H locs 0 0 Q (F0 m 105 ls []) := by
                      intro n_105
                      induction n_105 with
                      | zero =>
                        intro v7_105 v8_105 hu_105 hms_105 H locs hP hD hS ls hl
                        exfalso; omega
                      | succ n_105 ih_105 =>
                        intro v7_105 v8_105 hu_105 hms_105 H locs hP hD hS ls hl
                        refine lv_iload hx hb dX11_odds_105 (lv_at hl 0 rfl) ?_
                        refine lv_aload_n hx hb dX11_odds_107 rfl (lv_at hl 5 rfl) ?_
                        refine va_get (D := g.1) (ci := 11) (v := .ref (a_m 1)) (C := RX11) (T := TX11) (N := 46) hx hb hi_X11 (fun _ h => h) hown hK.1 hP 0 rfl rfl 0 (by decide) hf_7 (fun _ h9 => h9) rfl dX11_odds_108 ?_
                        refine lv_bipush (v := 8) hx hb dX11_odds_111 (by decide) ?_
                        have n_113 : vp_in (8 : Int32) 19800 := (t_in (by decide))
                        refine va_iald hx hb hK.1 hP 1 0 rfl rfl n_113 dX11_odds_113 ?_
                        refine q_nm (fun x25 e_x25 => ?_)
                        have e_x25 : x25 = (u24 1) 8 := e_x25
                        have g_x25 : x25.toInt = ((u24 1) 8).toInt := congrArg _ e_x25
                        have f_x25 := MI.set (MI.kk hM_73 p_r23 (by decide) (by decide)) e_x25
                        refine q_icmp_ge (tgt := 159) hx hb dX11_odds_114 (by decide) rfl rfl (fun k_114 => ?_) (fun k_114 => ?_)
                        · refine lv_iload hx hb dX11_odds_159 (lv_at hl 4 rfl) ?_
                          refine lv_iload hx hb dX11_odds_161 (lv_at hl 1 rfl) ?_
                          refine q_if_eq (tgt := 170) hx hb dX11_odds_163 (by decide) rfl (fun b_163 k_163 => ?_) (fun b_163 k_163 => ?_)
                          · refine lv_iconst (v := 0) hx hb dX11_odds_170 (by decide) ?_
                            refine r_iadd hx hb dX11_odds_171 rfl (by decide : (0 : Int32).toInt = 0) (fun x26 e_x26 t_x26 => ?_)
                            try have t_x26 := t_x26 (by omega)
                            refine lv_istore (lv' := [(4, .int x26), (8, .int v8_105), (7, .int v7_105), (6, .int r23), (5, .int v5_73), (0, .ref (a_m 0)), (1, .int seed), (2, .int many), (3, .int six)]) hx hb dX11_odds_172 hl (by decide) rfl (fun ls hl => ?_)
                            refine r_iinc (lv' := fun i27 => [(5, .int i27), (4, .int x26), (8, .int v8_105), (7, .int v7_105), (6, .int r23), (0, .ref (a_m 0)), (1, .int seed), (2, .int many), (3, .int six)]) hx hb dX11_odds_174 hl (k := 4) rfl (by decide) rfl (by decide) (fun _ => rfl) (fun i27 e_i27 t_i27 ls hl => ?_)
                            try have t_i27 := t_i27 (by omega)
                            refine lv_goto (tgt := 73) hx hb dX11_odds_177 (by decide) ?_
                            exact ih_73 x26 i27 u24 (MI.kk hM_73 p_r23 (by decide) (by decide)) (KK.tr hk_73 p_r23 (by decide) (by decide)) (by omega) (by omega) _ _ hP hD hS ls (lv_sub hl [0, 1, 5, 6, 7, 8] rfl)
                          · refine lv_iconst (v := 1) hx hb dX11_odds_166 (by decide) ?_
                            refine lv_goto (tgt := 171) hx hb dX11_odds_167 (by decide) ?_
                            refine r_iadd hx hb dX11_odds_171 rfl (by decide : (1 : Int32).toInt = 1) (fun x28 e_x28 t_x28 => ?_)
                            try have t_x28 := t_x28 (by omega)
                            refine lv_istore (lv' := [(4, .int x28), (8, .int v8_105), (7, .int v7_105), (6, .int r23), (5, .int v5_73), (0, .ref (a_m 0)), (1, .int seed), (2, .int many), (3, .int six)]) hx hb dX11_odds_172 hl (by decide) rfl (fun ls hl => ?_)
                            refine r_iinc (lv' := fun i29 => [(5, .int i29), (4, .int x28), (8, .int v8_105), (7, .int v7_105), (6, .int r23), (0, .ref (a_m 0)), (1, .int seed), (2, .int many), (3, .int six)]) hx hb dX11_odds_174 hl (k := 4) rfl (by decide) rfl (by decide) (fun _ => rfl) (fun i29 e_i29 t_i29 ls hl => ?_)
                            try have t_i29 := t_i29 (by omega)
                            refine lv_goto (tgt := 73) hx hb dX11_odds_177 (by decide) ?_
                            exact ih_73 x28 i29 u24 (MI.kk hM_73 p_r23 (by decide) (by decide)) (KK.tr hk_73 p_r23 (by decide) (by decide)) (by omega) (by omega) _ _ hP hD hS ls (lv_sub hl [0, 1, 5, 6, 7, 8] rfl)
                        · refine lv_iload hx hb dX11_odds_117 (lv_at hl 1 rfl) ?_
                          refine q_if_eq (tgt := 150) hx hb dX11_odds_119 (by decide) rfl (fun b_119 k_119 => ?_) (fun b_119 k_119 => ?_)
                          · refine lv_iconst (v := 0) hx hb dX11_odds_150 (by decide) ?_
                            refine lv_istore (lv' := [(7, .int (0 : Int32)), (8, .int v8_105), (6, .int r23), (5, .int v5_73), (4, .int v4_73), (0, .ref (a_m 0)), (1, .int seed), (2, .int many), (3, .int six)]) hx hb dX11_odds_151 hl (by decide) rfl (fun ls hl => ?_)
                            refine r_iinc (lv' := fun i30 => [(8, .int i30), (7, .int (0 : Int32)), (6, .int r23), (5, .int v5_73), (4, .int v4_73), (0, .ref (a_m 0)), (1, .int seed), (2, .int many), (3, .int six)]) hx hb dX11_odds_153 hl (k := 1) rfl (by decide) rfl (by decide) (fun _ => rfl) (fun i30 e_i30 t_i30 ls hl => ?_)
                            try have t_i30 := t_i30 (by omega)
                            refine lv_goto (tgt := 105) hx hb dX11_odds_156 (by decide) ?_
                            exact ih_105 (0 : Int32) i30 (by omega) (by omega) _ _ hP hD hS ls hl
                          · refine lv_aload_n hx hb dX11_odds_122 rfl (lv_at hl 5 rfl) ?_
                            refine va_get (D := g.1) (ci := 11) (v := .ref (a_m 1)) (C := RX11) (T := TX11) (N := 46) hx hb hi_X11 (fun _ h => h) hown hK.1 hP 0 rfl rfl 0 (by decide) hf_7 (fun _ h9 => h9) rfl dX11_odds_123 ?_
                            refine lv_sipush (v := 600) hx hb dX11_odds_126 (by decide) ?_
                            refine lv_iload hx hb dX11_odds_129 (lv_at hl 0 rfl) ?_
                            refine r_iadd hx hb dX11_odds_131 (by decide : (600 : Int32).toInt = 600) rfl (fun x31 e_x31 t_x31 => ?_)
                            try have t_x31 := t_x31 (by omega)
                            have n_132 : vp_in x31 19800 := (t_in (by omega))
                            refine va_iald hx hb hK.1 hP 1 0 rfl rfl n_132 dX11_odds_132 ?_
                            refine q_nm (fun x32 e_x32 => ?_)
                            have e_x32 : x32 = (u24 1) x31.toNatClampNeg := e_x32
                            have g_x32 : x32.toInt = ((u24 1) x31.toNatClampNeg).toInt := congrArg _ e_x32
                            refine q_if_eq (tgt := 146) hx hb dX11_odds_133 (by decide) rfl (fun b_133 k_133 => ?_) (fun b_133 k_133 => ?_)
                            · refine lv_iconst (v := 1) hx hb dX11_odds_146 (by decide) ?_
                              refine lv_goto (tgt := 151) hx hb dX11_odds_147 (by decide) ?_
                              refine lv_istore (lv' := [(7, .int (1 : Int32)), (8, .int v8_105), (6, .int r23), (5, .int v5_73), (4, .int v4_73), (0, .ref (a_m 0)), (1, .int seed), (2, .int many), (3, .int six)]) hx hb dX11_odds_151 hl (by decide) rfl (fun ls hl => ?_)
                              refine r_iinc (lv' := fun i33 => [(8, .int i33), (7, .int (1 : Int32)), (6, .int r23), (5, .int v5_73), (4, .int v4_73), (0, .ref (a_m 0)), (1, .int seed), (2, .int many), (3, .int six)]) hx hb dX11_odds_153 hl (k := 1) rfl (by decide) rfl (by decide) (fun _ => rfl) (fun i33 e_i33 t_i33 ls hl => ?_)
                              try have t_i33 := t_i33 (by omega)
                              refine lv_goto (tgt := 105) hx hb dX11_odds_156 (by decide) ?_
                              exact ih_105 (1 : Int32) i33 (by omega) (by omega) _ _ hP hD hS ls hl
                            · refine lv_aload_n hx hb dX11_odds_136 rfl (lv_at hl 5 rfl) ?_
                              refine va_get (D := g.1) (ci := 11) (v := .ref (a_m 21)) (C := RX11) (T := TX11) (N := 46) hx hb hi_X11 (fun _ h => h) hown hK.1 hP 0 rfl rfl 43 (by decide) hf_89 (fun _ h9 => h9) rfl dX11_odds_137 ?_
                              refine lv_iload hx hb dX11_odds_140 (lv_at hl 0 rfl) ?_
                              have n_142 : vp_in v8_105 1250 := (t_in (by omega))
                              refine va_iald hx hb hK.1 hP 21 0 rfl rfl n_142 dX11_odds_142 ?_
                              refine q_nm (fun x34 e_x34 => ?_)
                              have e_x34 : x34 = (u24 21) v8_105.toNatClampNeg := e_x34
                              have g_x34 : x34.toInt = ((u24 21) v8_105.toNatClampNeg).toInt := congrArg _ e_x34
                              refine q_if_eq (tgt := 150) hx hb dX11_odds_143 (by decide) rfl (fun b_143 k_143 => ?_) (fun b_143 k_143 => ?_)
                              · refine lv_iconst (v := 0) hx hb dX11_odds_150 (by decide) ?_
                                refine lv_istore (lv' := [(7, .int (0 : Int32)), (8, .int v8_105), (6, .int r23), (5, .int v5_73), (4, .int v4_73), (0, .ref (a_m 0)), (1, .int seed), (2, .int many), (3, .int six)]) hx hb dX11_odds_151 hl (by decide) rfl (fun ls hl => ?_)
                                refine r_iinc (lv' := fun i35 => [(8, .int i35), (7, .int (0 : Int32)), (6, .int r23), (5, .int v5_73), (4, .int v4_73), (0, .ref (a_m 0)), (1, .int seed), (2, .int many), (3, .int six)]) hx hb dX11_odds_153 hl (k := 1) rfl (by decide) rfl (by decide) (fun _ => rfl) (fun i35 e_i35 t_i35 ls hl => ?_)
                                try have t_i35 := t_i35 (by omega)
                                refine lv_goto (tgt := 105) hx hb dX11_odds_156 (by decide) ?_
                                exact ih_105 (0 : Int32) i35 (by omega) (by omega) _ _ hP hD hS ls hl
                              · refine lv_iconst (v := 1) hx hb dX11_odds_146 (by decide) ?_
                                refine lv_goto (tgt := 151) hx hb dX11_odds_147 (by decide) ?_
                                refine lv_istore (lv' := [(7, .int (1 : Int32)), (8, .int v8_105), (6, .int r23), (5, .int v5_73), (4, .int v4_73), (0, .ref (a_m 0)), (1, .int seed), (2, .int many), (3, .int six)]) hx hb dX11_odds_151 hl (by decide) rfl (fun ls hl => ?_)
                                refine r_iinc (lv' := fun i36 => [(8, .int i36), (7, .int (1 : Int32)), (6, .int r23), (5, .int v5_73), (4, .int v4_73), (0, .ref (a_m 0)), (1, .int seed), (2, .int many), (3, .int six)]) hx hb dX11_odds_153 hl (k := 1) rfl (by decide) rfl (by decide) (fun _ => rfl) (fun i36 e_i36 t_i36 ls hl => ?_)
                                try have t_i36 := t_i36 (by omega)
                                refine lv_goto (tgt := 105) hx hb dX11_odds_156 (by decide) ?_
                                exact ih_105 (1 : Int32) i36 (by omega) (by omega) _ _ hP hD hS ls hl
                    exact L105 ((1201 - (0 : Int32).toInt) + 1).toNat (0 : Int32) (0 : Int32) (by omega) (by omega) _ _ hP hD hS ls hl
                  · refine lv_iconst (v := 1) hx hb dX11_odds_95 (by decide) ?_
                    refine lv_goto (tgt := 100) hx hb dX11_odds_96 (by decide) ?_
                    refine lv_istore (lv' := [(7, .int (1 : Int32)), (6, .int r23), (5, .int v5_73), (4, .int v4_73), (0, .ref (a_m 0)), (1, .int seed), (2, .int many), (3, .int six)]) hx hb dX11_odds_100 hl (by decide) rfl (fun ls hl => ?_)
                    refine lv_iconst (v := 0) hx hb dX11_odds_102 (by decide) ?_
                    refine lv_istore (lv' := [(8, .int (0 : Int32)), (7, .int (1 : Int32)), (6, .int r23), (5, .int v5_73), (4, .int v4_73), (0, .ref (a_m 0)), (1, .int seed), (2, .int many), (3, .int six)]) hx hb dX11_odds_103 hl (by decide) rfl (fun ls hl => ?_)
                    have L105 : ∀ (nn : Nat) (v7_105 : Int32) (v8_105 : Int32), (hu_105 : 0 ≤ v8_105.toInt ∧ v8_105.toInt ≤ 1200) → ((1201 - v8_105.toInt) < (nn : Int)) → ∀ (H : Heap) (locs : List Loc), va_P g.1 vwCl (wX11 g a_m u24 J_m) H → va_D A (wX11 g a_m u24 J_m) → va_S A s.heap H locs → ∀ ls : Array Slot, lv_has ls 9 [(8, .int v8_105), (7, .int v7_105), (6, .int r23), (5, .int v5_73), (4, .int v4_73), (0, .ref (a_m 0)), (1, .int seed), (2, .int many), (3, .int six)] → W p l e (rm 2) s m args below meth c H locs 0 0 Q (F0 m 105 ls []) := by
                      intro n_105
                      induction n_105 with
                      | zero =>
                        intro v7_105 v8_105 hu_105 hms_105 H locs hP hD hS ls hl
                        exfalso; omega
                      | succ n_105 ih_105 =>
                        intro v7_105 v8_105 hu_105 hms_105 H locs hP hD hS ls hl
                        refine lv_iload hx hb dX11_odds_105 (lv_at hl 0 rfl) ?_
                        refine lv_aload_n hx hb dX11_odds_107 rfl (lv_at hl 5 rfl) ?_
                        refine va_get (D := g.1) (ci := 11) (v := .ref (a_m 1)) (C := RX11) (T := TX11) (N := 46) hx hb hi_X11 (fun _ h => h) hown hK.1 hP 0 rfl rfl 0 (by decide) hf_7 (fun _ h9 => h9) rfl dX11_odds_108 ?_
                        refine lv_bipush (v := 8) hx hb dX11_odds_111 (by decide) ?_
                        have n_113 : vp_in (8 : Int32) 19800 := (t_in (by decide))
                        refine va_iald hx hb hK.1 hP 1 0 rfl rfl n_113 dX11_odds_113 ?_
                        refine q_nm (fun x37 e_x37 => ?_)
                        have e_x37 : x37 = (u24 1) 8 := e_x37
                        have g_x37 : x37.toInt = ((u24 1) 8).toInt := congrArg _ e_x37
                        have f_x37 := MI.set (MI.kk hM_73 p_r23 (by decide) (by decide)) e_x37
                        refine q_icmp_ge (tgt := 159) hx hb dX11_odds_114 (by decide) rfl rfl (fun k_114 => ?_) (fun k_114 => ?_)
                        · refine lv_iload hx hb dX11_odds_159 (lv_at hl 4 rfl) ?_
                          refine lv_iload hx hb dX11_odds_161 (lv_at hl 1 rfl) ?_
                          refine q_if_eq (tgt := 170) hx hb dX11_odds_163 (by decide) rfl (fun b_163 k_163 => ?_) (fun b_163 k_163 => ?_)
                          · refine lv_iconst (v := 0) hx hb dX11_odds_170 (by decide) ?_
                            refine r_iadd hx hb dX11_odds_171 rfl (by decide : (0 : Int32).toInt = 0) (fun x38 e_x38 t_x38 => ?_)
                            try have t_x38 := t_x38 (by omega)
                            refine lv_istore (lv' := [(4, .int x38), (8, .int v8_105), (7, .int v7_105), (6, .int r23), (5, .int v5_73), (0, .ref (a_m 0)), (1, .int seed), (2, .int many), (3, .int six)]) hx hb dX11_odds_172 hl (by decide) rfl (fun ls hl => ?_)
                            refine r_iinc (lv' := fun i39 => [(5, .int i39), (4, .int x38), (8, .int v8_105), (7, .int v7_105), (6, .int r23), (0, .ref (a_m 0)), (1, .int seed), (2, .int many), (3, .int six)]) hx hb dX11_odds_174 hl (k := 4) rfl (by decide) rfl (by decide) (fun _ => rfl) (fun i39 e_i39 t_i39 ls hl => ?_)
                            try have t_i39 := t_i39 (by omega)
                            refine lv_goto (tgt := 73) hx hb dX11_odds_177 (by decide) ?_
                            exact ih_73 x38 i39 u24 (MI.kk hM_73 p_r23 (by decide) (by decide)) (KK.tr hk_73 p_r23 (by decide) (by decide)) (by omega) (by omega) _ _ hP hD hS ls (lv_sub hl [0, 1, 5, 6, 7, 8] rfl)
                          · refine lv_iconst (v := 1) hx hb dX11_odds_166 (by decide) ?_
                            refine lv_goto (tgt := 171) hx hb dX11_odds_167 (by decide) ?_
                            refine r_iadd hx hb dX11_odds_171 rfl (by decide : (1 : Int32).toInt = 1) (fun x40 e_x40 t_x40 => ?_)
                            try have t_x40 := t_x40 (by omega)
                            refine lv_istore (lv' := [(4, .int x40), (8, .int v8_105), (7, .int v7_105), (6, .int r23), (5, .int v5_73), (0, .ref (a_m 0)), (1, .int seed), (2, .int many), (3, .int six)]) hx hb dX11_odds_172 hl (by decide) rfl (fun ls hl => ?_)
                            refine r_iinc (lv' := fun i41 => [(5, .int i41), (4, .int x40), (8, .int v8_105), (7, .int v7_105), (6, .int r23), (0, .ref (a_m 0)), (1, .int seed), (2, .int many), (3, .int six)]) hx hb dX11_odds_174 hl (k := 4) rfl (by decide) rfl (by decide) (fun _ => rfl) (fun i41 e_i41 t_i41 ls hl => ?_)
                            try have t_i41 := t_i41 (by omega)
                            refine lv_goto (tgt := 73) hx hb dX11_odds_177 (by decide) ?_
                            exact ih_73 x40 i41 u24 (MI.kk hM_73 p_r23 (by decide) (by decide)) (KK.tr hk_73 p_r23 (by decide) (by decide)) (by omega) (by omega) _ _ hP hD hS ls (lv_sub hl [0, 1, 5, 6, 7, 8] rfl)
                        · refine lv_iload hx hb dX11_odds_117 (lv_at hl 1 rfl) ?_
                          refine q_if_eq (tgt := 150) hx hb dX11_odds_119 (by decide) rfl (fun b_119 k_119 => ?_) (fun b_119 k_119 => ?_)
                          · refine lv_iconst (v := 0) hx hb dX11_odds_150 (by decide) ?_
                            refine lv_istore (lv' := [(7, .int (0 : Int32)), (8, .int v8_105), (6, .int r23), (5, .int v5_73), (4, .int v4_73), (0, .ref (a_m 0)), (1, .int seed), (2, .int many), (3, .int six)]) hx hb dX11_odds_151 hl (by decide) rfl (fun ls hl => ?_)
                            refine r_iinc (lv' := fun i42 => [(8, .int i42), (7, .int (0 : Int32)), (6, .int r23), (5, .int v5_73), (4, .int v4_73), (0, .ref (a_m 0)), (1, .int seed), (2, .int many), (3, .int six)]) hx hb dX11_odds_153 hl (k := 1) rfl (by decide) rfl (by decide) (fun _ => rfl) (fun i42 e_i42 t_i42 ls hl => ?_)
                            try have t_i42 := t_i42 (by omega)
                            refine lv_goto (tgt := 105) hx hb dX11_odds_156 (by decide) ?_
                            exact ih_105 (0 : Int32) i42 (by omega) (by omega) _ _ hP hD hS ls hl
                          · refine lv_aload_n hx hb dX11_odds_122 rfl (lv_at hl 5 rfl) ?_
                            refine va_get (D := g.1) (ci := 11) (v := .ref (a_m 1)) (C := RX11) (T := TX11) (N := 46) hx hb hi_X11 (fun _ h => h) hown hK.1 hP 0 rfl rfl 0 (by decide) hf_7 (fun _ h9 => h9) rfl dX11_odds_123 ?_
                            refine lv_sipush (v := 600) hx hb dX11_odds_126 (by decide) ?_
                            refine lv_iload hx hb dX11_odds_129 (lv_at hl 0 rfl) ?_
                            refine r_iadd hx hb dX11_odds_131 (by decide : (600 : Int32).toInt = 600) rfl (fun x43 e_x43 t_x43 => ?_)
                            try have t_x43 := t_x43 (by omega)
                            have n_132 : vp_in x43 19800 := (t_in (by omega))
                            refine va_iald hx hb hK.1 hP 1 0 rfl rfl n_132 dX11_odds_132 ?_
                            refine q_nm (fun x44 e_x44 => ?_)
                            have e_x44 : x44 = (u24 1) x43.toNatClampNeg := e_x44
                            have g_x44 : x44.toInt = ((u24 1) x43.toNatClampNeg).toInt := congrArg _ e_x44
                            refine q_if_eq (tgt := 146) hx hb dX11_odds_133 (by decide) rfl (fun b_133 k_133 => ?_) (fun b_133 k_133 => ?_)
                            · refine lv_iconst (v := 1) hx hb dX11_odds_146 (by decide) ?_
                              refine lv_goto (tgt := 151) hx hb dX11_odds_147 (by decide) ?_
                              refine lv_istore (lv' := [(7, .int (1 : Int32)), (8, .int v8_105), (6, .int r23), (5, .int v5_73), (4, .int v4_73), (0, .ref (a_m 0)), (1, .int seed), (2, .int many), (3, .int six)]) hx hb dX11_odds_151 hl (by decide) rfl (fun ls hl => ?_)
                              refine r_iinc (lv' := fun i45 => [(8, .int i45), (7, .int (1 : Int32)), (6, .int r23), (5, .int v5_73), (4, .int v4_73), (0, .ref (a_m 0)), (1, .int seed), (2, .int many), (3, .int six)]) hx hb dX11_odds_153 hl (k := 1) rfl (by decide) rfl (by decide) (fun _ => rfl) (fun i45 e_i45 t_i45 ls hl => ?_)
                              try have t_i45 := t_i45 (by omega)
                              refine lv_goto (tgt := 105) hx hb dX11_odds_156 (by decide) ?_
                              exact ih_105 (1 : Int32) i45 (by omega) (by omega) _ _ hP hD hS ls hl
                            · refine lv_aload_n hx hb dX11_odds_136 rfl (lv_at hl 5 rfl) ?_
                              refine va_get (D := g.1) (ci := 11) (v := .ref (a_m 21)) (C := RX11) (T := TX11) (N := 46) hx hb hi_X11 (fun _ h => h) hown hK.1 hP 0 rfl rfl 43 (by decide) hf_89 (fun _ h9 => h9) rfl dX11_odds_137 ?_
                              refine lv_iload hx hb dX11_odds_140 (lv_at hl 0 rfl) ?_
                              have n_142 : vp_in v8_105 1250 := (t_in (by omega))
                              refine va_iald hx hb hK.1 hP 21 0 rfl rfl n_142 dX11_odds_142 ?_
                              refine q_nm (fun x46 e_x46 => ?_)
                              have e_x46 : x46 = (u24 21) v8_105.toNatClampNeg := e_x46
                              have g_x46 : x46.toInt = ((u24 21) v8_105.toNatClampNeg).toInt := congrArg _ e_x46
                              refine q_if_eq (tgt := 150) hx hb dX11_odds_143 (by decide) rfl (fun b_143 k_143 => ?_) (fun b_143 k_143 => ?_)
                              · refine lv_iconst (v := 0) hx hb dX11_odds_150 (by decide) ?_
                                refine lv_istore (lv' := [(7, .int (0 : Int32)), (8, .int v8_105), (6, .int r23), (5, .int v5_73), (4, .int v4_73), (0, .ref (a_m 0)), (1, .int seed), (2, .int many), (3, .int six)]) hx hb dX11_odds_151 hl (by decide) rfl (fun ls hl => ?_)
                                refine r_iinc (lv' := fun i47 => [(8, .int i47), (7, .int (0 : Int32)), (6, .int r23), (5, .int v5_73), (4, .int v4_73), (0, .ref (a_m 0)), (1, .int seed), (2, .int many), (3, .int six)]) hx hb dX11_odds_153 hl (k := 1) rfl (by decide) rfl (by decide) (fun _ => rfl) (fun i47 e_i47 t_i47 ls hl => ?_)
                                try have t_i47 := t_i47 (by omega)
                                refine lv_goto (tgt := 105) hx hb dX11_odds_156 (by decide) ?_
                                exact ih_105 (0 : Int32) i47 (by omega) (by omega) _ _ hP hD hS ls hl
                              · refine lv_iconst (v := 1) hx hb dX11_odds_146 (by decide) ?_
                                refine lv_goto (tgt := 151) hx hb dX11_odds_147 (by decide) ?_
                                refine lv_istore (lv' := [(7, .int (1 : Int32)), (8, .int v8_105), (6, .int r23), (5, .int v5_73), (4, .int v4_73), (0, .ref (a_m 0)), (1, .int seed), (2, .int many), (3, .int six)]) hx hb dX11_odds_151 hl (by decide) rfl (fun ls hl => ?_)
                                refine r_iinc (lv' := fun i48 => [(8, .int i48), (7, .int (1 : Int32)), (6, .int r23), (5, .int v5_73), (4, .int v4_73), (0, .ref (a_m 0)), (1, .int seed), (2, .int many), (3, .int six)]) hx hb dX11_odds_153 hl (k := 1) rfl (by decide) rfl (by decide) (fun _ => rfl) (fun i48 e_i48 t_i48 ls hl => ?_)
                                try have t_i48 := t_i48 (by omega)
                                refine lv_goto (tgt := 105) hx hb dX11_odds_156 (by decide) ?_
                                exact ih_105 (1 : Int32) i48 (by omega) (by omega) _ _ hP hD hS ls hl
                    exact L105 ((1201 - (0 : Int32).toInt) + 1).toNat (1 : Int32) (0 : Int32) (by omega) (by omega) _ _ hP hD hS ls hl
            exact L73 ((21 - (0 : Int32).toInt) + 1).toNat (0 : Int32) (0 : Int32) I_m hM (KK.rf I_m) (by omega) (by omega) _ _ hP hD hS ls hl
          · have q_57 := bP.f p_r15 b_57
            refine lv_aload_n hx hb dX11_odds_60 rfl (lv_at hl 0 rfl) ?_
            refine lv_bipush (v := 6) hx hb dX11_odds_61 (by decide) ?_
            refine EffI.cv (wr := ([])) (w' := fun u50 => wX11 g a_m u50 J_m) (As := [.int (6 : Int32)]) (kX11_is l g a_m I_m J_m (6 : Int32)) fx (gUV (uT _) u_259 u_260 u_261 u_5 u_262) rfl hdX11_is ⟨Nat.le_of_ble_eq_true rfl, Nat.le_of_ble_eq_true rfl⟩ hK hP hD hS hA [0, 1, 2, 3, 4, 5, 6, 7, 8, 9, 10, 11, 12, 13, 14, 15, 16, 17, 18, 19, 20, 21, 22] [] [0, 1, 2, 3, 4, 5, 6, 7, 8, 9, 10, 11, 12, 13, 14, 15, 16, 17, 18, 19, 20, 21, 22] rfl rfl rfl rfl (by decide) rfl (fun _ => rfl) rfl rfl rfl rfl hl.1 (Nat.le_of_ble_eq_true rfl) dX11_odds_63 (fun r49 u50 H locs p_r49 hP hD hS => ?_)
            have hP : va_P g.1 vwCl (wX11 g a_m u50 J_m) H := hP
            have hD : va_D A (wX11 g a_m u50 J_m) := hD
            refine hret 66 ls r49 _ _ (u50, J_m) dX11_odds_66 (is_z p_r49.1) hS hP hD ?_
            exact ⟨(KK.st (KK.rf I_m) p_r49.2 (by decide)), ⟨is_z p_r49.1, rfl⟩⟩
        · have q_44 := bP.f p_r14 b_44
          refine lv_aload_n hx hb dX11_odds_47 rfl (lv_at hl 0 rfl) ?_
          refine lv_iconst (v := 1) hx hb dX11_odds_48 (by decide) ?_
          refine EffI.cv (wr := ([])) (w' := fun u52 => wX11 g a_m u52 J_m) (As := [.int (1 : Int32)]) (kX11_is l g a_m I_m J_m (1 : Int32)) fx (gUV (uT _) u_259 u_260 u_261 u_5 u_262) rfl hdX11_is ⟨Nat.le_of_ble_eq_true rfl, Nat.le_of_ble_eq_true rfl⟩ hK hP hD hS hA [0, 1, 2, 3, 4, 5, 6, 7, 8, 9, 10, 11, 12, 13, 14, 15, 16, 17, 18, 19, 20, 21, 22] [] [0, 1, 2, 3, 4, 5, 6, 7, 8, 9, 10, 11, 12, 13, 14, 15, 16, 17, 18, 19, 20, 21, 22] rfl rfl rfl rfl (by decide) rfl (fun _ => rfl) rfl rfl rfl rfl hl.1 (Nat.le_of_ble_eq_true rfl) dX11_odds_49 (fun r51 u52 H locs p_r51 hP hD hS => ?_)
          have hP : va_P g.1 vwCl (wX11 g a_m u52 J_m) H := hP
          have hD : va_D A (wX11 g a_m u52 J_m) := hD
          refine hret 52 ls r51 _ _ (u52, J_m) dX11_odds_52 (is_z p_r51.1) hS hP hD ?_
          exact ⟨(KK.st (KK.rf I_m) p_r51.2 (by decide)), ⟨is_z p_r51.1, rfl⟩⟩

set_option maxHeartbeats 4000000 in
set_option maxRecDepth 100000 in
theorem kX11_copies (l : Launch) (g : gG) (a_m : Nat → Nat) (I_m : Nat → Nat → Int32) (J_m : Nat → Nat → Int64) (fr : Int32) (to : Int32) (h_f : 0 ≤ fr.toInt ∧ fr.toInt ≤ 3 ∧ 0 ≤ to.toInt ∧ to.toInt ≤ 3 ∧ fr.toInt ≠ to.toInt) : EffV l g yX11_copies wsX11_copies 0 [.ref (a_m 0), .int fr, .int to] (wX11 g a_m I_m J_m) (fun (u : (Nat → Nat → Int32)) => wX11 g a_m u J_m) (fun (u : (Nat → Nat → Int32)) => KK [1] [] I_m (u) ∧ ∀ j : Nat, ((3300 * to.toInt ≤ (j : Int) ∧ (j : Int) < 3300 * to.toInt + 3300) → (u) 1 j = I_m 1 ((j : Int) - 3300 * to.toInt + 3300 * fr.toInt).toNat) ∧ (¬ (3300 * to.toInt ≤ (j : Int) ∧ (j : Int) < 3300 * to.toInt + 3300) → (u) 1 j = I_m 1 j)) := by
  refine EffV.st (cc := cX11_copies) (maxL := 4) (by decide) rfl (Nat.le_of_ble_eq_true rfl) (fun p e s m args below meth c A Q ls fx hK hP hD hA hS hl hret => ?_)
  have hx := fx.1
  have hb := fx.2.1
  have hml := fx.2.2.1
  have hown := fx.2.2.2.1
  have hts := fx.2.2.2.2
  have hl : lv_has ls 4 [(0, .ref (a_m 0)), (1, .int fr), (2, .int to)] := hl
  have hP : va_P g.1 vwCl (wX11 g a_m I_m J_m) s.heap := hP
  have hf_7 := hts _ (uT _ _ u_170)
  have hi_X11 : ∀ w ∈ wsX110, w.before args s = true := fun w h => hts w (uT _ w (u_wsX110 w h))
  have lm1 : (-1 : Int32).toInt = -1 := by decide
  have lm0 : (0 : Int32).toInt = 0 := by decide
  have lm2 : (1 : Int32).toInt = 1 := by decide
  have lq3300 : (3300 : Int32).toInt = 3300 := by decide
  refine lv_iconst (v := 0) hx hb dX11_copies_0 (by decide) ?_
  refine lv_istore_n (lv' := [(3, .int (0 : Int32)), (0, .ref (a_m 0)), (1, .int fr), (2, .int to)]) hx hb dX11_copies_1 rfl hl (by decide) rfl (fun ls hl => ?_)
  have L2 : ∀ (nn : Nat) (v3_2 : Int32) (I_m_2 : Nat → Nat → Int32), (hk_2 : KK [1] [] I_m I_m_2) → (hv_2 : 0 ≤ v3_2.toInt ∧ v3_2.toInt ≤ 3300) → (hc_2 : ∀ j : Nat, ((3300 * to.toInt ≤ (j : Int) ∧ (j : Int) < 3300 * to.toInt + v3_2.toInt) → I_m_2 1 j = I_m 1 ((j : Int) - 3300 * to.toInt + 3300 * fr.toInt).toNat) ∧ (¬ (3300 * to.toInt ≤ (j : Int) ∧ (j : Int) < 3300 * to.toInt + v3_2.toInt) → I_m_2 1 j = I_m 1 j)) → ((3301 - v3_2.toInt) < (nn : Int)) → ∀ (H : Heap) (locs : List Loc), va_P g.1 vwCl (wX11 g a_m I_m_2 J_m) H → va_D A (wX11 g a_m I_m_2 J_m) → va_S A s.heap H locs → ∀ ls : Array Slot, lv_has ls 4 [(3, .int v3_2), (0, .ref (a_m 0)), (1, .int fr), (2, .int to)] → W p l e (rm 0) s m args below meth c H locs 0 0 Q (F0 m 2 ls []) := by
    intro n_2
    induction n_2 with
    | zero =>
      intro v3_2 I_m_2 hk_2 hv_2 hc_2 hms_2 H locs hP hD hS ls hl
      exfalso; omega
    | succ n_2 ih_2 =>
      intro v3_2 I_m_2 hk_2 hv_2 hc_2 hms_2 H locs hP hD hS ls hl
      refine lv_iload_n hx hb dX11_copies_2 rfl (lv_at hl 0 rfl) ?_
      refine lv_sipush (v := 3300) hx hb dX11_copies_3 (by decide) ?_
      refine q_icmp_ge (tgt := 39) hx hb dX11_copies_6 (by decide) rfl (by decide : (3300 : Int32).toInt = 3300) (fun k_6 => ?_) (fun k_6 => ?_)
      · refine hret 39 ls _ _ I_m_2 dX11_copies_39 hS hP hD ?_
        exact ⟨hk_2, (fun j => ⟨fun q => (hc_2 j).1 (by omega), fun q => (hc_2 j).2 (by omega)⟩)⟩
      · refine lv_aload_n hx hb dX11_copies_9 rfl (lv_at hl 1 rfl) ?_
        refine va_get (D := g.1) (ci := 11) (v := .ref (a_m 1)) (C := RX11) (T := TX11) (N := 46) hx hb hi_X11 (fun _ h => h) hown hK.1 hP 0 rfl rfl 0 (by decide) hf_7 (fun _ h9 => h9) rfl dX11_copies_10 ?_
        refine lv_sipush (v := 3300) hx hb dX11_copies_13 (by decide) ?_
        refine lv_iload_n hx hb dX11_copies_16 rfl (lv_at hl 3 rfl) ?_
        refine r_imul hx hb dX11_copies_17 (by decide : (3300 : Int32).toInt = 3300) rfl (fun x1 e_x1 t_x1 => ?_)
        try have t_x1 := t_x1 (by omega)
        refine lv_iload_n hx hb dX11_copies_18 rfl (lv_at hl 0 rfl) ?_
        refine r_iadd hx hb dX11_copies_19 rfl rfl (fun x2 e_x2 t_x2 => ?_)
        try have t_x2 := t_x2 (by omega)
        refine lv_aload_n hx hb dX11_copies_20 rfl (lv_at hl 1 rfl) ?_
        refine va_get (D := g.1) (ci := 11) (v := .ref (a_m 1)) (C := RX11) (T := TX11) (N := 46) hx hb hi_X11 (fun _ h => h) hown hK.1 hP 0 rfl rfl 0 (by decide) hf_7 (fun _ h9 => h9) rfl dX11_copies_21 ?_
        refine lv_sipush (v := 3300) hx hb dX11_copies_24 (by decide) ?_
        refine lv_iload_n hx hb dX11_copies_27 rfl (lv_at hl 2 rfl) ?_
        refine r_imul hx hb dX11_copies_28 (by decide : (3300 : Int32).toInt = 3300) rfl (fun x3 e_x3 t_x3 => ?_)
        try have t_x3 := t_x3 (by omega)
        refine lv_iload_n hx hb dX11_copies_29 rfl (lv_at hl 0 rfl) ?_
        refine r_iadd hx hb dX11_copies_30 rfl rfl (fun x4 e_x4 t_x4 => ?_)
        try have t_x4 := t_x4 (by omega)
        have n_31 : vp_in x4 19800 := (t_in (by omega))
        refine va_iald hx hb hK.1 hP 1 0 rfl rfl n_31 dX11_copies_31 ?_
        refine q_nm (fun x5 e_x5 => ?_)
        have e_x5 : x5 = (I_m_2 1) x4.toNatClampNeg := e_x5
        have g_x5 : x5.toInt = ((I_m_2 1) x4.toNatClampNeg).toInt := congrArg _ e_x5
        have n_32 : vp_in x2 19800 := (t_in (by omega))
        obtain ⟨f6, e_f6⟩ : ∃ z, z = upd (I_m_2 1) x2.toNatClampNeg x5 := ⟨_, rfl⟩
        refine va_iast hx hb hK.1 hP hD hS 1 0 rfl rfl n_32 dX11_copies_32 (fun H locs hP hD hS => ?_)
        have hP : va_P g.1 vwCl (wX11 g a_m (uR I_m_2 1 f6) J_m) H := by rw [e_f6]; exact hP
        have hD : va_D A (wX11 g a_m (uR I_m_2 1 f6) J_m) := by rw [e_f6]; exact hD
        have hk_32 : KK [1] [] I_m (uR I_m_2 1 f6) := KK.ur hk_2 (by decide) (by decide)
        refine r_iinc (lv' := fun i7 => [(3, .int i7), (0, .ref (a_m 0)), (1, .int fr), (2, .int to)]) hx hb dX11_copies_33 hl (k := 0) rfl (by decide) rfl (by decide) (fun _ => rfl) (fun i7 e_i7 t_i7 ls hl => ?_)
        try have t_i7 := t_i7 (by omega)
        refine lv_goto (tgt := 2) hx hb dX11_copies_36 (by decide) ?_
        exact ih_2 i7 (uR I_m_2 1 f6) hk_32 (by omega) (fun j => cp_st hc_2 e_f6 e_x5 (by omega) (by omega) (by omega) h_f (by omega) j) (by omega) _ _ hP hD hS ls hl
  exact L2 ((3301 - (0 : Int32).toInt) + 1).toNat (0 : Int32) I_m (KK.rf I_m) (by omega) (fun j => ⟨fun q => by exfalso; omega, fun _ => rfl⟩) (by omega) _ _ hP hD hS ls hl

set_option maxHeartbeats 4000000 in
set_option maxRecDepth 100000 in
theorem kX11_mark (l : Launch) (g : gG) (a_m : Nat → Nat) (I_m : Nat → Nat → Int32) (J_m : Nat → Nat → Int64) (hM : MI I_m) : EffI l g yX11_mark wsX11_mark 1 [.ref (a_m 0)] (wX11 g a_m I_m J_m) (fun (u : (Nat → Nat → Int32)) => wX11 g a_m u J_m) (fun r (u : (Nat → Nat → Int32)) => MI (u) ∧ KK [1] [1, 45] I_m (u) ∧ ((3 ≤ (I_m 0 45).toInt ∧ r = -1 ∧ (u) 0 45 = I_m 0 45) ∨ ((I_m 0 45).toInt < 3 ∧ r = (u) 0 45 ∧ ((u) 0 45).toInt = (I_m 0 45).toInt + 1)) ∧ ((3 ≤ (I_m 0 45).toInt ∧ (u) 1 = I_m 1 ∧ (u) 0 45 = I_m 0 45) ∨ ((I_m 0 45).toInt < 3 ∧ ((u) 0 45).toInt = (I_m 0 45).toInt + 1 ∧ ∀ j : Nat, ((3300 * ((I_m 0 45).toInt + 1) ≤ (j : Int) ∧ (j : Int) < 3300 * ((I_m 0 45).toInt + 1) + 3300) → (u) 1 j = I_m 1 ((j : Int) - 3300 * ((I_m 0 45).toInt + 1)).toNat) ∧ (¬ (3300 * ((I_m 0 45).toInt + 1) ≤ (j : Int) ∧ (j : Int) < 3300 * ((I_m 0 45).toInt + 1) + 3300) → (u) 1 j = I_m 1 j)))) := by
  refine EffI.st (cc := cX11_mark) (maxL := 1) (by decide) rfl (Nat.le_of_ble_eq_true rfl) (fun p e s m args below meth c A Q ls fx hK hP hD hA hS hl hret => ?_)
  have hx := fx.1
  have hb := fx.2.1
  have hml := fx.2.2.1
  have hown := fx.2.2.2.1
  have hts := fx.2.2.2.2
  have hl : lv_has ls 1 [(0, .ref (a_m 0))] := hl
  have hP : va_P g.1 vwCl (wX11 g a_m I_m J_m) s.heap := hP
  have hf_439 := hts _ (uT _ _ u_1691)
  have hi_X11 : ∀ w ∈ wsX110, w.before args s = true := fun w h => hts w (uT _ w (u_wsX110 w h))
  have lm1 : (-1 : Int32).toInt = -1 := by decide
  have lm0 : (0 : Int32).toInt = 0 := by decide
  have lm2 : (1 : Int32).toInt = 1 := by decide
  have lq3 : (3 : Int32).toInt = 3 := by decide
  have lq4 : (4 : Int32).toInt = 4 := by decide
  have lq1 : (1 : Int32).toInt = 1 := by decide
  have hmk := hM.mk
  refine lv_aload_n hx hb dX11_mark_0 rfl (lv_at hl 0 rfl) ?_
  refine va_get (D := g.1) (ci := 11) (v := .int (I_m 0 45)) (C := RX11) (T := TX11) (N := 46) hx hb hi_X11 (fun _ h => h) hown hK.1 hP 0 rfl rfl 45 (by decide) hf_439 (fun _ h9 => h9) rfl dX11_mark_1 ?_
  refine lv_iconst (v := 3) hx hb dX11_mark_4 (by decide) ?_
  refine q_icmp_ne (tgt := 14) hx hb dX11_mark_5 (by decide) rfl (by decide : (3 : Int32).toInt = 3) (fun k_5 => ?_) (fun k_5 => ?_)
  · refine lv_aload_n hx hb dX11_mark_14 rfl (lv_at hl 0 rfl) ?_
    refine lv_dup hx hb dX11_mark_15 rfl ?_
    refine va_get (D := g.1) (ci := 11) (v := .int (I_m 0 45)) (C := RX11) (T := TX11) (N := 46) hx hb hi_X11 (fun _ h => h) hown hK.1 hP 0 rfl rfl 45 (by decide) hf_439 (fun _ h9 => h9) rfl dX11_mark_16 ?_
    refine lv_iconst (v := 1) hx hb dX11_mark_19 (by decide) ?_
    refine r_iadd hx hb dX11_mark_20 rfl (by decide : (1 : Int32).toInt = 1) (fun x1 e_x1 t_x1 => ?_)
    try have t_x1 := t_x1 (by omega)
    refine va_put (D := g.1) (ci := 11) (v := .int x1) (ty := .int) (C := RX11) (T := TX11) (N := 46) hx hb hi_X11 (fun _ h => h) tyX11 tyX11_ok nmX11 hown hK.1 hP hD hS 0 rfl rfl 45 (by decide) hf_439 (fun _ h9 => h9) rfl (by decide +kernel) rfl rfl (Nat.le_of_ble_eq_true rfl) dX11_mark_21 (fun H locs hP hD hS => ?_)
    have hP : va_P g.1 vwCl (wX11 g a_m (uF I_m 0 45 x1) J_m) H := hP
    have hD : va_D A (wX11 g a_m (uF I_m 0 45 x1) J_m) := hD
    have hk_21 : KK [1] [1, 45] I_m (uF I_m 0 45 x1) := KK.uf (KK.rf I_m) (by decide)
    refine lv_aload_n hx hb dX11_mark_24 rfl (lv_at hl 0 rfl) ?_
    refine lv_iconst (v := 0) hx hb dX11_mark_25 (by decide) ?_
    refine lv_aload_n hx hb dX11_mark_26 rfl (lv_at hl 0 rfl) ?_
    refine va_get (D := g.1) (ci := 11) (v := .int x1) (C := RX11) (T := TX11) (N := 46) hx hb hi_X11 (fun _ h => h) hown hK.1 hP 0 rfl rfl 45 (by decide) hf_439 (fun _ h9 => h9) rfl dX11_mark_27 ?_
    refine EffV.cv (wr := ([])) (w' := fun u3 => wX11 g a_m u3 J_m) (As := [.int (0 : Int32), .int x1]) (kX11_copies l g a_m (uF I_m 0 45 x1) J_m (0 : Int32) x1 (by omega)) fx (gUV (uT _) u_1692 u_1693 u_1694 u_5 u_1695) rfl hdX11_copies ⟨Nat.le_of_ble_eq_true rfl, Nat.le_of_ble_eq_true rfl⟩ hK hP hD hS hA [0, 1, 2, 3, 4, 5, 6, 7, 8, 9, 10, 11, 12, 13, 14, 15, 16, 17, 18, 19, 20, 21, 22] [] [0, 1, 2, 3, 4, 5, 6, 7, 8, 9, 10, 11, 12, 13, 14, 15, 16, 17, 18, 19, 20, 21, 22] rfl rfl rfl rfl (by decide) rfl (fun _ => rfl) rfl rfl rfl rfl hl.1 (Nat.le_of_ble_eq_true rfl) dX11_mark_30 (fun u3 H locs p_r2 hP hD hS => ?_)
    have hP : va_P g.1 vwCl (wX11 g a_m u3 J_m) H := hP
    have hD : va_D A (wX11 g a_m u3 J_m) := hD
    have p_r2 : KK [1] [] (uF I_m 0 45 x1) u3 ∧ ∀ j : Nat, ((3300 * (x1).toInt ≤ (j : Int) ∧ (j : Int) < 3300 * (x1).toInt + 3300) → u3 1 j = (I_m 1) ((j : Int) - 3300 * (x1).toInt + 3300 * ((0 : Int32)).toInt).toNat) ∧ (¬ (3300 * (x1).toInt ≤ (j : Int) ∧ (j : Int) < 3300 * (x1).toInt + 3300) → u3 1 j = (I_m 1) j) := p_r2
    have hN30 : (u3 0 45).toInt = (I_m 0 45).toInt + 1 := by rw [p_r2.1.num 45 (by decide)]; show (x1).toInt = _; omega
    have hM30 : MI u3 := MI.mkp (a := 0) (b := (x1).toInt) hM ((KK.uf (cs := [1]) (fs := [45]) (KK.rf I_m) (by decide)).tr p_r2.1 (by decide) (by decide)) (by decide) (fun j => by have q := p_r2.2 j; rw [lm0] at q; exact q) (by omega) (by omega) (by omega) (fun j hj => by omega)
    have hC30 : ∀ j : Nat, ((3300 * ((I_m 0 45).toInt + 1) ≤ (j : Int) ∧ (j : Int) < 3300 * ((I_m 0 45).toInt + 1) + 3300) → u3 1 j = I_m 1 ((j : Int) - 3300 * ((I_m 0 45).toInt + 1)).toNat) ∧ (¬ (3300 * ((I_m 0 45).toInt + 1) ≤ (j : Int) ∧ (j : Int) < 3300 * ((I_m 0 45).toInt + 1) + 3300) → u3 1 j = I_m 1 j) := fun j => by have q := p_r2.2 j; rw [lm0, show (x1).toInt = (I_m 0 45).toInt + 1 by omega, show (j : Int) - 3300 * ((I_m 0 45).toInt + 1) + 3300 * 0 = (j : Int) - 3300 * ((I_m 0 45).toInt + 1) by omega] at q; exact q
    refine lv_aload_n hx hb dX11_mark_33 rfl (lv_at hl 0 rfl) ?_
    refine lv_aload_n hx hb dX11_mark_34 rfl (lv_at hl 0 rfl) ?_
    refine va_get (D := g.1) (ci := 11) (v := .int (u3 0 45)) (C := RX11) (T := TX11) (N := 46) hx hb hi_X11 (fun _ h => h) hown hK.1 hP 0 rfl rfl 45 (by decide) hf_439 (fun _ h9 => h9) rfl dX11_mark_35 ?_
    refine EffI.cv (wr := ([])) (w' := fun u5 => wX11 g a_m u5 J_m) (As := [.int (u3 0 45)]) (kX11_gives l g a_m u3 J_m (u3 0 45)) fx (gUV (uT _) u_585 u_586 u_587 u_5 u_588) rfl hdX11_gives ⟨Nat.le_of_ble_eq_true rfl, Nat.le_of_ble_eq_true rfl⟩ hK hP hD hS hA [0, 1, 2, 3, 4, 5, 6, 7, 8, 9, 10, 11, 12, 13, 14, 15, 16, 17, 18, 19, 20, 21, 22] [] [0, 1, 2, 3, 4, 5, 6, 7, 8, 9, 10, 11, 12, 13, 14, 15, 16, 17, 18, 19, 20, 21, 22] rfl rfl rfl rfl (by decide) rfl (fun _ => rfl) rfl rfl rfl rfl hl.1 (Nat.le_of_ble_eq_true rfl) dX11_mark_38 (fun r4 u5 H locs p_r4 hP hD hS => ?_)
    have hP : va_P g.1 vwCl (wX11 g a_m u5 J_m) H := hP
    have hD : va_D A (wX11 g a_m u5 J_m) := hD
    refine hret 41 ls r4 _ _ u5 dX11_mark_41 hS hP hD ?_
    exact ⟨(MI.st hM30 p_r4.2), (KK.st (KK.tr hk_21 p_r2.1 (by decide) (by decide)) p_r4.2 (by decide)), Or.inr ⟨by omega, p_r4.1.trans (ST.num p_r4.2 45 (by decide)).symm, by rw [ST.num p_r4.2 45 (by decide)]; exact hN30⟩, Or.inr ⟨by omega, by rw [ST.num p_r4.2 45 (by decide)]; exact hN30, fun j => by rw [ST.row p_r4.2 1 (by decide)]; exact hC30 j⟩⟩
  · refine lv_aload_n hx hb dX11_mark_8 rfl (lv_at hl 0 rfl) ?_
    refine lv_iconst (v := 4) hx hb dX11_mark_9 (by decide) ?_
    refine EffI.cv (wr := ([])) (w' := fun u7 => wX11 g a_m u7 J_m) (As := [.int (4 : Int32)]) (kX11_refuse l g a_m I_m J_m (4 : Int32)) fx (gUV (uT _) u_536 u_537 u_538 u_5 u_539) rfl hdX11_refuse ⟨Nat.le_of_ble_eq_true rfl, Nat.le_of_ble_eq_true rfl⟩ hK hP hD hS hA [0, 1, 2, 3, 4, 5, 6, 7, 8, 9, 10, 11, 12, 13, 14, 15, 16, 17, 18, 19, 20, 21, 22] [] [0, 1, 2, 3, 4, 5, 6, 7, 8, 9, 10, 11, 12, 13, 14, 15, 16, 17, 18, 19, 20, 21, 22] rfl rfl rfl rfl (by decide) rfl (fun _ => rfl) rfl rfl rfl rfl hl.1 (Nat.le_of_ble_eq_true rfl) dX11_mark_10 (fun r6 u7 H locs p_r6 hP hD hS => ?_)
    have hP : va_P g.1 vwCl (wX11 g a_m u7 J_m) H := hP
    have hD : va_D A (wX11 g a_m u7 J_m) := hD
    refine hret 13 ls r6 _ _ u7 dX11_mark_13 hS hP hD ?_
    exact ⟨(MI.st hM p_r6.2), (KK.st (KK.rf I_m) p_r6.2 (by decide)), Or.inl ⟨by omega, p_r6.1, ST.num p_r6.2 45 (by decide)⟩, Or.inl ⟨by omega, ST.row p_r6.2 1 (by decide), ST.num p_r6.2 45 (by decide)⟩⟩

set_option maxHeartbeats 4000000 in
set_option maxRecDepth 100000 in
theorem kX11_back (l : Launch) (g : gG) (a_m : Nat → Nat) (I_m : Nat → Nat → Int32) (J_m : Nat → Nat → Int64) (hM : MI I_m) : EffI l g yX11_back wsX11_back 1 [.ref (a_m 0)] (wX11 g a_m I_m J_m) (fun (u : (Nat → Nat → Int32)) => wX11 g a_m u J_m) (fun r (u : (Nat → Nat → Int32)) => MI (u) ∧ KK [1] [1, 45] I_m (u) ∧ (((I_m 0 45).toInt ≤ 0 ∧ r = -1 ∧ (u) 0 45 = I_m 0 45) ∨ (0 < (I_m 0 45).toInt ∧ r = (u) 0 45 ∧ ((u) 0 45).toInt = (I_m 0 45).toInt - 1)) ∧ (((I_m 0 45).toInt ≤ 0 ∧ (u) 1 = I_m 1 ∧ (u) 0 45 = I_m 0 45) ∨ (0 < (I_m 0 45).toInt ∧ ((u) 0 45).toInt = (I_m 0 45).toInt - 1 ∧ ∀ j : Nat, (j < 3300 → (u) 1 j = I_m 1 (j + 3300 * (I_m 0 45).toInt.toNat)) ∧ (¬ j < 3300 → (u) 1 j = I_m 1 j)))) := by
  refine EffI.st (cc := cX11_back) (maxL := 1) (by decide) rfl (Nat.le_of_ble_eq_true rfl) (fun p e s m args below meth c A Q ls fx hK hP hD hA hS hl hret => ?_)
  have hx := fx.1
  have hb := fx.2.1
  have hml := fx.2.2.1
  have hown := fx.2.2.2.1
  have hts := fx.2.2.2.2
  have hl : lv_has ls 1 [(0, .ref (a_m 0))] := hl
  have hP : va_P g.1 vwCl (wX11 g a_m I_m J_m) s.heap := hP
  have hf_439 := hts _ (uT _ _ u_1691)
  have hi_X11 : ∀ w ∈ wsX110, w.before args s = true := fun w h => hts w (uT _ w (u_wsX110 w h))
  have lm1 : (-1 : Int32).toInt = -1 := by decide
  have lm0 : (0 : Int32).toInt = 0 := by decide
  have lm2 : (1 : Int32).toInt = 1 := by decide
  have lq6 : (6 : Int32).toInt = 6 := by decide
  have lq1 : (1 : Int32).toInt = 1 := by decide
  have hmk := hM.mk
  refine lv_aload_n hx hb dX11_back_0 rfl (lv_at hl 0 rfl) ?_
  refine va_get (D := g.1) (ci := 11) (v := .int (I_m 0 45)) (C := RX11) (T := TX11) (N := 46) hx hb hi_X11 (fun _ h => h) hown hK.1 hP 0 rfl rfl 45 (by decide) hf_439 (fun _ h9 => h9) rfl dX11_back_1 ?_
  refine q_if_ne (tgt := 14) hx hb dX11_back_4 (by decide) rfl (fun b_4 k_4 => ?_) (fun b_4 k_4 => ?_)
  · refine lv_aload_n hx hb dX11_back_14 rfl (lv_at hl 0 rfl) ?_
    refine lv_aload_n hx hb dX11_back_15 rfl (lv_at hl 0 rfl) ?_
    refine va_get (D := g.1) (ci := 11) (v := .int (I_m 0 45)) (C := RX11) (T := TX11) (N := 46) hx hb hi_X11 (fun _ h => h) hown hK.1 hP 0 rfl rfl 45 (by decide) hf_439 (fun _ h9 => h9) rfl dX11_back_16 ?_
    refine lv_iconst (v := 0) hx hb dX11_back_19 (by decide) ?_
    refine EffV.cv (wr := ([])) (w' := fun u2 => wX11 g a_m u2 J_m) (As := [.int (I_m 0 45), .int (0 : Int32)]) (kX11_copies l g a_m I_m J_m (I_m 0 45) (0 : Int32) (by omega)) fx (gUV (uT _) u_1692 u_1693 u_1694 u_5 u_1695) rfl hdX11_copies ⟨Nat.le_of_ble_eq_true rfl, Nat.le_of_ble_eq_true rfl⟩ hK hP hD hS hA [0, 1, 2, 3, 4, 5, 6, 7, 8, 9, 10, 11, 12, 13, 14, 15, 16, 17, 18, 19, 20, 21, 22] [] [0, 1, 2, 3, 4, 5, 6, 7, 8, 9, 10, 11, 12, 13, 14, 15, 16, 17, 18, 19, 20, 21, 22] rfl rfl rfl rfl (by decide) rfl (fun _ => rfl) rfl rfl rfl rfl hl.1 (Nat.le_of_ble_eq_true rfl) dX11_back_20 (fun u2 H locs p_r1 hP hD hS => ?_)
    have hP : va_P g.1 vwCl (wX11 g a_m u2 J_m) H := hP
    have hD : va_D A (wX11 g a_m u2 J_m) := hD
    have hK20 := p_r1
    have hC20 : ∀ j : Nat, (j < 3300 → u2 1 j = I_m 1 (j + 3300 * (I_m 0 45).toInt.toNat)) ∧ (¬ j < 3300 → u2 1 j = I_m 1 j) := fun j => by have q := p_r1.2 j; rw [lm0] at q; exact ⟨fun w => by rw [q.1 (by omega)]; congr 1; omega, fun w => q.2 (by omega)⟩
    refine lv_aload_n hx hb dX11_back_23 rfl (lv_at hl 0 rfl) ?_
    have hg24 : (u2 0 45).toInt = (I_m 0 45).toInt := congrArg Int32.toInt (hK20.1.num 45 (by decide))
    refine lv_dup hx hb dX11_back_24 rfl ?_
    refine va_get (D := g.1) (ci := 11) (v := .int (u2 0 45)) (C := RX11) (T := TX11) (N := 46) hx hb hi_X11 (fun _ h => h) hown hK.1 hP 0 rfl rfl 45 (by decide) hf_439 (fun _ h9 => h9) rfl dX11_back_25 ?_
    refine lv_iconst (v := 1) hx hb dX11_back_28 (by decide) ?_
    refine r_isub hx hb dX11_back_29 rfl (by decide : (1 : Int32).toInt = 1) (fun x3 e_x3 t_x3 => ?_)
    try have t_x3 := t_x3 (by omega)
    refine va_put (D := g.1) (ci := 11) (v := .int x3) (ty := .int) (C := RX11) (T := TX11) (N := 46) hx hb hi_X11 (fun _ h => h) tyX11 tyX11_ok nmX11 hown hK.1 hP hD hS 0 rfl rfl 45 (by decide) hf_439 (fun _ h9 => h9) rfl (by decide +kernel) rfl rfl (Nat.le_of_ble_eq_true rfl) dX11_back_30 (fun H locs hP hD hS => ?_)
    have hP : va_P g.1 vwCl (wX11 g a_m (uF u2 0 45 x3) J_m) H := hP
    have hD : va_D A (wX11 g a_m (uF u2 0 45 x3) J_m) := hD
    have hk_30 : KK [1] [1, 45] I_m (uF u2 0 45 x3) := KK.uf (KK.tr (KK.rf I_m) p_r1.1 (by decide) (by decide)) (by decide)
    have hM33 : MI (uF u2 0 45 x3) := MI.mkp (a := (I_m 0 45).toInt) (b := 0) hM (KK.uf (cs := [1]) (fs := [45]) ((KK.rf I_m).tr hK20.1 (by decide) (by decide)) (by decide)) (by decide) (fun j => by have q := hK20.2 j; rw [lm0] at q; exact q) (by omega) (by omega) (show 0 ≤ (x3).toInt ∧ (x3).toInt ≤ 3 from (by omega)) (fun j hj => by have q : (j : Int) ≤ (x3).toInt := hj; omega)
    refine lv_aload_n hx hb dX11_back_33 rfl (lv_at hl 0 rfl) ?_
    refine lv_aload_n hx hb dX11_back_34 rfl (lv_at hl 0 rfl) ?_
    refine va_get (D := g.1) (ci := 11) (v := .int x3) (C := RX11) (T := TX11) (N := 46) hx hb hi_X11 (fun _ h => h) hown hK.1 hP 0 rfl rfl 45 (by decide) hf_439 (fun _ h9 => h9) rfl dX11_back_35 ?_
    refine EffI.cv (wr := ([])) (w' := fun u5 => wX11 g a_m u5 J_m) (As := [.int x3]) (kX11_gives l g a_m (uF u2 0 45 x3) J_m x3) fx (gUV (uT _) u_585 u_586 u_587 u_5 u_588) rfl hdX11_gives ⟨Nat.le_of_ble_eq_true rfl, Nat.le_of_ble_eq_true rfl⟩ hK hP hD hS hA [0, 1, 2, 3, 4, 5, 6, 7, 8, 9, 10, 11, 12, 13, 14, 15, 16, 17, 18, 19, 20, 21, 22] [] [0, 1, 2, 3, 4, 5, 6, 7, 8, 9, 10, 11, 12, 13, 14, 15, 16, 17, 18, 19, 20, 21, 22] rfl rfl rfl rfl (by decide) rfl (fun _ => rfl) rfl rfl rfl rfl hl.1 (Nat.le_of_ble_eq_true rfl) dX11_back_38 (fun r4 u5 H locs p_r4 hP hD hS => ?_)
    have hP : va_P g.1 vwCl (wX11 g a_m u5 J_m) H := hP
    have hD : va_D A (wX11 g a_m u5 J_m) := hD
    refine hret 41 ls r4 _ _ u5 dX11_back_41 hS hP hD ?_
    exact ⟨(MI.st hM33 p_r4.2), (KK.st hk_30 p_r4.2 (by decide)), Or.inr ⟨by omega, p_r4.1.trans (ST.num p_r4.2 45 (by decide)).symm, by rw [ST.num p_r4.2 45 (by decide)]; show (x3).toInt = _; omega⟩, Or.inr ⟨by omega, by rw [ST.num p_r4.2 45 (by decide)]; show (x3).toInt = _; omega, fun j => by rw [ST.row p_r4.2 1 (by decide)]; exact hC20 j⟩⟩
  · refine lv_aload_n hx hb dX11_back_7 rfl (lv_at hl 0 rfl) ?_
    refine lv_bipush (v := 6) hx hb dX11_back_8 (by decide) ?_
    refine EffI.cv (wr := ([])) (w' := fun u7 => wX11 g a_m u7 J_m) (As := [.int (6 : Int32)]) (kX11_refuse l g a_m I_m J_m (6 : Int32)) fx (gUV (uT _) u_536 u_537 u_538 u_5 u_539) rfl hdX11_refuse ⟨Nat.le_of_ble_eq_true rfl, Nat.le_of_ble_eq_true rfl⟩ hK hP hD hS hA [0, 1, 2, 3, 4, 5, 6, 7, 8, 9, 10, 11, 12, 13, 14, 15, 16, 17, 18, 19, 20, 21, 22] [] [0, 1, 2, 3, 4, 5, 6, 7, 8, 9, 10, 11, 12, 13, 14, 15, 16, 17, 18, 19, 20, 21, 22] rfl rfl rfl rfl (by decide) rfl (fun _ => rfl) rfl rfl rfl rfl hl.1 (Nat.le_of_ble_eq_true rfl) dX11_back_10 (fun r6 u7 H locs p_r6 hP hD hS => ?_)
    have hP : va_P g.1 vwCl (wX11 g a_m u7 J_m) H := hP
    have hD : va_D A (wX11 g a_m u7 J_m) := hD
    refine hret 13 ls r6 _ _ u7 dX11_back_13 hS hP hD ?_
    exact ⟨(MI.st hM p_r6.2), (KK.st (KK.rf I_m) p_r6.2 (by decide)), Or.inl ⟨by omega, p_r6.1, ST.num p_r6.2 45 (by decide)⟩, Or.inl ⟨by omega, ST.row p_r6.2 1 (by decide), ST.num p_r6.2 45 (by decide)⟩⟩
