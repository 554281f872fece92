set_option maxHeartbeats 4000000 in
set_option maxRecDepth 100000 in
theorem kX11_isBad (l : Launch) (g : gG) (a_m : Nat → Nat) (I_m : Nat → Nat → Int32) (J_m : Nat → Nat → Int64) (kind : Int32) (place : Int32)  : EffI l g yX11_isBad wsX11_isBad 0 [.ref (a_m 0), .int kind, .int place] (wX11 g a_m I_m J_m) (fun (u : (Nat → Nat → Int32)) => wX11 g a_m u J_m) (fun r (u : (Nat → Nat → Int32)) => KK [] [20, 21] I_m (u) ∧ r = 0 ∧ (u) 0 20 = kind ∧ (u) 0 21 = place) := by
  refine EffI.sz (cc := cX11_isBad) (maxL := 3) (by decide) rfl (Nat.le_of_ble_eq_true rfl) (fun p e s m args below meth c A Q ls fx hK hP hD hA hS hl hret => ?_)
  have hx := fx.1
  have hb := fx.2.1
  have hml := fx.2.2.1
  have hown := fx.2.2.2.1
  have hts := fx.2.2.2.2
  have hl : lv_has ls 3 [(0, .ref (a_m 0)), (1, .int kind), (2, .int place)] := hl
  have hP : va_P g.1 vwCl (wX11 g a_m I_m J_m) s.heap := hP
  have hf_230 := hts _ (uT _ _ u_698)
  have hf_233 := hts _ (uT _ _ u_699)
  have hi_X11 : ∀ w ∈ wsX110, w.before args s = true := fun w h => hts w (uT _ w (u_wsX110 w h))
  have lm1 : (-1 : Int32).toInt = -1 := by decide
  have lm0 : (0 : Int32).toInt = 0 := by decide
  have lm2 : (1 : Int32).toInt = 1 := by decide
  refine lv_aload_n hx hb dX11_isBad_0 rfl (lv_at hl 0 rfl) ?_
  refine lv_iload_n hx hb dX11_isBad_1 rfl (lv_at hl 1 rfl) ?_
  refine va_put (D := g.1) (ci := 11) (v := .int kind) (ty := .int) (C := RX11) (T := TX11) (N := 46) hx hb hi_X11 (fun _ h => h) tyX11 tyX11_ok nmX11 hown hK.1 hP hD hS 0 rfl rfl 20 (by decide) hf_230 (fun _ h9 => h9) rfl (by decide +kernel) rfl rfl (Nat.le_of_ble_eq_true rfl) dX11_isBad_2 (fun H locs hP hD hS => ?_)
  have hP : va_P g.1 vwCl (wX11 g a_m (uF I_m 0 20 kind) J_m) H := hP
  have hD : va_D A (wX11 g a_m (uF I_m 0 20 kind) J_m) := hD
  have hk_2 : KK [] [20, 21] I_m (uF I_m 0 20 kind) := KK.uf (KK.rf I_m) (by decide)
  refine lv_aload_n hx hb dX11_isBad_5 rfl (lv_at hl 0 rfl) ?_
  refine lv_iload_n hx hb dX11_isBad_6 rfl (lv_at hl 2 rfl) ?_
  refine va_put (D := g.1) (ci := 11) (v := .int place) (ty := .int) (C := RX11) (T := TX11) (N := 46) hx hb hi_X11 (fun _ h => h) tyX11 tyX11_ok nmX11 hown hK.1 hP hD hS 0 rfl rfl 21 (by decide) hf_233 (fun _ h9 => h9) rfl (by decide +kernel) rfl rfl (Nat.le_of_ble_eq_true rfl) dX11_isBad_7 (fun H locs hP hD hS => ?_)
  have hP : va_P g.1 vwCl (wX11 g a_m (uF (uF I_m 0 20 kind) 0 21 place) J_m) H := hP
  have hD : va_D A (wX11 g a_m (uF (uF I_m 0 20 kind) 0 21 place) J_m) := hD
  have hk_7 : KK [] [20, 21] I_m (uF (uF I_m 0 20 kind) 0 21 place) := KK.uf hk_2 (by decide)
  refine lv_iconst (v := 0) hx hb dX11_isBad_10 (by decide) ?_
  refine hret 11 ls (0 : Int32) _ _ (uF (uF I_m 0 20 kind) 0 21 place) dX11_isBad_11 (Or.inl rfl) hS hP hD ?_
  exact ⟨hk_7, rfl, rfl, rfl⟩

set_option maxHeartbeats 4000000 in
set_option maxRecDepth 100000 in
theorem kX11_byteOf (l : Launch) (g : gG) (a_m : Nat → Nat) (I_m : Nat → Nat → Int32) (J_m : Nat → Nat → Int64) (k : Int32) (hM : MI I_m) (h_k : 0 ≤ k.toInt) : PurI l g yX11_byteOf wsX11_byteOf 0 [.ref (a_m 0), .int k] (wX11 g a_m I_m J_m) (fun r => (k.toInt < (I_m 1 16507).toInt ∧ r = I_m 1 (16800 + k.toInt.toNat)) ∨ ((I_m 1 16507).toInt ≤ k.toInt ∧ r.toInt = 32)) := by
  refine PurI.st (cc := cX11_byteOf) (maxL := 2) (by decide) rfl (Nat.le_of_ble_eq_true rfl) (fun p e s m args below meth c Q ls fx hK hP hl hret => ?_)
  have hx := fx.1
  have hb := fx.2.1
  have hml := fx.2.2.1
  have hown := fx.2.2.2.1
  have hts := fx.2.2.2.2
  have hl : lv_has ls 2 [(0, .ref (a_m 0)), (1, .int k)] := hl
  have hP : va_P g.1 vwCl (wX11 g a_m I_m J_m) s.heap := hP
  have hf_7 := hts _ (uT _ _ u_170)
  have hi_X11 : ∀ w ∈ wsX110, w.before args s = true := fun w h => hts w (uT _ w (u_wsX110 w h))
  have lm1 : (-1 : Int32).toInt = -1 := by decide
  have lm0 : (0 : Int32).toInt = 0 := by decide
  have lm2 : (1 : Int32).toInt = 1 := by decide
  have lq16507 : (16507 : Int32).toInt = 16507 := by decide
  have lq16800 : (16800 : Int32).toInt = 16800 := by decide
  have lq32 : (32 : Int32).toInt = 32 := by decide
  refine lv_iload_n hx hb dX11_byteOf_0 rfl (lv_at hl 1 rfl) ?_
  refine lv_aload_n hx hb dX11_byteOf_1 rfl (lv_at hl 0 rfl) ?_
  refine va_get (D := g.1) (ci := 11) (v := .ref (a_m 1)) (C := RX11) (T := TX11) (N := 46) hx hb hi_X11 (fun _ h => h) hown hK.1 hP 0 rfl rfl 0 (by decide) hf_7 (fun _ h9 => h9) rfl dX11_byteOf_2 ?_
  refine lv_sipush (v := 16507) hx hb dX11_byteOf_5 (by decide) ?_
  have n_8 : vp_in (16507 : Int32) 19800 := (t_in (by decide))
  refine va_iald hx hb hK.1 hP 1 0 rfl rfl n_8 dX11_byteOf_8 ?_
  refine q_nm (fun x1 e_x1 => ?_)
  have e_x1 : x1 = (I_m 1) 16507 := e_x1
  have g_x1 : x1.toInt = ((I_m 1) 16507).toInt := congrArg _ e_x1
  have f_x1 := MI.wb hM e_x1
  refine q_icmp_ge (tgt := 25) hx hb dX11_byteOf_9 (by decide) rfl rfl (fun k_9 => ?_) (fun k_9 => ?_)
  · refine lv_bipush (v := 32) hx hb dX11_byteOf_25 (by decide) ?_
    have lr : (32 : Int32).toInt = 32 := by decide
    exact hret 27 ls (32 : Int32) dX11_byteOf_27 (by exact Or.inr ⟨by omega, by omega⟩)
  · refine lv_aload_n hx hb dX11_byteOf_12 rfl (lv_at hl 0 rfl) ?_
    refine va_get (D := g.1) (ci := 11) (v := .ref (a_m 1)) (C := RX11) (T := TX11) (N := 46) hx hb hi_X11 (fun _ h => h) hown hK.1 hP 0 rfl rfl 0 (by decide) hf_7 (fun _ h9 => h9) rfl dX11_byteOf_13 ?_
    refine lv_sipush (v := 16800) hx hb dX11_byteOf_16 (by decide) ?_
    refine lv_iload_n hx hb dX11_byteOf_19 rfl (lv_at hl 1 rfl) ?_
    refine r_iadd hx hb dX11_byteOf_20 (by decide : (16800 : Int32).toInt = 16800) rfl (fun x2 e_x2 t_x2 => ?_)
    try have t_x2 := t_x2 (by omega)
    have n_21 : vp_in x2 19800 := (t_in (by omega))
    refine va_iald hx hb hK.1 hP 1 0 rfl rfl n_21 dX11_byteOf_21 ?_
    refine q_nm (fun x3 e_x3 => ?_)
    have e_x3 : x3 = (I_m 1) x2.toNatClampNeg := e_x3
    have g_x3 : x3.toInt = ((I_m 1) x2.toNatClampNeg).toInt := congrArg _ e_x3
    refine lv_goto (tgt := 27) hx hb dX11_byteOf_22 (by decide) ?_
    exact hret 27 ls x3 dX11_byteOf_27 (by first | exact Or.inr ⟨by omega, by omega⟩ | exact Or.inl ⟨by omega, at_ix e_x3 (by omega)⟩)

set_option maxHeartbeats 4000000 in
set_option maxRecDepth 100000 in
theorem kX11_stands (l : Launch) (g : gG) (a_m : Nat → Nat) (I_m : Nat → Nat → Int32) (J_m : Nat → Nat → Int64) (rule : Int32) (ia : Int32) (first : Int32) (last : Int32) (hM : MI I_m) (h_rule : 0 ≤ rule.toInt ∧ rule.toInt < 24) (h_p : 0 ≤ ia.toInt ∧ ia.toInt ≤ 300) (h_e : last.toInt ≤ 300) : PurI l g yX11_stands wsX11_stands 2 [.ref (a_m 0), .int rule, .int ia, .int first, .int last] (wX11 g a_m I_m J_m) (fun r => bP ((ia.toInt + (I_m 1 (12 * rule.toInt.toNat + 12)).toInt ≤ last.toInt) ∧ (uPm I_m ia.toInt last.toInt → rule.toInt < (I_m 1 0).toInt → uSt (uTM I_m) (uBM I_m) rule.toInt.toNat ia.toInt first.toInt last.toInt)) (uPm I_m ia.toInt last.toInt → rule.toInt < (I_m 1 0).toInt → ¬ uSt (uTM I_m) (uBM I_m) rule.toInt.toNat ia.toInt first.toInt last.toInt) r) := by
  refine PurI.sz (cc := cX11_stands) (maxL := 7) (by decide) rfl (Nat.le_of_ble_eq_true rfl) (fun p e s m args below meth c Q ls fx hK hP hl hret => ?_)
  have hx := fx.1
  have hb := fx.2.1
  have hml := fx.2.2.1
  have hown := fx.2.2.2.1
  have hts := fx.2.2.2.2
  have hl : lv_has ls 7 [(0, .ref (a_m 0)), (1, .int rule), (2, .int ia), (3, .int first), (4, .int last)] := hl
  have hP : va_P g.1 vwCl (wX11 g a_m I_m J_m) s.heap := hP
  have hf_7 := hts _ (uT _ _ u_170)
  have hi_X11 : ∀ w ∈ wsX110, w.before args s = true := fun w h => hts w (uT _ w (u_wsX110 w h))
  have lm1 : (-1 : Int32).toInt = -1 := by decide
  have lm0 : (0 : Int32).toInt = 0 := by decide
  have lm2 : (1 : Int32).toInt = 1 := by decide
  have lq11 : (11 : Int32).toInt = 11 := by decide
  refine lv_iconst (v := 0) hx hb dX11_stands_0 (by decide) ?_
  refine lv_iload_n hx hb dX11_stands_1 rfl (lv_at hl 1 rfl) ?_
  refine PurI.cs (C := RX11) (As := [.int (0 : Int32), .int rule]) (kX11_ruleAt l g (0 : Int32) rule (by omega) (by omega)) fx (gUS (uT _) u_554 u_555 u_5 u_556) rfl hdX11_ruleAt ⟨Nat.le_of_ble_eq_true rfl, Nat.le_of_ble_eq_true rfl⟩ hK hP [] rfl rfl rfl hl.1 (Nat.le_of_ble_eq_true rfl) dX11_stands_2 (fun r1 p_r1 => ?_)
  refine lv_istore (lv' := [(5, .int r1), (0, .ref (a_m 0)), (1, .int rule), (2, .int ia), (3, .int first), (4, .int last)]) hx hb dX11_stands_5 hl (by decide) rfl (fun ls hl => ?_)
  refine lv_iload_n hx hb dX11_stands_7 rfl (lv_at hl 3 rfl) ?_
  refine lv_aload_n hx hb dX11_stands_8 rfl (lv_at hl 1 rfl) ?_
  refine va_get (D := g.1) (ci := 11) (v := .ref (a_m 1)) (C := RX11) (T := TX11) (N := 46) hx hb hi_X11 (fun _ h => h) hown hK.1 hP 0 rfl rfl 0 (by decide) hf_7 (fun _ h9 => h9) rfl dX11_stands_9 ?_
  refine lv_iload hx hb dX11_stands_12 (lv_at hl 0 rfl) ?_
  have n_14 : vp_in r1 19800 := (t_in (by omega))
  refine va_iald hx hb hK.1 hP 1 0 rfl rfl n_14 dX11_stands_14 ?_
  refine q_nm (fun x2 e_x2 => ?_)
  have e_x2 : x2 = (I_m 1) r1.toNatClampNeg := e_x2
  have g_x2 : x2.toInt = ((I_m 1) r1.toNatClampNeg).toInt := congrArg _ e_x2
  have f_x2 := TS.lc hM.t0 (r := rule.toInt) e_x2 (by omega) (by omega)
  have m_x2 : x2.toInt = (I_m 1 (12 * rule.toInt.toNat + 12)).toInt := congrArg Int32.toInt (at_ix e_x2 (by omega))
  refine r_iadd hx hb dX11_stands_15 rfl rfl (fun x3 e_x3 t_x3 => ?_)
  try have t_x3 := t_x3 (by omega)
  refine lv_iload hx hb dX11_stands_16 (lv_at hl 5 rfl) ?_
  refine q_icmp_le (tgt := 23) hx hb dX11_stands_18 (by decide) rfl rfl (fun k_18 => ?_) (fun k_18 => ?_)
  · refine lv_iconst (v := 0) hx hb dX11_stands_23 (by decide) ?_
    refine lv_istore (lv' := [(6, .int (0 : Int32)), (5, .int r1), (0, .ref (a_m 0)), (1, .int rule), (2, .int ia), (3, .int first), (4, .int last)]) hx hb dX11_stands_24 hl (by decide) rfl (fun ls hl => ?_)
    have L26 : ∀ (nn : Nat) (v6_26 : Int32), (hv_26 : 0 ≤ v6_26.toInt ∧ v6_26.toInt ≤ 6) → (hq_26 : uPm I_m ia.toInt last.toInt → rule.toInt < (I_m 1 0).toInt → ∀ k : Nat, (k : Int) < v6_26.toInt → uLo ((uBM I_m) (ia.toInt.toNat + k)) = (I_m 1 (12 * rule.toInt.toNat + 13 + k)).toInt ∧ (0 < k → ¬ uGr ((uBM I_m) (ia.toInt.toNat + k)))) → ((7 - v6_26.toInt) < (nn : Int)) → ∀ ls : Array Slot, lv_has ls 7 [(6, .int v6_26), (5, .int r1), (0, .ref (a_m 0)), (1, .int rule), (2, .int ia), (3, .int first), (4, .int last)] → W p l e (rm 2) s m args below meth c s.heap [] 0 0 Q (F0 m 26 ls []) := by
      intro n_26
      induction n_26 with
      | zero =>
        intro v6_26 hv_26 hq_26 hms_26 ls hl
        exfalso; omega
      | succ n_26 ih_26 =>
        intro v6_26 hv_26 hq_26 hms_26 ls hl
        refine lv_iload hx hb dX11_stands_26 (lv_at hl 0 rfl) ?_
        refine lv_aload_n hx hb dX11_stands_28 rfl (lv_at hl 2 rfl) ?_
        refine va_get (D := g.1) (ci := 11) (v := .ref (a_m 1)) (C := RX11) (T := TX11) (N := 46) hx hb hi_X11 (fun _ h => h) hown hK.1 hP 0 rfl rfl 0 (by decide) hf_7 (fun _ h9 => h9) rfl dX11_stands_29 ?_
        refine lv_iload hx hb dX11_stands_32 (lv_at hl 1 rfl) ?_
        have n_34 : vp_in r1 19800 := (t_in (by omega))
        refine va_iald hx hb hK.1 hP 1 0 rfl rfl n_34 dX11_stands_34 ?_
        refine q_nm (fun x4 e_x4 => ?_)
        have e_x4 : x4 = (I_m 1) r1.toNatClampNeg := e_x4
        have g_x4 : x4.toInt = ((I_m 1) r1.toNatClampNeg).toInt := congrArg _ e_x4
        have f_x4 := TS.lc hM.t0 (r := rule.toInt) e_x4 (by omega) (by omega)
        refine q_icmp_ge (tgt := 91) hx hb dX11_stands_35 (by decide) rfl rfl (fun k_35 => ?_) (fun k_35 => ?_)
        · refine lv_aload_n hx hb dX11_stands_91 rfl (lv_at hl 2 rfl) ?_
          refine va_get (D := g.1) (ci := 11) (v := .ref (a_m 1)) (C := RX11) (T := TX11) (N := 46) hx hb hi_X11 (fun _ h => h) hown hK.1 hP 0 rfl rfl 0 (by decide) hf_7 (fun _ h9 => h9) rfl dX11_stands_92 ?_
          refine lv_iload hx hb dX11_stands_95 (lv_at hl 1 rfl) ?_
          refine lv_bipush (v := 11) hx hb dX11_stands_97 (by decide) ?_
          refine r_iadd hx hb dX11_stands_99 rfl (by decide : (11 : Int32).toInt = 11) (fun x5 e_x5 t_x5 => ?_)
          try have t_x5 := t_x5 (by omega)
          have n_100 : vp_in x5 19800 := (t_in (by omega))
          refine va_iald hx hb hK.1 hP 1 0 rfl rfl n_100 dX11_stands_100 ?_
          refine q_nm (fun x6 e_x6 => ?_)
          have e_x6 : x6 = (I_m 1) x5.toNatClampNeg := e_x6
          have g_x6 : x6.toInt = ((I_m 1) x5.toNatClampNeg).toInt := congrArg _ e_x6
          refine lv_iload_n hx hb dX11_stands_101 rfl (lv_at hl 4 rfl) ?_
          refine lv_iload_n hx hb dX11_stands_102 rfl (lv_at hl 5 rfl) ?_
          refine q_icmp_ne (tgt := 110) hx hb dX11_stands_103 (by decide) rfl rfl (fun k_103 => ?_) (fun k_103 => ?_)
          · refine lv_iconst (v := 0) hx hb dX11_stands_110 (by decide) ?_
            refine lv_iload_n hx hb dX11_stands_111 rfl (lv_at hl 4 rfl) ?_
            refine lv_aload_n hx hb dX11_stands_112 rfl (lv_at hl 2 rfl) ?_
            refine va_get (D := g.1) (ci := 11) (v := .ref (a_m 1)) (C := RX11) (T := TX11) (N := 46) hx hb hi_X11 (fun _ h => h) hown hK.1 hP 0 rfl rfl 0 (by decide) hf_7 (fun _ h9 => h9) rfl dX11_stands_113 ?_
            refine lv_iload hx hb dX11_stands_116 (lv_at hl 1 rfl) ?_
            have n_118 : vp_in r1 19800 := (t_in (by omega))
            refine va_iald hx hb hK.1 hP 1 0 rfl rfl n_118 dX11_stands_118 ?_
            refine q_nm (fun x7 e_x7 => ?_)
            have e_x7 : x7 = (I_m 1) r1.toNatClampNeg := e_x7
            have g_x7 : x7.toInt = ((I_m 1) r1.toNatClampNeg).toInt := congrArg _ e_x7
            refine r_iadd hx hb dX11_stands_119 rfl rfl (fun x8 e_x8 t_x8 => ?_)
            try have t_x8 := t_x8 (by omega)
            refine lv_iload hx hb dX11_stands_120 (lv_at hl 6 rfl) ?_
            refine q_icmp_ne (tgt := 129) hx hb dX11_stands_122 (by decide) rfl rfl (fun k_122 => ?_) (fun k_122 => ?_)
            · refine lv_iconst (v := 0) hx hb dX11_stands_129 (by decide) ?_
              refine PurI.cs (C := RX11) (As := [.int x6, .int (0 : Int32), .int (0 : Int32)]) (kX11_holds l g x6 (0 : Int32) (0 : Int32)) fx (gUS (uT _) u_750 u_751 u_5 u_752) rfl hdX11_holds ⟨Nat.le_of_ble_eq_true rfl, Nat.le_of_ble_eq_true rfl⟩ hK hP [] rfl rfl rfl hl.1 (Nat.le_of_ble_eq_true rfl) dX11_stands_130 (fun r9 p_r9 => ?_)
              exact hret 133 ls r9 dX11_stands_133 (bP.z p_r9) (by have m100 : (I_m 1 (12 * rule.toInt.toNat + 23)).toInt = (x6).toInt := congrArg Int32.toInt (at_ix (k := 12 * rule.toInt.toNat + 23) e_x6 (by omega)).symm; have l34 : (I_m 1 (12 * rule.toInt.toNat + 12)).toInt = (x4).toInt := congrArg Int32.toInt (at_ix (k := 12 * rule.toInt.toNat + 12) e_x4 (by omega)).symm; exact bP.imp p_r9 (fun q => ⟨by omega, fun hp hr => ⟨by rw [uTM.lc (by omega)]; omega, fun k hk => by rw [uTM.lc (by omega)] at hk; rw [uTM.lt (by omega) hk]; exact hq_26 hp hr k (by omega), by rw [uTM.cd (by omega), uTM.lc (by omega), m100]; exact coP.hoQ.2 (hoQ.of q (by omega) (by omega))⟩⟩) (fun q hp hr w => q (by have w3 := w.2.2; rw [uTM.cd (by omega), uTM.lc (by omega), m100] at w3; exact (coP.hoQ.1 w3).to (by omega) (by omega))))
            · refine lv_iconst (v := 1) hx hb dX11_stands_125 (by decide) ?_
              refine lv_goto (tgt := 130) hx hb dX11_stands_126 (by decide) ?_
              refine PurI.cs (C := RX11) (As := [.int x6, .int (0 : Int32), .int (1 : Int32)]) (kX11_holds l g x6 (0 : Int32) (1 : Int32)) fx (gUS (uT _) u_750 u_751 u_5 u_752) rfl hdX11_holds ⟨Nat.le_of_ble_eq_true rfl, Nat.le_of_ble_eq_true rfl⟩ hK hP [] rfl rfl rfl hl.1 (Nat.le_of_ble_eq_true rfl) dX11_stands_130 (fun r10 p_r10 => ?_)
              exact hret 133 ls r10 dX11_stands_133 (bP.z p_r10) (by have m100 : (I_m 1 (12 * rule.toInt.toNat + 23)).toInt = (x6).toInt := congrArg Int32.toInt (at_ix (k := 12 * rule.toInt.toNat + 23) e_x6 (by omega)).symm; have l34 : (I_m 1 (12 * rule.toInt.toNat + 12)).toInt = (x4).toInt := congrArg Int32.toInt (at_ix (k := 12 * rule.toInt.toNat + 12) e_x4 (by omega)).symm; exact bP.imp p_r10 (fun q => ⟨by omega, fun hp hr => ⟨by rw [uTM.lc (by omega)]; omega, fun k hk => by rw [uTM.lc (by omega)] at hk; rw [uTM.lt (by omega) hk]; exact hq_26 hp hr k (by omega), by rw [uTM.cd (by omega), uTM.lc (by omega), m100]; exact coP.hoQ.2 (hoQ.of q (by omega) (by omega))⟩⟩) (fun q hp hr w => q (by have w3 := w.2.2; rw [uTM.cd (by omega), uTM.lc (by omega), m100] at w3; exact (coP.hoQ.1 w3).to (by omega) (by omega))))
          · refine lv_iconst (v := 1) hx hb dX11_stands_106 (by decide) ?_
            refine lv_goto (tgt := 111) hx hb dX11_stands_107 (by decide) ?_
            refine lv_iload_n hx hb dX11_stands_111 rfl (lv_at hl 4 rfl) ?_
            refine lv_aload_n hx hb dX11_stands_112 rfl (lv_at hl 2 rfl) ?_
            refine va_get (D := g.1) (ci := 11) (v := .ref (a_m 1)) (C := RX11) (T := TX11) (N := 46) hx hb hi_X11 (fun _ h => h) hown hK.1 hP 0 rfl rfl 0 (by decide) hf_7 (fun _ h9 => h9) rfl dX11_stands_113 ?_
            refine lv_iload hx hb dX11_stands_116 (lv_at hl 1 rfl) ?_
            have n_118 : vp_in r1 19800 := (t_in (by omega))
            refine va_iald hx hb hK.1 hP 1 0 rfl rfl n_118 dX11_stands_118 ?_
            refine q_nm (fun x11 e_x11 => ?_)
            have e_x11 : x11 = (I_m 1) r1.toNatClampNeg := e_x11
            have g_x11 : x11.toInt = ((I_m 1) r1.toNatClampNeg).toInt := congrArg _ e_x11
            refine r_iadd hx hb dX11_stands_119 rfl rfl (fun x12 e_x12 t_x12 => ?_)
            try have t_x12 := t_x12 (by omega)
            refine lv_iload hx hb dX11_stands_120 (lv_at hl 6 rfl) ?_
            refine q_icmp_ne (tgt := 129) hx hb dX11_stands_122 (by decide) rfl rfl (fun k_122 => ?_) (fun k_122 => ?_)
            · refine lv_iconst (v := 0) hx hb dX11_stands_129 (by decide) ?_
              refine PurI.cs (C := RX11) (As := [.int x6, .int (1 : Int32), .int (0 : Int32)]) (kX11_holds l g x6 (1 : Int32) (0 : Int32)) fx (gUS (uT _) u_750 u_751 u_5 u_752) rfl hdX11_holds ⟨Nat.le_of_ble_eq_true rfl, Nat.le_of_ble_eq_true rfl⟩ hK hP [] rfl rfl rfl hl.1 (Nat.le_of_ble_eq_true rfl) dX11_stands_130 (fun r13 p_r13 => ?_)
              exact hret 133 ls r13 dX11_stands_133 (bP.z p_r13) (by have m100 : (I_m 1 (12 * rule.toInt.toNat + 23)).toInt = (x6).toInt := congrArg Int32.toInt (at_ix (k := 12 * rule.toInt.toNat + 23) e_x6 (by omega)).symm; have l34 : (I_m 1 (12 * rule.toInt.toNat + 12)).toInt = (x4).toInt := congrArg Int32.toInt (at_ix (k := 12 * rule.toInt.toNat + 12) e_x4 (by omega)).symm; exact bP.imp p_r13 (fun q => ⟨by omega, fun hp hr => ⟨by rw [uTM.lc (by omega)]; omega, fun k hk => by rw [uTM.lc (by omega)] at hk; rw [uTM.lt (by omega) hk]; exact hq_26 hp hr k (by omega), by rw [uTM.cd (by omega), uTM.lc (by omega), m100]; exact coP.hoQ.2 (hoQ.of q (by omega) (by omega))⟩⟩) (fun q hp hr w => q (by have w3 := w.2.2; rw [uTM.cd (by omega), uTM.lc (by omega), m100] at w3; exact (coP.hoQ.1 w3).to (by omega) (by omega))))
            · refine lv_iconst (v := 1) hx hb dX11_stands_125 (by decide) ?_
              refine lv_goto (tgt := 130) hx hb dX11_stands_126 (by decide) ?_
              refine PurI.cs (C := RX11) (As := [.int x6, .int (1 : Int32), .int (1 : Int32)]) (kX11_holds l g x6 (1 : Int32) (1 : Int32)) fx (gUS (uT _) u_750 u_751 u_5 u_752) rfl hdX11_holds ⟨Nat.le_of_ble_eq_true rfl, Nat.le_of_ble_eq_true rfl⟩ hK hP [] rfl rfl rfl hl.1 (Nat.le_of_ble_eq_true rfl) dX11_stands_130 (fun r14 p_r14 => ?_)
              exact hret 133 ls r14 dX11_stands_133 (bP.z p_r14) (by have m100 : (I_m 1 (12 * rule.toInt.toNat + 23)).toInt = (x6).toInt := congrArg Int32.toInt (at_ix (k := 12 * rule.toInt.toNat + 23) e_x6 (by omega)).symm; have l34 : (I_m 1 (12 * rule.toInt.toNat + 12)).toInt = (x4).toInt := congrArg Int32.toInt (at_ix (k := 12 * rule.toInt.toNat + 12) e_x4 (by omega)).symm; exact bP.imp p_r14 (fun q => ⟨by omega, fun hp hr => ⟨by rw [uTM.lc (by omega)]; omega, fun k hk => by rw [uTM.lc (by omega)] at hk; rw [uTM.lt (by omega) hk]; exact hq_26 hp hr k (by omega), by rw [uTM.cd (by omega), uTM.lc (by omega), m100]; exact coP.hoQ.2 (hoQ.of q (by omega) (by omega))⟩⟩) (fun q hp hr w => q (by have w3 := w.2.2; rw [uTM.cd (by omega), uTM.lc (by omega), m100] at w3; exact (coP.hoQ.1 w3).to (by omega) (by omega))))
        · refine lv_aload_n hx hb dX11_stands_38 rfl (lv_at hl 2 rfl) ?_
          refine lv_iload_n hx hb dX11_stands_39 rfl (lv_at hl 4 rfl) ?_
          refine lv_iload hx hb dX11_stands_40 (lv_at hl 0 rfl) ?_
          refine r_iadd hx hb dX11_stands_42 rfl rfl (fun x15 e_x15 t_x15 => ?_)
          try have t_x15 := t_x15 (by omega)
          refine PurI.cv (As := [.int x15]) (kX11_byteOf l g a_m I_m J_m x15 hM (by omega)) fx (gUV (uT _) u_704 u_705 u_706 u_5 u_707) rfl hdX11_byteOf ⟨Nat.le_of_ble_eq_true rfl, Nat.le_of_ble_eq_true rfl⟩ hK hP [0, 1, 2, 3, 4, 5, 6, 7, 8, 9, 10, 11, 12, 13, 14, 15, 16, 17, 18, 19, 20, 21, 22] rfl rfl rfl rfl rfl hl.1 (Nat.le_of_ble_eq_true rfl) dX11_stands_43 (fun r16 p_r16 => ?_)
          refine PurI.cs (C := RX11) (As := [.int r16]) (kX11_letterOf l g r16) fx (gUS (uT _) u_747 u_748 u_5 u_749) rfl hdX11_letterOf ⟨Nat.le_of_ble_eq_true rfl, Nat.le_of_ble_eq_true rfl⟩ hK hP [] rfl rfl rfl hl.1 (Nat.le_of_ble_eq_true rfl) dX11_stands_46 (fun r17 p_r17 => ?_)
          refine lv_aload_n hx hb dX11_stands_49 rfl (lv_at hl 2 rfl) ?_
          refine va_get (D := g.1) (ci := 11) (v := .ref (a_m 1)) (C := RX11) (T := TX11) (N := 46) hx hb hi_X11 (fun _ h => h) hown hK.1 hP 0 rfl rfl 0 (by decide) hf_7 (fun _ h9 => h9) rfl dX11_stands_50 ?_
          refine lv_iload hx hb dX11_stands_53 (lv_at hl 1 rfl) ?_
          refine lv_iconst (v := 1) hx hb dX11_stands_55 (by decide) ?_
          refine r_iadd hx hb dX11_stands_56 rfl (by decide : (1 : Int32).toInt = 1) (fun x18 e_x18 t_x18 => ?_)
          try have t_x18 := t_x18 (by omega)
          refine lv_iload hx hb dX11_stands_57 (lv_at hl 0 rfl) ?_
          refine r_iadd hx hb dX11_stands_59 rfl rfl (fun x19 e_x19 t_x19 => ?_)
          try have t_x19 := t_x19 (by omega)
          have n_60 : vp_in x19 19800 := (t_in (by omega))
          refine va_iald hx hb hK.1 hP 1 0 rfl rfl n_60 dX11_stands_60 ?_
          refine q_nm (fun x20 e_x20 => ?_)
          have e_x20 : x20 = (I_m 1) x19.toNatClampNeg := e_x20
          have g_x20 : x20.toInt = ((I_m 1) x19.toNatClampNeg).toInt := congrArg _ e_x20
          refine q_icmp_ne (tgt := 83) hx hb dX11_stands_61 (by decide) rfl rfl (fun k_61 => ?_) (fun k_61 => ?_)
          · refine lv_iconst (v := 0) hx hb dX11_stands_83 (by decide) ?_
            exact hret 84 ls (0 : Int32) dX11_stands_84 (Or.inl rfl) (by exact Or.inr ⟨rfl, fun hp hr q => by have l34 : (I_m 1 (12 * rule.toInt.toNat + 12)).toInt = (x4).toInt := congrArg Int32.toInt (at_ix (k := 12 * rule.toInt.toNat + 12) e_x4 (by omega)).symm; have u43 : (r16).toInt = (uBM I_m) (ia.toInt.toNat + v6_26.toInt.toNat) := (by have w := u_by (k := x15) (n := last.toInt) p_r16 (by omega) (by omega) hp.1; rw [w, show (x15).toInt.toNat = ia.toInt.toNat + v6_26.toInt.toNat by omega]); have v43 : (r17).toInt = uLo ((uBM I_m) (ia.toInt.toNat + v6_26.toInt.toNat)) := (by rw [← u43]; exact p_r17 (by rw [u43]; exact hp.2 _ (by omega) (by omega))); have w := (q.2.1 v6_26.toInt.toNat (by rw [uTM.lc (by omega)]; omega)).1; rw [uTM.lt (by omega) (by omega), (show (I_m 1 (12 * rule.toInt.toNat + 13 + v6_26.toInt.toNat)) = x20 from (at_ix (k := 12 * rule.toInt.toNat + 13 + v6_26.toInt.toNat) e_x20 (by omega)).symm), ← v43] at w; exact k_61 w⟩)
          · refine lv_iload hx hb dX11_stands_64 (lv_at hl 0 rfl) ?_
            refine q_if_le (tgt := 85) hx hb dX11_stands_66 (by decide) rfl (fun k_66 => ?_) (fun k_66 => ?_)
            · refine r_iinc (lv' := fun i21 => [(6, .int i21), (5, .int r1), (0, .ref (a_m 0)), (1, .int rule), (2, .int ia), (3, .int first), (4, .int last)]) hx hb dX11_stands_85 hl (k := 0) rfl (by decide) rfl (by decide) (fun _ => rfl) (fun i21 e_i21 t_i21 ls hl => ?_)
              try have t_i21 := t_i21 (by omega)
              refine lv_goto (tgt := 26) hx hb dX11_stands_88 (by decide) ?_
              exact ih_26 i21 (by omega) (fun hp hr => tq_ext (P := fun k => uLo ((uBM I_m) (ia.toInt.toNat + k)) = (I_m 1 (12 * rule.toInt.toNat + 13 + k)).toInt ∧ (0 < k → ¬ uGr ((uBM I_m) (ia.toInt.toNat + k)))) (hq_26 hp hr) (by omega) (by omega) (by have l34 : (I_m 1 (12 * rule.toInt.toNat + 12)).toInt = (x4).toInt := congrArg Int32.toInt (at_ix (k := 12 * rule.toInt.toNat + 12) e_x4 (by omega)).symm; have u43 : (r16).toInt = (uBM I_m) (ia.toInt.toNat + v6_26.toInt.toNat) := (by have w := u_by (k := x15) (n := last.toInt) p_r16 (by omega) (by omega) hp.1; rw [w, show (x15).toInt.toNat = ia.toInt.toNat + v6_26.toInt.toNat by omega]); have v43 : (r17).toInt = uLo ((uBM I_m) (ia.toInt.toNat + v6_26.toInt.toNat)) := (by rw [← u43]; exact p_r17 (by rw [u43]; exact hp.2 _ (by omega) (by omega))); refine ⟨by rw [(show (I_m 1 (12 * rule.toInt.toNat + 13 + v6_26.toInt.toNat)) = x20 from (at_ix (k := 12 * rule.toInt.toNat + 13 + v6_26.toInt.toNat) e_x20 (by omega)).symm), ← v43]; omega, fun w0 w => ?_⟩; (exfalso; omega))) (by omega) ls hl
            · refine lv_aload_n hx hb dX11_stands_69 rfl (lv_at hl 2 rfl) ?_
              refine lv_iload_n hx hb dX11_stands_70 rfl (lv_at hl 4 rfl) ?_
              refine lv_iload hx hb dX11_stands_71 (lv_at hl 0 rfl) ?_
              refine r_iadd hx hb dX11_stands_73 rfl rfl (fun x22 e_x22 t_x22 => ?_)
              try have t_x22 := t_x22 (by omega)
              refine PurI.cv (As := [.int x22]) (kX11_byteOf l g a_m I_m J_m x22 hM (by omega)) fx (gUV (uT _) u_704 u_705 u_706 u_5 u_707) rfl hdX11_byteOf ⟨Nat.le_of_ble_eq_true rfl, Nat.le_of_ble_eq_true rfl⟩ hK hP [0, 1, 2, 3, 4, 5, 6, 7, 8, 9, 10, 11, 12, 13, 14, 15, 16, 17, 18, 19, 20, 21, 22] rfl rfl rfl rfl rfl hl.1 (Nat.le_of_ble_eq_true rfl) dX11_stands_74 (fun r23 p_r23 => ?_)
              refine PurI.cs (C := RX11) (As := [.int r23]) (kX11_isGreat l g r23) fx (gUS (uT _) u_714 u_715 u_5 u_716) rfl hdX11_isGreat ⟨Nat.le_of_ble_eq_true rfl, Nat.le_of_ble_eq_true rfl⟩ hK hP [] rfl rfl rfl hl.1 (Nat.le_of_ble_eq_true rfl) dX11_stands_77 (fun r24 p_r24 => ?_)
              refine q_if_eq (tgt := 85) hx hb dX11_stands_80 (by decide) rfl (fun b_80 k_80 => ?_) (fun b_80 k_80 => ?_)
              · have q_80 := bP.f p_r24 b_80
                refine r_iinc (lv' := fun i25 => [(6, .int i25), (5, .int r1), (0, .ref (a_m 0)), (1, .int rule), (2, .int ia), (3, .int first), (4, .int last)]) hx hb dX11_stands_85 hl (k := 0) rfl (by decide) rfl (by decide) (fun _ => rfl) (fun i25 e_i25 t_i25 ls hl => ?_)
                try have t_i25 := t_i25 (by omega)
                refine lv_goto (tgt := 26) hx hb dX11_stands_88 (by decide) ?_
                exact ih_26 i25 (by omega) (fun hp hr => tq_ext (P := fun k => uLo ((uBM I_m) (ia.toInt.toNat + k)) = (I_m 1 (12 * rule.toInt.toNat + 13 + k)).toInt ∧ (0 < k → ¬ uGr ((uBM I_m) (ia.toInt.toNat + k)))) (hq_26 hp hr) (by omega) (by omega) (by have l34 : (I_m 1 (12 * rule.toInt.toNat + 12)).toInt = (x4).toInt := congrArg Int32.toInt (at_ix (k := 12 * rule.toInt.toNat + 12) e_x4 (by omega)).symm; have u43 : (r16).toInt = (uBM I_m) (ia.toInt.toNat + v6_26.toInt.toNat) := (by have w := u_by (k := x15) (n := last.toInt) p_r16 (by omega) (by omega) hp.1; rw [w, show (x15).toInt.toNat = ia.toInt.toNat + v6_26.toInt.toNat by omega]); have v43 : (r17).toInt = uLo ((uBM I_m) (ia.toInt.toNat + v6_26.toInt.toNat)) := (by rw [← u43]; exact p_r17 (by rw [u43]; exact hp.2 _ (by omega) (by omega))); refine ⟨by rw [(show (I_m 1 (12 * rule.toInt.toNat + 13 + v6_26.toInt.toNat)) = x20 from (at_ix (k := 12 * rule.toInt.toNat + 13 + v6_26.toInt.toNat) e_x20 (by omega)).symm), ← v43]; omega, fun w0 w => ?_⟩; first | (exfalso; omega) | (have u74 : (r23).toInt = (uBM I_m) (ia.toInt.toNat + v6_26.toInt.toNat) := (by have w := u_by (k := x22) (n := last.toInt) p_r23 (by omega) (by omega) hp.1; rw [w, show (x22).toInt.toNat = ia.toInt.toNat + v6_26.toInt.toNat by omega]); exact q_80 (by rw [u74]; exact w)))) (by omega) ls hl
              · have q_80 := bP.t p_r24 b_80
                refine lv_iconst (v := 0) hx hb dX11_stands_83 (by decide) ?_
                exact hret 84 ls (0 : Int32) dX11_stands_84 (Or.inl rfl) (by first | exact Or.inr ⟨rfl, fun hp hr q => by have l34 : (I_m 1 (12 * rule.toInt.toNat + 12)).toInt = (x4).toInt := congrArg Int32.toInt (at_ix (k := 12 * rule.toInt.toNat + 12) e_x4 (by omega)).symm; have u43 : (r16).toInt = (uBM I_m) (ia.toInt.toNat + v6_26.toInt.toNat) := (by have w := u_by (k := x15) (n := last.toInt) p_r16 (by omega) (by omega) hp.1; rw [w, show (x15).toInt.toNat = ia.toInt.toNat + v6_26.toInt.toNat by omega]); have v43 : (r17).toInt = uLo ((uBM I_m) (ia.toInt.toNat + v6_26.toInt.toNat)) := (by rw [← u43]; exact p_r17 (by rw [u43]; exact hp.2 _ (by omega) (by omega))); have w := (q.2.1 v6_26.toInt.toNat (by rw [uTM.lc (by omega)]; omega)).1; rw [uTM.lt (by omega) (by omega), (show (I_m 1 (12 * rule.toInt.toNat + 13 + v6_26.toInt.toNat)) = x20 from (at_ix (k := 12 * rule.toInt.toNat + 13 + v6_26.toInt.toNat) e_x20 (by omega)).symm), ← v43] at w; exact k_61 w⟩ | exact Or.inr ⟨rfl, fun hp hr q => by have l34 : (I_m 1 (12 * rule.toInt.toNat + 12)).toInt = (x4).toInt := congrArg Int32.toInt (at_ix (k := 12 * rule.toInt.toNat + 12) e_x4 (by omega)).symm; have u74 : (r23).toInt = (uBM I_m) (ia.toInt.toNat + v6_26.toInt.toNat) := (by have w := u_by (k := x22) (n := last.toInt) p_r23 (by omega) (by omega) hp.1; rw [w, show (x22).toInt.toNat = ia.toInt.toNat + v6_26.toInt.toNat by omega]); exact (q.2.1 v6_26.toInt.toNat (by rw [uTM.lc (by omega)]; omega)).2 (by omega) (by rw [← u74]; exact q_80)⟩)
    exact L26 ((7 - (0 : Int32).toInt) + 1).toNat (0 : Int32) (by omega) (fun _ _ k q => by rw [lm0] at q; exfalso; omega) (by omega) ls hl
  · refine lv_iconst (v := 0) hx hb dX11_stands_21 (by decide) ?_
    exact hret 22 ls (0 : Int32) dX11_stands_22 (Or.inl rfl) (Or.inr ⟨rfl, fun hp hr q => by have w := q.1; rw [uTM.lc (by omega)] at w; omega⟩)

set_option maxHeartbeats 4000000 in
set_option maxRecDepth 100000 in
theorem kX11_taking (l : Launch) (g : gG) (a_m : Nat → Nat) (I_m : Nat → Nat → Int32) (J_m : Nat → Nat → Int64) (ia : Int32) (first : Int32) (last : Int32) (gone : Int32) (hM : MI I_m) (h_p : 0 ≤ ia.toInt ∧ ia.toInt ≤ 300) (h_e : last.toInt ≤ 300) : PurI l g yX11_taking wsX11_taking 3 [.ref (a_m 0), .int ia, .int first, .int last, .int gone] (wX11 g a_m I_m J_m) (fun r => (r.toInt = -1 ∨ (0 ≤ r.toInt ∧ r.toInt < (I_m 1 0).toInt ∧ ia.toInt + (I_m 1 (12 * r.toInt.toNat + 12)).toInt ≤ last.toInt)) ∧ (uPm I_m ia.toInt last.toInt → ((r.toInt = -1 ∧ uNo (uTM I_m) gone (uBM I_m) ia.toInt first.toInt last.toInt) ∨ (0 ≤ r.toInt ∧ uLg (uTM I_m) gone (uBM I_m) ia.toInt first.toInt last.toInt r.toInt.toNat)))) := by
  refine PurI.st (cc := cX11_taking) (maxL := 7) (by decide) rfl (Nat.le_of_ble_eq_true rfl) (fun p e s m args below meth c Q ls fx hK hP hl hret => ?_)
  have hx := fx.1
  have hb := fx.2.1
  have hml := fx.2.2.1
  have hown := fx.2.2.2.1
  have hts := fx.2.2.2.2
  have hl : lv_has ls 7 [(0, .ref (a_m 0)), (1, .int ia), (2, .int first), (3, .int last), (4, .int gone)] := hl
  have hP : va_P g.1 vwCl (wX11 g a_m I_m J_m) s.heap := hP
  have hf_7 := hts _ (uT _ _ u_170)
  have hi_X11 : ∀ w ∈ wsX110, w.before args s = true := fun w h => hts w (uT _ w (u_wsX110 w h))
  have lm1 : (-1 : Int32).toInt = -1 := by decide
  have lm0 : (0 : Int32).toInt = 0 := by decide
  have lm2 : (1 : Int32).toInt = 1 := by decide
  have hmn := hM.many rfl
  refine lv_iconst (v := -1) hx hb dX11_taking_0 (by decide) ?_
  refine lv_istore (lv' := [(5, .int (-1 : Int32)), (0, .ref (a_m 0)), (1, .int ia), (2, .int first), (3, .int last), (4, .int gone)]) hx hb dX11_taking_1 hl (by decide) rfl (fun ls hl => ?_)
  refine lv_iconst (v := 0) hx hb dX11_taking_3 (by decide) ?_
  refine lv_istore (lv' := [(6, .int (0 : Int32)), (5, .int (-1 : Int32)), (0, .ref (a_m 0)), (1, .int ia), (2, .int first), (3, .int last), (4, .int gone)]) hx hb dX11_taking_4 hl (by decide) rfl (fun ls hl => ?_)
  have L6 : ∀ (nn : Nat) (v5_6 : Int32) (v6_6 : Int32), (hv_6 : 0 ≤ v6_6.toInt ∧ v6_6.toInt ≤ 24 ∧ v6_6.toInt ≤ (I_m 1 0).toInt) → (hb_6 : v5_6.toInt = -1 ∨ (0 ≤ v5_6.toInt ∧ v5_6.toInt < (I_m 1 0).toInt ∧ ia.toInt + (I_m 1 (12 * v5_6.toInt.toNat + 12)).toInt ≤ last.toInt)) → (hq_6 : uPm I_m ia.toInt last.toInt → ∃ m : Int, uBs (uTM I_m) gone (uBM I_m) ia.toInt first.toInt last.toInt v5_6.toInt m v6_6.toInt.toNat) → ((25 - v6_6.toInt) < (nn : Int)) → ∀ ls : Array Slot, lv_has ls 7 [(6, .int v6_6), (5, .int v5_6), (0, .ref (a_m 0)), (1, .int ia), (2, .int first), (3, .int last), (4, .int gone)] → W p l e (rm 3) s m args below meth c s.heap [] 0 0 Q (F0 m 6 ls []) := by
    intro n_6
    induction n_6 with
    | zero =>
      intro v5_6 v6_6 hv_6 hb_6 hq_6 hms_6 ls hl
      exfalso; omega
    | succ n_6 ih_6 =>
      intro v5_6 v6_6 hv_6 hb_6 hq_6 hms_6 ls hl
      refine lv_iload hx hb dX11_taking_6 (lv_at hl 0 rfl) ?_
      refine lv_aload_n hx hb dX11_taking_8 rfl (lv_at hl 2 rfl) ?_
      refine va_get (D := g.1) (ci := 11) (v := .ref (a_m 1)) (C := RX11) (T := TX11) (N := 46) hx hb hi_X11 (fun _ h => h) hown hK.1 hP 0 rfl rfl 0 (by decide) hf_7 (fun _ h9 => h9) rfl dX11_taking_9 ?_
      refine lv_iconst (v := 0) hx hb dX11_taking_12 (by decide) ?_
      have n_13 : vp_in (0 : Int32) 19800 := (t_in (by decide))
      refine va_iald hx hb hK.1 hP 1 0 rfl rfl n_13 dX11_taking_13 ?_
      refine q_nm (fun x1 e_x1 => ?_)
      have e_x1 : x1 = (I_m 1) 0 := e_x1
      have g_x1 : x1.toInt = ((I_m 1) 0).toInt := congrArg _ e_x1
      have f_x1 := MI.many hM e_x1
      refine q_icmp_ge (tgt := 80) hx hb dX11_taking_14 (by decide) rfl rfl (fun k_14 => ?_) (fun k_14 => ?_)
      · refine lv_iload hx hb dX11_taking_80 (lv_at hl 1 rfl) ?_
        exact hret 82 ls v5_6 dX11_taking_82 ⟨hb_6, fun hp => by obtain ⟨m9, hm9⟩ := hq_6 hp; exact uBs.out hm9 (by rw [uTM.len]; omega)⟩
      · refine lv_iload hx hb dX11_taking_17 (lv_at hl 6 rfl) ?_
        refine lv_iload hx hb dX11_taking_19 (lv_at hl 0 rfl) ?_
        refine PurI.cs (C := RX11) (As := [.int gone, .int v6_6]) (kX11_isOut l g gone v6_6) fx (gUS (uT _) u_740 u_741 u_5 u_742) rfl hdX11_isOut ⟨Nat.le_of_ble_eq_true rfl, Nat.le_of_ble_eq_true rfl⟩ hK hP [] rfl rfl rfl hl.1 (Nat.le_of_ble_eq_true rfl) dX11_taking_21 (fun r2 p_r2 => ?_)
        refine q_if_ne (tgt := 74) hx hb dX11_taking_24 (by decide) rfl (fun b_24 k_24 => ?_) (fun b_24 k_24 => ?_)
        · have q_24 := bP.t p_r2 b_24
          refine r_iinc (lv' := fun i3 => [(6, .int i3), (5, .int v5_6), (0, .ref (a_m 0)), (1, .int ia), (2, .int first), (3, .int last), (4, .int gone)]) hx hb dX11_taking_74 hl (k := 0) rfl (by decide) rfl (by decide) (fun _ => rfl) (fun i3 e_i3 t_i3 ls hl => ?_)
          try have t_i3 := t_i3 (by omega)
          refine lv_goto (tgt := 6) hx hb dX11_taking_77 (by decide) ?_
          exact ih_6 v5_6 i3 (by omega) (by first | exact hb_6 | exact Or.inr ⟨by omega, by omega, q_36.1⟩) (fun hp => by obtain ⟨m9, hm9⟩ := hq_6 hp; have hy9 := uTM.l1 hM (r := v6_6.toInt.toNat) (by omega); first | exact uBs.tk1 hm9 (by omega) ⟨by rw [show nI v6_6.toInt.toNat = v6_6 from (t_nI (x := v6_6) rfl (by omega)).1.symm]; exact outB.iff.2 q_24, q_36.2 hp (by omega)⟩ hy9 (by omega) (by omega) | exact ⟨_, uBs.no hm9 (fun w => by have w1 := w.1; rw [show nI v6_6.toInt.toNat = v6_6 from (t_nI (x := v6_6) rfl (by omega)).1.symm] at w1; exact outB.iff.1 w1 q_24) (by omega)⟩ | exact ⟨_, uBs.no hm9 (fun w => q_36 hp (by omega) w.2) (by omega)⟩) (by omega) ls hl
        · have q_24 := bP.f p_r2 b_24
          refine lv_aload_n hx hb dX11_taking_27 rfl (lv_at hl 2 rfl) ?_
          refine lv_iload hx hb dX11_taking_28 (lv_at hl 0 rfl) ?_
          refine lv_iload_n hx hb dX11_taking_30 rfl (lv_at hl 3 rfl) ?_
          refine lv_iload_n hx hb dX11_taking_31 rfl (lv_at hl 4 rfl) ?_
          refine lv_iload_n hx hb dX11_taking_32 rfl (lv_at hl 5 rfl) ?_
          refine PurI.cv (As := [.int v6_6, .int ia, .int first, .int last]) (kX11_stands l g a_m I_m J_m v6_6 ia first last hM (by omega) (by omega) (by omega)) fx (gUV (uT _) u_743 u_744 u_745 u_5 u_746) rfl hdX11_stands ⟨Nat.le_of_ble_eq_true rfl, Nat.le_of_ble_eq_true rfl⟩ hK hP [0, 1, 2, 3, 4, 5, 6, 7, 8, 9, 10, 11, 12, 13, 14, 15, 16, 17, 18, 19, 20, 21, 22] rfl rfl rfl rfl rfl hl.1 (Nat.le_of_ble_eq_true rfl) dX11_taking_33 (fun r4 p_r4 => ?_)
          have hs33 := p_r4
          refine q_if_eq (tgt := 74) hx hb dX11_taking_36 (by decide) rfl (fun b_36 k_36 => ?_) (fun b_36 k_36 => ?_)
          · have q_36 := bP.f p_r4 b_36
            refine r_iinc (lv' := fun i5 => [(6, .int i5), (5, .int v5_6), (0, .ref (a_m 0)), (1, .int ia), (2, .int first), (3, .int last), (4, .int gone)]) hx hb dX11_taking_74 hl (k := 0) rfl (by decide) rfl (by decide) (fun _ => rfl) (fun i5 e_i5 t_i5 ls hl => ?_)
            try have t_i5 := t_i5 (by omega)
            refine lv_goto (tgt := 6) hx hb dX11_taking_77 (by decide) ?_
            exact ih_6 v5_6 i5 (by omega) (by first | exact hb_6 | exact Or.inr ⟨by omega, by omega, q_36.1⟩) (fun hp => by obtain ⟨m9, hm9⟩ := hq_6 hp; have hy9 := uTM.l1 hM (r := v6_6.toInt.toNat) (by omega); first | exact uBs.tk1 hm9 (by omega) ⟨by rw [show nI v6_6.toInt.toNat = v6_6 from (t_nI (x := v6_6) rfl (by omega)).1.symm]; exact outB.iff.2 q_24, q_36.2 hp (by omega)⟩ hy9 (by omega) (by omega) | exact ⟨_, uBs.no hm9 (fun w => by have w1 := w.1; rw [show nI v6_6.toInt.toNat = v6_6 from (t_nI (x := v6_6) rfl (by omega)).1.symm] at w1; exact outB.iff.1 w1 q_24) (by omega)⟩ | exact ⟨_, uBs.no hm9 (fun w => q_36 hp (by omega) w.2) (by omega)⟩) (by omega) ls hl
          · have q_36 := bP.t p_r4 b_36
            refine lv_iload hx hb dX11_taking_39 (lv_at hl 1 rfl) ?_
            refine lv_iconst (v := -1) hx hb dX11_taking_41 (by decide) ?_
            refine q_icmp_eq (tgt := 70) hx hb dX11_taking_42 (by decide) rfl (by decide : (-1 : Int32).toInt = -1) (fun k_42 => ?_) (fun k_42 => ?_)
            · refine lv_iload hx hb dX11_taking_70 (lv_at hl 0 rfl) ?_
              refine lv_istore (lv' := [(5, .int v6_6), (6, .int v6_6), (0, .ref (a_m 0)), (1, .int ia), (2, .int first), (3, .int last), (4, .int gone)]) hx hb dX11_taking_72 hl (by decide) rfl (fun ls hl => ?_)
              refine r_iinc (lv' := fun i6 => [(6, .int i6), (5, .int v6_6), (0, .ref (a_m 0)), (1, .int ia), (2, .int first), (3, .int last), (4, .int gone)]) hx hb dX11_taking_74 hl (k := 1) rfl (by decide) rfl (by decide) (fun _ => rfl) (fun i6 e_i6 t_i6 ls hl => ?_)
              try have t_i6 := t_i6 (by omega)
              refine lv_goto (tgt := 6) hx hb dX11_taking_77 (by decide) ?_
              exact ih_6 v6_6 i6 (by omega) (by first | exact hb_6 | exact Or.inr ⟨by omega, by omega, q_36.1⟩) (fun hp => by obtain ⟨m9, hm9⟩ := hq_6 hp; have hy9 := uTM.l1 hM (r := v6_6.toInt.toNat) (by omega); first | exact uBs.tk1 hm9 (by omega) ⟨by rw [show nI v6_6.toInt.toNat = v6_6 from (t_nI (x := v6_6) rfl (by omega)).1.symm]; exact outB.iff.2 q_24, q_36.2 hp (by omega)⟩ hy9 (by omega) (by omega) | exact ⟨_, uBs.no hm9 (fun w => by have w1 := w.1; rw [show nI v6_6.toInt.toNat = v6_6 from (t_nI (x := v6_6) rfl (by omega)).1.symm] at w1; exact outB.iff.1 w1 q_24) (by omega)⟩ | exact ⟨_, uBs.no hm9 (fun w => q_36 hp (by omega) w.2) (by omega)⟩) (by omega) ls hl
            · refine lv_aload_n hx hb dX11_taking_45 rfl (lv_at hl 2 rfl) ?_
              refine va_get (D := g.1) (ci := 11) (v := .ref (a_m 1)) (C := RX11) (T := TX11) (N := 46) hx hb hi_X11 (fun _ h => h) hown hK.1 hP 0 rfl rfl 0 (by decide) hf_7 (fun _ h9 => h9) rfl dX11_taking_46 ?_
              refine lv_iconst (v := 0) hx hb dX11_taking_49 (by decide) ?_
              refine lv_iload hx hb dX11_taking_50 (lv_at hl 0 rfl) ?_
              refine PurI.cs (C := RX11) (As := [.int (0 : Int32), .int v6_6]) (kX11_ruleAt l g (0 : Int32) v6_6 (by omega) (by omega)) fx (gUS (uT _) u_554 u_555 u_5 u_556) rfl hdX11_ruleAt ⟨Nat.le_of_ble_eq_true rfl, Nat.le_of_ble_eq_true rfl⟩ hK hP [] rfl rfl rfl hl.1 (Nat.le_of_ble_eq_true rfl) dX11_taking_52 (fun r7 p_r7 => ?_)
              have n_55 : vp_in r7 19800 := (t_in (by omega))
              refine va_iald hx hb hK.1 hP 1 0 rfl rfl n_55 dX11_taking_55 ?_
              refine q_nm (fun x8 e_x8 => ?_)
              have e_x8 : x8 = (I_m 1) r7.toNatClampNeg := e_x8
              have g_x8 : x8.toInt = ((I_m 1) r7.toNatClampNeg).toInt := congrArg _ e_x8
              refine lv_aload_n hx hb dX11_taking_56 rfl (lv_at hl 2 rfl) ?_
              refine va_get (D := g.1) (ci := 11) (v := .ref (a_m 1)) (C := RX11) (T := TX11) (N := 46) hx hb hi_X11 (fun _ h => h) hown hK.1 hP 0 rfl rfl 0 (by decide) hf_7 (fun _ h9 => h9) rfl dX11_taking_57 ?_
              refine lv_iconst (v := 0) hx hb dX11_taking_60 (by decide) ?_
              refine lv_iload hx hb dX11_taking_61 (lv_at hl 1 rfl) ?_
              refine PurI.cs (C := RX11) (As := [.int (0 : Int32), .int v5_6]) (kX11_ruleAt l g (0 : Int32) v5_6 (by omega) (by omega)) fx (gUS (uT _) u_554 u_555 u_5 u_556) rfl hdX11_ruleAt ⟨Nat.le_of_ble_eq_true rfl, Nat.le_of_ble_eq_true rfl⟩ hK hP [] rfl rfl rfl hl.1 (Nat.le_of_ble_eq_true rfl) dX11_taking_63 (fun r9 p_r9 => ?_)
              have n_66 : vp_in r9 19800 := (t_in (by omega))
              refine va_iald hx hb hK.1 hP 1 0 rfl rfl n_66 dX11_taking_66 ?_
              refine q_nm (fun x10 e_x10 => ?_)
              have e_x10 : x10 = (I_m 1) r9.toNatClampNeg := e_x10
              have g_x10 : x10.toInt = ((I_m 1) r9.toNatClampNeg).toInt := congrArg _ e_x10
              refine q_icmp_le (tgt := 74) hx hb dX11_taking_67 (by decide) rfl rfl (fun k_67 => ?_) (fun k_67 => ?_)
              · refine r_iinc (lv' := fun i11 => [(6, .int i11), (5, .int v5_6), (0, .ref (a_m 0)), (1, .int ia), (2, .int first), (3, .int last), (4, .int gone)]) hx hb dX11_taking_74 hl (k := 0) rfl (by decide) rfl (by decide) (fun _ => rfl) (fun i11 e_i11 t_i11 ls hl => ?_)
                try have t_i11 := t_i11 (by omega)
                refine lv_goto (tgt := 6) hx hb dX11_taking_77 (by decide) ?_
                exact ih_6 v5_6 i11 (by omega) (by first | exact hb_6 | exact Or.inr ⟨by omega, by omega, q_36.1⟩) (fun hp => by obtain ⟨m9, hm9⟩ := hq_6 hp; have hy9 := uTM.l1 hM (r := v6_6.toInt.toNat) (by omega); first | exact uBs.tk1 hm9 (by omega) ⟨by rw [show nI v6_6.toInt.toNat = v6_6 from (t_nI (x := v6_6) rfl (by omega)).1.symm]; exact outB.iff.2 q_24, q_36.2 hp (by omega)⟩ hy9 (by omega) (by omega) | (have l55 : (I_m 1 (12 * v6_6.toInt.toNat + 12)).toInt = (x8).toInt := congrArg Int32.toInt (at_ix (k := 12 * v6_6.toInt.toNat + 12) e_x8 (by omega)).symm; have l66 : (I_m 1 (12 * v5_6.toInt.toNat + 12)).toInt = (x10).toInt := congrArg Int32.toInt (at_ix (k := 12 * v5_6.toInt.toNat + 12) e_x10 (by omega)).symm; have c55 := uTM.lc (I := I_m) (r := v6_6.toInt.toNat) (by omega); have c66 := uTM.lc (I := I_m) (r := v5_6.toInt.toNat) (by omega); exact uBs.tk2 hm9 (by omega) ⟨by rw [show nI v6_6.toInt.toNat = v6_6 from (t_nI (x := v6_6) rfl (by omega)).1.symm]; exact outB.iff.2 q_24, q_36.2 hp (by omega)⟩ (by omega) (by omega) (by omega)) | (have l55 : (I_m 1 (12 * v6_6.toInt.toNat + 12)).toInt = (x8).toInt := congrArg Int32.toInt (at_ix (k := 12 * v6_6.toInt.toNat + 12) e_x8 (by omega)).symm; have l66 : (I_m 1 (12 * v5_6.toInt.toNat + 12)).toInt = (x10).toInt := congrArg Int32.toInt (at_ix (k := 12 * v5_6.toInt.toNat + 12) e_x10 (by omega)).symm; have c55 := uTM.lc (I := I_m) (r := v6_6.toInt.toNat) (by omega); have c66 := uTM.lc (I := I_m) (r := v5_6.toInt.toNat) (by omega); exact uBs.ls2 hm9 (by omega) hy9 (by omega) (by omega)) | exact ⟨_, uBs.no hm9 (fun w => by have w1 := w.1; rw [show nI v6_6.toInt.toNat = v6_6 from (t_nI (x := v6_6) rfl (by omega)).1.symm] at w1; exact outB.iff.1 w1 q_24) (by omega)⟩ | exact ⟨_, uBs.no hm9 (fun w => q_36 hp (by omega) w.2) (by omega)⟩) (by omega) ls hl
              · refine lv_iload hx hb dX11_taking_70 (lv_at hl 0 rfl) ?_
                refine lv_istore (lv' := [(5, .int v6_6), (6, .int v6_6), (0, .ref (a_m 0)), (1, .int ia), (2, .int first), (3, .int last), (4, .int gone)]) hx hb dX11_taking_72 hl (by decide) rfl (fun ls hl => ?_)
                refine r_iinc (lv' := fun i12 => [(6, .int i12), (5, .int v6_6), (0, .ref (a_m 0)), (1, .int ia), (2, .int first), (3, .int last), (4, .int gone)]) hx hb dX11_taking_74 hl (k := 1) rfl (by decide) rfl (by decide) (fun _ => rfl) (fun i12 e_i12 t_i12 ls hl => ?_)
                try have t_i12 := t_i12 (by omega)
                refine lv_goto (tgt := 6) hx hb dX11_taking_77 (by decide) ?_
                exact ih_6 v6_6 i12 (by omega) (by first | exact hb_6 | exact Or.inr ⟨by omega, by omega, q_36.1⟩) (fun hp => by obtain ⟨m9, hm9⟩ := hq_6 hp; have hy9 := uTM.l1 hM (r := v6_6.toInt.toNat) (by omega); first | exact uBs.tk1 hm9 (by omega) ⟨by rw [show nI v6_6.toInt.toNat = v6_6 from (t_nI (x := v6_6) rfl (by omega)).1.symm]; exact outB.iff.2 q_24, q_36.2 hp (by omega)⟩ hy9 (by omega) (by omega) | (have l55 : (I_m 1 (12 * v6_6.toInt.toNat + 12)).toInt = (x8).toInt := congrArg Int32.toInt (at_ix (k := 12 * v6_6.toInt.toNat + 12) e_x8 (by omega)).symm; have l66 : (I_m 1 (12 * v5_6.toInt.toNat + 12)).toInt = (x10).toInt := congrArg Int32.toInt (at_ix (k := 12 * v5_6.toInt.toNat + 12) e_x10 (by omega)).symm; have c55 := uTM.lc (I := I_m) (r := v6_6.toInt.toNat) (by omega); have c66 := uTM.lc (I := I_m) (r := v5_6.toInt.toNat) (by omega); exact uBs.tk2 hm9 (by omega) ⟨by rw [show nI v6_6.toInt.toNat = v6_6 from (t_nI (x := v6_6) rfl (by omega)).1.symm]; exact outB.iff.2 q_24, q_36.2 hp (by omega)⟩ (by omega) (by omega) (by omega)) | (have l55 : (I_m 1 (12 * v6_6.toInt.toNat + 12)).toInt = (x8).toInt := congrArg Int32.toInt (at_ix (k := 12 * v6_6.toInt.toNat + 12) e_x8 (by omega)).symm; have l66 : (I_m 1 (12 * v5_6.toInt.toNat + 12)).toInt = (x10).toInt := congrArg Int32.toInt (at_ix (k := 12 * v5_6.toInt.toNat + 12) e_x10 (by omega)).symm; have c55 := uTM.lc (I := I_m) (r := v6_6.toInt.toNat) (by omega); have c66 := uTM.lc (I := I_m) (r := v5_6.toInt.toNat) (by omega); exact uBs.ls2 hm9 (by omega) hy9 (by omega) (by omega)) | exact ⟨_, uBs.no hm9 (fun w => by have w1 := w.1; rw [show nI v6_6.toInt.toNat = v6_6 from (t_nI (x := v6_6) rfl (by omega)).1.symm] at w1; exact outB.iff.1 w1 q_24) (by omega)⟩ | exact ⟨_, uBs.no hm9 (fun w => q_36 hp (by omega) w.2) (by omega)⟩) (by omega) ls hl
  exact L6 ((25 - (0 : Int32).toInt) + 1).toNat (-1 : Int32) (0 : Int32) (by omega) (Or.inl (by omega)) (fun _ => ⟨0, by rw [lm1, lm0]; exact uBs.in⟩) (by omega) ls hl

set_option maxHeartbeats 4000000 in
set_option maxRecDepth 100000 in
theorem kX11_justOf (l : Launch) (g : gG) (a_m : Nat → Nat) (I_m : Nat → Nat → Int32) (J_m : Nat → Nat → Int64) (letter : Int32) (gone : Int32) (hM : MI I_m) : PurI l g yX11_justOf wsX11_justOf 1 [.ref (a_m 0), .int letter, .int gone] (wX11 g a_m I_m J_m) (fun r => -1 ≤ r.toInt ∧ r.toInt < (I_m 1 0).toInt ∧ ((r.toInt = -1 ∧ jsN gone (fun i => I_m 1 (12 * i + 12)) (fun i => I_m 1 (12 * i + 23)) (fun i => I_m 1 (12 * i + 13)) letter (I_m 1 0).toInt.toNat = true) ∨ (0 ≤ r.toInt ∧ jsN gone (fun i => I_m 1 (12 * i + 12)) (fun i => I_m 1 (12 * i + 23)) (fun i => I_m 1 (12 * i + 13)) letter (I_m 1 0).toInt.toNat = false)) ∧ ((r.toInt = -1 ∧ uNj (uTM I_m) gone letter.toInt) ∨ (0 ≤ r.toInt ∧ uJs (uTM I_m) gone letter.toInt r.toInt.toNat))) := by
  refine PurI.st (cc := cX11_justOf) (maxL := 5) (by decide) rfl (Nat.le_of_ble_eq_true rfl) (fun p e s m args below meth c Q ls fx hK hP hl hret => ?_)
  have hx := fx.1
  have hb := fx.2.1
  have hml := fx.2.2.1
  have hown := fx.2.2.2.1
  have hts := fx.2.2.2.2
  have hl : lv_has ls 5 [(0, .ref (a_m 0)), (1, .int letter), (2, .int gone)] := hl
  have hP : va_P g.1 vwCl (wX11 g a_m I_m J_m) s.heap := hP
  have hf_7 := hts _ (uT _ _ u_170)
  have hi_X11 : ∀ w ∈ wsX110, w.before args s = true := fun w h => hts w (uT _ w (u_wsX110 w h))
  have lm1 : (-1 : Int32).toInt = -1 := by decide
  have lm0 : (0 : Int32).toInt = 0 := by decide
  have lm2 : (1 : Int32).toInt = 1 := by decide
  have lq11 : (11 : Int32).toInt = 11 := by decide
  have hmn := hM.many rfl
  refine lv_iconst (v := 0) hx hb dX11_justOf_0 (by decide) ?_
  refine lv_istore_n (lv' := [(3, .int (0 : Int32)), (0, .ref (a_m 0)), (1, .int letter), (2, .int gone)]) hx hb dX11_justOf_1 rfl hl (by decide) rfl (fun ls hl => ?_)
  have L2 : ∀ (nn : Nat) (v3_2 : Int32), (hv_2 : 0 ≤ v3_2.toInt ∧ v3_2.toInt ≤ 24) → (hj_2 : ∀ i : Nat, (i : Int) < v3_2.toInt → jsJ gone (fun i => I_m 1 (12 * i + 12)) (fun i => I_m 1 (12 * i + 23)) (fun i => I_m 1 (12 * i + 13)) letter i = false) → (hu_2 : ∀ i : Nat, (i : Int) < v3_2.toInt → ¬ uJt (uTM I_m) gone letter.toInt i) → ((25 - v3_2.toInt) < (nn : Int)) → ∀ ls : Array Slot, lv_has ls 5 [(3, .int v3_2), (0, .ref (a_m 0)), (1, .int letter), (2, .int gone)] → W p l e (rm 1) s m args below meth c s.heap [] 0 0 Q (F0 m 2 ls []) := by
    intro n_2
    induction n_2 with
    | zero =>
      intro v3_2 hv_2 hj_2 hu_2 hms_2 ls hl
      exfalso; omega
    | succ n_2 ih_2 =>
      intro v3_2 hv_2 hj_2 hu_2 hms_2 ls hl
      refine lv_iload_n hx hb dX11_justOf_2 rfl (lv_at hl 0 rfl) ?_
      refine lv_aload_n hx hb dX11_justOf_3 rfl (lv_at hl 1 rfl) ?_
      refine va_get (D := g.1) (ci := 11) (v := .ref (a_m 1)) (C := RX11) (T := TX11) (N := 46) hx hb hi_X11 (fun _ h => h) hown hK.1 hP 0 rfl rfl 0 (by decide) hf_7 (fun _ h9 => h9) rfl dX11_justOf_4 ?_
      refine lv_iconst (v := 0) hx hb dX11_justOf_7 (by decide) ?_
      have n_8 : vp_in (0 : Int32) 19800 := (t_in (by decide))
      refine va_iald hx hb hK.1 hP 1 0 rfl rfl n_8 dX11_justOf_8 ?_
      refine q_nm (fun x1 e_x1 => ?_)
      have e_x1 : x1 = (I_m 1) 0 := e_x1
      have g_x1 : x1.toInt = ((I_m 1) 0).toInt := congrArg _ e_x1
      have f_x1 := MI.many hM e_x1
      refine q_icmp_ge (tgt := 72) hx hb dX11_justOf_9 (by decide) rfl rfl (fun k_9 => ?_) (fun k_9 => ?_)
      · refine lv_iconst (v := -1) hx hb dX11_justOf_72 (by decide) ?_
        exact hret 73 ls (-1 : Int32) dX11_justOf_73 ⟨by omega, by omega, Or.inl ⟨by omega, jsN.iff.2 (fun i hi => hj_2 i (by omega))⟩, Or.inl ⟨by omega, fun j hj => hu_2 j (by rw [uTM.len] at hj; omega)⟩⟩
      · refine lv_iconst (v := 0) hx hb dX11_justOf_12 (by decide) ?_
        refine lv_iload_n hx hb dX11_justOf_13 rfl (lv_at hl 0 rfl) ?_
        refine PurI.cs (C := RX11) (As := [.int (0 : Int32), .int v3_2]) (kX11_ruleAt l g (0 : Int32) v3_2 (by omega) (by omega)) fx (gUS (uT _) u_554 u_555 u_5 u_556) rfl hdX11_ruleAt ⟨Nat.le_of_ble_eq_true rfl, Nat.le_of_ble_eq_true rfl⟩ hK hP [] rfl rfl rfl hl.1 (Nat.le_of_ble_eq_true rfl) dX11_justOf_14 (fun r2 p_r2 => ?_)
        refine lv_istore (lv' := [(4, .int r2), (3, .int v3_2), (0, .ref (a_m 0)), (1, .int letter), (2, .int gone)]) hx hb dX11_justOf_17 hl (by decide) rfl (fun ls hl => ?_)
        refine lv_iload_n hx hb dX11_justOf_19 rfl (lv_at hl 4 rfl) ?_
        refine lv_iload_n hx hb dX11_justOf_20 rfl (lv_at hl 1 rfl) ?_
        refine PurI.cs (C := RX11) (As := [.int gone, .int v3_2]) (kX11_isOut l g gone v3_2) fx (gUS (uT _) u_740 u_741 u_5 u_742) rfl hdX11_isOut ⟨Nat.le_of_ble_eq_true rfl, Nat.le_of_ble_eq_true rfl⟩ hK hP [] rfl rfl rfl hl.1 (Nat.le_of_ble_eq_true rfl) dX11_justOf_21 (fun r3 p_r3 => ?_)
        refine q_if_ne (tgt := 66) hx hb dX11_justOf_24 (by decide) rfl (fun b_24 k_24 => ?_) (fun b_24 k_24 => ?_)
        · have q_24 := bP.t p_r3 b_24
          refine r_iinc (lv' := fun i4 => [(3, .int i4), (4, .int r2), (0, .ref (a_m 0)), (1, .int letter), (2, .int gone)]) hx hb dX11_justOf_66 hl (k := 1) rfl (by decide) rfl (by decide) (fun _ => rfl) (fun i4 e_i4 t_i4 ls hl => ?_)
          try have t_i4 := t_i4 (by omega)
          refine lv_goto (tgt := 2) hx hb dX11_justOf_69 (by decide) ?_
          exact ih_2 i4 (by omega) (tq_ext (P := fun i => jsJ gone (fun i => I_m 1 (12 * i + 12)) (fun i => I_m 1 (12 * i + 23)) (fun i => I_m 1 (12 * i + 13)) letter i = false) hj_2 (by omega) (by omega) (jsJ.f (by omega) (by exact Or.inl (outB.tP q_24)))) (tq_ext (P := fun i => ¬ uJt (uTM I_m) gone letter.toInt i) hu_2 (by omega) (by omega) (fun q => by rw [uJt.iffM (by omega)] at q; obtain ⟨q1, q2, q3, q4⟩ := q; (rw [show nI v3_2.toInt.toNat = v3_2 from (t_nI (x := v3_2) rfl (by omega)).1.symm] at q1; exact outB.iff.1 q1 q_24))) (by omega) ls (lv_sub hl [0, 2, 3, 4] rfl)
        · have q_24 := bP.f p_r3 b_24
          refine lv_aload_n hx hb dX11_justOf_27 rfl (lv_at hl 2 rfl) ?_
          refine va_get (D := g.1) (ci := 11) (v := .ref (a_m 1)) (C := RX11) (T := TX11) (N := 46) hx hb hi_X11 (fun _ h => h) hown hK.1 hP 0 rfl rfl 0 (by decide) hf_7 (fun _ h9 => h9) rfl dX11_justOf_28 ?_
          refine lv_iload hx hb dX11_justOf_31 (lv_at hl 0 rfl) ?_
          have n_33 : vp_in r2 19800 := (t_in (by omega))
          refine va_iald hx hb hK.1 hP 1 0 rfl rfl n_33 dX11_justOf_33 ?_
          refine q_nm (fun x5 e_x5 => ?_)
          have e_x5 : x5 = (I_m 1) r2.toNatClampNeg := e_x5
          have g_x5 : x5.toInt = ((I_m 1) r2.toNatClampNeg).toInt := congrArg _ e_x5
          refine lv_iconst (v := 1) hx hb dX11_justOf_34 (by decide) ?_
          refine q_icmp_ne (tgt := 66) hx hb dX11_justOf_35 (by decide) rfl (by decide : (1 : Int32).toInt = 1) (fun k_35 => ?_) (fun k_35 => ?_)
          · refine r_iinc (lv' := fun i6 => [(3, .int i6), (4, .int r2), (0, .ref (a_m 0)), (1, .int letter), (2, .int gone)]) hx hb dX11_justOf_66 hl (k := 1) rfl (by decide) rfl (by decide) (fun _ => rfl) (fun i6 e_i6 t_i6 ls hl => ?_)
            try have t_i6 := t_i6 (by omega)
            refine lv_goto (tgt := 2) hx hb dX11_justOf_69 (by decide) ?_
            exact ih_2 i6 (by omega) (tq_ext (P := fun i => jsJ gone (fun i => I_m 1 (12 * i + 12)) (fun i => I_m 1 (12 * i + 23)) (fun i => I_m 1 (12 * i + 13)) letter i = false) hj_2 (by omega) (by omega) (jsJ.f (by omega) (by first | exact Or.inl (outB.tP q_24) | exact Or.inr (Or.inl (by show ¬ I_m 1 (12 * v3_2.toInt.toNat + 12) = 1; rw [← at_ix (k := 12 * v3_2.toInt.toNat + 12) e_x5 (by omega)]; intro q; have := congrArg Int32.toInt q; omega))))) (tq_ext (P := fun i => ¬ uJt (uTM I_m) gone letter.toInt i) hu_2 (by omega) (by omega) (fun q => by rw [uJt.iffM (by omega)] at q; obtain ⟨q1, q2, q3, q4⟩ := q; first | (rw [show I_m 1 (12 * v3_2.toInt.toNat + 12) = x5 from (at_ix (k := 12 * v3_2.toInt.toNat + 12) e_x5 (by omega)).symm] at q2; omega) | (rw [show nI v3_2.toInt.toNat = v3_2 from (t_nI (x := v3_2) rfl (by omega)).1.symm] at q1; exact outB.iff.1 q1 q_24))) (by omega) ls (lv_sub hl [0, 2, 3, 4] rfl)
          · refine lv_aload_n hx hb dX11_justOf_38 rfl (lv_at hl 2 rfl) ?_
            refine va_get (D := g.1) (ci := 11) (v := .ref (a_m 1)) (C := RX11) (T := TX11) (N := 46) hx hb hi_X11 (fun _ h => h) hown hK.1 hP 0 rfl rfl 0 (by decide) hf_7 (fun _ h9 => h9) rfl dX11_justOf_39 ?_
            refine lv_iload hx hb dX11_justOf_42 (lv_at hl 0 rfl) ?_
            refine lv_iconst (v := 1) hx hb dX11_justOf_44 (by decide) ?_
            refine r_iadd hx hb dX11_justOf_45 rfl (by decide : (1 : Int32).toInt = 1) (fun x7 e_x7 t_x7 => ?_)
            try have t_x7 := t_x7 (by omega)
            have n_46 : vp_in x7 19800 := (t_in (by omega))
            refine va_iald hx hb hK.1 hP 1 0 rfl rfl n_46 dX11_justOf_46 ?_
            refine q_nm (fun x8 e_x8 => ?_)
            have e_x8 : x8 = (I_m 1) x7.toNatClampNeg := e_x8
            have g_x8 : x8.toInt = ((I_m 1) x7.toNatClampNeg).toInt := congrArg _ e_x8
            refine lv_iload_n hx hb dX11_justOf_47 rfl (lv_at hl 3 rfl) ?_
            refine q_icmp_ne (tgt := 66) hx hb dX11_justOf_48 (by decide) rfl rfl (fun k_48 => ?_) (fun k_48 => ?_)
            · refine r_iinc (lv' := fun i9 => [(3, .int i9), (4, .int r2), (0, .ref (a_m 0)), (1, .int letter), (2, .int gone)]) hx hb dX11_justOf_66 hl (k := 1) rfl (by decide) rfl (by decide) (fun _ => rfl) (fun i9 e_i9 t_i9 ls hl => ?_)
              try have t_i9 := t_i9 (by omega)
              refine lv_goto (tgt := 2) hx hb dX11_justOf_69 (by decide) ?_
              exact ih_2 i9 (by omega) (tq_ext (P := fun i => jsJ gone (fun i => I_m 1 (12 * i + 12)) (fun i => I_m 1 (12 * i + 23)) (fun i => I_m 1 (12 * i + 13)) letter i = false) hj_2 (by omega) (by omega) (jsJ.f (by omega) (by first | exact Or.inl (outB.tP q_24) | exact Or.inr (Or.inl (by show ¬ I_m 1 (12 * v3_2.toInt.toNat + 12) = 1; rw [← at_ix (k := 12 * v3_2.toInt.toNat + 12) e_x5 (by omega)]; intro q; have := congrArg Int32.toInt q; omega)) | exact Or.inr (Or.inr (Or.inl (by show ¬ I_m 1 (12 * v3_2.toInt.toNat + 13) = letter; rw [← at_ix (k := 12 * v3_2.toInt.toNat + 13) e_x8 (by omega)]; intro q; have := congrArg Int32.toInt q; omega)))))) (tq_ext (P := fun i => ¬ uJt (uTM I_m) gone letter.toInt i) hu_2 (by omega) (by omega) (fun q => by rw [uJt.iffM (by omega)] at q; obtain ⟨q1, q2, q3, q4⟩ := q; first | (rw [show I_m 1 (12 * v3_2.toInt.toNat + 12) = x5 from (at_ix (k := 12 * v3_2.toInt.toNat + 12) e_x5 (by omega)).symm] at q2; omega) | (rw [show I_m 1 (12 * v3_2.toInt.toNat + 13) = x8 from (at_ix (k := 12 * v3_2.toInt.toNat + 13) e_x8 (by omega)).symm] at q3; omega) | (rw [show nI v3_2.toInt.toNat = v3_2 from (t_nI (x := v3_2) rfl (by omega)).1.symm] at q1; exact outB.iff.1 q1 q_24))) (by omega) ls (lv_sub hl [0, 2, 3, 4] rfl)
            · refine lv_aload_n hx hb dX11_justOf_51 rfl (lv_at hl 2 rfl) ?_
              refine va_get (D := g.1) (ci := 11) (v := .ref (a_m 1)) (C := RX11) (T := TX11) (N := 46) hx hb hi_X11 (fun _ h => h) hown hK.1 hP 0 rfl rfl 0 (by decide) hf_7 (fun _ h9 => h9) rfl dX11_justOf_52 ?_
              refine lv_iload hx hb dX11_justOf_55 (lv_at hl 0 rfl) ?_
              refine lv_bipush (v := 11) hx hb dX11_justOf_57 (by decide) ?_
              refine r_iadd hx hb dX11_justOf_59 rfl (by decide : (11 : Int32).toInt = 11) (fun x10 e_x10 t_x10 => ?_)
              try have t_x10 := t_x10 (by omega)
              have n_60 : vp_in x10 19800 := (t_in (by omega))
              refine va_iald hx hb hK.1 hP 1 0 rfl rfl n_60 dX11_justOf_60 ?_
              refine q_nm (fun x11 e_x11 => ?_)
              have e_x11 : x11 = (I_m 1) x10.toNatClampNeg := e_x11
              have g_x11 : x11.toInt = ((I_m 1) x10.toNatClampNeg).toInt := congrArg _ e_x11
              refine q_if_ne (tgt := 66) hx hb dX11_justOf_61 (by decide) rfl (fun b_61 k_61 => ?_) (fun b_61 k_61 => ?_)
              · refine r_iinc (lv' := fun i12 => [(3, .int i12), (4, .int r2), (0, .ref (a_m 0)), (1, .int letter), (2, .int gone)]) hx hb dX11_justOf_66 hl (k := 1) rfl (by decide) rfl (by decide) (fun _ => rfl) (fun i12 e_i12 t_i12 ls hl => ?_)
                try have t_i12 := t_i12 (by omega)
                refine lv_goto (tgt := 2) hx hb dX11_justOf_69 (by decide) ?_
                exact ih_2 i12 (by omega) (tq_ext (P := fun i => jsJ gone (fun i => I_m 1 (12 * i + 12)) (fun i => I_m 1 (12 * i + 23)) (fun i => I_m 1 (12 * i + 13)) letter i = false) hj_2 (by omega) (by omega) (jsJ.f (by omega) (by first | exact Or.inl (outB.tP q_24) | exact Or.inr (Or.inl (by show ¬ I_m 1 (12 * v3_2.toInt.toNat + 12) = 1; rw [← at_ix (k := 12 * v3_2.toInt.toNat + 12) e_x5 (by omega)]; intro q; have := congrArg Int32.toInt q; omega)) | exact Or.inr (Or.inr (Or.inl (by show ¬ I_m 1 (12 * v3_2.toInt.toNat + 13) = letter; rw [← at_ix (k := 12 * v3_2.toInt.toNat + 13) e_x8 (by omega)]; intro q; have := congrArg Int32.toInt q; omega))) | exact Or.inr (Or.inr (Or.inr (by show ¬ I_m 1 (12 * v3_2.toInt.toNat + 23) = 0; rw [← at_ix (k := 12 * v3_2.toInt.toNat + 23) e_x11 (by omega)]; intro q; have := congrArg Int32.toInt q; omega)))))) (tq_ext (P := fun i => ¬ uJt (uTM I_m) gone letter.toInt i) hu_2 (by omega) (by omega) (fun q => by rw [uJt.iffM (by omega)] at q; obtain ⟨q1, q2, q3, q4⟩ := q; first | (rw [show I_m 1 (12 * v3_2.toInt.toNat + 12) = x5 from (at_ix (k := 12 * v3_2.toInt.toNat + 12) e_x5 (by omega)).symm] at q2; omega) | (rw [show I_m 1 (12 * v3_2.toInt.toNat + 13) = x8 from (at_ix (k := 12 * v3_2.toInt.toNat + 13) e_x8 (by omega)).symm] at q3; omega) | (rw [show I_m 1 (12 * v3_2.toInt.toNat + 23) = x11 from (at_ix (k := 12 * v3_2.toInt.toNat + 23) e_x11 (by omega)).symm] at q4; omega) | (rw [show nI v3_2.toInt.toNat = v3_2 from (t_nI (x := v3_2) rfl (by omega)).1.symm] at q1; exact outB.iff.1 q1 q_24))) (by omega) ls (lv_sub hl [0, 2, 3, 4] rfl)
              · refine lv_iload_n hx hb dX11_justOf_64 rfl (lv_at hl 1 rfl) ?_
                exact hret 65 ls v3_2 dX11_justOf_65 ⟨by omega, by omega, Or.inr ⟨by omega, jsN.f (i := v3_2.toInt.toNat) (by omega) (jsJ.t (by omega) (outB.fP q_24) ((at_ix (k := 12 * v3_2.toInt.toNat + 12) e_x5 (by omega)).symm.trans (t_inj (by omega))) ((at_ix (k := 12 * v3_2.toInt.toNat + 13) e_x8 (by omega)).symm.trans (t_inj (by omega))) ((at_ix (k := 12 * v3_2.toInt.toNat + 23) e_x11 (by omega)).symm.trans (t_inj (by omega))))⟩, Or.inr ⟨by omega, by rw [uTM.len]; omega, (by rw [uJt.iffM (by omega), show nI v3_2.toInt.toNat = v3_2 from (t_nI (x := v3_2) rfl (by omega)).1.symm, show I_m 1 (12 * v3_2.toInt.toNat + 12) = x5 from (at_ix (k := 12 * v3_2.toInt.toNat + 12) e_x5 (by omega)).symm, show I_m 1 (12 * v3_2.toInt.toNat + 13) = x8 from (at_ix (k := 12 * v3_2.toInt.toNat + 13) e_x8 (by omega)).symm, show I_m 1 (12 * v3_2.toInt.toNat + 23) = x11 from (at_ix (k := 12 * v3_2.toInt.toNat + 23) e_x11 (by omega)).symm]; exact ⟨outB.iff.2 q_24, by omega, by omega, by omega⟩), fun j hj => hu_2 j (by omega)⟩⟩
  exact L2 ((25 - (0 : Int32).toInt) + 1).toNat (0 : Int32) (by omega) (fun i q => by rw [lm0] at q; exfalso; omega) (fun i q => by rw [lm0] at q; exfalso; omega) (by omega) ls hl

set_option maxHeartbeats 4000000 in
set_option maxRecDepth 100000 in
theorem kX11_sets (l : Launch) (g : gG) (a_m : Nat → Nat) (I_m : Nat → Nat → Int32) (J_m : Nat → Nat → Int64) (cell : Int32) (who : Int32) (hM : MI I_m) (h_c : 0 ≤ cell.toInt ∧ cell.toInt ≤ 63) (h_s : 0 ≤ (I_m 1 16508).toInt ∧ (I_m 1 16508).toInt < 1250) : EffV l g yX11_sets wsX11_sets 0 [.ref (a_m 0), .int cell, .int who] (wX11 g a_m I_m J_m) (fun (u : (Nat → Nat → Int32)) => wX11 g a_m u J_m) (fun (u : (Nat → Nat → Int32)) => MI (u) ∧ WK I_m (u) ∧ KK [1] [] I_m (u) ∧ SE I_m (u) 1 ∧ ((u) 1 16508).toInt = (I_m 1 16508).toInt + 1 ∧ (∀ l : List Int, tMc (I_m 1) l → tMc ((u) 1) (l ++ [cell.toInt]))) := by
  refine EffV.st (cc := cX11_sets) (maxL := 3) (by decide) rfl (Nat.le_of_ble_eq_true rfl) (fun p e s m args below meth c A Q ls fx hK hP hD hA hS hl hret => ?_)
  have hx := fx.1
  have hb := fx.2.1
  have hml := fx.2.2.1
  have hown := fx.2.2.2.1
  have hts := fx.2.2.2.2
  have hl : lv_has ls 3 [(0, .ref (a_m 0)), (1, .int cell), (2, .int who)] := hl
  have hP : va_P g.1 vwCl (wX11 g a_m I_m J_m) s.heap := hP
  have hf_7 := hts _ (uT _ _ u_170)
  have hi_X11 : ∀ w ∈ wsX110, w.before args s = true := fun w h => hts w (uT _ w (u_wsX110 w h))
  have lm1 : (-1 : Int32).toInt = -1 := by decide
  have lm0 : (0 : Int32).toInt = 0 := by decide
  have lm2 : (1 : Int32).toInt = 1 := by decide
  have lq16508 : (16508 : Int32).toInt = 16508 := by decide
  have lq17100 : (17100 : Int32).toInt = 17100 := by decide
  have lq18540 : (18540 : Int32).toInt = 18540 := by decide
  refine lv_aload_n hx hb dX11_sets_0 rfl (lv_at hl 0 rfl) ?_
  refine va_get (D := g.1) (ci := 11) (v := .ref (a_m 1)) (C := RX11) (T := TX11) (N := 46) hx hb hi_X11 (fun _ h => h) hown hK.1 hP 0 rfl rfl 0 (by decide) hf_7 (fun _ h9 => h9) rfl dX11_sets_1 ?_
  refine lv_sipush (v := 17100) hx hb dX11_sets_4 (by decide) ?_
  refine lv_aload_n hx hb dX11_sets_7 rfl (lv_at hl 0 rfl) ?_
  refine va_get (D := g.1) (ci := 11) (v := .ref (a_m 1)) (C := RX11) (T := TX11) (N := 46) hx hb hi_X11 (fun _ h => h) hown hK.1 hP 0 rfl rfl 0 (by decide) hf_7 (fun _ h9 => h9) rfl dX11_sets_8 ?_
  refine lv_sipush (v := 16508) hx hb dX11_sets_11 (by decide) ?_
  have n_14 : vp_in (16508 : Int32) 19800 := (t_in (by decide))
  refine va_iald hx hb hK.1 hP 1 0 rfl rfl n_14 dX11_sets_14 ?_
  refine q_nm (fun x1 e_x1 => ?_)
  have e_x1 : x1 = (I_m 1) 16508 := e_x1
  have g_x1 : x1.toInt = ((I_m 1) 16508).toInt := congrArg _ e_x1
  refine r_iadd hx hb dX11_sets_15 (by decide : (17100 : Int32).toInt = 17100) rfl (fun x2 e_x2 t_x2 => ?_)
  try have t_x2 := t_x2 (by omega)
  refine lv_iload_n hx hb dX11_sets_16 rfl (lv_at hl 1 rfl) ?_
  have n_17 : vp_in x2 19800 := (t_in (by omega))
  obtain ⟨f3, e_f3⟩ : ∃ z, z = upd (I_m 1) x2.toNatClampNeg cell := ⟨_, rfl⟩
  refine va_iast hx hb hK.1 hP hD hS 1 0 rfl rfl n_17 dX11_sets_17 (fun H locs hP hD hS => ?_)
  have hP : va_P g.1 vwCl (wX11 g a_m (uR I_m 1 f3) J_m) H := by rw [e_f3]; exact hP
  have hD : va_D A (wX11 g a_m (uR I_m 1 f3) J_m) := by rw [e_f3]; exact hD
  have hk_17 : KK [1] [] I_m (uR I_m 1 f3) := KK.ur (KK.rf I_m) (by decide) (by decide)
  have hw_17 : WK I_m (uR I_m 1 f3) := WK.ua (WK.rf I_m) e_f3 rfl (by omega)
  have hs17 : SE I_m (uR I_m 1 f3) 0 := (SE.rf I_m).ua e_f3 rfl (by omega)
  have hc_17 : MI (uR I_m 1 f3) := hM.uc e_f3 rfl (by omega) (by omega)
  refine lv_aload_n hx hb dX11_sets_18 rfl (lv_at hl 0 rfl) ?_
  refine va_get (D := g.1) (ci := 11) (v := .ref (a_m 1)) (C := RX11) (T := TX11) (N := 46) hx hb hi_X11 (fun _ h => h) hown hK.1 hP 0 rfl rfl 0 (by decide) hf_7 (fun _ h9 => h9) rfl dX11_sets_19 ?_
  refine lv_sipush (v := 18540) hx hb dX11_sets_22 (by decide) ?_
  refine lv_aload_n hx hb dX11_sets_25 rfl (lv_at hl 0 rfl) ?_
  refine va_get (D := g.1) (ci := 11) (v := .ref (a_m 1)) (C := RX11) (T := TX11) (N := 46) hx hb hi_X11 (fun _ h => h) hown hK.1 hP 0 rfl rfl 0 (by decide) hf_7 (fun _ h9 => h9) rfl dX11_sets_26 ?_
  refine lv_sipush (v := 16508) hx hb dX11_sets_29 (by decide) ?_
  have n_32 : vp_in (16508 : Int32) 19800 := (t_in (by decide))
  refine va_iald hx hb hK.1 hP 1 0 rfl rfl n_32 dX11_sets_32 ?_
  refine q_nm (fun x4 e_x4 => ?_)
  have e_x4 : x4 = f3 16508 := e_x4
  have g_x4 : x4.toInt = (f3 16508).toInt := congrArg _ e_x4
  have m_x4 : x4 = I_m 1 16508 := by rw [e_x4, e_f3, pk_un (by show 16508 ≠ (x2).toInt.toNat; omega)]
  have n_x4 := congrArg Int32.toInt m_x4
  refine r_iadd hx hb dX11_sets_33 (by decide : (18540 : Int32).toInt = 18540) rfl (fun x5 e_x5 t_x5 => ?_)
  try have t_x5 := t_x5 (by omega)
  refine lv_iload_n hx hb dX11_sets_34 rfl (lv_at hl 2 rfl) ?_
  have n_35 : vp_in x5 19800 := (t_in (by omega))
  obtain ⟨f6, e_f6⟩ : ∃ z, z = upd f3 x5.toNatClampNeg who := ⟨_, rfl⟩
  refine va_iast hx hb hK.1 hP hD hS 1 0 rfl rfl n_35 dX11_sets_35 (fun H locs hP hD hS => ?_)
  have hP : va_P g.1 vwCl (wX11 g a_m (uR (uR I_m 1 f3) 1 f6) J_m) H := by rw [e_f6]; exact hP
  have hD : va_D A (wX11 g a_m (uR (uR I_m 1 f3) 1 f6) J_m) := by rw [e_f6]; exact hD
  have hc_35 : MI (uR (uR I_m 1 f3) 1 f6) := MI.ua hc_17 e_f6 rfl (by omega) (by omega)
  have hk_35 : KK [1] [] I_m (uR (uR I_m 1 f3) 1 f6) := KK.ur hk_17 (by decide) (by decide)
  have hw_35 : WK I_m (uR (uR I_m 1 f3) 1 f6) := WK.ua hw_17 e_f6 rfl (by omega)
  have hs35 : SE I_m (uR (uR I_m 1 f3) 1 f6) 0 := hs17.ua e_f6 rfl (by omega)
  refine lv_aload_n hx hb dX11_sets_36 rfl (lv_at hl 0 rfl) ?_
  refine va_get (D := g.1) (ci := 11) (v := .ref (a_m 1)) (C := RX11) (T := TX11) (N := 46) hx hb hi_X11 (fun _ h => h) hown hK.1 hP 0 rfl rfl 0 (by decide) hf_7 (fun _ h9 => h9) rfl dX11_sets_37 ?_
  refine lv_sipush (v := 16508) hx hb dX11_sets_40 (by decide) ?_
  refine lv_dup2_11 hx hb dX11_sets_43 rfl rfl ?_
  have n_44 : vp_in (16508 : Int32) 19800 := (t_in (by decide))
  refine va_iald hx hb hK.1 hP 1 0 rfl rfl n_44 dX11_sets_44 ?_
  refine q_nm (fun x7 e_x7 => ?_)
  have e_x7 : x7 = f6 16508 := e_x7
  have g_x7 : x7.toInt = (f6 16508).toInt := congrArg _ e_x7
  have m_x7 : x7 = I_m 1 16508 := by rw [e_x7, e_f6, pk_un (by show 16508 ≠ (x5).toInt.toNat; omega), e_f3, pk_un (by show 16508 ≠ (x2).toInt.toNat; omega)]
  have n_x7 := congrArg Int32.toInt m_x7
  refine lv_iconst (v := 1) hx hb dX11_sets_45 (by decide) ?_
  refine r_iadd hx hb dX11_sets_46 rfl (by decide : (1 : Int32).toInt = 1) (fun x8 e_x8 t_x8 => ?_)
  try have t_x8 := t_x8 (by omega)
  have n_47 : vp_in (16508 : Int32) 19800 := (t_in (by decide))
  obtain ⟨f9, e_f9⟩ : ∃ z, z = upd f6 (16508 : Int32).toNatClampNeg x8 := ⟨_, rfl⟩
  refine va_iast hx hb hK.1 hP hD hS 1 0 rfl rfl n_47 dX11_sets_47 (fun H locs hP hD hS => ?_)
  have hP : va_P g.1 vwCl (wX11 g a_m (uR (uR (uR I_m 1 f3) 1 f6) 1 f9) J_m) H := by rw [e_f9]; exact hP
  have hD : va_D A (wX11 g a_m (uR (uR (uR I_m 1 f3) 1 f6) 1 f9) J_m) := by rw [e_f9]; exact hD
  have hk_47 : KK [1] [] I_m (uR (uR (uR I_m 1 f3) 1 f6) 1 f9) := KK.ur hk_35 (by decide) (by decide)
  have hw_47 : WK I_m (uR (uR (uR I_m 1 f3) 1 f6) 1 f9) := WK.ua hw_35 e_f9 (by decide : (16508 : Int32).toInt = 16508) (by omega)
  have hs47 := SE.us (I := uR (uR I_m 1 f3) 1 f6) e_f9 (by show _ = (f6 16508).toInt + 1; rw [← e_x7]; omega)
  have hc_47 : MI (uR (uR (uR I_m 1 f3) 1 f6) 1 f9) := hc_35.ua e_f9 rfl (by omega) (by omega)
  refine hret 48 ls _ _ (uR (uR (uR I_m 1 f3) 1 f6) 1 f9) dX11_sets_48 hS hP hD ?_
  exact ⟨hc_47, hw_47, hk_47, hs35.tr hs47.1 (by omega), by rw [hs47.2]; show (f6 16508).toInt + 1 = _; rw [← e_x7]; omega, fun l h => (by have y32 := congrArg Int32.toInt m_x4; have y44 := congrArg Int32.toInt m_x7; exact h.add ((congrArg Int32.toInt ((congrFun e_f9 16508).trans (upd_at rfl))).trans (by omega)) (fun k hk => ((congrFun e_f9 _).trans (pk_un (by show _ ≠ 16508; omega))).trans (((congrFun e_f6 _).trans (pk_un (by show 17100 + k ≠ (x5).toInt.toNat; omega))).trans ((congrFun e_f3 _).trans (pk_un (by show 17100 + k ≠ (x2).toInt.toNat; omega))))) (congrArg Int32.toInt (((congrFun e_f9 _).trans (pk_un (by show _ ≠ 16508; omega))).trans (((congrFun e_f6 _).trans (pk_un (by show _ ≠ (x5).toInt.toNat; omega))).trans ((congrFun e_f3 _).trans (upd_at (by show _ = (x2).toInt.toNat; omega)))))))⟩

set_option maxHeartbeats 4000000 in
set_option maxRecDepth 100000 in
theorem kX11_setsRule (l : Launch) (g : gG) (a_m : Nat → Nat) (I_m : Nat → Nat → Int32) (J_m : Nat → Nat → Int64) (rule : Int32) (hM : MI I_m) (h_rule : 0 ≤ rule.toInt ∧ rule.toInt < 24) (h_s : 0 ≤ (I_m 1 16508).toInt ∧ (I_m 1 16508).toInt ≤ 1240) : EffI l g yX11_setsRule wsX11_setsRule 1 [.ref (a_m 0), .int rule] (wX11 g a_m I_m J_m) (fun (u : (Nat → Nat → Int32)) => wX11 g a_m u J_m) (fun r (u : (Nat → Nat → Int32)) => MI (u) ∧ WK I_m (u) ∧ KK [1] [] I_m (u) ∧ 0 ≤ r.toInt ∧ r.toInt ≤ 3 ∧ SE I_m (u) 3 ∧ ((u) 1 16508).toInt = (I_m 1 16508).toInt + r.toInt ∧ r = I_m 1 (12 * rule.toInt.toNat + 19) ∧ (∀ l : List Int, tMc (I_m 1) l → tMc ((u) 1) (l ++ tCl (fun k => (I_m 1 (12 * rule.toInt.toNat + 20 + k)).toInt) r.toInt.toNat))) := by
  refine EffI.st (cc := cX11_setsRule) (maxL := 4) (by decide) rfl (Nat.le_of_ble_eq_true rfl) (fun p e s m args below meth c A Q ls fx hK hP hD hA hS hl hret => ?_)
  have hx := fx.1
  have hb := fx.2.1
  have hml := fx.2.2.1
  have hown := fx.2.2.2.1
  have hts := fx.2.2.2.2
  have hl : lv_has ls 4 [(0, .ref (a_m 0)), (1, .int rule)] := hl
  have hP : va_P g.1 vwCl (wX11 g a_m I_m J_m) s.heap := hP
  have hf_7 := hts _ (uT _ _ u_170)
  have hi_X11 : ∀ w ∈ wsX110, w.before args s = true := fun w h => hts w (uT _ w (u_wsX110 w h))
  have lm1 : (-1 : Int32).toInt = -1 := by decide
  have lm0 : (0 : Int32).toInt = 0 := by decide
  have lm2 : (1 : Int32).toInt = 1 := by decide
  have lq7 : (7 : Int32).toInt = 7 := by decide
  have lq16510 : (16510 : Int32).toInt = 16510 := by decide
  have lq18510 : (18510 : Int32).toInt = 18510 := by decide
  refine lv_iconst (v := 0) hx hb dX11_setsRule_0 (by decide) ?_
  refine lv_iload_n hx hb dX11_setsRule_1 rfl (lv_at hl 1 rfl) ?_
  refine PurI.cs (C := RX11) (As := [.int (0 : Int32), .int rule]) (kX11_ruleAt l g (0 : Int32) rule (by omega) (by omega)) fx (gUS (uT _) u_554 u_555 u_5 u_556) rfl hdX11_ruleAt ⟨Nat.le_of_ble_eq_true rfl, Nat.le_of_ble_eq_true rfl⟩ hK hP [] rfl rfl rfl hl.1 (Nat.le_of_ble_eq_true rfl) dX11_setsRule_2 (fun r1 p_r1 => ?_)
  refine lv_istore_n (lv' := [(2, .int r1), (0, .ref (a_m 0)), (1, .int rule)]) hx hb dX11_setsRule_5 rfl hl (by decide) rfl (fun ls hl => ?_)
  refine lv_iconst (v := 0) hx hb dX11_setsRule_6 (by decide) ?_
  refine lv_istore_n (lv' := [(3, .int (0 : Int32)), (2, .int r1), (0, .ref (a_m 0)), (1, .int rule)]) hx hb dX11_setsRule_7 rfl hl (by decide) rfl (fun ls hl => ?_)
  have L8 : ∀ (nn : Nat) (v3_8 : Int32) (I_m_8 : Nat → Nat → Int32), (hM_8 : MI I_m_8) → (hw_8 : WK I_m I_m_8) → (hk_8 : KK [1] [] I_m I_m_8) → (hv_8 : 0 ≤ v3_8.toInt ∧ v3_8.toInt ≤ 3) → (hs_8 : SE I_m I_m_8 v3_8.toInt) → (hc_8 : (I_m_8 1 16508).toInt = (I_m 1 16508).toInt + v3_8.toInt ∧ v3_8.toInt ≤ (I_m 1 (12 * rule.toInt.toNat + 19)).toInt) → (hcl_8 : ∀ l : List Int, tMc (I_m 1) l → tMc (I_m_8 1) (l ++ tCl (fun k => (I_m 1 (12 * rule.toInt.toNat + 20 + k)).toInt) v3_8.toInt.toNat)) → ((4 - v3_8.toInt) < (nn : Int)) → ∀ (H : Heap) (locs : List Loc), va_P g.1 vwCl (wX11 g a_m I_m_8 J_m) H → va_D A (wX11 g a_m I_m_8 J_m) → va_S A s.heap H locs → ∀ ls : Array Slot, lv_has ls 4 [(3, .int v3_8), (2, .int r1), (0, .ref (a_m 0)), (1, .int rule)] → W p l e (rm 1) s m args below meth c H locs 0 0 Q (F0 m 8 ls []) := by
    intro n_8
    induction n_8 with
    | zero =>
      intro v3_8 I_m_8 hM_8 hw_8 hk_8 hv_8 hs_8 hc_8 hcl_8 hms_8 H locs hP hD hS ls hl
      exfalso; omega
    | succ n_8 ih_8 =>
      intro v3_8 I_m_8 hM_8 hw_8 hk_8 hv_8 hs_8 hc_8 hcl_8 hms_8 H locs hP hD hS ls hl
      have hq8 := hs_8.2.1
      refine lv_iload_n hx hb dX11_setsRule_8 rfl (lv_at hl 0 rfl) ?_
      refine lv_aload_n hx hb dX11_setsRule_9 rfl (lv_at hl 2 rfl) ?_
      refine va_get (D := g.1) (ci := 11) (v := .ref (a_m 1)) (C := RX11) (T := TX11) (N := 46) hx hb hi_X11 (fun _ h => h) hown hK.1 hP 0 rfl rfl 0 (by decide) hf_7 (fun _ h9 => h9) rfl dX11_setsRule_10 ?_
      refine lv_iload_n hx hb dX11_setsRule_13 rfl (lv_at hl 1 rfl) ?_
      refine lv_bipush (v := 7) hx hb dX11_setsRule_14 (by decide) ?_
      refine r_iadd hx hb dX11_setsRule_16 rfl (by decide : (7 : Int32).toInt = 7) (fun x2 e_x2 t_x2 => ?_)
      try have t_x2 := t_x2 (by omega)
      have n_17 : vp_in x2 19800 := (t_in (by omega))
      refine va_iald hx hb hK.1 hP 1 0 rfl rfl n_17 dX11_setsRule_17 ?_
      refine q_nm (fun x3 e_x3 => ?_)
      have e_x3 : x3 = (I_m_8 1) x2.toNatClampNeg := e_x3
      have g_x3 : x3.toInt = ((I_m_8 1) x2.toNatClampNeg).toInt := congrArg _ e_x3
      have f_x3 := TS.cc hM_8.t0 (r := rule.toInt) e_x3 (by omega) (by omega)
      refine q_icmp_ge (tgt := 45) hx hb dX11_setsRule_18 (by decide) rfl rfl (fun k_18 => ?_) (fun k_18 => ?_)
      · refine lv_aload_n hx hb dX11_setsRule_45 rfl (lv_at hl 2 rfl) ?_
        refine va_get (D := g.1) (ci := 11) (v := .ref (a_m 1)) (C := RX11) (T := TX11) (N := 46) hx hb hi_X11 (fun _ h => h) hown hK.1 hP 0 rfl rfl 0 (by decide) hf_7 (fun _ h9 => h9) rfl dX11_setsRule_46 ?_
        refine lv_sipush (v := 18510) hx hb dX11_setsRule_49 (by decide) ?_
        refine lv_iload_n hx hb dX11_setsRule_52 rfl (lv_at hl 3 rfl) ?_
        refine r_iadd hx hb dX11_setsRule_53 (by decide : (18510 : Int32).toInt = 18510) rfl (fun x4 e_x4 t_x4 => ?_)
        try have t_x4 := t_x4 (by omega)
        refine lv_dup2_11 hx hb dX11_setsRule_54 rfl rfl ?_
        have n_55 : vp_in x4 19800 := (t_in (by omega))
        refine va_iald hx hb hK.1 hP 1 0 rfl rfl n_55 dX11_setsRule_55 ?_
        refine q_nm (fun x5 e_x5 => ?_)
        have e_x5 : x5 = (I_m_8 1) x4.toNatClampNeg := e_x5
        have g_x5 : x5.toInt = ((I_m_8 1) x4.toNatClampNeg).toInt := congrArg _ e_x5
        refine lv_iconst (v := 1) hx hb dX11_setsRule_56 (by decide) ?_
        refine r_iadd hx hb dX11_setsRule_57 rfl (by decide : (1 : Int32).toInt = 1) (fun x6 e_x6 t_x6 => ?_)
        try have t_x6 := t_x6 (by omega)
        have n_58 : vp_in x4 19800 := (t_in (by omega))
        obtain ⟨f7, e_f7⟩ : ∃ z, z = upd (I_m_8 1) x4.toNatClampNeg x6 := ⟨_, rfl⟩
        refine va_iast hx hb hK.1 hP hD hS 1 0 rfl rfl n_58 dX11_setsRule_58 (fun H locs hP hD hS => ?_)
        have hP : va_P g.1 vwCl (wX11 g a_m (uR I_m_8 1 f7) J_m) H := by rw [e_f7]; exact hP
        have hD : va_D A (wX11 g a_m (uR I_m_8 1 f7) J_m) := by rw [e_f7]; exact hD
        have hc_58 : MI (uR I_m_8 1 f7) := MI.ua hM_8 e_f7 rfl (by omega) (by omega)
        have hk_58 : KK [1] [] I_m (uR I_m_8 1 f7) := KK.ur hk_8 (by decide) (by decide)
        have hw_58 : WK I_m (uR I_m_8 1 f7) := WK.ua hw_8 e_f7 rfl (by omega)
        have hs58 : SE I_m (uR I_m_8 1 f7) 3 := (hs_8.tr (SE.rf _) (by omega) : SE I_m I_m_8 3).ua e_f7 rfl (by omega)
        refine lv_aload_n hx hb dX11_setsRule_59 rfl (lv_at hl 2 rfl) ?_
        refine va_get (D := g.1) (ci := 11) (v := .ref (a_m 1)) (C := RX11) (T := TX11) (N := 46) hx hb hi_X11 (fun _ h => h) hown hK.1 hP 0 rfl rfl 0 (by decide) hf_7 (fun _ h9 => h9) rfl dX11_setsRule_60 ?_
        refine lv_sipush (v := 16510) hx hb dX11_setsRule_63 (by decide) ?_
        refine lv_dup2_11 hx hb dX11_setsRule_66 rfl rfl ?_
        have n_67 : vp_in (16510 : Int32) 19800 := (t_in (by decide))
        refine va_iald hx hb hK.1 hP 1 0 rfl rfl n_67 dX11_setsRule_67 ?_
        refine q_nm (fun x8 e_x8 => ?_)
        have e_x8 : x8 = f7 16510 := e_x8
        have g_x8 : x8.toInt = (f7 16510).toInt := congrArg _ e_x8
        refine lv_iconst (v := 1) hx hb dX11_setsRule_68 (by decide) ?_
        refine r_iadd hx hb dX11_setsRule_69 rfl (by decide : (1 : Int32).toInt = 1) (fun x9 e_x9 t_x9 => ?_)
        try have t_x9 := t_x9 (by omega)
        have n_70 : vp_in (16510 : Int32) 19800 := (t_in (by decide))
        obtain ⟨f10, e_f10⟩ : ∃ z, z = upd f7 (16510 : Int32).toNatClampNeg x9 := ⟨_, rfl⟩
        refine va_iast hx hb hK.1 hP hD hS 1 0 rfl rfl n_70 dX11_setsRule_70 (fun H locs hP hD hS => ?_)
        have hP : va_P g.1 vwCl (wX11 g a_m (uR (uR I_m_8 1 f7) 1 f10) J_m) H := by rw [e_f10]; exact hP
        have hD : va_D A (wX11 g a_m (uR (uR I_m_8 1 f7) 1 f10) J_m) := by rw [e_f10]; exact hD
        have hc_70 : MI (uR (uR I_m_8 1 f7) 1 f10) := MI.ua hc_58 e_f10 (by decide : (16510 : Int32).toInt = 16510) (by omega) (by omega)
        have hk_70 : KK [1] [] I_m (uR (uR I_m_8 1 f7) 1 f10) := KK.ur hk_58 (by decide) (by decide)
        have hw_70 : WK I_m (uR (uR I_m_8 1 f7) 1 f10) := WK.ua hw_58 e_f10 (by decide : (16510 : Int32).toInt = 16510) (by omega)
        have hs70 : SE I_m (uR (uR I_m_8 1 f7) 1 f10) 3 := hs58.ua e_f10 rfl (by omega)
        refine lv_aload_n hx hb dX11_setsRule_71 rfl (lv_at hl 2 rfl) ?_
        refine va_get (D := g.1) (ci := 11) (v := .ref (a_m 1)) (C := RX11) (T := TX11) (N := 46) hx hb hi_X11 (fun _ h => h) hown hK.1 hP 0 rfl rfl 0 (by decide) hf_7 (fun _ h9 => h9) rfl dX11_setsRule_72 ?_
        refine lv_iload_n hx hb dX11_setsRule_75 rfl (lv_at hl 1 rfl) ?_
        refine lv_bipush (v := 7) hx hb dX11_setsRule_76 (by decide) ?_
        refine r_iadd hx hb dX11_setsRule_78 rfl (by decide : (7 : Int32).toInt = 7) (fun x11 e_x11 t_x11 => ?_)
        try have t_x11 := t_x11 (by omega)
        have n_79 : vp_in x11 19800 := (t_in (by omega))
        refine va_iald hx hb hK.1 hP 1 0 rfl rfl n_79 dX11_setsRule_79 ?_
        refine q_nm (fun x12 e_x12 => ?_)
        have e_x12 : x12 = f10 x11.toNatClampNeg := e_x12
        have g_x12 : x12.toInt = (f10 x11.toNatClampNeg).toInt := congrArg _ e_x12
        have f_x12 := TS.cc hc_70.t0 (r := rule.toInt) e_x12 (by omega) (by omega)
        refine hret 80 ls x12 _ _ (uR (uR I_m_8 1 f7) 1 f10) dX11_setsRule_80 hS hP hD ?_
        exact ⟨hc_70, hw_70, hk_70, ⟨by omega, by omega, hs70, (by have c17 : (I_m 1 (12 * rule.toInt.toNat + 19)).toInt = (x3).toInt := (by rw [← hw_8 _ (by omega)]; exact congrArg Int32.toInt (at_ix (k := 12 * rule.toInt.toNat + 19) e_x3 (by omega)).symm); have n70 : ((uR (uR I_m_8 1 f7) 1 f10) 1 16508).toInt = (I_m_8 1 16508).toInt := (by show (f10 16508).toInt = _; rw [e_f10, pk_un (by decide), e_f7, pk_un (by show 16508 ≠ (x4).toInt.toNat; omega)]); have n79 : (x12).toInt = (x3).toInt := (by rw [at_ix (k := 12 * rule.toInt.toNat + 19) e_x12 (by omega), show (x3) = _ from at_ix (k := 12 * rule.toInt.toNat + 19) e_x3 (by omega)]; show (f10 _).toInt = _; rw [e_f10, pk_un (by show _ ≠ 16510; omega), e_f7, pk_un (by show _ ≠ (x4).toInt.toNat; omega)]); omega), (by have c17 : (I_m 1 (12 * rule.toInt.toNat + 19)).toInt = (x3).toInt := (by rw [← hw_8 _ (by omega)]; exact congrArg Int32.toInt (at_ix (k := 12 * rule.toInt.toNat + 19) e_x3 (by omega)).symm); exact t_inj (by have n79 : (x12).toInt = (x3).toInt := (by rw [at_ix (k := 12 * rule.toInt.toNat + 19) e_x12 (by omega), show (x3) = _ from at_ix (k := 12 * rule.toInt.toNat + 19) e_x3 (by omega)]; show (f10 _).toInt = _; rw [e_f10, pk_un (by show _ ≠ 16510; omega), e_f7, pk_un (by show _ ≠ (x4).toInt.toNat; omega)]); omega)), fun l h => (by have c17 : (I_m 1 (12 * rule.toInt.toNat + 19)).toInt = (x3).toInt := (by rw [← hw_8 _ (by omega)]; exact congrArg Int32.toInt (at_ix (k := 12 * rule.toInt.toNat + 19) e_x3 (by omega)).symm); have n79 : (x12).toInt = (x3).toInt := (by rw [at_ix (k := 12 * rule.toInt.toNat + 19) e_x12 (by omega), show (x3) = _ from at_ix (k := 12 * rule.toInt.toNat + 19) e_x3 (by omega)]; show (f10 _).toInt = _; rw [e_f10, pk_un (by show _ ≠ 16510; omega), e_f7, pk_un (by show _ ≠ (x4).toInt.toNat; omega)]); have w := hcl_8 l h; rw [show (x12).toInt.toNat = v3_8.toInt.toNat by omega]; exact w.cg (congrArg Int32.toInt (((congrFun e_f10 16508).trans (pk_un (by decide))).trans ((congrFun e_f7 _).trans (pk_un (by show 16508 ≠ (x4).toInt.toNat; omega))))) (fun k hk => ((congrFun e_f10 _).trans (pk_un (by show _ ≠ 16510; omega))).trans ((congrFun e_f7 _).trans (pk_un (by show _ ≠ (x4).toInt.toNat; omega)))))⟩⟩
      · refine lv_aload_n hx hb dX11_setsRule_21 rfl (lv_at hl 2 rfl) ?_
        refine lv_aload_n hx hb dX11_setsRule_22 rfl (lv_at hl 2 rfl) ?_
        refine va_get (D := g.1) (ci := 11) (v := .ref (a_m 1)) (C := RX11) (T := TX11) (N := 46) hx hb hi_X11 (fun _ h => h) hown hK.1 hP 0 rfl rfl 0 (by decide) hf_7 (fun _ h9 => h9) rfl dX11_setsRule_23 ?_
        refine lv_iload_n hx hb dX11_setsRule_26 rfl (lv_at hl 1 rfl) ?_
        refine lv_bipush (v := 7) hx hb dX11_setsRule_27 (by decide) ?_
        refine r_iadd hx hb dX11_setsRule_29 rfl (by decide : (7 : Int32).toInt = 7) (fun x13 e_x13 t_x13 => ?_)
        try have t_x13 := t_x13 (by omega)
        refine lv_iconst (v := 1) hx hb dX11_setsRule_30 (by decide) ?_
        refine r_iadd hx hb dX11_setsRule_31 rfl (by decide : (1 : Int32).toInt = 1) (fun x14 e_x14 t_x14 => ?_)
        try have t_x14 := t_x14 (by omega)
        refine lv_iload_n hx hb dX11_setsRule_32 rfl (lv_at hl 0 rfl) ?_
        refine r_iadd hx hb dX11_setsRule_33 rfl rfl (fun x15 e_x15 t_x15 => ?_)
        try have t_x15 := t_x15 (by omega)
        have n_34 : vp_in x15 19800 := (t_in (by omega))
        refine va_iald hx hb hK.1 hP 1 0 rfl rfl n_34 dX11_setsRule_34 ?_
        refine q_nm (fun x16 e_x16 => ?_)
        have e_x16 : x16 = (I_m_8 1) x15.toNatClampNeg := e_x16
        have g_x16 : x16.toInt = ((I_m_8 1) x15.toNatClampNeg).toInt := congrArg _ e_x16
        have f_x16 := TS.cl hM_8.t0 (r := rule.toInt) (k := v3_8.toInt) e_x16 (by omega) (by omega) (by omega)
        refine lv_iload_n hx hb dX11_setsRule_35 rfl (lv_at hl 3 rfl) ?_
        refine EffV.cv (wr := ([])) (w' := fun u18 => wX11 g a_m u18 J_m) (As := [.int x16, .int rule]) (kX11_sets l g a_m I_m_8 J_m x16 rule hM_8 (by omega) (by omega)) fx (gUV (uT _) u_724 u_725 u_726 u_5 u_727) rfl hdX11_sets ⟨Nat.le_of_ble_eq_true rfl, Nat.le_of_ble_eq_true rfl⟩ hK hP hD hS hA [0, 1, 2, 3, 4, 5, 6, 7, 8, 9, 10, 11, 12, 13, 14, 15, 16, 17, 18, 19, 20, 21, 22] [] [0, 1, 2, 3, 4, 5, 6, 7, 8, 9, 10, 11, 12, 13, 14, 15, 16, 17, 18, 19, 20, 21, 22] rfl rfl rfl rfl (by decide) rfl (fun _ => rfl) rfl rfl rfl rfl hl.1 (Nat.le_of_ble_eq_true rfl) dX11_setsRule_36 (fun u18 H locs p_r17 hP hD hS => ?_)
        have hP : va_P g.1 vwCl (wX11 g a_m u18 J_m) H := hP
        have hD : va_D A (wX11 g a_m u18 J_m) := hD
        have hs36 : SE I_m u18 (v3_8.toInt + 1) := hs_8.tr p_r17.2.2.2.1 (by omega)
        refine r_iinc (lv' := fun i19 => [(3, .int i19), (2, .int r1), (0, .ref (a_m 0)), (1, .int rule)]) hx hb dX11_setsRule_39 hl (k := 0) rfl (by decide) rfl (by decide) (fun _ => rfl) (fun i19 e_i19 t_i19 ls hl => ?_)
        try have t_i19 := t_i19 (by omega)
        refine lv_goto (tgt := 8) hx hb dX11_setsRule_42 (by decide) ?_
        exact ih_8 i19 u18 (p_r17.1) (WK.tr hw_8 p_r17.2.1) (KK.tr hk_8 p_r17.2.2.1 (by decide) (by decide)) (by omega) (by rw [show (i19).toInt = v3_8.toInt + 1 by omega]; exact hs36) (by have c17 : (I_m 1 (12 * rule.toInt.toNat + 19)).toInt = (x3).toInt := (by rw [← hw_8 _ (by omega)]; exact congrArg Int32.toInt (at_ix (k := 12 * rule.toInt.toNat + 19) e_x3 (by omega)).symm); have w := p_r17.2.2.2.2.1; omega) (fun l h => by have w := p_r17.2.2.2.2.2 _ (hcl_8 l h); rw [show (i19).toInt.toNat = v3_8.toInt.toNat + 1 by omega, tCl.sn, ← List.append_assoc]; have z : (I_m 1 (12 * rule.toInt.toNat + 20 + v3_8.toInt.toNat)).toInt = (x16).toInt := (by rw [← hw_8 _ (by omega)]; exact congrArg Int32.toInt (at_ix (k := 12 * rule.toInt.toNat + 20 + v3_8.toInt.toNat) e_x16 (by omega)).symm); show tMc _ (_ ++ [(I_m 1 (12 * rule.toInt.toNat + 20 + v3_8.toInt.toNat)).toInt]); rw [z]; exact w) (by omega) _ _ hP hD hS ls hl
  exact L8 ((4 - (0 : Int32).toInt) + 1).toNat (0 : Int32) I_m hM (WK.rf I_m) (KK.rf I_m) (by omega) (by rw [lm0]; exact SE.rf I_m) (by rw [lm0]; have w := (hM.t0.2.2.2.2.1 rule.toInt.toNat (by omega)).2.1; rw [Nat.zero_add] at w; omega) (fun l h => by rw [show (0 : Int32).toInt.toNat = 0 from (by rw [lm0]; rfl), tCl.z, List.append_nil]; exact h) (by omega) _ _ hP hD hS ls hl

set_option maxHeartbeats 4000000 in
set_option maxRecDepth 100000 in
theorem kX11_wordEnd (l : Launch) (g : gG) (a_m : Nat → Nat) (I_m : Nat → Nat → Int32) (J_m : Nat → Nat → Int64) (ia : Int32) (hM : MI I_m) (h_p : 0 ≤ ia.toInt ∧ ia.toInt ≤ 300) : PurI l g yX11_wordEnd wsX11_wordEnd 2 [.ref (a_m 0), .int ia] (wX11 g a_m I_m J_m) (fun r => WE I_m ia.toInt r.toInt) := by
  refine PurI.st (cc := cX11_wordEnd) (maxL := 3) (by decide) rfl (Nat.le_of_ble_eq_true rfl) (fun p e s m args below meth c Q ls fx hK hP hl hret => ?_)
  have hx := fx.1
  have hb := fx.2.1
  have hml := fx.2.2.1
  have hown := fx.2.2.2.1
  have hts := fx.2.2.2.2
  have hl : lv_has ls 3 [(0, .ref (a_m 0)), (1, .int ia)] := hl
  have hP : va_P g.1 vwCl (wX11 g a_m I_m J_m) s.heap := hP
  have lm1 : (-1 : Int32).toInt = -1 := by decide
  have lm0 : (0 : Int32).toInt = 0 := by decide
  have lm2 : (1 : Int32).toInt = 1 := by decide
  have hwb := hM.wb rfl
  refine lv_iload_n hx hb dX11_wordEnd_0 rfl (lv_at hl 1 rfl) ?_
  refine lv_istore_n (lv' := [(2, .int ia), (0, .ref (a_m 0)), (1, .int ia)]) hx hb dX11_wordEnd_1 rfl hl (by decide) rfl (fun ls hl => ?_)
  have L2 : ∀ (nn : Nat) (v2_2 : Int32), (hv_2 : ia.toInt ≤ v2_2.toInt ∧ (v2_2.toInt ≤ ia.toInt ∨ v2_2.toInt ≤ (I_m 1 16507).toInt)) → (hl_2 : ∀ j : Int, ia.toInt ≤ j → j < v2_2.toInt → LT (I_m 1 (16800 + j.toNat))) → ((301 - v2_2.toInt) < (nn : Int)) → ∀ ls : Array Slot, lv_has ls 3 [(2, .int v2_2), (0, .ref (a_m 0)), (1, .int ia)] → W p l e (rm 2) s m args below meth c s.heap [] 0 0 Q (F0 m 2 ls []) := by
    intro n_2
    induction n_2 with
    | zero =>
      intro v2_2 hv_2 hl_2 hms_2 ls hl
      exfalso; omega
    | succ n_2 ih_2 =>
      intro v2_2 hv_2 hl_2 hms_2 ls hl
      refine lv_aload_n hx hb dX11_wordEnd_2 rfl (lv_at hl 1 rfl) ?_
      refine lv_iload_n hx hb dX11_wordEnd_3 rfl (lv_at hl 0 rfl) ?_
      refine PurI.cv (As := [.int v2_2]) (kX11_byteOf l g a_m I_m J_m v2_2 hM (by omega)) fx (gUV (uT _) u_704 u_705 u_706 u_5 u_707) rfl hdX11_byteOf ⟨Nat.le_of_ble_eq_true rfl, Nat.le_of_ble_eq_true rfl⟩ hK hP [0, 1, 2, 3, 4, 5, 6, 7, 8, 9, 10, 11, 12, 13, 14, 15, 16, 17, 18, 19, 20, 21, 22] rfl rfl rfl rfl rfl hl.1 (Nat.le_of_ble_eq_true rfl) dX11_wordEnd_4 (fun r1 p_r1 => ?_)
      have hb4 := p_r1
      refine PurI.cs (C := RX11) (As := [.int r1]) (kX11_isLetter l g r1) fx (gUS (uT _) u_711 u_712 u_5 u_713) rfl hdX11_isLetter ⟨Nat.le_of_ble_eq_true rfl, Nat.le_of_ble_eq_true rfl⟩ hK hP [] rfl rfl rfl hl.1 (Nat.le_of_ble_eq_true rfl) dX11_wordEnd_7 (fun r2 p_r2 => ?_)
      refine q_if_eq (tgt := 19) hx hb dX11_wordEnd_10 (by decide) rfl (fun b_10 k_10 => ?_) (fun b_10 k_10 => ?_)
      · have q_10 := bP.f p_r2 b_10
        refine lv_iload_n hx hb dX11_wordEnd_19 rfl (lv_at hl 0 rfl) ?_
        exact hret 20 ls v2_2 dX11_wordEnd_20 ⟨by omega, by omega, hl_2, fun q1 => by rcases hb4 with u | u; rw [← u.2]; exact q_10; exfalso; omega⟩
      · have q_10 := bP.t p_r2 b_10
        refine r_iinc (lv' := fun i3 => [(2, .int i3), (0, .ref (a_m 0)), (1, .int ia)]) hx hb dX11_wordEnd_13 hl (k := 0) rfl (by decide) rfl (by decide) (fun _ => rfl) (fun i3 e_i3 t_i3 ls hl => ?_)
        try have t_i3 := t_i3 (by omega)
        refine lv_goto (tgt := 2) hx hb dX11_wordEnd_16 (by decide) ?_
        exact ih_2 i3 (by rcases hb4 with w | w; omega; exfalso; omega) (fun j q1 q2 => by by_cases e9 : j < v2_2.toInt; exact hl_2 j q1 e9; rcases hb4 with w | w; rw [show j.toNat = v2_2.toInt.toNat by omega, ← w.2]; exact q_10; exfalso; omega) (by omega) ls hl
  exact L2 ((301 - ia.toInt) + 1).toNat ia (by omega) (fun j q1 q2 => by exfalso; omega) (by omega) ls hl

set_option maxHeartbeats 4000000 in
set_option maxRecDepth 100000 in
theorem kX11_setsWord (l : Launch) (g : gG) (a_m : Nat → Nat) (I_m : Nat → Nat → Int32) (J_m : Nat → Nat → Int64) (first : Int32) (last : Int32) (gone : Int32) (hM : MI I_m) (h_f : 0 ≤ first.toInt ∧ first.toInt ≤ last.toInt ∧ last.toInt ≤ 300) (h_s : 0 ≤ (I_m 1 16508).toInt ∧ (I_m 1 16508).toInt ≤ 4 * first.toInt + 5) : EffI l g yX11_setsWord wsX11_setsWord 4 [.ref (a_m 0), .int first, .int last, .int gone] (wX11 g a_m I_m J_m) (fun (u : (Nat → Nat → Int32)) => wX11 g a_m u J_m) (fun r (u : (Nat → Nat → Int32)) => MI (u) ∧ WK I_m (u) ∧ KK [1] [20, 21] I_m (u) ∧ (r = 0 ∨ r = 1) ∧ SE I_m (u) (4 * (last.toInt - first.toInt)) ∧ (∀ c0 : Int, (uWd (uBM I_m) (I_m 1 16507).toInt first.toInt first.toInt last.toInt ∧ (I_m 1 16508).toInt = c0 + uGp (uBM I_m) first.toInt c0) → (r = 1 ∧ gRe (uNx (uTM I_m) gone (uBM I_m) (I_m 1 16507).toInt) (first.toInt, c0) (last.toInt, ((u) 1 16508).toInt)) ∨ (r = 0 ∧ ∃ c : Int × Int, gRe (uNx (uTM I_m) gone (uBM I_m) (I_m 1 16507).toInt) (first.toInt, c0) c ∧ uFl (uTM I_m) gone (uBM I_m) (I_m 1 16507).toInt c ((u) 0 20).toInt ∧ c.1 = ((u) 0 21).toInt)) ∧ (tWc first.toInt last.toInt (I_m 1 16507).toInt (uBM I_m) (I_m 1) → (r = 1 ∧ tWs (uTM I_m) gone (uBM I_m) (I_m 1 16507).toInt ((u) 1) (I_m 1 16507).toInt) ∨ (r = 0 ∧ tWn (uTM I_m) gone (uBM I_m) (I_m 1 16507).toInt))) := by
  refine EffI.sz (cc := cX11_setsWord) (maxL := 6) (by decide) rfl (Nat.le_of_ble_eq_true rfl) (fun p e s m args below meth c A Q ls fx hK hP hD hA hS hl hret => ?_)
  have hx := fx.1
  have hb := fx.2.1
  have hml := fx.2.2.1
  have hown := fx.2.2.2.1
  have hts := fx.2.2.2.2
  have hl : lv_has ls 6 [(0, .ref (a_m 0)), (1, .int first), (2, .int last), (3, .int gone)] := hl
  have hP : va_P g.1 vwCl (wX11 g a_m I_m J_m) s.heap := hP
  have hf_7 := hts _ (uT _ _ u_170)
  have hi_X11 : ∀ w ∈ wsX110, w.before args s = true := fun w h => hts w (uT _ w (u_wsX110 w h))
  have lm1 : (-1 : Int32).toInt = -1 := by decide
  have lm0 : (0 : Int32).toInt = 0 := by decide
  have lm2 : (1 : Int32).toInt = 1 := by decide
  have lq3 : (3 : Int32).toInt = 3 := by decide
  have lq5 : (5 : Int32).toInt = 5 := by decide
  have lq16511 : (16511 : Int32).toInt = 16511 := by decide
  have hwb := hM.wb rfl
  refine lv_iload_n hx hb dX11_setsWord_0 rfl (lv_at hl 1 rfl) ?_
  refine lv_istore (lv' := [(4, .int first), (0, .ref (a_m 0)), (1, .int first), (2, .int last), (3, .int gone)]) hx hb dX11_setsWord_1 hl (by decide) rfl (fun ls hl => ?_)
  have L3 : ∀ (nn : Nat) (v4_3 : Int32) (I_m_3 : Nat → Nat → Int32), (hM_3 : MI I_m_3) → (hw_3 : WK I_m I_m_3) → (hk_3 : KK [1] [20, 21] I_m I_m_3) → (hv_3 : first.toInt ≤ v4_3.toInt ∧ v4_3.toInt ≤ last.toInt) → (hs_3 : SE I_m I_m_3 (4 * (v4_3.toInt - first.toInt))) → (hF_3 : ∀ c0 : Int, (uWd (uBM I_m) (I_m 1 16507).toInt first.toInt first.toInt last.toInt ∧ (I_m 1 16508).toInt = c0 + uGp (uBM I_m) first.toInt c0) → uWi (uTM I_m) gone (uBM I_m) (I_m 1 16507).toInt first.toInt c0 v4_3.toInt (I_m_3 1 16508).toInt) → (hX_3 : tWc first.toInt last.toInt (I_m 1 16507).toInt (uBM I_m) (I_m 1) → tWs (uTM I_m) gone (uBM I_m) (I_m 1 16507).toInt (I_m_3 1) v4_3.toInt) → ((301 - v4_3.toInt) < (nn : Int)) → ∀ (H : Heap) (locs : List Loc), va_P g.1 vwCl (wX11 g a_m I_m_3 J_m) H → va_D A (wX11 g a_m I_m_3 J_m) → va_S A s.heap H locs → ∀ ls : Array Slot, lv_has ls 6 [(4, .int v4_3), (0, .ref (a_m 0)), (1, .int first), (2, .int last), (3, .int gone)] → W p l e (rm 4) s m args below meth c H locs 0 0 Q (F0 m 3 ls []) := by
    intro n_3
    induction n_3 with
    | zero =>
      intro v4_3 I_m_3 hM_3 hw_3 hk_3 hv_3 hs_3 hF_3 hX_3 hms_3 H locs hP hD hS ls hl
      exfalso; omega
    | succ n_3 ih_3 =>
      intro v4_3 I_m_3 hM_3 hw_3 hk_3 hv_3 hs_3 hF_3 hX_3 hms_3 H locs hP hD hS ls hl
      have hq3 := hs_3.2.1
      have ht3 : uTM I_m_3 = uTM I_m := uTM.of hw_3 hM
      have hb3 : uBM I_m_3 = uBM I_m := uBM.of hs_3.2.2.2.1 hM
      have hn3 : (I_m_3 1 16507) = I_m 1 16507 := hs_3.2.2.2.1.1
      refine lv_iload hx hb dX11_setsWord_3 (lv_at hl 0 rfl) ?_
      refine lv_iload_n hx hb dX11_setsWord_5 rfl (lv_at hl 3 rfl) ?_
      refine q_icmp_ge (tgt := 110) hx hb dX11_setsWord_6 (by decide) rfl rfl (fun k_6 => ?_) (fun k_6 => ?_)
      · refine lv_iconst (v := 1) hx hb dX11_setsWord_110 (by decide) ?_
        have lr : (1 : Int32).toInt = 1 := by decide
        refine hret 111 ls (1 : Int32) _ _ I_m_3 dX11_setsWord_111 (Or.inr rfl) hS hP hD ?_
        exact ⟨hM_3, hw_3, hk_3, ⟨Or.inr rfl, hs_3.tr (SE.rf _) (by omega), (fun c0 hw => Or.inl ⟨rfl, by have w := (hF_3 c0 hw).end (by have := hw.1.1; omega); rw [show v4_3.toInt = last.toInt by omega] at w; exact w⟩), (fun w => Or.inl ⟨rfl, (by have q := hX_3 w; have w2 := w.2.1; rw [show v4_3.toInt = (I_m 1 16507).toInt by omega] at q; exact q)⟩)⟩⟩
      · refine lv_aload_n hx hb dX11_setsWord_9 rfl (lv_at hl 1 rfl) ?_
        refine lv_iload hx hb dX11_setsWord_10 (lv_at hl 0 rfl) ?_
        refine lv_iload_n hx hb dX11_setsWord_12 rfl (lv_at hl 2 rfl) ?_
        refine lv_iload_n hx hb dX11_setsWord_13 rfl (lv_at hl 3 rfl) ?_
        refine lv_iload_n hx hb dX11_setsWord_14 rfl (lv_at hl 4 rfl) ?_
        refine PurI.cv (As := [.int v4_3, .int first, .int last, .int gone]) (kX11_taking l g a_m I_m_3 J_m v4_3 first last gone hM_3 (by omega) (by omega)) fx (gUV (uT _) u_736 u_737 u_738 u_5 u_739) rfl hdX11_taking ⟨Nat.le_of_ble_eq_true rfl, Nat.le_of_ble_eq_true rfl⟩ hK hP [0, 1, 2, 3, 4, 5, 6, 7, 8, 9, 10, 11, 12, 13, 14, 15, 16, 17, 18, 19, 20, 21, 22] rfl rfl rfl rfl rfl hl.1 (Nat.le_of_ble_eq_true rfl) dX11_setsWord_15 (fun r1 p_r1 => ?_)
        have ht15 := p_r1.1
        have hm15 := (hM_3.many rfl)
        refine lv_istore (lv' := [(5, .int r1), (4, .int v4_3), (0, .ref (a_m 0)), (1, .int first), (2, .int last), (3, .int gone)]) hx hb dX11_setsWord_18 hl (by decide) rfl (fun ls hl => ?_)
        refine lv_iload hx hb dX11_setsWord_20 (lv_at hl 0 rfl) ?_
        refine lv_iconst (v := -1) hx hb dX11_setsWord_22 (by decide) ?_
        refine q_icmp_ne (tgt := 34) hx hb dX11_setsWord_23 (by decide) rfl (by decide : (-1 : Int32).toInt = -1) (fun k_23 => ?_) (fun k_23 => ?_)
        · refine lv_aload_n hx hb dX11_setsWord_34 rfl (lv_at hl 2 rfl) ?_
          refine lv_iload hx hb dX11_setsWord_35 (lv_at hl 1 rfl) ?_
          refine PurI.cv (As := [.int v4_3]) (kX11_byteOf l g a_m I_m_3 J_m v4_3 hM_3 (by omega)) fx (gUV (uT _) u_704 u_705 u_706 u_5 u_707) rfl hdX11_byteOf ⟨Nat.le_of_ble_eq_true rfl, Nat.le_of_ble_eq_true rfl⟩ hK hP [0, 1, 2, 3, 4, 5, 6, 7, 8, 9, 10, 11, 12, 13, 14, 15, 16, 17, 18, 19, 20, 21, 22] rfl rfl rfl rfl rfl hl.1 (Nat.le_of_ble_eq_true rfl) dX11_setsWord_37 (fun r2 p_r2 => ?_)
          refine PurI.cs (C := RX11) (As := [.int r2]) (kX11_isGreat l g r2) fx (gUS (uT _) u_714 u_715 u_5 u_716) rfl hdX11_isGreat ⟨Nat.le_of_ble_eq_true rfl, Nat.le_of_ble_eq_true rfl⟩ hK hP [] rfl rfl rfl hl.1 (Nat.le_of_ble_eq_true rfl) dX11_setsWord_40 (fun r3 p_r3 => ?_)
          refine q_if_eq (tgt := 74) hx hb dX11_setsWord_43 (by decide) rfl (fun b_43 k_43 => ?_) (fun b_43 k_43 => ?_)
          · have q_43 := bP.f p_r3 b_43
            have hs86 : SE I_m_3 I_m_3 1 := (SE.rf _).tr (SE.rf _) (by omega)
            refine lv_aload_n hx hb dX11_setsWord_74 rfl (lv_at hl 2 rfl) ?_
            refine va_get (D := g.1) (ci := 11) (v := .ref (a_m 1)) (C := RX11) (T := TX11) (N := 46) hx hb hi_X11 (fun _ h => h) hown hK.1 hP 0 rfl rfl 0 (by decide) hf_7 (fun _ h9 => h9) rfl dX11_setsWord_75 ?_
            refine lv_sipush (v := 16511) hx hb dX11_setsWord_78 (by decide) ?_
            refine lv_dup2_11 hx hb dX11_setsWord_81 rfl rfl ?_
            have n_82 : vp_in (16511 : Int32) 19800 := (t_in (by decide))
            refine va_iald hx hb hK.1 hP 1 0 rfl rfl n_82 dX11_setsWord_82 ?_
            refine q_nm (fun x4 e_x4 => ?_)
            have e_x4 : x4 = (I_m_3 1) 16511 := e_x4
            have g_x4 : x4.toInt = ((I_m_3 1) 16511).toInt := congrArg _ e_x4
            refine lv_aload_n hx hb dX11_setsWord_83 rfl (lv_at hl 2 rfl) ?_
            refine lv_iload hx hb dX11_setsWord_84 (lv_at hl 0 rfl) ?_
            refine EffI.cv (wr := ([])) (w' := fun u6 => wX11 g a_m u6 J_m) (As := [.int r1]) (kX11_setsRule l g a_m I_m_3 J_m r1 hM_3 (by omega) (by have := hs86.2.1; omega)) fx (gUV (uT _) u_753 u_754 u_755 u_5 u_756) rfl hdX11_setsRule ⟨Nat.le_of_ble_eq_true rfl, Nat.le_of_ble_eq_true rfl⟩ hK hP hD hS hA [0, 1, 2, 3, 4, 5, 6, 7, 8, 9, 10, 11, 12, 13, 14, 15, 16, 17, 18, 19, 20, 21, 22] [] [0, 1, 2, 3, 4, 5, 6, 7, 8, 9, 10, 11, 12, 13, 14, 15, 16, 17, 18, 19, 20, 21, 22] rfl rfl rfl rfl (by decide) rfl (fun _ => rfl) rfl rfl rfl rfl hl.1 (Nat.le_of_ble_eq_true rfl) dX11_setsWord_86 (fun r5 u6 H locs p_r5 hP hD hS => ?_)
            have hP : va_P g.1 vwCl (wX11 g a_m u6 J_m) H := hP
            have hD : va_D A (wX11 g a_m u6 J_m) := hD
            have hs87 : SE I_m u6 (4 * (v4_3.toInt - first.toInt) + 4) := hs_3.tr (hs86.tr p_r5.2.2.2.2.2.1 (by omega : (1 : Int) + 3 ≤ 4)) (by omega)
            refine r_iadd hx hb dX11_setsWord_89 rfl rfl (fun x7 e_x7 t_x7 => ?_)
            try have t_x7 := t_x7 (by omega)
            have n_90 : vp_in (16511 : Int32) 19800 := (t_in (by decide))
            obtain ⟨f8, e_f8⟩ : ∃ z, z = upd (u6 1) (16511 : Int32).toNatClampNeg x7 := ⟨_, rfl⟩
            refine va_iast hx hb hK.1 hP hD hS 1 0 rfl rfl n_90 dX11_setsWord_90 (fun H locs hP hD hS => ?_)
            have hP : va_P g.1 vwCl (wX11 g a_m (uR u6 1 f8) J_m) H := by rw [e_f8]; exact hP
            have hD : va_D A (wX11 g a_m (uR u6 1 f8) J_m) := by rw [e_f8]; exact hD
            have hc_90 : MI (uR u6 1 f8) := MI.ua (p_r5.1) e_f8 (by decide : (16511 : Int32).toInt = 16511) (by omega) (by omega)
            have hk_90 : KK [1] [20, 21] I_m (uR u6 1 f8) := KK.ur (KK.tr hk_3 p_r5.2.2.1 (by decide) (by decide)) (by decide) (by decide)
            have hw_90 : WK I_m (uR u6 1 f8) := WK.ua (WK.tr hw_3 p_r5.2.1) e_f8 (by decide : (16511 : Int32).toInt = 16511) (by omega)
            have hs90 : SE I_m (uR u6 1 f8) (4 * (v4_3.toInt - first.toInt) + 4) := hs87.ua e_f8 rfl (by omega)
            have n90 := congrArg Int32.toInt ((congrFun e_f8 16508).trans (pk_un (by decide)))
            refine lv_iload hx hb dX11_setsWord_91 (lv_at hl 1 rfl) ?_
            refine lv_aload_n hx hb dX11_setsWord_93 rfl (lv_at hl 2 rfl) ?_
            refine va_get (D := g.1) (ci := 11) (v := .ref (a_m 1)) (C := RX11) (T := TX11) (N := 46) hx hb hi_X11 (fun _ h => h) hown hK.1 hP 0 rfl rfl 0 (by decide) hf_7 (fun _ h9 => h9) rfl dX11_setsWord_94 ?_
            refine lv_iconst (v := 0) hx hb dX11_setsWord_97 (by decide) ?_
            refine lv_iload hx hb dX11_setsWord_98 (lv_at hl 0 rfl) ?_
            refine PurI.cs (C := RX11) (As := [.int (0 : Int32), .int r1]) (kX11_ruleAt l g (0 : Int32) r1 (by omega) (by omega)) fx (gUS (uT _) u_554 u_555 u_5 u_556) rfl hdX11_ruleAt ⟨Nat.le_of_ble_eq_true rfl, Nat.le_of_ble_eq_true rfl⟩ hK hP [] rfl rfl rfl hl.1 (Nat.le_of_ble_eq_true rfl) dX11_setsWord_100 (fun r9 p_r9 => ?_)
            have n_103 : vp_in r9 19800 := (t_in (by omega))
            refine va_iald hx hb hK.1 hP 1 0 rfl rfl n_103 dX11_setsWord_103 ?_
            refine q_nm (fun x10 e_x10 => ?_)
            have e_x10 : x10 = f8 r9.toNatClampNeg := e_x10
            have g_x10 : x10.toInt = (f8 r9.toNatClampNeg).toInt := congrArg _ e_x10
            have f_x10 := TS.lc hc_90.t0 (r := (r1).toInt) e_x10 (by omega) (by omega)
            have y_x10 := TS.lm hc_90.t0 (r := (r1).toInt) e_x10 (y := I_m_3 1 0) ((hw_3 0 (by decide)).trans (hw_90 0 (by decide)).symm) (by omega) (by omega) (by omega)
            have m_x10 : x10.toInt = (I_m_3 1 (12 * (r1).toInt.toNat + 12)).toInt := by rw [at_ix (k := 12 * (r1).toInt.toNat + 12) e_x10 (by omega)]; exact congrArg Int32.toInt ((hw_90 _ (by omega)).trans (hw_3 _ (by omega)).symm)
            refine r_iadd hx hb dX11_setsWord_104 rfl rfl (fun x11 e_x11 t_x11 => ?_)
            try have t_x11 := t_x11 (by omega)
            refine lv_istore (lv' := [(4, .int x11), (5, .int r1), (0, .ref (a_m 0)), (1, .int first), (2, .int last), (3, .int gone)]) hx hb dX11_setsWord_105 hl (by decide) rfl (fun ls hl => ?_)
            refine lv_goto (tgt := 3) hx hb dX11_setsWord_107 (by decide) ?_
            exact ih_3 x11 (uR u6 1 f8) hc_90 hw_90 hk_90 (by omega) (hs90.tr (SE.rf _) (by omega)) (by exact (fun c0 hw => by have t15 := p_r1.2 (⟨by rw [hn3]; exact hw.1.1.2.2.2, fun j z1 z2 => by rw [hb3]; exact hw.1.2.1 j (by omega) z2⟩ : uPm I_m_3 v4_3.toInt last.toInt); rw [ht3, hb3] at t15; have b37 : (r2).toInt = uBM I_m v4_3.toInt.toNat := (by rw [← hb3]; exact u_by (k := v4_3) (n := last.toInt) p_r2 (by omega) (by omega) (by rw [hn3]; exact hw.1.1.2.2.2)); have ca : uCa (uBM I_m) v4_3.toInt = 0 := (by unfold uCa; rw [if_neg (fun z => q_43 (by rw [b37]; exact z))]); have l15 := (t15.resolve_left (fun z => by omega)).2; have c86 := p_r5.2.2.2.2.2.2.1; have r86 := p_r5.2.2.2.2.2.2.2.1; have lc := uTM.lc (I := I_m) (r := (r1).toInt.toNat) (by rw [← hw_3 0 (by decide)]; omega); have cc := uTM.cc (I := I_m) (r := (r1).toInt.toNat) (by rw [← hw_3 0 (by decide)]; omega); have m3 : I_m_3 1 (12 * (r1).toInt.toNat + 12) = I_m 1 (12 * (r1).toInt.toNat + 12) := hw_3 _ (by omega); have m4 : (r5) = I_m 1 (12 * (r1).toInt.toNat + 19) := (r86.trans (by exact hw_3 _ (by omega))); have m5 := congrArg Int32.toInt m3; have m6 := congrArg Int32.toInt m4; have ml := uTM.l1 hM (r := (r1).toInt.toNat) (by rw [← hw_3 0 (by decide)]; omega); exact uWi.st (hF_3 c0 hw) hw.1 (by omega) (by omega) l15 ml (fun z => absurd (by rw [b37]; exact z) q_43) (show (f8 16508).toInt = _ from (by omega)) (by omega))) (fun w => by (have w1 := w.1; have w2 := w.2.1; have t15 := p_r1.2 (⟨by rw [hn3]; omega, fun j z1 z2 => by rw [hb3]; exact Or.inl (w.2.2.1 j (by omega))⟩ : uPm I_m_3 v4_3.toInt last.toInt); rw [ht3, hb3, w1, w2] at t15; have l15 := (t15.resolve_left (fun z => by omega)).2; have r86 := p_r5.2.2.2.2.2.2.2.1; have hr9 : (((r1).toInt.toNat : Nat) : Int) < (I_m 1 0).toInt := (by rw [← hw_3 0 (by decide)]; omega); have lc := uTM.lc (I := I_m) hr9; have cc := uTM.cc (I := I_m) hr9; have c1 := uTM.c1 hM hr9; have m3 : I_m_3 1 (12 * (r1).toInt.toNat + 12) = I_m 1 (12 * (r1).toInt.toNat + 12) := hw_3 _ (by omega); have m4 : (r5) = I_m 1 (12 * (r1).toInt.toNat + 19) := r86.trans (hw_3 _ (by omega)); have m5 := congrArg Int32.toInt m3; exact tWs.st (r := (r1).toInt.toNat) (hX_3 w) (by omega) (by omega) l15 (by omega) (fun l h => by have c9 := p_r5.2.2.2.2.2.2.2.2 l h; have e9 : tCs (uTM I_m) (r1).toInt.toNat = tCl (fun k => (I_m_3 1 (12 * (r1).toInt.toNat + 20 + k)).toInt) (r5).toInt.toNat := (by rw [tCs.md hr9, m4]; exact tCl.cg (fun k hk => by show (I_m 1 _).toInt = (I_m_3 1 _).toInt; rw [hw_3 _ (by omega)])); rw [e9]; exact c9.cg n90 (fun k hk => (congrFun e_f8 _).trans (pk_un (by show _ ≠ 16511; omega)))))) (by omega) _ _ hP hD hS ls (lv_sub hl [0, 2, 3, 4, 5] rfl)
          · have q_43 := bP.t p_r3 b_43
            refine lv_aload_n hx hb dX11_setsWord_46 rfl (lv_at hl 2 rfl) ?_
            refine va_get (D := g.1) (ci := 11) (v := .ref (a_m 1)) (C := RX11) (T := TX11) (N := 46) hx hb hi_X11 (fun _ h => h) hown hK.1 hP 0 rfl rfl 0 (by decide) hf_7 (fun _ h9 => h9) rfl dX11_setsWord_47 ?_
            refine lv_iconst (v := 1) hx hb dX11_setsWord_50 (by decide) ?_
            have n_51 : vp_in (1 : Int32) 19800 := (t_in (by decide))
            refine va_iald hx hb hK.1 hP 1 0 rfl rfl n_51 dX11_setsWord_51 ?_
            refine q_nm (fun x12 e_x12 => ?_)
            have e_x12 : x12 = (I_m_3 1) 1 := e_x12
            have g_x12 : x12.toInt = ((I_m_3 1) 1).toInt := congrArg _ e_x12
            have f_x12 := MI.sign hM_3 1 (by decide) e_x12
            refine q_if_ne (tgt := 63) hx hb dX11_setsWord_52 (by decide) rfl (fun b_52 k_52 => ?_) (fun b_52 k_52 => ?_)
            · refine lv_aload_n hx hb dX11_setsWord_63 rfl (lv_at hl 2 rfl) ?_
              refine lv_aload_n hx hb dX11_setsWord_64 rfl (lv_at hl 2 rfl) ?_
              refine va_get (D := g.1) (ci := 11) (v := .ref (a_m 1)) (C := RX11) (T := TX11) (N := 46) hx hb hi_X11 (fun _ h => h) hown hK.1 hP 0 rfl rfl 0 (by decide) hf_7 (fun _ h9 => h9) rfl dX11_setsWord_65 ?_
              refine lv_iconst (v := 1) hx hb dX11_setsWord_68 (by decide) ?_
              have n_69 : vp_in (1 : Int32) 19800 := (t_in (by decide))
              refine va_iald hx hb hK.1 hP 1 0 rfl rfl n_69 dX11_setsWord_69 ?_
              refine q_nm (fun x13 e_x13 => ?_)
              have e_x13 : x13 = (I_m_3 1) 1 := e_x13
              have g_x13 : x13.toInt = ((I_m_3 1) 1).toInt := congrArg _ e_x13
              have f_x13 := MI.sign hM_3 1 (by decide) e_x13
              refine lv_iconst (v := -1) hx hb dX11_setsWord_70 (by decide) ?_
              refine EffV.cv (wr := ([])) (w' := fun u15 => wX11 g a_m u15 J_m) (As := [.int x13, .int (-1 : Int32)]) (kX11_sets l g a_m I_m_3 J_m x13 (-1 : Int32) hM_3 (by omega) (by omega)) fx (gUV (uT _) u_724 u_725 u_726 u_5 u_727) rfl hdX11_sets ⟨Nat.le_of_ble_eq_true rfl, Nat.le_of_ble_eq_true rfl⟩ hK hP hD hS hA [0, 1, 2, 3, 4, 5, 6, 7, 8, 9, 10, 11, 12, 13, 14, 15, 16, 17, 18, 19, 20, 21, 22] [] [0, 1, 2, 3, 4, 5, 6, 7, 8, 9, 10, 11, 12, 13, 14, 15, 16, 17, 18, 19, 20, 21, 22] rfl rfl rfl rfl (by decide) rfl (fun _ => rfl) rfl rfl rfl rfl hl.1 (Nat.le_of_ble_eq_true rfl) dX11_setsWord_71 (fun u15 H locs p_r14 hP hD hS => ?_)
              have hP : va_P g.1 vwCl (wX11 g a_m u15 J_m) H := hP
              have hD : va_D A (wX11 g a_m u15 J_m) := hD
              have hs71 := p_r14.2.2.2.1
              have hq71 := p_r14.2.2.2.2.1
              have hs86 : SE I_m_3 u15 1 := p_r14.2.2.2.1
              refine lv_aload_n hx hb dX11_setsWord_74 rfl (lv_at hl 2 rfl) ?_
              refine va_get (D := g.1) (ci := 11) (v := .ref (a_m 1)) (C := RX11) (T := TX11) (N := 46) hx hb hi_X11 (fun _ h => h) hown hK.1 hP 0 rfl rfl 0 (by decide) hf_7 (fun _ h9 => h9) rfl dX11_setsWord_75 ?_
              refine lv_sipush (v := 16511) hx hb dX11_setsWord_78 (by decide) ?_
              refine lv_dup2_11 hx hb dX11_setsWord_81 rfl rfl ?_
              have n_82 : vp_in (16511 : Int32) 19800 := (t_in (by decide))
              refine va_iald hx hb hK.1 hP 1 0 rfl rfl n_82 dX11_setsWord_82 ?_
              refine q_nm (fun x16 e_x16 => ?_)
              have e_x16 : x16 = (u15 1) 16511 := e_x16
              have g_x16 : x16.toInt = ((u15 1) 16511).toInt := congrArg _ e_x16
              refine lv_aload_n hx hb dX11_setsWord_83 rfl (lv_at hl 2 rfl) ?_
              refine lv_iload hx hb dX11_setsWord_84 (lv_at hl 0 rfl) ?_
              refine EffI.cv (wr := ([])) (w' := fun u18 => wX11 g a_m u18 J_m) (As := [.int r1]) (kX11_setsRule l g a_m u15 J_m r1 (p_r14.1) (by omega) (by have := hs86.2.1; omega)) fx (gUV (uT _) u_753 u_754 u_755 u_5 u_756) rfl hdX11_setsRule ⟨Nat.le_of_ble_eq_true rfl, Nat.le_of_ble_eq_true rfl⟩ hK hP hD hS hA [0, 1, 2, 3, 4, 5, 6, 7, 8, 9, 10, 11, 12, 13, 14, 15, 16, 17, 18, 19, 20, 21, 22] [] [0, 1, 2, 3, 4, 5, 6, 7, 8, 9, 10, 11, 12, 13, 14, 15, 16, 17, 18, 19, 20, 21, 22] rfl rfl rfl rfl (by decide) rfl (fun _ => rfl) rfl rfl rfl rfl hl.1 (Nat.le_of_ble_eq_true rfl) dX11_setsWord_86 (fun r17 u18 H locs p_r17 hP hD hS => ?_)
              have hP : va_P g.1 vwCl (wX11 g a_m u18 J_m) H := hP
              have hD : va_D A (wX11 g a_m u18 J_m) := hD
              have hs87 : SE I_m u18 (4 * (v4_3.toInt - first.toInt) + 4) := hs_3.tr (hs86.tr p_r17.2.2.2.2.2.1 (by omega : (1 : Int) + 3 ≤ 4)) (by omega)
              refine r_iadd hx hb dX11_setsWord_89 rfl rfl (fun x19 e_x19 t_x19 => ?_)
              try have t_x19 := t_x19 (by omega)
              have n_90 : vp_in (16511 : Int32) 19800 := (t_in (by decide))
              obtain ⟨f20, e_f20⟩ : ∃ z, z = upd (u18 1) (16511 : Int32).toNatClampNeg x19 := ⟨_, rfl⟩
              refine va_iast hx hb hK.1 hP hD hS 1 0 rfl rfl n_90 dX11_setsWord_90 (fun H locs hP hD hS => ?_)
              have hP : va_P g.1 vwCl (wX11 g a_m (uR u18 1 f20) J_m) H := by rw [e_f20]; exact hP
              have hD : va_D A (wX11 g a_m (uR u18 1 f20) J_m) := by rw [e_f20]; exact hD
              have hc_90 : MI (uR u18 1 f20) := MI.ua (p_r17.1) e_f20 (by decide : (16511 : Int32).toInt = 16511) (by omega) (by omega)
              have hk_90 : KK [1] [20, 21] I_m (uR u18 1 f20) := KK.ur (KK.tr (KK.tr hk_3 p_r14.2.2.1 (by decide) (by decide)) p_r17.2.2.1 (by decide) (by decide)) (by decide) (by decide)
              have hw_90 : WK I_m (uR u18 1 f20) := WK.ua (WK.tr (WK.tr hw_3 p_r14.2.1) p_r17.2.1) e_f20 (by decide : (16511 : Int32).toInt = 16511) (by omega)
              have hs90 : SE I_m (uR u18 1 f20) (4 * (v4_3.toInt - first.toInt) + 4) := hs87.ua e_f20 rfl (by omega)
              have n90 := congrArg Int32.toInt ((congrFun e_f20 16508).trans (pk_un (by decide)))
              refine lv_iload hx hb dX11_setsWord_91 (lv_at hl 1 rfl) ?_
              refine lv_aload_n hx hb dX11_setsWord_93 rfl (lv_at hl 2 rfl) ?_
              refine va_get (D := g.1) (ci := 11) (v := .ref (a_m 1)) (C := RX11) (T := TX11) (N := 46) hx hb hi_X11 (fun _ h => h) hown hK.1 hP 0 rfl rfl 0 (by decide) hf_7 (fun _ h9 => h9) rfl dX11_setsWord_94 ?_
              refine lv_iconst (v := 0) hx hb dX11_setsWord_97 (by decide) ?_
              refine lv_iload hx hb dX11_setsWord_98 (lv_at hl 0 rfl) ?_
              refine PurI.cs (C := RX11) (As := [.int (0 : Int32), .int r1]) (kX11_ruleAt l g (0 : Int32) r1 (by omega) (by omega)) fx (gUS (uT _) u_554 u_555 u_5 u_556) rfl hdX11_ruleAt ⟨Nat.le_of_ble_eq_true rfl, Nat.le_of_ble_eq_true rfl⟩ hK hP [] rfl rfl rfl hl.1 (Nat.le_of_ble_eq_true rfl) dX11_setsWord_100 (fun r21 p_r21 => ?_)
              have n_103 : vp_in r21 19800 := (t_in (by omega))
              refine va_iald hx hb hK.1 hP 1 0 rfl rfl n_103 dX11_setsWord_103 ?_
              refine q_nm (fun x22 e_x22 => ?_)
              have e_x22 : x22 = f20 r21.toNatClampNeg := e_x22
              have g_x22 : x22.toInt = (f20 r21.toNatClampNeg).toInt := congrArg _ e_x22
              have f_x22 := TS.lc hc_90.t0 (r := (r1).toInt) e_x22 (by omega) (by omega)
              have y_x22 := TS.lm hc_90.t0 (r := (r1).toInt) e_x22 (y := I_m_3 1 0) ((hw_3 0 (by decide)).trans (hw_90 0 (by decide)).symm) (by omega) (by omega) (by omega)
              have m_x22 : x22.toInt = (I_m_3 1 (12 * (r1).toInt.toNat + 12)).toInt := by rw [at_ix (k := 12 * (r1).toInt.toNat + 12) e_x22 (by omega)]; exact congrArg Int32.toInt ((hw_90 _ (by omega)).trans (hw_3 _ (by omega)).symm)
              refine r_iadd hx hb dX11_setsWord_104 rfl rfl (fun x23 e_x23 t_x23 => ?_)
              try have t_x23 := t_x23 (by omega)
              refine lv_istore (lv' := [(4, .int x23), (5, .int r1), (0, .ref (a_m 0)), (1, .int first), (2, .int last), (3, .int gone)]) hx hb dX11_setsWord_105 hl (by decide) rfl (fun ls hl => ?_)
              refine lv_goto (tgt := 3) hx hb dX11_setsWord_107 (by decide) ?_
              exact ih_3 x23 (uR u18 1 f20) hc_90 hw_90 hk_90 (by omega) (hs90.tr (SE.rf _) (by omega)) (by first | exact (fun c0 hw => by have t15 := p_r1.2 (⟨by rw [hn3]; exact hw.1.1.2.2.2, fun j z1 z2 => by rw [hb3]; exact hw.1.2.1 j (by omega) z2⟩ : uPm I_m_3 v4_3.toInt last.toInt); rw [ht3, hb3] at t15; have b37 : (r2).toInt = uBM I_m v4_3.toInt.toNat := (by rw [← hb3]; exact u_by (k := v4_3) (n := last.toInt) p_r2 (by omega) (by omega) (by rw [hn3]; exact hw.1.1.2.2.2)); have ca : uCa (uBM I_m) v4_3.toInt = 0 := (by unfold uCa; rw [if_neg (fun z => q_43 (by rw [b37]; exact z))]); have l15 := (t15.resolve_left (fun z => by omega)).2; have c86 := p_r17.2.2.2.2.2.2.1; have r86 := p_r17.2.2.2.2.2.2.2.1; have lc := uTM.lc (I := I_m) (r := (r1).toInt.toNat) (by rw [← hw_3 0 (by decide)]; omega); have cc := uTM.cc (I := I_m) (r := (r1).toInt.toNat) (by rw [← hw_3 0 (by decide)]; omega); have m3 : I_m_3 1 (12 * (r1).toInt.toNat + 12) = I_m 1 (12 * (r1).toInt.toNat + 12) := hw_3 _ (by omega); have m4 : (r17) = I_m 1 (12 * (r1).toInt.toNat + 19) := (r86.trans (by first | exact ((p_r14.2.1 _ (by omega)).trans (hw_3 _ (by omega))) | exact hw_3 _ (by omega))); have m5 := congrArg Int32.toInt m3; have m6 := congrArg Int32.toInt m4; have ml := uTM.l1 hM (r := (r1).toInt.toNat) (by rw [← hw_3 0 (by decide)]; omega); exact uWi.st (hF_3 c0 hw) hw.1 (by omega) (by omega) l15 ml (fun z => absurd (by rw [b37]; exact z) q_43) (show (f20 16508).toInt = _ from (by omega)) (by omega)) | exact (fun c0 hw => by have t15 := p_r1.2 (⟨by rw [hn3]; exact hw.1.1.2.2.2, fun j z1 z2 => by rw [hb3]; exact hw.1.2.1 j (by omega) z2⟩ : uPm I_m_3 v4_3.toInt last.toInt); rw [ht3, hb3] at t15; have b37 : (r2).toInt = uBM I_m v4_3.toInt.toNat := (by rw [← hb3]; exact u_by (k := v4_3) (n := last.toInt) p_r2 (by omega) (by omega) (by rw [hn3]; exact hw.1.1.2.2.2)); have ca : uCa (uBM I_m) v4_3.toInt = 1 := (by unfold uCa; rw [if_pos (by rw [← b37]; exact q_43)]); have c71 := p_r14.2.2.2.2.1; have l15 := (t15.resolve_left (fun z => by omega)).2; have c86 := p_r17.2.2.2.2.2.2.1; have r86 := p_r17.2.2.2.2.2.2.2.1; have lc := uTM.lc (I := I_m) (r := (r1).toInt.toNat) (by rw [← hw_3 0 (by decide)]; omega); have cc := uTM.cc (I := I_m) (r := (r1).toInt.toNat) (by rw [← hw_3 0 (by decide)]; omega); have m3 : I_m_3 1 (12 * (r1).toInt.toNat + 12) = I_m 1 (12 * (r1).toInt.toNat + 12) := hw_3 _ (by omega); have m4 : (r17) = I_m 1 (12 * (r1).toInt.toNat + 19) := (r86.trans (by first | exact ((p_r14.2.1 _ (by omega)).trans (hw_3 _ (by omega))) | exact hw_3 _ (by omega))); have m5 := congrArg Int32.toInt m3; have m6 := congrArg Int32.toInt m4; have ml := uTM.l1 hM (r := (r1).toInt.toNat) (by rw [← hw_3 0 (by decide)]; omega); exact uWi.st (hF_3 c0 hw) hw.1 (by omega) (by omega) l15 ml (fun _ => by rw [uTM.sg (by decide)]; show (I_m 1 1).toInt ≠ 0; rw [← hw_3 1 (by decide), show I_m_3 1 1 = x12 from e_x12.symm]; omega) (show (f20 16508).toInt = _ from (by omega)) (by omega))) (fun w => by first | (have z71 := p_r14; have w1 := w.1; have w2 := w.2.1; have b37 : (r2).toInt = uBM I_m v4_3.toInt.toNat := (by rw [← hb3]; exact u_by (k := v4_3) (n := last.toInt) p_r2 (by omega) (by omega) (by rw [hn3]; omega)); have g9 : uGr (uBM I_m v4_3.toInt.toNat) := (by rw [← b37]; exact q_43); have s9 := w.2.2.1 v4_3.toInt.toNat (by omega); obtain ⟨g1, g2⟩ := g9; exfalso; omega) | (have w1 := w.1; have w2 := w.2.1; have t15 := p_r1.2 (⟨by rw [hn3]; omega, fun j z1 z2 => by rw [hb3]; exact Or.inl (w.2.2.1 j (by omega))⟩ : uPm I_m_3 v4_3.toInt last.toInt); rw [ht3, hb3, w1, w2] at t15; have l15 := (t15.resolve_left (fun z => by omega)).2; have r86 := p_r17.2.2.2.2.2.2.2.1; have hr9 : (((r1).toInt.toNat : Nat) : Int) < (I_m 1 0).toInt := (by rw [← hw_3 0 (by decide)]; omega); have lc := uTM.lc (I := I_m) hr9; have cc := uTM.cc (I := I_m) hr9; have c1 := uTM.c1 hM hr9; have m3 : I_m_3 1 (12 * (r1).toInt.toNat + 12) = I_m 1 (12 * (r1).toInt.toNat + 12) := hw_3 _ (by omega); have m4 : (r17) = I_m 1 (12 * (r1).toInt.toNat + 19) := r86.trans (hw_3 _ (by omega)); have m5 := congrArg Int32.toInt m3; exact tWs.st (r := (r1).toInt.toNat) (hX_3 w) (by omega) (by omega) l15 (by omega) (fun l h => by have c9 := p_r17.2.2.2.2.2.2.2.2 l h; have e9 : tCs (uTM I_m) (r1).toInt.toNat = tCl (fun k => (I_m_3 1 (12 * (r1).toInt.toNat + 20 + k)).toInt) (r17).toInt.toNat := (by rw [tCs.md hr9, m4]; exact tCl.cg (fun k hk => by show (I_m 1 _).toInt = (I_m_3 1 _).toInt; rw [hw_3 _ (by omega)])); rw [e9]; exact c9.cg n90 (fun k hk => (congrFun e_f20 _).trans (pk_un (by show _ ≠ 16511; omega)))))) (by omega) _ _ hP hD hS ls (lv_sub hl [0, 2, 3, 4, 5] rfl)
            · refine lv_aload_n hx hb dX11_setsWord_55 rfl (lv_at hl 2 rfl) ?_
              refine lv_iconst (v := 5) hx hb dX11_setsWord_56 (by decide) ?_
              refine lv_iload hx hb dX11_setsWord_57 (lv_at hl 1 rfl) ?_
              refine EffI.cv (wr := ([])) (w' := fun u25 => wX11 g a_m u25 J_m) (As := [.int (5 : Int32), .int v4_3]) (kX11_isBad l g a_m I_m_3 J_m (5 : Int32) v4_3) fx (gUV (uT _) u_720 u_721 u_722 u_5 u_723) rfl hdX11_isBad ⟨Nat.le_of_ble_eq_true rfl, Nat.le_of_ble_eq_true rfl⟩ hK hP hD hS hA [0, 1, 2, 3, 4, 5, 6, 7, 8, 9, 10, 11, 12, 13, 14, 15, 16, 17, 18, 19, 20, 21, 22] [] [0, 1, 2, 3, 4, 5, 6, 7, 8, 9, 10, 11, 12, 13, 14, 15, 16, 17, 18, 19, 20, 21, 22] rfl rfl rfl rfl (by decide) rfl (fun _ => rfl) rfl rfl rfl rfl hl.1 (Nat.le_of_ble_eq_true rfl) dX11_setsWord_59 (fun r24 u25 H locs p_r24 hP hD hS => ?_)
              have hP : va_P g.1 vwCl (wX11 g a_m u25 J_m) H := hP
              have hD : va_D A (wX11 g a_m u25 J_m) := hD
              have hs59 : SE I_m u25 (4 * (last.toInt - first.toInt)) := hs_3.tr (SE.kk (SE.rf _) p_r24.1 (by decide)) (by omega)
              refine hret 62 ls r24 _ _ u25 dX11_setsWord_62 (Or.inl p_r24.2.1) hS hP hD ?_
              exact ⟨(MI.kk hM_3 p_r24.1 (by decide) (by decide)), (WK.kk hw_3 p_r24.1 (by decide)), (KK.tr hk_3 p_r24.1 (by decide) (by decide)), ⟨Or.inl p_r24.2.1, hs59, (fun c0 hw => Or.inr ⟨p_r24.2.1, (by have t15 := p_r1.2 (⟨by rw [hn3]; exact hw.1.1.2.2.2, fun j z1 z2 => by rw [hb3]; exact hw.1.2.1 j (by omega) z2⟩ : uPm I_m_3 v4_3.toInt last.toInt); rw [ht3, hb3] at t15; have b37 : (r2).toInt = uBM I_m v4_3.toInt.toNat := (by rw [← hb3]; exact u_by (k := v4_3) (n := last.toInt) p_r2 (by omega) (by omega) (by rw [hn3]; exact hw.1.1.2.2.2)); obtain ⟨c9, e1, e2, e3⟩ := uWi.fl (k := 5) (hF_3 c0 hw) (fun c => ⟨(by have := hw.1.1; show v4_3.toInt < _; omega), Or.inr (Or.inr ⟨hw.1.2.1 _ (by omega) (by omega), _, _, hw.1.sh (by omega) (by omega), Or.inr ⟨⟨_, (t15.resolve_left (fun z => by omega)).2⟩, (by show uGr (uBM I_m v4_3.toInt.toNat); rw [← b37]; exact q_43), (by rw [uTM.sg (by decide)]; show (I_m 1 1).toInt = 0; rw [← hw_3 1 (by decide), show I_m_3 1 1 = x12 from e_x12.symm]; omega), rfl⟩⟩)⟩); exact ⟨c9, e1, (by rw [p_r24.2.2.1]; exact e2), (by rw [p_r24.2.2.2]; exact e3)⟩)⟩), (fun w => by have w1 := w.1; have w2 := w.2.1; have b37 : (r2).toInt = uBM I_m v4_3.toInt.toNat := (by rw [← hb3]; exact u_by (k := v4_3) (n := last.toInt) p_r2 (by omega) (by omega) (by rw [hn3]; omega)); have g9 : uGr (uBM I_m v4_3.toInt.toNat) := (by rw [← b37]; exact q_43); have s9 := w.2.2.1 v4_3.toInt.toNat (by omega); obtain ⟨g1, g2⟩ := g9; exfalso; omega)⟩⟩
        · refine lv_aload_n hx hb dX11_setsWord_26 rfl (lv_at hl 2 rfl) ?_
          refine lv_iconst (v := 3) hx hb dX11_setsWord_27 (by decide) ?_
          refine lv_iload hx hb dX11_setsWord_28 (lv_at hl 1 rfl) ?_
          refine EffI.cv (wr := ([])) (w' := fun u27 => wX11 g a_m u27 J_m) (As := [.int (3 : Int32), .int v4_3]) (kX11_isBad l g a_m I_m_3 J_m (3 : Int32) v4_3) fx (gUV (uT _) u_720 u_721 u_722 u_5 u_723) rfl hdX11_isBad ⟨Nat.le_of_ble_eq_true rfl, Nat.le_of_ble_eq_true rfl⟩ hK hP hD hS hA [0, 1, 2, 3, 4, 5, 6, 7, 8, 9, 10, 11, 12, 13, 14, 15, 16, 17, 18, 19, 20, 21, 22] [] [0, 1, 2, 3, 4, 5, 6, 7, 8, 9, 10, 11, 12, 13, 14, 15, 16, 17, 18, 19, 20, 21, 22] rfl rfl rfl rfl (by decide) rfl (fun _ => rfl) rfl rfl rfl rfl hl.1 (Nat.le_of_ble_eq_true rfl) dX11_setsWord_30 (fun r26 u27 H locs p_r26 hP hD hS => ?_)
          have hP : va_P g.1 vwCl (wX11 g a_m u27 J_m) H := hP
          have hD : va_D A (wX11 g a_m u27 J_m) := hD
          have hs30 : SE I_m u27 (4 * (last.toInt - first.toInt)) := hs_3.tr (SE.kk (SE.rf _) p_r26.1 (by decide)) (by omega)
          refine hret 33 ls r26 _ _ u27 dX11_setsWord_33 (Or.inl p_r26.2.1) hS hP hD ?_
          exact ⟨(MI.kk hM_3 p_r26.1 (by decide) (by decide)), (WK.kk hw_3 p_r26.1 (by decide)), (KK.tr hk_3 p_r26.1 (by decide) (by decide)), ⟨Or.inl p_r26.2.1, hs30, (fun c0 hw => Or.inr ⟨p_r26.2.1, (by have t15 := p_r1.2 (⟨by rw [hn3]; exact hw.1.1.2.2.2, fun j z1 z2 => by rw [hb3]; exact hw.1.2.1 j (by omega) z2⟩ : uPm I_m_3 v4_3.toInt last.toInt); rw [ht3, hb3] at t15; obtain ⟨c9, e1, e2, e3⟩ := uWi.fl (k := 3) (hF_3 c0 hw) (fun c => ⟨(by have := hw.1.1; show v4_3.toInt < _; omega), Or.inr (Or.inr ⟨hw.1.2.1 _ (by omega) (by omega), _, _, hw.1.sh (by omega) (by omega), Or.inl ⟨(t15.resolve_right (fun z => by omega)).2, rfl⟩⟩)⟩); exact ⟨c9, e1, (by rw [p_r26.2.2.1]; exact e2), (by rw [p_r26.2.2.2]; exact e3)⟩)⟩), (fun w => Or.inr ⟨p_r26.2.1, (by have w1 := w.1; have w2 := w.2.1; have t15 := p_r1.2 (⟨by rw [hn3]; omega, fun j z1 z2 => by rw [hb3]; exact Or.inl (w.2.2.1 j (by omega))⟩ : uPm I_m_3 v4_3.toInt last.toInt); rw [ht3, hb3, w1, w2] at t15; exact tWs.no (hX_3 w) (by omega) (by omega) (t15.resolve_right (fun z => by omega)).2)⟩)⟩⟩
  exact L3 ((301 - first.toInt) + 1).toNat first I_m hM (WK.rf I_m) (KK.rf I_m) (by omega) ((SE.rf _).tr (SE.rf _) (by omega)) (fun c0 hw => Or.inl ⟨rfl, hw.2⟩) (fun w => tWs.in w.1 w.2.2.2) (by omega) _ _ hP hD hS ls hl

set_option maxHeartbeats 4000000 in
set_option maxRecDepth 100000 in
theorem kX11_setsAll (l : Launch) (g : gG) (a_m : Nat → Nat) (I_m : Nat → Nat → Int32) (J_m : Nat → Nat → Int64) (gone : Int32) (hM : MI I_m) : EffI l g yX11_setsAll wsX11_setsAll 5 [.ref (a_m 0), .int gone] (wX11 g a_m I_m J_m) (fun (u : (Nat → Nat → Int32)) => wX11 g a_m u J_m) (fun r (u : (Nat → Nat → Int32)) => MI (u) ∧ WK I_m (u) ∧ KK [1] [20, 21] I_m (u) ∧ (r = 0 ∨ r = 1) ∧ BS I_m (u) ∧ (r = 1 → WQ (u) ∧ ((u) 1 16508).toInt ≤ 1200 ∧ ((u) 1 16509).toInt ≤ 150) ∧ (∃ (c v : Int × Int), gRe (uNx (uTM I_m) gone (uBM I_m) (I_m 1 16507).toInt) (0, 0) c ∧ uVd (uTM I_m) gone (uBM I_m) (I_m 1 16507).toInt c v ∧ ((r = 1 ∧ v = (0, -1) ∧ ((u) 1 16508).toInt = c.2) ∨ (r = 0 ∧ v = (((u) 0 20).toInt, ((u) 0 21).toInt) ∧ v.1 ≠ 0))) ∧ ((0 < (I_m 1 16507).toInt ∧ tSm (uBM I_m) (I_m 1 16507).toInt) → (r = 1 ∧ tWs (uTM I_m) gone (uBM I_m) (I_m 1 16507).toInt ((u) 1) (I_m 1 16507).toInt) ∨ (r = 0 ∧ tWn (uTM I_m) gone (uBM I_m) (I_m 1 16507).toInt))) := by
  refine EffI.sz (cc := cX11_setsAll) (maxL := 5) (by decide) rfl (Nat.le_of_ble_eq_true rfl) (fun p e s m args below meth c A Q ls fx hK hP hD hA hS hl hret => ?_)
  have hx := fx.1
  have hb := fx.2.1
  have hml := fx.2.2.1
  have hown := fx.2.2.2.1
  have hts := fx.2.2.2.2
  have hl : lv_has ls 5 [(0, .ref (a_m 0)), (1, .int gone)] := hl
  have hP : va_P g.1 vwCl (wX11 g a_m I_m J_m) s.heap := hP
  have hf_7 := hts _ (uT _ _ u_170)
  have hi_X11 : ∀ w ∈ wsX110, w.before args s = true := fun w h => hts w (uT _ w (u_wsX110 w h))
  have lm1 : (-1 : Int32).toInt = -1 := by decide
  have lm0 : (0 : Int32).toInt = 0 := by decide
  have lm2 : (1 : Int32).toInt = 1 := by decide
  have lq2 : (2 : Int32).toInt = 2 := by decide
  have lq4 : (4 : Int32).toInt = 4 := by decide
  have lq24 : (24 : Int32).toInt = 24 := by decide
  have lq16507 : (16507 : Int32).toInt = 16507 := by decide
  have lq16508 : (16508 : Int32).toInt = 16508 := by decide
  have lq16509 : (16509 : Int32).toInt = 16509 := by decide
  have lq16510 : (16510 : Int32).toInt = 16510 := by decide
  have lq16511 : (16511 : Int32).toInt = 16511 := by decide
  have lq18350 : (18350 : Int32).toInt = 18350 := by decide
  have lq18510 : (18510 : Int32).toInt = 18510 := by decide
  have hwb := hM.wb rfl
  refine lv_aload_n hx hb dX11_setsAll_0 rfl (lv_at hl 0 rfl) ?_
  refine va_get (D := g.1) (ci := 11) (v := .ref (a_m 1)) (C := RX11) (T := TX11) (N := 46) hx hb hi_X11 (fun _ h => h) hown hK.1 hP 0 rfl rfl 0 (by decide) hf_7 (fun _ h9 => h9) rfl dX11_setsAll_1 ?_
  refine lv_sipush (v := 16508) hx hb dX11_setsAll_4 (by decide) ?_
  refine lv_iconst (v := 0) hx hb dX11_setsAll_7 (by decide) ?_
  have n_8 : vp_in (16508 : Int32) 19800 := (t_in (by decide))
  obtain ⟨f1, e_f1⟩ : ∃ z, z = upd (I_m 1) (16508 : Int32).toNatClampNeg (0 : Int32) := ⟨_, rfl⟩
  refine va_iast hx hb hK.1 hP hD hS 1 0 rfl rfl n_8 dX11_setsAll_8 (fun H locs hP hD hS => ?_)
  have hP : va_P g.1 vwCl (wX11 g a_m (uR I_m 1 f1) J_m) H := by rw [e_f1]; exact hP
  have hD : va_D A (wX11 g a_m (uR I_m 1 f1) J_m) := by rw [e_f1]; exact hD
  have hc_8 : MI (uR I_m 1 f1) := MI.ua hM e_f1 (by decide : (16508 : Int32).toInt = 16508) (by omega) (by omega)
  have hk_8 : KK [1] [20, 21] I_m (uR I_m 1 f1) := KK.ur (KK.rf I_m) (by decide) (by decide)
  have hw_8 : WK I_m (uR I_m 1 f1) := WK.ua (WK.rf I_m) e_f1 (by decide : (16508 : Int32).toInt = 16508) (by omega)
  have hb8 : BS I_m (uR I_m 1 f1) := (BS.rf I_m).ua e_f1 (by decide : (16508 : Int32).toInt = 16508) (by omega) (by omega)
  refine lv_aload_n hx hb dX11_setsAll_9 rfl (lv_at hl 0 rfl) ?_
  refine va_get (D := g.1) (ci := 11) (v := .ref (a_m 1)) (C := RX11) (T := TX11) (N := 46) hx hb hi_X11 (fun _ h => h) hown hK.1 hP 0 rfl rfl 0 (by decide) hf_7 (fun _ h9 => h9) rfl dX11_setsAll_10 ?_
  refine lv_sipush (v := 16509) hx hb dX11_setsAll_13 (by decide) ?_
  refine lv_iconst (v := 0) hx hb dX11_setsAll_16 (by decide) ?_
  have n_17 : vp_in (16509 : Int32) 19800 := (t_in (by decide))
  obtain ⟨f2, e_f2⟩ : ∃ z, z = upd f1 (16509 : Int32).toNatClampNeg (0 : Int32) := ⟨_, rfl⟩
  refine va_iast hx hb hK.1 hP hD hS 1 0 rfl rfl n_17 dX11_setsAll_17 (fun H locs hP hD hS => ?_)
  have hP : va_P g.1 vwCl (wX11 g a_m (uR (uR I_m 1 f1) 1 f2) J_m) H := by rw [e_f2]; exact hP
  have hD : va_D A (wX11 g a_m (uR (uR I_m 1 f1) 1 f2) J_m) := by rw [e_f2]; exact hD
  have hc_17 : MI (uR (uR I_m 1 f1) 1 f2) := MI.ua hc_8 e_f2 (by decide : (16509 : Int32).toInt = 16509) (by omega) (by omega)
  have hk_17 : KK [1] [20, 21] I_m (uR (uR I_m 1 f1) 1 f2) := KK.ur hk_8 (by decide) (by decide)
  have hw_17 : WK I_m (uR (uR I_m 1 f1) 1 f2) := WK.ua hw_8 e_f2 (by decide : (16509 : Int32).toInt = 16509) (by omega)
  have hb17 : BS I_m (uR (uR I_m 1 f1) 1 f2) := hb8.ua e_f2 (by decide : (16509 : Int32).toInt = 16509) (by omega) (by omega)
  refine lv_aload_n hx hb dX11_setsAll_18 rfl (lv_at hl 0 rfl) ?_
  refine va_get (D := g.1) (ci := 11) (v := .ref (a_m 1)) (C := RX11) (T := TX11) (N := 46) hx hb hi_X11 (fun _ h => h) hown hK.1 hP 0 rfl rfl 0 (by decide) hf_7 (fun _ h9 => h9) rfl dX11_setsAll_19 ?_
  refine lv_sipush (v := 16510) hx hb dX11_setsAll_22 (by decide) ?_
  refine lv_iconst (v := 0) hx hb dX11_setsAll_25 (by decide) ?_
  have n_26 : vp_in (16510 : Int32) 19800 := (t_in (by decide))
  obtain ⟨f3, e_f3⟩ : ∃ z, z = upd f2 (16510 : Int32).toNatClampNeg (0 : Int32) := ⟨_, rfl⟩
  refine va_iast hx hb hK.1 hP hD hS 1 0 rfl rfl n_26 dX11_setsAll_26 (fun H locs hP hD hS => ?_)
  have hP : va_P g.1 vwCl (wX11 g a_m (uR (uR (uR I_m 1 f1) 1 f2) 1 f3) J_m) H := by rw [e_f3]; exact hP
  have hD : va_D A (wX11 g a_m (uR (uR (uR I_m 1 f1) 1 f2) 1 f3) J_m) := by rw [e_f3]; exact hD
  have hc_26 : MI (uR (uR (uR I_m 1 f1) 1 f2) 1 f3) := MI.ua hc_17 e_f3 (by decide : (16510 : Int32).toInt = 16510) (by omega) (by omega)
  have hk_26 : KK [1] [20, 21] I_m (uR (uR (uR I_m 1 f1) 1 f2) 1 f3) := KK.ur hk_17 (by decide) (by decide)
  have hw_26 : WK I_m (uR (uR (uR I_m 1 f1) 1 f2) 1 f3) := WK.ua hw_17 e_f3 (by decide : (16510 : Int32).toInt = 16510) (by omega)
  have hb26 : BS I_m (uR (uR (uR I_m 1 f1) 1 f2) 1 f3) := hb17.ua e_f3 (by decide : (16510 : Int32).toInt = 16510) (by omega) (by omega)
  refine lv_aload_n hx hb dX11_setsAll_27 rfl (lv_at hl 0 rfl) ?_
  refine va_get (D := g.1) (ci := 11) (v := .ref (a_m 1)) (C := RX11) (T := TX11) (N := 46) hx hb hi_X11 (fun _ h => h) hown hK.1 hP 0 rfl rfl 0 (by decide) hf_7 (fun _ h9 => h9) rfl dX11_setsAll_28 ?_
  refine lv_sipush (v := 16511) hx hb dX11_setsAll_31 (by decide) ?_
  refine lv_iconst (v := 0) hx hb dX11_setsAll_34 (by decide) ?_
  have n_35 : vp_in (16511 : Int32) 19800 := (t_in (by decide))
  obtain ⟨f4, e_f4⟩ : ∃ z, z = upd f3 (16511 : Int32).toNatClampNeg (0 : Int32) := ⟨_, rfl⟩
  refine va_iast hx hb hK.1 hP hD hS 1 0 rfl rfl n_35 dX11_setsAll_35 (fun H locs hP hD hS => ?_)
  have hP : va_P g.1 vwCl (wX11 g a_m (uR (uR (uR (uR I_m 1 f1) 1 f2) 1 f3) 1 f4) J_m) H := by rw [e_f4]; exact hP
  have hD : va_D A (wX11 g a_m (uR (uR (uR (uR I_m 1 f1) 1 f2) 1 f3) 1 f4) J_m) := by rw [e_f4]; exact hD
  have hc_35 : MI (uR (uR (uR (uR I_m 1 f1) 1 f2) 1 f3) 1 f4) := MI.ua hc_26 e_f4 (by decide : (16511 : Int32).toInt = 16511) (by omega) (by omega)
  have hk_35 : KK [1] [20, 21] I_m (uR (uR (uR (uR I_m 1 f1) 1 f2) 1 f3) 1 f4) := KK.ur hk_26 (by decide) (by decide)
  have hw_35 : WK I_m (uR (uR (uR (uR I_m 1 f1) 1 f2) 1 f3) 1 f4) := WK.ua hw_26 e_f4 (by decide : (16511 : Int32).toInt = 16511) (by omega)
  have hb35 : BS I_m (uR (uR (uR (uR I_m 1 f1) 1 f2) 1 f3) 1 f4) := hb26.ua e_f4 (by decide : (16511 : Int32).toInt = 16511) (by omega) (by omega)
  have h8_35 : ((uR (uR (uR (uR I_m 1 f1) 1 f2) 1 f3) 1 f4) 1 16508).toInt = 0 ∧ ((uR (uR (uR (uR I_m 1 f1) 1 f2) 1 f3) 1 f4) 1 16509).toInt = 0 := by show (f4 16508).toInt = 0 ∧ (f4 16509).toInt = 0; rw [e_f4, e_f3, e_f2, e_f1]; exact ⟨rfl, rfl⟩
  refine lv_iconst (v := 0) hx hb dX11_setsAll_36 (by decide) ?_
  refine lv_istore_n (lv' := [(2, .int (0 : Int32)), (0, .ref (a_m 0)), (1, .int gone)]) hx hb dX11_setsAll_37 rfl hl (by decide) rfl (fun ls hl => ?_)
  have L38 : ∀ (nn : Nat) (v2_38 : Int32) (I_m_38 : Nat → Nat → Int32), (hM_38 : MI I_m_38) → (hw_38 : WK I_m I_m_38) → (hk_38 : KK [1] [20, 21] I_m I_m_38) → (hv_38 : 0 ≤ v2_38.toInt ∧ v2_38.toInt ≤ 24) → (hb_38 : BS I_m I_m_38) → (h8_38 : (I_m_38 1 16508).toInt = 0 ∧ (I_m_38 1 16509).toInt = 0) → ((25 - v2_38.toInt) < (nn : Int)) → ∀ (H : Heap) (locs : List Loc), va_P g.1 vwCl (wX11 g a_m I_m_38 J_m) H → va_D A (wX11 g a_m I_m_38 J_m) → va_S A s.heap H locs → ∀ ls : Array Slot, lv_has ls 5 [(2, .int v2_38), (0, .ref (a_m 0)), (1, .int gone)] → W p l e (rm 5) s m args below meth c H locs 0 0 Q (F0 m 38 ls []) := by
    intro n_38
    induction n_38 with
    | zero =>
      intro v2_38 I_m_38 hM_38 hw_38 hk_38 hv_38 hb_38 h8_38 hms_38 H locs hP hD hS ls hl
      exfalso; omega
    | succ n_38 ih_38 =>
      intro v2_38 I_m_38 hM_38 hw_38 hk_38 hv_38 hb_38 h8_38 hms_38 H locs hP hD hS ls hl
      refine lv_iload_n hx hb dX11_setsAll_38 rfl (lv_at hl 0 rfl) ?_
      refine lv_bipush (v := 24) hx hb dX11_setsAll_39 (by decide) ?_
      refine q_icmp_ge (tgt := 61) hx hb dX11_setsAll_41 (by decide) rfl (by decide : (24 : Int32).toInt = 24) (fun k_41 => ?_) (fun k_41 => ?_)
      · refine lv_iconst (v := 0) hx hb dX11_setsAll_61 (by decide) ?_
        refine lv_istore_n (lv' := [(2, .int (0 : Int32)), (0, .ref (a_m 0)), (1, .int gone)]) hx hb dX11_setsAll_62 rfl hl (by decide) rfl (fun ls hl => ?_)
        have L63 : ∀ (nn : Nat) (v2_63 : Int32) (I_m_63 : Nat → Nat → Int32), (hM_63 : MI I_m_63) → (hw_63 : WK I_m I_m_63) → (hk_63 : KK [1] [20, 21] I_m I_m_63) → (hv_63 : 0 ≤ v2_63.toInt ∧ v2_63.toInt ≤ (I_m 1 16507).toInt) → (hb_63 : BS I_m I_m_63) → (hs_63 : SA I_m_63 v2_63.toInt) → (hF_63 : uLm (uTM I_m) gone (uBM I_m) (I_m 1 16507).toInt v2_63.toInt (I_m_63 1 16508).toInt (I_m_63 1 16509).toInt) → (hX_63 : (0 < (I_m 1 16507).toInt ∧ tSm (uBM I_m) (I_m 1 16507).toInt) → (v2_63.toInt = 0 ∧ (I_m_63 1 16508).toInt = 0) ∨ (v2_63.toInt = (I_m 1 16507).toInt ∧ tWs (uTM I_m) gone (uBM I_m) (I_m 1 16507).toInt (I_m_63 1) (I_m 1 16507).toInt)) → ((301 - v2_63.toInt) < (nn : Int)) → ∀ (H : Heap) (locs : List Loc), va_P g.1 vwCl (wX11 g a_m I_m_63 J_m) H → va_D A (wX11 g a_m I_m_63 J_m) → va_S A s.heap H locs → ∀ ls : Array Slot, lv_has ls 5 [(2, .int v2_63), (0, .ref (a_m 0)), (1, .int gone)] → W p l e (rm 5) s m args below meth c H locs 0 0 Q (F0 m 63 ls []) := by
          intro n_63
          induction n_63 with
          | zero =>
            intro v2_63 I_m_63 hM_63 hw_63 hk_63 hv_63 hb_63 hs_63 hF_63 hX_63 hms_63 H locs hP hD hS ls hl
            exfalso; omega
          | succ n_63 ih_63 =>
            intro v2_63 I_m_63 hM_63 hw_63 hk_63 hv_63 hb_63 hs_63 hF_63 hX_63 hms_63 H locs hP hD hS ls hl
            have hB63 : (I_m_63 1 16507).toInt = (I_m 1 16507).toInt := by rw [hb_63.1]
            have hq63 := hs_63.2.1
            have hz63 := hs_63.1.1
            have hy63 := hs_63.1.2.1
            have ht63 : uTM I_m_63 = uTM I_m := uTM.of hw_63 hM
            have hbm63 : uBM I_m_63 = uBM I_m := uBM.of hb_63 hM
            refine lv_iload_n hx hb dX11_setsAll_63 rfl (lv_at hl 0 rfl) ?_
            refine lv_aload_n hx hb dX11_setsAll_64 rfl (lv_at hl 1 rfl) ?_
            refine va_get (D := g.1) (ci := 11) (v := .ref (a_m 1)) (C := RX11) (T := TX11) (N := 46) hx hb hi_X11 (fun _ h => h) hown hK.1 hP 0 rfl rfl 0 (by decide) hf_7 (fun _ h9 => h9) rfl dX11_setsAll_65 ?_
            refine lv_sipush (v := 16507) hx hb dX11_setsAll_68 (by decide) ?_
            have n_71 : vp_in (16507 : Int32) 19800 := (t_in (by decide))
            refine va_iald hx hb hK.1 hP 1 0 rfl rfl n_71 dX11_setsAll_71 ?_
            refine q_nm (fun x5 e_x5 => ?_)
            have e_x5 : x5 = (I_m_63 1) 16507 := e_x5
            have g_x5 : x5.toInt = ((I_m_63 1) 16507).toInt := congrArg _ e_x5
            have f_x5 := MI.wb hM_63 e_x5
            refine q_icmp_ge (tgt := 300) hx hb dX11_setsAll_72 (by decide) rfl rfl (fun k_72 => ?_) (fun k_72 => ?_)
            · refine lv_iconst (v := 1) hx hb dX11_setsAll_300 (by decide) ?_
              have lr : (1 : Int32).toInt = 1 := by decide
              refine hret 301 ls (1 : Int32) _ _ I_m_63 dX11_setsAll_301 (Or.inr rfl) hS hP hD ?_
              exact ⟨hM_63, hw_63, hk_63, ⟨Or.inr rfl, hb_63, fun _ => ⟨hs_63.1, by omega, by omega⟩, ⟨_, (0, -1), hF_63.1, Or.inl ⟨by show (I_m 1 16507).toInt ≤ v2_63.toInt; omega, rfl⟩, Or.inl ⟨rfl, rfl, rfl⟩⟩, (fun w => Or.inl ⟨rfl, ((hX_63 w).resolve_left (fun z => by have z1 := z.1; have w1 := w.1; omega)).2⟩)⟩⟩
            · refine lv_aload_n hx hb dX11_setsAll_75 rfl (lv_at hl 1 rfl) ?_
              refine lv_iload_n hx hb dX11_setsAll_76 rfl (lv_at hl 0 rfl) ?_
              refine PurI.cv (As := [.int v2_63]) (kX11_byteOf l g a_m I_m_63 J_m v2_63 hM_63 (by omega)) fx (gUV (uT _) u_704 u_705 u_706 u_5 u_707) rfl hdX11_byteOf ⟨Nat.le_of_ble_eq_true rfl, Nat.le_of_ble_eq_true rfl⟩ hK hP [0, 1, 2, 3, 4, 5, 6, 7, 8, 9, 10, 11, 12, 13, 14, 15, 16, 17, 18, 19, 20, 21, 22] rfl rfl rfl rfl rfl hl.1 (Nat.le_of_ble_eq_true rfl) dX11_setsAll_77 (fun r6 p_r6 => ?_)
              have hb77 := p_r6
              have x77 : (r6).toInt = uBM I_m v2_63.toInt.toNat := by rw [← hbm63]; exact u_by (k := v2_63) (n := (I_m_63 1 16507).toInt) p_r6 (by omega) (by omega) (Int.le_refl _)
              refine lv_istore_n (lv' := [(3, .int r6), (2, .int v2_63), (0, .ref (a_m 0)), (1, .int gone)]) hx hb dX11_setsAll_80 rfl hl (by decide) rfl (fun ls hl => ?_)
              refine lv_iload_n hx hb dX11_setsAll_81 rfl (lv_at hl 0 rfl) ?_
              refine PurI.cs (C := RX11) (As := [.int r6]) (kX11_isBlank l g r6) fx (gUS (uT _) u_708 u_709 u_5 u_710) rfl hdX11_isBlank ⟨Nat.le_of_ble_eq_true rfl, Nat.le_of_ble_eq_true rfl⟩ hK hP [] rfl rfl rfl hl.1 (Nat.le_of_ble_eq_true rfl) dX11_setsAll_82 (fun r7 p_r7 => ?_)
              refine q_if_eq (tgt := 94) hx hb dX11_setsAll_85 (by decide) rfl (fun b_85 k_85 => ?_) (fun b_85 k_85 => ?_)
              · have q_85 := bP.f p_r7 b_85
                have J115 : (hl_115 : LT r6 ∨ DG r6) → ∀ (H : Heap) (locs : List Loc), va_P g.1 vwCl (wX11 g a_m I_m_63 J_m) H → va_D A (wX11 g a_m I_m_63 J_m) → va_S A s.heap H locs → ∀ ls : Array Slot, lv_has ls 5 [(3, .int r6), (2, .int v2_63), (0, .ref (a_m 0)), (1, .int gone)] → W p l e (rm 5) s m args below meth c H locs 0 0 Q (F0 m 115 ls []) := by
                  intro hl_115 H locs hP hD hS ls hl
                  have J186 : ∀ (I_m_186 : Nat → Nat → Int32), (hM_186 : MI I_m_186) → (hw_186 : WK I_m I_m_186) → (hk_186 : KK [1] [20, 21] I_m I_m_186) → (hj_186 : SB I_m_186 v2_63.toInt) → (hb_186 : BS I_m I_m_186) → (hc_186 : (I_m_186 1 16508).toInt = (I_m_63 1 16508).toInt + uGp (uBM I_m) v2_63.toInt (I_m_63 1 16508).toInt) → (hpc_186 : 0 < (I_m_186 1 16509).toInt) → ∀ (H : Heap) (locs : List Loc), va_P g.1 vwCl (wX11 g a_m I_m_186 J_m) H → va_D A (wX11 g a_m I_m_186 J_m) → va_S A s.heap H locs → ∀ ls : Array Slot, lv_has ls 5 [(3, .int r6), (2, .int v2_63), (0, .ref (a_m 0)), (1, .int gone)] → W p l e (rm 5) s m args below meth c H locs 0 0 Q (F0 m 186 ls []) := by
                    intro I_m_186 hM_186 hw_186 hk_186 hj_186 hb_186 hc_186 hpc_186 H locs hP hD hS ls hl
                    have hq186 := hj_186.2
                    have hz186 := hj_186.1.1
                    have hB186 : (I_m_186 1 16507).toInt = (I_m 1 16507).toInt := by rw [hb_186.1]
                    have hc186 : r6 = I_m_186 1 (16800 + v2_63.toInt.toNat) := by rcases hb77 with u | u; rw [u.2, hb_186.2 _ (by omega) (by omega), hb_63.2 _ (by omega) (by omega)]; exfalso; omega
                    have ht186 : uTM I_m_186 = uTM I_m := uTM.of hw_186 hM
                    have hbm186 : uBM I_m_186 = uBM I_m := uBM.of hb_186 hM
                    have hn186 : I_m_186 1 16507 = I_m 1 16507 := hb_186.1
                    have hvn : v2_63.toInt < (I_m 1 16507).toInt := (by omega)
                    refine lv_iload_n hx hb dX11_setsAll_186 rfl (lv_at hl 0 rfl) ?_
                    refine PurI.cs (C := RX11) (As := [.int r6]) (kX11_isLetter l g r6) fx (gUS (uT _) u_711 u_712 u_5 u_713) rfl hdX11_isLetter ⟨Nat.le_of_ble_eq_true rfl, Nat.le_of_ble_eq_true rfl⟩ hK hP [] rfl rfl rfl hl.1 (Nat.le_of_ble_eq_true rfl) dX11_setsAll_187 (fun r8 p_r8 => ?_)
                    refine q_if_eq (tgt := 218) hx hb dX11_setsAll_190 (by decide) rfl (fun b_190 k_190 => ?_) (fun b_190 k_190 => ?_)
                    · have q_190 := bP.f p_r8 b_190
                      refine lv_aload_n hx hb dX11_setsAll_218 rfl (lv_at hl 2 rfl) ?_
                      refine va_get (D := g.1) (ci := 11) (v := .ref (a_m 1)) (C := RX11) (T := TX11) (N := 46) hx hb hi_X11 (fun _ h => h) hown hK.1 hP 0 rfl rfl 0 (by decide) hf_7 (fun _ h9 => h9) rfl dX11_setsAll_219 ?_
                      refine lv_iconst (v := 2) hx hb dX11_setsAll_222 (by decide) ?_
                      have n_223 : vp_in (2 : Int32) 19800 := (t_in (by decide))
                      refine va_iald hx hb hK.1 hP 1 0 rfl rfl n_223 dX11_setsAll_223 ?_
                      refine q_nm (fun x9 e_x9 => ?_)
                      have e_x9 : x9 = (I_m_186 1) 2 := e_x9
                      have g_x9 : x9.toInt = ((I_m_186 1) 2).toInt := congrArg _ e_x9
                      have f_x9 := MI.sign hM_186 2 (by decide) e_x9
                      refine q_if_ne (tgt := 234) hx hb dX11_setsAll_224 (by decide) rfl (fun b_224 k_224 => ?_) (fun b_224 k_224 => ?_)
                      · refine lv_aload_n hx hb dX11_setsAll_234 rfl (lv_at hl 2 rfl) ?_
                        refine lv_aload_n hx hb dX11_setsAll_235 rfl (lv_at hl 2 rfl) ?_
                        refine va_get (D := g.1) (ci := 11) (v := .ref (a_m 1)) (C := RX11) (T := TX11) (N := 46) hx hb hi_X11 (fun _ h => h) hown hK.1 hP 0 rfl rfl 0 (by decide) hf_7 (fun _ h9 => h9) rfl dX11_setsAll_236 ?_
                        refine lv_iconst (v := 2) hx hb dX11_setsAll_239 (by decide) ?_
                        have n_240 : vp_in (2 : Int32) 19800 := (t_in (by decide))
                        refine va_iald hx hb hK.1 hP 1 0 rfl rfl n_240 dX11_setsAll_240 ?_
                        refine q_nm (fun x10 e_x10 => ?_)
                        have e_x10 : x10 = (I_m_186 1) 2 := e_x10
                        have g_x10 : x10.toInt = ((I_m_186 1) 2).toInt := congrArg _ e_x10
                        have f_x10 := MI.sign hM_186 2 (by decide) e_x10
                        refine lv_iconst (v := -1) hx hb dX11_setsAll_241 (by decide) ?_
                        refine EffV.cv (wr := ([])) (w' := fun u12 => wX11 g a_m u12 J_m) (As := [.int x10, .int (-1 : Int32)]) (kX11_sets l g a_m I_m_186 J_m x10 (-1 : Int32) hM_186 (by omega) (by omega)) fx (gUV (uT _) u_724 u_725 u_726 u_5 u_727) rfl hdX11_sets ⟨Nat.le_of_ble_eq_true rfl, Nat.le_of_ble_eq_true rfl⟩ hK hP hD hS hA [0, 1, 2, 3, 4, 5, 6, 7, 8, 9, 10, 11, 12, 13, 14, 15, 16, 17, 18, 19, 20, 21, 22] [] [0, 1, 2, 3, 4, 5, 6, 7, 8, 9, 10, 11, 12, 13, 14, 15, 16, 17, 18, 19, 20, 21, 22] rfl rfl rfl rfl (by decide) rfl (fun _ => rfl) rfl rfl rfl rfl hl.1 (Nat.le_of_ble_eq_true rfl) dX11_setsAll_242 (fun u12 H locs p_r11 hP hD hS => ?_)
                        have hP : va_P g.1 vwCl (wX11 g a_m u12 J_m) H := hP
                        have hD : va_D A (wX11 g a_m u12 J_m) := hD
                        have L245 : ∀ (nn : Nat) (v2_245 : Int32) (I_m_245 : Nat → Nat → Int32), (hM_245 : MI I_m_245) → (hw_245 : WK I_m I_m_245) → (hk_245 : KK [1] [20, 21] I_m I_m_245) → (hv_245 : v2_63.toInt ≤ v2_245.toInt ∧ v2_245.toInt ≤ (I_m 1 16507).toInt) → (hs_245 : SE I_m_186 I_m_245 (1 + 3 * (v2_245.toInt - v2_63.toInt))) → (hd_245 : v2_63.toInt < v2_245.toInt → DG (I_m_186 1 (16800 + (v2_245.toInt - 1).toNat))) → (hF_245 : uFi (uTM I_m) gone (uBM I_m) (I_m 1 16507).toInt v2_63.toInt (I_m_63 1 16508).toInt v2_245.toInt (I_m_245 1 16508).toInt) → ((301 - v2_245.toInt) < (nn : Int)) → ∀ (H : Heap) (locs : List Loc), va_P g.1 vwCl (wX11 g a_m I_m_245 J_m) H → va_D A (wX11 g a_m I_m_245 J_m) → va_S A s.heap H locs → ∀ ls : Array Slot, lv_has ls 5 [(3, .int r6), (2, .int v2_245), (0, .ref (a_m 0)), (1, .int gone)] → W p l e (rm 5) s m args below meth c H locs 0 0 Q (F0 m 245 ls []) := by
                          intro n_245
                          induction n_245 with
                          | zero =>
                            intro v2_245 I_m_245 hM_245 hw_245 hk_245 hv_245 hs_245 hd_245 hF_245 hms_245 H locs hP hD hS ls hl
                            exfalso; omega
                          | succ n_245 ih_245 =>
                            intro v2_245 I_m_245 hM_245 hw_245 hk_245 hv_245 hs_245 hd_245 hF_245 hms_245 H locs hP hD hS ls hl
                            have hq245 := hs_245.2.1
                            have hy245 := hs_245.2.2.2.1
                            have hB245 : (I_m_245 1 16507).toInt = (I_m 1 16507).toInt := by rw [hy245.1]; exact hB186
                            have ht245 : uTM I_m_245 = uTM I_m := uTM.of hw_245 hM
                            have hbm245 : uBM I_m_245 = uBM I_m := (uBM.of hy245 hM_186).trans hbm186
                            have hn245 : I_m_245 1 16507 = I_m 1 16507 := hy245.1.trans hn186
                            refine lv_aload_n hx hb dX11_setsAll_245 rfl (lv_at hl 2 rfl) ?_
                            refine lv_iload_n hx hb dX11_setsAll_246 rfl (lv_at hl 1 rfl) ?_
                            refine PurI.cv (As := [.int v2_245]) (kX11_byteOf l g a_m I_m_245 J_m v2_245 hM_245 (by omega)) fx (gUV (uT _) u_704 u_705 u_706 u_5 u_707) rfl hdX11_byteOf ⟨Nat.le_of_ble_eq_true rfl, Nat.le_of_ble_eq_true rfl⟩ hK hP [0, 1, 2, 3, 4, 5, 6, 7, 8, 9, 10, 11, 12, 13, 14, 15, 16, 17, 18, 19, 20, 21, 22] rfl rfl rfl rfl rfl hl.1 (Nat.le_of_ble_eq_true rfl) dX11_setsAll_247 (fun r13 p_r13 => ?_)
                            have hb247 := p_r13
                            have x247 : v2_245.toInt < (I_m 1 16507).toInt → (r13).toInt = uBM I_m v2_245.toInt.toNat := fun z => by rw [← hbm245]; exact u_by (k := v2_245) (n := (I_m_245 1 16507).toInt) p_r13 (by omega) (by rw [hn245]; exact z) (Int.le_refl _)
                            refine PurI.cs (C := RX11) (As := [.int r13]) (kX11_isDigit0 l g r13) fx (gUS (uT _) u_717 u_718 u_5 u_719) rfl hdX11_isDigit0 ⟨Nat.le_of_ble_eq_true rfl, Nat.le_of_ble_eq_true rfl⟩ hK hP [] rfl rfl rfl hl.1 (Nat.le_of_ble_eq_true rfl) dX11_setsAll_250 (fun r14 p_r14 => ?_)
                            refine q_if_eq (tgt := 297) hx hb dX11_setsAll_253 (by decide) rfl (fun b_253 k_253 => ?_) (fun b_253 k_253 => ?_)
                            · have q_253 := bP.f p_r14 b_253
                              have hlt253 : v2_63.toInt < (v2_245).toInt := by by_cases w : v2_63.toInt < (v2_245).toInt; exact w; exfalso; rcases hb247 with u | u; rw [u.2, show (v2_245).toInt.toNat = v2_63.toInt.toNat by omega, hy245.2 _ (by omega) (by omega), ← hc186] at q_253; exact q_253 (hl_115.resolve_left q_190); omega
                              have hn297 : SA I_m_245 (v2_245).toInt := SA.word hj_186 hs_245 (by omega) hlt253 (by omega) (hd_245 hlt253).nb (by omega)
                              refine lv_goto (tgt := 63) hx hb dX11_setsAll_297 (by decide) ?_
                              exact ih_63 v2_245 I_m_245 hM_245 hw_245 hk_245 (by omega) (by first | exact hb_63 | exact hb_186.tr hs201.2.2.2.1 | exact hb_186.tr hy245) (by first | exact hn211 | exact hn297 | (rw [show (v2_245).toInt = v2_63.toInt + 1 by omega]; exact SA.blank hs_63 (by omega))) (by first | exact uLm.bl hF_63 (by omega) (by rw [← x77]; exact q_85) (by omega) | (rcases f201 with w | w; rw [heq211]; exact uLm.wd (fun r hr => (uTM.c1 hM (r := r) (by rw [uTM.len] at hr; omega)).1) hF_63 hd201 w.2 (by rw [hs201.2.2.1]; exact hpc_186); exact absurd (w.1) b_204) | exact uLm.fg (fun r hr => (uTM.c1 hM (r := r) (by rw [uTM.len] at hr; omega)).1) hF_63 (by omega) hF_245 (by omega) (fun z => by rw [← x247 z]; exact q_253) (by have w := hs_245.2.2.1; rw [w]; exact hpc_186)) (by first | exact (fun w => Or.inr ⟨heq211.trans (y201 w).1, ((y201 w).2.resolve_right (fun z => absurd z.1 b_204)).2⟩) | exact (have z245 := hF_245; (fun w => by exfalso; have s9 := w.2 v2_63.toInt.toNat (by omega); have d9 : uDg (uBM I_m v2_63.toInt.toNat) := (by rw [← x77]; exact hl_115.resolve_left q_190); obtain ⟨d1, d2⟩ := d9; omega)) | exact (fun w => by exfalso; have s9 := w.2 v2_63.toInt.toNat (by omega); have b9 : uBl (uBM I_m v2_63.toInt.toNat) := (by rw [← x77]; exact q_85); rcases b9 with b9 | b9 <;> omega)) (by omega) _ _ hP hD hS ls (lv_sub hl [1, 2, 3] rfl)
                            · have q_253 := bP.t p_r14 b_253
                              have hpn : v2_245.toInt < (I_m 1 16507).toInt := by rcases hb247 with u | u; rw [← hn245]; exact u.1; exfalso; omega
                              have hdg : uDg (uBM I_m v2_245.toInt.toNat) := by rw [← x247 hpn]; exact q_253
                              refine lv_aload_n hx hb dX11_setsAll_256 rfl (lv_at hl 2 rfl) ?_
                              refine lv_aload_n hx hb dX11_setsAll_257 rfl (lv_at hl 2 rfl) ?_
                              refine lv_iload_n hx hb dX11_setsAll_258 rfl (lv_at hl 1 rfl) ?_
                              refine PurI.cv (As := [.int v2_245]) (kX11_byteOf l g a_m I_m_245 J_m v2_245 hM_245 (by omega)) fx (gUV (uT _) u_704 u_705 u_706 u_5 u_707) rfl hdX11_byteOf ⟨Nat.le_of_ble_eq_true rfl, Nat.le_of_ble_eq_true rfl⟩ hK hP [0, 1, 2, 3, 4, 5, 6, 7, 8, 9, 10, 11, 12, 13, 14, 15, 16, 17, 18, 19, 20, 21, 22] rfl rfl rfl rfl rfl hl.1 (Nat.le_of_ble_eq_true rfl) dX11_setsAll_259 (fun r15 p_r15 => ?_)
                              have x259 : (r15).toInt = uBM I_m v2_245.toInt.toNat := by rw [← hbm245]; exact u_by (k := v2_245) (n := (I_m_245 1 16507).toInt) p_r15 (by omega) (by rw [hn245]; exact hpn) (Int.le_refl _)
                              refine PurI.cs (C := RX11) (As := [.int r15]) (kX11_figureLetter l g r15) fx (gUS (uT _) u_757 u_758 u_5 u_759) rfl hdX11_figureLetter ⟨Nat.le_of_ble_eq_true rfl, Nat.le_of_ble_eq_true rfl⟩ hK hP [] rfl rfl rfl hl.1 (Nat.le_of_ble_eq_true rfl) dX11_setsAll_262 (fun r16 p_r16 => ?_)
                              have x262 : (r16).toInt = uFg (uBM I_m v2_245.toInt.toNat) := by rw [← x259]; exact p_r16 (by rw [x259]; exact hdg)
                              refine lv_iload_n hx hb dX11_setsAll_265 rfl (lv_at hl 3 rfl) ?_
                              refine PurI.cv (As := [.int r16, .int gone]) (kX11_justOf l g a_m I_m_245 J_m r16 gone hM_245) fx (gUV (uT _) u_760 u_761 u_762 u_5 u_763) rfl hdX11_justOf ⟨Nat.le_of_ble_eq_true rfl, Nat.le_of_ble_eq_true rfl⟩ hK hP [0, 1, 2, 3, 4, 5, 6, 7, 8, 9, 10, 11, 12, 13, 14, 15, 16, 17, 18, 19, 20, 21, 22] rfl rfl rfl rfl rfl hl.1 (Nat.le_of_ble_eq_true rfl) dX11_setsAll_266 (fun r17 p_r17 => ?_)
                              have hm266 := hM_245.many rfl
                              have j266 := p_r17.2.2.2
                              rw [ht245, x262] at j266
                              refine lv_istore (lv' := [(4, .int r17), (3, .int r6), (2, .int v2_245), (0, .ref (a_m 0)), (1, .int gone)]) hx hb dX11_setsAll_269 hl (by decide) rfl (fun ls hl => ?_)
                              refine lv_iload hx hb dX11_setsAll_271 (lv_at hl 0 rfl) ?_
                              refine lv_iconst (v := -1) hx hb dX11_setsAll_273 (by decide) ?_
                              refine q_icmp_ne (tgt := 284) hx hb dX11_setsAll_274 (by decide) rfl (by decide : (-1 : Int32).toInt = -1) (fun k_274 => ?_) (fun k_274 => ?_)
                              · refine lv_aload_n hx hb dX11_setsAll_284 rfl (lv_at hl 3 rfl) ?_
                                refine lv_iload hx hb dX11_setsAll_285 (lv_at hl 0 rfl) ?_
                                refine EffI.cv (wr := ([])) (w' := fun u19 => wX11 g a_m u19 J_m) (As := [.int r17]) (kX11_setsRule l g a_m I_m_245 J_m r17 hM_245 (by omega) (by omega)) fx (gUV (uT _) u_753 u_754 u_755 u_5 u_756) rfl hdX11_setsRule ⟨Nat.le_of_ble_eq_true rfl, Nat.le_of_ble_eq_true rfl⟩ hK hP hD hS hA [0, 1, 2, 3, 4, 5, 6, 7, 8, 9, 10, 11, 12, 13, 14, 15, 16, 17, 18, 19, 20, 21, 22] [] [0, 1, 2, 3, 4, 5, 6, 7, 8, 9, 10, 11, 12, 13, 14, 15, 16, 17, 18, 19, 20, 21, 22] rfl rfl rfl rfl (by decide) rfl (fun _ => rfl) rfl rfl rfl rfl hl.1 (Nat.le_of_ble_eq_true rfl) dX11_setsAll_287 (fun r18 u19 H locs p_r18 hP hD hS => ?_)
                                have hP : va_P g.1 vwCl (wX11 g a_m u19 J_m) H := hP
                                have hD : va_D A (wX11 g a_m u19 J_m) := hD
                                refine lv_pop hx hb dX11_setsAll_290 rfl ?_
                                refine r_iinc (lv' := fun i20 => [(2, .int i20), (4, .int r17), (3, .int r6), (0, .ref (a_m 0)), (1, .int gone)]) hx hb dX11_setsAll_291 hl (k := 2) rfl (by decide) rfl (by decide) (fun _ => rfl) (fun i20 e_i20 t_i20 ls hl => ?_)
                                try have t_i20 := t_i20 (by omega)
                                refine lv_goto (tgt := 245) hx hb dX11_setsAll_294 (by decide) ?_
                                exact ih_245 i20 u19 (p_r18.1) (WK.tr hw_245 p_r18.2.1) (KK.tr hk_245 p_r18.2.2.1 (by decide) (by decide)) (by omega) (hs_245.tr p_r18.2.2.2.2.2.1 (by omega)) (fun _ => by rcases hb247 with u | u; rw [show (i20.toInt - 1).toNat = v2_245.toInt.toNat by omega, ← hy245.2 _ (by omega) (by omega), ← u.2]; exact q_253; exfalso; omega) (by have l266 := (j266.resolve_left (fun z => by omega)).2; have cc := uTM.cc (I := I_m) (r := (r17).toInt.toNat) (by have w := l266.1; rw [uTM.len] at w; omega); have w1 := p_r18.2.2.2.2.2.2.1; have w2 := congrArg Int32.toInt p_r18.2.2.2.2.2.2.2.1; have w3 := congrArg Int32.toInt (hw_245 (12 * (r17).toInt.toNat + 19) (by omega)); exact uFi.st hF_245 (fun z => (hF_63.2.1 hvn z).1 (show uDg (uBM I_m v2_63.toInt.toNat) from by rw [← x77]; exact hl_115.resolve_left q_190)) (by omega) hpn hdg (by rw [uTM.sg (by decide)]; show (I_m 1 2).toInt ≠ 0; rw [← hw_186 2 (by decide), show I_m_186 1 2 = x9 from e_x9.symm]; omega) l266 (by omega) (by omega)) (by omega) _ _ hP hD hS ls (lv_sub hl [2, 0, 3, 4] rfl)
                              · refine lv_aload_n hx hb dX11_setsAll_277 rfl (lv_at hl 3 rfl) ?_
                                refine lv_iconst (v := 4) hx hb dX11_setsAll_278 (by decide) ?_
                                refine lv_iload_n hx hb dX11_setsAll_279 rfl (lv_at hl 2 rfl) ?_
                                refine EffI.cv (wr := ([])) (w' := fun u22 => wX11 g a_m u22 J_m) (As := [.int (4 : Int32), .int v2_245]) (kX11_isBad l g a_m I_m_245 J_m (4 : Int32) v2_245) fx (gUV (uT _) u_720 u_721 u_722 u_5 u_723) rfl hdX11_isBad ⟨Nat.le_of_ble_eq_true rfl, Nat.le_of_ble_eq_true rfl⟩ hK hP hD hS hA [0, 1, 2, 3, 4, 5, 6, 7, 8, 9, 10, 11, 12, 13, 14, 15, 16, 17, 18, 19, 20, 21, 22] [] [0, 1, 2, 3, 4, 5, 6, 7, 8, 9, 10, 11, 12, 13, 14, 15, 16, 17, 18, 19, 20, 21, 22] rfl rfl rfl rfl (by decide) rfl (fun _ => rfl) rfl rfl rfl rfl hl.1 (Nat.le_of_ble_eq_true rfl) dX11_setsAll_280 (fun r21 u22 H locs p_r21 hP hD hS => ?_)
                                have hP : va_P g.1 vwCl (wX11 g a_m u22 J_m) H := hP
                                have hD : va_D A (wX11 g a_m u22 J_m) := hD
                                refine hret 283 ls r21 _ _ u22 dX11_setsAll_283 (Or.inl p_r21.2.1) hS hP hD ?_
                                exact ⟨(MI.kk hM_245 p_r21.1 (by decide) (by decide)), (WK.kk hw_245 p_r21.1 (by decide)), (KK.tr hk_245 p_r21.1 (by decide) (by decide)), ⟨Or.inl p_r21.2.1, (hb_186.tr hy245).kk p_r21.1 (by decide), fun q => absurd (q.symm.trans p_r21.2.1) (by decide), (by obtain ⟨c9, e1, e2, e3⟩ := uFi.fl (k := 4) hF_245 (fun c => ⟨hpn, Or.inr (Or.inl ⟨hdg, Or.inr (j266.resolve_right (fun z => by omega)).2, rfl⟩)⟩); exact ⟨c9, (4, v2_245.toInt), hF_63.1.tr e1, Or.inr ⟨e2, e3.symm⟩, Or.inr ⟨p_r21.2.1, (by rw [p_r21.2.2.1, p_r21.2.2.2]; rfl), (by show (4 : Int) ≠ 0; decide)⟩⟩), (fun w => by exfalso; have s9 := w.2 v2_63.toInt.toNat (by omega); have d9 : uDg (uBM I_m v2_63.toInt.toNat) := (by rw [← x77]; exact hl_115.resolve_left q_190); obtain ⟨d1, d2⟩ := d9; omega)⟩⟩
                        exact L245 ((301 - v2_63.toInt) + 1).toNat v2_63 u12 (p_r11.1) (WK.tr hw_186 p_r11.2.1) (KK.tr hk_186 p_r11.2.2.1 (by decide) (by decide)) (by omega) (p_r11.2.2.2.1.tr (SE.rf _) (by omega)) (fun q => by exfalso; omega) (Or.inl ⟨rfl, by have w := p_r11.2.2.2.2.1; omega⟩) (by omega) _ _ hP hD hS ls hl
                      · refine lv_aload_n hx hb dX11_setsAll_227 rfl (lv_at hl 2 rfl) ?_
                        refine lv_iconst (v := 4) hx hb dX11_setsAll_228 (by decide) ?_
                        refine lv_iload_n hx hb dX11_setsAll_229 rfl (lv_at hl 1 rfl) ?_
                        refine EffI.cv (wr := ([])) (w' := fun u24 => wX11 g a_m u24 J_m) (As := [.int (4 : Int32), .int v2_63]) (kX11_isBad l g a_m I_m_186 J_m (4 : Int32) v2_63) fx (gUV (uT _) u_720 u_721 u_722 u_5 u_723) rfl hdX11_isBad ⟨Nat.le_of_ble_eq_true rfl, Nat.le_of_ble_eq_true rfl⟩ hK hP hD hS hA [0, 1, 2, 3, 4, 5, 6, 7, 8, 9, 10, 11, 12, 13, 14, 15, 16, 17, 18, 19, 20, 21, 22] [] [0, 1, 2, 3, 4, 5, 6, 7, 8, 9, 10, 11, 12, 13, 14, 15, 16, 17, 18, 19, 20, 21, 22] rfl rfl rfl rfl (by decide) rfl (fun _ => rfl) rfl rfl rfl rfl hl.1 (Nat.le_of_ble_eq_true rfl) dX11_setsAll_230 (fun r23 u24 H locs p_r23 hP hD hS => ?_)
                        have hP : va_P g.1 vwCl (wX11 g a_m u24 J_m) H := hP
                        have hD : va_D A (wX11 g a_m u24 J_m) := hD
                        refine hret 233 ls r23 _ _ u24 dX11_setsAll_233 (Or.inl p_r23.2.1) hS hP hD ?_
                        exact ⟨(MI.kk hM_186 p_r23.1 (by decide) (by decide)), (WK.kk hw_186 p_r23.1 (by decide)), (KK.tr hk_186 p_r23.1 (by decide) (by decide)), ⟨Or.inl p_r23.2.1, hb_186.kk p_r23.1 (by decide), fun q => absurd (q.symm.trans p_r23.2.1) (by decide), ⟨_, (4, v2_63.toInt), hF_63.1, Or.inr ⟨⟨hvn, Or.inr (Or.inl ⟨(show uDg (uBM I_m v2_63.toInt.toNat) from by rw [← x77]; exact hl_115.resolve_left q_190), Or.inl (by rw [uTM.sg (by decide)]; show (I_m 1 2).toInt = 0; rw [← hw_186 2 (by decide), show I_m_186 1 2 = x9 from e_x9.symm]; omega), rfl⟩)⟩, rfl⟩, Or.inr ⟨p_r23.2.1, (by rw [p_r23.2.2.1, p_r23.2.2.2]; rfl), (by show (4 : Int) ≠ 0; decide)⟩⟩, (fun w => by exfalso; have s9 := w.2 v2_63.toInt.toNat (by omega); have d9 : uDg (uBM I_m v2_63.toInt.toNat) := (by rw [← x77]; exact hl_115.resolve_left q_190); obtain ⟨d1, d2⟩ := d9; omega)⟩⟩
                    · have q_190 := bP.t p_r8 b_190
                      refine lv_aload_n hx hb dX11_setsAll_193 rfl (lv_at hl 2 rfl) ?_
                      refine lv_iload_n hx hb dX11_setsAll_194 rfl (lv_at hl 1 rfl) ?_
                      refine lv_aload_n hx hb dX11_setsAll_195 rfl (lv_at hl 2 rfl) ?_
                      refine lv_iload_n hx hb dX11_setsAll_196 rfl (lv_at hl 1 rfl) ?_
                      refine PurI.cv (As := [.int v2_63]) (kX11_wordEnd l g a_m I_m_186 J_m v2_63 hM_186 (by omega)) fx (gUV (uT _) u_728 u_729 u_730 u_5 u_731) rfl hdX11_wordEnd ⟨Nat.le_of_ble_eq_true rfl, Nat.le_of_ble_eq_true rfl⟩ hK hP [0, 1, 2, 3, 4, 5, 6, 7, 8, 9, 10, 11, 12, 13, 14, 15, 16, 17, 18, 19, 20, 21, 22] rfl rfl rfl rfl rfl hl.1 (Nat.le_of_ble_eq_true rfl) dX11_setsAll_197 (fun r25 p_r25 => ?_)
                      have hq197 := p_r25
                      have he197 := p_r25.lt (by omega) (by rw [← hc186]; exact q_190)
                      refine lv_iload_n hx hb dX11_setsAll_200 rfl (lv_at hl 3 rfl) ?_
                      refine EffI.cv (wr := ([])) (w' := fun u27 => wX11 g a_m u27 J_m) (As := [.int v2_63, .int r25, .int gone]) (kX11_setsWord l g a_m I_m_186 J_m v2_63 r25 gone hM_186 (by omega) (by omega)) fx (gUV (uT _) u_732 u_733 u_734 u_5 u_735) rfl hdX11_setsWord ⟨Nat.le_of_ble_eq_true rfl, Nat.le_of_ble_eq_true rfl⟩ hK hP hD hS hA [0, 1, 2, 3, 4, 5, 6, 7, 8, 9, 10, 11, 12, 13, 14, 15, 16, 17, 18, 19, 20, 21, 22] [] [0, 1, 2, 3, 4, 5, 6, 7, 8, 9, 10, 11, 12, 13, 14, 15, 16, 17, 18, 19, 20, 21, 22] rfl rfl rfl rfl (by decide) rfl (fun _ => rfl) rfl rfl rfl rfl hl.1 (Nat.le_of_ble_eq_true rfl) dX11_setsAll_201 (fun r26 u27 H locs p_r26 hP hD hS => ?_)
                      have hP : va_P g.1 vwCl (wX11 g a_m u27 J_m) H := hP
                      have hD : va_D A (wX11 g a_m u27 J_m) := hD
                      have hs201 := p_r26.2.2.2.2.1
                      have hw201 := p_r26.1.wb rfl
                      have hd201 : uWd (uBM I_m) (I_m 1 16507).toInt v2_63.toInt v2_63.toInt (r25).toInt := by have w := WE.wd hq197 (by rw [hn186]; omega) (by rw [hbm186]; exact (show uLt (uBM I_m v2_63.toInt.toNat) from by rw [← x77]; exact q_190)) (by rw [hbm186]; exact fun z => (hF_63.2.1 hvn z).2 (show uLt (uBM I_m v2_63.toInt.toNat) from by rw [← x77]; exact q_190)); rw [hbm186, hn186] at w; exact w
                      have f201 := p_r26.2.2.2.2.2.1 (I_m_63 1 16508).toInt ⟨by rw [hbm186, hn186]; exact hd201, by rw [hbm186]; exact hc_186⟩
                      rw [ht186, hbm186, hn186] at f201
                      have x201 := p_r26.2.2.2.2.2.2
                      rw [ht186, hbm186, hn186] at x201
                      have y201 : (0 < (I_m 1 16507).toInt ∧ tSm (uBM I_m) (I_m 1 16507).toInt) → (r25).toInt = (I_m 1 16507).toInt ∧ ((r26 = 1 ∧ tWs (uTM I_m) gone (uBM I_m) (I_m 1 16507).toInt (u27 1) (I_m 1 16507).toInt) ∨ (r26 = 0 ∧ tWn (uTM I_m) gone (uBM I_m) (I_m 1 16507).toInt)) := fun w => by have v9 := (hX_63 w).resolve_right (fun z => by have z1 := z.1; omega); have u9 : uGp (uBM I_m) v2_63.toInt (I_m_63 1 16508).toInt = 0 := if_neg (fun z => by have z1 := z.1; omega); have a9 := hd201.1; have e9 : (r25).toInt = (I_m 1 16507).toInt := Int.le_antisymm a9.2.2.2 (Int.not_lt.1 (fun z => hd201.2.2.1 z (Or.inl (w.2 _ (by omega))))); exact ⟨e9, x201 ⟨v9.1, e9, w.2, tMc.nil (by omega)⟩⟩
                      refine q_if_ne (tgt := 209) hx hb dX11_setsAll_204 (by decide) rfl (fun b_204 k_204 => ?_) (fun b_204 k_204 => ?_)
                      · refine lv_aload_n hx hb dX11_setsAll_209 rfl (lv_at hl 2 rfl) ?_
                        refine lv_iload_n hx hb dX11_setsAll_210 rfl (lv_at hl 1 rfl) ?_
                        refine PurI.cv (As := [.int v2_63]) (kX11_wordEnd l g a_m u27 J_m v2_63 (p_r26.1) (by omega)) fx (gUV (uT _) u_728 u_729 u_730 u_5 u_731) rfl hdX11_wordEnd ⟨Nat.le_of_ble_eq_true rfl, Nat.le_of_ble_eq_true rfl⟩ hK hP [0, 1, 2, 3, 4, 5, 6, 7, 8, 9, 10, 11, 12, 13, 14, 15, 16, 17, 18, 19, 20, 21, 22] rfl rfl rfl rfl rfl hl.1 (Nat.le_of_ble_eq_true rfl) dX11_setsAll_211 (fun r28 p_r28 => ?_)
                        have heq211 : (r28).toInt = (r25).toInt := (p_r28.bs hs201.2.2.2.1 (by omega) (by omega)).uq hq197
                        have hn211 : SA u27 (r28).toInt := by rw [heq211]; exact SA.word hj_186 hs201 (by omega) he197.1 (by omega) (hq197.nb he197.1) (by omega)
                        refine lv_istore_n (lv' := [(2, .int r28), (3, .int r6), (0, .ref (a_m 0)), (1, .int gone)]) hx hb dX11_setsAll_214 rfl hl (by decide) rfl (fun ls hl => ?_)
                        refine lv_goto (tgt := 63) hx hb dX11_setsAll_215 (by decide) ?_
                        exact ih_63 r28 u27 (p_r26.1) (WK.tr hw_186 p_r26.2.1) (KK.tr hk_186 p_r26.2.2.1 (by decide) (by decide)) (by omega) (by first | exact hb_63 | exact hb_186.tr hs201.2.2.2.1 | exact hb_186.tr hy245) (by first | exact hn211 | exact hn297 | (rw [show (r28).toInt = v2_63.toInt + 1 by omega]; exact SA.blank hs_63 (by omega))) (by first | exact uLm.bl hF_63 (by omega) (by rw [← x77]; exact q_85) (by omega) | (rcases f201 with w | w; rw [heq211]; exact uLm.wd (fun r hr => (uTM.c1 hM (r := r) (by rw [uTM.len] at hr; omega)).1) hF_63 hd201 w.2 (by rw [hs201.2.2.1]; exact hpc_186); exact absurd (w.1) b_204) | exact uLm.fg (fun r hr => (uTM.c1 hM (r := r) (by rw [uTM.len] at hr; omega)).1) hF_63 (by omega) hF_245 (by omega) (fun z => by rw [← x247 z]; exact q_253) (by have w := hs_245.2.2.1; rw [w]; exact hpc_186)) (by first | exact (fun w => Or.inr ⟨heq211.trans (y201 w).1, ((y201 w).2.resolve_right (fun z => absurd z.1 b_204)).2⟩) | exact (have z245 := hF_245; (fun w => by exfalso; have s9 := w.2 v2_63.toInt.toNat (by omega); have d9 : uDg (uBM I_m v2_63.toInt.toNat) := (by rw [← x77]; exact hl_115.resolve_left q_190); obtain ⟨d1, d2⟩ := d9; omega)) | exact (fun w => by exfalso; have s9 := w.2 v2_63.toInt.toNat (by omega); have b9 : uBl (uBM I_m v2_63.toInt.toNat) := (by rw [← x77]; exact q_85); rcases b9 with b9 | b9 <;> omega)) (by omega) _ _ hP hD hS ls (lv_sub hl [0, 2, 3] rfl)
                      · refine lv_iconst (v := 0) hx hb dX11_setsAll_207 (by decide) ?_
                        refine hret 208 ls (0 : Int32) _ _ u27 dX11_setsAll_208 (Or.inl rfl) hS hP hD ?_
                        exact ⟨(p_r26.1), (WK.tr hw_186 p_r26.2.1), (KK.tr hk_186 p_r26.2.2.1 (by decide) (by decide)), ⟨Or.inl rfl, hb_186.tr hs201.2.2.2.1, fun q => absurd q (by decide), (by rcases f201 with w | ⟨w, c9, e1, e2, e3⟩; exact absurd b_204 (by rw [w.1]; decide); exact ⟨c9, (_, _), hF_63.1.tr e1, Or.inr ⟨e2, e3.symm⟩, Or.inr ⟨rfl, rfl, e2.nz⟩⟩), (fun w => Or.inr ⟨rfl, ((y201 w).2.resolve_left (fun z => absurd b_204 (by rw [z.1]; decide))).2⟩)⟩⟩
                  refine lv_iload_n hx hb dX11_setsAll_115 rfl (lv_at hl 1 rfl) ?_
                  refine q_if_eq (tgt := 132) hx hb dX11_setsAll_116 (by decide) rfl (fun b_116 k_116 => ?_) (fun b_116 k_116 => ?_)
                  · have hg115 := SA.z0 hs_63 k_116
                    refine lv_aload_n hx hb dX11_setsAll_132 rfl (lv_at hl 2 rfl) ?_
                    refine va_get (D := g.1) (ci := 11) (v := .ref (a_m 1)) (C := RX11) (T := TX11) (N := 46) hx hb hi_X11 (fun _ h => h) hown hK.1 hP 0 rfl rfl 0 (by decide) hf_7 (fun _ h9 => h9) rfl dX11_setsAll_133 ?_
                    refine lv_sipush (v := 16509) hx hb dX11_setsAll_136 (by decide) ?_
                    have n_139 : vp_in (16509 : Int32) 19800 := (t_in (by decide))
                    refine va_iald hx hb hK.1 hP 1 0 rfl rfl n_139 dX11_setsAll_139 ?_
                    refine q_nm (fun x29 e_x29 => ?_)
                    have e_x29 : x29 = (I_m_63 1) 16509 := e_x29
                    have g_x29 : x29.toInt = ((I_m_63 1) 16509).toInt := congrArg _ e_x29
                    refine q_if_le (tgt := 149) hx hb dX11_setsAll_140 (by decide) rfl (fun k_140 => ?_) (fun k_140 => ?_)
                    · have hz149 := SA.gA hs_63 hg115 (by omega) (by omega)
                      have hy149 := BS.rf I_m_63
                      refine lv_aload_n hx hb dX11_setsAll_149 rfl (lv_at hl 2 rfl) ?_
                      refine va_get (D := g.1) (ci := 11) (v := .ref (a_m 1)) (C := RX11) (T := TX11) (N := 46) hx hb hi_X11 (fun _ h => h) hown hK.1 hP 0 rfl rfl 0 (by decide) hf_7 (fun _ h9 => h9) rfl dX11_setsAll_150 ?_
                      refine lv_sipush (v := 18350) hx hb dX11_setsAll_153 (by decide) ?_
                      refine lv_aload_n hx hb dX11_setsAll_156 rfl (lv_at hl 2 rfl) ?_
                      refine va_get (D := g.1) (ci := 11) (v := .ref (a_m 1)) (C := RX11) (T := TX11) (N := 46) hx hb hi_X11 (fun _ h => h) hown hK.1 hP 0 rfl rfl 0 (by decide) hf_7 (fun _ h9 => h9) rfl dX11_setsAll_157 ?_
                      refine lv_sipush (v := 16509) hx hb dX11_setsAll_160 (by decide) ?_
                      have n_163 : vp_in (16509 : Int32) 19800 := (t_in (by decide))
                      refine va_iald hx hb hK.1 hP 1 0 rfl rfl n_163 dX11_setsAll_163 ?_
                      refine q_nm (fun x30 e_x30 => ?_)
                      have e_x30 : x30 = (I_m_63 1) 16509 := e_x30
                      have g_x30 : x30.toInt = ((I_m_63 1) 16509).toInt := congrArg _ e_x30
                      have hq163 := hz149.2.2.1
                      have hr163 := hz149.1.2.1
                      refine r_iadd hx hb dX11_setsAll_164 (by decide : (18350 : Int32).toInt = 18350) rfl (fun x31 e_x31 t_x31 => ?_)
                      try have t_x31 := t_x31 (by omega)
                      refine lv_aload_n hx hb dX11_setsAll_165 rfl (lv_at hl 2 rfl) ?_
                      refine va_get (D := g.1) (ci := 11) (v := .ref (a_m 1)) (C := RX11) (T := TX11) (N := 46) hx hb hi_X11 (fun _ h => h) hown hK.1 hP 0 rfl rfl 0 (by decide) hf_7 (fun _ h9 => h9) rfl dX11_setsAll_166 ?_
                      refine lv_sipush (v := 16508) hx hb dX11_setsAll_169 (by decide) ?_
                      have n_172 : vp_in (16508 : Int32) 19800 := (t_in (by decide))
                      refine va_iald hx hb hK.1 hP 1 0 rfl rfl n_172 dX11_setsAll_172 ?_
                      refine q_nm (fun x32 e_x32 => ?_)
                      have e_x32 : x32 = (I_m_63 1) 16508 := e_x32
                      have g_x32 : x32.toInt = ((I_m_63 1) 16508).toInt := congrArg _ e_x32
                      have n_173 : vp_in x31 19800 := (t_in (by omega))
                      obtain ⟨f33, e_f33⟩ : ∃ z, z = upd (I_m_63 1) x31.toNatClampNeg x32 := ⟨_, rfl⟩
                      refine va_iast hx hb hK.1 hP hD hS 1 0 rfl rfl n_173 dX11_setsAll_173 (fun H locs hP hD hS => ?_)
                      have hP : va_P g.1 vwCl (wX11 g a_m (uR I_m_63 1 f33) J_m) H := by rw [e_f33]; exact hP
                      have hD : va_D A (wX11 g a_m (uR I_m_63 1 f33) J_m) := by rw [e_f33]; exact hD
                      have hc_173 : MI (uR I_m_63 1 f33) := MI.ua hM_63 e_f33 rfl (by omega) (by omega)
                      have hk_173 : KK [1] [20, 21] I_m (uR I_m_63 1 f33) := KK.ur hk_63 (by decide) (by decide)
                      have hw_173 : WK I_m (uR I_m_63 1 f33) := WK.ua hw_63 e_f33 rfl (by omega)
                      have n173 := congrArg Int32.toInt ((congrFun e_f33 16508).trans (pk_un (by show 16508 ≠ (x31).toInt.toNat; omega)))
                      refine lv_aload_n hx hb dX11_setsAll_174 rfl (lv_at hl 2 rfl) ?_
                      refine va_get (D := g.1) (ci := 11) (v := .ref (a_m 1)) (C := RX11) (T := TX11) (N := 46) hx hb hi_X11 (fun _ h => h) hown hK.1 hP 0 rfl rfl 0 (by decide) hf_7 (fun _ h9 => h9) rfl dX11_setsAll_175 ?_
                      refine lv_sipush (v := 16509) hx hb dX11_setsAll_178 (by decide) ?_
                      refine lv_dup2_11 hx hb dX11_setsAll_181 rfl rfl ?_
                      have n_182 : vp_in (16509 : Int32) 19800 := (t_in (by decide))
                      refine va_iald hx hb hK.1 hP 1 0 rfl rfl n_182 dX11_setsAll_182 ?_
                      refine q_nm (fun x34 e_x34 => ?_)
                      have e_x34 : x34 = f33 16509 := e_x34
                      have g_x34 : x34.toInt = (f33 16509).toInt := congrArg _ e_x34
                      have m_x34 := GP.rd hz149 e_f33 (by omega) e_x34
                      refine lv_iconst (v := 1) hx hb dX11_setsAll_183 (by decide) ?_
                      refine r_iadd hx hb dX11_setsAll_184 rfl (by decide : (1 : Int32).toInt = 1) (fun x35 e_x35 t_x35 => ?_)
                      try have t_x35 := t_x35 (by omega)
                      have n_185 : vp_in (16509 : Int32) 19800 := (t_in (by decide))
                      obtain ⟨f36, e_f36⟩ : ∃ z, z = upd f33 (16509 : Int32).toNatClampNeg x35 := ⟨_, rfl⟩
                      refine va_iast hx hb hK.1 hP hD hS 1 0 rfl rfl n_185 dX11_setsAll_185 (fun H locs hP hD hS => ?_)
                      have hP : va_P g.1 vwCl (wX11 g a_m (uR (uR I_m_63 1 f33) 1 f36) J_m) H := by rw [e_f36]; exact hP
                      have hD : va_D A (wX11 g a_m (uR (uR I_m_63 1 f33) 1 f36) J_m) := by rw [e_f36]; exact hD
                      have hc_185 : MI (uR (uR I_m_63 1 f33) 1 f36) := MI.ua hc_173 e_f36 (by decide : (16509 : Int32).toInt = 16509) (by omega) (by omega)
                      have hk_185 : KK [1] [20, 21] I_m (uR (uR I_m_63 1 f33) 1 f36) := KK.ur hk_173 (by decide) (by decide)
                      have hw_185 : WK I_m (uR (uR I_m_63 1 f33) 1 f36) := WK.ua hw_173 e_f36 (by decide : (16509 : Int32).toInt = 16509) (by omega)
                      have hj185 := SB.piece (I' := (uR (uR I_m_63 1 f33) 1 f36)) hz149 e_f33 (by omega) e_x32 e_f36 e_x34 (by omega) rfl
                      have n185 := congrArg Int32.toInt ((congrFun e_f36 16508).trans (pk_un (by decide)))
                      have u185 := congrArg Int32.toInt ((congrFun e_f36 16509).trans (upd_at rfl))
                      exact J186 (uR (uR I_m_63 1 f33) 1 f36) hc_185 hw_185 hk_185 (by first | exact hj185.1 | exact SB.plain hs_63) (by first | exact hb_63.tr (hy149.tr hj185.2) | exact hb_63) (by first | (exact absurd (hs_63.2.2.1 k_116).2 (by omega)) | (rw [(show uGp (uBM I_m) v2_63.toInt (I_m_63 1 16508).toInt = 1 from if_pos ⟨by omega, by rw [← x123]; exact q_129, hF_63.2.2.2.1 (by omega)⟩)]; show (f36 16508).toInt = _; omega) | (rw [(show uGp (uBM I_m) v2_63.toInt (I_m_63 1 16508).toInt = 0 from if_neg (fun z => by have := z.2.2; have := hF_63.2.2.2; omega)), Int.add_zero]; show (f36 16508).toInt = _; omega) | (rw [(show uGp (uBM I_m) v2_63.toInt (I_m_63 1 16508).toInt = 0 from if_neg (fun z => by have := z.1; omega)), Int.add_zero]; show (f36 16508).toInt = _; omega) | (rw [(show uGp (uBM I_m) v2_63.toInt (I_m_63 1 16508).toInt = 0 from if_neg (fun z => q_129 (by rw [x123]; exact z.2.1))), Int.add_zero])) (by first | (show 0 < (f36 16509).toInt; omega) | exact hF_63.2.2.2.2 (hF_63.2.2.1 (by omega) (by rw [← x123]; exact q_129))) _ _ hP hD hS ls hl
                    · refine lv_aload_n hx hb dX11_setsAll_143 rfl (lv_at hl 2 rfl) ?_
                      refine lv_iconst (v := 0) hx hb dX11_setsAll_144 (by decide) ?_
                      refine lv_iconst (v := -1) hx hb dX11_setsAll_145 (by decide) ?_
                      refine EffV.cv (wr := ([])) (w' := fun u38 => wX11 g a_m u38 J_m) (As := [.int (0 : Int32), .int (-1 : Int32)]) (kX11_sets l g a_m I_m_63 J_m (0 : Int32) (-1 : Int32) hM_63 (by omega) (by omega)) fx (gUV (uT _) u_724 u_725 u_726 u_5 u_727) rfl hdX11_sets ⟨Nat.le_of_ble_eq_true rfl, Nat.le_of_ble_eq_true rfl⟩ hK hP hD hS hA [0, 1, 2, 3, 4, 5, 6, 7, 8, 9, 10, 11, 12, 13, 14, 15, 16, 17, 18, 19, 20, 21, 22] [] [0, 1, 2, 3, 4, 5, 6, 7, 8, 9, 10, 11, 12, 13, 14, 15, 16, 17, 18, 19, 20, 21, 22] rfl rfl rfl rfl (by decide) rfl (fun _ => rfl) rfl rfl rfl rfl hl.1 (Nat.le_of_ble_eq_true rfl) dX11_setsAll_146 (fun u38 H locs p_r37 hP hD hS => ?_)
                      have hP : va_P g.1 vwCl (wX11 g a_m u38 J_m) H := hP
                      have hD : va_D A (wX11 g a_m u38 J_m) := hD
                      have hz149 := SA.gB hs_63 hg115 (by omega) (by omega) p_r37.2.2.2.1 p_r37.2.2.2.2.1
                      have hy149 : BS I_m_63 u38 := p_r37.2.2.2.1.2.2.2.1
                      have c146 := p_r37.2.2.2.2.1
                      refine lv_aload_n hx hb dX11_setsAll_149 rfl (lv_at hl 2 rfl) ?_
                      refine va_get (D := g.1) (ci := 11) (v := .ref (a_m 1)) (C := RX11) (T := TX11) (N := 46) hx hb hi_X11 (fun _ h => h) hown hK.1 hP 0 rfl rfl 0 (by decide) hf_7 (fun _ h9 => h9) rfl dX11_setsAll_150 ?_
                      refine lv_sipush (v := 18350) hx hb dX11_setsAll_153 (by decide) ?_
                      refine lv_aload_n hx hb dX11_setsAll_156 rfl (lv_at hl 2 rfl) ?_
                      refine va_get (D := g.1) (ci := 11) (v := .ref (a_m 1)) (C := RX11) (T := TX11) (N := 46) hx hb hi_X11 (fun _ h => h) hown hK.1 hP 0 rfl rfl 0 (by decide) hf_7 (fun _ h9 => h9) rfl dX11_setsAll_157 ?_
                      refine lv_sipush (v := 16509) hx hb dX11_setsAll_160 (by decide) ?_
                      have n_163 : vp_in (16509 : Int32) 19800 := (t_in (by decide))
                      refine va_iald hx hb hK.1 hP 1 0 rfl rfl n_163 dX11_setsAll_163 ?_
                      refine q_nm (fun x39 e_x39 => ?_)
                      have e_x39 : x39 = (u38 1) 16509 := e_x39
                      have g_x39 : x39.toInt = ((u38 1) 16509).toInt := congrArg _ e_x39
                      have hq163 := hz149.2.2.1
                      have hr163 := hz149.1.2.1
                      refine r_iadd hx hb dX11_setsAll_164 (by decide : (18350 : Int32).toInt = 18350) rfl (fun x40 e_x40 t_x40 => ?_)
                      try have t_x40 := t_x40 (by omega)
                      refine lv_aload_n hx hb dX11_setsAll_165 rfl (lv_at hl 2 rfl) ?_
                      refine va_get (D := g.1) (ci := 11) (v := .ref (a_m 1)) (C := RX11) (T := TX11) (N := 46) hx hb hi_X11 (fun _ h => h) hown hK.1 hP 0 rfl rfl 0 (by decide) hf_7 (fun _ h9 => h9) rfl dX11_setsAll_166 ?_
                      refine lv_sipush (v := 16508) hx hb dX11_setsAll_169 (by decide) ?_
                      have n_172 : vp_in (16508 : Int32) 19800 := (t_in (by decide))
                      refine va_iald hx hb hK.1 hP 1 0 rfl rfl n_172 dX11_setsAll_172 ?_
                      refine q_nm (fun x41 e_x41 => ?_)
                      have e_x41 : x41 = (u38 1) 16508 := e_x41
                      have g_x41 : x41.toInt = ((u38 1) 16508).toInt := congrArg _ e_x41
                      have n_173 : vp_in x40 19800 := (t_in (by omega))
                      obtain ⟨f42, e_f42⟩ : ∃ z, z = upd (u38 1) x40.toNatClampNeg x41 := ⟨_, rfl⟩
                      refine va_iast hx hb hK.1 hP hD hS 1 0 rfl rfl n_173 dX11_setsAll_173 (fun H locs hP hD hS => ?_)
                      have hP : va_P g.1 vwCl (wX11 g a_m (uR u38 1 f42) J_m) H := by rw [e_f42]; exact hP
                      have hD : va_D A (wX11 g a_m (uR u38 1 f42) J_m) := by rw [e_f42]; exact hD
                      have hc_173 : MI (uR u38 1 f42) := MI.ua (p_r37.1) e_f42 rfl (by omega) (by omega)
                      have hk_173 : KK [1] [20, 21] I_m (uR u38 1 f42) := KK.ur (KK.tr hk_63 p_r37.2.2.1 (by decide) (by decide)) (by decide) (by decide)
                      have hw_173 : WK I_m (uR u38 1 f42) := WK.ua (WK.tr hw_63 p_r37.2.1) e_f42 rfl (by omega)
                      have n173 := congrArg Int32.toInt ((congrFun e_f42 16508).trans (pk_un (by show 16508 ≠ (x40).toInt.toNat; omega)))
                      refine lv_aload_n hx hb dX11_setsAll_174 rfl (lv_at hl 2 rfl) ?_
                      refine va_get (D := g.1) (ci := 11) (v := .ref (a_m 1)) (C := RX11) (T := TX11) (N := 46) hx hb hi_X11 (fun _ h => h) hown hK.1 hP 0 rfl rfl 0 (by decide) hf_7 (fun _ h9 => h9) rfl dX11_setsAll_175 ?_
                      refine lv_sipush (v := 16509) hx hb dX11_setsAll_178 (by decide) ?_
                      refine lv_dup2_11 hx hb dX11_setsAll_181 rfl rfl ?_
                      have n_182 : vp_in (16509 : Int32) 19800 := (t_in (by decide))
                      refine va_iald hx hb hK.1 hP 1 0 rfl rfl n_182 dX11_setsAll_182 ?_
                      refine q_nm (fun x43 e_x43 => ?_)
                      have e_x43 : x43 = f42 16509 := e_x43
                      have g_x43 : x43.toInt = (f42 16509).toInt := congrArg _ e_x43
                      have m_x43 := GP.rd hz149 e_f42 (by omega) e_x43
                      refine lv_iconst (v := 1) hx hb dX11_setsAll_183 (by decide) ?_
                      refine r_iadd hx hb dX11_setsAll_184 rfl (by decide : (1 : Int32).toInt = 1) (fun x44 e_x44 t_x44 => ?_)
                      try have t_x44 := t_x44 (by omega)
                      have n_185 : vp_in (16509 : Int32) 19800 := (t_in (by decide))
                      obtain ⟨f45, e_f45⟩ : ∃ z, z = upd f42 (16509 : Int32).toNatClampNeg x44 := ⟨_, rfl⟩
                      refine va_iast hx hb hK.1 hP hD hS 1 0 rfl rfl n_185 dX11_setsAll_185 (fun H locs hP hD hS => ?_)
                      have hP : va_P g.1 vwCl (wX11 g a_m (uR (uR u38 1 f42) 1 f45) J_m) H := by rw [e_f45]; exact hP
                      have hD : va_D A (wX11 g a_m (uR (uR u38 1 f42) 1 f45) J_m) := by rw [e_f45]; exact hD
                      have hc_185 : MI (uR (uR u38 1 f42) 1 f45) := MI.ua hc_173 e_f45 (by decide : (16509 : Int32).toInt = 16509) (by omega) (by omega)
                      have hk_185 : KK [1] [20, 21] I_m (uR (uR u38 1 f42) 1 f45) := KK.ur hk_173 (by decide) (by decide)
                      have hw_185 : WK I_m (uR (uR u38 1 f42) 1 f45) := WK.ua hw_173 e_f45 (by decide : (16509 : Int32).toInt = 16509) (by omega)
                      have hj185 := SB.piece (I' := (uR (uR u38 1 f42) 1 f45)) hz149 e_f42 (by omega) e_x41 e_f45 e_x43 (by omega) rfl
                      have n185 := congrArg Int32.toInt ((congrFun e_f45 16508).trans (pk_un (by decide)))
                      have u185 := congrArg Int32.toInt ((congrFun e_f45 16509).trans (upd_at rfl))
                      exact J186 (uR (uR u38 1 f42) 1 f45) hc_185 hw_185 hk_185 (by first | exact hj185.1 | exact SB.plain hs_63) (by first | exact hb_63.tr (hy149.tr hj185.2) | exact hb_63) (by first | (exact absurd (hs_63.2.2.1 k_116).2 (by omega)) | (rw [(show uGp (uBM I_m) v2_63.toInt (I_m_63 1 16508).toInt = 1 from if_pos ⟨by omega, by rw [← x123]; exact q_129, hF_63.2.2.2.1 (by omega)⟩)]; show (f45 16508).toInt = _; omega) | (rw [(show uGp (uBM I_m) v2_63.toInt (I_m_63 1 16508).toInt = 0 from if_neg (fun z => by have := z.2.2; have := hF_63.2.2.2; omega)), Int.add_zero]; show (f45 16508).toInt = _; omega) | (rw [(show uGp (uBM I_m) v2_63.toInt (I_m_63 1 16508).toInt = 0 from if_neg (fun z => by have := z.1; omega)), Int.add_zero]; show (f45 16508).toInt = _; omega) | (rw [(show uGp (uBM I_m) v2_63.toInt (I_m_63 1 16508).toInt = 0 from if_neg (fun z => q_129 (by rw [x123]; exact z.2.1))), Int.add_zero])) (by first | (show 0 < (f45 16509).toInt; omega) | exact hF_63.2.2.2.2 (hF_63.2.2.1 (by omega) (by rw [← x123]; exact q_129))) _ _ hP hD hS ls hl
                  · refine lv_aload_n hx hb dX11_setsAll_119 rfl (lv_at hl 2 rfl) ?_
                    refine lv_iload_n hx hb dX11_setsAll_120 rfl (lv_at hl 1 rfl) ?_
                    refine lv_iconst (v := 1) hx hb dX11_setsAll_121 (by decide) ?_
                    refine r_isub hx hb dX11_setsAll_122 rfl (by decide : (1 : Int32).toInt = 1) (fun x46 e_x46 t_x46 => ?_)
                    try have t_x46 := t_x46 (by omega)
                    refine PurI.cv (As := [.int x46]) (kX11_byteOf l g a_m I_m_63 J_m x46 hM_63 (by omega)) fx (gUV (uT _) u_704 u_705 u_706 u_5 u_707) rfl hdX11_byteOf ⟨Nat.le_of_ble_eq_true rfl, Nat.le_of_ble_eq_true rfl⟩ hK hP [0, 1, 2, 3, 4, 5, 6, 7, 8, 9, 10, 11, 12, 13, 14, 15, 16, 17, 18, 19, 20, 21, 22] rfl rfl rfl rfl rfl hl.1 (Nat.le_of_ble_eq_true rfl) dX11_setsAll_123 (fun r47 p_r47 => ?_)
                    have hb123 := p_r47
                    have x123 : (r47).toInt = uBM I_m (v2_63.toInt - 1).toNat := by rw [← hbm63, ← show (x46).toInt = v2_63.toInt - 1 by omega]; exact u_by (k := x46) (n := (I_m_63 1 16507).toInt) p_r47 (by omega) (by omega) (Int.le_refl _)
                    refine PurI.cs (C := RX11) (As := [.int r47]) (kX11_isBlank l g r47) fx (gUS (uT _) u_708 u_709 u_5 u_710) rfl hdX11_isBlank ⟨Nat.le_of_ble_eq_true rfl, Nat.le_of_ble_eq_true rfl⟩ hK hP [] rfl rfl rfl hl.1 (Nat.le_of_ble_eq_true rfl) dX11_setsAll_126 (fun r48 p_r48 => ?_)
                    refine q_if_eq (tgt := 186) hx hb dX11_setsAll_129 (by decide) rfl (fun b_129 k_129 => ?_) (fun b_129 k_129 => ?_)
                    · have q_129 := bP.f p_r48 b_129
                      exact J186 I_m_63 hM_63 hw_63 hk_63 (by first | exact hj185.1 | exact SB.plain hs_63) (by first | exact hb_63.tr (hy149.tr hj185.2) | exact hb_63) (by first | (exact absurd (hs_63.2.2.1 k_116).2 (by omega)) | (rw [(show uGp (uBM I_m) v2_63.toInt (I_m_63 1 16508).toInt = 0 from if_neg (fun z => q_129 (by rw [x123]; exact z.2.1))), Int.add_zero])) (by exact hF_63.2.2.2.2 (hF_63.2.2.1 (by omega) (by rw [← x123]; exact q_129))) _ _ hP hD hS ls hl
                    · have q_129 := bP.t p_r48 b_129
                      have hg115 := SA.zb hs_63 (by omega) (by rcases hb123 with u | u; rw [u.2, show (x46).toInt.toNat = (v2_63.toInt - 1).toNat by omega] at q_129; exact q_129; exfalso; omega)
                      refine lv_aload_n hx hb dX11_setsAll_132 rfl (lv_at hl 2 rfl) ?_
                      refine va_get (D := g.1) (ci := 11) (v := .ref (a_m 1)) (C := RX11) (T := TX11) (N := 46) hx hb hi_X11 (fun _ h => h) hown hK.1 hP 0 rfl rfl 0 (by decide) hf_7 (fun _ h9 => h9) rfl dX11_setsAll_133 ?_
                      refine lv_sipush (v := 16509) hx hb dX11_setsAll_136 (by decide) ?_
                      have n_139 : vp_in (16509 : Int32) 19800 := (t_in (by decide))
                      refine va_iald hx hb hK.1 hP 1 0 rfl rfl n_139 dX11_setsAll_139 ?_
                      refine q_nm (fun x49 e_x49 => ?_)
                      have e_x49 : x49 = (I_m_63 1) 16509 := e_x49
                      have g_x49 : x49.toInt = ((I_m_63 1) 16509).toInt := congrArg _ e_x49
                      refine q_if_le (tgt := 149) hx hb dX11_setsAll_140 (by decide) rfl (fun k_140 => ?_) (fun k_140 => ?_)
                      · have hz149 := SA.gA hs_63 hg115 (by omega) (by omega)
                        have hy149 := BS.rf I_m_63
                        refine lv_aload_n hx hb dX11_setsAll_149 rfl (lv_at hl 2 rfl) ?_
                        refine va_get (D := g.1) (ci := 11) (v := .ref (a_m 1)) (C := RX11) (T := TX11) (N := 46) hx hb hi_X11 (fun _ h => h) hown hK.1 hP 0 rfl rfl 0 (by decide) hf_7 (fun _ h9 => h9) rfl dX11_setsAll_150 ?_
                        refine lv_sipush (v := 18350) hx hb dX11_setsAll_153 (by decide) ?_
                        refine lv_aload_n hx hb dX11_setsAll_156 rfl (lv_at hl 2 rfl) ?_
                        refine va_get (D := g.1) (ci := 11) (v := .ref (a_m 1)) (C := RX11) (T := TX11) (N := 46) hx hb hi_X11 (fun _ h => h) hown hK.1 hP 0 rfl rfl 0 (by decide) hf_7 (fun _ h9 => h9) rfl dX11_setsAll_157 ?_
                        refine lv_sipush (v := 16509) hx hb dX11_setsAll_160 (by decide) ?_
                        have n_163 : vp_in (16509 : Int32) 19800 := (t_in (by decide))
                        refine va_iald hx hb hK.1 hP 1 0 rfl rfl n_163 dX11_setsAll_163 ?_
                        refine q_nm (fun x50 e_x50 => ?_)
                        have e_x50 : x50 = (I_m_63 1) 16509 := e_x50
                        have g_x50 : x50.toInt = ((I_m_63 1) 16509).toInt := congrArg _ e_x50
                        have hq163 := hz149.2.2.1
                        have hr163 := hz149.1.2.1
                        refine r_iadd hx hb dX11_setsAll_164 (by decide : (18350 : Int32).toInt = 18350) rfl (fun x51 e_x51 t_x51 => ?_)
                        try have t_x51 := t_x51 (by omega)
                        refine lv_aload_n hx hb dX11_setsAll_165 rfl (lv_at hl 2 rfl) ?_
                        refine va_get (D := g.1) (ci := 11) (v := .ref (a_m 1)) (C := RX11) (T := TX11) (N := 46) hx hb hi_X11 (fun _ h => h) hown hK.1 hP 0 rfl rfl 0 (by decide) hf_7 (fun _ h9 => h9) rfl dX11_setsAll_166 ?_
                        refine lv_sipush (v := 16508) hx hb dX11_setsAll_169 (by decide) ?_
                        have n_172 : vp_in (16508 : Int32) 19800 := (t_in (by decide))
                        refine va_iald hx hb hK.1 hP 1 0 rfl rfl n_172 dX11_setsAll_172 ?_
                        refine q_nm (fun x52 e_x52 => ?_)
                        have e_x52 : x52 = (I_m_63 1) 16508 := e_x52
                        have g_x52 : x52.toInt = ((I_m_63 1) 16508).toInt := congrArg _ e_x52
                        have n_173 : vp_in x51 19800 := (t_in (by omega))
                        obtain ⟨f53, e_f53⟩ : ∃ z, z = upd (I_m_63 1) x51.toNatClampNeg x52 := ⟨_, rfl⟩
                        refine va_iast hx hb hK.1 hP hD hS 1 0 rfl rfl n_173 dX11_setsAll_173 (fun H locs hP hD hS => ?_)
                        have hP : va_P g.1 vwCl (wX11 g a_m (uR I_m_63 1 f53) J_m) H := by rw [e_f53]; exact hP
                        have hD : va_D A (wX11 g a_m (uR I_m_63 1 f53) J_m) := by rw [e_f53]; exact hD
                        have hc_173 : MI (uR I_m_63 1 f53) := MI.ua hM_63 e_f53 rfl (by omega) (by omega)
                        have hk_173 : KK [1] [20, 21] I_m (uR I_m_63 1 f53) := KK.ur hk_63 (by decide) (by decide)
                        have hw_173 : WK I_m (uR I_m_63 1 f53) := WK.ua hw_63 e_f53 rfl (by omega)
                        have n173 := congrArg Int32.toInt ((congrFun e_f53 16508).trans (pk_un (by show 16508 ≠ (x51).toInt.toNat; omega)))
                        refine lv_aload_n hx hb dX11_setsAll_174 rfl (lv_at hl 2 rfl) ?_
                        refine va_get (D := g.1) (ci := 11) (v := .ref (a_m 1)) (C := RX11) (T := TX11) (N := 46) hx hb hi_X11 (fun _ h => h) hown hK.1 hP 0 rfl rfl 0 (by decide) hf_7 (fun _ h9 => h9) rfl dX11_setsAll_175 ?_
                        refine lv_sipush (v := 16509) hx hb dX11_setsAll_178 (by decide) ?_
                        refine lv_dup2_11 hx hb dX11_setsAll_181 rfl rfl ?_
                        have n_182 : vp_in (16509 : Int32) 19800 := (t_in (by decide))
                        refine va_iald hx hb hK.1 hP 1 0 rfl rfl n_182 dX11_setsAll_182 ?_
                        refine q_nm (fun x54 e_x54 => ?_)
                        have e_x54 : x54 = f53 16509 := e_x54
                        have g_x54 : x54.toInt = (f53 16509).toInt := congrArg _ e_x54
                        have m_x54 := GP.rd hz149 e_f53 (by omega) e_x54
                        refine lv_iconst (v := 1) hx hb dX11_setsAll_183 (by decide) ?_
                        refine r_iadd hx hb dX11_setsAll_184 rfl (by decide : (1 : Int32).toInt = 1) (fun x55 e_x55 t_x55 => ?_)
                        try have t_x55 := t_x55 (by omega)
                        have n_185 : vp_in (16509 : Int32) 19800 := (t_in (by decide))
                        obtain ⟨f56, e_f56⟩ : ∃ z, z = upd f53 (16509 : Int32).toNatClampNeg x55 := ⟨_, rfl⟩
                        refine va_iast hx hb hK.1 hP hD hS 1 0 rfl rfl n_185 dX11_setsAll_185 (fun H locs hP hD hS => ?_)
                        have hP : va_P g.1 vwCl (wX11 g a_m (uR (uR I_m_63 1 f53) 1 f56) J_m) H := by rw [e_f56]; exact hP
                        have hD : va_D A (wX11 g a_m (uR (uR I_m_63 1 f53) 1 f56) J_m) := by rw [e_f56]; exact hD
                        have hc_185 : MI (uR (uR I_m_63 1 f53) 1 f56) := MI.ua hc_173 e_f56 (by decide : (16509 : Int32).toInt = 16509) (by omega) (by omega)
                        have hk_185 : KK [1] [20, 21] I_m (uR (uR I_m_63 1 f53) 1 f56) := KK.ur hk_173 (by decide) (by decide)
                        have hw_185 : WK I_m (uR (uR I_m_63 1 f53) 1 f56) := WK.ua hw_173 e_f56 (by decide : (16509 : Int32).toInt = 16509) (by omega)
                        have hj185 := SB.piece (I' := (uR (uR I_m_63 1 f53) 1 f56)) hz149 e_f53 (by omega) e_x52 e_f56 e_x54 (by omega) rfl
                        have n185 := congrArg Int32.toInt ((congrFun e_f56 16508).trans (pk_un (by decide)))
                        have u185 := congrArg Int32.toInt ((congrFun e_f56 16509).trans (upd_at rfl))
                        exact J186 (uR (uR I_m_63 1 f53) 1 f56) hc_185 hw_185 hk_185 (by first | exact hj185.1 | exact SB.plain hs_63) (by first | exact hb_63.tr (hy149.tr hj185.2) | exact hb_63) (by first | (exact absurd (hs_63.2.2.1 k_116).2 (by omega)) | (rw [(show uGp (uBM I_m) v2_63.toInt (I_m_63 1 16508).toInt = 1 from if_pos ⟨by omega, by rw [← x123]; exact q_129, hF_63.2.2.2.1 (by omega)⟩)]; show (f56 16508).toInt = _; omega) | (rw [(show uGp (uBM I_m) v2_63.toInt (I_m_63 1 16508).toInt = 0 from if_neg (fun z => by have := z.2.2; have := hF_63.2.2.2; omega)), Int.add_zero]; show (f56 16508).toInt = _; omega) | (rw [(show uGp (uBM I_m) v2_63.toInt (I_m_63 1 16508).toInt = 0 from if_neg (fun z => by have := z.1; omega)), Int.add_zero]; show (f56 16508).toInt = _; omega) | (rw [(show uGp (uBM I_m) v2_63.toInt (I_m_63 1 16508).toInt = 0 from if_neg (fun z => q_129 (by rw [x123]; exact z.2.1))), Int.add_zero])) (by first | (show 0 < (f56 16509).toInt; omega) | exact hF_63.2.2.2.2 (hF_63.2.2.1 (by omega) (by rw [← x123]; exact q_129))) _ _ hP hD hS ls hl
                      · refine lv_aload_n hx hb dX11_setsAll_143 rfl (lv_at hl 2 rfl) ?_
                        refine lv_iconst (v := 0) hx hb dX11_setsAll_144 (by decide) ?_
                        refine lv_iconst (v := -1) hx hb dX11_setsAll_145 (by decide) ?_
                        refine EffV.cv (wr := ([])) (w' := fun u58 => wX11 g a_m u58 J_m) (As := [.int (0 : Int32), .int (-1 : Int32)]) (kX11_sets l g a_m I_m_63 J_m (0 : Int32) (-1 : Int32) hM_63 (by omega) (by omega)) fx (gUV (uT _) u_724 u_725 u_726 u_5 u_727) rfl hdX11_sets ⟨Nat.le_of_ble_eq_true rfl, Nat.le_of_ble_eq_true rfl⟩ hK hP hD hS hA [0, 1, 2, 3, 4, 5, 6, 7, 8, 9, 10, 11, 12, 13, 14, 15, 16, 17, 18, 19, 20, 21, 22] [] [0, 1, 2, 3, 4, 5, 6, 7, 8, 9, 10, 11, 12, 13, 14, 15, 16, 17, 18, 19, 20, 21, 22] rfl rfl rfl rfl (by decide) rfl (fun _ => rfl) rfl rfl rfl rfl hl.1 (Nat.le_of_ble_eq_true rfl) dX11_setsAll_146 (fun u58 H locs p_r57 hP hD hS => ?_)
                        have hP : va_P g.1 vwCl (wX11 g a_m u58 J_m) H := hP
                        have hD : va_D A (wX11 g a_m u58 J_m) := hD
                        have hz149 := SA.gB hs_63 hg115 (by omega) (by omega) p_r57.2.2.2.1 p_r57.2.2.2.2.1
                        have hy149 : BS I_m_63 u58 := p_r57.2.2.2.1.2.2.2.1
                        have c146 := p_r57.2.2.2.2.1
                        refine lv_aload_n hx hb dX11_setsAll_149 rfl (lv_at hl 2 rfl) ?_
                        refine va_get (D := g.1) (ci := 11) (v := .ref (a_m 1)) (C := RX11) (T := TX11) (N := 46) hx hb hi_X11 (fun _ h => h) hown hK.1 hP 0 rfl rfl 0 (by decide) hf_7 (fun _ h9 => h9) rfl dX11_setsAll_150 ?_
                        refine lv_sipush (v := 18350) hx hb dX11_setsAll_153 (by decide) ?_
                        refine lv_aload_n hx hb dX11_setsAll_156 rfl (lv_at hl 2 rfl) ?_
                        refine va_get (D := g.1) (ci := 11) (v := .ref (a_m 1)) (C := RX11) (T := TX11) (N := 46) hx hb hi_X11 (fun _ h => h) hown hK.1 hP 0 rfl rfl 0 (by decide) hf_7 (fun _ h9 => h9) rfl dX11_setsAll_157 ?_
                        refine lv_sipush (v := 16509) hx hb dX11_setsAll_160 (by decide) ?_
                        have n_163 : vp_in (16509 : Int32) 19800 := (t_in (by decide))
                        refine va_iald hx hb hK.1 hP 1 0 rfl rfl n_163 dX11_setsAll_163 ?_
                        refine q_nm (fun x59 e_x59 => ?_)
                        have e_x59 : x59 = (u58 1) 16509 := e_x59
                        have g_x59 : x59.toInt = ((u58 1) 16509).toInt := congrArg _ e_x59
                        have hq163 := hz149.2.2.1
                        have hr163 := hz149.1.2.1
                        refine r_iadd hx hb dX11_setsAll_164 (by decide : (18350 : Int32).toInt = 18350) rfl (fun x60 e_x60 t_x60 => ?_)
                        try have t_x60 := t_x60 (by omega)
                        refine lv_aload_n hx hb dX11_setsAll_165 rfl (lv_at hl 2 rfl) ?_
                        refine va_get (D := g.1) (ci := 11) (v := .ref (a_m 1)) (C := RX11) (T := TX11) (N := 46) hx hb hi_X11 (fun _ h => h) hown hK.1 hP 0 rfl rfl 0 (by decide) hf_7 (fun _ h9 => h9) rfl dX11_setsAll_166 ?_
                        refine lv_sipush (v := 16508) hx hb dX11_setsAll_169 (by decide) ?_
                        have n_172 : vp_in (16508 : Int32) 19800 := (t_in (by decide))
                        refine va_iald hx hb hK.1 hP 1 0 rfl rfl n_172 dX11_setsAll_172 ?_
                        refine q_nm (fun x61 e_x61 => ?_)
                        have e_x61 : x61 = (u58 1) 16508 := e_x61
                        have g_x61 : x61.toInt = ((u58 1) 16508).toInt := congrArg _ e_x61
                        have n_173 : vp_in x60 19800 := (t_in (by omega))
                        obtain ⟨f62, e_f62⟩ : ∃ z, z = upd (u58 1) x60.toNatClampNeg x61 := ⟨_, rfl⟩
                        refine va_iast hx hb hK.1 hP hD hS 1 0 rfl rfl n_173 dX11_setsAll_173 (fun H locs hP hD hS => ?_)
                        have hP : va_P g.1 vwCl (wX11 g a_m (uR u58 1 f62) J_m) H := by rw [e_f62]; exact hP
                        have hD : va_D A (wX11 g a_m (uR u58 1 f62) J_m) := by rw [e_f62]; exact hD
                        have hc_173 : MI (uR u58 1 f62) := MI.ua (p_r57.1) e_f62 rfl (by omega) (by omega)
                        have hk_173 : KK [1] [20, 21] I_m (uR u58 1 f62) := KK.ur (KK.tr hk_63 p_r57.2.2.1 (by decide) (by decide)) (by decide) (by decide)
                        have hw_173 : WK I_m (uR u58 1 f62) := WK.ua (WK.tr hw_63 p_r57.2.1) e_f62 rfl (by omega)
                        have n173 := congrArg Int32.toInt ((congrFun e_f62 16508).trans (pk_un (by show 16508 ≠ (x60).toInt.toNat; omega)))
                        refine lv_aload_n hx hb dX11_setsAll_174 rfl (lv_at hl 2 rfl) ?_
                        refine va_get (D := g.1) (ci := 11) (v := .ref (a_m 1)) (C := RX11) (T := TX11) (N := 46) hx hb hi_X11 (fun _ h => h) hown hK.1 hP 0 rfl rfl 0 (by decide) hf_7 (fun _ h9 => h9) rfl dX11_setsAll_175 ?_
                        refine lv_sipush (v := 16509) hx hb dX11_setsAll_178 (by decide) ?_
                        refine lv_dup2_11 hx hb dX11_setsAll_181 rfl rfl ?_
                        have n_182 : vp_in (16509 : Int32) 19800 := (t_in (by decide))
                        refine va_iald hx hb hK.1 hP 1 0 rfl rfl n_182 dX11_setsAll_182 ?_
                        refine q_nm (fun x63 e_x63 => ?_)
                        have e_x63 : x63 = f62 16509 := e_x63
                        have g_x63 : x63.toInt = (f62 16509).toInt := congrArg _ e_x63
                        have m_x63 := GP.rd hz149 e_f62 (by omega) e_x63
                        refine lv_iconst (v := 1) hx hb dX11_setsAll_183 (by decide) ?_
                        refine r_iadd hx hb dX11_setsAll_184 rfl (by decide : (1 : Int32).toInt = 1) (fun x64 e_x64 t_x64 => ?_)
                        try have t_x64 := t_x64 (by omega)
                        have n_185 : vp_in (16509 : Int32) 19800 := (t_in (by decide))
                        obtain ⟨f65, e_f65⟩ : ∃ z, z = upd f62 (16509 : Int32).toNatClampNeg x64 := ⟨_, rfl⟩
                        refine va_iast hx hb hK.1 hP hD hS 1 0 rfl rfl n_185 dX11_setsAll_185 (fun H locs hP hD hS => ?_)
                        have hP : va_P g.1 vwCl (wX11 g a_m (uR (uR u58 1 f62) 1 f65) J_m) H := by rw [e_f65]; exact hP
                        have hD : va_D A (wX11 g a_m (uR (uR u58 1 f62) 1 f65) J_m) := by rw [e_f65]; exact hD
                        have hc_185 : MI (uR (uR u58 1 f62) 1 f65) := MI.ua hc_173 e_f65 (by decide : (16509 : Int32).toInt = 16509) (by omega) (by omega)
                        have hk_185 : KK [1] [20, 21] I_m (uR (uR u58 1 f62) 1 f65) := KK.ur hk_173 (by decide) (by decide)
                        have hw_185 : WK I_m (uR (uR u58 1 f62) 1 f65) := WK.ua hw_173 e_f65 (by decide : (16509 : Int32).toInt = 16509) (by omega)
                        have hj185 := SB.piece (I' := (uR (uR u58 1 f62) 1 f65)) hz149 e_f62 (by omega) e_x61 e_f65 e_x63 (by omega) rfl
                        have n185 := congrArg Int32.toInt ((congrFun e_f65 16508).trans (pk_un (by decide)))
                        have u185 := congrArg Int32.toInt ((congrFun e_f65 16509).trans (upd_at rfl))
                        exact J186 (uR (uR u58 1 f62) 1 f65) hc_185 hw_185 hk_185 (by first | exact hj185.1 | exact SB.plain hs_63) (by first | exact hb_63.tr (hy149.tr hj185.2) | exact hb_63) (by first | (exact absurd (hs_63.2.2.1 k_116).2 (by omega)) | (rw [(show uGp (uBM I_m) v2_63.toInt (I_m_63 1 16508).toInt = 1 from if_pos ⟨by omega, by rw [← x123]; exact q_129, hF_63.2.2.2.1 (by omega)⟩)]; show (f65 16508).toInt = _; omega) | (rw [(show uGp (uBM I_m) v2_63.toInt (I_m_63 1 16508).toInt = 0 from if_neg (fun z => by have := z.2.2; have := hF_63.2.2.2; omega)), Int.add_zero]; show (f65 16508).toInt = _; omega) | (rw [(show uGp (uBM I_m) v2_63.toInt (I_m_63 1 16508).toInt = 0 from if_neg (fun z => by have := z.1; omega)), Int.add_zero]; show (f65 16508).toInt = _; omega) | (rw [(show uGp (uBM I_m) v2_63.toInt (I_m_63 1 16508).toInt = 0 from if_neg (fun z => q_129 (by rw [x123]; exact z.2.1))), Int.add_zero])) (by first | (show 0 < (f65 16509).toInt; omega) | exact hF_63.2.2.2.2 (hF_63.2.2.1 (by omega) (by rw [← x123]; exact q_129))) _ _ hP hD hS ls hl
                refine lv_iload_n hx hb dX11_setsAll_94 rfl (lv_at hl 0 rfl) ?_
                refine PurI.cs (C := RX11) (As := [.int r6]) (kX11_isLetter l g r6) fx (gUS (uT _) u_711 u_712 u_5 u_713) rfl hdX11_isLetter ⟨Nat.le_of_ble_eq_true rfl, Nat.le_of_ble_eq_true rfl⟩ hK hP [] rfl rfl rfl hl.1 (Nat.le_of_ble_eq_true rfl) dX11_setsAll_95 (fun r66 p_r66 => ?_)
                refine q_if_ne (tgt := 115) hx hb dX11_setsAll_98 (by decide) rfl (fun b_98 k_98 => ?_) (fun b_98 k_98 => ?_)
                · have q_98 := bP.t p_r66 b_98
                  exact J115 (by first | exact Or.inl q_98 | exact Or.inr q_105) _ _ hP hD hS ls hl
                · have q_98 := bP.f p_r66 b_98
                  refine lv_iload_n hx hb dX11_setsAll_101 rfl (lv_at hl 0 rfl) ?_
                  refine PurI.cs (C := RX11) (As := [.int r6]) (kX11_isDigit0 l g r6) fx (gUS (uT _) u_717 u_718 u_5 u_719) rfl hdX11_isDigit0 ⟨Nat.le_of_ble_eq_true rfl, Nat.le_of_ble_eq_true rfl⟩ hK hP [] rfl rfl rfl hl.1 (Nat.le_of_ble_eq_true rfl) dX11_setsAll_102 (fun r67 p_r67 => ?_)
                  refine q_if_ne (tgt := 115) hx hb dX11_setsAll_105 (by decide) rfl (fun b_105 k_105 => ?_) (fun b_105 k_105 => ?_)
                  · have q_105 := bP.t p_r67 b_105
                    exact J115 (by first | exact Or.inl q_98 | exact Or.inr q_105) _ _ hP hD hS ls hl
                  · have q_105 := bP.f p_r67 b_105
                    refine lv_aload_n hx hb dX11_setsAll_108 rfl (lv_at hl 2 rfl) ?_
                    refine lv_iconst (v := 1) hx hb dX11_setsAll_109 (by decide) ?_
                    refine lv_iload_n hx hb dX11_setsAll_110 rfl (lv_at hl 1 rfl) ?_
                    refine EffI.cv (wr := ([])) (w' := fun u69 => wX11 g a_m u69 J_m) (As := [.int (1 : Int32), .int v2_63]) (kX11_isBad l g a_m I_m_63 J_m (1 : Int32) v2_63) fx (gUV (uT _) u_720 u_721 u_722 u_5 u_723) rfl hdX11_isBad ⟨Nat.le_of_ble_eq_true rfl, Nat.le_of_ble_eq_true rfl⟩ hK hP hD hS hA [0, 1, 2, 3, 4, 5, 6, 7, 8, 9, 10, 11, 12, 13, 14, 15, 16, 17, 18, 19, 20, 21, 22] [] [0, 1, 2, 3, 4, 5, 6, 7, 8, 9, 10, 11, 12, 13, 14, 15, 16, 17, 18, 19, 20, 21, 22] rfl rfl rfl rfl (by decide) rfl (fun _ => rfl) rfl rfl rfl rfl hl.1 (Nat.le_of_ble_eq_true rfl) dX11_setsAll_111 (fun r68 u69 H locs p_r68 hP hD hS => ?_)
                    have hP : va_P g.1 vwCl (wX11 g a_m u69 J_m) H := hP
                    have hD : va_D A (wX11 g a_m u69 J_m) := hD
                    refine hret 114 ls r68 _ _ u69 dX11_setsAll_114 (Or.inl p_r68.2.1) hS hP hD ?_
                    exact ⟨(MI.kk hM_63 p_r68.1 (by decide) (by decide)), (WK.kk hw_63 p_r68.1 (by decide)), (KK.tr hk_63 p_r68.1 (by decide) (by decide)), ⟨Or.inl p_r68.2.1, hb_63.kk p_r68.1 (by decide), fun q => absurd (q.symm.trans p_r68.2.1) (by decide), ⟨_, (1, v2_63.toInt), hF_63.1, Or.inr ⟨⟨by show v2_63.toInt < _; omega, Or.inl ⟨(by rw [← x77]; exact q_85), (by rw [← x77]; exact q_105), (by rw [← x77]; exact q_98), rfl⟩⟩, rfl⟩, Or.inr ⟨p_r68.2.1, (by rw [p_r68.2.2.1, p_r68.2.2.2]; rfl), (by show (1 : Int) ≠ 0; decide)⟩⟩, (fun w => absurd (Or.inl (w.2 v2_63.toInt.toNat (by omega)) : uLt (uBM I_m v2_63.toInt.toNat)) (by rw [← x77]; exact q_98))⟩⟩
              · have q_85 := bP.t p_r7 b_85
                refine r_iinc (lv' := fun i70 => [(2, .int i70), (3, .int r6), (0, .ref (a_m 0)), (1, .int gone)]) hx hb dX11_setsAll_88 hl (k := 1) rfl (by decide) rfl (by decide) (fun _ => rfl) (fun i70 e_i70 t_i70 ls hl => ?_)
                try have t_i70 := t_i70 (by omega)
                refine lv_goto (tgt := 63) hx hb dX11_setsAll_91 (by decide) ?_
                exact ih_63 i70 I_m_63 hM_63 hw_63 hk_63 (by omega) (by first | exact hb_63 | exact hb_186.tr hs201.2.2.2.1 | exact hb_186.tr hy245) (by first | exact hn211 | exact hn297 | (rw [show (i70).toInt = v2_63.toInt + 1 by omega]; exact SA.blank hs_63 (by omega))) (by first | exact uLm.bl hF_63 (by omega) (by rw [← x77]; exact q_85) (by omega) | (rcases f201 with w | w; rw [heq211]; exact uLm.wd (fun r hr => (uTM.c1 hM (r := r) (by rw [uTM.len] at hr; omega)).1) hF_63 hd201 w.2 (by rw [hs201.2.2.1]; exact hpc_186); exact absurd (w.1) b_204) | exact uLm.fg (fun r hr => (uTM.c1 hM (r := r) (by rw [uTM.len] at hr; omega)).1) hF_63 (by omega) hF_245 (by omega) (fun z => by rw [← x247 z]; exact q_253) (by have w := hs_245.2.2.1; rw [w]; exact hpc_186)) (by first | exact (fun w => Or.inr ⟨heq211.trans (y201 w).1, ((y201 w).2.resolve_right (fun z => absurd z.1 b_204)).2⟩) | exact (have z245 := hF_245; (fun w => by exfalso; have s9 := w.2 v2_63.toInt.toNat (by omega); have d9 : uDg (uBM I_m v2_63.toInt.toNat) := (by rw [← x77]; exact hl_115.resolve_left q_190); obtain ⟨d1, d2⟩ := d9; omega)) | exact (fun w => by exfalso; have s9 := w.2 v2_63.toInt.toNat (by omega); have b9 : uBl (uBM I_m v2_63.toInt.toNat) := (by rw [← x77]; exact q_85); rcases b9 with b9 | b9 <;> omega)) (by omega) _ _ hP hD hS ls (lv_sub hl [0, 2, 3] rfl)
        exact L63 ((301 - (0 : Int32).toInt) + 1).toNat (0 : Int32) I_m_38 hM_38 hw_38 hk_38 (by omega) hb_38 (SA.zero h8_38.1 h8_38.2 (by decide)) (by rw [lm0, h8_38.1, h8_38.2]; exact ⟨gRe.rf, fun _ q => absurd q (by decide), fun q => absurd q (by decide), Iff.rfl⟩) (fun _ => Or.inl ⟨lm0, h8_38.1⟩) (by omega) _ _ hP hD hS ls hl
      · refine lv_aload_n hx hb dX11_setsAll_44 rfl (lv_at hl 1 rfl) ?_
        refine va_get (D := g.1) (ci := 11) (v := .ref (a_m 1)) (C := RX11) (T := TX11) (N := 46) hx hb hi_X11 (fun _ h => h) hown hK.1 hP 0 rfl rfl 0 (by decide) hf_7 (fun _ h9 => h9) rfl dX11_setsAll_45 ?_
        refine lv_sipush (v := 18510) hx hb dX11_setsAll_48 (by decide) ?_
        refine lv_iload_n hx hb dX11_setsAll_51 rfl (lv_at hl 0 rfl) ?_
        refine r_iadd hx hb dX11_setsAll_52 (by decide : (18510 : Int32).toInt = 18510) rfl (fun x71 e_x71 t_x71 => ?_)
        try have t_x71 := t_x71 (by omega)
        refine lv_iconst (v := 0) hx hb dX11_setsAll_53 (by decide) ?_
        have n_54 : vp_in x71 19800 := (t_in (by omega))
        obtain ⟨f72, e_f72⟩ : ∃ z, z = upd (I_m_38 1) x71.toNatClampNeg (0 : Int32) := ⟨_, rfl⟩
        refine va_iast hx hb hK.1 hP hD hS 1 0 rfl rfl n_54 dX11_setsAll_54 (fun H locs hP hD hS => ?_)
        have hP : va_P g.1 vwCl (wX11 g a_m (uR I_m_38 1 f72) J_m) H := by rw [e_f72]; exact hP
        have hD : va_D A (wX11 g a_m (uR I_m_38 1 f72) J_m) := by rw [e_f72]; exact hD
        have hc_54 : MI (uR I_m_38 1 f72) := MI.ua hM_38 e_f72 rfl (by omega) (by omega)
        have hk_54 : KK [1] [20, 21] I_m (uR I_m_38 1 f72) := KK.ur hk_38 (by decide) (by decide)
        have hw_54 : WK I_m (uR I_m_38 1 f72) := WK.ua hw_38 e_f72 rfl (by omega)
        have hb54 : BS I_m (uR I_m_38 1 f72) := hb_38.ua e_f72 rfl (by omega) (by omega)
        have h8_54 : ((uR I_m_38 1 f72) 1 16508).toInt = 0 ∧ ((uR I_m_38 1 f72) 1 16509).toInt = 0 := by show (f72 16508).toInt = 0 ∧ (f72 16509).toInt = 0; rw [e_f72, pk_un (by show 16508 ≠ (x71).toInt.toNat; omega), pk_un (by show 16509 ≠ (x71).toInt.toNat; omega)]; exact h8_38
        refine r_iinc (lv' := fun i73 => [(2, .int i73), (0, .ref (a_m 0)), (1, .int gone)]) hx hb dX11_setsAll_55 hl (k := 0) rfl (by decide) rfl (by decide) (fun _ => rfl) (fun i73 e_i73 t_i73 ls hl => ?_)
        try have t_i73 := t_i73 (by omega)
        refine lv_goto (tgt := 38) hx hb dX11_setsAll_58 (by decide) ?_
        exact ih_38 i73 (uR I_m_38 1 f72) hc_54 hw_54 hk_54 (by omega) hb54 h8_54 (by omega) _ _ hP hD hS ls hl
  exact L38 ((25 - (0 : Int32).toInt) + 1).toNat (0 : Int32) (uR (uR (uR (uR I_m 1 f1) 1 f2) 1 f3) 1 f4) hc_35 hw_35 hk_35 (by omega) hb35 h8_35 (by omega) _ _ hP hD hS ls hl
