set_option maxHeartbeats 4000000 in
set_option maxRecDepth 100000 in
theorem kX3_nextNumeral (l : Launch) (g : gG) (a_r : Nat → Nat) (I_r : Nat → Nat → Int32) (a_x : Nat → Nat) (n_x : Nat) (I_x : Nat → Nat → Int32) (n : Int32) (h_r : 0 ≤ (I_r 0 4).toInt ∧ (I_r 0 4).toInt ≤ (I_r 0 5).toInt ∧ (I_r 0 5).toInt ≤ (n_x : Int) ∧ n_x ≤ 1000) (h_n : (I_r 0 5).toInt ≤ n.toInt ∧ n.toInt ≤ (n_x : Int)) (h_v : (I_r 0 6).toInt = 0 ∧ (I_r 0 5).toInt = (I_r 0 4).toInt) : EffV l g yX3_nextNumeral wsX3_nextNumeral 1 [.ref (a_r 0), .ref (a_x 0), .int n] (wX3 g a_r I_r ++ wArr g a_x n_x I_x) (fun (u : (Nat → Nat → Int32)) => wX3 g a_r u ++ wArr g a_x n_x I_x) (fun (u : (Nat → Nat → Int32)) => (u) 0 4 = I_r 0 4 ∧ (I_r 0 5).toInt ≤ ((u) 0 5).toInt ∧ ((u) 0 5).toInt ≤ n.toInt ∧ (u) 0 7 = I_r 0 7 ∧ (u) 0 8 = I_r 0 8 ∧ ((u) 0 9 = I_r 0 9 ∧ (u) 0 2 = I_r 0 2) ∧ (∀ j : Nat, (I_r 0 4).toInt ≤ (j : Int) → (j : Int) < ((u) 0 5).toInt → 48 ≤ fxB (I_x 0) j ∧ fxB (I_x 0) j ≤ 57) ∧ (((u) 0 5).toInt < n.toInt → ¬ (48 ≤ fxB (I_x 0) ((u) 0 5).toInt.toNat ∧ fxB (I_x 0) ((u) 0 5).toInt.toNat ≤ 57)) ∧ ((4 < ((u) 0 5).toInt - (I_r 0 4).toInt ∧ ((u) 0 3).toInt = 4) ∨ (((u) 0 5).toInt - (I_r 0 4).toInt ≤ 4 ∧ ((u) 0 3).toInt = 1 ∧ ((u) 0 6).toInt = fxDv (fxB (I_x 0)) (I_r 0 4).toInt.toNat (((u) 0 5).toInt - (I_r 0 4).toInt).toNat))) := by
  refine EffV.st (cc := cX3_nextNumeral) (maxL := 3) (by decide) rfl (Nat.le_of_ble_eq_true rfl) (fun p e s m args below meth c A Q ls fx hK hP hD hA hS hl hret => ?_)
  have hx := fx.1
  have hb := fx.2.1
  have hml := fx.2.2.1
  have hown := fx.2.2.2.1
  have hts := fx.2.2.2.2
  have hl : lv_has ls 3 [(0, .ref (a_r 0)), (1, .ref (a_x 0)), (2, .int n)] := hl
  have hP : va_P g.1 vwCl (wX3 g a_r I_r ++ wArr g a_x n_x I_x) s.heap := hP
  have hf_25 := hts _ (uT _ _ u_79)
  have hf_28 := hts _ (uT _ _ u_80)
  have hf_31 := hts _ (uT _ _ u_81)
  have hf_34 := hts _ (uT _ _ u_82)
  have hi_X3 : ∀ w ∈ wsX30, w.before args s = true := fun w h => hts w (uT _ w (u_wsX30 w h))
  have lm1 : (-1 : Int32).toInt = -1 := by decide
  have lm0 : (0 : Int32).toInt = 0 := by decide
  have lm2 : (1 : Int32).toInt = 1 := by decide
  have L0 : ∀ (nn : Nat) (I_r_0 : Nat → Nat → Int32), (hs_0 : I_r_0 0 4 = I_r 0 4 ∧ I_r_0 0 7 = I_r 0 7 ∧ I_r_0 0 8 = I_r 0 8 ∧ I_r_0 0 9 = I_r 0 9 ∧ I_r_0 0 2 = I_r 0 2) → (hv_0 : (I_r 0 5).toInt ≤ (I_r_0 0 5).toInt ∧ (I_r_0 0 5).toInt ≤ n.toInt) → (hd_0 : ∀ j : Nat, (I_r 0 4).toInt ≤ (j : Int) → (j : Int) < ((I_r_0 0 5)).toInt → 48 ≤ fxB (I_x 0) j ∧ fxB (I_x 0) j ≤ 57) → (hq_0 : ((((I_r_0 0 5)).toInt - (I_r 0 4).toInt) ≤ 4 → ((I_r_0 0 6)).toInt = fxDv (fxB (I_x 0)) (I_r 0 4).toInt.toNat (((I_r_0 0 5)).toInt - (I_r 0 4).toInt).toNat)) → (hu_0 : 0 ≤ ((I_r_0 0 6)).toInt ∧ ((I_r_0 0 6)).toInt ≤ 9999 ∧ ((((I_r_0 0 5)).toInt - (I_r 0 4).toInt) ≤ 0 → ((I_r_0 0 6)).toInt ≤ 0) ∧ ((((I_r_0 0 5)).toInt - (I_r 0 4).toInt) ≤ 1 → ((I_r_0 0 6)).toInt ≤ 9) ∧ ((((I_r_0 0 5)).toInt - (I_r 0 4).toInt) ≤ 2 → ((I_r_0 0 6)).toInt ≤ 99) ∧ ((((I_r_0 0 5)).toInt - (I_r 0 4).toInt) ≤ 3 → ((I_r_0 0 6)).toInt ≤ 999)) → ((n.toInt + 1 - ((I_r_0 0 5)).toInt) < (nn : Int)) → ∀ (H : Heap) (locs : List Loc), va_P g.1 vwCl (wX3 g a_r I_r_0 ++ wArr g a_x n_x I_x) H → va_D A (wX3 g a_r I_r_0 ++ wArr g a_x n_x I_x) → va_S A s.heap H locs → ∀ ls : Array Slot, lv_has ls 3 [(0, .ref (a_r 0)), (1, .ref (a_x 0)), (2, .int n)] → W p l e (rm 1) s m args below meth c H locs 0 0 Q (F0 m 0 ls []) := by
    intro n_0
    induction n_0 with
    | zero =>
      intro I_r_0 hs_0 hv_0 hd_0 hq_0 hu_0 hms_0 H locs hP hD hS ls hl
      exfalso; omega
    | succ n_0 ih_0 =>
      intro I_r_0 hs_0 hv_0 hd_0 hq_0 hu_0 hms_0 H locs hP hD hS ls hl
      have hz0 : (I_r_0 0 4).toInt = (I_r 0 4).toInt := by rw [hs_0.1]
      refine lv_aload_n hx hb dX3_nextNumeral_0 rfl (lv_at hl 0 rfl) ?_
      refine va_get (D := g.1) (ci := 3) (v := .int (I_r_0 0 5)) (C := RX3) (T := TX3) (N := 10) hx hb hi_X3 (fun _ h => h) hown hK.1 hP 0 rfl rfl 5 (by decide) hf_31 (fun _ h9 => h9) rfl dX3_nextNumeral_1 ?_
      refine lv_iload_n hx hb dX3_nextNumeral_4 rfl (lv_at hl 2 rfl) ?_
      refine q_icmp_ge (tgt := 67) hx hb dX3_nextNumeral_5 (by decide) rfl rfl (fun k_5 => ?_) (fun k_5 => ?_)
      · refine lv_aload_n hx hb dX3_nextNumeral_67 rfl (lv_at hl 0 rfl) ?_
        refine lv_aload_n hx hb dX3_nextNumeral_68 rfl (lv_at hl 0 rfl) ?_
        refine va_get (D := g.1) (ci := 3) (v := .int (I_r_0 0 5)) (C := RX3) (T := TX3) (N := 10) hx hb hi_X3 (fun _ h => h) hown hK.1 hP 0 rfl rfl 5 (by decide) hf_31 (fun _ h9 => h9) rfl dX3_nextNumeral_69 ?_
        refine lv_aload_n hx hb dX3_nextNumeral_72 rfl (lv_at hl 0 rfl) ?_
        refine va_get (D := g.1) (ci := 3) (v := .int (I_r_0 0 4)) (C := RX3) (T := TX3) (N := 10) hx hb hi_X3 (fun _ h => h) hown hK.1 hP 0 rfl rfl 4 (by decide) hf_28 (fun _ h9 => h9) rfl dX3_nextNumeral_73 ?_
        refine r_isub hx hb dX3_nextNumeral_76 rfl rfl (fun x1 e_x1 t_x1 => ?_)
        try have t_x1 := t_x1 (by omega)
        refine lv_iconst (v := 4) hx hb dX3_nextNumeral_77 (by decide) ?_
        refine q_icmp_le (tgt := 85) hx hb dX3_nextNumeral_78 (by decide) rfl (by decide : (4 : Int32).toInt = 4) (fun k_78 => ?_) (fun k_78 => ?_)
        · refine lv_iconst (v := 1) hx hb dX3_nextNumeral_85 (by decide) ?_
          refine va_put (D := g.1) (ci := 3) (v := .int (1 : Int32)) (ty := .int) (C := RX3) (T := TX3) (N := 10) hx hb hi_X3 (fun _ h => h) tyX3 tyX3_ok nmX3 hown hK.1 hP hD hS 0 rfl rfl 3 (by decide) hf_25 (fun _ h9 => h9) rfl (by decide +kernel) rfl rfl (Nat.le_of_ble_eq_true rfl) dX3_nextNumeral_86 (fun H locs hP hD hS => ?_)
          have hP : va_P g.1 vwCl (wX3 g a_r (uF I_r_0 0 3 (1 : Int32)) ++ wArr g a_x n_x I_x) H := hP
          have hD : va_D A (wX3 g a_r (uF I_r_0 0 3 (1 : Int32)) ++ wArr g a_x n_x I_x) := hD
          refine hret 89 ls _ _ (uF I_r_0 0 3 (1 : Int32)) dX3_nextNumeral_89 hS hP hD ?_
          exact ⟨hs_0.1, hv_0.1, hv_0.2, hs_0.2.1, hs_0.2.2.1, hs_0.2.2.2, hd_0, (fun q => by have q5 : ((I_r_0 0 5)).toInt < n.toInt := q; (exfalso; omega)), (by first | exact Or.inl ⟨(show 4 < (((I_r_0 0 5)).toInt - (I_r 0 4).toInt) from (by omega)), (show ((1 : Int32)).toInt = 4 from (by decide))⟩ | exact Or.inr ⟨(show (((I_r_0 0 5)).toInt - (I_r 0 4).toInt) ≤ 4 from (by omega)), (show ((1 : Int32)).toInt = 1 from (by decide)), hq_0 (by omega)⟩)⟩
        · refine lv_iconst (v := 4) hx hb dX3_nextNumeral_81 (by decide) ?_
          refine lv_goto (tgt := 86) hx hb dX3_nextNumeral_82 (by decide) ?_
          refine va_put (D := g.1) (ci := 3) (v := .int (4 : Int32)) (ty := .int) (C := RX3) (T := TX3) (N := 10) hx hb hi_X3 (fun _ h => h) tyX3 tyX3_ok nmX3 hown hK.1 hP hD hS 0 rfl rfl 3 (by decide) hf_25 (fun _ h9 => h9) rfl (by decide +kernel) rfl rfl (Nat.le_of_ble_eq_true rfl) dX3_nextNumeral_86 (fun H locs hP hD hS => ?_)
          have hP : va_P g.1 vwCl (wX3 g a_r (uF I_r_0 0 3 (4 : Int32)) ++ wArr g a_x n_x I_x) H := hP
          have hD : va_D A (wX3 g a_r (uF I_r_0 0 3 (4 : Int32)) ++ wArr g a_x n_x I_x) := hD
          refine hret 89 ls _ _ (uF I_r_0 0 3 (4 : Int32)) dX3_nextNumeral_89 hS hP hD ?_
          exact ⟨hs_0.1, hv_0.1, hv_0.2, hs_0.2.1, hs_0.2.2.1, hs_0.2.2.2, hd_0, (fun q => by have q5 : ((I_r_0 0 5)).toInt < n.toInt := q; (exfalso; omega)), (by first | exact Or.inl ⟨(show 4 < (((I_r_0 0 5)).toInt - (I_r 0 4).toInt) from (by omega)), (show ((4 : Int32)).toInt = 4 from (by decide))⟩ | exact Or.inr ⟨(show (((I_r_0 0 5)).toInt - (I_r 0 4).toInt) ≤ 4 from (by omega)), (show ((4 : Int32)).toInt = 1 from (by decide)), hq_0 (by omega)⟩)⟩
      · refine lv_aload_n hx hb dX3_nextNumeral_8 rfl (lv_at hl 1 rfl) ?_
        refine lv_aload_n hx hb dX3_nextNumeral_9 rfl (lv_at hl 0 rfl) ?_
        refine va_get (D := g.1) (ci := 3) (v := .int (I_r_0 0 5)) (C := RX3) (T := TX3) (N := 10) hx hb hi_X3 (fun _ h => h) hown hK.1 hP 0 rfl rfl 5 (by decide) hf_31 (fun _ h9 => h9) rfl dX3_nextNumeral_10 ?_
        have n_13 : vp_in (I_r_0 0 5) n_x := (t_in (by omega))
        refine va_iald hx hb hK.1 hP 1 0 rfl rfl n_13 dX3_nextNumeral_13 ?_
        refine q_nm (fun x2 e_x2 => ?_)
        have e_x2 : x2 = (I_x 0) (I_r_0 0 5).toNatClampNeg := e_x2
        have g_x2 : x2.toInt = ((I_x 0) (I_r_0 0 5).toNatClampNeg).toInt := congrArg _ e_x2
        refine PurI.cn (C := RX10) (host := "RaisedPress") (As := [.int x2]) (kX10_isDigit l g x2) fx (gU (uT _) u_375) rfl hdX10_isDigit ⟨Nat.le_of_ble_eq_true rfl, Nat.le_of_ble_eq_true rfl⟩ hK hP [] rfl (nm_in_RX3_64) (uT _ _ u_374) (uT _ _ u_2) rfl rfl hl.1 (Nat.le_of_ble_eq_true rfl) dX3_nextNumeral_14 (fun r3 p_r3 => ?_)
        refine q_if_eq (tgt := 67) hx hb dX3_nextNumeral_17 (by decide) rfl (fun b_17 k_17 => ?_) (fun b_17 k_17 => ?_)
        · have q_17 := bP.f p_r3 b_17
          refine lv_aload_n hx hb dX3_nextNumeral_67 rfl (lv_at hl 0 rfl) ?_
          refine lv_aload_n hx hb dX3_nextNumeral_68 rfl (lv_at hl 0 rfl) ?_
          refine va_get (D := g.1) (ci := 3) (v := .int (I_r_0 0 5)) (C := RX3) (T := TX3) (N := 10) hx hb hi_X3 (fun _ h => h) hown hK.1 hP 0 rfl rfl 5 (by decide) hf_31 (fun _ h9 => h9) rfl dX3_nextNumeral_69 ?_
          refine lv_aload_n hx hb dX3_nextNumeral_72 rfl (lv_at hl 0 rfl) ?_
          refine va_get (D := g.1) (ci := 3) (v := .int (I_r_0 0 4)) (C := RX3) (T := TX3) (N := 10) hx hb hi_X3 (fun _ h => h) hown hK.1 hP 0 rfl rfl 4 (by decide) hf_28 (fun _ h9 => h9) rfl dX3_nextNumeral_73 ?_
          refine r_isub hx hb dX3_nextNumeral_76 rfl rfl (fun x4 e_x4 t_x4 => ?_)
          try have t_x4 := t_x4 (by omega)
          refine lv_iconst (v := 4) hx hb dX3_nextNumeral_77 (by decide) ?_
          refine q_icmp_le (tgt := 85) hx hb dX3_nextNumeral_78 (by decide) rfl (by decide : (4 : Int32).toInt = 4) (fun k_78 => ?_) (fun k_78 => ?_)
          · refine lv_iconst (v := 1) hx hb dX3_nextNumeral_85 (by decide) ?_
            refine va_put (D := g.1) (ci := 3) (v := .int (1 : Int32)) (ty := .int) (C := RX3) (T := TX3) (N := 10) hx hb hi_X3 (fun _ h => h) tyX3 tyX3_ok nmX3 hown hK.1 hP hD hS 0 rfl rfl 3 (by decide) hf_25 (fun _ h9 => h9) rfl (by decide +kernel) rfl rfl (Nat.le_of_ble_eq_true rfl) dX3_nextNumeral_86 (fun H locs hP hD hS => ?_)
            have hP : va_P g.1 vwCl (wX3 g a_r (uF I_r_0 0 3 (1 : Int32)) ++ wArr g a_x n_x I_x) H := hP
            have hD : va_D A (wX3 g a_r (uF I_r_0 0 3 (1 : Int32)) ++ wArr g a_x n_x I_x) := hD
            refine hret 89 ls _ _ (uF I_r_0 0 3 (1 : Int32)) dX3_nextNumeral_89 hS hP hD ?_
            exact ⟨hs_0.1, hv_0.1, hv_0.2, hs_0.2.1, hs_0.2.2.1, hs_0.2.2.2, hd_0, (fun q => by have q5 : ((I_r_0 0 5)).toInt < n.toInt := q; first | (exfalso; omega) | (have w := q_17; rw [e_x2] at w; exact w)), (by first | exact Or.inl ⟨(show 4 < (((I_r_0 0 5)).toInt - (I_r 0 4).toInt) from (by omega)), (show ((1 : Int32)).toInt = 4 from (by decide))⟩ | exact Or.inr ⟨(show (((I_r_0 0 5)).toInt - (I_r 0 4).toInt) ≤ 4 from (by omega)), (show ((1 : Int32)).toInt = 1 from (by decide)), hq_0 (by omega)⟩)⟩
          · refine lv_iconst (v := 4) hx hb dX3_nextNumeral_81 (by decide) ?_
            refine lv_goto (tgt := 86) hx hb dX3_nextNumeral_82 (by decide) ?_
            refine va_put (D := g.1) (ci := 3) (v := .int (4 : Int32)) (ty := .int) (C := RX3) (T := TX3) (N := 10) hx hb hi_X3 (fun _ h => h) tyX3 tyX3_ok nmX3 hown hK.1 hP hD hS 0 rfl rfl 3 (by decide) hf_25 (fun _ h9 => h9) rfl (by decide +kernel) rfl rfl (Nat.le_of_ble_eq_true rfl) dX3_nextNumeral_86 (fun H locs hP hD hS => ?_)
            have hP : va_P g.1 vwCl (wX3 g a_r (uF I_r_0 0 3 (4 : Int32)) ++ wArr g a_x n_x I_x) H := hP
            have hD : va_D A (wX3 g a_r (uF I_r_0 0 3 (4 : Int32)) ++ wArr g a_x n_x I_x) := hD
            refine hret 89 ls _ _ (uF I_r_0 0 3 (4 : Int32)) dX3_nextNumeral_89 hS hP hD ?_
            exact ⟨hs_0.1, hv_0.1, hv_0.2, hs_0.2.1, hs_0.2.2.1, hs_0.2.2.2, hd_0, (fun q => by have q5 : ((I_r_0 0 5)).toInt < n.toInt := q; first | (exfalso; omega) | (have w := q_17; rw [e_x2] at w; exact w)), (by first | exact Or.inl ⟨(show 4 < (((I_r_0 0 5)).toInt - (I_r 0 4).toInt) from (by omega)), (show ((4 : Int32)).toInt = 4 from (by decide))⟩ | exact Or.inr ⟨(show (((I_r_0 0 5)).toInt - (I_r 0 4).toInt) ≤ 4 from (by omega)), (show ((4 : Int32)).toInt = 1 from (by decide)), hq_0 (by omega)⟩)⟩
        · have q_17 := bP.t p_r3 b_17
          refine lv_aload_n hx hb dX3_nextNumeral_20 rfl (lv_at hl 0 rfl) ?_
          refine va_get (D := g.1) (ci := 3) (v := .int (I_r_0 0 5)) (C := RX3) (T := TX3) (N := 10) hx hb hi_X3 (fun _ h => h) hown hK.1 hP 0 rfl rfl 5 (by decide) hf_31 (fun _ h9 => h9) rfl dX3_nextNumeral_21 ?_
          refine lv_aload_n hx hb dX3_nextNumeral_24 rfl (lv_at hl 0 rfl) ?_
          refine va_get (D := g.1) (ci := 3) (v := .int (I_r_0 0 4)) (C := RX3) (T := TX3) (N := 10) hx hb hi_X3 (fun _ h => h) hown hK.1 hP 0 rfl rfl 4 (by decide) hf_28 (fun _ h9 => h9) rfl dX3_nextNumeral_25 ?_
          refine r_isub hx hb dX3_nextNumeral_28 rfl rfl (fun x5 e_x5 t_x5 => ?_)
          try have t_x5 := t_x5 (by omega)
          refine lv_iconst (v := 4) hx hb dX3_nextNumeral_29 (by decide) ?_
          refine q_icmp_ge (tgt := 54) hx hb dX3_nextNumeral_30 (by decide) rfl (by decide : (4 : Int32).toInt = 4) (fun k_30 => ?_) (fun k_30 => ?_)
          · refine lv_aload_n hx hb dX3_nextNumeral_54 rfl (lv_at hl 0 rfl) ?_
            refine lv_dup hx hb dX3_nextNumeral_55 rfl ?_
            refine va_get (D := g.1) (ci := 3) (v := .int (I_r_0 0 5)) (C := RX3) (T := TX3) (N := 10) hx hb hi_X3 (fun _ h => h) hown hK.1 hP 0 rfl rfl 5 (by decide) hf_31 (fun _ h9 => h9) rfl dX3_nextNumeral_56 ?_
            refine lv_iconst (v := 1) hx hb dX3_nextNumeral_59 (by decide) ?_
            refine r_iadd hx hb dX3_nextNumeral_60 rfl (by decide : (1 : Int32).toInt = 1) (fun x6 e_x6 t_x6 => ?_)
            try have t_x6 := t_x6 (by omega)
            refine va_put (D := g.1) (ci := 3) (v := .int x6) (ty := .int) (C := RX3) (T := TX3) (N := 10) hx hb hi_X3 (fun _ h => h) tyX3 tyX3_ok nmX3 hown hK.1 hP hD hS 0 rfl rfl 5 (by decide) hf_31 (fun _ h9 => h9) rfl (by decide +kernel) rfl rfl (Nat.le_of_ble_eq_true rfl) dX3_nextNumeral_61 (fun H locs hP hD hS => ?_)
            have hP : va_P g.1 vwCl (wX3 g a_r (uF I_r_0 0 5 x6) ++ wArr g a_x n_x I_x) H := hP
            have hD : va_D A (wX3 g a_r (uF I_r_0 0 5 x6) ++ wArr g a_x n_x I_x) := hD
            refine lv_goto (tgt := 0) hx hb dX3_nextNumeral_64 (by decide) ?_
            exact ih_0 (uF I_r_0 0 5 x6) hs_0 (show _ ≤ (x6).toInt ∧ (x6).toInt ≤ _ from (by omega)) (fx_all (P := fun b => 48 ≤ b ∧ b ≤ 57) hd_0 e_x2 rfl (by omega) q_17 (show (x6).toInt = _ from (by omega))) (fun q4 => by have q5 : ((x6).toInt - (I_r 0 4).toInt) ≤ 4 := q4; (exfalso; omega)) (show 0 ≤ ((I_r_0 0 6)).toInt ∧ ((I_r_0 0 6)).toInt ≤ 9999 ∧ (((x6).toInt - (I_r 0 4).toInt) ≤ 0 → ((I_r_0 0 6)).toInt ≤ 0) ∧ (((x6).toInt - (I_r 0 4).toInt) ≤ 1 → ((I_r_0 0 6)).toInt ≤ 9) ∧ (((x6).toInt - (I_r 0 4).toInt) ≤ 2 → ((I_r_0 0 6)).toInt ≤ 99) ∧ (((x6).toInt - (I_r 0 4).toInt) ≤ 3 → ((I_r_0 0 6)).toInt ≤ 999) from (by omega)) (show n.toInt + 1 - (x6).toInt < _ from (by omega)) _ _ hP hD hS ls hl
          · refine lv_aload_n hx hb dX3_nextNumeral_33 rfl (lv_at hl 0 rfl) ?_
            refine lv_aload_n hx hb dX3_nextNumeral_34 rfl (lv_at hl 0 rfl) ?_
            refine va_get (D := g.1) (ci := 3) (v := .int (I_r_0 0 6)) (C := RX3) (T := TX3) (N := 10) hx hb hi_X3 (fun _ h => h) hown hK.1 hP 0 rfl rfl 6 (by decide) hf_34 (fun _ h9 => h9) rfl dX3_nextNumeral_35 ?_
            refine lv_bipush (v := 10) hx hb dX3_nextNumeral_38 (by decide) ?_
            refine r_imul hx hb dX3_nextNumeral_40 rfl (by decide : (10 : Int32).toInt = 10) (fun x7 e_x7 t_x7 => ?_)
            try have t_x7 := t_x7 (by omega)
            refine lv_aload_n hx hb dX3_nextNumeral_41 rfl (lv_at hl 1 rfl) ?_
            refine lv_aload_n hx hb dX3_nextNumeral_42 rfl (lv_at hl 0 rfl) ?_
            refine va_get (D := g.1) (ci := 3) (v := .int (I_r_0 0 5)) (C := RX3) (T := TX3) (N := 10) hx hb hi_X3 (fun _ h => h) hown hK.1 hP 0 rfl rfl 5 (by decide) hf_31 (fun _ h9 => h9) rfl dX3_nextNumeral_43 ?_
            have n_46 : vp_in (I_r_0 0 5) n_x := (t_in (by omega))
            refine va_iald hx hb hK.1 hP 1 0 rfl rfl n_46 dX3_nextNumeral_46 ?_
            refine q_nm (fun x8 e_x8 => ?_)
            have e_x8 : x8 = (I_x 0) (I_r_0 0 5).toNatClampNeg := e_x8
            have g_x8 : x8.toInt = ((I_x 0) (I_r_0 0 5).toNatClampNeg).toInt := congrArg _ e_x8
            refine r_iadd hx hb dX3_nextNumeral_47 rfl rfl (fun x9 e_x9 t_x9 => ?_)
            try have t_x9 := t_x9 (by omega)
            refine lv_bipush (v := 48) hx hb dX3_nextNumeral_48 (by decide) ?_
            refine r_isub hx hb dX3_nextNumeral_50 rfl (by decide : (48 : Int32).toInt = 48) (fun x10 e_x10 t_x10 => ?_)
            try have t_x10 := t_x10 (by omega)
            refine va_put (D := g.1) (ci := 3) (v := .int x10) (ty := .int) (C := RX3) (T := TX3) (N := 10) hx hb hi_X3 (fun _ h => h) tyX3 tyX3_ok nmX3 hown hK.1 hP hD hS 0 rfl rfl 6 (by decide) hf_34 (fun _ h9 => h9) rfl (by decide +kernel) rfl rfl (Nat.le_of_ble_eq_true rfl) dX3_nextNumeral_51 (fun H locs hP hD hS => ?_)
            have hP : va_P g.1 vwCl (wX3 g a_r (uF I_r_0 0 6 x10) ++ wArr g a_x n_x I_x) H := hP
            have hD : va_D A (wX3 g a_r (uF I_r_0 0 6 x10) ++ wArr g a_x n_x I_x) := hD
            refine lv_aload_n hx hb dX3_nextNumeral_54 rfl (lv_at hl 0 rfl) ?_
            refine lv_dup hx hb dX3_nextNumeral_55 rfl ?_
            refine va_get (D := g.1) (ci := 3) (v := .int (I_r_0 0 5)) (C := RX3) (T := TX3) (N := 10) hx hb hi_X3 (fun _ h => h) hown hK.1 hP 0 rfl rfl 5 (by decide) hf_31 (fun _ h9 => h9) rfl dX3_nextNumeral_56 ?_
            refine lv_iconst (v := 1) hx hb dX3_nextNumeral_59 (by decide) ?_
            refine r_iadd hx hb dX3_nextNumeral_60 rfl (by decide : (1 : Int32).toInt = 1) (fun x11 e_x11 t_x11 => ?_)
            try have t_x11 := t_x11 (by omega)
            refine va_put (D := g.1) (ci := 3) (v := .int x11) (ty := .int) (C := RX3) (T := TX3) (N := 10) hx hb hi_X3 (fun _ h => h) tyX3 tyX3_ok nmX3 hown hK.1 hP hD hS 0 rfl rfl 5 (by decide) hf_31 (fun _ h9 => h9) rfl (by decide +kernel) rfl rfl (Nat.le_of_ble_eq_true rfl) dX3_nextNumeral_61 (fun H locs hP hD hS => ?_)
            have hP : va_P g.1 vwCl (wX3 g a_r (uF (uF I_r_0 0 6 x10) 0 5 x11) ++ wArr g a_x n_x I_x) H := hP
            have hD : va_D A (wX3 g a_r (uF (uF I_r_0 0 6 x10) 0 5 x11) ++ wArr g a_x n_x I_x) := hD
            refine lv_goto (tgt := 0) hx hb dX3_nextNumeral_64 (by decide) ?_
            exact ih_0 (uF (uF I_r_0 0 6 x10) 0 5 x11) hs_0 (show _ ≤ (x11).toInt ∧ (x11).toInt ≤ _ from (by omega)) (fx_all (P := fun b => 48 ≤ b ∧ b ≤ 57) hd_0 e_x2 rfl (by omega) q_17 (show (x11).toInt = _ from (by omega))) (fun q4 => by have q5 : ((x11).toInt - (I_r 0 4).toInt) ≤ 4 := q4; first | (exfalso; omega) | exact fx_dv (hq_0 (by omega)) e_x8 rfl (by omega) (show (x10).toInt = _ from (by omega)) (show (x11).toInt = _ from (by omega))) (show 0 ≤ (x10).toInt ∧ (x10).toInt ≤ 9999 ∧ (((x11).toInt - (I_r 0 4).toInt) ≤ 0 → (x10).toInt ≤ 0) ∧ (((x11).toInt - (I_r 0 4).toInt) ≤ 1 → (x10).toInt ≤ 9) ∧ (((x11).toInt - (I_r 0 4).toInt) ≤ 2 → (x10).toInt ≤ 99) ∧ (((x11).toInt - (I_r 0 4).toInt) ≤ 3 → (x10).toInt ≤ 999) from (by first | omega | (have g9 : x8.toInt = x2.toInt := by rw [e_x8, e_x2]; omega))) (show n.toInt + 1 - (x11).toInt < _ from (by omega)) _ _ hP hD hS ls hl
  exact L0 ((n.toInt + 1 - ((I_r 0 5)).toInt) + 1).toNat I_r ⟨rfl, rfl, rfl, rfl, rfl⟩ (by omega) (fun j h1 h2 => by exfalso; omega) (fun _ => by rw [show ((I_r 0 5).toInt - (I_r 0 4).toInt).toNat = 0 by omega]; exact h_v.1) (by omega) (show n.toInt + 1 - ((I_r 0 5)).toInt < _ from (by omega)) _ _ hP hD hS ls hl
