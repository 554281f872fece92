set_option maxHeartbeats 4000000 in
set_option maxRecDepth 100000 in
theorem kX3_takePart (l : Launch) (g : gG) (ad av : Nat → Nat) (a_r : Nat → Nat) (I_r : Nat → Nat → Int32) (a_x : Nat → Nat) (n_x : Nat) (I_x : Nat → Nat → Int32) (a_t : Nat → Nat) (I_t : Nat → Nat → Int32) (hl_r_table : a_r 100 = a_t 0) (h_r : 0 ≤ (I_r 0 4).toInt ∧ (I_r 0 4).toInt ≤ (I_r 0 5).toInt ∧ (I_r 0 5).toInt ≤ (n_x : Int) ∧ n_x ≤ 1000) (hT : TI I_t) : EffIS l g ad av yX3_takePart wsX3_takePart 6 [.ref (a_r 0), .ref (a_x 0)] (wX3 g a_r I_r ++ (wArr g a_x n_x I_x ++ wX7 g a_t I_t)) (fun (u : (Nat → Nat → Int32)) => wX3 g a_r u ++ (wArr g a_x n_x I_x ++ wX7 g a_t I_t)) (fun r (u : (Nat → Nat → Int32)) => (r.toInt = 0 → QA ((u) 0 7).toInt (I_t 0 0).toInt ((u) 0 8).toInt) ∧ (u) 0 4 = I_r 0 4 ∧ (u) 0 5 = I_r 0 5 ∧ ((u) 0 3 = I_r 0 3 ∧ (u) 0 2 = I_r 0 2) ∧ fxOut (fxPart (I_r 0 3).toInt (fxW (fxB (I_x 0)) (I_r 0 4).toInt (I_r 0 5).toInt) (fxTd (I_r 0 9)) (fxTc I_t)) r (fxSc (u) I_t)) := by
  refine EffIS.st (cc := cX3_takePart) (maxL := 3) (by decide) rfl (Nat.le_of_ble_eq_true rfl) (fun p e s m args below meth c A Q ls fx hK hP hD hA hS hJ hl hret => ?_)
  have hx := fx.1
  have hb := fx.2.1
  have hml := fx.2.2.1
  have hown := fx.2.2.2.1
  have hts := fx.2.2.2.2
  have hl : lv_has ls 3 [(0, .ref (a_r 0)), (1, .ref (a_x 0))] := hl
  have hP : va_P g.1 vwCl (wX3 g a_r I_r ++ (wArr g a_x n_x I_x ++ wX7 g a_t I_t)) s.heap := hP
  have hf_12 := hts _ (uT _ _ u_76)
  have hf_37 := hts _ (uT _ _ u_83)
  have hf_40 := hts _ (uT _ _ u_84)
  have hf_43 := hts _ (uT _ _ u_85)
  have hf_106 := hts _ (uT _ _ u_388)
  have hi_X3 : ∀ w ∈ wsX30, w.before args s = true := fun w h => hts w (uT _ w (u_wsX30 w h))
  have hi_X7 : ∀ w ∈ wsX70, w.before args s = true := fun w h => hts w (uT _ w (u_wsX70 w h))
  have lm1 : (-1 : Int32).toInt = -1 := by decide
  have lm0 : (0 : Int32).toInt = 0 := by decide
  have lm2 : (1 : Int32).toInt = 1 := by decide
  have lq2 : (2 : Int32).toInt = 2 := by decide
  have lq5 : (5 : Int32).toInt = 5 := by decide
  have lq6 : (6 : Int32).toInt = 6 := by decide
  have hru := TI.ru hT
  refine lv_aload_n hx hb dX3_takePart_0 rfl (lv_at hl 0 rfl) ?_
  refine lv_aload_n hx hb dX3_takePart_1 rfl (lv_at hl 1 rfl) ?_
  refine va_ldcS hx hb hown (jF.l1 hJ) dX3_takePart_2 ?_
  refine PurIS.cv (As := [.ref (a_x 0), .ref (ad 1)]) (kX3_isWord l g ad av a_r I_r a_x n_x I_x 1 (by decide) (by omega)) fx (gUV (uT _) u_389 u_390 u_391 u_27 u_392) rfl hdX3_isWord ⟨Nat.le_of_ble_eq_true rfl, Nat.le_of_ble_eq_true rfl⟩ hJ hS hK hP [0, 1] rfl rfl rfl rfl rfl hl.1 (Nat.le_of_ble_eq_true rfl) dX3_takePart_4 (fun r1 p_r1 => ?_)
  refine q_if_eq (tgt := 34) hx hb dX3_takePart_7 (by decide) rfl (fun b_7 k_7 => ?_) (fun b_7 k_7 => ?_)
  · have q_7 := bP.f p_r1 b_7
    refine lv_aload_n hx hb dX3_takePart_34 rfl (lv_at hl 0 rfl) ?_
    refine lv_aload_n hx hb dX3_takePart_35 rfl (lv_at hl 0 rfl) ?_
    refine lv_aload_n hx hb dX3_takePart_36 rfl (lv_at hl 1 rfl) ?_
    refine PurIS.cv (As := [.ref (a_x 0)]) (kX3_signNamed l g ad av a_r I_r a_x n_x I_x (by omega)) fx (gUV (uT _) u_442 u_443 u_444 u_27 u_445) rfl hdX3_signNamed ⟨Nat.le_of_ble_eq_true rfl, Nat.le_of_ble_eq_true rfl⟩ hJ hS hK hP [0, 1] rfl rfl rfl rfl rfl hl.1 (Nat.le_of_ble_eq_true rfl) dX3_takePart_37 (fun r2 p_r2 => ?_)
    refine va_put (D := g.1) (ci := 3) (v := .int r2) (ty := .int) (C := RX3) (T := TX3) (N := 10) hx hb hi_X3 (fun _ h => h) tyX3 tyX3_ok nmX3 hown hK.1 hP hD hS 0 rfl rfl 8 (by decide) hf_40 (fun _ h9 => h9) rfl (by decide +kernel) rfl rfl (Nat.le_of_ble_eq_true rfl) dX3_takePart_40 (fun H locs hP hD hS => ?_)
    have hP : va_P g.1 vwCl (wX3 g a_r (uF I_r 0 8 r2) ++ (wArr g a_x n_x I_x ++ wX7 g a_t I_t)) H := hP
    have hD : va_D A (wX3 g a_r (uF I_r 0 8 r2) ++ (wArr g a_x n_x I_x ++ wX7 g a_t I_t)) := hD
    refine lv_aload_n hx hb dX3_takePart_43 rfl (lv_at hl 0 rfl) ?_
    refine va_get (D := g.1) (ci := 3) (v := .int r2) (C := RX3) (T := TX3) (N := 10) hx hb hi_X3 (fun _ h => h) hown hK.1 hP 0 rfl rfl 8 (by decide) hf_40 (fun _ h9 => h9) rfl dX3_takePart_44 ?_
    refine lv_iconst (v := -1) hx hb dX3_takePart_47 (by decide) ?_
    refine q_icmp_ne (tgt := 53) hx hb dX3_takePart_48 (by decide) rfl (by decide : (-1 : Int32).toInt = -1) (fun k_48 => ?_) (fun k_48 => ?_)
    · refine lv_iconst (v := 1) hx hb dX3_takePart_53 (by decide) ?_
      refine lv_aload_n hx hb dX3_takePart_54 rfl (lv_at hl 0 rfl) ?_
      refine va_get (D := g.1) (ci := 3) (v := .int r2) (C := RX3) (T := TX3) (N := 10) hx hb hi_X3 (fun _ h => h) hown hK.1 hP 0 rfl rfl 8 (by decide) hf_40 (fun _ h9 => h9) rfl dX3_takePart_55 ?_
      refine lv_ishl hx hb dX3_takePart_58 ?_
      refine q_nm (fun x3 e_x3 => ?_)
      refine lv_istore_n (lv' := [(2, .int x3), (0, .ref (a_r 0)), (1, .ref (a_x 0))]) hx hb dX3_takePart_59 rfl hl (by decide) rfl (fun ls hl => ?_)
      refine lv_aload_n hx hb dX3_takePart_60 rfl (lv_at hl 1 rfl) ?_
      refine va_get (D := g.1) (ci := 3) (v := .int (I_r 0 9)) (C := RX3) (T := TX3) (N := 10) hx hb hi_X3 (fun _ h => h) hown hK.1 hP 0 rfl rfl 9 (by decide) hf_43 (fun _ h9 => h9) rfl dX3_takePart_61 ?_
      refine lv_iload_n hx hb dX3_takePart_64 rfl (lv_at hl 0 rfl) ?_
      refine lv_iand hx hb dX3_takePart_65 ?_
      refine q_nm (fun x4 e_x4 => ?_)
      refine q_if_eq (tgt := 71) hx hb dX3_takePart_66 (by decide) rfl (fun b_66 k_66 => ?_) (fun b_66 k_66 => ?_)
      · refine lv_aload_n hx hb dX3_takePart_71 rfl (lv_at hl 1 rfl) ?_
        refine lv_dup hx hb dX3_takePart_72 rfl ?_
        refine va_get (D := g.1) (ci := 3) (v := .int (I_r 0 9)) (C := RX3) (T := TX3) (N := 10) hx hb hi_X3 (fun _ h => h) hown hK.1 hP 0 rfl rfl 9 (by decide) hf_43 (fun _ h9 => h9) rfl dX3_takePart_73 ?_
        refine lv_iload_n hx hb dX3_takePart_76 rfl (lv_at hl 0 rfl) ?_
        refine lv_ior hx hb dX3_takePart_77 ?_
        refine q_nm (fun x5 e_x5 => ?_)
        refine va_put (D := g.1) (ci := 3) (v := .int x5) (ty := .int) (C := RX3) (T := TX3) (N := 10) hx hb hi_X3 (fun _ h => h) tyX3 tyX3_ok nmX3 hown hK.1 hP hD hS 0 rfl rfl 9 (by decide) hf_43 (fun _ h9 => h9) rfl (by decide +kernel) rfl rfl (Nat.le_of_ble_eq_true rfl) dX3_takePart_78 (fun H locs hP hD hS => ?_)
        have hP : va_P g.1 vwCl (wX3 g a_r (uF (uF I_r 0 8 r2) 0 9 x5) ++ (wArr g a_x n_x I_x ++ wX7 g a_t I_t)) H := hP
        have hD : va_D A (wX3 g a_r (uF (uF I_r 0 8 r2) 0 9 x5) ++ (wArr g a_x n_x I_x ++ wX7 g a_t I_t)) := hD
        refine lv_aload_n hx hb dX3_takePart_81 rfl (lv_at hl 1 rfl) ?_
        refine lv_bipush (v := 6) hx hb dX3_takePart_82 (by decide) ?_
        refine va_put (D := g.1) (ci := 3) (v := .int (6 : Int32)) (ty := .int) (C := RX3) (T := TX3) (N := 10) hx hb hi_X3 (fun _ h => h) tyX3 tyX3_ok nmX3 hown hK.1 hP hD hS 0 rfl rfl 7 (by decide) hf_37 (fun _ h9 => h9) rfl (by decide +kernel) rfl rfl (Nat.le_of_ble_eq_true rfl) dX3_takePart_84 (fun H locs hP hD hS => ?_)
        have hP : va_P g.1 vwCl (wX3 g a_r (uF (uF (uF I_r 0 8 r2) 0 9 x5) 0 7 (6 : Int32)) ++ (wArr g a_x n_x I_x ++ wX7 g a_t I_t)) H := hP
        have hD : va_D A (wX3 g a_r (uF (uF (uF I_r 0 8 r2) 0 9 x5) 0 7 (6 : Int32)) ++ (wArr g a_x n_x I_x ++ wX7 g a_t I_t)) := hD
        refine lv_iconst (v := 0) hx hb dX3_takePart_87 (by decide) ?_
        refine hret 88 ls (0 : Int32) _ _ (uF (uF (uF I_r 0 8 r2) 0 9 x5) 0 7 (6 : Int32)) dX3_takePart_88 hS hP hD ?_
        exact ⟨(fun hr0 => (show QA ((6 : Int32)).toInt ((I_t 0 0)).toInt (r2).toInt from (by unfold QA; omega))), rfl, rfl, ⟨rfl, rfl⟩, (by rcases p_r2 with a | a; (exfalso; omega); exact fx_inr (s' := (6, ((r2.toInt.toNat : Nat) : Int), fxUp (fxTd (I_r 0 9)) r2.toInt.toNat true, fxTc I_t, fxE)) (by rw [fxPart.sign (by omega) a.2.2, fxSign, if_neg (fun q => (fx_told (k := r2.toInt.toNat) (by omega) (by omega) e_x3  e_x4).mp q b_66)]) (by decide) (fxSc.mk (show ((6 : Int32)).toInt = 6 from by decide) ((if_pos rfl).trans (show (r2).toInt = _ from by omega)) (fx_tell (k := r2.toInt.toNat) (by omega) (by omega) e_x3  e_x5) rfl (fxCu.no (by decide))))⟩
      · refine lv_iconst (v := 5) hx hb dX3_takePart_69 (by decide) ?_
        have lr : (5 : Int32).toInt = 5 := by decide
        refine hret 70 ls (5 : Int32) _ _ (uF I_r 0 8 r2) dX3_takePart_70 hS hP hD ?_
        exact ⟨(fun hr0 => (show QA ((I_r 0 7)).toInt ((I_t 0 0)).toInt (r2).toInt from (by unfold QA; omega))), rfl, rfl, ⟨rfl, rfl⟩, fx_inl (by rcases p_r2 with a | a; (exfalso; omega); rw [fxPart.sign (by omega) a.2.2, fxSign, if_pos ((fx_told (k := r2.toInt.toNat) (by omega) (by omega) e_x3  e_x4).mpr b_66)]) (by decide) (by decide)⟩
    · refine lv_iconst (v := 2) hx hb dX3_takePart_51 (by decide) ?_
      have lr : (2 : Int32).toInt = 2 := by decide
      refine hret 52 ls (2 : Int32) _ _ (uF I_r 0 8 r2) dX3_takePart_52 hS hP hD ?_
      exact ⟨(fun hr0 => (show QA ((I_r 0 7)).toInt ((I_t 0 0)).toInt (r2).toInt from (by unfold QA; omega))), rfl, rfl, ⟨rfl, rfl⟩, fx_inl (by rcases p_r2 with a | a; exact fxPart.none (fx_nall q_7 a.2); exfalso; omega) (by decide) (by decide)⟩
  · have q_7 := bP.t p_r1 b_7
    refine lv_aload_n hx hb dX3_takePart_10 rfl (lv_at hl 0 rfl) ?_
    refine lv_iconst (v := 1) hx hb dX3_takePart_11 (by decide) ?_
    refine va_put (D := g.1) (ci := 3) (v := .int (1 : Int32)) (ty := .int) (C := RX3) (T := TX3) (N := 10) hx hb hi_X3 (fun _ h => h) tyX3 tyX3_ok nmX3 hown hK.1 hP hD hS 0 rfl rfl 7 (by decide) hf_37 (fun _ h9 => h9) rfl (by decide +kernel) rfl rfl (Nat.le_of_ble_eq_true rfl) dX3_takePart_12 (fun H locs hP hD hS => ?_)
    have hP : va_P g.1 vwCl (wX3 g a_r (uF I_r 0 7 (1 : Int32)) ++ (wArr g a_x n_x I_x ++ wX7 g a_t I_t)) H := hP
    have hD : va_D A (wX3 g a_r (uF I_r 0 7 (1 : Int32)) ++ (wArr g a_x n_x I_x ++ wX7 g a_t I_t)) := hD
    refine lv_aload_n hx hb dX3_takePart_15 rfl (lv_at hl 0 rfl) ?_
    refine va_get (D := g.1) (ci := 3) (v := .ref (a_t 0)) (C := RX3) (T := TX3) (N := 10) hx hb hi_X3 (fun _ h => h) hown hK.1 hP 0 rfl rfl 0 (by decide) hf_12 (fun _ h9 => h9) (congrArg (fun z => some (Value.ref z)) hl_r_table) dX3_takePart_16 ?_
    refine va_get (D := g.1) (ci := 7) (v := .int (I_t 0 0)) (C := RX7) (T := TX7) (N := 8) hx hb hi_X7 (fun _ h => h) hown hK.1 hP 2 rfl rfl 0 (by decide) hf_106 (fun _ h9 => h9) rfl dX3_takePart_19 ?_
    refine lv_bipush (v := 24) hx hb dX3_takePart_22 (by decide) ?_
    refine q_icmp_lt (tgt := 32) hx hb dX3_takePart_24 (by decide) rfl (by decide : (24 : Int32).toInt = 24) (fun k_24 => ?_) (fun k_24 => ?_)
    · refine lv_iconst (v := 0) hx hb dX3_takePart_32 (by decide) ?_
      refine hret 33 ls (0 : Int32) _ _ (uF I_r 0 7 (1 : Int32)) dX3_takePart_33 hS hP hD ?_
      exact ⟨(fun hr0 => (show QA ((1 : Int32)).toInt ((I_t 0 0)).toInt ((I_r 0 8)).toInt from (by unfold QA; omega))), rfl, rfl, ⟨rfl, rfl⟩, (by first | exact fx_inl (by rw [fxPart.rule ⟨q_7.1, q_7.2.trans fxWs_1⟩, if_pos (by rw [fxTc.len]; omega)]) (by decide) (by decide) | exact fx_inr (s' := (1, 0, (fxTd (I_r 0 9)), fxTc I_t, fxE)) (by rw [fxPart.rule ⟨q_7.1, q_7.2.trans fxWs_1⟩, if_neg (by rw [fxTc.len]; omega)]) (by decide) (fxSc.mk (show ((1 : Int32)).toInt = 1 from by decide) (if_neg (by decide)) rfl rfl (fxCu.no (by decide))))⟩
    · refine lv_bipush (v := 6) hx hb dX3_takePart_27 (by decide) ?_
      refine lv_goto (tgt := 33) hx hb dX3_takePart_29 (by decide) ?_
      have lr : (6 : Int32).toInt = 6 := by decide
      refine hret 33 ls (6 : Int32) _ _ (uF I_r 0 7 (1 : Int32)) dX3_takePart_33 hS hP hD ?_
      exact ⟨(fun hr0 => (show QA ((1 : Int32)).toInt ((I_t 0 0)).toInt ((I_r 0 8)).toInt from (by unfold QA; omega))), rfl, rfl, ⟨rfl, rfl⟩, (by first | exact fx_inl (by rw [fxPart.rule ⟨q_7.1, q_7.2.trans fxWs_1⟩, if_pos (by rw [fxTc.len]; omega)]) (by decide) (by decide) | exact fx_inr (s' := (1, 0, (fxTd (I_r 0 9)), fxTc I_t, fxE)) (by rw [fxPart.rule ⟨q_7.1, q_7.2.trans fxWs_1⟩, if_neg (by rw [fxTc.len]; omega)]) (by decide) (fxSc.mk (show ((1 : Int32)).toInt = 1 from by decide) (if_neg (by decide)) rfl rfl (fxCu.no (by decide))))⟩
