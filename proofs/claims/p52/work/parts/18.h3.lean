set_option maxHeartbeats 4000000 in
set_option maxRecDepth 100000 in
theorem kX3_takeMore (l : Launch) (g : gG) (ad av : Nat → Nat) (a_r : Nat → Nat) (I_r : Nat → Nat → Int32) (a_x : Nat → Nat) (n_x : Nat) (I_x : Nat → Nat → Int32) (a_t : Nat → Nat) (I_t : Nat → Nat → Int32) (hl_r_table : a_r 100 = a_t 0) (h_r : 0 ≤ (I_r 0 4).toInt ∧ (I_r 0 4).toInt ≤ (I_r 0 5).toInt ∧ (I_r 0 5).toInt ≤ (n_x : Int) ∧ n_x ≤ 1000) (hT : TI I_t) (h_ru : (I_t 0 0).toInt < 24) : EffIS l g ad av yX3_takeMore wsX3_takeMore 6 [.ref (a_r 0), .ref (a_x 0)] (wX3 g a_r I_r ++ (wArr g a_x n_x I_x ++ wX7 g a_t I_t)) (fun (u : ((Nat → Nat → Int32) × (Nat → Nat → Int32))) => wX3 g a_r (u.1) ++ (wArr g a_x n_x I_x ++ wX7 g a_t (u.2))) (fun r (u : ((Nat → Nat → Int32) × (Nat → Nat → Int32))) => TI (u.2) ∧ (r.toInt = 0 → QA ((u.1) 0 7).toInt ((u.2) 0 0).toInt ((u.1) 0 8).toInt) ∧ (u.1) 0 4 = I_r 0 4 ∧ (u.1) 0 5 = I_r 0 5 ∧ ((u.1) 0 3 = I_r 0 3 ∧ (u.1) 0 2 = I_r 0 2) ∧ (u.2) 0 1 = I_t 0 1 ∧ fxOut (fxMore (I_r 0 3).toInt (fxW (fxB (I_x 0)) (I_r 0 4).toInt (I_r 0 5).toInt) (I_r 0 6).toInt (fxTd (I_r 0 9)) (fxTc I_t) (fxRc I_t (I_t 0 0).toInt.toNat)) r (fxSc (u.1) (u.2))) := by
  refine EffIS.st (cc := cX3_takeMore) (maxL := 3) (by decide) rfl (Nat.le_of_ble_eq_true rfl) (fun p e s m args below meth c A Q ls fx hK hP hD hA hS hJ hl hret => ?_)
  have hx := fx.1
  have hb := fx.2.1
  have hml := fx.2.2.1
  have hown := fx.2.2.2.1
  have hts := fx.2.2.2.2
  have hl : lv_has ls 3 [(0, .ref (a_r 0)), (1, .ref (a_x 0))] := hl
  have hP : va_P g.1 vwCl (wX3 g a_r I_r ++ (wArr g a_x n_x I_x ++ wX7 g a_t I_t)) s.heap := hP
  have hf_12 := hts _ (uT _ _ u_76)
  have hf_25 := hts _ (uT _ _ u_79)
  have hf_37 := hts _ (uT _ _ u_83)
  have hf_106 := hts _ (uT _ _ u_388)
  have hf_129 := hts _ (uT _ _ u_452)
  have hi_X3 : ∀ w ∈ wsX30, w.before args s = true := fun w h => hts w (uT _ w (u_wsX30 w h))
  have hi_X7 : ∀ w ∈ wsX70, w.before args s = true := fun w h => hts w (uT _ w (u_wsX70 w h))
  have lm1 : (-1 : Int32).toInt = -1 := by decide
  have lm0 : (0 : Int32).toInt = 0 := by decide
  have lm2 : (1 : Int32).toInt = 1 := by decide
  have lq2 : (2 : Int32).toInt = 2 := by decide
  have lq5 : (5 : Int32).toInt = 5 := by decide
  have hru := TI.ru hT
  refine lv_aload_n hx hb dX3_takeMore_0 rfl (lv_at hl 0 rfl) ?_
  refine va_get (D := g.1) (ci := 3) (v := .int (I_r 0 3)) (C := RX3) (T := TX3) (N := 10) hx hb hi_X3 (fun _ h => h) hown hK.1 hP 0 rfl rfl 3 (by decide) hf_25 (fun _ h9 => h9) rfl dX3_takeMore_1 ?_
  refine lv_iconst (v := 1) hx hb dX3_takeMore_4 (by decide) ?_
  refine q_icmp_ne (tgt := 13) hx hb dX3_takeMore_5 (by decide) rfl (by decide : (1 : Int32).toInt = 1) (fun k_5 => ?_) (fun k_5 => ?_)
  · refine lv_aload_n hx hb dX3_takeMore_13 rfl (lv_at hl 0 rfl) ?_
    refine va_get (D := g.1) (ci := 3) (v := .int (I_r 0 3)) (C := RX3) (T := TX3) (N := 10) hx hb hi_X3 (fun _ h => h) hown hK.1 hP 0 rfl rfl 3 (by decide) hf_25 (fun _ h9 => h9) rfl dX3_takeMore_14 ?_
    refine lv_iconst (v := 2) hx hb dX3_takeMore_17 (by decide) ?_
    refine q_icmp_ne (tgt := 26) hx hb dX3_takeMore_18 (by decide) rfl (by decide : (2 : Int32).toInt = 2) (fun k_18 => ?_) (fun k_18 => ?_)
    · refine lv_aload_n hx hb dX3_takeMore_26 rfl (lv_at hl 0 rfl) ?_
      refine lv_aload_n hx hb dX3_takeMore_27 rfl (lv_at hl 1 rfl) ?_
      refine PurIS.cv (As := [.ref (a_x 0)]) (kX3_condNamed l g ad av a_r I_r a_x n_x I_x (by omega)) fx (gUV (uT _) u_483 u_484 u_485 u_27 u_486) rfl hdX3_condNamed ⟨Nat.le_of_ble_eq_true rfl, Nat.le_of_ble_eq_true rfl⟩ hJ hS hK hP [0, 1] rfl rfl rfl rfl rfl hl.1 (Nat.le_of_ble_eq_true rfl) dX3_takeMore_28 (fun r1 p_r1 => ?_)
      refine lv_istore_n (lv' := [(2, .int r1), (0, .ref (a_r 0)), (1, .ref (a_x 0))]) hx hb dX3_takeMore_31 rfl hl (by decide) rfl (fun ls hl => ?_)
      refine lv_iload_n hx hb dX3_takeMore_32 rfl (lv_at hl 0 rfl) ?_
      refine q_if_ne (tgt := 38) hx hb dX3_takeMore_33 (by decide) rfl (fun b_33 k_33 => ?_) (fun b_33 k_33 => ?_)
      · refine lv_aload_n hx hb dX3_takeMore_38 rfl (lv_at hl 1 rfl) ?_
        refine va_get (D := g.1) (ci := 3) (v := .ref (a_t 0)) (C := RX3) (T := TX3) (N := 10) hx hb hi_X3 (fun _ h => h) hown hK.1 hP 0 rfl rfl 0 (by decide) hf_12 (fun _ h9 => h9) (congrArg (fun z => some (Value.ref z)) hl_r_table) dX3_takeMore_39 ?_
        refine va_get (D := g.1) (ci := 7) (v := .ref (a_t 4)) (C := RX7) (T := TX7) (N := 8) hx hb hi_X7 (fun _ h => h) hown hK.1 hP 2 rfl rfl 5 (by decide) hf_129 (fun _ h9 => h9) rfl dX3_takeMore_42 ?_
        refine lv_aload_n hx hb dX3_takeMore_45 rfl (lv_at hl 1 rfl) ?_
        refine va_get (D := g.1) (ci := 3) (v := .ref (a_t 0)) (C := RX3) (T := TX3) (N := 10) hx hb hi_X3 (fun _ h => h) hown hK.1 hP 0 rfl rfl 0 (by decide) hf_12 (fun _ h9 => h9) (congrArg (fun z => some (Value.ref z)) hl_r_table) dX3_takeMore_46 ?_
        refine va_get (D := g.1) (ci := 7) (v := .int (I_t 0 0)) (C := RX7) (T := TX7) (N := 8) hx hb hi_X7 (fun _ h => h) hown hK.1 hP 2 rfl rfl 0 (by decide) hf_106 (fun _ h9 => h9) rfl dX3_takeMore_49 ?_
        refine lv_iload_n hx hb dX3_takeMore_52 rfl (lv_at hl 0 rfl) ?_
        have n_53 : vp_in (I_t 0 0) 24 := (t_in (by omega))
        obtain ⟨f2, e_f2⟩ : ∃ z, z = upd (I_t 4) (I_t 0 0).toNatClampNeg r1 := ⟨_, rfl⟩
        refine va_iast hx hb hK.1 hP hD hS 6 0 rfl rfl n_53 dX3_takeMore_53 (fun H locs hP hD hS => ?_)
        have hP : va_P g.1 vwCl (wX3 g a_r I_r ++ (wArr g a_x n_x I_x ++ wX7 g a_t (uR I_t 4 f2))) H := by rw [e_f2]; exact hP
        have hD : va_D A (wX3 g a_r I_r ++ (wArr g a_x n_x I_x ++ wX7 g a_t (uR I_t 4 f2))) := by rw [e_f2]; exact hD
        have hc_53 : TI (uR I_t 4 f2) := hT.u4 e_f2 (by rcases p_r1 with a | a; omega; omega) rfl rfl rfl rfl rfl rfl
        refine lv_aload_n hx hb dX3_takeMore_54 rfl (lv_at hl 1 rfl) ?_
        refine lv_iconst (v := 5) hx hb dX3_takeMore_55 (by decide) ?_
        refine va_put (D := g.1) (ci := 3) (v := .int (5 : Int32)) (ty := .int) (C := RX3) (T := TX3) (N := 10) hx hb hi_X3 (fun _ h => h) tyX3 tyX3_ok nmX3 hown hK.1 hP hD hS 0 rfl rfl 7 (by decide) hf_37 (fun _ h9 => h9) rfl (by decide +kernel) rfl rfl (Nat.le_of_ble_eq_true rfl) dX3_takeMore_56 (fun H locs hP hD hS => ?_)
        have hP : va_P g.1 vwCl (wX3 g a_r (uF I_r 0 7 (5 : Int32)) ++ (wArr g a_x n_x I_x ++ wX7 g a_t (uR I_t 4 f2))) H := hP
        have hD : va_D A (wX3 g a_r (uF I_r 0 7 (5 : Int32)) ++ (wArr g a_x n_x I_x ++ wX7 g a_t (uR I_t 4 f2))) := hD
        refine lv_iconst (v := 0) hx hb dX3_takeMore_59 (by decide) ?_
        refine hret 60 ls (0 : Int32) _ _ ((uF I_r 0 7 (5 : Int32)), (uR I_t 4 f2)) dX3_takeMore_60 hS hP hD ?_
        exact ⟨hc_53, (fun hr0 => (show QA ((5 : Int32)).toInt ((I_t 0 0)).toInt ((I_r 0 8)).toInt from (by unfold QA; omega))), rfl, rfl, ⟨rfl, rfl⟩, rfl, (by rcases p_r1 with a | a; (exfalso; omega); have o := fx_cond (I' := (uR I_t 4 f2)) (n := (I_t 0 0).toInt.toNat) hT (by omega) rfl rfl rfl rfl e_f2 rfl rfl; exact fx_inr (s' := (5, 0, (fxTd (I_r 0 9)), fxTc I_t, ((fxRc I_t (I_t 0 0).toInt.toNat).1, (fxRc I_t (I_t 0 0).toInt.toNat).2.1, ((r1.toInt.toNat : Nat) : Int)))) (by rw [fxMore.cond (by omega) a.2.2]) (by decide) (fxSc.mk (show ((5 : Int32)).toInt = 5 from by decide) (if_neg (by decide)) rfl o.1 ((fxCu.is (by decide)).trans (o.2.trans (by rw [show ((r1.toInt.toNat : Nat) : Int) = (r1).toInt by omega]; rfl)))))⟩
      · refine lv_iconst (v := 2) hx hb dX3_takeMore_36 (by decide) ?_
        have lr : (2 : Int32).toInt = 2 := by decide
        refine hret 37 ls (2 : Int32) _ _ (I_r, I_t) dX3_takeMore_37 hS hP hD ?_
        exact ⟨hT, fun hr0 => by omega, rfl, rfl, ⟨rfl, rfl⟩, rfl, fx_inl (by rcases p_r1 with a | a; exact fxMore.none (by omega) (by omega) a.2; exfalso; omega) (by decide) (by decide)⟩
    · refine lv_aload_n hx hb dX3_takeMore_21 rfl (lv_at hl 0 rfl) ?_
      refine EffI.cv (wr := (wArr g a_x n_x I_x)) (w' := fun u4 => wX3 g a_r u4.1 ++ (wArr g a_x n_x I_x ++ wX7 g a_t u4.2)) (As := []) (kX3_takeRule l g a_r I_r a_t I_t hl_r_table hT (by omega)) fx (gUV (uT _) u_471 u_472 u_473 u_27 u_474) rfl hdX3_takeRule ⟨Nat.le_of_ble_eq_true rfl, Nat.le_of_ble_eq_true rfl⟩ hK hP hD hS hA [0, 2, 3, 4, 5, 6, 7, 8] [1] [1, 0, 2, 3, 4, 5, 6, 7, 8] rfl rfl rfl rfl (by decide) rfl (fun _ => rfl) rfl rfl rfl rfl hl.1 (Nat.le_of_ble_eq_true rfl) dX3_takeMore_22 (fun r3 u4 H locs p_r3 hP hD hS => ?_)
      obtain ⟨I5, I6⟩ := u4
      try dsimp only at p_r3
      have hP : va_P g.1 vwCl (wX3 g a_r I5 ++ (wArr g a_x n_x I_x ++ wX7 g a_t I6)) H := hP
      have hD : va_D A (wX3 g a_r I5 ++ (wArr g a_x n_x I_x ++ wX7 g a_t I6)) := hD
      refine hret 25 ls r3 _ _ (I5, I6) dX3_takeMore_25 hS hP hD ?_
      exact (by have q := p_r3; unfold fxMore; rw [if_neg (by omega), if_pos (by omega)]; exact q)
  · refine lv_aload_n hx hb dX3_takeMore_8 rfl (lv_at hl 0 rfl) ?_
    refine EffI.cv (wr := (wArr g a_x n_x I_x)) (w' := fun u8 => wX3 g a_r u8.1 ++ (wArr g a_x n_x I_x ++ wX7 g a_t u8.2)) (As := []) (kX3_takeCell l g a_r I_r a_t I_t hl_r_table hT (by omega)) fx (gUV (uT _) u_459 u_460 u_461 u_27 u_462) rfl hdX3_takeCell ⟨Nat.le_of_ble_eq_true rfl, Nat.le_of_ble_eq_true rfl⟩ hK hP hD hS hA [0, 2, 3, 4, 5, 6, 7, 8] [1] [1, 0, 2, 3, 4, 5, 6, 7, 8] rfl rfl rfl rfl (by decide) rfl (fun _ => rfl) rfl rfl rfl rfl hl.1 (Nat.le_of_ble_eq_true rfl) dX3_takeMore_9 (fun r7 u8 H locs p_r7 hP hD hS => ?_)
    obtain ⟨I9, I10⟩ := u8
    try dsimp only at p_r7
    have hP : va_P g.1 vwCl (wX3 g a_r I9 ++ (wArr g a_x n_x I_x ++ wX7 g a_t I10)) H := hP
    have hD : va_D A (wX3 g a_r I9 ++ (wArr g a_x n_x I_x ++ wX7 g a_t I10)) := hD
    refine hret 12 ls r7 _ _ (I9, I10) dX3_takeMore_12 hS hP hD ?_
    exact (by have q := p_r7; unfold fxMore; rw [if_pos (by omega)]; exact q)

set_option maxHeartbeats 4000000 in
set_option maxRecDepth 100000 in
theorem kX3_faultOfToken (l : Launch) (g : gG) (ad av : Nat → Nat) (a_r : Nat → Nat) (I_r : Nat → Nat → Int32) (a_x : Nat → Nat) (n_x : Nat) (I_x : Nat → Nat → Int32) (a_t : Nat → Nat) (I_t : Nat → Nat → Int32) (hl_r_table : a_r 100 = a_t 0) (h_r : 0 ≤ (I_r 0 4).toInt ∧ (I_r 0 4).toInt ≤ (I_r 0 5).toInt ∧ (I_r 0 5).toInt ≤ (n_x : Int) ∧ n_x ≤ 1000) (hT : TI I_t) (h_q : QA (I_r 0 7).toInt (I_t 0 0).toInt (I_r 0 8).toInt) (h_w : (I_r 0 3).toInt = 0 → ∀ j : Nat, (I_r 0 4).toInt ≤ (j : Int) → (j : Int) < (I_r 0 5).toInt → 97 ≤ fxB (I_x 0) j ∧ fxB (I_x 0) j ≤ 122) : EffIS l g ad av yX3_faultOfToken wsX3_faultOfToken 7 [.ref (a_r 0), .ref (a_x 0)] (wX3 g a_r I_r ++ (wArr g a_x n_x I_x ++ wX7 g a_t I_t)) (fun (u : ((Nat → Nat → Int32) × (Nat → Nat → Int32))) => wX3 g a_r (u.1) ++ (wArr g a_x n_x I_x ++ wX7 g a_t (u.2))) (fun r (u : ((Nat → Nat → Int32) × (Nat → Nat → Int32))) => TI (u.2) ∧ (r.toInt = 0 → QA ((u.1) 0 7).toInt ((u.2) 0 0).toInt ((u.1) 0 8).toInt) ∧ (u.1) 0 4 = I_r 0 4 ∧ (u.1) 0 5 = I_r 0 5 ∧ ((u.1) 0 3 = I_r 0 3 ∧ (u.1) 0 2 = I_r 0 2) ∧ (u.2) 0 1 = I_t 0 1 ∧ (((I_r 0 3).toInt = 3 ∧ fxSt (I_r 0 3).toInt (fxW (fxB (I_x 0)) (I_r 0 4).toInt (I_r 0 5).toInt) (I_r 0 6).toInt (fxSc I_r I_t) = .inl r.toInt ∧ fxTc (u.2) = fxTc I_t) ∨ ((I_r 0 3).toInt ≠ 3 ∧ fxOut (fxSt (I_r 0 3).toInt (fxW (fxB (I_x 0)) (I_r 0 4).toInt (I_r 0 5).toInt) (I_r 0 6).toInt (fxSc I_r I_t)) r (fxSc (u.1) (u.2))))) := by
  refine EffIS.st (cc := cX3_faultOfToken) (maxL := 2) (by decide) rfl (Nat.le_of_ble_eq_true rfl) (fun p e s m args below meth c A Q ls fx hK hP hD hA hS hJ hl hret => ?_)
  have hx := fx.1
  have hb := fx.2.1
  have hml := fx.2.2.1
  have hown := fx.2.2.2.1
  have hts := fx.2.2.2.2
  have hl : lv_has ls 2 [(0, .ref (a_r 0)), (1, .ref (a_x 0))] := hl
  have hP : va_P g.1 vwCl (wX3 g a_r I_r ++ (wArr g a_x n_x I_x ++ wX7 g a_t I_t)) s.heap := hP
  have hf_25 := hts _ (uT _ _ u_79)
  have hf_37 := hts _ (uT _ _ u_83)
  have hi_X3 : ∀ w ∈ wsX30, w.before args s = true := fun w h => hts w (uT _ w (u_wsX30 w h))
  have lm1 : (-1 : Int32).toInt = -1 := by decide
  have lm0 : (0 : Int32).toInt = 0 := by decide
  have lm2 : (1 : Int32).toInt = 1 := by decide
  have lq2 : (2 : Int32).toInt = 2 := by decide
  have lq3 : (3 : Int32).toInt = 3 := by decide
  have lq4 : (4 : Int32).toInt = 4 := by decide
  have hru := TI.ru hT
  have hq1 := h_q.1
  have hq2 := h_q.2
  refine lv_aload_n hx hb dX3_faultOfToken_0 rfl (lv_at hl 0 rfl) ?_
  refine va_get (D := g.1) (ci := 3) (v := .int (I_r 0 3)) (C := RX3) (T := TX3) (N := 10) hx hb hi_X3 (fun _ h => h) hown hK.1 hP 0 rfl rfl 3 (by decide) hf_25 (fun _ h9 => h9) rfl dX3_faultOfToken_1 ?_
  refine lv_iconst (v := 4) hx hb dX3_faultOfToken_4 (by decide) ?_
  refine q_icmp_ne (tgt := 10) hx hb dX3_faultOfToken_5 (by decide) rfl (by decide : (4 : Int32).toInt = 4) (fun k_5 => ?_) (fun k_5 => ?_)
  · refine lv_aload_n hx hb dX3_faultOfToken_10 rfl (lv_at hl 0 rfl) ?_
    refine va_get (D := g.1) (ci := 3) (v := .int (I_r 0 3)) (C := RX3) (T := TX3) (N := 10) hx hb hi_X3 (fun _ h => h) hown hK.1 hP 0 rfl rfl 3 (by decide) hf_25 (fun _ h9 => h9) rfl dX3_faultOfToken_11 ?_
    refine lv_iconst (v := 3) hx hb dX3_faultOfToken_14 (by decide) ?_
    refine q_icmp_ne (tgt := 31) hx hb dX3_faultOfToken_15 (by decide) rfl (by decide : (3 : Int32).toInt = 3) (fun k_15 => ?_) (fun k_15 => ?_)
    · refine lv_aload_n hx hb dX3_faultOfToken_31 rfl (lv_at hl 0 rfl) ?_
      refine va_get (D := g.1) (ci := 3) (v := .int (I_r 0 7)) (C := RX3) (T := TX3) (N := 10) hx hb hi_X3 (fun _ h => h) hown hK.1 hP 0 rfl rfl 7 (by decide) hf_37 (fun _ h9 => h9) rfl dX3_faultOfToken_32 ?_
      have sw_35 : (I_r 0 7).toInt < 0 ∨ 6 < (I_r 0 7).toInt ∨ (I_r 0 7).toInt = 0 ∨ (I_r 0 7).toInt = 1 ∨ (I_r 0 7).toInt = 2 ∨ (I_r 0 7).toInt = 3 ∨ (I_r 0 7).toInt = 4 ∨ (I_r 0 7).toInt = 5 ∨ (I_r 0 7).toInt = 6 := by omega
      rcases sw_35 with k_35 | k_35 | k_35 | k_35 | k_35 | k_35 | k_35 | k_35 | k_35
      · refine lv_tableOut (tgt := 166) hx hb dX3_faultOfToken_35 (by omega) (by decide) ?_
        refine lv_aload_n hx hb dX3_faultOfToken_166 rfl (lv_at hl 0 rfl) ?_
        refine lv_iconst (v := 0) hx hb dX3_faultOfToken_167 (by decide) ?_
        refine va_put (D := g.1) (ci := 3) (v := .int (0 : Int32)) (ty := .int) (C := RX3) (T := TX3) (N := 10) hx hb hi_X3 (fun _ h => h) tyX3 tyX3_ok nmX3 hown hK.1 hP hD hS 0 rfl rfl 7 (by decide) hf_37 (fun _ h9 => h9) rfl (by decide +kernel) rfl rfl (Nat.le_of_ble_eq_true rfl) dX3_faultOfToken_168 (fun H locs hP hD hS => ?_)
        have hP : va_P g.1 vwCl (wX3 g a_r (uF I_r 0 7 (0 : Int32)) ++ (wArr g a_x n_x I_x ++ wX7 g a_t I_t)) H := hP
        have hD : va_D A (wX3 g a_r (uF I_r 0 7 (0 : Int32)) ++ (wArr g a_x n_x I_x ++ wX7 g a_t I_t)) := hD
        refine lv_aload_n hx hb dX3_faultOfToken_171 rfl (lv_at hl 0 rfl) ?_
        refine va_get (D := g.1) (ci := 3) (v := .int (I_r 0 3)) (C := RX3) (T := TX3) (N := 10) hx hb hi_X3 (fun _ h => h) hown hK.1 hP 0 rfl rfl 3 (by decide) hf_25 (fun _ h9 => h9) rfl dX3_faultOfToken_172 ?_
        refine lv_iconst (v := 2) hx hb dX3_faultOfToken_175 (by decide) ?_
        refine q_icmp_ne (tgt := 183) hx hb dX3_faultOfToken_176 (by decide) rfl (by decide : (2 : Int32).toInt = 2) (fun k_176 => ?_) (fun k_176 => ?_)
        · refine lv_iconst (v := 2) hx hb dX3_faultOfToken_183 (by decide) ?_
          have lr : (2 : Int32).toInt = 2 := by decide
          refine hret 184 ls (2 : Int32) _ _ ((uF I_r 0 7 (0 : Int32)), I_t) dX3_faultOfToken_184 hS hP hD ?_
          exact (by first | exact ⟨hT, (fun hr0 => (show QA ((0 : Int32)).toInt ((I_t 0 0)).toInt ((I_r 0 8)).toInt from (by unfold QA; omega))), rfl, rfl, ⟨rfl, rfl⟩, rfl, Or.inr ⟨by omega, fx_inr (s' := (0, 0, (fxTd (I_r 0 9)), fxTc I_t, fxE)) (by rw [fx_aw7 (by omega) (by omega) (by omega), if_pos (by omega)]) (by decide) (fxSc.mk (show ((0 : Int32)).toInt = 0 from by decide) (if_neg (by decide)) rfl rfl (fxCu.no (by decide)))⟩⟩ | exact ⟨hT, fun hr0 => by omega, rfl, rfl, ⟨rfl, rfl⟩, rfl, Or.inr ⟨by omega, fx_inl (by rw [fx_aw7 (by omega) (by omega) (by omega), if_neg (by omega)]) (by decide) (by decide)⟩⟩)
        · refine lv_iconst (v := 0) hx hb dX3_faultOfToken_179 (by decide) ?_
          refine lv_goto (tgt := 184) hx hb dX3_faultOfToken_180 (by decide) ?_
          refine hret 184 ls (0 : Int32) _ _ ((uF I_r 0 7 (0 : Int32)), I_t) dX3_faultOfToken_184 hS hP hD ?_
          exact (by first | exact ⟨hT, (fun hr0 => (show QA ((0 : Int32)).toInt ((I_t 0 0)).toInt ((I_r 0 8)).toInt from (by unfold QA; omega))), rfl, rfl, ⟨rfl, rfl⟩, rfl, Or.inr ⟨by omega, fx_inr (s' := (0, 0, (fxTd (I_r 0 9)), fxTc I_t, fxE)) (by rw [fx_aw7 (by omega) (by omega) (by omega), if_pos (by omega)]) (by decide) (fxSc.mk (show ((0 : Int32)).toInt = 0 from by decide) (if_neg (by decide)) rfl rfl (fxCu.no (by decide)))⟩⟩ | exact ⟨hT, fun hr0 => by omega, rfl, rfl, ⟨rfl, rfl⟩, rfl, Or.inr ⟨by omega, fx_inl (by rw [fx_aw7 (by omega) (by omega) (by omega), if_neg (by omega)]) (by decide) (by decide)⟩⟩)
      · refine lv_tableOut (tgt := 166) hx hb dX3_faultOfToken_35 (by omega) (by decide) ?_
        refine lv_aload_n hx hb dX3_faultOfToken_166 rfl (lv_at hl 0 rfl) ?_
        refine lv_iconst (v := 0) hx hb dX3_faultOfToken_167 (by decide) ?_
        refine va_put (D := g.1) (ci := 3) (v := .int (0 : Int32)) (ty := .int) (C := RX3) (T := TX3) (N := 10) hx hb hi_X3 (fun _ h => h) tyX3 tyX3_ok nmX3 hown hK.1 hP hD hS 0 rfl rfl 7 (by decide) hf_37 (fun _ h9 => h9) rfl (by decide +kernel) rfl rfl (Nat.le_of_ble_eq_true rfl) dX3_faultOfToken_168 (fun H locs hP hD hS => ?_)
        have hP : va_P g.1 vwCl (wX3 g a_r (uF I_r 0 7 (0 : Int32)) ++ (wArr g a_x n_x I_x ++ wX7 g a_t I_t)) H := hP
        have hD : va_D A (wX3 g a_r (uF I_r 0 7 (0 : Int32)) ++ (wArr g a_x n_x I_x ++ wX7 g a_t I_t)) := hD
        refine lv_aload_n hx hb dX3_faultOfToken_171 rfl (lv_at hl 0 rfl) ?_
        refine va_get (D := g.1) (ci := 3) (v := .int (I_r 0 3)) (C := RX3) (T := TX3) (N := 10) hx hb hi_X3 (fun _ h => h) hown hK.1 hP 0 rfl rfl 3 (by decide) hf_25 (fun _ h9 => h9) rfl dX3_faultOfToken_172 ?_
        refine lv_iconst (v := 2) hx hb dX3_faultOfToken_175 (by decide) ?_
        refine q_icmp_ne (tgt := 183) hx hb dX3_faultOfToken_176 (by decide) rfl (by decide : (2 : Int32).toInt = 2) (fun k_176 => ?_) (fun k_176 => ?_)
        · refine lv_iconst (v := 2) hx hb dX3_faultOfToken_183 (by decide) ?_
          have lr : (2 : Int32).toInt = 2 := by decide
          refine hret 184 ls (2 : Int32) _ _ ((uF I_r 0 7 (0 : Int32)), I_t) dX3_faultOfToken_184 hS hP hD ?_
          exact (by first | exact ⟨hT, (fun hr0 => (show QA ((0 : Int32)).toInt ((I_t 0 0)).toInt ((I_r 0 8)).toInt from (by unfold QA; omega))), rfl, rfl, ⟨rfl, rfl⟩, rfl, Or.inr ⟨by omega, fx_inr (s' := (0, 0, (fxTd (I_r 0 9)), fxTc I_t, fxE)) (by rw [fx_aw7 (by omega) (by omega) (by omega), if_pos (by omega)]) (by decide) (fxSc.mk (show ((0 : Int32)).toInt = 0 from by decide) (if_neg (by decide)) rfl rfl (fxCu.no (by decide)))⟩⟩ | exact ⟨hT, fun hr0 => by omega, rfl, rfl, ⟨rfl, rfl⟩, rfl, Or.inr ⟨by omega, fx_inl (by rw [fx_aw7 (by omega) (by omega) (by omega), if_neg (by omega)]) (by decide) (by decide)⟩⟩)
        · refine lv_iconst (v := 0) hx hb dX3_faultOfToken_179 (by decide) ?_
          refine lv_goto (tgt := 184) hx hb dX3_faultOfToken_180 (by decide) ?_
          refine hret 184 ls (0 : Int32) _ _ ((uF I_r 0 7 (0 : Int32)), I_t) dX3_faultOfToken_184 hS hP hD ?_
          exact (by first | exact ⟨hT, (fun hr0 => (show QA ((0 : Int32)).toInt ((I_t 0 0)).toInt ((I_r 0 8)).toInt from (by unfold QA; omega))), rfl, rfl, ⟨rfl, rfl⟩, rfl, Or.inr ⟨by omega, fx_inr (s' := (0, 0, (fxTd (I_r 0 9)), fxTc I_t, fxE)) (by rw [fx_aw7 (by omega) (by omega) (by omega), if_pos (by omega)]) (by decide) (fxSc.mk (show ((0 : Int32)).toInt = 0 from by decide) (if_neg (by decide)) rfl rfl (fxCu.no (by decide)))⟩⟩ | exact ⟨hT, fun hr0 => by omega, rfl, rfl, ⟨rfl, rfl⟩, rfl, Or.inr ⟨by omega, fx_inl (by rw [fx_aw7 (by omega) (by omega) (by omega), if_neg (by omega)]) (by decide) (by decide)⟩⟩)
      · refine lv_tableIn (tgt := 76) hx hb dX3_faultOfToken_35 (by omega) (by omega) (by rw [k_35]; rfl) (by decide) ?_
        refine lv_aload_n hx hb dX3_faultOfToken_76 rfl (lv_at hl 0 rfl) ?_
        refine lv_aload_n hx hb dX3_faultOfToken_77 rfl (lv_at hl 1 rfl) ?_
        refine EffIS.cv (wr := ([])) (w' := fun u2 => wX3 g a_r u2 ++ (wArr g a_x n_x I_x ++ wX7 g a_t I_t)) (As := [.ref (a_x 0)]) (kX3_takePart l g ad av a_r I_r a_x n_x I_x a_t I_t hl_r_table (by omega) hT) fx (gUV (uT _) u_384 u_385 u_386 u_27 u_387) rfl hdX3_takePart ⟨Nat.le_of_ble_eq_true rfl, Nat.le_of_ble_eq_true rfl⟩ hJ hK hP hD hS hA [0, 1, 2, 3, 4, 5, 6, 7, 8] [] [0, 1, 2, 3, 4, 5, 6, 7, 8] rfl rfl rfl rfl (by decide) rfl (fun _ => rfl) rfl rfl rfl rfl hl.1 (Nat.le_of_ble_eq_true rfl) dX3_faultOfToken_78 (fun r1 u2 H locs p_r1 hP hD hS => ?_)
        have hP : va_P g.1 vwCl (wX3 g a_r u2 ++ (wArr g a_x n_x I_x ++ wX7 g a_t I_t)) H := hP
        have hD : va_D A (wX3 g a_r u2 ++ (wArr g a_x n_x I_x ++ wX7 g a_t I_t)) := hD
        refine hret 81 ls r1 _ _ (u2, I_t) dX3_faultOfToken_81 hS hP hD ?_
        exact ⟨hT, p_r1.1, p_r1.2.1, p_r1.2.2.1, p_r1.2.2.2.1, rfl, Or.inr ⟨by omega, (by rw [fx_aw0 (by omega) (by omega) (by omega)]; exact p_r1.2.2.2.2)⟩⟩
      · refine lv_tableIn (tgt := 82) hx hb dX3_faultOfToken_35 (by omega) (by omega) (by rw [k_35]; rfl) (by decide) ?_
        refine lv_aload_n hx hb dX3_faultOfToken_82 rfl (lv_at hl 0 rfl) ?_
        refine lv_aload_n hx hb dX3_faultOfToken_83 rfl (lv_at hl 1 rfl) ?_
        refine EffI.cv (wr := ([])) (w' := fun u4 => wX3 g a_r u4.1 ++ (wArr g a_x n_x I_x ++ wX7 g a_t u4.2)) (As := [.ref (a_x 0)]) (kX3_takeLetters l g a_r I_r a_x n_x I_x a_t I_t hl_r_table (by omega) hT (by omega) (by omega)) fx (gUV (uT _) u_446 u_447 u_448 u_27 u_449) rfl hdX3_takeLetters ⟨Nat.le_of_ble_eq_true rfl, Nat.le_of_ble_eq_true rfl⟩ hK hP hD hS hA [0, 1, 2, 3, 4, 5, 6, 7, 8] [] [0, 1, 2, 3, 4, 5, 6, 7, 8] rfl rfl rfl rfl (by decide) rfl (fun _ => rfl) rfl rfl rfl rfl hl.1 (Nat.le_of_ble_eq_true rfl) dX3_faultOfToken_84 (fun r3 u4 H locs p_r3 hP hD hS => ?_)
        obtain ⟨I5, I6⟩ := u4
        try dsimp only at p_r3
        have hP : va_P g.1 vwCl (wX3 g a_r I5 ++ (wArr g a_x n_x I_x ++ wX7 g a_t I6)) H := hP
        have hD : va_D A (wX3 g a_r I5 ++ (wArr g a_x n_x I_x ++ wX7 g a_t I6)) := hD
        refine hret 87 ls r3 _ _ (I5, I6) dX3_faultOfToken_87 hS hP hD ?_
        exact ⟨p_r3.1, p_r3.2.1, p_r3.2.2.1, p_r3.2.2.2.1, p_r3.2.2.2.2.1, p_r3.2.2.2.2.2.1, Or.inr ⟨by omega, (by rw [fx_aw1 (by omega) (by omega) (by omega)]; exact p_r3.2.2.2.2.2.2)⟩⟩
      · refine lv_tableIn (tgt := 88) hx hb dX3_faultOfToken_35 (by omega) (by omega) (by rw [k_35]; rfl) (by decide) ?_
        refine lv_aload_n hx hb dX3_faultOfToken_88 rfl (lv_at hl 0 rfl) ?_
        refine lv_iconst (v := 3) hx hb dX3_faultOfToken_89 (by decide) ?_
        refine va_put (D := g.1) (ci := 3) (v := .int (3 : Int32)) (ty := .int) (C := RX3) (T := TX3) (N := 10) hx hb hi_X3 (fun _ h => h) tyX3 tyX3_ok nmX3 hown hK.1 hP hD hS 0 rfl rfl 7 (by decide) hf_37 (fun _ h9 => h9) rfl (by decide +kernel) rfl rfl (Nat.le_of_ble_eq_true rfl) dX3_faultOfToken_90 (fun H locs hP hD hS => ?_)
        have hP : va_P g.1 vwCl (wX3 g a_r (uF I_r 0 7 (3 : Int32)) ++ (wArr g a_x n_x I_x ++ wX7 g a_t I_t)) H := hP
        have hD : va_D A (wX3 g a_r (uF I_r 0 7 (3 : Int32)) ++ (wArr g a_x n_x I_x ++ wX7 g a_t I_t)) := hD
        refine lv_aload_n hx hb dX3_faultOfToken_93 rfl (lv_at hl 0 rfl) ?_
        refine lv_aload_n hx hb dX3_faultOfToken_94 rfl (lv_at hl 1 rfl) ?_
        refine va_ldcS hx hb hown (jF.l11 hJ) dX3_faultOfToken_95 ?_
        refine PurIS.cv (As := [.ref (a_x 0), .ref (ad 11)]) (kX3_isWord l g ad av a_r (uF I_r 0 7 (3 : Int32)) a_x n_x I_x 11 (by decide) h_r) fx (gUV (uT _) u_389 u_390 u_391 u_27 u_392) rfl hdX3_isWord ⟨Nat.le_of_ble_eq_true rfl, Nat.le_of_ble_eq_true rfl⟩ hJ hS hK hP [0, 1] rfl rfl rfl rfl rfl hl.1 (Nat.le_of_ble_eq_true rfl) dX3_faultOfToken_97 (fun r7 p_r7 => ?_)
        refine q_if_eq (tgt := 107) hx hb dX3_faultOfToken_100 (by decide) rfl (fun b_100 k_100 => ?_) (fun b_100 k_100 => ?_)
        · have q_100 := bP.f p_r7 b_100
          refine lv_iconst (v := 2) hx hb dX3_faultOfToken_107 (by decide) ?_
          have lr : (2 : Int32).toInt = 2 := by decide
          refine hret 108 ls (2 : Int32) _ _ ((uF I_r 0 7 (3 : Int32)), I_t) dX3_faultOfToken_108 hS hP hD ?_
          exact (by first | exact ⟨hT, (fun hr0 => (show QA ((3 : Int32)).toInt ((I_t 0 0)).toInt ((I_r 0 8)).toInt from (by unfold QA; omega))), rfl, rfl, ⟨rfl, rfl⟩, rfl, Or.inr ⟨by omega, fx_inr (s' := (3, 0, (fxTd (I_r 0 9)), fxTc I_t, fxCu I_t (I_r 0 7).toInt)) (by rw [fx_aw2 (by omega) (by omega) (by omega), if_pos ⟨q_100.1, q_100.2.trans fxWs_11⟩]) (by decide) (fxSc.mk (show ((3 : Int32)).toInt = 3 from by decide) (if_neg (by decide)) rfl rfl ((fxCu.is (by decide)).trans (fxCu.is (by omega)).symm))⟩⟩ | exact ⟨hT, fun hr0 => by omega, rfl, rfl, ⟨rfl, rfl⟩, rfl, Or.inr ⟨by omega, fx_inl (by rw [fx_aw2 (by omega) (by omega) (by omega), if_neg (fun q => q_100 ⟨q.1, q.2.trans fxWs_11.symm⟩)]) (by decide) (by decide)⟩⟩)
        · have q_100 := bP.t p_r7 b_100
          refine lv_iconst (v := 0) hx hb dX3_faultOfToken_103 (by decide) ?_
          refine lv_goto (tgt := 108) hx hb dX3_faultOfToken_104 (by decide) ?_
          refine hret 108 ls (0 : Int32) _ _ ((uF I_r 0 7 (3 : Int32)), I_t) dX3_faultOfToken_108 hS hP hD ?_
          exact (by first | exact ⟨hT, (fun hr0 => (show QA ((3 : Int32)).toInt ((I_t 0 0)).toInt ((I_r 0 8)).toInt from (by unfold QA; omega))), rfl, rfl, ⟨rfl, rfl⟩, rfl, Or.inr ⟨by omega, fx_inr (s' := (3, 0, (fxTd (I_r 0 9)), fxTc I_t, fxCu I_t (I_r 0 7).toInt)) (by rw [fx_aw2 (by omega) (by omega) (by omega), if_pos ⟨q_100.1, q_100.2.trans fxWs_11⟩]) (by decide) (fxSc.mk (show ((3 : Int32)).toInt = 3 from by decide) (if_neg (by decide)) rfl rfl ((fxCu.is (by decide)).trans (fxCu.is (by omega)).symm))⟩⟩ | exact ⟨hT, fun hr0 => by omega, rfl, rfl, ⟨rfl, rfl⟩, rfl, Or.inr ⟨by omega, fx_inl (by rw [fx_aw2 (by omega) (by omega) (by omega), if_neg (fun q => q_100 ⟨q.1, q.2.trans fxWs_11.symm⟩)]) (by decide) (by decide)⟩⟩)
      · refine lv_tableIn (tgt := 109) hx hb dX3_faultOfToken_35 (by omega) (by omega) (by rw [k_35]; rfl) (by decide) ?_
        refine lv_aload_n hx hb dX3_faultOfToken_109 rfl (lv_at hl 0 rfl) ?_
        refine va_get (D := g.1) (ci := 3) (v := .int (I_r 0 3)) (C := RX3) (T := TX3) (N := 10) hx hb hi_X3 (fun _ h => h) hown hK.1 hP 0 rfl rfl 3 (by decide) hf_25 (fun _ h9 => h9) rfl dX3_faultOfToken_110 ?_
        refine lv_iconst (v := 1) hx hb dX3_faultOfToken_113 (by decide) ?_
        refine q_icmp_ne (tgt := 124) hx hb dX3_faultOfToken_114 (by decide) rfl (by decide : (1 : Int32).toInt = 1) (fun k_114 => ?_) (fun k_114 => ?_)
        · refine lv_iconst (v := 2) hx hb dX3_faultOfToken_124 (by decide) ?_
          have lr : (2 : Int32).toInt = 2 := by decide
          refine hret 125 ls (2 : Int32) _ _ (I_r, I_t) dX3_faultOfToken_125 hS hP hD ?_
          exact (by exact ⟨hT, fun hr0 => by omega, rfl, rfl, ⟨rfl, rfl⟩, rfl, Or.inr ⟨by omega, fx_inl (by rw [fx_aw3 (by omega) (by omega) (by omega), if_neg (by omega)]) (by decide) (by decide)⟩⟩)
        · refine lv_aload_n hx hb dX3_faultOfToken_117 rfl (lv_at hl 0 rfl) ?_
          refine EffI.cv (wr := (wArr g a_x n_x I_x)) (w' := fun u9 => wX3 g a_r u9.1 ++ (wArr g a_x n_x I_x ++ wX7 g a_t u9.2)) (As := []) (kX3_takeCell l g a_r I_r a_t I_t hl_r_table hT (by omega)) fx (gUV (uT _) u_459 u_460 u_461 u_27 u_462) rfl hdX3_takeCell ⟨Nat.le_of_ble_eq_true rfl, Nat.le_of_ble_eq_true rfl⟩ hK hP hD hS hA [0, 2, 3, 4, 5, 6, 7, 8] [1] [1, 0, 2, 3, 4, 5, 6, 7, 8] rfl rfl rfl rfl (by decide) rfl (fun _ => rfl) rfl rfl rfl rfl hl.1 (Nat.le_of_ble_eq_true rfl) dX3_faultOfToken_118 (fun r8 u9 H locs p_r8 hP hD hS => ?_)
          obtain ⟨I10, I11⟩ := u9
          try dsimp only at p_r8
          have hP : va_P g.1 vwCl (wX3 g a_r I10 ++ (wArr g a_x n_x I_x ++ wX7 g a_t I11)) H := hP
          have hD : va_D A (wX3 g a_r I10 ++ (wArr g a_x n_x I_x ++ wX7 g a_t I11)) := hD
          refine lv_goto (tgt := 125) hx hb dX3_faultOfToken_121 (by decide) ?_
          refine hret 125 ls r8 _ _ (I10, I11) dX3_faultOfToken_125 hS hP hD ?_
          exact (by first | exact ⟨p_r8.1, p_r8.2.1, p_r8.2.2.1, p_r8.2.2.2.1, p_r8.2.2.2.2.1, p_r8.2.2.2.2.2.1, Or.inr ⟨by omega, (by rw [fx_aw3 (by omega) (by omega) (by omega), if_pos (by omega), fxCu.is (by omega)]; exact p_r8.2.2.2.2.2.2)⟩⟩ | exact ⟨hT, fun hr0 => by omega, rfl, rfl, ⟨rfl, rfl⟩, rfl, Or.inr ⟨by omega, fx_inl (by rw [fx_aw3 (by omega) (by omega) (by omega), if_neg (by omega)]) (by decide) (by decide)⟩⟩)
      · refine lv_tableIn (tgt := 126) hx hb dX3_faultOfToken_35 (by omega) (by omega) (by rw [k_35]; rfl) (by decide) ?_
        refine lv_aload_n hx hb dX3_faultOfToken_126 rfl (lv_at hl 0 rfl) ?_
        refine lv_aload_n hx hb dX3_faultOfToken_127 rfl (lv_at hl 1 rfl) ?_
        refine EffIS.cv (wr := ([])) (w' := fun u13 => wX3 g a_r u13.1 ++ (wArr g a_x n_x I_x ++ wX7 g a_t u13.2)) (As := [.ref (a_x 0)]) (kX3_takeMore l g ad av a_r I_r a_x n_x I_x a_t I_t hl_r_table (by omega) hT (by omega)) fx (gUV (uT _) u_467 u_468 u_469 u_27 u_470) rfl hdX3_takeMore ⟨Nat.le_of_ble_eq_true rfl, Nat.le_of_ble_eq_true rfl⟩ hJ hK hP hD hS hA [0, 1, 2, 3, 4, 5, 6, 7, 8] [] [0, 1, 2, 3, 4, 5, 6, 7, 8] rfl rfl rfl rfl (by decide) rfl (fun _ => rfl) rfl rfl rfl rfl hl.1 (Nat.le_of_ble_eq_true rfl) dX3_faultOfToken_128 (fun r12 u13 H locs p_r12 hP hD hS => ?_)
        obtain ⟨I14, I15⟩ := u13
        try dsimp only at p_r12
        have hP : va_P g.1 vwCl (wX3 g a_r I14 ++ (wArr g a_x n_x I_x ++ wX7 g a_t I15)) H := hP
        have hD : va_D A (wX3 g a_r I14 ++ (wArr g a_x n_x I_x ++ wX7 g a_t I15)) := hD
        refine hret 131 ls r12 _ _ (I14, I15) dX3_faultOfToken_131 hS hP hD ?_
        exact ⟨p_r12.1, p_r12.2.1, p_r12.2.2.1, p_r12.2.2.2.1, p_r12.2.2.2.2.1, p_r12.2.2.2.2.2.1, Or.inr ⟨by omega, (by rw [fx_aw4 (by omega) (by omega) (by omega), fxCu.is (by omega)]; exact p_r12.2.2.2.2.2.2)⟩⟩
      · refine lv_tableIn (tgt := 132) hx hb dX3_faultOfToken_35 (by omega) (by omega) (by rw [k_35]; rfl) (by decide) ?_
        refine lv_aload_n hx hb dX3_faultOfToken_132 rfl (lv_at hl 0 rfl) ?_
        refine va_get (D := g.1) (ci := 3) (v := .int (I_r 0 3)) (C := RX3) (T := TX3) (N := 10) hx hb hi_X3 (fun _ h => h) hown hK.1 hP 0 rfl rfl 3 (by decide) hf_25 (fun _ h9 => h9) rfl dX3_faultOfToken_133 ?_
        refine lv_iconst (v := 2) hx hb dX3_faultOfToken_136 (by decide) ?_
        refine q_icmp_ne (tgt := 147) hx hb dX3_faultOfToken_137 (by decide) rfl (by decide : (2 : Int32).toInt = 2) (fun k_137 => ?_) (fun k_137 => ?_)
        · refine lv_iconst (v := 2) hx hb dX3_faultOfToken_147 (by decide) ?_
          have lr : (2 : Int32).toInt = 2 := by decide
          refine hret 148 ls (2 : Int32) _ _ (I_r, I_t) dX3_faultOfToken_148 hS hP hD ?_
          exact (by exact ⟨hT, fun hr0 => by omega, rfl, rfl, ⟨rfl, rfl⟩, rfl, Or.inr ⟨by omega, fx_inl (by rw [fx_aw5 (by omega) (by omega) (by omega), if_neg (by omega)]) (by decide) (by decide)⟩⟩)
        · refine lv_aload_n hx hb dX3_faultOfToken_140 rfl (lv_at hl 0 rfl) ?_
          refine EffI.cv (wr := (wArr g a_x n_x I_x)) (w' := fun u17 => wX3 g a_r u17.1 ++ (wArr g a_x n_x I_x ++ wX7 g a_t u17.2)) (As := []) (kX3_takeRule l g a_r I_r a_t I_t hl_r_table hT (by omega)) fx (gUV (uT _) u_471 u_472 u_473 u_27 u_474) rfl hdX3_takeRule ⟨Nat.le_of_ble_eq_true rfl, Nat.le_of_ble_eq_true rfl⟩ hK hP hD hS hA [0, 2, 3, 4, 5, 6, 7, 8] [1] [1, 0, 2, 3, 4, 5, 6, 7, 8] rfl rfl rfl rfl (by decide) rfl (fun _ => rfl) rfl rfl rfl rfl hl.1 (Nat.le_of_ble_eq_true rfl) dX3_faultOfToken_141 (fun r16 u17 H locs p_r16 hP hD hS => ?_)
          obtain ⟨I18, I19⟩ := u17
          try dsimp only at p_r16
          have hP : va_P g.1 vwCl (wX3 g a_r I18 ++ (wArr g a_x n_x I_x ++ wX7 g a_t I19)) H := hP
          have hD : va_D A (wX3 g a_r I18 ++ (wArr g a_x n_x I_x ++ wX7 g a_t I19)) := hD
          refine lv_goto (tgt := 148) hx hb dX3_faultOfToken_144 (by decide) ?_
          refine hret 148 ls r16 _ _ (I18, I19) dX3_faultOfToken_148 hS hP hD ?_
          exact (by first | exact ⟨p_r16.1, p_r16.2.1, p_r16.2.2.1, p_r16.2.2.2.1, p_r16.2.2.2.2.1, p_r16.2.2.2.2.2.1, Or.inr ⟨by omega, (by rw [fx_aw5 (by omega) (by omega) (by omega), if_pos (by omega), fxCu.is (by omega)]; exact p_r16.2.2.2.2.2.2)⟩⟩ | exact ⟨hT, fun hr0 => by omega, rfl, rfl, ⟨rfl, rfl⟩, rfl, Or.inr ⟨by omega, fx_inl (by rw [fx_aw5 (by omega) (by omega) (by omega), if_neg (by omega)]) (by decide) (by decide)⟩⟩)
      · refine lv_tableIn (tgt := 149) hx hb dX3_faultOfToken_35 (by omega) (by omega) (by rw [k_35]; rfl) (by decide) ?_
        refine lv_aload_n hx hb dX3_faultOfToken_149 rfl (lv_at hl 0 rfl) ?_
        refine va_get (D := g.1) (ci := 3) (v := .int (I_r 0 3)) (C := RX3) (T := TX3) (N := 10) hx hb hi_X3 (fun _ h => h) hown hK.1 hP 0 rfl rfl 3 (by decide) hf_25 (fun _ h9 => h9) rfl dX3_faultOfToken_150 ?_
        refine lv_iconst (v := 1) hx hb dX3_faultOfToken_153 (by decide) ?_
        refine q_icmp_ne (tgt := 164) hx hb dX3_faultOfToken_154 (by decide) rfl (by decide : (1 : Int32).toInt = 1) (fun k_154 => ?_) (fun k_154 => ?_)
        · refine lv_iconst (v := 2) hx hb dX3_faultOfToken_164 (by decide) ?_
          have lr : (2 : Int32).toInt = 2 := by decide
          refine hret 165 ls (2 : Int32) _ _ (I_r, I_t) dX3_faultOfToken_165 hS hP hD ?_
          exact (by exact ⟨hT, fun hr0 => by omega, rfl, rfl, ⟨rfl, rfl⟩, rfl, Or.inr ⟨by omega, fx_inl (by rw [fx_aw6 (by omega) (by omega) (by omega), if_neg (by omega)]) (by decide) (by decide)⟩⟩)
        · refine lv_aload_n hx hb dX3_faultOfToken_157 rfl (lv_at hl 0 rfl) ?_
          refine EffI.cv (wr := (wArr g a_x n_x I_x)) (w' := fun u21 => wX3 g a_r u21.1 ++ (wArr g a_x n_x I_x ++ wX7 g a_t u21.2)) (As := []) (kX3_takeSign l g a_r I_r a_t I_t hl_r_table hT (by omega)) fx (gUV (uT _) u_487 u_488 u_489 u_27 u_490) rfl hdX3_takeSign ⟨Nat.le_of_ble_eq_true rfl, Nat.le_of_ble_eq_true rfl⟩ hK hP hD hS hA [0, 2, 3, 4, 5, 6, 7, 8] [1] [1, 0, 2, 3, 4, 5, 6, 7, 8] rfl rfl rfl rfl (by decide) rfl (fun _ => rfl) rfl rfl rfl rfl hl.1 (Nat.le_of_ble_eq_true rfl) dX3_faultOfToken_158 (fun r20 u21 H locs p_r20 hP hD hS => ?_)
          obtain ⟨I22, I23⟩ := u21
          try dsimp only at p_r20
          have hP : va_P g.1 vwCl (wX3 g a_r I22 ++ (wArr g a_x n_x I_x ++ wX7 g a_t I23)) H := hP
          have hD : va_D A (wX3 g a_r I22 ++ (wArr g a_x n_x I_x ++ wX7 g a_t I23)) := hD
          refine lv_goto (tgt := 165) hx hb dX3_faultOfToken_161 (by decide) ?_
          refine hret 165 ls r20 _ _ (I22, I23) dX3_faultOfToken_165 hS hP hD ?_
          exact (by first | exact ⟨p_r20.1, p_r20.2.1, p_r20.2.2.1, p_r20.2.2.2.1, p_r20.2.2.2.2.1, p_r20.2.2.2.2.2.1, Or.inr ⟨by omega, (by rw [fx_aw6 (by omega) (by omega) (by omega), if_pos (by omega)]; exact p_r20.2.2.2.2.2.2)⟩⟩ | exact ⟨hT, fun hr0 => by omega, rfl, rfl, ⟨rfl, rfl⟩, rfl, Or.inr ⟨by omega, fx_inl (by rw [fx_aw6 (by omega) (by omega) (by omega), if_neg (by omega)]) (by decide) (by decide)⟩⟩)
    · refine lv_aload_n hx hb dX3_faultOfToken_18 rfl (lv_at hl 0 rfl) ?_
      refine va_get (D := g.1) (ci := 3) (v := .int (I_r 0 7)) (C := RX3) (T := TX3) (N := 10) hx hb hi_X3 (fun _ h => h) hown hK.1 hP 0 rfl rfl 7 (by decide) hf_37 (fun _ h9 => h9) rfl dX3_faultOfToken_19 ?_
      refine q_if_ne (tgt := 29) hx hb dX3_faultOfToken_22 (by decide) rfl (fun b_22 k_22 => ?_) (fun b_22 k_22 => ?_)
      · refine lv_iconst (v := 2) hx hb dX3_faultOfToken_29 (by decide) ?_
        have lr : (2 : Int32).toInt = 2 := by decide
        refine hret 30 ls (2 : Int32) _ _ (I_r, I_t) dX3_faultOfToken_30 hS hP hD ?_
        exact ⟨hT, (fun hr0 => (show QA ((I_r 0 7)).toInt ((I_t 0 0)).toInt ((I_r 0 8)).toInt from (by unfold QA; omega))), rfl, rfl, ⟨rfl, rfl⟩, rfl, Or.inl ⟨by omega, (by first | exact (fx_k30 (by omega) (by omega)).trans (congrArg Sum.inl (by decide)) | exact (fx_k32 (by omega) (by omega)).trans (congrArg Sum.inl (by decide))), rfl⟩⟩
      · refine lv_iconst (v := 0) hx hb dX3_faultOfToken_25 (by decide) ?_
        refine lv_goto (tgt := 30) hx hb dX3_faultOfToken_26 (by decide) ?_
        refine hret 30 ls (0 : Int32) _ _ (I_r, I_t) dX3_faultOfToken_30 hS hP hD ?_
        exact ⟨hT, (fun hr0 => (show QA ((I_r 0 7)).toInt ((I_t 0 0)).toInt ((I_r 0 8)).toInt from (by unfold QA; omega))), rfl, rfl, ⟨rfl, rfl⟩, rfl, Or.inl ⟨by omega, (by first | exact (fx_k30 (by omega) (by omega)).trans (congrArg Sum.inl (by decide)) | exact (fx_k32 (by omega) (by omega)).trans (congrArg Sum.inl (by decide))), rfl⟩⟩
  · refine lv_iconst (v := 1) hx hb dX3_faultOfToken_8 (by decide) ?_
    have lr : (1 : Int32).toInt = 1 := by decide
    refine hret 9 ls (1 : Int32) _ _ (I_r, I_t) dX3_faultOfToken_9 hS hP hD ?_
    exact ⟨hT, fun hr0 => by omega, rfl, rfl, ⟨rfl, rfl⟩, rfl, Or.inr ⟨by omega, fx_inl (fx_k4 (by omega)) (by decide) (by decide)⟩⟩
