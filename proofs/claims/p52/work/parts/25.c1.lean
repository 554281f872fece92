theorem hdX0_init : hdV yX0_init RX0 0 := ⟨rfl, by decide +kernel, by decide +kernel, by decide +kernel⟩
theorem hdX1_init : hdV yX1_init RX1 0 := ⟨rfl, by decide +kernel, by decide +kernel, by decide +kernel⟩
theorem hdX2_init : hdV yX2_init RX2 0 := ⟨rfl, by decide +kernel, by decide +kernel, by decide +kernel⟩
theorem hdX3_init : hdV yX3_init RX3 0 := ⟨rfl, by decide +kernel, by decide +kernel, by decide +kernel⟩
theorem hdX4_init : hdV yX4_init RX4 0 := ⟨rfl, by decide +kernel, by decide +kernel, by decide +kernel⟩
theorem hdX5_init : hdV yX5_init RX5 0 := ⟨rfl, by decide +kernel, by decide +kernel, by decide +kernel⟩
theorem hdX6_init : hdV yX6_init RX6 0 := ⟨rfl, by decide +kernel, by decide +kernel, by decide +kernel⟩
theorem hdX7_init : hdV yX7_init RX7 0 := ⟨rfl, by decide +kernel, by decide +kernel, by decide +kernel⟩
theorem hdX8_init : hdV yX8_init RX8 0 := ⟨rfl, by decide +kernel, by decide +kernel, by decide +kernel⟩
theorem hdX9_init : hdV yX9_init RX9 0 := ⟨rfl, by decide +kernel, by decide +kernel, by decide +kernel⟩
set_option maxHeartbeats 4000000 in
set_option maxRecDepth 100000 in
theorem kX3_init (l : Launch) (g : gG) (h0 : Nat) : MkV l g yX3_init wsX3_init 2 7 301 [.ref h0] ([(h0, .inr (3, [.null, .int 0, .int 0, .int 0, .int 0, .int 0, .int 0, .int 0, .int 0, .int 0]))]) (fun (u : ((Nat → Nat) × (Nat → Nat) × (Nat → Nat → Int32) × (Nat → Nat → Int32))) => wX3 g (u.1) (u.2.2.1) ++ wX7 g (u.2.1) (u.2.2.2)) (fun (u : ((Nat → Nat) × (Nat → Nat) × (Nat → Nat → Int32) × (Nat → Nat → Int32))) => (u.1) 0 = h0 ∧ (u.1) 100 = (u.2.1) 0 ∧ TI (u.2.2.2)) := by
  refine MkV.st (cc := cX3_init) (maxL := 1) (by decide) rfl (Nat.le_of_ble_eq_true rfl) (fun p e s m args below meth c A Q ls fx hin hK hP hD hA hS hl hret => ?_)
  have hx := fx.1
  have hb := fx.2.1
  have hml := fx.2.2.1
  have hown := fx.2.2.2.1
  have hts := fx.2.2.2.2
  have hl : lv_has ls 1 [(0, .ref h0)] := hl
  have hi_X3 : ∀ w ∈ wsX30, w.before args s = true := fun w h => hts w (uT _ w (u_wsX30 w h))
  have hi_X7 : ∀ w ∈ wsX70, w.before args s = true := fun w h => hts w (uT _ w (u_wsX70 w h))
  refine lv_aload_n hx hb dX3_init_0 rfl (lv_at hl 0 rfl) ?_
  refine W.objInit hx hb hown (hts _ (uT _ _ u_74)) (hts _ (uT _ _ u_11)) (hts _ (uT _ _ u_12)) rfl (by rw [hml]; exact hl.1) rfl dX3_init_1 (Nat.le_of_ble_eq_true rfl) (Nat.le_of_ble_eq_true rfl) ?_
  refine W.eq (g2 := F0 m 4 ls []) rfl ?_
  refine lv_aload_n hx hb dX3_init_4 rfl (lv_at hl 0 rfl) ?_
  refine va_new (ci := 7) (fs := [.int 0, .int 0, .null, .null, .null, .null, .null, .null]) (C := RX7) (T := TX7) (N := 8) hx hb hi_X7 (fun _ h => h) tyX7 tyX7_ok hown (hts _ (uT _ _ u_75)) (hts _ (uT _ _ u_30)) (hts _ (uT _ _ u_31)) hK.1 hP hD hS hA rfl (fun j hj => by rcases (show j = 0 ∨ j = 1 ∨ j = 2 ∨ j = 3 ∨ j = 4 ∨ j = 5 ∨ j = 6 ∨ j = 7 by omega) with rfl | rfl | rfl | rfl | rfl | rfl | rfl | rfl <;> rfl) (Nat.le_of_ble_eq_true rfl) (Nat.le_of_ble_eq_true rfl) dX3_init_5 (fun q1 H hP hD hS => ?_)
  have hP : va_P g.1 vwCl (([(h0, .inr (3, [.null, .int 0, .int 0, .int 0, .int 0, .int 0, .int 0, .int 0, .int 0, .int 0]))] ++ [(q1, .inr (7, [.int 0, .int 0, .null, .null, .null, .null, .null, .null]))])) H := hP
  have hD : va_D A (([(h0, .inr (3, [.null, .int 0, .int 0, .int 0, .int 0, .int 0, .int 0, .int 0, .int 0, .int 0]))] ++ [(q1, .inr (7, [.int 0, .int 0, .null, .null, .null, .null, .null, .null]))])) := hD
  refine lv_dup hx hb dX3_init_8 rfl ?_
  refine MkV.ci (wc := ([(h0, .inr (3, [.null, .int 0, .int 0, .int 0, .int 0, .int 0, .int 0, .int 0, .int 0, .int 0]))] ++ [(q1, .inr (7, [.int 0, .int 0, .null, .null, .null, .null, .null, .null]))])) (wr := [(h0, .inr (3, [.null, .int 0, .int 0, .int 0, .int 0, .int 0, .int 0, .int 0, .int 0, .int 0]))]) (w' := fun (u : ((Nat → Nat) × (Nat → Nat → Int32))) => [(h0, .inr (3, [.null, .int 0, .int 0, .int 0, .int 0, .int 0, .int 0, .int 0, .int 0, .int 0]))] ++ (wX7 g (u.1) (u.2))) (kX7_init l g q1) fx (gU (uT _) u_88) rfl hdX7_init ⟨Nat.le_of_ble_eq_true rfl, Nat.le_of_ble_eq_true rfl⟩ rfl (hts _ (uT _ _ u_86)) (hts _ (uT _ _ u_87)) (hts _ (uT _ _ u_31)) hK hP hD hS hA [List.length [(h0, .inr (3, [.null, .int 0, .int 0, .int 0, .int 0, .int 0, .int 0, .int 0, .int 0, .int 0]))]] (List.range (List.length [(h0, .inr (3, [.null, .int 0, .int 0, .int 0, .int 0, .int 0, .int 0, .int 0, .int 0, .int 0]))])) (List.range (List.length [(h0, .inr (3, [.null, .int 0, .int 0, .int 0, .int 0, .int 0, .int 0, .int 0, .int 0, .int 0]))] + 7)) (ls_C _ _) (ls_R _ _) (by rw [nd_iff]; exact List.pairwise_singleton _ _) (ls_nd _) (ls_dis _) (ls_nd _) (fun u => ls_B _ _ rfl) hl.1 (Nat.le_of_ble_eq_true rfl) dX3_init_9 ⟨Nat.le_of_ble_eq_true rfl, Nat.le_of_ble_eq_true rfl⟩ (fun uq1 H locs hq1 hP hD hS => ?_)
  obtain ⟨A_t, I_t⟩ := uq1
  dsimp only at hq1
  have hP : va_P g.1 vwCl (([(h0, .inr (3, [.null, .int 0, .int 0, .int 0, .int 0, .int 0, .int 0, .int 0, .int 0, .int 0]))] ++ (wX7 g A_t I_t))) H := hP
  have hD : va_D A (([(h0, .inr (3, [.null, .int 0, .int 0, .int 0, .int 0, .int 0, .int 0, .int 0, .int 0, .int 0]))] ++ (wX7 g A_t I_t))) := hD
  refine va_putF (D := g.1) (ci := 3) (v := .ref q1) (ty := .object "RaisedPress$Table") (C := RX3) (T := TX3) (N := 10) hx hb hi_X3 (fun _ h => h) tyX3 tyX3_ok nmX3 hown hK.1 hP hD hS 0 rfl rfl 0 (by decide) (hts _ (uT _ _ u_76)) (fun _ h9 => h9) rfl hin rfl (by decide +kernel) rfl rfl (Nat.le_of_ble_eq_true rfl) dX3_init_12 (fun H locs hP hD hS => ?_)
  have hP : va_P g.1 vwCl (([(h0, .inr (3, [.ref q1, .int 0, .int 0, .int 0, .int 0, .int 0, .int 0, .int 0, .int 0, .int 0]))] ++ (wX7 g A_t I_t))) H := hP
  have hD : va_D A (([(h0, .inr (3, [.ref q1, .int 0, .int 0, .int 0, .int 0, .int 0, .int 0, .int 0, .int 0, .int 0]))] ++ (wX7 g A_t I_t))) := hD
  refine lv_aload_n hx hb dX3_init_15 rfl (lv_at hl 0 rfl) ?_
  refine lv_iconst (v := 0) hx hb dX3_init_16 (by decide) ?_
  refine va_put (D := g.1) (ci := 3) (v := .int (0 : Int32)) (ty := .int) (C := RX3) (T := TX3) (N := 10) hx hb hi_X3 (fun _ h => h) tyX3 tyX3_ok nmX3 hown hK.1 hP hD hS 0 rfl rfl 1 (by decide) (hts _ (uT _ _ u_77)) (fun _ h9 => h9) rfl (by decide +kernel) rfl rfl (Nat.le_of_ble_eq_true rfl) dX3_init_17 (fun H locs hP hD hS => ?_)
  have hP : va_P g.1 vwCl (([(h0, .inr (3, [.ref q1, .int (0 : Int32), .int 0, .int 0, .int 0, .int 0, .int 0, .int 0, .int 0, .int 0]))] ++ (wX7 g A_t I_t))) H := hP
  have hD : va_D A (([(h0, .inr (3, [.ref q1, .int (0 : Int32), .int 0, .int 0, .int 0, .int 0, .int 0, .int 0, .int 0, .int 0]))] ++ (wX7 g A_t I_t))) := hD
  refine lv_aload_n hx hb dX3_init_20 rfl (lv_at hl 0 rfl) ?_
  refine lv_iconst (v := -1) hx hb dX3_init_21 (by decide) ?_
  refine va_put (D := g.1) (ci := 3) (v := .int (-1 : Int32)) (ty := .int) (C := RX3) (T := TX3) (N := 10) hx hb hi_X3 (fun _ h => h) tyX3 tyX3_ok nmX3 hown hK.1 hP hD hS 0 rfl rfl 2 (by decide) (hts _ (uT _ _ u_78)) (fun _ h9 => h9) rfl (by decide +kernel) rfl rfl (Nat.le_of_ble_eq_true rfl) dX3_init_22 (fun H locs hP hD hS => ?_)
  have hP : va_P g.1 vwCl (([(h0, .inr (3, [.ref q1, .int (0 : Int32), .int (-1 : Int32), .int 0, .int 0, .int 0, .int 0, .int 0, .int 0, .int 0]))] ++ (wX7 g A_t I_t))) H := hP
  have hD : va_D A (([(h0, .inr (3, [.ref q1, .int (0 : Int32), .int (-1 : Int32), .int 0, .int 0, .int 0, .int 0, .int 0, .int 0, .int 0]))] ++ (wX7 g A_t I_t))) := hD
  refine lv_aload_n hx hb dX3_init_25 rfl (lv_at hl 0 rfl) ?_
  refine lv_iconst (v := 3) hx hb dX3_init_26 (by decide) ?_
  refine va_put (D := g.1) (ci := 3) (v := .int (3 : Int32)) (ty := .int) (C := RX3) (T := TX3) (N := 10) hx hb hi_X3 (fun _ h => h) tyX3 tyX3_ok nmX3 hown hK.1 hP hD hS 0 rfl rfl 3 (by decide) (hts _ (uT _ _ u_79)) (fun _ h9 => h9) rfl (by decide +kernel) rfl rfl (Nat.le_of_ble_eq_true rfl) dX3_init_27 (fun H locs hP hD hS => ?_)
  have hP : va_P g.1 vwCl (([(h0, .inr (3, [.ref q1, .int (0 : Int32), .int (-1 : Int32), .int (3 : Int32), .int 0, .int 0, .int 0, .int 0, .int 0, .int 0]))] ++ (wX7 g A_t I_t))) H := hP
  have hD : va_D A (([(h0, .inr (3, [.ref q1, .int (0 : Int32), .int (-1 : Int32), .int (3 : Int32), .int 0, .int 0, .int 0, .int 0, .int 0, .int 0]))] ++ (wX7 g A_t I_t))) := hD
  refine lv_aload_n hx hb dX3_init_30 rfl (lv_at hl 0 rfl) ?_
  refine lv_iconst (v := 0) hx hb dX3_init_31 (by decide) ?_
  refine va_put (D := g.1) (ci := 3) (v := .int (0 : Int32)) (ty := .int) (C := RX3) (T := TX3) (N := 10) hx hb hi_X3 (fun _ h => h) tyX3 tyX3_ok nmX3 hown hK.1 hP hD hS 0 rfl rfl 4 (by decide) (hts _ (uT _ _ u_80)) (fun _ h9 => h9) rfl (by decide +kernel) rfl rfl (Nat.le_of_ble_eq_true rfl) dX3_init_32 (fun H locs hP hD hS => ?_)
  have hP : va_P g.1 vwCl (([(h0, .inr (3, [.ref q1, .int (0 : Int32), .int (-1 : Int32), .int (3 : Int32), .int (0 : Int32), .int 0, .int 0, .int 0, .int 0, .int 0]))] ++ (wX7 g A_t I_t))) H := hP
  have hD : va_D A (([(h0, .inr (3, [.ref q1, .int (0 : Int32), .int (-1 : Int32), .int (3 : Int32), .int (0 : Int32), .int 0, .int 0, .int 0, .int 0, .int 0]))] ++ (wX7 g A_t I_t))) := hD
  refine lv_aload_n hx hb dX3_init_35 rfl (lv_at hl 0 rfl) ?_
  refine lv_iconst (v := 0) hx hb dX3_init_36 (by decide) ?_
  refine va_put (D := g.1) (ci := 3) (v := .int (0 : Int32)) (ty := .int) (C := RX3) (T := TX3) (N := 10) hx hb hi_X3 (fun _ h => h) tyX3 tyX3_ok nmX3 hown hK.1 hP hD hS 0 rfl rfl 5 (by decide) (hts _ (uT _ _ u_81)) (fun _ h9 => h9) rfl (by decide +kernel) rfl rfl (Nat.le_of_ble_eq_true rfl) dX3_init_37 (fun H locs hP hD hS => ?_)
  have hP : va_P g.1 vwCl (([(h0, .inr (3, [.ref q1, .int (0 : Int32), .int (-1 : Int32), .int (3 : Int32), .int (0 : Int32), .int (0 : Int32), .int 0, .int 0, .int 0, .int 0]))] ++ (wX7 g A_t I_t))) H := hP
  have hD : va_D A (([(h0, .inr (3, [.ref q1, .int (0 : Int32), .int (-1 : Int32), .int (3 : Int32), .int (0 : Int32), .int (0 : Int32), .int 0, .int 0, .int 0, .int 0]))] ++ (wX7 g A_t I_t))) := hD
  refine lv_aload_n hx hb dX3_init_40 rfl (lv_at hl 0 rfl) ?_
  refine lv_iconst (v := 0) hx hb dX3_init_41 (by decide) ?_
  refine va_put (D := g.1) (ci := 3) (v := .int (0 : Int32)) (ty := .int) (C := RX3) (T := TX3) (N := 10) hx hb hi_X3 (fun _ h => h) tyX3 tyX3_ok nmX3 hown hK.1 hP hD hS 0 rfl rfl 6 (by decide) (hts _ (uT _ _ u_82)) (fun _ h9 => h9) rfl (by decide +kernel) rfl rfl (Nat.le_of_ble_eq_true rfl) dX3_init_42 (fun H locs hP hD hS => ?_)
  have hP : va_P g.1 vwCl (([(h0, .inr (3, [.ref q1, .int (0 : Int32), .int (-1 : Int32), .int (3 : Int32), .int (0 : Int32), .int (0 : Int32), .int (0 : Int32), .int 0, .int 0, .int 0]))] ++ (wX7 g A_t I_t))) H := hP
  have hD : va_D A (([(h0, .inr (3, [.ref q1, .int (0 : Int32), .int (-1 : Int32), .int (3 : Int32), .int (0 : Int32), .int (0 : Int32), .int (0 : Int32), .int 0, .int 0, .int 0]))] ++ (wX7 g A_t I_t))) := hD
  refine lv_aload_n hx hb dX3_init_45 rfl (lv_at hl 0 rfl) ?_
  refine lv_iconst (v := 0) hx hb dX3_init_46 (by decide) ?_
  refine va_put (D := g.1) (ci := 3) (v := .int (0 : Int32)) (ty := .int) (C := RX3) (T := TX3) (N := 10) hx hb hi_X3 (fun _ h => h) tyX3 tyX3_ok nmX3 hown hK.1 hP hD hS 0 rfl rfl 7 (by decide) (hts _ (uT _ _ u_83)) (fun _ h9 => h9) rfl (by decide +kernel) rfl rfl (Nat.le_of_ble_eq_true rfl) dX3_init_47 (fun H locs hP hD hS => ?_)
  have hP : va_P g.1 vwCl (([(h0, .inr (3, [.ref q1, .int (0 : Int32), .int (-1 : Int32), .int (3 : Int32), .int (0 : Int32), .int (0 : Int32), .int (0 : Int32), .int (0 : Int32), .int 0, .int 0]))] ++ (wX7 g A_t I_t))) H := hP
  have hD : va_D A (([(h0, .inr (3, [.ref q1, .int (0 : Int32), .int (-1 : Int32), .int (3 : Int32), .int (0 : Int32), .int (0 : Int32), .int (0 : Int32), .int (0 : Int32), .int 0, .int 0]))] ++ (wX7 g A_t I_t))) := hD
  refine lv_aload_n hx hb dX3_init_50 rfl (lv_at hl 0 rfl) ?_
  refine lv_iconst (v := 0) hx hb dX3_init_51 (by decide) ?_
  refine va_put (D := g.1) (ci := 3) (v := .int (0 : Int32)) (ty := .int) (C := RX3) (T := TX3) (N := 10) hx hb hi_X3 (fun _ h => h) tyX3 tyX3_ok nmX3 hown hK.1 hP hD hS 0 rfl rfl 8 (by decide) (hts _ (uT _ _ u_84)) (fun _ h9 => h9) rfl (by decide +kernel) rfl rfl (Nat.le_of_ble_eq_true rfl) dX3_init_52 (fun H locs hP hD hS => ?_)
  have hP : va_P g.1 vwCl (([(h0, .inr (3, [.ref q1, .int (0 : Int32), .int (-1 : Int32), .int (3 : Int32), .int (0 : Int32), .int (0 : Int32), .int (0 : Int32), .int (0 : Int32), .int (0 : Int32), .int 0]))] ++ (wX7 g A_t I_t))) H := hP
  have hD : va_D A (([(h0, .inr (3, [.ref q1, .int (0 : Int32), .int (-1 : Int32), .int (3 : Int32), .int (0 : Int32), .int (0 : Int32), .int (0 : Int32), .int (0 : Int32), .int (0 : Int32), .int 0]))] ++ (wX7 g A_t I_t))) := hD
  refine lv_aload_n hx hb dX3_init_55 rfl (lv_at hl 0 rfl) ?_
  refine lv_iconst (v := 0) hx hb dX3_init_56 (by decide) ?_
  refine va_put (D := g.1) (ci := 3) (v := .int (0 : Int32)) (ty := .int) (C := RX3) (T := TX3) (N := 10) hx hb hi_X3 (fun _ h => h) tyX3 tyX3_ok nmX3 hown hK.1 hP hD hS 0 rfl rfl 9 (by decide) (hts _ (uT _ _ u_85)) (fun _ h9 => h9) rfl (by decide +kernel) rfl rfl (Nat.le_of_ble_eq_true rfl) dX3_init_57 (fun H locs hP hD hS => ?_)
  have hP : va_P g.1 vwCl (([(h0, .inr (3, [.ref q1, .int (0 : Int32), .int (-1 : Int32), .int (3 : Int32), .int (0 : Int32), .int (0 : Int32), .int (0 : Int32), .int (0 : Int32), .int (0 : Int32), .int (0 : Int32)]))] ++ (wX7 g A_t I_t))) H := hP
  have hD : va_D A (([(h0, .inr (3, [.ref q1, .int (0 : Int32), .int (-1 : Int32), .int (3 : Int32), .int (0 : Int32), .int (0 : Int32), .int (0 : Int32), .int (0 : Int32), .int (0 : Int32), .int (0 : Int32)]))] ++ (wX7 g A_t I_t))) := hD
  refine hret 60 ls H _ _ _ ((uA (fA [h0]) 100 q1), A_t, (fI [fV [0, (0 : Int32), (-1 : Int32), (3 : Int32), (0 : Int32), (0 : Int32), (0 : Int32), (0 : Int32), (0 : Int32), (0 : Int32)]]), I_t) dX3_init_60 (Nat.le_of_ble_eq_true rfl) (Nat.le_of_ble_eq_true rfl) hS hP hD ?_
  exact ⟨rfl, hq1.1.symm, hq1.2.1⟩
set_option maxHeartbeats 4000000 in
set_option maxRecDepth 100000 in
theorem kX2_init (l : Launch) (g : gG) (h0 : Nat) : MkV l g yX2_init wsX2_init 2 10 905 [.ref h0] ([(h0, .inr (2, [.null, .null, .int 0, .int 0]))]) (fun (u : ((Nat → Nat) × (Nat → Nat) × (Nat → Nat) × (Nat → Nat → Int32) × (Nat → Nat → Int32) × (Nat → Nat → Int32))) => wX2 g (u.1) (u.2.2.2.1) ++ (wX7 g (u.2.1) (u.2.2.2.2.1) ++ wX5 g (u.2.2.1) (u.2.2.2.2.2))) (fun (u : ((Nat → Nat) × (Nat → Nat) × (Nat → Nat) × (Nat → Nat → Int32) × (Nat → Nat → Int32) × (Nat → Nat → Int32))) => (u.1) 0 = h0 ∧ (u.1) 100 = (u.2.1) 0 ∧ (u.1) 101 = (u.2.2.1) 0 ∧ (MKI (u.2.2.2.1) ∧ TI (u.2.2.2.2.1) ∧ SI (u.2.2.2.2.2))) := by
  refine MkV.st (cc := cX2_init) (maxL := 1) (by decide) rfl (Nat.le_of_ble_eq_true rfl) (fun p e s m args below meth c A Q ls fx hin hK hP hD hA hS hl hret => ?_)
  have hx := fx.1
  have hb := fx.2.1
  have hml := fx.2.2.1
  have hown := fx.2.2.2.1
  have hts := fx.2.2.2.2
  have hl : lv_has ls 1 [(0, .ref h0)] := hl
  have hi_X2 : ∀ w ∈ wsX20, w.before args s = true := fun w h => hts w (uT _ w (u_wsX20 w h))
  have hi_X5 : ∀ w ∈ wsX50, w.before args s = true := fun w h => hts w (uT _ w (u_wsX50 w h))
  have hi_X7 : ∀ w ∈ wsX70, w.before args s = true := fun w h => hts w (uT _ w (u_wsX70 w h))
  refine lv_aload_n hx hb dX2_init_0 rfl (lv_at hl 0 rfl) ?_
  refine W.objInit hx hb hown (hts _ (uT _ _ u_158)) (hts _ (uT _ _ u_11)) (hts _ (uT _ _ u_12)) rfl (by rw [hml]; exact hl.1) rfl dX2_init_1 (Nat.le_of_ble_eq_true rfl) (Nat.le_of_ble_eq_true rfl) ?_
  refine W.eq (g2 := F0 m 4 ls []) rfl ?_
  refine lv_aload_n hx hb dX2_init_4 rfl (lv_at hl 0 rfl) ?_
  refine va_new (ci := 7) (fs := [.int 0, .int 0, .null, .null, .null, .null, .null, .null]) (C := RX7) (T := TX7) (N := 8) hx hb hi_X7 (fun _ h => h) tyX7 tyX7_ok hown (hts _ (uT _ _ u_159)) (hts _ (uT _ _ u_30)) (hts _ (uT _ _ u_31)) hK.1 hP hD hS hA rfl (fun j hj => by rcases (show j = 0 ∨ j = 1 ∨ j = 2 ∨ j = 3 ∨ j = 4 ∨ j = 5 ∨ j = 6 ∨ j = 7 by omega) with rfl | rfl | rfl | rfl | rfl | rfl | rfl | rfl <;> rfl) (Nat.le_of_ble_eq_true rfl) (Nat.le_of_ble_eq_true rfl) dX2_init_5 (fun q1 H hP hD hS => ?_)
  have hP : va_P g.1 vwCl (([(h0, .inr (2, [.null, .null, .int 0, .int 0]))] ++ [(q1, .inr (7, [.int 0, .int 0, .null, .null, .null, .null, .null, .null]))])) H := hP
  have hD : va_D A (([(h0, .inr (2, [.null, .null, .int 0, .int 0]))] ++ [(q1, .inr (7, [.int 0, .int 0, .null, .null, .null, .null, .null, .null]))])) := hD
  refine lv_dup hx hb dX2_init_8 rfl ?_
  refine MkV.ci (wc := ([(h0, .inr (2, [.null, .null, .int 0, .int 0]))] ++ [(q1, .inr (7, [.int 0, .int 0, .null, .null, .null, .null, .null, .null]))])) (wr := [(h0, .inr (2, [.null, .null, .int 0, .int 0]))]) (w' := fun (u : ((Nat → Nat) × (Nat → Nat → Int32))) => [(h0, .inr (2, [.null, .null, .int 0, .int 0]))] ++ (wX7 g (u.1) (u.2))) (kX7_init l g q1) fx (gU (uT _) u_88) rfl hdX7_init ⟨Nat.le_of_ble_eq_true rfl, Nat.le_of_ble_eq_true rfl⟩ rfl (hts _ (uT _ _ u_165)) (hts _ (uT _ _ u_87)) (hts _ (uT _ _ u_31)) hK hP hD hS hA [List.length [(h0, .inr (2, [.null, .null, .int 0, .int 0]))]] (List.range (List.length [(h0, .inr (2, [.null, .null, .int 0, .int 0]))])) (List.range (List.length [(h0, .inr (2, [.null, .null, .int 0, .int 0]))] + 7)) (ls_C _ _) (ls_R _ _) (by rw [nd_iff]; exact List.pairwise_singleton _ _) (ls_nd _) (ls_dis _) (ls_nd _) (fun u => ls_B _ _ rfl) hl.1 (Nat.le_of_ble_eq_true rfl) dX2_init_9 ⟨Nat.le_of_ble_eq_true rfl, Nat.le_of_ble_eq_true rfl⟩ (fun uq1 H locs hq1 hP hD hS => ?_)
  obtain ⟨A_t, I_t⟩ := uq1
  dsimp only at hq1
  have hP : va_P g.1 vwCl (([(h0, .inr (2, [.null, .null, .int 0, .int 0]))] ++ (wX7 g A_t I_t))) H := hP
  have hD : va_D A (([(h0, .inr (2, [.null, .null, .int 0, .int 0]))] ++ (wX7 g A_t I_t))) := hD
  refine va_putF (D := g.1) (ci := 2) (v := .ref q1) (ty := .object "RaisedPress$Table") (C := RX2) (T := TX2) (N := 4) hx hb hi_X2 (fun _ h => h) tyX2 tyX2_ok nmX2 hown hK.1 hP hD hS 0 rfl rfl 0 (by decide) (hts _ (uT _ _ u_160)) (fun _ h9 => h9) rfl hin rfl (by decide +kernel) rfl rfl (Nat.le_of_ble_eq_true rfl) dX2_init_12 (fun H locs hP hD hS => ?_)
  have hP : va_P g.1 vwCl (([(h0, .inr (2, [.ref q1, .null, .int 0, .int 0]))] ++ (wX7 g A_t I_t))) H := hP
  have hD : va_D A (([(h0, .inr (2, [.ref q1, .null, .int 0, .int 0]))] ++ (wX7 g A_t I_t))) := hD
  refine lv_aload_n hx hb dX2_init_15 rfl (lv_at hl 0 rfl) ?_
  refine va_new (ci := 5) (fs := [.null, .int 0, .null]) (C := RX5) (T := TX5) (N := 3) hx hb hi_X5 (fun _ h => h) tyX5 tyX5_ok hown (hts _ (uT _ _ u_161)) (hts _ (uT _ _ u_34)) (hts _ (uT _ _ u_35)) hK.1 hP hD hS hA rfl (fun j hj => by rcases (show j = 0 ∨ j = 1 ∨ j = 2 by omega) with rfl | rfl | rfl <;> rfl) (Nat.le_of_ble_eq_true rfl) (Nat.le_of_ble_eq_true rfl) dX2_init_16 (fun q2 H hP hD hS => ?_)
  have hP : va_P g.1 vwCl ((([(h0, .inr (2, [.ref q1, .null, .int 0, .int 0]))] ++ (wX7 g A_t I_t)) ++ [(q2, .inr (5, [.null, .int 0, .null]))])) H := hP
  have hD : va_D A ((([(h0, .inr (2, [.ref q1, .null, .int 0, .int 0]))] ++ (wX7 g A_t I_t)) ++ [(q2, .inr (5, [.null, .int 0, .null]))])) := hD
  refine lv_dup hx hb dX2_init_19 rfl ?_
  refine MkV.cn (host := "RaisedPress") (wc := (([(h0, .inr (2, [.ref q1, .null, .int 0, .int 0]))] ++ (wX7 g A_t I_t)) ++ [(q2, .inr (5, [.null, .int 0, .null]))])) (wr := ([(h0, .inr (2, [.ref q1, .null, .int 0, .int 0]))] ++ (wX7 g A_t I_t))) (w' := fun (u : ((Nat → Nat) × (Nat → Nat → Int32))) => ([(h0, .inr (2, [.ref q1, .null, .int 0, .int 0]))] ++ (wX7 g A_t I_t)) ++ (wX5 g (u.1) (u.2))) (kX5_init l g q2) fx (gU (uT _) u_100) rfl hdX5_init ⟨Nat.le_of_ble_eq_true rfl, Nat.le_of_ble_eq_true rfl⟩ rfl (nm_in_RX2_18) (hts _ (uT _ _ u_99)) (hts _ (uT _ _ u_35)) hK hP hD hS hA [List.length ([(h0, .inr (2, [.ref q1, .null, .int 0, .int 0]))] ++ (wX7 g A_t I_t))] (List.range (List.length ([(h0, .inr (2, [.ref q1, .null, .int 0, .int 0]))] ++ (wX7 g A_t I_t)))) (List.range (List.length ([(h0, .inr (2, [.ref q1, .null, .int 0, .int 0]))] ++ (wX7 g A_t I_t)) + 3)) (ls_C _ _) (ls_R _ _) (by rw [nd_iff]; exact List.pairwise_singleton _ _) (ls_nd _) (ls_dis _) (ls_nd _) (fun u => ls_B _ _ rfl) hl.1 (Nat.le_of_ble_eq_true rfl) dX2_init_20 ⟨Nat.le_of_ble_eq_true rfl, Nat.le_of_ble_eq_true rfl⟩ (fun uq2 H locs hq2 hP hD hS => ?_)
  obtain ⟨A_s, I_s⟩ := uq2
  dsimp only at hq2
  have hP : va_P g.1 vwCl ((([(h0, .inr (2, [.ref q1, .null, .int 0, .int 0]))] ++ (wX7 g A_t I_t)) ++ (wX5 g A_s I_s))) H := hP
  have hD : va_D A ((([(h0, .inr (2, [.ref q1, .null, .int 0, .int 0]))] ++ (wX7 g A_t I_t)) ++ (wX5 g A_s I_s))) := hD
  refine va_putF (D := g.1) (ci := 2) (v := .ref q2) (ty := .object "RaisedPress$Script") (C := RX2) (T := TX2) (N := 4) hx hb hi_X2 (fun _ h => h) tyX2 tyX2_ok nmX2 hown hK.1 hP hD hS 0 rfl rfl 1 (by decide) (hts _ (uT _ _ u_162)) (fun _ h9 => h9) rfl hin rfl (by decide +kernel) rfl rfl (Nat.le_of_ble_eq_true rfl) dX2_init_23 (fun H locs hP hD hS => ?_)
  have hP : va_P g.1 vwCl ((([(h0, .inr (2, [.ref q1, .ref q2, .int 0, .int 0]))] ++ (wX7 g A_t I_t)) ++ (wX5 g A_s I_s))) H := hP
  have hD : va_D A ((([(h0, .inr (2, [.ref q1, .ref q2, .int 0, .int 0]))] ++ (wX7 g A_t I_t)) ++ (wX5 g A_s I_s))) := hD
  refine lv_aload_n hx hb dX2_init_26 rfl (lv_at hl 0 rfl) ?_
  refine lv_iconst (v := 0) hx hb dX2_init_27 (by decide) ?_
  refine va_put (D := g.1) (ci := 2) (v := .int (0 : Int32)) (ty := .boolean) (C := RX2) (T := TX2) (N := 4) hx hb hi_X2 (fun _ h => h) tyX2 tyX2_ok nmX2 hown hK.1 hP hD hS 0 rfl rfl 2 (by decide) (hts _ (uT _ _ u_163)) (fun _ h9 => h9) rfl (by decide +kernel) rfl rfl (Nat.le_of_ble_eq_true rfl) dX2_init_28 (fun H locs hP hD hS => ?_)
  have hP : va_P g.1 vwCl ((([(h0, .inr (2, [.ref q1, .ref q2, .int (0 : Int32), .int 0]))] ++ (wX7 g A_t I_t)) ++ (wX5 g A_s I_s))) H := hP
  have hD : va_D A ((([(h0, .inr (2, [.ref q1, .ref q2, .int (0 : Int32), .int 0]))] ++ (wX7 g A_t I_t)) ++ (wX5 g A_s I_s))) := hD
  refine lv_aload_n hx hb dX2_init_31 rfl (lv_at hl 0 rfl) ?_
  refine lv_iconst (v := 0) hx hb dX2_init_32 (by decide) ?_
  refine va_put (D := g.1) (ci := 2) (v := .int (0 : Int32)) (ty := .int) (C := RX2) (T := TX2) (N := 4) hx hb hi_X2 (fun _ h => h) tyX2 tyX2_ok nmX2 hown hK.1 hP hD hS 0 rfl rfl 3 (by decide) (hts _ (uT _ _ u_164)) (fun _ h9 => h9) rfl (by decide +kernel) rfl rfl (Nat.le_of_ble_eq_true rfl) dX2_init_33 (fun H locs hP hD hS => ?_)
  have hP : va_P g.1 vwCl ((([(h0, .inr (2, [.ref q1, .ref q2, .int (0 : Int32), .int (0 : Int32)]))] ++ (wX7 g A_t I_t)) ++ (wX5 g A_s I_s))) H := hP
  have hD : va_D A ((([(h0, .inr (2, [.ref q1, .ref q2, .int (0 : Int32), .int (0 : Int32)]))] ++ (wX7 g A_t I_t)) ++ (wX5 g A_s I_s))) := hD
  refine hret 36 ls H _ _ _ ((uA (uA (fA [h0]) 100 q1) 101 q2), A_t, A_s, (fI [fV [0, 0, (0 : Int32), (0 : Int32)]]), I_t, I_s) dX2_init_36 (Nat.le_of_ble_eq_true rfl) (Nat.le_of_ble_eq_true rfl) hS hP hD ?_
  exact ⟨rfl, hq1.1.symm, hq2.1.symm, ⟨Or.inl rfl, hq1.2.1, hq2.2⟩⟩
