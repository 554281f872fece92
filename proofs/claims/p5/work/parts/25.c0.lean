set_option maxHeartbeats 4000000 in
set_option maxRecDepth 100000 in
theorem kX0_init (l : Launch) (g : gG) (h0 : Nat) : MkV l g yX0_init wsX0_init 1 1 72 [.ref h0] ([(h0, .inr (0, [.null, .int 0]))]) (fun (u : ((Nat → Nat) × (Nat → Nat → Int32))) => wX0 g (u.1) (u.2)) (fun (u : ((Nat → Nat) × (Nat → Nat → Int32))) => (u.1) 0 = h0 ∧ True) := by
  refine MkV.st (cc := cX0_init) (maxL := 1) (by decide) rfl (Nat.le_of_ble_eq_true rfl) (fun p e s m args below meth c A Q ls fx hin hK hP hD hA hS hl hret => ?_)
  have hx := fx.1
  have hb := fx.2.1
  have hml := fx.2.2.1
  have hown := fx.2.2.2.1
  have hts := fx.2.2.2.2
  have hl : lv_has ls 1 [(0, .ref h0)] := hl
  have hi_X0 : ∀ w ∈ wsX00, w.before args s = true := fun w h => hts w (uT _ w (u_wsX00 w h))
  refine lv_aload_n hx hb dX0_init_0 rfl (lv_at hl 0 rfl) ?_
  refine W.objInit hx hb hown (hts _ (uT _ _ u_146)) (hts _ (uT _ _ u_11)) (hts _ (uT _ _ u_12)) rfl (by rw [hml]; exact hl.1) rfl dX0_init_1 (Nat.le_of_ble_eq_true rfl) (Nat.le_of_ble_eq_true rfl) ?_
  refine W.eq (g2 := F0 m 4 ls []) rfl ?_
  refine lv_aload_n hx hb dX0_init_4 rfl (lv_at hl 0 rfl) ?_
  refine lv_bipush (v := 72) hx hb dX0_init_5 (by decide) ?_
  refine r_newa (atype := .int) hx hb (hts _ (uT _ _ u_13)) rfl (Or.inl rfl) hK hP hD hS hA 0 rfl (a0 := (72, .inl (fun _ => 0))) (fun _ => rfl) (by decide) rfl (Nat.le_of_ble_eq_true rfl) (Nat.le_of_ble_eq_true rfl) (Nat.le_of_ble_eq_true rfl) dX0_init_7 (fun q1 H hP hD hS => ?_)
  have hP : va_P g.1 vwCl (([(h0, .inr (0, [.null, .int 0]))] ++ [(q1, .inl (g.2.1, 72, .inl (fun _ => 0)))])) H := hP
  have hD : va_D A (([(h0, .inr (0, [.null, .int 0]))] ++ [(q1, .inl (g.2.1, 72, .inl (fun _ => 0)))])) := hD
  refine va_putF (D := g.1) (ci := 0) (v := .ref q1) (ty := .array .int) (C := RX0) (T := TX0) (N := 2) hx hb hi_X0 (fun _ h => h) tyX0 tyX0_ok nmX0 hown hK.1 hP hD hS 0 rfl rfl 0 (by decide) (hts _ (uT _ _ u_147)) (fun _ h9 => h9) rfl hin rfl (by decide +kernel) rfl rfl (Nat.le_of_ble_eq_true rfl) dX0_init_9 (fun H locs hP hD hS => ?_)
  have hP : va_P g.1 vwCl (([(h0, .inr (0, [.ref q1, .int 0]))] ++ [(q1, .inl (g.2.1, 72, .inl (fun _ => 0)))])) H := hP
  have hD : va_D A (([(h0, .inr (0, [.ref q1, .int 0]))] ++ [(q1, .inl (g.2.1, 72, .inl (fun _ => 0)))])) := hD
  refine lv_aload_n hx hb dX0_init_12 rfl (lv_at hl 0 rfl) ?_
  refine lv_ldc hx hb hown (hts _ (uT _ _ u_148)) dX0_init_13 ?_
  refine va_put (D := g.1) (ci := 0) (v := .int (1000000 : Int32)) (ty := .int) (C := RX0) (T := TX0) (N := 2) hx hb hi_X0 (fun _ h => h) tyX0 tyX0_ok nmX0 hown hK.1 hP hD hS 0 rfl rfl 1 (by decide) (hts _ (uT _ _ u_149)) (fun _ h9 => h9) rfl (by decide +kernel) rfl rfl (Nat.le_of_ble_eq_true rfl) dX0_init_15 (fun H locs hP hD hS => ?_)
  have hP : va_P g.1 vwCl (([(h0, .inr (0, [.ref q1, .int (1000000 : Int32)]))] ++ [(q1, .inl (g.2.1, 72, .inl (fun _ => 0)))])) H := hP
  have hD : va_D A (([(h0, .inr (0, [.ref q1, .int (1000000 : Int32)]))] ++ [(q1, .inl (g.2.1, 72, .inl (fun _ => 0)))])) := hD
  refine hret 18 ls H _ _ _ ((fA [h0, q1]), (fI [fV [0, (1000000 : Int32)], (fun _ => 0)])) dX0_init_18 (Nat.le_of_ble_eq_true rfl) (Nat.le_of_ble_eq_true rfl) hS hP hD ?_
  exact ⟨rfl, trivial⟩
set_option maxHeartbeats 4000000 in
set_option maxRecDepth 100000 in
theorem kX9_init (l : Launch) (g : gG) (h0 : Nat) : MkV l g yX9_init wsX9_init 1 1 1200 [.ref h0] ([(h0, .inr (9, [.null, .int 0, .int 0]))]) (fun (u : ((Nat → Nat) × (Nat → Nat → Int32))) => wX9 g (u.1) (u.2)) (fun (u : ((Nat → Nat) × (Nat → Nat → Int32))) => (u.1) 0 = h0 ∧ WI (u.2)) := by
  refine MkV.st (cc := cX9_init) (maxL := 1) (by decide) rfl (Nat.le_of_ble_eq_true rfl) (fun p e s m args below meth c A Q ls fx hin hK hP hD hA hS hl hret => ?_)
  have hx := fx.1
  have hb := fx.2.1
  have hml := fx.2.2.1
  have hown := fx.2.2.2.1
  have hts := fx.2.2.2.2
  have hl : lv_has ls 1 [(0, .ref h0)] := hl
  have hi_X9 : ∀ w ∈ wsX90, w.before args s = true := fun w h => hts w (uT _ w (u_wsX90 w h))
  refine lv_aload_n hx hb dX9_init_0 rfl (lv_at hl 0 rfl) ?_
  refine W.objInit hx hb hown (hts _ (uT _ _ u_152)) (hts _ (uT _ _ u_11)) (hts _ (uT _ _ u_12)) rfl (by rw [hml]; exact hl.1) rfl dX9_init_1 (Nat.le_of_ble_eq_true rfl) (Nat.le_of_ble_eq_true rfl) ?_
  refine W.eq (g2 := F0 m 4 ls []) rfl ?_
  refine lv_aload_n hx hb dX9_init_4 rfl (lv_at hl 0 rfl) ?_
  refine lv_sipush (v := 1200) hx hb dX9_init_5 (by decide) ?_
  refine r_newa (atype := .int) hx hb (hts _ (uT _ _ u_13)) rfl (Or.inl rfl) hK hP hD hS hA 0 rfl (a0 := (1200, .inl (fun _ => 0))) (fun _ => rfl) (by decide) rfl (Nat.le_of_ble_eq_true rfl) (Nat.le_of_ble_eq_true rfl) (Nat.le_of_ble_eq_true rfl) dX9_init_8 (fun q1 H hP hD hS => ?_)
  have hP : va_P g.1 vwCl (([(h0, .inr (9, [.null, .int 0, .int 0]))] ++ [(q1, .inl (g.2.1, 1200, .inl (fun _ => 0)))])) H := hP
  have hD : va_D A (([(h0, .inr (9, [.null, .int 0, .int 0]))] ++ [(q1, .inl (g.2.1, 1200, .inl (fun _ => 0)))])) := hD
  refine va_putF (D := g.1) (ci := 9) (v := .ref q1) (ty := .array .int) (C := RX9) (T := TX9) (N := 3) hx hb hi_X9 (fun _ h => h) tyX9 tyX9_ok nmX9 hown hK.1 hP hD hS 0 rfl rfl 0 (by decide) (hts _ (uT _ _ u_153)) (fun _ h9 => h9) rfl hin rfl (by decide +kernel) rfl rfl (Nat.le_of_ble_eq_true rfl) dX9_init_10 (fun H locs hP hD hS => ?_)
  have hP : va_P g.1 vwCl (([(h0, .inr (9, [.ref q1, .int 0, .int 0]))] ++ [(q1, .inl (g.2.1, 1200, .inl (fun _ => 0)))])) H := hP
  have hD : va_D A (([(h0, .inr (9, [.ref q1, .int 0, .int 0]))] ++ [(q1, .inl (g.2.1, 1200, .inl (fun _ => 0)))])) := hD
  refine lv_aload_n hx hb dX9_init_13 rfl (lv_at hl 0 rfl) ?_
  refine lv_iconst (v := 0) hx hb dX9_init_14 (by decide) ?_
  refine va_put (D := g.1) (ci := 9) (v := .int (0 : Int32)) (ty := .int) (C := RX9) (T := TX9) (N := 3) hx hb hi_X9 (fun _ h => h) tyX9 tyX9_ok nmX9 hown hK.1 hP hD hS 0 rfl rfl 1 (by decide) (hts _ (uT _ _ u_154)) (fun _ h9 => h9) rfl (by decide +kernel) rfl rfl (Nat.le_of_ble_eq_true rfl) dX9_init_15 (fun H locs hP hD hS => ?_)
  have hP : va_P g.1 vwCl (([(h0, .inr (9, [.ref q1, .int (0 : Int32), .int 0]))] ++ [(q1, .inl (g.2.1, 1200, .inl (fun _ => 0)))])) H := hP
  have hD : va_D A (([(h0, .inr (9, [.ref q1, .int (0 : Int32), .int 0]))] ++ [(q1, .inl (g.2.1, 1200, .inl (fun _ => 0)))])) := hD
  refine lv_aload_n hx hb dX9_init_18 rfl (lv_at hl 0 rfl) ?_
  refine lv_iconst (v := 0) hx hb dX9_init_19 (by decide) ?_
  refine va_put (D := g.1) (ci := 9) (v := .int (0 : Int32)) (ty := .int) (C := RX9) (T := TX9) (N := 3) hx hb hi_X9 (fun _ h => h) tyX9 tyX9_ok nmX9 hown hK.1 hP hD hS 0 rfl rfl 2 (by decide) (hts _ (uT _ _ u_155)) (fun _ h9 => h9) rfl (by decide +kernel) rfl rfl (Nat.le_of_ble_eq_true rfl) dX9_init_20 (fun H locs hP hD hS => ?_)
  have hP : va_P g.1 vwCl (([(h0, .inr (9, [.ref q1, .int (0 : Int32), .int (0 : Int32)]))] ++ [(q1, .inl (g.2.1, 1200, .inl (fun _ => 0)))])) H := hP
  have hD : va_D A (([(h0, .inr (9, [.ref q1, .int (0 : Int32), .int (0 : Int32)]))] ++ [(q1, .inl (g.2.1, 1200, .inl (fun _ => 0)))])) := hD
  refine hret 23 ls H _ _ _ ((fA [h0, q1]), (fI [fV [0, (0 : Int32), (0 : Int32)], (fun _ => 0)])) dX9_init_23 (Nat.le_of_ble_eq_true rfl) (Nat.le_of_ble_eq_true rfl) hS hP hD ?_
  exact ⟨rfl, (show (0 : Int) ≤ 0 ∧ (0 : Int) ≤ 0 from ⟨by decide, by decide⟩)⟩
set_option maxHeartbeats 4000000 in
set_option maxRecDepth 100000 in
theorem kX5_init (l : Launch) (g : gG) (h0 : Nat) : MkV l g yX5_init wsX5_init 1 2 601 [.ref h0] ([(h0, .inr (5, [.null, .int 0, .null]))]) (fun (u : ((Nat → Nat) × (Nat → Nat → Int32))) => wX5 g (u.1) (u.2)) (fun (u : ((Nat → Nat) × (Nat → Nat → Int32))) => (u.1) 0 = h0 ∧ SI (u.2)) := by
  refine MkV.st (cc := cX5_init) (maxL := 1) (by decide) rfl (Nat.le_of_ble_eq_true rfl) (fun p e s m args below meth c A Q ls fx hin hK hP hD hA hS hl hret => ?_)
  have hx := fx.1
  have hb := fx.2.1
  have hml := fx.2.2.1
  have hown := fx.2.2.2.1
  have hts := fx.2.2.2.2
  have hl : lv_has ls 1 [(0, .ref h0)] := hl
  have hi_X5 : ∀ w ∈ wsX50, w.before args s = true := fun w h => hts w (uT _ w (u_wsX50 w h))
  refine lv_aload_n hx hb dX5_init_0 rfl (lv_at hl 0 rfl) ?_
  refine W.objInit hx hb hown (hts _ (uT _ _ u_101)) (hts _ (uT _ _ u_11)) (hts _ (uT _ _ u_12)) rfl (by rw [hml]; exact hl.1) rfl dX5_init_1 (Nat.le_of_ble_eq_true rfl) (Nat.le_of_ble_eq_true rfl) ?_
  refine W.eq (g2 := F0 m 4 ls []) rfl ?_
  refine lv_aload_n hx hb dX5_init_4 rfl (lv_at hl 0 rfl) ?_
  refine lv_sipush (v := 300) hx hb dX5_init_5 (by decide) ?_
  refine r_newa (atype := .int) hx hb (hts _ (uT _ _ u_13)) rfl (Or.inl rfl) hK hP hD hS hA 0 rfl (a0 := (300, .inl (fun _ => 0))) (fun _ => rfl) (by decide) rfl (Nat.le_of_ble_eq_true rfl) (Nat.le_of_ble_eq_true rfl) (Nat.le_of_ble_eq_true rfl) dX5_init_8 (fun q1 H hP hD hS => ?_)
  have hP : va_P g.1 vwCl (([(h0, .inr (5, [.null, .int 0, .null]))] ++ [(q1, .inl (g.2.1, 300, .inl (fun _ => 0)))])) H := hP
  have hD : va_D A (([(h0, .inr (5, [.null, .int 0, .null]))] ++ [(q1, .inl (g.2.1, 300, .inl (fun _ => 0)))])) := hD
  refine va_putF (D := g.1) (ci := 5) (v := .ref q1) (ty := .array .int) (C := RX5) (T := TX5) (N := 3) hx hb hi_X5 (fun _ h => h) tyX5 tyX5_ok nmX5 hown hK.1 hP hD hS 0 rfl rfl 0 (by decide) (hts _ (uT _ _ u_102)) (fun _ h9 => h9) rfl hin rfl (by decide +kernel) rfl rfl (Nat.le_of_ble_eq_true rfl) dX5_init_10 (fun H locs hP hD hS => ?_)
  have hP : va_P g.1 vwCl (([(h0, .inr (5, [.ref q1, .int 0, .null]))] ++ [(q1, .inl (g.2.1, 300, .inl (fun _ => 0)))])) H := hP
  have hD : va_D A (([(h0, .inr (5, [.ref q1, .int 0, .null]))] ++ [(q1, .inl (g.2.1, 300, .inl (fun _ => 0)))])) := hD
  refine lv_aload_n hx hb dX5_init_13 rfl (lv_at hl 0 rfl) ?_
  refine lv_iconst (v := -1) hx hb dX5_init_14 (by decide) ?_
  refine va_put (D := g.1) (ci := 5) (v := .int (-1 : Int32)) (ty := .int) (C := RX5) (T := TX5) (N := 3) hx hb hi_X5 (fun _ h => h) tyX5 tyX5_ok nmX5 hown hK.1 hP hD hS 0 rfl rfl 1 (by decide) (hts _ (uT _ _ u_103)) (fun _ h9 => h9) rfl (by decide +kernel) rfl rfl (Nat.le_of_ble_eq_true rfl) dX5_init_15 (fun H locs hP hD hS => ?_)
  have hP : va_P g.1 vwCl (([(h0, .inr (5, [.ref q1, .int (-1 : Int32), .null]))] ++ [(q1, .inl (g.2.1, 300, .inl (fun _ => 0)))])) H := hP
  have hD : va_D A (([(h0, .inr (5, [.ref q1, .int (-1 : Int32), .null]))] ++ [(q1, .inl (g.2.1, 300, .inl (fun _ => 0)))])) := hD
  refine lv_aload_n hx hb dX5_init_18 rfl (lv_at hl 0 rfl) ?_
  refine lv_sipush (v := 301) hx hb dX5_init_19 (by decide) ?_
  refine r_newa (atype := .int) hx hb (hts _ (uT _ _ u_13)) rfl (Or.inl rfl) hK hP hD hS hA 0 rfl (a0 := (301, .inl (fun _ => 0))) (fun _ => rfl) (by decide) rfl (Nat.le_of_ble_eq_true rfl) (Nat.le_of_ble_eq_true rfl) (Nat.le_of_ble_eq_true rfl) dX5_init_22 (fun q2 H hP hD hS => ?_)
  have hP : va_P g.1 vwCl ((([(h0, .inr (5, [.ref q1, .int (-1 : Int32), .null]))] ++ [(q1, .inl (g.2.1, 300, .inl (fun _ => 0)))]) ++ [(q2, .inl (g.2.1, 301, .inl (fun _ => 0)))])) H := hP
  have hD : va_D A ((([(h0, .inr (5, [.ref q1, .int (-1 : Int32), .null]))] ++ [(q1, .inl (g.2.1, 300, .inl (fun _ => 0)))]) ++ [(q2, .inl (g.2.1, 301, .inl (fun _ => 0)))])) := hD
  refine va_putF (D := g.1) (ci := 5) (v := .ref q2) (ty := .array .int) (C := RX5) (T := TX5) (N := 3) hx hb hi_X5 (fun _ h => h) tyX5 tyX5_ok nmX5 hown hK.1 hP hD hS 0 rfl rfl 2 (by decide) (hts _ (uT _ _ u_104)) (fun _ h9 => h9) rfl hin rfl (by decide +kernel) rfl rfl (Nat.le_of_ble_eq_true rfl) dX5_init_24 (fun H locs hP hD hS => ?_)
  have hP : va_P g.1 vwCl ((([(h0, .inr (5, [.ref q1, .int (-1 : Int32), .ref q2]))] ++ [(q1, .inl (g.2.1, 300, .inl (fun _ => 0)))]) ++ [(q2, .inl (g.2.1, 301, .inl (fun _ => 0)))])) H := hP
  have hD : va_D A ((([(h0, .inr (5, [.ref q1, .int (-1 : Int32), .ref q2]))] ++ [(q1, .inl (g.2.1, 300, .inl (fun _ => 0)))]) ++ [(q2, .inl (g.2.1, 301, .inl (fun _ => 0)))])) := hD
  refine hret 27 ls H _ _ _ ((fA [h0, q1, q2]), (fI [fV [0, (-1 : Int32), 0], (fun _ => 0), (fun _ => 0)])) dX5_init_27 (Nat.le_of_ble_eq_true rfl) (Nat.le_of_ble_eq_true rfl) hS hP hD ?_
  exact ⟨rfl, (show -1 ≤ ((-1 : Int32)).toInt ∧ ((-1 : Int32)).toInt ≤ 300 from ⟨by decide, by decide⟩)⟩
set_option maxHeartbeats 4000000 in
set_option maxRecDepth 100000 in
theorem kX6_init (l : Launch) (g : gG) (h0 : Nat) : MkV l g yX6_init wsX6_init 1 3 2424 [.ref h0] ([(h0, .inr (6, [.null, .null, .null, .int 0, .int 0, .int 0, .int 0, .int 0, .int 0, .int 0]))]) (fun (u : ((Nat → Nat) × (Nat → Nat → Int32))) => wX6 g (u.1) (u.2)) (fun (u : ((Nat → Nat) × (Nat → Nat → Int32))) => (u.1) 0 = h0 ∧ EI (u.2)) := by
  refine MkV.st (cc := cX6_init) (maxL := 1) (by decide) rfl (Nat.le_of_ble_eq_true rfl) (fun p e s m args below meth c A Q ls fx hin hK hP hD hA hS hl hret => ?_)
  have hx := fx.1
  have hb := fx.2.1
  have hml := fx.2.2.1
  have hown := fx.2.2.2.1
  have hts := fx.2.2.2.2
  have hl : lv_has ls 1 [(0, .ref h0)] := hl
  have hi_X6 : ∀ w ∈ wsX60, w.before args s = true := fun w h => hts w (uT _ w (u_wsX60 w h))
  refine lv_aload_n hx hb dX6_init_0 rfl (lv_at hl 0 rfl) ?_
  refine W.objInit hx hb hown (hts _ (uT _ _ u_107)) (hts _ (uT _ _ u_11)) (hts _ (uT _ _ u_12)) rfl (by rw [hml]; exact hl.1) rfl dX6_init_1 (Nat.le_of_ble_eq_true rfl) (Nat.le_of_ble_eq_true rfl) ?_
  refine W.eq (g2 := F0 m 4 ls []) rfl ?_
  refine lv_aload_n hx hb dX6_init_4 rfl (lv_at hl 0 rfl) ?_
  refine lv_sipush (v := 1200) hx hb dX6_init_5 (by decide) ?_
  refine r_newa (atype := .int) hx hb (hts _ (uT _ _ u_13)) rfl (Or.inl rfl) hK hP hD hS hA 0 rfl (a0 := (1200, .inl (fun _ => 0))) (fun _ => rfl) (by decide) rfl (Nat.le_of_ble_eq_true rfl) (Nat.le_of_ble_eq_true rfl) (Nat.le_of_ble_eq_true rfl) dX6_init_8 (fun q1 H hP hD hS => ?_)
  have hP : va_P g.1 vwCl (([(h0, .inr (6, [.null, .null, .null, .int 0, .int 0, .int 0, .int 0, .int 0, .int 0, .int 0]))] ++ [(q1, .inl (g.2.1, 1200, .inl (fun _ => 0)))])) H := hP
  have hD : va_D A (([(h0, .inr (6, [.null, .null, .null, .int 0, .int 0, .int 0, .int 0, .int 0, .int 0, .int 0]))] ++ [(q1, .inl (g.2.1, 1200, .inl (fun _ => 0)))])) := hD
  refine va_putF (D := g.1) (ci := 6) (v := .ref q1) (ty := .array .int) (C := RX6) (T := TX6) (N := 10) hx hb hi_X6 (fun _ h => h) tyX6 tyX6_ok nmX6 hown hK.1 hP hD hS 0 rfl rfl 0 (by decide) (hts _ (uT _ _ u_108)) (fun _ h9 => h9) rfl hin rfl (by decide +kernel) rfl rfl (Nat.le_of_ble_eq_true rfl) dX6_init_10 (fun H locs hP hD hS => ?_)
  have hP : va_P g.1 vwCl (([(h0, .inr (6, [.ref q1, .null, .null, .int 0, .int 0, .int 0, .int 0, .int 0, .int 0, .int 0]))] ++ [(q1, .inl (g.2.1, 1200, .inl (fun _ => 0)))])) H := hP
  have hD : va_D A (([(h0, .inr (6, [.ref q1, .null, .null, .int 0, .int 0, .int 0, .int 0, .int 0, .int 0, .int 0]))] ++ [(q1, .inl (g.2.1, 1200, .inl (fun _ => 0)))])) := hD
  refine lv_aload_n hx hb dX6_init_13 rfl (lv_at hl 0 rfl) ?_
  refine lv_sipush (v := 1200) hx hb dX6_init_14 (by decide) ?_
  refine r_newa (atype := .int) hx hb (hts _ (uT _ _ u_13)) rfl (Or.inl rfl) hK hP hD hS hA 0 rfl (a0 := (1200, .inl (fun _ => 0))) (fun _ => rfl) (by decide) rfl (Nat.le_of_ble_eq_true rfl) (Nat.le_of_ble_eq_true rfl) (Nat.le_of_ble_eq_true rfl) dX6_init_17 (fun q2 H hP hD hS => ?_)
  have hP : va_P g.1 vwCl ((([(h0, .inr (6, [.ref q1, .null, .null, .int 0, .int 0, .int 0, .int 0, .int 0, .int 0, .int 0]))] ++ [(q1, .inl (g.2.1, 1200, .inl (fun _ => 0)))]) ++ [(q2, .inl (g.2.1, 1200, .inl (fun _ => 0)))])) H := hP
  have hD : va_D A ((([(h0, .inr (6, [.ref q1, .null, .null, .int 0, .int 0, .int 0, .int 0, .int 0, .int 0, .int 0]))] ++ [(q1, .inl (g.2.1, 1200, .inl (fun _ => 0)))]) ++ [(q2, .inl (g.2.1, 1200, .inl (fun _ => 0)))])) := hD
  refine va_putF (D := g.1) (ci := 6) (v := .ref q2) (ty := .array .int) (C := RX6) (T := TX6) (N := 10) hx hb hi_X6 (fun _ h => h) tyX6 tyX6_ok nmX6 hown hK.1 hP hD hS 0 rfl rfl 1 (by decide) (hts _ (uT _ _ u_109)) (fun _ h9 => h9) rfl hin rfl (by decide +kernel) rfl rfl (Nat.le_of_ble_eq_true rfl) dX6_init_19 (fun H locs hP hD hS => ?_)
  have hP : va_P g.1 vwCl ((([(h0, .inr (6, [.ref q1, .ref q2, .null, .int 0, .int 0, .int 0, .int 0, .int 0, .int 0, .int 0]))] ++ [(q1, .inl (g.2.1, 1200, .inl (fun _ => 0)))]) ++ [(q2, .inl (g.2.1, 1200, .inl (fun _ => 0)))])) H := hP
  have hD : va_D A ((([(h0, .inr (6, [.ref q1, .ref q2, .null, .int 0, .int 0, .int 0, .int 0, .int 0, .int 0, .int 0]))] ++ [(q1, .inl (g.2.1, 1200, .inl (fun _ => 0)))]) ++ [(q2, .inl (g.2.1, 1200, .inl (fun _ => 0)))])) := hD
  refine lv_aload_n hx hb dX6_init_22 rfl (lv_at hl 0 rfl) ?_
  refine lv_bipush (v := 24) hx hb dX6_init_23 (by decide) ?_
  refine r_newa (atype := .int) hx hb (hts _ (uT _ _ u_13)) rfl (Or.inl rfl) hK hP hD hS hA 0 rfl (a0 := (24, .inl (fun _ => 0))) (fun _ => rfl) (by decide) rfl (Nat.le_of_ble_eq_true rfl) (Nat.le_of_ble_eq_true rfl) (Nat.le_of_ble_eq_true rfl) dX6_init_25 (fun q3 H hP hD hS => ?_)
  have hP : va_P g.1 vwCl (((([(h0, .inr (6, [.ref q1, .ref q2, .null, .int 0, .int 0, .int 0, .int 0, .int 0, .int 0, .int 0]))] ++ [(q1, .inl (g.2.1, 1200, .inl (fun _ => 0)))]) ++ [(q2, .inl (g.2.1, 1200, .inl (fun _ => 0)))]) ++ [(q3, .inl (g.2.1, 24, .inl (fun _ => 0)))])) H := hP
  have hD : va_D A (((([(h0, .inr (6, [.ref q1, .ref q2, .null, .int 0, .int 0, .int 0, .int 0, .int 0, .int 0, .int 0]))] ++ [(q1, .inl (g.2.1, 1200, .inl (fun _ => 0)))]) ++ [(q2, .inl (g.2.1, 1200, .inl (fun _ => 0)))]) ++ [(q3, .inl (g.2.1, 24, .inl (fun _ => 0)))])) := hD
  refine va_putF (D := g.1) (ci := 6) (v := .ref q3) (ty := .array .int) (C := RX6) (T := TX6) (N := 10) hx hb hi_X6 (fun _ h => h) tyX6 tyX6_ok nmX6 hown hK.1 hP hD hS 0 rfl rfl 2 (by decide) (hts _ (uT _ _ u_110)) (fun _ h9 => h9) rfl hin rfl (by decide +kernel) rfl rfl (Nat.le_of_ble_eq_true rfl) dX6_init_27 (fun H locs hP hD hS => ?_)
  have hP : va_P g.1 vwCl (((([(h0, .inr (6, [.ref q1, .ref q2, .ref q3, .int 0, .int 0, .int 0, .int 0, .int 0, .int 0, .int 0]))] ++ [(q1, .inl (g.2.1, 1200, .inl (fun _ => 0)))]) ++ [(q2, .inl (g.2.1, 1200, .inl (fun _ => 0)))]) ++ [(q3, .inl (g.2.1, 24, .inl (fun _ => 0)))])) H := hP
  have hD : va_D A (((([(h0, .inr (6, [.ref q1, .ref q2, .ref q3, .int 0, .int 0, .int 0, .int 0, .int 0, .int 0, .int 0]))] ++ [(q1, .inl (g.2.1, 1200, .inl (fun _ => 0)))]) ++ [(q2, .inl (g.2.1, 1200, .inl (fun _ => 0)))]) ++ [(q3, .inl (g.2.1, 24, .inl (fun _ => 0)))])) := hD
  refine lv_aload_n hx hb dX6_init_30 rfl (lv_at hl 0 rfl) ?_
  refine lv_iconst (v := 0) hx hb dX6_init_31 (by decide) ?_
  refine va_put (D := g.1) (ci := 6) (v := .int (0 : Int32)) (ty := .int) (C := RX6) (T := TX6) (N := 10) hx hb hi_X6 (fun _ h => h) tyX6 tyX6_ok nmX6 hown hK.1 hP hD hS 0 rfl rfl 3 (by decide) (hts _ (uT _ _ u_111)) (fun _ h9 => h9) rfl (by decide +kernel) rfl rfl (Nat.le_of_ble_eq_true rfl) dX6_init_32 (fun H locs hP hD hS => ?_)
  have hP : va_P g.1 vwCl (((([(h0, .inr (6, [.ref q1, .ref q2, .ref q3, .int (0 : Int32), .int 0, .int 0, .int 0, .int 0, .int 0, .int 0]))] ++ [(q1, .inl (g.2.1, 1200, .inl (fun _ => 0)))]) ++ [(q2, .inl (g.2.1, 1200, .inl (fun _ => 0)))]) ++ [(q3, .inl (g.2.1, 24, .inl (fun _ => 0)))])) H := hP
  have hD : va_D A (((([(h0, .inr (6, [.ref q1, .ref q2, .ref q3, .int (0 : Int32), .int 0, .int 0, .int 0, .int 0, .int 0, .int 0]))] ++ [(q1, .inl (g.2.1, 1200, .inl (fun _ => 0)))]) ++ [(q2, .inl (g.2.1, 1200, .inl (fun _ => 0)))]) ++ [(q3, .inl (g.2.1, 24, .inl (fun _ => 0)))])) := hD
  refine lv_aload_n hx hb dX6_init_35 rfl (lv_at hl 0 rfl) ?_
  refine lv_iconst (v := 0) hx hb dX6_init_36 (by decide) ?_
  refine va_put (D := g.1) (ci := 6) (v := .int (0 : Int32)) (ty := .int) (C := RX6) (T := TX6) (N := 10) hx hb hi_X6 (fun _ h => h) tyX6 tyX6_ok nmX6 hown hK.1 hP hD hS 0 rfl rfl 4 (by decide) (hts _ (uT _ _ u_112)) (fun _ h9 => h9) rfl (by decide +kernel) rfl rfl (Nat.le_of_ble_eq_true rfl) dX6_init_37 (fun H locs hP hD hS => ?_)
  have hP : va_P g.1 vwCl (((([(h0, .inr (6, [.ref q1, .ref q2, .ref q3, .int (0 : Int32), .int (0 : Int32), .int 0, .int 0, .int 0, .int 0, .int 0]))] ++ [(q1, .inl (g.2.1, 1200, .inl (fun _ => 0)))]) ++ [(q2, .inl (g.2.1, 1200, .inl (fun _ => 0)))]) ++ [(q3, .inl (g.2.1, 24, .inl (fun _ => 0)))])) H := hP
  have hD : va_D A (((([(h0, .inr (6, [.ref q1, .ref q2, .ref q3, .int (0 : Int32), .int (0 : Int32), .int 0, .int 0, .int 0, .int 0, .int 0]))] ++ [(q1, .inl (g.2.1, 1200, .inl (fun _ => 0)))]) ++ [(q2, .inl (g.2.1, 1200, .inl (fun _ => 0)))]) ++ [(q3, .inl (g.2.1, 24, .inl (fun _ => 0)))])) := hD
  refine lv_aload_n hx hb dX6_init_40 rfl (lv_at hl 0 rfl) ?_
  refine lv_iconst (v := 0) hx hb dX6_init_41 (by decide) ?_
  refine va_put (D := g.1) (ci := 6) (v := .int (0 : Int32)) (ty := .int) (C := RX6) (T := TX6) (N := 10) hx hb hi_X6 (fun _ h => h) tyX6 tyX6_ok nmX6 hown hK.1 hP hD hS 0 rfl rfl 5 (by decide) (hts _ (uT _ _ u_113)) (fun _ h9 => h9) rfl (by decide +kernel) rfl rfl (Nat.le_of_ble_eq_true rfl) dX6_init_42 (fun H locs hP hD hS => ?_)
  have hP : va_P g.1 vwCl (((([(h0, .inr (6, [.ref q1, .ref q2, .ref q3, .int (0 : Int32), .int (0 : Int32), .int (0 : Int32), .int 0, .int 0, .int 0, .int 0]))] ++ [(q1, .inl (g.2.1, 1200, .inl (fun _ => 0)))]) ++ [(q2, .inl (g.2.1, 1200, .inl (fun _ => 0)))]) ++ [(q3, .inl (g.2.1, 24, .inl (fun _ => 0)))])) H := hP
  have hD : va_D A (((([(h0, .inr (6, [.ref q1, .ref q2, .ref q3, .int (0 : Int32), .int (0 : Int32), .int (0 : Int32), .int 0, .int 0, .int 0, .int 0]))] ++ [(q1, .inl (g.2.1, 1200, .inl (fun _ => 0)))]) ++ [(q2, .inl (g.2.1, 1200, .inl (fun _ => 0)))]) ++ [(q3, .inl (g.2.1, 24, .inl (fun _ => 0)))])) := hD
  refine lv_aload_n hx hb dX6_init_45 rfl (lv_at hl 0 rfl) ?_
  refine lv_iconst (v := 0) hx hb dX6_init_46 (by decide) ?_
  refine va_put (D := g.1) (ci := 6) (v := .int (0 : Int32)) (ty := .int) (C := RX6) (T := TX6) (N := 10) hx hb hi_X6 (fun _ h => h) tyX6 tyX6_ok nmX6 hown hK.1 hP hD hS 0 rfl rfl 6 (by decide) (hts _ (uT _ _ u_114)) (fun _ h9 => h9) rfl (by decide +kernel) rfl rfl (Nat.le_of_ble_eq_true rfl) dX6_init_47 (fun H locs hP hD hS => ?_)
  have hP : va_P g.1 vwCl (((([(h0, .inr (6, [.ref q1, .ref q2, .ref q3, .int (0 : Int32), .int (0 : Int32), .int (0 : Int32), .int (0 : Int32), .int 0, .int 0, .int 0]))] ++ [(q1, .inl (g.2.1, 1200, .inl (fun _ => 0)))]) ++ [(q2, .inl (g.2.1, 1200, .inl (fun _ => 0)))]) ++ [(q3, .inl (g.2.1, 24, .inl (fun _ => 0)))])) H := hP
  have hD : va_D A (((([(h0, .inr (6, [.ref q1, .ref q2, .ref q3, .int (0 : Int32), .int (0 : Int32), .int (0 : Int32), .int (0 : Int32), .int 0, .int 0, .int 0]))] ++ [(q1, .inl (g.2.1, 1200, .inl (fun _ => 0)))]) ++ [(q2, .inl (g.2.1, 1200, .inl (fun _ => 0)))]) ++ [(q3, .inl (g.2.1, 24, .inl (fun _ => 0)))])) := hD
  refine lv_aload_n hx hb dX6_init_50 rfl (lv_at hl 0 rfl) ?_
  refine lv_iconst (v := -1) hx hb dX6_init_51 (by decide) ?_
  refine va_put (D := g.1) (ci := 6) (v := .int (-1 : Int32)) (ty := .int) (C := RX6) (T := TX6) (N := 10) hx hb hi_X6 (fun _ h => h) tyX6 tyX6_ok nmX6 hown hK.1 hP hD hS 0 rfl rfl 7 (by decide) (hts _ (uT _ _ u_115)) (fun _ h9 => h9) rfl (by decide +kernel) rfl rfl (Nat.le_of_ble_eq_true rfl) dX6_init_52 (fun H locs hP hD hS => ?_)
  have hP : va_P g.1 vwCl (((([(h0, .inr (6, [.ref q1, .ref q2, .ref q3, .int (0 : Int32), .int (0 : Int32), .int (0 : Int32), .int (0 : Int32), .int (-1 : Int32), .int 0, .int 0]))] ++ [(q1, .inl (g.2.1, 1200, .inl (fun _ => 0)))]) ++ [(q2, .inl (g.2.1, 1200, .inl (fun _ => 0)))]) ++ [(q3, .inl (g.2.1, 24, .inl (fun _ => 0)))])) H := hP
  have hD : va_D A (((([(h0, .inr (6, [.ref q1, .ref q2, .ref q3, .int (0 : Int32), .int (0 : Int32), .int (0 : Int32), .int (0 : Int32), .int (-1 : Int32), .int 0, .int 0]))] ++ [(q1, .inl (g.2.1, 1200, .inl (fun _ => 0)))]) ++ [(q2, .inl (g.2.1, 1200, .inl (fun _ => 0)))]) ++ [(q3, .inl (g.2.1, 24, .inl (fun _ => 0)))])) := hD
  refine lv_aload_n hx hb dX6_init_55 rfl (lv_at hl 0 rfl) ?_
  refine lv_iconst (v := 0) hx hb dX6_init_56 (by decide) ?_
  refine va_put (D := g.1) (ci := 6) (v := .int (0 : Int32)) (ty := .int) (C := RX6) (T := TX6) (N := 10) hx hb hi_X6 (fun _ h => h) tyX6 tyX6_ok nmX6 hown hK.1 hP hD hS 0 rfl rfl 8 (by decide) (hts _ (uT _ _ u_116)) (fun _ h9 => h9) rfl (by decide +kernel) rfl rfl (Nat.le_of_ble_eq_true rfl) dX6_init_57 (fun H locs hP hD hS => ?_)
  have hP : va_P g.1 vwCl (((([(h0, .inr (6, [.ref q1, .ref q2, .ref q3, .int (0 : Int32), .int (0 : Int32), .int (0 : Int32), .int (0 : Int32), .int (-1 : Int32), .int (0 : Int32), .int 0]))] ++ [(q1, .inl (g.2.1, 1200, .inl (fun _ => 0)))]) ++ [(q2, .inl (g.2.1, 1200, .inl (fun _ => 0)))]) ++ [(q3, .inl (g.2.1, 24, .inl (fun _ => 0)))])) H := hP
  have hD : va_D A (((([(h0, .inr (6, [.ref q1, .ref q2, .ref q3, .int (0 : Int32), .int (0 : Int32), .int (0 : Int32), .int (0 : Int32), .int (-1 : Int32), .int (0 : Int32), .int 0]))] ++ [(q1, .inl (g.2.1, 1200, .inl (fun _ => 0)))]) ++ [(q2, .inl (g.2.1, 1200, .inl (fun _ => 0)))]) ++ [(q3, .inl (g.2.1, 24, .inl (fun _ => 0)))])) := hD
  refine lv_aload_n hx hb dX6_init_60 rfl (lv_at hl 0 rfl) ?_
  refine lv_iconst (v := 0) hx hb dX6_init_61 (by decide) ?_
  refine va_put (D := g.1) (ci := 6) (v := .int (0 : Int32)) (ty := .int) (C := RX6) (T := TX6) (N := 10) hx hb hi_X6 (fun _ h => h) tyX6 tyX6_ok nmX6 hown hK.1 hP hD hS 0 rfl rfl 9 (by decide) (hts _ (uT _ _ u_117)) (fun _ h9 => h9) rfl (by decide +kernel) rfl rfl (Nat.le_of_ble_eq_true rfl) dX6_init_62 (fun H locs hP hD hS => ?_)
  have hP : va_P g.1 vwCl (((([(h0, .inr (6, [.ref q1, .ref q2, .ref q3, .int (0 : Int32), .int (0 : Int32), .int (0 : Int32), .int (0 : Int32), .int (-1 : Int32), .int (0 : Int32), .int (0 : Int32)]))] ++ [(q1, .inl (g.2.1, 1200, .inl (fun _ => 0)))]) ++ [(q2, .inl (g.2.1, 1200, .inl (fun _ => 0)))]) ++ [(q3, .inl (g.2.1, 24, .inl (fun _ => 0)))])) H := hP
  have hD : va_D A (((([(h0, .inr (6, [.ref q1, .ref q2, .ref q3, .int (0 : Int32), .int (0 : Int32), .int (0 : Int32), .int (0 : Int32), .int (-1 : Int32), .int (0 : Int32), .int (0 : Int32)]))] ++ [(q1, .inl (g.2.1, 1200, .inl (fun _ => 0)))]) ++ [(q2, .inl (g.2.1, 1200, .inl (fun _ => 0)))]) ++ [(q3, .inl (g.2.1, 24, .inl (fun _ => 0)))])) := hD
  refine hret 65 ls H _ _ _ ((fA [h0, q1, q2, q3]), (fI [fV [0, 0, 0, (0 : Int32), (0 : Int32), (0 : Int32), (0 : Int32), (-1 : Int32), (0 : Int32), (0 : Int32)], (fun _ => 0), (fun _ => 0), (fun _ => 0)])) dX6_init_65 (Nat.le_of_ble_eq_true rfl) (Nat.le_of_ble_eq_true rfl) hS hP hD ?_
  exact ⟨rfl, (show 0 ≤ ((0 : Int32)).toInt ∧ ((0 : Int32)).toInt ≤ 1200 from ⟨by decide, by decide⟩)⟩
