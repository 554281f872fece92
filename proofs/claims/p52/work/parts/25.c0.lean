set_option maxHeartbeats 4000000 in
set_option maxRecDepth 100000 in
theorem kX0_init (l : Launch) (g : gG) (h0 : Nat) : MkV l g yX0_init wsX0_init 1 1 72 [.ref h0] ([(h0, .inr (0, [.null, .int 0]))]) (fun (u : ((Nat → Nat) × (Nat → Nat → Int32))) => wX0 g (u.1) (u.2)) (fun (u : ((Nat → Nat) × (Nat → Nat → Int32))) => (u.1) 0 = h0 ∧ True) := by
  refine MkV.st (cc := cX0_init) (maxL := 1) (by decide) rfl (Nat.le_of_ble_eq_true rfl) (fun p e s m args below meth c A Q ls fx hin hK hP hD hA hS hl hret => ?_)
  have hx := fx.1
  have hb := fx.2.1
  have hml := fx.2.2.1
  have hown := fx.2.2.2.1
  have hts := fx.2.2.2.2
  have hl : lv_has ls 1 [(0, .ref h0)] := hl
  have hi_X0 : ∀ w ∈ wsX00, w.before args s = true := fun w h => hts w (uT _ w (u_wsX00 w h))
  refine lv_aload_n hx hb dX0_init_0 rfl (lv_at hl 0 rfl) ?_
  refine W.objInit hx hb hown (hts _ (uT _ _ u_146)) (hts _ (uT _ _ u_11)) (hts _ (uT _ _ u_12)) rfl (by rw [hml]; exact hl.1) rfl dX0_init_1 (Nat.le_of_ble_eq_true rfl) (Nat.le_of_ble_eq_true rfl) ?_
  refine W.eq (g2 := F0 m 4 ls []) rfl ?_
  refine lv_aload_n hx hb dX0_init_4 rfl (lv_at hl 0 rfl) ?_
  refine lv_bipush (v := 72) hx hb dX0_init_5 (by decide) ?_
  refine r_newa (atype := .int) hx hb (hts _ (uT _ _ u_13)) rfl (Or.inl rfl) hK hP hD hS hA 0 rfl (a0 := (72, .inl (fun _ => 0))) (fun _ => rfl) (by decide) rfl (Nat.le_of_ble_eq_true rfl) (Nat.le_of_ble_eq_true rfl) (Nat.le_of_ble_eq_true rfl) dX0_init_7 (fun q1 H hP hD hS => ?_)
  have hP : va_P g.1 vwCl ([(h0, .inr (0, [.null, .int 0])), (q1, .inl (g.2.1, 72, .inl (fun _ => 0)))]) H := hP
  have hD : va_D A ([(h0, .inr (0, [.null, .int 0])), (q1, .inl (g.2.1, 72, .inl (fun _ => 0)))]) := hD
  refine va_putF (D := g.1) (ci := 0) (v := .ref q1) (ty := .array .int) (C := RX0) (T := TX0) (N := 2) hx hb hi_X0 (fun _ h => h) tyX0 tyX0_ok nmX0 hown hK.1 hP hD hS 0 rfl rfl 0 (by decide) (hts _ (uT _ _ u_147)) (fun _ h9 => h9) rfl hin rfl (by decide +kernel) rfl rfl (Nat.le_of_ble_eq_true rfl) dX0_init_9 (fun H locs hP hD hS => ?_)
  have hP : va_P g.1 vwCl ([(h0, .inr (0, [.ref q1, .int 0])), (q1, .inl (g.2.1, 72, .inl (fun _ => 0)))]) H := hP
  have hD : va_D A ([(h0, .inr (0, [.ref q1, .int 0])), (q1, .inl (g.2.1, 72, .inl (fun _ => 0)))]) := hD
  refine lv_aload_n hx hb dX0_init_12 rfl (lv_at hl 0 rfl) ?_
  refine lv_ldc hx hb hown (hts _ (uT _ _ u_148)) dX0_init_13 ?_
  refine va_put (D := g.1) (ci := 0) (v := .int (1000000 : Int32)) (ty := .int) (C := RX0) (T := TX0) (N := 2) hx hb hi_X0 (fun _ h => h) tyX0 tyX0_ok nmX0 hown hK.1 hP hD hS 0 rfl rfl 1 (by decide) (hts _ (uT _ _ u_149)) (fun _ h9 => h9) rfl (by decide +kernel) rfl rfl (Nat.le_of_ble_eq_true rfl) dX0_init_15 (fun H locs hP hD hS => ?_)
  have hP : va_P g.1 vwCl ([(h0, .inr (0, [.ref q1, .int (1000000 : Int32)])), (q1, .inl (g.2.1, 72, .inl (fun _ => 0)))]) H := hP
  have hD : va_D A ([(h0, .inr (0, [.ref q1, .int (1000000 : Int32)])), (q1, .inl (g.2.1, 72, .inl (fun _ => 0)))]) := hD
  refine hret 18 ls H _ _ _ ((fA [h0, q1]), (fI [fV [0, (1000000 : Int32)], (fun _ => 0)])) dX0_init_18 (Nat.le_of_ble_eq_true rfl) (Nat.le_of_ble_eq_true rfl) hS hP hD ?_
  exact ⟨rfl, trivial⟩
set_option maxHeartbeats 4000000 in
set_option maxRecDepth 100000 in
theorem kX9_init (l : Launch) (g : gG) (h0 : Nat) : MkV l g yX9_init wsX9_init 1 1 1200 [.ref h0] ([(h0, .inr (9, [.null, .int 0, .int 0]))]) (fun (u : ((Nat → Nat) × (Nat → Nat → Int32))) => wX9 g (u.1) (u.2)) (fun (u : ((Nat → Nat) × (Nat → Nat → Int32))) => (u.1) 0 = h0 ∧ WI (u.2)) := by
  refine MkV.st (cc := cX9_init) (maxL := 1) (by decide) rfl (Nat.le_of_ble_eq_true rfl) (fun p e s m args below meth c A Q ls fx hin hK hP hD hA hS hl hret => ?_)
  have hx := fx.1
  have hb := fx.2.1
  have hml := fx.2.2.1
  have hown := fx.2.2.2.1
  have hts := fx.2.2.2.2
  have hl : lv_has ls 1 [(0, .ref h0)] := hl
  have hi_X9 : ∀ w ∈ wsX90, w.before args s = true := fun w h => hts w (uT _ w (u_wsX90 w h))
  refine lv_aload_n hx hb dX9_init_0 rfl (lv_at hl 0 rfl) ?_
  refine W.objInit hx hb hown (hts _ (uT _ _ u_152)) (hts _ (uT _ _ u_11)) (hts _ (uT _ _ u_12)) rfl (by rw [hml]; exact hl.1) rfl dX9_init_1 (Nat.le_of_ble_eq_true rfl) (Nat.le_of_ble_eq_true rfl) ?_
  refine W.eq (g2 := F0 m 4 ls []) rfl ?_
  refine lv_aload_n hx hb dX9_init_4 rfl (lv_at hl 0 rfl) ?_
  refine lv_sipush (v := 1200) hx hb dX9_init_5 (by decide) ?_
  refine r_newa (atype := .int) hx hb (hts _ (uT _ _ u_13)) rfl (Or.inl rfl) hK hP hD hS hA 0 rfl (a0 := (1200, .inl (fun _ => 0))) (fun _ => rfl) (by decide) rfl (Nat.le_of_ble_eq_true rfl) (Nat.le_of_ble_eq_true rfl) (Nat.le_of_ble_eq_true rfl) dX9_init_8 (fun q1 H hP hD hS => ?_)
  have hP : va_P g.1 vwCl ([(h0, .inr (9, [.null, .int 0, .int 0])), (q1, .inl (g.2.1, 1200, .inl (fun _ => 0)))]) H := hP
  have hD : va_D A ([(h0, .inr (9, [.null, .int 0, .int 0])), (q1, .inl (g.2.1, 1200, .inl (fun _ => 0)))]) := hD
  refine va_putF (D := g.1) (ci := 9) (v := .ref q1) (ty := .array .int) (C := RX9) (T := TX9) (N := 3) hx hb hi_X9 (fun _ h => h) tyX9 tyX9_ok nmX9 hown hK.1 hP hD hS 0 rfl rfl 0 (by decide) (hts _ (uT _ _ u_153)) (fun _ h9 => h9) rfl hin rfl (by decide +kernel) rfl rfl (Nat.le_of_ble_eq_true rfl) dX9_init_10 (fun H locs hP hD hS => ?_)
  have hP : va_P g.1 vwCl ([(h0, .inr (9, [.ref q1, .int 0, .int 0])), (q1, .inl (g.2.1, 1200, .inl (fun _ => 0)))]) H := hP
  have hD : va_D A ([(h0, .inr (9, [.ref q1, .int 0, .int 0])), (q1, .inl (g.2.1, 1200, .inl (fun _ => 0)))]) := hD
  refine lv_aload_n hx hb dX9_init_13 rfl (lv_at hl 0 rfl) ?_
  refine lv_iconst (v := 0) hx hb dX9_init_14 (by decide) ?_
  refine va_put (D := g.1) (ci := 9) (v := .int (0 : Int32)) (ty := .int) (C := RX9) (T := TX9) (N := 3) hx hb hi_X9 (fun _ h => h) tyX9 tyX9_ok nmX9 hown hK.1 hP hD hS 0 rfl rfl 1 (by decide) (hts _ (uT _ _ u_154)) (fun _ h9 => h9) rfl (by decide +kernel) rfl rfl (Nat.le_of_ble_eq_true rfl) dX9_init_15 (fun H locs hP hD hS => ?_)
  have hP : va_P g.1 vwCl ([(h0, .inr (9, [.ref q1, .int (0 : Int32), .int 0])), (q1, .inl (g.2.1, 1200, .inl (fun _ => 0)))]) H := hP
  have hD : va_D A ([(h0, .inr (9, [.ref q1, .int (0 : Int32), .int 0])), (q1, .inl (g.2.1, 1200, .inl (fun _ => 0)))]) := hD
  refine lv_aload_n hx hb dX9_init_18 rfl (lv_at hl 0 rfl) ?_
  refine lv_iconst (v := 0) hx hb dX9_init_19 (by decide) ?_
  refine va_put (D := g.1) (ci := 9) (v := .int (0 : Int32)) (ty := .int) (C := RX9) (T := TX9) (N := 3) hx hb hi_X9 (fun _ h => h) tyX9 tyX9_ok nmX9 hown hK.1 hP hD hS 0 rfl rfl 2 (by decide) (hts _ (uT _ _ u_155)) (fun _ h9 => h9) rfl (by decide +kernel) rfl rfl (Nat.le_of_ble_eq_true rfl) dX9_init_20 (fun H locs hP hD hS => ?_)
  have hP : va_P g.1 vwCl ([(h0, .inr (9, [.ref q1, .int (0 : Int32), .int (0 : Int32)])), (q1, .inl (g.2.1, 1200, .inl (fun _ => 0)))]) H := hP
  have hD : va_D A ([(h0, .inr (9, [.ref q1, .int (0 : Int32), .int (0 : Int32)])), (q1, .inl (g.2.1, 1200, .inl (fun _ => 0)))]) := hD
  refine hret 23 ls H _ _ _ ((fA [h0, q1]), (fI [fV [0, (0 : Int32), (0 : Int32)], (fun _ => 0)])) dX9_init_23 (Nat.le_of_ble_eq_true rfl) (Nat.le_of_ble_eq_true rfl) hS hP hD ?_
  exact ⟨rfl, (show 0 ≤ ((0 : Int32)).toInt ∧ ((0 : Int32)).toInt ≤ 1200 from ⟨by decide, by decide⟩)⟩
set_option maxHeartbeats 4000000 in
set_option maxRecDepth 100000 in
theorem kX5_init (l : Launch) (g : gG) (h0 : Nat) : MkV l g yX5_init wsX5_init 1 2 601 [.ref h0] ([(h0, .inr (5, [.null, .int 0, .null]))]) (fun (u : ((Nat → Nat) × (Nat → Nat → Int32))) => wX5 g (u.1) (u.2)) (fun (u : ((Nat → Nat) × (Nat → Nat → Int32))) => (u.1) 0 = h0 ∧ SI (u.2)) := by
  refine MkV.st (cc := cX5_init) (maxL := 1) (by decide) rfl (Nat.le_of_ble_eq_true rfl) (fun p e s m args below meth c A Q ls fx hin hK hP hD hA hS hl hret => ?_)
  have hx := fx.1
  have hb := fx.2.1
  have hml := fx.2.2.1
  have hown := fx.2.2.2.1
  have hts := fx.2.2.2.2
  have hl : lv_has ls 1 [(0, .ref h0)] := hl
  have hi_X5 : ∀ w ∈ wsX50, w.before args s = true := fun w h => hts w (uT _ w (u_wsX50 w h))
  refine lv_aload_n hx hb dX5_init_0 rfl (lv_at hl 0 rfl) ?_
  refine W.objInit hx hb hown (hts _ (uT _ _ u_101)) (hts _ (uT _ _ u_11)) (hts _ (uT _ _ u_12)) rfl (by rw [hml]; exact hl.1) rfl dX5_init_1 (Nat.le_of_ble_eq_true rfl) (Nat.le_of_ble_eq_true rfl) ?_
  refine W.eq (g2 := F0 m 4 ls []) rfl ?_
  refine lv_aload_n hx hb dX5_init_4 rfl (lv_at hl 0 rfl) ?_
  refine lv_sipush (v := 300) hx hb dX5_init_5 (by decide) ?_
  refine r_newa (atype := .int) hx hb (hts _ (uT _ _ u_13)) rfl (Or.inl rfl) hK hP hD hS hA 0 rfl (a0 := (300, .inl (fun _ => 0))) (fun _ => rfl) (by decide) rfl (Nat.le_of_ble_eq_true rfl) (Nat.le_of_ble_eq_true rfl) (Nat.le_of_ble_eq_true rfl) dX5_init_8 (fun q1 H hP hD hS => ?_)
  have hP : va_P g.1 vwCl ([(h0, .inr (5, [.null, .int 0, .null])), (q1, .inl (g.2.1, 300, .inl (fun _ => 0)))]) H := hP
  have hD : va_D A ([(h0, .inr (5, [.null, .int 0, .null])), (q1, .inl (g.2.1, 300, .inl (fun _ => 0)))]) := hD
  refine va_putF (D := g.1) (ci := 5) (v := .ref q1) (ty := .array .int) (C := RX5) (T := TX5) (N := 3) hx hb hi_X5 (fun _ h => h) tyX5 tyX5_ok nmX5 hown hK.1 hP hD hS 0 rfl rfl 0 (by decide) (hts _ (uT _ _ u_102)) (fun _ h9 => h9) rfl hin rfl (by decide +kernel) rfl rfl (Nat.le_of_ble_eq_true rfl) dX5_init_10 (fun H locs hP hD hS => ?_)
  have hP : va_P g.1 vwCl ([(h0, .inr (5, [.ref q1, .int 0, .null])), (q1, .inl (g.2.1, 300, .inl (fun _ => 0)))]) H := hP
  have hD : va_D A ([(h0, .inr (5, [.ref q1, .int 0, .null])), (q1, .inl (g.2.1, 300, .inl (fun _ => 0)))]) := hD
  refine lv_aload_n hx hb dX5_init_13 rfl (lv_at hl 0 rfl) ?_
  refine lv_iconst (v := -1) hx hb dX5_init_14 (by decide) ?_
  refine va_put (D := g.1) (ci := 5) (v := .int (-1 : Int32)) (ty := .int) (C := RX5) (T := TX5) (N := 3) hx hb hi_X5 (fun _ h => h) tyX5 tyX5_ok nmX5 hown hK.1 hP hD hS 0 rfl rfl 1 (by decide) (hts _ (uT _ _ u_103)) (fun _ h9 => h9) rfl (by decide +kernel) rfl rfl (Nat.le_of_ble_eq_true rfl) dX5_init_15 (fun H locs hP hD hS => ?_)
  have hP : va_P g.1 vwCl ([(h0, .inr (5, [.ref q1, .int (-1 : Int32), .null])), (q1, .inl (g.2.1, 300, .inl (fun _ => 0)))]) H := hP
  have hD : va_D A ([(h0, .inr (5, [.ref q1, .int (-1 : Int32), .null])), (q1, .inl (g.2.1, 300, .inl (fun _ => 0)))]) := hD
  refine lv_aload_n hx hb dX5_init_18 rfl (lv_at hl 0 rfl) ?_
  refine lv_sipush (v := 301) hx hb dX5_init_19 (by decide) ?_
  refine r_newa (atype := .int) hx hb (hts _ (uT _ _ u_13)) rfl (Or.inl rfl) hK hP hD hS hA 0 rfl (a0 := (301, .inl (fun _ => 0))) (fun _ => rfl) (by decide) rfl (Nat.le_of_ble_eq_true rfl) (Nat.le_of_ble_eq_true rfl) (Nat.le_of_ble_eq_true rfl) dX5_init_22 (fun q2 H hP hD hS => ?_)
  have hP : va_P g.1 vwCl ([(h0, .inr (5, [.ref q1, .int (-1 : Int32), .null])), (q1, .inl (g.2.1, 300, .inl (fun _ => 0))), (q2, .inl (g.2.1, 301, .inl (fun _ => 0)))]) H := hP
  have hD : va_D A ([(h0, .inr (5, [.ref q1, .int (-1 : Int32), .null])), (q1, .inl (g.2.1, 300, .inl (fun _ => 0))), (q2, .inl (g.2.1, 301, .inl (fun _ => 0)))]) := hD
  refine va_putF (D := g.1) (ci := 5) (v := .ref q2) (ty := .array .int) (C := RX5) (T := TX5) (N := 3) hx hb hi_X5 (fun _ h => h) tyX5 tyX5_ok nmX5 hown hK.1 hP hD hS 0 rfl rfl 2 (by decide) (hts _ (uT _ _ u_104)) (fun _ h9 => h9) rfl hin rfl (by decide +kernel) rfl rfl (Nat.le_of_ble_eq_true rfl) dX5_init_24 (fun H locs hP hD hS => ?_)
  have hP : va_P g.1 vwCl ([(h0, .inr (5, [.ref q1, .int (-1 : Int32), .ref q2])), (q1, .inl (g.2.1, 300, .inl (fun _ => 0))), (q2, .inl (g.2.1, 301, .inl (fun _ => 0)))]) H := hP
  have hD : va_D A ([(h0, .inr (5, [.ref q1, .int (-1 : Int32), .ref q2])), (q1, .inl (g.2.1, 300, .inl (fun _ => 0))), (q2, .inl (g.2.1, 301, .inl (fun _ => 0)))]) := hD
  refine hret 27 ls H _ _ _ ((fA [h0, q1, q2]), (fI [fV [0, (-1 : Int32), 0], (fun _ => 0), (fun _ => 0)])) dX5_init_27 (Nat.le_of_ble_eq_true rfl) (Nat.le_of_ble_eq_true rfl) hS hP hD ?_
  exact ⟨rfl, (show -1 ≤ ((-1 : Int32)).toInt ∧ ((-1 : Int32)).toInt ≤ 300 from ⟨by decide, by decide⟩)⟩
set_option maxHeartbeats 4000000 in
set_option maxRecDepth 100000 in
theorem kX6_init (l : Launch) (g : gG) (h0 : Nat) : MkV l g yX6_init wsX6_init 1 3 2424 [.ref h0] ([(h0, .inr (6, [.null, .null, .null, .int 0, .int 0, .int 0, .int 0, .int 0, .int 0, .int 0]))]) (fun (u : ((Nat → Nat) × (Nat → Nat → Int32))) => wX6 g (u.1) (u.2)) (fun (u : ((Nat → Nat) × (Nat → Nat → Int32))) => (u.1) 0 = h0 ∧ EI (u.2)) := by
  refine MkV.st (cc := cX6_init) (maxL := 1) (by decide) rfl (Nat.le_of_ble_eq_true rfl) (fun p e s m args below meth c A Q ls fx hin hK hP hD hA hS hl hret => ?_)
  have hx := fx.1
  have hb := fx.2.1
  have hml := fx.2.2.1
  have hown := fx.2.2.2.1
  have hts := fx.2.2.2.2
  have hl : lv_has ls 1 [(0, .ref h0)] := hl
  have hi_X6 : ∀ w ∈ wsX60, w.before args s = true := fun w h => hts w (uT _ w (u_wsX60 w h))
  refine lv_aload_n hx hb dX6_init_0 rfl (lv_at hl 0 rfl) ?_
  refine W.objInit hx hb hown (hts _ (uT _ _ u_107)) (hts _ (uT _ _ u_11)) (hts _ (uT _ _ u_12)) rfl (by rw [hml]; exact hl.1) rfl dX6_init_1 (Nat.le_of_ble_eq_true rfl) (Nat.le_of_ble_eq_true rfl) ?_
  refine W.eq (g2 := F0 m 4 ls []) rfl ?_
  refine lv_aload_n hx hb dX6_init_4 rfl (lv_at hl 0 rfl) ?_
  refine lv_sipush (v := 1200) hx hb dX6_init_5 (by decide) ?_
  refine r_newa (atype := .int) hx hb (hts _ (uT _ _ u_13)) rfl (Or.inl rfl) hK hP hD hS hA 0 rfl (a0 := (1200, .inl (fun _ => 0))) (fun _ => rfl) (by decide) rfl (Nat.le_of_ble_eq_true rfl) (Nat.le_of_ble_eq_true rfl) (Nat.le_of_ble_eq_true rfl) dX6_init_8 (fun q1 H hP hD hS => ?_)
  have hP : va_P g.1 vwCl ([(h0, .inr (6, [.null, .null, .null, .int 0, .int 0, .int 0, .int 0, .int 0, .int 0, .int 0])), (q1, .inl (g.2.1, 1200, .inl (fun _ => 0)))]) H := hP
  have hD : va_D A ([(h0, .inr (6, [.null, .null, .null, .int 0, .int 0, .int 0, .int 0, .int 0, .int 0, .int 0])), (q1, .inl (g.2.1, 1200, .inl (fun _ => 0)))]) := hD
  refine va_putF (D := g.1) (ci := 6) (v := .ref q1) (ty := .array .int) (C := RX6) (T := TX6) (N := 10) hx hb hi_X6 (fun _ h => h) tyX6 tyX6_ok nmX6 hown hK.1 hP hD hS 0 rfl rfl 0 (by decide) (hts _ (uT _ _ u_108)) (fun _ h9 => h9) rfl hin rfl (by decide +kernel) rfl rfl (Nat.le_of_ble_eq_true rfl) dX6_init_10 (fun H locs hP hD hS => ?_)
  have hP : va_P g.1 vwCl ([(h0, .inr (6, [.ref q1, .null, .null, .int 0, .int 0, .int 0, .int 0, .int 0, .int 0, .int 0])), (q1, .inl (g.2.1, 1200, .inl (fun _ => 0)))]) H := hP
  have hD : va_D A ([(h0, .inr (6, [.ref q1, .null, .null, .int 0, .int 0, .int 0, .int 0, .int 0, .int 0, .int 0])), (q1, .inl (g.2.1, 1200, .inl (fun _ => 0)))]) := hD
  refine lv_aload_n hx hb dX6_init_13 rfl (lv_at hl 0 rfl) ?_
  refine lv_sipush (v := 1200) hx hb dX6_init_14 (by decide) ?_
  refine r_newa (atype := .int) hx hb (hts _ (uT _ _ u_13)) rfl (Or.inl rfl) hK hP hD hS hA 0 rfl (a0 := (1200, .inl (fun _ => 0))) (fun _ => rfl) (by decide) rfl (Nat.le_of_ble_eq_true rfl) (Nat.le_of_ble_eq_true rfl) (Nat.le_of_ble_eq_true rfl) dX6_init_17 (fun q2 H hP hD hS => ?_)
  have hP : va_P g.1 vwCl ([(h0, .inr (6, [.ref q1, .null, .null, .int 0, .int 0, .int 0, .int 0, .int 0, .int 0, .int 0])), (q1, .inl (g.2.1, 1200, .inl (fun _ => 0))), (q2, .inl (g.2.1, 1200, .inl (fun _ => 0)))]) H := hP
  have hD : va_D A ([(h0, .inr (6, [.ref q1, .null, .null, .int 0, .int 0, .int 0, .int 0, .int 0, .int 0, .int 0])), (q1, .inl (g.2.1, 1200, .inl (fun _ => 0))), (q2, .inl (g.2.1, 1200, .inl (fun _ => 0)))]) := hD
  refine va_putF (D := g.1) (ci := 6) (v := .ref q2) (ty := .array .int) (C := RX6) (T := TX6) (N := 10) hx hb hi_X6 (fun _ h => h) tyX6 tyX6_ok nmX6 hown hK.1 hP hD hS 0 rfl rfl 1 (by decide) (hts _ (uT _ _ u_109)) (fun _ h9 => h9) rfl hin rfl (by decide +kernel) rfl rfl (Nat.le_of_ble_eq_true rfl) dX6_init_19 (fun H locs hP hD hS => ?_)
  have hP : va_P g.1 vwCl ([(h0, .inr (6, [.ref q1, .ref q2, .null, .int 0, .int 0, .int 0, .int 0, .int 0, .int 0, .int 0])), (q1, .inl (g.2.1, 1200, .inl (fun _ => 0))), (q2, .inl (g.2.1, 1200, .inl (fun _ => 0)))]) H := hP
  have hD : va_D A ([(h0, .inr (6, [.ref q1, .ref q2, .null, .int 0, .int 0, .int 0, .int 0, .int 0, .int 0, .int 0])), (q1, .inl (g.2.1, 1200, .inl (fun _ => 0))), (q2, .inl (g.2.1, 1200, .inl (fun _ => 0)))]) := hD
  refine lv_aload_n hx hb dX6_init_22 rfl (lv_at hl 0 rfl) ?_
  refine lv_bipush (v := 24) hx hb dX6_init_23 (by decide) ?_
  refine r_newa (atype := .int) hx hb (hts _ (uT _ _ u_13)) rfl (Or.inl rfl) hK hP hD hS hA 0 rfl (a0 := (24, .inl (fun _ => 0))) (fun _ => rfl) (by decide) rfl (Nat.le_of_ble_eq_true rfl) (Nat.le_of_ble_eq_true rfl) (Nat.le_of_ble_eq_true rfl) dX6_init_25 (fun q3 H hP hD hS => ?_)
  have hP : va_P g.1 vwCl ([(h0, .inr (6, [.ref q1, .ref q2, .null, .int 0, .int 0, .int 0, .int 0, .int 0, .int 0, .int 0])), (q1, .inl (g.2.1, 1200, .inl (fun _ => 0))), (q2, .inl (g.2.1, 1200, .inl (fun _ => 0))), (q3, .inl (g.2.1, 24, .inl (fun _ => 0)))]) H := hP
  have hD : va_D A ([(h0, .inr (6, [.ref q1, .ref q2, .null, .int 0, .int 0, .int 0, .int 0, .int 0, .int 0, .int 0])), (q1, .inl (g.2.1, 1200, .inl (fun _ => 0))), (q2, .inl (g.2.1, 1200, .inl (fun _ => 0))), (q3, .inl (g.2.1, 24, .inl (fun _ => 0)))]) := hD
  refine va_putF (D := g.1) (ci := 6) (v := .ref q3) (ty := .array .int) (C := RX6) (T := TX6) (N := 10) hx hb hi_X6 (fun _ h => h) tyX6 tyX6_ok nmX6 hown hK.1 hP hD hS 0 rfl rfl 2 (by decide) (hts _ (uT _ _ u_110)) (fun _ h9 => h9) rfl hin rfl (by decide +kernel) rfl rfl (Nat.le_of_ble_eq_true rfl) dX6_init_27 (fun H locs hP hD hS => ?_)
  have hP : va_P g.1 vwCl ([(h0, .inr (6, [.ref q1, .ref q2, .ref q3, .int 0, .int 0, .int 0, .int 0, .int 0, .int 0, .int 0])), (q1, .inl (g.2.1, 1200, .inl (fun _ => 0))), (q2, .inl (g.2.1, 1200, .inl (fun _ => 0))), (q3, .inl (g.2.1, 24, .inl (fun _ => 0)))]) H := hP
  have hD : va_D A ([(h0, .inr (6, [.ref q1, .ref q2, .ref q3, .int 0, .int 0, .int 0, .int 0, .int 0, .int 0, .int 0])), (q1, .inl (g.2.1, 1200, .inl (fun _ => 0))), (q2, .inl (g.2.1, 1200, .inl (fun _ => 0))), (q3, .inl (g.2.1, 24, .inl (fun _ => 0)))]) := hD
  refine lv_aload_n hx hb dX6_init_30 rfl (lv_at hl 0 rfl) ?_
  refine lv_iconst (v := 0) hx hb dX6_init_31 (by decide) ?_
  refine va_put (D := g.1) (ci := 6) (v := .int (0 : Int32)) (ty := .int) (C := RX6) (T := TX6) (N := 10) hx hb hi_X6 (fun _ h => h) tyX6 tyX6_ok nmX6 hown hK.1 hP hD hS 0 rfl rfl 3 (by decide) (hts _ (uT _ _ u_111)) (fun _ h9 => h9) rfl (by decide +kernel) rfl rfl (Nat.le_of_ble_eq_true rfl) dX6_init_32 (fun H locs hP hD hS => ?_)
  have hP : va_P g.1 vwCl ([(h0, .inr (6, [.ref q1, .ref q2, .ref q3, .int (0 : Int32), .int 0, .int 0, .int 0, .int 0, .int 0, .int 0])), (q1, .inl (g.2.1, 1200, .inl (fun _ => 0))), (q2, .inl (g.2.1, 1200, .inl (fun _ => 0))), (q3, .inl (g.2.1, 24, .inl (fun _ => 0)))]) H := hP
  have hD : va_D A ([(h0, .inr (6, [.ref q1, .ref q2, .ref q3, .int (0 : Int32), .int 0, .int 0, .int 0, .int 0, .int 0, .int 0])), (q1, .inl (g.2.1, 1200, .inl (fun _ => 0))), (q2, .inl (g.2.1, 1200, .inl (fun _ => 0))), (q3, .inl (g.2.1, 24, .inl (fun _ => 0)))]) := hD
  refine lv_aload_n hx hb dX6_init_35 rfl (lv_at hl 0 rfl) ?_
  refine lv_iconst (v := 0) hx hb dX6_init_36 (by decide) ?_
  refine va_put (D := g.1) (ci := 6) (v := .int (0 : Int32)) (ty := .int) (C := RX6) (T := TX6) (N := 10) hx hb hi_X6 (fun _ h => h) tyX6 tyX6_ok nmX6 hown hK.1 hP hD hS 0 rfl rfl 4 (by decide) (hts _ (uT _ _ u_112)) (fun _ h9 => h9) rfl (by decide +kernel) rfl rfl (Nat.le_of_ble_eq_true rfl) dX6_init_37 (fun H locs hP hD hS => ?_)
  have hP : va_P g.1 vwCl ([(h0, .inr (6, [.ref q1, .ref q2, .ref q3, .int (0 : Int32), .int (0 : Int32), .int 0, .int 0, .int 0, .int 0, .int 0])), (q1, .inl (g.2.1, 1200, .inl (fun _ => 0))), (q2, .inl (g.2.1, 1200, .inl (fun _ => 0))), (q3, .inl (g.2.1, 24, .inl (fun _ => 0)))]) H := hP
  have hD : va_D A ([(h0, .inr (6, [.ref q1, .ref q2, .ref q3, .int (0 : Int32), .int (0 : Int32), .int 0, .int 0, .int 0, .int 0, .int 0])), (q1, .inl (g.2.1, 1200, .inl (fun _ => 0))), (q2, .inl (g.2.1, 1200, .inl (fun _ => 0))), (q3, .inl (g.2.1, 24, .inl (fun _ => 0)))]) := hD
  refine lv_aload_n hx hb dX6_init_40 rfl (lv_at hl 0 rfl) ?_
  refine lv_iconst (v := 0) hx hb dX6_init_41 (by decide) ?_
  refine va_put (D := g.1) (ci := 6) (v := .int (0 : Int32)) (ty := .int) (C := RX6) (T := TX6) (N := 10) hx hb hi_X6 (fun _ h => h) tyX6 tyX6_ok nmX6 hown hK.1 hP hD hS 0 rfl rfl 5 (by decide) (hts _ (uT _ _ u_113)) (fun _ h9 => h9) rfl (by decide +kernel) rfl rfl (Nat.le_of_ble_eq_true rfl) dX6_init_42 (fun H locs hP hD hS => ?_)
  have hP : va_P g.1 vwCl ([(h0, .inr (6, [.ref q1, .ref q2, .ref q3, .int (0 : Int32), .int (0 : Int32), .int (0 : Int32), .int 0, .int 0, .int 0, .int 0])), (q1, .inl (g.2.1, 1200, .inl (fun _ => 0))), (q2, .inl (g.2.1, 1200, .inl (fun _ => 0))), (q3, .inl (g.2.1, 24, .inl (fun _ => 0)))]) H := hP
  have hD : va_D A ([(h0, .inr (6, [.ref q1, .ref q2, .ref q3, .int (0 : Int32), .int (0 : Int32), .int (0 : Int32), .int 0, .int 0, .int 0, .int 0])), (q1, .inl (g.2.1, 1200, .inl (fun _ => 0))), (q2, .inl (g.2.1, 1200, .inl (fun _ => 0))), (q3, .inl (g.2.1, 24, .inl (fun _ => 0)))]) := hD
  refine lv_aload_n hx hb dX6_init_45 rfl (lv_at hl 0 rfl) ?_
  refine lv_iconst (v := 0) hx hb dX6_init_46 (by decide) ?_
  refine va_put (D := g.1) (ci := 6) (v := .int (0 : Int32)) (ty := .int) (C := RX6) (T := TX6) (N := 10) hx hb hi_X6 (fun _ h => h) tyX6 tyX6_ok nmX6 hown hK.1 hP hD hS 0 rfl rfl 6 (by decide) (hts _ (uT _ _ u_114)) (fun _ h9 => h9) rfl (by decide +kernel) rfl rfl (Nat.le_of_ble_eq_true rfl) dX6_init_47 (fun H locs hP hD hS => ?_)
  have hP : va_P g.1 vwCl ([(h0, .inr (6, [.ref q1, .ref q2, .ref q3, .int (0 : Int32), .int (0 : Int32), .int (0 : Int32), .int (0 : Int32), .int 0, .int 0, .int 0])), (q1, .inl (g.2.1, 1200, .inl (fun _ => 0))), (q2, .inl (g.2.1, 1200, .inl (fun _ => 0))), (q3, .inl (g.2.1, 24, .inl (fun _ => 0)))]) H := hP
  have hD : va_D A ([(h0, .inr (6, [.ref q1, .ref q2, .ref q3, .int (0 : Int32), .int (0 : Int32), .int (0 : Int32), .int (0 : Int32), .int 0, .int 0, .int 0])), (q1, .inl (g.2.1, 1200, .inl (fun _ => 0))), (q2, .inl (g.2.1, 1200, .inl (fun _ => 0))), (q3, .inl (g.2.1, 24, .inl (fun _ => 0)))]) := hD
  refine lv_aload_n hx hb dX6_init_50 rfl (lv_at hl 0 rfl) ?_
  refine lv_iconst (v := -1) hx hb dX6_init_51 (by decide) ?_
  refine va_put (D := g.1) (ci := 6) (v := .int (-1 : Int32)) (ty := .int) (C := RX6) (T := TX6) (N := 10) hx hb hi_X6 (fun _ h => h) tyX6 tyX6_ok nmX6 hown hK.1 hP hD hS 0 rfl rfl 7 (by decide) (hts _ (uT _ _ u_115)) (fun _ h9 => h9) rfl (by decide +kernel) rfl rfl (Nat.le_of_ble_eq_true rfl) dX6_init_52 (fun H locs hP hD hS => ?_)
  have hP : va_P g.1 vwCl ([(h0, .inr (6, [.ref q1, .ref q2, .ref q3, .int (0 : Int32), .int (0 : Int32), .int (0 : Int32), .int (0 : Int32), .int (-1 : Int32), .int 0, .int 0])), (q1, .inl (g.2.1, 1200, .inl (fun _ => 0))), (q2, .inl (g.2.1, 1200, .inl (fun _ => 0))), (q3, .inl (g.2.1, 24, .inl (fun _ => 0)))]) H := hP
  have hD : va_D A ([(h0, .inr (6, [.ref q1, .ref q2, .ref q3, .int (0 : Int32), .int (0 : Int32), .int (0 : Int32), .int (0 : Int32), .int (-1 : Int32), .int 0, .int 0])), (q1, .inl (g.2.1, 1200, .inl (fun _ => 0))), (q2, .inl (g.2.1, 1200, .inl (fun _ => 0))), (q3, .inl (g.2.1, 24, .inl (fun _ => 0)))]) := hD
  refine lv_aload_n hx hb dX6_init_55 rfl (lv_at hl 0 rfl) ?_
  refine lv_iconst (v := 0) hx hb dX6_init_56 (by decide) ?_
  refine va_put (D := g.1) (ci := 6) (v := .int (0 : Int32)) (ty := .int) (C := RX6) (T := TX6) (N := 10) hx hb hi_X6 (fun _ h => h) tyX6 tyX6_ok nmX6 hown hK.1 hP hD hS 0 rfl rfl 8 (by decide) (hts _ (uT _ _ u_116)) (fun _ h9 => h9) rfl (by decide +kernel) rfl rfl (Nat.le_of_ble_eq_true rfl) dX6_init_57 (fun H locs hP hD hS => ?_)
  have hP : va_P g.1 vwCl ([(h0, .inr (6, [.ref q1, .ref q2, .ref q3, .int (0 : Int32), .int (0 : Int32), .int (0 : Int32), .int (0 : Int32), .int (-1 : Int32), .int (0 : Int32), .int 0])), (q1, .inl (g.2.1, 1200, .inl (fun _ => 0))), (q2, .inl (g.2.1, 1200, .inl (fun _ => 0))), (q3, .inl (g.2.1, 24, .inl (fun _ => 0)))]) H := hP
  have hD : va_D A ([(h0, .inr (6, [.ref q1, .ref q2, .ref q3, .int (0 : Int32), .int (0 : Int32), .int (0 : Int32), .int (0 : Int32), .int (-1 : Int32), .int (0 : Int32), .int 0])), (q1, .inl (g.2.1, 1200, .inl (fun _ => 0))), (q2, .inl (g.2.1, 1200, .inl (fun _ => 0))), (q3, .inl (g.2.1, 24, .inl (fun _ => 0)))]) := hD
  refine lv_aload_n hx hb dX6_init_60 rfl (lv_at hl 0 rfl) ?_
  refine lv_iconst (v := 0) hx hb dX6_init_61 (by decide) ?_
  refine va_put (D := g.1) (ci := 6) (v := .int (0 : Int32)) (ty := .int) (C := RX6) (T := TX6) (N := 10) hx hb hi_X6 (fun _ h => h) tyX6 tyX6_ok nmX6 hown hK.1 hP hD hS 0 rfl rfl 9 (by decide) (hts _ (uT _ _ u_117)) (fun _ h9 => h9) rfl (by decide +kernel) rfl rfl (Nat.le_of_ble_eq_true rfl) dX6_init_62 (fun H locs hP hD hS => ?_)
  have hP : va_P g.1 vwCl ([(h0, .inr (6, [.ref q1, .ref q2, .ref q3, .int (0 : Int32), .int (0 : Int32), .int (0 : Int32), .int (0 : Int32), .int (-1 : Int32), .int (0 : Int32), .int (0 : Int32)])), (q1, .inl (g.2.1, 1200, .inl (fun _ => 0))), (q2, .inl (g.2.1, 1200, .inl (fun _ => 0))), (q3, .inl (g.2.1, 24, .inl (fun _ => 0)))]) H := hP
  have hD : va_D A ([(h0, .inr (6, [.ref q1, .ref q2, .ref q3, .int (0 : Int32), .int (0 : Int32), .int (0 : Int32), .int (0 : Int32), .int (-1 : Int32), .int (0 : Int32), .int (0 : Int32)])), (q1, .inl (g.2.1, 1200, .inl (fun _ => 0))), (q2, .inl (g.2.1, 1200, .inl (fun _ => 0))), (q3, .inl (g.2.1, 24, .inl (fun _ => 0)))]) := hD
  refine hret 65 ls H _ _ _ ((fA [h0, q1, q2, q3]), (fI [fV [0, 0, 0, (0 : Int32), (0 : Int32), (0 : Int32), (0 : Int32), (-1 : Int32), (0 : Int32), (0 : Int32)], (fun _ => 0), (fun _ => 0), (fun _ => 0)])) dX6_init_65 (Nat.le_of_ble_eq_true rfl) (Nat.le_of_ble_eq_true rfl) hS hP hD ?_
  exact ⟨rfl, (show 0 ≤ ((0 : Int32)).toInt ∧ ((0 : Int32)).toInt ≤ 1200 from ⟨by decide, by decide⟩)⟩
set_option maxHeartbeats 4000000 in
set_option maxRecDepth 100000 in
theorem kX7_init (l : Launch) (g : gG) (h0 : Nat) : MkV l g yX7_init wsX7_init 1 6 293 [.ref h0] ([(h0, .inr (7, [.int 0, .int 0, .null, .null, .null, .null, .null, .null]))]) (fun (u : ((Nat → Nat) × (Nat → Nat → Int32))) => wX7 g (u.1) (u.2)) (fun (u : ((Nat → Nat) × (Nat → Nat → Int32))) => (u.1) 0 = h0 ∧ (TI (u.2) ∧ fxTc (u.2) = fxT0 ∧ (u.2) 0 1 = 0)) := by
  refine MkV.st (cc := cX7_init) (maxL := 1) (by decide) rfl (Nat.le_of_ble_eq_true rfl) (fun p e s m args below meth c A Q ls fx hin hK hP hD hA hS hl hret => ?_)
  have hx := fx.1
  have hb := fx.2.1
  have hml := fx.2.2.1
  have hown := fx.2.2.2.1
  have hts := fx.2.2.2.2
  have hl : lv_has ls 1 [(0, .ref h0)] := hl
  have hi_X7 : ∀ w ∈ wsX70, w.before args s = true := fun w h => hts w (uT _ w (u_wsX70 w h))
  refine lv_aload_n hx hb dX7_init_0 rfl (lv_at hl 0 rfl) ?_
  refine W.objInit hx hb hown (hts _ (uT _ _ u_89)) (hts _ (uT _ _ u_11)) (hts _ (uT _ _ u_12)) rfl (by rw [hml]; exact hl.1) rfl dX7_init_1 (Nat.le_of_ble_eq_true rfl) (Nat.le_of_ble_eq_true rfl) ?_
  refine W.eq (g2 := F0 m 4 ls []) rfl ?_
  refine lv_aload_n hx hb dX7_init_4 rfl (lv_at hl 0 rfl) ?_
  refine lv_iconst (v := 0) hx hb dX7_init_5 (by decide) ?_
  refine va_put (D := g.1) (ci := 7) (v := .int (0 : Int32)) (ty := .int) (C := RX7) (T := TX7) (N := 8) hx hb hi_X7 (fun _ h => h) tyX7 tyX7_ok nmX7 hown hK.1 hP hD hS 0 rfl rfl 0 (by decide) (hts _ (uT _ _ u_90)) (fun _ h9 => h9) rfl (by decide +kernel) rfl rfl (Nat.le_of_ble_eq_true rfl) dX7_init_6 (fun H locs hP hD hS => ?_)
  have hP : va_P g.1 vwCl ([(h0, .inr (7, [.int (0 : Int32), .int 0, .null, .null, .null, .null, .null, .null]))]) H := hP
  have hD : va_D A ([(h0, .inr (7, [.int (0 : Int32), .int 0, .null, .null, .null, .null, .null, .null]))]) := hD
  refine lv_aload_n hx hb dX7_init_9 rfl (lv_at hl 0 rfl) ?_
  refine lv_iconst (v := 0) hx hb dX7_init_10 (by decide) ?_
  refine va_put (D := g.1) (ci := 7) (v := .int (0 : Int32)) (ty := .int) (C := RX7) (T := TX7) (N := 8) hx hb hi_X7 (fun _ h => h) tyX7 tyX7_ok nmX7 hown hK.1 hP hD hS 0 rfl rfl 1 (by decide) (hts _ (uT _ _ u_91)) (fun _ h9 => h9) rfl (by decide +kernel) rfl rfl (Nat.le_of_ble_eq_true rfl) dX7_init_11 (fun H locs hP hD hS => ?_)
  have hP : va_P g.1 vwCl ([(h0, .inr (7, [.int (0 : Int32), .int (0 : Int32), .null, .null, .null, .null, .null, .null]))]) H := hP
  have hD : va_D A ([(h0, .inr (7, [.int (0 : Int32), .int (0 : Int32), .null, .null, .null, .null, .null, .null]))]) := hD
  refine lv_aload_n hx hb dX7_init_14 rfl (lv_at hl 0 rfl) ?_
  refine lv_iconst (v := 5) hx hb dX7_init_15 (by decide) ?_
  refine r_newa (atype := .int) hx hb (hts _ (uT _ _ u_13)) rfl (Or.inl rfl) hK hP hD hS hA 0 rfl (a0 := (5, .inl (fun _ => 0))) (fun _ => rfl) (by decide) rfl (Nat.le_of_ble_eq_true rfl) (Nat.le_of_ble_eq_true rfl) (Nat.le_of_ble_eq_true rfl) dX7_init_16 (fun q1 H hP hD hS => ?_)
  have hP : va_P g.1 vwCl ([(h0, .inr (7, [.int (0 : Int32), .int (0 : Int32), .null, .null, .null, .null, .null, .null])), (q1, .inl (g.2.1, 5, .inl (fun _ => 0)))]) H := hP
  have hD : va_D A ([(h0, .inr (7, [.int (0 : Int32), .int (0 : Int32), .null, .null, .null, .null, .null, .null])), (q1, .inl (g.2.1, 5, .inl (fun _ => 0)))]) := hD
  refine va_putF (D := g.1) (ci := 7) (v := .ref q1) (ty := .array .int) (C := RX7) (T := TX7) (N := 8) hx hb hi_X7 (fun _ h => h) tyX7 tyX7_ok nmX7 hown hK.1 hP hD hS 0 rfl rfl 2 (by decide) (hts _ (uT _ _ u_92)) (fun _ h9 => h9) rfl hin rfl (by decide +kernel) rfl rfl (Nat.le_of_ble_eq_true rfl) dX7_init_18 (fun H locs hP hD hS => ?_)
  have hP : va_P g.1 vwCl ([(h0, .inr (7, [.int (0 : Int32), .int (0 : Int32), .ref q1, .null, .null, .null, .null, .null])), (q1, .inl (g.2.1, 5, .inl (fun _ => 0)))]) H := hP
  have hD : va_D A ([(h0, .inr (7, [.int (0 : Int32), .int (0 : Int32), .ref q1, .null, .null, .null, .null, .null])), (q1, .inl (g.2.1, 5, .inl (fun _ => 0)))]) := hD
  refine lv_aload_n hx hb dX7_init_21 rfl (lv_at hl 0 rfl) ?_
  refine lv_bipush (v := 24) hx hb dX7_init_22 (by decide) ?_
  refine r_newa (atype := .int) hx hb (hts _ (uT _ _ u_13)) rfl (Or.inl rfl) hK hP hD hS hA 0 rfl (a0 := (24, .inl (fun _ => 0))) (fun _ => rfl) (by decide) rfl (Nat.le_of_ble_eq_true rfl) (Nat.le_of_ble_eq_true rfl) (Nat.le_of_ble_eq_true rfl) dX7_init_24 (fun q2 H hP hD hS => ?_)
  have hP : va_P g.1 vwCl ([(h0, .inr (7, [.int (0 : Int32), .int (0 : Int32), .ref q1, .null, .null, .null, .null, .null])), (q1, .inl (g.2.1, 5, .inl (fun _ => 0))), (q2, .inl (g.2.1, 24, .inl (fun _ => 0)))]) H := hP
  have hD : va_D A ([(h0, .inr (7, [.int (0 : Int32), .int (0 : Int32), .ref q1, .null, .null, .null, .null, .null])), (q1, .inl (g.2.1, 5, .inl (fun _ => 0))), (q2, .inl (g.2.1, 24, .inl (fun _ => 0)))]) := hD
  refine va_putF (D := g.1) (ci := 7) (v := .ref q2) (ty := .array .int) (C := RX7) (T := TX7) (N := 8) hx hb hi_X7 (fun _ h => h) tyX7 tyX7_ok nmX7 hown hK.1 hP hD hS 0 rfl rfl 3 (by decide) (hts _ (uT _ _ u_93)) (fun _ h9 => h9) rfl hin rfl (by decide +kernel) rfl rfl (Nat.le_of_ble_eq_true rfl) dX7_init_26 (fun H locs hP hD hS => ?_)
  have hP : va_P g.1 vwCl ([(h0, .inr (7, [.int (0 : Int32), .int (0 : Int32), .ref q1, .ref q2, .null, .null, .null, .null])), (q1, .inl (g.2.1, 5, .inl (fun _ => 0))), (q2, .inl (g.2.1, 24, .inl (fun _ => 0)))]) H := hP
  have hD : va_D A ([(h0, .inr (7, [.int (0 : Int32), .int (0 : Int32), .ref q1, .ref q2, .null, .null, .null, .null])), (q1, .inl (g.2.1, 5, .inl (fun _ => 0))), (q2, .inl (g.2.1, 24, .inl (fun _ => 0)))]) := hD
  refine lv_aload_n hx hb dX7_init_29 rfl (lv_at hl 0 rfl) ?_
  refine lv_bipush (v := 24) hx hb dX7_init_30 (by decide) ?_
  refine r_newa (atype := .int) hx hb (hts _ (uT _ _ u_13)) rfl (Or.inl rfl) hK hP hD hS hA 0 rfl (a0 := (24, .inl (fun _ => 0))) (fun _ => rfl) (by decide) rfl (Nat.le_of_ble_eq_true rfl) (Nat.le_of_ble_eq_true rfl) (Nat.le_of_ble_eq_true rfl) dX7_init_32 (fun q3 H hP hD hS => ?_)
  have hP : va_P g.1 vwCl ([(h0, .inr (7, [.int (0 : Int32), .int (0 : Int32), .ref q1, .ref q2, .null, .null, .null, .null])), (q1, .inl (g.2.1, 5, .inl (fun _ => 0))), (q2, .inl (g.2.1, 24, .inl (fun _ => 0))), (q3, .inl (g.2.1, 24, .inl (fun _ => 0)))]) H := hP
  have hD : va_D A ([(h0, .inr (7, [.int (0 : Int32), .int (0 : Int32), .ref q1, .ref q2, .null, .null, .null, .null])), (q1, .inl (g.2.1, 5, .inl (fun _ => 0))), (q2, .inl (g.2.1, 24, .inl (fun _ => 0))), (q3, .inl (g.2.1, 24, .inl (fun _ => 0)))]) := hD
  refine va_putF (D := g.1) (ci := 7) (v := .ref q3) (ty := .array .int) (C := RX7) (T := TX7) (N := 8) hx hb hi_X7 (fun _ h => h) tyX7 tyX7_ok nmX7 hown hK.1 hP hD hS 0 rfl rfl 4 (by decide) (hts _ (uT _ _ u_94)) (fun _ h9 => h9) rfl hin rfl (by decide +kernel) rfl rfl (Nat.le_of_ble_eq_true rfl) dX7_init_34 (fun H locs hP hD hS => ?_)
  have hP : va_P g.1 vwCl ([(h0, .inr (7, [.int (0 : Int32), .int (0 : Int32), .ref q1, .ref q2, .ref q3, .null, .null, .null])), (q1, .inl (g.2.1, 5, .inl (fun _ => 0))), (q2, .inl (g.2.1, 24, .inl (fun _ => 0))), (q3, .inl (g.2.1, 24, .inl (fun _ => 0)))]) H := hP
  have hD : va_D A ([(h0, .inr (7, [.int (0 : Int32), .int (0 : Int32), .ref q1, .ref q2, .ref q3, .null, .null, .null])), (q1, .inl (g.2.1, 5, .inl (fun _ => 0))), (q2, .inl (g.2.1, 24, .inl (fun _ => 0))), (q3, .inl (g.2.1, 24, .inl (fun _ => 0)))]) := hD
  refine lv_aload_n hx hb dX7_init_37 rfl (lv_at hl 0 rfl) ?_
  refine lv_bipush (v := 24) hx hb dX7_init_38 (by decide) ?_
  refine r_newa (atype := .int) hx hb (hts _ (uT _ _ u_13)) rfl (Or.inl rfl) hK hP hD hS hA 0 rfl (a0 := (24, .inl (fun _ => 0))) (fun _ => rfl) (by decide) rfl (Nat.le_of_ble_eq_true rfl) (Nat.le_of_ble_eq_true rfl) (Nat.le_of_ble_eq_true rfl) dX7_init_40 (fun q4 H hP hD hS => ?_)
  have hP : va_P g.1 vwCl ([(h0, .inr (7, [.int (0 : Int32), .int (0 : Int32), .ref q1, .ref q2, .ref q3, .null, .null, .null])), (q1, .inl (g.2.1, 5, .inl (fun _ => 0))), (q2, .inl (g.2.1, 24, .inl (fun _ => 0))), (q3, .inl (g.2.1, 24, .inl (fun _ => 0))), (q4, .inl (g.2.1, 24, .inl (fun _ => 0)))]) H := hP
  have hD : va_D A ([(h0, .inr (7, [.int (0 : Int32), .int (0 : Int32), .ref q1, .ref q2, .ref q3, .null, .null, .null])), (q1, .inl (g.2.1, 5, .inl (fun _ => 0))), (q2, .inl (g.2.1, 24, .inl (fun _ => 0))), (q3, .inl (g.2.1, 24, .inl (fun _ => 0))), (q4, .inl (g.2.1, 24, .inl (fun _ => 0)))]) := hD
  refine va_putF (D := g.1) (ci := 7) (v := .ref q4) (ty := .array .int) (C := RX7) (T := TX7) (N := 8) hx hb hi_X7 (fun _ h => h) tyX7 tyX7_ok nmX7 hown hK.1 hP hD hS 0 rfl rfl 5 (by decide) (hts _ (uT _ _ u_95)) (fun _ h9 => h9) rfl hin rfl (by decide +kernel) rfl rfl (Nat.le_of_ble_eq_true rfl) dX7_init_42 (fun H locs hP hD hS => ?_)
  have hP : va_P g.1 vwCl ([(h0, .inr (7, [.int (0 : Int32), .int (0 : Int32), .ref q1, .ref q2, .ref q3, .ref q4, .null, .null])), (q1, .inl (g.2.1, 5, .inl (fun _ => 0))), (q2, .inl (g.2.1, 24, .inl (fun _ => 0))), (q3, .inl (g.2.1, 24, .inl (fun _ => 0))), (q4, .inl (g.2.1, 24, .inl (fun _ => 0)))]) H := hP
  have hD : va_D A ([(h0, .inr (7, [.int (0 : Int32), .int (0 : Int32), .ref q1, .ref q2, .ref q3, .ref q4, .null, .null])), (q1, .inl (g.2.1, 5, .inl (fun _ => 0))), (q2, .inl (g.2.1, 24, .inl (fun _ => 0))), (q3, .inl (g.2.1, 24, .inl (fun _ => 0))), (q4, .inl (g.2.1, 24, .inl (fun _ => 0)))]) := hD
  refine lv_aload_n hx hb dX7_init_45 rfl (lv_at hl 0 rfl) ?_
  refine lv_sipush (v := 144) hx hb dX7_init_46 (by decide) ?_
  refine r_newa (atype := .int) hx hb (hts _ (uT _ _ u_13)) rfl (Or.inl rfl) hK hP hD hS hA 0 rfl (a0 := (144, .inl (fun _ => 0))) (fun _ => rfl) (by decide) rfl (Nat.le_of_ble_eq_true rfl) (Nat.le_of_ble_eq_true rfl) (Nat.le_of_ble_eq_true rfl) dX7_init_49 (fun q5 H hP hD hS => ?_)
  have hP : va_P g.1 vwCl ([(h0, .inr (7, [.int (0 : Int32), .int (0 : Int32), .ref q1, .ref q2, .ref q3, .ref q4, .null, .null])), (q1, .inl (g.2.1, 5, .inl (fun _ => 0))), (q2, .inl (g.2.1, 24, .inl (fun _ => 0))), (q3, .inl (g.2.1, 24, .inl (fun _ => 0))), (q4, .inl (g.2.1, 24, .inl (fun _ => 0))), (q5, .inl (g.2.1, 144, .inl (fun _ => 0)))]) H := hP
  have hD : va_D A ([(h0, .inr (7, [.int (0 : Int32), .int (0 : Int32), .ref q1, .ref q2, .ref q3, .ref q4, .null, .null])), (q1, .inl (g.2.1, 5, .inl (fun _ => 0))), (q2, .inl (g.2.1, 24, .inl (fun _ => 0))), (q3, .inl (g.2.1, 24, .inl (fun _ => 0))), (q4, .inl (g.2.1, 24, .inl (fun _ => 0))), (q5, .inl (g.2.1, 144, .inl (fun _ => 0)))]) := hD
  refine va_putF (D := g.1) (ci := 7) (v := .ref q5) (ty := .array .int) (C := RX7) (T := TX7) (N := 8) hx hb hi_X7 (fun _ h => h) tyX7 tyX7_ok nmX7 hown hK.1 hP hD hS 0 rfl rfl 6 (by decide) (hts _ (uT _ _ u_96)) (fun _ h9 => h9) rfl hin rfl (by decide +kernel) rfl rfl (Nat.le_of_ble_eq_true rfl) dX7_init_51 (fun H locs hP hD hS => ?_)
  have hP : va_P g.1 vwCl ([(h0, .inr (7, [.int (0 : Int32), .int (0 : Int32), .ref q1, .ref q2, .ref q3, .ref q4, .ref q5, .null])), (q1, .inl (g.2.1, 5, .inl (fun _ => 0))), (q2, .inl (g.2.1, 24, .inl (fun _ => 0))), (q3, .inl (g.2.1, 24, .inl (fun _ => 0))), (q4, .inl (g.2.1, 24, .inl (fun _ => 0))), (q5, .inl (g.2.1, 144, .inl (fun _ => 0)))]) H := hP
  have hD : va_D A ([(h0, .inr (7, [.int (0 : Int32), .int (0 : Int32), .ref q1, .ref q2, .ref q3, .ref q4, .ref q5, .null])), (q1, .inl (g.2.1, 5, .inl (fun _ => 0))), (q2, .inl (g.2.1, 24, .inl (fun _ => 0))), (q3, .inl (g.2.1, 24, .inl (fun _ => 0))), (q4, .inl (g.2.1, 24, .inl (fun _ => 0))), (q5, .inl (g.2.1, 144, .inl (fun _ => 0)))]) := hD
  refine lv_aload_n hx hb dX7_init_54 rfl (lv_at hl 0 rfl) ?_
  refine lv_bipush (v := 72) hx hb dX7_init_55 (by decide) ?_
  refine r_newa (atype := .int) hx hb (hts _ (uT _ _ u_13)) rfl (Or.inl rfl) hK hP hD hS hA 0 rfl (a0 := (72, .inl (fun _ => 0))) (fun _ => rfl) (by decide) rfl (Nat.le_of_ble_eq_true rfl) (Nat.le_of_ble_eq_true rfl) (Nat.le_of_ble_eq_true rfl) dX7_init_57 (fun q6 H hP hD hS => ?_)
  have hP : va_P g.1 vwCl ([(h0, .inr (7, [.int (0 : Int32), .int (0 : Int32), .ref q1, .ref q2, .ref q3, .ref q4, .ref q5, .null])), (q1, .inl (g.2.1, 5, .inl (fun _ => 0))), (q2, .inl (g.2.1, 24, .inl (fun _ => 0))), (q3, .inl (g.2.1, 24, .inl (fun _ => 0))), (q4, .inl (g.2.1, 24, .inl (fun _ => 0))), (q5, .inl (g.2.1, 144, .inl (fun _ => 0))), (q6, .inl (g.2.1, 72, .inl (fun _ => 0)))]) H := hP
  have hD : va_D A ([(h0, .inr (7, [.int (0 : Int32), .int (0 : Int32), .ref q1, .ref q2, .ref q3, .ref q4, .ref q5, .null])), (q1, .inl (g.2.1, 5, .inl (fun _ => 0))), (q2, .inl (g.2.1, 24, .inl (fun _ => 0))), (q3, .inl (g.2.1, 24, .inl (fun _ => 0))), (q4, .inl (g.2.1, 24, .inl (fun _ => 0))), (q5, .inl (g.2.1, 144, .inl (fun _ => 0))), (q6, .inl (g.2.1, 72, .inl (fun _ => 0)))]) := hD
  refine va_putF (D := g.1) (ci := 7) (v := .ref q6) (ty := .array .int) (C := RX7) (T := TX7) (N := 8) hx hb hi_X7 (fun _ h => h) tyX7 tyX7_ok nmX7 hown hK.1 hP hD hS 0 rfl rfl 7 (by decide) (hts _ (uT _ _ u_97)) (fun _ h9 => h9) rfl hin rfl (by decide +kernel) rfl rfl (Nat.le_of_ble_eq_true rfl) dX7_init_59 (fun H locs hP hD hS => ?_)
  have hP : va_P g.1 vwCl ([(h0, .inr (7, [.int (0 : Int32), .int (0 : Int32), .ref q1, .ref q2, .ref q3, .ref q4, .ref q5, .ref q6])), (q1, .inl (g.2.1, 5, .inl (fun _ => 0))), (q2, .inl (g.2.1, 24, .inl (fun _ => 0))), (q3, .inl (g.2.1, 24, .inl (fun _ => 0))), (q4, .inl (g.2.1, 24, .inl (fun _ => 0))), (q5, .inl (g.2.1, 144, .inl (fun _ => 0))), (q6, .inl (g.2.1, 72, .inl (fun _ => 0)))]) H := hP
  have hD : va_D A ([(h0, .inr (7, [.int (0 : Int32), .int (0 : Int32), .ref q1, .ref q2, .ref q3, .ref q4, .ref q5, .ref q6])), (q1, .inl (g.2.1, 5, .inl (fun _ => 0))), (q2, .inl (g.2.1, 24, .inl (fun _ => 0))), (q3, .inl (g.2.1, 24, .inl (fun _ => 0))), (q4, .inl (g.2.1, 24, .inl (fun _ => 0))), (q5, .inl (g.2.1, 144, .inl (fun _ => 0))), (q6, .inl (g.2.1, 72, .inl (fun _ => 0)))]) := hD
  refine lv_aload_n hx hb dX7_init_62 rfl (lv_at hl 0 rfl) ?_
  refine va_get (D := g.1) (ci := 7) (v := .ref q1) (C := RX7) (T := TX7) (N := 8) hx hb hi_X7 (fun _ h => h) hown hK.1 hP 0 rfl rfl 2 (by decide) (hts _ (uT _ _ u_92)) (fun _ h9 => h9) rfl dX7_init_63 ?_
  refine lv_iconst (v := 3) hx hb dX7_init_66 (by decide) ?_
  refine lv_bipush (v := 32) hx hb dX7_init_67 (by decide) ?_
  have n_6_69_3 : vp_in (3 : Int32) 5 := t_in (by decide)
  refine va_iast hx hb hK.1 hP hD hS 1 0 rfl rfl n_6_69_3 dX7_init_69 (fun H locs hP hD hS => ?_)
  have hP : va_P g.1 vwCl ([(h0, .inr (7, [.int (0 : Int32), .int (0 : Int32), .ref q1, .ref q2, .ref q3, .ref q4, .ref q5, .ref q6])), (q1, .inl (g.2.1, 5, .inl (upd (fun _ => 0) ((3 : Int32)).toNatClampNeg (32 : Int32)))), (q2, .inl (g.2.1, 24, .inl (fun _ => 0))), (q3, .inl (g.2.1, 24, .inl (fun _ => 0))), (q4, .inl (g.2.1, 24, .inl (fun _ => 0))), (q5, .inl (g.2.1, 144, .inl (fun _ => 0))), (q6, .inl (g.2.1, 72, .inl (fun _ => 0)))]) H := hP
  have hD : va_D A ([(h0, .inr (7, [.int (0 : Int32), .int (0 : Int32), .ref q1, .ref q2, .ref q3, .ref q4, .ref q5, .ref q6])), (q1, .inl (g.2.1, 5, .inl (upd (fun _ => 0) ((3 : Int32)).toNatClampNeg (32 : Int32)))), (q2, .inl (g.2.1, 24, .inl (fun _ => 0))), (q3, .inl (g.2.1, 24, .inl (fun _ => 0))), (q4, .inl (g.2.1, 24, .inl (fun _ => 0))), (q5, .inl (g.2.1, 144, .inl (fun _ => 0))), (q6, .inl (g.2.1, 72, .inl (fun _ => 0)))]) := hD
  refine lv_aload_n hx hb dX7_init_70 rfl (lv_at hl 0 rfl) ?_
  refine va_get (D := g.1) (ci := 7) (v := .ref q1) (C := RX7) (T := TX7) (N := 8) hx hb hi_X7 (fun _ h => h) hown hK.1 hP 0 rfl rfl 2 (by decide) (hts _ (uT _ _ u_92)) (fun _ h9 => h9) rfl dX7_init_71 ?_
  refine lv_iconst (v := 4) hx hb dX7_init_74 (by decide) ?_
  refine lv_bipush (v := 25) hx hb dX7_init_75 (by decide) ?_
  have n_6_77_4 : vp_in (4 : Int32) 5 := t_in (by decide)
  refine va_iast hx hb hK.1 hP hD hS 1 0 rfl rfl n_6_77_4 dX7_init_77 (fun H locs hP hD hS => ?_)
  have hP : va_P g.1 vwCl ([(h0, .inr (7, [.int (0 : Int32), .int (0 : Int32), .ref q1, .ref q2, .ref q3, .ref q4, .ref q5, .ref q6])), (q1, .inl (g.2.1, 5, .inl (upd (upd (fun _ => 0) ((3 : Int32)).toNatClampNeg (32 : Int32)) ((4 : Int32)).toNatClampNeg (25 : Int32)))), (q2, .inl (g.2.1, 24, .inl (fun _ => 0))), (q3, .inl (g.2.1, 24, .inl (fun _ => 0))), (q4, .inl (g.2.1, 24, .inl (fun _ => 0))), (q5, .inl (g.2.1, 144, .inl (fun _ => 0))), (q6, .inl (g.2.1, 72, .inl (fun _ => 0)))]) H := hP
  have hD : va_D A ([(h0, .inr (7, [.int (0 : Int32), .int (0 : Int32), .ref q1, .ref q2, .ref q3, .ref q4, .ref q5, .ref q6])), (q1, .inl (g.2.1, 5, .inl (upd (upd (fun _ => 0) ((3 : Int32)).toNatClampNeg (32 : Int32)) ((4 : Int32)).toNatClampNeg (25 : Int32)))), (q2, .inl (g.2.1, 24, .inl (fun _ => 0))), (q3, .inl (g.2.1, 24, .inl (fun _ => 0))), (q4, .inl (g.2.1, 24, .inl (fun _ => 0))), (q5, .inl (g.2.1, 144, .inl (fun _ => 0))), (q6, .inl (g.2.1, 72, .inl (fun _ => 0)))]) := hD
  refine hret 78 ls H _ _ _ ((fA [h0, q1, q2, q3, q4, q5, q6]), (fI [fV [(0 : Int32), (0 : Int32), 0, 0, 0, 0, 0, 0], (upd (upd (fun _ => 0) ((3 : Int32)).toNatClampNeg (32 : Int32)) ((4 : Int32)).toNatClampNeg (25 : Int32)), (fun _ => 0), (fun _ => 0), (fun _ => 0), (fun _ => 0), (fun _ => 0)])) dX7_init_78 (Nat.le_of_ble_eq_true rfl) (Nat.le_of_ble_eq_true rfl) hS hP hD ?_
  exact ⟨rfl, ⟨TI.new rfl rfl rfl rfl rfl rfl rfl, fxTc.em rfl rfl rfl rfl rfl rfl, rfl⟩⟩
set_option maxHeartbeats 4000000 in
set_option maxRecDepth 100000 in
theorem kX1_init (l : Launch) (g : gG) (h0 : Nat) : MkV l g yX1_init wsX1_init 1 6 2101 [.ref h0] ([(h0, .inr (1, [.null, .null, .int 0, .null, .null, .null, .int 0, .int 0, .null]))]) (fun (u : ((Nat → Nat) × (Nat → Nat → Int32))) => wX1 g (u.1) (u.2)) (fun (u : ((Nat → Nat) × (Nat → Nat → Int32))) => (u.1) 0 = h0 ∧ LI (u.2)) := by
  refine MkV.st (cc := cX1_init) (maxL := 1) (by decide) rfl (Nat.le_of_ble_eq_true rfl) (fun p e s m args below meth c A Q ls fx hin hK hP hD hA hS hl hret => ?_)
  have hx := fx.1
  have hb := fx.2.1
  have hml := fx.2.2.1
  have hown := fx.2.2.2.1
  have hts := fx.2.2.2.2
  have hl : lv_has ls 1 [(0, .ref h0)] := hl
  have hi_X1 : ∀ w ∈ wsX10, w.before args s = true := fun w h => hts w (uT _ w (u_wsX10 w h))
  refine lv_aload_n hx hb dX1_init_0 rfl (lv_at hl 0 rfl) ?_
  refine W.objInit hx hb hown (hts _ (uT _ _ u_120)) (hts _ (uT _ _ u_11)) (hts _ (uT _ _ u_12)) rfl (by rw [hml]; exact hl.1) rfl dX1_init_1 (Nat.le_of_ble_eq_true rfl) (Nat.le_of_ble_eq_true rfl) ?_
  refine W.eq (g2 := F0 m 4 ls []) rfl ?_
  refine lv_aload_n hx hb dX1_init_4 rfl (lv_at hl 0 rfl) ?_
  refine lv_sipush (v := 150) hx hb dX1_init_5 (by decide) ?_
  refine r_newa (atype := .int) hx hb (hts _ (uT _ _ u_13)) rfl (Or.inl rfl) hK hP hD hS hA 0 rfl (a0 := (150, .inl (fun _ => 0))) (fun _ => rfl) (by decide) rfl (Nat.le_of_ble_eq_true rfl) (Nat.le_of_ble_eq_true rfl) (Nat.le_of_ble_eq_true rfl) dX1_init_8 (fun q1 H hP hD hS => ?_)
  have hP : va_P g.1 vwCl ([(h0, .inr (1, [.null, .null, .int 0, .null, .null, .null, .int 0, .int 0, .null])), (q1, .inl (g.2.1, 150, .inl (fun _ => 0)))]) H := hP
  have hD : va_D A ([(h0, .inr (1, [.null, .null, .int 0, .null, .null, .null, .int 0, .int 0, .null])), (q1, .inl (g.2.1, 150, .inl (fun _ => 0)))]) := hD
  refine va_putF (D := g.1) (ci := 1) (v := .ref q1) (ty := .array .int) (C := RX1) (T := TX1) (N := 9) hx hb hi_X1 (fun _ h => h) tyX1 tyX1_ok nmX1 hown hK.1 hP hD hS 0 rfl rfl 0 (by decide) (hts _ (uT _ _ u_121)) (fun _ h9 => h9) rfl hin rfl (by decide +kernel) rfl rfl (Nat.le_of_ble_eq_true rfl) dX1_init_10 (fun H locs hP hD hS => ?_)
  have hP : va_P g.1 vwCl ([(h0, .inr (1, [.ref q1, .null, .int 0, .null, .null, .null, .int 0, .int 0, .null])), (q1, .inl (g.2.1, 150, .inl (fun _ => 0)))]) H := hP
  have hD : va_D A ([(h0, .inr (1, [.ref q1, .null, .int 0, .null, .null, .null, .int 0, .int 0, .null])), (q1, .inl (g.2.1, 150, .inl (fun _ => 0)))]) := hD
  refine lv_aload_n hx hb dX1_init_13 rfl (lv_at hl 0 rfl) ?_
  refine lv_sipush (v := 150) hx hb dX1_init_14 (by decide) ?_
  refine r_newa (atype := .int) hx hb (hts _ (uT _ _ u_13)) rfl (Or.inl rfl) hK hP hD hS hA 0 rfl (a0 := (150, .inl (fun _ => 0))) (fun _ => rfl) (by decide) rfl (Nat.le_of_ble_eq_true rfl) (Nat.le_of_ble_eq_true rfl) (Nat.le_of_ble_eq_true rfl) dX1_init_17 (fun q2 H hP hD hS => ?_)
  have hP : va_P g.1 vwCl ([(h0, .inr (1, [.ref q1, .null, .int 0, .null, .null, .null, .int 0, .int 0, .null])), (q1, .inl (g.2.1, 150, .inl (fun _ => 0))), (q2, .inl (g.2.1, 150, .inl (fun _ => 0)))]) H := hP
  have hD : va_D A ([(h0, .inr (1, [.ref q1, .null, .int 0, .null, .null, .null, .int 0, .int 0, .null])), (q1, .inl (g.2.1, 150, .inl (fun _ => 0))), (q2, .inl (g.2.1, 150, .inl (fun _ => 0)))]) := hD
  refine va_putF (D := g.1) (ci := 1) (v := .ref q2) (ty := .array .int) (C := RX1) (T := TX1) (N := 9) hx hb hi_X1 (fun _ h => h) tyX1 tyX1_ok nmX1 hown hK.1 hP hD hS 0 rfl rfl 1 (by decide) (hts _ (uT _ _ u_122)) (fun _ h9 => h9) rfl hin rfl (by decide +kernel) rfl rfl (Nat.le_of_ble_eq_true rfl) dX1_init_19 (fun H locs hP hD hS => ?_)
  have hP : va_P g.1 vwCl ([(h0, .inr (1, [.ref q1, .ref q2, .int 0, .null, .null, .null, .int 0, .int 0, .null])), (q1, .inl (g.2.1, 150, .inl (fun _ => 0))), (q2, .inl (g.2.1, 150, .inl (fun _ => 0)))]) H := hP
  have hD : va_D A ([(h0, .inr (1, [.ref q1, .ref q2, .int 0, .null, .null, .null, .int 0, .int 0, .null])), (q1, .inl (g.2.1, 150, .inl (fun _ => 0))), (q2, .inl (g.2.1, 150, .inl (fun _ => 0)))]) := hD
  refine lv_aload_n hx hb dX1_init_22 rfl (lv_at hl 0 rfl) ?_
  refine lv_iconst (v := 0) hx hb dX1_init_23 (by decide) ?_
  refine va_put (D := g.1) (ci := 1) (v := .int (0 : Int32)) (ty := .int) (C := RX1) (T := TX1) (N := 9) hx hb hi_X1 (fun _ h => h) tyX1 tyX1_ok nmX1 hown hK.1 hP hD hS 0 rfl rfl 2 (by decide) (hts _ (uT _ _ u_123)) (fun _ h9 => h9) rfl (by decide +kernel) rfl rfl (Nat.le_of_ble_eq_true rfl) dX1_init_24 (fun H locs hP hD hS => ?_)
  have hP : va_P g.1 vwCl ([(h0, .inr (1, [.ref q1, .ref q2, .int (0 : Int32), .null, .null, .null, .int 0, .int 0, .null])), (q1, .inl (g.2.1, 150, .inl (fun _ => 0))), (q2, .inl (g.2.1, 150, .inl (fun _ => 0)))]) H := hP
  have hD : va_D A ([(h0, .inr (1, [.ref q1, .ref q2, .int (0 : Int32), .null, .null, .null, .int 0, .int 0, .null])), (q1, .inl (g.2.1, 150, .inl (fun _ => 0))), (q2, .inl (g.2.1, 150, .inl (fun _ => 0)))]) := hD
  refine lv_aload_n hx hb dX1_init_27 rfl (lv_at hl 0 rfl) ?_
  refine lv_sipush (v := 550) hx hb dX1_init_28 (by decide) ?_
  refine r_newa (atype := .int) hx hb (hts _ (uT _ _ u_13)) rfl (Or.inl rfl) hK hP hD hS hA 0 rfl (a0 := (550, .inl (fun _ => 0))) (fun _ => rfl) (by decide) rfl (Nat.le_of_ble_eq_true rfl) (Nat.le_of_ble_eq_true rfl) (Nat.le_of_ble_eq_true rfl) dX1_init_31 (fun q3 H hP hD hS => ?_)
  have hP : va_P g.1 vwCl ([(h0, .inr (1, [.ref q1, .ref q2, .int (0 : Int32), .null, .null, .null, .int 0, .int 0, .null])), (q1, .inl (g.2.1, 150, .inl (fun _ => 0))), (q2, .inl (g.2.1, 150, .inl (fun _ => 0))), (q3, .inl (g.2.1, 550, .inl (fun _ => 0)))]) H := hP
  have hD : va_D A ([(h0, .inr (1, [.ref q1, .ref q2, .int (0 : Int32), .null, .null, .null, .int 0, .int 0, .null])), (q1, .inl (g.2.1, 150, .inl (fun _ => 0))), (q2, .inl (g.2.1, 150, .inl (fun _ => 0))), (q3, .inl (g.2.1, 550, .inl (fun _ => 0)))]) := hD
  refine va_putF (D := g.1) (ci := 1) (v := .ref q3) (ty := .array .int) (C := RX1) (T := TX1) (N := 9) hx hb hi_X1 (fun _ h => h) tyX1 tyX1_ok nmX1 hown hK.1 hP hD hS 0 rfl rfl 3 (by decide) (hts _ (uT _ _ u_124)) (fun _ h9 => h9) rfl hin rfl (by decide +kernel) rfl rfl (Nat.le_of_ble_eq_true rfl) dX1_init_33 (fun H locs hP hD hS => ?_)
  have hP : va_P g.1 vwCl ([(h0, .inr (1, [.ref q1, .ref q2, .int (0 : Int32), .ref q3, .null, .null, .int 0, .int 0, .null])), (q1, .inl (g.2.1, 150, .inl (fun _ => 0))), (q2, .inl (g.2.1, 150, .inl (fun _ => 0))), (q3, .inl (g.2.1, 550, .inl (fun _ => 0)))]) H := hP
  have hD : va_D A ([(h0, .inr (1, [.ref q1, .ref q2, .int (0 : Int32), .ref q3, .null, .null, .int 0, .int 0, .null])), (q1, .inl (g.2.1, 150, .inl (fun _ => 0))), (q2, .inl (g.2.1, 150, .inl (fun _ => 0))), (q3, .inl (g.2.1, 550, .inl (fun _ => 0)))]) := hD
  refine lv_aload_n hx hb dX1_init_36 rfl (lv_at hl 0 rfl) ?_
  refine lv_sipush (v := 550) hx hb dX1_init_37 (by decide) ?_
  refine r_newa (atype := .int) hx hb (hts _ (uT _ _ u_13)) rfl (Or.inl rfl) hK hP hD hS hA 0 rfl (a0 := (550, .inl (fun _ => 0))) (fun _ => rfl) (by decide) rfl (Nat.le_of_ble_eq_true rfl) (Nat.le_of_ble_eq_true rfl) (Nat.le_of_ble_eq_true rfl) dX1_init_40 (fun q4 H hP hD hS => ?_)
  have hP : va_P g.1 vwCl ([(h0, .inr (1, [.ref q1, .ref q2, .int (0 : Int32), .ref q3, .null, .null, .int 0, .int 0, .null])), (q1, .inl (g.2.1, 150, .inl (fun _ => 0))), (q2, .inl (g.2.1, 150, .inl (fun _ => 0))), (q3, .inl (g.2.1, 550, .inl (fun _ => 0))), (q4, .inl (g.2.1, 550, .inl (fun _ => 0)))]) H := hP
  have hD : va_D A ([(h0, .inr (1, [.ref q1, .ref q2, .int (0 : Int32), .ref q3, .null, .null, .int 0, .int 0, .null])), (q1, .inl (g.2.1, 150, .inl (fun _ => 0))), (q2, .inl (g.2.1, 150, .inl (fun _ => 0))), (q3, .inl (g.2.1, 550, .inl (fun _ => 0))), (q4, .inl (g.2.1, 550, .inl (fun _ => 0)))]) := hD
  refine va_putF (D := g.1) (ci := 1) (v := .ref q4) (ty := .array .int) (C := RX1) (T := TX1) (N := 9) hx hb hi_X1 (fun _ h => h) tyX1 tyX1_ok nmX1 hown hK.1 hP hD hS 0 rfl rfl 4 (by decide) (hts _ (uT _ _ u_125)) (fun _ h9 => h9) rfl hin rfl (by decide +kernel) rfl rfl (Nat.le_of_ble_eq_true rfl) dX1_init_42 (fun H locs hP hD hS => ?_)
  have hP : va_P g.1 vwCl ([(h0, .inr (1, [.ref q1, .ref q2, .int (0 : Int32), .ref q3, .ref q4, .null, .int 0, .int 0, .null])), (q1, .inl (g.2.1, 150, .inl (fun _ => 0))), (q2, .inl (g.2.1, 150, .inl (fun _ => 0))), (q3, .inl (g.2.1, 550, .inl (fun _ => 0))), (q4, .inl (g.2.1, 550, .inl (fun _ => 0)))]) H := hP
  have hD : va_D A ([(h0, .inr (1, [.ref q1, .ref q2, .int (0 : Int32), .ref q3, .ref q4, .null, .int 0, .int 0, .null])), (q1, .inl (g.2.1, 150, .inl (fun _ => 0))), (q2, .inl (g.2.1, 150, .inl (fun _ => 0))), (q3, .inl (g.2.1, 550, .inl (fun _ => 0))), (q4, .inl (g.2.1, 550, .inl (fun _ => 0)))]) := hD
  refine lv_aload_n hx hb dX1_init_45 rfl (lv_at hl 0 rfl) ?_
  refine lv_sipush (v := 550) hx hb dX1_init_46 (by decide) ?_
  refine r_newa (atype := .int) hx hb (hts _ (uT _ _ u_13)) rfl (Or.inl rfl) hK hP hD hS hA 0 rfl (a0 := (550, .inl (fun _ => 0))) (fun _ => rfl) (by decide) rfl (Nat.le_of_ble_eq_true rfl) (Nat.le_of_ble_eq_true rfl) (Nat.le_of_ble_eq_true rfl) dX1_init_49 (fun q5 H hP hD hS => ?_)
  have hP : va_P g.1 vwCl ([(h0, .inr (1, [.ref q1, .ref q2, .int (0 : Int32), .ref q3, .ref q4, .null, .int 0, .int 0, .null])), (q1, .inl (g.2.1, 150, .inl (fun _ => 0))), (q2, .inl (g.2.1, 150, .inl (fun _ => 0))), (q3, .inl (g.2.1, 550, .inl (fun _ => 0))), (q4, .inl (g.2.1, 550, .inl (fun _ => 0))), (q5, .inl (g.2.1, 550, .inl (fun _ => 0)))]) H := hP
  have hD : va_D A ([(h0, .inr (1, [.ref q1, .ref q2, .int (0 : Int32), .ref q3, .ref q4, .null, .int 0, .int 0, .null])), (q1, .inl (g.2.1, 150, .inl (fun _ => 0))), (q2, .inl (g.2.1, 150, .inl (fun _ => 0))), (q3, .inl (g.2.1, 550, .inl (fun _ => 0))), (q4, .inl (g.2.1, 550, .inl (fun _ => 0))), (q5, .inl (g.2.1, 550, .inl (fun _ => 0)))]) := hD
  refine va_putF (D := g.1) (ci := 1) (v := .ref q5) (ty := .array .int) (C := RX1) (T := TX1) (N := 9) hx hb hi_X1 (fun _ h => h) tyX1 tyX1_ok nmX1 hown hK.1 hP hD hS 0 rfl rfl 5 (by decide) (hts _ (uT _ _ u_126)) (fun _ h9 => h9) rfl hin rfl (by decide +kernel) rfl rfl (Nat.le_of_ble_eq_true rfl) dX1_init_51 (fun H locs hP hD hS => ?_)
  have hP : va_P g.1 vwCl ([(h0, .inr (1, [.ref q1, .ref q2, .int (0 : Int32), .ref q3, .ref q4, .ref q5, .int 0, .int 0, .null])), (q1, .inl (g.2.1, 150, .inl (fun _ => 0))), (q2, .inl (g.2.1, 150, .inl (fun _ => 0))), (q3, .inl (g.2.1, 550, .inl (fun _ => 0))), (q4, .inl (g.2.1, 550, .inl (fun _ => 0))), (q5, .inl (g.2.1, 550, .inl (fun _ => 0)))]) H := hP
  have hD : va_D A ([(h0, .inr (1, [.ref q1, .ref q2, .int (0 : Int32), .ref q3, .ref q4, .ref q5, .int 0, .int 0, .null])), (q1, .inl (g.2.1, 150, .inl (fun _ => 0))), (q2, .inl (g.2.1, 150, .inl (fun _ => 0))), (q3, .inl (g.2.1, 550, .inl (fun _ => 0))), (q4, .inl (g.2.1, 550, .inl (fun _ => 0))), (q5, .inl (g.2.1, 550, .inl (fun _ => 0)))]) := hD
  refine lv_aload_n hx hb dX1_init_54 rfl (lv_at hl 0 rfl) ?_
  refine lv_iconst (v := 0) hx hb dX1_init_55 (by decide) ?_
  refine va_put (D := g.1) (ci := 1) (v := .int (0 : Int32)) (ty := .int) (C := RX1) (T := TX1) (N := 9) hx hb hi_X1 (fun _ h => h) tyX1 tyX1_ok nmX1 hown hK.1 hP hD hS 0 rfl rfl 6 (by decide) (hts _ (uT _ _ u_127)) (fun _ h9 => h9) rfl (by decide +kernel) rfl rfl (Nat.le_of_ble_eq_true rfl) dX1_init_56 (fun H locs hP hD hS => ?_)
  have hP : va_P g.1 vwCl ([(h0, .inr (1, [.ref q1, .ref q2, .int (0 : Int32), .ref q3, .ref q4, .ref q5, .int (0 : Int32), .int 0, .null])), (q1, .inl (g.2.1, 150, .inl (fun _ => 0))), (q2, .inl (g.2.1, 150, .inl (fun _ => 0))), (q3, .inl (g.2.1, 550, .inl (fun _ => 0))), (q4, .inl (g.2.1, 550, .inl (fun _ => 0))), (q5, .inl (g.2.1, 550, .inl (fun _ => 0)))]) H := hP
  have hD : va_D A ([(h0, .inr (1, [.ref q1, .ref q2, .int (0 : Int32), .ref q3, .ref q4, .ref q5, .int (0 : Int32), .int 0, .null])), (q1, .inl (g.2.1, 150, .inl (fun _ => 0))), (q2, .inl (g.2.1, 150, .inl (fun _ => 0))), (q3, .inl (g.2.1, 550, .inl (fun _ => 0))), (q4, .inl (g.2.1, 550, .inl (fun _ => 0))), (q5, .inl (g.2.1, 550, .inl (fun _ => 0)))]) := hD
  refine lv_aload_n hx hb dX1_init_59 rfl (lv_at hl 0 rfl) ?_
  refine lv_iconst (v := 0) hx hb dX1_init_60 (by decide) ?_
  refine va_put (D := g.1) (ci := 1) (v := .int (0 : Int32)) (ty := .int) (C := RX1) (T := TX1) (N := 9) hx hb hi_X1 (fun _ h => h) tyX1 tyX1_ok nmX1 hown hK.1 hP hD hS 0 rfl rfl 7 (by decide) (hts _ (uT _ _ u_128)) (fun _ h9 => h9) rfl (by decide +kernel) rfl rfl (Nat.le_of_ble_eq_true rfl) dX1_init_61 (fun H locs hP hD hS => ?_)
  have hP : va_P g.1 vwCl ([(h0, .inr (1, [.ref q1, .ref q2, .int (0 : Int32), .ref q3, .ref q4, .ref q5, .int (0 : Int32), .int (0 : Int32), .null])), (q1, .inl (g.2.1, 150, .inl (fun _ => 0))), (q2, .inl (g.2.1, 150, .inl (fun _ => 0))), (q3, .inl (g.2.1, 550, .inl (fun _ => 0))), (q4, .inl (g.2.1, 550, .inl (fun _ => 0))), (q5, .inl (g.2.1, 550, .inl (fun _ => 0)))]) H := hP
  have hD : va_D A ([(h0, .inr (1, [.ref q1, .ref q2, .int (0 : Int32), .ref q3, .ref q4, .ref q5, .int (0 : Int32), .int (0 : Int32), .null])), (q1, .inl (g.2.1, 150, .inl (fun _ => 0))), (q2, .inl (g.2.1, 150, .inl (fun _ => 0))), (q3, .inl (g.2.1, 550, .inl (fun _ => 0))), (q4, .inl (g.2.1, 550, .inl (fun _ => 0))), (q5, .inl (g.2.1, 550, .inl (fun _ => 0)))]) := hD
  refine lv_aload_n hx hb dX1_init_64 rfl (lv_at hl 0 rfl) ?_
  refine lv_sipush (v := 151) hx hb dX1_init_65 (by decide) ?_
  refine r_newa (atype := .int) hx hb (hts _ (uT _ _ u_13)) rfl (Or.inl rfl) hK hP hD hS hA 0 rfl (a0 := (151, .inl (fun _ => 0))) (fun _ => rfl) (by decide) rfl (Nat.le_of_ble_eq_true rfl) (Nat.le_of_ble_eq_true rfl) (Nat.le_of_ble_eq_true rfl) dX1_init_68 (fun q6 H hP hD hS => ?_)
  have hP : va_P g.1 vwCl ([(h0, .inr (1, [.ref q1, .ref q2, .int (0 : Int32), .ref q3, .ref q4, .ref q5, .int (0 : Int32), .int (0 : Int32), .null])), (q1, .inl (g.2.1, 150, .inl (fun _ => 0))), (q2, .inl (g.2.1, 150, .inl (fun _ => 0))), (q3, .inl (g.2.1, 550, .inl (fun _ => 0))), (q4, .inl (g.2.1, 550, .inl (fun _ => 0))), (q5, .inl (g.2.1, 550, .inl (fun _ => 0))), (q6, .inl (g.2.1, 151, .inl (fun _ => 0)))]) H := hP
  have hD : va_D A ([(h0, .inr (1, [.ref q1, .ref q2, .int (0 : Int32), .ref q3, .ref q4, .ref q5, .int (0 : Int32), .int (0 : Int32), .null])), (q1, .inl (g.2.1, 150, .inl (fun _ => 0))), (q2, .inl (g.2.1, 150, .inl (fun _ => 0))), (q3, .inl (g.2.1, 550, .inl (fun _ => 0))), (q4, .inl (g.2.1, 550, .inl (fun _ => 0))), (q5, .inl (g.2.1, 550, .inl (fun _ => 0))), (q6, .inl (g.2.1, 151, .inl (fun _ => 0)))]) := hD
  refine va_putF (D := g.1) (ci := 1) (v := .ref q6) (ty := .array .int) (C := RX1) (T := TX1) (N := 9) hx hb hi_X1 (fun _ h => h) tyX1 tyX1_ok nmX1 hown hK.1 hP hD hS 0 rfl rfl 8 (by decide) (hts _ (uT _ _ u_129)) (fun _ h9 => h9) rfl hin rfl (by decide +kernel) rfl rfl (Nat.le_of_ble_eq_true rfl) dX1_init_70 (fun H locs hP hD hS => ?_)
  have hP : va_P g.1 vwCl ([(h0, .inr (1, [.ref q1, .ref q2, .int (0 : Int32), .ref q3, .ref q4, .ref q5, .int (0 : Int32), .int (0 : Int32), .ref q6])), (q1, .inl (g.2.1, 150, .inl (fun _ => 0))), (q2, .inl (g.2.1, 150, .inl (fun _ => 0))), (q3, .inl (g.2.1, 550, .inl (fun _ => 0))), (q4, .inl (g.2.1, 550, .inl (fun _ => 0))), (q5, .inl (g.2.1, 550, .inl (fun _ => 0))), (q6, .inl (g.2.1, 151, .inl (fun _ => 0)))]) H := hP
  have hD : va_D A ([(h0, .inr (1, [.ref q1, .ref q2, .int (0 : Int32), .ref q3, .ref q4, .ref q5, .int (0 : Int32), .int (0 : Int32), .ref q6])), (q1, .inl (g.2.1, 150, .inl (fun _ => 0))), (q2, .inl (g.2.1, 150, .inl (fun _ => 0))), (q3, .inl (g.2.1, 550, .inl (fun _ => 0))), (q4, .inl (g.2.1, 550, .inl (fun _ => 0))), (q5, .inl (g.2.1, 550, .inl (fun _ => 0))), (q6, .inl (g.2.1, 151, .inl (fun _ => 0)))]) := hD
  refine hret 73 ls H _ _ _ ((fA [h0, q1, q2, q3, q4, q5, q6]), (fI [fV [0, 0, (0 : Int32), 0, 0, 0, (0 : Int32), (0 : Int32), 0], (fun _ => 0), (fun _ => 0), (fun _ => 0), (fun _ => 0), (fun _ => 0), (fun _ => 0)])) dX1_init_73 (Nat.le_of_ble_eq_true rfl) (Nat.le_of_ble_eq_true rfl) hS hP hD ?_
  exact ⟨rfl, LI.new rfl rfl rfl rfl rfl rfl⟩
set_option maxHeartbeats 4000000 in
set_option maxRecDepth 100000 in
theorem kX4_init (l : Launch) (g : gG) (h0 : Nat) : MkV l g yX4_init wsX4_init 1 8 264 [.ref h0] ([(h0, .inr (4, [.int 0, .int 0, .null, .null, .null, .int 0, .null, .null, .null, .null, .null]))]) (fun (u : ((Nat → Nat) × (Nat → Nat → Int32))) => wX4 g (u.1) (u.2)) (fun (u : ((Nat → Nat) × (Nat → Nat → Int32))) => (u.1) 0 = h0 ∧ (RI (u.2) ∧ WB (u.2) ∧ ((u.2) 0 0).toInt = 0)) := by
  refine MkV.st (cc := cX4_init) (maxL := 1) (by decide) rfl (Nat.le_of_ble_eq_true rfl) (fun p e s m args below meth c A Q ls fx hin hK hP hD hA hS hl hret => ?_)
  have hx := fx.1
  have hb := fx.2.1
  have hml := fx.2.2.1
  have hown := fx.2.2.2.1
  have hts := fx.2.2.2.2
  have hl : lv_has ls 1 [(0, .ref h0)] := hl
  have hi_X4 : ∀ w ∈ wsX40, w.before args s = true := fun w h => hts w (uT _ w (u_wsX40 w h))
  refine lv_aload_n hx hb dX4_init_0 rfl (lv_at hl 0 rfl) ?_
  refine W.objInit hx hb hown (hts _ (uT _ _ u_132)) (hts _ (uT _ _ u_11)) (hts _ (uT _ _ u_12)) rfl (by rw [hml]; exact hl.1) rfl dX4_init_1 (Nat.le_of_ble_eq_true rfl) (Nat.le_of_ble_eq_true rfl) ?_
  refine W.eq (g2 := F0 m 4 ls []) rfl ?_
  refine lv_aload_n hx hb dX4_init_4 rfl (lv_at hl 0 rfl) ?_
  refine lv_iconst (v := 0) hx hb dX4_init_5 (by decide) ?_
  refine va_put (D := g.1) (ci := 4) (v := .int (0 : Int32)) (ty := .int) (C := RX4) (T := TX4) (N := 11) hx hb hi_X4 (fun _ h => h) tyX4 tyX4_ok nmX4 hown hK.1 hP hD hS 0 rfl rfl 0 (by decide) (hts _ (uT _ _ u_133)) (fun _ h9 => h9) rfl (by decide +kernel) rfl rfl (Nat.le_of_ble_eq_true rfl) dX4_init_6 (fun H locs hP hD hS => ?_)
  have hP : va_P g.1 vwCl ([(h0, .inr (4, [.int (0 : Int32), .int 0, .null, .null, .null, .int 0, .null, .null, .null, .null, .null]))]) H := hP
  have hD : va_D A ([(h0, .inr (4, [.int (0 : Int32), .int 0, .null, .null, .null, .int 0, .null, .null, .null, .null, .null]))]) := hD
  refine lv_aload_n hx hb dX4_init_9 rfl (lv_at hl 0 rfl) ?_
  refine lv_iconst (v := 0) hx hb dX4_init_10 (by decide) ?_
  refine va_put (D := g.1) (ci := 4) (v := .int (0 : Int32)) (ty := .int) (C := RX4) (T := TX4) (N := 11) hx hb hi_X4 (fun _ h => h) tyX4 tyX4_ok nmX4 hown hK.1 hP hD hS 0 rfl rfl 1 (by decide) (hts _ (uT _ _ u_134)) (fun _ h9 => h9) rfl (by decide +kernel) rfl rfl (Nat.le_of_ble_eq_true rfl) dX4_init_11 (fun H locs hP hD hS => ?_)
  have hP : va_P g.1 vwCl ([(h0, .inr (4, [.int (0 : Int32), .int (0 : Int32), .null, .null, .null, .int 0, .null, .null, .null, .null, .null]))]) H := hP
  have hD : va_D A ([(h0, .inr (4, [.int (0 : Int32), .int (0 : Int32), .null, .null, .null, .int 0, .null, .null, .null, .null, .null]))]) := hD
  refine lv_aload_n hx hb dX4_init_14 rfl (lv_at hl 0 rfl) ?_
  refine lv_bipush (v := 20) hx hb dX4_init_15 (by decide) ?_
  refine r_newa (atype := .int) hx hb (hts _ (uT _ _ u_13)) rfl (Or.inl rfl) hK hP hD hS hA 0 rfl (a0 := (20, .inl (fun _ => 0))) (fun _ => rfl) (by decide) rfl (Nat.le_of_ble_eq_true rfl) (Nat.le_of_ble_eq_true rfl) (Nat.le_of_ble_eq_true rfl) dX4_init_17 (fun q1 H hP hD hS => ?_)
  have hP : va_P g.1 vwCl ([(h0, .inr (4, [.int (0 : Int32), .int (0 : Int32), .null, .null, .null, .int 0, .null, .null, .null, .null, .null])), (q1, .inl (g.2.1, 20, .inl (fun _ => 0)))]) H := hP
  have hD : va_D A ([(h0, .inr (4, [.int (0 : Int32), .int (0 : Int32), .null, .null, .null, .int 0, .null, .null, .null, .null, .null])), (q1, .inl (g.2.1, 20, .inl (fun _ => 0)))]) := hD
  refine va_putF (D := g.1) (ci := 4) (v := .ref q1) (ty := .array .int) (C := RX4) (T := TX4) (N := 11) hx hb hi_X4 (fun _ h => h) tyX4 tyX4_ok nmX4 hown hK.1 hP hD hS 0 rfl rfl 2 (by decide) (hts _ (uT _ _ u_135)) (fun _ h9 => h9) rfl hin rfl (by decide +kernel) rfl rfl (Nat.le_of_ble_eq_true rfl) dX4_init_19 (fun H locs hP hD hS => ?_)
  have hP : va_P g.1 vwCl ([(h0, .inr (4, [.int (0 : Int32), .int (0 : Int32), .ref q1, .null, .null, .int 0, .null, .null, .null, .null, .null])), (q1, .inl (g.2.1, 20, .inl (fun _ => 0)))]) H := hP
  have hD : va_D A ([(h0, .inr (4, [.int (0 : Int32), .int (0 : Int32), .ref q1, .null, .null, .int 0, .null, .null, .null, .null, .null])), (q1, .inl (g.2.1, 20, .inl (fun _ => 0)))]) := hD
  refine lv_aload_n hx hb dX4_init_22 rfl (lv_at hl 0 rfl) ?_
  refine lv_bipush (v := 20) hx hb dX4_init_23 (by decide) ?_
  refine r_newa (atype := .int) hx hb (hts _ (uT _ _ u_13)) rfl (Or.inl rfl) hK hP hD hS hA 0 rfl (a0 := (20, .inl (fun _ => 0))) (fun _ => rfl) (by decide) rfl (Nat.le_of_ble_eq_true rfl) (Nat.le_of_ble_eq_true rfl) (Nat.le_of_ble_eq_true rfl) dX4_init_25 (fun q2 H hP hD hS => ?_)
  have hP : va_P g.1 vwCl ([(h0, .inr (4, [.int (0 : Int32), .int (0 : Int32), .ref q1, .null, .null, .int 0, .null, .null, .null, .null, .null])), (q1, .inl (g.2.1, 20, .inl (fun _ => 0))), (q2, .inl (g.2.1, 20, .inl (fun _ => 0)))]) H := hP
  have hD : va_D A ([(h0, .inr (4, [.int (0 : Int32), .int (0 : Int32), .ref q1, .null, .null, .int 0, .null, .null, .null, .null, .null])), (q1, .inl (g.2.1, 20, .inl (fun _ => 0))), (q2, .inl (g.2.1, 20, .inl (fun _ => 0)))]) := hD
  refine va_putF (D := g.1) (ci := 4) (v := .ref q2) (ty := .array .int) (C := RX4) (T := TX4) (N := 11) hx hb hi_X4 (fun _ h => h) tyX4 tyX4_ok nmX4 hown hK.1 hP hD hS 0 rfl rfl 3 (by decide) (hts _ (uT _ _ u_136)) (fun _ h9 => h9) rfl hin rfl (by decide +kernel) rfl rfl (Nat.le_of_ble_eq_true rfl) dX4_init_27 (fun H locs hP hD hS => ?_)
  have hP : va_P g.1 vwCl ([(h0, .inr (4, [.int (0 : Int32), .int (0 : Int32), .ref q1, .ref q2, .null, .int 0, .null, .null, .null, .null, .null])), (q1, .inl (g.2.1, 20, .inl (fun _ => 0))), (q2, .inl (g.2.1, 20, .inl (fun _ => 0)))]) H := hP
  have hD : va_D A ([(h0, .inr (4, [.int (0 : Int32), .int (0 : Int32), .ref q1, .ref q2, .null, .int 0, .null, .null, .null, .null, .null])), (q1, .inl (g.2.1, 20, .inl (fun _ => 0))), (q2, .inl (g.2.1, 20, .inl (fun _ => 0)))]) := hD
  refine lv_aload_n hx hb dX4_init_30 rfl (lv_at hl 0 rfl) ?_
  refine lv_bipush (v := 20) hx hb dX4_init_31 (by decide) ?_
  refine r_newa (atype := .int) hx hb (hts _ (uT _ _ u_13)) rfl (Or.inl rfl) hK hP hD hS hA 0 rfl (a0 := (20, .inl (fun _ => 0))) (fun _ => rfl) (by decide) rfl (Nat.le_of_ble_eq_true rfl) (Nat.le_of_ble_eq_true rfl) (Nat.le_of_ble_eq_true rfl) dX4_init_33 (fun q3 H hP hD hS => ?_)
  have hP : va_P g.1 vwCl ([(h0, .inr (4, [.int (0 : Int32), .int (0 : Int32), .ref q1, .ref q2, .null, .int 0, .null, .null, .null, .null, .null])), (q1, .inl (g.2.1, 20, .inl (fun _ => 0))), (q2, .inl (g.2.1, 20, .inl (fun _ => 0))), (q3, .inl (g.2.1, 20, .inl (fun _ => 0)))]) H := hP
  have hD : va_D A ([(h0, .inr (4, [.int (0 : Int32), .int (0 : Int32), .ref q1, .ref q2, .null, .int 0, .null, .null, .null, .null, .null])), (q1, .inl (g.2.1, 20, .inl (fun _ => 0))), (q2, .inl (g.2.1, 20, .inl (fun _ => 0))), (q3, .inl (g.2.1, 20, .inl (fun _ => 0)))]) := hD
  refine va_putF (D := g.1) (ci := 4) (v := .ref q3) (ty := .array .int) (C := RX4) (T := TX4) (N := 11) hx hb hi_X4 (fun _ h => h) tyX4 tyX4_ok nmX4 hown hK.1 hP hD hS 0 rfl rfl 4 (by decide) (hts _ (uT _ _ u_137)) (fun _ h9 => h9) rfl hin rfl (by decide +kernel) rfl rfl (Nat.le_of_ble_eq_true rfl) dX4_init_35 (fun H locs hP hD hS => ?_)
  have hP : va_P g.1 vwCl ([(h0, .inr (4, [.int (0 : Int32), .int (0 : Int32), .ref q1, .ref q2, .ref q3, .int 0, .null, .null, .null, .null, .null])), (q1, .inl (g.2.1, 20, .inl (fun _ => 0))), (q2, .inl (g.2.1, 20, .inl (fun _ => 0))), (q3, .inl (g.2.1, 20, .inl (fun _ => 0)))]) H := hP
  have hD : va_D A ([(h0, .inr (4, [.int (0 : Int32), .int (0 : Int32), .ref q1, .ref q2, .ref q3, .int 0, .null, .null, .null, .null, .null])), (q1, .inl (g.2.1, 20, .inl (fun _ => 0))), (q2, .inl (g.2.1, 20, .inl (fun _ => 0))), (q3, .inl (g.2.1, 20, .inl (fun _ => 0)))]) := hD
  refine lv_aload_n hx hb dX4_init_38 rfl (lv_at hl 0 rfl) ?_
  refine lv_iconst (v := 0) hx hb dX4_init_39 (by decide) ?_
  refine va_put (D := g.1) (ci := 4) (v := .int (0 : Int32)) (ty := .int) (C := RX4) (T := TX4) (N := 11) hx hb hi_X4 (fun _ h => h) tyX4 tyX4_ok nmX4 hown hK.1 hP hD hS 0 rfl rfl 5 (by decide) (hts _ (uT _ _ u_138)) (fun _ h9 => h9) rfl (by decide +kernel) rfl rfl (Nat.le_of_ble_eq_true rfl) dX4_init_40 (fun H locs hP hD hS => ?_)
  have hP : va_P g.1 vwCl ([(h0, .inr (4, [.int (0 : Int32), .int (0 : Int32), .ref q1, .ref q2, .ref q3, .int (0 : Int32), .null, .null, .null, .null, .null])), (q1, .inl (g.2.1, 20, .inl (fun _ => 0))), (q2, .inl (g.2.1, 20, .inl (fun _ => 0))), (q3, .inl (g.2.1, 20, .inl (fun _ => 0)))]) H := hP
  have hD : va_D A ([(h0, .inr (4, [.int (0 : Int32), .int (0 : Int32), .ref q1, .ref q2, .ref q3, .int (0 : Int32), .null, .null, .null, .null, .null])), (q1, .inl (g.2.1, 20, .inl (fun _ => 0))), (q2, .inl (g.2.1, 20, .inl (fun _ => 0))), (q3, .inl (g.2.1, 20, .inl (fun _ => 0)))]) := hD
  refine lv_aload_n hx hb dX4_init_43 rfl (lv_at hl 0 rfl) ?_
  refine lv_bipush (v := 21) hx hb dX4_init_44 (by decide) ?_
  refine r_newa (atype := .int) hx hb (hts _ (uT _ _ u_13)) rfl (Or.inl rfl) hK hP hD hS hA 0 rfl (a0 := (21, .inl (fun _ => 0))) (fun _ => rfl) (by decide) rfl (Nat.le_of_ble_eq_true rfl) (Nat.le_of_ble_eq_true rfl) (Nat.le_of_ble_eq_true rfl) dX4_init_46 (fun q4 H hP hD hS => ?_)
  have hP : va_P g.1 vwCl ([(h0, .inr (4, [.int (0 : Int32), .int (0 : Int32), .ref q1, .ref q2, .ref q3, .int (0 : Int32), .null, .null, .null, .null, .null])), (q1, .inl (g.2.1, 20, .inl (fun _ => 0))), (q2, .inl (g.2.1, 20, .inl (fun _ => 0))), (q3, .inl (g.2.1, 20, .inl (fun _ => 0))), (q4, .inl (g.2.1, 21, .inl (fun _ => 0)))]) H := hP
  have hD : va_D A ([(h0, .inr (4, [.int (0 : Int32), .int (0 : Int32), .ref q1, .ref q2, .ref q3, .int (0 : Int32), .null, .null, .null, .null, .null])), (q1, .inl (g.2.1, 20, .inl (fun _ => 0))), (q2, .inl (g.2.1, 20, .inl (fun _ => 0))), (q3, .inl (g.2.1, 20, .inl (fun _ => 0))), (q4, .inl (g.2.1, 21, .inl (fun _ => 0)))]) := hD
  refine va_putF (D := g.1) (ci := 4) (v := .ref q4) (ty := .array .int) (C := RX4) (T := TX4) (N := 11) hx hb hi_X4 (fun _ h => h) tyX4 tyX4_ok nmX4 hown hK.1 hP hD hS 0 rfl rfl 6 (by decide) (hts _ (uT _ _ u_139)) (fun _ h9 => h9) rfl hin rfl (by decide +kernel) rfl rfl (Nat.le_of_ble_eq_true rfl) dX4_init_48 (fun H locs hP hD hS => ?_)
  have hP : va_P g.1 vwCl ([(h0, .inr (4, [.int (0 : Int32), .int (0 : Int32), .ref q1, .ref q2, .ref q3, .int (0 : Int32), .ref q4, .null, .null, .null, .null])), (q1, .inl (g.2.1, 20, .inl (fun _ => 0))), (q2, .inl (g.2.1, 20, .inl (fun _ => 0))), (q3, .inl (g.2.1, 20, .inl (fun _ => 0))), (q4, .inl (g.2.1, 21, .inl (fun _ => 0)))]) H := hP
  have hD : va_D A ([(h0, .inr (4, [.int (0 : Int32), .int (0 : Int32), .ref q1, .ref q2, .ref q3, .int (0 : Int32), .ref q4, .null, .null, .null, .null])), (q1, .inl (g.2.1, 20, .inl (fun _ => 0))), (q2, .inl (g.2.1, 20, .inl (fun _ => 0))), (q3, .inl (g.2.1, 20, .inl (fun _ => 0))), (q4, .inl (g.2.1, 21, .inl (fun _ => 0)))]) := hD
  refine lv_aload_n hx hb dX4_init_51 rfl (lv_at hl 0 rfl) ?_
  refine lv_bipush (v := 120) hx hb dX4_init_52 (by decide) ?_
  refine r_newa (atype := .int) hx hb (hts _ (uT _ _ u_13)) rfl (Or.inl rfl) hK hP hD hS hA 0 rfl (a0 := (120, .inl (fun _ => 0))) (fun _ => rfl) (by decide) rfl (Nat.le_of_ble_eq_true rfl) (Nat.le_of_ble_eq_true rfl) (Nat.le_of_ble_eq_true rfl) dX4_init_54 (fun q5 H hP hD hS => ?_)
  have hP : va_P g.1 vwCl ([(h0, .inr (4, [.int (0 : Int32), .int (0 : Int32), .ref q1, .ref q2, .ref q3, .int (0 : Int32), .ref q4, .null, .null, .null, .null])), (q1, .inl (g.2.1, 20, .inl (fun _ => 0))), (q2, .inl (g.2.1, 20, .inl (fun _ => 0))), (q3, .inl (g.2.1, 20, .inl (fun _ => 0))), (q4, .inl (g.2.1, 21, .inl (fun _ => 0))), (q5, .inl (g.2.1, 120, .inl (fun _ => 0)))]) H := hP
  have hD : va_D A ([(h0, .inr (4, [.int (0 : Int32), .int (0 : Int32), .ref q1, .ref q2, .ref q3, .int (0 : Int32), .ref q4, .null, .null, .null, .null])), (q1, .inl (g.2.1, 20, .inl (fun _ => 0))), (q2, .inl (g.2.1, 20, .inl (fun _ => 0))), (q3, .inl (g.2.1, 20, .inl (fun _ => 0))), (q4, .inl (g.2.1, 21, .inl (fun _ => 0))), (q5, .inl (g.2.1, 120, .inl (fun _ => 0)))]) := hD
  refine va_putF (D := g.1) (ci := 4) (v := .ref q5) (ty := .array .int) (C := RX4) (T := TX4) (N := 11) hx hb hi_X4 (fun _ h => h) tyX4 tyX4_ok nmX4 hown hK.1 hP hD hS 0 rfl rfl 7 (by decide) (hts _ (uT _ _ u_140)) (fun _ h9 => h9) rfl hin rfl (by decide +kernel) rfl rfl (Nat.le_of_ble_eq_true rfl) dX4_init_56 (fun H locs hP hD hS => ?_)
  have hP : va_P g.1 vwCl ([(h0, .inr (4, [.int (0 : Int32), .int (0 : Int32), .ref q1, .ref q2, .ref q3, .int (0 : Int32), .ref q4, .ref q5, .null, .null, .null])), (q1, .inl (g.2.1, 20, .inl (fun _ => 0))), (q2, .inl (g.2.1, 20, .inl (fun _ => 0))), (q3, .inl (g.2.1, 20, .inl (fun _ => 0))), (q4, .inl (g.2.1, 21, .inl (fun _ => 0))), (q5, .inl (g.2.1, 120, .inl (fun _ => 0)))]) H := hP
  have hD : va_D A ([(h0, .inr (4, [.int (0 : Int32), .int (0 : Int32), .ref q1, .ref q2, .ref q3, .int (0 : Int32), .ref q4, .ref q5, .null, .null, .null])), (q1, .inl (g.2.1, 20, .inl (fun _ => 0))), (q2, .inl (g.2.1, 20, .inl (fun _ => 0))), (q3, .inl (g.2.1, 20, .inl (fun _ => 0))), (q4, .inl (g.2.1, 21, .inl (fun _ => 0))), (q5, .inl (g.2.1, 120, .inl (fun _ => 0)))]) := hD
  refine lv_aload_n hx hb dX4_init_59 rfl (lv_at hl 0 rfl) ?_
  refine lv_bipush (v := 21) hx hb dX4_init_60 (by decide) ?_
  refine r_newa (atype := .int) hx hb (hts _ (uT _ _ u_13)) rfl (Or.inl rfl) hK hP hD hS hA 0 rfl (a0 := (21, .inl (fun _ => 0))) (fun _ => rfl) (by decide) rfl (Nat.le_of_ble_eq_true rfl) (Nat.le_of_ble_eq_true rfl) (Nat.le_of_ble_eq_true rfl) dX4_init_62 (fun q6 H hP hD hS => ?_)
  have hP : va_P g.1 vwCl ([(h0, .inr (4, [.int (0 : Int32), .int (0 : Int32), .ref q1, .ref q2, .ref q3, .int (0 : Int32), .ref q4, .ref q5, .null, .null, .null])), (q1, .inl (g.2.1, 20, .inl (fun _ => 0))), (q2, .inl (g.2.1, 20, .inl (fun _ => 0))), (q3, .inl (g.2.1, 20, .inl (fun _ => 0))), (q4, .inl (g.2.1, 21, .inl (fun _ => 0))), (q5, .inl (g.2.1, 120, .inl (fun _ => 0))), (q6, .inl (g.2.1, 21, .inl (fun _ => 0)))]) H := hP
  have hD : va_D A ([(h0, .inr (4, [.int (0 : Int32), .int (0 : Int32), .ref q1, .ref q2, .ref q3, .int (0 : Int32), .ref q4, .ref q5, .null, .null, .null])), (q1, .inl (g.2.1, 20, .inl (fun _ => 0))), (q2, .inl (g.2.1, 20, .inl (fun _ => 0))), (q3, .inl (g.2.1, 20, .inl (fun _ => 0))), (q4, .inl (g.2.1, 21, .inl (fun _ => 0))), (q5, .inl (g.2.1, 120, .inl (fun _ => 0))), (q6, .inl (g.2.1, 21, .inl (fun _ => 0)))]) := hD
  refine va_putF (D := g.1) (ci := 4) (v := .ref q6) (ty := .array .int) (C := RX4) (T := TX4) (N := 11) hx hb hi_X4 (fun _ h => h) tyX4 tyX4_ok nmX4 hown hK.1 hP hD hS 0 rfl rfl 8 (by decide) (hts _ (uT _ _ u_141)) (fun _ h9 => h9) rfl hin rfl (by decide +kernel) rfl rfl (Nat.le_of_ble_eq_true rfl) dX4_init_64 (fun H locs hP hD hS => ?_)
  have hP : va_P g.1 vwCl ([(h0, .inr (4, [.int (0 : Int32), .int (0 : Int32), .ref q1, .ref q2, .ref q3, .int (0 : Int32), .ref q4, .ref q5, .ref q6, .null, .null])), (q1, .inl (g.2.1, 20, .inl (fun _ => 0))), (q2, .inl (g.2.1, 20, .inl (fun _ => 0))), (q3, .inl (g.2.1, 20, .inl (fun _ => 0))), (q4, .inl (g.2.1, 21, .inl (fun _ => 0))), (q5, .inl (g.2.1, 120, .inl (fun _ => 0))), (q6, .inl (g.2.1, 21, .inl (fun _ => 0)))]) H := hP
  have hD : va_D A ([(h0, .inr (4, [.int (0 : Int32), .int (0 : Int32), .ref q1, .ref q2, .ref q3, .int (0 : Int32), .ref q4, .ref q5, .ref q6, .null, .null])), (q1, .inl (g.2.1, 20, .inl (fun _ => 0))), (q2, .inl (g.2.1, 20, .inl (fun _ => 0))), (q3, .inl (g.2.1, 20, .inl (fun _ => 0))), (q4, .inl (g.2.1, 21, .inl (fun _ => 0))), (q5, .inl (g.2.1, 120, .inl (fun _ => 0))), (q6, .inl (g.2.1, 21, .inl (fun _ => 0)))]) := hD
  refine lv_aload_n hx hb dX4_init_67 rfl (lv_at hl 0 rfl) ?_
  refine lv_bipush (v := 21) hx hb dX4_init_68 (by decide) ?_
  refine r_newa (atype := .int) hx hb (hts _ (uT _ _ u_13)) rfl (Or.inl rfl) hK hP hD hS hA 0 rfl (a0 := (21, .inl (fun _ => 0))) (fun _ => rfl) (by decide) rfl (Nat.le_of_ble_eq_true rfl) (Nat.le_of_ble_eq_true rfl) (Nat.le_of_ble_eq_true rfl) dX4_init_70 (fun q7 H hP hD hS => ?_)
  have hP : va_P g.1 vwCl ([(h0, .inr (4, [.int (0 : Int32), .int (0 : Int32), .ref q1, .ref q2, .ref q3, .int (0 : Int32), .ref q4, .ref q5, .ref q6, .null, .null])), (q1, .inl (g.2.1, 20, .inl (fun _ => 0))), (q2, .inl (g.2.1, 20, .inl (fun _ => 0))), (q3, .inl (g.2.1, 20, .inl (fun _ => 0))), (q4, .inl (g.2.1, 21, .inl (fun _ => 0))), (q5, .inl (g.2.1, 120, .inl (fun _ => 0))), (q6, .inl (g.2.1, 21, .inl (fun _ => 0))), (q7, .inl (g.2.1, 21, .inl (fun _ => 0)))]) H := hP
  have hD : va_D A ([(h0, .inr (4, [.int (0 : Int32), .int (0 : Int32), .ref q1, .ref q2, .ref q3, .int (0 : Int32), .ref q4, .ref q5, .ref q6, .null, .null])), (q1, .inl (g.2.1, 20, .inl (fun _ => 0))), (q2, .inl (g.2.1, 20, .inl (fun _ => 0))), (q3, .inl (g.2.1, 20, .inl (fun _ => 0))), (q4, .inl (g.2.1, 21, .inl (fun _ => 0))), (q5, .inl (g.2.1, 120, .inl (fun _ => 0))), (q6, .inl (g.2.1, 21, .inl (fun _ => 0))), (q7, .inl (g.2.1, 21, .inl (fun _ => 0)))]) := hD
  refine va_putF (D := g.1) (ci := 4) (v := .ref q7) (ty := .array .int) (C := RX4) (T := TX4) (N := 11) hx hb hi_X4 (fun _ h => h) tyX4 tyX4_ok nmX4 hown hK.1 hP hD hS 0 rfl rfl 9 (by decide) (hts _ (uT _ _ u_142)) (fun _ h9 => h9) rfl hin rfl (by decide +kernel) rfl rfl (Nat.le_of_ble_eq_true rfl) dX4_init_72 (fun H locs hP hD hS => ?_)
  have hP : va_P g.1 vwCl ([(h0, .inr (4, [.int (0 : Int32), .int (0 : Int32), .ref q1, .ref q2, .ref q3, .int (0 : Int32), .ref q4, .ref q5, .ref q6, .ref q7, .null])), (q1, .inl (g.2.1, 20, .inl (fun _ => 0))), (q2, .inl (g.2.1, 20, .inl (fun _ => 0))), (q3, .inl (g.2.1, 20, .inl (fun _ => 0))), (q4, .inl (g.2.1, 21, .inl (fun _ => 0))), (q5, .inl (g.2.1, 120, .inl (fun _ => 0))), (q6, .inl (g.2.1, 21, .inl (fun _ => 0))), (q7, .inl (g.2.1, 21, .inl (fun _ => 0)))]) H := hP
  have hD : va_D A ([(h0, .inr (4, [.int (0 : Int32), .int (0 : Int32), .ref q1, .ref q2, .ref q3, .int (0 : Int32), .ref q4, .ref q5, .ref q6, .ref q7, .null])), (q1, .inl (g.2.1, 20, .inl (fun _ => 0))), (q2, .inl (g.2.1, 20, .inl (fun _ => 0))), (q3, .inl (g.2.1, 20, .inl (fun _ => 0))), (q4, .inl (g.2.1, 21, .inl (fun _ => 0))), (q5, .inl (g.2.1, 120, .inl (fun _ => 0))), (q6, .inl (g.2.1, 21, .inl (fun _ => 0))), (q7, .inl (g.2.1, 21, .inl (fun _ => 0)))]) := hD
  refine lv_aload_n hx hb dX4_init_75 rfl (lv_at hl 0 rfl) ?_
  refine lv_bipush (v := 21) hx hb dX4_init_76 (by decide) ?_
  refine r_newa (atype := .int) hx hb (hts _ (uT _ _ u_13)) rfl (Or.inl rfl) hK hP hD hS hA 0 rfl (a0 := (21, .inl (fun _ => 0))) (fun _ => rfl) (by decide) rfl (Nat.le_of_ble_eq_true rfl) (Nat.le_of_ble_eq_true rfl) (Nat.le_of_ble_eq_true rfl) dX4_init_78 (fun q8 H hP hD hS => ?_)
  have hP : va_P g.1 vwCl ([(h0, .inr (4, [.int (0 : Int32), .int (0 : Int32), .ref q1, .ref q2, .ref q3, .int (0 : Int32), .ref q4, .ref q5, .ref q6, .ref q7, .null])), (q1, .inl (g.2.1, 20, .inl (fun _ => 0))), (q2, .inl (g.2.1, 20, .inl (fun _ => 0))), (q3, .inl (g.2.1, 20, .inl (fun _ => 0))), (q4, .inl (g.2.1, 21, .inl (fun _ => 0))), (q5, .inl (g.2.1, 120, .inl (fun _ => 0))), (q6, .inl (g.2.1, 21, .inl (fun _ => 0))), (q7, .inl (g.2.1, 21, .inl (fun _ => 0))), (q8, .inl (g.2.1, 21, .inl (fun _ => 0)))]) H := hP
  have hD : va_D A ([(h0, .inr (4, [.int (0 : Int32), .int (0 : Int32), .ref q1, .ref q2, .ref q3, .int (0 : Int32), .ref q4, .ref q5, .ref q6, .ref q7, .null])), (q1, .inl (g.2.1, 20, .inl (fun _ => 0))), (q2, .inl (g.2.1, 20, .inl (fun _ => 0))), (q3, .inl (g.2.1, 20, .inl (fun _ => 0))), (q4, .inl (g.2.1, 21, .inl (fun _ => 0))), (q5, .inl (g.2.1, 120, .inl (fun _ => 0))), (q6, .inl (g.2.1, 21, .inl (fun _ => 0))), (q7, .inl (g.2.1, 21, .inl (fun _ => 0))), (q8, .inl (g.2.1, 21, .inl (fun _ => 0)))]) := hD
  refine va_putF (D := g.1) (ci := 4) (v := .ref q8) (ty := .array .int) (C := RX4) (T := TX4) (N := 11) hx hb hi_X4 (fun _ h => h) tyX4 tyX4_ok nmX4 hown hK.1 hP hD hS 0 rfl rfl 10 (by decide) (hts _ (uT _ _ u_143)) (fun _ h9 => h9) rfl hin rfl (by decide +kernel) rfl rfl (Nat.le_of_ble_eq_true rfl) dX4_init_80 (fun H locs hP hD hS => ?_)
  have hP : va_P g.1 vwCl ([(h0, .inr (4, [.int (0 : Int32), .int (0 : Int32), .ref q1, .ref q2, .ref q3, .int (0 : Int32), .ref q4, .ref q5, .ref q6, .ref q7, .ref q8])), (q1, .inl (g.2.1, 20, .inl (fun _ => 0))), (q2, .inl (g.2.1, 20, .inl (fun _ => 0))), (q3, .inl (g.2.1, 20, .inl (fun _ => 0))), (q4, .inl (g.2.1, 21, .inl (fun _ => 0))), (q5, .inl (g.2.1, 120, .inl (fun _ => 0))), (q6, .inl (g.2.1, 21, .inl (fun _ => 0))), (q7, .inl (g.2.1, 21, .inl (fun _ => 0))), (q8, .inl (g.2.1, 21, .inl (fun _ => 0)))]) H := hP
  have hD : va_D A ([(h0, .inr (4, [.int (0 : Int32), .int (0 : Int32), .ref q1, .ref q2, .ref q3, .int (0 : Int32), .ref q4, .ref q5, .ref q6, .ref q7, .ref q8])), (q1, .inl (g.2.1, 20, .inl (fun _ => 0))), (q2, .inl (g.2.1, 20, .inl (fun _ => 0))), (q3, .inl (g.2.1, 20, .inl (fun _ => 0))), (q4, .inl (g.2.1, 21, .inl (fun _ => 0))), (q5, .inl (g.2.1, 120, .inl (fun _ => 0))), (q6, .inl (g.2.1, 21, .inl (fun _ => 0))), (q7, .inl (g.2.1, 21, .inl (fun _ => 0))), (q8, .inl (g.2.1, 21, .inl (fun _ => 0)))]) := hD
  refine hret 83 ls H _ _ _ ((fA [h0, q1, q2, q3, q4, q5, q6, q7, q8]), (fI [fV [(0 : Int32), (0 : Int32), 0, 0, 0, (0 : Int32), 0, 0, 0, 0, 0], (fun _ => 0), (fun _ => 0), (fun _ => 0), (fun _ => 0), (fun _ => 0), (fun _ => 0), (fun _ => 0), (fun _ => 0)])) dX4_init_83 (Nat.le_of_ble_eq_true rfl) (Nat.le_of_ble_eq_true rfl) hS hP hD ?_
  exact ⟨rfl, ⟨RI.new rfl rfl rfl rfl rfl, (fun _ => (show 0 ≤ ((0 : Int32)).toInt ∧ ((0 : Int32)).toInt ≤ 999999 from ⟨by decide, by decide⟩)), (show ((0 : Int32)).toInt = 0 from by decide)⟩⟩
set_option maxHeartbeats 4000000 in
set_option maxRecDepth 100000 in
theorem kX8_init (l : Launch) (g : gG) (h0 : Nat) : MkV l g yX8_init wsX8_init 1 3 248 [.ref h0] ([(h0, .inr (8, [.null, .null, .null]))]) (fun (u : ((Nat → Nat) × (Nat → Nat → Int32) × (Nat → Nat → Int64))) => wX8 g (u.1) (u.2.1) (u.2.2)) (fun (u : ((Nat → Nat) × (Nat → Nat → Int32) × (Nat → Nat → Int64))) => (u.1) 0 = h0 ∧ (DI (u.2.1) ∧ ∀ j : Nat, j < 4 → (u.2.1) 3 j = -1)) := by
  refine MkV.st (cc := cX8_init) (maxL := 2) (by decide) rfl (Nat.le_of_ble_eq_true rfl) (fun p e s m args below meth c A Q ls fx hin hK hP hD hA hS hl hret => ?_)
  have hx := fx.1
  have hb := fx.2.1
  have hml := fx.2.2.1
  have hown := fx.2.2.2.1
  have hts := fx.2.2.2.2
  have hl : lv_has ls 2 [(0, .ref h0)] := hl
  have hi_X8 : ∀ w ∈ wsX80, w.before args s = true := fun w h => hts w (uT _ w (u_wsX80 w h))
  refine lv_aload_n hx hb dX8_init_0 rfl (lv_at hl 0 rfl) ?_
  refine W.objInit hx hb hown (hts _ (uT _ _ u_67)) (hts _ (uT _ _ u_11)) (hts _ (uT _ _ u_12)) rfl (by rw [hml]; exact hl.1) rfl dX8_init_1 (Nat.le_of_ble_eq_true rfl) (Nat.le_of_ble_eq_true rfl) ?_
  refine W.eq (g2 := F0 m 4 ls []) rfl ?_
  refine lv_aload_n hx hb dX8_init_4 rfl (lv_at hl 0 rfl) ?_
  refine lv_sipush (v := 240) hx hb dX8_init_5 (by decide) ?_
  refine r_newa (atype := .long) hx hb (hts _ (uT _ _ u_68)) rfl (Or.inr (Or.inl rfl)) hK hP hD hS hA 1 rfl (a0 := (240, .inr (.inl (fun _ => 0)))) (fun _ => rfl) (by decide) rfl (Nat.le_of_ble_eq_true rfl) (Nat.le_of_ble_eq_true rfl) (Nat.le_of_ble_eq_true rfl) dX8_init_8 (fun q1 H hP hD hS => ?_)
  have hP : va_P g.1 vwCl ([(h0, .inr (8, [.null, .null, .null])), (q1, .inl (g.2.2.1, 240, .inr (.inl (fun _ => 0))))]) H := hP
  have hD : va_D A ([(h0, .inr (8, [.null, .null, .null])), (q1, .inl (g.2.2.1, 240, .inr (.inl (fun _ => 0))))]) := hD
  refine va_putF (D := g.1) (ci := 8) (v := .ref q1) (ty := .array .long) (C := RX8) (T := TX8) (N := 3) hx hb hi_X8 (fun _ h => h) tyX8 tyX8_ok nmX8 hown hK.1 hP hD hS 0 rfl rfl 0 (by decide) (hts _ (uT _ _ u_69)) (fun _ h9 => h9) rfl hin rfl (by decide +kernel) rfl rfl (Nat.le_of_ble_eq_true rfl) dX8_init_10 (fun H locs hP hD hS => ?_)
  have hP : va_P g.1 vwCl ([(h0, .inr (8, [.ref q1, .null, .null])), (q1, .inl (g.2.2.1, 240, .inr (.inl (fun _ => 0))))]) H := hP
  have hD : va_D A ([(h0, .inr (8, [.ref q1, .null, .null])), (q1, .inl (g.2.2.1, 240, .inr (.inl (fun _ => 0))))]) := hD
  refine lv_aload_n hx hb dX8_init_13 rfl (lv_at hl 0 rfl) ?_
  refine lv_iconst (v := 4) hx hb dX8_init_14 (by decide) ?_
  refine r_newa (atype := .int) hx hb (hts _ (uT _ _ u_13)) rfl (Or.inl rfl) hK hP hD hS hA 0 rfl (a0 := (4, .inl (fun _ => 0))) (fun _ => rfl) (by decide) rfl (Nat.le_of_ble_eq_true rfl) (Nat.le_of_ble_eq_true rfl) (Nat.le_of_ble_eq_true rfl) dX8_init_15 (fun q2 H hP hD hS => ?_)
  have hP : va_P g.1 vwCl ([(h0, .inr (8, [.ref q1, .null, .null])), (q1, .inl (g.2.2.1, 240, .inr (.inl (fun _ => 0)))), (q2, .inl (g.2.1, 4, .inl (fun _ => 0)))]) H := hP
  have hD : va_D A ([(h0, .inr (8, [.ref q1, .null, .null])), (q1, .inl (g.2.2.1, 240, .inr (.inl (fun _ => 0)))), (q2, .inl (g.2.1, 4, .inl (fun _ => 0)))]) := hD
  refine va_putF (D := g.1) (ci := 8) (v := .ref q2) (ty := .array .int) (C := RX8) (T := TX8) (N := 3) hx hb hi_X8 (fun _ h => h) tyX8 tyX8_ok nmX8 hown hK.1 hP hD hS 0 rfl rfl 1 (by decide) (hts _ (uT _ _ u_70)) (fun _ h9 => h9) rfl hin rfl (by decide +kernel) rfl rfl (Nat.le_of_ble_eq_true rfl) dX8_init_17 (fun H locs hP hD hS => ?_)
  have hP : va_P g.1 vwCl ([(h0, .inr (8, [.ref q1, .ref q2, .null])), (q1, .inl (g.2.2.1, 240, .inr (.inl (fun _ => 0)))), (q2, .inl (g.2.1, 4, .inl (fun _ => 0)))]) H := hP
  have hD : va_D A ([(h0, .inr (8, [.ref q1, .ref q2, .null])), (q1, .inl (g.2.2.1, 240, .inr (.inl (fun _ => 0)))), (q2, .inl (g.2.1, 4, .inl (fun _ => 0)))]) := hD
  refine lv_aload_n hx hb dX8_init_20 rfl (lv_at hl 0 rfl) ?_
  refine lv_iconst (v := 4) hx hb dX8_init_21 (by decide) ?_
  refine r_newa (atype := .int) hx hb (hts _ (uT _ _ u_13)) rfl (Or.inl rfl) hK hP hD hS hA 0 rfl (a0 := (4, .inl (fun _ => 0))) (fun _ => rfl) (by decide) rfl (Nat.le_of_ble_eq_true rfl) (Nat.le_of_ble_eq_true rfl) (Nat.le_of_ble_eq_true rfl) dX8_init_22 (fun q3 H hP hD hS => ?_)
  have hP : va_P g.1 vwCl ([(h0, .inr (8, [.ref q1, .ref q2, .null])), (q1, .inl (g.2.2.1, 240, .inr (.inl (fun _ => 0)))), (q2, .inl (g.2.1, 4, .inl (fun _ => 0))), (q3, .inl (g.2.1, 4, .inl (fun _ => 0)))]) H := hP
  have hD : va_D A ([(h0, .inr (8, [.ref q1, .ref q2, .null])), (q1, .inl (g.2.2.1, 240, .inr (.inl (fun _ => 0)))), (q2, .inl (g.2.1, 4, .inl (fun _ => 0))), (q3, .inl (g.2.1, 4, .inl (fun _ => 0)))]) := hD
  refine va_putF (D := g.1) (ci := 8) (v := .ref q3) (ty := .array .int) (C := RX8) (T := TX8) (N := 3) hx hb hi_X8 (fun _ h => h) tyX8 tyX8_ok nmX8 hown hK.1 hP hD hS 0 rfl rfl 2 (by decide) (hts _ (uT _ _ u_71)) (fun _ h9 => h9) rfl hin rfl (by decide +kernel) rfl rfl (Nat.le_of_ble_eq_true rfl) dX8_init_24 (fun H locs hP hD hS => ?_)
  have hP : va_P g.1 vwCl ([(h0, .inr (8, [.ref q1, .ref q2, .ref q3])), (q1, .inl (g.2.2.1, 240, .inr (.inl (fun _ => 0)))), (q2, .inl (g.2.1, 4, .inl (fun _ => 0))), (q3, .inl (g.2.1, 4, .inl (fun _ => 0)))]) H := hP
  have hD : va_D A ([(h0, .inr (8, [.ref q1, .ref q2, .ref q3])), (q1, .inl (g.2.2.1, 240, .inr (.inl (fun _ => 0)))), (q2, .inl (g.2.1, 4, .inl (fun _ => 0))), (q3, .inl (g.2.1, 4, .inl (fun _ => 0)))]) := hD
  refine lv_iconst (v := 0) hx hb dX8_init_27 (by decide) ?_
  refine lv_istore_n (lv' := [(1, .int (0 : Int32)), (0, .ref h0)]) hx hb dX8_init_28 rfl hl (by decide) rfl (fun ls hl => ?_)
  refine lv_iload_n hx hb dX8_init_29 rfl (lv_at hl 0 rfl) ?_
  refine lv_iconst (v := 4) hx hb dX8_init_30 (by decide) ?_
  refine q_icmp_ge (tgt := 47) hx hb dX8_init_31 (by decide) (by decide : (0 : Int32).toInt = 0) (by decide : (4 : Int32).toInt = 4) (fun k_31 => ?_) (fun k_31 => ?_)
  · exfalso; omega
  refine lv_aload_n hx hb dX8_init_34 rfl (lv_at hl 1 rfl) ?_
  refine va_get (D := g.1) (ci := 8) (v := .ref q3) (C := RX8) (T := TX8) (N := 3) hx hb hi_X8 (fun _ h => h) hown hK.1 hP 0 rfl rfl 2 (by decide) (hts _ (uT _ _ u_71)) (fun _ h9 => h9) rfl dX8_init_35 ?_
  refine lv_iload_n hx hb dX8_init_38 rfl (lv_at hl 0 rfl) ?_
  refine lv_iconst (v := -1) hx hb dX8_init_39 (by decide) ?_
  have n_3_40_0 : vp_in (0 : Int32) 4 := t_in (by decide)
  refine va_iast hx hb hK.1 hP hD hS 3 0 rfl rfl n_3_40_0 dX8_init_40 (fun H locs hP hD hS => ?_)
  have hP : va_P g.1 vwCl ([(h0, .inr (8, [.ref q1, .ref q2, .ref q3])), (q1, .inl (g.2.2.1, 240, .inr (.inl (fun _ => 0)))), (q2, .inl (g.2.1, 4, .inl (fun _ => 0))), (q3, .inl (g.2.1, 4, .inl (upd (fun _ => 0) ((0 : Int32)).toNatClampNeg (-1 : Int32))))]) H := hP
  have hD : va_D A ([(h0, .inr (8, [.ref q1, .ref q2, .ref q3])), (q1, .inl (g.2.2.1, 240, .inr (.inl (fun _ => 0)))), (q2, .inl (g.2.1, 4, .inl (fun _ => 0))), (q3, .inl (g.2.1, 4, .inl (upd (fun _ => 0) ((0 : Int32)).toNatClampNeg (-1 : Int32))))]) := hD
  refine lv_iinc (v := (1 : Int32)) (lv' := [(1, .int (1 : Int32)), (0, .ref h0)]) hx hb dX8_init_41 hl (k := 0) rfl (by decide) (by decide) rfl (fun ls hl => ?_)
  refine lv_goto (tgt := 29) hx hb dX8_init_44 (by decide) ?_
  refine lv_iload_n hx hb dX8_init_29 rfl (lv_at hl 0 rfl) ?_
  refine lv_iconst (v := 4) hx hb dX8_init_30 (by decide) ?_
  refine q_icmp_ge (tgt := 47) hx hb dX8_init_31 (by decide) (by decide : (1 : Int32).toInt = 1) (by decide : (4 : Int32).toInt = 4) (fun k_31 => ?_) (fun k_31 => ?_)
  · exfalso; omega
  refine lv_aload_n hx hb dX8_init_34 rfl (lv_at hl 1 rfl) ?_
  refine va_get (D := g.1) (ci := 8) (v := .ref q3) (C := RX8) (T := TX8) (N := 3) hx hb hi_X8 (fun _ h => h) hown hK.1 hP 0 rfl rfl 2 (by decide) (hts _ (uT _ _ u_71)) (fun _ h9 => h9) rfl dX8_init_35 ?_
  refine lv_iload_n hx hb dX8_init_38 rfl (lv_at hl 0 rfl) ?_
  refine lv_iconst (v := -1) hx hb dX8_init_39 (by decide) ?_
  have n_3_40_1 : vp_in (1 : Int32) 4 := t_in (by decide)
  refine va_iast hx hb hK.1 hP hD hS 3 0 rfl rfl n_3_40_1 dX8_init_40 (fun H locs hP hD hS => ?_)
  have hP : va_P g.1 vwCl ([(h0, .inr (8, [.ref q1, .ref q2, .ref q3])), (q1, .inl (g.2.2.1, 240, .inr (.inl (fun _ => 0)))), (q2, .inl (g.2.1, 4, .inl (fun _ => 0))), (q3, .inl (g.2.1, 4, .inl (upd (upd (fun _ => 0) ((0 : Int32)).toNatClampNeg (-1 : Int32)) ((1 : Int32)).toNatClampNeg (-1 : Int32))))]) H := hP
  have hD : va_D A ([(h0, .inr (8, [.ref q1, .ref q2, .ref q3])), (q1, .inl (g.2.2.1, 240, .inr (.inl (fun _ => 0)))), (q2, .inl (g.2.1, 4, .inl (fun _ => 0))), (q3, .inl (g.2.1, 4, .inl (upd (upd (fun _ => 0) ((0 : Int32)).toNatClampNeg (-1 : Int32)) ((1 : Int32)).toNatClampNeg (-1 : Int32))))]) := hD
  refine lv_iinc (v := (2 : Int32)) (lv' := [(1, .int (2 : Int32)), (0, .ref h0)]) hx hb dX8_init_41 hl (k := 0) rfl (by decide) (by decide) rfl (fun ls hl => ?_)
  refine lv_goto (tgt := 29) hx hb dX8_init_44 (by decide) ?_
  refine lv_iload_n hx hb dX8_init_29 rfl (lv_at hl 0 rfl) ?_
  refine lv_iconst (v := 4) hx hb dX8_init_30 (by decide) ?_
  refine q_icmp_ge (tgt := 47) hx hb dX8_init_31 (by decide) (by decide : (2 : Int32).toInt = 2) (by decide : (4 : Int32).toInt = 4) (fun k_31 => ?_) (fun k_31 => ?_)
  · exfalso; omega
  refine lv_aload_n hx hb dX8_init_34 rfl (lv_at hl 1 rfl) ?_
  refine va_get (D := g.1) (ci := 8) (v := .ref q3) (C := RX8) (T := TX8) (N := 3) hx hb hi_X8 (fun _ h => h) hown hK.1 hP 0 rfl rfl 2 (by decide) (hts _ (uT _ _ u_71)) (fun _ h9 => h9) rfl dX8_init_35 ?_
  refine lv_iload_n hx hb dX8_init_38 rfl (lv_at hl 0 rfl) ?_
  refine lv_iconst (v := -1) hx hb dX8_init_39 (by decide) ?_
  have n_3_40_2 : vp_in (2 : Int32) 4 := t_in (by decide)
  refine va_iast hx hb hK.1 hP hD hS 3 0 rfl rfl n_3_40_2 dX8_init_40 (fun H locs hP hD hS => ?_)
  have hP : va_P g.1 vwCl ([(h0, .inr (8, [.ref q1, .ref q2, .ref q3])), (q1, .inl (g.2.2.1, 240, .inr (.inl (fun _ => 0)))), (q2, .inl (g.2.1, 4, .inl (fun _ => 0))), (q3, .inl (g.2.1, 4, .inl (upd (upd (upd (fun _ => 0) ((0 : Int32)).toNatClampNeg (-1 : Int32)) ((1 : Int32)).toNatClampNeg (-1 : Int32)) ((2 : Int32)).toNatClampNeg (-1 : Int32))))]) H := hP
  have hD : va_D A ([(h0, .inr (8, [.ref q1, .ref q2, .ref q3])), (q1, .inl (g.2.2.1, 240, .inr (.inl (fun _ => 0)))), (q2, .inl (g.2.1, 4, .inl (fun _ => 0))), (q3, .inl (g.2.1, 4, .inl (upd (upd (upd (fun _ => 0) ((0 : Int32)).toNatClampNeg (-1 : Int32)) ((1 : Int32)).toNatClampNeg (-1 : Int32)) ((2 : Int32)).toNatClampNeg (-1 : Int32))))]) := hD
  refine lv_iinc (v := (3 : Int32)) (lv' := [(1, .int (3 : Int32)), (0, .ref h0)]) hx hb dX8_init_41 hl (k := 0) rfl (by decide) (by decide) rfl (fun ls hl => ?_)
  refine lv_goto (tgt := 29) hx hb dX8_init_44 (by decide) ?_
  refine lv_iload_n hx hb dX8_init_29 rfl (lv_at hl 0 rfl) ?_
  refine lv_iconst (v := 4) hx hb dX8_init_30 (by decide) ?_
  refine q_icmp_ge (tgt := 47) hx hb dX8_init_31 (by decide) (by decide : (3 : Int32).toInt = 3) (by decide : (4 : Int32).toInt = 4) (fun k_31 => ?_) (fun k_31 => ?_)
  · exfalso; omega
  refine lv_aload_n hx hb dX8_init_34 rfl (lv_at hl 1 rfl) ?_
  refine va_get (D := g.1) (ci := 8) (v := .ref q3) (C := RX8) (T := TX8) (N := 3) hx hb hi_X8 (fun _ h => h) hown hK.1 hP 0 rfl rfl 2 (by decide) (hts _ (uT _ _ u_71)) (fun _ h9 => h9) rfl dX8_init_35 ?_
  refine lv_iload_n hx hb dX8_init_38 rfl (lv_at hl 0 rfl) ?_
  refine lv_iconst (v := -1) hx hb dX8_init_39 (by decide) ?_
  have n_3_40_3 : vp_in (3 : Int32) 4 := t_in (by decide)
  refine va_iast hx hb hK.1 hP hD hS 3 0 rfl rfl n_3_40_3 dX8_init_40 (fun H locs hP hD hS => ?_)
  have hP : va_P g.1 vwCl ([(h0, .inr (8, [.ref q1, .ref q2, .ref q3])), (q1, .inl (g.2.2.1, 240, .inr (.inl (fun _ => 0)))), (q2, .inl (g.2.1, 4, .inl (fun _ => 0))), (q3, .inl (g.2.1, 4, .inl (upd (upd (upd (upd (fun _ => 0) ((0 : Int32)).toNatClampNeg (-1 : Int32)) ((1 : Int32)).toNatClampNeg (-1 : Int32)) ((2 : Int32)).toNatClampNeg (-1 : Int32)) ((3 : Int32)).toNatClampNeg (-1 : Int32))))]) H := hP
  have hD : va_D A ([(h0, .inr (8, [.ref q1, .ref q2, .ref q3])), (q1, .inl (g.2.2.1, 240, .inr (.inl (fun _ => 0)))), (q2, .inl (g.2.1, 4, .inl (fun _ => 0))), (q3, .inl (g.2.1, 4, .inl (upd (upd (upd (upd (fun _ => 0) ((0 : Int32)).toNatClampNeg (-1 : Int32)) ((1 : Int32)).toNatClampNeg (-1 : Int32)) ((2 : Int32)).toNatClampNeg (-1 : Int32)) ((3 : Int32)).toNatClampNeg (-1 : Int32))))]) := hD
  refine lv_iinc (v := (4 : Int32)) (lv' := [(1, .int (4 : Int32)), (0, .ref h0)]) hx hb dX8_init_41 hl (k := 0) rfl (by decide) (by decide) rfl (fun ls hl => ?_)
  refine lv_goto (tgt := 29) hx hb dX8_init_44 (by decide) ?_
  refine lv_iload_n hx hb dX8_init_29 rfl (lv_at hl 0 rfl) ?_
  refine lv_iconst (v := 4) hx hb dX8_init_30 (by decide) ?_
  refine q_icmp_ge (tgt := 47) hx hb dX8_init_31 (by decide) (by decide : (4 : Int32).toInt = 4) (by decide : (4 : Int32).toInt = 4) (fun k_31 => ?_) (fun k_31 => ?_)
  rotate_left
  · exfalso; omega
  refine hret 47 ls H _ _ _ ((fA [h0, q1, q2, q3]), (fI [fV [0, 0, 0], (fun _ => 0), (fun _ => 0), (upd (upd (upd (upd (fun _ => 0) ((0 : Int32)).toNatClampNeg (-1 : Int32)) ((1 : Int32)).toNatClampNeg (-1 : Int32)) ((2 : Int32)).toNatClampNeg (-1 : Int32)) ((3 : Int32)).toNatClampNeg (-1 : Int32))]), (fJ [fW [0, 0, 0], (fun _ => 0), (fun _ => 0), (fun _ => 0)])) dX8_init_47 (Nat.le_of_ble_eq_true rfl) (Nat.le_of_ble_eq_true rfl) hS hP hD ?_
  exact ⟨rfl, DI.new rfl⟩
