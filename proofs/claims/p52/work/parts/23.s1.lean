abbrev wX2 (g : gG) (a : Nat → Nat) (I : Nat → Nat → Int32) : va_W := [(a 0, .inr (2, [.ref (a 100), .ref (a 101), .int (I 0 2), .int (I 0 3)]))]
set_option maxHeartbeats 4000000 in
set_option maxRecDepth 100000 in
theorem kX2_keep (l : Launch) (g : gG) (a_ka : Nat → Nat) (I_ka : Nat → Nat → Int32) (a_ta : Nat → Nat) (I_ta : Nat → Nat → Int32) (a_sa : Nat → Nat) (I_sa : Nat → Nat → Int32) (a_t : Nat → Nat) (I_t : Nat → Nat → Int32) (a_s : Nat → Nat) (I_s : Nat → Nat → Int32) (isd : Int32) (dr : Int32) (hl_ka_table : a_ka 100 = a_ta 0) (hl_ka_script : a_ka 101 = a_sa 0) (hTa : TI I_ta) (hSa : SI I_sa) (hT : TI I_t) (hSI : SI I_s) (h_z : isd = 0 ∨ isd = 1) : EffV l g yX2_keep wsX2_keep 2 [.ref (a_ka 0), .ref (a_t 0), .ref (a_s 0), .int isd, .int dr] (wX2 g a_ka I_ka ++ (wX7 g a_ta I_ta ++ (wX5 g a_sa I_sa ++ (wX7 g a_t I_t ++ wX5 g a_s I_s)))) (fun (u : ((Nat → Nat → Int32) × (Nat → Nat → Int32) × (Nat → Nat → Int32))) => wX2 g a_ka (u.1) ++ (wX7 g a_ta (u.2.1) ++ (wX5 g a_sa (u.2.2) ++ (wX7 g a_t I_t ++ wX5 g a_s I_s)))) (fun (u : ((Nat → Nat → Int32) × (Nat → Nat → Int32) × (Nat → Nat → Int32))) => MKI (u.1) ∧ TI (u.2.1) ∧ SI (u.2.2) ∧ cpT (u.2.1) I_t) := by
  refine EffV.st (cc := cX2_keep) (maxL := 5) (by decide) rfl (Nat.le_of_ble_eq_true rfl) (fun p e s m args below meth c A Q ls fx hK hP hD hA hS hl hret => ?_)
  have hx := fx.1
  have hb := fx.2.1
  have hml := fx.2.2.1
  have hown := fx.2.2.2.1
  have hts := fx.2.2.2.2
  have hl : lv_has ls 5 [(0, .ref (a_ka 0)), (1, .ref (a_t 0)), (2, .ref (a_s 0)), (3, .int isd), (4, .int dr)] := hl
  have hP : va_P g.1 vwCl (wX2 g a_ka I_ka ++ (wX7 g a_ta I_ta ++ (wX5 g a_sa I_sa ++ (wX7 g a_t I_t ++ wX5 g a_s I_s)))) s.heap := hP
  have hf_10 := hts _ (uT _ _ u_160)
  have hf_19 := hts _ (uT _ _ u_162)
  have hf_23 := hts _ (uT _ _ u_163)
  have hf_27 := hts _ (uT _ _ u_164)
  have hf_35 := hts _ (uT _ _ u_1683)
  have hf_39 := hts _ (uT _ _ u_1684)
  have hi_X2 : ∀ w ∈ wsX20, w.before args s = true := fun w h => hts w (uT _ w (u_wsX20 w h))
  have hi_X5 : ∀ w ∈ wsX50, w.before args s = true := fun w h => hts w (uT _ w (u_wsX50 w h))
  have lm1 : (-1 : Int32).toInt = -1 := by decide
  have lm0 : (0 : Int32).toInt = 0 := by decide
  have lm2 : (1 : Int32).toInt = 1 := by decide
  have hs0 := hSI.1
  have hs1 := hSI.2
  refine lv_aload_n hx hb dX2_keep_0 rfl (lv_at hl 0 rfl) ?_
  refine va_get (D := g.1) (ci := 2) (v := .ref (a_ta 0)) (C := RX2) (T := TX2) (N := 4) hx hb hi_X2 (fun _ h => h) hown hK.1 hP 0 rfl rfl 0 (by decide) hf_10 (fun _ h9 => h9) (congrArg (fun z => some (Value.ref z)) hl_ka_table) dX2_keep_1 ?_
  refine lv_aload_n hx hb dX2_keep_4 rfl (lv_at hl 1 rfl) ?_
  refine EffV.cv (wr := (wX2 g a_ka I_ka ++ wX5 g a_sa I_sa ++ wX5 g a_s I_s)) (w' := fun u2 => wX2 g a_ka I_ka ++ (wX7 g a_ta u2 ++ (wX5 g a_sa I_sa ++ (wX7 g a_t I_t ++ wX5 g a_s I_s)))) (As := [.ref (a_t 0)]) (kX7_copyOf l g a_ta I_ta a_t I_t hT hTa) fx (gUV (uT _) u_1685 u_493 u_494 u_31 u_495) rfl hdX7_copyOf ⟨Nat.le_of_ble_eq_true rfl, Nat.le_of_ble_eq_true rfl⟩ hK hP hD hS hA [1, 2, 3, 4, 5, 6, 7, 11, 12, 13, 14, 15, 16, 17] [0, 8, 9, 10, 18, 19, 20] [0, 7, 8, 9, 10, 11, 12, 13, 1, 2, 3, 14, 15, 16, 17, 18, 19, 20, 4, 5, 6] rfl rfl rfl rfl (by decide) rfl (fun _ => rfl) rfl rfl rfl rfl hl.1 (Nat.le_of_ble_eq_true rfl) dX2_keep_5 (fun u2 H locs p_r1 hP hD hS => ?_)
  have hP : va_P g.1 vwCl (wX2 g a_ka I_ka ++ (wX7 g a_ta u2 ++ (wX5 g a_sa I_sa ++ (wX7 g a_t I_t ++ wX5 g a_s I_s)))) H := hP
  have hD : va_D A (wX2 g a_ka I_ka ++ (wX7 g a_ta u2 ++ (wX5 g a_sa I_sa ++ (wX7 g a_t I_t ++ wX5 g a_s I_s)))) := hD
  refine lv_aload_n hx hb dX2_keep_8 rfl (lv_at hl 0 rfl) ?_
  refine va_get (D := g.1) (ci := 2) (v := .ref (a_sa 0)) (C := RX2) (T := TX2) (N := 4) hx hb hi_X2 (fun _ h => h) hown hK.1 hP 0 rfl rfl 1 (by decide) hf_19 (fun _ h9 => h9) (congrArg (fun z => some (Value.ref z)) hl_ka_script) dX2_keep_9 ?_
  refine lv_aload_n hx hb dX2_keep_12 rfl (lv_at hl 2 rfl) ?_
  refine va_get (D := g.1) (ci := 5) (v := .ref (a_s 1)) (C := RX5) (T := TX5) (N := 3) hx hb hi_X5 (fun _ h => h) hown hK.1 hP 18 rfl rfl 0 (by decide) hf_35 (fun _ h9 => h9) rfl dX2_keep_13 ?_
  refine lv_aload_n hx hb dX2_keep_16 rfl (lv_at hl 2 rfl) ?_
  refine va_get (D := g.1) (ci := 5) (v := .int (I_s 0 1)) (C := RX5) (T := TX5) (N := 3) hx hb hi_X5 (fun _ h => h) hown hK.1 hP 18 rfl rfl 1 (by decide) hf_39 (fun _ h9 => h9) rfl dX2_keep_17 ?_
  refine EffV.cv (wr := (wX2 g a_ka I_ka ++ wX7 g a_ta u2 ++ wX7 g a_t I_t ++ ([0, 2].filterMap (fun i => (wX5 g a_s I_s)[i]?)))) (w' := fun u4 => wX2 g a_ka I_ka ++ (wX7 g a_ta u2 ++ (wX5 g a_sa u4 ++ (wX7 g a_t I_t ++ wX5 g a_s I_s)))) (As := [.ref (a_s 1), .int (I_s 0 1)]) (kX5_take l g a_sa I_sa (fun k => a_s (k + 1)) 300 (fun k => I_s (k + 1)) (I_s 0 1) hSa (by omega)) fx (gUV (uT _) u_1686 u_663 u_664 u_35 u_665) rfl hdX5_take ⟨Nat.le_of_ble_eq_true rfl, Nat.le_of_ble_eq_true rfl⟩ hK hP hD hS hA [8, 9, 10, 19] [0, 1, 2, 3, 4, 5, 6, 7, 11, 12, 13, 14, 15, 16, 17, 18, 20] [0, 1, 2, 3, 4, 5, 6, 7, 17, 18, 19, 8, 9, 10, 11, 12, 13, 14, 15, 20, 16] rfl rfl rfl rfl (by decide) rfl (fun _ => rfl) rfl rfl rfl rfl hl.1 (Nat.le_of_ble_eq_true rfl) dX2_keep_20 (fun u4 H locs p_r3 hP hD hS => ?_)
  have hP : va_P g.1 vwCl (wX2 g a_ka I_ka ++ (wX7 g a_ta u2 ++ (wX5 g a_sa u4 ++ (wX7 g a_t I_t ++ wX5 g a_s I_s)))) H := hP
  have hD : va_D A (wX2 g a_ka I_ka ++ (wX7 g a_ta u2 ++ (wX5 g a_sa u4 ++ (wX7 g a_t I_t ++ wX5 g a_s I_s)))) := hD
  refine lv_aload_n hx hb dX2_keep_23 rfl (lv_at hl 0 rfl) ?_
  refine lv_iload_n hx hb dX2_keep_24 rfl (lv_at hl 3 rfl) ?_
  refine va_put (D := g.1) (ci := 2) (v := .int isd) (ty := .boolean) (C := RX2) (T := TX2) (N := 4) hx hb hi_X2 (fun _ h => h) tyX2 tyX2_ok nmX2 hown hK.1 hP hD hS 0 rfl rfl 2 (by decide) hf_23 (fun _ h9 => h9) rfl (by decide +kernel) (by rcases h_z with h | h <;> rw [h] <;> rfl) (by rcases h_z with h | h <;> rw [h] <;> rfl) (Nat.le_of_ble_eq_true rfl) dX2_keep_25 (fun H locs hP hD hS => ?_)
  have hP : va_P g.1 vwCl (wX2 g a_ka (uF I_ka 0 2 isd) ++ (wX7 g a_ta u2 ++ (wX5 g a_sa u4 ++ (wX7 g a_t I_t ++ wX5 g a_s I_s)))) H := hP
  have hD : va_D A (wX2 g a_ka (uF I_ka 0 2 isd) ++ (wX7 g a_ta u2 ++ (wX5 g a_sa u4 ++ (wX7 g a_t I_t ++ wX5 g a_s I_s)))) := hD
  refine lv_aload_n hx hb dX2_keep_28 rfl (lv_at hl 0 rfl) ?_
  refine lv_iload hx hb dX2_keep_29 (lv_at hl 4 rfl) ?_
  refine va_put (D := g.1) (ci := 2) (v := .int dr) (ty := .int) (C := RX2) (T := TX2) (N := 4) hx hb hi_X2 (fun _ h => h) tyX2 tyX2_ok nmX2 hown hK.1 hP hD hS 0 rfl rfl 3 (by decide) hf_27 (fun _ h9 => h9) rfl (by decide +kernel) rfl rfl (Nat.le_of_ble_eq_true rfl) dX2_keep_31 (fun H locs hP hD hS => ?_)
  have hP : va_P g.1 vwCl (wX2 g a_ka (uF (uF I_ka 0 2 isd) 0 3 dr) ++ (wX7 g a_ta u2 ++ (wX5 g a_sa u4 ++ (wX7 g a_t I_t ++ wX5 g a_s I_s)))) H := hP
  have hD : va_D A (wX2 g a_ka (uF (uF I_ka 0 2 isd) 0 3 dr) ++ (wX7 g a_ta u2 ++ (wX5 g a_sa u4 ++ (wX7 g a_t I_t ++ wX5 g a_s I_s)))) := hD
  refine hret 34 ls _ _ ((uF (uF I_ka 0 2 isd) 0 3 dr), u2, u4) dX2_keep_34 hS hP hD ?_
  exact ⟨h_z, p_r1.1, p_r3.1, ⟨p_r1.2.2.1, p_r1.2.2.2⟩⟩
