set_option maxHeartbeats 4000000 in
set_option maxRecDepth 100000 in
theorem kX10_write (l : Launch) (g : gG) (a_p : Nat → Nat) (I_p : Nat → Nat → Int32) (J_p : Nat → Nat → Int64) (a_d : Nat → Nat) (I_d : Nat → Nat → Int32) (J_d : Nat → Nat → Int64) (tray : Int32) (place : Int32) (v : Int64) (hl_p_trays : a_p 107 = a_d 0) (hPI : PI I_p) (hDI : DI I_d) : EffI l g yX10_write wsX10_write 2 [.ref (a_p 0), .int tray, .int place, .long v] (wX10 g a_p I_p J_p ++ wX8 g a_d I_d J_d) (fun (u : ((Nat → Nat → Int32) × (Nat → Nat → Int64))) => wX10 g a_p (u.1) J_p ++ wX8 g a_d I_d (u.2)) (fun r (u : ((Nat → Nat → Int32) × (Nat → Nat → Int64))) => PI (u.1) ∧ KP I_p (u.1) ∧ ((r = 1 ∧ (0 ≤ tray.toInt ∧ tray.toInt < 4) ∧ (0 ≤ place.toInt ∧ place.toInt < (I_d 3 tray.toNatClampNeg).toInt) ∧ (u.2) 1 = vp_updL (J_d 1) (tray.toInt * 60 + place.toInt).toNat (cutL v (I_d 2 tray.toNatClampNeg))) ∨ (r = 0 ∧ ¬ ((0 ≤ tray.toInt ∧ tray.toInt < 4) ∧ (0 ≤ place.toInt ∧ place.toInt < (I_d 3 tray.toNatClampNeg).toInt)) ∧ (u.2) = J_d))) := by
  refine EffI.sz (cc := cX10_write) (maxL := 6) (by decide) rfl (Nat.le_of_ble_eq_true rfl) (fun p e s m args below meth c A Q ls fx hK hP hD hA hS hl hret => ?_)
  have hx := fx.1
  have hb := fx.2.1
  have hml := fx.2.2.1
  have hown := fx.2.2.2.1
  have hts := fx.2.2.2.2
  have hl : lv_has ls 6 [(0, .ref (a_p 0)), (1, .int tray), (2, .int place), (3, .long v)] := hl
  have hP : va_P g.1 vwCl (wX10 g a_p I_p J_p ++ wX8 g a_d I_d J_d) s.heap := hP
  have hf_36 := hts _ (uT _ _ u_24)
  have hi_X10 : ∀ w ∈ wsX100, w.before args s = true := fun w h => hts w (uT _ w (u_wsX100 w h))
  have lm1 : (-1 : Int32).toInt = -1 := by decide
  have lm0 : (0 : Int32).toInt = 0 := by decide
  have lm2 : (1 : Int32).toInt = 1 := by decide
  have hp1 := hPI.1
  have hp2 := hPI.2.1
  have hdz := DI.sz hDI tray.toNatClampNeg
  refine lv_aload_n hx hb dX10_write_0 rfl (lv_at hl 0 rfl) ?_
  refine va_get (D := g.1) (ci := 10) (v := .ref (a_d 0)) (C := RX10) (T := TX10) (N := 20) hx hb hi_X10 (fun _ h => h) hown hK.1 hP 0 rfl rfl 7 (by decide) hf_36 (fun _ h9 => h9) (congrArg (fun z => some (Value.ref z)) hl_p_trays) dX10_write_1 ?_
  refine lv_iload_n hx hb dX10_write_4 rfl (lv_at hl 1 rfl) ?_
  refine lv_iload_n hx hb dX10_write_5 rfl (lv_at hl 2 rfl) ?_
  refine PurI.cv (As := [.int tray, .int place]) (kX8_whyNoPlace l g a_d I_d J_d tray place hDI) fx (gUV (uT _) u_267 u_268 u_269 u_23 u_270) rfl hdX8_whyNoPlace ⟨Nat.le_of_ble_eq_true rfl, Nat.le_of_ble_eq_true rfl⟩ hK hP [2, 3, 4, 5] rfl rfl rfl rfl rfl hl.1 (Nat.le_of_ble_eq_true rfl) dX10_write_6 (fun r1 p_r1 => ?_)
  refine lv_istore (lv' := [(5, .int r1), (0, .ref (a_p 0)), (1, .int tray), (2, .int place), (3, .long v)]) hx hb dX10_write_9 hl (by decide) rfl (fun ls hl => ?_)
  refine lv_iload hx hb dX10_write_11 (lv_at hl 0 rfl) ?_
  refine q_if_eq (tgt := 23) hx hb dX10_write_13 (by decide) rfl (fun b_13 k_13 => ?_) (fun b_13 k_13 => ?_)
  · refine lv_aload_n hx hb dX10_write_23 rfl (lv_at hl 1 rfl) ?_
    refine va_get (D := g.1) (ci := 10) (v := .ref (a_d 0)) (C := RX10) (T := TX10) (N := 20) hx hb hi_X10 (fun _ h => h) hown hK.1 hP 0 rfl rfl 7 (by decide) hf_36 (fun _ h9 => h9) (congrArg (fun z => some (Value.ref z)) hl_p_trays) dX10_write_24 ?_
    refine lv_iload_n hx hb dX10_write_27 rfl (lv_at hl 2 rfl) ?_
    refine lv_iload_n hx hb dX10_write_28 rfl (lv_at hl 3 rfl) ?_
    refine lv_lload_n hx hb dX10_write_29 rfl (lv_at hl 4 rfl) ?_
    refine EffV.cv (wr := (wX10 g a_p I_p J_p)) (w' := fun u3 => wX10 g a_p I_p J_p ++ wX8 g a_d I_d u3) (As := [.int tray, .int place, .long v]) (kX8_put l g a_d I_d J_d tray place v (by omega) (by omega)) fx (gUV (uT _) u_276 u_277 u_278 u_23 u_279) rfl hdX8_put ⟨Nat.le_of_ble_eq_true rfl, Nat.le_of_ble_eq_true rfl⟩ hK hP hD hS hA [2, 3, 4, 5] [0, 1] [0, 1, 2, 3, 4, 5] rfl rfl rfl rfl (by decide) rfl (fun _ => rfl) rfl rfl rfl rfl hl.1 (Nat.le_of_ble_eq_true rfl) dX10_write_30 (fun u3 H locs p_r2 hP hD hS => ?_)
    have hP : va_P g.1 vwCl (wX10 g a_p I_p J_p ++ wX8 g a_d I_d u3) H := hP
    have hD : va_D A (wX10 g a_p I_p J_p ++ wX8 g a_d I_d u3) := hD
    refine lv_aload_n hx hb dX10_write_33 rfl (lv_at hl 1 rfl) ?_
    refine EffI.cv (wr := (wX8 g a_d I_d u3)) (w' := fun u5 => wX10 g a_p u5 J_p ++ wX8 g a_d I_d u3) (As := []) (kX10_did l g a_p I_p J_p) fx (gUV (uT _) u_248 u_249 u_250 u_2 u_251) rfl hdX10_did ⟨Nat.le_of_ble_eq_true rfl, Nat.le_of_ble_eq_true rfl⟩ hK hP hD hS hA [0, 1] [2, 3, 4, 5] [4, 5, 0, 1, 2, 3] rfl rfl rfl rfl (by decide) rfl (fun _ => rfl) rfl rfl rfl rfl hl.1 (Nat.le_of_ble_eq_true rfl) dX10_write_34 (fun r4 u5 H locs p_r4 hP hD hS => ?_)
    have hP : va_P g.1 vwCl (wX10 g a_p u5 J_p ++ wX8 g a_d I_d u3) H := hP
    have hD : va_D A (wX10 g a_p u5 J_p ++ wX8 g a_d I_d u3) := hD
    refine hret 37 ls r4 _ _ (u5, u3) dX10_write_37 (Or.inr p_r4.1) hS hP hD ?_
    exact ⟨(PI.st hPI p_r4.2), (KP.tr (KP.rf I_p) (KP.st p_r4.2)), (by exact Or.inl ⟨p_r4.1, by omega, by omega, p_r2⟩)⟩
  · refine lv_aload_n hx hb dX10_write_16 rfl (lv_at hl 1 rfl) ?_
    refine lv_iload hx hb dX10_write_17 (lv_at hl 0 rfl) ?_
    refine EffI.cv (wr := (wX8 g a_d I_d J_d)) (w' := fun u7 => wX10 g a_p u7 J_p ++ wX8 g a_d I_d J_d) (As := [.int r1]) (kX10_didNot l g a_p I_p J_p r1) fx (gUV (uT _) u_240 u_241 u_242 u_2 u_243) rfl hdX10_didNot ⟨Nat.le_of_ble_eq_true rfl, Nat.le_of_ble_eq_true rfl⟩ hK hP hD hS hA [0, 1] [2, 3, 4, 5] [4, 5, 0, 1, 2, 3] rfl rfl rfl rfl (by decide) rfl (fun _ => rfl) rfl rfl rfl rfl hl.1 (Nat.le_of_ble_eq_true rfl) dX10_write_19 (fun r6 u7 H locs p_r6 hP hD hS => ?_)
    have hP : va_P g.1 vwCl (wX10 g a_p u7 J_p ++ wX8 g a_d I_d J_d) H := hP
    have hD : va_D A (wX10 g a_p u7 J_p ++ wX8 g a_d I_d J_d) := hD
    refine hret 22 ls r6 _ _ (u7, J_d) dX10_write_22 (Or.inl p_r6.1) hS hP hD ?_
    exact ⟨(PI.st hPI p_r6.2), (KP.tr (KP.rf I_p) (KP.st p_r6.2)), (by exact Or.inr ⟨p_r6.1, by omega, rfl⟩)⟩

set_option maxHeartbeats 4000000 in
set_option maxRecDepth 100000 in
theorem kX10_read (l : Launch) (g : gG) (a_p : Nat → Nat) (I_p : Nat → Nat → Int32) (J_p : Nat → Nat → Int64) (a_d : Nat → Nat) (I_d : Nat → Nat → Int32) (J_d : Nat → Nat → Int64) (tray : Int32) (place : Int32) (hl_p_trays : a_p 107 = a_d 0) (hPI : PI I_p) (hDI : DI I_d) : EffL l g yX10_read wsX10_read 2 [.ref (a_p 0), .int tray, .int place] (wX10 g a_p I_p J_p ++ wX8 g a_d I_d J_d) (fun (u : (Nat → Nat → Int32)) => wX10 g a_p u J_p ++ wX8 g a_d I_d J_d) (fun r (u : (Nat → Nat → Int32)) => PI (u) ∧ KP I_p (u) ∧ (((0 ≤ tray.toInt ∧ tray.toInt < 4) ∧ (0 ≤ place.toInt ∧ place.toInt < (I_d 3 tray.toNatClampNeg).toInt) ∧ r = J_d 1 (tray.toInt * 60 + place.toInt).toNat) ∨ (¬ ((0 ≤ tray.toInt ∧ tray.toInt < 4) ∧ (0 ≤ place.toInt ∧ place.toInt < (I_d 3 tray.toNatClampNeg).toInt)) ∧ r = -1))) := by
  refine EffL.st (cc := cX10_read) (maxL := 4) (by decide) rfl (Nat.le_of_ble_eq_true rfl) (fun p e s m args below meth c A Q ls fx hK hP hD hA hS hl hret => ?_)
  have hx := fx.1
  have hb := fx.2.1
  have hml := fx.2.2.1
  have hown := fx.2.2.2.1
  have hts := fx.2.2.2.2
  have hl : lv_has ls 4 [(0, .ref (a_p 0)), (1, .int tray), (2, .int place)] := hl
  have hP : va_P g.1 vwCl (wX10 g a_p I_p J_p ++ wX8 g a_d I_d J_d) s.heap := hP
  have hf_17 := hts _ (uT _ _ u_16)
  have hf_36 := hts _ (uT _ _ u_24)
  have hi_X10 : ∀ w ∈ wsX100, w.before args s = true := fun w h => hts w (uT _ w (u_wsX100 w h))
  have lm1 : (-1 : Int32).toInt = -1 := by decide
  have lm0 : (0 : Int32).toInt = 0 := by decide
  have lm2 : (1 : Int32).toInt = 1 := by decide
  have hp1 := hPI.1
  have hp2 := hPI.2.1
  have hdz := DI.sz hDI tray.toNatClampNeg
  refine lv_aload_n hx hb dX10_read_0 rfl (lv_at hl 0 rfl) ?_
  refine va_get (D := g.1) (ci := 10) (v := .ref (a_d 0)) (C := RX10) (T := TX10) (N := 20) hx hb hi_X10 (fun _ h => h) hown hK.1 hP 0 rfl rfl 7 (by decide) hf_36 (fun _ h9 => h9) (congrArg (fun z => some (Value.ref z)) hl_p_trays) dX10_read_1 ?_
  refine lv_iload_n hx hb dX10_read_4 rfl (lv_at hl 1 rfl) ?_
  refine lv_iload_n hx hb dX10_read_5 rfl (lv_at hl 2 rfl) ?_
  refine PurI.cv (As := [.int tray, .int place]) (kX8_whyNoPlace l g a_d I_d J_d tray place hDI) fx (gUV (uT _) u_267 u_268 u_269 u_23 u_270) rfl hdX8_whyNoPlace ⟨Nat.le_of_ble_eq_true rfl, Nat.le_of_ble_eq_true rfl⟩ hK hP [2, 3, 4, 5] rfl rfl rfl rfl rfl hl.1 (Nat.le_of_ble_eq_true rfl) dX10_read_6 (fun r1 p_r1 => ?_)
  refine lv_istore_n (lv' := [(3, .int r1), (0, .ref (a_p 0)), (1, .int tray), (2, .int place)]) hx hb dX10_read_9 rfl hl (by decide) rfl (fun ls hl => ?_)
  refine lv_iload_n hx hb dX10_read_10 rfl (lv_at hl 0 rfl) ?_
  refine q_if_eq (tgt := 21) hx hb dX10_read_11 (by decide) rfl (fun b_11 k_11 => ?_) (fun b_11 k_11 => ?_)
  · refine lv_aload_n hx hb dX10_read_21 rfl (lv_at hl 1 rfl) ?_
    refine lv_iconst (v := 0) hx hb dX10_read_22 (by decide) ?_
    refine va_put (D := g.1) (ci := 10) (v := .int (0 : Int32)) (ty := .int) (C := RX10) (T := TX10) (N := 20) hx hb hi_X10 (fun _ h => h) tyX10 tyX10_ok nmX10 hown hK.1 hP hD hS 0 rfl rfl 2 (by decide) hf_17 (fun _ h9 => h9) rfl (by decide +kernel) rfl rfl (Nat.le_of_ble_eq_true rfl) dX10_read_23 (fun H locs hP hD hS => ?_)
    have hP : va_P g.1 vwCl (wX10 g a_p (uF I_p 0 2 (0 : Int32)) J_p ++ wX8 g a_d I_d J_d) H := hP
    have hD : va_D A (wX10 g a_p (uF I_p 0 2 (0 : Int32)) J_p ++ wX8 g a_d I_d J_d) := hD
    have hc_23 : PI (uF I_p 0 2 (0 : Int32)) := hPI
    refine lv_aload_n hx hb dX10_read_26 rfl (lv_at hl 1 rfl) ?_
    refine va_get (D := g.1) (ci := 10) (v := .ref (a_d 0)) (C := RX10) (T := TX10) (N := 20) hx hb hi_X10 (fun _ h => h) hown hK.1 hP 0 rfl rfl 7 (by decide) hf_36 (fun _ h9 => h9) (congrArg (fun z => some (Value.ref z)) hl_p_trays) dX10_read_27 ?_
    refine lv_iload_n hx hb dX10_read_30 rfl (lv_at hl 2 rfl) ?_
    refine lv_iload_n hx hb dX10_read_31 rfl (lv_at hl 3 rfl) ?_
    refine PurL.cv (As := [.int tray, .int place]) (kX8_numberAt l g a_d I_d J_d tray place (by omega) (by omega)) fx (gUV (uT _) u_299 u_300 u_301 u_23 u_302) rfl hdX8_numberAt ⟨Nat.le_of_ble_eq_true rfl, Nat.le_of_ble_eq_true rfl⟩ hK hP [2, 3, 4, 5] rfl rfl rfl rfl rfl hl.1 (Nat.le_of_ble_eq_true rfl) dX10_read_32 (fun w2 p_w2 => ?_)
    refine hret 35 ls w2 _ _ (uF I_p 0 2 (0 : Int32)) dX10_read_35 hS hP hD ?_
    exact ⟨hc_23, (by first | exact (KP.rf I_p) | exact ⟨rfl, rfl, rfl, rfl, rfl⟩), (by exact Or.inl ⟨by omega, by omega, p_w2⟩)⟩
  · refine lv_aload_n hx hb dX10_read_14 rfl (lv_at hl 1 rfl) ?_
    refine lv_iload_n hx hb dX10_read_15 rfl (lv_at hl 0 rfl) ?_
    refine EffI.cv (wr := (wX8 g a_d I_d J_d)) (w' := fun u4 => wX10 g a_p u4 J_p ++ wX8 g a_d I_d J_d) (As := [.int r1]) (kX10_refuse l g a_p I_p J_p r1) fx (gUV (uT _) u_295 u_296 u_297 u_2 u_298) rfl hdX10_refuse ⟨Nat.le_of_ble_eq_true rfl, Nat.le_of_ble_eq_true rfl⟩ hK hP hD hS hA [0, 1] [2, 3, 4, 5] [4, 5, 0, 1, 2, 3] rfl rfl rfl rfl (by decide) rfl (fun _ => rfl) rfl rfl rfl rfl hl.1 (Nat.le_of_ble_eq_true rfl) dX10_read_16 (fun r3 u4 H locs p_r3 hP hD hS => ?_)
    have hP : va_P g.1 vwCl (wX10 g a_p u4 J_p ++ wX8 g a_d I_d J_d) H := hP
    have hD : va_D A (wX10 g a_p u4 J_p ++ wX8 g a_d I_d J_d) := hD
    refine lv_i2l hx hb dX10_read_19 rfl ?_
    refine q_nml (fun w5 e_w5 => ?_)
    refine hret 20 ls w5 _ _ u4 dX10_read_20 hS hP hD ?_
    exact ⟨(PI.st hPI p_r3.2), (by first | exact (KP.tr (KP.rf I_p) (KP.st p_r3.2)) | exact ⟨rfl, rfl, rfl, rfl, rfl⟩), (by exact Or.inr ⟨by omega, by rw [e_w5, p_r3.1]; rfl⟩)⟩

set_option maxHeartbeats 4000000 in
set_option maxRecDepth 100000 in
theorem kX10_pour (l : Launch) (g : gG) (a_p : Nat → Nat) (I_p : Nat → Nat → Int32) (J_p : Nat → Nat → Int64) (a_d : Nat → Nat) (I_d : Nat → Nat → Int32) (J_d : Nat → Nat → Int64) (fr : Int32) (place : Int32) (to : Int32) (ia : Int32) (many : Int32) (hl_p_trays : a_p 107 = a_d 0) (hPI : PI I_p) (hDI : DI I_d) : EffI l g yX10_pour wsX10_pour 2 [.ref (a_p 0), .int fr, .int place, .int to, .int ia, .int many] (wX10 g a_p I_p J_p ++ wX8 g a_d I_d J_d) (fun (u : ((Nat → Nat → Int32) × (Nat → Nat → Int64))) => wX10 g a_p (u.1) J_p ++ wX8 g a_d I_d (u.2)) (fun r (u : ((Nat → Nat → Int32) × (Nat → Nat → Int64))) => PI (u.1) ∧ KP I_p (u.1) ∧ ((r = 1 ∧ (0 ≤ fr.toInt ∧ fr.toInt < 4 ∧ 0 ≤ to.toInt ∧ to.toInt < 4 ∧ 0 ≤ place.toInt ∧ 0 ≤ ia.toInt ∧ 0 ≤ many.toInt) ∧ ¬ (I_d 3 fr.toNatClampNeg).toInt = -1 ∧ ¬ (I_d 3 to.toNatClampNeg).toInt = -1 ∧ I_d 2 fr.toNatClampNeg = I_d 2 to.toNatClampNeg ∧ place.toInt + many.toInt ≤ (I_d 3 fr.toNatClampNeg).toInt ∧ ia.toInt + many.toInt ≤ (I_d 3 to.toNatClampNeg).toInt ∧ (u.2) 1 = va_cpy (J_d 1) (J_d 1) (fr.toInt * 60 + place.toInt).toNat (to.toInt * 60 + ia.toInt).toNat many.toInt.toNat) ∨ (r = 0 ∧ (u.2) = J_d ∧ ¬ ((0 ≤ fr.toInt ∧ fr.toInt < 4 ∧ 0 ≤ to.toInt ∧ to.toInt < 4 ∧ 0 ≤ place.toInt ∧ 0 ≤ ia.toInt ∧ 0 ≤ many.toInt) ∧ ¬ (I_d 3 fr.toNatClampNeg).toInt = -1 ∧ ¬ (I_d 3 to.toNatClampNeg).toInt = -1 ∧ (I_d 2 fr.toNatClampNeg).toInt = (I_d 2 to.toNatClampNeg).toInt ∧ place.toInt + many.toInt ≤ (I_d 3 fr.toNatClampNeg).toInt ∧ ia.toInt + many.toInt ≤ (I_d 3 to.toNatClampNeg).toInt)))) := by
  refine EffI.sz (cc := cX10_pour) (maxL := 6) (by decide) rfl (Nat.le_of_ble_eq_true rfl) (fun p e s m args below meth c A Q ls fx hK hP hD hA hS hl hret => ?_)
  have hx := fx.1
  have hb := fx.2.1
  have hml := fx.2.2.1
  have hown := fx.2.2.2.1
  have hts := fx.2.2.2.2
  have hl : lv_has ls 6 [(0, .ref (a_p 0)), (1, .int fr), (2, .int place), (3, .int to), (4, .int ia), (5, .int many)] := hl
  have hP : va_P g.1 vwCl (wX10 g a_p I_p J_p ++ wX8 g a_d I_d J_d) s.heap := hP
  have hf_36 := hts _ (uT _ _ u_24)
  have hi_X10 : ∀ w ∈ wsX100, w.before args s = true := fun w h => hts w (uT _ w (u_wsX100 w h))
  have lm1 : (-1 : Int32).toInt = -1 := by decide
  have lm0 : (0 : Int32).toInt = 0 := by decide
  have lm2 : (1 : Int32).toInt = 1 := by decide
  have hp1 := hPI.1
  have hp2 := hPI.2.1
  have lq2 : (2 : Int32).toInt = 2 := by decide
  have lq3 : (3 : Int32).toInt = 3 := by decide
  have hdz := DI.sz hDI fr.toNatClampNeg
  have hdz2 := DI.sz hDI to.toNatClampNeg
  refine lv_aload_n hx hb dX10_pour_0 rfl (lv_at hl 0 rfl) ?_
  refine va_get (D := g.1) (ci := 10) (v := .ref (a_d 0)) (C := RX10) (T := TX10) (N := 20) hx hb hi_X10 (fun _ h => h) hown hK.1 hP 0 rfl rfl 7 (by decide) hf_36 (fun _ h9 => h9) (congrArg (fun z => some (Value.ref z)) hl_p_trays) dX10_pour_1 ?_
  refine lv_iload_n hx hb dX10_pour_4 rfl (lv_at hl 1 rfl) ?_
  refine PurI.cv (As := [.int fr]) (kX8_isTray l g a_d I_d J_d fr) fx (gUV (uT _) u_232 u_233 u_234 u_23 u_235) rfl hdX8_isTray ⟨Nat.le_of_ble_eq_true rfl, Nat.le_of_ble_eq_true rfl⟩ hK hP [2, 3, 4, 5] rfl rfl rfl rfl rfl hl.1 (Nat.le_of_ble_eq_true rfl) dX10_pour_5 (fun r1 p_r1 => ?_)
  refine q_if_eq (tgt := 36) hx hb dX10_pour_8 (by decide) rfl (fun b_8 k_8 => ?_) (fun b_8 k_8 => ?_)
  · have q_8 := bP.f p_r1 b_8
    refine lv_aload_n hx hb dX10_pour_36 rfl (lv_at hl 0 rfl) ?_
    refine lv_iconst (v := 1) hx hb dX10_pour_37 (by decide) ?_
    refine EffI.cv (wr := (wX8 g a_d I_d J_d)) (w' := fun u3 => wX10 g a_p u3 J_p ++ wX8 g a_d I_d J_d) (As := [.int (1 : Int32)]) (kX10_didNot l g a_p I_p J_p (1 : Int32)) fx (gUV (uT _) u_240 u_241 u_242 u_2 u_243) rfl hdX10_didNot ⟨Nat.le_of_ble_eq_true rfl, Nat.le_of_ble_eq_true rfl⟩ hK hP hD hS hA [0, 1] [2, 3, 4, 5] [4, 5, 0, 1, 2, 3] rfl rfl rfl rfl (by decide) rfl (fun _ => rfl) rfl rfl rfl rfl hl.1 (Nat.le_of_ble_eq_true rfl) dX10_pour_38 (fun r2 u3 H locs p_r2 hP hD hS => ?_)
    have hP : va_P g.1 vwCl (wX10 g a_p u3 J_p ++ wX8 g a_d I_d J_d) H := hP
    have hD : va_D A (wX10 g a_p u3 J_p ++ wX8 g a_d I_d J_d) := hD
    refine hret 41 ls r2 _ _ (u3, J_d) dX10_pour_41 (Or.inl p_r2.1) hS hP hD ?_
    exact ⟨(PI.st hPI p_r2.2), (KP.tr (KP.rf I_p) (KP.st p_r2.2)), (by exact Or.inr ⟨p_r2.1, rfl, by omega⟩)⟩
  · have q_8 := bP.t p_r1 b_8
    refine lv_aload_n hx hb dX10_pour_11 rfl (lv_at hl 0 rfl) ?_
    refine va_get (D := g.1) (ci := 10) (v := .ref (a_d 0)) (C := RX10) (T := TX10) (N := 20) hx hb hi_X10 (fun _ h => h) hown hK.1 hP 0 rfl rfl 7 (by decide) hf_36 (fun _ h9 => h9) (congrArg (fun z => some (Value.ref z)) hl_p_trays) dX10_pour_12 ?_
    refine lv_iload_n hx hb dX10_pour_15 rfl (lv_at hl 3 rfl) ?_
    refine PurI.cv (As := [.int to]) (kX8_isTray l g a_d I_d J_d to) fx (gUV (uT _) u_232 u_233 u_234 u_23 u_235) rfl hdX8_isTray ⟨Nat.le_of_ble_eq_true rfl, Nat.le_of_ble_eq_true rfl⟩ hK hP [2, 3, 4, 5] rfl rfl rfl rfl rfl hl.1 (Nat.le_of_ble_eq_true rfl) dX10_pour_16 (fun r4 p_r4 => ?_)
    refine q_if_eq (tgt := 36) hx hb dX10_pour_19 (by decide) rfl (fun b_19 k_19 => ?_) (fun b_19 k_19 => ?_)
    · have q_19 := bP.f p_r4 b_19
      refine lv_aload_n hx hb dX10_pour_36 rfl (lv_at hl 0 rfl) ?_
      refine lv_iconst (v := 1) hx hb dX10_pour_37 (by decide) ?_
      refine EffI.cv (wr := (wX8 g a_d I_d J_d)) (w' := fun u6 => wX10 g a_p u6 J_p ++ wX8 g a_d I_d J_d) (As := [.int (1 : Int32)]) (kX10_didNot l g a_p I_p J_p (1 : Int32)) fx (gUV (uT _) u_240 u_241 u_242 u_2 u_243) rfl hdX10_didNot ⟨Nat.le_of_ble_eq_true rfl, Nat.le_of_ble_eq_true rfl⟩ hK hP hD hS hA [0, 1] [2, 3, 4, 5] [4, 5, 0, 1, 2, 3] rfl rfl rfl rfl (by decide) rfl (fun _ => rfl) rfl rfl rfl rfl hl.1 (Nat.le_of_ble_eq_true rfl) dX10_pour_38 (fun r5 u6 H locs p_r5 hP hD hS => ?_)
      have hP : va_P g.1 vwCl (wX10 g a_p u6 J_p ++ wX8 g a_d I_d J_d) H := hP
      have hD : va_D A (wX10 g a_p u6 J_p ++ wX8 g a_d I_d J_d) := hD
      refine hret 41 ls r5 _ _ (u6, J_d) dX10_pour_41 (Or.inl p_r5.1) hS hP hD ?_
      exact ⟨(PI.st hPI p_r5.2), (KP.tr (KP.rf I_p) (KP.st p_r5.2)), (by exact Or.inr ⟨p_r5.1, rfl, by omega⟩)⟩
    · have q_19 := bP.t p_r4 b_19
      refine lv_iload_n hx hb dX10_pour_22 rfl (lv_at hl 2 rfl) ?_
      refine q_if_lt (tgt := 36) hx hb dX10_pour_23 (by decide) rfl (fun k_23 => ?_) (fun k_23 => ?_)
      · refine lv_aload_n hx hb dX10_pour_36 rfl (lv_at hl 0 rfl) ?_
        refine lv_iconst (v := 1) hx hb dX10_pour_37 (by decide) ?_
        refine EffI.cv (wr := (wX8 g a_d I_d J_d)) (w' := fun u8 => wX10 g a_p u8 J_p ++ wX8 g a_d I_d J_d) (As := [.int (1 : Int32)]) (kX10_didNot l g a_p I_p J_p (1 : Int32)) fx (gUV (uT _) u_240 u_241 u_242 u_2 u_243) rfl hdX10_didNot ⟨Nat.le_of_ble_eq_true rfl, Nat.le_of_ble_eq_true rfl⟩ hK hP hD hS hA [0, 1] [2, 3, 4, 5] [4, 5, 0, 1, 2, 3] rfl rfl rfl rfl (by decide) rfl (fun _ => rfl) rfl rfl rfl rfl hl.1 (Nat.le_of_ble_eq_true rfl) dX10_pour_38 (fun r7 u8 H locs p_r7 hP hD hS => ?_)
        have hP : va_P g.1 vwCl (wX10 g a_p u8 J_p ++ wX8 g a_d I_d J_d) H := hP
        have hD : va_D A (wX10 g a_p u8 J_p ++ wX8 g a_d I_d J_d) := hD
        refine hret 41 ls r7 _ _ (u8, J_d) dX10_pour_41 (Or.inl p_r7.1) hS hP hD ?_
        exact ⟨(PI.st hPI p_r7.2), (KP.tr (KP.rf I_p) (KP.st p_r7.2)), (by exact Or.inr ⟨p_r7.1, rfl, by omega⟩)⟩
      · refine lv_iload hx hb dX10_pour_26 (lv_at hl 4 rfl) ?_
        refine q_if_lt (tgt := 36) hx hb dX10_pour_28 (by decide) rfl (fun k_28 => ?_) (fun k_28 => ?_)
        · refine lv_aload_n hx hb dX10_pour_36 rfl (lv_at hl 0 rfl) ?_
          refine lv_iconst (v := 1) hx hb dX10_pour_37 (by decide) ?_
          refine EffI.cv (wr := (wX8 g a_d I_d J_d)) (w' := fun u10 => wX10 g a_p u10 J_p ++ wX8 g a_d I_d J_d) (As := [.int (1 : Int32)]) (kX10_didNot l g a_p I_p J_p (1 : Int32)) fx (gUV (uT _) u_240 u_241 u_242 u_2 u_243) rfl hdX10_didNot ⟨Nat.le_of_ble_eq_true rfl, Nat.le_of_ble_eq_true rfl⟩ hK hP hD hS hA [0, 1] [2, 3, 4, 5] [4, 5, 0, 1, 2, 3] rfl rfl rfl rfl (by decide) rfl (fun _ => rfl) rfl rfl rfl rfl hl.1 (Nat.le_of_ble_eq_true rfl) dX10_pour_38 (fun r9 u10 H locs p_r9 hP hD hS => ?_)
          have hP : va_P g.1 vwCl (wX10 g a_p u10 J_p ++ wX8 g a_d I_d J_d) H := hP
          have hD : va_D A (wX10 g a_p u10 J_p ++ wX8 g a_d I_d J_d) := hD
          refine hret 41 ls r9 _ _ (u10, J_d) dX10_pour_41 (Or.inl p_r9.1) hS hP hD ?_
          exact ⟨(PI.st hPI p_r9.2), (KP.tr (KP.rf I_p) (KP.st p_r9.2)), (by exact Or.inr ⟨p_r9.1, rfl, by omega⟩)⟩
        · refine lv_iload hx hb dX10_pour_31 (lv_at hl 5 rfl) ?_
          refine q_if_ge (tgt := 42) hx hb dX10_pour_33 (by decide) rfl (fun k_33 => ?_) (fun k_33 => ?_)
          · refine lv_aload_n hx hb dX10_pour_42 rfl (lv_at hl 0 rfl) ?_
            refine va_get (D := g.1) (ci := 10) (v := .ref (a_d 0)) (C := RX10) (T := TX10) (N := 20) hx hb hi_X10 (fun _ h => h) hown hK.1 hP 0 rfl rfl 7 (by decide) hf_36 (fun _ h9 => h9) (congrArg (fun z => some (Value.ref z)) hl_p_trays) dX10_pour_43 ?_
            refine lv_iload_n hx hb dX10_pour_46 rfl (lv_at hl 1 rfl) ?_
            refine PurI.cv (As := [.int fr]) (kX8_isMissing l g a_d I_d J_d fr (by omega)) fx (gUV (uT _) u_312 u_273 u_274 u_23 u_275) rfl hdX8_isMissing ⟨Nat.le_of_ble_eq_true rfl, Nat.le_of_ble_eq_true rfl⟩ hK hP [2, 3, 4, 5] rfl rfl rfl rfl rfl hl.1 (Nat.le_of_ble_eq_true rfl) dX10_pour_47 (fun r11 p_r11 => ?_)
            refine q_if_ne (tgt := 64) hx hb dX10_pour_50 (by decide) rfl (fun b_50 k_50 => ?_) (fun b_50 k_50 => ?_)
            · have q_50 := bP.t p_r11 b_50
              refine lv_aload_n hx hb dX10_pour_64 rfl (lv_at hl 0 rfl) ?_
              refine lv_iconst (v := 2) hx hb dX10_pour_65 (by decide) ?_
              refine EffI.cv (wr := (wX8 g a_d I_d J_d)) (w' := fun u13 => wX10 g a_p u13 J_p ++ wX8 g a_d I_d J_d) (As := [.int (2 : Int32)]) (kX10_didNot l g a_p I_p J_p (2 : Int32)) fx (gUV (uT _) u_240 u_241 u_242 u_2 u_243) rfl hdX10_didNot ⟨Nat.le_of_ble_eq_true rfl, Nat.le_of_ble_eq_true rfl⟩ hK hP hD hS hA [0, 1] [2, 3, 4, 5] [4, 5, 0, 1, 2, 3] rfl rfl rfl rfl (by decide) rfl (fun _ => rfl) rfl rfl rfl rfl hl.1 (Nat.le_of_ble_eq_true rfl) dX10_pour_66 (fun r12 u13 H locs p_r12 hP hD hS => ?_)
              have hP : va_P g.1 vwCl (wX10 g a_p u13 J_p ++ wX8 g a_d I_d J_d) H := hP
              have hD : va_D A (wX10 g a_p u13 J_p ++ wX8 g a_d I_d J_d) := hD
              refine hret 69 ls r12 _ _ (u13, J_d) dX10_pour_69 (Or.inl p_r12.1) hS hP hD ?_
              exact ⟨(PI.st hPI p_r12.2), (KP.tr (KP.rf I_p) (KP.st p_r12.2)), (by exact Or.inr ⟨p_r12.1, rfl, by omega⟩)⟩
            · have q_50 := bP.f p_r11 b_50
              refine lv_aload_n hx hb dX10_pour_53 rfl (lv_at hl 0 rfl) ?_
              refine va_get (D := g.1) (ci := 10) (v := .ref (a_d 0)) (C := RX10) (T := TX10) (N := 20) hx hb hi_X10 (fun _ h => h) hown hK.1 hP 0 rfl rfl 7 (by decide) hf_36 (fun _ h9 => h9) (congrArg (fun z => some (Value.ref z)) hl_p_trays) dX10_pour_54 ?_
              refine lv_iload_n hx hb dX10_pour_57 rfl (lv_at hl 3 rfl) ?_
              refine PurI.cv (As := [.int to]) (kX8_isMissing l g a_d I_d J_d to (by omega)) fx (gUV (uT _) u_312 u_273 u_274 u_23 u_275) rfl hdX8_isMissing ⟨Nat.le_of_ble_eq_true rfl, Nat.le_of_ble_eq_true rfl⟩ hK hP [2, 3, 4, 5] rfl rfl rfl rfl rfl hl.1 (Nat.le_of_ble_eq_true rfl) dX10_pour_58 (fun r14 p_r14 => ?_)
              refine q_if_eq (tgt := 70) hx hb dX10_pour_61 (by decide) rfl (fun b_61 k_61 => ?_) (fun b_61 k_61 => ?_)
              · have q_61 := bP.f p_r14 b_61
                refine lv_aload_n hx hb dX10_pour_70 rfl (lv_at hl 0 rfl) ?_
                refine va_get (D := g.1) (ci := 10) (v := .ref (a_d 0)) (C := RX10) (T := TX10) (N := 20) hx hb hi_X10 (fun _ h => h) hown hK.1 hP 0 rfl rfl 7 (by decide) hf_36 (fun _ h9 => h9) (congrArg (fun z => some (Value.ref z)) hl_p_trays) dX10_pour_71 ?_
                refine lv_iload_n hx hb dX10_pour_74 rfl (lv_at hl 1 rfl) ?_
                refine PurI.cv (As := [.int fr]) (kX8_sortOf l g a_d I_d J_d fr (by omega)) fx (gUV (uT _) u_313 u_314 u_315 u_23 u_316) rfl hdX8_sortOf ⟨Nat.le_of_ble_eq_true rfl, Nat.le_of_ble_eq_true rfl⟩ hK hP [2, 3, 4, 5] rfl rfl rfl rfl rfl hl.1 (Nat.le_of_ble_eq_true rfl) dX10_pour_75 (fun r15 p_r15 => ?_)
                refine lv_aload_n hx hb dX10_pour_78 rfl (lv_at hl 0 rfl) ?_
                refine va_get (D := g.1) (ci := 10) (v := .ref (a_d 0)) (C := RX10) (T := TX10) (N := 20) hx hb hi_X10 (fun _ h => h) hown hK.1 hP 0 rfl rfl 7 (by decide) hf_36 (fun _ h9 => h9) (congrArg (fun z => some (Value.ref z)) hl_p_trays) dX10_pour_79 ?_
                refine lv_iload_n hx hb dX10_pour_82 rfl (lv_at hl 3 rfl) ?_
                refine PurI.cv (As := [.int to]) (kX8_sortOf l g a_d I_d J_d to (by omega)) fx (gUV (uT _) u_313 u_314 u_315 u_23 u_316) rfl hdX8_sortOf ⟨Nat.le_of_ble_eq_true rfl, Nat.le_of_ble_eq_true rfl⟩ hK hP [2, 3, 4, 5] rfl rfl rfl rfl rfl hl.1 (Nat.le_of_ble_eq_true rfl) dX10_pour_83 (fun r16 p_r16 => ?_)
                have hs75 := congrArg Int32.toInt p_r15
                have hs79 := congrArg Int32.toInt p_r16
                refine q_icmp_eq (tgt := 96) hx hb dX10_pour_86 (by decide) rfl rfl (fun k_86 => ?_) (fun k_86 => ?_)
                · refine lv_aload_n hx hb dX10_pour_96 rfl (lv_at hl 0 rfl) ?_
                  refine va_get (D := g.1) (ci := 10) (v := .ref (a_d 0)) (C := RX10) (T := TX10) (N := 20) hx hb hi_X10 (fun _ h => h) hown hK.1 hP 0 rfl rfl 7 (by decide) hf_36 (fun _ h9 => h9) (congrArg (fun z => some (Value.ref z)) hl_p_trays) dX10_pour_97 ?_
                  refine lv_iload_n hx hb dX10_pour_100 rfl (lv_at hl 1 rfl) ?_
                  refine lv_iload_n hx hb dX10_pour_101 rfl (lv_at hl 2 rfl) ?_
                  refine lv_iload hx hb dX10_pour_102 (lv_at hl 5 rfl) ?_
                  refine PurI.cv (As := [.int fr, .int place, .int many]) (kX8_hasFrom l g a_d I_d J_d fr place many (by omega) hDI) fx (gUV (uT _) u_317 u_318 u_319 u_23 u_320) rfl hdX8_hasFrom ⟨Nat.le_of_ble_eq_true rfl, Nat.le_of_ble_eq_true rfl⟩ hK hP [2, 3, 4, 5] rfl rfl rfl rfl rfl hl.1 (Nat.le_of_ble_eq_true rfl) dX10_pour_104 (fun r17 p_r17 => ?_)
                  refine q_if_eq (tgt := 125) hx hb dX10_pour_107 (by decide) rfl (fun b_107 k_107 => ?_) (fun b_107 k_107 => ?_)
                  · have q_107 := bP.f p_r17 b_107
                    refine lv_aload_n hx hb dX10_pour_125 rfl (lv_at hl 0 rfl) ?_
                    refine lv_iconst (v := 3) hx hb dX10_pour_126 (by decide) ?_
                    refine EffI.cv (wr := (wX8 g a_d I_d J_d)) (w' := fun u19 => wX10 g a_p u19 J_p ++ wX8 g a_d I_d J_d) (As := [.int (3 : Int32)]) (kX10_didNot l g a_p I_p J_p (3 : Int32)) fx (gUV (uT _) u_240 u_241 u_242 u_2 u_243) rfl hdX10_didNot ⟨Nat.le_of_ble_eq_true rfl, Nat.le_of_ble_eq_true rfl⟩ hK hP hD hS hA [0, 1] [2, 3, 4, 5] [4, 5, 0, 1, 2, 3] rfl rfl rfl rfl (by decide) rfl (fun _ => rfl) rfl rfl rfl rfl hl.1 (Nat.le_of_ble_eq_true rfl) dX10_pour_127 (fun r18 u19 H locs p_r18 hP hD hS => ?_)
                    have hP : va_P g.1 vwCl (wX10 g a_p u19 J_p ++ wX8 g a_d I_d J_d) H := hP
                    have hD : va_D A (wX10 g a_p u19 J_p ++ wX8 g a_d I_d J_d) := hD
                    refine hret 130 ls r18 _ _ (u19, J_d) dX10_pour_130 (Or.inl p_r18.1) hS hP hD ?_
                    exact ⟨(PI.st hPI p_r18.2), (KP.tr (KP.rf I_p) (KP.st p_r18.2)), (by exact Or.inr ⟨p_r18.1, rfl, by omega⟩)⟩
                  · have q_107 := bP.t p_r17 b_107
                    refine lv_aload_n hx hb dX10_pour_110 rfl (lv_at hl 0 rfl) ?_
                    refine va_get (D := g.1) (ci := 10) (v := .ref (a_d 0)) (C := RX10) (T := TX10) (N := 20) hx hb hi_X10 (fun _ h => h) hown hK.1 hP 0 rfl rfl 7 (by decide) hf_36 (fun _ h9 => h9) (congrArg (fun z => some (Value.ref z)) hl_p_trays) dX10_pour_111 ?_
                    refine lv_iload_n hx hb dX10_pour_114 rfl (lv_at hl 3 rfl) ?_
                    refine lv_iload hx hb dX10_pour_115 (lv_at hl 4 rfl) ?_
                    refine lv_iload hx hb dX10_pour_117 (lv_at hl 5 rfl) ?_
                    refine PurI.cv (As := [.int to, .int ia, .int many]) (kX8_hasFrom l g a_d I_d J_d to ia many (by omega) hDI) fx (gUV (uT _) u_317 u_318 u_319 u_23 u_320) rfl hdX8_hasFrom ⟨Nat.le_of_ble_eq_true rfl, Nat.le_of_ble_eq_true rfl⟩ hK hP [2, 3, 4, 5] rfl rfl rfl rfl rfl hl.1 (Nat.le_of_ble_eq_true rfl) dX10_pour_119 (fun r20 p_r20 => ?_)
                    refine q_if_ne (tgt := 131) hx hb dX10_pour_122 (by decide) rfl (fun b_122 k_122 => ?_) (fun b_122 k_122 => ?_)
                    · have q_122 := bP.t p_r20 b_122
                      refine lv_aload_n hx hb dX10_pour_131 rfl (lv_at hl 0 rfl) ?_
                      refine va_get (D := g.1) (ci := 10) (v := .ref (a_d 0)) (C := RX10) (T := TX10) (N := 20) hx hb hi_X10 (fun _ h => h) hown hK.1 hP 0 rfl rfl 7 (by decide) hf_36 (fun _ h9 => h9) (congrArg (fun z => some (Value.ref z)) hl_p_trays) dX10_pour_132 ?_
                      refine lv_iload_n hx hb dX10_pour_135 rfl (lv_at hl 1 rfl) ?_
                      refine lv_iload_n hx hb dX10_pour_136 rfl (lv_at hl 2 rfl) ?_
                      refine lv_iload_n hx hb dX10_pour_137 rfl (lv_at hl 3 rfl) ?_
                      refine lv_iload hx hb dX10_pour_138 (lv_at hl 4 rfl) ?_
                      refine lv_iload hx hb dX10_pour_140 (lv_at hl 5 rfl) ?_
                      refine EffV.cv (wr := (wX10 g a_p I_p J_p)) (w' := fun u22 => wX10 g a_p I_p J_p ++ wX8 g a_d I_d u22) (As := [.int fr, .int place, .int to, .int ia, .int many]) (kX8_move l g a_d I_d J_d fr place to ia many (by omega)) fx (gUV (uT _) u_321 u_322 u_323 u_23 u_324) rfl hdX8_move ⟨Nat.le_of_ble_eq_true rfl, Nat.le_of_ble_eq_true rfl⟩ hK hP hD hS hA [2, 3, 4, 5] [0, 1] [0, 1, 2, 3, 4, 5] rfl rfl rfl rfl (by decide) rfl (fun _ => rfl) rfl rfl rfl rfl hl.1 (Nat.le_of_ble_eq_true rfl) dX10_pour_142 (fun u22 H locs p_r21 hP hD hS => ?_)
                      have hP : va_P g.1 vwCl (wX10 g a_p I_p J_p ++ wX8 g a_d I_d u22) H := hP
                      have hD : va_D A (wX10 g a_p I_p J_p ++ wX8 g a_d I_d u22) := hD
                      refine lv_aload_n hx hb dX10_pour_145 rfl (lv_at hl 0 rfl) ?_
                      refine EffI.cv (wr := (wX8 g a_d I_d u22)) (w' := fun u24 => wX10 g a_p u24 J_p ++ wX8 g a_d I_d u22) (As := []) (kX10_did l g a_p I_p J_p) fx (gUV (uT _) u_248 u_249 u_250 u_2 u_251) rfl hdX10_did ⟨Nat.le_of_ble_eq_true rfl, Nat.le_of_ble_eq_true rfl⟩ hK hP hD hS hA [0, 1] [2, 3, 4, 5] [4, 5, 0, 1, 2, 3] rfl rfl rfl rfl (by decide) rfl (fun _ => rfl) rfl rfl rfl rfl hl.1 (Nat.le_of_ble_eq_true rfl) dX10_pour_146 (fun r23 u24 H locs p_r23 hP hD hS => ?_)
                      have hP : va_P g.1 vwCl (wX10 g a_p u24 J_p ++ wX8 g a_d I_d u22) H := hP
                      have hD : va_D A (wX10 g a_p u24 J_p ++ wX8 g a_d I_d u22) := hD
                      refine hret 149 ls r23 _ _ (u24, u22) dX10_pour_149 (Or.inr p_r23.1) hS hP hD ?_
                      exact ⟨(PI.st hPI p_r23.2), (KP.tr (KP.rf I_p) (KP.st p_r23.2)), (by exact Or.inl ⟨p_r23.1, by omega, by omega, by omega, (by rw [← p_r15, ← p_r16]; exact t_inj k_86), by omega, by omega, p_r21⟩)⟩
                    · have q_122 := bP.f p_r20 b_122
                      refine lv_aload_n hx hb dX10_pour_125 rfl (lv_at hl 0 rfl) ?_
                      refine lv_iconst (v := 3) hx hb dX10_pour_126 (by decide) ?_
                      refine EffI.cv (wr := (wX8 g a_d I_d J_d)) (w' := fun u26 => wX10 g a_p u26 J_p ++ wX8 g a_d I_d J_d) (As := [.int (3 : Int32)]) (kX10_didNot l g a_p I_p J_p (3 : Int32)) fx (gUV (uT _) u_240 u_241 u_242 u_2 u_243) rfl hdX10_didNot ⟨Nat.le_of_ble_eq_true rfl, Nat.le_of_ble_eq_true rfl⟩ hK hP hD hS hA [0, 1] [2, 3, 4, 5] [4, 5, 0, 1, 2, 3] rfl rfl rfl rfl (by decide) rfl (fun _ => rfl) rfl rfl rfl rfl hl.1 (Nat.le_of_ble_eq_true rfl) dX10_pour_127 (fun r25 u26 H locs p_r25 hP hD hS => ?_)
                      have hP : va_P g.1 vwCl (wX10 g a_p u26 J_p ++ wX8 g a_d I_d J_d) H := hP
                      have hD : va_D A (wX10 g a_p u26 J_p ++ wX8 g a_d I_d J_d) := hD
                      refine hret 130 ls r25 _ _ (u26, J_d) dX10_pour_130 (Or.inl p_r25.1) hS hP hD ?_
                      exact ⟨(PI.st hPI p_r25.2), (KP.tr (KP.rf I_p) (KP.st p_r25.2)), (by exact Or.inr ⟨p_r25.1, rfl, by omega⟩)⟩
                · refine lv_aload_n hx hb dX10_pour_89 rfl (lv_at hl 0 rfl) ?_
                  refine lv_bipush (v := 8) hx hb dX10_pour_90 (by decide) ?_
                  refine EffI.cv (wr := (wX8 g a_d I_d J_d)) (w' := fun u28 => wX10 g a_p u28 J_p ++ wX8 g a_d I_d J_d) (As := [.int (8 : Int32)]) (kX10_didNot l g a_p I_p J_p (8 : Int32)) fx (gUV (uT _) u_240 u_241 u_242 u_2 u_243) rfl hdX10_didNot ⟨Nat.le_of_ble_eq_true rfl, Nat.le_of_ble_eq_true rfl⟩ hK hP hD hS hA [0, 1] [2, 3, 4, 5] [4, 5, 0, 1, 2, 3] rfl rfl rfl rfl (by decide) rfl (fun _ => rfl) rfl rfl rfl rfl hl.1 (Nat.le_of_ble_eq_true rfl) dX10_pour_92 (fun r27 u28 H locs p_r27 hP hD hS => ?_)
                  have hP : va_P g.1 vwCl (wX10 g a_p u28 J_p ++ wX8 g a_d I_d J_d) H := hP
                  have hD : va_D A (wX10 g a_p u28 J_p ++ wX8 g a_d I_d J_d) := hD
                  refine hret 95 ls r27 _ _ (u28, J_d) dX10_pour_95 (Or.inl p_r27.1) hS hP hD ?_
                  exact ⟨(PI.st hPI p_r27.2), (KP.tr (KP.rf I_p) (KP.st p_r27.2)), (by exact Or.inr ⟨p_r27.1, rfl, by omega⟩)⟩
              · have q_61 := bP.t p_r14 b_61
                refine lv_aload_n hx hb dX10_pour_64 rfl (lv_at hl 0 rfl) ?_
                refine lv_iconst (v := 2) hx hb dX10_pour_65 (by decide) ?_
                refine EffI.cv (wr := (wX8 g a_d I_d J_d)) (w' := fun u30 => wX10 g a_p u30 J_p ++ wX8 g a_d I_d J_d) (As := [.int (2 : Int32)]) (kX10_didNot l g a_p I_p J_p (2 : Int32)) fx (gUV (uT _) u_240 u_241 u_242 u_2 u_243) rfl hdX10_didNot ⟨Nat.le_of_ble_eq_true rfl, Nat.le_of_ble_eq_true rfl⟩ hK hP hD hS hA [0, 1] [2, 3, 4, 5] [4, 5, 0, 1, 2, 3] rfl rfl rfl rfl (by decide) rfl (fun _ => rfl) rfl rfl rfl rfl hl.1 (Nat.le_of_ble_eq_true rfl) dX10_pour_66 (fun r29 u30 H locs p_r29 hP hD hS => ?_)
                have hP : va_P g.1 vwCl (wX10 g a_p u30 J_p ++ wX8 g a_d I_d J_d) H := hP
                have hD : va_D A (wX10 g a_p u30 J_p ++ wX8 g a_d I_d J_d) := hD
                refine hret 69 ls r29 _ _ (u30, J_d) dX10_pour_69 (Or.inl p_r29.1) hS hP hD ?_
                exact ⟨(PI.st hPI p_r29.2), (KP.tr (KP.rf I_p) (KP.st p_r29.2)), (by exact Or.inr ⟨p_r29.1, rfl, by omega⟩)⟩
          · refine lv_aload_n hx hb dX10_pour_36 rfl (lv_at hl 0 rfl) ?_
            refine lv_iconst (v := 1) hx hb dX10_pour_37 (by decide) ?_
            refine EffI.cv (wr := (wX8 g a_d I_d J_d)) (w' := fun u32 => wX10 g a_p u32 J_p ++ wX8 g a_d I_d J_d) (As := [.int (1 : Int32)]) (kX10_didNot l g a_p I_p J_p (1 : Int32)) fx (gUV (uT _) u_240 u_241 u_242 u_2 u_243) rfl hdX10_didNot ⟨Nat.le_of_ble_eq_true rfl, Nat.le_of_ble_eq_true rfl⟩ hK hP hD hS hA [0, 1] [2, 3, 4, 5] [4, 5, 0, 1, 2, 3] rfl rfl rfl rfl (by decide) rfl (fun _ => rfl) rfl rfl rfl rfl hl.1 (Nat.le_of_ble_eq_true rfl) dX10_pour_38 (fun r31 u32 H locs p_r31 hP hD hS => ?_)
            have hP : va_P g.1 vwCl (wX10 g a_p u32 J_p ++ wX8 g a_d I_d J_d) H := hP
            have hD : va_D A (wX10 g a_p u32 J_p ++ wX8 g a_d I_d J_d) := hD
            refine hret 41 ls r31 _ _ (u32, J_d) dX10_pour_41 (Or.inl p_r31.1) hS hP hD ?_
            exact ⟨(PI.st hPI p_r31.2), (KP.tr (KP.rf I_p) (KP.st p_r31.2)), (by exact Or.inr ⟨p_r31.1, rfl, by omega⟩)⟩
