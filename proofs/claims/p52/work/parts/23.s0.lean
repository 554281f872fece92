
abbrev wMQ (g : gG) (a : Nat → Nat) : va_W := [(a 0, .inl (g.2.2.2.2, 3, .inr (.inr (.inr (.inr (va_up (va_up (va_up (fun _ => none) (0 : Int32).toNatClampNeg (some (a 100))) (1 : Int32).toNatClampNeg (some (a 101))) (2 : Int32).toNatClampNeg (some (a 102))))))))]
section Perm
variable {p : Program} {l : Launch} {e : Env} {R : Room} {s : State} {m : MethodId} {args : Array Value} {below : List Frame} {meth : Method} {c : Code} {H : Heap} {locs : List Loc} {cells slots : Nat} {Q : State → Prop}
variable {cc : ByteArray} {pc : Nat} {ls : Array Slot} {rest : List Value} {D : va_G} {cl : List vw_C} {A : Nat → Prop} {a : Nat} {tys : List (ClassId × FieldType)} {ws : va_W}
theorem w_perm {w w' : va_W} (hP : va_P D cl w H) (hD : va_D A w) (is : List Nat) (hn : va_nd is = true) (hs : is.map (fun i => w[i]?) = w'.map some) : va_P D cl w' H ∧ va_D A w' := ⟨hP.sub is (fm_map hs), hD.sub is hn hs⟩
theorem r_aald (hx : p.tables.exec = Jvm.exec) (hb : c.code = cc) (hK : va_K D cl tys s) (hP : va_P D cl ws H) (q0 t0 : Nat) {cA : ClassId} {C : String} {n : Nat} {f : Nat → Option Nat} (ha : ws[q0]? = some (a, .inl (cA, n, .inr (.inr (.inr (.inr f)))))) (ht : tys[t0]? = some (cA, .object C)) {i : Int32} {v : Value} (hin : vp_in i n) (hv : va_rf (f i.toNatClampNeg) = v) (hdg : decode cc pc = .ok (.aaload, 1))
    (kk : W p l e R s m args below meth c H locs cells slots Q (F0 m (pc + 1) ls (v :: rest))) : W p l e R s m args below meth c H locs cells slots Q (F0 m pc ls (.int i :: .ref a :: rest)) := va_aldq hx hb hK hP q0 t0 ha ht hin hdg (by rw [hv]; exact kk)
end Perm
set_option maxHeartbeats 4000000 in
set_option maxRecDepth 100000 in
theorem kX10_press (l : Launch) (g : gG) (ad av : Nat → Nat) (a_p : Nat → Nat) (I_p : Nat → Nat → Int32) (J_p : Nat → Nat → Int64) (a_r : Nat → Nat) (I_r : Nat → Nat → Int32) (a_q : Nat → Nat) (I_q : Nat → Nat → Int32) (a_t : Nat → Nat) (I_t : Nat → Nat → Int32) (n : Int32) (hl_p_reader : a_p 108 = a_r 0) (hl_p_table : a_p 109 = a_t 0) (hl_r_table : a_r 100 = a_q 0) (hPI : PI I_p) (hQ : TI I_q) (hT : TI I_t) : EffIS l g ad av yX10_press wsX10_press 9 [.ref (a_p 0), .int n] (wX10 g a_p I_p J_p ++ (wX3 g a_r I_r ++ (wX7 g a_q I_q ++ wX7 g a_t I_t))) (fun (u : ((Nat → Nat → Int32) × (Nat → Nat → Int32) × (Nat → Nat → Int32) × (Nat → Nat → Int32))) => wX10 g a_p (u.1) J_p ++ (wX3 g a_r (u.2.1) ++ (wX7 g a_q (u.2.2.1) ++ wX7 g a_t (u.2.2.2)))) (fun r (u : ((Nat → Nat → Int32) × (Nat → Nat → Int32) × (Nat → Nat → Int32) × (Nat → Nat → Int32))) => PI (u.1) ∧ TI (u.2.2.1) ∧ TI (u.2.2.2) ∧ ((¬ (0 ≤ n.toInt ∧ n.toInt ≤ (I_p 0 1).toInt) ∧ (u.1) 0 1 = I_p 0 1) ∨ ((0 ≤ n.toInt ∧ n.toInt ≤ (I_p 0 1).toInt) ∧ (u.1) 0 1 = 0)) ∧ (u.1) 0 19 = I_p 0 19 ∧ ((0 ≤ n.toInt ∧ n.toInt ≤ (I_p 0 1).toInt) → ∃ (c : Int × fxS) (pl : Int), fxRe (fxB (I_p 1)) n.toInt (0, fxS0) c ∧ fxVd (fxB (I_p 1)) n.toInt c ((u.1) 0 3).toInt pl ∧ ((r = (u.2.2.2) 0 0 ∧ ((u.1) 0 3).toInt = 0 ∧ ((u.1) 0 4).toInt = -1 ∧ c.2.2.2.2.1 = fxTc (u.2.2.2) ∧ ((u.2.2.2) 0 1).toInt = 0) ∨ (r = -1 ∧ ((u.1) 0 3).toInt ≠ 0 ∧ ((u.1) 0 4).toInt = pl ∧ (u.2.2.2) = I_t))) ∧ (¬ (0 ≤ n.toInt ∧ n.toInt ≤ (I_p 0 1).toInt) → r = -1 ∧ (u.1) 0 3 = I_p 0 3 ∧ (u.1) 0 4 = I_p 0 4 ∧ (u.2.2.2) = I_t ∧ (u.1) 1 = I_p 1)) := by
  refine EffIS.st (cc := cX10_press) (maxL := 3) (by decide) rfl (Nat.le_of_ble_eq_true rfl) (fun p e s m args below meth c A Q ls fx hK hP hD hA hS hJ hl hret => ?_)
  have hx := fx.1
  have hb := fx.2.1
  have hml := fx.2.2.1
  have hown := fx.2.2.2.1
  have hts := fx.2.2.2.2
  have hl : lv_has ls 3 [(0, .ref (a_p 0)), (1, .int n)] := hl
  have hP : va_P g.1 vwCl (wX10 g a_p I_p J_p ++ (wX3 g a_r I_r ++ (wX7 g a_q I_q ++ wX7 g a_t I_t))) s.heap := hP
  have hf_9 := hts _ (uT _ _ u_14)
  have hf_13 := hts _ (uT _ _ u_15)
  have hf_20 := hts _ (uT _ _ u_17)
  have hf_23 := hts _ (uT _ _ u_18)
  have hf_43 := hts _ (uT _ _ u_28)
  have hf_50 := hts _ (uT _ _ u_32)
  have hf_61 := hts _ (uT _ _ u_37)
  have hf_172 := hts _ (uT _ _ u_354)
  have hf_173 := hts _ (uT _ _ u_355)
  have hf_176 := hts _ (uT _ _ u_356)
  have hf_181 := hts _ (uT _ _ u_357)
  have hi_X10 : ∀ w ∈ wsX100, w.before args s = true := fun w h => hts w (uT _ w (u_wsX100 w h))
  have hi_X3 : ∀ w ∈ wsX30, w.before args s = true := fun w h => hts w (uT _ w (u_wsX30 w h))
  have hi_X7 : ∀ w ∈ wsX70, w.before args s = true := fun w h => hts w (uT _ w (u_wsX70 w h))
  have lm1 : (-1 : Int32).toInt = -1 := by decide
  have lm0 : (0 : Int32).toInt = 0 := by decide
  have lm2 : (1 : Int32).toInt = 1 := by decide
  have hp1 := hPI.1
  have hp2 := hPI.2.1
  have hru := TI.ru hT
  have hlt3 := TI.li hT
  have hlt4 := TI.pa hT
  refine lv_iload_n hx hb dX10_press_0 rfl (lv_at hl 1 rfl) ?_
  refine q_if_lt (tgt := 12) hx hb dX10_press_1 (by decide) rfl (fun k_1 => ?_) (fun k_1 => ?_)
  · refine lv_aload_n hx hb dX10_press_12 rfl (lv_at hl 0 rfl) ?_
    refine lv_iconst (v := 1) hx hb dX10_press_13 (by decide) ?_
    refine EffI.cv (wr := (wX3 g a_r I_r ++ wX7 g a_q I_q ++ wX7 g a_t I_t)) (w' := fun u2 => wX10 g a_p u2 J_p ++ (wX3 g a_r I_r ++ (wX7 g a_q I_q ++ wX7 g a_t I_t))) (As := [.int (1 : Int32)]) (kX10_refuse l g a_p I_p J_p (1 : Int32)) fx (gUV (uT _) u_295 u_296 u_297 u_2 u_298) rfl hdX10_refuse ⟨Nat.le_of_ble_eq_true rfl, Nat.le_of_ble_eq_true rfl⟩ hK hP hD hS hA [0, 1] [2, 3, 4, 5, 6, 7, 8, 9, 10, 11, 12, 13, 14, 15, 16] [15, 16, 0, 1, 2, 3, 4, 5, 6, 7, 8, 9, 10, 11, 12, 13, 14] rfl rfl rfl rfl (by decide) rfl (fun _ => rfl) rfl rfl rfl rfl hl.1 (Nat.le_of_ble_eq_true rfl) dX10_press_14 (fun r1 u2 H locs p_r1 hP hD hS => ?_)
    have hP : va_P g.1 vwCl (wX10 g a_p u2 J_p ++ (wX3 g a_r I_r ++ (wX7 g a_q I_q ++ wX7 g a_t I_t))) H := hP
    have hD : va_D A (wX10 g a_p u2 J_p ++ (wX3 g a_r I_r ++ (wX7 g a_q I_q ++ wX7 g a_t I_t))) := hD
    refine hret 17 ls r1 _ _ (u2, I_r, I_q, I_t) dX10_press_17 hS hP hD ?_
    exact ⟨(PI.st hPI p_r1.2), hQ, hT, Or.inl ⟨by omega, congrFun (congrFun p_r1.2 0) 1⟩, congrFun (congrFun p_r1.2 0) 19, fun q => absurd q (by omega), fun _ => ⟨p_r1.1, (congrFun (congrFun p_r1.2 0) 3), (congrFun (congrFun p_r1.2 0) 4), rfl, congrFun p_r1.2 1⟩⟩
  · refine lv_iload_n hx hb dX10_press_4 rfl (lv_at hl 1 rfl) ?_
    refine lv_aload_n hx hb dX10_press_5 rfl (lv_at hl 0 rfl) ?_
    refine va_get (D := g.1) (ci := 10) (v := .int (I_p 0 1)) (C := RX10) (T := TX10) (N := 20) hx hb hi_X10 (fun _ h => h) hown hK.1 hP 0 rfl rfl 1 (by decide) hf_13 (fun _ h9 => h9) rfl dX10_press_6 ?_
    refine q_icmp_le (tgt := 18) hx hb dX10_press_9 (by decide) rfl rfl (fun k_9 => ?_) (fun k_9 => ?_)
    · refine lv_aload_n hx hb dX10_press_18 rfl (lv_at hl 0 rfl) ?_
      refine va_get (D := g.1) (ci := 10) (v := .ref (a_r 0)) (C := RX10) (T := TX10) (N := 20) hx hb hi_X10 (fun _ h => h) hown hK.1 hP 0 rfl rfl 8 (by decide) hf_43 (fun _ h9 => h9) (congrArg (fun z => some (Value.ref z)) hl_p_reader) dX10_press_19 ?_
      refine lv_aload_n hx hb dX10_press_22 rfl (lv_at hl 0 rfl) ?_
      refine va_get (D := g.1) (ci := 10) (v := .ref (a_p 1)) (C := RX10) (T := TX10) (N := 20) hx hb hi_X10 (fun _ h => h) hown hK.1 hP 0 rfl rfl 0 (by decide) hf_9 (fun _ h9 => h9) rfl dX10_press_23 ?_
      refine lv_iload_n hx hb dX10_press_26 rfl (lv_at hl 1 rfl) ?_
      refine EffIS.cv (wr := (([0].filterMap (fun i => (wX10 g a_p I_p J_p)[i]?)) ++ wX7 g a_t I_t)) (w' := fun u4 => wX10 g a_p I_p J_p ++ (wX3 g a_r u4.1 ++ (wX7 g a_q u4.2 ++ wX7 g a_t I_t))) (As := [.ref (a_p 1), .int n]) (kX3_takes l g ad av a_r I_r (fun k => a_p (k + 1)) 900 (fun k => I_p (k + 1)) a_q I_q n hl_r_table hQ (by omega)) fx (gUV (uT _) u_358 u_359 u_360 u_27 u_361) rfl hdX3_takes ⟨Nat.le_of_ble_eq_true rfl, Nat.le_of_ble_eq_true rfl⟩ hJ hK hP hD hS hA [2, 1, 3, 4, 5, 6, 7, 8, 9] [0, 10, 11, 12, 13, 14, 15, 16] [0, 9, 8, 10, 11, 12, 13, 14, 15, 16, 1, 2, 3, 4, 5, 6, 7] rfl rfl rfl rfl (by decide) rfl (fun _ => rfl) rfl rfl rfl rfl hl.1 (Nat.le_of_ble_eq_true rfl) dX10_press_27 (fun r3 u4 H locs p_r3 hP hD hS => ?_)
      obtain ⟨I5, I6⟩ := u4
      try dsimp only at p_r3
      have hP : va_P g.1 vwCl (wX10 g a_p I_p J_p ++ (wX3 g a_r I5 ++ (wX7 g a_q I6 ++ wX7 g a_t I_t))) H := hP
      have hD : va_D A (wX10 g a_p I_p J_p ++ (wX3 g a_r I5 ++ (wX7 g a_q I6 ++ wX7 g a_t I_t))) := hD
      refine lv_istore_n (lv' := [(2, .int r3), (0, .ref (a_p 0)), (1, .int n)]) hx hb dX10_press_30 rfl hl (by decide) rfl (fun ls hl => ?_)
      refine lv_aload_n hx hb dX10_press_31 rfl (lv_at hl 1 rfl) ?_
      refine lv_iconst (v := 0) hx hb dX10_press_32 (by decide) ?_
      refine va_put (D := g.1) (ci := 10) (v := .int (0 : Int32)) (ty := .int) (C := RX10) (T := TX10) (N := 20) hx hb hi_X10 (fun _ h => h) tyX10 tyX10_ok nmX10 hown hK.1 hP hD hS 0 rfl rfl 1 (by decide) hf_13 (fun _ h9 => h9) rfl (by decide +kernel) rfl rfl (Nat.le_of_ble_eq_true rfl) dX10_press_33 (fun H locs hP hD hS => ?_)
      have hP : va_P g.1 vwCl (wX10 g a_p (uF I_p 0 1 (0 : Int32)) J_p ++ (wX3 g a_r I5 ++ (wX7 g a_q I6 ++ wX7 g a_t I_t))) H := hP
      have hD : va_D A (wX10 g a_p (uF I_p 0 1 (0 : Int32)) J_p ++ (wX3 g a_r I5 ++ (wX7 g a_q I6 ++ wX7 g a_t I_t))) := hD
      have hc_33 : PI (uF I_p 0 1 (0 : Int32)) := ⟨(show 0 ≤ ((0 : Int32)).toInt ∧ ((0 : Int32)).toInt ≤ 900 from (by omega)), hPI.2⟩
      refine lv_aload_n hx hb dX10_press_36 rfl (lv_at hl 1 rfl) ?_
      refine lv_aload_n hx hb dX10_press_37 rfl (lv_at hl 1 rfl) ?_
      refine va_get (D := g.1) (ci := 10) (v := .ref (a_r 0)) (C := RX10) (T := TX10) (N := 20) hx hb hi_X10 (fun _ h => h) hown hK.1 hP 0 rfl rfl 8 (by decide) hf_43 (fun _ h9 => h9) (congrArg (fun z => some (Value.ref z)) hl_p_reader) dX10_press_38 ?_
      refine va_get (D := g.1) (ci := 3) (v := .int (I5 0 1)) (C := RX3) (T := TX3) (N := 10) hx hb hi_X3 (fun _ h => h) hown hK.1 hP 2 rfl rfl 1 (by decide) hf_172 (fun _ h9 => h9) rfl dX10_press_41 ?_
      refine va_put (D := g.1) (ci := 10) (v := .int (I5 0 1)) (ty := .int) (C := RX10) (T := TX10) (N := 20) hx hb hi_X10 (fun _ h => h) tyX10 tyX10_ok nmX10 hown hK.1 hP hD hS 0 rfl rfl 3 (by decide) hf_20 (fun _ h9 => h9) rfl (by decide +kernel) rfl rfl (Nat.le_of_ble_eq_true rfl) dX10_press_44 (fun H locs hP hD hS => ?_)
      have hP : va_P g.1 vwCl (wX10 g a_p (uF (uF I_p 0 1 (0 : Int32)) 0 3 (I5 0 1)) J_p ++ (wX3 g a_r I5 ++ (wX7 g a_q I6 ++ wX7 g a_t I_t))) H := hP
      have hD : va_D A (wX10 g a_p (uF (uF I_p 0 1 (0 : Int32)) 0 3 (I5 0 1)) J_p ++ (wX3 g a_r I5 ++ (wX7 g a_q I6 ++ wX7 g a_t I_t))) := hD
      have hc_44 : PI (uF (uF I_p 0 1 (0 : Int32)) 0 3 (I5 0 1)) := hc_33
      refine lv_aload_n hx hb dX10_press_47 rfl (lv_at hl 1 rfl) ?_
      refine lv_aload_n hx hb dX10_press_48 rfl (lv_at hl 1 rfl) ?_
      refine va_get (D := g.1) (ci := 10) (v := .ref (a_r 0)) (C := RX10) (T := TX10) (N := 20) hx hb hi_X10 (fun _ h => h) hown hK.1 hP 0 rfl rfl 8 (by decide) hf_43 (fun _ h9 => h9) (congrArg (fun z => some (Value.ref z)) hl_p_reader) dX10_press_49 ?_
      refine va_get (D := g.1) (ci := 3) (v := .int (I5 0 2)) (C := RX3) (T := TX3) (N := 10) hx hb hi_X3 (fun _ h => h) hown hK.1 hP 2 rfl rfl 2 (by decide) hf_173 (fun _ h9 => h9) rfl dX10_press_52 ?_
      refine va_put (D := g.1) (ci := 10) (v := .int (I5 0 2)) (ty := .int) (C := RX10) (T := TX10) (N := 20) hx hb hi_X10 (fun _ h => h) tyX10 tyX10_ok nmX10 hown hK.1 hP hD hS 0 rfl rfl 4 (by decide) hf_23 (fun _ h9 => h9) rfl (by decide +kernel) rfl rfl (Nat.le_of_ble_eq_true rfl) dX10_press_55 (fun H locs hP hD hS => ?_)
      have hP : va_P g.1 vwCl (wX10 g a_p (uF (uF (uF I_p 0 1 (0 : Int32)) 0 3 (I5 0 1)) 0 4 (I5 0 2)) J_p ++ (wX3 g a_r I5 ++ (wX7 g a_q I6 ++ wX7 g a_t I_t))) H := hP
      have hD : va_D A (wX10 g a_p (uF (uF (uF I_p 0 1 (0 : Int32)) 0 3 (I5 0 1)) 0 4 (I5 0 2)) J_p ++ (wX3 g a_r I5 ++ (wX7 g a_q I6 ++ wX7 g a_t I_t))) := hD
      have hc_55 : PI (uF (uF (uF I_p 0 1 (0 : Int32)) 0 3 (I5 0 1)) 0 4 (I5 0 2)) := hc_44
      refine lv_iload_n hx hb dX10_press_58 rfl (lv_at hl 0 rfl) ?_
      refine q_if_ne (tgt := 69) hx hb dX10_press_59 (by decide) rfl (fun b_59 k_59 => ?_) (fun b_59 k_59 => ?_)
      · refine lv_aload_n hx hb dX10_press_69 rfl (lv_at hl 1 rfl) ?_
        refine va_get (D := g.1) (ci := 10) (v := .ref (a_t 0)) (C := RX10) (T := TX10) (N := 20) hx hb hi_X10 (fun _ h => h) hown hK.1 hP 0 rfl rfl 9 (by decide) hf_50 (fun _ h9 => h9) (congrArg (fun z => some (Value.ref z)) hl_p_table) dX10_press_70 ?_
        refine lv_aload_n hx hb dX10_press_73 rfl (lv_at hl 1 rfl) ?_
        refine va_get (D := g.1) (ci := 10) (v := .ref (a_r 0)) (C := RX10) (T := TX10) (N := 20) hx hb hi_X10 (fun _ h => h) hown hK.1 hP 0 rfl rfl 8 (by decide) hf_43 (fun _ h9 => h9) (congrArg (fun z => some (Value.ref z)) hl_p_reader) dX10_press_74 ?_
        refine va_get (D := g.1) (ci := 3) (v := .ref (a_q 0)) (C := RX3) (T := TX3) (N := 10) hx hb hi_X3 (fun _ h => h) hown hK.1 hP 2 rfl rfl 0 (by decide) hf_176 (fun _ h9 => h9) (congrArg (fun z => some (Value.ref z)) hl_r_table) dX10_press_77 ?_
        refine EffV.cv (wr := (wX10 g a_p (uF (uF (uF I_p 0 1 (0 : Int32)) 0 3 (I5 0 1)) 0 4 (I5 0 2)) J_p ++ wX3 g a_r I5)) (w' := fun u8 => wX10 g a_p (uF (uF (uF I_p 0 1 (0 : Int32)) 0 3 (I5 0 1)) 0 4 (I5 0 2)) J_p ++ (wX3 g a_r I5 ++ (wX7 g a_q I6 ++ wX7 g a_t u8))) (As := [.ref (a_q 0)]) (kX7_copyOf l g a_t I_t a_q I6 p_r3.2.1 hT) fx (gUV (uT _) u_492 u_493 u_494 u_31 u_495) rfl hdX7_copyOf ⟨Nat.le_of_ble_eq_true rfl, Nat.le_of_ble_eq_true rfl⟩ hK hP hD hS hA [10, 11, 12, 13, 14, 15, 16, 3, 4, 5, 6, 7, 8, 9] [0, 1, 2] [0, 1, 2, 10, 11, 12, 13, 14, 15, 16, 3, 4, 5, 6, 7, 8, 9] rfl rfl rfl rfl (by decide) rfl (fun _ => rfl) rfl rfl rfl rfl hl.1 (Nat.le_of_ble_eq_true rfl) dX10_press_80 (fun u8 H locs p_r7 hP hD hS => ?_)
        have hP : va_P g.1 vwCl (wX10 g a_p (uF (uF (uF I_p 0 1 (0 : Int32)) 0 3 (I5 0 1)) 0 4 (I5 0 2)) J_p ++ (wX3 g a_r I5 ++ (wX7 g a_q I6 ++ wX7 g a_t u8))) H := hP
        have hD : va_D A (wX10 g a_p (uF (uF (uF I_p 0 1 (0 : Int32)) 0 3 (I5 0 1)) 0 4 (I5 0 2)) J_p ++ (wX3 g a_r I5 ++ (wX7 g a_q I6 ++ wX7 g a_t u8))) := hD
        refine lv_aload_n hx hb dX10_press_83 rfl (lv_at hl 1 rfl) ?_
        refine lv_iconst (v := 0) hx hb dX10_press_84 (by decide) ?_
        refine va_put (D := g.1) (ci := 10) (v := .int (0 : Int32)) (ty := .boolean) (C := RX10) (T := TX10) (N := 20) hx hb hi_X10 (fun _ h => h) tyX10 tyX10_ok nmX10 hown hK.1 hP hD hS 0 rfl rfl 11 (by decide) hf_61 (fun _ h9 => h9) rfl (by decide +kernel) rfl rfl (Nat.le_of_ble_eq_true rfl) dX10_press_85 (fun H locs hP hD hS => ?_)
        have hP : va_P g.1 vwCl (wX10 g a_p (uF (uF (uF (uF I_p 0 1 (0 : Int32)) 0 3 (I5 0 1)) 0 4 (I5 0 2)) 0 11 (0 : Int32)) J_p ++ (wX3 g a_r I5 ++ (wX7 g a_q I6 ++ wX7 g a_t u8))) H := hP
        have hD : va_D A (wX10 g a_p (uF (uF (uF (uF I_p 0 1 (0 : Int32)) 0 3 (I5 0 1)) 0 4 (I5 0 2)) 0 11 (0 : Int32)) J_p ++ (wX3 g a_r I5 ++ (wX7 g a_q I6 ++ wX7 g a_t u8))) := hD
        have hc_85 : PI (uF (uF (uF (uF I_p 0 1 (0 : Int32)) 0 3 (I5 0 1)) 0 4 (I5 0 2)) 0 11 (0 : Int32)) := ⟨hc_55.1, hc_55.2.1, Or.inl rfl⟩
        refine lv_aload_n hx hb dX10_press_88 rfl (lv_at hl 1 rfl) ?_
        refine lv_aload_n hx hb dX10_press_89 rfl (lv_at hl 1 rfl) ?_
        refine va_get (D := g.1) (ci := 10) (v := .ref (a_t 0)) (C := RX10) (T := TX10) (N := 20) hx hb hi_X10 (fun _ h => h) hown hK.1 hP 0 rfl rfl 9 (by decide) hf_50 (fun _ h9 => h9) (congrArg (fun z => some (Value.ref z)) hl_p_table) dX10_press_90 ?_
        refine va_get (D := g.1) (ci := 7) (v := .int (u8 0 0)) (C := RX7) (T := TX7) (N := 8) hx hb hi_X7 (fun _ h => h) hown hK.1 hP 10 rfl rfl 0 (by decide) hf_181 (fun _ h9 => h9) rfl dX10_press_93 ?_
        refine EffI.cv (wr := (wX3 g a_r I5 ++ wX7 g a_q I6 ++ wX7 g a_t u8)) (w' := fun u10 => wX10 g a_p u10 J_p ++ (wX3 g a_r I5 ++ (wX7 g a_q I6 ++ wX7 g a_t u8))) (As := [.int (u8 0 0)]) (kX10_answer l g a_p (uF (uF (uF (uF I_p 0 1 (0 : Int32)) 0 3 (I5 0 1)) 0 4 (I5 0 2)) 0 11 (0 : Int32)) J_p (u8 0 0)) fx (gUV (uT _) u_497 u_498 u_499 u_2 u_500) rfl hdX10_answer ⟨Nat.le_of_ble_eq_true rfl, Nat.le_of_ble_eq_true rfl⟩ hK hP hD hS hA [0, 1] [2, 3, 4, 5, 6, 7, 8, 9, 10, 11, 12, 13, 14, 15, 16] [15, 16, 0, 1, 2, 3, 4, 5, 6, 7, 8, 9, 10, 11, 12, 13, 14] rfl rfl rfl rfl (by decide) rfl (fun _ => rfl) rfl rfl rfl rfl hl.1 (Nat.le_of_ble_eq_true rfl) dX10_press_96 (fun r9 u10 H locs p_r9 hP hD hS => ?_)
        have hP : va_P g.1 vwCl (wX10 g a_p u10 J_p ++ (wX3 g a_r I5 ++ (wX7 g a_q I6 ++ wX7 g a_t u8))) H := hP
        have hD : va_D A (wX10 g a_p u10 J_p ++ (wX3 g a_r I5 ++ (wX7 g a_q I6 ++ wX7 g a_t u8))) := hD
        refine hret 99 ls r9 _ _ (u10, I5, I6, u8) dX10_press_99 hS hP hD ?_
        exact ⟨(PI.st hc_85 p_r9.2), p_r3.2.1, p_r7.1, Or.inr ⟨by omega, congrFun (congrFun p_r9.2 0) 1⟩, congrFun (congrFun p_r9.2 0) 19, fun _ => (by obtain ⟨c9, pl9, g9, v9, w9⟩ := p_r3.2.2.2; rcases w9 with w9 | w9; rotate_left; (exact absurd w9.1 b_59); exact ⟨c9, pl9, g9, (by rw [show (u10 0 3).toInt = _ from congrArg Int32.toInt (congrFun (congrFun p_r9.2 0) 3)]; exact v9), Or.inl ⟨p_r9.1, (by rw [show (u10 0 3).toInt = _ from congrArg Int32.toInt (congrFun (congrFun p_r9.2 0) 3)]; exact w9.2.1), (by rw [show (u10 0 4).toInt = _ from congrArg Int32.toInt (congrFun (congrFun p_r9.2 0) 4)]; exact w9.2.2.1), w9.2.2.2.trans p_r7.2.2.1.symm, ((congrArg Int32.toInt p_r7.2.2.2).trans p_r3.2.2.1)⟩⟩), fun q => absurd q (by omega)⟩
      · refine lv_aload_n hx hb dX10_press_62 rfl (lv_at hl 1 rfl) ?_
        refine lv_bipush (v := 9) hx hb dX10_press_63 (by decide) ?_
        refine EffI.cv (wr := (wX3 g a_r I5 ++ wX7 g a_q I6 ++ wX7 g a_t I_t)) (w' := fun u12 => wX10 g a_p u12 J_p ++ (wX3 g a_r I5 ++ (wX7 g a_q I6 ++ wX7 g a_t I_t))) (As := [.int (9 : Int32)]) (kX10_refuse l g a_p (uF (uF (uF I_p 0 1 (0 : Int32)) 0 3 (I5 0 1)) 0 4 (I5 0 2)) J_p (9 : Int32)) fx (gUV (uT _) u_295 u_296 u_297 u_2 u_298) rfl hdX10_refuse ⟨Nat.le_of_ble_eq_true rfl, Nat.le_of_ble_eq_true rfl⟩ hK hP hD hS hA [0, 1] [2, 3, 4, 5, 6, 7, 8, 9, 10, 11, 12, 13, 14, 15, 16] [15, 16, 0, 1, 2, 3, 4, 5, 6, 7, 8, 9, 10, 11, 12, 13, 14] rfl rfl rfl rfl (by decide) rfl (fun _ => rfl) rfl rfl rfl rfl hl.1 (Nat.le_of_ble_eq_true rfl) dX10_press_65 (fun r11 u12 H locs p_r11 hP hD hS => ?_)
        have hP : va_P g.1 vwCl (wX10 g a_p u12 J_p ++ (wX3 g a_r I5 ++ (wX7 g a_q I6 ++ wX7 g a_t I_t))) H := hP
        have hD : va_D A (wX10 g a_p u12 J_p ++ (wX3 g a_r I5 ++ (wX7 g a_q I6 ++ wX7 g a_t I_t))) := hD
        refine hret 68 ls r11 _ _ (u12, I5, I6, I_t) dX10_press_68 hS hP hD ?_
        exact ⟨(PI.st hc_55 p_r11.2), p_r3.2.1, hT, Or.inr ⟨by omega, congrFun (congrFun p_r11.2 0) 1⟩, congrFun (congrFun p_r11.2 0) 19, fun _ => (by obtain ⟨c9, pl9, g9, v9, w9⟩ := p_r3.2.2.2; rcases w9 with w9 | w9; (exact absurd (w9.1.symm.trans b_59) (by decide)); exact ⟨c9, pl9, g9, (by rw [show (u12 0 3).toInt = _ from congrArg Int32.toInt (congrFun (congrFun p_r11.2 0) 3)]; exact v9), Or.inr ⟨p_r11.1, (by rw [show (u12 0 3).toInt = _ from congrArg Int32.toInt (congrFun (congrFun p_r11.2 0) 3)]; exact w9.2.1), (by rw [show (u12 0 4).toInt = _ from congrArg Int32.toInt (congrFun (congrFun p_r11.2 0) 4)]; exact w9.2.2), rfl⟩⟩), fun q => absurd q (by omega)⟩
    · refine lv_aload_n hx hb dX10_press_12 rfl (lv_at hl 0 rfl) ?_
      refine lv_iconst (v := 1) hx hb dX10_press_13 (by decide) ?_
      refine EffI.cv (wr := (wX3 g a_r I_r ++ wX7 g a_q I_q ++ wX7 g a_t I_t)) (w' := fun u14 => wX10 g a_p u14 J_p ++ (wX3 g a_r I_r ++ (wX7 g a_q I_q ++ wX7 g a_t I_t))) (As := [.int (1 : Int32)]) (kX10_refuse l g a_p I_p J_p (1 : Int32)) fx (gUV (uT _) u_295 u_296 u_297 u_2 u_298) rfl hdX10_refuse ⟨Nat.le_of_ble_eq_true rfl, Nat.le_of_ble_eq_true rfl⟩ hK hP hD hS hA [0, 1] [2, 3, 4, 5, 6, 7, 8, 9, 10, 11, 12, 13, 14, 15, 16] [15, 16, 0, 1, 2, 3, 4, 5, 6, 7, 8, 9, 10, 11, 12, 13, 14] rfl rfl rfl rfl (by decide) rfl (fun _ => rfl) rfl rfl rfl rfl hl.1 (Nat.le_of_ble_eq_true rfl) dX10_press_14 (fun r13 u14 H locs p_r13 hP hD hS => ?_)
      have hP : va_P g.1 vwCl (wX10 g a_p u14 J_p ++ (wX3 g a_r I_r ++ (wX7 g a_q I_q ++ wX7 g a_t I_t))) H := hP
      have hD : va_D A (wX10 g a_p u14 J_p ++ (wX3 g a_r I_r ++ (wX7 g a_q I_q ++ wX7 g a_t I_t))) := hD
      refine hret 17 ls r13 _ _ (u14, I_r, I_q, I_t) dX10_press_17 hS hP hD ?_
      exact ⟨(PI.st hPI p_r13.2), hQ, hT, Or.inl ⟨by omega, congrFun (congrFun p_r13.2 0) 1⟩, congrFun (congrFun p_r13.2 0) 19, fun q => absurd q (by omega), fun _ => ⟨p_r13.1, (congrFun (congrFun p_r13.2 0) 3), (congrFun (congrFun p_r13.2 0) 4), rfl, congrFun p_r13.2 1⟩⟩

set_option maxHeartbeats 4000000 in
set_option maxRecDepth 100000 in
theorem kX10_showSpare (l : Launch) (g : gG) (a_p : Nat → Nat) (I_p : Nat → Nat → Int32) (J_p : Nat → Nat → Int64) (a_t : Nat → Nat) (I_t : Nat → Nat → Int32) (a_e : Nat → Nat) (I_e : Nat → Nat → Int32) (a_f : Nat → Nat) (I_f : Nat → Nat → Int32) (a_y : Nat → Nat) (I_y : Nat → Nat → Int32) (hl_p_table : a_p 109 = a_t 0) (hl_p_shown : a_p 112 = a_e 0) (hl_p_spare : a_p 113 = a_f 0) (hl_p_layout : a_p 114 = a_y 0) (hPI : PI I_p) (hT : TI I_t) (hE : EI I_e) (hF : EI I_f) (hL : LI I_y) : EffV l g yX10_showSpare wsX10_showSpare 4 [.ref (a_p 0)] (wX10 g a_p I_p J_p ++ (wX7 g a_t I_t ++ (wX6 g a_e I_e ++ (wX6 g a_f I_f ++ wX1 g a_y I_y)))) (fun (u : ((Nat → Nat → Int32) × (Nat → Nat → Int32) × (Nat → Nat → Int32) × (Nat → Nat → Int32))) => wX10 g (uA (uA a_p 112 (a_f 0)) 113 (a_e 0)) (u.1) J_p ++ (wX7 g a_t I_t ++ (wX6 g a_f (u.2.1) ++ (wX6 g a_e (u.2.2.1) ++ wX1 g a_y (u.2.2.2))))) (fun (u : ((Nat → Nat → Int32) × (Nat → Nat → Int32) × (Nat → Nat → Int32) × (Nat → Nat → Int32))) => PI (u.1) ∧ EI (u.2.1) ∧ EI (u.2.2.1) ∧ LI (u.2.2.2) ∧ KP I_p (u.1) ∧ (u.2.1) = I_f ∧ (u.2.2.1) = I_e) := by
  refine EffV.st (cc := cX10_showSpare) (maxL := 2) (by decide) rfl (Nat.le_of_ble_eq_true rfl) (fun p e s m args below meth c A Q ls fx hK hP hD hA hS hl hret => ?_)
  have hx := fx.1
  have hb := fx.2.1
  have hml := fx.2.2.1
  have hown := fx.2.2.2.1
  have hts := fx.2.2.2.2
  have hl : lv_has ls 2 [(0, .ref (a_p 0))] := hl
  have hP : va_P g.1 vwCl (wX10 g a_p I_p J_p ++ (wX7 g a_t I_t ++ (wX6 g a_e I_e ++ (wX6 g a_f I_f ++ wX1 g a_y I_y)))) s.heap := hP
  have hf_50 := hts _ (uT _ _ u_32)
  have hf_61 := hts _ (uT _ _ u_37)
  have hf_68 := hts _ (uT _ _ u_41)
  have hf_72 := hts _ (uT _ _ u_42)
  have hf_78 := hts _ (uT _ _ u_46)
  have hi_X10 : ∀ w ∈ wsX100, w.before args s = true := fun w h => hts w (uT _ w (u_wsX100 w h))
  have lm1 : (-1 : Int32).toInt = -1 := by decide
  have lm0 : (0 : Int32).toInt = 0 := by decide
  have lm2 : (1 : Int32).toInt = 1 := by decide
  have hp1 := hPI.1
  have hp2 := hPI.2.1
  have hru := TI.ru hT
  have hlt3 := TI.li hT
  have hlt4 := TI.pa hT
  have hE0 := hE.1
  have hE1 := hE.2
  have hpc := LI.pc hL
  have hln := LI.ln hL
  have hwd := LI.wd hL
  refine lv_aload_n hx hb dX10_showSpare_0 rfl (lv_at hl 0 rfl) ?_
  refine va_get (D := g.1) (ci := 10) (v := .ref (a_e 0)) (C := RX10) (T := TX10) (N := 20) hx hb hi_X10 (fun _ h => h) hown hK.1 hP 0 rfl rfl 12 (by decide) hf_68 (fun _ h9 => h9) (congrArg (fun z => some (Value.ref z)) hl_p_shown) dX10_showSpare_1 ?_
  refine lv_astore_n (lv' := [(1, .ref (a_e 0)), (0, .ref (a_p 0))]) hx hb dX10_showSpare_4 rfl hl (by decide) rfl (fun ls hl => ?_)
  refine lv_aload_n hx hb dX10_showSpare_5 rfl (lv_at hl 1 rfl) ?_
  refine lv_aload_n hx hb dX10_showSpare_6 rfl (lv_at hl 1 rfl) ?_
  refine va_get (D := g.1) (ci := 10) (v := .ref (a_f 0)) (C := RX10) (T := TX10) (N := 20) hx hb hi_X10 (fun _ h => h) hown hK.1 hP 0 rfl rfl 13 (by decide) hf_72 (fun _ h9 => h9) (congrArg (fun z => some (Value.ref z)) hl_p_spare) dX10_showSpare_7 ?_
  refine va_put (D := g.1) (ci := 10) (v := .ref (a_f 0)) (ty := .object "RaisedPress$Setting") (C := RX10) (T := TX10) (N := 20) hx hb hi_X10 (fun _ h => h) tyX10 tyX10_ok nmX10 hown hK.1 hP hD hS 0 rfl rfl 12 (by decide) hf_68 (fun _ h9 => h9) rfl (by decide +kernel) rfl rfl (Nat.le_of_ble_eq_true rfl) dX10_showSpare_10 (fun H locs hP hD hS => ?_)
  have hP : va_P g.1 vwCl (wX10 g (uA a_p 112 (a_f 0)) I_p J_p ++ (wX7 g a_t I_t ++ (wX6 g a_e I_e ++ (wX6 g a_f I_f ++ wX1 g a_y I_y)))) H := hP
  have hD : va_D A (wX10 g (uA a_p 112 (a_f 0)) I_p J_p ++ (wX7 g a_t I_t ++ (wX6 g a_e I_e ++ (wX6 g a_f I_f ++ wX1 g a_y I_y)))) := hD
  refine lv_aload_n hx hb dX10_showSpare_13 rfl (lv_at hl 1 rfl) ?_
  refine lv_aload_n hx hb dX10_showSpare_14 rfl (lv_at hl 0 rfl) ?_
  refine va_put (D := g.1) (ci := 10) (v := .ref (a_e 0)) (ty := .object "RaisedPress$Setting") (C := RX10) (T := TX10) (N := 20) hx hb hi_X10 (fun _ h => h) tyX10 tyX10_ok nmX10 hown hK.1 hP hD hS 0 rfl rfl 13 (by decide) hf_72 (fun _ h9 => h9) rfl (by decide +kernel) rfl rfl (Nat.le_of_ble_eq_true rfl) dX10_showSpare_15 (fun H locs hP hD hS => ?_)
  have hP : va_P g.1 vwCl (wX10 g (uA (uA a_p 112 (a_f 0)) 113 (a_e 0)) I_p J_p ++ (wX7 g a_t I_t ++ (wX6 g a_e I_e ++ (wX6 g a_f I_f ++ wX1 g a_y I_y)))) H := hP
  have hD : va_D A (wX10 g (uA (uA a_p 112 (a_f 0)) 113 (a_e 0)) I_p J_p ++ (wX7 g a_t I_t ++ (wX6 g a_e I_e ++ (wX6 g a_f I_f ++ wX1 g a_y I_y)))) := hD
  refine lv_aload_n hx hb dX10_showSpare_18 rfl (lv_at hl 1 rfl) ?_
  refine lv_iconst (v := 1) hx hb dX10_showSpare_19 (by decide) ?_
  refine va_put (D := g.1) (ci := 10) (v := .int (1 : Int32)) (ty := .boolean) (C := RX10) (T := TX10) (N := 20) hx hb hi_X10 (fun _ h => h) tyX10 tyX10_ok nmX10 hown hK.1 hP hD hS 0 rfl rfl 11 (by decide) hf_61 (fun _ h9 => h9) rfl (by decide +kernel) rfl rfl (Nat.le_of_ble_eq_true rfl) dX10_showSpare_20 (fun H locs hP hD hS => ?_)
  have hP : va_P g.1 vwCl (wX10 g (uA (uA a_p 112 (a_f 0)) 113 (a_e 0)) (uF I_p 0 11 (1 : Int32)) J_p ++ (wX7 g a_t I_t ++ (wX6 g a_e I_e ++ (wX6 g a_f I_f ++ wX1 g a_y I_y)))) H := hP
  have hD : va_D A (wX10 g (uA (uA a_p 112 (a_f 0)) 113 (a_e 0)) (uF I_p 0 11 (1 : Int32)) J_p ++ (wX7 g a_t I_t ++ (wX6 g a_e I_e ++ (wX6 g a_f I_f ++ wX1 g a_y I_y)))) := hD
  have hc_20 : PI (uF I_p 0 11 (1 : Int32)) := ⟨hPI.1, hPI.2.1, Or.inr rfl⟩
  refine lv_aload_n hx hb dX10_showSpare_23 rfl (lv_at hl 1 rfl) ?_
  refine va_get (D := g.1) (ci := 10) (v := .ref (a_y 0)) (C := RX10) (T := TX10) (N := 20) hx hb hi_X10 (fun _ h => h) hown hK.1 hP 0 rfl rfl 14 (by decide) hf_78 (fun _ h9 => h9) (congrArg (fun z => some (Value.ref z)) hl_p_layout) dX10_showSpare_24 ?_
  refine lv_aload_n hx hb dX10_showSpare_27 rfl (lv_at hl 1 rfl) ?_
  refine va_get (D := g.1) (ci := 10) (v := .ref (a_f 0)) (C := RX10) (T := TX10) (N := 20) hx hb hi_X10 (fun _ h => h) hown hK.1 hP 0 rfl rfl 12 (by decide) hf_68 (fun _ h9 => h9) rfl dX10_showSpare_28 ?_
  refine lv_aload_n hx hb dX10_showSpare_31 rfl (lv_at hl 1 rfl) ?_
  refine va_get (D := g.1) (ci := 10) (v := .ref (a_t 0)) (C := RX10) (T := TX10) (N := 20) hx hb hi_X10 (fun _ h => h) hown hK.1 hP 0 rfl rfl 9 (by decide) hf_50 (fun _ h9 => h9) (congrArg (fun z => some (Value.ref z)) hl_p_table) dX10_showSpare_32 ?_
  refine EffV.cv (wr := (wX10 g (uA (uA a_p 112 (a_f 0)) 113 (a_e 0)) (uF I_p 0 11 (1 : Int32)) J_p ++ wX6 g a_e I_e)) (w' := fun u2 => wX10 g (uA (uA a_p 112 (a_f 0)) 113 (a_e 0)) (uF I_p 0 11 (1 : Int32)) J_p ++ (wX7 g a_t I_t ++ (wX6 g a_e I_e ++ (wX6 g a_f I_f ++ wX1 g a_y u2)))) (As := [.ref (a_f 0), .ref (a_t 0)]) (kX1_lay l g a_y I_y a_f I_f a_t I_t hL hF hT) fx (gUV (uT _) u_672 u_673 u_674 u_45 u_675) rfl hdX1_lay ⟨Nat.le_of_ble_eq_true rfl, Nat.le_of_ble_eq_true rfl⟩ hK hP hD hS hA [17, 18, 19, 20, 21, 22, 23, 13, 14, 15, 16, 2, 3, 4, 5, 6, 7, 8] [0, 1, 9, 10, 11, 12] [0, 1, 17, 18, 19, 20, 21, 22, 23, 2, 3, 4, 5, 13, 14, 15, 16, 6, 7, 8, 9, 10, 11, 12] rfl rfl rfl rfl (by decide) rfl (fun _ => rfl) rfl rfl rfl rfl hl.1 (Nat.le_of_ble_eq_true rfl) dX10_showSpare_35 (fun u2 H locs p_r1 hP hD hS => ?_)
  have hP : va_P g.1 vwCl (wX10 g (uA (uA a_p 112 (a_f 0)) 113 (a_e 0)) (uF I_p 0 11 (1 : Int32)) J_p ++ (wX7 g a_t I_t ++ (wX6 g a_e I_e ++ (wX6 g a_f I_f ++ wX1 g a_y u2)))) H := hP
  have hD : va_D A (wX10 g (uA (uA a_p 112 (a_f 0)) 113 (a_e 0)) (uF I_p 0 11 (1 : Int32)) J_p ++ (wX7 g a_t I_t ++ (wX6 g a_e I_e ++ (wX6 g a_f I_f ++ wX1 g a_y u2)))) := hD
  obtain ⟨hP, hD⟩ := w_perm (w' := wX10 g (uA (uA a_p 112 (a_f 0)) 113 (a_e 0)) (uF I_p 0 11 (1 : Int32)) J_p ++ (wX7 g a_t I_t ++ (wX6 g a_f I_f ++ (wX6 g a_e I_e ++ wX1 g a_y u2)))) hP hD [0, 1, 2, 3, 4, 5, 6, 7, 8, 13, 14, 15, 16, 9, 10, 11, 12, 17, 18, 19, 20, 21, 22, 23] (by decide) rfl
  refine hret 38 ls _ _ ((uF I_p 0 11 (1 : Int32)), I_f, I_e, u2) dX10_showSpare_38 hS hP hD ?_
  exact ⟨hc_20, hF, hE, p_r1, ⟨rfl, rfl, rfl, rfl, rfl⟩, ⟨rfl, rfl⟩⟩

set_option maxHeartbeats 4000000 in
set_option maxRecDepth 100000 in
theorem kX10_writing (l : Launch) (g : gG) (a_p : Nat → Nat) (I_p : Nat → Nat → Int32) (J_p : Nat → Nat → Int64) (a_t : Nat → Nat) (I_t : Nat → Nat → Int32) (a_s : Nat → Nat) (I_s : Nat → Nat → Int32) (a_e : Nat → Nat) (I_e : Nat → Nat → Int32) (a_f : Nat → Nat) (I_f : Nat → Nat → Int32) (a_y : Nat → Nat) (I_y : Nat → Nat → Int32) (n : Int32) (hl_p_table : a_p 109 = a_t 0) (hl_p_script : a_p 110 = a_s 0) (hl_p_shown : a_p 112 = a_e 0) (hl_p_spare : a_p 113 = a_f 0) (hl_p_layout : a_p 114 = a_y 0) (hPI : PI I_p) (hT : TI I_t) (hSI : SI I_s) (hE : EI I_e) (hF : EI I_f) (hL : LI I_y) : EffI l g yX10_writing wsX10_writing 5 [.ref (a_p 0), .int n] (wX10 g a_p I_p J_p ++ (wX7 g a_t I_t ++ (wX5 g a_s I_s ++ (wX6 g a_e I_e ++ (wX6 g a_f I_f ++ wX1 g a_y I_y))))) (fun (u : ((Nat → Nat → Int32) × (Nat → Nat → Int32) × (Nat → Nat → Int32) × (Nat → Nat → Int32) × (Nat → Nat → Int32) × (Nat → Nat) × (Nat → Nat) × (Nat → Nat))) => wX10 g (u.2.2.2.2.2.1) (u.1) J_p ++ (wX7 g a_t I_t ++ (wX5 g a_s (u.2.1) ++ (wX6 g (u.2.2.2.2.2.2.1) (u.2.2.1) ++ (wX6 g (u.2.2.2.2.2.2.2) (u.2.2.2.1) ++ wX1 g a_y (u.2.2.2.2.1)))))) (fun r (u : ((Nat → Nat → Int32) × (Nat → Nat → Int32) × (Nat → Nat → Int32) × (Nat → Nat → Int32) × (Nat → Nat → Int32) × (Nat → Nat) × (Nat → Nat) × (Nat → Nat))) => PI (u.1) ∧ SI (u.2.1) ∧ EI (u.2.2.1) ∧ EI (u.2.2.2.1) ∧ LI (u.2.2.2.2.1) ∧ (((u.2.2.2.2.2.1) = a_p ∧ (u.2.2.2.2.2.2.1) = a_e ∧ (u.2.2.2.2.2.2.2) = a_f) ∨ ((u.2.2.2.2.2.1) = (uA (uA a_p 112 (a_f 0)) 113 (a_e 0)) ∧ (u.2.2.2.2.2.2.1) = a_f ∧ (u.2.2.2.2.2.2.2) = a_e)) ∧ ((¬ (0 ≤ n.toInt ∧ n.toInt ≤ (I_p 0 1).toInt ∧ n.toInt ≤ 300) ∧ (u.1) 0 1 = I_p 0 1) ∨ ((0 ≤ n.toInt ∧ n.toInt ≤ (I_p 0 1).toInt ∧ n.toInt ≤ 300) ∧ (u.1) 0 1 = 0)) ∧ (u.1) 0 19 = I_p 0 19 ∧ (¬ (0 ≤ n.toInt ∧ n.toInt ≤ (I_p 0 1).toInt ∧ n.toInt ≤ 300) → (u.1) 1 = I_p 1) ∧ ((0 ≤ n.toInt ∧ n.toInt ≤ (I_p 0 1).toInt ∧ n.toInt ≤ 300) → HL1 I_t → ∃ (c v : Int × Int), gRe (uNx (fxTc I_t) (I_t 0 1) (uB (fxB (I_p 1)) n.toInt) n.toInt) (0, 0) c ∧ uVd (fxTc I_t) (I_t 0 1) (uB (fxB (I_p 1)) n.toInt) n.toInt c v ∧ v = (((u.1) 0 3).toInt, ((u.1) 0 4).toInt) ∧ ((v.1 = 0 ∧ r.toInt = c.2) ∨ (v.1 ≠ 0 ∧ r = -1))) ∧ (¬ (0 ≤ n.toInt ∧ n.toInt ≤ (I_p 0 1).toInt ∧ n.toInt ≤ 300) → r = -1 ∧ (u.1) 0 3 = I_p 0 3 ∧ (u.1) 0 4 = I_p 0 4)) := by
  refine EffI.st (cc := cX10_writing) (maxL := 3) (by decide) rfl (Nat.le_of_ble_eq_true rfl) (fun p e s m args below meth c A Q ls fx hK hP hD hA hS hl hret => ?_)
  have hx := fx.1
  have hb := fx.2.1
  have hml := fx.2.2.1
  have hown := fx.2.2.2.1
  have hts := fx.2.2.2.2
  have hl : lv_has ls 3 [(0, .ref (a_p 0)), (1, .int n)] := hl
  have hP : va_P g.1 vwCl (wX10 g a_p I_p J_p ++ (wX7 g a_t I_t ++ (wX5 g a_s I_s ++ (wX6 g a_e I_e ++ (wX6 g a_f I_f ++ wX1 g a_y I_y))))) s.heap := hP
  have hf_9 := hts _ (uT _ _ u_14)
  have hf_13 := hts _ (uT _ _ u_15)
  have hf_20 := hts _ (uT _ _ u_17)
  have hf_23 := hts _ (uT _ _ u_18)
  have hf_50 := hts _ (uT _ _ u_32)
  have hf_57 := hts _ (uT _ _ u_36)
  have hf_68 := hts _ (uT _ _ u_41)
  have hf_72 := hts _ (uT _ _ u_42)
  have hf_184 := hts _ (uT _ _ u_593)
  have hf_191 := hts _ (uT _ _ u_594)
  have hf_192 := hts _ (uT _ _ u_595)
  have hf_200 := hts _ (uT _ _ u_596)
  have hi_X10 : ∀ w ∈ wsX100, w.before args s = true := fun w h => hts w (uT _ w (u_wsX100 w h))
  have hi_X6 : ∀ w ∈ wsX60, w.before args s = true := fun w h => hts w (uT _ w (u_wsX60 w h))
  have hi_X7 : ∀ w ∈ wsX70, w.before args s = true := fun w h => hts w (uT _ w (u_wsX70 w h))
  have lm1 : (-1 : Int32).toInt = -1 := by decide
  have lm0 : (0 : Int32).toInt = 0 := by decide
  have lm2 : (1 : Int32).toInt = 1 := by decide
  have hp1 := hPI.1
  have hp2 := hPI.2.1
  have hru := TI.ru hT
  have hlt3 := TI.li hT
  have hlt4 := TI.pa hT
  have hs0 := hSI.1
  have hs1 := hSI.2
  have hE0 := hE.1
  have hE1 := hE.2
  have hpc := LI.pc hL
  have hln := LI.ln hL
  have hwd := LI.wd hL
  have lq300 : (300 : Int32).toInt = 300 := by decide
  refine lv_iload_n hx hb dX10_writing_0 rfl (lv_at hl 1 rfl) ?_
  refine q_if_lt (tgt := 19) hx hb dX10_writing_1 (by decide) rfl (fun k_1 => ?_) (fun k_1 => ?_)
  · refine lv_aload_n hx hb dX10_writing_19 rfl (lv_at hl 0 rfl) ?_
    refine lv_iconst (v := 1) hx hb dX10_writing_20 (by decide) ?_
    refine EffI.cv (wr := (wX7 g a_t I_t ++ wX5 g a_s I_s ++ wX6 g a_e I_e ++ wX6 g a_f I_f ++ wX1 g a_y I_y)) (w' := fun u2 => wX10 g a_p u2 J_p ++ (wX7 g a_t I_t ++ (wX5 g a_s I_s ++ (wX6 g a_e I_e ++ (wX6 g a_f I_f ++ wX1 g a_y I_y))))) (As := [.int (1 : Int32)]) (kX10_refuse l g a_p I_p J_p (1 : Int32)) fx (gUV (uT _) u_295 u_296 u_297 u_2 u_298) rfl hdX10_refuse ⟨Nat.le_of_ble_eq_true rfl, Nat.le_of_ble_eq_true rfl⟩ hK hP hD hS hA [0, 1] [2, 3, 4, 5, 6, 7, 8, 9, 10, 11, 12, 13, 14, 15, 16, 17, 18, 19, 20, 21, 22, 23, 24, 25, 26] [25, 26, 0, 1, 2, 3, 4, 5, 6, 7, 8, 9, 10, 11, 12, 13, 14, 15, 16, 17, 18, 19, 20, 21, 22, 23, 24] rfl rfl rfl rfl (by decide) rfl (fun _ => rfl) rfl rfl rfl rfl hl.1 (Nat.le_of_ble_eq_true rfl) dX10_writing_21 (fun r1 u2 H locs p_r1 hP hD hS => ?_)
    have hP : va_P g.1 vwCl (wX10 g a_p u2 J_p ++ (wX7 g a_t I_t ++ (wX5 g a_s I_s ++ (wX6 g a_e I_e ++ (wX6 g a_f I_f ++ wX1 g a_y I_y))))) H := hP
    have hD : va_D A (wX10 g a_p u2 J_p ++ (wX7 g a_t I_t ++ (wX5 g a_s I_s ++ (wX6 g a_e I_e ++ (wX6 g a_f I_f ++ wX1 g a_y I_y))))) := hD
    refine hret 24 ls r1 _ _ (u2, I_s, I_e, I_f, I_y, a_p, a_e, a_f) dX10_writing_24 hS hP hD ?_
    exact ⟨(PI.st hPI p_r1.2), hSI, hE, hF, hL, Or.inl ⟨rfl, rfl, rfl⟩, Or.inl ⟨by omega, congrFun (congrFun p_r1.2 0) 1⟩, congrFun (congrFun p_r1.2 0) 19, fun _ => congrFun p_r1.2 1, fun q => absurd q (by omega), fun _ => ⟨p_r1.1, (congrFun (congrFun p_r1.2 0) 3), (congrFun (congrFun p_r1.2 0) 4)⟩⟩
  · refine lv_iload_n hx hb dX10_writing_4 rfl (lv_at hl 1 rfl) ?_
    refine lv_aload_n hx hb dX10_writing_5 rfl (lv_at hl 0 rfl) ?_
    refine va_get (D := g.1) (ci := 10) (v := .int (I_p 0 1)) (C := RX10) (T := TX10) (N := 20) hx hb hi_X10 (fun _ h => h) hown hK.1 hP 0 rfl rfl 1 (by decide) hf_13 (fun _ h9 => h9) rfl dX10_writing_6 ?_
    refine q_icmp_gt (tgt := 19) hx hb dX10_writing_9 (by decide) rfl rfl (fun k_9 => ?_) (fun k_9 => ?_)
    · refine lv_aload_n hx hb dX10_writing_19 rfl (lv_at hl 0 rfl) ?_
      refine lv_iconst (v := 1) hx hb dX10_writing_20 (by decide) ?_
      refine EffI.cv (wr := (wX7 g a_t I_t ++ wX5 g a_s I_s ++ wX6 g a_e I_e ++ wX6 g a_f I_f ++ wX1 g a_y I_y)) (w' := fun u4 => wX10 g a_p u4 J_p ++ (wX7 g a_t I_t ++ (wX5 g a_s I_s ++ (wX6 g a_e I_e ++ (wX6 g a_f I_f ++ wX1 g a_y I_y))))) (As := [.int (1 : Int32)]) (kX10_refuse l g a_p I_p J_p (1 : Int32)) fx (gUV (uT _) u_295 u_296 u_297 u_2 u_298) rfl hdX10_refuse ⟨Nat.le_of_ble_eq_true rfl, Nat.le_of_ble_eq_true rfl⟩ hK hP hD hS hA [0, 1] [2, 3, 4, 5, 6, 7, 8, 9, 10, 11, 12, 13, 14, 15, 16, 17, 18, 19, 20, 21, 22, 23, 24, 25, 26] [25, 26, 0, 1, 2, 3, 4, 5, 6, 7, 8, 9, 10, 11, 12, 13, 14, 15, 16, 17, 18, 19, 20, 21, 22, 23, 24] rfl rfl rfl rfl (by decide) rfl (fun _ => rfl) rfl rfl rfl rfl hl.1 (Nat.le_of_ble_eq_true rfl) dX10_writing_21 (fun r3 u4 H locs p_r3 hP hD hS => ?_)
      have hP : va_P g.1 vwCl (wX10 g a_p u4 J_p ++ (wX7 g a_t I_t ++ (wX5 g a_s I_s ++ (wX6 g a_e I_e ++ (wX6 g a_f I_f ++ wX1 g a_y I_y))))) H := hP
      have hD : va_D A (wX10 g a_p u4 J_p ++ (wX7 g a_t I_t ++ (wX5 g a_s I_s ++ (wX6 g a_e I_e ++ (wX6 g a_f I_f ++ wX1 g a_y I_y))))) := hD
      refine hret 24 ls r3 _ _ (u4, I_s, I_e, I_f, I_y, a_p, a_e, a_f) dX10_writing_24 hS hP hD ?_
      exact ⟨(PI.st hPI p_r3.2), hSI, hE, hF, hL, Or.inl ⟨rfl, rfl, rfl⟩, Or.inl ⟨by omega, congrFun (congrFun p_r3.2 0) 1⟩, congrFun (congrFun p_r3.2 0) 19, fun _ => congrFun p_r3.2 1, fun q => absurd q (by omega), fun _ => ⟨p_r3.1, (congrFun (congrFun p_r3.2 0) 3), (congrFun (congrFun p_r3.2 0) 4)⟩⟩
    · refine lv_iload_n hx hb dX10_writing_12 rfl (lv_at hl 1 rfl) ?_
      refine lv_sipush (v := 300) hx hb dX10_writing_13 (by decide) ?_
      refine q_icmp_le (tgt := 25) hx hb dX10_writing_16 (by decide) rfl (by decide : (300 : Int32).toInt = 300) (fun k_16 => ?_) (fun k_16 => ?_)
      · refine lv_aload_n hx hb dX10_writing_25 rfl (lv_at hl 0 rfl) ?_
        refine va_get (D := g.1) (ci := 10) (v := .ref (a_f 0)) (C := RX10) (T := TX10) (N := 20) hx hb hi_X10 (fun _ h => h) hown hK.1 hP 0 rfl rfl 13 (by decide) hf_72 (fun _ h9 => h9) (congrArg (fun z => some (Value.ref z)) hl_p_spare) dX10_writing_26 ?_
        refine lv_aload_n hx hb dX10_writing_29 rfl (lv_at hl 0 rfl) ?_
        refine va_get (D := g.1) (ci := 10) (v := .ref (a_p 1)) (C := RX10) (T := TX10) (N := 20) hx hb hi_X10 (fun _ h => h) hown hK.1 hP 0 rfl rfl 0 (by decide) hf_9 (fun _ h9 => h9) rfl dX10_writing_30 ?_
        refine lv_iload_n hx hb dX10_writing_33 rfl (lv_at hl 1 rfl) ?_
        refine lv_aload_n hx hb dX10_writing_34 rfl (lv_at hl 0 rfl) ?_
        refine va_get (D := g.1) (ci := 10) (v := .ref (a_t 0)) (C := RX10) (T := TX10) (N := 20) hx hb hi_X10 (fun _ h => h) hown hK.1 hP 0 rfl rfl 9 (by decide) hf_50 (fun _ h9 => h9) (congrArg (fun z => some (Value.ref z)) hl_p_table) dX10_writing_35 ?_
        refine lv_aload_n hx hb dX10_writing_38 rfl (lv_at hl 0 rfl) ?_
        refine va_get (D := g.1) (ci := 10) (v := .ref (a_t 0)) (C := RX10) (T := TX10) (N := 20) hx hb hi_X10 (fun _ h => h) hown hK.1 hP 0 rfl rfl 9 (by decide) hf_50 (fun _ h9 => h9) (congrArg (fun z => some (Value.ref z)) hl_p_table) dX10_writing_39 ?_
        refine va_get (D := g.1) (ci := 7) (v := .int (I_t 0 1)) (C := RX7) (T := TX7) (N := 8) hx hb hi_X7 (fun _ h => h) hown hK.1 hP 2 rfl rfl 1 (by decide) hf_184 (fun _ h9 => h9) rfl dX10_writing_42 ?_
        refine EffI.cv (wr := (([0].filterMap (fun i => (wX10 g a_p I_p J_p)[i]?)) ++ wX5 g a_s I_s ++ wX6 g a_e I_e ++ wX1 g a_y I_y)) (w' := fun u6 => wX10 g a_p I_p J_p ++ (wX7 g a_t I_t ++ (wX5 g a_s I_s ++ (wX6 g a_e I_e ++ (wX6 g a_f u6 ++ wX1 g a_y I_y))))) (As := [.ref (a_p 1), .int n, .ref (a_t 0), .int (I_t 0 1)]) (kX6_sets l g a_f I_f (fun k => a_p (k + 1)) 900 (fun k => I_p (k + 1)) a_t I_t n (I_t 0 1) hT hF (by omega)) fx (gUV (uT _) u_597 u_598 u_599 u_40 u_600) rfl hdX6_sets ⟨Nat.le_of_ble_eq_true rfl, Nat.le_of_ble_eq_true rfl⟩ hK hP hD hS hA [16, 17, 18, 19, 1, 2, 3, 4, 5, 6, 7, 8] [0, 9, 10, 11, 12, 13, 14, 15, 20, 21, 22, 23, 24, 25, 26] [0, 19, 20, 21, 22, 23, 24, 25, 26, 1, 2, 3, 4, 5, 6, 7, 15, 16, 17, 18, 8, 9, 10, 11, 12, 13, 14] rfl rfl rfl rfl (by decide) rfl (fun _ => rfl) rfl rfl rfl rfl hl.1 (Nat.le_of_ble_eq_true rfl) dX10_writing_45 (fun r5 u6 H locs p_r5 hP hD hS => ?_)
        have hP : va_P g.1 vwCl (wX10 g a_p I_p J_p ++ (wX7 g a_t I_t ++ (wX5 g a_s I_s ++ (wX6 g a_e I_e ++ (wX6 g a_f u6 ++ wX1 g a_y I_y))))) H := hP
        have hD : va_D A (wX10 g a_p I_p J_p ++ (wX7 g a_t I_t ++ (wX5 g a_s I_s ++ (wX6 g a_e I_e ++ (wX6 g a_f u6 ++ wX1 g a_y I_y))))) := hD
        refine lv_istore_n (lv' := [(2, .int r5), (0, .ref (a_p 0)), (1, .int n)]) hx hb dX10_writing_48 rfl hl (by decide) rfl (fun ls hl => ?_)
        refine lv_aload_n hx hb dX10_writing_49 rfl (lv_at hl 1 rfl) ?_
        refine lv_iconst (v := 0) hx hb dX10_writing_50 (by decide) ?_
        refine va_put (D := g.1) (ci := 10) (v := .int (0 : Int32)) (ty := .int) (C := RX10) (T := TX10) (N := 20) hx hb hi_X10 (fun _ h => h) tyX10 tyX10_ok nmX10 hown hK.1 hP hD hS 0 rfl rfl 1 (by decide) hf_13 (fun _ h9 => h9) rfl (by decide +kernel) rfl rfl (Nat.le_of_ble_eq_true rfl) dX10_writing_51 (fun H locs hP hD hS => ?_)
        have hP : va_P g.1 vwCl (wX10 g a_p (uF I_p 0 1 (0 : Int32)) J_p ++ (wX7 g a_t I_t ++ (wX5 g a_s I_s ++ (wX6 g a_e I_e ++ (wX6 g a_f u6 ++ wX1 g a_y I_y))))) H := hP
        have hD : va_D A (wX10 g a_p (uF I_p 0 1 (0 : Int32)) J_p ++ (wX7 g a_t I_t ++ (wX5 g a_s I_s ++ (wX6 g a_e I_e ++ (wX6 g a_f u6 ++ wX1 g a_y I_y))))) := hD
        have hc_51 : PI (uF I_p 0 1 (0 : Int32)) := ⟨(show 0 ≤ ((0 : Int32)).toInt ∧ ((0 : Int32)).toInt ≤ 900 from (by omega)), hPI.2⟩
        refine lv_aload_n hx hb dX10_writing_54 rfl (lv_at hl 1 rfl) ?_
        refine lv_aload_n hx hb dX10_writing_55 rfl (lv_at hl 1 rfl) ?_
        refine va_get (D := g.1) (ci := 10) (v := .ref (a_f 0)) (C := RX10) (T := TX10) (N := 20) hx hb hi_X10 (fun _ h => h) hown hK.1 hP 0 rfl rfl 13 (by decide) hf_72 (fun _ h9 => h9) (congrArg (fun z => some (Value.ref z)) hl_p_spare) dX10_writing_56 ?_
        refine va_get (D := g.1) (ci := 6) (v := .int (u6 0 6)) (C := RX6) (T := TX6) (N := 10) hx hb hi_X6 (fun _ h => h) hown hK.1 hP 16 rfl rfl 6 (by decide) hf_191 (fun _ h9 => h9) rfl dX10_writing_59 ?_
        refine va_put (D := g.1) (ci := 10) (v := .int (u6 0 6)) (ty := .int) (C := RX10) (T := TX10) (N := 20) hx hb hi_X10 (fun _ h => h) tyX10 tyX10_ok nmX10 hown hK.1 hP hD hS 0 rfl rfl 3 (by decide) hf_20 (fun _ h9 => h9) rfl (by decide +kernel) rfl rfl (Nat.le_of_ble_eq_true rfl) dX10_writing_62 (fun H locs hP hD hS => ?_)
        have hP : va_P g.1 vwCl (wX10 g a_p (uF (uF I_p 0 1 (0 : Int32)) 0 3 (u6 0 6)) J_p ++ (wX7 g a_t I_t ++ (wX5 g a_s I_s ++ (wX6 g a_e I_e ++ (wX6 g a_f u6 ++ wX1 g a_y I_y))))) H := hP
        have hD : va_D A (wX10 g a_p (uF (uF I_p 0 1 (0 : Int32)) 0 3 (u6 0 6)) J_p ++ (wX7 g a_t I_t ++ (wX5 g a_s I_s ++ (wX6 g a_e I_e ++ (wX6 g a_f u6 ++ wX1 g a_y I_y))))) := hD
        have hc_62 : PI (uF (uF I_p 0 1 (0 : Int32)) 0 3 (u6 0 6)) := hc_51
        refine lv_aload_n hx hb dX10_writing_65 rfl (lv_at hl 1 rfl) ?_
        refine lv_aload_n hx hb dX10_writing_66 rfl (lv_at hl 1 rfl) ?_
        refine va_get (D := g.1) (ci := 10) (v := .ref (a_f 0)) (C := RX10) (T := TX10) (N := 20) hx hb hi_X10 (fun _ h => h) hown hK.1 hP 0 rfl rfl 13 (by decide) hf_72 (fun _ h9 => h9) (congrArg (fun z => some (Value.ref z)) hl_p_spare) dX10_writing_67 ?_
        refine va_get (D := g.1) (ci := 6) (v := .int (u6 0 7)) (C := RX6) (T := TX6) (N := 10) hx hb hi_X6 (fun _ h => h) hown hK.1 hP 16 rfl rfl 7 (by decide) hf_192 (fun _ h9 => h9) rfl dX10_writing_70 ?_
        refine va_put (D := g.1) (ci := 10) (v := .int (u6 0 7)) (ty := .int) (C := RX10) (T := TX10) (N := 20) hx hb hi_X10 (fun _ h => h) tyX10 tyX10_ok nmX10 hown hK.1 hP hD hS 0 rfl rfl 4 (by decide) hf_23 (fun _ h9 => h9) rfl (by decide +kernel) rfl rfl (Nat.le_of_ble_eq_true rfl) dX10_writing_73 (fun H locs hP hD hS => ?_)
        have hP : va_P g.1 vwCl (wX10 g a_p (uF (uF (uF I_p 0 1 (0 : Int32)) 0 3 (u6 0 6)) 0 4 (u6 0 7)) J_p ++ (wX7 g a_t I_t ++ (wX5 g a_s I_s ++ (wX6 g a_e I_e ++ (wX6 g a_f u6 ++ wX1 g a_y I_y))))) H := hP
        have hD : va_D A (wX10 g a_p (uF (uF (uF I_p 0 1 (0 : Int32)) 0 3 (u6 0 6)) 0 4 (u6 0 7)) J_p ++ (wX7 g a_t I_t ++ (wX5 g a_s I_s ++ (wX6 g a_e I_e ++ (wX6 g a_f u6 ++ wX1 g a_y I_y))))) := hD
        have hc_73 : PI (uF (uF (uF I_p 0 1 (0 : Int32)) 0 3 (u6 0 6)) 0 4 (u6 0 7)) := hc_62
        refine lv_iload_n hx hb dX10_writing_76 rfl (lv_at hl 0 rfl) ?_
        refine q_if_ne (tgt := 87) hx hb dX10_writing_77 (by decide) rfl (fun b_77 k_77 => ?_) (fun b_77 k_77 => ?_)
        · refine lv_aload_n hx hb dX10_writing_87 rfl (lv_at hl 1 rfl) ?_
          refine va_get (D := g.1) (ci := 10) (v := .ref (a_s 0)) (C := RX10) (T := TX10) (N := 20) hx hb hi_X10 (fun _ h => h) hown hK.1 hP 0 rfl rfl 10 (by decide) hf_57 (fun _ h9 => h9) (congrArg (fun z => some (Value.ref z)) hl_p_script) dX10_writing_88 ?_
          refine lv_aload_n hx hb dX10_writing_91 rfl (lv_at hl 1 rfl) ?_
          refine va_get (D := g.1) (ci := 10) (v := .ref (a_p 1)) (C := RX10) (T := TX10) (N := 20) hx hb hi_X10 (fun _ h => h) hown hK.1 hP 0 rfl rfl 0 (by decide) hf_9 (fun _ h9 => h9) rfl dX10_writing_92 ?_
          refine lv_iload_n hx hb dX10_writing_95 rfl (lv_at hl 2 rfl) ?_
          refine EffV.cv (wr := (([0].filterMap (fun i => (wX10 g a_p (uF (uF (uF I_p 0 1 (0 : Int32)) 0 3 (u6 0 6)) 0 4 (u6 0 7)) J_p)[i]?)) ++ wX7 g a_t I_t ++ wX6 g a_e I_e ++ wX6 g a_f u6 ++ wX1 g a_y I_y)) (w' := fun u8 => wX10 g a_p (uF (uF (uF I_p 0 1 (0 : Int32)) 0 3 (u6 0 6)) 0 4 (u6 0 7)) J_p ++ (wX7 g a_t I_t ++ (wX5 g a_s u8 ++ (wX6 g a_e I_e ++ (wX6 g a_f u6 ++ wX1 g a_y I_y))))) (As := [.ref (a_p 1), .int n]) (kX5_take l g a_s I_s (fun k => a_p (k + 1)) 900 (fun k => (uF (uF (uF I_p 0 1 (0 : Int32)) 0 3 (u6 0 6)) 0 4 (u6 0 7)) (k + 1)) n hSI (by omega)) fx (gUV (uT _) u_662 u_663 u_664 u_35 u_665) rfl hdX5_take ⟨Nat.le_of_ble_eq_true rfl, Nat.le_of_ble_eq_true rfl⟩ hK hP hD hS hA [9, 10, 11, 1] [0, 2, 3, 4, 5, 6, 7, 8, 12, 13, 14, 15, 16, 17, 18, 19, 20, 21, 22, 23, 24, 25, 26] [0, 26, 1, 2, 3, 4, 5, 6, 7, 23, 24, 25, 8, 9, 10, 11, 12, 13, 14, 15, 16, 17, 18, 19, 20, 21, 22] rfl rfl rfl rfl (by decide) rfl (fun _ => rfl) rfl rfl rfl rfl hl.1 (Nat.le_of_ble_eq_true rfl) dX10_writing_96 (fun u8 H locs p_r7 hP hD hS => ?_)
          have hP : va_P g.1 vwCl (wX10 g a_p (uF (uF (uF I_p 0 1 (0 : Int32)) 0 3 (u6 0 6)) 0 4 (u6 0 7)) J_p ++ (wX7 g a_t I_t ++ (wX5 g a_s u8 ++ (wX6 g a_e I_e ++ (wX6 g a_f u6 ++ wX1 g a_y I_y))))) H := hP
          have hD : va_D A (wX10 g a_p (uF (uF (uF I_p 0 1 (0 : Int32)) 0 3 (u6 0 6)) 0 4 (u6 0 7)) J_p ++ (wX7 g a_t I_t ++ (wX5 g a_s u8 ++ (wX6 g a_e I_e ++ (wX6 g a_f u6 ++ wX1 g a_y I_y))))) := hD
          refine lv_aload_n hx hb dX10_writing_99 rfl (lv_at hl 1 rfl) ?_
          refine EffV.cv (wr := (wX5 g a_s u8)) (w' := fun u10 => wX10 g (uA (uA a_p 112 (a_f 0)) 113 (a_e 0)) u10.1 J_p ++ (wX7 g a_t I_t ++ (wX5 g a_s u8 ++ (wX6 g a_f u10.2.1 ++ (wX6 g a_e u10.2.2.1 ++ wX1 g a_y u10.2.2.2))))) (As := []) (kX10_showSpare l g a_p (uF (uF (uF I_p 0 1 (0 : Int32)) 0 3 (u6 0 6)) 0 4 (u6 0 7)) J_p a_t I_t a_e I_e a_f u6 a_y I_y hl_p_table hl_p_shown hl_p_spare hl_p_layout hc_73 hT hE p_r5.2.1 hL) fx (gUV (uT _) u_668 u_669 u_670 u_2 u_671) rfl hdX10_showSpare ⟨Nat.le_of_ble_eq_true rfl, Nat.le_of_ble_eq_true rfl⟩ hK hP hD hS hA [0, 1, 2, 3, 4, 5, 6, 7, 8, 12, 13, 14, 15, 16, 17, 18, 19, 20, 21, 22, 23, 24, 25, 26] [9, 10, 11] [3, 4, 5, 6, 7, 8, 9, 10, 11, 0, 1, 2, 12, 13, 14, 15, 16, 17, 18, 19, 20, 21, 22, 23, 24, 25, 26] rfl rfl rfl rfl (by decide) rfl (fun _ => rfl) rfl rfl rfl rfl hl.1 (Nat.le_of_ble_eq_true rfl) dX10_writing_100 (fun u10 H locs p_r9 hP hD hS => ?_)
          obtain ⟨I11, I12, I13, I14⟩ := u10
          try dsimp only at p_r9
          have hP : va_P g.1 vwCl (wX10 g (uA (uA a_p 112 (a_f 0)) 113 (a_e 0)) I11 J_p ++ (wX7 g a_t I_t ++ (wX5 g a_s u8 ++ (wX6 g a_f I12 ++ (wX6 g a_e I13 ++ wX1 g a_y I14))))) H := hP
          have hD : va_D A (wX10 g (uA (uA a_p 112 (a_f 0)) 113 (a_e 0)) I11 J_p ++ (wX7 g a_t I_t ++ (wX5 g a_s u8 ++ (wX6 g a_f I12 ++ (wX6 g a_e I13 ++ wX1 g a_y I14))))) := hD
          refine lv_aload_n hx hb dX10_writing_103 rfl (lv_at hl 1 rfl) ?_
          refine lv_aload_n hx hb dX10_writing_104 rfl (lv_at hl 1 rfl) ?_
          refine va_get (D := g.1) (ci := 10) (v := .ref (a_f 0)) (C := RX10) (T := TX10) (N := 20) hx hb hi_X10 (fun _ h => h) hown hK.1 hP 0 rfl rfl 12 (by decide) hf_68 (fun _ h9 => h9) rfl dX10_writing_105 ?_
          refine va_get (D := g.1) (ci := 6) (v := .int (I12 0 3)) (C := RX6) (T := TX6) (N := 10) hx hb hi_X6 (fun _ h => h) hown hK.1 hP 12 rfl rfl 3 (by decide) hf_200 (fun _ h9 => h9) rfl dX10_writing_108 ?_
          refine EffI.cv (wr := (wX7 g a_t I_t ++ wX5 g a_s u8 ++ wX6 g a_f I12 ++ wX6 g a_e I13 ++ wX1 g a_y I14)) (w' := fun u16 => wX10 g (uA (uA a_p 112 (a_f 0)) 113 (a_e 0)) u16 J_p ++ (wX7 g a_t I_t ++ (wX5 g a_s u8 ++ (wX6 g a_f I12 ++ (wX6 g a_e I13 ++ wX1 g a_y I14))))) (As := [.int (I12 0 3)]) (kX10_answer l g (uA (uA a_p 112 (a_f 0)) 113 (a_e 0)) I11 J_p (I12 0 3)) fx (gUV (uT _) u_497 u_498 u_499 u_2 u_500) rfl hdX10_answer ⟨Nat.le_of_ble_eq_true rfl, Nat.le_of_ble_eq_true rfl⟩ hK hP hD hS hA [0, 1] [2, 3, 4, 5, 6, 7, 8, 9, 10, 11, 12, 13, 14, 15, 16, 17, 18, 19, 20, 21, 22, 23, 24, 25, 26] [25, 26, 0, 1, 2, 3, 4, 5, 6, 7, 8, 9, 10, 11, 12, 13, 14, 15, 16, 17, 18, 19, 20, 21, 22, 23, 24] rfl rfl rfl rfl (by decide) rfl (fun _ => rfl) rfl rfl rfl rfl hl.1 (Nat.le_of_ble_eq_true rfl) dX10_writing_111 (fun r15 u16 H locs p_r15 hP hD hS => ?_)
          have hP : va_P g.1 vwCl (wX10 g (uA (uA a_p 112 (a_f 0)) 113 (a_e 0)) u16 J_p ++ (wX7 g a_t I_t ++ (wX5 g a_s u8 ++ (wX6 g a_f I12 ++ (wX6 g a_e I13 ++ wX1 g a_y I14))))) H := hP
          have hD : va_D A (wX10 g (uA (uA a_p 112 (a_f 0)) 113 (a_e 0)) u16 J_p ++ (wX7 g a_t I_t ++ (wX5 g a_s u8 ++ (wX6 g a_f I12 ++ (wX6 g a_e I13 ++ wX1 g a_y I14))))) := hD
          refine hret 114 ls r15 _ _ (u16, u8, I12, I13, I14, (uA (uA a_p 112 (a_f 0)) 113 (a_e 0)), a_f, a_e) dX10_writing_114 hS hP hD ?_
          exact ⟨(PI.st (p_r9.1) p_r15.2), p_r7.1, (p_r9.2.1), (p_r9.2.2.1), (p_r9.2.2.2.1), Or.inr ⟨rfl, rfl, rfl⟩, Or.inr ⟨by omega, (congrFun (congrFun p_r15.2 0) 1).trans p_r9.2.2.2.2.1.1⟩, (congrFun (congrFun p_r15.2 0) 19).trans p_r9.2.2.2.2.1.2.1, fun q => absurd q (by omega), fun _ hl9 => (by obtain ⟨c9, v9, e1, e2, e3⟩ := p_r5.2.2 hl9 (by omega); rcases e3 with ⟨e4, e5, e6, e7, e8⟩ | ⟨e4, _⟩; rotate_left; (exact absurd e4 b_77); exact ⟨c9, v9, e1, e2, (by show v9 = ((u16 0 3).toInt, (u16 0 4).toInt); rw [e6, show (u16 0 3) = _ from (congrFun (congrFun p_r15.2 0) 3).trans p_r9.2.2.2.2.1.2.2.2.1, show (u16 0 4) = _ from (congrFun (congrFun p_r15.2 0) 4).trans p_r9.2.2.2.2.1.2.2.2.2]; exact Prod.ext e5.symm e8.symm), Or.inl ⟨by rw [e6], (by rw [p_r15.1, p_r9.2.2.2.2.2.1]; exact e7)⟩⟩), fun q => absurd q (by omega)⟩
        · refine lv_aload_n hx hb dX10_writing_80 rfl (lv_at hl 1 rfl) ?_
          refine lv_bipush (v := 9) hx hb dX10_writing_81 (by decide) ?_
          refine EffI.cv (wr := (wX7 g a_t I_t ++ wX5 g a_s I_s ++ wX6 g a_e I_e ++ wX6 g a_f u6 ++ wX1 g a_y I_y)) (w' := fun u18 => wX10 g a_p u18 J_p ++ (wX7 g a_t I_t ++ (wX5 g a_s I_s ++ (wX6 g a_e I_e ++ (wX6 g a_f u6 ++ wX1 g a_y I_y))))) (As := [.int (9 : Int32)]) (kX10_refuse l g a_p (uF (uF (uF I_p 0 1 (0 : Int32)) 0 3 (u6 0 6)) 0 4 (u6 0 7)) J_p (9 : Int32)) fx (gUV (uT _) u_295 u_296 u_297 u_2 u_298) rfl hdX10_refuse ⟨Nat.le_of_ble_eq_true rfl, Nat.le_of_ble_eq_true rfl⟩ hK hP hD hS hA [0, 1] [2, 3, 4, 5, 6, 7, 8, 9, 10, 11, 12, 13, 14, 15, 16, 17, 18, 19, 20, 21, 22, 23, 24, 25, 26] [25, 26, 0, 1, 2, 3, 4, 5, 6, 7, 8, 9, 10, 11, 12, 13, 14, 15, 16, 17, 18, 19, 20, 21, 22, 23, 24] rfl rfl rfl rfl (by decide) rfl (fun _ => rfl) rfl rfl rfl rfl hl.1 (Nat.le_of_ble_eq_true rfl) dX10_writing_83 (fun r17 u18 H locs p_r17 hP hD hS => ?_)
          have hP : va_P g.1 vwCl (wX10 g a_p u18 J_p ++ (wX7 g a_t I_t ++ (wX5 g a_s I_s ++ (wX6 g a_e I_e ++ (wX6 g a_f u6 ++ wX1 g a_y I_y))))) H := hP
          have hD : va_D A (wX10 g a_p u18 J_p ++ (wX7 g a_t I_t ++ (wX5 g a_s I_s ++ (wX6 g a_e I_e ++ (wX6 g a_f u6 ++ wX1 g a_y I_y))))) := hD
          refine hret 86 ls r17 _ _ (u18, I_s, I_e, u6, I_y, a_p, a_e, a_f) dX10_writing_86 hS hP hD ?_
          exact ⟨(PI.st hc_73 p_r17.2), hSI, hE, p_r5.2.1, hL, Or.inl ⟨rfl, rfl, rfl⟩, Or.inr ⟨by omega, congrFun (congrFun p_r17.2 0) 1⟩, congrFun (congrFun p_r17.2 0) 19, fun q => absurd q (by omega), fun _ hl9 => (by obtain ⟨c9, v9, e1, e2, e3⟩ := p_r5.2.2 hl9 (by omega); rcases e3 with ⟨e4, _⟩ | ⟨e4, e5, e6⟩; (exact absurd (e4.symm.trans b_77) (by decide)); exact ⟨c9, v9, e1, e2, (by show v9 = ((u18 0 3).toInt, (u18 0 4).toInt); rw [e6, show (u18 0 3) = _ from (congrFun (congrFun p_r17.2 0) 3), show (u18 0 4) = _ from (congrFun (congrFun p_r17.2 0) 4)]; rfl), Or.inr ⟨by rw [e6]; exact e5, p_r17.1⟩⟩), fun q => absurd q (by omega)⟩
      · refine lv_aload_n hx hb dX10_writing_19 rfl (lv_at hl 0 rfl) ?_
        refine lv_iconst (v := 1) hx hb dX10_writing_20 (by decide) ?_
        refine EffI.cv (wr := (wX7 g a_t I_t ++ wX5 g a_s I_s ++ wX6 g a_e I_e ++ wX6 g a_f I_f ++ wX1 g a_y I_y)) (w' := fun u20 => wX10 g a_p u20 J_p ++ (wX7 g a_t I_t ++ (wX5 g a_s I_s ++ (wX6 g a_e I_e ++ (wX6 g a_f I_f ++ wX1 g a_y I_y))))) (As := [.int (1 : Int32)]) (kX10_refuse l g a_p I_p J_p (1 : Int32)) fx (gUV (uT _) u_295 u_296 u_297 u_2 u_298) rfl hdX10_refuse ⟨Nat.le_of_ble_eq_true rfl, Nat.le_of_ble_eq_true rfl⟩ hK hP hD hS hA [0, 1] [2, 3, 4, 5, 6, 7, 8, 9, 10, 11, 12, 13, 14, 15, 16, 17, 18, 19, 20, 21, 22, 23, 24, 25, 26] [25, 26, 0, 1, 2, 3, 4, 5, 6, 7, 8, 9, 10, 11, 12, 13, 14, 15, 16, 17, 18, 19, 20, 21, 22, 23, 24] rfl rfl rfl rfl (by decide) rfl (fun _ => rfl) rfl rfl rfl rfl hl.1 (Nat.le_of_ble_eq_true rfl) dX10_writing_21 (fun r19 u20 H locs p_r19 hP hD hS => ?_)
        have hP : va_P g.1 vwCl (wX10 g a_p u20 J_p ++ (wX7 g a_t I_t ++ (wX5 g a_s I_s ++ (wX6 g a_e I_e ++ (wX6 g a_f I_f ++ wX1 g a_y I_y))))) H := hP
        have hD : va_D A (wX10 g a_p u20 J_p ++ (wX7 g a_t I_t ++ (wX5 g a_s I_s ++ (wX6 g a_e I_e ++ (wX6 g a_f I_f ++ wX1 g a_y I_y))))) := hD
        refine hret 24 ls r19 _ _ (u20, I_s, I_e, I_f, I_y, a_p, a_e, a_f) dX10_writing_24 hS hP hD ?_
        exact ⟨(PI.st hPI p_r19.2), hSI, hE, hF, hL, Or.inl ⟨rfl, rfl, rfl⟩, Or.inl ⟨by omega, congrFun (congrFun p_r19.2 0) 1⟩, congrFun (congrFun p_r19.2 0) 19, fun _ => congrFun p_r19.2 1, fun q => absurd q (by omega), fun _ => ⟨p_r19.1, (congrFun (congrFun p_r19.2 0) 3), (congrFun (congrFun p_r19.2 0) 4)⟩⟩

set_option maxHeartbeats 4000000 in
set_option maxRecDepth 100000 in
theorem kX10_reset (l : Launch) (g : gG) (a_p : Nat → Nat) (I_p : Nat → Nat → Int32) (J_p : Nat → Nat → Int64) (a_t : Nat → Nat) (I_t : Nat → Nat → Int32) (a_s : Nat → Nat) (I_s : Nat → Nat → Int32) (a_e : Nat → Nat) (I_e : Nat → Nat → Int32) (a_f : Nat → Nat) (I_f : Nat → Nat → Int32) (a_y : Nat → Nat) (I_y : Nat → Nat → Int32) (hl_p_table : a_p 109 = a_t 0) (hl_p_script : a_p 110 = a_s 0) (hl_p_shown : a_p 112 = a_e 0) (hl_p_spare : a_p 113 = a_f 0) (hl_p_layout : a_p 114 = a_y 0) (hPI : PI I_p) (hT : TI I_t) (hSI : SI I_s) (hE : EI I_e) (hF : EI I_f) (hL : LI I_y) : EffI l g yX10_reset wsX10_reset 5 [.ref (a_p 0)] (wX10 g a_p I_p J_p ++ (wX7 g a_t I_t ++ (wX5 g a_s I_s ++ (wX6 g a_e I_e ++ (wX6 g a_f I_f ++ wX1 g a_y I_y))))) (fun (u : ((Nat → Nat → Int32) × (Nat → Nat → Int32) × (Nat → Nat → Int32) × (Nat → Nat → Int32) × (Nat → Nat) × (Nat → Nat) × (Nat → Nat))) => wX10 g (u.2.2.2.2.1) (u.1) J_p ++ (wX7 g a_t I_t ++ (wX5 g a_s I_s ++ (wX6 g (u.2.2.2.2.2.1) (u.2.1) ++ (wX6 g (u.2.2.2.2.2.2) (u.2.2.1) ++ wX1 g a_y (u.2.2.2.1)))))) (fun r (u : ((Nat → Nat → Int32) × (Nat → Nat → Int32) × (Nat → Nat → Int32) × (Nat → Nat → Int32) × (Nat → Nat) × (Nat → Nat) × (Nat → Nat))) => PI (u.1) ∧ EI (u.2.1) ∧ EI (u.2.2.1) ∧ LI (u.2.2.2.1) ∧ KP I_p (u.1) ∧ (((u.2.2.2.2.1) = a_p ∧ (u.2.2.2.2.2.1) = a_e ∧ (u.2.2.2.2.2.2) = a_f) ∨ ((u.2.2.2.2.1) = (uA (uA a_p 112 (a_f 0)) 113 (a_e 0)) ∧ (u.2.2.2.2.2.1) = a_f ∧ (u.2.2.2.2.2.2) = a_e))) := by
  refine EffI.st (cc := cX10_reset) (maxL := 1) (by decide) rfl (Nat.le_of_ble_eq_true rfl) (fun p e s m args below meth c A Q ls fx hK hP hD hA hS hl hret => ?_)
  have hx := fx.1
  have hb := fx.2.1
  have hml := fx.2.2.1
  have hown := fx.2.2.2.1
  have hts := fx.2.2.2.2
  have hl : lv_has ls 1 [(0, .ref (a_p 0))] := hl
  have hP : va_P g.1 vwCl (wX10 g a_p I_p J_p ++ (wX7 g a_t I_t ++ (wX5 g a_s I_s ++ (wX6 g a_e I_e ++ (wX6 g a_f I_f ++ wX1 g a_y I_y))))) s.heap := hP
  have hf_50 := hts _ (uT _ _ u_32)
  have hf_57 := hts _ (uT _ _ u_36)
  have hf_68 := hts _ (uT _ _ u_41)
  have hf_72 := hts _ (uT _ _ u_42)
  have hf_184 := hts _ (uT _ _ u_593)
  have hf_200 := hts _ (uT _ _ u_596)
  have hf_234 := hts _ (uT _ _ u_846)
  have hf_237 := hts _ (uT _ _ u_847)
  have hi_X10 : ∀ w ∈ wsX100, w.before args s = true := fun w h => hts w (uT _ w (u_wsX100 w h))
  have hi_X5 : ∀ w ∈ wsX50, w.before args s = true := fun w h => hts w (uT _ w (u_wsX50 w h))
  have hi_X6 : ∀ w ∈ wsX60, w.before args s = true := fun w h => hts w (uT _ w (u_wsX60 w h))
  have hi_X7 : ∀ w ∈ wsX70, w.before args s = true := fun w h => hts w (uT _ w (u_wsX70 w h))
  have lm1 : (-1 : Int32).toInt = -1 := by decide
  have lm0 : (0 : Int32).toInt = 0 := by decide
  have lm2 : (1 : Int32).toInt = 1 := by decide
  have hp1 := hPI.1
  have hp2 := hPI.2.1
  have hru := TI.ru hT
  have hlt3 := TI.li hT
  have hlt4 := TI.pa hT
  have hs0 := hSI.1
  have hs1 := hSI.2
  have hE0 := hE.1
  have hE1 := hE.2
  have hpc := LI.pc hL
  have hln := LI.ln hL
  have hwd := LI.wd hL
  have lq6 : (6 : Int32).toInt = 6 := by decide
  have lq7 : (7 : Int32).toInt = 7 := by decide
  refine lv_aload_n hx hb dX10_reset_0 rfl (lv_at hl 0 rfl) ?_
  refine va_get (D := g.1) (ci := 10) (v := .ref (a_s 0)) (C := RX10) (T := TX10) (N := 20) hx hb hi_X10 (fun _ h => h) hown hK.1 hP 0 rfl rfl 10 (by decide) hf_57 (fun _ h9 => h9) (congrArg (fun z => some (Value.ref z)) hl_p_script) dX10_reset_1 ?_
  refine PurI.cv (As := []) (kX5_isThere l g a_s I_s) fx (gUV (uT _) u_848 u_849 u_850 u_35 u_851) rfl hdX5_isThere ⟨Nat.le_of_ble_eq_true rfl, Nat.le_of_ble_eq_true rfl⟩ hK hP [9, 10, 11] rfl rfl rfl rfl rfl hl.1 (Nat.le_of_ble_eq_true rfl) dX10_reset_4 (fun r1 p_r1 => ?_)
  refine q_if_ne (tgt := 17) hx hb dX10_reset_7 (by decide) rfl (fun b_7 k_7 => ?_) (fun b_7 k_7 => ?_)
  · have q_7 := bP.t p_r1 b_7
    refine lv_aload_n hx hb dX10_reset_17 rfl (lv_at hl 0 rfl) ?_
    refine va_get (D := g.1) (ci := 10) (v := .ref (a_f 0)) (C := RX10) (T := TX10) (N := 20) hx hb hi_X10 (fun _ h => h) hown hK.1 hP 0 rfl rfl 13 (by decide) hf_72 (fun _ h9 => h9) (congrArg (fun z => some (Value.ref z)) hl_p_spare) dX10_reset_18 ?_
    refine lv_aload_n hx hb dX10_reset_21 rfl (lv_at hl 0 rfl) ?_
    refine va_get (D := g.1) (ci := 10) (v := .ref (a_s 0)) (C := RX10) (T := TX10) (N := 20) hx hb hi_X10 (fun _ h => h) hown hK.1 hP 0 rfl rfl 10 (by decide) hf_57 (fun _ h9 => h9) (congrArg (fun z => some (Value.ref z)) hl_p_script) dX10_reset_22 ?_
    refine va_get (D := g.1) (ci := 5) (v := .ref (a_s 1)) (C := RX5) (T := TX5) (N := 3) hx hb hi_X5 (fun _ h => h) hown hK.1 hP 9 rfl rfl 0 (by decide) hf_234 (fun _ h9 => h9) rfl dX10_reset_25 ?_
    refine lv_aload_n hx hb dX10_reset_28 rfl (lv_at hl 0 rfl) ?_
    refine va_get (D := g.1) (ci := 10) (v := .ref (a_s 0)) (C := RX10) (T := TX10) (N := 20) hx hb hi_X10 (fun _ h => h) hown hK.1 hP 0 rfl rfl 10 (by decide) hf_57 (fun _ h9 => h9) (congrArg (fun z => some (Value.ref z)) hl_p_script) dX10_reset_29 ?_
    refine va_get (D := g.1) (ci := 5) (v := .int (I_s 0 1)) (C := RX5) (T := TX5) (N := 3) hx hb hi_X5 (fun _ h => h) hown hK.1 hP 9 rfl rfl 1 (by decide) hf_237 (fun _ h9 => h9) rfl dX10_reset_32 ?_
    refine lv_aload_n hx hb dX10_reset_35 rfl (lv_at hl 0 rfl) ?_
    refine va_get (D := g.1) (ci := 10) (v := .ref (a_t 0)) (C := RX10) (T := TX10) (N := 20) hx hb hi_X10 (fun _ h => h) hown hK.1 hP 0 rfl rfl 9 (by decide) hf_50 (fun _ h9 => h9) (congrArg (fun z => some (Value.ref z)) hl_p_table) dX10_reset_36 ?_
    refine lv_aload_n hx hb dX10_reset_39 rfl (lv_at hl 0 rfl) ?_
    refine va_get (D := g.1) (ci := 10) (v := .ref (a_t 0)) (C := RX10) (T := TX10) (N := 20) hx hb hi_X10 (fun _ h => h) hown hK.1 hP 0 rfl rfl 9 (by decide) hf_50 (fun _ h9 => h9) (congrArg (fun z => some (Value.ref z)) hl_p_table) dX10_reset_40 ?_
    refine va_get (D := g.1) (ci := 7) (v := .int (I_t 0 1)) (C := RX7) (T := TX7) (N := 8) hx hb hi_X7 (fun _ h => h) hown hK.1 hP 2 rfl rfl 1 (by decide) hf_184 (fun _ h9 => h9) rfl dX10_reset_43 ?_
    refine EffI.cv (wr := (wX10 g a_p I_p J_p ++ ([0, 2].filterMap (fun i => (wX5 g a_s I_s)[i]?)) ++ wX6 g a_e I_e ++ wX1 g a_y I_y)) (w' := fun u3 => wX10 g a_p I_p J_p ++ (wX7 g a_t I_t ++ (wX5 g a_s I_s ++ (wX6 g a_e I_e ++ (wX6 g a_f u3 ++ wX1 g a_y I_y))))) (As := [.ref (a_s 1), .int (I_s 0 1), .ref (a_t 0), .int (I_t 0 1)]) (kX6_sets l g a_f I_f (fun k => a_s (k + 1)) 300 (fun k => I_s (k + 1)) a_t I_t (I_s 0 1) (I_t 0 1) hT hF (by omega)) fx (gUV (uT _) u_597 u_598 u_599 u_40 u_600) rfl hdX6_sets ⟨Nat.le_of_ble_eq_true rfl, Nat.le_of_ble_eq_true rfl⟩ hK hP hD hS hA [16, 17, 18, 19, 10, 2, 3, 4, 5, 6, 7, 8] [0, 1, 9, 11, 12, 13, 14, 15, 20, 21, 22, 23, 24, 25, 26] [0, 1, 20, 21, 22, 23, 24, 25, 26, 2, 19, 3, 4, 5, 6, 7, 15, 16, 17, 18, 8, 9, 10, 11, 12, 13, 14] rfl rfl rfl rfl (by decide) rfl (fun _ => rfl) rfl rfl rfl rfl hl.1 (Nat.le_of_ble_eq_true rfl) dX10_reset_46 (fun r2 u3 H locs p_r2 hP hD hS => ?_)
    have hP : va_P g.1 vwCl (wX10 g a_p I_p J_p ++ (wX7 g a_t I_t ++ (wX5 g a_s I_s ++ (wX6 g a_e I_e ++ (wX6 g a_f u3 ++ wX1 g a_y I_y))))) H := hP
    have hD : va_D A (wX10 g a_p I_p J_p ++ (wX7 g a_t I_t ++ (wX5 g a_s I_s ++ (wX6 g a_e I_e ++ (wX6 g a_f u3 ++ wX1 g a_y I_y))))) := hD
    refine q_if_ne (tgt := 59) hx hb dX10_reset_49 (by decide) rfl (fun b_49 k_49 => ?_) (fun b_49 k_49 => ?_)
    · refine lv_aload_n hx hb dX10_reset_59 rfl (lv_at hl 0 rfl) ?_
      refine EffV.cv (wr := (wX5 g a_s I_s)) (w' := fun u5 => wX10 g (uA (uA a_p 112 (a_f 0)) 113 (a_e 0)) u5.1 J_p ++ (wX7 g a_t I_t ++ (wX5 g a_s I_s ++ (wX6 g a_f u5.2.1 ++ (wX6 g a_e u5.2.2.1 ++ wX1 g a_y u5.2.2.2))))) (As := []) (kX10_showSpare l g a_p I_p J_p a_t I_t a_e I_e a_f u3 a_y I_y hl_p_table hl_p_shown hl_p_spare hl_p_layout hPI hT hE p_r2.2.1 hL) fx (gUV (uT _) u_668 u_669 u_670 u_2 u_671) rfl hdX10_showSpare ⟨Nat.le_of_ble_eq_true rfl, Nat.le_of_ble_eq_true rfl⟩ hK hP hD hS hA [0, 1, 2, 3, 4, 5, 6, 7, 8, 12, 13, 14, 15, 16, 17, 18, 19, 20, 21, 22, 23, 24, 25, 26] [9, 10, 11] [3, 4, 5, 6, 7, 8, 9, 10, 11, 0, 1, 2, 12, 13, 14, 15, 16, 17, 18, 19, 20, 21, 22, 23, 24, 25, 26] rfl rfl rfl rfl (by decide) rfl (fun _ => rfl) rfl rfl rfl rfl hl.1 (Nat.le_of_ble_eq_true rfl) dX10_reset_60 (fun u5 H locs p_r4 hP hD hS => ?_)
      obtain ⟨I6, I7, I8, I9⟩ := u5
      try dsimp only at p_r4
      have hP : va_P g.1 vwCl (wX10 g (uA (uA a_p 112 (a_f 0)) 113 (a_e 0)) I6 J_p ++ (wX7 g a_t I_t ++ (wX5 g a_s I_s ++ (wX6 g a_f I7 ++ (wX6 g a_e I8 ++ wX1 g a_y I9))))) H := hP
      have hD : va_D A (wX10 g (uA (uA a_p 112 (a_f 0)) 113 (a_e 0)) I6 J_p ++ (wX7 g a_t I_t ++ (wX5 g a_s I_s ++ (wX6 g a_f I7 ++ (wX6 g a_e I8 ++ wX1 g a_y I9))))) := hD
      refine lv_aload_n hx hb dX10_reset_63 rfl (lv_at hl 0 rfl) ?_
      refine lv_aload_n hx hb dX10_reset_64 rfl (lv_at hl 0 rfl) ?_
      refine va_get (D := g.1) (ci := 10) (v := .ref (a_f 0)) (C := RX10) (T := TX10) (N := 20) hx hb hi_X10 (fun _ h => h) hown hK.1 hP 0 rfl rfl 12 (by decide) hf_68 (fun _ h9 => h9) rfl dX10_reset_65 ?_
      refine va_get (D := g.1) (ci := 6) (v := .int (I7 0 3)) (C := RX6) (T := TX6) (N := 10) hx hb hi_X6 (fun _ h => h) hown hK.1 hP 12 rfl rfl 3 (by decide) hf_200 (fun _ h9 => h9) rfl dX10_reset_68 ?_
      refine EffI.cv (wr := (wX7 g a_t I_t ++ wX5 g a_s I_s ++ wX6 g a_f I7 ++ wX6 g a_e I8 ++ wX1 g a_y I9)) (w' := fun u11 => wX10 g (uA (uA a_p 112 (a_f 0)) 113 (a_e 0)) u11 J_p ++ (wX7 g a_t I_t ++ (wX5 g a_s I_s ++ (wX6 g a_f I7 ++ (wX6 g a_e I8 ++ wX1 g a_y I9))))) (As := [.int (I7 0 3)]) (kX10_answer l g (uA (uA a_p 112 (a_f 0)) 113 (a_e 0)) I6 J_p (I7 0 3)) fx (gUV (uT _) u_497 u_498 u_499 u_2 u_500) rfl hdX10_answer ⟨Nat.le_of_ble_eq_true rfl, Nat.le_of_ble_eq_true rfl⟩ hK hP hD hS hA [0, 1] [2, 3, 4, 5, 6, 7, 8, 9, 10, 11, 12, 13, 14, 15, 16, 17, 18, 19, 20, 21, 22, 23, 24, 25, 26] [25, 26, 0, 1, 2, 3, 4, 5, 6, 7, 8, 9, 10, 11, 12, 13, 14, 15, 16, 17, 18, 19, 20, 21, 22, 23, 24] rfl rfl rfl rfl (by decide) rfl (fun _ => rfl) rfl rfl rfl rfl hl.1 (Nat.le_of_ble_eq_true rfl) dX10_reset_71 (fun r10 u11 H locs p_r10 hP hD hS => ?_)
      have hP : va_P g.1 vwCl (wX10 g (uA (uA a_p 112 (a_f 0)) 113 (a_e 0)) u11 J_p ++ (wX7 g a_t I_t ++ (wX5 g a_s I_s ++ (wX6 g a_f I7 ++ (wX6 g a_e I8 ++ wX1 g a_y I9))))) H := hP
      have hD : va_D A (wX10 g (uA (uA a_p 112 (a_f 0)) 113 (a_e 0)) u11 J_p ++ (wX7 g a_t I_t ++ (wX5 g a_s I_s ++ (wX6 g a_f I7 ++ (wX6 g a_e I8 ++ wX1 g a_y I9))))) := hD
      refine hret 74 ls r10 _ _ (u11, I7, I8, I9, (uA (uA a_p 112 (a_f 0)) 113 (a_e 0)), a_f, a_e) dX10_reset_74 hS hP hD ?_
      exact ⟨(PI.st (p_r4.1) p_r10.2), (p_r4.2.1), (p_r4.2.2.1), (p_r4.2.2.2.1), (KP.tr (KP.tr (KP.rf I_p) (p_r4.2.2.2.2.1)) (KP.st p_r10.2)), (by first | exact Or.inl ⟨rfl, rfl, rfl⟩ | exact Or.inr ⟨rfl, rfl, rfl⟩)⟩
    · refine lv_aload_n hx hb dX10_reset_52 rfl (lv_at hl 0 rfl) ?_
      refine lv_bipush (v := 7) hx hb dX10_reset_53 (by decide) ?_
      refine EffI.cv (wr := (wX7 g a_t I_t ++ wX5 g a_s I_s ++ wX6 g a_e I_e ++ wX6 g a_f u3 ++ wX1 g a_y I_y)) (w' := fun u13 => wX10 g a_p u13 J_p ++ (wX7 g a_t I_t ++ (wX5 g a_s I_s ++ (wX6 g a_e I_e ++ (wX6 g a_f u3 ++ wX1 g a_y I_y))))) (As := [.int (7 : Int32)]) (kX10_refuse l g a_p I_p J_p (7 : Int32)) fx (gUV (uT _) u_295 u_296 u_297 u_2 u_298) rfl hdX10_refuse ⟨Nat.le_of_ble_eq_true rfl, Nat.le_of_ble_eq_true rfl⟩ hK hP hD hS hA [0, 1] [2, 3, 4, 5, 6, 7, 8, 9, 10, 11, 12, 13, 14, 15, 16, 17, 18, 19, 20, 21, 22, 23, 24, 25, 26] [25, 26, 0, 1, 2, 3, 4, 5, 6, 7, 8, 9, 10, 11, 12, 13, 14, 15, 16, 17, 18, 19, 20, 21, 22, 23, 24] rfl rfl rfl rfl (by decide) rfl (fun _ => rfl) rfl rfl rfl rfl hl.1 (Nat.le_of_ble_eq_true rfl) dX10_reset_55 (fun r12 u13 H locs p_r12 hP hD hS => ?_)
      have hP : va_P g.1 vwCl (wX10 g a_p u13 J_p ++ (wX7 g a_t I_t ++ (wX5 g a_s I_s ++ (wX6 g a_e I_e ++ (wX6 g a_f u3 ++ wX1 g a_y I_y))))) H := hP
      have hD : va_D A (wX10 g a_p u13 J_p ++ (wX7 g a_t I_t ++ (wX5 g a_s I_s ++ (wX6 g a_e I_e ++ (wX6 g a_f u3 ++ wX1 g a_y I_y))))) := hD
      refine hret 58 ls r12 _ _ (u13, I_e, u3, I_y, a_p, a_e, a_f) dX10_reset_58 hS hP hD ?_
      exact ⟨(PI.st hPI p_r12.2), hE, p_r2.2.1, hL, (KP.tr (KP.rf I_p) (KP.st p_r12.2)), (by first | exact Or.inl ⟨rfl, rfl, rfl⟩ | exact Or.inr ⟨rfl, rfl, rfl⟩)⟩
  · have q_7 := bP.f p_r1 b_7
    refine lv_aload_n hx hb dX10_reset_10 rfl (lv_at hl 0 rfl) ?_
    refine lv_bipush (v := 6) hx hb dX10_reset_11 (by decide) ?_
    refine EffI.cv (wr := (wX7 g a_t I_t ++ wX5 g a_s I_s ++ wX6 g a_e I_e ++ wX6 g a_f I_f ++ wX1 g a_y I_y)) (w' := fun u15 => wX10 g a_p u15 J_p ++ (wX7 g a_t I_t ++ (wX5 g a_s I_s ++ (wX6 g a_e I_e ++ (wX6 g a_f I_f ++ wX1 g a_y I_y))))) (As := [.int (6 : Int32)]) (kX10_refuse l g a_p I_p J_p (6 : Int32)) fx (gUV (uT _) u_295 u_296 u_297 u_2 u_298) rfl hdX10_refuse ⟨Nat.le_of_ble_eq_true rfl, Nat.le_of_ble_eq_true rfl⟩ hK hP hD hS hA [0, 1] [2, 3, 4, 5, 6, 7, 8, 9, 10, 11, 12, 13, 14, 15, 16, 17, 18, 19, 20, 21, 22, 23, 24, 25, 26] [25, 26, 0, 1, 2, 3, 4, 5, 6, 7, 8, 9, 10, 11, 12, 13, 14, 15, 16, 17, 18, 19, 20, 21, 22, 23, 24] rfl rfl rfl rfl (by decide) rfl (fun _ => rfl) rfl rfl rfl rfl hl.1 (Nat.le_of_ble_eq_true rfl) dX10_reset_13 (fun r14 u15 H locs p_r14 hP hD hS => ?_)
    have hP : va_P g.1 vwCl (wX10 g a_p u15 J_p ++ (wX7 g a_t I_t ++ (wX5 g a_s I_s ++ (wX6 g a_e I_e ++ (wX6 g a_f I_f ++ wX1 g a_y I_y))))) H := hP
    have hD : va_D A (wX10 g a_p u15 J_p ++ (wX7 g a_t I_t ++ (wX5 g a_s I_s ++ (wX6 g a_e I_e ++ (wX6 g a_f I_f ++ wX1 g a_y I_y))))) := hD
    refine hret 16 ls r14 _ _ (u15, I_e, I_f, I_y, a_p, a_e, a_f) dX10_reset_16 hS hP hD ?_
    exact ⟨(PI.st hPI p_r14.2), hE, hF, hL, (KP.tr (KP.rf I_p) (KP.st p_r14.2)), (by first | exact Or.inl ⟨rfl, rfl, rfl⟩ | exact Or.inr ⟨rfl, rfl, rfl⟩)⟩
