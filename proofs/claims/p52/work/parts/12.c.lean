
/-- what holds of the TRAYS -/
def DI (I : Nat → Nat → Int32) : Prop := ∀ j : Nat, -1 ≤ (I 3 j).toInt ∧ (I 3 j).toInt ≤ 60
theorem DI.sz {I : Nat → Nat → Int32} (h : DI I) (j : Nat) : -1 ≤ (I 3 j).toInt ∧ (I 3 j).toInt ≤ 60 := h j
/-- a number cut to a sort -/
def cutL (v : Int64) (s : Int32) : Int64 := if s = 0 then v.toInt32.toInt8.toInt32.toInt64 else if s = 1 then v.toInt32.toInt16.toInt32.toInt64 else if s = 2 then v.toInt32.toInt64 else v
theorem t_inj {x y : Int32} (h : x.toInt = y.toInt) : x = y := Int32.toInt_inj.mp h
theorem lay_step {J J0 : Nat → Nat → Int64} {t v v2 : Int} {f : Nat → Int64} {i : Nat} (h : ∀ j : Nat, J 1 j = if t ≤ (j : Int) ∧ (j : Int) < t + v then 0 else J0 1 j) (hf : f = vp_updL (J 1) i 0) (hi : (i : Int) = t + v) (hv2 : v2 = v + 1) (hv : 0 ≤ v) (j : Nat) : vR J 1 f 1 j = if t ≤ (j : Int) ∧ (j : Int) < t + v2 then 0 else J0 1 j := by
  show f j = _
  rw [hf]
  unfold vp_updL
  by_cases hj : j = i
  · rw [if_pos hj, if_pos (by omega)]
  · rw [if_neg hj, h j]
    by_cases q : t ≤ (j : Int) ∧ (j : Int) < t + v
    · rw [if_pos q, if_pos (by omega)]
    · rw [if_neg q, if_neg (by omega)]
theorem put_ok {f g : Nat → Int64} {i i' : Nat} {w w' : Int64} (h : f = vp_updL g i w) (hi : i = i') (hw : w = w') : f = vp_updL g i' w' := by subst hi; subst hw; exact h
def WI (I : Nat → Nat → Int32) : Prop := 0 ≤ (I 0 1).toInt ∧ (I 0 1).toInt ≤ 1200
def CI (I : Nat → Nat → Int32) : Prop := 0 ≤ (I 0 1).toInt + 2147483648
set_option maxHeartbeats 4000000 in
set_option maxRecDepth 100000 in
theorem kX6_usedInAll (l : Launch) (g : gG) (a_e : Nat → Nat) (I_e : Nat → Nat → Int32)  : PurI l g yX6_usedInAll wsX6_usedInAll 0 [.ref (a_e 0)] (wX6 g a_e I_e) (fun r => True) := by
  refine PurI.st (cc := cX6_usedInAll) (maxL := 3) (by decide) rfl (Nat.le_of_ble_eq_true rfl) (fun p e s m args below meth c Q ls fx hK hP hl hret => ?_)
  have hx := fx.1
  have hb := fx.2.1
  have hml := fx.2.2.1
  have hown := fx.2.2.2.1
  have hts := fx.2.2.2.2
  have hl : lv_has ls 3 [(0, .ref (a_e 0))] := hl
  have hP : va_P g.1 vwCl (wX6 g a_e I_e) s.heap := hP
  have hf_18 := hts _ (uT _ _ u_110)
  have hi_X6 : ∀ w ∈ wsX60, w.before args s = true := fun w h => hts w (uT _ w (u_wsX60 w h))
  have lm1 : (-1 : Int32).toInt = -1 := by decide
  have lm0 : (0 : Int32).toInt = 0 := by decide
  have lm2 : (1 : Int32).toInt = 1 := by decide
  refine lv_iconst (v := 0) hx hb dX6_usedInAll_0 (by decide) ?_
  refine lv_istore_n (lv' := [(1, .int (0 : Int32)), (0, .ref (a_e 0))]) hx hb dX6_usedInAll_1 rfl hl (by decide) rfl (fun ls hl => ?_)
  refine lv_iconst (v := 0) hx hb dX6_usedInAll_2 (by decide) ?_
  refine lv_istore_n (lv' := [(2, .int (0 : Int32)), (1, .int (0 : Int32)), (0, .ref (a_e 0))]) hx hb dX6_usedInAll_3 rfl hl (by decide) rfl (fun ls hl => ?_)
  have L4 : ∀ (nn : Nat) (v1_4 : Int32) (v2_4 : Int32), (hv_4 : 0 ≤ v2_4.toInt ∧ v2_4.toInt ≤ 24) → ((25 - v2_4.toInt) < (nn : Int)) → ∀ ls : Array Slot, lv_has ls 3 [(2, .int v2_4), (1, .int v1_4), (0, .ref (a_e 0))] → W p l e (rm 0) s m args below meth c s.heap [] 0 0 Q (F0 m 4 ls []) := by
    intro n_4
    induction n_4 with
    | zero =>
      intro v1_4 v2_4 hv_4 hms_4 ls hl
      exfalso; omega
    | succ n_4 ih_4 =>
      intro v1_4 v2_4 hv_4 hms_4 ls hl
      refine lv_iload_n hx hb dX6_usedInAll_4 rfl (lv_at hl 0 rfl) ?_
      refine lv_bipush (v := 24) hx hb dX6_usedInAll_5 (by decide) ?_
      refine q_icmp_ge (tgt := 25) hx hb dX6_usedInAll_7 (by decide) rfl (by decide : (24 : Int32).toInt = 24) (fun k_7 => ?_) (fun k_7 => ?_)
      · refine lv_iload_n hx hb dX6_usedInAll_25 rfl (lv_at hl 1 rfl) ?_
        exact hret 26 ls v1_4 dX6_usedInAll_26 trivial
      · refine lv_iload_n hx hb dX6_usedInAll_10 rfl (lv_at hl 1 rfl) ?_
        refine lv_aload_n hx hb dX6_usedInAll_11 rfl (lv_at hl 2 rfl) ?_
        refine va_get (D := g.1) (ci := 6) (v := .ref (a_e 3)) (C := RX6) (T := TX6) (N := 10) hx hb hi_X6 (fun _ h => h) hown hK.1 hP 0 rfl rfl 2 (by decide) hf_18 (fun _ h9 => h9) rfl dX6_usedInAll_12 ?_
        refine lv_iload_n hx hb dX6_usedInAll_15 rfl (lv_at hl 0 rfl) ?_
        have n_16 : vp_in v2_4 24 := (t_in (by omega))
        refine va_iald hx hb hK.1 hP 3 0 rfl rfl n_16 dX6_usedInAll_16 ?_
        refine q_nm (fun x1 e_x1 => ?_)
        have e_x1 : x1 = (I_e 3) v2_4.toNatClampNeg := e_x1
        have g_x1 : x1.toInt = ((I_e 3) v2_4.toNatClampNeg).toInt := congrArg _ e_x1
        refine r_iadd hx hb dX6_usedInAll_17 rfl rfl (fun x2 e_x2 t_x2 => ?_)
        try have t_x2 := t_x2 (by omega)
        refine lv_istore_n (lv' := [(1, .int x2), (2, .int v2_4), (0, .ref (a_e 0))]) hx hb dX6_usedInAll_18 rfl hl (by decide) rfl (fun ls hl => ?_)
        refine r_iinc (lv' := fun i3 => [(2, .int i3), (1, .int x2), (0, .ref (a_e 0))]) hx hb dX6_usedInAll_19 hl (k := 1) rfl (by decide) rfl (by decide) (fun _ => rfl) (fun i3 e_i3 t_i3 ls hl => ?_)
        try have t_i3 := t_i3 (by omega)
        refine lv_goto (tgt := 4) hx hb dX6_usedInAll_22 (by decide) ?_
        exact ih_4 x2 i3 (by omega) (by omega) ls hl
  exact L4 ((25 - (0 : Int32).toInt) + 1).toNat (0 : Int32) (0 : Int32) (by omega) (by omega) ls hl

set_option maxHeartbeats 4000000 in
set_option maxRecDepth 100000 in
theorem kX6_dotsOf (l : Launch) (g : gG) (a_e : Nat → Nat) (I_e : Nat → Nat → Int32) (fr : Int32) (to : Int32) (h_t : 0 ≤ fr.toInt ∧ fr.toInt ≤ 1200 ∧ to.toInt ≤ 1200) : PurI l g yX6_dotsOf wsX6_dotsOf 1 [.ref (a_e 0), .int fr, .int to] (wX6 g a_e I_e) (fun r => True) := by
  refine PurI.st (cc := cX6_dotsOf) (maxL := 5) (by decide) rfl (Nat.le_of_ble_eq_true rfl) (fun p e s m args below meth c Q ls fx hK hP hl hret => ?_)
  have hx := fx.1
  have hb := fx.2.1
  have hml := fx.2.2.1
  have hown := fx.2.2.2.1
  have hts := fx.2.2.2.2
  have hl : lv_has ls 5 [(0, .ref (a_e 0)), (1, .int fr), (2, .int to)] := hl
  have hP : va_P g.1 vwCl (wX6 g a_e I_e) s.heap := hP
  have hf_9 := hts _ (uT _ _ u_108)
  have hi_X6 : ∀ w ∈ wsX60, w.before args s = true := fun w h => hts w (uT _ w (u_wsX60 w h))
  have lm1 : (-1 : Int32).toInt = -1 := by decide
  have lm0 : (0 : Int32).toInt = 0 := by decide
  have lm2 : (1 : Int32).toInt = 1 := by decide
  refine lv_iconst (v := 0) hx hb dX6_dotsOf_0 (by decide) ?_
  refine lv_istore_n (lv' := [(3, .int (0 : Int32)), (0, .ref (a_e 0)), (1, .int fr), (2, .int to)]) hx hb dX6_dotsOf_1 rfl hl (by decide) rfl (fun ls hl => ?_)
  refine lv_iload_n hx hb dX6_dotsOf_2 rfl (lv_at hl 2 rfl) ?_
  refine lv_istore (lv' := [(4, .int fr), (3, .int (0 : Int32)), (0, .ref (a_e 0)), (1, .int fr), (2, .int to)]) hx hb dX6_dotsOf_3 hl (by decide) rfl (fun ls hl => ?_)
  have L5 : ∀ (nn : Nat) (v3_5 : Int32) (v4_5 : Int32), (hv_5 : 0 ≤ v4_5.toInt ∧ v4_5.toInt ≤ 1200) → ((1201 - v4_5.toInt) < (nn : Int)) → ∀ ls : Array Slot, lv_has ls 5 [(4, .int v4_5), (3, .int v3_5), (0, .ref (a_e 0)), (1, .int fr), (2, .int to)] → W p l e (rm 1) s m args below meth c s.heap [] 0 0 Q (F0 m 5 ls []) := by
    intro n_5
    induction n_5 with
    | zero =>
      intro v3_5 v4_5 hv_5 hms_5 ls hl
      exfalso; omega
    | succ n_5 ih_5 =>
      intro v3_5 v4_5 hv_5 hms_5 ls hl
      refine lv_iload hx hb dX6_dotsOf_5 (lv_at hl 0 rfl) ?_
      refine lv_iload_n hx hb dX6_dotsOf_7 rfl (lv_at hl 4 rfl) ?_
      refine q_icmp_ge (tgt := 30) hx hb dX6_dotsOf_8 (by decide) rfl rfl (fun k_8 => ?_) (fun k_8 => ?_)
      · refine lv_iload_n hx hb dX6_dotsOf_30 rfl (lv_at hl 1 rfl) ?_
        exact hret 31 ls v3_5 dX6_dotsOf_31 trivial
      · refine lv_iload_n hx hb dX6_dotsOf_11 rfl (lv_at hl 1 rfl) ?_
        refine lv_aload_n hx hb dX6_dotsOf_12 rfl (lv_at hl 2 rfl) ?_
        refine va_get (D := g.1) (ci := 6) (v := .ref (a_e 1)) (C := RX6) (T := TX6) (N := 10) hx hb hi_X6 (fun _ h => h) hown hK.1 hP 0 rfl rfl 0 (by decide) hf_9 (fun _ h9 => h9) rfl dX6_dotsOf_13 ?_
        refine lv_iload hx hb dX6_dotsOf_16 (lv_at hl 0 rfl) ?_
        have n_18 : vp_in v4_5 1200 := (t_in (by omega))
        refine va_iald hx hb hK.1 hP 1 0 rfl rfl n_18 dX6_dotsOf_18 ?_
        refine q_nm (fun x1 e_x1 => ?_)
        have e_x1 : x1 = (I_e 1) v4_5.toNatClampNeg := e_x1
        have g_x1 : x1.toInt = ((I_e 1) v4_5.toNatClampNeg).toInt := congrArg _ e_x1
        refine PurI.cs (C := RJ6) (As := [.int x1]) (kJ6_bitCount_0f7a4 l g x1) fx (gUS (uT _) u_998 u_999 u_1000 u_1001) rfl hdJ6_bitCount_0f7a4 ⟨Nat.le_of_ble_eq_true rfl, Nat.le_of_ble_eq_true rfl⟩ hK hP [] rfl rfl rfl hl.1 (Nat.le_of_ble_eq_true rfl) dX6_dotsOf_19 (fun r2 p_r2 => ?_)
        refine r_iadd hx hb dX6_dotsOf_22 rfl rfl (fun x3 e_x3 t_x3 => ?_)
        try have t_x3 := t_x3 (by omega)
        refine lv_istore_n (lv' := [(3, .int x3), (4, .int v4_5), (0, .ref (a_e 0)), (1, .int fr), (2, .int to)]) hx hb dX6_dotsOf_23 rfl hl (by decide) rfl (fun ls hl => ?_)
        refine r_iinc (lv' := fun i4 => [(4, .int i4), (3, .int x3), (0, .ref (a_e 0)), (1, .int fr), (2, .int to)]) hx hb dX6_dotsOf_24 hl (k := 1) rfl (by decide) rfl (by decide) (fun _ => rfl) (fun i4 e_i4 t_i4 ls hl => ?_)
        try have t_i4 := t_i4 (by omega)
        refine lv_goto (tgt := 5) hx hb dX6_dotsOf_27 (by decide) ?_
        exact ih_5 x3 i4 (by omega) (by omega) ls hl
  exact L5 ((1201 - fr.toInt) + 1).toNat (0 : Int32) fr (by omega) (by omega) ls hl

set_option maxHeartbeats 4000000 in
set_option maxRecDepth 100000 in
theorem kX6_densest (l : Launch) (g : gG) (a_e : Nat → Nat) (I_e : Nat → Nat → Int32) (side : Int32) (hE : EI I_e) (h_s : 1 ≤ side.toInt) : PurI l g yX6_densest wsX6_densest 2 [.ref (a_e 0), .int side] (wX6 g a_e I_e) (fun r => True) := by
  refine PurI.st (cc := cX6_densest) (maxL := 5) (by decide) rfl (Nat.le_of_ble_eq_true rfl) (fun p e s m args below meth c Q ls fx hK hP hl hret => ?_)
  have hx := fx.1
  have hb := fx.2.1
  have hml := fx.2.2.1
  have hown := fx.2.2.2.1
  have hts := fx.2.2.2.2
  have hl : lv_has ls 5 [(0, .ref (a_e 0)), (1, .int side)] := hl
  have hP : va_P g.1 vwCl (wX6 g a_e I_e) s.heap := hP
  have hf_9 := hts _ (uT _ _ u_108)
  have hf_21 := hts _ (uT _ _ u_111)
  have hi_X6 : ∀ w ∈ wsX60, w.before args s = true := fun w h => hts w (uT _ w (u_wsX60 w h))
  have lm1 : (-1 : Int32).toInt = -1 := by decide
  have lm0 : (0 : Int32).toInt = 0 := by decide
  have lm2 : (1 : Int32).toInt = 1 := by decide
  have hE0 := hE.1
  have hE1 := hE.2
  refine lv_iload_n hx hb dX6_densest_0 rfl (lv_at hl 1 rfl) ?_
  refine lv_aload_n hx hb dX6_densest_1 rfl (lv_at hl 0 rfl) ?_
  refine va_get (D := g.1) (ci := 6) (v := .int (I_e 0 3)) (C := RX6) (T := TX6) (N := 10) hx hb hi_X6 (fun _ h => h) hown hK.1 hP 0 rfl rfl 3 (by decide) hf_21 (fun _ h9 => h9) rfl dX6_densest_2 ?_
  refine q_icmp_le (tgt := 10) hx hb dX6_densest_5 (by decide) rfl rfl (fun k_5 => ?_) (fun k_5 => ?_)
  · refine lv_aload_n hx hb dX6_densest_10 rfl (lv_at hl 0 rfl) ?_
    refine lv_iconst (v := 0) hx hb dX6_densest_11 (by decide) ?_
    refine lv_iload_n hx hb dX6_densest_12 rfl (lv_at hl 1 rfl) ?_
    refine PurI.cv (As := [.int (0 : Int32), .int side]) (kX6_dotsOf l g a_e I_e (0 : Int32) side (by omega)) fx (gUV (uT _) u_1125 u_995 u_996 u_40 u_997) rfl hdX6_dotsOf ⟨Nat.le_of_ble_eq_true rfl, Nat.le_of_ble_eq_true rfl⟩ hK hP [0, 1, 2, 3] rfl rfl rfl rfl rfl hl.1 (Nat.le_of_ble_eq_true rfl) dX6_densest_13 (fun r1 p_r1 => ?_)
    refine lv_istore_n (lv' := [(2, .int r1), (0, .ref (a_e 0)), (1, .int side)]) hx hb dX6_densest_16 rfl hl (by decide) rfl (fun ls hl => ?_)
    refine lv_iload_n hx hb dX6_densest_17 rfl (lv_at hl 0 rfl) ?_
    refine lv_istore_n (lv' := [(3, .int r1), (2, .int r1), (0, .ref (a_e 0)), (1, .int side)]) hx hb dX6_densest_18 rfl hl (by decide) rfl (fun ls hl => ?_)
    refine lv_iload_n hx hb dX6_densest_19 rfl (lv_at hl 3 rfl) ?_
    refine lv_istore (lv' := [(4, .int side), (3, .int r1), (2, .int r1), (0, .ref (a_e 0)), (1, .int side)]) hx hb dX6_densest_20 hl (by decide) rfl (fun ls hl => ?_)
    have L22 : ∀ (nn : Nat) (v2_22 : Int32) (v3_22 : Int32) (v4_22 : Int32), (hv_22 : side.toInt ≤ v4_22.toInt ∧ v4_22.toInt ≤ 1200) → ((1201 - v4_22.toInt) < (nn : Int)) → ∀ ls : Array Slot, lv_has ls 5 [(4, .int v4_22), (3, .int v3_22), (2, .int v2_22), (0, .ref (a_e 0)), (1, .int side)] → W p l e (rm 2) s m args below meth c s.heap [] 0 0 Q (F0 m 22 ls []) := by
      intro n_22
      induction n_22 with
      | zero =>
        intro v2_22 v3_22 v4_22 hv_22 hms_22 ls hl
        exfalso; omega
      | succ n_22 ih_22 =>
        intro v2_22 v3_22 v4_22 hv_22 hms_22 ls hl
        refine lv_iload hx hb dX6_densest_22 (lv_at hl 0 rfl) ?_
        refine lv_aload_n hx hb dX6_densest_24 rfl (lv_at hl 3 rfl) ?_
        refine va_get (D := g.1) (ci := 6) (v := .int (I_e 0 3)) (C := RX6) (T := TX6) (N := 10) hx hb hi_X6 (fun _ h => h) hown hK.1 hP 0 rfl rfl 3 (by decide) hf_21 (fun _ h9 => h9) rfl dX6_densest_25 ?_
        refine q_icmp_ge (tgt := 69) hx hb dX6_densest_28 (by decide) rfl rfl (fun k_28 => ?_) (fun k_28 => ?_)
        · refine lv_iload_n hx hb dX6_densest_69 rfl (lv_at hl 1 rfl) ?_
          exact hret 70 ls v3_22 dX6_densest_70 trivial
        · refine lv_iload_n hx hb dX6_densest_31 rfl (lv_at hl 2 rfl) ?_
          refine lv_aload_n hx hb dX6_densest_32 rfl (lv_at hl 3 rfl) ?_
          refine va_get (D := g.1) (ci := 6) (v := .ref (a_e 1)) (C := RX6) (T := TX6) (N := 10) hx hb hi_X6 (fun _ h => h) hown hK.1 hP 0 rfl rfl 0 (by decide) hf_9 (fun _ h9 => h9) rfl dX6_densest_33 ?_
          refine lv_iload hx hb dX6_densest_36 (lv_at hl 0 rfl) ?_
          have n_38 : vp_in v4_22 1200 := (t_in (by omega))
          refine va_iald hx hb hK.1 hP 1 0 rfl rfl n_38 dX6_densest_38 ?_
          refine q_nm (fun x2 e_x2 => ?_)
          have e_x2 : x2 = (I_e 1) v4_22.toNatClampNeg := e_x2
          have g_x2 : x2.toInt = ((I_e 1) v4_22.toNatClampNeg).toInt := congrArg _ e_x2
          refine PurI.cs (C := RJ6) (As := [.int x2]) (kJ6_bitCount_0f7a4 l g x2) fx (gUS (uT _) u_998 u_999 u_1000 u_1001) rfl hdJ6_bitCount_0f7a4 ⟨Nat.le_of_ble_eq_true rfl, Nat.le_of_ble_eq_true rfl⟩ hK hP [] rfl rfl rfl hl.1 (Nat.le_of_ble_eq_true rfl) dX6_densest_39 (fun r3 p_r3 => ?_)
          refine lv_aload_n hx hb dX6_densest_42 rfl (lv_at hl 3 rfl) ?_
          refine va_get (D := g.1) (ci := 6) (v := .ref (a_e 1)) (C := RX6) (T := TX6) (N := 10) hx hb hi_X6 (fun _ h => h) hown hK.1 hP 0 rfl rfl 0 (by decide) hf_9 (fun _ h9 => h9) rfl dX6_densest_43 ?_
          refine lv_iload hx hb dX6_densest_46 (lv_at hl 0 rfl) ?_
          refine lv_iload_n hx hb dX6_densest_48 rfl (lv_at hl 4 rfl) ?_
          refine r_isub hx hb dX6_densest_49 rfl rfl (fun x4 e_x4 t_x4 => ?_)
          try have t_x4 := t_x4 (by omega)
          have n_50 : vp_in x4 1200 := (t_in (by omega))
          refine va_iald hx hb hK.1 hP 1 0 rfl rfl n_50 dX6_densest_50 ?_
          refine q_nm (fun x5 e_x5 => ?_)
          have e_x5 : x5 = (I_e 1) x4.toNatClampNeg := e_x5
          have g_x5 : x5.toInt = ((I_e 1) x4.toNatClampNeg).toInt := congrArg _ e_x5
          refine PurI.cs (C := RJ6) (As := [.int x5]) (kJ6_bitCount_0f7a4 l g x5) fx (gUS (uT _) u_998 u_999 u_1000 u_1001) rfl hdJ6_bitCount_0f7a4 ⟨Nat.le_of_ble_eq_true rfl, Nat.le_of_ble_eq_true rfl⟩ hK hP [] rfl rfl rfl hl.1 (Nat.le_of_ble_eq_true rfl) dX6_densest_51 (fun r6 p_r6 => ?_)
          refine r_isub hx hb dX6_densest_54 rfl rfl (fun x7 e_x7 t_x7 => ?_)
          try have t_x7 := t_x7 (by omega)
          refine r_iadd hx hb dX6_densest_55 rfl rfl (fun x8 e_x8 t_x8 => ?_)
          try have t_x8 := t_x8 (by omega)
          refine lv_istore_n (lv' := [(2, .int x8), (4, .int v4_22), (3, .int v3_22), (0, .ref (a_e 0)), (1, .int side)]) hx hb dX6_densest_56 rfl hl (by decide) rfl (fun ls hl => ?_)
          refine lv_iload_n hx hb dX6_densest_57 rfl (lv_at hl 2 rfl) ?_
          refine lv_iload_n hx hb dX6_densest_58 rfl (lv_at hl 0 rfl) ?_
          refine va_mmax hx hb (hml.trans hl.1.symm) hown (hts _ (uT _ _ u_1124)) (hts _ (uT _ _ u_688)) (hts _ (uT _ _ u_524)) (hts _ (uT _ _ u_689)) (Nat.le_of_ble_eq_true rfl) (Nat.le_of_ble_eq_true rfl) (Nat.zero_le _) (Nat.zero_le _) dX6_densest_59 ?_
          refine q_nm (fun x9 e_x9 => ?_)
          have t_x9 := t_max e_x9 rfl rfl
          refine lv_istore_n (lv' := [(3, .int x9), (2, .int x8), (4, .int v4_22), (0, .ref (a_e 0)), (1, .int side)]) hx hb dX6_densest_62 rfl hl (by decide) rfl (fun ls hl => ?_)
          refine r_iinc (lv' := fun i10 => [(4, .int i10), (3, .int x9), (2, .int x8), (0, .ref (a_e 0)), (1, .int side)]) hx hb dX6_densest_63 hl (k := 2) rfl (by decide) rfl (by decide) (fun _ => rfl) (fun i10 e_i10 t_i10 ls hl => ?_)
          try have t_i10 := t_i10 (by omega)
          refine lv_goto (tgt := 22) hx hb dX6_densest_66 (by decide) ?_
          exact ih_22 x8 x9 i10 (by omega) (by omega) ls hl
    exact L22 ((1201 - side.toInt) + 1).toNat r1 r1 side (by omega) (by omega) ls hl
  · refine lv_iconst (v := -1) hx hb dX6_densest_8 (by decide) ?_
    exact hret 9 ls (-1 : Int32) dX6_densest_9 trivial

set_option maxHeartbeats 4000000 in
set_option maxRecDepth 100000 in
theorem kX6_timesOf (l : Launch) (g : gG) (a_e : Nat → Nat) (I_e : Nat → Nat → Int32) (cell : Int32) (hE : EI I_e) : PurI l g yX6_timesOf wsX6_timesOf 0 [.ref (a_e 0), .int cell] (wX6 g a_e I_e) (fun r => True) := by
  refine PurI.st (cc := cX6_timesOf) (maxL := 4) (by decide) rfl (Nat.le_of_ble_eq_true rfl) (fun p e s m args below meth c Q ls fx hK hP hl hret => ?_)
  have hx := fx.1
  have hb := fx.2.1
  have hml := fx.2.2.1
  have hown := fx.2.2.2.1
  have hts := fx.2.2.2.2
  have hl : lv_has ls 4 [(0, .ref (a_e 0)), (1, .int cell)] := hl
  have hP : va_P g.1 vwCl (wX6 g a_e I_e) s.heap := hP
  have hf_9 := hts _ (uT _ _ u_108)
  have hf_21 := hts _ (uT _ _ u_111)
  have hi_X6 : ∀ w ∈ wsX60, w.before args s = true := fun w h => hts w (uT _ w (u_wsX60 w h))
  have lm1 : (-1 : Int32).toInt = -1 := by decide
  have lm0 : (0 : Int32).toInt = 0 := by decide
  have lm2 : (1 : Int32).toInt = 1 := by decide
  have hE0 := hE.1
  have hE1 := hE.2
  refine lv_iconst (v := 0) hx hb dX6_timesOf_0 (by decide) ?_
  refine lv_istore_n (lv' := [(2, .int (0 : Int32)), (0, .ref (a_e 0)), (1, .int cell)]) hx hb dX6_timesOf_1 rfl hl (by decide) rfl (fun ls hl => ?_)
  refine lv_iconst (v := 0) hx hb dX6_timesOf_2 (by decide) ?_
  refine lv_istore_n (lv' := [(3, .int (0 : Int32)), (2, .int (0 : Int32)), (0, .ref (a_e 0)), (1, .int cell)]) hx hb dX6_timesOf_3 rfl hl (by decide) rfl (fun ls hl => ?_)
  have L4 : ∀ (nn : Nat) (v2_4 : Int32) (v3_4 : Int32), (hv_4 : 0 ≤ v3_4.toInt ∧ v3_4.toInt ≤ 1200) → ((1201 - v3_4.toInt) < (nn : Int)) → ∀ ls : Array Slot, lv_has ls 4 [(3, .int v3_4), (2, .int v2_4), (0, .ref (a_e 0)), (1, .int cell)] → W p l e (rm 0) s m args below meth c s.heap [] 0 0 Q (F0 m 4 ls []) := by
    intro n_4
    induction n_4 with
    | zero =>
      intro v2_4 v3_4 hv_4 hms_4 ls hl
      exfalso; omega
    | succ n_4 ih_4 =>
      intro v2_4 v3_4 hv_4 hms_4 ls hl
      refine lv_iload_n hx hb dX6_timesOf_4 rfl (lv_at hl 0 rfl) ?_
      refine lv_aload_n hx hb dX6_timesOf_5 rfl (lv_at hl 2 rfl) ?_
      refine va_get (D := g.1) (ci := 6) (v := .int (I_e 0 3)) (C := RX6) (T := TX6) (N := 10) hx hb hi_X6 (fun _ h => h) hown hK.1 hP 0 rfl rfl 3 (by decide) hf_21 (fun _ h9 => h9) rfl dX6_timesOf_6 ?_
      refine q_icmp_ge (tgt := 31) hx hb dX6_timesOf_9 (by decide) rfl rfl (fun k_9 => ?_) (fun k_9 => ?_)
      · refine lv_iload_n hx hb dX6_timesOf_31 rfl (lv_at hl 1 rfl) ?_
        exact hret 32 ls v2_4 dX6_timesOf_32 trivial
      · refine lv_aload_n hx hb dX6_timesOf_12 rfl (lv_at hl 2 rfl) ?_
        refine va_get (D := g.1) (ci := 6) (v := .ref (a_e 1)) (C := RX6) (T := TX6) (N := 10) hx hb hi_X6 (fun _ h => h) hown hK.1 hP 0 rfl rfl 0 (by decide) hf_9 (fun _ h9 => h9) rfl dX6_timesOf_13 ?_
        refine lv_iload_n hx hb dX6_timesOf_16 rfl (lv_at hl 0 rfl) ?_
        have n_17 : vp_in v3_4 1200 := (t_in (by omega))
        refine va_iald hx hb hK.1 hP 1 0 rfl rfl n_17 dX6_timesOf_17 ?_
        refine q_nm (fun x1 e_x1 => ?_)
        have e_x1 : x1 = (I_e 1) v3_4.toNatClampNeg := e_x1
        have g_x1 : x1.toInt = ((I_e 1) v3_4.toNatClampNeg).toInt := congrArg _ e_x1
        refine lv_iload_n hx hb dX6_timesOf_18 rfl (lv_at hl 3 rfl) ?_
        refine q_icmp_ne (tgt := 25) hx hb dX6_timesOf_19 (by decide) rfl rfl (fun k_19 => ?_) (fun k_19 => ?_)
        · refine r_iinc (lv' := fun i2 => [(3, .int i2), (2, .int v2_4), (0, .ref (a_e 0)), (1, .int cell)]) hx hb dX6_timesOf_25 hl (k := 0) rfl (by decide) rfl (by decide) (fun _ => rfl) (fun i2 e_i2 t_i2 ls hl => ?_)
          try have t_i2 := t_i2 (by omega)
          refine lv_goto (tgt := 4) hx hb dX6_timesOf_28 (by decide) ?_
          exact ih_4 v2_4 i2 (by omega) (by omega) ls hl
        · refine r_iinc (lv' := fun i3 => [(2, .int i3), (3, .int v3_4), (0, .ref (a_e 0)), (1, .int cell)]) hx hb dX6_timesOf_22 hl (k := 1) rfl (by decide) rfl (by decide) (fun _ => rfl) (fun i3 e_i3 t_i3 ls hl => ?_)
          try have t_i3 := t_i3 (by omega)
          refine r_iinc (lv' := fun i4 => [(3, .int i4), (2, .int i3), (0, .ref (a_e 0)), (1, .int cell)]) hx hb dX6_timesOf_25 hl (k := 1) rfl (by decide) rfl (by decide) (fun _ => rfl) (fun i4 e_i4 t_i4 ls hl => ?_)
          try have t_i4 := t_i4 (by omega)
          refine lv_goto (tgt := 4) hx hb dX6_timesOf_28 (by decide) ?_
          exact ih_4 i3 i4 (by omega) (by omega) ls hl
  exact L4 ((1201 - (0 : Int32).toInt) + 1).toNat (0 : Int32) (0 : Int32) (by omega) (by omega) ls hl

set_option maxHeartbeats 4000000 in
set_option maxRecDepth 100000 in
theorem kX7_putLetter (l : Launch) (g : gG) (a_t : Nat → Nat) (I_t : Nat → Nat → Int32) (rule : Int32) (k : Int32) (v : Int32) (h_rule : 0 ≤ rule.toInt ∧ rule.toInt < 24) (h_k : 0 ≤ k.toInt ∧ k.toInt < 6) (h_v : 0 ≤ v.toInt ∧ v.toInt ≤ 31) (hT : TI I_t) : EffV l g yX7_putLetter wsX7_putLetter 0 [.ref (a_t 0), .int rule, .int k, .int v] (wX7 g a_t I_t) (fun (u : (Nat → Nat → Int32)) => wX7 g a_t u) (fun (u : (Nat → Nat → Int32)) => TI (u) ∧ (u) 0 = I_t 0 ∧ (u) = uR I_t 5 (upd (I_t 5) (rule.toInt * 6 + k.toInt).toNat v)) := by
  refine EffV.st (cc := cX7_putLetter) (maxL := 4) (by decide) rfl (Nat.le_of_ble_eq_true rfl) (fun p e s m args below meth c A Q ls fx hK hP hD hA hS hl hret => ?_)
  have hx := fx.1
  have hb := fx.2.1
  have hml := fx.2.2.1
  have hown := fx.2.2.2.1
  have hts := fx.2.2.2.2
  have hl : lv_has ls 4 [(0, .ref (a_t 0)), (1, .int rule), (2, .int k), (3, .int v)] := hl
  have hP : va_P g.1 vwCl (wX7 g a_t I_t) s.heap := hP
  have hf_31 := hts _ (uT _ _ u_96)
  have hi_X7 : ∀ w ∈ wsX70, w.before args s = true := fun w h => hts w (uT _ w (u_wsX70 w h))
  have lm1 : (-1 : Int32).toInt = -1 := by decide
  have lm0 : (0 : Int32).toInt = 0 := by decide
  have lm2 : (1 : Int32).toInt = 1 := by decide
  refine lv_aload_n hx hb dX7_putLetter_0 rfl (lv_at hl 0 rfl) ?_
  refine va_get (D := g.1) (ci := 7) (v := .ref (a_t 5)) (C := RX7) (T := TX7) (N := 8) hx hb hi_X7 (fun _ h => h) hown hK.1 hP 0 rfl rfl 6 (by decide) hf_31 (fun _ h9 => h9) rfl dX7_putLetter_1 ?_
  refine lv_iload_n hx hb dX7_putLetter_4 rfl (lv_at hl 1 rfl) ?_
  refine lv_bipush (v := 6) hx hb dX7_putLetter_5 (by decide) ?_
  refine r_imul hx hb dX7_putLetter_7 rfl (by decide : (6 : Int32).toInt = 6) (fun x1 e_x1 t_x1 => ?_)
  try have t_x1 := t_x1 (by omega)
  refine lv_iload_n hx hb dX7_putLetter_8 rfl (lv_at hl 2 rfl) ?_
  refine r_iadd hx hb dX7_putLetter_9 rfl rfl (fun x2 e_x2 t_x2 => ?_)
  try have t_x2 := t_x2 (by omega)
  refine lv_iload_n hx hb dX7_putLetter_10 rfl (lv_at hl 3 rfl) ?_
  have n_11 : vp_in x2 144 := (t_in (by omega))
  obtain ⟨f3, e_f3⟩ : ∃ z, z = upd (I_t 5) x2.toNatClampNeg v := ⟨_, rfl⟩
  refine va_iast hx hb hK.1 hP hD hS 5 0 rfl rfl n_11 dX7_putLetter_11 (fun H locs hP hD hS => ?_)
  have hP : va_P g.1 vwCl (wX7 g a_t (uR I_t 5 f3)) H := by rw [e_f3]; exact hP
  have hD : va_D A (wX7 g a_t (uR I_t 5 f3)) := by rw [e_f3]; exact hD
  refine hret 12 ls _ _ (uR I_t 5 f3) dX7_putLetter_12 hS hP hD ?_
  exact ⟨by obtain ⟨a, b, c1, d, e1, f, g1, h, i⟩ := hT; refine ⟨a, b, c1, d, e1, f, g1, ?_, i⟩; show ∀ j, _; simp only [uR]; rw [e_f3]; exact upd_all (P := fun z => 0 ≤ z.toInt ∧ z.toInt ≤ 31) h h_v, rfl, by rw [e_f3, show x2.toNatClampNeg = (rule.toInt * 6 + k.toInt).toNat from by show x2.toInt.toNat = _; rw [t_x2, t_x1]]⟩

set_option maxHeartbeats 4000000 in
set_option maxRecDepth 100000 in
theorem kX7_putCell (l : Launch) (g : gG) (a_t : Nat → Nat) (I_t : Nat → Nat → Int32) (rule : Int32) (k : Int32) (v : Int32) (h_rule : 0 ≤ rule.toInt ∧ rule.toInt < 24) (h_k : 0 ≤ k.toInt ∧ k.toInt < 3) (h_v : 0 ≤ v.toInt ∧ v.toInt ≤ 63) (hT : TI I_t) : EffV l g yX7_putCell wsX7_putCell 0 [.ref (a_t 0), .int rule, .int k, .int v] (wX7 g a_t I_t) (fun (u : (Nat → Nat → Int32)) => wX7 g a_t u) (fun (u : (Nat → Nat → Int32)) => TI (u) ∧ (u) 0 = I_t 0 ∧ (u) 3 = I_t 3 ∧ (u) = uR I_t 6 (upd (I_t 6) (rule.toInt * 3 + k.toInt).toNat v)) := by
  refine EffV.st (cc := cX7_putCell) (maxL := 4) (by decide) rfl (Nat.le_of_ble_eq_true rfl) (fun p e s m args below meth c A Q ls fx hK hP hD hA hS hl hret => ?_)
  have hx := fx.1
  have hb := fx.2.1
  have hml := fx.2.2.1
  have hown := fx.2.2.2.1
  have hts := fx.2.2.2.2
  have hl : lv_has ls 4 [(0, .ref (a_t 0)), (1, .int rule), (2, .int k), (3, .int v)] := hl
  have hP : va_P g.1 vwCl (wX7 g a_t I_t) s.heap := hP
  have hf_34 := hts _ (uT _ _ u_97)
  have hi_X7 : ∀ w ∈ wsX70, w.before args s = true := fun w h => hts w (uT _ w (u_wsX70 w h))
  have lm1 : (-1 : Int32).toInt = -1 := by decide
  have lm0 : (0 : Int32).toInt = 0 := by decide
  have lm2 : (1 : Int32).toInt = 1 := by decide
  refine lv_aload_n hx hb dX7_putCell_0 rfl (lv_at hl 0 rfl) ?_
  refine va_get (D := g.1) (ci := 7) (v := .ref (a_t 6)) (C := RX7) (T := TX7) (N := 8) hx hb hi_X7 (fun _ h => h) hown hK.1 hP 0 rfl rfl 7 (by decide) hf_34 (fun _ h9 => h9) rfl dX7_putCell_1 ?_
  refine lv_iload_n hx hb dX7_putCell_4 rfl (lv_at hl 1 rfl) ?_
  refine lv_iconst (v := 3) hx hb dX7_putCell_5 (by decide) ?_
  refine r_imul hx hb dX7_putCell_6 rfl (by decide : (3 : Int32).toInt = 3) (fun x1 e_x1 t_x1 => ?_)
  try have t_x1 := t_x1 (by omega)
  refine lv_iload_n hx hb dX7_putCell_7 rfl (lv_at hl 2 rfl) ?_
  refine r_iadd hx hb dX7_putCell_8 rfl rfl (fun x2 e_x2 t_x2 => ?_)
  try have t_x2 := t_x2 (by omega)
  refine lv_iload_n hx hb dX7_putCell_9 rfl (lv_at hl 3 rfl) ?_
  have n_10 : vp_in x2 72 := (t_in (by omega))
  obtain ⟨f3, e_f3⟩ : ∃ z, z = upd (I_t 6) x2.toNatClampNeg v := ⟨_, rfl⟩
  refine va_iast hx hb hK.1 hP hD hS 6 0 rfl rfl n_10 dX7_putCell_10 (fun H locs hP hD hS => ?_)
  have hP : va_P g.1 vwCl (wX7 g a_t (uR I_t 6 f3)) H := by rw [e_f3]; exact hP
  have hD : va_D A (wX7 g a_t (uR I_t 6 f3)) := by rw [e_f3]; exact hD
  refine hret 11 ls _ _ (uR I_t 6 f3) dX7_putCell_11 hS hP hD ?_
  exact ⟨by obtain ⟨a, b, c1, d, e1, f, g1, h, i⟩ := hT; refine ⟨a, b, c1, d, e1, f, g1, h, ?_⟩; show ∀ j, _; simp only [uR]; rw [e_f3]; exact upd_all (P := fun z => 0 ≤ z.toInt ∧ z.toInt ≤ 63) i h_v, rfl, rfl, by rw [e_f3, show x2.toNatClampNeg = (rule.toInt * 3 + k.toInt).toNat from by show x2.toInt.toNat = _; rw [t_x2, t_x1]]⟩

set_option maxHeartbeats 4000000 in
set_option maxRecDepth 100000 in
theorem kX7_empty (l : Launch) (g : gG) (a_t : Nat → Nat) (I_t : Nat → Nat → Int32) (hT : TI I_t) : EffV l g yX7_empty wsX7_empty 0 [.ref (a_t 0)] (wX7 g a_t I_t) (fun (u : (Nat → Nat → Int32)) => wX7 g a_t u) (fun (u : (Nat → Nat → Int32)) => TI (u) ∧ ((u) 0 0).toInt = 0 ∧ fxTc (u) = fxT0 ∧ ((u) 0 1).toInt = 0) := by
  refine EffV.st (cc := cX7_empty) (maxL := 1) (by decide) rfl (Nat.le_of_ble_eq_true rfl) (fun p e s m args below meth c A Q ls fx hK hP hD hA hS hl hret => ?_)
  have hx := fx.1
  have hb := fx.2.1
  have hml := fx.2.2.1
  have hown := fx.2.2.2.1
  have hts := fx.2.2.2.2
  have hl : lv_has ls 1 [(0, .ref (a_t 0))] := hl
  have hP : va_P g.1 vwCl (wX7 g a_t I_t) s.heap := hP
  have hf_9 := hts _ (uT _ _ u_90)
  have hf_15 := hts _ (uT _ _ u_91)
  have hf_18 := hts _ (uT _ _ u_92)
  have hi_X7 : ∀ w ∈ wsX70, w.before args s = true := fun w h => hts w (uT _ w (u_wsX70 w h))
  have lm1 : (-1 : Int32).toInt = -1 := by decide
  have lm0 : (0 : Int32).toInt = 0 := by decide
  have lm2 : (1 : Int32).toInt = 1 := by decide
  refine lv_aload_n hx hb dX7_empty_0 rfl (lv_at hl 0 rfl) ?_
  refine lv_iconst (v := 0) hx hb dX7_empty_1 (by decide) ?_
  refine va_put (D := g.1) (ci := 7) (v := .int (0 : Int32)) (ty := .int) (C := RX7) (T := TX7) (N := 8) hx hb hi_X7 (fun _ h => h) tyX7 tyX7_ok nmX7 hown hK.1 hP hD hS 0 rfl rfl 0 (by decide) hf_9 (fun _ h9 => h9) rfl (by decide +kernel) rfl rfl (Nat.le_of_ble_eq_true rfl) dX7_empty_2 (fun H locs hP hD hS => ?_)
  have hP : va_P g.1 vwCl (wX7 g a_t (uF I_t 0 0 (0 : Int32))) H := hP
  have hD : va_D A (wX7 g a_t (uF I_t 0 0 (0 : Int32))) := hD
  refine lv_aload_n hx hb dX7_empty_5 rfl (lv_at hl 0 rfl) ?_
  refine lv_iconst (v := 0) hx hb dX7_empty_6 (by decide) ?_
  refine va_put (D := g.1) (ci := 7) (v := .int (0 : Int32)) (ty := .int) (C := RX7) (T := TX7) (N := 8) hx hb hi_X7 (fun _ h => h) tyX7 tyX7_ok nmX7 hown hK.1 hP hD hS 0 rfl rfl 1 (by decide) hf_15 (fun _ h9 => h9) rfl (by decide +kernel) rfl rfl (Nat.le_of_ble_eq_true rfl) dX7_empty_7 (fun H locs hP hD hS => ?_)
  have hP : va_P g.1 vwCl (wX7 g a_t (uF (uF I_t 0 0 (0 : Int32)) 0 1 (0 : Int32))) H := hP
  have hD : va_D A (wX7 g a_t (uF (uF I_t 0 0 (0 : Int32)) 0 1 (0 : Int32))) := hD
  refine lv_aload_n hx hb dX7_empty_10 rfl (lv_at hl 0 rfl) ?_
  refine va_get (D := g.1) (ci := 7) (v := .ref (a_t 1)) (C := RX7) (T := TX7) (N := 8) hx hb hi_X7 (fun _ h => h) hown hK.1 hP 0 rfl rfl 2 (by decide) hf_18 (fun _ h9 => h9) rfl dX7_empty_11 ?_
  refine lv_iconst (v := 0) hx hb dX7_empty_14 (by decide) ?_
  refine lv_iconst (v := 0) hx hb dX7_empty_15 (by decide) ?_
  have n_16 : vp_in (0 : Int32) 5 := (t_in (by decide))
  obtain ⟨f1, e_f1⟩ : ∃ z, z = upd (I_t 1) (0 : Int32).toNatClampNeg (0 : Int32) := ⟨_, rfl⟩
  refine va_iast hx hb hK.1 hP hD hS 1 0 rfl rfl n_16 dX7_empty_16 (fun H locs hP hD hS => ?_)
  have hP : va_P g.1 vwCl (wX7 g a_t (uR (uF (uF I_t 0 0 (0 : Int32)) 0 1 (0 : Int32)) 1 f1)) H := by rw [e_f1]; exact hP
  have hD : va_D A (wX7 g a_t (uR (uF (uF I_t 0 0 (0 : Int32)) 0 1 (0 : Int32)) 1 f1)) := by rw [e_f1]; exact hD
  refine lv_aload_n hx hb dX7_empty_17 rfl (lv_at hl 0 rfl) ?_
  refine va_get (D := g.1) (ci := 7) (v := .ref (a_t 1)) (C := RX7) (T := TX7) (N := 8) hx hb hi_X7 (fun _ h => h) hown hK.1 hP 0 rfl rfl 2 (by decide) hf_18 (fun _ h9 => h9) rfl dX7_empty_18 ?_
  refine lv_iconst (v := 1) hx hb dX7_empty_21 (by decide) ?_
  refine lv_iconst (v := 0) hx hb dX7_empty_22 (by decide) ?_
  have n_23 : vp_in (1 : Int32) 5 := (t_in (by decide))
  obtain ⟨f2, e_f2⟩ : ∃ z, z = upd f1 (1 : Int32).toNatClampNeg (0 : Int32) := ⟨_, rfl⟩
  refine va_iast hx hb hK.1 hP hD hS 1 0 rfl rfl n_23 dX7_empty_23 (fun H locs hP hD hS => ?_)
  have hP : va_P g.1 vwCl (wX7 g a_t (uR (uR (uF (uF I_t 0 0 (0 : Int32)) 0 1 (0 : Int32)) 1 f1) 1 f2)) H := by rw [e_f2]; exact hP
  have hD : va_D A (wX7 g a_t (uR (uR (uF (uF I_t 0 0 (0 : Int32)) 0 1 (0 : Int32)) 1 f1) 1 f2)) := by rw [e_f2]; exact hD
  refine lv_aload_n hx hb dX7_empty_24 rfl (lv_at hl 0 rfl) ?_
  refine va_get (D := g.1) (ci := 7) (v := .ref (a_t 1)) (C := RX7) (T := TX7) (N := 8) hx hb hi_X7 (fun _ h => h) hown hK.1 hP 0 rfl rfl 2 (by decide) hf_18 (fun _ h9 => h9) rfl dX7_empty_25 ?_
  refine lv_iconst (v := 2) hx hb dX7_empty_28 (by decide) ?_
  refine lv_iconst (v := 0) hx hb dX7_empty_29 (by decide) ?_
  have n_30 : vp_in (2 : Int32) 5 := (t_in (by decide))
  obtain ⟨f3, e_f3⟩ : ∃ z, z = upd f2 (2 : Int32).toNatClampNeg (0 : Int32) := ⟨_, rfl⟩
  refine va_iast hx hb hK.1 hP hD hS 1 0 rfl rfl n_30 dX7_empty_30 (fun H locs hP hD hS => ?_)
  have hP : va_P g.1 vwCl (wX7 g a_t (uR (uR (uR (uF (uF I_t 0 0 (0 : Int32)) 0 1 (0 : Int32)) 1 f1) 1 f2) 1 f3)) H := by rw [e_f3]; exact hP
  have hD : va_D A (wX7 g a_t (uR (uR (uR (uF (uF I_t 0 0 (0 : Int32)) 0 1 (0 : Int32)) 1 f1) 1 f2) 1 f3)) := by rw [e_f3]; exact hD
  refine lv_aload_n hx hb dX7_empty_31 rfl (lv_at hl 0 rfl) ?_
  refine va_get (D := g.1) (ci := 7) (v := .ref (a_t 1)) (C := RX7) (T := TX7) (N := 8) hx hb hi_X7 (fun _ h => h) hown hK.1 hP 0 rfl rfl 2 (by decide) hf_18 (fun _ h9 => h9) rfl dX7_empty_32 ?_
  refine lv_iconst (v := 3) hx hb dX7_empty_35 (by decide) ?_
  refine lv_bipush (v := 32) hx hb dX7_empty_36 (by decide) ?_
  have n_38 : vp_in (3 : Int32) 5 := (t_in (by decide))
  obtain ⟨f4, e_f4⟩ : ∃ z, z = upd f3 (3 : Int32).toNatClampNeg (32 : Int32) := ⟨_, rfl⟩
  refine va_iast hx hb hK.1 hP hD hS 1 0 rfl rfl n_38 dX7_empty_38 (fun H locs hP hD hS => ?_)
  have hP : va_P g.1 vwCl (wX7 g a_t (uR (uR (uR (uR (uF (uF I_t 0 0 (0 : Int32)) 0 1 (0 : Int32)) 1 f1) 1 f2) 1 f3) 1 f4)) H := by rw [e_f4]; exact hP
  have hD : va_D A (wX7 g a_t (uR (uR (uR (uR (uF (uF I_t 0 0 (0 : Int32)) 0 1 (0 : Int32)) 1 f1) 1 f2) 1 f3) 1 f4)) := by rw [e_f4]; exact hD
  refine lv_aload_n hx hb dX7_empty_39 rfl (lv_at hl 0 rfl) ?_
  refine va_get (D := g.1) (ci := 7) (v := .ref (a_t 1)) (C := RX7) (T := TX7) (N := 8) hx hb hi_X7 (fun _ h => h) hown hK.1 hP 0 rfl rfl 2 (by decide) hf_18 (fun _ h9 => h9) rfl dX7_empty_40 ?_
  refine lv_iconst (v := 4) hx hb dX7_empty_43 (by decide) ?_
  refine lv_bipush (v := 25) hx hb dX7_empty_44 (by decide) ?_
  have n_46 : vp_in (4 : Int32) 5 := (t_in (by decide))
  obtain ⟨f5, e_f5⟩ : ∃ z, z = upd f4 (4 : Int32).toNatClampNeg (25 : Int32) := ⟨_, rfl⟩
  refine va_iast hx hb hK.1 hP hD hS 1 0 rfl rfl n_46 dX7_empty_46 (fun H locs hP hD hS => ?_)
  have hP : va_P g.1 vwCl (wX7 g a_t (uR (uR (uR (uR (uR (uF (uF I_t 0 0 (0 : Int32)) 0 1 (0 : Int32)) 1 f1) 1 f2) 1 f3) 1 f4) 1 f5)) H := by rw [e_f5]; exact hP
  have hD : va_D A (wX7 g a_t (uR (uR (uR (uR (uR (uF (uF I_t 0 0 (0 : Int32)) 0 1 (0 : Int32)) 1 f1) 1 f2) 1 f3) 1 f4) 1 f5)) := by rw [e_f5]; exact hD
  refine hret 47 ls _ _ (uR (uR (uR (uR (uR (uF (uF I_t 0 0 (0 : Int32)) 0 1 (0 : Int32)) 1 f1) 1 f2) 1 f3) 1 f4) 1 f5) dX7_empty_47 hS hP hD ?_
  exact ⟨empty_TI hT rfl (by show ∀ j, _; simp only [uR]; rw [e_f5, e_f4, e_f3, e_f2, e_f1]; exact upd_all (P := fun z => 0 ≤ z.toInt ∧ z.toInt ≤ 63) (upd_all (P := fun z => 0 ≤ z.toInt ∧ z.toInt ≤ 63) (upd_all (P := fun z => 0 ≤ z.toInt ∧ z.toInt ≤ 63) (upd_all (P := fun z => 0 ≤ z.toInt ∧ z.toInt ≤ 63) (upd_all (P := fun z => 0 ≤ z.toInt ∧ z.toInt ≤ 63) (TI.sg hT) (by decide)) (by decide)) (by decide)) (by decide)) (by decide)) (by simp [uR, uF, upd, e_f5, e_f4, e_f3, e_f2, e_f1]) (by simp [uR, uF, upd, e_f5, e_f4, e_f3, e_f2, e_f1]) rfl rfl rfl rfl rfl, rfl, fxTc.em rfl (by simp [uR, uF, upd, e_f5, e_f4, e_f3, e_f2, e_f1]) (by simp [uR, uF, upd, e_f5, e_f4, e_f3, e_f2, e_f1]) (by simp [uR, uF, upd, e_f5, e_f4, e_f3, e_f2, e_f1]) (by simp [uR, uF, upd, e_f5, e_f4, e_f3, e_f2, e_f1]) (by simp [uR, uF, upd, e_f5, e_f4, e_f3, e_f2, e_f1]), rfl⟩

set_option maxHeartbeats 4000000 in
set_option maxRecDepth 100000 in
theorem kX7_copyOf (l : Launch) (g : gG) (a_t : Nat → Nat) (I_t : Nat → Nat → Int32) (a_v : Nat → Nat) (I_v : Nat → Nat → Int32) (hV : TI I_v) (hT : TI I_t) : EffV l g yX7_copyOf wsX7_copyOf 1 [.ref (a_t 0), .ref (a_v 0)] (wX7 g a_t I_t ++ wX7 g a_v I_v) (fun (u : (Nat → Nat → Int32)) => wX7 g a_t u ++ wX7 g a_v I_v) (fun (u : (Nat → Nat → Int32)) => TI (u) ∧ (u) 0 0 = I_v 0 0 ∧ fxTc (u) = fxTc I_v ∧ (u) 0 1 = I_v 0 1) := by
  refine EffV.st (cc := cX7_copyOf) (maxL := 2) (by decide) rfl (Nat.le_of_ble_eq_true rfl) (fun p e s m args below meth c A Q ls fx hK hP hD hA hS hl hret => ?_)
  have hx := fx.1
  have hb := fx.2.1
  have hml := fx.2.2.1
  have hown := fx.2.2.2.1
  have hts := fx.2.2.2.2
  have hl : lv_has ls 2 [(0, .ref (a_t 0)), (1, .ref (a_v 0))] := hl
  have hP : va_P g.1 vwCl (wX7 g a_t I_t ++ wX7 g a_v I_v) s.heap := hP
  have hf_9 := hts _ (uT _ _ u_90)
  have hf_15 := hts _ (uT _ _ u_91)
  have hf_18 := hts _ (uT _ _ u_92)
  have hf_22 := hts _ (uT _ _ u_93)
  have hf_25 := hts _ (uT _ _ u_94)
  have hf_28 := hts _ (uT _ _ u_95)
  have hf_31 := hts _ (uT _ _ u_96)
  have hf_34 := hts _ (uT _ _ u_97)
  have hi_X7 : ∀ w ∈ wsX70, w.before args s = true := fun w h => hts w (uT _ w (u_wsX70 w h))
  have lm1 : (-1 : Int32).toInt = -1 := by decide
  have lm0 : (0 : Int32).toInt = 0 := by decide
  have lm2 : (1 : Int32).toInt = 1 := by decide
  refine lv_aload_n hx hb dX7_copyOf_0 rfl (lv_at hl 0 rfl) ?_
  refine lv_aload_n hx hb dX7_copyOf_1 rfl (lv_at hl 1 rfl) ?_
  refine va_get (D := g.1) (ci := 7) (v := .int (I_v 0 0)) (C := RX7) (T := TX7) (N := 8) hx hb hi_X7 (fun _ h => h) hown hK.1 hP 7 rfl rfl 0 (by decide) hf_9 (fun _ h9 => h9) rfl dX7_copyOf_2 ?_
  refine va_put (D := g.1) (ci := 7) (v := .int (I_v 0 0)) (ty := .int) (C := RX7) (T := TX7) (N := 8) hx hb hi_X7 (fun _ h => h) tyX7 tyX7_ok nmX7 hown hK.1 hP hD hS 0 rfl rfl 0 (by decide) hf_9 (fun _ h9 => h9) rfl (by decide +kernel) rfl rfl (Nat.le_of_ble_eq_true rfl) dX7_copyOf_5 (fun H locs hP hD hS => ?_)
  have hP : va_P g.1 vwCl (wX7 g a_t (uF I_t 0 0 (I_v 0 0)) ++ wX7 g a_v I_v) H := hP
  have hD : va_D A (wX7 g a_t (uF I_t 0 0 (I_v 0 0)) ++ wX7 g a_v I_v) := hD
  refine lv_aload_n hx hb dX7_copyOf_8 rfl (lv_at hl 0 rfl) ?_
  refine lv_aload_n hx hb dX7_copyOf_9 rfl (lv_at hl 1 rfl) ?_
  refine va_get (D := g.1) (ci := 7) (v := .int (I_v 0 1)) (C := RX7) (T := TX7) (N := 8) hx hb hi_X7 (fun _ h => h) hown hK.1 hP 7 rfl rfl 1 (by decide) hf_15 (fun _ h9 => h9) rfl dX7_copyOf_10 ?_
  refine va_put (D := g.1) (ci := 7) (v := .int (I_v 0 1)) (ty := .int) (C := RX7) (T := TX7) (N := 8) hx hb hi_X7 (fun _ h => h) tyX7 tyX7_ok nmX7 hown hK.1 hP hD hS 0 rfl rfl 1 (by decide) hf_15 (fun _ h9 => h9) rfl (by decide +kernel) rfl rfl (Nat.le_of_ble_eq_true rfl) dX7_copyOf_13 (fun H locs hP hD hS => ?_)
  have hP : va_P g.1 vwCl (wX7 g a_t (uF (uF I_t 0 0 (I_v 0 0)) 0 1 (I_v 0 1)) ++ wX7 g a_v I_v) H := hP
  have hD : va_D A (wX7 g a_t (uF (uF I_t 0 0 (I_v 0 0)) 0 1 (I_v 0 1)) ++ wX7 g a_v I_v) := hD
  refine lv_aload_n hx hb dX7_copyOf_16 rfl (lv_at hl 1 rfl) ?_
  refine va_get (D := g.1) (ci := 7) (v := .ref (a_v 1)) (C := RX7) (T := TX7) (N := 8) hx hb hi_X7 (fun _ h => h) hown hK.1 hP 7 rfl rfl 2 (by decide) hf_18 (fun _ h9 => h9) rfl dX7_copyOf_17 ?_
  refine lv_iconst (v := 0) hx hb dX7_copyOf_20 (by decide) ?_
  refine lv_aload_n hx hb dX7_copyOf_21 rfl (lv_at hl 0 rfl) ?_
  refine va_get (D := g.1) (ci := 7) (v := .ref (a_t 1)) (C := RX7) (T := TX7) (N := 8) hx hb hi_X7 (fun _ h => h) hown hK.1 hP 0 rfl rfl 2 (by decide) hf_18 (fun _ h9 => h9) rfl dX7_copyOf_22 ?_
  refine lv_iconst (v := 0) hx hb dX7_copyOf_25 (by decide) ?_
  refine lv_iconst (v := 5) hx hb dX7_copyOf_26 (by decide) ?_
  obtain ⟨f1, e_f1⟩ : ∃ z, z = va_cpy (I_v 1) (I_t 1) ((0 : Int32)).toNatClampNeg ((0 : Int32)).toNatClampNeg ((5 : Int32)).toNatClampNeg := ⟨_, rfl⟩
  refine va_copyi hx hb (hml.trans hl.1.symm) hown (hts _ (uT _ _ u_496)) (hts _ (uT _ _ u_326)) (hts _ (uT _ _ u_327)) (hts _ (uT _ _ u_328)) hK.1 hP hD hS 8 1 0 0 rfl rfl rfl rfl rfl (by decide) (by decide) (by decide) (by decide) (by decide) (fun _ _ => rfl) (Nat.le_of_ble_eq_true rfl) (Nat.le_of_ble_eq_true rfl) dX7_copyOf_27 (fun H locs hP hD hS => ?_)
  have hP : va_P g.1 vwCl (wX7 g a_t (uR (uF (uF I_t 0 0 (I_v 0 0)) 0 1 (I_v 0 1)) 1 f1) ++ wX7 g a_v I_v) H := by rw [e_f1]; exact hP
  have hD : va_D A (wX7 g a_t (uR (uF (uF I_t 0 0 (I_v 0 0)) 0 1 (I_v 0 1)) 1 f1) ++ wX7 g a_v I_v) := by rw [e_f1]; exact hD
  refine lv_aload_n hx hb dX7_copyOf_30 rfl (lv_at hl 1 rfl) ?_
  refine va_get (D := g.1) (ci := 7) (v := .ref (a_v 2)) (C := RX7) (T := TX7) (N := 8) hx hb hi_X7 (fun _ h => h) hown hK.1 hP 7 rfl rfl 3 (by decide) hf_22 (fun _ h9 => h9) rfl dX7_copyOf_31 ?_
  refine lv_iconst (v := 0) hx hb dX7_copyOf_34 (by decide) ?_
  refine lv_aload_n hx hb dX7_copyOf_35 rfl (lv_at hl 0 rfl) ?_
  refine va_get (D := g.1) (ci := 7) (v := .ref (a_t 2)) (C := RX7) (T := TX7) (N := 8) hx hb hi_X7 (fun _ h => h) hown hK.1 hP 0 rfl rfl 3 (by decide) hf_22 (fun _ h9 => h9) rfl dX7_copyOf_36 ?_
  refine lv_iconst (v := 0) hx hb dX7_copyOf_39 (by decide) ?_
  refine lv_bipush (v := 24) hx hb dX7_copyOf_40 (by decide) ?_
  obtain ⟨f2, e_f2⟩ : ∃ z, z = va_cpy (I_v 2) (I_t 2) ((0 : Int32)).toNatClampNeg ((0 : Int32)).toNatClampNeg ((24 : Int32)).toNatClampNeg := ⟨_, rfl⟩
  refine va_copyi hx hb (hml.trans hl.1.symm) hown (hts _ (uT _ _ u_496)) (hts _ (uT _ _ u_326)) (hts _ (uT _ _ u_327)) (hts _ (uT _ _ u_328)) hK.1 hP hD hS 9 2 0 0 rfl rfl rfl rfl rfl (by decide) (by decide) (by decide) (by decide) (by decide) (fun _ _ => rfl) (Nat.le_of_ble_eq_true rfl) (Nat.le_of_ble_eq_true rfl) dX7_copyOf_42 (fun H locs hP hD hS => ?_)
  have hP : va_P g.1 vwCl (wX7 g a_t (uR (uR (uF (uF I_t 0 0 (I_v 0 0)) 0 1 (I_v 0 1)) 1 f1) 2 f2) ++ wX7 g a_v I_v) H := by rw [e_f2]; exact hP
  have hD : va_D A (wX7 g a_t (uR (uR (uF (uF I_t 0 0 (I_v 0 0)) 0 1 (I_v 0 1)) 1 f1) 2 f2) ++ wX7 g a_v I_v) := by rw [e_f2]; exact hD
  refine lv_aload_n hx hb dX7_copyOf_45 rfl (lv_at hl 1 rfl) ?_
  refine va_get (D := g.1) (ci := 7) (v := .ref (a_v 3)) (C := RX7) (T := TX7) (N := 8) hx hb hi_X7 (fun _ h => h) hown hK.1 hP 7 rfl rfl 4 (by decide) hf_25 (fun _ h9 => h9) rfl dX7_copyOf_46 ?_
  refine lv_iconst (v := 0) hx hb dX7_copyOf_49 (by decide) ?_
  refine lv_aload_n hx hb dX7_copyOf_50 rfl (lv_at hl 0 rfl) ?_
  refine va_get (D := g.1) (ci := 7) (v := .ref (a_t 3)) (C := RX7) (T := TX7) (N := 8) hx hb hi_X7 (fun _ h => h) hown hK.1 hP 0 rfl rfl 4 (by decide) hf_25 (fun _ h9 => h9) rfl dX7_copyOf_51 ?_
  refine lv_iconst (v := 0) hx hb dX7_copyOf_54 (by decide) ?_
  refine lv_bipush (v := 24) hx hb dX7_copyOf_55 (by decide) ?_
  obtain ⟨f3, e_f3⟩ : ∃ z, z = va_cpy (I_v 3) (I_t 3) ((0 : Int32)).toNatClampNeg ((0 : Int32)).toNatClampNeg ((24 : Int32)).toNatClampNeg := ⟨_, rfl⟩
  refine va_copyi hx hb (hml.trans hl.1.symm) hown (hts _ (uT _ _ u_496)) (hts _ (uT _ _ u_326)) (hts _ (uT _ _ u_327)) (hts _ (uT _ _ u_328)) hK.1 hP hD hS 10 3 0 0 rfl rfl rfl rfl rfl (by decide) (by decide) (by decide) (by decide) (by decide) (fun _ _ => rfl) (Nat.le_of_ble_eq_true rfl) (Nat.le_of_ble_eq_true rfl) dX7_copyOf_57 (fun H locs hP hD hS => ?_)
  have hP : va_P g.1 vwCl (wX7 g a_t (uR (uR (uR (uF (uF I_t 0 0 (I_v 0 0)) 0 1 (I_v 0 1)) 1 f1) 2 f2) 3 f3) ++ wX7 g a_v I_v) H := by rw [e_f3]; exact hP
  have hD : va_D A (wX7 g a_t (uR (uR (uR (uF (uF I_t 0 0 (I_v 0 0)) 0 1 (I_v 0 1)) 1 f1) 2 f2) 3 f3) ++ wX7 g a_v I_v) := by rw [e_f3]; exact hD
  refine lv_aload_n hx hb dX7_copyOf_60 rfl (lv_at hl 1 rfl) ?_
  refine va_get (D := g.1) (ci := 7) (v := .ref (a_v 4)) (C := RX7) (T := TX7) (N := 8) hx hb hi_X7 (fun _ h => h) hown hK.1 hP 7 rfl rfl 5 (by decide) hf_28 (fun _ h9 => h9) rfl dX7_copyOf_61 ?_
  refine lv_iconst (v := 0) hx hb dX7_copyOf_64 (by decide) ?_
  refine lv_aload_n hx hb dX7_copyOf_65 rfl (lv_at hl 0 rfl) ?_
  refine va_get (D := g.1) (ci := 7) (v := .ref (a_t 4)) (C := RX7) (T := TX7) (N := 8) hx hb hi_X7 (fun _ h => h) hown hK.1 hP 0 rfl rfl 5 (by decide) hf_28 (fun _ h9 => h9) rfl dX7_copyOf_66 ?_
  refine lv_iconst (v := 0) hx hb dX7_copyOf_69 (by decide) ?_
  refine lv_bipush (v := 24) hx hb dX7_copyOf_70 (by decide) ?_
  obtain ⟨f4, e_f4⟩ : ∃ z, z = va_cpy (I_v 4) (I_t 4) ((0 : Int32)).toNatClampNeg ((0 : Int32)).toNatClampNeg ((24 : Int32)).toNatClampNeg := ⟨_, rfl⟩
  refine va_copyi hx hb (hml.trans hl.1.symm) hown (hts _ (uT _ _ u_496)) (hts _ (uT _ _ u_326)) (hts _ (uT _ _ u_327)) (hts _ (uT _ _ u_328)) hK.1 hP hD hS 11 4 0 0 rfl rfl rfl rfl rfl (by decide) (by decide) (by decide) (by decide) (by decide) (fun _ _ => rfl) (Nat.le_of_ble_eq_true rfl) (Nat.le_of_ble_eq_true rfl) dX7_copyOf_72 (fun H locs hP hD hS => ?_)
  have hP : va_P g.1 vwCl (wX7 g a_t (uR (uR (uR (uR (uF (uF I_t 0 0 (I_v 0 0)) 0 1 (I_v 0 1)) 1 f1) 2 f2) 3 f3) 4 f4) ++ wX7 g a_v I_v) H := by rw [e_f4]; exact hP
  have hD : va_D A (wX7 g a_t (uR (uR (uR (uR (uF (uF I_t 0 0 (I_v 0 0)) 0 1 (I_v 0 1)) 1 f1) 2 f2) 3 f3) 4 f4) ++ wX7 g a_v I_v) := by rw [e_f4]; exact hD
  refine lv_aload_n hx hb dX7_copyOf_75 rfl (lv_at hl 1 rfl) ?_
  refine va_get (D := g.1) (ci := 7) (v := .ref (a_v 5)) (C := RX7) (T := TX7) (N := 8) hx hb hi_X7 (fun _ h => h) hown hK.1 hP 7 rfl rfl 6 (by decide) hf_31 (fun _ h9 => h9) rfl dX7_copyOf_76 ?_
  refine lv_iconst (v := 0) hx hb dX7_copyOf_79 (by decide) ?_
  refine lv_aload_n hx hb dX7_copyOf_80 rfl (lv_at hl 0 rfl) ?_
  refine va_get (D := g.1) (ci := 7) (v := .ref (a_t 5)) (C := RX7) (T := TX7) (N := 8) hx hb hi_X7 (fun _ h => h) hown hK.1 hP 0 rfl rfl 6 (by decide) hf_31 (fun _ h9 => h9) rfl dX7_copyOf_81 ?_
  refine lv_iconst (v := 0) hx hb dX7_copyOf_84 (by decide) ?_
  refine lv_sipush (v := 144) hx hb dX7_copyOf_85 (by decide) ?_
  obtain ⟨f5, e_f5⟩ : ∃ z, z = va_cpy (I_v 5) (I_t 5) ((0 : Int32)).toNatClampNeg ((0 : Int32)).toNatClampNeg ((144 : Int32)).toNatClampNeg := ⟨_, rfl⟩
  refine va_copyi hx hb (hml.trans hl.1.symm) hown (hts _ (uT _ _ u_496)) (hts _ (uT _ _ u_326)) (hts _ (uT _ _ u_327)) (hts _ (uT _ _ u_328)) hK.1 hP hD hS 12 5 0 0 rfl rfl rfl rfl rfl (by decide) (by decide) (by decide) (by decide) (by decide) (fun _ _ => rfl) (Nat.le_of_ble_eq_true rfl) (Nat.le_of_ble_eq_true rfl) dX7_copyOf_88 (fun H locs hP hD hS => ?_)
  have hP : va_P g.1 vwCl (wX7 g a_t (uR (uR (uR (uR (uR (uF (uF I_t 0 0 (I_v 0 0)) 0 1 (I_v 0 1)) 1 f1) 2 f2) 3 f3) 4 f4) 5 f5) ++ wX7 g a_v I_v) H := by rw [e_f5]; exact hP
  have hD : va_D A (wX7 g a_t (uR (uR (uR (uR (uR (uF (uF I_t 0 0 (I_v 0 0)) 0 1 (I_v 0 1)) 1 f1) 2 f2) 3 f3) 4 f4) 5 f5) ++ wX7 g a_v I_v) := by rw [e_f5]; exact hD
  refine lv_aload_n hx hb dX7_copyOf_91 rfl (lv_at hl 1 rfl) ?_
  refine va_get (D := g.1) (ci := 7) (v := .ref (a_v 6)) (C := RX7) (T := TX7) (N := 8) hx hb hi_X7 (fun _ h => h) hown hK.1 hP 7 rfl rfl 7 (by decide) hf_34 (fun _ h9 => h9) rfl dX7_copyOf_92 ?_
  refine lv_iconst (v := 0) hx hb dX7_copyOf_95 (by decide) ?_
  refine lv_aload_n hx hb dX7_copyOf_96 rfl (lv_at hl 0 rfl) ?_
  refine va_get (D := g.1) (ci := 7) (v := .ref (a_t 6)) (C := RX7) (T := TX7) (N := 8) hx hb hi_X7 (fun _ h => h) hown hK.1 hP 0 rfl rfl 7 (by decide) hf_34 (fun _ h9 => h9) rfl dX7_copyOf_97 ?_
  refine lv_iconst (v := 0) hx hb dX7_copyOf_100 (by decide) ?_
  refine lv_bipush (v := 72) hx hb dX7_copyOf_101 (by decide) ?_
  obtain ⟨f6, e_f6⟩ : ∃ z, z = va_cpy (I_v 6) (I_t 6) ((0 : Int32)).toNatClampNeg ((0 : Int32)).toNatClampNeg ((72 : Int32)).toNatClampNeg := ⟨_, rfl⟩
  refine va_copyi hx hb (hml.trans hl.1.symm) hown (hts _ (uT _ _ u_496)) (hts _ (uT _ _ u_326)) (hts _ (uT _ _ u_327)) (hts _ (uT _ _ u_328)) hK.1 hP hD hS 13 6 0 0 rfl rfl rfl rfl rfl (by decide) (by decide) (by decide) (by decide) (by decide) (fun _ _ => rfl) (Nat.le_of_ble_eq_true rfl) (Nat.le_of_ble_eq_true rfl) dX7_copyOf_103 (fun H locs hP hD hS => ?_)
  have hP : va_P g.1 vwCl (wX7 g a_t (uR (uR (uR (uR (uR (uR (uF (uF I_t 0 0 (I_v 0 0)) 0 1 (I_v 0 1)) 1 f1) 2 f2) 3 f3) 4 f4) 5 f5) 6 f6) ++ wX7 g a_v I_v) H := by rw [e_f6]; exact hP
  have hD : va_D A (wX7 g a_t (uR (uR (uR (uR (uR (uR (uF (uF I_t 0 0 (I_v 0 0)) 0 1 (I_v 0 1)) 1 f1) 2 f2) 3 f3) 4 f4) 5 f5) 6 f6) ++ wX7 g a_v I_v) := by rw [e_f6]; exact hD
  refine hret 106 ls _ _ (uR (uR (uR (uR (uR (uR (uF (uF I_t 0 0 (I_v 0 0)) 0 1 (I_v 0 1)) 1 f1) 2 f2) 3 f3) 4 f4) 5 f5) 6 f6) dX7_copyOf_106 hS hP hD ?_
  exact ⟨copy_TI hV rfl (fun j hj => (congrFun e_f1 j).trans (cpy_in hj)) (by show ∀ j, _; simp only [uR]; rw [e_f1]; exact cpy_all (P := fun z => 0 ≤ z.toInt ∧ z.toInt ≤ 63) (TI.sg hV) (TI.sg hT)) (by show ∀ j, _; simp only [uR]; rw [e_f2]; exact cpy_all (P := fun z => 0 ≤ z.toInt ∧ z.toInt ≤ 6) (TI.lc hV) (TI.lc hT)) (by show ∀ j, _; simp only [uR]; rw [e_f3]; exact cpy_all (P := fun z => 0 ≤ z.toInt ∧ z.toInt ≤ 3) (TI.cc hV) (TI.cc hT)) (by show ∀ j, _; simp only [uR]; rw [e_f4]; exact cpy_all (P := fun z => 0 ≤ z.toInt ∧ z.toInt ≤ 4) (TI.cd hV) (TI.cd hT)) (by show ∀ j, _; simp only [uR]; rw [e_f5]; exact cpy_all (P := fun z => 0 ≤ z.toInt ∧ z.toInt ≤ 31) (TI.lt hV) (TI.lt hT)) (by show ∀ j, _; simp only [uR]; rw [e_f6]; exact cpy_all (P := fun z => 0 ≤ z.toInt ∧ z.toInt ≤ 63) (TI.cl hV) (TI.cl hT)), rfl, fxTc.cpy hV rfl (fun j hj => (congrFun e_f1 j).trans (cpy_in hj)) (fun j hj => (congrFun e_f2 j).trans (cpy_in hj)) (fun j hj => (congrFun e_f3 j).trans (cpy_in hj)) (fun j hj => (congrFun e_f4 j).trans (cpy_in hj)) (fun j hj => (congrFun e_f5 j).trans (cpy_in hj)) (fun j hj => (congrFun e_f6 j).trans (cpy_in hj)), rfl⟩

set_option maxHeartbeats 4000000 in
set_option maxRecDepth 100000 in
theorem kX8_isTray (l : Launch) (g : gG) (a_d : Nat → Nat) (I_d : Nat → Nat → Int32) (J_d : Nat → Nat → Int64) (tray : Int32)  : PurI l g yX8_isTray wsX8_isTray 0 [.ref (a_d 0), .int tray] (wX8 g a_d I_d J_d) (fun r => bP (0 ≤ tray.toInt ∧ tray.toInt < 4) (¬ (0 ≤ tray.toInt ∧ tray.toInt < 4)) r) := by
  refine PurI.sz (cc := cX8_isTray) (maxL := 2) (by decide) rfl (Nat.le_of_ble_eq_true rfl) (fun p e s m args below meth c Q ls fx hK hP hl hret => ?_)
  have hx := fx.1
  have hb := fx.2.1
  have hml := fx.2.2.1
  have hown := fx.2.2.2.1
  have hts := fx.2.2.2.2
  have hl : lv_has ls 2 [(0, .ref (a_d 0)), (1, .int tray)] := hl
  have hP : va_P g.1 vwCl (wX8 g a_d I_d J_d) s.heap := hP
  have lm1 : (-1 : Int32).toInt = -1 := by decide
  have lm0 : (0 : Int32).toInt = 0 := by decide
  have lm2 : (1 : Int32).toInt = 1 := by decide
  refine lv_iload_n hx hb dX8_isTray_0 rfl (lv_at hl 1 rfl) ?_
  refine q_if_lt (tgt := 13) hx hb dX8_isTray_1 (by decide) rfl (fun k_1 => ?_) (fun k_1 => ?_)
  · refine lv_iconst (v := 0) hx hb dX8_isTray_13 (by decide) ?_
    exact hret 14 ls (0 : Int32) dX8_isTray_14 (Or.inl rfl) (by first | exact Or.inl ⟨rfl, by omega⟩ | exact Or.inr ⟨rfl, by omega⟩)
  · refine lv_iload_n hx hb dX8_isTray_4 rfl (lv_at hl 1 rfl) ?_
    refine lv_iconst (v := 4) hx hb dX8_isTray_5 (by decide) ?_
    refine q_icmp_ge (tgt := 13) hx hb dX8_isTray_6 (by decide) rfl (by decide : (4 : Int32).toInt = 4) (fun k_6 => ?_) (fun k_6 => ?_)
    · refine lv_iconst (v := 0) hx hb dX8_isTray_13 (by decide) ?_
      exact hret 14 ls (0 : Int32) dX8_isTray_14 (Or.inl rfl) (by first | exact Or.inl ⟨rfl, by omega⟩ | exact Or.inr ⟨rfl, by omega⟩)
    · refine lv_iconst (v := 1) hx hb dX8_isTray_9 (by decide) ?_
      refine lv_goto (tgt := 14) hx hb dX8_isTray_10 (by decide) ?_
      have lr : (1 : Int32).toInt = 1 := by decide
      exact hret 14 ls (1 : Int32) dX8_isTray_14 (Or.inr rfl) (by first | exact Or.inl ⟨rfl, by omega⟩ | exact Or.inr ⟨rfl, by omega⟩)

set_option maxHeartbeats 4000000 in
set_option maxRecDepth 100000 in
theorem kX8_isSort (l : Launch) (g : gG) (a_d : Nat → Nat) (I_d : Nat → Nat → Int32) (J_d : Nat → Nat → Int64) (sort : Int32)  : PurI l g yX8_isSort wsX8_isSort 0 [.ref (a_d 0), .int sort] (wX8 g a_d I_d J_d) (fun r => bP (0 ≤ sort.toInt ∧ sort.toInt < 4) (¬ (0 ≤ sort.toInt ∧ sort.toInt < 4)) r) := by
  refine PurI.sz (cc := cX8_isSort) (maxL := 2) (by decide) rfl (Nat.le_of_ble_eq_true rfl) (fun p e s m args below meth c Q ls fx hK hP hl hret => ?_)
  have hx := fx.1
  have hb := fx.2.1
  have hml := fx.2.2.1
  have hown := fx.2.2.2.1
  have hts := fx.2.2.2.2
  have hl : lv_has ls 2 [(0, .ref (a_d 0)), (1, .int sort)] := hl
  have hP : va_P g.1 vwCl (wX8 g a_d I_d J_d) s.heap := hP
  have lm1 : (-1 : Int32).toInt = -1 := by decide
  have lm0 : (0 : Int32).toInt = 0 := by decide
  have lm2 : (1 : Int32).toInt = 1 := by decide
  refine lv_iload_n hx hb dX8_isSort_0 rfl (lv_at hl 1 rfl) ?_
  refine q_if_lt (tgt := 13) hx hb dX8_isSort_1 (by decide) rfl (fun k_1 => ?_) (fun k_1 => ?_)
  · refine lv_iconst (v := 0) hx hb dX8_isSort_13 (by decide) ?_
    exact hret 14 ls (0 : Int32) dX8_isSort_14 (Or.inl rfl) (by first | exact Or.inl ⟨rfl, by omega⟩ | exact Or.inr ⟨rfl, by omega⟩)
  · refine lv_iload_n hx hb dX8_isSort_4 rfl (lv_at hl 1 rfl) ?_
    refine lv_iconst (v := 4) hx hb dX8_isSort_5 (by decide) ?_
    refine q_icmp_ge (tgt := 13) hx hb dX8_isSort_6 (by decide) rfl (by decide : (4 : Int32).toInt = 4) (fun k_6 => ?_) (fun k_6 => ?_)
    · refine lv_iconst (v := 0) hx hb dX8_isSort_13 (by decide) ?_
      exact hret 14 ls (0 : Int32) dX8_isSort_14 (Or.inl rfl) (by first | exact Or.inl ⟨rfl, by omega⟩ | exact Or.inr ⟨rfl, by omega⟩)
    · refine lv_iconst (v := 1) hx hb dX8_isSort_9 (by decide) ?_
      refine lv_goto (tgt := 14) hx hb dX8_isSort_10 (by decide) ?_
      have lr : (1 : Int32).toInt = 1 := by decide
      exact hret 14 ls (1 : Int32) dX8_isSort_14 (Or.inr rfl) (by first | exact Or.inl ⟨rfl, by omega⟩ | exact Or.inr ⟨rfl, by omega⟩)

set_option maxHeartbeats 4000000 in
set_option maxRecDepth 100000 in
theorem kX8_isMissing (l : Launch) (g : gG) (a_d : Nat → Nat) (I_d : Nat → Nat → Int32) (J_d : Nat → Nat → Int64) (tray : Int32) (h_t : 0 ≤ tray.toInt ∧ tray.toInt < 4) : PurI l g yX8_isMissing wsX8_isMissing 0 [.ref (a_d 0), .int tray] (wX8 g a_d I_d J_d) (fun r => bP ((I_d 3 tray.toNatClampNeg).toInt = -1) (¬ (I_d 3 tray.toNatClampNeg).toInt = -1) r) := by
  refine PurI.sz (cc := cX8_isMissing) (maxL := 2) (by decide) rfl (Nat.le_of_ble_eq_true rfl) (fun p e s m args below meth c Q ls fx hK hP hl hret => ?_)
  have hx := fx.1
  have hb := fx.2.1
  have hml := fx.2.2.1
  have hown := fx.2.2.2.1
  have hts := fx.2.2.2.2
  have hl : lv_has ls 2 [(0, .ref (a_d 0)), (1, .int tray)] := hl
  have hP : va_P g.1 vwCl (wX8 g a_d I_d J_d) s.heap := hP
  have hf_19 := hts _ (uT _ _ u_71)
  have hi_X8 : ∀ w ∈ wsX80, w.before args s = true := fun w h => hts w (uT _ w (u_wsX80 w h))
  have lm1 : (-1 : Int32).toInt = -1 := by decide
  have lm0 : (0 : Int32).toInt = 0 := by decide
  have lm2 : (1 : Int32).toInt = 1 := by decide
  refine lv_aload_n hx hb dX8_isMissing_0 rfl (lv_at hl 0 rfl) ?_
  refine va_get (D := g.1) (ci := 8) (v := .ref (a_d 3)) (C := RX8) (T := TX8) (N := 3) hx hb hi_X8 (fun _ h => h) hown hK.1 hP 0 rfl rfl 2 (by decide) hf_19 (fun _ h9 => h9) rfl dX8_isMissing_1 ?_
  refine lv_iload_n hx hb dX8_isMissing_4 rfl (lv_at hl 1 rfl) ?_
  have n_5 : vp_in tray 4 := (t_in (by omega))
  refine va_iald hx hb hK.1 hP 3 0 rfl rfl n_5 dX8_isMissing_5 ?_
  refine q_nm (fun x1 e_x1 => ?_)
  have e_x1 : x1 = (I_d 3) tray.toNatClampNeg := e_x1
  have g_x1 : x1.toInt = ((I_d 3) tray.toNatClampNeg).toInt := congrArg _ e_x1
  refine lv_iconst (v := -1) hx hb dX8_isMissing_6 (by decide) ?_
  refine q_icmp_ne (tgt := 14) hx hb dX8_isMissing_7 (by decide) rfl (by decide : (-1 : Int32).toInt = -1) (fun k_7 => ?_) (fun k_7 => ?_)
  · refine lv_iconst (v := 0) hx hb dX8_isMissing_14 (by decide) ?_
    exact hret 15 ls (0 : Int32) dX8_isMissing_15 (Or.inl rfl) (by rw [← e_x1]; first | exact Or.inl ⟨rfl, by omega⟩ | exact Or.inr ⟨rfl, by omega⟩)
  · refine lv_iconst (v := 1) hx hb dX8_isMissing_10 (by decide) ?_
    refine lv_goto (tgt := 15) hx hb dX8_isMissing_11 (by decide) ?_
    have lr : (1 : Int32).toInt = 1 := by decide
    exact hret 15 ls (1 : Int32) dX8_isMissing_15 (Or.inr rfl) (by rw [← e_x1]; first | exact Or.inl ⟨rfl, by omega⟩ | exact Or.inr ⟨rfl, by omega⟩)

set_option maxHeartbeats 4000000 in
set_option maxRecDepth 100000 in
theorem kX8_sortOf (l : Launch) (g : gG) (a_d : Nat → Nat) (I_d : Nat → Nat → Int32) (J_d : Nat → Nat → Int64) (tray : Int32) (h_t : 0 ≤ tray.toInt ∧ tray.toInt < 4) : PurI l g yX8_sortOf wsX8_sortOf 0 [.ref (a_d 0), .int tray] (wX8 g a_d I_d J_d) (fun r => r = I_d 2 tray.toNatClampNeg) := by
  refine PurI.st (cc := cX8_sortOf) (maxL := 2) (by decide) rfl (Nat.le_of_ble_eq_true rfl) (fun p e s m args below meth c Q ls fx hK hP hl hret => ?_)
  have hx := fx.1
  have hb := fx.2.1
  have hml := fx.2.2.1
  have hown := fx.2.2.2.1
  have hts := fx.2.2.2.2
  have hl : lv_has ls 2 [(0, .ref (a_d 0)), (1, .int tray)] := hl
  have hP : va_P g.1 vwCl (wX8 g a_d I_d J_d) s.heap := hP
  have hf_15 := hts _ (uT _ _ u_70)
  have hi_X8 : ∀ w ∈ wsX80, w.before args s = true := fun w h => hts w (uT _ w (u_wsX80 w h))
  have lm1 : (-1 : Int32).toInt = -1 := by decide
  have lm0 : (0 : Int32).toInt = 0 := by decide
  have lm2 : (1 : Int32).toInt = 1 := by decide
  refine lv_aload_n hx hb dX8_sortOf_0 rfl (lv_at hl 0 rfl) ?_
  refine va_get (D := g.1) (ci := 8) (v := .ref (a_d 2)) (C := RX8) (T := TX8) (N := 3) hx hb hi_X8 (fun _ h => h) hown hK.1 hP 0 rfl rfl 1 (by decide) hf_15 (fun _ h9 => h9) rfl dX8_sortOf_1 ?_
  refine lv_iload_n hx hb dX8_sortOf_4 rfl (lv_at hl 1 rfl) ?_
  have n_5 : vp_in tray 4 := (t_in (by omega))
  refine va_iald hx hb hK.1 hP 2 0 rfl rfl n_5 dX8_sortOf_5 ?_
  refine q_nm (fun x1 e_x1 => ?_)
  have e_x1 : x1 = (I_d 2) tray.toNatClampNeg := e_x1
  have g_x1 : x1.toInt = ((I_d 2) tray.toNatClampNeg).toInt := congrArg _ e_x1
  exact hret 6 ls x1 dX8_sortOf_6 e_x1

set_option maxHeartbeats 4000000 in
set_option maxRecDepth 100000 in
theorem kX8_hasFrom (l : Launch) (g : gG) (a_d : Nat → Nat) (I_d : Nat → Nat → Int32) (J_d : Nat → Nat → Int64) (tray : Int32) (place : Int32) (many : Int32) (h_t : 0 ≤ tray.toInt ∧ tray.toInt < 4) (hDI : DI I_d) : PurI l g yX8_hasFrom wsX8_hasFrom 0 [.ref (a_d 0), .int tray, .int place, .int many] (wX8 g a_d I_d J_d) (fun r => bP (0 ≤ place.toInt ∧ 0 ≤ many.toInt ∧ place.toInt + many.toInt ≤ (I_d 3 tray.toNatClampNeg).toInt) (¬ (0 ≤ place.toInt ∧ 0 ≤ many.toInt ∧ place.toInt + many.toInt ≤ (I_d 3 tray.toNatClampNeg).toInt)) r) := by
  refine PurI.sz (cc := cX8_hasFrom) (maxL := 4) (by decide) rfl (Nat.le_of_ble_eq_true rfl) (fun p e s m args below meth c Q ls fx hK hP hl hret => ?_)
  have hx := fx.1
  have hb := fx.2.1
  have hml := fx.2.2.1
  have hown := fx.2.2.2.1
  have hts := fx.2.2.2.2
  have hl : lv_has ls 4 [(0, .ref (a_d 0)), (1, .int tray), (2, .int place), (3, .int many)] := hl
  have hP : va_P g.1 vwCl (wX8 g a_d I_d J_d) s.heap := hP
  have hf_19 := hts _ (uT _ _ u_71)
  have hi_X8 : ∀ w ∈ wsX80, w.before args s = true := fun w h => hts w (uT _ w (u_wsX80 w h))
  have lm1 : (-1 : Int32).toInt = -1 := by decide
  have lm0 : (0 : Int32).toInt = 0 := by decide
  have lm2 : (1 : Int32).toInt = 1 := by decide
  have rg_place := t_rng place
  have rg_many := t_rng many
  refine lv_iload_n hx hb dX8_hasFrom_0 rfl (lv_at hl 2 rfl) ?_
  refine q_if_lt (tgt := 24) hx hb dX8_hasFrom_1 (by decide) rfl (fun k_1 => ?_) (fun k_1 => ?_)
  · refine lv_iconst (v := 0) hx hb dX8_hasFrom_24 (by decide) ?_
    exact hret 25 ls (0 : Int32) dX8_hasFrom_25 (Or.inl rfl) (by first | exact Or.inl ⟨rfl, by rw [← e_x1]; omega⟩ | exact Or.inr ⟨rfl, by omega⟩ | exact Or.inr ⟨rfl, by rw [← e_x1]; omega⟩)
  · refine lv_iload_n hx hb dX8_hasFrom_4 rfl (lv_at hl 3 rfl) ?_
    refine q_if_lt (tgt := 24) hx hb dX8_hasFrom_5 (by decide) rfl (fun k_5 => ?_) (fun k_5 => ?_)
    · refine lv_iconst (v := 0) hx hb dX8_hasFrom_24 (by decide) ?_
      exact hret 25 ls (0 : Int32) dX8_hasFrom_25 (Or.inl rfl) (by first | exact Or.inl ⟨rfl, by rw [← e_x1]; omega⟩ | exact Or.inr ⟨rfl, by omega⟩ | exact Or.inr ⟨rfl, by rw [← e_x1]; omega⟩)
    · refine lv_aload_n hx hb dX8_hasFrom_8 rfl (lv_at hl 0 rfl) ?_
      refine va_get (D := g.1) (ci := 8) (v := .ref (a_d 3)) (C := RX8) (T := TX8) (N := 3) hx hb hi_X8 (fun _ h => h) hown hK.1 hP 0 rfl rfl 2 (by decide) hf_19 (fun _ h9 => h9) rfl dX8_hasFrom_9 ?_
      refine lv_iload_n hx hb dX8_hasFrom_12 rfl (lv_at hl 1 rfl) ?_
      have n_13 : vp_in tray 4 := (t_in (by omega))
      refine va_iald hx hb hK.1 hP 3 0 rfl rfl n_13 dX8_hasFrom_13 ?_
      refine q_nm (fun x1 e_x1 => ?_)
      have e_x1 : x1 = (I_d 3) tray.toNatClampNeg := e_x1
      have g_x1 : x1.toInt = ((I_d 3) tray.toNatClampNeg).toInt := congrArg _ e_x1
      have f_x1 := DI.sz hDI tray.toNatClampNeg
      rw [← e_x1] at f_x1
      refine lv_iload_n hx hb dX8_hasFrom_14 rfl (lv_at hl 2 rfl) ?_
      refine r_isub hx hb dX8_hasFrom_15 rfl rfl (fun x2 e_x2 t_x2 => ?_)
      try have t_x2 := t_x2 (by omega)
      refine lv_iload_n hx hb dX8_hasFrom_16 rfl (lv_at hl 3 rfl) ?_
      refine q_icmp_lt (tgt := 24) hx hb dX8_hasFrom_17 (by decide) rfl rfl (fun k_17 => ?_) (fun k_17 => ?_)
      · refine lv_iconst (v := 0) hx hb dX8_hasFrom_24 (by decide) ?_
        exact hret 25 ls (0 : Int32) dX8_hasFrom_25 (Or.inl rfl) (by first | exact Or.inl ⟨rfl, by rw [← e_x1]; omega⟩ | exact Or.inr ⟨rfl, by omega⟩ | exact Or.inr ⟨rfl, by rw [← e_x1]; omega⟩)
      · refine lv_iconst (v := 1) hx hb dX8_hasFrom_20 (by decide) ?_
        refine lv_goto (tgt := 25) hx hb dX8_hasFrom_21 (by decide) ?_
        have lr : (1 : Int32).toInt = 1 := by decide
        exact hret 25 ls (1 : Int32) dX8_hasFrom_25 (Or.inr rfl) (by first | exact Or.inl ⟨rfl, by rw [← e_x1]; omega⟩ | exact Or.inr ⟨rfl, by omega⟩ | exact Or.inr ⟨rfl, by rw [← e_x1]; omega⟩)

set_option maxHeartbeats 4000000 in
set_option maxRecDepth 100000 in
theorem kX8_whyNoPlace (l : Launch) (g : gG) (a_d : Nat → Nat) (I_d : Nat → Nat → Int32) (J_d : Nat → Nat → Int64) (tray : Int32) (place : Int32) (hDI : DI I_d) : PurI l g yX8_whyNoPlace wsX8_whyNoPlace 1 [.ref (a_d 0), .int tray, .int place] (wX8 g a_d I_d J_d) (fun r => (r.toInt = 1 ∧ ¬ (0 ≤ tray.toInt ∧ tray.toInt < 4)) ∨ ((0 ≤ tray.toInt ∧ tray.toInt < 4) ∧ ((r.toInt = 2 ∧ (I_d 3 tray.toNatClampNeg).toInt = -1) ∨ ((I_d 3 tray.toNatClampNeg).toInt ≠ -1 ∧ ((r.toInt = 3 ∧ ¬ (0 ≤ place.toInt ∧ place.toInt < (I_d 3 tray.toNatClampNeg).toInt)) ∨ (r.toInt = 0 ∧ 0 ≤ place.toInt ∧ place.toInt < (I_d 3 tray.toNatClampNeg).toInt)))))) := by
  refine PurI.st (cc := cX8_whyNoPlace) (maxL := 3) (by decide) rfl (Nat.le_of_ble_eq_true rfl) (fun p e s m args below meth c Q ls fx hK hP hl hret => ?_)
  have hx := fx.1
  have hb := fx.2.1
  have hml := fx.2.2.1
  have hown := fx.2.2.2.1
  have hts := fx.2.2.2.2
  have hl : lv_has ls 3 [(0, .ref (a_d 0)), (1, .int tray), (2, .int place)] := hl
  have hP : va_P g.1 vwCl (wX8 g a_d I_d J_d) s.heap := hP
  have hf_19 := hts _ (uT _ _ u_71)
  have hi_X8 : ∀ w ∈ wsX80, w.before args s = true := fun w h => hts w (uT _ w (u_wsX80 w h))
  have lm1 : (-1 : Int32).toInt = -1 := by decide
  have lm0 : (0 : Int32).toInt = 0 := by decide
  have lm2 : (1 : Int32).toInt = 1 := by decide
  refine lv_aload_n hx hb dX8_whyNoPlace_0 rfl (lv_at hl 0 rfl) ?_
  refine lv_iload_n hx hb dX8_whyNoPlace_1 rfl (lv_at hl 1 rfl) ?_
  refine PurI.cv (As := [.int tray]) (kX8_isTray l g a_d I_d J_d tray) fx (gUV (uT _) u_271 u_233 u_234 u_23 u_235) rfl hdX8_isTray ⟨Nat.le_of_ble_eq_true rfl, Nat.le_of_ble_eq_true rfl⟩ hK hP [0, 1, 2, 3] rfl rfl rfl rfl rfl hl.1 (Nat.le_of_ble_eq_true rfl) dX8_whyNoPlace_2 (fun r1 p_r1 => ?_)
  refine q_if_ne (tgt := 10) hx hb dX8_whyNoPlace_5 (by decide) rfl (fun b_5 k_5 => ?_) (fun b_5 k_5 => ?_)
  · have q_5 := bP.t p_r1 b_5
    refine lv_aload_n hx hb dX8_whyNoPlace_10 rfl (lv_at hl 0 rfl) ?_
    refine lv_iload_n hx hb dX8_whyNoPlace_11 rfl (lv_at hl 1 rfl) ?_
    refine PurI.cv (As := [.int tray]) (kX8_isMissing l g a_d I_d J_d tray (by omega)) fx (gUV (uT _) u_272 u_273 u_274 u_23 u_275) rfl hdX8_isMissing ⟨Nat.le_of_ble_eq_true rfl, Nat.le_of_ble_eq_true rfl⟩ hK hP [0, 1, 2, 3] rfl rfl rfl rfl rfl hl.1 (Nat.le_of_ble_eq_true rfl) dX8_whyNoPlace_12 (fun r2 p_r2 => ?_)
    refine q_if_eq (tgt := 20) hx hb dX8_whyNoPlace_15 (by decide) rfl (fun b_15 k_15 => ?_) (fun b_15 k_15 => ?_)
    · have q_15 := bP.f p_r2 b_15
      refine lv_iload_n hx hb dX8_whyNoPlace_20 rfl (lv_at hl 2 rfl) ?_
      refine q_if_lt (tgt := 34) hx hb dX8_whyNoPlace_21 (by decide) rfl (fun k_21 => ?_) (fun k_21 => ?_)
      · refine lv_iconst (v := 3) hx hb dX8_whyNoPlace_34 (by decide) ?_
        refine lv_goto (tgt := 39) hx hb dX8_whyNoPlace_35 (by decide) ?_
        have lr : (3 : Int32).toInt = 3 := by decide
        exact hret 39 ls (3 : Int32) dX8_whyNoPlace_39 (by omega)
      · refine lv_iload_n hx hb dX8_whyNoPlace_24 rfl (lv_at hl 2 rfl) ?_
        refine lv_aload_n hx hb dX8_whyNoPlace_25 rfl (lv_at hl 0 rfl) ?_
        refine va_get (D := g.1) (ci := 8) (v := .ref (a_d 3)) (C := RX8) (T := TX8) (N := 3) hx hb hi_X8 (fun _ h => h) hown hK.1 hP 0 rfl rfl 2 (by decide) hf_19 (fun _ h9 => h9) rfl dX8_whyNoPlace_26 ?_
        refine lv_iload_n hx hb dX8_whyNoPlace_29 rfl (lv_at hl 1 rfl) ?_
        have n_30 : vp_in tray 4 := (t_in (by omega))
        refine va_iald hx hb hK.1 hP 3 0 rfl rfl n_30 dX8_whyNoPlace_30 ?_
        refine q_nm (fun x3 e_x3 => ?_)
        have e_x3 : x3 = (I_d 3) tray.toNatClampNeg := e_x3
        have g_x3 : x3.toInt = ((I_d 3) tray.toNatClampNeg).toInt := congrArg _ e_x3
        have f_x3 := DI.sz hDI tray.toNatClampNeg
        rw [← e_x3] at f_x3
        refine q_icmp_lt (tgt := 38) hx hb dX8_whyNoPlace_31 (by decide) rfl rfl (fun k_31 => ?_) (fun k_31 => ?_)
        · refine lv_iconst (v := 0) hx hb dX8_whyNoPlace_38 (by decide) ?_
          exact hret 39 ls (0 : Int32) dX8_whyNoPlace_39 (by first | omega | (rw [← e_x3]; omega))
        · refine lv_iconst (v := 3) hx hb dX8_whyNoPlace_34 (by decide) ?_
          refine lv_goto (tgt := 39) hx hb dX8_whyNoPlace_35 (by decide) ?_
          have lr : (3 : Int32).toInt = 3 := by decide
          exact hret 39 ls (3 : Int32) dX8_whyNoPlace_39 (by first | omega | (rw [← e_x3]; omega))
    · have q_15 := bP.t p_r2 b_15
      refine lv_iconst (v := 2) hx hb dX8_whyNoPlace_18 (by decide) ?_
      have lr : (2 : Int32).toInt = 2 := by decide
      exact hret 19 ls (2 : Int32) dX8_whyNoPlace_19 (by omega)
  · have q_5 := bP.f p_r1 b_5
    refine lv_iconst (v := 1) hx hb dX8_whyNoPlace_8 (by decide) ?_
    have lr : (1 : Int32).toInt = 1 := by decide
    exact hret 9 ls (1 : Int32) dX8_whyNoPlace_9 (by omega)

set_option maxHeartbeats 4000000 in
set_option maxRecDepth 100000 in
theorem kX8_lay (l : Launch) (g : gG) (a_d : Nat → Nat) (I_d : Nat → Nat → Int32) (J_d : Nat → Nat → Int64) (tray : Int32) (sort : Int32) (many : Int32) (h_t : 0 ≤ tray.toInt ∧ tray.toInt < 4) (h_m : 0 ≤ many.toInt ∧ many.toInt ≤ 60) (hDI : DI I_d) : EffV l g yX8_lay wsX8_lay 0 [.ref (a_d 0), .int tray, .int sort, .int many] (wX8 g a_d I_d J_d) (fun (u : ((Nat → Nat → Int32) × (Nat → Nat → Int64))) => wX8 g a_d (u.1) (u.2)) (fun (u : ((Nat → Nat → Int32) × (Nat → Nat → Int64))) => DI (u.1) ∧ (u.1) 2 = upd (I_d 2) tray.toNatClampNeg sort ∧ (u.1) 3 = upd (I_d 3) tray.toNatClampNeg many ∧ ∀ j : Nat, (u.2) 1 j = if tray.toInt * 60 ≤ (j : Int) ∧ (j : Int) < tray.toInt * 60 + many.toInt then 0 else J_d 1 j) := by
  refine EffV.st (cc := cX8_lay) (maxL := 5) (by decide) rfl (Nat.le_of_ble_eq_true rfl) (fun p e s m args below meth c A Q ls fx hK hP hD hA hS hl hret => ?_)
  have hx := fx.1
  have hb := fx.2.1
  have hml := fx.2.2.1
  have hown := fx.2.2.2.1
  have hts := fx.2.2.2.2
  have hl : lv_has ls 5 [(0, .ref (a_d 0)), (1, .int tray), (2, .int sort), (3, .int many)] := hl
  have hP : va_P g.1 vwCl (wX8 g a_d I_d J_d) s.heap := hP
  have hf_11 := hts _ (uT _ _ u_69)
  have hf_15 := hts _ (uT _ _ u_70)
  have hf_19 := hts _ (uT _ _ u_71)
  have hi_X8 : ∀ w ∈ wsX80, w.before args s = true := fun w h => hts w (uT _ w (u_wsX80 w h))
  have lm1 : (-1 : Int32).toInt = -1 := by decide
  have lm0 : (0 : Int32).toInt = 0 := by decide
  have lm2 : (1 : Int32).toInt = 1 := by decide
  refine lv_aload_n hx hb dX8_lay_0 rfl (lv_at hl 0 rfl) ?_
  refine va_get (D := g.1) (ci := 8) (v := .ref (a_d 2)) (C := RX8) (T := TX8) (N := 3) hx hb hi_X8 (fun _ h => h) hown hK.1 hP 0 rfl rfl 1 (by decide) hf_15 (fun _ h9 => h9) rfl dX8_lay_1 ?_
  refine lv_iload_n hx hb dX8_lay_4 rfl (lv_at hl 1 rfl) ?_
  refine lv_iload_n hx hb dX8_lay_5 rfl (lv_at hl 2 rfl) ?_
  have n_6 : vp_in tray 4 := (t_in (by omega))
  obtain ⟨f1, e_f1⟩ : ∃ z, z = upd (I_d 2) tray.toNatClampNeg sort := ⟨_, rfl⟩
  refine va_iast hx hb hK.1 hP hD hS 2 0 rfl rfl n_6 dX8_lay_6 (fun H locs hP hD hS => ?_)
  have hP : va_P g.1 vwCl (wX8 g a_d (uR I_d 2 f1) J_d) H := by rw [e_f1]; exact hP
  have hD : va_D A (wX8 g a_d (uR I_d 2 f1) J_d) := by rw [e_f1]; exact hD
  refine lv_aload_n hx hb dX8_lay_7 rfl (lv_at hl 0 rfl) ?_
  refine va_get (D := g.1) (ci := 8) (v := .ref (a_d 3)) (C := RX8) (T := TX8) (N := 3) hx hb hi_X8 (fun _ h => h) hown hK.1 hP 0 rfl rfl 2 (by decide) hf_19 (fun _ h9 => h9) rfl dX8_lay_8 ?_
  refine lv_iload_n hx hb dX8_lay_11 rfl (lv_at hl 1 rfl) ?_
  refine lv_iload_n hx hb dX8_lay_12 rfl (lv_at hl 3 rfl) ?_
  have n_13 : vp_in tray 4 := (t_in (by omega))
  obtain ⟨f2, e_f2⟩ : ∃ z, z = upd (I_d 3) tray.toNatClampNeg many := ⟨_, rfl⟩
  refine va_iast hx hb hK.1 hP hD hS 3 0 rfl rfl n_13 dX8_lay_13 (fun H locs hP hD hS => ?_)
  have hP : va_P g.1 vwCl (wX8 g a_d (uR (uR I_d 2 f1) 3 f2) J_d) H := by rw [e_f2]; exact hP
  have hD : va_D A (wX8 g a_d (uR (uR I_d 2 f1) 3 f2) J_d) := by rw [e_f2]; exact hD
  refine lv_iconst (v := 0) hx hb dX8_lay_14 (by decide) ?_
  refine lv_istore (lv' := [(4, .int (0 : Int32)), (0, .ref (a_d 0)), (1, .int tray), (2, .int sort), (3, .int many)]) hx hb dX8_lay_15 hl (by decide) rfl (fun ls hl => ?_)
  have L17 : ∀ (nn : Nat) (v4_17 : Int32) (J_d_17 : Nat → Nat → Int64), (hv_17 : 0 ≤ v4_17.toInt ∧ v4_17.toInt ≤ many.toInt) → (hj_17 : ∀ j : Nat, J_d_17 1 j = if tray.toInt * 60 ≤ (j : Int) ∧ (j : Int) < tray.toInt * 60 + v4_17.toInt then 0 else J_d 1 j) → ((61 - v4_17.toInt) < (nn : Int)) → ∀ (H : Heap) (locs : List Loc), va_P g.1 vwCl (wX8 g a_d (uR (uR I_d 2 f1) 3 f2) J_d_17) H → va_D A (wX8 g a_d (uR (uR I_d 2 f1) 3 f2) J_d_17) → va_S A s.heap H locs → ∀ ls : Array Slot, lv_has ls 5 [(4, .int v4_17), (0, .ref (a_d 0)), (1, .int tray), (2, .int sort), (3, .int many)] → W p l e (rm 0) s m args below meth c H locs 0 0 Q (F0 m 17 ls []) := by
    intro n_17
    induction n_17 with
    | zero =>
      intro v4_17 J_d_17 hv_17 hj_17 hms_17 H locs hP hD hS ls hl
      exfalso; omega
    | succ n_17 ih_17 =>
      intro v4_17 J_d_17 hv_17 hj_17 hms_17 H locs hP hD hS ls hl
      refine lv_iload hx hb dX8_lay_17 (lv_at hl 0 rfl) ?_
      refine lv_iload_n hx hb dX8_lay_19 rfl (lv_at hl 4 rfl) ?_
      refine q_icmp_ge (tgt := 42) hx hb dX8_lay_20 (by decide) rfl rfl (fun k_20 => ?_) (fun k_20 => ?_)
      · refine hret 42 ls _ _ ((uR (uR I_d 2 f1) 3 f2), J_d_17) dX8_lay_42 hS hP hD ?_
        exact ⟨by intro j; simp only [uR]; rw [e_f2]; exact upd_all (P := fun z => -1 ≤ z.toInt ∧ z.toInt ≤ 60) hDI (by omega) j, by simp [uR, e_f1], by simp [uR, e_f2], fun j => by rw [← (by omega : v4_17.toInt = many.toInt)]; exact hj_17 j⟩
      · refine lv_aload_n hx hb dX8_lay_23 rfl (lv_at hl 1 rfl) ?_
        refine va_get (D := g.1) (ci := 8) (v := .ref (a_d 1)) (C := RX8) (T := TX8) (N := 3) hx hb hi_X8 (fun _ h => h) hown hK.1 hP 0 rfl rfl 0 (by decide) hf_11 (fun _ h9 => h9) rfl dX8_lay_24 ?_
        refine lv_iload_n hx hb dX8_lay_27 rfl (lv_at hl 2 rfl) ?_
        refine lv_bipush (v := 60) hx hb dX8_lay_28 (by decide) ?_
        refine r_imul hx hb dX8_lay_30 rfl (by decide : (60 : Int32).toInt = 60) (fun x3 e_x3 t_x3 => ?_)
        try have t_x3 := t_x3 (by omega)
        refine lv_iload hx hb dX8_lay_31 (lv_at hl 0 rfl) ?_
        refine r_iadd hx hb dX8_lay_33 rfl rfl (fun x4 e_x4 t_x4 => ?_)
        try have t_x4 := t_x4 (by omega)
        refine lv_lconst (v := 0) hx hb dX8_lay_34 (by decide) ?_
        have n_35 : vp_in x4 240 := (t_in (by omega))
        obtain ⟨f5, e_f5⟩ : ∃ z, z = vp_updL (J_d_17 1) x4.toNatClampNeg (0 : Int64) := ⟨_, rfl⟩
        refine va_last hx hb hK.1 hP hD hS 1 1 rfl rfl n_35 dX8_lay_35 (fun H locs hP hD hS => ?_)
        have hP : va_P g.1 vwCl (wX8 g a_d (uR (uR I_d 2 f1) 3 f2) (vR J_d_17 1 f5)) H := by rw [e_f5]; exact hP
        have hD : va_D A (wX8 g a_d (uR (uR I_d 2 f1) 3 f2) (vR J_d_17 1 f5)) := by rw [e_f5]; exact hD
        refine r_iinc (lv' := fun i6 => [(4, .int i6), (0, .ref (a_d 0)), (1, .int tray), (2, .int sort), (3, .int many)]) hx hb dX8_lay_36 hl (k := 0) rfl (by decide) rfl (by decide) (fun _ => rfl) (fun i6 e_i6 t_i6 ls hl => ?_)
        try have t_i6 := t_i6 (by omega)
        refine lv_goto (tgt := 17) hx hb dX8_lay_39 (by decide) ?_
        exact ih_17 i6 (vR J_d_17 1 f5) (by omega) (fun j => lay_step hj_17 e_f5 (by show (((x4).toInt.toNat : Nat) : Int) = _; omega) (by omega) (by omega) j) (by omega) _ _ hP hD hS ls hl
  exact L17 ((61 - (0 : Int32).toInt) + 1).toNat (0 : Int32) J_d (by omega) (fun j => by rw [if_neg (by rw [lm0]; omega)]) (by omega) _ _ hP hD hS ls hl

set_option maxHeartbeats 4000000 in
set_option maxRecDepth 100000 in
theorem kX8_put (l : Launch) (g : gG) (a_d : Nat → Nat) (I_d : Nat → Nat → Int32) (J_d : Nat → Nat → Int64) (tray : Int32) (place : Int32) (v : Int64) (h_t : 0 ≤ tray.toInt ∧ tray.toInt < 4) (h_p : 0 ≤ place.toInt ∧ place.toInt < 60) : EffV l g yX8_put wsX8_put 0 [.ref (a_d 0), .int tray, .int place, .long v] (wX8 g a_d I_d J_d) (fun (u : (Nat → Nat → Int64)) => wX8 g a_d I_d u) (fun (u : (Nat → Nat → Int64)) => (u) 1 = vp_updL (J_d 1) (tray.toInt * 60 + place.toInt).toNat (cutL v (I_d 2 tray.toNatClampNeg))) := by
  refine EffV.st (cc := cX8_put) (maxL := 7) (by decide) rfl (Nat.le_of_ble_eq_true rfl) (fun p e s m args below meth c A Q ls fx hK hP hD hA hS hl hret => ?_)
  have hx := fx.1
  have hb := fx.2.1
  have hml := fx.2.2.1
  have hown := fx.2.2.2.1
  have hts := fx.2.2.2.2
  have hl : lv_has ls 7 [(0, .ref (a_d 0)), (1, .int tray), (2, .int place), (3, .long v)] := hl
  have hP : va_P g.1 vwCl (wX8 g a_d I_d J_d) s.heap := hP
  have hf_11 := hts _ (uT _ _ u_69)
  have hf_15 := hts _ (uT _ _ u_70)
  have hi_X8 : ∀ w ∈ wsX80, w.before args s = true := fun w h => hts w (uT _ w (u_wsX80 w h))
  have lm1 : (-1 : Int32).toInt = -1 := by decide
  have lm0 : (0 : Int32).toInt = 0 := by decide
  have lm2 : (1 : Int32).toInt = 1 := by decide
  refine lv_lload_n hx hb dX8_put_0 rfl (lv_at hl 3 rfl) ?_
  refine lv_lstore (lv' := [(5, .long v), (0, .ref (a_d 0)), (1, .int tray), (2, .int place), (3, .long v)]) hx hb dX8_put_1 hl (by decide) rfl (fun ls hl => ?_)
  refine lv_aload_n hx hb dX8_put_3 rfl (lv_at hl 1 rfl) ?_
  refine va_get (D := g.1) (ci := 8) (v := .ref (a_d 2)) (C := RX8) (T := TX8) (N := 3) hx hb hi_X8 (fun _ h => h) hown hK.1 hP 0 rfl rfl 1 (by decide) hf_15 (fun _ h9 => h9) rfl dX8_put_4 ?_
  refine lv_iload_n hx hb dX8_put_7 rfl (lv_at hl 2 rfl) ?_
  have n_8 : vp_in tray 4 := (t_in (by omega))
  refine va_iald hx hb hK.1 hP 2 0 rfl rfl n_8 dX8_put_8 ?_
  refine q_nm (fun x1 e_x1 => ?_)
  have e_x1 : x1 = (I_d 2) tray.toNatClampNeg := e_x1
  have g_x1 : x1.toInt = ((I_d 2) tray.toNatClampNeg).toInt := congrArg _ e_x1
  refine q_if_ne (tgt := 21) hx hb dX8_put_9 (by decide) rfl (fun b_9 k_9 => ?_) (fun b_9 k_9 => ?_)
  · refine lv_aload_n hx hb dX8_put_21 rfl (lv_at hl 1 rfl) ?_
    refine va_get (D := g.1) (ci := 8) (v := .ref (a_d 2)) (C := RX8) (T := TX8) (N := 3) hx hb hi_X8 (fun _ h => h) hown hK.1 hP 0 rfl rfl 1 (by decide) hf_15 (fun _ h9 => h9) rfl dX8_put_22 ?_
    refine lv_iload_n hx hb dX8_put_25 rfl (lv_at hl 2 rfl) ?_
    have n_26 : vp_in tray 4 := (t_in (by omega))
    refine va_iald hx hb hK.1 hP 2 0 rfl rfl n_26 dX8_put_26 ?_
    refine q_nm (fun x2 e_x2 => ?_)
    have e_x2 : x2 = (I_d 2) tray.toNatClampNeg := e_x2
    have g_x2 : x2.toInt = ((I_d 2) tray.toNatClampNeg).toInt := congrArg _ e_x2
    refine lv_iconst (v := 1) hx hb dX8_put_27 (by decide) ?_
    refine q_icmp_ne (tgt := 40) hx hb dX8_put_28 (by decide) rfl (by decide : (1 : Int32).toInt = 1) (fun k_28 => ?_) (fun k_28 => ?_)
    · refine lv_aload_n hx hb dX8_put_40 rfl (lv_at hl 1 rfl) ?_
      refine va_get (D := g.1) (ci := 8) (v := .ref (a_d 2)) (C := RX8) (T := TX8) (N := 3) hx hb hi_X8 (fun _ h => h) hown hK.1 hP 0 rfl rfl 1 (by decide) hf_15 (fun _ h9 => h9) rfl dX8_put_41 ?_
      refine lv_iload_n hx hb dX8_put_44 rfl (lv_at hl 2 rfl) ?_
      have n_45 : vp_in tray 4 := (t_in (by omega))
      refine va_iald hx hb hK.1 hP 2 0 rfl rfl n_45 dX8_put_45 ?_
      refine q_nm (fun x3 e_x3 => ?_)
      have e_x3 : x3 = (I_d 2) tray.toNatClampNeg := e_x3
      have g_x3 : x3.toInt = ((I_d 2) tray.toNatClampNeg).toInt := congrArg _ e_x3
      refine lv_iconst (v := 2) hx hb dX8_put_46 (by decide) ?_
      refine q_icmp_ne (tgt := 55) hx hb dX8_put_47 (by decide) rfl (by decide : (2 : Int32).toInt = 2) (fun k_47 => ?_) (fun k_47 => ?_)
      · refine lv_aload_n hx hb dX8_put_55 rfl (lv_at hl 1 rfl) ?_
        refine va_get (D := g.1) (ci := 8) (v := .ref (a_d 1)) (C := RX8) (T := TX8) (N := 3) hx hb hi_X8 (fun _ h => h) hown hK.1 hP 0 rfl rfl 0 (by decide) hf_11 (fun _ h9 => h9) rfl dX8_put_56 ?_
        refine lv_iload_n hx hb dX8_put_59 rfl (lv_at hl 2 rfl) ?_
        refine lv_bipush (v := 60) hx hb dX8_put_60 (by decide) ?_
        refine r_imul hx hb dX8_put_62 rfl (by decide : (60 : Int32).toInt = 60) (fun x4 e_x4 t_x4 => ?_)
        try have t_x4 := t_x4 (by omega)
        refine lv_iload_n hx hb dX8_put_63 rfl (lv_at hl 3 rfl) ?_
        refine r_iadd hx hb dX8_put_64 rfl rfl (fun x5 e_x5 t_x5 => ?_)
        try have t_x5 := t_x5 (by omega)
        refine lv_lload hx hb dX8_put_65 (lv_at hl 0 rfl) ?_
        have n_67 : vp_in x5 240 := (t_in (by omega))
        obtain ⟨f6, e_f6⟩ : ∃ z, z = vp_updL (J_d 1) x5.toNatClampNeg v := ⟨_, rfl⟩
        refine va_last hx hb hK.1 hP hD hS 1 1 rfl rfl n_67 dX8_put_67 (fun H locs hP hD hS => ?_)
        have hP : va_P g.1 vwCl (wX8 g a_d I_d (vR J_d 1 f6)) H := by rw [e_f6]; exact hP
        have hD : va_D A (wX8 g a_d I_d (vR J_d 1 f6)) := by rw [e_f6]; exact hD
        refine hret 68 ls _ _ (vR J_d 1 f6) dX8_put_68 hS hP hD ?_
        exact (put_ok e_f6 (by show (x5).toInt.toNat = _; congr 1; omega) (by have lm3 : (2 : Int32).toInt = 2 := (by decide); unfold cutL; rw [← e_x1]; first | (rw [if_pos b_9]; subst_vars; rfl) | (rw [if_neg b_9, if_pos (t_inj (by omega))]; subst_vars; rfl) | (rw [if_neg b_9, if_neg (fun h => by have := congrArg Int32.toInt h; omega), if_pos (t_inj (by omega))]; subst_vars; rfl) | (rw [if_neg b_9, if_neg (fun h => by have := congrArg Int32.toInt h; omega), if_neg (fun h => by have := congrArg Int32.toInt h; omega)])))
      · refine lv_lload_n hx hb dX8_put_50 rfl (lv_at hl 4 rfl) ?_
        refine lv_l2i hx hb dX8_put_51 rfl ?_
        refine q_nm (fun x7 e_x7 => ?_)
        refine lv_i2l hx hb dX8_put_52 rfl ?_
        refine q_nml (fun w8 e_w8 => ?_)
        refine lv_lstore (lv' := [(5, .long w8), (0, .ref (a_d 0)), (1, .int tray), (2, .int place), (3, .long v)]) hx hb dX8_put_53 hl (by decide) rfl (fun ls hl => ?_)
        refine lv_aload_n hx hb dX8_put_55 rfl (lv_at hl 1 rfl) ?_
        refine va_get (D := g.1) (ci := 8) (v := .ref (a_d 1)) (C := RX8) (T := TX8) (N := 3) hx hb hi_X8 (fun _ h => h) hown hK.1 hP 0 rfl rfl 0 (by decide) hf_11 (fun _ h9 => h9) rfl dX8_put_56 ?_
        refine lv_iload_n hx hb dX8_put_59 rfl (lv_at hl 2 rfl) ?_
        refine lv_bipush (v := 60) hx hb dX8_put_60 (by decide) ?_
        refine r_imul hx hb dX8_put_62 rfl (by decide : (60 : Int32).toInt = 60) (fun x9 e_x9 t_x9 => ?_)
        try have t_x9 := t_x9 (by omega)
        refine lv_iload_n hx hb dX8_put_63 rfl (lv_at hl 3 rfl) ?_
        refine r_iadd hx hb dX8_put_64 rfl rfl (fun x10 e_x10 t_x10 => ?_)
        try have t_x10 := t_x10 (by omega)
        refine lv_lload hx hb dX8_put_65 (lv_at hl 0 rfl) ?_
        have n_67 : vp_in x10 240 := (t_in (by omega))
        obtain ⟨f11, e_f11⟩ : ∃ z, z = vp_updL (J_d 1) x10.toNatClampNeg w8 := ⟨_, rfl⟩
        refine va_last hx hb hK.1 hP hD hS 1 1 rfl rfl n_67 dX8_put_67 (fun H locs hP hD hS => ?_)
        have hP : va_P g.1 vwCl (wX8 g a_d I_d (vR J_d 1 f11)) H := by rw [e_f11]; exact hP
        have hD : va_D A (wX8 g a_d I_d (vR J_d 1 f11)) := by rw [e_f11]; exact hD
        refine hret 68 ls _ _ (vR J_d 1 f11) dX8_put_68 hS hP hD ?_
        exact (put_ok e_f11 (by show (x10).toInt.toNat = _; congr 1; omega) (by have lm3 : (2 : Int32).toInt = 2 := (by decide); unfold cutL; rw [← e_x1]; first | (rw [if_pos b_9]; subst_vars; rfl) | (rw [if_neg b_9, if_pos (t_inj (by omega))]; subst_vars; rfl) | (rw [if_neg b_9, if_neg (fun h => by have := congrArg Int32.toInt h; omega), if_pos (t_inj (by omega))]; subst_vars; rfl) | (rw [if_neg b_9, if_neg (fun h => by have := congrArg Int32.toInt h; omega), if_neg (fun h => by have := congrArg Int32.toInt h; omega)])))
    · refine lv_lload_n hx hb dX8_put_31 rfl (lv_at hl 4 rfl) ?_
      refine lv_l2i hx hb dX8_put_32 rfl ?_
      refine q_nm (fun x12 e_x12 => ?_)
      refine lv_i2s hx hb dX8_put_33 rfl ?_
      refine q_nm (fun x13 e_x13 => ?_)
      refine lv_i2l hx hb dX8_put_34 rfl ?_
      refine q_nml (fun w14 e_w14 => ?_)
      refine lv_lstore (lv' := [(5, .long w14), (0, .ref (a_d 0)), (1, .int tray), (2, .int place), (3, .long v)]) hx hb dX8_put_35 hl (by decide) rfl (fun ls hl => ?_)
      refine lv_goto (tgt := 55) hx hb dX8_put_37 (by decide) ?_
      refine lv_aload_n hx hb dX8_put_55 rfl (lv_at hl 1 rfl) ?_
      refine va_get (D := g.1) (ci := 8) (v := .ref (a_d 1)) (C := RX8) (T := TX8) (N := 3) hx hb hi_X8 (fun _ h => h) hown hK.1 hP 0 rfl rfl 0 (by decide) hf_11 (fun _ h9 => h9) rfl dX8_put_56 ?_
      refine lv_iload_n hx hb dX8_put_59 rfl (lv_at hl 2 rfl) ?_
      refine lv_bipush (v := 60) hx hb dX8_put_60 (by decide) ?_
      refine r_imul hx hb dX8_put_62 rfl (by decide : (60 : Int32).toInt = 60) (fun x15 e_x15 t_x15 => ?_)
      try have t_x15 := t_x15 (by omega)
      refine lv_iload_n hx hb dX8_put_63 rfl (lv_at hl 3 rfl) ?_
      refine r_iadd hx hb dX8_put_64 rfl rfl (fun x16 e_x16 t_x16 => ?_)
      try have t_x16 := t_x16 (by omega)
      refine lv_lload hx hb dX8_put_65 (lv_at hl 0 rfl) ?_
      have n_67 : vp_in x16 240 := (t_in (by omega))
      obtain ⟨f17, e_f17⟩ : ∃ z, z = vp_updL (J_d 1) x16.toNatClampNeg w14 := ⟨_, rfl⟩
      refine va_last hx hb hK.1 hP hD hS 1 1 rfl rfl n_67 dX8_put_67 (fun H locs hP hD hS => ?_)
      have hP : va_P g.1 vwCl (wX8 g a_d I_d (vR J_d 1 f17)) H := by rw [e_f17]; exact hP
      have hD : va_D A (wX8 g a_d I_d (vR J_d 1 f17)) := by rw [e_f17]; exact hD
      refine hret 68 ls _ _ (vR J_d 1 f17) dX8_put_68 hS hP hD ?_
      exact (put_ok e_f17 (by show (x16).toInt.toNat = _; congr 1; omega) (by have lm3 : (2 : Int32).toInt = 2 := (by decide); unfold cutL; rw [← e_x1]; first | (rw [if_pos b_9]; subst_vars; rfl) | (rw [if_neg b_9, if_pos (t_inj (by omega))]; subst_vars; rfl) | (rw [if_neg b_9, if_neg (fun h => by have := congrArg Int32.toInt h; omega), if_pos (t_inj (by omega))]; subst_vars; rfl) | (rw [if_neg b_9, if_neg (fun h => by have := congrArg Int32.toInt h; omega), if_neg (fun h => by have := congrArg Int32.toInt h; omega)])))
  · refine lv_lload_n hx hb dX8_put_12 rfl (lv_at hl 4 rfl) ?_
    refine lv_l2i hx hb dX8_put_13 rfl ?_
    refine q_nm (fun x18 e_x18 => ?_)
    refine lv_i2b hx hb dX8_put_14 rfl ?_
    refine q_nm (fun x19 e_x19 => ?_)
    refine lv_i2l hx hb dX8_put_15 rfl ?_
    refine q_nml (fun w20 e_w20 => ?_)
    refine lv_lstore (lv' := [(5, .long w20), (0, .ref (a_d 0)), (1, .int tray), (2, .int place), (3, .long v)]) hx hb dX8_put_16 hl (by decide) rfl (fun ls hl => ?_)
    refine lv_goto (tgt := 55) hx hb dX8_put_18 (by decide) ?_
    refine lv_aload_n hx hb dX8_put_55 rfl (lv_at hl 1 rfl) ?_
    refine va_get (D := g.1) (ci := 8) (v := .ref (a_d 1)) (C := RX8) (T := TX8) (N := 3) hx hb hi_X8 (fun _ h => h) hown hK.1 hP 0 rfl rfl 0 (by decide) hf_11 (fun _ h9 => h9) rfl dX8_put_56 ?_
    refine lv_iload_n hx hb dX8_put_59 rfl (lv_at hl 2 rfl) ?_
    refine lv_bipush (v := 60) hx hb dX8_put_60 (by decide) ?_
    refine r_imul hx hb dX8_put_62 rfl (by decide : (60 : Int32).toInt = 60) (fun x21 e_x21 t_x21 => ?_)
    try have t_x21 := t_x21 (by omega)
    refine lv_iload_n hx hb dX8_put_63 rfl (lv_at hl 3 rfl) ?_
    refine r_iadd hx hb dX8_put_64 rfl rfl (fun x22 e_x22 t_x22 => ?_)
    try have t_x22 := t_x22 (by omega)
    refine lv_lload hx hb dX8_put_65 (lv_at hl 0 rfl) ?_
    have n_67 : vp_in x22 240 := (t_in (by omega))
    obtain ⟨f23, e_f23⟩ : ∃ z, z = vp_updL (J_d 1) x22.toNatClampNeg w20 := ⟨_, rfl⟩
    refine va_last hx hb hK.1 hP hD hS 1 1 rfl rfl n_67 dX8_put_67 (fun H locs hP hD hS => ?_)
    have hP : va_P g.1 vwCl (wX8 g a_d I_d (vR J_d 1 f23)) H := by rw [e_f23]; exact hP
    have hD : va_D A (wX8 g a_d I_d (vR J_d 1 f23)) := by rw [e_f23]; exact hD
    refine hret 68 ls _ _ (vR J_d 1 f23) dX8_put_68 hS hP hD ?_
    exact (put_ok e_f23 (by show (x22).toInt.toNat = _; congr 1; omega) (by have lm3 : (2 : Int32).toInt = 2 := (by decide); unfold cutL; rw [← e_x1]; first | (rw [if_pos b_9]; subst_vars; rfl) | (rw [if_neg b_9, if_pos (t_inj (by omega))]; subst_vars; rfl) | (rw [if_neg b_9, if_neg (fun h => by have := congrArg Int32.toInt h; omega), if_pos (t_inj (by omega))]; subst_vars; rfl) | (rw [if_neg b_9, if_neg (fun h => by have := congrArg Int32.toInt h; omega), if_neg (fun h => by have := congrArg Int32.toInt h; omega)])))

set_option maxHeartbeats 4000000 in
set_option maxRecDepth 100000 in
theorem kX8_numberAt (l : Launch) (g : gG) (a_d : Nat → Nat) (I_d : Nat → Nat → Int32) (J_d : Nat → Nat → Int64) (tray : Int32) (place : Int32) (h_t : 0 ≤ tray.toInt ∧ tray.toInt < 4) (h_p : 0 ≤ place.toInt ∧ place.toInt < 60) : PurL l g yX8_numberAt wsX8_numberAt 0 [.ref (a_d 0), .int tray, .int place] (wX8 g a_d I_d J_d) (fun r => r = J_d 1 (tray.toInt * 60 + place.toInt).toNat) := by
  refine PurL.st (cc := cX8_numberAt) (maxL := 3) (by decide) rfl (Nat.le_of_ble_eq_true rfl) (fun p e s m args below meth c Q ls fx hK hP hl hret => ?_)
  have hx := fx.1
  have hb := fx.2.1
  have hml := fx.2.2.1
  have hown := fx.2.2.2.1
  have hts := fx.2.2.2.2
  have hl : lv_has ls 3 [(0, .ref (a_d 0)), (1, .int tray), (2, .int place)] := hl
  have hP : va_P g.1 vwCl (wX8 g a_d I_d J_d) s.heap := hP
  have hf_11 := hts _ (uT _ _ u_69)
  have hi_X8 : ∀ w ∈ wsX80, w.before args s = true := fun w h => hts w (uT _ w (u_wsX80 w h))
  have lm1 : (-1 : Int32).toInt = -1 := by decide
  have lm0 : (0 : Int32).toInt = 0 := by decide
  have lm2 : (1 : Int32).toInt = 1 := by decide
  refine lv_aload_n hx hb dX8_numberAt_0 rfl (lv_at hl 0 rfl) ?_
  refine va_get (D := g.1) (ci := 8) (v := .ref (a_d 1)) (C := RX8) (T := TX8) (N := 3) hx hb hi_X8 (fun _ h => h) hown hK.1 hP 0 rfl rfl 0 (by decide) hf_11 (fun _ h9 => h9) rfl dX8_numberAt_1 ?_
  refine lv_iload_n hx hb dX8_numberAt_4 rfl (lv_at hl 1 rfl) ?_
  refine lv_bipush (v := 60) hx hb dX8_numberAt_5 (by decide) ?_
  refine r_imul hx hb dX8_numberAt_7 rfl (by decide : (60 : Int32).toInt = 60) (fun x1 e_x1 t_x1 => ?_)
  try have t_x1 := t_x1 (by omega)
  refine lv_iload_n hx hb dX8_numberAt_8 rfl (lv_at hl 2 rfl) ?_
  refine r_iadd hx hb dX8_numberAt_9 rfl rfl (fun x2 e_x2 t_x2 => ?_)
  try have t_x2 := t_x2 (by omega)
  have n_10 : vp_in x2 240 := (t_in (by omega))
  refine va_lald hx hb hK.1 hP 1 1 rfl rfl n_10 dX8_numberAt_10 ?_
  refine q_nml (fun w3 e_w3 => ?_)
  have e_w3 : w3 = (J_d 1) x2.toNatClampNeg := e_w3
  exact hret 11 ls w3 dX8_numberAt_11 (by rw [e_w3]; show J_d 1 (x2.toInt.toNat) = _; rw [t_x2, t_x1])

set_option maxHeartbeats 4000000 in
set_option maxRecDepth 100000 in
theorem kX8_move (l : Launch) (g : gG) (a_d : Nat → Nat) (I_d : Nat → Nat → Int32) (J_d : Nat → Nat → Int64) (fr : Int32) (place : Int32) (to : Int32) (ia : Int32) (many : Int32) (h_f : 0 ≤ fr.toInt ∧ fr.toInt < 4 ∧ 0 ≤ to.toInt ∧ to.toInt < 4 ∧ 0 ≤ place.toInt ∧ 0 ≤ ia.toInt ∧ 0 ≤ many.toInt ∧ place.toInt + many.toInt ≤ 60 ∧ ia.toInt + many.toInt ≤ 60) : EffV l g yX8_move wsX8_move 1 [.ref (a_d 0), .int fr, .int place, .int to, .int ia, .int many] (wX8 g a_d I_d J_d) (fun (u : (Nat → Nat → Int64)) => wX8 g a_d I_d u) (fun (u : (Nat → Nat → Int64)) => (u) 1 = va_cpy (J_d 1) (J_d 1) (fr.toInt * 60 + place.toInt).toNat (to.toInt * 60 + ia.toInt).toNat many.toInt.toNat) := by
  refine EffV.st (cc := cX8_move) (maxL := 6) (by decide) rfl (Nat.le_of_ble_eq_true rfl) (fun p e s m args below meth c A Q ls fx hK hP hD hA hS hl hret => ?_)
  have hx := fx.1
  have hb := fx.2.1
  have hml := fx.2.2.1
  have hown := fx.2.2.2.1
  have hts := fx.2.2.2.2
  have hl : lv_has ls 6 [(0, .ref (a_d 0)), (1, .int fr), (2, .int place), (3, .int to), (4, .int ia), (5, .int many)] := hl
  have hP : va_P g.1 vwCl (wX8 g a_d I_d J_d) s.heap := hP
  have hf_11 := hts _ (uT _ _ u_69)
  have hi_X8 : ∀ w ∈ wsX80, w.before args s = true := fun w h => hts w (uT _ w (u_wsX80 w h))
  have lm1 : (-1 : Int32).toInt = -1 := by decide
  have lm0 : (0 : Int32).toInt = 0 := by decide
  have lm2 : (1 : Int32).toInt = 1 := by decide
  refine lv_aload_n hx hb dX8_move_0 rfl (lv_at hl 0 rfl) ?_
  refine va_get (D := g.1) (ci := 8) (v := .ref (a_d 1)) (C := RX8) (T := TX8) (N := 3) hx hb hi_X8 (fun _ h => h) hown hK.1 hP 0 rfl rfl 0 (by decide) hf_11 (fun _ h9 => h9) rfl dX8_move_1 ?_
  refine lv_iload_n hx hb dX8_move_4 rfl (lv_at hl 1 rfl) ?_
  refine lv_bipush (v := 60) hx hb dX8_move_5 (by decide) ?_
  refine r_imul hx hb dX8_move_7 rfl (by decide : (60 : Int32).toInt = 60) (fun x1 e_x1 t_x1 => ?_)
  try have t_x1 := t_x1 (by omega)
  refine lv_iload_n hx hb dX8_move_8 rfl (lv_at hl 2 rfl) ?_
  refine r_iadd hx hb dX8_move_9 rfl rfl (fun x2 e_x2 t_x2 => ?_)
  try have t_x2 := t_x2 (by omega)
  refine lv_aload_n hx hb dX8_move_10 rfl (lv_at hl 0 rfl) ?_
  refine va_get (D := g.1) (ci := 8) (v := .ref (a_d 1)) (C := RX8) (T := TX8) (N := 3) hx hb hi_X8 (fun _ h => h) hown hK.1 hP 0 rfl rfl 0 (by decide) hf_11 (fun _ h9 => h9) rfl dX8_move_11 ?_
  refine lv_iload_n hx hb dX8_move_14 rfl (lv_at hl 3 rfl) ?_
  refine lv_bipush (v := 60) hx hb dX8_move_15 (by decide) ?_
  refine r_imul hx hb dX8_move_17 rfl (by decide : (60 : Int32).toInt = 60) (fun x3 e_x3 t_x3 => ?_)
  try have t_x3 := t_x3 (by omega)
  refine lv_iload hx hb dX8_move_18 (lv_at hl 4 rfl) ?_
  refine r_iadd hx hb dX8_move_20 rfl rfl (fun x4 e_x4 t_x4 => ?_)
  try have t_x4 := t_x4 (by omega)
  refine lv_iload hx hb dX8_move_21 (lv_at hl 5 rfl) ?_
  obtain ⟨f5, e_f5⟩ : ∃ z, z = va_cpy (J_d 1) (J_d 1) (x2).toNatClampNeg (x4).toNatClampNeg (many).toNatClampNeg := ⟨_, rfl⟩
  refine va_copyl hx hb (hml.trans hl.1.symm) hown (hts _ (uT _ _ u_325)) (hts _ (uT _ _ u_326)) (hts _ (uT _ _ u_327)) (hts _ (uT _ _ u_328)) hK.1 hP hD hS 1 1 1 1 rfl rfl rfl rfl rfl (fun h => by have := t_lt h rfl (by decide : (0 : Int32).toInt = 0); omega) (fun h => by have := t_lt h rfl (by decide : (0 : Int32).toInt = 0); omega) (fun h => by have := t_lt h rfl (by decide : (0 : Int32).toInt = 0); omega) (by show (x2).toInt.toNat + (many).toInt.toNat ≤ _; omega) (by show (x4).toInt.toNat + (many).toInt.toNat ≤ _; omega) (fun _ _ => rfl) (Nat.le_of_ble_eq_true rfl) (Nat.le_of_ble_eq_true rfl) dX8_move_23 (fun H locs hP hD hS => ?_)
  have hP : va_P g.1 vwCl (wX8 g a_d I_d (vR J_d 1 f5)) H := by rw [e_f5]; exact hP
  have hD : va_D A (wX8 g a_d I_d (vR J_d 1 f5)) := by rw [e_f5]; exact hD
  refine hret 26 ls _ _ (vR J_d 1 f5) dX8_move_26 hS hP hD ?_
  exact (by simp only [vR]; rw [e_f5]; show va_cpy _ _ (x2.toInt.toNat) (x4.toInt.toNat) _ = _; rw [t_x2, t_x1, t_x4, t_x3]; rfl)

set_option maxHeartbeats 4000000 in
set_option maxRecDepth 100000 in
theorem kX8_areWithin (l : Launch) (g : gG) (a_d : Nat → Nat) (I_d : Nat → Nat → Int32) (J_d : Nat → Nat → Int64) (tray : Int32) (many : Int32) (least : Int32) (h_t : 0 ≤ tray.toInt ∧ tray.toInt < 4) (h_m : many.toInt ≤ 60) : PurI l g yX8_areWithin wsX8_areWithin 1 [.ref (a_d 0), .int tray, .int many, .int least] (wX8 g a_d I_d J_d) (fun r => bP (∀ k : Nat, (k : Int) < many.toInt → least.toInt ≤ (J_d 1 (tray.toInt * 60 + (k : Int)).toNat).toInt ∧ (J_d 1 (tray.toInt * 60 + (k : Int)).toNat).toInt ≤ 63) (¬ (∀ k : Nat, (k : Int) < many.toInt → least.toInt ≤ (J_d 1 (tray.toInt * 60 + (k : Int)).toNat).toInt ∧ (J_d 1 (tray.toInt * 60 + (k : Int)).toNat).toInt ≤ 63)) r) := by
  refine PurI.sz (cc := cX8_areWithin) (maxL := 7) (by decide) rfl (Nat.le_of_ble_eq_true rfl) (fun p e s m args below meth c Q ls fx hK hP hl hret => ?_)
  have hx := fx.1
  have hb := fx.2.1
  have hml := fx.2.2.1
  have hown := fx.2.2.2.1
  have hts := fx.2.2.2.2
  have hl : lv_has ls 7 [(0, .ref (a_d 0)), (1, .int tray), (2, .int many), (3, .int least)] := hl
  have hP : va_P g.1 vwCl (wX8 g a_d I_d J_d) s.heap := hP
  have lm1 : (-1 : Int32).toInt = -1 := by decide
  have lm0 : (0 : Int32).toInt = 0 := by decide
  have lm2 : (1 : Int32).toInt = 1 := by decide
  refine lv_iconst (v := 0) hx hb dX8_areWithin_0 (by decide) ?_
  refine lv_istore (lv' := [(4, .int (0 : Int32)), (0, .ref (a_d 0)), (1, .int tray), (2, .int many), (3, .int least)]) hx hb dX8_areWithin_1 hl (by decide) rfl (fun ls hl => ?_)
  have L3 : ∀ (nn : Nat) (v4_3 : Int32), (hv_3 : 0 ≤ v4_3.toInt ∧ v4_3.toInt ≤ 60) → (hq_3 : ∀ k : Nat, (k : Int) < v4_3.toInt → least.toInt ≤ (J_d 1 (tray.toInt * 60 + (k : Int)).toNat).toInt ∧ (J_d 1 (tray.toInt * 60 + (k : Int)).toNat).toInt ≤ 63) → ((61 - v4_3.toInt) < (nn : Int)) → ∀ ls : Array Slot, lv_has ls 7 [(4, .int v4_3), (0, .ref (a_d 0)), (1, .int tray), (2, .int many), (3, .int least)] → W p l e (rm 1) s m args below meth c s.heap [] 0 0 Q (F0 m 3 ls []) := by
    intro n_3
    induction n_3 with
    | zero =>
      intro v4_3 hv_3 hq_3 hms_3 ls hl
      exfalso; omega
    | succ n_3 ih_3 =>
      intro v4_3 hv_3 hq_3 hms_3 ls hl
      refine lv_iload hx hb dX8_areWithin_3 (lv_at hl 0 rfl) ?_
      refine lv_iload_n hx hb dX8_areWithin_5 rfl (lv_at hl 3 rfl) ?_
      refine q_icmp_ge (tgt := 43) hx hb dX8_areWithin_6 (by decide) rfl rfl (fun k_6 => ?_) (fun k_6 => ?_)
      · refine lv_iconst (v := 1) hx hb dX8_areWithin_43 (by decide) ?_
        have lr : (1 : Int32).toInt = 1 := by decide
        exact hret 44 ls (1 : Int32) dX8_areWithin_44 (Or.inr rfl) (Or.inl ⟨rfl, fun k hk => hq_3 k (by omega)⟩)
      · refine lv_aload_n hx hb dX8_areWithin_9 rfl (lv_at hl 1 rfl) ?_
        refine lv_iload_n hx hb dX8_areWithin_10 rfl (lv_at hl 2 rfl) ?_
        refine lv_iload hx hb dX8_areWithin_11 (lv_at hl 0 rfl) ?_
        refine PurL.cv (As := [.int tray, .int v4_3]) (kX8_numberAt l g a_d I_d J_d tray v4_3 (by omega) (by omega)) fx (gUV (uT _) u_1309 u_300 u_301 u_23 u_302) rfl hdX8_numberAt ⟨Nat.le_of_ble_eq_true rfl, Nat.le_of_ble_eq_true rfl⟩ hK hP [0, 1, 2, 3] rfl rfl rfl rfl rfl hl.1 (Nat.le_of_ble_eq_true rfl) dX8_areWithin_13 (fun w1 p_w1 => ?_)
        refine lv_lstore (lv' := [(5, .long w1), (4, .int v4_3), (0, .ref (a_d 0)), (1, .int tray), (2, .int many), (3, .int least)]) hx hb dX8_areWithin_16 hl (by decide) rfl (fun ls hl => ?_)
        refine lv_lload hx hb dX8_areWithin_18 (lv_at hl 0 rfl) ?_
        refine lv_iload_n hx hb dX8_areWithin_20 rfl (lv_at hl 5 rfl) ?_
        refine lv_i2l hx hb dX8_areWithin_21 rfl ?_
        refine q_nml (fun w2 e_w2 => ?_)
        refine W.lcmp hx hb dX8_areWithin_22 ?_
        refine q_nm (fun x3 e_x3 => ?_)
        refine q_if_lt (tgt := 35) hx hb dX8_areWithin_23 (by decide) rfl (fun k_23 => ?_) (fun k_23 => ?_)
        · refine lv_iconst (v := 0) hx hb dX8_areWithin_35 (by decide) ?_
          exact hret 36 ls (0 : Int32) dX8_areWithin_36 (Or.inl rfl) (Or.inr ⟨rfl, fun q => by have w := q v4_3.toInt.toNat (by omega); rw [show (tray.toInt * 60 + ((v4_3.toInt.toNat : Nat) : Int)).toNat = (tray.toInt * 60 + v4_3.toInt).toNat by omega, ← p_w1] at w; (have g := cw_lt e_w2 e_x3 k_23; omega)⟩)
        · refine lv_lload hx hb dX8_areWithin_26 (lv_at hl 0 rfl) ?_
          refine lv_ldc2 hx hb hown (hts _ (uT _ _ u_1308)) dX8_areWithin_28 ?_
          refine W.lcmp hx hb dX8_areWithin_31 ?_
          refine q_nm (fun x4 e_x4 => ?_)
          refine q_if_le (tgt := 37) hx hb dX8_areWithin_32 (by decide) rfl (fun k_32 => ?_) (fun k_32 => ?_)
          · refine r_iinc (lv' := fun i5 => [(4, .int i5), (5, .long w1), (0, .ref (a_d 0)), (1, .int tray), (2, .int many), (3, .int least)]) hx hb dX8_areWithin_37 hl (k := 1) rfl (by decide) rfl (by decide) (fun _ => rfl) (fun i5 e_i5 t_i5 ls hl => ?_)
            try have t_i5 := t_i5 (by omega)
            refine lv_goto (tgt := 3) hx hb dX8_areWithin_40 (by decide) ?_
            exact ih_3 i5 (by omega) (tq_ext (P := fun k : Nat => least.toInt ≤ (J_d 1 (tray.toInt * 60 + (k : Int)).toNat).toInt ∧ (J_d 1 (tray.toInt * 60 + (k : Int)).toNat).toInt ≤ 63) hq_3 (by omega) (by omega) (by show least.toInt ≤ (J_d 1 (tray.toInt * 60 + (((v4_3.toInt.toNat : Nat) : Int) : Int)).toNat).toInt ∧ (J_d 1 (tray.toInt * 60 + (((v4_3.toInt.toNat : Nat) : Int) : Int)).toNat).toInt ≤ 63; rw [show (tray.toInt * 60 + ((v4_3.toInt.toNat : Nat) : Int)).toNat = (tray.toInt * 60 + v4_3.toInt).toNat by omega, ← p_w1]; exact ⟨cw_nlt e_w2 e_x3 k_23, cw_ngt e_x4 k_32⟩)) (by omega) ls (lv_sub hl [0, 2, 3, 4, 5] rfl)
          · refine lv_iconst (v := 0) hx hb dX8_areWithin_35 (by decide) ?_
            exact hret 36 ls (0 : Int32) dX8_areWithin_36 (Or.inl rfl) (Or.inr ⟨rfl, fun q => by have w := q v4_3.toInt.toNat (by omega); rw [show (tray.toInt * 60 + ((v4_3.toInt.toNat : Nat) : Int)).toNat = (tray.toInt * 60 + v4_3.toInt).toNat by omega, ← p_w1] at w; first | (have g := cw_lt e_w2 e_x3 k_23; omega) | (have g := cw_gt e_x4 k_32; omega)⟩)
  exact L3 ((61 - (0 : Int32).toInt) + 1).toNat (0 : Int32) (by omega) (fun k q => by rw [lm0] at q; exfalso; omega) (by omega) ls hl

set_option maxHeartbeats 4000000 in
set_option maxRecDepth 100000 in
theorem kX9_leftOf (l : Launch) (g : gG) (a_z : Nat → Nat) (I_z : Nat → Nat → Int32) (cell : Int32) (six : Int32)  : EffI l g yX9_leftOf wsX9_leftOf 0 [.ref (a_z 0), .int cell, .int six] (wX9 g a_z I_z) (fun (u : (Nat → Nat → Int32)) => wX9 g a_z u) (fun r (u : (Nat → Nat → Int32)) => ∀ k, k ≠ 2 → (u) 0 k = I_z 0 k) := by
  refine EffI.st (cc := cX9_leftOf) (maxL := 5) (by decide) rfl (Nat.le_of_ble_eq_true rfl) (fun p e s m args below meth c A Q ls fx hK hP hD hA hS hl hret => ?_)
  have hx := fx.1
  have hb := fx.2.1
  have hml := fx.2.2.1
  have hown := fx.2.2.2.1
  have hts := fx.2.2.2.2
  have hl : lv_has ls 5 [(0, .ref (a_z 0)), (1, .int cell), (2, .int six)] := hl
  have hP : va_P g.1 vwCl (wX9 g a_z I_z) s.heap := hP
  have hf_19 := hts _ (uT _ _ u_155)
  have hi_X9 : ∀ w ∈ wsX90, w.before args s = true := fun w h => hts w (uT _ w (u_wsX90 w h))
  have hc_36 := hts _ (uT _ _ u_1625)
  have lm1 : (-1 : Int32).toInt = -1 := by decide
  have lm0 : (0 : Int32).toInt = 0 := by decide
  have lm2 : (1 : Int32).toInt = 1 := by decide
  refine lv_iload_n hx hb dX9_leftOf_0 rfl (lv_at hl 1 rfl) ?_
  refine lv_istore_n (lv' := [(3, .int cell), (0, .ref (a_z 0)), (1, .int cell), (2, .int six)]) hx hb dX9_leftOf_1 rfl hl (by decide) rfl (fun ls hl => ?_)
  refine lv_iconst (v := 1) hx hb dX9_leftOf_2 (by decide) ?_
  refine lv_istore (lv' := [(4, .int (1 : Int32)), (3, .int cell), (0, .ref (a_z 0)), (1, .int cell), (2, .int six)]) hx hb dX9_leftOf_3 hl (by decide) rfl (fun ls hl => ?_)
  have L5 : ∀ (nn : Nat) (v3_5 : Int32) (v4_5 : Int32) (I_z_5 : Nat → Nat → Int32), (hv_5 : 1 ≤ v4_5.toInt ∧ v4_5.toInt ≤ 126) → (hs_5 : ∀ k, k ≠ 2 → I_z_5 0 k = I_z 0 k) → ((127 - v4_5.toInt) < (nn : Int)) → ∀ (H : Heap) (locs : List Loc), va_P g.1 vwCl (wX9 g a_z I_z_5) H → va_D A (wX9 g a_z I_z_5) → va_S A s.heap H locs → ∀ ls : Array Slot, lv_has ls 5 [(4, .int v4_5), (3, .int v3_5), (0, .ref (a_z 0)), (1, .int cell), (2, .int six)] → W p l e (rm 0) s m args below meth c H locs 0 0 Q (F0 m 5 ls []) := by
    intro n_5
    induction n_5 with
    | zero =>
      intro v3_5 v4_5 I_z_5 hv_5 hs_5 hms_5 H locs hP hD hS ls hl
      exfalso; omega
    | succ n_5 ih_5 =>
      intro v3_5 v4_5 I_z_5 hv_5 hs_5 hms_5 H locs hP hD hS ls hl
      refine lv_iload hx hb dX9_leftOf_5 (lv_at hl 0 rfl) ?_
      refine lv_bipush (v := 63) hx hb dX9_leftOf_7 (by decide) ?_
      refine q_icmp_gt (tgt := 68) hx hb dX9_leftOf_9 (by decide) rfl (by decide : (63 : Int32).toInt = 63) (fun k_9 => ?_) (fun k_9 => ?_)
      · refine lv_iload_n hx hb dX9_leftOf_68 rfl (lv_at hl 1 rfl) ?_
        refine hret 69 ls v3_5 _ _ I_z_5 dX9_leftOf_69 hS hP hD ?_
        exact hs_5
      · refine lv_iload_n hx hb dX9_leftOf_12 rfl (lv_at hl 3 rfl) ?_
        refine lv_iload hx hb dX9_leftOf_13 (lv_at hl 0 rfl) ?_
        refine lv_iand hx hb dX9_leftOf_15 ?_
        refine q_nm (fun x1 e_x1 => ?_)
        refine q_if_eq (tgt := 59) hx hb dX9_leftOf_16 (by decide) rfl (fun b_16 k_16 => ?_) (fun b_16 k_16 => ?_)
        · refine lv_iload hx hb dX9_leftOf_59 (lv_at hl 0 rfl) ?_
          refine lv_iconst (v := 1) hx hb dX9_leftOf_61 (by decide) ?_
          refine lv_ishl hx hb dX9_leftOf_62 ?_
          refine q_nm (fun x2 e_x2 => ?_)
          try have t_x2 := shl1 e_x2 (by omega)
          refine lv_istore (lv' := [(4, .int x2), (3, .int v3_5), (0, .ref (a_z 0)), (1, .int cell), (2, .int six)]) hx hb dX9_leftOf_63 hl (by decide) rfl (fun ls hl => ?_)
          refine lv_goto (tgt := 5) hx hb dX9_leftOf_65 (by decide) ?_
          exact ih_5 v3_5 x2 I_z_5 (by omega) (by intro k hk; first | exact hs_5 k hk | (simp [uF, upd, hk]; exact hs_5 k hk)) (by omega) _ _ hP hD hS ls hl
        · refine lv_aload_n hx hb dX9_leftOf_19 rfl (lv_at hl 2 rfl) ?_
          refine lv_aload_n hx hb dX9_leftOf_20 rfl (lv_at hl 2 rfl) ?_
          refine va_get (D := g.1) (ci := 9) (v := .int (I_z_5 0 2)) (C := RX9) (T := TX9) (N := 3) hx hb hi_X9 (fun _ h => h) hown hK.1 hP 0 rfl rfl 2 (by decide) hf_19 (fun _ h9 => h9) rfl dX9_leftOf_21 ?_
          refine lv_sipush (v := 2801) hx hb dX9_leftOf_24 (by decide) ?_
          refine r_imul hx hb dX9_leftOf_27 rfl (by decide : (2801 : Int32).toInt = 2801) (fun x3 e_x3 t_x3 => ?_)
          try have t_x3 := t_x3 (by omega)
          refine lv_sipush (v := 10163) hx hb dX9_leftOf_28 (by decide) ?_
          refine r_iadd hx hb dX9_leftOf_31 rfl (by decide : (10163 : Int32).toInt = 10163) (fun x4 e_x4 t_x4 => ?_)
          try have t_x4 := t_x4 (by omega)
          refine lv_ldc hx hb hown hc_36 dX9_leftOf_32 ?_
          refine lv_irem hx hb dX9_leftOf_34 (by decide) ?_
          refine q_nm (fun x5 e_x5 => ?_)
          try have t_x5 := t_rem e_x5 rfl (by decide : (65536 : Int32).toInt = 65536) (by omega) (by omega)
          refine va_put (D := g.1) (ci := 9) (v := .int x5) (ty := .int) (C := RX9) (T := TX9) (N := 3) hx hb hi_X9 (fun _ h => h) tyX9 tyX9_ok nmX9 hown hK.1 hP hD hS 0 rfl rfl 2 (by decide) hf_19 (fun _ h9 => h9) rfl (by decide +kernel) rfl rfl (Nat.le_of_ble_eq_true rfl) dX9_leftOf_35 (fun H locs hP hD hS => ?_)
          have hP : va_P g.1 vwCl (wX9 g a_z (uF I_z_5 0 2 x5)) H := hP
          have hD : va_D A (wX9 g a_z (uF I_z_5 0 2 x5)) := hD
          refine lv_aload_n hx hb dX9_leftOf_38 rfl (lv_at hl 2 rfl) ?_
          refine va_get (D := g.1) (ci := 9) (v := .int x5) (C := RX9) (T := TX9) (N := 3) hx hb hi_X9 (fun _ h => h) hown hK.1 hP 0 rfl rfl 2 (by decide) hf_19 (fun _ h9 => h9) rfl dX9_leftOf_39 ?_
          refine lv_bipush (v := 8) hx hb dX9_leftOf_42 (by decide) ?_
          refine lv_idiv hx hb dX9_leftOf_44 (by decide) ?_
          refine q_nm (fun x6 e_x6 => ?_)
          try have t_x6 := t_div e_x6 rfl (by decide : (8 : Int32).toInt = 8) (by omega) (by omega)
          refine lv_bipush (v := 16) hx hb dX9_leftOf_45 (by decide) ?_
          refine lv_irem hx hb dX9_leftOf_47 (by decide) ?_
          refine q_nm (fun x7 e_x7 => ?_)
          try have t_x7 := t_rem e_x7 rfl (by decide : (16 : Int32).toInt = 16) (by omega) (by omega)
          refine lv_iload_n hx hb dX9_leftOf_48 rfl (lv_at hl 4 rfl) ?_
          refine q_icmp_ge (tgt := 59) hx hb dX9_leftOf_49 (by decide) rfl rfl (fun k_49 => ?_) (fun k_49 => ?_)
          · refine lv_iload hx hb dX9_leftOf_59 (lv_at hl 0 rfl) ?_
            refine lv_iconst (v := 1) hx hb dX9_leftOf_61 (by decide) ?_
            refine lv_ishl hx hb dX9_leftOf_62 ?_
            refine q_nm (fun x8 e_x8 => ?_)
            try have t_x8 := shl1 e_x8 (by omega)
            refine lv_istore (lv' := [(4, .int x8), (3, .int v3_5), (0, .ref (a_z 0)), (1, .int cell), (2, .int six)]) hx hb dX9_leftOf_63 hl (by decide) rfl (fun ls hl => ?_)
            refine lv_goto (tgt := 5) hx hb dX9_leftOf_65 (by decide) ?_
            exact ih_5 v3_5 x8 (uF I_z_5 0 2 x5) (by omega) (by intro k hk; first | exact hs_5 k hk | (simp [uF, upd, hk]; exact hs_5 k hk)) (by omega) _ _ hP hD hS ls hl
          · refine lv_iload_n hx hb dX9_leftOf_52 rfl (lv_at hl 1 rfl) ?_
            refine lv_iload hx hb dX9_leftOf_53 (lv_at hl 0 rfl) ?_
            refine lv_iconst (v := -1) hx hb dX9_leftOf_55 (by decide) ?_
            refine lv_ixor hx hb dX9_leftOf_56 ?_
            refine q_nm (fun x9 e_x9 => ?_)
            refine lv_iand hx hb dX9_leftOf_57 ?_
            refine q_nm (fun x10 e_x10 => ?_)
            refine lv_istore_n (lv' := [(3, .int x10), (4, .int v4_5), (0, .ref (a_z 0)), (1, .int cell), (2, .int six)]) hx hb dX9_leftOf_58 rfl hl (by decide) rfl (fun ls hl => ?_)
            refine lv_iload hx hb dX9_leftOf_59 (lv_at hl 1 rfl) ?_
            refine lv_iconst (v := 1) hx hb dX9_leftOf_61 (by decide) ?_
            refine lv_ishl hx hb dX9_leftOf_62 ?_
            refine q_nm (fun x11 e_x11 => ?_)
            try have t_x11 := shl1 e_x11 (by omega)
            refine lv_istore (lv' := [(4, .int x11), (3, .int x10), (0, .ref (a_z 0)), (1, .int cell), (2, .int six)]) hx hb dX9_leftOf_63 hl (by decide) rfl (fun ls hl => ?_)
            refine lv_goto (tgt := 5) hx hb dX9_leftOf_65 (by decide) ?_
            exact ih_5 x10 x11 (uF I_z_5 0 2 x5) (by omega) (by intro k hk; first | exact hs_5 k hk | (simp [uF, upd, hk]; exact hs_5 k hk)) (by omega) _ _ hP hD hS ls hl
  exact L5 ((127 - (1 : Int32).toInt) + 1).toNat cell (1 : Int32) I_z (by omega) (fun _ _ => rfl) (by omega) _ _ hP hD hS ls hl
