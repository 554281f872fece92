set_option maxHeartbeats 4000000 in
set_option maxRecDepth 100000 in
theorem kX11_takesSet (l : Launch) (g : gG) (a_m : Nat → Nat) (I_m : Nat → Nat → Int32) (J_m : Nat → Nat → Int64) (hM : MI I_m) (h_q : WQ I_m) (h_s : (I_m 1 16508).toInt ≤ 1200 ∧ (I_m 1 16509).toInt ≤ 150) : EffV l g yX11_takesSet wsX11_takesSet 0 [.ref (a_m 0)] (wX11 g a_m I_m J_m) (fun (u : (Nat → Nat → Int32)) => wX11 g a_m u J_m) (fun (u : (Nat → Nat → Int32)) => MI (u) ∧ KK [1] [] I_m (u) ∧ FT I_m (u) ∧ (u) 1 8 = I_m 1 16508) := by
  refine EffV.st (cc := cX11_takesSet) (maxL := 2) (by decide) rfl (Nat.le_of_ble_eq_true rfl) (fun p e s m args below meth c A Q ls fx hK hP hD hA hS hl hret => ?_)
  have hx := fx.1
  have hb := fx.2.1
  have hml := fx.2.2.1
  have hown := fx.2.2.2.1
  have hts := fx.2.2.2.2
  have hl : lv_has ls 2 [(0, .ref (a_m 0))] := hl
  have hP : va_P g.1 vwCl (wX11 g a_m I_m J_m) s.heap := hP
  have hf_7 := hts _ (uT _ _ u_170)
  have hi_X11 : ∀ w ∈ wsX110, w.before args s = true := fun w h => hts w (uT _ w (u_wsX110 w h))
  have lm1 : (-1 : Int32).toInt = -1 := by decide
  have lm0 : (0 : Int32).toInt = 0 := by decide
  have lm2 : (1 : Int32).toInt = 1 := by decide
  have lq7 : (7 : Int32).toInt = 7 := by decide
  have lq12 : (12 : Int32).toInt = 12 := by decide
  have lq16500 : (16500 : Int32).toInt = 16500 := by decide
  have lq300 : (300 : Int32).toInt = 300 := by decide
  have lq3300 : (3300 : Int32).toInt = 3300 := by decide
  refine lv_bipush (v := 7) hx hb dX11_takesSet_0 (by decide) ?_
  refine lv_istore_n (lv' := [(1, .int (7 : Int32)), (0, .ref (a_m 0))]) hx hb dX11_takesSet_2 rfl hl (by decide) rfl (fun ls hl => ?_)
  have L3 : ∀ (nn : Nat) (v1_3 : Int32) (I_m_3 : Nat → Nat → Int32), (hk_3 : KK [1] [] I_m I_m_3) → (hv_3 : 7 ≤ v1_3.toInt ∧ v1_3.toInt ≤ 12) → (hc_3 : ∀ j : Nat, ((7 ≤ j ∧ (j : Int) < v1_3.toInt) → I_m_3 1 j = I_m 1 (16500 + j)) ∧ (¬ (7 ≤ j ∧ (j : Int) < v1_3.toInt) → I_m_3 1 j = I_m 1 j)) → ((13 - v1_3.toInt) < (nn : Int)) → ∀ (H : Heap) (locs : List Loc), va_P g.1 vwCl (wX11 g a_m I_m_3 J_m) H → va_D A (wX11 g a_m I_m_3 J_m) → va_S A s.heap H locs → ∀ ls : Array Slot, lv_has ls 2 [(1, .int v1_3), (0, .ref (a_m 0))] → W p l e (rm 0) s m args below meth c H locs 0 0 Q (F0 m 3 ls []) := by
    intro n_3
    induction n_3 with
    | zero =>
      intro v1_3 I_m_3 hk_3 hv_3 hc_3 hms_3 H locs hP hD hS ls hl
      exfalso; omega
    | succ n_3 ih_3 =>
      intro v1_3 I_m_3 hk_3 hv_3 hc_3 hms_3 H locs hP hD hS ls hl
      refine lv_iload_n hx hb dX11_takesSet_3 rfl (lv_at hl 0 rfl) ?_
      refine lv_bipush (v := 12) hx hb dX11_takesSet_4 (by decide) ?_
      refine q_icmp_ge (tgt := 31) hx hb dX11_takesSet_6 (by decide) rfl (by decide : (12 : Int32).toInt = 12) (fun k_6 => ?_) (fun k_6 => ?_)
      · refine lv_sipush (v := 300) hx hb dX11_takesSet_31 (by decide) ?_
        refine lv_istore_n (lv' := [(1, .int (300 : Int32)), (0, .ref (a_m 0))]) hx hb dX11_takesSet_34 rfl hl (by decide) rfl (fun ls hl => ?_)
        have L35 : ∀ (nn : Nat) (v1_35 : Int32) (I_m_35 : Nat → Nat → Int32), (hk_35 : KK [1] [] I_m I_m_35) → (hv_35 : 300 ≤ v1_35.toInt ∧ v1_35.toInt ≤ 3300) → (hc_35 : ∀ j : Nat, (((7 ≤ j ∧ j < 12) ∨ (300 ≤ j ∧ (j : Int) < v1_35.toInt)) → I_m_35 1 j = I_m 1 (16500 + j)) ∧ (¬ ((7 ≤ j ∧ j < 12) ∨ (300 ≤ j ∧ (j : Int) < v1_35.toInt)) → I_m_35 1 j = I_m 1 j)) → ((3301 - v1_35.toInt) < (nn : Int)) → ∀ (H : Heap) (locs : List Loc), va_P g.1 vwCl (wX11 g a_m I_m_35 J_m) H → va_D A (wX11 g a_m I_m_35 J_m) → va_S A s.heap H locs → ∀ ls : Array Slot, lv_has ls 2 [(1, .int v1_35), (0, .ref (a_m 0))] → W p l e (rm 0) s m args below meth c H locs 0 0 Q (F0 m 35 ls []) := by
          intro n_35
          induction n_35 with
          | zero =>
            intro v1_35 I_m_35 hk_35 hv_35 hc_35 hms_35 H locs hP hD hS ls hl
            exfalso; omega
          | succ n_35 ih_35 =>
            intro v1_35 I_m_35 hk_35 hv_35 hc_35 hms_35 H locs hP hD hS ls hl
            refine lv_iload_n hx hb dX11_takesSet_35 rfl (lv_at hl 0 rfl) ?_
            refine lv_sipush (v := 3300) hx hb dX11_takesSet_36 (by decide) ?_
            refine q_icmp_ge (tgt := 64) hx hb dX11_takesSet_39 (by decide) rfl (by decide : (3300 : Int32).toInt = 3300) (fun k_39 => ?_) (fun k_39 => ?_)
            · have hM39 : MI I_m_35 := MI.ts hM h_q h_s hk_35 (fun j => by by_cases w : (7 ≤ j ∧ j < 12) ∨ (300 ≤ j ∧ j < 3300); rw [if_pos w]; exact (hc_35 j).1 (by omega); rw [if_neg w]; exact (hc_35 j).2 (by omega))
              refine hret 64 ls _ _ I_m_35 dX11_takesSet_64 hS hP hD ?_
              exact ⟨hM39, hk_35, (fun j hj => (hc_35 j).2 (by omega)), (by have w := (hc_35 8).1 (by omega); exact w)⟩
            · refine lv_aload_n hx hb dX11_takesSet_42 rfl (lv_at hl 1 rfl) ?_
              refine va_get (D := g.1) (ci := 11) (v := .ref (a_m 1)) (C := RX11) (T := TX11) (N := 46) hx hb hi_X11 (fun _ h => h) hown hK.1 hP 0 rfl rfl 0 (by decide) hf_7 (fun _ h9 => h9) rfl dX11_takesSet_43 ?_
              refine lv_iload_n hx hb dX11_takesSet_46 rfl (lv_at hl 0 rfl) ?_
              refine lv_aload_n hx hb dX11_takesSet_47 rfl (lv_at hl 1 rfl) ?_
              refine va_get (D := g.1) (ci := 11) (v := .ref (a_m 1)) (C := RX11) (T := TX11) (N := 46) hx hb hi_X11 (fun _ h => h) hown hK.1 hP 0 rfl rfl 0 (by decide) hf_7 (fun _ h9 => h9) rfl dX11_takesSet_48 ?_
              refine lv_sipush (v := 16500) hx hb dX11_takesSet_51 (by decide) ?_
              refine lv_iload_n hx hb dX11_takesSet_54 rfl (lv_at hl 0 rfl) ?_
              refine r_iadd hx hb dX11_takesSet_55 (by decide : (16500 : Int32).toInt = 16500) rfl (fun x1 e_x1 t_x1 => ?_)
              try have t_x1 := t_x1 (by omega)
              have n_56 : vp_in x1 19800 := (t_in (by omega))
              refine va_iald hx hb hK.1 hP 1 0 rfl rfl n_56 dX11_takesSet_56 ?_
              refine q_nm (fun x2 e_x2 => ?_)
              have e_x2 : x2 = (I_m_35 1) x1.toNatClampNeg := e_x2
              have g_x2 : x2.toInt = ((I_m_35 1) x1.toNatClampNeg).toInt := congrArg _ e_x2
              have n_57 : vp_in v1_35 19800 := (t_in (by omega))
              obtain ⟨f3, e_f3⟩ : ∃ z, z = upd (I_m_35 1) v1_35.toNatClampNeg x2 := ⟨_, rfl⟩
              refine va_iast hx hb hK.1 hP hD hS 1 0 rfl rfl n_57 dX11_takesSet_57 (fun H locs hP hD hS => ?_)
              have hP : va_P g.1 vwCl (wX11 g a_m (uR I_m_35 1 f3) J_m) H := by rw [e_f3]; exact hP
              have hD : va_D A (wX11 g a_m (uR I_m_35 1 f3) J_m) := by rw [e_f3]; exact hD
              have hk_57 : KK [1] [] I_m (uR I_m_35 1 f3) := KK.ur hk_35 (by decide) (by decide)
              refine r_iinc (lv' := fun i4 => [(1, .int i4), (0, .ref (a_m 0))]) hx hb dX11_takesSet_58 hl (k := 0) rfl (by decide) rfl (by decide) (fun _ => rfl) (fun i4 e_i4 t_i4 ls hl => ?_)
              try have t_i4 := t_i4 (by omega)
              refine lv_goto (tgt := 35) hx hb dX11_takesSet_61 (by decide) ?_
              exact ih_35 i4 (uR I_m_35 1 f3) hk_57 (by omega) (fun j => by have q := ts_st (P := fun j => (7 ≤ j ∧ j < 12) ∨ (300 ≤ j ∧ (j : Int) < v1_35.toInt)) hc_35 (fun j a => by omega) e_f3 e_x2 rfl (by omega) (by omega) j; exact ⟨fun a => q.1 (by omega), fun a => q.2 (by omega)⟩) (by omega) _ _ hP hD hS ls hl
        exact L35 ((3301 - (300 : Int32).toInt) + 1).toNat (300 : Int32) I_m_3 hk_3 (by omega) (fun j => ⟨fun q => (hc_3 j).1 (by omega), fun q => (hc_3 j).2 (by omega)⟩) (by omega) _ _ hP hD hS ls hl
      · refine lv_aload_n hx hb dX11_takesSet_9 rfl (lv_at hl 1 rfl) ?_
        refine va_get (D := g.1) (ci := 11) (v := .ref (a_m 1)) (C := RX11) (T := TX11) (N := 46) hx hb hi_X11 (fun _ h => h) hown hK.1 hP 0 rfl rfl 0 (by decide) hf_7 (fun _ h9 => h9) rfl dX11_takesSet_10 ?_
        refine lv_iload_n hx hb dX11_takesSet_13 rfl (lv_at hl 0 rfl) ?_
        refine lv_aload_n hx hb dX11_takesSet_14 rfl (lv_at hl 1 rfl) ?_
        refine va_get (D := g.1) (ci := 11) (v := .ref (a_m 1)) (C := RX11) (T := TX11) (N := 46) hx hb hi_X11 (fun _ h => h) hown hK.1 hP 0 rfl rfl 0 (by decide) hf_7 (fun _ h9 => h9) rfl dX11_takesSet_15 ?_
        refine lv_sipush (v := 16500) hx hb dX11_takesSet_18 (by decide) ?_
        refine lv_iload_n hx hb dX11_takesSet_21 rfl (lv_at hl 0 rfl) ?_
        refine r_iadd hx hb dX11_takesSet_22 (by decide : (16500 : Int32).toInt = 16500) rfl (fun x5 e_x5 t_x5 => ?_)
        try have t_x5 := t_x5 (by omega)
        have n_23 : vp_in x5 19800 := (t_in (by omega))
        refine va_iald hx hb hK.1 hP 1 0 rfl rfl n_23 dX11_takesSet_23 ?_
        refine q_nm (fun x6 e_x6 => ?_)
        have e_x6 : x6 = (I_m_3 1) x5.toNatClampNeg := e_x6
        have g_x6 : x6.toInt = ((I_m_3 1) x5.toNatClampNeg).toInt := congrArg _ e_x6
        have n_24 : vp_in v1_3 19800 := (t_in (by omega))
        obtain ⟨f7, e_f7⟩ : ∃ z, z = upd (I_m_3 1) v1_3.toNatClampNeg x6 := ⟨_, rfl⟩
        refine va_iast hx hb hK.1 hP hD hS 1 0 rfl rfl n_24 dX11_takesSet_24 (fun H locs hP hD hS => ?_)
        have hP : va_P g.1 vwCl (wX11 g a_m (uR I_m_3 1 f7) J_m) H := by rw [e_f7]; exact hP
        have hD : va_D A (wX11 g a_m (uR I_m_3 1 f7) J_m) := by rw [e_f7]; exact hD
        have hk_24 : KK [1] [] I_m (uR I_m_3 1 f7) := KK.ur hk_3 (by decide) (by decide)
        refine r_iinc (lv' := fun i8 => [(1, .int i8), (0, .ref (a_m 0))]) hx hb dX11_takesSet_25 hl (k := 0) rfl (by decide) rfl (by decide) (fun _ => rfl) (fun i8 e_i8 t_i8 ls hl => ?_)
        try have t_i8 := t_i8 (by omega)
        refine lv_goto (tgt := 3) hx hb dX11_takesSet_28 (by decide) ?_
        exact ih_3 i8 (uR I_m_3 1 f7) hk_24 (by omega) (fun j => by have q := ts_st (P := fun j => 7 ≤ j ∧ (j : Int) < v1_3.toInt) hc_3 (fun j a => by omega) e_f7 e_x6 rfl (by omega) (by omega) j; exact ⟨fun a => q.1 (by omega), fun a => q.2 (by omega)⟩) (by omega) _ _ hP hD hS ls hl
  exact L3 ((13 - (7 : Int32).toInt) + 1).toNat (7 : Int32) I_m (KK.rf I_m) (by omega) (fun j => ⟨fun q => by exfalso; omega, fun _ => rfl⟩) (by omega) _ _ hP hD hS ls hl

set_option maxHeartbeats 4000000 in
set_option maxRecDepth 100000 in
theorem kX11_laysBytes (l : Launch) (g : gG) (a_m : Nat → Nat) (I_m : Nat → Nat → Int32) (J_m : Nat → Nat → Int64) (hM : MI I_m) (h_b : 0 ≤ (I_m 1 7).toInt) : EffV l g yX11_laysBytes wsX11_laysBytes 0 [.ref (a_m 0)] (wX11 g a_m I_m J_m) (fun (u : (Nat → Nat → Int32)) => wX11 g a_m u J_m) (fun (u : (Nat → Nat → Int32)) => MI (u) ∧ WK I_m (u) ∧ KK [1] [] I_m (u)) := by
  refine EffV.st (cc := cX11_laysBytes) (maxL := 2) (by decide) rfl (Nat.le_of_ble_eq_true rfl) (fun p e s m args below meth c A Q ls fx hK hP hD hA hS hl hret => ?_)
  have hx := fx.1
  have hb := fx.2.1
  have hml := fx.2.2.1
  have hown := fx.2.2.2.1
  have hts := fx.2.2.2.2
  have hl : lv_has ls 2 [(0, .ref (a_m 0))] := hl
  have hP : va_P g.1 vwCl (wX11 g a_m I_m J_m) s.heap := hP
  have hf_7 := hts _ (uT _ _ u_170)
  have hi_X11 : ∀ w ∈ wsX110, w.before args s = true := fun w h => hts w (uT _ w (u_wsX110 w h))
  have lm1 : (-1 : Int32).toInt = -1 := by decide
  have lm0 : (0 : Int32).toInt = 0 := by decide
  have lm2 : (1 : Int32).toInt = 1 := by decide
  have lq7 : (7 : Int32).toInt = 7 := by decide
  have lq16507 : (16507 : Int32).toInt = 16507 := by decide
  have lq16800 : (16800 : Int32).toInt = 16800 := by decide
  have lq300 : (300 : Int32).toInt = 300 := by decide
  have hb7 := hM.bytes rfl
  refine lv_aload_n hx hb dX11_laysBytes_0 rfl (lv_at hl 0 rfl) ?_
  refine va_get (D := g.1) (ci := 11) (v := .ref (a_m 1)) (C := RX11) (T := TX11) (N := 46) hx hb hi_X11 (fun _ h => h) hown hK.1 hP 0 rfl rfl 0 (by decide) hf_7 (fun _ h9 => h9) rfl dX11_laysBytes_1 ?_
  refine lv_sipush (v := 16507) hx hb dX11_laysBytes_4 (by decide) ?_
  refine lv_aload_n hx hb dX11_laysBytes_7 rfl (lv_at hl 0 rfl) ?_
  refine va_get (D := g.1) (ci := 11) (v := .ref (a_m 1)) (C := RX11) (T := TX11) (N := 46) hx hb hi_X11 (fun _ h => h) hown hK.1 hP 0 rfl rfl 0 (by decide) hf_7 (fun _ h9 => h9) rfl dX11_laysBytes_8 ?_
  refine lv_bipush (v := 7) hx hb dX11_laysBytes_11 (by decide) ?_
  have n_13 : vp_in (7 : Int32) 19800 := (t_in (by decide))
  refine va_iald hx hb hK.1 hP 1 0 rfl rfl n_13 dX11_laysBytes_13 ?_
  refine q_nm (fun x1 e_x1 => ?_)
  have e_x1 : x1 = (I_m 1) 7 := e_x1
  have g_x1 : x1.toInt = ((I_m 1) 7).toInt := congrArg _ e_x1
  have f_x1 := MI.bytes hM e_x1
  have hx13 := f_x1
  have n_14 : vp_in (16507 : Int32) 19800 := (t_in (by decide))
  obtain ⟨f2, e_f2⟩ : ∃ z, z = upd (I_m 1) (16507 : Int32).toNatClampNeg x1 := ⟨_, rfl⟩
  refine va_iast hx hb hK.1 hP hD hS 1 0 rfl rfl n_14 dX11_laysBytes_14 (fun H locs hP hD hS => ?_)
  have hP : va_P g.1 vwCl (wX11 g a_m (uR I_m 1 f2) J_m) H := by rw [e_f2]; exact hP
  have hD : va_D A (wX11 g a_m (uR I_m 1 f2) J_m) := by rw [e_f2]; exact hD
  have hk_14 : KK [1] [] I_m (uR I_m 1 f2) := KK.ur (KK.rf I_m) (by decide) (by decide)
  have hw_14 : WK I_m (uR I_m 1 f2) := WK.ua (WK.rf I_m) e_f2 (by decide : (16507 : Int32).toInt = 16507) (by omega)
  have hc_14 : MI (uR I_m 1 f2) := hM.ub e_f2 (by omega)
  refine lv_iconst (v := 0) hx hb dX11_laysBytes_15 (by decide) ?_
  refine lv_istore_n (lv' := [(1, .int (0 : Int32)), (0, .ref (a_m 0))]) hx hb dX11_laysBytes_16 rfl hl (by decide) rfl (fun ls hl => ?_)
  have L17 : ∀ (nn : Nat) (v1_17 : Int32) (I_m_17 : Nat → Nat → Int32), (hM_17 : MI I_m_17) → (hw_17 : WK I_m I_m_17) → (hk_17 : KK [1] [] I_m I_m_17) → (hv_17 : 0 ≤ v1_17.toInt ∧ v1_17.toInt ≤ 300) → ((301 - v1_17.toInt) < (nn : Int)) → ∀ (H : Heap) (locs : List Loc), va_P g.1 vwCl (wX11 g a_m I_m_17 J_m) H → va_D A (wX11 g a_m I_m_17 J_m) → va_S A s.heap H locs → ∀ ls : Array Slot, lv_has ls 2 [(1, .int v1_17), (0, .ref (a_m 0))] → W p l e (rm 0) s m args below meth c H locs 0 0 Q (F0 m 17 ls []) := by
    intro n_17
    induction n_17 with
    | zero =>
      intro v1_17 I_m_17 hM_17 hw_17 hk_17 hv_17 hms_17 H locs hP hD hS ls hl
      exfalso; omega
    | succ n_17 ih_17 =>
      intro v1_17 I_m_17 hM_17 hw_17 hk_17 hv_17 hms_17 H locs hP hD hS ls hl
      refine lv_iload_n hx hb dX11_laysBytes_17 rfl (lv_at hl 0 rfl) ?_
      refine lv_aload_n hx hb dX11_laysBytes_18 rfl (lv_at hl 1 rfl) ?_
      refine va_get (D := g.1) (ci := 11) (v := .ref (a_m 1)) (C := RX11) (T := TX11) (N := 46) hx hb hi_X11 (fun _ h => h) hown hK.1 hP 0 rfl rfl 0 (by decide) hf_7 (fun _ h9 => h9) rfl dX11_laysBytes_19 ?_
      refine lv_bipush (v := 7) hx hb dX11_laysBytes_22 (by decide) ?_
      have n_24 : vp_in (7 : Int32) 19800 := (t_in (by decide))
      refine va_iald hx hb hK.1 hP 1 0 rfl rfl n_24 dX11_laysBytes_24 ?_
      refine q_nm (fun x3 e_x3 => ?_)
      have e_x3 : x3 = (I_m_17 1) 7 := e_x3
      have g_x3 : x3.toInt = ((I_m_17 1) 7).toInt := congrArg _ e_x3
      have f_x3 := MI.bytes hM_17 e_x3
      refine q_icmp_ge (tgt := 54) hx hb dX11_laysBytes_25 (by decide) rfl rfl (fun k_25 => ?_) (fun k_25 => ?_)
      · refine hret 54 ls _ _ I_m_17 dX11_laysBytes_54 hS hP hD ?_
        exact ⟨hM_17, hw_17, hk_17⟩
      · refine lv_aload_n hx hb dX11_laysBytes_28 rfl (lv_at hl 1 rfl) ?_
        refine va_get (D := g.1) (ci := 11) (v := .ref (a_m 1)) (C := RX11) (T := TX11) (N := 46) hx hb hi_X11 (fun _ h => h) hown hK.1 hP 0 rfl rfl 0 (by decide) hf_7 (fun _ h9 => h9) rfl dX11_laysBytes_29 ?_
        refine lv_sipush (v := 16800) hx hb dX11_laysBytes_32 (by decide) ?_
        refine lv_iload_n hx hb dX11_laysBytes_35 rfl (lv_at hl 0 rfl) ?_
        refine r_iadd hx hb dX11_laysBytes_36 (by decide : (16800 : Int32).toInt = 16800) rfl (fun x4 e_x4 t_x4 => ?_)
        try have t_x4 := t_x4 (by omega)
        refine lv_aload_n hx hb dX11_laysBytes_37 rfl (lv_at hl 1 rfl) ?_
        refine va_get (D := g.1) (ci := 11) (v := .ref (a_m 1)) (C := RX11) (T := TX11) (N := 46) hx hb hi_X11 (fun _ h => h) hown hK.1 hP 0 rfl rfl 0 (by decide) hf_7 (fun _ h9 => h9) rfl dX11_laysBytes_38 ?_
        refine lv_sipush (v := 300) hx hb dX11_laysBytes_41 (by decide) ?_
        refine lv_iload_n hx hb dX11_laysBytes_44 rfl (lv_at hl 0 rfl) ?_
        refine r_iadd hx hb dX11_laysBytes_45 (by decide : (300 : Int32).toInt = 300) rfl (fun x5 e_x5 t_x5 => ?_)
        try have t_x5 := t_x5 (by omega)
        have n_46 : vp_in x5 19800 := (t_in (by omega))
        refine va_iald hx hb hK.1 hP 1 0 rfl rfl n_46 dX11_laysBytes_46 ?_
        refine q_nm (fun x6 e_x6 => ?_)
        have e_x6 : x6 = (I_m_17 1) x5.toNatClampNeg := e_x6
        have g_x6 : x6.toInt = ((I_m_17 1) x5.toNatClampNeg).toInt := congrArg _ e_x6
        have n_47 : vp_in x4 19800 := (t_in (by omega))
        obtain ⟨f7, e_f7⟩ : ∃ z, z = upd (I_m_17 1) x4.toNatClampNeg x6 := ⟨_, rfl⟩
        refine va_iast hx hb hK.1 hP hD hS 1 0 rfl rfl n_47 dX11_laysBytes_47 (fun H locs hP hD hS => ?_)
        have hP : va_P g.1 vwCl (wX11 g a_m (uR I_m_17 1 f7) J_m) H := by rw [e_f7]; exact hP
        have hD : va_D A (wX11 g a_m (uR I_m_17 1 f7) J_m) := by rw [e_f7]; exact hD
        have hc_47 : MI (uR I_m_17 1 f7) := MI.ua hM_17 e_f7 rfl (by omega) (by omega)
        have hk_47 : KK [1] [] I_m (uR I_m_17 1 f7) := KK.ur hk_17 (by decide) (by decide)
        have hw_47 : WK I_m (uR I_m_17 1 f7) := WK.ua hw_17 e_f7 rfl (by omega)
        refine r_iinc (lv' := fun i8 => [(1, .int i8), (0, .ref (a_m 0))]) hx hb dX11_laysBytes_48 hl (k := 0) rfl (by decide) rfl (by decide) (fun _ => rfl) (fun i8 e_i8 t_i8 ls hl => ?_)
        try have t_i8 := t_i8 (by omega)
        refine lv_goto (tgt := 17) hx hb dX11_laysBytes_51 (by decide) ?_
        exact ih_17 i8 (uR I_m_17 1 f7) hc_47 hw_47 hk_47 (by omega) (by omega) _ _ hP hD hS ls hl
  exact L17 ((301 - (0 : Int32).toInt) + 1).toNat (0 : Int32) (uR I_m 1 f2) hc_14 hw_14 hk_14 (by omega) (by omega) _ _ hP hD hS ls hl

set_option maxHeartbeats 4000000 in
set_option maxRecDepth 100000 in
theorem kX11_writing (l : Launch) (g : gG) (a_m : Nat → Nat) (I_m : Nat → Nat → Int32) (J_m : Nat → Nat → Int64) (n : Int32) (hM : MI I_m) : EffI l g yX11_writing wsX11_writing 6 [.ref (a_m 0), .int n] (wX11 g a_m I_m J_m) (fun (u : (Nat → Nat → Int32)) => wX11 g a_m u J_m) (fun r (u : (Nat → Nat → Int32)) => MI (u) ∧ KK [1] [1, 9, 15, 16, 20, 21] I_m (u) ∧ ((¬ (0 ≤ n.toInt ∧ n.toInt ≤ (I_m 0 9).toInt ∧ n.toInt ≤ 300) ∧ (u) 0 9 = I_m 0 9) ∨ ((0 ≤ n.toInt ∧ n.toInt ≤ (I_m 0 9).toInt ∧ n.toInt ≤ 300) ∧ ((u) 0 9).toInt = 0)) ∧ FT I_m (u) ∧ ((0 ≤ n.toInt ∧ n.toInt ≤ (I_m 0 9).toInt ∧ n.toInt ≤ 300) → ∃ (c v : Int × Int), gRe (uNx (uTM I_m) (I_m 1 6) (uB (fxBm (I_m 5)) n.toInt) n.toInt) (0, 0) c ∧ uVd (uTM I_m) (I_m 1 6) (uB (fxBm (I_m 5)) n.toInt) n.toInt c v ∧ v = (((u) 0 15).toInt, ((u) 0 16).toInt) ∧ ((v.1 = 0 ∧ r.toInt = c.2) ∨ (v.1 ≠ 0 ∧ r = -1))) ∧ (¬ (0 ≤ n.toInt ∧ n.toInt ≤ (I_m 0 9).toInt ∧ n.toInt ≤ 300) → r = -1 ∧ (u) 0 15 = I_m 0 15 ∧ (u) 0 16 = I_m 0 16)) := by
  refine EffI.st (cc := cX11_writing) (maxL := 3) (by decide) rfl (Nat.le_of_ble_eq_true rfl) (fun p e s m args below meth c A Q ls fx hK hP hD hA hS hl hret => ?_)
  have hx := fx.1
  have hb := fx.2.1
  have hml := fx.2.2.1
  have hown := fx.2.2.2.1
  have hts := fx.2.2.2.2
  have hl : lv_has ls 3 [(0, .ref (a_m 0)), (1, .int n)] := hl
  have hP : va_P g.1 vwCl (wX11 g a_m I_m J_m) s.heap := hP
  have hf_7 := hts _ (uT _ _ u_170)
  have hf_27 := hts _ (uT _ _ u_176)
  have hf_34 := hts _ (uT _ _ u_178)
  have hf_38 := hts _ (uT _ _ u_179)
  have hf_122 := hts _ (uT _ _ u_345)
  have hf_230 := hts _ (uT _ _ u_698)
  have hf_233 := hts _ (uT _ _ u_699)
  have hi_X11 : ∀ w ∈ wsX110, w.before args s = true := fun w h => hts w (uT _ w (u_wsX110 w h))
  have lm1 : (-1 : Int32).toInt = -1 := by decide
  have lm0 : (0 : Int32).toInt = 0 := by decide
  have lm2 : (1 : Int32).toInt = 1 := by decide
  have lq6 : (6 : Int32).toInt = 6 := by decide
  have lq16507 : (16507 : Int32).toInt = 16507 := by decide
  have lq16800 : (16800 : Int32).toInt = 16800 := by decide
  have lq300 : (300 : Int32).toInt = 300 := by decide
  have hp0 := hM.tp
  refine lv_iload_n hx hb dX11_writing_0 rfl (lv_at hl 1 rfl) ?_
  refine q_if_lt (tgt := 19) hx hb dX11_writing_1 (by decide) rfl (fun k_1 => ?_) (fun k_1 => ?_)
  · refine lv_aload_n hx hb dX11_writing_19 rfl (lv_at hl 0 rfl) ?_
    refine lv_iconst (v := 1) hx hb dX11_writing_20 (by decide) ?_
    refine EffI.cv (wr := ([])) (w' := fun u2 => wX11 g a_m u2 J_m) (As := [.int (1 : Int32)]) (kX11_refuse l g a_m I_m J_m (1 : Int32)) fx (gUV (uT _) u_536 u_537 u_538 u_5 u_539) rfl hdX11_refuse ⟨Nat.le_of_ble_eq_true rfl, Nat.le_of_ble_eq_true rfl⟩ hK hP hD hS hA [0, 1, 2, 3, 4, 5, 6, 7, 8, 9, 10, 11, 12, 13, 14, 15, 16, 17, 18, 19, 20, 21, 22] [] [0, 1, 2, 3, 4, 5, 6, 7, 8, 9, 10, 11, 12, 13, 14, 15, 16, 17, 18, 19, 20, 21, 22] rfl rfl rfl rfl (by decide) rfl (fun _ => rfl) rfl rfl rfl rfl hl.1 (Nat.le_of_ble_eq_true rfl) dX11_writing_21 (fun r1 u2 H locs p_r1 hP hD hS => ?_)
    have hP : va_P g.1 vwCl (wX11 g a_m u2 J_m) H := hP
    have hD : va_D A (wX11 g a_m u2 J_m) := hD
    refine hret 24 ls r1 _ _ u2 dX11_writing_24 hS hP hD ?_
    exact ⟨(MI.st hM p_r1.2), (KK.st (KK.rf I_m) p_r1.2 (by decide)), Or.inl ⟨by omega, ST.num p_r1.2 9 (by decide)⟩, FT.st (FT.rf I_m) p_r1.2, fun q => absurd q (by omega), fun _ => ⟨p_r1.1, ST.num p_r1.2 15 (by decide), ST.num p_r1.2 16 (by decide)⟩⟩
  · refine lv_iload_n hx hb dX11_writing_4 rfl (lv_at hl 1 rfl) ?_
    refine lv_aload_n hx hb dX11_writing_5 rfl (lv_at hl 0 rfl) ?_
    refine va_get (D := g.1) (ci := 11) (v := .int (I_m 0 9)) (C := RX11) (T := TX11) (N := 46) hx hb hi_X11 (fun _ h => h) hown hK.1 hP 0 rfl rfl 9 (by decide) hf_122 (fun _ h9 => h9) rfl dX11_writing_6 ?_
    refine q_icmp_gt (tgt := 19) hx hb dX11_writing_9 (by decide) rfl rfl (fun k_9 => ?_) (fun k_9 => ?_)
    · refine lv_aload_n hx hb dX11_writing_19 rfl (lv_at hl 0 rfl) ?_
      refine lv_iconst (v := 1) hx hb dX11_writing_20 (by decide) ?_
      refine EffI.cv (wr := ([])) (w' := fun u4 => wX11 g a_m u4 J_m) (As := [.int (1 : Int32)]) (kX11_refuse l g a_m I_m J_m (1 : Int32)) fx (gUV (uT _) u_536 u_537 u_538 u_5 u_539) rfl hdX11_refuse ⟨Nat.le_of_ble_eq_true rfl, Nat.le_of_ble_eq_true rfl⟩ hK hP hD hS hA [0, 1, 2, 3, 4, 5, 6, 7, 8, 9, 10, 11, 12, 13, 14, 15, 16, 17, 18, 19, 20, 21, 22] [] [0, 1, 2, 3, 4, 5, 6, 7, 8, 9, 10, 11, 12, 13, 14, 15, 16, 17, 18, 19, 20, 21, 22] rfl rfl rfl rfl (by decide) rfl (fun _ => rfl) rfl rfl rfl rfl hl.1 (Nat.le_of_ble_eq_true rfl) dX11_writing_21 (fun r3 u4 H locs p_r3 hP hD hS => ?_)
      have hP : va_P g.1 vwCl (wX11 g a_m u4 J_m) H := hP
      have hD : va_D A (wX11 g a_m u4 J_m) := hD
      refine hret 24 ls r3 _ _ u4 dX11_writing_24 hS hP hD ?_
      exact ⟨(MI.st hM p_r3.2), (KK.st (KK.rf I_m) p_r3.2 (by decide)), Or.inl ⟨by omega, ST.num p_r3.2 9 (by decide)⟩, FT.st (FT.rf I_m) p_r3.2, fun q => absurd q (by omega), fun _ => ⟨p_r3.1, ST.num p_r3.2 15 (by decide), ST.num p_r3.2 16 (by decide)⟩⟩
    · refine lv_iload_n hx hb dX11_writing_12 rfl (lv_at hl 1 rfl) ?_
      refine lv_sipush (v := 300) hx hb dX11_writing_13 (by decide) ?_
      refine q_icmp_le (tgt := 25) hx hb dX11_writing_16 (by decide) rfl (by decide : (300 : Int32).toInt = 300) (fun k_16 => ?_) (fun k_16 => ?_)
      · refine lv_aload_n hx hb dX11_writing_25 rfl (lv_at hl 0 rfl) ?_
        refine va_get (D := g.1) (ci := 11) (v := .ref (a_m 1)) (C := RX11) (T := TX11) (N := 46) hx hb hi_X11 (fun _ h => h) hown hK.1 hP 0 rfl rfl 0 (by decide) hf_7 (fun _ h9 => h9) rfl dX11_writing_26 ?_
        refine lv_sipush (v := 16507) hx hb dX11_writing_29 (by decide) ?_
        refine lv_iload_n hx hb dX11_writing_32 rfl (lv_at hl 1 rfl) ?_
        have n_33 : vp_in (16507 : Int32) 19800 := (t_in (by decide))
        obtain ⟨f5, e_f5⟩ : ∃ z, z = upd (I_m 1) (16507 : Int32).toNatClampNeg n := ⟨_, rfl⟩
        refine va_iast hx hb hK.1 hP hD hS 1 0 rfl rfl n_33 dX11_writing_33 (fun H locs hP hD hS => ?_)
        have hP : va_P g.1 vwCl (wX11 g a_m (uR I_m 1 f5) J_m) H := by rw [e_f5]; exact hP
        have hD : va_D A (wX11 g a_m (uR I_m 1 f5) J_m) := by rw [e_f5]; exact hD
        have hk_33 : KK [1] [1, 9, 15, 16, 20, 21] I_m (uR I_m 1 f5) := KK.ur (KK.rf I_m) (by decide) (by decide)
        have hc_33 : MI (uR I_m 1 f5) := hM.ub e_f5 (by omega)
        refine lv_iconst (v := 0) hx hb dX11_writing_34 (by decide) ?_
        refine lv_istore_n (lv' := [(2, .int (0 : Int32)), (0, .ref (a_m 0)), (1, .int n)]) hx hb dX11_writing_35 rfl hl (by decide) rfl (fun ls hl => ?_)
        have L36 : ∀ (nn : Nat) (v2_36 : Int32) (I_m_36 : Nat → Nat → Int32), (hM_36 : MI I_m_36) → (hk_36 : KK [1] [1, 9, 15, 16, 20, 21] I_m I_m_36) → (hv_36 : 0 ≤ v2_36.toInt ∧ v2_36.toInt ≤ n.toInt) → (hWK_36 : WK I_m I_m_36) → (hby_36 : ∀ j : Nat, (j : Int) < v2_36.toInt → (I_m_36 1 (16800 + j)).toInt = fxBm (I_m 5) j) → (hnn_36 : I_m_36 1 16507 = n) → ((301 - v2_36.toInt) < (nn : Int)) → ∀ (H : Heap) (locs : List Loc), va_P g.1 vwCl (wX11 g a_m I_m_36 J_m) H → va_D A (wX11 g a_m I_m_36 J_m) → va_S A s.heap H locs → ∀ ls : Array Slot, lv_has ls 3 [(2, .int v2_36), (0, .ref (a_m 0)), (1, .int n)] → W p l e (rm 6) s m args below meth c H locs 0 0 Q (F0 m 36 ls []) := by
          intro n_36
          induction n_36 with
          | zero =>
            intro v2_36 I_m_36 hM_36 hk_36 hv_36 hWK_36 hby_36 hnn_36 hms_36 H locs hP hD hS ls hl
            exfalso; omega
          | succ n_36 ih_36 =>
            intro v2_36 I_m_36 hM_36 hk_36 hv_36 hWK_36 hby_36 hnn_36 hms_36 H locs hP hD hS ls hl
            have hr5 : I_m_36 5 = I_m 5 := hk_36.row 5 (by decide)
            refine lv_iload_n hx hb dX11_writing_36 rfl (lv_at hl 0 rfl) ?_
            refine lv_iload_n hx hb dX11_writing_37 rfl (lv_at hl 2 rfl) ?_
            refine q_icmp_ge (tgt := 67) hx hb dX11_writing_38 (by decide) rfl rfl (fun k_38 => ?_) (fun k_38 => ?_)
            · refine lv_aload_n hx hb dX11_writing_67 rfl (lv_at hl 1 rfl) ?_
              refine lv_iconst (v := 0) hx hb dX11_writing_68 (by decide) ?_
              refine va_put (D := g.1) (ci := 11) (v := .int (0 : Int32)) (ty := .int) (C := RX11) (T := TX11) (N := 46) hx hb hi_X11 (fun _ h => h) tyX11 tyX11_ok nmX11 hown hK.1 hP hD hS 0 rfl rfl 9 (by decide) hf_122 (fun _ h9 => h9) rfl (by decide +kernel) rfl rfl (Nat.le_of_ble_eq_true rfl) dX11_writing_69 (fun H locs hP hD hS => ?_)
              have hP : va_P g.1 vwCl (wX11 g a_m (uF I_m_36 0 9 (0 : Int32)) J_m) H := hP
              have hD : va_D A (wX11 g a_m (uF I_m_36 0 9 (0 : Int32)) J_m) := hD
              have hk_69 : KK [1] [1, 9, 15, 16, 20, 21] I_m (uF I_m_36 0 9 (0 : Int32)) := KK.uf hk_36 (by decide)
              have hc_69 : MI (uF I_m_36 0 9 (0 : Int32)) := MI.tpd hM_36 (by omega)
              refine lv_aload_n hx hb dX11_writing_72 rfl (lv_at hl 1 rfl) ?_
              refine lv_iconst (v := 0) hx hb dX11_writing_73 (by decide) ?_
              refine va_put (D := g.1) (ci := 11) (v := .int (0 : Int32)) (ty := .int) (C := RX11) (T := TX11) (N := 46) hx hb hi_X11 (fun _ h => h) tyX11 tyX11_ok nmX11 hown hK.1 hP hD hS 0 rfl rfl 15 (by decide) hf_34 (fun _ h9 => h9) rfl (by decide +kernel) rfl rfl (Nat.le_of_ble_eq_true rfl) dX11_writing_74 (fun H locs hP hD hS => ?_)
              have hP : va_P g.1 vwCl (wX11 g a_m (uF (uF I_m_36 0 9 (0 : Int32)) 0 15 (0 : Int32)) J_m) H := hP
              have hD : va_D A (wX11 g a_m (uF (uF I_m_36 0 9 (0 : Int32)) 0 15 (0 : Int32)) J_m) := hD
              have hc_74 : MI (uF (uF I_m_36 0 9 (0 : Int32)) 0 15 (0 : Int32)) := MI.uf hc_69 (by decide)
              have hk_74 : KK [1] [1, 9, 15, 16, 20, 21] I_m (uF (uF I_m_36 0 9 (0 : Int32)) 0 15 (0 : Int32)) := KK.uf hk_69 (by decide)
              refine lv_aload_n hx hb dX11_writing_77 rfl (lv_at hl 1 rfl) ?_
              refine lv_iconst (v := -1) hx hb dX11_writing_78 (by decide) ?_
              refine va_put (D := g.1) (ci := 11) (v := .int (-1 : Int32)) (ty := .int) (C := RX11) (T := TX11) (N := 46) hx hb hi_X11 (fun _ h => h) tyX11 tyX11_ok nmX11 hown hK.1 hP hD hS 0 rfl rfl 16 (by decide) hf_38 (fun _ h9 => h9) rfl (by decide +kernel) rfl rfl (Nat.le_of_ble_eq_true rfl) dX11_writing_79 (fun H locs hP hD hS => ?_)
              have hP : va_P g.1 vwCl (wX11 g a_m (uF (uF (uF I_m_36 0 9 (0 : Int32)) 0 15 (0 : Int32)) 0 16 (-1 : Int32)) J_m) H := hP
              have hD : va_D A (wX11 g a_m (uF (uF (uF I_m_36 0 9 (0 : Int32)) 0 15 (0 : Int32)) 0 16 (-1 : Int32)) J_m) := hD
              have hc_79 : MI (uF (uF (uF I_m_36 0 9 (0 : Int32)) 0 15 (0 : Int32)) 0 16 (-1 : Int32)) := MI.uf hc_74 (by decide)
              have hk_79 : KK [1] [1, 9, 15, 16, 20, 21] I_m (uF (uF (uF I_m_36 0 9 (0 : Int32)) 0 15 (0 : Int32)) 0 16 (-1 : Int32)) := KK.uf hk_74 (by decide)
              refine lv_aload_n hx hb dX11_writing_82 rfl (lv_at hl 1 rfl) ?_
              refine lv_aload_n hx hb dX11_writing_83 rfl (lv_at hl 1 rfl) ?_
              refine va_get (D := g.1) (ci := 11) (v := .ref (a_m 1)) (C := RX11) (T := TX11) (N := 46) hx hb hi_X11 (fun _ h => h) hown hK.1 hP 0 rfl rfl 0 (by decide) hf_7 (fun _ h9 => h9) rfl dX11_writing_84 ?_
              refine lv_bipush (v := 6) hx hb dX11_writing_87 (by decide) ?_
              have n_89 : vp_in (6 : Int32) 19800 := (t_in (by decide))
              refine va_iald hx hb hK.1 hP 1 0 rfl rfl n_89 dX11_writing_89 ?_
              refine q_nm (fun x6 e_x6 => ?_)
              have e_x6 : x6 = (I_m_36 1) 6 := e_x6
              have g_x6 : x6.toInt = ((I_m_36 1) 6).toInt := congrArg _ e_x6
              refine EffI.cv (wr := ([])) (w' := fun u8 => wX11 g a_m u8 J_m) (As := [.int x6]) (kX11_setsAll l g a_m (uF (uF (uF I_m_36 0 9 (0 : Int32)) 0 15 (0 : Int32)) 0 16 (-1 : Int32)) J_m x6 hc_79) fx (gUV (uT _) u_700 u_701 u_702 u_5 u_703) rfl hdX11_setsAll ⟨Nat.le_of_ble_eq_true rfl, Nat.le_of_ble_eq_true rfl⟩ hK hP hD hS hA [0, 1, 2, 3, 4, 5, 6, 7, 8, 9, 10, 11, 12, 13, 14, 15, 16, 17, 18, 19, 20, 21, 22] [] [0, 1, 2, 3, 4, 5, 6, 7, 8, 9, 10, 11, 12, 13, 14, 15, 16, 17, 18, 19, 20, 21, 22] rfl rfl rfl rfl (by decide) rfl (fun _ => rfl) rfl rfl rfl rfl hl.1 (Nat.le_of_ble_eq_true rfl) dX11_writing_90 (fun r7 u8 H locs p_r7 hP hD hS => ?_)
              have hP : va_P g.1 vwCl (wX11 g a_m u8 J_m) H := hP
              have hD : va_D A (wX11 g a_m u8 J_m) := hD
              have p_r7 : MI u8 ∧ WK (uF (uF (uF I_m_36 0 9 (0 : Int32)) 0 15 (0 : Int32)) 0 16 (-1 : Int32)) u8 ∧ KK [1] [20, 21] (uF (uF (uF I_m_36 0 9 (0 : Int32)) 0 15 (0 : Int32)) 0 16 (-1 : Int32)) u8 ∧ (r7 = 0 ∨ r7 = 1) ∧ BS (uF (uF (uF I_m_36 0 9 (0 : Int32)) 0 15 (0 : Int32)) 0 16 (-1 : Int32)) u8 ∧ (r7 = 1 → WQ u8 ∧ (u8 1 16508).toInt ≤ 1200 ∧ (u8 1 16509).toInt ≤ 150) ∧ (∃ (c v : Int × Int), gRe (uNx (uTM (uF (uF (uF I_m_36 0 9 (0 : Int32)) 0 15 (0 : Int32)) 0 16 (-1 : Int32))) (x6) (uBM (uF (uF (uF I_m_36 0 9 (0 : Int32)) 0 15 (0 : Int32)) 0 16 (-1 : Int32))) (I_m_36 1 16507).toInt) (0, 0) c ∧ uVd (uTM (uF (uF (uF I_m_36 0 9 (0 : Int32)) 0 15 (0 : Int32)) 0 16 (-1 : Int32))) (x6) (uBM (uF (uF (uF I_m_36 0 9 (0 : Int32)) 0 15 (0 : Int32)) 0 16 (-1 : Int32))) (I_m_36 1 16507).toInt c v ∧ ((r7 = 1 ∧ v = (0, -1) ∧ (u8 1 16508).toInt = c.2) ∨ (r7 = 0 ∧ v = ((u8 0 20).toInt, (u8 0 21).toInt) ∧ v.1 ≠ 0))) ∧ ((0 < (I_m_36 1 16507).toInt ∧ tSm (uBM (uF (uF (uF I_m_36 0 9 (0 : Int32)) 0 15 (0 : Int32)) 0 16 (-1 : Int32))) (I_m_36 1 16507).toInt) → (r7 = 1 ∧ tWs (uTM (uF (uF (uF I_m_36 0 9 (0 : Int32)) 0 15 (0 : Int32)) 0 16 (-1 : Int32))) (x6) (uBM (uF (uF (uF I_m_36 0 9 (0 : Int32)) 0 15 (0 : Int32)) 0 16 (-1 : Int32))) (I_m_36 1 16507).toInt (u8 1) (I_m_36 1 16507).toInt) ∨ (r7 = 0 ∧ tWn (uTM (uF (uF (uF I_m_36 0 9 (0 : Int32)) 0 15 (0 : Int32)) 0 16 (-1 : Int32))) (x6) (uBM (uF (uF (uF I_m_36 0 9 (0 : Int32)) 0 15 (0 : Int32)) 0 16 (-1 : Int32))) (I_m_36 1 16507).toInt)) := p_r7
              have hs90 := p_r7.2.2.2.2.2.1
              have hz90 : (u8 0 9).toInt = 0 := by rw [p_r7.2.2.1.num 9 (by decide)]; exact lm0
              have hW90 : WK I_m u8 := WK.tr (WK.uf (WK.uf (WK.uf hWK_36))) p_r7.2.1
              have o90 := p_r7.2.2.2.2.2.2.1
              have t90 : uTM (uF (uF (uF I_m_36 0 9 (0 : Int32)) 0 15 (0 : Int32)) 0 16 (-1 : Int32)) = uTM I_m := uTM.of (WK.uf (WK.uf (WK.uf hWK_36))) hM
              have b90 : uBM (uF (uF (uF I_m_36 0 9 (0 : Int32)) 0 15 (0 : Int32)) 0 16 (-1 : Int32)) = (uB (fxBm (I_m 5)) n.toInt) := by unfold uBM; rw [show ((uF (uF (uF I_m_36 0 9 (0 : Int32)) 0 15 (0 : Int32)) 0 16 (-1 : Int32)) 1 16507) = n from hnn_36]; exact uB.eq (fun j hj => hby_36 j (by omega))
              have n90 := congrArg Int32.toInt hnn_36
              have g90 : x6 = I_m 1 6 := (show x6 = I_m_36 1 6 from e_x6).trans (hWK_36 6 (by decide))
              rw [t90, b90, n90, g90] at o90
              refine q_if_ne (tgt := 119) hx hb dX11_writing_93 (by decide) rfl (fun b_93 k_93 => ?_) (fun b_93 k_93 => ?_)
              · refine lv_aload_n hx hb dX11_writing_119 rfl (lv_at hl 1 rfl) ?_
                refine EffV.cv (wr := ([])) (w' := fun u10 => wX11 g a_m u10 J_m) (As := []) (kX11_takesSet l g a_m u8 J_m (p_r7.1) (hs90 (p_r7.2.2.2.1.resolve_left b_93)).1 (hs90 (p_r7.2.2.2.1.resolve_left b_93)).2) fx (gUV (uT _) u_764 u_765 u_766 u_5 u_767) rfl hdX11_takesSet ⟨Nat.le_of_ble_eq_true rfl, Nat.le_of_ble_eq_true rfl⟩ hK hP hD hS hA [0, 1, 2, 3, 4, 5, 6, 7, 8, 9, 10, 11, 12, 13, 14, 15, 16, 17, 18, 19, 20, 21, 22] [] [0, 1, 2, 3, 4, 5, 6, 7, 8, 9, 10, 11, 12, 13, 14, 15, 16, 17, 18, 19, 20, 21, 22] rfl rfl rfl rfl (by decide) rfl (fun _ => rfl) rfl rfl rfl rfl hl.1 (Nat.le_of_ble_eq_true rfl) dX11_writing_120 (fun u10 H locs p_r9 hP hD hS => ?_)
                have hP : va_P g.1 vwCl (wX11 g a_m u10 J_m) H := hP
                have hD : va_D A (wX11 g a_m u10 J_m) := hD
                have hz120 : (u10 0 9).toInt = 0 := by rw [p_r9.2.1.num 9 (by decide)]; exact hz90
                have hF120 : FT I_m u10 := FT.tr (FT.wk hW90) p_r9.2.2.1
                have e120 := p_r9.2.2.2
                refine lv_aload_n hx hb dX11_writing_123 rfl (lv_at hl 1 rfl) ?_
                refine lv_aload_n hx hb dX11_writing_124 rfl (lv_at hl 1 rfl) ?_
                refine va_get (D := g.1) (ci := 11) (v := .ref (a_m 1)) (C := RX11) (T := TX11) (N := 46) hx hb hi_X11 (fun _ h => h) hown hK.1 hP 0 rfl rfl 0 (by decide) hf_7 (fun _ h9 => h9) rfl dX11_writing_125 ?_
                refine lv_bipush (v := 8) hx hb dX11_writing_128 (by decide) ?_
                have n_130 : vp_in (8 : Int32) 19800 := (t_in (by decide))
                refine va_iald hx hb hK.1 hP 1 0 rfl rfl n_130 dX11_writing_130 ?_
                refine q_nm (fun x11 e_x11 => ?_)
                have e_x11 : x11 = (u10 1) 8 := e_x11
                have g_x11 : x11.toInt = ((u10 1) 8).toInt := congrArg _ e_x11
                have f_x11 := MI.set (p_r9.1) e_x11
                refine EffI.cv (wr := ([])) (w' := fun u13 => wX11 g a_m u13 J_m) (As := [.int x11]) (kX11_gives l g a_m u10 J_m x11) fx (gUV (uT _) u_585 u_586 u_587 u_5 u_588) rfl hdX11_gives ⟨Nat.le_of_ble_eq_true rfl, Nat.le_of_ble_eq_true rfl⟩ hK hP hD hS hA [0, 1, 2, 3, 4, 5, 6, 7, 8, 9, 10, 11, 12, 13, 14, 15, 16, 17, 18, 19, 20, 21, 22] [] [0, 1, 2, 3, 4, 5, 6, 7, 8, 9, 10, 11, 12, 13, 14, 15, 16, 17, 18, 19, 20, 21, 22] rfl rfl rfl rfl (by decide) rfl (fun _ => rfl) rfl rfl rfl rfl hl.1 (Nat.le_of_ble_eq_true rfl) dX11_writing_131 (fun r12 u13 H locs p_r12 hP hD hS => ?_)
                have hP : va_P g.1 vwCl (wX11 g a_m u13 J_m) H := hP
                have hD : va_D A (wX11 g a_m u13 J_m) := hD
                refine hret 134 ls r12 _ _ u13 dX11_writing_134 hS hP hD ?_
                exact ⟨(MI.st (p_r9.1) p_r12.2), (KK.st (KK.tr (KK.tr hk_79 p_r7.2.2.1 (by decide) (by decide)) p_r9.2.1 (by decide) (by decide)) p_r12.2 (by decide)), Or.inr ⟨by omega, by rw [ST.num p_r12.2 9 (by decide)]; exact hz120⟩, FT.st hF120 p_r12.2, fun _ => (by obtain ⟨c9, v9, e1, e2, e3⟩ := o90; rcases e3 with ⟨e4, e5, e6⟩ | ⟨e4, _⟩; rotate_left; (exact absurd e4 b_93); exact ⟨c9, v9, e1, e2, (by rw [e5, ST.num p_r12.2 15 (by decide), ST.num p_r12.2 16 (by decide), p_r9.2.1.num 15 (by decide), p_r9.2.1.num 16 (by decide), p_r7.2.2.1.num 15 (by decide), p_r7.2.2.1.num 16 (by decide)]; rfl), Or.inl ⟨by rw [e5], (by rw [p_r12.1, e_x11]; exact (congrArg Int32.toInt e120).trans e6)⟩⟩), fun q => absurd q (by omega)⟩
              · refine lv_aload_n hx hb dX11_writing_96 rfl (lv_at hl 1 rfl) ?_
                refine lv_aload_n hx hb dX11_writing_97 rfl (lv_at hl 1 rfl) ?_
                refine va_get (D := g.1) (ci := 11) (v := .int (u8 0 20)) (C := RX11) (T := TX11) (N := 46) hx hb hi_X11 (fun _ h => h) hown hK.1 hP 0 rfl rfl 20 (by decide) hf_230 (fun _ h9 => h9) rfl dX11_writing_98 ?_
                refine va_put (D := g.1) (ci := 11) (v := .int (u8 0 20)) (ty := .int) (C := RX11) (T := TX11) (N := 46) hx hb hi_X11 (fun _ h => h) tyX11 tyX11_ok nmX11 hown hK.1 hP hD hS 0 rfl rfl 15 (by decide) hf_34 (fun _ h9 => h9) rfl (by decide +kernel) rfl rfl (Nat.le_of_ble_eq_true rfl) dX11_writing_101 (fun H locs hP hD hS => ?_)
                have hP : va_P g.1 vwCl (wX11 g a_m (uF u8 0 15 (u8 0 20)) J_m) H := hP
                have hD : va_D A (wX11 g a_m (uF u8 0 15 (u8 0 20)) J_m) := hD
                have hc_101 : MI (uF u8 0 15 (u8 0 20)) := MI.uf (p_r7.1) (by decide)
                have hk_101 : KK [1] [1, 9, 15, 16, 20, 21] I_m (uF u8 0 15 (u8 0 20)) := KK.uf (KK.tr hk_79 p_r7.2.2.1 (by decide) (by decide)) (by decide)
                refine lv_aload_n hx hb dX11_writing_104 rfl (lv_at hl 1 rfl) ?_
                refine lv_aload_n hx hb dX11_writing_105 rfl (lv_at hl 1 rfl) ?_
                refine va_get (D := g.1) (ci := 11) (v := .int (u8 0 21)) (C := RX11) (T := TX11) (N := 46) hx hb hi_X11 (fun _ h => h) hown hK.1 hP 0 rfl rfl 21 (by decide) hf_233 (fun _ h9 => h9) rfl dX11_writing_106 ?_
                refine va_put (D := g.1) (ci := 11) (v := .int (u8 0 21)) (ty := .int) (C := RX11) (T := TX11) (N := 46) hx hb hi_X11 (fun _ h => h) tyX11 tyX11_ok nmX11 hown hK.1 hP hD hS 0 rfl rfl 16 (by decide) hf_38 (fun _ h9 => h9) rfl (by decide +kernel) rfl rfl (Nat.le_of_ble_eq_true rfl) dX11_writing_109 (fun H locs hP hD hS => ?_)
                have hP : va_P g.1 vwCl (wX11 g a_m (uF (uF u8 0 15 (u8 0 20)) 0 16 (u8 0 21)) J_m) H := hP
                have hD : va_D A (wX11 g a_m (uF (uF u8 0 15 (u8 0 20)) 0 16 (u8 0 21)) J_m) := hD
                have hc_109 : MI (uF (uF u8 0 15 (u8 0 20)) 0 16 (u8 0 21)) := MI.uf hc_101 (by decide)
                have hk_109 : KK [1] [1, 9, 15, 16, 20, 21] I_m (uF (uF u8 0 15 (u8 0 20)) 0 16 (u8 0 21)) := KK.uf hk_101 (by decide)
                refine lv_aload_n hx hb dX11_writing_112 rfl (lv_at hl 1 rfl) ?_
                refine lv_bipush (v := 9) hx hb dX11_writing_113 (by decide) ?_
                refine EffI.cv (wr := ([])) (w' := fun u15 => wX11 g a_m u15 J_m) (As := [.int (9 : Int32)]) (kX11_refuse l g a_m (uF (uF u8 0 15 (u8 0 20)) 0 16 (u8 0 21)) J_m (9 : Int32)) fx (gUV (uT _) u_536 u_537 u_538 u_5 u_539) rfl hdX11_refuse ⟨Nat.le_of_ble_eq_true rfl, Nat.le_of_ble_eq_true rfl⟩ hK hP hD hS hA [0, 1, 2, 3, 4, 5, 6, 7, 8, 9, 10, 11, 12, 13, 14, 15, 16, 17, 18, 19, 20, 21, 22] [] [0, 1, 2, 3, 4, 5, 6, 7, 8, 9, 10, 11, 12, 13, 14, 15, 16, 17, 18, 19, 20, 21, 22] rfl rfl rfl rfl (by decide) rfl (fun _ => rfl) rfl rfl rfl rfl hl.1 (Nat.le_of_ble_eq_true rfl) dX11_writing_115 (fun r14 u15 H locs p_r14 hP hD hS => ?_)
                have hP : va_P g.1 vwCl (wX11 g a_m u15 J_m) H := hP
                have hD : va_D A (wX11 g a_m u15 J_m) := hD
                refine hret 118 ls r14 _ _ u15 dX11_writing_118 hS hP hD ?_
                exact ⟨(MI.st hc_109 p_r14.2), (KK.st hk_109 p_r14.2 (by decide)), Or.inr ⟨by omega, by rw [ST.num p_r14.2 9 (by decide)]; exact hz90⟩, FT.st (FT.uf (FT.uf (FT.wk hW90))) p_r14.2, fun _ => (by obtain ⟨c9, v9, e1, e2, e3⟩ := o90; rcases e3 with ⟨e4, _⟩ | ⟨e4, e5, e6⟩; exact absurd b_93 (by rw [e4]; decide); exact ⟨c9, v9, e1, e2, (by rw [e5, ST.num p_r14.2 15 (by decide), ST.num p_r14.2 16 (by decide)]; rfl), Or.inr ⟨e6, p_r14.1⟩⟩), fun q => absurd q (by omega)⟩
            · refine lv_aload_n hx hb dX11_writing_41 rfl (lv_at hl 1 rfl) ?_
              refine va_get (D := g.1) (ci := 11) (v := .ref (a_m 1)) (C := RX11) (T := TX11) (N := 46) hx hb hi_X11 (fun _ h => h) hown hK.1 hP 0 rfl rfl 0 (by decide) hf_7 (fun _ h9 => h9) rfl dX11_writing_42 ?_
              refine lv_sipush (v := 16800) hx hb dX11_writing_45 (by decide) ?_
              refine lv_iload_n hx hb dX11_writing_48 rfl (lv_at hl 0 rfl) ?_
              refine r_iadd hx hb dX11_writing_49 (by decide : (16800 : Int32).toInt = 16800) rfl (fun x16 e_x16 t_x16 => ?_)
              try have t_x16 := t_x16 (by omega)
              refine lv_aload_n hx hb dX11_writing_50 rfl (lv_at hl 1 rfl) ?_
              refine va_get (D := g.1) (ci := 11) (v := .ref (a_m 5)) (C := RX11) (T := TX11) (N := 46) hx hb hi_X11 (fun _ h => h) hown hK.1 hP 0 rfl rfl 7 (by decide) hf_27 (fun _ h9 => h9) rfl dX11_writing_51 ?_
              refine lv_iload_n hx hb dX11_writing_54 rfl (lv_at hl 0 rfl) ?_
              have n_55 : vp_in v2_36 900 := (t_in (by omega))
              refine va_bald hx hb hK.1 hP 5 2 rfl rfl n_55 dX11_writing_55 ?_
              refine q_nm (fun x17 e_x17 => ?_)
              have e_x17 : x17 = (I_m_36 5) v2_36.toNatClampNeg := e_x17
              have g_x17 : x17.toInt = ((I_m_36 5) v2_36.toNatClampNeg).toInt := congrArg _ e_x17
              refine lv_sipush (v := 255) hx hb dX11_writing_56 (by decide) ?_
              refine lv_iand hx hb dX11_writing_59 ?_
              refine q_nm (fun x18 e_x18 => ?_)
              have n_60 : vp_in x16 19800 := (t_in (by omega))
              obtain ⟨f19, e_f19⟩ : ∃ z, z = upd (I_m_36 1) x16.toNatClampNeg x18 := ⟨_, rfl⟩
              refine va_iast hx hb hK.1 hP hD hS 1 0 rfl rfl n_60 dX11_writing_60 (fun H locs hP hD hS => ?_)
              have hP : va_P g.1 vwCl (wX11 g a_m (uR I_m_36 1 f19) J_m) H := by rw [e_f19]; exact hP
              have hD : va_D A (wX11 g a_m (uR I_m_36 1 f19) J_m) := by rw [e_f19]; exact hD
              have hc_60 : MI (uR I_m_36 1 f19) := MI.ua hM_36 e_f19 rfl (by omega) (by omega)
              have hk_60 : KK [1] [1, 9, 15, 16, 20, 21] I_m (uR I_m_36 1 f19) := KK.ur hk_36 (by decide) (by decide)
              refine r_iinc (lv' := fun i20 => [(2, .int i20), (0, .ref (a_m 0)), (1, .int n)]) hx hb dX11_writing_61 hl (k := 0) rfl (by decide) rfl (by decide) (fun _ => rfl) (fun i20 e_i20 t_i20 ls hl => ?_)
              try have t_i20 := t_i20 (by omega)
              refine lv_goto (tgt := 36) hx hb dX11_writing_64 (by decide) ?_
              exact ih_36 i20 (uR I_m_36 1 f19) hc_60 hk_60 (by omega) (hWK_36.ua e_f19 rfl (by omega)) (fun j hj => by show (f19 (16800 + j)).toInt = _; rw [e_f19]; by_cases w : 16800 + j = (x16).toNatClampNeg; (rw [upd_at w, e_x18, e_x17]; show _ = (I_m 5 j &&& 255).toInt; rw [hr5, show j = v2_36.toNatClampNeg from (by have w2 : 16800 + j = (x16).toInt.toNat := w; show j = v2_36.toInt.toNat; omega)]); (rw [pk_un w]; exact hby_36 j (by have w2 : ¬ 16800 + j = (x16).toInt.toNat := w; omega))) (show f19 16507 = n from by rw [e_f19, pk_un (by show 16507 ≠ (x16).toInt.toNat; omega)]; exact hnn_36) (by omega) _ _ hP hD hS ls hl
        exact L36 ((301 - (0 : Int32).toInt) + 1).toNat (0 : Int32) (uR I_m 1 f5) hc_33 hk_33 (by omega) ((WK.rf I_m).ua e_f5 (by decide : (16507 : Int32).toInt = 16507) (by omega)) (fun j q => by rw [lm0] at q; exfalso; omega) (show f5 16507 = n from by rw [e_f5]; exact upd_at rfl) (by omega) _ _ hP hD hS ls hl
      · refine lv_aload_n hx hb dX11_writing_19 rfl (lv_at hl 0 rfl) ?_
        refine lv_iconst (v := 1) hx hb dX11_writing_20 (by decide) ?_
        refine EffI.cv (wr := ([])) (w' := fun u22 => wX11 g a_m u22 J_m) (As := [.int (1 : Int32)]) (kX11_refuse l g a_m I_m J_m (1 : Int32)) fx (gUV (uT _) u_536 u_537 u_538 u_5 u_539) rfl hdX11_refuse ⟨Nat.le_of_ble_eq_true rfl, Nat.le_of_ble_eq_true rfl⟩ hK hP hD hS hA [0, 1, 2, 3, 4, 5, 6, 7, 8, 9, 10, 11, 12, 13, 14, 15, 16, 17, 18, 19, 20, 21, 22] [] [0, 1, 2, 3, 4, 5, 6, 7, 8, 9, 10, 11, 12, 13, 14, 15, 16, 17, 18, 19, 20, 21, 22] rfl rfl rfl rfl (by decide) rfl (fun _ => rfl) rfl rfl rfl rfl hl.1 (Nat.le_of_ble_eq_true rfl) dX11_writing_21 (fun r21 u22 H locs p_r21 hP hD hS => ?_)
        have hP : va_P g.1 vwCl (wX11 g a_m u22 J_m) H := hP
        have hD : va_D A (wX11 g a_m u22 J_m) := hD
        refine hret 24 ls r21 _ _ u22 dX11_writing_24 hS hP hD ?_
        exact ⟨(MI.st hM p_r21.2), (KK.st (KK.rf I_m) p_r21.2 (by decide)), Or.inl ⟨by omega, ST.num p_r21.2 9 (by decide)⟩, FT.st (FT.rf I_m) p_r21.2, fun q => absurd q (by omega), fun _ => ⟨p_r21.1, ST.num p_r21.2 15 (by decide), ST.num p_r21.2 16 (by decide)⟩⟩

set_option maxHeartbeats 4000000 in
set_option maxRecDepth 100000 in
theorem kX11_isRule (l : Launch) (g : gG) (a_m : Nat → Nat) (I_m : Nat → Nat → Int32) (J_m : Nat → Nat → Int64) (rule : Int32) (hM : MI I_m) : PurI l g yX11_isRule wsX11_isRule 0 [.ref (a_m 0), .int rule] (wX11 g a_m I_m J_m) (fun r => bP (0 ≤ rule.toInt ∧ rule.toInt < (I_m 1 0).toInt) (¬ (0 ≤ rule.toInt ∧ rule.toInt < (I_m 1 0).toInt)) r) := by
  refine PurI.sz (cc := cX11_isRule) (maxL := 2) (by decide) rfl (Nat.le_of_ble_eq_true rfl) (fun p e s m args below meth c Q ls fx hK hP hl hret => ?_)
  have hx := fx.1
  have hb := fx.2.1
  have hml := fx.2.2.1
  have hown := fx.2.2.2.1
  have hts := fx.2.2.2.2
  have hl : lv_has ls 2 [(0, .ref (a_m 0)), (1, .int rule)] := hl
  have hP : va_P g.1 vwCl (wX11 g a_m I_m J_m) s.heap := hP
  have hf_7 := hts _ (uT _ _ u_170)
  have hi_X11 : ∀ w ∈ wsX110, w.before args s = true := fun w h => hts w (uT _ w (u_wsX110 w h))
  have lm1 : (-1 : Int32).toInt = -1 := by decide
  have lm0 : (0 : Int32).toInt = 0 := by decide
  have lm2 : (1 : Int32).toInt = 1 := by decide
  refine lv_iload_n hx hb dX11_isRule_0 rfl (lv_at hl 1 rfl) ?_
  refine q_if_lt (tgt := 18) hx hb dX11_isRule_1 (by decide) rfl (fun k_1 => ?_) (fun k_1 => ?_)
  · refine lv_iconst (v := 0) hx hb dX11_isRule_18 (by decide) ?_
    exact hret 19 ls (0 : Int32) dX11_isRule_19 (Or.inl rfl) (by first | exact Or.inl ⟨rfl, by omega⟩ | exact Or.inr ⟨rfl, by omega⟩)
  · refine lv_iload_n hx hb dX11_isRule_4 rfl (lv_at hl 1 rfl) ?_
    refine lv_aload_n hx hb dX11_isRule_5 rfl (lv_at hl 0 rfl) ?_
    refine va_get (D := g.1) (ci := 11) (v := .ref (a_m 1)) (C := RX11) (T := TX11) (N := 46) hx hb hi_X11 (fun _ h => h) hown hK.1 hP 0 rfl rfl 0 (by decide) hf_7 (fun _ h9 => h9) rfl dX11_isRule_6 ?_
    refine lv_iconst (v := 0) hx hb dX11_isRule_9 (by decide) ?_
    have n_10 : vp_in (0 : Int32) 19800 := (t_in (by decide))
    refine va_iald hx hb hK.1 hP 1 0 rfl rfl n_10 dX11_isRule_10 ?_
    refine q_nm (fun x1 e_x1 => ?_)
    have e_x1 : x1 = (I_m 1) 0 := e_x1
    have g_x1 : x1.toInt = ((I_m 1) 0).toInt := congrArg _ e_x1
    have f_x1 := MI.many hM e_x1
    refine q_icmp_ge (tgt := 18) hx hb dX11_isRule_11 (by decide) rfl rfl (fun k_11 => ?_) (fun k_11 => ?_)
    · refine lv_iconst (v := 0) hx hb dX11_isRule_18 (by decide) ?_
      exact hret 19 ls (0 : Int32) dX11_isRule_19 (Or.inl rfl) (by first | exact Or.inl ⟨rfl, by omega⟩ | exact Or.inr ⟨rfl, by omega⟩)
    · refine lv_iconst (v := 1) hx hb dX11_isRule_14 (by decide) ?_
      refine lv_goto (tgt := 19) hx hb dX11_isRule_15 (by decide) ?_
      have lr : (1 : Int32).toInt = 1 := by decide
      exact hret 19 ls (1 : Int32) dX11_isRule_19 (Or.inr rfl) (by first | exact Or.inl ⟨rfl, by omega⟩ | exact Or.inr ⟨rfl, by omega⟩)

set_option maxHeartbeats 4000000 in
set_option maxRecDepth 100000 in
theorem kX11_told (l : Launch) (g : gG) (a_m : Nat → Nat) (I_m : Nat → Nat → Int32) (J_m : Nat → Nat → Int64) (what : Int32) (hM : MI I_m) : EffI l g yX11_told wsX11_told 1 [.ref (a_m 0), .int what] (wX11 g a_m I_m J_m) (fun (u : (Nat → Nat → Int32)) => wX11 g a_m u J_m) (fun r (u : (Nat → Nat → Int32)) => KK [] [1] I_m (u) ∧ ((¬ (0 ≤ what.toInt ∧ what.toInt ≤ 6) ∧ r = -1) ∨ ((0 ≤ what.toInt ∧ what.toInt ≤ 6) ∧ ((1 ≤ what.toInt ∧ what.toInt ≤ 3 ∧ (I_m 1 what.toInt.toNat).toInt = 0 ∧ r = -1) ∨ (¬ (1 ≤ what.toInt ∧ what.toInt ≤ 3 ∧ (I_m 1 what.toInt.toNat).toInt = 0) ∧ r = (I_m 1 what.toInt.toNat)))))) := by
  refine EffI.st (cc := cX11_told) (maxL := 2) (by decide) rfl (Nat.le_of_ble_eq_true rfl) (fun p e s m args below meth c A Q ls fx hK hP hD hA hS hl hret => ?_)
  have hx := fx.1
  have hb := fx.2.1
  have hml := fx.2.2.1
  have hown := fx.2.2.2.1
  have hts := fx.2.2.2.2
  have hl : lv_has ls 2 [(0, .ref (a_m 0)), (1, .int what)] := hl
  have hP : va_P g.1 vwCl (wX11 g a_m I_m J_m) s.heap := hP
  have hf_7 := hts _ (uT _ _ u_170)
  have hi_X11 : ∀ w ∈ wsX110, w.before args s = true := fun w h => hts w (uT _ w (u_wsX110 w h))
  have lm1 : (-1 : Int32).toInt = -1 := by decide
  have lm0 : (0 : Int32).toInt = 0 := by decide
  have lm2 : (1 : Int32).toInt = 1 := by decide
  have lq3 : (3 : Int32).toInt = 3 := by decide
  have lq6 : (6 : Int32).toInt = 6 := by decide
  refine lv_iload_n hx hb dX11_told_0 rfl (lv_at hl 1 rfl) ?_
  refine q_if_lt (tgt := 10) hx hb dX11_told_1 (by decide) rfl (fun k_1 => ?_) (fun k_1 => ?_)
  · refine lv_aload_n hx hb dX11_told_10 rfl (lv_at hl 0 rfl) ?_
    refine lv_iconst (v := 1) hx hb dX11_told_11 (by decide) ?_
    refine EffI.cv (wr := ([])) (w' := fun u2 => wX11 g a_m u2 J_m) (As := [.int (1 : Int32)]) (kX11_refuse l g a_m I_m J_m (1 : Int32)) fx (gUV (uT _) u_536 u_537 u_538 u_5 u_539) rfl hdX11_refuse ⟨Nat.le_of_ble_eq_true rfl, Nat.le_of_ble_eq_true rfl⟩ hK hP hD hS hA [0, 1, 2, 3, 4, 5, 6, 7, 8, 9, 10, 11, 12, 13, 14, 15, 16, 17, 18, 19, 20, 21, 22] [] [0, 1, 2, 3, 4, 5, 6, 7, 8, 9, 10, 11, 12, 13, 14, 15, 16, 17, 18, 19, 20, 21, 22] rfl rfl rfl rfl (by decide) rfl (fun _ => rfl) rfl rfl rfl rfl hl.1 (Nat.le_of_ble_eq_true rfl) dX11_told_12 (fun r1 u2 H locs p_r1 hP hD hS => ?_)
    have hP : va_P g.1 vwCl (wX11 g a_m u2 J_m) H := hP
    have hD : va_D A (wX11 g a_m u2 J_m) := hD
    refine hret 15 ls r1 _ _ u2 dX11_told_15 hS hP hD ?_
    exact ⟨(KK.st (KK.rf I_m) p_r1.2 (by decide)), Or.inl ⟨by omega, p_r1.1⟩⟩
  · refine lv_iload_n hx hb dX11_told_4 rfl (lv_at hl 1 rfl) ?_
    refine lv_bipush (v := 6) hx hb dX11_told_5 (by decide) ?_
    refine q_icmp_le (tgt := 16) hx hb dX11_told_7 (by decide) rfl (by decide : (6 : Int32).toInt = 6) (fun k_7 => ?_) (fun k_7 => ?_)
    · refine lv_iload_n hx hb dX11_told_16 rfl (lv_at hl 1 rfl) ?_
      refine lv_iconst (v := 1) hx hb dX11_told_17 (by decide) ?_
      refine q_icmp_lt (tgt := 44) hx hb dX11_told_18 (by decide) rfl (by decide : (1 : Int32).toInt = 1) (fun k_18 => ?_) (fun k_18 => ?_)
      · refine lv_aload_n hx hb dX11_told_44 rfl (lv_at hl 0 rfl) ?_
        refine lv_aload_n hx hb dX11_told_45 rfl (lv_at hl 0 rfl) ?_
        refine va_get (D := g.1) (ci := 11) (v := .ref (a_m 1)) (C := RX11) (T := TX11) (N := 46) hx hb hi_X11 (fun _ h => h) hown hK.1 hP 0 rfl rfl 0 (by decide) hf_7 (fun _ h9 => h9) rfl dX11_told_46 ?_
        refine lv_iload_n hx hb dX11_told_49 rfl (lv_at hl 1 rfl) ?_
        have n_50 : vp_in what 19800 := (t_in (by omega))
        refine va_iald hx hb hK.1 hP 1 0 rfl rfl n_50 dX11_told_50 ?_
        refine q_nm (fun x3 e_x3 => ?_)
        have e_x3 : x3 = (I_m 1) what.toNatClampNeg := e_x3
        have g_x3 : x3.toInt = ((I_m 1) what.toNatClampNeg).toInt := congrArg _ e_x3
        refine EffI.cv (wr := ([])) (w' := fun u5 => wX11 g a_m u5 J_m) (As := [.int x3]) (kX11_gives l g a_m I_m J_m x3) fx (gUV (uT _) u_585 u_586 u_587 u_5 u_588) rfl hdX11_gives ⟨Nat.le_of_ble_eq_true rfl, Nat.le_of_ble_eq_true rfl⟩ hK hP hD hS hA [0, 1, 2, 3, 4, 5, 6, 7, 8, 9, 10, 11, 12, 13, 14, 15, 16, 17, 18, 19, 20, 21, 22] [] [0, 1, 2, 3, 4, 5, 6, 7, 8, 9, 10, 11, 12, 13, 14, 15, 16, 17, 18, 19, 20, 21, 22] rfl rfl rfl rfl (by decide) rfl (fun _ => rfl) rfl rfl rfl rfl hl.1 (Nat.le_of_ble_eq_true rfl) dX11_told_51 (fun r4 u5 H locs p_r4 hP hD hS => ?_)
        have hP : va_P g.1 vwCl (wX11 g a_m u5 J_m) H := hP
        have hD : va_D A (wX11 g a_m u5 J_m) := hD
        refine hret 54 ls r4 _ _ u5 dX11_told_54 hS hP hD ?_
        exact ⟨(KK.st (KK.rf I_m) p_r4.2 (by decide)), (by (have h50 : x3 = I_m 1 what.toInt.toNat := e_x3; exact Or.inr ⟨by omega, Or.inr ⟨by omega, p_r4.1.trans h50⟩⟩))⟩
      · refine lv_iload_n hx hb dX11_told_21 rfl (lv_at hl 1 rfl) ?_
        refine lv_iconst (v := 3) hx hb dX11_told_22 (by decide) ?_
        refine q_icmp_gt (tgt := 44) hx hb dX11_told_23 (by decide) rfl (by decide : (3 : Int32).toInt = 3) (fun k_23 => ?_) (fun k_23 => ?_)
        · refine lv_aload_n hx hb dX11_told_44 rfl (lv_at hl 0 rfl) ?_
          refine lv_aload_n hx hb dX11_told_45 rfl (lv_at hl 0 rfl) ?_
          refine va_get (D := g.1) (ci := 11) (v := .ref (a_m 1)) (C := RX11) (T := TX11) (N := 46) hx hb hi_X11 (fun _ h => h) hown hK.1 hP 0 rfl rfl 0 (by decide) hf_7 (fun _ h9 => h9) rfl dX11_told_46 ?_
          refine lv_iload_n hx hb dX11_told_49 rfl (lv_at hl 1 rfl) ?_
          have n_50 : vp_in what 19800 := (t_in (by omega))
          refine va_iald hx hb hK.1 hP 1 0 rfl rfl n_50 dX11_told_50 ?_
          refine q_nm (fun x6 e_x6 => ?_)
          have e_x6 : x6 = (I_m 1) what.toNatClampNeg := e_x6
          have g_x6 : x6.toInt = ((I_m 1) what.toNatClampNeg).toInt := congrArg _ e_x6
          refine EffI.cv (wr := ([])) (w' := fun u8 => wX11 g a_m u8 J_m) (As := [.int x6]) (kX11_gives l g a_m I_m J_m x6) fx (gUV (uT _) u_585 u_586 u_587 u_5 u_588) rfl hdX11_gives ⟨Nat.le_of_ble_eq_true rfl, Nat.le_of_ble_eq_true rfl⟩ hK hP hD hS hA [0, 1, 2, 3, 4, 5, 6, 7, 8, 9, 10, 11, 12, 13, 14, 15, 16, 17, 18, 19, 20, 21, 22] [] [0, 1, 2, 3, 4, 5, 6, 7, 8, 9, 10, 11, 12, 13, 14, 15, 16, 17, 18, 19, 20, 21, 22] rfl rfl rfl rfl (by decide) rfl (fun _ => rfl) rfl rfl rfl rfl hl.1 (Nat.le_of_ble_eq_true rfl) dX11_told_51 (fun r7 u8 H locs p_r7 hP hD hS => ?_)
          have hP : va_P g.1 vwCl (wX11 g a_m u8 J_m) H := hP
          have hD : va_D A (wX11 g a_m u8 J_m) := hD
          refine hret 54 ls r7 _ _ u8 dX11_told_54 hS hP hD ?_
          exact ⟨(KK.st (KK.rf I_m) p_r7.2 (by decide)), (by (have h50 : x6 = I_m 1 what.toInt.toNat := e_x6; exact Or.inr ⟨by omega, Or.inr ⟨by omega, p_r7.1.trans h50⟩⟩))⟩
        · refine lv_aload_n hx hb dX11_told_26 rfl (lv_at hl 0 rfl) ?_
          refine va_get (D := g.1) (ci := 11) (v := .ref (a_m 1)) (C := RX11) (T := TX11) (N := 46) hx hb hi_X11 (fun _ h => h) hown hK.1 hP 0 rfl rfl 0 (by decide) hf_7 (fun _ h9 => h9) rfl dX11_told_27 ?_
          refine lv_iload_n hx hb dX11_told_30 rfl (lv_at hl 1 rfl) ?_
          have n_31 : vp_in what 19800 := (t_in (by omega))
          refine va_iald hx hb hK.1 hP 1 0 rfl rfl n_31 dX11_told_31 ?_
          refine q_nm (fun x9 e_x9 => ?_)
          have e_x9 : x9 = (I_m 1) what.toNatClampNeg := e_x9
          have g_x9 : x9.toInt = ((I_m 1) what.toNatClampNeg).toInt := congrArg _ e_x9
          refine q_if_ne (tgt := 44) hx hb dX11_told_32 (by decide) rfl (fun b_32 k_32 => ?_) (fun b_32 k_32 => ?_)
          · refine lv_aload_n hx hb dX11_told_44 rfl (lv_at hl 0 rfl) ?_
            refine lv_aload_n hx hb dX11_told_45 rfl (lv_at hl 0 rfl) ?_
            refine va_get (D := g.1) (ci := 11) (v := .ref (a_m 1)) (C := RX11) (T := TX11) (N := 46) hx hb hi_X11 (fun _ h => h) hown hK.1 hP 0 rfl rfl 0 (by decide) hf_7 (fun _ h9 => h9) rfl dX11_told_46 ?_
            refine lv_iload_n hx hb dX11_told_49 rfl (lv_at hl 1 rfl) ?_
            have n_50 : vp_in what 19800 := (t_in (by omega))
            refine va_iald hx hb hK.1 hP 1 0 rfl rfl n_50 dX11_told_50 ?_
            refine q_nm (fun x10 e_x10 => ?_)
            have e_x10 : x10 = (I_m 1) what.toNatClampNeg := e_x10
            have g_x10 : x10.toInt = ((I_m 1) what.toNatClampNeg).toInt := congrArg _ e_x10
            refine EffI.cv (wr := ([])) (w' := fun u12 => wX11 g a_m u12 J_m) (As := [.int x10]) (kX11_gives l g a_m I_m J_m x10) fx (gUV (uT _) u_585 u_586 u_587 u_5 u_588) rfl hdX11_gives ⟨Nat.le_of_ble_eq_true rfl, Nat.le_of_ble_eq_true rfl⟩ hK hP hD hS hA [0, 1, 2, 3, 4, 5, 6, 7, 8, 9, 10, 11, 12, 13, 14, 15, 16, 17, 18, 19, 20, 21, 22] [] [0, 1, 2, 3, 4, 5, 6, 7, 8, 9, 10, 11, 12, 13, 14, 15, 16, 17, 18, 19, 20, 21, 22] rfl rfl rfl rfl (by decide) rfl (fun _ => rfl) rfl rfl rfl rfl hl.1 (Nat.le_of_ble_eq_true rfl) dX11_told_51 (fun r11 u12 H locs p_r11 hP hD hS => ?_)
            have hP : va_P g.1 vwCl (wX11 g a_m u12 J_m) H := hP
            have hD : va_D A (wX11 g a_m u12 J_m) := hD
            refine hret 54 ls r11 _ _ u12 dX11_told_54 hS hP hD ?_
            exact ⟨(KK.st (KK.rf I_m) p_r11.2 (by decide)), (by first | (have h50 : x10 = I_m 1 what.toInt.toNat := e_x10; have h31 : x9 = I_m 1 what.toInt.toNat := e_x9; exact Or.inr ⟨by omega, Or.inr ⟨by rw [← h31]; omega, p_r11.1.trans h50⟩⟩) | (have h50 : x10 = I_m 1 what.toInt.toNat := e_x10; exact Or.inr ⟨by omega, Or.inr ⟨by omega, p_r11.1.trans h50⟩⟩))⟩
          · refine lv_aload_n hx hb dX11_told_35 rfl (lv_at hl 0 rfl) ?_
            refine lv_bipush (v := 6) hx hb dX11_told_36 (by decide) ?_
            refine EffI.cv (wr := ([])) (w' := fun u14 => wX11 g a_m u14 J_m) (As := [.int (6 : Int32)]) (kX11_refuse l g a_m I_m J_m (6 : Int32)) fx (gUV (uT _) u_536 u_537 u_538 u_5 u_539) rfl hdX11_refuse ⟨Nat.le_of_ble_eq_true rfl, Nat.le_of_ble_eq_true rfl⟩ hK hP hD hS hA [0, 1, 2, 3, 4, 5, 6, 7, 8, 9, 10, 11, 12, 13, 14, 15, 16, 17, 18, 19, 20, 21, 22] [] [0, 1, 2, 3, 4, 5, 6, 7, 8, 9, 10, 11, 12, 13, 14, 15, 16, 17, 18, 19, 20, 21, 22] rfl rfl rfl rfl (by decide) rfl (fun _ => rfl) rfl rfl rfl rfl hl.1 (Nat.le_of_ble_eq_true rfl) dX11_told_38 (fun r13 u14 H locs p_r13 hP hD hS => ?_)
            have hP : va_P g.1 vwCl (wX11 g a_m u14 J_m) H := hP
            have hD : va_D A (wX11 g a_m u14 J_m) := hD
            refine lv_goto (tgt := 54) hx hb dX11_told_41 (by decide) ?_
            refine hret 54 ls r13 _ _ u14 dX11_told_54 hS hP hD ?_
            exact ⟨(KK.st (KK.rf I_m) p_r13.2 (by decide)), (by (have h31 : x9 = I_m 1 what.toInt.toNat := e_x9; rw [← h31]; exact Or.inr ⟨by omega, Or.inl ⟨by omega, by omega, by omega, p_r13.1⟩⟩))⟩
    · refine lv_aload_n hx hb dX11_told_10 rfl (lv_at hl 0 rfl) ?_
      refine lv_iconst (v := 1) hx hb dX11_told_11 (by decide) ?_
      refine EffI.cv (wr := ([])) (w' := fun u16 => wX11 g a_m u16 J_m) (As := [.int (1 : Int32)]) (kX11_refuse l g a_m I_m J_m (1 : Int32)) fx (gUV (uT _) u_536 u_537 u_538 u_5 u_539) rfl hdX11_refuse ⟨Nat.le_of_ble_eq_true rfl, Nat.le_of_ble_eq_true rfl⟩ hK hP hD hS hA [0, 1, 2, 3, 4, 5, 6, 7, 8, 9, 10, 11, 12, 13, 14, 15, 16, 17, 18, 19, 20, 21, 22] [] [0, 1, 2, 3, 4, 5, 6, 7, 8, 9, 10, 11, 12, 13, 14, 15, 16, 17, 18, 19, 20, 21, 22] rfl rfl rfl rfl (by decide) rfl (fun _ => rfl) rfl rfl rfl rfl hl.1 (Nat.le_of_ble_eq_true rfl) dX11_told_12 (fun r15 u16 H locs p_r15 hP hD hS => ?_)
      have hP : va_P g.1 vwCl (wX11 g a_m u16 J_m) H := hP
      have hD : va_D A (wX11 g a_m u16 J_m) := hD
      refine hret 15 ls r15 _ _ u16 dX11_told_15 hS hP hD ?_
      exact ⟨(KK.st (KK.rf I_m) p_r15.2 (by decide)), Or.inl ⟨by omega, p_r15.1⟩⟩

set_option maxHeartbeats 4000000 in
set_option maxRecDepth 100000 in
theorem kX11_rule (l : Launch) (g : gG) (a_m : Nat → Nat) (I_m : Nat → Nat → Int32) (J_m : Nat → Nat → Int64) (rule : Int32) (what : Int32) (hM : MI I_m) : EffI l g yX11_rule wsX11_rule 1 [.ref (a_m 0), .int rule, .int what] (wX11 g a_m I_m J_m) (fun (u : (Nat → Nat → Int32)) => wX11 g a_m u J_m) (fun r (u : (Nat → Nat → Int32)) => KK [] [1] I_m (u) ∧ ((¬ ((0 ≤ rule.toInt ∧ rule.toInt < (I_m 1 0).toInt) ∧ 0 ≤ what.toInt ∧ what.toInt ≤ 2) ∧ r = -1) ∨ ((0 ≤ rule.toInt ∧ rule.toInt < (I_m 1 0).toInt) ∧ ((what.toInt = 0 ∧ r = I_m 1 (12 + 12 * rule.toInt.toNat)) ∨ (what.toInt = 1 ∧ r = I_m 1 (12 + 12 * rule.toInt.toNat + 7)) ∨ (what.toInt = 2 ∧ r = I_m 1 (12 + 12 * rule.toInt.toNat + 11)))))) := by
  refine EffI.st (cc := cX11_rule) (maxL := 3) (by decide) rfl (Nat.le_of_ble_eq_true rfl) (fun p e s m args below meth c A Q ls fx hK hP hD hA hS hl hret => ?_)
  have hx := fx.1
  have hb := fx.2.1
  have hml := fx.2.2.1
  have hown := fx.2.2.2.1
  have hts := fx.2.2.2.2
  have hl : lv_has ls 3 [(0, .ref (a_m 0)), (1, .int rule), (2, .int what)] := hl
  have hP : va_P g.1 vwCl (wX11 g a_m I_m J_m) s.heap := hP
  have hf_7 := hts _ (uT _ _ u_170)
  have hi_X11 : ∀ w ∈ wsX110, w.before args s = true := fun w h => hts w (uT _ w (u_wsX110 w h))
  have lm1 : (-1 : Int32).toInt = -1 := by decide
  have lm0 : (0 : Int32).toInt = 0 := by decide
  have lm2 : (1 : Int32).toInt = 1 := by decide
  have lq2 : (2 : Int32).toInt = 2 := by decide
  have lq7 : (7 : Int32).toInt = 7 := by decide
  have lq11 : (11 : Int32).toInt = 11 := by decide
  have hmn := hM.many rfl
  refine lv_aload_n hx hb dX11_rule_0 rfl (lv_at hl 0 rfl) ?_
  refine lv_iload_n hx hb dX11_rule_1 rfl (lv_at hl 1 rfl) ?_
  refine PurI.cv (As := [.int rule]) (kX11_isRule l g a_m I_m J_m rule hM) fx (gUV (uT _) u_804 u_805 u_806 u_5 u_807) rfl hdX11_isRule ⟨Nat.le_of_ble_eq_true rfl, Nat.le_of_ble_eq_true rfl⟩ hK hP [0, 1, 2, 3, 4, 5, 6, 7, 8, 9, 10, 11, 12, 13, 14, 15, 16, 17, 18, 19, 20, 21, 22] rfl rfl rfl rfl rfl hl.1 (Nat.le_of_ble_eq_true rfl) dX11_rule_2 (fun r1 p_r1 => ?_)
  refine q_if_eq (tgt := 17) hx hb dX11_rule_5 (by decide) rfl (fun b_5 k_5 => ?_) (fun b_5 k_5 => ?_)
  · have q_5 := bP.f p_r1 b_5
    refine lv_aload_n hx hb dX11_rule_17 rfl (lv_at hl 0 rfl) ?_
    refine lv_iconst (v := 1) hx hb dX11_rule_18 (by decide) ?_
    refine EffI.cv (wr := ([])) (w' := fun u3 => wX11 g a_m u3 J_m) (As := [.int (1 : Int32)]) (kX11_refuse l g a_m I_m J_m (1 : Int32)) fx (gUV (uT _) u_536 u_537 u_538 u_5 u_539) rfl hdX11_refuse ⟨Nat.le_of_ble_eq_true rfl, Nat.le_of_ble_eq_true rfl⟩ hK hP hD hS hA [0, 1, 2, 3, 4, 5, 6, 7, 8, 9, 10, 11, 12, 13, 14, 15, 16, 17, 18, 19, 20, 21, 22] [] [0, 1, 2, 3, 4, 5, 6, 7, 8, 9, 10, 11, 12, 13, 14, 15, 16, 17, 18, 19, 20, 21, 22] rfl rfl rfl rfl (by decide) rfl (fun _ => rfl) rfl rfl rfl rfl hl.1 (Nat.le_of_ble_eq_true rfl) dX11_rule_19 (fun r2 u3 H locs p_r2 hP hD hS => ?_)
    have hP : va_P g.1 vwCl (wX11 g a_m u3 J_m) H := hP
    have hD : va_D A (wX11 g a_m u3 J_m) := hD
    refine hret 22 ls r2 _ _ u3 dX11_rule_22 hS hP hD ?_
    exact ⟨(KK.st (KK.rf I_m) p_r2.2 (by decide)), Or.inl ⟨by omega, p_r2.1⟩⟩
  · have q_5 := bP.t p_r1 b_5
    refine lv_iload_n hx hb dX11_rule_8 rfl (lv_at hl 2 rfl) ?_
    refine q_if_lt (tgt := 17) hx hb dX11_rule_9 (by decide) rfl (fun k_9 => ?_) (fun k_9 => ?_)
    · refine lv_aload_n hx hb dX11_rule_17 rfl (lv_at hl 0 rfl) ?_
      refine lv_iconst (v := 1) hx hb dX11_rule_18 (by decide) ?_
      refine EffI.cv (wr := ([])) (w' := fun u5 => wX11 g a_m u5 J_m) (As := [.int (1 : Int32)]) (kX11_refuse l g a_m I_m J_m (1 : Int32)) fx (gUV (uT _) u_536 u_537 u_538 u_5 u_539) rfl hdX11_refuse ⟨Nat.le_of_ble_eq_true rfl, Nat.le_of_ble_eq_true rfl⟩ hK hP hD hS hA [0, 1, 2, 3, 4, 5, 6, 7, 8, 9, 10, 11, 12, 13, 14, 15, 16, 17, 18, 19, 20, 21, 22] [] [0, 1, 2, 3, 4, 5, 6, 7, 8, 9, 10, 11, 12, 13, 14, 15, 16, 17, 18, 19, 20, 21, 22] rfl rfl rfl rfl (by decide) rfl (fun _ => rfl) rfl rfl rfl rfl hl.1 (Nat.le_of_ble_eq_true rfl) dX11_rule_19 (fun r4 u5 H locs p_r4 hP hD hS => ?_)
      have hP : va_P g.1 vwCl (wX11 g a_m u5 J_m) H := hP
      have hD : va_D A (wX11 g a_m u5 J_m) := hD
      refine hret 22 ls r4 _ _ u5 dX11_rule_22 hS hP hD ?_
      exact ⟨(KK.st (KK.rf I_m) p_r4.2 (by decide)), Or.inl ⟨by omega, p_r4.1⟩⟩
    · refine lv_iload_n hx hb dX11_rule_12 rfl (lv_at hl 2 rfl) ?_
      refine lv_iconst (v := 2) hx hb dX11_rule_13 (by decide) ?_
      refine q_icmp_le (tgt := 23) hx hb dX11_rule_14 (by decide) rfl (by decide : (2 : Int32).toInt = 2) (fun k_14 => ?_) (fun k_14 => ?_)
      · refine lv_aload_n hx hb dX11_rule_23 rfl (lv_at hl 0 rfl) ?_
        refine lv_aload_n hx hb dX11_rule_24 rfl (lv_at hl 0 rfl) ?_
        refine va_get (D := g.1) (ci := 11) (v := .ref (a_m 1)) (C := RX11) (T := TX11) (N := 46) hx hb hi_X11 (fun _ h => h) hown hK.1 hP 0 rfl rfl 0 (by decide) hf_7 (fun _ h9 => h9) rfl dX11_rule_25 ?_
        refine lv_iconst (v := 0) hx hb dX11_rule_28 (by decide) ?_
        refine lv_iload_n hx hb dX11_rule_29 rfl (lv_at hl 1 rfl) ?_
        refine PurI.cs (C := RX11) (As := [.int (0 : Int32), .int rule]) (kX11_ruleAt l g (0 : Int32) rule (by omega) (by omega)) fx (gUS (uT _) u_554 u_555 u_5 u_556) rfl hdX11_ruleAt ⟨Nat.le_of_ble_eq_true rfl, Nat.le_of_ble_eq_true rfl⟩ hK hP [] rfl rfl rfl hl.1 (Nat.le_of_ble_eq_true rfl) dX11_rule_30 (fun r6 p_r6 => ?_)
        refine lv_iload_n hx hb dX11_rule_33 rfl (lv_at hl 2 rfl) ?_
        refine q_if_ne (tgt := 41) hx hb dX11_rule_34 (by decide) rfl (fun b_34 k_34 => ?_) (fun b_34 k_34 => ?_)
        · refine lv_iload_n hx hb dX11_rule_41 rfl (lv_at hl 2 rfl) ?_
          refine lv_iconst (v := 1) hx hb dX11_rule_42 (by decide) ?_
          refine q_icmp_ne (tgt := 51) hx hb dX11_rule_43 (by decide) rfl (by decide : (1 : Int32).toInt = 1) (fun k_43 => ?_) (fun k_43 => ?_)
          · refine lv_bipush (v := 11) hx hb dX11_rule_51 (by decide) ?_
            refine r_iadd hx hb dX11_rule_53 rfl (by decide : (11 : Int32).toInt = 11) (fun x7 e_x7 t_x7 => ?_)
            try have t_x7 := t_x7 (by omega)
            have n_54 : vp_in x7 19800 := (t_in (by omega))
            refine va_iald hx hb hK.1 hP 1 0 rfl rfl n_54 dX11_rule_54 ?_
            refine q_nm (fun x8 e_x8 => ?_)
            have e_x8 : x8 = (I_m 1) x7.toNatClampNeg := e_x8
            have g_x8 : x8.toInt = ((I_m 1) x7.toNatClampNeg).toInt := congrArg _ e_x8
            refine EffI.cv (wr := ([])) (w' := fun u10 => wX11 g a_m u10 J_m) (As := [.int x8]) (kX11_gives l g a_m I_m J_m x8) fx (gUV (uT _) u_585 u_586 u_587 u_5 u_588) rfl hdX11_gives ⟨Nat.le_of_ble_eq_true rfl, Nat.le_of_ble_eq_true rfl⟩ hK hP hD hS hA [0, 1, 2, 3, 4, 5, 6, 7, 8, 9, 10, 11, 12, 13, 14, 15, 16, 17, 18, 19, 20, 21, 22] [] [0, 1, 2, 3, 4, 5, 6, 7, 8, 9, 10, 11, 12, 13, 14, 15, 16, 17, 18, 19, 20, 21, 22] rfl rfl rfl rfl (by decide) rfl (fun _ => rfl) rfl rfl rfl rfl hl.1 (Nat.le_of_ble_eq_true rfl) dX11_rule_55 (fun r9 u10 H locs p_r9 hP hD hS => ?_)
            have hP : va_P g.1 vwCl (wX11 g a_m u10 J_m) H := hP
            have hD : va_D A (wX11 g a_m u10 J_m) := hD
            refine hret 58 ls r9 _ _ u10 dX11_rule_58 hS hP hD ?_
            exact ⟨(KK.st (KK.rf I_m) p_r9.2 (by decide)), (by first | exact Or.inr ⟨by omega, Or.inl ⟨by omega, p_r9.1.trans (at_ix e_x8 (by omega))⟩⟩ | exact Or.inr ⟨by omega, Or.inr (Or.inl ⟨by omega, p_r9.1.trans (at_ix e_x8 (by omega))⟩)⟩ | exact Or.inr ⟨by omega, Or.inr (Or.inr ⟨by omega, p_r9.1.trans (at_ix e_x8 (by omega))⟩)⟩)⟩
          · refine lv_bipush (v := 7) hx hb dX11_rule_46 (by decide) ?_
            refine lv_goto (tgt := 53) hx hb dX11_rule_48 (by decide) ?_
            refine r_iadd hx hb dX11_rule_53 rfl (by decide : (7 : Int32).toInt = 7) (fun x11 e_x11 t_x11 => ?_)
            try have t_x11 := t_x11 (by omega)
            have n_54 : vp_in x11 19800 := (t_in (by omega))
            refine va_iald hx hb hK.1 hP 1 0 rfl rfl n_54 dX11_rule_54 ?_
            refine q_nm (fun x12 e_x12 => ?_)
            have e_x12 : x12 = (I_m 1) x11.toNatClampNeg := e_x12
            have g_x12 : x12.toInt = ((I_m 1) x11.toNatClampNeg).toInt := congrArg _ e_x12
            refine EffI.cv (wr := ([])) (w' := fun u14 => wX11 g a_m u14 J_m) (As := [.int x12]) (kX11_gives l g a_m I_m J_m x12) fx (gUV (uT _) u_585 u_586 u_587 u_5 u_588) rfl hdX11_gives ⟨Nat.le_of_ble_eq_true rfl, Nat.le_of_ble_eq_true rfl⟩ hK hP hD hS hA [0, 1, 2, 3, 4, 5, 6, 7, 8, 9, 10, 11, 12, 13, 14, 15, 16, 17, 18, 19, 20, 21, 22] [] [0, 1, 2, 3, 4, 5, 6, 7, 8, 9, 10, 11, 12, 13, 14, 15, 16, 17, 18, 19, 20, 21, 22] rfl rfl rfl rfl (by decide) rfl (fun _ => rfl) rfl rfl rfl rfl hl.1 (Nat.le_of_ble_eq_true rfl) dX11_rule_55 (fun r13 u14 H locs p_r13 hP hD hS => ?_)
            have hP : va_P g.1 vwCl (wX11 g a_m u14 J_m) H := hP
            have hD : va_D A (wX11 g a_m u14 J_m) := hD
            refine hret 58 ls r13 _ _ u14 dX11_rule_58 hS hP hD ?_
            exact ⟨(KK.st (KK.rf I_m) p_r13.2 (by decide)), (by first | exact Or.inr ⟨by omega, Or.inl ⟨by omega, p_r13.1.trans (at_ix e_x12 (by omega))⟩⟩ | exact Or.inr ⟨by omega, Or.inr (Or.inl ⟨by omega, p_r13.1.trans (at_ix e_x12 (by omega))⟩)⟩ | exact Or.inr ⟨by omega, Or.inr (Or.inr ⟨by omega, p_r13.1.trans (at_ix e_x12 (by omega))⟩)⟩)⟩
        · refine lv_iconst (v := 0) hx hb dX11_rule_37 (by decide) ?_
          refine lv_goto (tgt := 53) hx hb dX11_rule_38 (by decide) ?_
          refine r_iadd hx hb dX11_rule_53 rfl (by decide : (0 : Int32).toInt = 0) (fun x15 e_x15 t_x15 => ?_)
          try have t_x15 := t_x15 (by omega)
          have n_54 : vp_in x15 19800 := (t_in (by omega))
          refine va_iald hx hb hK.1 hP 1 0 rfl rfl n_54 dX11_rule_54 ?_
          refine q_nm (fun x16 e_x16 => ?_)
          have e_x16 : x16 = (I_m 1) x15.toNatClampNeg := e_x16
          have g_x16 : x16.toInt = ((I_m 1) x15.toNatClampNeg).toInt := congrArg _ e_x16
          refine EffI.cv (wr := ([])) (w' := fun u18 => wX11 g a_m u18 J_m) (As := [.int x16]) (kX11_gives l g a_m I_m J_m x16) fx (gUV (uT _) u_585 u_586 u_587 u_5 u_588) rfl hdX11_gives ⟨Nat.le_of_ble_eq_true rfl, Nat.le_of_ble_eq_true rfl⟩ hK hP hD hS hA [0, 1, 2, 3, 4, 5, 6, 7, 8, 9, 10, 11, 12, 13, 14, 15, 16, 17, 18, 19, 20, 21, 22] [] [0, 1, 2, 3, 4, 5, 6, 7, 8, 9, 10, 11, 12, 13, 14, 15, 16, 17, 18, 19, 20, 21, 22] rfl rfl rfl rfl (by decide) rfl (fun _ => rfl) rfl rfl rfl rfl hl.1 (Nat.le_of_ble_eq_true rfl) dX11_rule_55 (fun r17 u18 H locs p_r17 hP hD hS => ?_)
          have hP : va_P g.1 vwCl (wX11 g a_m u18 J_m) H := hP
          have hD : va_D A (wX11 g a_m u18 J_m) := hD
          refine hret 58 ls r17 _ _ u18 dX11_rule_58 hS hP hD ?_
          exact ⟨(KK.st (KK.rf I_m) p_r17.2 (by decide)), (by first | exact Or.inr ⟨by omega, Or.inl ⟨by omega, p_r17.1.trans (at_ix e_x16 (by omega))⟩⟩ | exact Or.inr ⟨by omega, Or.inr (Or.inl ⟨by omega, p_r17.1.trans (at_ix e_x16 (by omega))⟩)⟩ | exact Or.inr ⟨by omega, Or.inr (Or.inr ⟨by omega, p_r17.1.trans (at_ix e_x16 (by omega))⟩)⟩)⟩
      · refine lv_aload_n hx hb dX11_rule_17 rfl (lv_at hl 0 rfl) ?_
        refine lv_iconst (v := 1) hx hb dX11_rule_18 (by decide) ?_
        refine EffI.cv (wr := ([])) (w' := fun u20 => wX11 g a_m u20 J_m) (As := [.int (1 : Int32)]) (kX11_refuse l g a_m I_m J_m (1 : Int32)) fx (gUV (uT _) u_536 u_537 u_538 u_5 u_539) rfl hdX11_refuse ⟨Nat.le_of_ble_eq_true rfl, Nat.le_of_ble_eq_true rfl⟩ hK hP hD hS hA [0, 1, 2, 3, 4, 5, 6, 7, 8, 9, 10, 11, 12, 13, 14, 15, 16, 17, 18, 19, 20, 21, 22] [] [0, 1, 2, 3, 4, 5, 6, 7, 8, 9, 10, 11, 12, 13, 14, 15, 16, 17, 18, 19, 20, 21, 22] rfl rfl rfl rfl (by decide) rfl (fun _ => rfl) rfl rfl rfl rfl hl.1 (Nat.le_of_ble_eq_true rfl) dX11_rule_19 (fun r19 u20 H locs p_r19 hP hD hS => ?_)
        have hP : va_P g.1 vwCl (wX11 g a_m u20 J_m) H := hP
        have hD : va_D A (wX11 g a_m u20 J_m) := hD
        refine hret 22 ls r19 _ _ u20 dX11_rule_22 hS hP hD ?_
        exact ⟨(KK.st (KK.rf I_m) p_r19.2 (by decide)), Or.inl ⟨by omega, p_r19.1⟩⟩

set_option maxHeartbeats 4000000 in
set_option maxRecDepth 100000 in
theorem kX11_letter (l : Launch) (g : gG) (a_m : Nat → Nat) (I_m : Nat → Nat → Int32) (J_m : Nat → Nat → Int64) (rule : Int32) (k : Int32) (hM : MI I_m) : EffI l g yX11_letter wsX11_letter 1 [.ref (a_m 0), .int rule, .int k] (wX11 g a_m I_m J_m) (fun (u : (Nat → Nat → Int32)) => wX11 g a_m u J_m) (fun r (u : (Nat → Nat → Int32)) => KK [] [1] I_m (u) ∧ ((¬ (0 ≤ rule.toInt ∧ rule.toInt < (I_m 1 0).toInt) ∧ r = -1) ∨ ((0 ≤ rule.toInt ∧ rule.toInt < (I_m 1 0).toInt) ∧ ((¬ (0 ≤ k.toInt ∧ k.toInt < (I_m 1 (12 + 12 * rule.toInt.toNat)).toInt) ∧ r = -1) ∨ ((0 ≤ k.toInt ∧ k.toInt < (I_m 1 (12 + 12 * rule.toInt.toNat)).toInt) ∧ r = I_m 1 (12 + 12 * rule.toInt.toNat + 1 + k.toInt.toNat)))))) := by
  refine EffI.st (cc := cX11_letter) (maxL := 3) (by decide) rfl (Nat.le_of_ble_eq_true rfl) (fun p e s m args below meth c A Q ls fx hK hP hD hA hS hl hret => ?_)
  have hx := fx.1
  have hb := fx.2.1
  have hml := fx.2.2.1
  have hown := fx.2.2.2.1
  have hts := fx.2.2.2.2
  have hl : lv_has ls 3 [(0, .ref (a_m 0)), (1, .int rule), (2, .int k)] := hl
  have hP : va_P g.1 vwCl (wX11 g a_m I_m J_m) s.heap := hP
  have hf_7 := hts _ (uT _ _ u_170)
  have hi_X11 : ∀ w ∈ wsX110, w.before args s = true := fun w h => hts w (uT _ w (u_wsX110 w h))
  have lm1 : (-1 : Int32).toInt = -1 := by decide
  have lm0 : (0 : Int32).toInt = 0 := by decide
  have lm2 : (1 : Int32).toInt = 1 := by decide
  have lq6 : (6 : Int32).toInt = 6 := by decide
  have hmn := hM.many rfl
  refine lv_aload_n hx hb dX11_letter_0 rfl (lv_at hl 0 rfl) ?_
  refine lv_iload_n hx hb dX11_letter_1 rfl (lv_at hl 1 rfl) ?_
  refine PurI.cv (As := [.int rule]) (kX11_isRule l g a_m I_m J_m rule hM) fx (gUV (uT _) u_804 u_805 u_806 u_5 u_807) rfl hdX11_isRule ⟨Nat.le_of_ble_eq_true rfl, Nat.le_of_ble_eq_true rfl⟩ hK hP [0, 1, 2, 3, 4, 5, 6, 7, 8, 9, 10, 11, 12, 13, 14, 15, 16, 17, 18, 19, 20, 21, 22] rfl rfl rfl rfl rfl hl.1 (Nat.le_of_ble_eq_true rfl) dX11_letter_2 (fun r1 p_r1 => ?_)
  refine q_if_ne (tgt := 14) hx hb dX11_letter_5 (by decide) rfl (fun b_5 k_5 => ?_) (fun b_5 k_5 => ?_)
  · have q_5 := bP.t p_r1 b_5
    refine lv_iload_n hx hb dX11_letter_14 rfl (lv_at hl 2 rfl) ?_
    refine q_if_lt (tgt := 32) hx hb dX11_letter_15 (by decide) rfl (fun k_15 => ?_) (fun k_15 => ?_)
    · refine lv_aload_n hx hb dX11_letter_32 rfl (lv_at hl 0 rfl) ?_
      refine lv_bipush (v := 6) hx hb dX11_letter_33 (by decide) ?_
      refine EffI.cv (wr := ([])) (w' := fun u3 => wX11 g a_m u3 J_m) (As := [.int (6 : Int32)]) (kX11_refuse l g a_m I_m J_m (6 : Int32)) fx (gUV (uT _) u_536 u_537 u_538 u_5 u_539) rfl hdX11_refuse ⟨Nat.le_of_ble_eq_true rfl, Nat.le_of_ble_eq_true rfl⟩ hK hP hD hS hA [0, 1, 2, 3, 4, 5, 6, 7, 8, 9, 10, 11, 12, 13, 14, 15, 16, 17, 18, 19, 20, 21, 22] [] [0, 1, 2, 3, 4, 5, 6, 7, 8, 9, 10, 11, 12, 13, 14, 15, 16, 17, 18, 19, 20, 21, 22] rfl rfl rfl rfl (by decide) rfl (fun _ => rfl) rfl rfl rfl rfl hl.1 (Nat.le_of_ble_eq_true rfl) dX11_letter_35 (fun r2 u3 H locs p_r2 hP hD hS => ?_)
      have hP : va_P g.1 vwCl (wX11 g a_m u3 J_m) H := hP
      have hD : va_D A (wX11 g a_m u3 J_m) := hD
      refine lv_goto (tgt := 59) hx hb dX11_letter_38 (by decide) ?_
      refine hret 59 ls r2 _ _ u3 dX11_letter_59 hS hP hD ?_
      exact ⟨(KK.st (KK.rf I_m) p_r2.2 (by decide)), (by first | exact Or.inr ⟨by omega, Or.inl ⟨by rw [← hlc28]; omega, p_r2.1⟩⟩ | exact Or.inr ⟨by omega, Or.inl ⟨by omega, p_r2.1⟩⟩)⟩
    · refine lv_iload_n hx hb dX11_letter_18 rfl (lv_at hl 2 rfl) ?_
      refine lv_aload_n hx hb dX11_letter_19 rfl (lv_at hl 0 rfl) ?_
      refine va_get (D := g.1) (ci := 11) (v := .ref (a_m 1)) (C := RX11) (T := TX11) (N := 46) hx hb hi_X11 (fun _ h => h) hown hK.1 hP 0 rfl rfl 0 (by decide) hf_7 (fun _ h9 => h9) rfl dX11_letter_20 ?_
      refine lv_iconst (v := 0) hx hb dX11_letter_23 (by decide) ?_
      refine lv_iload_n hx hb dX11_letter_24 rfl (lv_at hl 1 rfl) ?_
      refine PurI.cs (C := RX11) (As := [.int (0 : Int32), .int rule]) (kX11_ruleAt l g (0 : Int32) rule (by omega) (by omega)) fx (gUS (uT _) u_554 u_555 u_5 u_556) rfl hdX11_ruleAt ⟨Nat.le_of_ble_eq_true rfl, Nat.le_of_ble_eq_true rfl⟩ hK hP [] rfl rfl rfl hl.1 (Nat.le_of_ble_eq_true rfl) dX11_letter_25 (fun r4 p_r4 => ?_)
      have n_28 : vp_in r4 19800 := (t_in (by omega))
      refine va_iald hx hb hK.1 hP 1 0 rfl rfl n_28 dX11_letter_28 ?_
      refine q_nm (fun x5 e_x5 => ?_)
      have e_x5 : x5 = (I_m 1) r4.toNatClampNeg := e_x5
      have g_x5 : x5.toInt = ((I_m 1) r4.toNatClampNeg).toInt := congrArg _ e_x5
      have f_x5 := TS.lc hM.t0 (r := rule.toInt) e_x5 (by omega) (by omega)
      have hlc28 : x5 = I_m 1 (12 + 12 * rule.toInt.toNat) := at_ix e_x5 (by omega)
      refine q_icmp_lt (tgt := 41) hx hb dX11_letter_29 (by decide) rfl rfl (fun k_29 => ?_) (fun k_29 => ?_)
      · refine lv_aload_n hx hb dX11_letter_41 rfl (lv_at hl 0 rfl) ?_
        refine lv_aload_n hx hb dX11_letter_42 rfl (lv_at hl 0 rfl) ?_
        refine va_get (D := g.1) (ci := 11) (v := .ref (a_m 1)) (C := RX11) (T := TX11) (N := 46) hx hb hi_X11 (fun _ h => h) hown hK.1 hP 0 rfl rfl 0 (by decide) hf_7 (fun _ h9 => h9) rfl dX11_letter_43 ?_
        refine lv_iconst (v := 0) hx hb dX11_letter_46 (by decide) ?_
        refine lv_iload_n hx hb dX11_letter_47 rfl (lv_at hl 1 rfl) ?_
        refine PurI.cs (C := RX11) (As := [.int (0 : Int32), .int rule]) (kX11_ruleAt l g (0 : Int32) rule (by omega) (by omega)) fx (gUS (uT _) u_554 u_555 u_5 u_556) rfl hdX11_ruleAt ⟨Nat.le_of_ble_eq_true rfl, Nat.le_of_ble_eq_true rfl⟩ hK hP [] rfl rfl rfl hl.1 (Nat.le_of_ble_eq_true rfl) dX11_letter_48 (fun r6 p_r6 => ?_)
        refine lv_iconst (v := 1) hx hb dX11_letter_51 (by decide) ?_
        refine r_iadd hx hb dX11_letter_52 rfl (by decide : (1 : Int32).toInt = 1) (fun x7 e_x7 t_x7 => ?_)
        try have t_x7 := t_x7 (by omega)
        refine lv_iload_n hx hb dX11_letter_53 rfl (lv_at hl 2 rfl) ?_
        refine r_iadd hx hb dX11_letter_54 rfl rfl (fun x8 e_x8 t_x8 => ?_)
        try have t_x8 := t_x8 (by omega)
        have n_55 : vp_in x8 19800 := (t_in (by omega))
        refine va_iald hx hb hK.1 hP 1 0 rfl rfl n_55 dX11_letter_55 ?_
        refine q_nm (fun x9 e_x9 => ?_)
        have e_x9 : x9 = (I_m 1) x8.toNatClampNeg := e_x9
        have g_x9 : x9.toInt = ((I_m 1) x8.toNatClampNeg).toInt := congrArg _ e_x9
        refine EffI.cv (wr := ([])) (w' := fun u11 => wX11 g a_m u11 J_m) (As := [.int x9]) (kX11_gives l g a_m I_m J_m x9) fx (gUV (uT _) u_585 u_586 u_587 u_5 u_588) rfl hdX11_gives ⟨Nat.le_of_ble_eq_true rfl, Nat.le_of_ble_eq_true rfl⟩ hK hP hD hS hA [0, 1, 2, 3, 4, 5, 6, 7, 8, 9, 10, 11, 12, 13, 14, 15, 16, 17, 18, 19, 20, 21, 22] [] [0, 1, 2, 3, 4, 5, 6, 7, 8, 9, 10, 11, 12, 13, 14, 15, 16, 17, 18, 19, 20, 21, 22] rfl rfl rfl rfl (by decide) rfl (fun _ => rfl) rfl rfl rfl rfl hl.1 (Nat.le_of_ble_eq_true rfl) dX11_letter_56 (fun r10 u11 H locs p_r10 hP hD hS => ?_)
        have hP : va_P g.1 vwCl (wX11 g a_m u11 J_m) H := hP
        have hD : va_D A (wX11 g a_m u11 J_m) := hD
        refine hret 59 ls r10 _ _ u11 dX11_letter_59 hS hP hD ?_
        exact ⟨(KK.st (KK.rf I_m) p_r10.2 (by decide)), (by exact Or.inr ⟨by omega, Or.inr ⟨by rw [← hlc28]; omega, p_r10.1.trans (at_ix e_x9 (by omega))⟩⟩)⟩
      · refine lv_aload_n hx hb dX11_letter_32 rfl (lv_at hl 0 rfl) ?_
        refine lv_bipush (v := 6) hx hb dX11_letter_33 (by decide) ?_
        refine EffI.cv (wr := ([])) (w' := fun u13 => wX11 g a_m u13 J_m) (As := [.int (6 : Int32)]) (kX11_refuse l g a_m I_m J_m (6 : Int32)) fx (gUV (uT _) u_536 u_537 u_538 u_5 u_539) rfl hdX11_refuse ⟨Nat.le_of_ble_eq_true rfl, Nat.le_of_ble_eq_true rfl⟩ hK hP hD hS hA [0, 1, 2, 3, 4, 5, 6, 7, 8, 9, 10, 11, 12, 13, 14, 15, 16, 17, 18, 19, 20, 21, 22] [] [0, 1, 2, 3, 4, 5, 6, 7, 8, 9, 10, 11, 12, 13, 14, 15, 16, 17, 18, 19, 20, 21, 22] rfl rfl rfl rfl (by decide) rfl (fun _ => rfl) rfl rfl rfl rfl hl.1 (Nat.le_of_ble_eq_true rfl) dX11_letter_35 (fun r12 u13 H locs p_r12 hP hD hS => ?_)
        have hP : va_P g.1 vwCl (wX11 g a_m u13 J_m) H := hP
        have hD : va_D A (wX11 g a_m u13 J_m) := hD
        refine lv_goto (tgt := 59) hx hb dX11_letter_38 (by decide) ?_
        refine hret 59 ls r12 _ _ u13 dX11_letter_59 hS hP hD ?_
        exact ⟨(KK.st (KK.rf I_m) p_r12.2 (by decide)), (by first | exact Or.inr ⟨by omega, Or.inl ⟨by rw [← hlc28]; omega, p_r12.1⟩⟩ | exact Or.inr ⟨by omega, Or.inl ⟨by omega, p_r12.1⟩⟩)⟩
  · have q_5 := bP.f p_r1 b_5
    refine lv_aload_n hx hb dX11_letter_8 rfl (lv_at hl 0 rfl) ?_
    refine lv_iconst (v := 1) hx hb dX11_letter_9 (by decide) ?_
    refine EffI.cv (wr := ([])) (w' := fun u15 => wX11 g a_m u15 J_m) (As := [.int (1 : Int32)]) (kX11_refuse l g a_m I_m J_m (1 : Int32)) fx (gUV (uT _) u_536 u_537 u_538 u_5 u_539) rfl hdX11_refuse ⟨Nat.le_of_ble_eq_true rfl, Nat.le_of_ble_eq_true rfl⟩ hK hP hD hS hA [0, 1, 2, 3, 4, 5, 6, 7, 8, 9, 10, 11, 12, 13, 14, 15, 16, 17, 18, 19, 20, 21, 22] [] [0, 1, 2, 3, 4, 5, 6, 7, 8, 9, 10, 11, 12, 13, 14, 15, 16, 17, 18, 19, 20, 21, 22] rfl rfl rfl rfl (by decide) rfl (fun _ => rfl) rfl rfl rfl rfl hl.1 (Nat.le_of_ble_eq_true rfl) dX11_letter_10 (fun r14 u15 H locs p_r14 hP hD hS => ?_)
    have hP : va_P g.1 vwCl (wX11 g a_m u15 J_m) H := hP
    have hD : va_D A (wX11 g a_m u15 J_m) := hD
    refine hret 13 ls r14 _ _ u15 dX11_letter_13 hS hP hD ?_
    exact ⟨(KK.st (KK.rf I_m) p_r14.2 (by decide)), Or.inl ⟨by omega, p_r14.1⟩⟩

set_option maxHeartbeats 4000000 in
set_option maxRecDepth 100000 in
theorem kX11_cellsOf (l : Launch) (g : gG) (a_m : Nat → Nat) (I_m : Nat → Nat → Int32) (J_m : Nat → Nat → Int64) (rule : Int32) (hM : MI I_m) (h_r : -1 ≤ rule.toInt ∧ rule.toInt < 24) : PurI l g yX11_cellsOf wsX11_cellsOf 1 [.ref (a_m 0), .int rule] (wX11 g a_m I_m J_m) (fun r => (rule.toInt = -1) ∨ (0 ≤ rule.toInt ∧ r.toInt = (I_m 1 (12 * rule.toInt.toNat + 19)).toInt ∧ 0 ≤ r.toInt ∧ r.toInt ≤ 3 ∧ ((I_m 1 0).toInt ≤ rule.toInt ∨ 1 ≤ r.toInt))) := by
  refine PurI.st (cc := cX11_cellsOf) (maxL := 2) (by decide) rfl (Nat.le_of_ble_eq_true rfl) (fun p e s m args below meth c Q ls fx hK hP hl hret => ?_)
  have hx := fx.1
  have hb := fx.2.1
  have hml := fx.2.2.1
  have hown := fx.2.2.2.1
  have hts := fx.2.2.2.2
  have hl : lv_has ls 2 [(0, .ref (a_m 0)), (1, .int rule)] := hl
  have hP : va_P g.1 vwCl (wX11 g a_m I_m J_m) s.heap := hP
  have hf_7 := hts _ (uT _ _ u_170)
  have hi_X11 : ∀ w ∈ wsX110, w.before args s = true := fun w h => hts w (uT _ w (u_wsX110 w h))
  have lm1 : (-1 : Int32).toInt = -1 := by decide
  have lm0 : (0 : Int32).toInt = 0 := by decide
  have lm2 : (1 : Int32).toInt = 1 := by decide
  have lq7 : (7 : Int32).toInt = 7 := by decide
  refine lv_aload_n hx hb dX11_cellsOf_0 rfl (lv_at hl 0 rfl) ?_
  refine va_get (D := g.1) (ci := 11) (v := .ref (a_m 1)) (C := RX11) (T := TX11) (N := 46) hx hb hi_X11 (fun _ h => h) hown hK.1 hP 0 rfl rfl 0 (by decide) hf_7 (fun _ h9 => h9) rfl dX11_cellsOf_1 ?_
  refine lv_iconst (v := 0) hx hb dX11_cellsOf_4 (by decide) ?_
  refine lv_iload_n hx hb dX11_cellsOf_5 rfl (lv_at hl 1 rfl) ?_
  refine PurI.cs (C := RX11) (As := [.int (0 : Int32), .int rule]) (kX11_ruleAt l g (0 : Int32) rule (by omega) (by omega)) fx (gUS (uT _) u_554 u_555 u_5 u_556) rfl hdX11_ruleAt ⟨Nat.le_of_ble_eq_true rfl, Nat.le_of_ble_eq_true rfl⟩ hK hP [] rfl rfl rfl hl.1 (Nat.le_of_ble_eq_true rfl) dX11_cellsOf_6 (fun r1 p_r1 => ?_)
  refine lv_bipush (v := 7) hx hb dX11_cellsOf_9 (by decide) ?_
  refine r_iadd hx hb dX11_cellsOf_11 rfl (by decide : (7 : Int32).toInt = 7) (fun x2 e_x2 t_x2 => ?_)
  try have t_x2 := t_x2 (by omega)
  have n_12 : vp_in x2 19800 := (t_in (by omega))
  refine va_iald hx hb hK.1 hP 1 0 rfl rfl n_12 dX11_cellsOf_12 ?_
  refine q_nm (fun x3 e_x3 => ?_)
  have e_x3 : x3 = (I_m 1) x2.toNatClampNeg := e_x3
  have g_x3 : x3.toInt = ((I_m 1) x2.toNatClampNeg).toInt := congrArg _ e_x3
  exact hret 13 ls x3 dX11_cellsOf_13 (by rcases Int.lt_or_le rule.toInt 0 with w | w; exact Or.inl (by omega); have f := TS.cc hM.t0 (r := rule.toInt) e_x3 (by omega) (by omega); exact Or.inr ⟨w, congrArg Int32.toInt (at_ix e_x3 (by omega)), f.1, f.2, by rcases Int.lt_or_le rule.toInt (I_m 1 0).toInt with u | u; exact Or.inr (TS.cm hM.t0 (y := I_m 1 0) (r := rule.toInt) e_x3 rfl (by omega) (by omega) u); exact Or.inl u⟩)

set_option maxHeartbeats 4000000 in
set_option maxRecDepth 100000 in
theorem kX11_cellAt (l : Launch) (g : gG) (a_m : Nat → Nat) (I_m : Nat → Nat → Int32) (J_m : Nat → Nat → Int64) (rule : Int32) (k : Int32) (hM : MI I_m) (h_rule : 0 ≤ rule.toInt ∧ rule.toInt < 24) (h_k : 0 ≤ k.toInt ∧ k.toInt < 3) : PurI l g yX11_cellAt wsX11_cellAt 1 [.ref (a_m 0), .int rule, .int k] (wX11 g a_m I_m J_m) (fun r => (0 ≤ r.toInt ∧ r.toInt ≤ 63) ∧ r = I_m 1 (12 * rule.toInt.toNat + (20 + k.toInt.toNat))) := by
  refine PurI.st (cc := cX11_cellAt) (maxL := 3) (by decide) rfl (Nat.le_of_ble_eq_true rfl) (fun p e s m args below meth c Q ls fx hK hP hl hret => ?_)
  have hx := fx.1
  have hb := fx.2.1
  have hml := fx.2.2.1
  have hown := fx.2.2.2.1
  have hts := fx.2.2.2.2
  have hl : lv_has ls 3 [(0, .ref (a_m 0)), (1, .int rule), (2, .int k)] := hl
  have hP : va_P g.1 vwCl (wX11 g a_m I_m J_m) s.heap := hP
  have hf_7 := hts _ (uT _ _ u_170)
  have hi_X11 : ∀ w ∈ wsX110, w.before args s = true := fun w h => hts w (uT _ w (u_wsX110 w h))
  have lm1 : (-1 : Int32).toInt = -1 := by decide
  have lm0 : (0 : Int32).toInt = 0 := by decide
  have lm2 : (1 : Int32).toInt = 1 := by decide
  have lq7 : (7 : Int32).toInt = 7 := by decide
  refine lv_aload_n hx hb dX11_cellAt_0 rfl (lv_at hl 0 rfl) ?_
  refine va_get (D := g.1) (ci := 11) (v := .ref (a_m 1)) (C := RX11) (T := TX11) (N := 46) hx hb hi_X11 (fun _ h => h) hown hK.1 hP 0 rfl rfl 0 (by decide) hf_7 (fun _ h9 => h9) rfl dX11_cellAt_1 ?_
  refine lv_iconst (v := 0) hx hb dX11_cellAt_4 (by decide) ?_
  refine lv_iload_n hx hb dX11_cellAt_5 rfl (lv_at hl 1 rfl) ?_
  refine PurI.cs (C := RX11) (As := [.int (0 : Int32), .int rule]) (kX11_ruleAt l g (0 : Int32) rule (by omega) (by omega)) fx (gUS (uT _) u_554 u_555 u_5 u_556) rfl hdX11_ruleAt ⟨Nat.le_of_ble_eq_true rfl, Nat.le_of_ble_eq_true rfl⟩ hK hP [] rfl rfl rfl hl.1 (Nat.le_of_ble_eq_true rfl) dX11_cellAt_6 (fun r1 p_r1 => ?_)
  refine lv_bipush (v := 7) hx hb dX11_cellAt_9 (by decide) ?_
  refine r_iadd hx hb dX11_cellAt_11 rfl (by decide : (7 : Int32).toInt = 7) (fun x2 e_x2 t_x2 => ?_)
  try have t_x2 := t_x2 (by omega)
  refine lv_iconst (v := 1) hx hb dX11_cellAt_12 (by decide) ?_
  refine r_iadd hx hb dX11_cellAt_13 rfl (by decide : (1 : Int32).toInt = 1) (fun x3 e_x3 t_x3 => ?_)
  try have t_x3 := t_x3 (by omega)
  refine lv_iload_n hx hb dX11_cellAt_14 rfl (lv_at hl 2 rfl) ?_
  refine r_iadd hx hb dX11_cellAt_15 rfl rfl (fun x4 e_x4 t_x4 => ?_)
  try have t_x4 := t_x4 (by omega)
  have n_16 : vp_in x4 19800 := (t_in (by omega))
  refine va_iald hx hb hK.1 hP 1 0 rfl rfl n_16 dX11_cellAt_16 ?_
  refine q_nm (fun x5 e_x5 => ?_)
  have e_x5 : x5 = (I_m 1) x4.toNatClampNeg := e_x5
  have g_x5 : x5.toInt = ((I_m 1) x4.toNatClampNeg).toInt := congrArg _ e_x5
  exact hret 17 ls x5 dX11_cellAt_17 ⟨TS.cl hM.t0 (r := rule.toInt) (k := k.toInt) e_x5 (by omega) (by omega) (by omega), at_ix e_x5 (by omega)⟩

set_option maxHeartbeats 4000000 in
set_option maxRecDepth 100000 in
theorem kX11_cellOf (l : Launch) (g : gG) (a_m : Nat → Nat) (I_m : Nat → Nat → Int32) (J_m : Nat → Nat → Int64) (rule : Int32) (k : Int32) (hM : MI I_m) : EffI l g yX11_cellOf wsX11_cellOf 2 [.ref (a_m 0), .int rule, .int k] (wX11 g a_m I_m J_m) (fun (u : (Nat → Nat → Int32)) => wX11 g a_m u J_m) (fun r (u : (Nat → Nat → Int32)) => KK [] [1] I_m (u) ∧ ((¬ (0 ≤ rule.toInt ∧ rule.toInt < (I_m 1 0).toInt) ∧ r = -1) ∨ ((0 ≤ rule.toInt ∧ rule.toInt < (I_m 1 0).toInt) ∧ ((¬ (0 ≤ k.toInt ∧ k.toInt < (I_m 1 (12 * rule.toInt.toNat + 19)).toInt) ∧ r = -1) ∨ ((0 ≤ k.toInt ∧ k.toInt < (I_m 1 (12 * rule.toInt.toNat + 19)).toInt) ∧ r = I_m 1 (12 * rule.toInt.toNat + (20 + k.toInt.toNat))))))) := by
  refine EffI.st (cc := cX11_cellOf) (maxL := 3) (by decide) rfl (Nat.le_of_ble_eq_true rfl) (fun p e s m args below meth c A Q ls fx hK hP hD hA hS hl hret => ?_)
  have hx := fx.1
  have hb := fx.2.1
  have hml := fx.2.2.1
  have hown := fx.2.2.2.1
  have hts := fx.2.2.2.2
  have hl : lv_has ls 3 [(0, .ref (a_m 0)), (1, .int rule), (2, .int k)] := hl
  have hP : va_P g.1 vwCl (wX11 g a_m I_m J_m) s.heap := hP
  have lm1 : (-1 : Int32).toInt = -1 := by decide
  have lm0 : (0 : Int32).toInt = 0 := by decide
  have lm2 : (1 : Int32).toInt = 1 := by decide
  have lq6 : (6 : Int32).toInt = 6 := by decide
  have hmn := hM.many rfl
  refine lv_aload_n hx hb dX11_cellOf_0 rfl (lv_at hl 0 rfl) ?_
  refine lv_iload_n hx hb dX11_cellOf_1 rfl (lv_at hl 1 rfl) ?_
  refine PurI.cv (As := [.int rule]) (kX11_isRule l g a_m I_m J_m rule hM) fx (gUV (uT _) u_804 u_805 u_806 u_5 u_807) rfl hdX11_isRule ⟨Nat.le_of_ble_eq_true rfl, Nat.le_of_ble_eq_true rfl⟩ hK hP [0, 1, 2, 3, 4, 5, 6, 7, 8, 9, 10, 11, 12, 13, 14, 15, 16, 17, 18, 19, 20, 21, 22] rfl rfl rfl rfl rfl hl.1 (Nat.le_of_ble_eq_true rfl) dX11_cellOf_2 (fun r1 p_r1 => ?_)
  refine q_if_ne (tgt := 14) hx hb dX11_cellOf_5 (by decide) rfl (fun b_5 k_5 => ?_) (fun b_5 k_5 => ?_)
  · have q_5 := bP.t p_r1 b_5
    refine lv_iload_n hx hb dX11_cellOf_14 rfl (lv_at hl 2 rfl) ?_
    refine q_if_lt (tgt := 27) hx hb dX11_cellOf_15 (by decide) rfl (fun k_15 => ?_) (fun k_15 => ?_)
    · refine lv_aload_n hx hb dX11_cellOf_27 rfl (lv_at hl 0 rfl) ?_
      refine lv_bipush (v := 6) hx hb dX11_cellOf_28 (by decide) ?_
      refine EffI.cv (wr := ([])) (w' := fun u3 => wX11 g a_m u3 J_m) (As := [.int (6 : Int32)]) (kX11_refuse l g a_m I_m J_m (6 : Int32)) fx (gUV (uT _) u_536 u_537 u_538 u_5 u_539) rfl hdX11_refuse ⟨Nat.le_of_ble_eq_true rfl, Nat.le_of_ble_eq_true rfl⟩ hK hP hD hS hA [0, 1, 2, 3, 4, 5, 6, 7, 8, 9, 10, 11, 12, 13, 14, 15, 16, 17, 18, 19, 20, 21, 22] [] [0, 1, 2, 3, 4, 5, 6, 7, 8, 9, 10, 11, 12, 13, 14, 15, 16, 17, 18, 19, 20, 21, 22] rfl rfl rfl rfl (by decide) rfl (fun _ => rfl) rfl rfl rfl rfl hl.1 (Nat.le_of_ble_eq_true rfl) dX11_cellOf_30 (fun r2 u3 H locs p_r2 hP hD hS => ?_)
      have hP : va_P g.1 vwCl (wX11 g a_m u3 J_m) H := hP
      have hD : va_D A (wX11 g a_m u3 J_m) := hD
      refine lv_goto (tgt := 46) hx hb dX11_cellOf_33 (by decide) ?_
      refine hret 46 ls r2 _ _ u3 dX11_cellOf_46 hS hP hD ?_
      exact ⟨(KK.st (KK.rf I_m) p_r2.2 (by decide)), (by exact Or.inr ⟨by omega, Or.inl ⟨by omega, p_r2.1⟩⟩)⟩
    · refine lv_iload_n hx hb dX11_cellOf_18 rfl (lv_at hl 2 rfl) ?_
      refine lv_aload_n hx hb dX11_cellOf_19 rfl (lv_at hl 0 rfl) ?_
      refine lv_iload_n hx hb dX11_cellOf_20 rfl (lv_at hl 1 rfl) ?_
      refine PurI.cv (As := [.int rule]) (kX11_cellsOf l g a_m I_m J_m rule hM (by omega)) fx (gUV (uT _) u_826 u_827 u_828 u_5 u_829) rfl hdX11_cellsOf ⟨Nat.le_of_ble_eq_true rfl, Nat.le_of_ble_eq_true rfl⟩ hK hP [0, 1, 2, 3, 4, 5, 6, 7, 8, 9, 10, 11, 12, 13, 14, 15, 16, 17, 18, 19, 20, 21, 22] rfl rfl rfl rfl rfl hl.1 (Nat.le_of_ble_eq_true rfl) dX11_cellOf_21 (fun r4 p_r4 => ?_)
      have hc21 := p_r4
      refine q_icmp_lt (tgt := 36) hx hb dX11_cellOf_24 (by decide) rfl rfl (fun k_24 => ?_) (fun k_24 => ?_)
      · refine lv_aload_n hx hb dX11_cellOf_36 rfl (lv_at hl 0 rfl) ?_
        refine lv_aload_n hx hb dX11_cellOf_37 rfl (lv_at hl 0 rfl) ?_
        refine lv_iload_n hx hb dX11_cellOf_38 rfl (lv_at hl 1 rfl) ?_
        refine lv_iload_n hx hb dX11_cellOf_39 rfl (lv_at hl 2 rfl) ?_
        refine PurI.cv (As := [.int rule, .int k]) (kX11_cellAt l g a_m I_m J_m rule k hM (by omega) (by omega)) fx (gUV (uT _) u_830 u_831 u_832 u_5 u_833) rfl hdX11_cellAt ⟨Nat.le_of_ble_eq_true rfl, Nat.le_of_ble_eq_true rfl⟩ hK hP [0, 1, 2, 3, 4, 5, 6, 7, 8, 9, 10, 11, 12, 13, 14, 15, 16, 17, 18, 19, 20, 21, 22] rfl rfl rfl rfl rfl hl.1 (Nat.le_of_ble_eq_true rfl) dX11_cellOf_40 (fun r5 p_r5 => ?_)
        refine EffI.cv (wr := ([])) (w' := fun u7 => wX11 g a_m u7 J_m) (As := [.int r5]) (kX11_gives l g a_m I_m J_m r5) fx (gUV (uT _) u_585 u_586 u_587 u_5 u_588) rfl hdX11_gives ⟨Nat.le_of_ble_eq_true rfl, Nat.le_of_ble_eq_true rfl⟩ hK hP hD hS hA [0, 1, 2, 3, 4, 5, 6, 7, 8, 9, 10, 11, 12, 13, 14, 15, 16, 17, 18, 19, 20, 21, 22] [] [0, 1, 2, 3, 4, 5, 6, 7, 8, 9, 10, 11, 12, 13, 14, 15, 16, 17, 18, 19, 20, 21, 22] rfl rfl rfl rfl (by decide) rfl (fun _ => rfl) rfl rfl rfl rfl hl.1 (Nat.le_of_ble_eq_true rfl) dX11_cellOf_43 (fun r6 u7 H locs p_r6 hP hD hS => ?_)
        have hP : va_P g.1 vwCl (wX11 g a_m u7 J_m) H := hP
        have hD : va_D A (wX11 g a_m u7 J_m) := hD
        refine hret 46 ls r6 _ _ u7 dX11_cellOf_46 hS hP hD ?_
        exact ⟨(KK.st (KK.rf I_m) p_r6.2 (by decide)), (by exact Or.inr ⟨by omega, Or.inr ⟨by omega, p_r6.1.trans p_r5.2⟩⟩)⟩
      · refine lv_aload_n hx hb dX11_cellOf_27 rfl (lv_at hl 0 rfl) ?_
        refine lv_bipush (v := 6) hx hb dX11_cellOf_28 (by decide) ?_
        refine EffI.cv (wr := ([])) (w' := fun u9 => wX11 g a_m u9 J_m) (As := [.int (6 : Int32)]) (kX11_refuse l g a_m I_m J_m (6 : Int32)) fx (gUV (uT _) u_536 u_537 u_538 u_5 u_539) rfl hdX11_refuse ⟨Nat.le_of_ble_eq_true rfl, Nat.le_of_ble_eq_true rfl⟩ hK hP hD hS hA [0, 1, 2, 3, 4, 5, 6, 7, 8, 9, 10, 11, 12, 13, 14, 15, 16, 17, 18, 19, 20, 21, 22] [] [0, 1, 2, 3, 4, 5, 6, 7, 8, 9, 10, 11, 12, 13, 14, 15, 16, 17, 18, 19, 20, 21, 22] rfl rfl rfl rfl (by decide) rfl (fun _ => rfl) rfl rfl rfl rfl hl.1 (Nat.le_of_ble_eq_true rfl) dX11_cellOf_30 (fun r8 u9 H locs p_r8 hP hD hS => ?_)
        have hP : va_P g.1 vwCl (wX11 g a_m u9 J_m) H := hP
        have hD : va_D A (wX11 g a_m u9 J_m) := hD
        refine lv_goto (tgt := 46) hx hb dX11_cellOf_33 (by decide) ?_
        refine hret 46 ls r8 _ _ u9 dX11_cellOf_46 hS hP hD ?_
        exact ⟨(KK.st (KK.rf I_m) p_r8.2 (by decide)), (by exact Or.inr ⟨by omega, Or.inl ⟨by omega, p_r8.1⟩⟩)⟩
  · have q_5 := bP.f p_r1 b_5
    refine lv_aload_n hx hb dX11_cellOf_8 rfl (lv_at hl 0 rfl) ?_
    refine lv_iconst (v := 1) hx hb dX11_cellOf_9 (by decide) ?_
    refine EffI.cv (wr := ([])) (w' := fun u11 => wX11 g a_m u11 J_m) (As := [.int (1 : Int32)]) (kX11_refuse l g a_m I_m J_m (1 : Int32)) fx (gUV (uT _) u_536 u_537 u_538 u_5 u_539) rfl hdX11_refuse ⟨Nat.le_of_ble_eq_true rfl, Nat.le_of_ble_eq_true rfl⟩ hK hP hD hS hA [0, 1, 2, 3, 4, 5, 6, 7, 8, 9, 10, 11, 12, 13, 14, 15, 16, 17, 18, 19, 20, 21, 22] [] [0, 1, 2, 3, 4, 5, 6, 7, 8, 9, 10, 11, 12, 13, 14, 15, 16, 17, 18, 19, 20, 21, 22] rfl rfl rfl rfl (by decide) rfl (fun _ => rfl) rfl rfl rfl rfl hl.1 (Nat.le_of_ble_eq_true rfl) dX11_cellOf_10 (fun r10 u11 H locs p_r10 hP hD hS => ?_)
    have hP : va_P g.1 vwCl (wX11 g a_m u11 J_m) H := hP
    have hD : va_D A (wX11 g a_m u11 J_m) := hD
    refine hret 13 ls r10 _ _ u11 dX11_cellOf_13 hS hP hD ?_
    exact ⟨(KK.st (KK.rf I_m) p_r10.2 (by decide)), Or.inl ⟨by omega, p_r10.1⟩⟩

set_option maxHeartbeats 4000000 in
set_option maxRecDepth 100000 in
theorem kX11_drop (l : Launch) (g : gG) (a_m : Nat → Nat) (I_m : Nat → Nat → Int32) (J_m : Nat → Nat → Int64) (rule : Int32) (isd : Int32) (hM : MI I_m) : EffI l g yX11_drop wsX11_drop 1 [.ref (a_m 0), .int rule, .int isd] (wX11 g a_m I_m J_m) (fun (u : (Nat → Nat → Int32)) => wX11 g a_m u J_m) (fun r (u : (Nat → Nat → Int32)) => MI (u) ∧ KK [1] [1] I_m (u) ∧ ((r = 1 ∧ (0 ≤ rule.toInt ∧ rule.toInt < (I_m 1 0).toInt) ∧ (u) 1 = upd (I_m 1) 6 (dpM (I_m 1 6) rule isd)) ∨ (r = 0 ∧ ¬ (0 ≤ rule.toInt ∧ rule.toInt < (I_m 1 0).toInt) ∧ (u) 1 = I_m 1))) := by
  refine EffI.sz (cc := cX11_drop) (maxL := 3) (by decide) rfl (Nat.le_of_ble_eq_true rfl) (fun p e s m args below meth c A Q ls fx hK hP hD hA hS hl hret => ?_)
  have hx := fx.1
  have hb := fx.2.1
  have hml := fx.2.2.1
  have hown := fx.2.2.2.1
  have hts := fx.2.2.2.2
  have hl : lv_has ls 3 [(0, .ref (a_m 0)), (1, .int rule), (2, .int isd)] := hl
  have hP : va_P g.1 vwCl (wX11 g a_m I_m J_m) s.heap := hP
  have hf_7 := hts _ (uT _ _ u_170)
  have hi_X11 : ∀ w ∈ wsX110, w.before args s = true := fun w h => hts w (uT _ w (u_wsX110 w h))
  have lm1 : (-1 : Int32).toInt = -1 := by decide
  have lm0 : (0 : Int32).toInt = 0 := by decide
  have lm2 : (1 : Int32).toInt = 1 := by decide
  have lq6 : (6 : Int32).toInt = 6 := by decide
  have hmn := hM.many rfl
  refine lv_aload_n hx hb dX11_drop_0 rfl (lv_at hl 0 rfl) ?_
  refine lv_iload_n hx hb dX11_drop_1 rfl (lv_at hl 1 rfl) ?_
  refine PurI.cv (As := [.int rule]) (kX11_isRule l g a_m I_m J_m rule hM) fx (gUV (uT _) u_804 u_805 u_806 u_5 u_807) rfl hdX11_isRule ⟨Nat.le_of_ble_eq_true rfl, Nat.le_of_ble_eq_true rfl⟩ hK hP [0, 1, 2, 3, 4, 5, 6, 7, 8, 9, 10, 11, 12, 13, 14, 15, 16, 17, 18, 19, 20, 21, 22] rfl rfl rfl rfl rfl hl.1 (Nat.le_of_ble_eq_true rfl) dX11_drop_2 (fun r1 p_r1 => ?_)
  refine q_if_ne (tgt := 14) hx hb dX11_drop_5 (by decide) rfl (fun b_5 k_5 => ?_) (fun b_5 k_5 => ?_)
  · have q_5 := bP.t p_r1 b_5
    refine lv_aload_n hx hb dX11_drop_14 rfl (lv_at hl 0 rfl) ?_
    refine va_get (D := g.1) (ci := 11) (v := .ref (a_m 1)) (C := RX11) (T := TX11) (N := 46) hx hb hi_X11 (fun _ h => h) hown hK.1 hP 0 rfl rfl 0 (by decide) hf_7 (fun _ h9 => h9) rfl dX11_drop_15 ?_
    refine lv_bipush (v := 6) hx hb dX11_drop_18 (by decide) ?_
    refine lv_aload_n hx hb dX11_drop_20 rfl (lv_at hl 0 rfl) ?_
    refine va_get (D := g.1) (ci := 11) (v := .ref (a_m 1)) (C := RX11) (T := TX11) (N := 46) hx hb hi_X11 (fun _ h => h) hown hK.1 hP 0 rfl rfl 0 (by decide) hf_7 (fun _ h9 => h9) rfl dX11_drop_21 ?_
    refine lv_bipush (v := 6) hx hb dX11_drop_24 (by decide) ?_
    have n_26 : vp_in (6 : Int32) 19800 := (t_in (by decide))
    refine va_iald hx hb hK.1 hP 1 0 rfl rfl n_26 dX11_drop_26 ?_
    refine q_nm (fun x2 e_x2 => ?_)
    have e_x2 : x2 = (I_m 1) 6 := e_x2
    have g_x2 : x2.toInt = ((I_m 1) 6).toInt := congrArg _ e_x2
    refine lv_iconst (v := 1) hx hb dX11_drop_27 (by decide) ?_
    refine lv_iload_n hx hb dX11_drop_28 rfl (lv_at hl 1 rfl) ?_
    refine lv_ishl hx hb dX11_drop_29 ?_
    refine q_nm (fun x3 e_x3 => ?_)
    refine lv_iconst (v := -1) hx hb dX11_drop_30 (by decide) ?_
    refine lv_ixor hx hb dX11_drop_31 ?_
    refine q_nm (fun x4 e_x4 => ?_)
    refine lv_iand hx hb dX11_drop_32 ?_
    refine q_nm (fun x5 e_x5 => ?_)
    refine lv_iload_n hx hb dX11_drop_33 rfl (lv_at hl 2 rfl) ?_
    refine q_if_eq (tgt := 43) hx hb dX11_drop_34 (by decide) rfl (fun b_34 k_34 => ?_) (fun b_34 k_34 => ?_)
    · refine lv_iconst (v := 0) hx hb dX11_drop_43 (by decide) ?_
      refine lv_ior hx hb dX11_drop_44 ?_
      refine q_nm (fun x6 e_x6 => ?_)
      have n_45 : vp_in (6 : Int32) 19800 := (t_in (by decide))
      obtain ⟨f7, e_f7⟩ : ∃ z, z = upd (I_m 1) (6 : Int32).toNatClampNeg x6 := ⟨_, rfl⟩
      refine va_iast hx hb hK.1 hP hD hS 1 0 rfl rfl n_45 dX11_drop_45 (fun H locs hP hD hS => ?_)
      have hP : va_P g.1 vwCl (wX11 g a_m (uR I_m 1 f7) J_m) H := by rw [e_f7]; exact hP
      have hD : va_D A (wX11 g a_m (uR I_m 1 f7) J_m) := by rw [e_f7]; exact hD
      have hk_45 : KK [1] [1] I_m (uR I_m 1 f7) := KK.ur (KK.rf I_m) (by decide) (by decide)
      have hc_45 : MI (uR I_m 1 f7) := hM.ud e_f7
      refine lv_aload_n hx hb dX11_drop_46 rfl (lv_at hl 0 rfl) ?_
      refine lv_iconst (v := 0) hx hb dX11_drop_47 (by decide) ?_
      refine EffI.cv (wr := ([])) (w' := fun u9 => wX11 g a_m u9 J_m) (As := [.int (0 : Int32)]) (kX11_is l g a_m (uR I_m 1 f7) J_m (0 : Int32)) fx (gUV (uT _) u_259 u_260 u_261 u_5 u_262) rfl hdX11_is ⟨Nat.le_of_ble_eq_true rfl, Nat.le_of_ble_eq_true rfl⟩ hK hP hD hS hA [0, 1, 2, 3, 4, 5, 6, 7, 8, 9, 10, 11, 12, 13, 14, 15, 16, 17, 18, 19, 20, 21, 22] [] [0, 1, 2, 3, 4, 5, 6, 7, 8, 9, 10, 11, 12, 13, 14, 15, 16, 17, 18, 19, 20, 21, 22] rfl rfl rfl rfl (by decide) rfl (fun _ => rfl) rfl rfl rfl rfl hl.1 (Nat.le_of_ble_eq_true rfl) dX11_drop_48 (fun r8 u9 H locs p_r8 hP hD hS => ?_)
      have hP : va_P g.1 vwCl (wX11 g a_m u9 J_m) H := hP
      have hD : va_D A (wX11 g a_m u9 J_m) := hD
      refine hret 51 ls r8 _ _ u9 dX11_drop_51 (is_z p_r8.1) hS hP hD ?_
      exact ⟨(MI.st hc_45 p_r8.2), (KK.st hk_45 p_r8.2 (by decide)), Or.inl ⟨is_1 p_r8.1 (by omega), by omega, (ST.row p_r8.2 1 (by decide)).trans (uR_eq.trans (e_f7.trans (congrArg (upd (I_m 1) 6) (by unfold dpM; first | (rw [if_neg (by omega)]; subst_vars; rfl) | (rw [if_pos (by omega)]; subst_vars; rfl)))))⟩⟩
    · refine lv_iconst (v := 1) hx hb dX11_drop_37 (by decide) ?_
      refine lv_iload_n hx hb dX11_drop_38 rfl (lv_at hl 1 rfl) ?_
      refine lv_ishl hx hb dX11_drop_39 ?_
      refine q_nm (fun x10 e_x10 => ?_)
      refine lv_goto (tgt := 44) hx hb dX11_drop_40 (by decide) ?_
      refine lv_ior hx hb dX11_drop_44 ?_
      refine q_nm (fun x11 e_x11 => ?_)
      have n_45 : vp_in (6 : Int32) 19800 := (t_in (by decide))
      obtain ⟨f12, e_f12⟩ : ∃ z, z = upd (I_m 1) (6 : Int32).toNatClampNeg x11 := ⟨_, rfl⟩
      refine va_iast hx hb hK.1 hP hD hS 1 0 rfl rfl n_45 dX11_drop_45 (fun H locs hP hD hS => ?_)
      have hP : va_P g.1 vwCl (wX11 g a_m (uR I_m 1 f12) J_m) H := by rw [e_f12]; exact hP
      have hD : va_D A (wX11 g a_m (uR I_m 1 f12) J_m) := by rw [e_f12]; exact hD
      have hk_45 : KK [1] [1] I_m (uR I_m 1 f12) := KK.ur (KK.rf I_m) (by decide) (by decide)
      have hc_45 : MI (uR I_m 1 f12) := hM.ud e_f12
      refine lv_aload_n hx hb dX11_drop_46 rfl (lv_at hl 0 rfl) ?_
      refine lv_iconst (v := 0) hx hb dX11_drop_47 (by decide) ?_
      refine EffI.cv (wr := ([])) (w' := fun u14 => wX11 g a_m u14 J_m) (As := [.int (0 : Int32)]) (kX11_is l g a_m (uR I_m 1 f12) J_m (0 : Int32)) fx (gUV (uT _) u_259 u_260 u_261 u_5 u_262) rfl hdX11_is ⟨Nat.le_of_ble_eq_true rfl, Nat.le_of_ble_eq_true rfl⟩ hK hP hD hS hA [0, 1, 2, 3, 4, 5, 6, 7, 8, 9, 10, 11, 12, 13, 14, 15, 16, 17, 18, 19, 20, 21, 22] [] [0, 1, 2, 3, 4, 5, 6, 7, 8, 9, 10, 11, 12, 13, 14, 15, 16, 17, 18, 19, 20, 21, 22] rfl rfl rfl rfl (by decide) rfl (fun _ => rfl) rfl rfl rfl rfl hl.1 (Nat.le_of_ble_eq_true rfl) dX11_drop_48 (fun r13 u14 H locs p_r13 hP hD hS => ?_)
      have hP : va_P g.1 vwCl (wX11 g a_m u14 J_m) H := hP
      have hD : va_D A (wX11 g a_m u14 J_m) := hD
      refine hret 51 ls r13 _ _ u14 dX11_drop_51 (is_z p_r13.1) hS hP hD ?_
      exact ⟨(MI.st hc_45 p_r13.2), (KK.st hk_45 p_r13.2 (by decide)), Or.inl ⟨is_1 p_r13.1 (by omega), by omega, (ST.row p_r13.2 1 (by decide)).trans (uR_eq.trans (e_f12.trans (congrArg (upd (I_m 1) 6) (by unfold dpM; first | (rw [if_neg (by omega)]; subst_vars; rfl) | (rw [if_pos (by omega)]; subst_vars; rfl)))))⟩⟩
  · have q_5 := bP.f p_r1 b_5
    refine lv_aload_n hx hb dX11_drop_8 rfl (lv_at hl 0 rfl) ?_
    refine lv_iconst (v := 1) hx hb dX11_drop_9 (by decide) ?_
    refine EffI.cv (wr := ([])) (w' := fun u16 => wX11 g a_m u16 J_m) (As := [.int (1 : Int32)]) (kX11_is l g a_m I_m J_m (1 : Int32)) fx (gUV (uT _) u_259 u_260 u_261 u_5 u_262) rfl hdX11_is ⟨Nat.le_of_ble_eq_true rfl, Nat.le_of_ble_eq_true rfl⟩ hK hP hD hS hA [0, 1, 2, 3, 4, 5, 6, 7, 8, 9, 10, 11, 12, 13, 14, 15, 16, 17, 18, 19, 20, 21, 22] [] [0, 1, 2, 3, 4, 5, 6, 7, 8, 9, 10, 11, 12, 13, 14, 15, 16, 17, 18, 19, 20, 21, 22] rfl rfl rfl rfl (by decide) rfl (fun _ => rfl) rfl rfl rfl rfl hl.1 (Nat.le_of_ble_eq_true rfl) dX11_drop_10 (fun r15 u16 H locs p_r15 hP hD hS => ?_)
    have hP : va_P g.1 vwCl (wX11 g a_m u16 J_m) H := hP
    have hD : va_D A (wX11 g a_m u16 J_m) := hD
    refine hret 13 ls r15 _ _ u16 dX11_drop_13 (is_z p_r15.1) hS hP hD ?_
    exact ⟨(MI.st hM p_r15.2), (KK.st (KK.rf I_m) p_r15.2 (by decide)), Or.inr ⟨is_0 p_r15.1 (by omega), by omega, ST.row p_r15.2 1 (by decide)⟩⟩

set_option maxHeartbeats 4000000 in
set_option maxRecDepth 100000 in
theorem kX11_isSet (l : Launch) (g : gG) (a_m : Nat → Nat) (I_m : Nat → Nat → Int32) (J_m : Nat → Nat → Int64) (hM : MI I_m) : PurI l g yX11_isSet wsX11_isSet 0 [.ref (a_m 0)] (wX11 g a_m I_m J_m) (fun r => bP (0 ≤ (I_m 1 7).toInt) ((I_m 1 7).toInt = -1) r) := by
  refine PurI.sz (cc := cX11_isSet) (maxL := 1) (by decide) rfl (Nat.le_of_ble_eq_true rfl) (fun p e s m args below meth c Q ls fx hK hP hl hret => ?_)
  have hx := fx.1
  have hb := fx.2.1
  have hml := fx.2.2.1
  have hown := fx.2.2.2.1
  have hts := fx.2.2.2.2
  have hl : lv_has ls 1 [(0, .ref (a_m 0))] := hl
  have hP : va_P g.1 vwCl (wX11 g a_m I_m J_m) s.heap := hP
  have hf_7 := hts _ (uT _ _ u_170)
  have hi_X11 : ∀ w ∈ wsX110, w.before args s = true := fun w h => hts w (uT _ w (u_wsX110 w h))
  have lm1 : (-1 : Int32).toInt = -1 := by decide
  have lm0 : (0 : Int32).toInt = 0 := by decide
  have lm2 : (1 : Int32).toInt = 1 := by decide
  have lq7 : (7 : Int32).toInt = 7 := by decide
  have hb7 := hM.bytes rfl
  refine lv_aload_n hx hb dX11_isSet_0 rfl (lv_at hl 0 rfl) ?_
  refine va_get (D := g.1) (ci := 11) (v := .ref (a_m 1)) (C := RX11) (T := TX11) (N := 46) hx hb hi_X11 (fun _ h => h) hown hK.1 hP 0 rfl rfl 0 (by decide) hf_7 (fun _ h9 => h9) rfl dX11_isSet_1 ?_
  refine lv_bipush (v := 7) hx hb dX11_isSet_4 (by decide) ?_
  have n_6 : vp_in (7 : Int32) 19800 := (t_in (by decide))
  refine va_iald hx hb hK.1 hP 1 0 rfl rfl n_6 dX11_isSet_6 ?_
  refine q_nm (fun x1 e_x1 => ?_)
  have e_x1 : x1 = (I_m 1) 7 := e_x1
  have g_x1 : x1.toInt = ((I_m 1) 7).toInt := congrArg _ e_x1
  have f_x1 := MI.bytes hM e_x1
  refine lv_iconst (v := -1) hx hb dX11_isSet_7 (by decide) ?_
  refine q_icmp_eq (tgt := 15) hx hb dX11_isSet_8 (by decide) rfl (by decide : (-1 : Int32).toInt = -1) (fun k_8 => ?_) (fun k_8 => ?_)
  · refine lv_iconst (v := 0) hx hb dX11_isSet_15 (by decide) ?_
    exact hret 16 ls (0 : Int32) dX11_isSet_16 (Or.inl rfl) (by first | exact Or.inl ⟨rfl, by omega⟩ | exact Or.inr ⟨rfl, by omega⟩)
  · refine lv_iconst (v := 1) hx hb dX11_isSet_11 (by decide) ?_
    refine lv_goto (tgt := 16) hx hb dX11_isSet_12 (by decide) ?_
    have lr : (1 : Int32).toInt = 1 := by decide
    exact hret 16 ls (1 : Int32) dX11_isSet_16 (Or.inr rfl) (by first | exact Or.inl ⟨rfl, by omega⟩ | exact Or.inr ⟨rfl, by omega⟩)

set_option maxHeartbeats 4000000 in
set_option maxRecDepth 100000 in
theorem kX11_reset (l : Launch) (g : gG) (a_m : Nat → Nat) (I_m : Nat → Nat → Int32) (J_m : Nat → Nat → Int64) (hM : MI I_m) : EffI l g yX11_reset wsX11_reset 6 [.ref (a_m 0)] (wX11 g a_m I_m J_m) (fun (u : (Nat → Nat → Int32)) => wX11 g a_m u J_m) (fun r (u : (Nat → Nat → Int32)) => MI (u) ∧ KK [1] [1, 20, 21] I_m (u) ∧ FT I_m (u)) := by
  refine EffI.st (cc := cX11_reset) (maxL := 1) (by decide) rfl (Nat.le_of_ble_eq_true rfl) (fun p e s m args below meth c A Q ls fx hK hP hD hA hS hl hret => ?_)
  have hx := fx.1
  have hb := fx.2.1
  have hml := fx.2.2.1
  have hown := fx.2.2.2.1
  have hts := fx.2.2.2.2
  have hl : lv_has ls 1 [(0, .ref (a_m 0))] := hl
  have hP : va_P g.1 vwCl (wX11 g a_m I_m J_m) s.heap := hP
  have hf_7 := hts _ (uT _ _ u_170)
  have hi_X11 : ∀ w ∈ wsX110, w.before args s = true := fun w h => hts w (uT _ w (u_wsX110 w h))
  have lm1 : (-1 : Int32).toInt = -1 := by decide
  have lm0 : (0 : Int32).toInt = 0 := by decide
  have lm2 : (1 : Int32).toInt = 1 := by decide
  have lq6 : (6 : Int32).toInt = 6 := by decide
  have lq7 : (7 : Int32).toInt = 7 := by decide
  refine lv_aload_n hx hb dX11_reset_0 rfl (lv_at hl 0 rfl) ?_
  refine PurI.cv (As := []) (kX11_isSet l g a_m I_m J_m hM) fx (gUV (uT _) u_856 u_857 u_858 u_5 u_859) rfl hdX11_isSet ⟨Nat.le_of_ble_eq_true rfl, Nat.le_of_ble_eq_true rfl⟩ hK hP [0, 1, 2, 3, 4, 5, 6, 7, 8, 9, 10, 11, 12, 13, 14, 15, 16, 17, 18, 19, 20, 21, 22] rfl rfl rfl rfl rfl hl.1 (Nat.le_of_ble_eq_true rfl) dX11_reset_1 (fun r1 p_r1 => ?_)
  refine q_if_ne (tgt := 14) hx hb dX11_reset_4 (by decide) rfl (fun b_4 k_4 => ?_) (fun b_4 k_4 => ?_)
  · have q_4 := bP.t p_r1 b_4
    refine lv_aload_n hx hb dX11_reset_14 rfl (lv_at hl 0 rfl) ?_
    refine EffV.cv (wr := ([])) (w' := fun u3 => wX11 g a_m u3 J_m) (As := []) (kX11_laysBytes l g a_m I_m J_m hM q_4) fx (gUV (uT _) u_860 u_861 u_862 u_5 u_863) rfl hdX11_laysBytes ⟨Nat.le_of_ble_eq_true rfl, Nat.le_of_ble_eq_true rfl⟩ hK hP hD hS hA [0, 1, 2, 3, 4, 5, 6, 7, 8, 9, 10, 11, 12, 13, 14, 15, 16, 17, 18, 19, 20, 21, 22] [] [0, 1, 2, 3, 4, 5, 6, 7, 8, 9, 10, 11, 12, 13, 14, 15, 16, 17, 18, 19, 20, 21, 22] rfl rfl rfl rfl (by decide) rfl (fun _ => rfl) rfl rfl rfl rfl hl.1 (Nat.le_of_ble_eq_true rfl) dX11_reset_15 (fun u3 H locs p_r2 hP hD hS => ?_)
    have hP : va_P g.1 vwCl (wX11 g a_m u3 J_m) H := hP
    have hD : va_D A (wX11 g a_m u3 J_m) := hD
    have hW15 : WK I_m u3 := p_r2.2.1
    refine lv_aload_n hx hb dX11_reset_18 rfl (lv_at hl 0 rfl) ?_
    refine lv_aload_n hx hb dX11_reset_19 rfl (lv_at hl 0 rfl) ?_
    refine va_get (D := g.1) (ci := 11) (v := .ref (a_m 1)) (C := RX11) (T := TX11) (N := 46) hx hb hi_X11 (fun _ h => h) hown hK.1 hP 0 rfl rfl 0 (by decide) hf_7 (fun _ h9 => h9) rfl dX11_reset_20 ?_
    refine lv_bipush (v := 6) hx hb dX11_reset_23 (by decide) ?_
    have n_25 : vp_in (6 : Int32) 19800 := (t_in (by decide))
    refine va_iald hx hb hK.1 hP 1 0 rfl rfl n_25 dX11_reset_25 ?_
    refine q_nm (fun x4 e_x4 => ?_)
    have e_x4 : x4 = (u3 1) 6 := e_x4
    have g_x4 : x4.toInt = ((u3 1) 6).toInt := congrArg _ e_x4
    refine EffI.cv (wr := ([])) (w' := fun u6 => wX11 g a_m u6 J_m) (As := [.int x4]) (kX11_setsAll l g a_m u3 J_m x4 (p_r2.1)) fx (gUV (uT _) u_700 u_701 u_702 u_5 u_703) rfl hdX11_setsAll ⟨Nat.le_of_ble_eq_true rfl, Nat.le_of_ble_eq_true rfl⟩ hK hP hD hS hA [0, 1, 2, 3, 4, 5, 6, 7, 8, 9, 10, 11, 12, 13, 14, 15, 16, 17, 18, 19, 20, 21, 22] [] [0, 1, 2, 3, 4, 5, 6, 7, 8, 9, 10, 11, 12, 13, 14, 15, 16, 17, 18, 19, 20, 21, 22] rfl rfl rfl rfl (by decide) rfl (fun _ => rfl) rfl rfl rfl rfl hl.1 (Nat.le_of_ble_eq_true rfl) dX11_reset_26 (fun r5 u6 H locs p_r5 hP hD hS => ?_)
    have hP : va_P g.1 vwCl (wX11 g a_m u6 J_m) H := hP
    have hD : va_D A (wX11 g a_m u6 J_m) := hD
    have hs26 := p_r5.2.2.2.2.2.1
    have hW26 : WK I_m u6 := WK.tr hW15 p_r5.2.1
    refine q_if_ne (tgt := 39) hx hb dX11_reset_29 (by decide) rfl (fun b_29 k_29 => ?_) (fun b_29 k_29 => ?_)
    · refine lv_aload_n hx hb dX11_reset_39 rfl (lv_at hl 0 rfl) ?_
      refine EffV.cv (wr := ([])) (w' := fun u8 => wX11 g a_m u8 J_m) (As := []) (kX11_takesSet l g a_m u6 J_m (p_r5.1) (hs26 (p_r5.2.2.2.1.resolve_left b_29)).1 (hs26 (p_r5.2.2.2.1.resolve_left b_29)).2) fx (gUV (uT _) u_764 u_765 u_766 u_5 u_767) rfl hdX11_takesSet ⟨Nat.le_of_ble_eq_true rfl, Nat.le_of_ble_eq_true rfl⟩ hK hP hD hS hA [0, 1, 2, 3, 4, 5, 6, 7, 8, 9, 10, 11, 12, 13, 14, 15, 16, 17, 18, 19, 20, 21, 22] [] [0, 1, 2, 3, 4, 5, 6, 7, 8, 9, 10, 11, 12, 13, 14, 15, 16, 17, 18, 19, 20, 21, 22] rfl rfl rfl rfl (by decide) rfl (fun _ => rfl) rfl rfl rfl rfl hl.1 (Nat.le_of_ble_eq_true rfl) dX11_reset_40 (fun u8 H locs p_r7 hP hD hS => ?_)
      have hP : va_P g.1 vwCl (wX11 g a_m u8 J_m) H := hP
      have hD : va_D A (wX11 g a_m u8 J_m) := hD
      have hF40 : FT I_m u8 := FT.tr (FT.wk hW26) p_r7.2.2.1
      refine lv_aload_n hx hb dX11_reset_43 rfl (lv_at hl 0 rfl) ?_
      refine lv_aload_n hx hb dX11_reset_44 rfl (lv_at hl 0 rfl) ?_
      refine va_get (D := g.1) (ci := 11) (v := .ref (a_m 1)) (C := RX11) (T := TX11) (N := 46) hx hb hi_X11 (fun _ h => h) hown hK.1 hP 0 rfl rfl 0 (by decide) hf_7 (fun _ h9 => h9) rfl dX11_reset_45 ?_
      refine lv_bipush (v := 8) hx hb dX11_reset_48 (by decide) ?_
      have n_50 : vp_in (8 : Int32) 19800 := (t_in (by decide))
      refine va_iald hx hb hK.1 hP 1 0 rfl rfl n_50 dX11_reset_50 ?_
      refine q_nm (fun x9 e_x9 => ?_)
      have e_x9 : x9 = (u8 1) 8 := e_x9
      have g_x9 : x9.toInt = ((u8 1) 8).toInt := congrArg _ e_x9
      have f_x9 := MI.set (p_r7.1) e_x9
      refine EffI.cv (wr := ([])) (w' := fun u11 => wX11 g a_m u11 J_m) (As := [.int x9]) (kX11_gives l g a_m u8 J_m x9) fx (gUV (uT _) u_585 u_586 u_587 u_5 u_588) rfl hdX11_gives ⟨Nat.le_of_ble_eq_true rfl, Nat.le_of_ble_eq_true rfl⟩ hK hP hD hS hA [0, 1, 2, 3, 4, 5, 6, 7, 8, 9, 10, 11, 12, 13, 14, 15, 16, 17, 18, 19, 20, 21, 22] [] [0, 1, 2, 3, 4, 5, 6, 7, 8, 9, 10, 11, 12, 13, 14, 15, 16, 17, 18, 19, 20, 21, 22] rfl rfl rfl rfl (by decide) rfl (fun _ => rfl) rfl rfl rfl rfl hl.1 (Nat.le_of_ble_eq_true rfl) dX11_reset_51 (fun r10 u11 H locs p_r10 hP hD hS => ?_)
      have hP : va_P g.1 vwCl (wX11 g a_m u11 J_m) H := hP
      have hD : va_D A (wX11 g a_m u11 J_m) := hD
      refine hret 54 ls r10 _ _ u11 dX11_reset_54 hS hP hD ?_
      exact ⟨(MI.st (p_r7.1) p_r10.2), (KK.st (KK.tr (KK.tr (KK.tr (KK.rf I_m) p_r2.2.2 (by decide) (by decide)) p_r5.2.2.1 (by decide) (by decide)) p_r7.2.1 (by decide) (by decide)) p_r10.2 (by decide)), FT.st hF40 p_r10.2⟩
    · refine lv_aload_n hx hb dX11_reset_32 rfl (lv_at hl 0 rfl) ?_
      refine lv_bipush (v := 7) hx hb dX11_reset_33 (by decide) ?_
      refine EffI.cv (wr := ([])) (w' := fun u13 => wX11 g a_m u13 J_m) (As := [.int (7 : Int32)]) (kX11_refuse l g a_m u6 J_m (7 : Int32)) fx (gUV (uT _) u_536 u_537 u_538 u_5 u_539) rfl hdX11_refuse ⟨Nat.le_of_ble_eq_true rfl, Nat.le_of_ble_eq_true rfl⟩ hK hP hD hS hA [0, 1, 2, 3, 4, 5, 6, 7, 8, 9, 10, 11, 12, 13, 14, 15, 16, 17, 18, 19, 20, 21, 22] [] [0, 1, 2, 3, 4, 5, 6, 7, 8, 9, 10, 11, 12, 13, 14, 15, 16, 17, 18, 19, 20, 21, 22] rfl rfl rfl rfl (by decide) rfl (fun _ => rfl) rfl rfl rfl rfl hl.1 (Nat.le_of_ble_eq_true rfl) dX11_reset_35 (fun r12 u13 H locs p_r12 hP hD hS => ?_)
      have hP : va_P g.1 vwCl (wX11 g a_m u13 J_m) H := hP
      have hD : va_D A (wX11 g a_m u13 J_m) := hD
      refine hret 38 ls r12 _ _ u13 dX11_reset_38 hS hP hD ?_
      exact ⟨(MI.st (p_r5.1) p_r12.2), (KK.st (KK.tr (KK.tr (KK.rf I_m) p_r2.2.2 (by decide) (by decide)) p_r5.2.2.1 (by decide) (by decide)) p_r12.2 (by decide)), FT.st (FT.wk hW26) p_r12.2⟩
  · have q_4 := bP.f p_r1 b_4
    refine lv_aload_n hx hb dX11_reset_7 rfl (lv_at hl 0 rfl) ?_
    refine lv_bipush (v := 6) hx hb dX11_reset_8 (by decide) ?_
    refine EffI.cv (wr := ([])) (w' := fun u15 => wX11 g a_m u15 J_m) (As := [.int (6 : Int32)]) (kX11_refuse l g a_m I_m J_m (6 : Int32)) fx (gUV (uT _) u_536 u_537 u_538 u_5 u_539) rfl hdX11_refuse ⟨Nat.le_of_ble_eq_true rfl, Nat.le_of_ble_eq_true rfl⟩ hK hP hD hS hA [0, 1, 2, 3, 4, 5, 6, 7, 8, 9, 10, 11, 12, 13, 14, 15, 16, 17, 18, 19, 20, 21, 22] [] [0, 1, 2, 3, 4, 5, 6, 7, 8, 9, 10, 11, 12, 13, 14, 15, 16, 17, 18, 19, 20, 21, 22] rfl rfl rfl rfl (by decide) rfl (fun _ => rfl) rfl rfl rfl rfl hl.1 (Nat.le_of_ble_eq_true rfl) dX11_reset_10 (fun r14 u15 H locs p_r14 hP hD hS => ?_)
    have hP : va_P g.1 vwCl (wX11 g a_m u15 J_m) H := hP
    have hD : va_D A (wX11 g a_m u15 J_m) := hD
    refine hret 13 ls r14 _ _ u15 dX11_reset_13 hS hP hD ?_
    exact ⟨(MI.st hM p_r14.2), (KK.st (KK.rf I_m) p_r14.2 (by decide)), FT.st (FT.rf I_m) p_r14.2⟩

set_option maxHeartbeats 4000000 in
set_option maxRecDepth 100000 in
theorem kX11_pieceMany (l : Launch) (g : gG) (a_m : Nat → Nat) (I_m : Nat → Nat → Int32) (J_m : Nat → Nat → Int64) (k : Int32) (hM : MI I_m) (h_k : 0 ≤ k.toInt ∧ k.toInt < (I_m 1 9).toInt) : PurI l g yX11_pieceMany wsX11_pieceMany 0 [.ref (a_m 0), .int k] (wX11 g a_m I_m J_m) (fun r => 0 ≤ r.toInt ∧ 0 ≤ (I_m 1 (1850 + k.toInt.toNat)).toInt ∧ r.toInt + (I_m 1 (1850 + k.toInt.toNat)).toInt ≤ (I_m 1 8).toInt ∧ ((k.toInt + 1 < (I_m 1 9).toInt ∧ r.toInt + (I_m 1 (1850 + k.toInt.toNat)).toInt + 1 = (I_m 1 (1850 + (k.toInt + 1).toNat)).toInt) ∨ (I_m 1 9).toInt ≤ k.toInt + 1)) := by
  refine PurI.st (cc := cX11_pieceMany) (maxL := 2) (by decide) rfl (Nat.le_of_ble_eq_true rfl) (fun p e s m args below meth c Q ls fx hK hP hl hret => ?_)
  have hx := fx.1
  have hb := fx.2.1
  have hml := fx.2.2.1
  have hown := fx.2.2.2.1
  have hts := fx.2.2.2.2
  have hl : lv_has ls 2 [(0, .ref (a_m 0)), (1, .int k)] := hl
  have hP : va_P g.1 vwCl (wX11 g a_m I_m J_m) s.heap := hP
  have hf_7 := hts _ (uT _ _ u_170)
  have hi_X11 : ∀ w ∈ wsX110, w.before args s = true := fun w h => hts w (uT _ w (u_wsX110 w h))
  have lm1 : (-1 : Int32).toInt = -1 := by decide
  have lm0 : (0 : Int32).toInt = 0 := by decide
  have lm2 : (1 : Int32).toInt = 1 := by decide
  have lq1850 : (1850 : Int32).toInt = 1850 := by decide
  have hp9 := hM.pcs rfl
  have hs8 := hM.set rfl
  have hk0 := hM.pk k.toInt h_k
  refine lv_iload_n hx hb dX11_pieceMany_0 rfl (lv_at hl 1 rfl) ?_
  refine lv_iconst (v := 1) hx hb dX11_pieceMany_1 (by decide) ?_
  refine r_iadd hx hb dX11_pieceMany_2 rfl (by decide : (1 : Int32).toInt = 1) (fun x1 e_x1 t_x1 => ?_)
  try have t_x1 := t_x1 (by omega)
  refine lv_aload_n hx hb dX11_pieceMany_3 rfl (lv_at hl 0 rfl) ?_
  refine va_get (D := g.1) (ci := 11) (v := .ref (a_m 1)) (C := RX11) (T := TX11) (N := 46) hx hb hi_X11 (fun _ h => h) hown hK.1 hP 0 rfl rfl 0 (by decide) hf_7 (fun _ h9 => h9) rfl dX11_pieceMany_4 ?_
  refine lv_bipush (v := 9) hx hb dX11_pieceMany_7 (by decide) ?_
  have n_9 : vp_in (9 : Int32) 19800 := (t_in (by decide))
  refine va_iald hx hb hK.1 hP 1 0 rfl rfl n_9 dX11_pieceMany_9 ?_
  refine q_nm (fun x2 e_x2 => ?_)
  have e_x2 : x2 = (I_m 1) 9 := e_x2
  have g_x2 : x2.toInt = ((I_m 1) 9).toInt := congrArg _ e_x2
  have f_x2 := MI.pcs hM e_x2
  refine q_icmp_ge (tgt := 30) hx hb dX11_pieceMany_10 (by decide) rfl rfl (fun k_10 => ?_) (fun k_10 => ?_)
  · refine lv_aload_n hx hb dX11_pieceMany_30 rfl (lv_at hl 0 rfl) ?_
    refine va_get (D := g.1) (ci := 11) (v := .ref (a_m 1)) (C := RX11) (T := TX11) (N := 46) hx hb hi_X11 (fun _ h => h) hown hK.1 hP 0 rfl rfl 0 (by decide) hf_7 (fun _ h9 => h9) rfl dX11_pieceMany_31 ?_
    refine lv_bipush (v := 8) hx hb dX11_pieceMany_34 (by decide) ?_
    have n_36 : vp_in (8 : Int32) 19800 := (t_in (by decide))
    refine va_iald hx hb hK.1 hP 1 0 rfl rfl n_36 dX11_pieceMany_36 ?_
    refine q_nm (fun x3 e_x3 => ?_)
    have e_x3 : x3 = (I_m 1) 8 := e_x3
    have g_x3 : x3.toInt = ((I_m 1) 8).toInt := congrArg _ e_x3
    have f_x3 := MI.set hM e_x3
    refine lv_aload_n hx hb dX11_pieceMany_37 rfl (lv_at hl 0 rfl) ?_
    refine va_get (D := g.1) (ci := 11) (v := .ref (a_m 1)) (C := RX11) (T := TX11) (N := 46) hx hb hi_X11 (fun _ h => h) hown hK.1 hP 0 rfl rfl 0 (by decide) hf_7 (fun _ h9 => h9) rfl dX11_pieceMany_38 ?_
    refine lv_sipush (v := 1850) hx hb dX11_pieceMany_41 (by decide) ?_
    refine lv_iload_n hx hb dX11_pieceMany_44 rfl (lv_at hl 1 rfl) ?_
    refine r_iadd hx hb dX11_pieceMany_45 (by decide : (1850 : Int32).toInt = 1850) rfl (fun x4 e_x4 t_x4 => ?_)
    try have t_x4 := t_x4 (by omega)
    have n_46 : vp_in x4 19800 := (t_in (by omega))
    refine va_iald hx hb hK.1 hP 1 0 rfl rfl n_46 dX11_pieceMany_46 ?_
    refine q_nm (fun x5 e_x5 => ?_)
    have e_x5 : x5 = (I_m 1) x4.toNatClampNeg := e_x5
    have g_x5 : x5.toInt = ((I_m 1) x4.toNatClampNeg).toInt := congrArg _ e_x5
    have hq_x5 : x5.toInt = (I_m 1 (1850 + k.toInt.toNat)).toInt := congrArg Int32.toInt (at_ix e_x5 (by omega))
    refine r_isub hx hb dX11_pieceMany_47 rfl rfl (fun x6 e_x6 t_x6 => ?_)
    try have t_x6 := t_x6 (by omega)
    exact hret 48 ls x6 dX11_pieceMany_48 (by omega)
  · refine lv_aload_n hx hb dX11_pieceMany_13 rfl (lv_at hl 0 rfl) ?_
    refine va_get (D := g.1) (ci := 11) (v := .ref (a_m 1)) (C := RX11) (T := TX11) (N := 46) hx hb hi_X11 (fun _ h => h) hown hK.1 hP 0 rfl rfl 0 (by decide) hf_7 (fun _ h9 => h9) rfl dX11_pieceMany_14 ?_
    refine lv_sipush (v := 1850) hx hb dX11_pieceMany_17 (by decide) ?_
    refine lv_iload_n hx hb dX11_pieceMany_20 rfl (lv_at hl 1 rfl) ?_
    refine r_iadd hx hb dX11_pieceMany_21 (by decide : (1850 : Int32).toInt = 1850) rfl (fun x7 e_x7 t_x7 => ?_)
    try have t_x7 := t_x7 (by omega)
    refine lv_iconst (v := 1) hx hb dX11_pieceMany_22 (by decide) ?_
    refine r_iadd hx hb dX11_pieceMany_23 rfl (by decide : (1 : Int32).toInt = 1) (fun x8 e_x8 t_x8 => ?_)
    try have t_x8 := t_x8 (by omega)
    have n_24 : vp_in x8 19800 := (t_in (by omega))
    refine va_iald hx hb hK.1 hP 1 0 rfl rfl n_24 dX11_pieceMany_24 ?_
    refine q_nm (fun x9 e_x9 => ?_)
    have e_x9 : x9 = (I_m 1) x8.toNatClampNeg := e_x9
    have g_x9 : x9.toInt = ((I_m 1) x8.toNatClampNeg).toInt := congrArg _ e_x9
    have hq_x9 : x9.toInt = (I_m 1 (1850 + (k.toInt + 1).toNat)).toInt := congrArg Int32.toInt (at_ix e_x9 (by omega))
    have ho_x9 := hM.pk1 k.toInt (by omega)
    have hp_x9 := hM.pk (k.toInt + 1) (by omega)
    refine lv_iconst (v := 1) hx hb dX11_pieceMany_25 (by decide) ?_
    refine r_isub hx hb dX11_pieceMany_26 rfl (by decide : (1 : Int32).toInt = 1) (fun x10 e_x10 t_x10 => ?_)
    try have t_x10 := t_x10 (by omega)
    refine lv_goto (tgt := 37) hx hb dX11_pieceMany_27 (by decide) ?_
    refine lv_aload_n hx hb dX11_pieceMany_37 rfl (lv_at hl 0 rfl) ?_
    refine va_get (D := g.1) (ci := 11) (v := .ref (a_m 1)) (C := RX11) (T := TX11) (N := 46) hx hb hi_X11 (fun _ h => h) hown hK.1 hP 0 rfl rfl 0 (by decide) hf_7 (fun _ h9 => h9) rfl dX11_pieceMany_38 ?_
    refine lv_sipush (v := 1850) hx hb dX11_pieceMany_41 (by decide) ?_
    refine lv_iload_n hx hb dX11_pieceMany_44 rfl (lv_at hl 1 rfl) ?_
    refine r_iadd hx hb dX11_pieceMany_45 (by decide : (1850 : Int32).toInt = 1850) rfl (fun x11 e_x11 t_x11 => ?_)
    try have t_x11 := t_x11 (by omega)
    have n_46 : vp_in x11 19800 := (t_in (by omega))
    refine va_iald hx hb hK.1 hP 1 0 rfl rfl n_46 dX11_pieceMany_46 ?_
    refine q_nm (fun x12 e_x12 => ?_)
    have e_x12 : x12 = (I_m 1) x11.toNatClampNeg := e_x12
    have g_x12 : x12.toInt = ((I_m 1) x11.toNatClampNeg).toInt := congrArg _ e_x12
    have hq_x12 : x12.toInt = (I_m 1 (1850 + k.toInt.toNat)).toInt := congrArg Int32.toInt (at_ix e_x12 (by omega))
    refine r_isub hx hb dX11_pieceMany_47 rfl rfl (fun x13 e_x13 t_x13 => ?_)
    try have t_x13 := t_x13 (by omega)
    exact hret 48 ls x13 dX11_pieceMany_48 (by omega)

set_option maxHeartbeats 4000000 in
set_option maxRecDepth 100000 in
theorem kX11_laysCell (l : Launch) (g : gG) (a_m : Nat → Nat) (I_m : Nat → Nat → Int32) (J_m : Nat → Nat → Int64) (cell : Int32) (hM : MI I_m) (h_n : LN I_m) (h_l : 1 ≤ (I_m 0 27).toInt ∧ (I_m 0 28).toInt < 2600) : EffV l g yX11_laysCell wsX11_laysCell 0 [.ref (a_m 0), .int cell] (wX11 g a_m I_m J_m) (fun (u : (Nat → Nat → Int32)) => wX11 g a_m u J_m) (fun (u : (Nat → Nat → Int32)) => MI (u) ∧ KK [7, 9] [28] I_m (u) ∧ LN (u) ∧ ((u) 0 28).toInt = (I_m 0 28).toInt + 1) := by
  refine EffV.st (cc := cX11_laysCell) (maxL := 2) (by decide) rfl (Nat.le_of_ble_eq_true rfl) (fun p e s m args below meth c A Q ls fx hK hP hD hA hS hl hret => ?_)
  have hx := fx.1
  have hb := fx.2.1
  have hml := fx.2.2.1
  have hown := fx.2.2.2.1
  have hts := fx.2.2.2.2
  have hl : lv_has ls 2 [(0, .ref (a_m 0)), (1, .int cell)] := hl
  have hP : va_P g.1 vwCl (wX11 g a_m I_m J_m) s.heap := hP
  have hf_41 := hts _ (uT _ _ u_180)
  have hf_47 := hts _ (uT _ _ u_182)
  have hf_312 := hts _ (uT _ _ u_888)
  have hf_315 := hts _ (uT _ _ u_883)
  have hi_X11 : ∀ w ∈ wsX110, w.before args s = true := fun w h => hts w (uT _ w (u_wsX110 w h))
  have lm1 : (-1 : Int32).toInt = -1 := by decide
  have lm0 : (0 : Int32).toInt = 0 := by decide
  have lm2 : (1 : Int32).toInt = 1 := by decide
  have hn1 := h_n.1
  have hn2 := h_n.2.1
  refine lv_aload_n hx hb dX11_laysCell_0 rfl (lv_at hl 0 rfl) ?_
  refine va_get (D := g.1) (ci := 11) (v := .ref (a_m 7)) (C := RX11) (T := TX11) (N := 46) hx hb hi_X11 (fun _ h => h) hown hK.1 hP 0 rfl rfl 22 (by decide) hf_41 (fun _ h9 => h9) rfl dX11_laysCell_1 ?_
  refine lv_aload_n hx hb dX11_laysCell_4 rfl (lv_at hl 0 rfl) ?_
  refine va_get (D := g.1) (ci := 11) (v := .int (I_m 0 28)) (C := RX11) (T := TX11) (N := 46) hx hb hi_X11 (fun _ h => h) hown hK.1 hP 0 rfl rfl 28 (by decide) hf_312 (fun _ h9 => h9) rfl dX11_laysCell_5 ?_
  refine lv_iload_n hx hb dX11_laysCell_8 rfl (lv_at hl 1 rfl) ?_
  have n_9 : vp_in (I_m 0 28) 2600 := (t_in (by omega))
  obtain ⟨f1, e_f1⟩ : ∃ z, z = upd (I_m 7) (I_m 0 28).toNatClampNeg cell := ⟨_, rfl⟩
  refine va_iast hx hb hK.1 hP hD hS 7 0 rfl rfl n_9 dX11_laysCell_9 (fun H locs hP hD hS => ?_)
  have hP : va_P g.1 vwCl (wX11 g a_m (uR I_m 7 f1) J_m) H := by rw [e_f1]; exact hP
  have hD : va_D A (wX11 g a_m (uR I_m 7 f1) J_m) := by rw [e_f1]; exact hD
  have hc_9 : MI (uR I_m 7 f1) := MI.ur hM (by decide)
  have hk_9 : KK [7, 9] [28] I_m (uR I_m 7 f1) := KK.ur (KK.rf I_m) (by decide) (by decide)
  refine lv_aload_n hx hb dX11_laysCell_10 rfl (lv_at hl 0 rfl) ?_
  refine lv_dup hx hb dX11_laysCell_11 rfl ?_
  refine va_get (D := g.1) (ci := 11) (v := .int (I_m 0 28)) (C := RX11) (T := TX11) (N := 46) hx hb hi_X11 (fun _ h => h) hown hK.1 hP 0 rfl rfl 28 (by decide) hf_312 (fun _ h9 => h9) rfl dX11_laysCell_12 ?_
  refine lv_iconst (v := 1) hx hb dX11_laysCell_15 (by decide) ?_
  refine r_iadd hx hb dX11_laysCell_16 rfl (by decide : (1 : Int32).toInt = 1) (fun x2 e_x2 t_x2 => ?_)
  try have t_x2 := t_x2 (by omega)
  refine va_put (D := g.1) (ci := 11) (v := .int x2) (ty := .int) (C := RX11) (T := TX11) (N := 46) hx hb hi_X11 (fun _ h => h) tyX11 tyX11_ok nmX11 hown hK.1 hP hD hS 0 rfl rfl 28 (by decide) hf_312 (fun _ h9 => h9) rfl (by decide +kernel) rfl rfl (Nat.le_of_ble_eq_true rfl) dX11_laysCell_17 (fun H locs hP hD hS => ?_)
  have hP : va_P g.1 vwCl (wX11 g a_m (uF (uR I_m 7 f1) 0 28 x2) J_m) H := hP
  have hD : va_D A (wX11 g a_m (uF (uR I_m 7 f1) 0 28 x2) J_m) := hD
  have hc_17 : MI (uF (uR I_m 7 f1) 0 28 x2) := MI.uf hc_9 (by decide)
  have hk_17 : KK [7, 9] [28] I_m (uF (uR I_m 7 f1) 0 28 x2) := KK.uf hk_9 (by decide)
  refine lv_aload_n hx hb dX11_laysCell_20 rfl (lv_at hl 0 rfl) ?_
  refine va_get (D := g.1) (ci := 11) (v := .ref (a_m 9)) (C := RX11) (T := TX11) (N := 46) hx hb hi_X11 (fun _ h => h) hown hK.1 hP 0 rfl rfl 24 (by decide) hf_47 (fun _ h9 => h9) rfl dX11_laysCell_21 ?_
  refine lv_aload_n hx hb dX11_laysCell_24 rfl (lv_at hl 0 rfl) ?_
  refine va_get (D := g.1) (ci := 11) (v := .int (I_m 0 27)) (C := RX11) (T := TX11) (N := 46) hx hb hi_X11 (fun _ h => h) hown hK.1 hP 0 rfl rfl 27 (by decide) hf_315 (fun _ h9 => h9) rfl dX11_laysCell_25 ?_
  refine lv_iconst (v := 1) hx hb dX11_laysCell_28 (by decide) ?_
  refine r_isub hx hb dX11_laysCell_29 rfl (by decide : (1 : Int32).toInt = 1) (fun x3 e_x3 t_x3 => ?_)
  try have t_x3 := t_x3 (by omega)
  refine lv_dup2_11 hx hb dX11_laysCell_30 rfl rfl ?_
  have n_31 : vp_in x3 1300 := (t_in (by omega))
  refine va_iald hx hb hK.1 hP 9 0 rfl rfl n_31 dX11_laysCell_31 ?_
  refine q_nm (fun x4 e_x4 => ?_)
  have e_x4 : x4 = (I_m 9) x3.toNatClampNeg := e_x4
  have g_x4 : x4.toInt = ((I_m 9) x3.toNatClampNeg).toInt := congrArg _ e_x4
  have hlg := hM.lg (x3).toNatClampNeg
  have f_x4 : 0 ≤ x4.toInt ∧ x4.toInt ≤ 2600 := by rw [e_x4]; show 0 ≤ (I_m 9 _).toInt ∧ (I_m 9 _).toInt ≤ 2600; omega
  refine lv_iconst (v := 1) hx hb dX11_laysCell_32 (by decide) ?_
  refine r_iadd hx hb dX11_laysCell_33 rfl (by decide : (1 : Int32).toInt = 1) (fun x5 e_x5 t_x5 => ?_)
  try have t_x5 := t_x5 (by omega)
  have n_34 : vp_in x3 1300 := (t_in (by omega))
  obtain ⟨f6, e_f6⟩ : ∃ z, z = upd (I_m 9) x3.toNatClampNeg x5 := ⟨_, rfl⟩
  refine va_iast hx hb hK.1 hP hD hS 9 0 rfl rfl n_34 dX11_laysCell_34 (fun H locs hP hD hS => ?_)
  have hP : va_P g.1 vwCl (wX11 g a_m (uR (uF (uR I_m 7 f1) 0 28 x2) 9 f6) J_m) H := by rw [e_f6]; exact hP
  have hD : va_D A (wX11 g a_m (uR (uF (uR I_m 7 f1) 0 28 x2) 9 f6) J_m) := by rw [e_f6]; exact hD
  have hk_34 : KK [7, 9] [28] I_m (uR (uF (uR I_m 7 f1) 0 28 x2) 9 f6) := KK.ur hk_17 (by decide) (by decide)
  have hc_34 : MI (uR (uF (uR I_m 7 f1) 0 28 x2) 9 f6) := MI.u9 (I := uF (uR I_m 7 f1) 0 28 x2) hc_17 (fun j => LN.m9 h_n hM e_f6 (by omega) (by omega) (by rw [← e_x4]; omega) (by omega) j)
  refine hret 35 ls _ _ (uR (uF (uR I_m 7 f1) 0 28 x2) 9 f6) dX11_laysCell_35 hS hP hD ?_
  exact ⟨hc_34, hk_34, ⟨h_n.cell (I2 := (uR (uF (uR I_m 7 f1) 0 28 x2) 9 f6)) (m2 := x2) rfl rfl (by omega) (by omega) rfl e_f6 (by omega) (by omega) (by rw [← e_x4]; omega), (show (x2).toInt = _ from (by omega))⟩⟩

set_option maxHeartbeats 4000000 in
set_option maxRecDepth 100000 in
theorem kX11_newLine (l : Launch) (g : gG) (a_m : Nat → Nat) (I_m : Nat → Nat → Int32) (J_m : Nat → Nat → Int64) (hM : MI I_m) (h_n : LN I_m) (h_l : (I_m 0 27).toInt < 1300) : EffV l g yX11_newLine wsX11_newLine 0 [.ref (a_m 0)] (wX11 g a_m I_m J_m) (fun (u : (Nat → Nat → Int32)) => wX11 g a_m u J_m) (fun (u : (Nat → Nat → Int32)) => MI (u) ∧ KK [8, 9] [27] I_m (u) ∧ LN (u) ∧ ((u) 0 27).toInt = (I_m 0 27).toInt + 1) := by
  refine EffV.st (cc := cX11_newLine) (maxL := 1) (by decide) rfl (Nat.le_of_ble_eq_true rfl) (fun p e s m args below meth c A Q ls fx hK hP hD hA hS hl hret => ?_)
  have hx := fx.1
  have hb := fx.2.1
  have hml := fx.2.2.1
  have hown := fx.2.2.2.1
  have hts := fx.2.2.2.2
  have hl : lv_has ls 1 [(0, .ref (a_m 0))] := hl
  have hP : va_P g.1 vwCl (wX11 g a_m I_m J_m) s.heap := hP
  have hf_44 := hts _ (uT _ _ u_181)
  have hf_47 := hts _ (uT _ _ u_182)
  have hf_312 := hts _ (uT _ _ u_888)
  have hf_315 := hts _ (uT _ _ u_883)
  have hi_X11 : ∀ w ∈ wsX110, w.before args s = true := fun w h => hts w (uT _ w (u_wsX110 w h))
  have lm1 : (-1 : Int32).toInt = -1 := by decide
  have lm0 : (0 : Int32).toInt = 0 := by decide
  have lm2 : (1 : Int32).toInt = 1 := by decide
  have hn1 := h_n.1
  have hn2 := h_n.2.1
  refine lv_aload_n hx hb dX11_newLine_0 rfl (lv_at hl 0 rfl) ?_
  refine va_get (D := g.1) (ci := 11) (v := .ref (a_m 8)) (C := RX11) (T := TX11) (N := 46) hx hb hi_X11 (fun _ h => h) hown hK.1 hP 0 rfl rfl 23 (by decide) hf_44 (fun _ h9 => h9) rfl dX11_newLine_1 ?_
  refine lv_aload_n hx hb dX11_newLine_4 rfl (lv_at hl 0 rfl) ?_
  refine va_get (D := g.1) (ci := 11) (v := .int (I_m 0 27)) (C := RX11) (T := TX11) (N := 46) hx hb hi_X11 (fun _ h => h) hown hK.1 hP 0 rfl rfl 27 (by decide) hf_315 (fun _ h9 => h9) rfl dX11_newLine_5 ?_
  refine lv_aload_n hx hb dX11_newLine_8 rfl (lv_at hl 0 rfl) ?_
  refine va_get (D := g.1) (ci := 11) (v := .int (I_m 0 28)) (C := RX11) (T := TX11) (N := 46) hx hb hi_X11 (fun _ h => h) hown hK.1 hP 0 rfl rfl 28 (by decide) hf_312 (fun _ h9 => h9) rfl dX11_newLine_9 ?_
  have n_12 : vp_in (I_m 0 27) 1300 := (t_in (by omega))
  obtain ⟨f1, e_f1⟩ : ∃ z, z = upd (I_m 8) (I_m 0 27).toNatClampNeg (I_m 0 28) := ⟨_, rfl⟩
  refine va_iast hx hb hK.1 hP hD hS 8 0 rfl rfl n_12 dX11_newLine_12 (fun H locs hP hD hS => ?_)
  have hP : va_P g.1 vwCl (wX11 g a_m (uR I_m 8 f1) J_m) H := by rw [e_f1]; exact hP
  have hD : va_D A (wX11 g a_m (uR I_m 8 f1) J_m) := by rw [e_f1]; exact hD
  have hk_12 : KK [8, 9] [27] I_m (uR I_m 8 f1) := KK.ur (KK.rf I_m) (by decide) (by decide)
  refine lv_aload_n hx hb dX11_newLine_13 rfl (lv_at hl 0 rfl) ?_
  refine va_get (D := g.1) (ci := 11) (v := .ref (a_m 9)) (C := RX11) (T := TX11) (N := 46) hx hb hi_X11 (fun _ h => h) hown hK.1 hP 0 rfl rfl 24 (by decide) hf_47 (fun _ h9 => h9) rfl dX11_newLine_14 ?_
  refine lv_aload_n hx hb dX11_newLine_17 rfl (lv_at hl 0 rfl) ?_
  refine va_get (D := g.1) (ci := 11) (v := .int (I_m 0 27)) (C := RX11) (T := TX11) (N := 46) hx hb hi_X11 (fun _ h => h) hown hK.1 hP 0 rfl rfl 27 (by decide) hf_315 (fun _ h9 => h9) rfl dX11_newLine_18 ?_
  refine lv_iconst (v := 0) hx hb dX11_newLine_21 (by decide) ?_
  have n_22 : vp_in (I_m 0 27) 1300 := (t_in (by omega))
  obtain ⟨f2, e_f2⟩ : ∃ z, z = upd (I_m 9) (I_m 0 27).toNatClampNeg (0 : Int32) := ⟨_, rfl⟩
  refine va_iast hx hb hK.1 hP hD hS 9 0 rfl rfl n_22 dX11_newLine_22 (fun H locs hP hD hS => ?_)
  have hP : va_P g.1 vwCl (wX11 g a_m (uR (uR I_m 8 f1) 9 f2) J_m) H := by rw [e_f2]; exact hP
  have hD : va_D A (wX11 g a_m (uR (uR I_m 8 f1) 9 f2) J_m) := by rw [e_f2]; exact hD
  have hk_22 : KK [8, 9] [27] I_m (uR (uR I_m 8 f1) 9 f2) := KK.ur hk_12 (by decide) (by decide)
  have hc_22 : MI (uR (uR I_m 8 f1) 9 f2) := MI.u89 hM (LN.m89 hM e_f1 e_f2 rfl (by omega))
  refine lv_aload_n hx hb dX11_newLine_23 rfl (lv_at hl 0 rfl) ?_
  refine lv_dup hx hb dX11_newLine_24 rfl ?_
  refine va_get (D := g.1) (ci := 11) (v := .int (I_m 0 27)) (C := RX11) (T := TX11) (N := 46) hx hb hi_X11 (fun _ h => h) hown hK.1 hP 0 rfl rfl 27 (by decide) hf_315 (fun _ h9 => h9) rfl dX11_newLine_25 ?_
  refine lv_iconst (v := 1) hx hb dX11_newLine_28 (by decide) ?_
  refine r_iadd hx hb dX11_newLine_29 rfl (by decide : (1 : Int32).toInt = 1) (fun x3 e_x3 t_x3 => ?_)
  try have t_x3 := t_x3 (by omega)
  refine va_put (D := g.1) (ci := 11) (v := .int x3) (ty := .int) (C := RX11) (T := TX11) (N := 46) hx hb hi_X11 (fun _ h => h) tyX11 tyX11_ok nmX11 hown hK.1 hP hD hS 0 rfl rfl 27 (by decide) hf_315 (fun _ h9 => h9) rfl (by decide +kernel) rfl rfl (Nat.le_of_ble_eq_true rfl) dX11_newLine_30 (fun H locs hP hD hS => ?_)
  have hP : va_P g.1 vwCl (wX11 g a_m (uF (uR (uR I_m 8 f1) 9 f2) 0 27 x3) J_m) H := hP
  have hD : va_D A (wX11 g a_m (uF (uR (uR I_m 8 f1) 9 f2) 0 27 x3) J_m) := hD
  have hc_30 : MI (uF (uR (uR I_m 8 f1) 9 f2) 0 27 x3) := MI.uf hc_22 (by decide)
  have hk_30 : KK [8, 9] [27] I_m (uF (uR (uR I_m 8 f1) 9 f2) 0 27 x3) := KK.uf hk_22 (by decide)
  refine hret 33 ls _ _ (uF (uR (uR I_m 8 f1) 9 f2) 0 27 x3) dX11_newLine_33 hS hP hD ?_
  exact ⟨hc_30, hk_30, ⟨h_n.line (I2 := (uF (uR (uR I_m 8 f1) 9 f2) 0 27 x3)) (n2 := x3) rfl (by omega) (by omega) rfl e_f1 rfl rfl e_f2 rfl, (show (x3).toInt = _ from (by omega))⟩⟩

set_option maxHeartbeats 4000000 in
set_option maxRecDepth 100000 in
theorem kX11_laysLines (l : Launch) (g : gG) (a_m : Nat → Nat) (I_m : Nat → Nat → Int32) (J_m : Nat → Nat → Int64) (hM : MI I_m) : EffV l g yX11_laysLines wsX11_laysLines 1 [.ref (a_m 0)] (wX11 g a_m I_m J_m) (fun (u : (Nat → Nat → Int32)) => wX11 g a_m u J_m) (fun (u : (Nat → Nat → Int32)) => MI (u) ∧ KK [7, 8, 9, 10, 11] [27, 28, 29] I_m (u) ∧ LN (u)) := by
  refine EffV.st (cc := cX11_laysLines) (maxL := 7) (by decide) rfl (Nat.le_of_ble_eq_true rfl) (fun p e s m args below meth c A Q ls fx hK hP hD hA hS hl hret => ?_)
  have hx := fx.1
  have hb := fx.2.1
  have hml := fx.2.2.1
  have hown := fx.2.2.2.1
  have hts := fx.2.2.2.2
  have hl : lv_has ls 7 [(0, .ref (a_m 0))] := hl
  have hP : va_P g.1 vwCl (wX11 g a_m I_m J_m) s.heap := hP
  have hf_7 := hts _ (uT _ _ u_170)
  have hf_47 := hts _ (uT _ _ u_182)
  have hf_50 := hts _ (uT _ _ u_183)
  have hf_53 := hts _ (uT _ _ u_184)
  have hf_312 := hts _ (uT _ _ u_888)
  have hf_315 := hts _ (uT _ _ u_883)
  have hf_318 := hts _ (uT _ _ u_889)
  have hi_X11 : ∀ w ∈ wsX110, w.before args s = true := fun w h => hts w (uT _ w (u_wsX110 w h))
  have lm1 : (-1 : Int32).toInt = -1 := by decide
  have lm0 : (0 : Int32).toInt = 0 := by decide
  have lm2 : (1 : Int32).toInt = 1 := by decide
  have lq3 : (3 : Int32).toInt = 3 := by decide
  have lq4 : (4 : Int32).toInt = 4 := by decide
  have lq600 : (600 : Int32).toInt = 600 := by decide
  have lq1850 : (1850 : Int32).toInt = 1850 := by decide
  have hp9 := hM.pcs rfl
  have hs8 := hM.set rfl
  have hl4 := hM.line rfl
  refine lv_aload_n hx hb dX11_laysLines_0 rfl (lv_at hl 0 rfl) ?_
  refine lv_iconst (v := 0) hx hb dX11_laysLines_1 (by decide) ?_
  refine va_put (D := g.1) (ci := 11) (v := .int (0 : Int32)) (ty := .int) (C := RX11) (T := TX11) (N := 46) hx hb hi_X11 (fun _ h => h) tyX11 tyX11_ok nmX11 hown hK.1 hP hD hS 0 rfl rfl 27 (by decide) hf_315 (fun _ h9 => h9) rfl (by decide +kernel) rfl rfl (Nat.le_of_ble_eq_true rfl) dX11_laysLines_2 (fun H locs hP hD hS => ?_)
  have hP : va_P g.1 vwCl (wX11 g a_m (uF I_m 0 27 (0 : Int32)) J_m) H := hP
  have hD : va_D A (wX11 g a_m (uF I_m 0 27 (0 : Int32)) J_m) := hD
  have hc_2 : MI (uF I_m 0 27 (0 : Int32)) := MI.uf hM (by decide)
  have hk_2 : KK [7, 8, 9, 10, 11] [27, 28, 29] I_m (uF I_m 0 27 (0 : Int32)) := KK.uf (KK.rf I_m) (by decide)
  refine lv_aload_n hx hb dX11_laysLines_5 rfl (lv_at hl 0 rfl) ?_
  refine lv_iconst (v := 0) hx hb dX11_laysLines_6 (by decide) ?_
  refine va_put (D := g.1) (ci := 11) (v := .int (0 : Int32)) (ty := .int) (C := RX11) (T := TX11) (N := 46) hx hb hi_X11 (fun _ h => h) tyX11 tyX11_ok nmX11 hown hK.1 hP hD hS 0 rfl rfl 28 (by decide) hf_312 (fun _ h9 => h9) rfl (by decide +kernel) rfl rfl (Nat.le_of_ble_eq_true rfl) dX11_laysLines_7 (fun H locs hP hD hS => ?_)
  have hP : va_P g.1 vwCl (wX11 g a_m (uF (uF I_m 0 27 (0 : Int32)) 0 28 (0 : Int32)) J_m) H := hP
  have hD : va_D A (wX11 g a_m (uF (uF I_m 0 27 (0 : Int32)) 0 28 (0 : Int32)) J_m) := hD
  have hc_7 : MI (uF (uF I_m 0 27 (0 : Int32)) 0 28 (0 : Int32)) := MI.uf hc_2 (by decide)
  have hk_7 : KK [7, 8, 9, 10, 11] [27, 28, 29] I_m (uF (uF I_m 0 27 (0 : Int32)) 0 28 (0 : Int32)) := KK.uf hk_2 (by decide)
  refine lv_aload_n hx hb dX11_laysLines_10 rfl (lv_at hl 0 rfl) ?_
  refine lv_iconst (v := 0) hx hb dX11_laysLines_11 (by decide) ?_
  refine va_put (D := g.1) (ci := 11) (v := .int (0 : Int32)) (ty := .int) (C := RX11) (T := TX11) (N := 46) hx hb hi_X11 (fun _ h => h) tyX11 tyX11_ok nmX11 hown hK.1 hP hD hS 0 rfl rfl 29 (by decide) hf_318 (fun _ h9 => h9) rfl (by decide +kernel) rfl rfl (Nat.le_of_ble_eq_true rfl) dX11_laysLines_12 (fun H locs hP hD hS => ?_)
  have hP : va_P g.1 vwCl (wX11 g a_m (uF (uF (uF I_m 0 27 (0 : Int32)) 0 28 (0 : Int32)) 0 29 (0 : Int32)) J_m) H := hP
  have hD : va_D A (wX11 g a_m (uF (uF (uF I_m 0 27 (0 : Int32)) 0 28 (0 : Int32)) 0 29 (0 : Int32)) J_m) := hD
  have hc_12 : MI (uF (uF (uF I_m 0 27 (0 : Int32)) 0 28 (0 : Int32)) 0 29 (0 : Int32)) := MI.uf hc_7 (by decide)
  have hk_12 : KK [7, 8, 9, 10, 11] [27, 28, 29] I_m (uF (uF (uF I_m 0 27 (0 : Int32)) 0 28 (0 : Int32)) 0 29 (0 : Int32)) := KK.uf hk_7 (by decide)
  refine lv_aload_n hx hb dX11_laysLines_15 rfl (lv_at hl 0 rfl) ?_
  refine va_get (D := g.1) (ci := 11) (v := .ref (a_m 1)) (C := RX11) (T := TX11) (N := 46) hx hb hi_X11 (fun _ h => h) hown hK.1 hP 0 rfl rfl 0 (by decide) hf_7 (fun _ h9 => h9) rfl dX11_laysLines_16 ?_
  refine lv_iconst (v := 4) hx hb dX11_laysLines_19 (by decide) ?_
  have n_20 : vp_in (4 : Int32) 19800 := (t_in (by decide))
  refine va_iald hx hb hK.1 hP 1 0 rfl rfl n_20 dX11_laysLines_20 ?_
  refine q_nm (fun x1 e_x1 => ?_)
  have e_x1 : x1 = (I_m 1) 4 := e_x1
  have g_x1 : x1.toInt = ((I_m 1) 4).toInt := congrArg _ e_x1
  have f_x1 := MI.line hc_12 e_x1
  refine lv_istore_n (lv' := [(1, .int x1), (0, .ref (a_m 0))]) hx hb dX11_laysLines_21 rfl hl (by decide) rfl (fun ls hl => ?_)
  refine lv_iconst (v := 0) hx hb dX11_laysLines_22 (by decide) ?_
  refine lv_istore_n (lv' := [(2, .int (0 : Int32)), (1, .int x1), (0, .ref (a_m 0))]) hx hb dX11_laysLines_23 rfl hl (by decide) rfl (fun ls hl => ?_)
  have L24 : ∀ (nn : Nat) (v2_24 : Int32) (I_m_24 : Nat → Nat → Int32), (hM_24 : MI I_m_24) → (hk_24 : KK [7, 8, 9, 10, 11] [27, 28, 29] I_m I_m_24) → (hv_24 : 0 ≤ v2_24.toInt ∧ v2_24.toInt ≤ 150) → (hn_24 : LN I_m_24) → (hb_24 : v2_24.toInt < (I_m 1 9).toInt → (I_m_24 0 27).toInt ≤ (I_m 1 (1850 + v2_24.toInt.toNat)).toInt ∧ (I_m_24 0 28).toInt ≤ 2 * (I_m 1 (1850 + v2_24.toInt.toNat)).toInt) → ((151 - v2_24.toInt) < (nn : Int)) → ∀ (H : Heap) (locs : List Loc), va_P g.1 vwCl (wX11 g a_m I_m_24 J_m) H → va_D A (wX11 g a_m I_m_24 J_m) → va_S A s.heap H locs → ∀ ls : Array Slot, lv_has ls 7 [(2, .int v2_24), (1, .int x1), (0, .ref (a_m 0))] → W p l e (rm 1) s m args below meth c H locs 0 0 Q (F0 m 24 ls []) := by
    intro n_24
    induction n_24 with
    | zero =>
      intro v2_24 I_m_24 hM_24 hk_24 hv_24 hn_24 hb_24 hms_24 H locs hP hD hS ls hl
      exfalso; omega
    | succ n_24 ih_24 =>
      intro v2_24 I_m_24 hM_24 hk_24 hv_24 hn_24 hb_24 hms_24 H locs hP hD hS ls hl
      have ha24 : I_m_24 1 = I_m 1 := hk_24.row 1 (by decide)
      have hn241 := hn_24.1
      have hn242 := hn_24.2.1
      refine lv_iload_n hx hb dX11_laysLines_24 rfl (lv_at hl 0 rfl) ?_
      refine lv_aload_n hx hb dX11_laysLines_25 rfl (lv_at hl 2 rfl) ?_
      refine va_get (D := g.1) (ci := 11) (v := .ref (a_m 1)) (C := RX11) (T := TX11) (N := 46) hx hb hi_X11 (fun _ h => h) hown hK.1 hP 0 rfl rfl 0 (by decide) hf_7 (fun _ h9 => h9) rfl dX11_laysLines_26 ?_
      refine lv_bipush (v := 9) hx hb dX11_laysLines_29 (by decide) ?_
      have n_31 : vp_in (9 : Int32) 19800 := (t_in (by decide))
      refine va_iald hx hb hK.1 hP 1 0 rfl rfl n_31 dX11_laysLines_31 ?_
      refine q_nm (fun x2 e_x2 => ?_)
      have e_x2 : x2 = (I_m_24 1) 9 := e_x2
      have g_x2 : x2.toInt = ((I_m_24 1) 9).toInt := congrArg _ e_x2
      have f_x2 := MI.pcs hM_24 e_x2
      rw [ha24] at g_x2
      refine q_icmp_ge (tgt := 268) hx hb dX11_laysLines_32 (by decide) rfl rfl (fun k_32 => ?_) (fun k_32 => ?_)
      · refine hret 268 ls _ _ I_m_24 dX11_laysLines_268 hS hP hD ?_
        exact ⟨hM_24, hk_24, hn_24⟩
      · refine lv_aload_n hx hb dX11_laysLines_35 rfl (lv_at hl 2 rfl) ?_
        refine lv_iload_n hx hb dX11_laysLines_36 rfl (lv_at hl 0 rfl) ?_
        refine PurI.cv (As := [.int v2_24]) (kX11_pieceMany l g a_m I_m_24 J_m v2_24 hM_24 (by rw [ha24]; omega)) fx (gUV (uT _) u_890 u_891 u_892 u_5 u_893) rfl hdX11_pieceMany ⟨Nat.le_of_ble_eq_true rfl, Nat.le_of_ble_eq_true rfl⟩ hK hP [0, 1, 2, 3, 4, 5, 6, 7, 8, 9, 10, 11, 12, 13, 14, 15, 16, 17, 18, 19, 20, 21, 22] rfl rfl rfl rfl rfl hl.1 (Nat.le_of_ble_eq_true rfl) dX11_laysLines_37 (fun r3 p_r3 => ?_)
        have hp37 := p_r3
        rw [ha24] at hp37
        refine lv_istore_n (lv' := [(3, .int r3), (2, .int v2_24), (1, .int x1), (0, .ref (a_m 0))]) hx hb dX11_laysLines_40 rfl hl (by decide) rfl (fun ls hl => ?_)
        refine lv_aload_n hx hb dX11_laysLines_41 rfl (lv_at hl 3 rfl) ?_
        refine va_get (D := g.1) (ci := 11) (v := .int (I_m_24 0 27)) (C := RX11) (T := TX11) (N := 46) hx hb hi_X11 (fun _ h => h) hown hK.1 hP 0 rfl rfl 27 (by decide) hf_315 (fun _ h9 => h9) rfl dX11_laysLines_42 ?_
        refine q_if_eq (tgt := 67) hx hb dX11_laysLines_45 (by decide) rfl (fun b_45 k_45 => ?_) (fun b_45 k_45 => ?_)
        · refine lv_aload_n hx hb dX11_laysLines_67 rfl (lv_at hl 3 rfl) ?_
          refine EffV.cv (wr := ([])) (w' := fun u5 => wX11 g a_m u5 J_m) (As := []) (kX11_newLine l g a_m I_m_24 J_m hM_24 hn_24 (by omega)) fx (gUV (uT _) u_894 u_895 u_896 u_5 u_897) rfl hdX11_newLine ⟨Nat.le_of_ble_eq_true rfl, Nat.le_of_ble_eq_true rfl⟩ hK hP hD hS hA [0, 1, 2, 3, 4, 5, 6, 7, 8, 9, 10, 11, 12, 13, 14, 15, 16, 17, 18, 19, 20, 21, 22] [] [0, 1, 2, 3, 4, 5, 6, 7, 8, 9, 10, 11, 12, 13, 14, 15, 16, 17, 18, 19, 20, 21, 22] rfl rfl rfl rfl (by decide) rfl (fun _ => rfl) rfl rfl rfl rfl hl.1 (Nat.le_of_ble_eq_true rfl) dX11_laysLines_68 (fun u5 H locs p_r4 hP hD hS => ?_)
          have hP : va_P g.1 vwCl (wX11 g a_m u5 J_m) H := hP
          have hD : va_D A (wX11 g a_m u5 J_m) := hD
          have hl68 := p_r4.2.2.2
          have hL68 := p_r4.2.2.1
          have hm68 : (u5 0 28).toInt = ((I_m_24 0 28)).toInt := congrArg Int32.toInt (p_r4.2.1.num 28 (by decide))
          refine lv_goto (tgt := 79) hx hb dX11_laysLines_71 (by decide) ?_
          refine lv_aload_n hx hb dX11_laysLines_79 rfl (lv_at hl 3 rfl) ?_
          refine va_get (D := g.1) (ci := 11) (v := .ref (a_m 10)) (C := RX11) (T := TX11) (N := 46) hx hb hi_X11 (fun _ h => h) hown hK.1 hP 0 rfl rfl 25 (by decide) hf_50 (fun _ h9 => h9) rfl dX11_laysLines_80 ?_
          refine lv_iload_n hx hb dX11_laysLines_83 rfl (lv_at hl 1 rfl) ?_
          refine lv_aload_n hx hb dX11_laysLines_84 rfl (lv_at hl 3 rfl) ?_
          refine va_get (D := g.1) (ci := 11) (v := .int (u5 0 27)) (C := RX11) (T := TX11) (N := 46) hx hb hi_X11 (fun _ h => h) hown hK.1 hP 0 rfl rfl 27 (by decide) hf_315 (fun _ h9 => h9) rfl dX11_laysLines_85 ?_
          refine lv_iconst (v := 1) hx hb dX11_laysLines_88 (by decide) ?_
          refine r_isub hx hb dX11_laysLines_89 rfl (by decide : (1 : Int32).toInt = 1) (fun x6 e_x6 t_x6 => ?_)
          try have t_x6 := t_x6 (by omega)
          have n_90 : vp_in v2_24 160 := (t_in (by omega))
          obtain ⟨f7, e_f7⟩ : ∃ z, z = upd (u5 10) v2_24.toNatClampNeg x6 := ⟨_, rfl⟩
          refine va_iast hx hb hK.1 hP hD hS 10 0 rfl rfl n_90 dX11_laysLines_90 (fun H locs hP hD hS => ?_)
          have hP : va_P g.1 vwCl (wX11 g a_m (uR u5 10 f7) J_m) H := by rw [e_f7]; exact hP
          have hD : va_D A (wX11 g a_m (uR u5 10 f7) J_m) := by rw [e_f7]; exact hD
          have hc_90 : MI (uR u5 10 f7) := MI.ur (p_r4.1) (by decide)
          have hk_90 : KK [7, 8, 9, 10, 11] [27, 28, 29] I_m (uR u5 10 f7) := KK.ur (KK.tr hk_24 p_r4.2.1 (by decide) (by decide)) (by decide) (by decide)
          have hL90 : LN (uR u5 10 f7) := hL68.of rfl rfl rfl rfl
          have hA90 := hk_90.row 1 (by decide)
          refine lv_iconst (v := 0) hx hb dX11_laysLines_91 (by decide) ?_
          refine lv_istore (lv' := [(4, .int (0 : Int32)), (3, .int r3), (2, .int v2_24), (1, .int x1), (0, .ref (a_m 0))]) hx hb dX11_laysLines_92 hl (by decide) rfl (fun ls hl => ?_)
          have L94 : ∀ (nn : Nat) (v4_94 : Int32) (I_m_94 : Nat → Nat → Int32), (hM_94 : MI I_m_94) → (hk_94 : KK [7, 8, 9, 10, 11] [27, 28, 29] I_m I_m_94) → (hv_94 : 0 ≤ v4_94.toInt ∧ v4_94.toInt ≤ r3.toInt) → (hn_94 : LN I_m_94) → (hb_94 : 1 ≤ (I_m_94 0 27).toInt ∧ (I_m_94 0 27).toInt ≤ (I_m 1 (1850 + v2_24.toInt.toNat)).toInt + 1 + v4_94.toInt ∧ (I_m_94 0 28).toInt ≤ 2 * (I_m 1 (1850 + v2_24.toInt.toNat)).toInt + 1 + 2 * v4_94.toInt) → ((1300 - v4_94.toInt) < (nn : Int)) → ∀ (H : Heap) (locs : List Loc), va_P g.1 vwCl (wX11 g a_m I_m_94 J_m) H → va_D A (wX11 g a_m I_m_94 J_m) → va_S A s.heap H locs → ∀ ls : Array Slot, lv_has ls 7 [(4, .int v4_94), (3, .int r3), (2, .int v2_24), (1, .int x1), (0, .ref (a_m 0))] → W p l e (rm 1) s m args below meth c H locs 0 0 Q (F0 m 94 ls []) := by
            intro n_94
            induction n_94 with
            | zero =>
              intro v4_94 I_m_94 hM_94 hk_94 hv_94 hn_94 hb_94 hms_94 H locs hP hD hS ls hl
              exfalso; omega
            | succ n_94 ih_94 =>
              intro v4_94 I_m_94 hM_94 hk_94 hv_94 hn_94 hb_94 hms_94 H locs hP hD hS ls hl
              have ha94 : I_m_94 1 = I_m 1 := hk_94.row 1 (by decide)
              have hn941 := hn_94.1
              have hn942 := hn_94.2.1
              refine lv_iload_n hx hb dX11_laysLines_94 rfl (lv_at hl 1 rfl) ?_
              refine lv_iload hx hb dX11_laysLines_95 (lv_at hl 0 rfl) ?_
              refine r_isub hx hb dX11_laysLines_97 rfl rfl (fun x8 e_x8 t_x8 => ?_)
              try have t_x8 := t_x8 (by omega)
              refine lv_iload_n hx hb dX11_laysLines_98 rfl (lv_at hl 3 rfl) ?_
              refine q_icmp_le (tgt := 208) hx hb dX11_laysLines_99 (by decide) rfl rfl (fun k_99 => ?_) (fun k_99 => ?_)
              · refine lv_iload hx hb dX11_laysLines_208 (lv_at hl 0 rfl) ?_
                refine lv_istore (lv' := [(5, .int v4_94), (4, .int v4_94), (3, .int r3), (2, .int v2_24), (1, .int x1), (0, .ref (a_m 0))]) hx hb dX11_laysLines_210 hl (by decide) rfl (fun ls hl => ?_)
                have L212 : ∀ (nn : Nat) (v5_212 : Int32) (I_m_212 : Nat → Nat → Int32), (hM_212 : MI I_m_212) → (hk_212 : KK [7, 8, 9, 10, 11] [27, 28, 29] I_m I_m_212) → (hv_212 : v4_94.toInt ≤ v5_212.toInt ∧ v5_212.toInt ≤ r3.toInt) → (hn_212 : LN I_m_212) → (hb_212 : (I_m_212 0 27).toInt = (I_m_94 0 27).toInt ∧ (I_m_212 0 28).toInt = (I_m_94 0 28).toInt + (v5_212.toInt - v4_94.toInt)) → ((1300 - v5_212.toInt) < (nn : Int)) → ∀ (H : Heap) (locs : List Loc), va_P g.1 vwCl (wX11 g a_m I_m_212 J_m) H → va_D A (wX11 g a_m I_m_212 J_m) → va_S A s.heap H locs → ∀ ls : Array Slot, lv_has ls 7 [(5, .int v5_212), (4, .int v4_94), (3, .int r3), (2, .int v2_24), (1, .int x1), (0, .ref (a_m 0))] → W p l e (rm 1) s m args below meth c H locs 0 0 Q (F0 m 212 ls []) := by
                  intro n_212
                  induction n_212 with
                  | zero =>
                    intro v5_212 I_m_212 hM_212 hk_212 hv_212 hn_212 hb_212 hms_212 H locs hP hD hS ls hl
                    exfalso; omega
                  | succ n_212 ih_212 =>
                    intro v5_212 I_m_212 hM_212 hk_212 hv_212 hn_212 hb_212 hms_212 H locs hP hD hS ls hl
                    have ha212 : I_m_212 1 = I_m 1 := hk_212.row 1 (by decide)
                    have hn2121 := hn_212.1
                    have hn2122 := hn_212.2.1
                    refine lv_iload hx hb dX11_laysLines_212 (lv_at hl 0 rfl) ?_
                    refine lv_iload_n hx hb dX11_laysLines_214 rfl (lv_at hl 2 rfl) ?_
                    refine q_icmp_ge (tgt := 250) hx hb dX11_laysLines_215 (by decide) rfl rfl (fun k_215 => ?_) (fun k_215 => ?_)
                    · refine lv_aload_n hx hb dX11_laysLines_250 rfl (lv_at hl 5 rfl) ?_
                      refine va_get (D := g.1) (ci := 11) (v := .ref (a_m 11)) (C := RX11) (T := TX11) (N := 46) hx hb hi_X11 (fun _ h => h) hown hK.1 hP 0 rfl rfl 26 (by decide) hf_53 (fun _ h9 => h9) rfl dX11_laysLines_251 ?_
                      refine lv_iload_n hx hb dX11_laysLines_254 rfl (lv_at hl 3 rfl) ?_
                      refine lv_aload_n hx hb dX11_laysLines_255 rfl (lv_at hl 5 rfl) ?_
                      refine va_get (D := g.1) (ci := 11) (v := .int (I_m_212 0 27)) (C := RX11) (T := TX11) (N := 46) hx hb hi_X11 (fun _ h => h) hown hK.1 hP 0 rfl rfl 27 (by decide) hf_315 (fun _ h9 => h9) rfl dX11_laysLines_256 ?_
                      refine lv_iconst (v := 1) hx hb dX11_laysLines_259 (by decide) ?_
                      refine r_isub hx hb dX11_laysLines_260 rfl (by decide : (1 : Int32).toInt = 1) (fun x9 e_x9 t_x9 => ?_)
                      try have t_x9 := t_x9 (by omega)
                      have n_261 : vp_in v2_24 160 := (t_in (by omega))
                      obtain ⟨f10, e_f10⟩ : ∃ z, z = upd (I_m_212 11) v2_24.toNatClampNeg x9 := ⟨_, rfl⟩
                      refine va_iast hx hb hK.1 hP hD hS 11 0 rfl rfl n_261 dX11_laysLines_261 (fun H locs hP hD hS => ?_)
                      have hP : va_P g.1 vwCl (wX11 g a_m (uR I_m_212 11 f10) J_m) H := by rw [e_f10]; exact hP
                      have hD : va_D A (wX11 g a_m (uR I_m_212 11 f10) J_m) := by rw [e_f10]; exact hD
                      have hc_261 : MI (uR I_m_212 11 f10) := MI.ur hM_212 (by decide)
                      have hk_261 : KK [7, 8, 9, 10, 11] [27, 28, 29] I_m (uR I_m_212 11 f10) := KK.ur hk_212 (by decide) (by decide)
                      refine r_iinc (lv' := fun i11 => [(2, .int i11), (5, .int v5_212), (4, .int v4_94), (3, .int r3), (1, .int x1), (0, .ref (a_m 0))]) hx hb dX11_laysLines_262 hl (k := 3) rfl (by decide) rfl (by decide) (fun _ => rfl) (fun i11 e_i11 t_i11 ls hl => ?_)
                      try have t_i11 := t_i11 (by omega)
                      refine lv_goto (tgt := 24) hx hb dX11_laysLines_265 (by decide) ?_
                      exact ih_24 i11 (uR I_m_212 11 f10) hc_261 hk_261 (by omega) (hn_212.of rfl rfl rfl rfl) (fun q => (show (I_m_212 0 27).toInt ≤ _ ∧ (I_m_212 0 28).toInt ≤ _ from (by rw [show (i11).toInt = v2_24.toInt + 1 by omega] at q ⊢; omega))) (by omega) _ _ hP hD hS ls (lv_sub hl [0, 4, 5] rfl)
                    · refine lv_aload_n hx hb dX11_laysLines_218 rfl (lv_at hl 5 rfl) ?_
                      refine lv_aload_n hx hb dX11_laysLines_219 rfl (lv_at hl 5 rfl) ?_
                      refine va_get (D := g.1) (ci := 11) (v := .ref (a_m 1)) (C := RX11) (T := TX11) (N := 46) hx hb hi_X11 (fun _ h => h) hown hK.1 hP 0 rfl rfl 0 (by decide) hf_7 (fun _ h9 => h9) rfl dX11_laysLines_220 ?_
                      refine lv_sipush (v := 600) hx hb dX11_laysLines_223 (by decide) ?_
                      refine lv_aload_n hx hb dX11_laysLines_226 rfl (lv_at hl 5 rfl) ?_
                      refine va_get (D := g.1) (ci := 11) (v := .ref (a_m 1)) (C := RX11) (T := TX11) (N := 46) hx hb hi_X11 (fun _ h => h) hown hK.1 hP 0 rfl rfl 0 (by decide) hf_7 (fun _ h9 => h9) rfl dX11_laysLines_227 ?_
                      refine lv_sipush (v := 1850) hx hb dX11_laysLines_230 (by decide) ?_
                      refine lv_iload_n hx hb dX11_laysLines_233 rfl (lv_at hl 3 rfl) ?_
                      refine r_iadd hx hb dX11_laysLines_234 (by decide : (1850 : Int32).toInt = 1850) rfl (fun x12 e_x12 t_x12 => ?_)
                      try have t_x12 := t_x12 (by omega)
                      have n_235 : vp_in x12 19800 := (t_in (by omega))
                      refine va_iald hx hb hK.1 hP 1 0 rfl rfl n_235 dX11_laysLines_235 ?_
                      refine q_nm (fun x13 e_x13 => ?_)
                      have e_x13 : x13 = (I_m_212 1) x12.toNatClampNeg := e_x13
                      have g_x13 : x13.toInt = ((I_m_212 1) x12.toNatClampNeg).toInt := congrArg _ e_x13
                      rw [ha212] at e_x13
                      have hq_x13 : x13.toInt = (I_m 1 (1850 + v2_24.toInt.toNat)).toInt := congrArg Int32.toInt (at_ix e_x13 (by omega))
                      refine r_iadd hx hb dX11_laysLines_236 (by decide : (600 : Int32).toInt = 600) rfl (fun x14 e_x14 t_x14 => ?_)
                      try have t_x14 := t_x14 (by omega)
                      refine lv_iload hx hb dX11_laysLines_237 (lv_at hl 0 rfl) ?_
                      refine r_iadd hx hb dX11_laysLines_239 rfl rfl (fun x15 e_x15 t_x15 => ?_)
                      try have t_x15 := t_x15 (by omega)
                      have n_240 : vp_in x15 19800 := (t_in (by omega))
                      refine va_iald hx hb hK.1 hP 1 0 rfl rfl n_240 dX11_laysLines_240 ?_
                      refine q_nm (fun x16 e_x16 => ?_)
                      have e_x16 : x16 = (I_m_212 1) x15.toNatClampNeg := e_x16
                      have g_x16 : x16.toInt = ((I_m_212 1) x15.toNatClampNeg).toInt := congrArg _ e_x16
                      refine EffV.cv (wr := ([])) (w' := fun u18 => wX11 g a_m u18 J_m) (As := [.int x16]) (kX11_laysCell l g a_m I_m_212 J_m x16 hM_212 hn_212 (by omega)) fx (gUV (uT _) u_898 u_899 u_900 u_5 u_901) rfl hdX11_laysCell ⟨Nat.le_of_ble_eq_true rfl, Nat.le_of_ble_eq_true rfl⟩ hK hP hD hS hA [0, 1, 2, 3, 4, 5, 6, 7, 8, 9, 10, 11, 12, 13, 14, 15, 16, 17, 18, 19, 20, 21, 22] [] [0, 1, 2, 3, 4, 5, 6, 7, 8, 9, 10, 11, 12, 13, 14, 15, 16, 17, 18, 19, 20, 21, 22] rfl rfl rfl rfl (by decide) rfl (fun _ => rfl) rfl rfl rfl rfl hl.1 (Nat.le_of_ble_eq_true rfl) dX11_laysLines_241 (fun u18 H locs p_r17 hP hD hS => ?_)
                      have hP : va_P g.1 vwCl (wX11 g a_m u18 J_m) H := hP
                      have hD : va_D A (wX11 g a_m u18 J_m) := hD
                      have hl241 := p_r17.2.2.2
                      have hL241 := p_r17.2.2.1
                      have hm241 : (u18 0 27).toInt = ((I_m_212 0 27)).toInt := congrArg Int32.toInt (p_r17.2.1.num 27 (by decide))
                      refine r_iinc (lv' := fun i19 => [(5, .int i19), (4, .int v4_94), (3, .int r3), (2, .int v2_24), (1, .int x1), (0, .ref (a_m 0))]) hx hb dX11_laysLines_244 hl (k := 0) rfl (by decide) rfl (by decide) (fun _ => rfl) (fun i19 e_i19 t_i19 ls hl => ?_)
                      try have t_i19 := t_i19 (by omega)
                      refine lv_goto (tgt := 212) hx hb dX11_laysLines_247 (by decide) ?_
                      exact ih_212 i19 u18 (p_r17.1) (KK.tr hk_212 p_r17.2.1 (by decide) (by decide)) (by omega) hL241 (by omega) (by omega) _ _ hP hD hS ls hl
                exact L212 ((1300 - v4_94.toInt) + 1).toNat v4_94 I_m_94 hM_94 hk_94 (by omega) hn_94 (by omega) (by omega) _ _ hP hD hS ls hl
              · refine lv_aload_n hx hb dX11_laysLines_102 rfl (lv_at hl 4 rfl) ?_
                refine va_get (D := g.1) (ci := 11) (v := .ref (a_m 1)) (C := RX11) (T := TX11) (N := 46) hx hb hi_X11 (fun _ h => h) hown hK.1 hP 0 rfl rfl 0 (by decide) hf_7 (fun _ h9 => h9) rfl dX11_laysLines_103 ?_
                refine lv_iconst (v := 3) hx hb dX11_laysLines_106 (by decide) ?_
                have n_107 : vp_in (3 : Int32) 19800 := (t_in (by decide))
                refine va_iald hx hb hK.1 hP 1 0 rfl rfl n_107 dX11_laysLines_107 ?_
                refine q_nm (fun x20 e_x20 => ?_)
                have e_x20 : x20 = (I_m_94 1) 3 := e_x20
                have g_x20 : x20.toInt = ((I_m_94 1) 3).toInt := congrArg _ e_x20
                have f_x20 := MI.sign hM_94 3 (by decide) e_x20
                refine q_if_ne (tgt := 115) hx hb dX11_laysLines_108 (by decide) rfl (fun b_108 k_108 => ?_) (fun b_108 k_108 => ?_)
                · refine lv_iload_n hx hb dX11_laysLines_115 rfl (lv_at hl 3 rfl) ?_
                  refine lv_iconst (v := 1) hx hb dX11_laysLines_116 (by decide) ?_
                  refine r_isub hx hb dX11_laysLines_117 rfl (by decide : (1 : Int32).toInt = 1) (fun x21 e_x21 t_x21 => ?_)
                  try have t_x21 := t_x21 (by omega)
                  refine lv_istore (lv' := [(5, .int x21), (4, .int v4_94), (3, .int r3), (2, .int v2_24), (1, .int x1), (0, .ref (a_m 0))]) hx hb dX11_laysLines_118 hl (by decide) rfl (fun ls hl => ?_)
                  refine lv_iconst (v := 0) hx hb dX11_laysLines_120 (by decide) ?_
                  refine lv_istore (lv' := [(6, .int (0 : Int32)), (5, .int x21), (4, .int v4_94), (3, .int r3), (2, .int v2_24), (1, .int x1), (0, .ref (a_m 0))]) hx hb dX11_laysLines_121 hl (by decide) rfl (fun ls hl => ?_)
                  have L123 : ∀ (nn : Nat) (v6_123 : Int32) (I_m_123 : Nat → Nat → Int32), (hM_123 : MI I_m_123) → (hk_123 : KK [7, 8, 9, 10, 11] [27, 28, 29] I_m I_m_123) → (hv_123 : 0 ≤ v6_123.toInt ∧ v6_123.toInt ≤ x21.toInt) → (hn_123 : LN I_m_123) → (hb_123 : (I_m_123 0 27).toInt = (I_m_94 0 27).toInt ∧ (I_m_123 0 28).toInt = (I_m_94 0 28).toInt + v6_123.toInt) → ((41 - v6_123.toInt) < (nn : Int)) → ∀ (H : Heap) (locs : List Loc), va_P g.1 vwCl (wX11 g a_m I_m_123 J_m) H → va_D A (wX11 g a_m I_m_123 J_m) → va_S A s.heap H locs → ∀ ls : Array Slot, lv_has ls 7 [(6, .int v6_123), (5, .int x21), (4, .int v4_94), (3, .int r3), (2, .int v2_24), (1, .int x1), (0, .ref (a_m 0))] → W p l e (rm 1) s m args below meth c H locs 0 0 Q (F0 m 123 ls []) := by
                    intro n_123
                    induction n_123 with
                    | zero =>
                      intro v6_123 I_m_123 hM_123 hk_123 hv_123 hn_123 hb_123 hms_123 H locs hP hD hS ls hl
                      exfalso; omega
                    | succ n_123 ih_123 =>
                      intro v6_123 I_m_123 hM_123 hk_123 hv_123 hn_123 hb_123 hms_123 H locs hP hD hS ls hl
                      have ha123 : I_m_123 1 = I_m 1 := hk_123.row 1 (by decide)
                      have hn1231 := hn_123.1
                      have hn1232 := hn_123.2.1
                      refine lv_iload hx hb dX11_laysLines_123 (lv_at hl 0 rfl) ?_
                      refine lv_iload hx hb dX11_laysLines_125 (lv_at hl 1 rfl) ?_
                      refine q_icmp_ge (tgt := 165) hx hb dX11_laysLines_127 (by decide) rfl rfl (fun k_127 => ?_) (fun k_127 => ?_)
                      · refine lv_aload_n hx hb dX11_laysLines_165 rfl (lv_at hl 6 rfl) ?_
                        refine va_get (D := g.1) (ci := 11) (v := .ref (a_m 1)) (C := RX11) (T := TX11) (N := 46) hx hb hi_X11 (fun _ h => h) hown hK.1 hP 0 rfl rfl 0 (by decide) hf_7 (fun _ h9 => h9) rfl dX11_laysLines_166 ?_
                        refine lv_iconst (v := 3) hx hb dX11_laysLines_169 (by decide) ?_
                        have n_170 : vp_in (3 : Int32) 19800 := (t_in (by decide))
                        refine va_iald hx hb hK.1 hP 1 0 rfl rfl n_170 dX11_laysLines_170 ?_
                        refine q_nm (fun x22 e_x22 => ?_)
                        have e_x22 : x22 = (I_m_123 1) 3 := e_x22
                        have g_x22 : x22.toInt = ((I_m_123 1) 3).toInt := congrArg _ e_x22
                        have f_x22 := MI.sign hM_123 3 (by decide) e_x22
                        refine q_if_eq (tgt := 194) hx hb dX11_laysLines_171 (by decide) rfl (fun b_171 k_171 => ?_) (fun b_171 k_171 => ?_)
                        · refine lv_iload hx hb dX11_laysLines_194 (lv_at hl 2 rfl) ?_
                          refine lv_iload hx hb dX11_laysLines_196 (lv_at hl 1 rfl) ?_
                          refine r_iadd hx hb dX11_laysLines_198 rfl rfl (fun x23 e_x23 t_x23 => ?_)
                          try have t_x23 := t_x23 (by omega)
                          refine lv_istore (lv' := [(4, .int x23), (6, .int v6_123), (5, .int x21), (3, .int r3), (2, .int v2_24), (1, .int x1), (0, .ref (a_m 0))]) hx hb dX11_laysLines_199 hl (by decide) rfl (fun ls hl => ?_)
                          refine lv_aload_n hx hb dX11_laysLines_201 rfl (lv_at hl 6 rfl) ?_
                          refine EffV.cv (wr := ([])) (w' := fun u25 => wX11 g a_m u25 J_m) (As := []) (kX11_newLine l g a_m I_m_123 J_m hM_123 (by first | exact hL181.of rfl rfl rfl rfl | exact hn_123) (show ((I_m_123 0 27)).toInt < 1300 from (by omega))) fx (gUV (uT _) u_894 u_895 u_896 u_5 u_897) rfl hdX11_newLine ⟨Nat.le_of_ble_eq_true rfl, Nat.le_of_ble_eq_true rfl⟩ hK hP hD hS hA [0, 1, 2, 3, 4, 5, 6, 7, 8, 9, 10, 11, 12, 13, 14, 15, 16, 17, 18, 19, 20, 21, 22] [] [0, 1, 2, 3, 4, 5, 6, 7, 8, 9, 10, 11, 12, 13, 14, 15, 16, 17, 18, 19, 20, 21, 22] rfl rfl rfl rfl (by decide) rfl (fun _ => rfl) rfl rfl rfl rfl hl.1 (Nat.le_of_ble_eq_true rfl) dX11_laysLines_202 (fun u25 H locs p_r24 hP hD hS => ?_)
                          have hP : va_P g.1 vwCl (wX11 g a_m u25 J_m) H := hP
                          have hD : va_D A (wX11 g a_m u25 J_m) := hD
                          have hl202 := p_r24.2.2.2
                          have hL202 := p_r24.2.2.1
                          have hm202 : (u25 0 28).toInt = ((I_m_123 0 28)).toInt := congrArg Int32.toInt (p_r24.2.1.num 28 (by decide))
                          refine lv_goto (tgt := 94) hx hb dX11_laysLines_205 (by decide) ?_
                          exact ih_94 x23 u25 (p_r24.1) (KK.tr hk_123 p_r24.2.1 (by decide) (by decide)) (by omega) hL202 (by omega) (by omega) _ _ hP hD hS ls (lv_sub hl [0, 3, 4, 5, 6] rfl)
                        · refine lv_aload_n hx hb dX11_laysLines_174 rfl (lv_at hl 6 rfl) ?_
                          refine lv_aload_n hx hb dX11_laysLines_175 rfl (lv_at hl 6 rfl) ?_
                          refine va_get (D := g.1) (ci := 11) (v := .ref (a_m 1)) (C := RX11) (T := TX11) (N := 46) hx hb hi_X11 (fun _ h => h) hown hK.1 hP 0 rfl rfl 0 (by decide) hf_7 (fun _ h9 => h9) rfl dX11_laysLines_176 ?_
                          refine lv_iconst (v := 3) hx hb dX11_laysLines_179 (by decide) ?_
                          have n_180 : vp_in (3 : Int32) 19800 := (t_in (by decide))
                          refine va_iald hx hb hK.1 hP 1 0 rfl rfl n_180 dX11_laysLines_180 ?_
                          refine q_nm (fun x26 e_x26 => ?_)
                          have e_x26 : x26 = (I_m_123 1) 3 := e_x26
                          have g_x26 : x26.toInt = ((I_m_123 1) 3).toInt := congrArg _ e_x26
                          have f_x26 := MI.sign hM_123 3 (by decide) e_x26
                          refine EffV.cv (wr := ([])) (w' := fun u28 => wX11 g a_m u28 J_m) (As := [.int x26]) (kX11_laysCell l g a_m I_m_123 J_m x26 hM_123 hn_123 (by omega)) fx (gUV (uT _) u_898 u_899 u_900 u_5 u_901) rfl hdX11_laysCell ⟨Nat.le_of_ble_eq_true rfl, Nat.le_of_ble_eq_true rfl⟩ hK hP hD hS hA [0, 1, 2, 3, 4, 5, 6, 7, 8, 9, 10, 11, 12, 13, 14, 15, 16, 17, 18, 19, 20, 21, 22] [] [0, 1, 2, 3, 4, 5, 6, 7, 8, 9, 10, 11, 12, 13, 14, 15, 16, 17, 18, 19, 20, 21, 22] rfl rfl rfl rfl (by decide) rfl (fun _ => rfl) rfl rfl rfl rfl hl.1 (Nat.le_of_ble_eq_true rfl) dX11_laysLines_181 (fun u28 H locs p_r27 hP hD hS => ?_)
                          have hP : va_P g.1 vwCl (wX11 g a_m u28 J_m) H := hP
                          have hD : va_D A (wX11 g a_m u28 J_m) := hD
                          have hl181 := p_r27.2.2.2
                          have hL181 := p_r27.2.2.1
                          have hm181 : (u28 0 27).toInt = ((I_m_123 0 27)).toInt := congrArg Int32.toInt (p_r27.2.1.num 27 (by decide))
                          refine lv_aload_n hx hb dX11_laysLines_184 rfl (lv_at hl 6 rfl) ?_
                          refine lv_dup hx hb dX11_laysLines_185 rfl ?_
                          refine va_get (D := g.1) (ci := 11) (v := .int (u28 0 29)) (C := RX11) (T := TX11) (N := 46) hx hb hi_X11 (fun _ h => h) hown hK.1 hP 0 rfl rfl 29 (by decide) hf_318 (fun _ h9 => h9) rfl dX11_laysLines_186 ?_
                          refine lv_iconst (v := 1) hx hb dX11_laysLines_189 (by decide) ?_
                          refine r_iadd hx hb dX11_laysLines_190 rfl (by decide : (1 : Int32).toInt = 1) (fun x29 e_x29 t_x29 => ?_)
                          try have t_x29 := t_x29 (by omega)
                          refine va_put (D := g.1) (ci := 11) (v := .int x29) (ty := .int) (C := RX11) (T := TX11) (N := 46) hx hb hi_X11 (fun _ h => h) tyX11 tyX11_ok nmX11 hown hK.1 hP hD hS 0 rfl rfl 29 (by decide) hf_318 (fun _ h9 => h9) rfl (by decide +kernel) rfl rfl (Nat.le_of_ble_eq_true rfl) dX11_laysLines_191 (fun H locs hP hD hS => ?_)
                          have hP : va_P g.1 vwCl (wX11 g a_m (uF u28 0 29 x29) J_m) H := hP
                          have hD : va_D A (wX11 g a_m (uF u28 0 29 x29) J_m) := hD
                          have hc_191 : MI (uF u28 0 29 x29) := MI.uf (p_r27.1) (by decide)
                          have hk_191 : KK [7, 8, 9, 10, 11] [27, 28, 29] I_m (uF u28 0 29 x29) := KK.uf (KK.tr hk_123 p_r27.2.1 (by decide) (by decide)) (by decide)
                          refine lv_iload hx hb dX11_laysLines_194 (lv_at hl 2 rfl) ?_
                          refine lv_iload hx hb dX11_laysLines_196 (lv_at hl 1 rfl) ?_
                          refine r_iadd hx hb dX11_laysLines_198 rfl rfl (fun x30 e_x30 t_x30 => ?_)
                          try have t_x30 := t_x30 (by omega)
                          refine lv_istore (lv' := [(4, .int x30), (6, .int v6_123), (5, .int x21), (3, .int r3), (2, .int v2_24), (1, .int x1), (0, .ref (a_m 0))]) hx hb dX11_laysLines_199 hl (by decide) rfl (fun ls hl => ?_)
                          refine lv_aload_n hx hb dX11_laysLines_201 rfl (lv_at hl 6 rfl) ?_
                          refine EffV.cv (wr := ([])) (w' := fun u32 => wX11 g a_m u32 J_m) (As := []) (kX11_newLine l g a_m (uF u28 0 29 x29) J_m hc_191 (by first | exact hL181.of rfl rfl rfl rfl | exact hn_123) (show ((u28 0 27)).toInt < 1300 from (by omega))) fx (gUV (uT _) u_894 u_895 u_896 u_5 u_897) rfl hdX11_newLine ⟨Nat.le_of_ble_eq_true rfl, Nat.le_of_ble_eq_true rfl⟩ hK hP hD hS hA [0, 1, 2, 3, 4, 5, 6, 7, 8, 9, 10, 11, 12, 13, 14, 15, 16, 17, 18, 19, 20, 21, 22] [] [0, 1, 2, 3, 4, 5, 6, 7, 8, 9, 10, 11, 12, 13, 14, 15, 16, 17, 18, 19, 20, 21, 22] rfl rfl rfl rfl (by decide) rfl (fun _ => rfl) rfl rfl rfl rfl hl.1 (Nat.le_of_ble_eq_true rfl) dX11_laysLines_202 (fun u32 H locs p_r31 hP hD hS => ?_)
                          have hP : va_P g.1 vwCl (wX11 g a_m u32 J_m) H := hP
                          have hD : va_D A (wX11 g a_m u32 J_m) := hD
                          have p_r31 : MI u32 ∧ KK [8, 9] [27] (uF u28 0 29 x29) u32 ∧ LN u32 ∧ (u32 0 27).toInt = (u28 0 27).toInt + 1 := p_r31
                          have hl202 := p_r31.2.2.2
                          have hL202 := p_r31.2.2.1
                          have hm202 : (u32 0 28).toInt = ((u28 0 28)).toInt := congrArg Int32.toInt (p_r31.2.1.num 28 (by decide))
                          refine lv_goto (tgt := 94) hx hb dX11_laysLines_205 (by decide) ?_
                          exact ih_94 x30 u32 (p_r31.1) (KK.tr hk_191 p_r31.2.1 (by decide) (by decide)) (by omega) hL202 (by omega) (by omega) _ _ hP hD hS ls (lv_sub hl [0, 3, 4, 5, 6] rfl)
                      · refine lv_aload_n hx hb dX11_laysLines_130 rfl (lv_at hl 6 rfl) ?_
                        refine lv_aload_n hx hb dX11_laysLines_131 rfl (lv_at hl 6 rfl) ?_
                        refine va_get (D := g.1) (ci := 11) (v := .ref (a_m 1)) (C := RX11) (T := TX11) (N := 46) hx hb hi_X11 (fun _ h => h) hown hK.1 hP 0 rfl rfl 0 (by decide) hf_7 (fun _ h9 => h9) rfl dX11_laysLines_132 ?_
                        refine lv_sipush (v := 600) hx hb dX11_laysLines_135 (by decide) ?_
                        refine lv_aload_n hx hb dX11_laysLines_138 rfl (lv_at hl 6 rfl) ?_
                        refine va_get (D := g.1) (ci := 11) (v := .ref (a_m 1)) (C := RX11) (T := TX11) (N := 46) hx hb hi_X11 (fun _ h => h) hown hK.1 hP 0 rfl rfl 0 (by decide) hf_7 (fun _ h9 => h9) rfl dX11_laysLines_139 ?_
                        refine lv_sipush (v := 1850) hx hb dX11_laysLines_142 (by decide) ?_
                        refine lv_iload_n hx hb dX11_laysLines_145 rfl (lv_at hl 4 rfl) ?_
                        refine r_iadd hx hb dX11_laysLines_146 (by decide : (1850 : Int32).toInt = 1850) rfl (fun x33 e_x33 t_x33 => ?_)
                        try have t_x33 := t_x33 (by omega)
                        have n_147 : vp_in x33 19800 := (t_in (by omega))
                        refine va_iald hx hb hK.1 hP 1 0 rfl rfl n_147 dX11_laysLines_147 ?_
                        refine q_nm (fun x34 e_x34 => ?_)
                        have e_x34 : x34 = (I_m_123 1) x33.toNatClampNeg := e_x34
                        have g_x34 : x34.toInt = ((I_m_123 1) x33.toNatClampNeg).toInt := congrArg _ e_x34
                        rw [ha123] at e_x34
                        have hq_x34 : x34.toInt = (I_m 1 (1850 + v2_24.toInt.toNat)).toInt := congrArg Int32.toInt (at_ix e_x34 (by omega))
                        refine r_iadd hx hb dX11_laysLines_148 (by decide : (600 : Int32).toInt = 600) rfl (fun x35 e_x35 t_x35 => ?_)
                        try have t_x35 := t_x35 (by omega)
                        refine lv_iload hx hb dX11_laysLines_149 (lv_at hl 2 rfl) ?_
                        refine r_iadd hx hb dX11_laysLines_151 rfl rfl (fun x36 e_x36 t_x36 => ?_)
                        try have t_x36 := t_x36 (by omega)
                        refine lv_iload hx hb dX11_laysLines_152 (lv_at hl 0 rfl) ?_
                        refine r_iadd hx hb dX11_laysLines_154 rfl rfl (fun x37 e_x37 t_x37 => ?_)
                        try have t_x37 := t_x37 (by omega)
                        have n_155 : vp_in x37 19800 := (t_in (by omega))
                        refine va_iald hx hb hK.1 hP 1 0 rfl rfl n_155 dX11_laysLines_155 ?_
                        refine q_nm (fun x38 e_x38 => ?_)
                        have e_x38 : x38 = (I_m_123 1) x37.toNatClampNeg := e_x38
                        have g_x38 : x38.toInt = ((I_m_123 1) x37.toNatClampNeg).toInt := congrArg _ e_x38
                        refine EffV.cv (wr := ([])) (w' := fun u40 => wX11 g a_m u40 J_m) (As := [.int x38]) (kX11_laysCell l g a_m I_m_123 J_m x38 hM_123 hn_123 (by omega)) fx (gUV (uT _) u_898 u_899 u_900 u_5 u_901) rfl hdX11_laysCell ⟨Nat.le_of_ble_eq_true rfl, Nat.le_of_ble_eq_true rfl⟩ hK hP hD hS hA [0, 1, 2, 3, 4, 5, 6, 7, 8, 9, 10, 11, 12, 13, 14, 15, 16, 17, 18, 19, 20, 21, 22] [] [0, 1, 2, 3, 4, 5, 6, 7, 8, 9, 10, 11, 12, 13, 14, 15, 16, 17, 18, 19, 20, 21, 22] rfl rfl rfl rfl (by decide) rfl (fun _ => rfl) rfl rfl rfl rfl hl.1 (Nat.le_of_ble_eq_true rfl) dX11_laysLines_156 (fun u40 H locs p_r39 hP hD hS => ?_)
                        have hP : va_P g.1 vwCl (wX11 g a_m u40 J_m) H := hP
                        have hD : va_D A (wX11 g a_m u40 J_m) := hD
                        have hl156 := p_r39.2.2.2
                        have hL156 := p_r39.2.2.1
                        have hm156 : (u40 0 27).toInt = ((I_m_123 0 27)).toInt := congrArg Int32.toInt (p_r39.2.1.num 27 (by decide))
                        refine r_iinc (lv' := fun i41 => [(6, .int i41), (5, .int x21), (4, .int v4_94), (3, .int r3), (2, .int v2_24), (1, .int x1), (0, .ref (a_m 0))]) hx hb dX11_laysLines_159 hl (k := 0) rfl (by decide) rfl (by decide) (fun _ => rfl) (fun i41 e_i41 t_i41 ls hl => ?_)
                        try have t_i41 := t_i41 (by omega)
                        refine lv_goto (tgt := 123) hx hb dX11_laysLines_162 (by decide) ?_
                        exact ih_123 i41 u40 (p_r39.1) (KK.tr hk_123 p_r39.2.1 (by decide) (by decide)) (by omega) hL156 (by omega) (by omega) _ _ hP hD hS ls hl
                  exact L123 ((41 - (0 : Int32).toInt) + 1).toNat (0 : Int32) I_m_94 hM_94 hk_94 (by omega) hn_94 (by omega) (by omega) _ _ hP hD hS ls hl
                · refine lv_iload_n hx hb dX11_laysLines_111 rfl (lv_at hl 3 rfl) ?_
                  refine lv_goto (tgt := 118) hx hb dX11_laysLines_112 (by decide) ?_
                  refine lv_istore (lv' := [(5, .int x1), (4, .int v4_94), (3, .int r3), (2, .int v2_24), (1, .int x1), (0, .ref (a_m 0))]) hx hb dX11_laysLines_118 hl (by decide) rfl (fun ls hl => ?_)
                  refine lv_iconst (v := 0) hx hb dX11_laysLines_120 (by decide) ?_
                  refine lv_istore (lv' := [(6, .int (0 : Int32)), (5, .int x1), (4, .int v4_94), (3, .int r3), (2, .int v2_24), (1, .int x1), (0, .ref (a_m 0))]) hx hb dX11_laysLines_121 hl (by decide) rfl (fun ls hl => ?_)
                  have L123 : ∀ (nn : Nat) (v6_123 : Int32) (I_m_123 : Nat → Nat → Int32), (hM_123 : MI I_m_123) → (hk_123 : KK [7, 8, 9, 10, 11] [27, 28, 29] I_m I_m_123) → (hv_123 : 0 ≤ v6_123.toInt ∧ v6_123.toInt ≤ x1.toInt) → (hn_123 : LN I_m_123) → (hb_123 : (I_m_123 0 27).toInt = (I_m_94 0 27).toInt ∧ (I_m_123 0 28).toInt = (I_m_94 0 28).toInt + v6_123.toInt) → ((41 - v6_123.toInt) < (nn : Int)) → ∀ (H : Heap) (locs : List Loc), va_P g.1 vwCl (wX11 g a_m I_m_123 J_m) H → va_D A (wX11 g a_m I_m_123 J_m) → va_S A s.heap H locs → ∀ ls : Array Slot, lv_has ls 7 [(6, .int v6_123), (5, .int x1), (4, .int v4_94), (3, .int r3), (2, .int v2_24), (1, .int x1), (0, .ref (a_m 0))] → W p l e (rm 1) s m args below meth c H locs 0 0 Q (F0 m 123 ls []) := by
                    intro n_123
                    induction n_123 with
                    | zero =>
                      intro v6_123 I_m_123 hM_123 hk_123 hv_123 hn_123 hb_123 hms_123 H locs hP hD hS ls hl
                      exfalso; omega
                    | succ n_123 ih_123 =>
                      intro v6_123 I_m_123 hM_123 hk_123 hv_123 hn_123 hb_123 hms_123 H locs hP hD hS ls hl
                      have ha123 : I_m_123 1 = I_m 1 := hk_123.row 1 (by decide)
                      have hn1231 := hn_123.1
                      have hn1232 := hn_123.2.1
                      refine lv_iload hx hb dX11_laysLines_123 (lv_at hl 0 rfl) ?_
                      refine lv_iload hx hb dX11_laysLines_125 (lv_at hl 1 rfl) ?_
                      refine q_icmp_ge (tgt := 165) hx hb dX11_laysLines_127 (by decide) rfl rfl (fun k_127 => ?_) (fun k_127 => ?_)
                      · refine lv_aload_n hx hb dX11_laysLines_165 rfl (lv_at hl 6 rfl) ?_
                        refine va_get (D := g.1) (ci := 11) (v := .ref (a_m 1)) (C := RX11) (T := TX11) (N := 46) hx hb hi_X11 (fun _ h => h) hown hK.1 hP 0 rfl rfl 0 (by decide) hf_7 (fun _ h9 => h9) rfl dX11_laysLines_166 ?_
                        refine lv_iconst (v := 3) hx hb dX11_laysLines_169 (by decide) ?_
                        have n_170 : vp_in (3 : Int32) 19800 := (t_in (by decide))
                        refine va_iald hx hb hK.1 hP 1 0 rfl rfl n_170 dX11_laysLines_170 ?_
                        refine q_nm (fun x42 e_x42 => ?_)
                        have e_x42 : x42 = (I_m_123 1) 3 := e_x42
                        have g_x42 : x42.toInt = ((I_m_123 1) 3).toInt := congrArg _ e_x42
                        have f_x42 := MI.sign hM_123 3 (by decide) e_x42
                        refine q_if_eq (tgt := 194) hx hb dX11_laysLines_171 (by decide) rfl (fun b_171 k_171 => ?_) (fun b_171 k_171 => ?_)
                        · refine lv_iload hx hb dX11_laysLines_194 (lv_at hl 2 rfl) ?_
                          refine lv_iload hx hb dX11_laysLines_196 (lv_at hl 1 rfl) ?_
                          refine r_iadd hx hb dX11_laysLines_198 rfl rfl (fun x43 e_x43 t_x43 => ?_)
                          try have t_x43 := t_x43 (by omega)
                          refine lv_istore (lv' := [(4, .int x43), (6, .int v6_123), (5, .int x1), (3, .int r3), (2, .int v2_24), (1, .int x1), (0, .ref (a_m 0))]) hx hb dX11_laysLines_199 hl (by decide) rfl (fun ls hl => ?_)
                          refine lv_aload_n hx hb dX11_laysLines_201 rfl (lv_at hl 6 rfl) ?_
                          refine EffV.cv (wr := ([])) (w' := fun u45 => wX11 g a_m u45 J_m) (As := []) (kX11_newLine l g a_m I_m_123 J_m hM_123 (by first | exact hL181.of rfl rfl rfl rfl | exact hn_123) (show ((I_m_123 0 27)).toInt < 1300 from (by omega))) fx (gUV (uT _) u_894 u_895 u_896 u_5 u_897) rfl hdX11_newLine ⟨Nat.le_of_ble_eq_true rfl, Nat.le_of_ble_eq_true rfl⟩ hK hP hD hS hA [0, 1, 2, 3, 4, 5, 6, 7, 8, 9, 10, 11, 12, 13, 14, 15, 16, 17, 18, 19, 20, 21, 22] [] [0, 1, 2, 3, 4, 5, 6, 7, 8, 9, 10, 11, 12, 13, 14, 15, 16, 17, 18, 19, 20, 21, 22] rfl rfl rfl rfl (by decide) rfl (fun _ => rfl) rfl rfl rfl rfl hl.1 (Nat.le_of_ble_eq_true rfl) dX11_laysLines_202 (fun u45 H locs p_r44 hP hD hS => ?_)
                          have hP : va_P g.1 vwCl (wX11 g a_m u45 J_m) H := hP
                          have hD : va_D A (wX11 g a_m u45 J_m) := hD
                          have hl202 := p_r44.2.2.2
                          have hL202 := p_r44.2.2.1
                          have hm202 : (u45 0 28).toInt = ((I_m_123 0 28)).toInt := congrArg Int32.toInt (p_r44.2.1.num 28 (by decide))
                          refine lv_goto (tgt := 94) hx hb dX11_laysLines_205 (by decide) ?_
                          exact ih_94 x43 u45 (p_r44.1) (KK.tr hk_123 p_r44.2.1 (by decide) (by decide)) (by omega) hL202 (by omega) (by omega) _ _ hP hD hS ls (lv_sub hl [0, 3, 4, 5, 6] rfl)
                        · refine lv_aload_n hx hb dX11_laysLines_174 rfl (lv_at hl 6 rfl) ?_
                          refine lv_aload_n hx hb dX11_laysLines_175 rfl (lv_at hl 6 rfl) ?_
                          refine va_get (D := g.1) (ci := 11) (v := .ref (a_m 1)) (C := RX11) (T := TX11) (N := 46) hx hb hi_X11 (fun _ h => h) hown hK.1 hP 0 rfl rfl 0 (by decide) hf_7 (fun _ h9 => h9) rfl dX11_laysLines_176 ?_
                          refine lv_iconst (v := 3) hx hb dX11_laysLines_179 (by decide) ?_
                          have n_180 : vp_in (3 : Int32) 19800 := (t_in (by decide))
                          refine va_iald hx hb hK.1 hP 1 0 rfl rfl n_180 dX11_laysLines_180 ?_
                          refine q_nm (fun x46 e_x46 => ?_)
                          have e_x46 : x46 = (I_m_123 1) 3 := e_x46
                          have g_x46 : x46.toInt = ((I_m_123 1) 3).toInt := congrArg _ e_x46
                          have f_x46 := MI.sign hM_123 3 (by decide) e_x46
                          refine EffV.cv (wr := ([])) (w' := fun u48 => wX11 g a_m u48 J_m) (As := [.int x46]) (kX11_laysCell l g a_m I_m_123 J_m x46 hM_123 hn_123 (by omega)) fx (gUV (uT _) u_898 u_899 u_900 u_5 u_901) rfl hdX11_laysCell ⟨Nat.le_of_ble_eq_true rfl, Nat.le_of_ble_eq_true rfl⟩ hK hP hD hS hA [0, 1, 2, 3, 4, 5, 6, 7, 8, 9, 10, 11, 12, 13, 14, 15, 16, 17, 18, 19, 20, 21, 22] [] [0, 1, 2, 3, 4, 5, 6, 7, 8, 9, 10, 11, 12, 13, 14, 15, 16, 17, 18, 19, 20, 21, 22] rfl rfl rfl rfl (by decide) rfl (fun _ => rfl) rfl rfl rfl rfl hl.1 (Nat.le_of_ble_eq_true rfl) dX11_laysLines_181 (fun u48 H locs p_r47 hP hD hS => ?_)
                          have hP : va_P g.1 vwCl (wX11 g a_m u48 J_m) H := hP
                          have hD : va_D A (wX11 g a_m u48 J_m) := hD
                          have hl181 := p_r47.2.2.2
                          have hL181 := p_r47.2.2.1
                          have hm181 : (u48 0 27).toInt = ((I_m_123 0 27)).toInt := congrArg Int32.toInt (p_r47.2.1.num 27 (by decide))
                          refine lv_aload_n hx hb dX11_laysLines_184 rfl (lv_at hl 6 rfl) ?_
                          refine lv_dup hx hb dX11_laysLines_185 rfl ?_
                          refine va_get (D := g.1) (ci := 11) (v := .int (u48 0 29)) (C := RX11) (T := TX11) (N := 46) hx hb hi_X11 (fun _ h => h) hown hK.1 hP 0 rfl rfl 29 (by decide) hf_318 (fun _ h9 => h9) rfl dX11_laysLines_186 ?_
                          refine lv_iconst (v := 1) hx hb dX11_laysLines_189 (by decide) ?_
                          refine r_iadd hx hb dX11_laysLines_190 rfl (by decide : (1 : Int32).toInt = 1) (fun x49 e_x49 t_x49 => ?_)
                          try have t_x49 := t_x49 (by omega)
                          refine va_put (D := g.1) (ci := 11) (v := .int x49) (ty := .int) (C := RX11) (T := TX11) (N := 46) hx hb hi_X11 (fun _ h => h) tyX11 tyX11_ok nmX11 hown hK.1 hP hD hS 0 rfl rfl 29 (by decide) hf_318 (fun _ h9 => h9) rfl (by decide +kernel) rfl rfl (Nat.le_of_ble_eq_true rfl) dX11_laysLines_191 (fun H locs hP hD hS => ?_)
                          have hP : va_P g.1 vwCl (wX11 g a_m (uF u48 0 29 x49) J_m) H := hP
                          have hD : va_D A (wX11 g a_m (uF u48 0 29 x49) J_m) := hD
                          have hc_191 : MI (uF u48 0 29 x49) := MI.uf (p_r47.1) (by decide)
                          have hk_191 : KK [7, 8, 9, 10, 11] [27, 28, 29] I_m (uF u48 0 29 x49) := KK.uf (KK.tr hk_123 p_r47.2.1 (by decide) (by decide)) (by decide)
                          refine lv_iload hx hb dX11_laysLines_194 (lv_at hl 2 rfl) ?_
                          refine lv_iload hx hb dX11_laysLines_196 (lv_at hl 1 rfl) ?_
                          refine r_iadd hx hb dX11_laysLines_198 rfl rfl (fun x50 e_x50 t_x50 => ?_)
                          try have t_x50 := t_x50 (by omega)
                          refine lv_istore (lv' := [(4, .int x50), (6, .int v6_123), (5, .int x1), (3, .int r3), (2, .int v2_24), (1, .int x1), (0, .ref (a_m 0))]) hx hb dX11_laysLines_199 hl (by decide) rfl (fun ls hl => ?_)
                          refine lv_aload_n hx hb dX11_laysLines_201 rfl (lv_at hl 6 rfl) ?_
                          refine EffV.cv (wr := ([])) (w' := fun u52 => wX11 g a_m u52 J_m) (As := []) (kX11_newLine l g a_m (uF u48 0 29 x49) J_m hc_191 (by first | exact hL181.of rfl rfl rfl rfl | exact hn_123) (show ((u48 0 27)).toInt < 1300 from (by omega))) fx (gUV (uT _) u_894 u_895 u_896 u_5 u_897) rfl hdX11_newLine ⟨Nat.le_of_ble_eq_true rfl, Nat.le_of_ble_eq_true rfl⟩ hK hP hD hS hA [0, 1, 2, 3, 4, 5, 6, 7, 8, 9, 10, 11, 12, 13, 14, 15, 16, 17, 18, 19, 20, 21, 22] [] [0, 1, 2, 3, 4, 5, 6, 7, 8, 9, 10, 11, 12, 13, 14, 15, 16, 17, 18, 19, 20, 21, 22] rfl rfl rfl rfl (by decide) rfl (fun _ => rfl) rfl rfl rfl rfl hl.1 (Nat.le_of_ble_eq_true rfl) dX11_laysLines_202 (fun u52 H locs p_r51 hP hD hS => ?_)
                          have hP : va_P g.1 vwCl (wX11 g a_m u52 J_m) H := hP
                          have hD : va_D A (wX11 g a_m u52 J_m) := hD
                          have p_r51 : MI u52 ∧ KK [8, 9] [27] (uF u48 0 29 x49) u52 ∧ LN u52 ∧ (u52 0 27).toInt = (u48 0 27).toInt + 1 := p_r51
                          have hl202 := p_r51.2.2.2
                          have hL202 := p_r51.2.2.1
                          have hm202 : (u52 0 28).toInt = ((u48 0 28)).toInt := congrArg Int32.toInt (p_r51.2.1.num 28 (by decide))
                          refine lv_goto (tgt := 94) hx hb dX11_laysLines_205 (by decide) ?_
                          exact ih_94 x50 u52 (p_r51.1) (KK.tr hk_191 p_r51.2.1 (by decide) (by decide)) (by omega) hL202 (by omega) (by omega) _ _ hP hD hS ls (lv_sub hl [0, 3, 4, 5, 6] rfl)
                      · refine lv_aload_n hx hb dX11_laysLines_130 rfl (lv_at hl 6 rfl) ?_
                        refine lv_aload_n hx hb dX11_laysLines_131 rfl (lv_at hl 6 rfl) ?_
                        refine va_get (D := g.1) (ci := 11) (v := .ref (a_m 1)) (C := RX11) (T := TX11) (N := 46) hx hb hi_X11 (fun _ h => h) hown hK.1 hP 0 rfl rfl 0 (by decide) hf_7 (fun _ h9 => h9) rfl dX11_laysLines_132 ?_
                        refine lv_sipush (v := 600) hx hb dX11_laysLines_135 (by decide) ?_
                        refine lv_aload_n hx hb dX11_laysLines_138 rfl (lv_at hl 6 rfl) ?_
                        refine va_get (D := g.1) (ci := 11) (v := .ref (a_m 1)) (C := RX11) (T := TX11) (N := 46) hx hb hi_X11 (fun _ h => h) hown hK.1 hP 0 rfl rfl 0 (by decide) hf_7 (fun _ h9 => h9) rfl dX11_laysLines_139 ?_
                        refine lv_sipush (v := 1850) hx hb dX11_laysLines_142 (by decide) ?_
                        refine lv_iload_n hx hb dX11_laysLines_145 rfl (lv_at hl 4 rfl) ?_
                        refine r_iadd hx hb dX11_laysLines_146 (by decide : (1850 : Int32).toInt = 1850) rfl (fun x53 e_x53 t_x53 => ?_)
                        try have t_x53 := t_x53 (by omega)
                        have n_147 : vp_in x53 19800 := (t_in (by omega))
                        refine va_iald hx hb hK.1 hP 1 0 rfl rfl n_147 dX11_laysLines_147 ?_
                        refine q_nm (fun x54 e_x54 => ?_)
                        have e_x54 : x54 = (I_m_123 1) x53.toNatClampNeg := e_x54
                        have g_x54 : x54.toInt = ((I_m_123 1) x53.toNatClampNeg).toInt := congrArg _ e_x54
                        rw [ha123] at e_x54
                        have hq_x54 : x54.toInt = (I_m 1 (1850 + v2_24.toInt.toNat)).toInt := congrArg Int32.toInt (at_ix e_x54 (by omega))
                        refine r_iadd hx hb dX11_laysLines_148 (by decide : (600 : Int32).toInt = 600) rfl (fun x55 e_x55 t_x55 => ?_)
                        try have t_x55 := t_x55 (by omega)
                        refine lv_iload hx hb dX11_laysLines_149 (lv_at hl 2 rfl) ?_
                        refine r_iadd hx hb dX11_laysLines_151 rfl rfl (fun x56 e_x56 t_x56 => ?_)
                        try have t_x56 := t_x56 (by omega)
                        refine lv_iload hx hb dX11_laysLines_152 (lv_at hl 0 rfl) ?_
                        refine r_iadd hx hb dX11_laysLines_154 rfl rfl (fun x57 e_x57 t_x57 => ?_)
                        try have t_x57 := t_x57 (by omega)
                        have n_155 : vp_in x57 19800 := (t_in (by omega))
                        refine va_iald hx hb hK.1 hP 1 0 rfl rfl n_155 dX11_laysLines_155 ?_
                        refine q_nm (fun x58 e_x58 => ?_)
                        have e_x58 : x58 = (I_m_123 1) x57.toNatClampNeg := e_x58
                        have g_x58 : x58.toInt = ((I_m_123 1) x57.toNatClampNeg).toInt := congrArg _ e_x58
                        refine EffV.cv (wr := ([])) (w' := fun u60 => wX11 g a_m u60 J_m) (As := [.int x58]) (kX11_laysCell l g a_m I_m_123 J_m x58 hM_123 hn_123 (by omega)) fx (gUV (uT _) u_898 u_899 u_900 u_5 u_901) rfl hdX11_laysCell ⟨Nat.le_of_ble_eq_true rfl, Nat.le_of_ble_eq_true rfl⟩ hK hP hD hS hA [0, 1, 2, 3, 4, 5, 6, 7, 8, 9, 10, 11, 12, 13, 14, 15, 16, 17, 18, 19, 20, 21, 22] [] [0, 1, 2, 3, 4, 5, 6, 7, 8, 9, 10, 11, 12, 13, 14, 15, 16, 17, 18, 19, 20, 21, 22] rfl rfl rfl rfl (by decide) rfl (fun _ => rfl) rfl rfl rfl rfl hl.1 (Nat.le_of_ble_eq_true rfl) dX11_laysLines_156 (fun u60 H locs p_r59 hP hD hS => ?_)
                        have hP : va_P g.1 vwCl (wX11 g a_m u60 J_m) H := hP
                        have hD : va_D A (wX11 g a_m u60 J_m) := hD
                        have hl156 := p_r59.2.2.2
                        have hL156 := p_r59.2.2.1
                        have hm156 : (u60 0 27).toInt = ((I_m_123 0 27)).toInt := congrArg Int32.toInt (p_r59.2.1.num 27 (by decide))
                        refine r_iinc (lv' := fun i61 => [(6, .int i61), (5, .int x1), (4, .int v4_94), (3, .int r3), (2, .int v2_24), (1, .int x1), (0, .ref (a_m 0))]) hx hb dX11_laysLines_159 hl (k := 0) rfl (by decide) rfl (by decide) (fun _ => rfl) (fun i61 e_i61 t_i61 ls hl => ?_)
                        try have t_i61 := t_i61 (by omega)
                        refine lv_goto (tgt := 123) hx hb dX11_laysLines_162 (by decide) ?_
                        exact ih_123 i61 u60 (p_r59.1) (KK.tr hk_123 p_r59.2.1 (by decide) (by decide)) (by omega) hL156 (by omega) (by omega) _ _ hP hD hS ls hl
                  exact L123 ((41 - (0 : Int32).toInt) + 1).toNat (0 : Int32) I_m_94 hM_94 hk_94 (by omega) hn_94 (by omega) (by omega) _ _ hP hD hS ls hl
          exact L94 ((1300 - (0 : Int32).toInt) + 1).toNat (0 : Int32) (uR u5 10 f7) hc_90 hk_90 (by omega) hL90 (show 1 ≤ ((u5 0 27)).toInt ∧ ((u5 0 27)).toInt ≤ _ ∧ ((u5 0 28)).toInt ≤ _ from (by rw [lm0]; omega)) (by omega) _ _ hP hD hS ls hl
        · refine lv_aload_n hx hb dX11_laysLines_48 rfl (lv_at hl 3 rfl) ?_
          refine va_get (D := g.1) (ci := 11) (v := .ref (a_m 9)) (C := RX11) (T := TX11) (N := 46) hx hb hi_X11 (fun _ h => h) hown hK.1 hP 0 rfl rfl 24 (by decide) hf_47 (fun _ h9 => h9) rfl dX11_laysLines_49 ?_
          refine lv_aload_n hx hb dX11_laysLines_52 rfl (lv_at hl 3 rfl) ?_
          refine va_get (D := g.1) (ci := 11) (v := .int (I_m_24 0 27)) (C := RX11) (T := TX11) (N := 46) hx hb hi_X11 (fun _ h => h) hown hK.1 hP 0 rfl rfl 27 (by decide) hf_315 (fun _ h9 => h9) rfl dX11_laysLines_53 ?_
          refine lv_iconst (v := 1) hx hb dX11_laysLines_56 (by decide) ?_
          refine r_isub hx hb dX11_laysLines_57 rfl (by decide : (1 : Int32).toInt = 1) (fun x62 e_x62 t_x62 => ?_)
          try have t_x62 := t_x62 (by omega)
          have n_58 : vp_in x62 1300 := (t_in (by omega))
          refine va_iald hx hb hK.1 hP 9 0 rfl rfl n_58 dX11_laysLines_58 ?_
          refine q_nm (fun x63 e_x63 => ?_)
          have e_x63 : x63 = (I_m_24 9) x62.toNatClampNeg := e_x63
          have g_x63 : x63.toInt = ((I_m_24 9) x62.toNatClampNeg).toInt := congrArg _ e_x63
          refine lv_iconst (v := 1) hx hb dX11_laysLines_59 (by decide) ?_
          refine r_iadd hx hb dX11_laysLines_60 rfl (by decide : (1 : Int32).toInt = 1) (fun x64 e_x64 t_x64 => ?_)
          try have t_x64 := t_x64 (by omega)
          refine lv_iload_n hx hb dX11_laysLines_61 rfl (lv_at hl 0 rfl) ?_
          refine r_iadd hx hb dX11_laysLines_62 rfl rfl (fun x65 e_x65 t_x65 => ?_)
          try have t_x65 := t_x65 (by omega)
          refine lv_iload_n hx hb dX11_laysLines_63 rfl (lv_at hl 2 rfl) ?_
          refine q_icmp_le (tgt := 74) hx hb dX11_laysLines_64 (by decide) rfl rfl (fun k_64 => ?_) (fun k_64 => ?_)
          · refine lv_aload_n hx hb dX11_laysLines_74 rfl (lv_at hl 3 rfl) ?_
            refine lv_iconst (v := 0) hx hb dX11_laysLines_75 (by decide) ?_
            refine EffV.cv (wr := ([])) (w' := fun u67 => wX11 g a_m u67 J_m) (As := [.int (0 : Int32)]) (kX11_laysCell l g a_m I_m_24 J_m (0 : Int32) hM_24 hn_24 (by omega)) fx (gUV (uT _) u_898 u_899 u_900 u_5 u_901) rfl hdX11_laysCell ⟨Nat.le_of_ble_eq_true rfl, Nat.le_of_ble_eq_true rfl⟩ hK hP hD hS hA [0, 1, 2, 3, 4, 5, 6, 7, 8, 9, 10, 11, 12, 13, 14, 15, 16, 17, 18, 19, 20, 21, 22] [] [0, 1, 2, 3, 4, 5, 6, 7, 8, 9, 10, 11, 12, 13, 14, 15, 16, 17, 18, 19, 20, 21, 22] rfl rfl rfl rfl (by decide) rfl (fun _ => rfl) rfl rfl rfl rfl hl.1 (Nat.le_of_ble_eq_true rfl) dX11_laysLines_76 (fun u67 H locs p_r66 hP hD hS => ?_)
            have hP : va_P g.1 vwCl (wX11 g a_m u67 J_m) H := hP
            have hD : va_D A (wX11 g a_m u67 J_m) := hD
            have hl68 := p_r66.2.2.2
            have hL68 := p_r66.2.2.1
            have hm68 : (u67 0 27).toInt = ((I_m_24 0 27)).toInt := congrArg Int32.toInt (p_r66.2.1.num 27 (by decide))
            refine lv_aload_n hx hb dX11_laysLines_79 rfl (lv_at hl 3 rfl) ?_
            refine va_get (D := g.1) (ci := 11) (v := .ref (a_m 10)) (C := RX11) (T := TX11) (N := 46) hx hb hi_X11 (fun _ h => h) hown hK.1 hP 0 rfl rfl 25 (by decide) hf_50 (fun _ h9 => h9) rfl dX11_laysLines_80 ?_
            refine lv_iload_n hx hb dX11_laysLines_83 rfl (lv_at hl 1 rfl) ?_
            refine lv_aload_n hx hb dX11_laysLines_84 rfl (lv_at hl 3 rfl) ?_
            refine va_get (D := g.1) (ci := 11) (v := .int (u67 0 27)) (C := RX11) (T := TX11) (N := 46) hx hb hi_X11 (fun _ h => h) hown hK.1 hP 0 rfl rfl 27 (by decide) hf_315 (fun _ h9 => h9) rfl dX11_laysLines_85 ?_
            refine lv_iconst (v := 1) hx hb dX11_laysLines_88 (by decide) ?_
            refine r_isub hx hb dX11_laysLines_89 rfl (by decide : (1 : Int32).toInt = 1) (fun x68 e_x68 t_x68 => ?_)
            try have t_x68 := t_x68 (by omega)
            have n_90 : vp_in v2_24 160 := (t_in (by omega))
            obtain ⟨f69, e_f69⟩ : ∃ z, z = upd (u67 10) v2_24.toNatClampNeg x68 := ⟨_, rfl⟩
            refine va_iast hx hb hK.1 hP hD hS 10 0 rfl rfl n_90 dX11_laysLines_90 (fun H locs hP hD hS => ?_)
            have hP : va_P g.1 vwCl (wX11 g a_m (uR u67 10 f69) J_m) H := by rw [e_f69]; exact hP
            have hD : va_D A (wX11 g a_m (uR u67 10 f69) J_m) := by rw [e_f69]; exact hD
            have hc_90 : MI (uR u67 10 f69) := MI.ur (p_r66.1) (by decide)
            have hk_90 : KK [7, 8, 9, 10, 11] [27, 28, 29] I_m (uR u67 10 f69) := KK.ur (KK.tr hk_24 p_r66.2.1 (by decide) (by decide)) (by decide) (by decide)
            have hL90 : LN (uR u67 10 f69) := hL68.of rfl rfl rfl rfl
            have hA90 := hk_90.row 1 (by decide)
            refine lv_iconst (v := 0) hx hb dX11_laysLines_91 (by decide) ?_
            refine lv_istore (lv' := [(4, .int (0 : Int32)), (3, .int r3), (2, .int v2_24), (1, .int x1), (0, .ref (a_m 0))]) hx hb dX11_laysLines_92 hl (by decide) rfl (fun ls hl => ?_)
            have L94 : ∀ (nn : Nat) (v4_94 : Int32) (I_m_94 : Nat → Nat → Int32), (hM_94 : MI I_m_94) → (hk_94 : KK [7, 8, 9, 10, 11] [27, 28, 29] I_m I_m_94) → (hv_94 : 0 ≤ v4_94.toInt ∧ v4_94.toInt ≤ r3.toInt) → (hn_94 : LN I_m_94) → (hb_94 : 1 ≤ (I_m_94 0 27).toInt ∧ (I_m_94 0 27).toInt ≤ (I_m 1 (1850 + v2_24.toInt.toNat)).toInt + 1 + v4_94.toInt ∧ (I_m_94 0 28).toInt ≤ 2 * (I_m 1 (1850 + v2_24.toInt.toNat)).toInt + 1 + 2 * v4_94.toInt) → ((1300 - v4_94.toInt) < (nn : Int)) → ∀ (H : Heap) (locs : List Loc), va_P g.1 vwCl (wX11 g a_m I_m_94 J_m) H → va_D A (wX11 g a_m I_m_94 J_m) → va_S A s.heap H locs → ∀ ls : Array Slot, lv_has ls 7 [(4, .int v4_94), (3, .int r3), (2, .int v2_24), (1, .int x1), (0, .ref (a_m 0))] → W p l e (rm 1) s m args below meth c H locs 0 0 Q (F0 m 94 ls []) := by
              intro n_94
              induction n_94 with
              | zero =>
                intro v4_94 I_m_94 hM_94 hk_94 hv_94 hn_94 hb_94 hms_94 H locs hP hD hS ls hl
                exfalso; omega
              | succ n_94 ih_94 =>
                intro v4_94 I_m_94 hM_94 hk_94 hv_94 hn_94 hb_94 hms_94 H locs hP hD hS ls hl
                have ha94 : I_m_94 1 = I_m 1 := hk_94.row 1 (by decide)
                have hn941 := hn_94.1
                have hn942 := hn_94.2.1
                refine lv_iload_n hx hb dX11_laysLines_94 rfl (lv_at hl 1 rfl) ?_
                refine lv_iload hx hb dX11_laysLines_95 (lv_at hl 0 rfl) ?_
                refine r_isub hx hb dX11_laysLines_97 rfl rfl (fun x70 e_x70 t_x70 => ?_)
                try have t_x70 := t_x70 (by omega)
                refine lv_iload_n hx hb dX11_laysLines_98 rfl (lv_at hl 3 rfl) ?_
                refine q_icmp_le (tgt := 208) hx hb dX11_laysLines_99 (by decide) rfl rfl (fun k_99 => ?_) (fun k_99 => ?_)
                · refine lv_iload hx hb dX11_laysLines_208 (lv_at hl 0 rfl) ?_
                  refine lv_istore (lv' := [(5, .int v4_94), (4, .int v4_94), (3, .int r3), (2, .int v2_24), (1, .int x1), (0, .ref (a_m 0))]) hx hb dX11_laysLines_210 hl (by decide) rfl (fun ls hl => ?_)
                  have L212 : ∀ (nn : Nat) (v5_212 : Int32) (I_m_212 : Nat → Nat → Int32), (hM_212 : MI I_m_212) → (hk_212 : KK [7, 8, 9, 10, 11] [27, 28, 29] I_m I_m_212) → (hv_212 : v4_94.toInt ≤ v5_212.toInt ∧ v5_212.toInt ≤ r3.toInt) → (hn_212 : LN I_m_212) → (hb_212 : (I_m_212 0 27).toInt = (I_m_94 0 27).toInt ∧ (I_m_212 0 28).toInt = (I_m_94 0 28).toInt + (v5_212.toInt - v4_94.toInt)) → ((1300 - v5_212.toInt) < (nn : Int)) → ∀ (H : Heap) (locs : List Loc), va_P g.1 vwCl (wX11 g a_m I_m_212 J_m) H → va_D A (wX11 g a_m I_m_212 J_m) → va_S A s.heap H locs → ∀ ls : Array Slot, lv_has ls 7 [(5, .int v5_212), (4, .int v4_94), (3, .int r3), (2, .int v2_24), (1, .int x1), (0, .ref (a_m 0))] → W p l e (rm 1) s m args below meth c H locs 0 0 Q (F0 m 212 ls []) := by
                    intro n_212
                    induction n_212 with
                    | zero =>
                      intro v5_212 I_m_212 hM_212 hk_212 hv_212 hn_212 hb_212 hms_212 H locs hP hD hS ls hl
                      exfalso; omega
                    | succ n_212 ih_212 =>
                      intro v5_212 I_m_212 hM_212 hk_212 hv_212 hn_212 hb_212 hms_212 H locs hP hD hS ls hl
                      have ha212 : I_m_212 1 = I_m 1 := hk_212.row 1 (by decide)
                      have hn2121 := hn_212.1
                      have hn2122 := hn_212.2.1
                      refine lv_iload hx hb dX11_laysLines_212 (lv_at hl 0 rfl) ?_
                      refine lv_iload_n hx hb dX11_laysLines_214 rfl (lv_at hl 2 rfl) ?_
                      refine q_icmp_ge (tgt := 250) hx hb dX11_laysLines_215 (by decide) rfl rfl (fun k_215 => ?_) (fun k_215 => ?_)
                      · refine lv_aload_n hx hb dX11_laysLines_250 rfl (lv_at hl 5 rfl) ?_
                        refine va_get (D := g.1) (ci := 11) (v := .ref (a_m 11)) (C := RX11) (T := TX11) (N := 46) hx hb hi_X11 (fun _ h => h) hown hK.1 hP 0 rfl rfl 26 (by decide) hf_53 (fun _ h9 => h9) rfl dX11_laysLines_251 ?_
                        refine lv_iload_n hx hb dX11_laysLines_254 rfl (lv_at hl 3 rfl) ?_
                        refine lv_aload_n hx hb dX11_laysLines_255 rfl (lv_at hl 5 rfl) ?_
                        refine va_get (D := g.1) (ci := 11) (v := .int (I_m_212 0 27)) (C := RX11) (T := TX11) (N := 46) hx hb hi_X11 (fun _ h => h) hown hK.1 hP 0 rfl rfl 27 (by decide) hf_315 (fun _ h9 => h9) rfl dX11_laysLines_256 ?_
                        refine lv_iconst (v := 1) hx hb dX11_laysLines_259 (by decide) ?_
                        refine r_isub hx hb dX11_laysLines_260 rfl (by decide : (1 : Int32).toInt = 1) (fun x71 e_x71 t_x71 => ?_)
                        try have t_x71 := t_x71 (by omega)
                        have n_261 : vp_in v2_24 160 := (t_in (by omega))
                        obtain ⟨f72, e_f72⟩ : ∃ z, z = upd (I_m_212 11) v2_24.toNatClampNeg x71 := ⟨_, rfl⟩
                        refine va_iast hx hb hK.1 hP hD hS 11 0 rfl rfl n_261 dX11_laysLines_261 (fun H locs hP hD hS => ?_)
                        have hP : va_P g.1 vwCl (wX11 g a_m (uR I_m_212 11 f72) J_m) H := by rw [e_f72]; exact hP
                        have hD : va_D A (wX11 g a_m (uR I_m_212 11 f72) J_m) := by rw [e_f72]; exact hD
                        have hc_261 : MI (uR I_m_212 11 f72) := MI.ur hM_212 (by decide)
                        have hk_261 : KK [7, 8, 9, 10, 11] [27, 28, 29] I_m (uR I_m_212 11 f72) := KK.ur hk_212 (by decide) (by decide)
                        refine r_iinc (lv' := fun i73 => [(2, .int i73), (5, .int v5_212), (4, .int v4_94), (3, .int r3), (1, .int x1), (0, .ref (a_m 0))]) hx hb dX11_laysLines_262 hl (k := 3) rfl (by decide) rfl (by decide) (fun _ => rfl) (fun i73 e_i73 t_i73 ls hl => ?_)
                        try have t_i73 := t_i73 (by omega)
                        refine lv_goto (tgt := 24) hx hb dX11_laysLines_265 (by decide) ?_
                        exact ih_24 i73 (uR I_m_212 11 f72) hc_261 hk_261 (by omega) (hn_212.of rfl rfl rfl rfl) (fun q => (show (I_m_212 0 27).toInt ≤ _ ∧ (I_m_212 0 28).toInt ≤ _ from (by rw [show (i73).toInt = v2_24.toInt + 1 by omega] at q ⊢; omega))) (by omega) _ _ hP hD hS ls (lv_sub hl [0, 4, 5] rfl)
                      · refine lv_aload_n hx hb dX11_laysLines_218 rfl (lv_at hl 5 rfl) ?_
                        refine lv_aload_n hx hb dX11_laysLines_219 rfl (lv_at hl 5 rfl) ?_
                        refine va_get (D := g.1) (ci := 11) (v := .ref (a_m 1)) (C := RX11) (T := TX11) (N := 46) hx hb hi_X11 (fun _ h => h) hown hK.1 hP 0 rfl rfl 0 (by decide) hf_7 (fun _ h9 => h9) rfl dX11_laysLines_220 ?_
                        refine lv_sipush (v := 600) hx hb dX11_laysLines_223 (by decide) ?_
                        refine lv_aload_n hx hb dX11_laysLines_226 rfl (lv_at hl 5 rfl) ?_
                        refine va_get (D := g.1) (ci := 11) (v := .ref (a_m 1)) (C := RX11) (T := TX11) (N := 46) hx hb hi_X11 (fun _ h => h) hown hK.1 hP 0 rfl rfl 0 (by decide) hf_7 (fun _ h9 => h9) rfl dX11_laysLines_227 ?_
                        refine lv_sipush (v := 1850) hx hb dX11_laysLines_230 (by decide) ?_
                        refine lv_iload_n hx hb dX11_laysLines_233 rfl (lv_at hl 3 rfl) ?_
                        refine r_iadd hx hb dX11_laysLines_234 (by decide : (1850 : Int32).toInt = 1850) rfl (fun x74 e_x74 t_x74 => ?_)
                        try have t_x74 := t_x74 (by omega)
                        have n_235 : vp_in x74 19800 := (t_in (by omega))
                        refine va_iald hx hb hK.1 hP 1 0 rfl rfl n_235 dX11_laysLines_235 ?_
                        refine q_nm (fun x75 e_x75 => ?_)
                        have e_x75 : x75 = (I_m_212 1) x74.toNatClampNeg := e_x75
                        have g_x75 : x75.toInt = ((I_m_212 1) x74.toNatClampNeg).toInt := congrArg _ e_x75
                        rw [ha212] at e_x75
                        have hq_x75 : x75.toInt = (I_m 1 (1850 + v2_24.toInt.toNat)).toInt := congrArg Int32.toInt (at_ix e_x75 (by omega))
                        refine r_iadd hx hb dX11_laysLines_236 (by decide : (600 : Int32).toInt = 600) rfl (fun x76 e_x76 t_x76 => ?_)
                        try have t_x76 := t_x76 (by omega)
                        refine lv_iload hx hb dX11_laysLines_237 (lv_at hl 0 rfl) ?_
                        refine r_iadd hx hb dX11_laysLines_239 rfl rfl (fun x77 e_x77 t_x77 => ?_)
                        try have t_x77 := t_x77 (by omega)
                        have n_240 : vp_in x77 19800 := (t_in (by omega))
                        refine va_iald hx hb hK.1 hP 1 0 rfl rfl n_240 dX11_laysLines_240 ?_
                        refine q_nm (fun x78 e_x78 => ?_)
                        have e_x78 : x78 = (I_m_212 1) x77.toNatClampNeg := e_x78
                        have g_x78 : x78.toInt = ((I_m_212 1) x77.toNatClampNeg).toInt := congrArg _ e_x78
                        refine EffV.cv (wr := ([])) (w' := fun u80 => wX11 g a_m u80 J_m) (As := [.int x78]) (kX11_laysCell l g a_m I_m_212 J_m x78 hM_212 hn_212 (by omega)) fx (gUV (uT _) u_898 u_899 u_900 u_5 u_901) rfl hdX11_laysCell ⟨Nat.le_of_ble_eq_true rfl, Nat.le_of_ble_eq_true rfl⟩ hK hP hD hS hA [0, 1, 2, 3, 4, 5, 6, 7, 8, 9, 10, 11, 12, 13, 14, 15, 16, 17, 18, 19, 20, 21, 22] [] [0, 1, 2, 3, 4, 5, 6, 7, 8, 9, 10, 11, 12, 13, 14, 15, 16, 17, 18, 19, 20, 21, 22] rfl rfl rfl rfl (by decide) rfl (fun _ => rfl) rfl rfl rfl rfl hl.1 (Nat.le_of_ble_eq_true rfl) dX11_laysLines_241 (fun u80 H locs p_r79 hP hD hS => ?_)
                        have hP : va_P g.1 vwCl (wX11 g a_m u80 J_m) H := hP
                        have hD : va_D A (wX11 g a_m u80 J_m) := hD
                        have hl241 := p_r79.2.2.2
                        have hL241 := p_r79.2.2.1
                        have hm241 : (u80 0 27).toInt = ((I_m_212 0 27)).toInt := congrArg Int32.toInt (p_r79.2.1.num 27 (by decide))
                        refine r_iinc (lv' := fun i81 => [(5, .int i81), (4, .int v4_94), (3, .int r3), (2, .int v2_24), (1, .int x1), (0, .ref (a_m 0))]) hx hb dX11_laysLines_244 hl (k := 0) rfl (by decide) rfl (by decide) (fun _ => rfl) (fun i81 e_i81 t_i81 ls hl => ?_)
                        try have t_i81 := t_i81 (by omega)
                        refine lv_goto (tgt := 212) hx hb dX11_laysLines_247 (by decide) ?_
                        exact ih_212 i81 u80 (p_r79.1) (KK.tr hk_212 p_r79.2.1 (by decide) (by decide)) (by omega) hL241 (by omega) (by omega) _ _ hP hD hS ls hl
                  exact L212 ((1300 - v4_94.toInt) + 1).toNat v4_94 I_m_94 hM_94 hk_94 (by omega) hn_94 (by omega) (by omega) _ _ hP hD hS ls hl
                · refine lv_aload_n hx hb dX11_laysLines_102 rfl (lv_at hl 4 rfl) ?_
                  refine va_get (D := g.1) (ci := 11) (v := .ref (a_m 1)) (C := RX11) (T := TX11) (N := 46) hx hb hi_X11 (fun _ h => h) hown hK.1 hP 0 rfl rfl 0 (by decide) hf_7 (fun _ h9 => h9) rfl dX11_laysLines_103 ?_
                  refine lv_iconst (v := 3) hx hb dX11_laysLines_106 (by decide) ?_
                  have n_107 : vp_in (3 : Int32) 19800 := (t_in (by decide))
                  refine va_iald hx hb hK.1 hP 1 0 rfl rfl n_107 dX11_laysLines_107 ?_
                  refine q_nm (fun x82 e_x82 => ?_)
                  have e_x82 : x82 = (I_m_94 1) 3 := e_x82
                  have g_x82 : x82.toInt = ((I_m_94 1) 3).toInt := congrArg _ e_x82
                  have f_x82 := MI.sign hM_94 3 (by decide) e_x82
                  refine q_if_ne (tgt := 115) hx hb dX11_laysLines_108 (by decide) rfl (fun b_108 k_108 => ?_) (fun b_108 k_108 => ?_)
                  · refine lv_iload_n hx hb dX11_laysLines_115 rfl (lv_at hl 3 rfl) ?_
                    refine lv_iconst (v := 1) hx hb dX11_laysLines_116 (by decide) ?_
                    refine r_isub hx hb dX11_laysLines_117 rfl (by decide : (1 : Int32).toInt = 1) (fun x83 e_x83 t_x83 => ?_)
                    try have t_x83 := t_x83 (by omega)
                    refine lv_istore (lv' := [(5, .int x83), (4, .int v4_94), (3, .int r3), (2, .int v2_24), (1, .int x1), (0, .ref (a_m 0))]) hx hb dX11_laysLines_118 hl (by decide) rfl (fun ls hl => ?_)
                    refine lv_iconst (v := 0) hx hb dX11_laysLines_120 (by decide) ?_
                    refine lv_istore (lv' := [(6, .int (0 : Int32)), (5, .int x83), (4, .int v4_94), (3, .int r3), (2, .int v2_24), (1, .int x1), (0, .ref (a_m 0))]) hx hb dX11_laysLines_121 hl (by decide) rfl (fun ls hl => ?_)
                    have L123 : ∀ (nn : Nat) (v6_123 : Int32) (I_m_123 : Nat → Nat → Int32), (hM_123 : MI I_m_123) → (hk_123 : KK [7, 8, 9, 10, 11] [27, 28, 29] I_m I_m_123) → (hv_123 : 0 ≤ v6_123.toInt ∧ v6_123.toInt ≤ x83.toInt) → (hn_123 : LN I_m_123) → (hb_123 : (I_m_123 0 27).toInt = (I_m_94 0 27).toInt ∧ (I_m_123 0 28).toInt = (I_m_94 0 28).toInt + v6_123.toInt) → ((41 - v6_123.toInt) < (nn : Int)) → ∀ (H : Heap) (locs : List Loc), va_P g.1 vwCl (wX11 g a_m I_m_123 J_m) H → va_D A (wX11 g a_m I_m_123 J_m) → va_S A s.heap H locs → ∀ ls : Array Slot, lv_has ls 7 [(6, .int v6_123), (5, .int x83), (4, .int v4_94), (3, .int r3), (2, .int v2_24), (1, .int x1), (0, .ref (a_m 0))] → W p l e (rm 1) s m args below meth c H locs 0 0 Q (F0 m 123 ls []) := by
                      intro n_123
                      induction n_123 with
                      | zero =>
                        intro v6_123 I_m_123 hM_123 hk_123 hv_123 hn_123 hb_123 hms_123 H locs hP hD hS ls hl
                        exfalso; omega
                      | succ n_123 ih_123 =>
                        intro v6_123 I_m_123 hM_123 hk_123 hv_123 hn_123 hb_123 hms_123 H locs hP hD hS ls hl
                        have ha123 : I_m_123 1 = I_m 1 := hk_123.row 1 (by decide)
                        have hn1231 := hn_123.1
                        have hn1232 := hn_123.2.1
                        refine lv_iload hx hb dX11_laysLines_123 (lv_at hl 0 rfl) ?_
                        refine lv_iload hx hb dX11_laysLines_125 (lv_at hl 1 rfl) ?_
                        refine q_icmp_ge (tgt := 165) hx hb dX11_laysLines_127 (by decide) rfl rfl (fun k_127 => ?_) (fun k_127 => ?_)
                        · refine lv_aload_n hx hb dX11_laysLines_165 rfl (lv_at hl 6 rfl) ?_
                          refine va_get (D := g.1) (ci := 11) (v := .ref (a_m 1)) (C := RX11) (T := TX11) (N := 46) hx hb hi_X11 (fun _ h => h) hown hK.1 hP 0 rfl rfl 0 (by decide) hf_7 (fun _ h9 => h9) rfl dX11_laysLines_166 ?_
                          refine lv_iconst (v := 3) hx hb dX11_laysLines_169 (by decide) ?_
                          have n_170 : vp_in (3 : Int32) 19800 := (t_in (by decide))
                          refine va_iald hx hb hK.1 hP 1 0 rfl rfl n_170 dX11_laysLines_170 ?_
                          refine q_nm (fun x84 e_x84 => ?_)
                          have e_x84 : x84 = (I_m_123 1) 3 := e_x84
                          have g_x84 : x84.toInt = ((I_m_123 1) 3).toInt := congrArg _ e_x84
                          have f_x84 := MI.sign hM_123 3 (by decide) e_x84
                          refine q_if_eq (tgt := 194) hx hb dX11_laysLines_171 (by decide) rfl (fun b_171 k_171 => ?_) (fun b_171 k_171 => ?_)
                          · refine lv_iload hx hb dX11_laysLines_194 (lv_at hl 2 rfl) ?_
                            refine lv_iload hx hb dX11_laysLines_196 (lv_at hl 1 rfl) ?_
                            refine r_iadd hx hb dX11_laysLines_198 rfl rfl (fun x85 e_x85 t_x85 => ?_)
                            try have t_x85 := t_x85 (by omega)
                            refine lv_istore (lv' := [(4, .int x85), (6, .int v6_123), (5, .int x83), (3, .int r3), (2, .int v2_24), (1, .int x1), (0, .ref (a_m 0))]) hx hb dX11_laysLines_199 hl (by decide) rfl (fun ls hl => ?_)
                            refine lv_aload_n hx hb dX11_laysLines_201 rfl (lv_at hl 6 rfl) ?_
                            refine EffV.cv (wr := ([])) (w' := fun u87 => wX11 g a_m u87 J_m) (As := []) (kX11_newLine l g a_m I_m_123 J_m hM_123 (by first | exact hL181.of rfl rfl rfl rfl | exact hn_123) (show ((I_m_123 0 27)).toInt < 1300 from (by omega))) fx (gUV (uT _) u_894 u_895 u_896 u_5 u_897) rfl hdX11_newLine ⟨Nat.le_of_ble_eq_true rfl, Nat.le_of_ble_eq_true rfl⟩ hK hP hD hS hA [0, 1, 2, 3, 4, 5, 6, 7, 8, 9, 10, 11, 12, 13, 14, 15, 16, 17, 18, 19, 20, 21, 22] [] [0, 1, 2, 3, 4, 5, 6, 7, 8, 9, 10, 11, 12, 13, 14, 15, 16, 17, 18, 19, 20, 21, 22] rfl rfl rfl rfl (by decide) rfl (fun _ => rfl) rfl rfl rfl rfl hl.1 (Nat.le_of_ble_eq_true rfl) dX11_laysLines_202 (fun u87 H locs p_r86 hP hD hS => ?_)
                            have hP : va_P g.1 vwCl (wX11 g a_m u87 J_m) H := hP
                            have hD : va_D A (wX11 g a_m u87 J_m) := hD
                            have hl202 := p_r86.2.2.2
                            have hL202 := p_r86.2.2.1
                            have hm202 : (u87 0 28).toInt = ((I_m_123 0 28)).toInt := congrArg Int32.toInt (p_r86.2.1.num 28 (by decide))
                            refine lv_goto (tgt := 94) hx hb dX11_laysLines_205 (by decide) ?_
                            exact ih_94 x85 u87 (p_r86.1) (KK.tr hk_123 p_r86.2.1 (by decide) (by decide)) (by omega) hL202 (by omega) (by omega) _ _ hP hD hS ls (lv_sub hl [0, 3, 4, 5, 6] rfl)
                          · refine lv_aload_n hx hb dX11_laysLines_174 rfl (lv_at hl 6 rfl) ?_
                            refine lv_aload_n hx hb dX11_laysLines_175 rfl (lv_at hl 6 rfl) ?_
                            refine va_get (D := g.1) (ci := 11) (v := .ref (a_m 1)) (C := RX11) (T := TX11) (N := 46) hx hb hi_X11 (fun _ h => h) hown hK.1 hP 0 rfl rfl 0 (by decide) hf_7 (fun _ h9 => h9) rfl dX11_laysLines_176 ?_
                            refine lv_iconst (v := 3) hx hb dX11_laysLines_179 (by decide) ?_
                            have n_180 : vp_in (3 : Int32) 19800 := (t_in (by decide))
                            refine va_iald hx hb hK.1 hP 1 0 rfl rfl n_180 dX11_laysLines_180 ?_
                            refine q_nm (fun x88 e_x88 => ?_)
                            have e_x88 : x88 = (I_m_123 1) 3 := e_x88
                            have g_x88 : x88.toInt = ((I_m_123 1) 3).toInt := congrArg _ e_x88
                            have f_x88 := MI.sign hM_123 3 (by decide) e_x88
                            refine EffV.cv (wr := ([])) (w' := fun u90 => wX11 g a_m u90 J_m) (As := [.int x88]) (kX11_laysCell l g a_m I_m_123 J_m x88 hM_123 hn_123 (by omega)) fx (gUV (uT _) u_898 u_899 u_900 u_5 u_901) rfl hdX11_laysCell ⟨Nat.le_of_ble_eq_true rfl, Nat.le_of_ble_eq_true rfl⟩ hK hP hD hS hA [0, 1, 2, 3, 4, 5, 6, 7, 8, 9, 10, 11, 12, 13, 14, 15, 16, 17, 18, 19, 20, 21, 22] [] [0, 1, 2, 3, 4, 5, 6, 7, 8, 9, 10, 11, 12, 13, 14, 15, 16, 17, 18, 19, 20, 21, 22] rfl rfl rfl rfl (by decide) rfl (fun _ => rfl) rfl rfl rfl rfl hl.1 (Nat.le_of_ble_eq_true rfl) dX11_laysLines_181 (fun u90 H locs p_r89 hP hD hS => ?_)
                            have hP : va_P g.1 vwCl (wX11 g a_m u90 J_m) H := hP
                            have hD : va_D A (wX11 g a_m u90 J_m) := hD
                            have hl181 := p_r89.2.2.2
                            have hL181 := p_r89.2.2.1
                            have hm181 : (u90 0 27).toInt = ((I_m_123 0 27)).toInt := congrArg Int32.toInt (p_r89.2.1.num 27 (by decide))
                            refine lv_aload_n hx hb dX11_laysLines_184 rfl (lv_at hl 6 rfl) ?_
                            refine lv_dup hx hb dX11_laysLines_185 rfl ?_
                            refine va_get (D := g.1) (ci := 11) (v := .int (u90 0 29)) (C := RX11) (T := TX11) (N := 46) hx hb hi_X11 (fun _ h => h) hown hK.1 hP 0 rfl rfl 29 (by decide) hf_318 (fun _ h9 => h9) rfl dX11_laysLines_186 ?_
                            refine lv_iconst (v := 1) hx hb dX11_laysLines_189 (by decide) ?_
                            refine r_iadd hx hb dX11_laysLines_190 rfl (by decide : (1 : Int32).toInt = 1) (fun x91 e_x91 t_x91 => ?_)
                            try have t_x91 := t_x91 (by omega)
                            refine va_put (D := g.1) (ci := 11) (v := .int x91) (ty := .int) (C := RX11) (T := TX11) (N := 46) hx hb hi_X11 (fun _ h => h) tyX11 tyX11_ok nmX11 hown hK.1 hP hD hS 0 rfl rfl 29 (by decide) hf_318 (fun _ h9 => h9) rfl (by decide +kernel) rfl rfl (Nat.le_of_ble_eq_true rfl) dX11_laysLines_191 (fun H locs hP hD hS => ?_)
                            have hP : va_P g.1 vwCl (wX11 g a_m (uF u90 0 29 x91) J_m) H := hP
                            have hD : va_D A (wX11 g a_m (uF u90 0 29 x91) J_m) := hD
                            have hc_191 : MI (uF u90 0 29 x91) := MI.uf (p_r89.1) (by decide)
                            have hk_191 : KK [7, 8, 9, 10, 11] [27, 28, 29] I_m (uF u90 0 29 x91) := KK.uf (KK.tr hk_123 p_r89.2.1 (by decide) (by decide)) (by decide)
                            refine lv_iload hx hb dX11_laysLines_194 (lv_at hl 2 rfl) ?_
                            refine lv_iload hx hb dX11_laysLines_196 (lv_at hl 1 rfl) ?_
                            refine r_iadd hx hb dX11_laysLines_198 rfl rfl (fun x92 e_x92 t_x92 => ?_)
                            try have t_x92 := t_x92 (by omega)
                            refine lv_istore (lv' := [(4, .int x92), (6, .int v6_123), (5, .int x83), (3, .int r3), (2, .int v2_24), (1, .int x1), (0, .ref (a_m 0))]) hx hb dX11_laysLines_199 hl (by decide) rfl (fun ls hl => ?_)
                            refine lv_aload_n hx hb dX11_laysLines_201 rfl (lv_at hl 6 rfl) ?_
                            refine EffV.cv (wr := ([])) (w' := fun u94 => wX11 g a_m u94 J_m) (As := []) (kX11_newLine l g a_m (uF u90 0 29 x91) J_m hc_191 (by first | exact hL181.of rfl rfl rfl rfl | exact hn_123) (show ((u90 0 27)).toInt < 1300 from (by omega))) fx (gUV (uT _) u_894 u_895 u_896 u_5 u_897) rfl hdX11_newLine ⟨Nat.le_of_ble_eq_true rfl, Nat.le_of_ble_eq_true rfl⟩ hK hP hD hS hA [0, 1, 2, 3, 4, 5, 6, 7, 8, 9, 10, 11, 12, 13, 14, 15, 16, 17, 18, 19, 20, 21, 22] [] [0, 1, 2, 3, 4, 5, 6, 7, 8, 9, 10, 11, 12, 13, 14, 15, 16, 17, 18, 19, 20, 21, 22] rfl rfl rfl rfl (by decide) rfl (fun _ => rfl) rfl rfl rfl rfl hl.1 (Nat.le_of_ble_eq_true rfl) dX11_laysLines_202 (fun u94 H locs p_r93 hP hD hS => ?_)
                            have hP : va_P g.1 vwCl (wX11 g a_m u94 J_m) H := hP
                            have hD : va_D A (wX11 g a_m u94 J_m) := hD
                            have p_r93 : MI u94 ∧ KK [8, 9] [27] (uF u90 0 29 x91) u94 ∧ LN u94 ∧ (u94 0 27).toInt = (u90 0 27).toInt + 1 := p_r93
                            have hl202 := p_r93.2.2.2
                            have hL202 := p_r93.2.2.1
                            have hm202 : (u94 0 28).toInt = ((u90 0 28)).toInt := congrArg Int32.toInt (p_r93.2.1.num 28 (by decide))
                            refine lv_goto (tgt := 94) hx hb dX11_laysLines_205 (by decide) ?_
                            exact ih_94 x92 u94 (p_r93.1) (KK.tr hk_191 p_r93.2.1 (by decide) (by decide)) (by omega) hL202 (by omega) (by omega) _ _ hP hD hS ls (lv_sub hl [0, 3, 4, 5, 6] rfl)
                        · refine lv_aload_n hx hb dX11_laysLines_130 rfl (lv_at hl 6 rfl) ?_
                          refine lv_aload_n hx hb dX11_laysLines_131 rfl (lv_at hl 6 rfl) ?_
                          refine va_get (D := g.1) (ci := 11) (v := .ref (a_m 1)) (C := RX11) (T := TX11) (N := 46) hx hb hi_X11 (fun _ h => h) hown hK.1 hP 0 rfl rfl 0 (by decide) hf_7 (fun _ h9 => h9) rfl dX11_laysLines_132 ?_
                          refine lv_sipush (v := 600) hx hb dX11_laysLines_135 (by decide) ?_
                          refine lv_aload_n hx hb dX11_laysLines_138 rfl (lv_at hl 6 rfl) ?_
                          refine va_get (D := g.1) (ci := 11) (v := .ref (a_m 1)) (C := RX11) (T := TX11) (N := 46) hx hb hi_X11 (fun _ h => h) hown hK.1 hP 0 rfl rfl 0 (by decide) hf_7 (fun _ h9 => h9) rfl dX11_laysLines_139 ?_
                          refine lv_sipush (v := 1850) hx hb dX11_laysLines_142 (by decide) ?_
                          refine lv_iload_n hx hb dX11_laysLines_145 rfl (lv_at hl 4 rfl) ?_
                          refine r_iadd hx hb dX11_laysLines_146 (by decide : (1850 : Int32).toInt = 1850) rfl (fun x95 e_x95 t_x95 => ?_)
                          try have t_x95 := t_x95 (by omega)
                          have n_147 : vp_in x95 19800 := (t_in (by omega))
                          refine va_iald hx hb hK.1 hP 1 0 rfl rfl n_147 dX11_laysLines_147 ?_
                          refine q_nm (fun x96 e_x96 => ?_)
                          have e_x96 : x96 = (I_m_123 1) x95.toNatClampNeg := e_x96
                          have g_x96 : x96.toInt = ((I_m_123 1) x95.toNatClampNeg).toInt := congrArg _ e_x96
                          rw [ha123] at e_x96
                          have hq_x96 : x96.toInt = (I_m 1 (1850 + v2_24.toInt.toNat)).toInt := congrArg Int32.toInt (at_ix e_x96 (by omega))
                          refine r_iadd hx hb dX11_laysLines_148 (by decide : (600 : Int32).toInt = 600) rfl (fun x97 e_x97 t_x97 => ?_)
                          try have t_x97 := t_x97 (by omega)
                          refine lv_iload hx hb dX11_laysLines_149 (lv_at hl 2 rfl) ?_
                          refine r_iadd hx hb dX11_laysLines_151 rfl rfl (fun x98 e_x98 t_x98 => ?_)
                          try have t_x98 := t_x98 (by omega)
                          refine lv_iload hx hb dX11_laysLines_152 (lv_at hl 0 rfl) ?_
                          refine r_iadd hx hb dX11_laysLines_154 rfl rfl (fun x99 e_x99 t_x99 => ?_)
                          try have t_x99 := t_x99 (by omega)
                          have n_155 : vp_in x99 19800 := (t_in (by omega))
                          refine va_iald hx hb hK.1 hP 1 0 rfl rfl n_155 dX11_laysLines_155 ?_
                          refine q_nm (fun x100 e_x100 => ?_)
                          have e_x100 : x100 = (I_m_123 1) x99.toNatClampNeg := e_x100
                          have g_x100 : x100.toInt = ((I_m_123 1) x99.toNatClampNeg).toInt := congrArg _ e_x100
                          refine EffV.cv (wr := ([])) (w' := fun u102 => wX11 g a_m u102 J_m) (As := [.int x100]) (kX11_laysCell l g a_m I_m_123 J_m x100 hM_123 hn_123 (by omega)) fx (gUV (uT _) u_898 u_899 u_900 u_5 u_901) rfl hdX11_laysCell ⟨Nat.le_of_ble_eq_true rfl, Nat.le_of_ble_eq_true rfl⟩ hK hP hD hS hA [0, 1, 2, 3, 4, 5, 6, 7, 8, 9, 10, 11, 12, 13, 14, 15, 16, 17, 18, 19, 20, 21, 22] [] [0, 1, 2, 3, 4, 5, 6, 7, 8, 9, 10, 11, 12, 13, 14, 15, 16, 17, 18, 19, 20, 21, 22] rfl rfl rfl rfl (by decide) rfl (fun _ => rfl) rfl rfl rfl rfl hl.1 (Nat.le_of_ble_eq_true rfl) dX11_laysLines_156 (fun u102 H locs p_r101 hP hD hS => ?_)
                          have hP : va_P g.1 vwCl (wX11 g a_m u102 J_m) H := hP
                          have hD : va_D A (wX11 g a_m u102 J_m) := hD
                          have hl156 := p_r101.2.2.2
                          have hL156 := p_r101.2.2.1
                          have hm156 : (u102 0 27).toInt = ((I_m_123 0 27)).toInt := congrArg Int32.toInt (p_r101.2.1.num 27 (by decide))
                          refine r_iinc (lv' := fun i103 => [(6, .int i103), (5, .int x83), (4, .int v4_94), (3, .int r3), (2, .int v2_24), (1, .int x1), (0, .ref (a_m 0))]) hx hb dX11_laysLines_159 hl (k := 0) rfl (by decide) rfl (by decide) (fun _ => rfl) (fun i103 e_i103 t_i103 ls hl => ?_)
                          try have t_i103 := t_i103 (by omega)
                          refine lv_goto (tgt := 123) hx hb dX11_laysLines_162 (by decide) ?_
                          exact ih_123 i103 u102 (p_r101.1) (KK.tr hk_123 p_r101.2.1 (by decide) (by decide)) (by omega) hL156 (by omega) (by omega) _ _ hP hD hS ls hl
                    exact L123 ((41 - (0 : Int32).toInt) + 1).toNat (0 : Int32) I_m_94 hM_94 hk_94 (by omega) hn_94 (by omega) (by omega) _ _ hP hD hS ls hl
                  · refine lv_iload_n hx hb dX11_laysLines_111 rfl (lv_at hl 3 rfl) ?_
                    refine lv_goto (tgt := 118) hx hb dX11_laysLines_112 (by decide) ?_
                    refine lv_istore (lv' := [(5, .int x1), (4, .int v4_94), (3, .int r3), (2, .int v2_24), (1, .int x1), (0, .ref (a_m 0))]) hx hb dX11_laysLines_118 hl (by decide) rfl (fun ls hl => ?_)
                    refine lv_iconst (v := 0) hx hb dX11_laysLines_120 (by decide) ?_
                    refine lv_istore (lv' := [(6, .int (0 : Int32)), (5, .int x1), (4, .int v4_94), (3, .int r3), (2, .int v2_24), (1, .int x1), (0, .ref (a_m 0))]) hx hb dX11_laysLines_121 hl (by decide) rfl (fun ls hl => ?_)
                    have L123 : ∀ (nn : Nat) (v6_123 : Int32) (I_m_123 : Nat → Nat → Int32), (hM_123 : MI I_m_123) → (hk_123 : KK [7, 8, 9, 10, 11] [27, 28, 29] I_m I_m_123) → (hv_123 : 0 ≤ v6_123.toInt ∧ v6_123.toInt ≤ x1.toInt) → (hn_123 : LN I_m_123) → (hb_123 : (I_m_123 0 27).toInt = (I_m_94 0 27).toInt ∧ (I_m_123 0 28).toInt = (I_m_94 0 28).toInt + v6_123.toInt) → ((41 - v6_123.toInt) < (nn : Int)) → ∀ (H : Heap) (locs : List Loc), va_P g.1 vwCl (wX11 g a_m I_m_123 J_m) H → va_D A (wX11 g a_m I_m_123 J_m) → va_S A s.heap H locs → ∀ ls : Array Slot, lv_has ls 7 [(6, .int v6_123), (5, .int x1), (4, .int v4_94), (3, .int r3), (2, .int v2_24), (1, .int x1), (0, .ref (a_m 0))] → W p l e (rm 1) s m args below meth c H locs 0 0 Q (F0 m 123 ls []) := by
                      intro n_123
                      induction n_123 with
                      | zero =>
                        intro v6_123 I_m_123 hM_123 hk_123 hv_123 hn_123 hb_123 hms_123 H locs hP hD hS ls hl
                        exfalso; omega
                      | succ n_123 ih_123 =>
                        intro v6_123 I_m_123 hM_123 hk_123 hv_123 hn_123 hb_123 hms_123 H locs hP hD hS ls hl
                        have ha123 : I_m_123 1 = I_m 1 := hk_123.row 1 (by decide)
                        have hn1231 := hn_123.1
                        have hn1232 := hn_123.2.1
                        refine lv_iload hx hb dX11_laysLines_123 (lv_at hl 0 rfl) ?_
                        refine lv_iload hx hb dX11_laysLines_125 (lv_at hl 1 rfl) ?_
                        refine q_icmp_ge (tgt := 165) hx hb dX11_laysLines_127 (by decide) rfl rfl (fun k_127 => ?_) (fun k_127 => ?_)
                        · refine lv_aload_n hx hb dX11_laysLines_165 rfl (lv_at hl 6 rfl) ?_
                          refine va_get (D := g.1) (ci := 11) (v := .ref (a_m 1)) (C := RX11) (T := TX11) (N := 46) hx hb hi_X11 (fun _ h => h) hown hK.1 hP 0 rfl rfl 0 (by decide) hf_7 (fun _ h9 => h9) rfl dX11_laysLines_166 ?_
                          refine lv_iconst (v := 3) hx hb dX11_laysLines_169 (by decide) ?_
                          have n_170 : vp_in (3 : Int32) 19800 := (t_in (by decide))
                          refine va_iald hx hb hK.1 hP 1 0 rfl rfl n_170 dX11_laysLines_170 ?_
                          refine q_nm (fun x104 e_x104 => ?_)
                          have e_x104 : x104 = (I_m_123 1) 3 := e_x104
                          have g_x104 : x104.toInt = ((I_m_123 1) 3).toInt := congrArg _ e_x104
                          have f_x104 := MI.sign hM_123 3 (by decide) e_x104
                          refine q_if_eq (tgt := 194) hx hb dX11_laysLines_171 (by decide) rfl (fun b_171 k_171 => ?_) (fun b_171 k_171 => ?_)
                          · refine lv_iload hx hb dX11_laysLines_194 (lv_at hl 2 rfl) ?_
                            refine lv_iload hx hb dX11_laysLines_196 (lv_at hl 1 rfl) ?_
                            refine r_iadd hx hb dX11_laysLines_198 rfl rfl (fun x105 e_x105 t_x105 => ?_)
                            try have t_x105 := t_x105 (by omega)
                            refine lv_istore (lv' := [(4, .int x105), (6, .int v6_123), (5, .int x1), (3, .int r3), (2, .int v2_24), (1, .int x1), (0, .ref (a_m 0))]) hx hb dX11_laysLines_199 hl (by decide) rfl (fun ls hl => ?_)
                            refine lv_aload_n hx hb dX11_laysLines_201 rfl (lv_at hl 6 rfl) ?_
                            refine EffV.cv (wr := ([])) (w' := fun u107 => wX11 g a_m u107 J_m) (As := []) (kX11_newLine l g a_m I_m_123 J_m hM_123 (by first | exact hL181.of rfl rfl rfl rfl | exact hn_123) (show ((I_m_123 0 27)).toInt < 1300 from (by omega))) fx (gUV (uT _) u_894 u_895 u_896 u_5 u_897) rfl hdX11_newLine ⟨Nat.le_of_ble_eq_true rfl, Nat.le_of_ble_eq_true rfl⟩ hK hP hD hS hA [0, 1, 2, 3, 4, 5, 6, 7, 8, 9, 10, 11, 12, 13, 14, 15, 16, 17, 18, 19, 20, 21, 22] [] [0, 1, 2, 3, 4, 5, 6, 7, 8, 9, 10, 11, 12, 13, 14, 15, 16, 17, 18, 19, 20, 21, 22] rfl rfl rfl rfl (by decide) rfl (fun _ => rfl) rfl rfl rfl rfl hl.1 (Nat.le_of_ble_eq_true rfl) dX11_laysLines_202 (fun u107 H locs p_r106 hP hD hS => ?_)
                            have hP : va_P g.1 vwCl (wX11 g a_m u107 J_m) H := hP
                            have hD : va_D A (wX11 g a_m u107 J_m) := hD
                            have hl202 := p_r106.2.2.2
                            have hL202 := p_r106.2.2.1
                            have hm202 : (u107 0 28).toInt = ((I_m_123 0 28)).toInt := congrArg Int32.toInt (p_r106.2.1.num 28 (by decide))
                            refine lv_goto (tgt := 94) hx hb dX11_laysLines_205 (by decide) ?_
                            exact ih_94 x105 u107 (p_r106.1) (KK.tr hk_123 p_r106.2.1 (by decide) (by decide)) (by omega) hL202 (by omega) (by omega) _ _ hP hD hS ls (lv_sub hl [0, 3, 4, 5, 6] rfl)
                          · refine lv_aload_n hx hb dX11_laysLines_174 rfl (lv_at hl 6 rfl) ?_
                            refine lv_aload_n hx hb dX11_laysLines_175 rfl (lv_at hl 6 rfl) ?_
                            refine va_get (D := g.1) (ci := 11) (v := .ref (a_m 1)) (C := RX11) (T := TX11) (N := 46) hx hb hi_X11 (fun _ h => h) hown hK.1 hP 0 rfl rfl 0 (by decide) hf_7 (fun _ h9 => h9) rfl dX11_laysLines_176 ?_
                            refine lv_iconst (v := 3) hx hb dX11_laysLines_179 (by decide) ?_
                            have n_180 : vp_in (3 : Int32) 19800 := (t_in (by decide))
                            refine va_iald hx hb hK.1 hP 1 0 rfl rfl n_180 dX11_laysLines_180 ?_
                            refine q_nm (fun x108 e_x108 => ?_)
                            have e_x108 : x108 = (I_m_123 1) 3 := e_x108
                            have g_x108 : x108.toInt = ((I_m_123 1) 3).toInt := congrArg _ e_x108
                            have f_x108 := MI.sign hM_123 3 (by decide) e_x108
                            refine EffV.cv (wr := ([])) (w' := fun u110 => wX11 g a_m u110 J_m) (As := [.int x108]) (kX11_laysCell l g a_m I_m_123 J_m x108 hM_123 hn_123 (by omega)) fx (gUV (uT _) u_898 u_899 u_900 u_5 u_901) rfl hdX11_laysCell ⟨Nat.le_of_ble_eq_true rfl, Nat.le_of_ble_eq_true rfl⟩ hK hP hD hS hA [0, 1, 2, 3, 4, 5, 6, 7, 8, 9, 10, 11, 12, 13, 14, 15, 16, 17, 18, 19, 20, 21, 22] [] [0, 1, 2, 3, 4, 5, 6, 7, 8, 9, 10, 11, 12, 13, 14, 15, 16, 17, 18, 19, 20, 21, 22] rfl rfl rfl rfl (by decide) rfl (fun _ => rfl) rfl rfl rfl rfl hl.1 (Nat.le_of_ble_eq_true rfl) dX11_laysLines_181 (fun u110 H locs p_r109 hP hD hS => ?_)
                            have hP : va_P g.1 vwCl (wX11 g a_m u110 J_m) H := hP
                            have hD : va_D A (wX11 g a_m u110 J_m) := hD
                            have hl181 := p_r109.2.2.2
                            have hL181 := p_r109.2.2.1
                            have hm181 : (u110 0 27).toInt = ((I_m_123 0 27)).toInt := congrArg Int32.toInt (p_r109.2.1.num 27 (by decide))
                            refine lv_aload_n hx hb dX11_laysLines_184 rfl (lv_at hl 6 rfl) ?_
                            refine lv_dup hx hb dX11_laysLines_185 rfl ?_
                            refine va_get (D := g.1) (ci := 11) (v := .int (u110 0 29)) (C := RX11) (T := TX11) (N := 46) hx hb hi_X11 (fun _ h => h) hown hK.1 hP 0 rfl rfl 29 (by decide) hf_318 (fun _ h9 => h9) rfl dX11_laysLines_186 ?_
                            refine lv_iconst (v := 1) hx hb dX11_laysLines_189 (by decide) ?_
                            refine r_iadd hx hb dX11_laysLines_190 rfl (by decide : (1 : Int32).toInt = 1) (fun x111 e_x111 t_x111 => ?_)
                            try have t_x111 := t_x111 (by omega)
                            refine va_put (D := g.1) (ci := 11) (v := .int x111) (ty := .int) (C := RX11) (T := TX11) (N := 46) hx hb hi_X11 (fun _ h => h) tyX11 tyX11_ok nmX11 hown hK.1 hP hD hS 0 rfl rfl 29 (by decide) hf_318 (fun _ h9 => h9) rfl (by decide +kernel) rfl rfl (Nat.le_of_ble_eq_true rfl) dX11_laysLines_191 (fun H locs hP hD hS => ?_)
                            have hP : va_P g.1 vwCl (wX11 g a_m (uF u110 0 29 x111) J_m) H := hP
                            have hD : va_D A (wX11 g a_m (uF u110 0 29 x111) J_m) := hD
                            have hc_191 : MI (uF u110 0 29 x111) := MI.uf (p_r109.1) (by decide)
                            have hk_191 : KK [7, 8, 9, 10, 11] [27, 28, 29] I_m (uF u110 0 29 x111) := KK.uf (KK.tr hk_123 p_r109.2.1 (by decide) (by decide)) (by decide)
                            refine lv_iload hx hb dX11_laysLines_194 (lv_at hl 2 rfl) ?_
                            refine lv_iload hx hb dX11_laysLines_196 (lv_at hl 1 rfl) ?_
                            refine r_iadd hx hb dX11_laysLines_198 rfl rfl (fun x112 e_x112 t_x112 => ?_)
                            try have t_x112 := t_x112 (by omega)
                            refine lv_istore (lv' := [(4, .int x112), (6, .int v6_123), (5, .int x1), (3, .int r3), (2, .int v2_24), (1, .int x1), (0, .ref (a_m 0))]) hx hb dX11_laysLines_199 hl (by decide) rfl (fun ls hl => ?_)
                            refine lv_aload_n hx hb dX11_laysLines_201 rfl (lv_at hl 6 rfl) ?_
                            refine EffV.cv (wr := ([])) (w' := fun u114 => wX11 g a_m u114 J_m) (As := []) (kX11_newLine l g a_m (uF u110 0 29 x111) J_m hc_191 (by first | exact hL181.of rfl rfl rfl rfl | exact hn_123) (show ((u110 0 27)).toInt < 1300 from (by omega))) fx (gUV (uT _) u_894 u_895 u_896 u_5 u_897) rfl hdX11_newLine ⟨Nat.le_of_ble_eq_true rfl, Nat.le_of_ble_eq_true rfl⟩ hK hP hD hS hA [0, 1, 2, 3, 4, 5, 6, 7, 8, 9, 10, 11, 12, 13, 14, 15, 16, 17, 18, 19, 20, 21, 22] [] [0, 1, 2, 3, 4, 5, 6, 7, 8, 9, 10, 11, 12, 13, 14, 15, 16, 17, 18, 19, 20, 21, 22] rfl rfl rfl rfl (by decide) rfl (fun _ => rfl) rfl rfl rfl rfl hl.1 (Nat.le_of_ble_eq_true rfl) dX11_laysLines_202 (fun u114 H locs p_r113 hP hD hS => ?_)
                            have hP : va_P g.1 vwCl (wX11 g a_m u114 J_m) H := hP
                            have hD : va_D A (wX11 g a_m u114 J_m) := hD
                            have p_r113 : MI u114 ∧ KK [8, 9] [27] (uF u110 0 29 x111) u114 ∧ LN u114 ∧ (u114 0 27).toInt = (u110 0 27).toInt + 1 := p_r113
                            have hl202 := p_r113.2.2.2
                            have hL202 := p_r113.2.2.1
                            have hm202 : (u114 0 28).toInt = ((u110 0 28)).toInt := congrArg Int32.toInt (p_r113.2.1.num 28 (by decide))
                            refine lv_goto (tgt := 94) hx hb dX11_laysLines_205 (by decide) ?_
                            exact ih_94 x112 u114 (p_r113.1) (KK.tr hk_191 p_r113.2.1 (by decide) (by decide)) (by omega) hL202 (by omega) (by omega) _ _ hP hD hS ls (lv_sub hl [0, 3, 4, 5, 6] rfl)
                        · refine lv_aload_n hx hb dX11_laysLines_130 rfl (lv_at hl 6 rfl) ?_
                          refine lv_aload_n hx hb dX11_laysLines_131 rfl (lv_at hl 6 rfl) ?_
                          refine va_get (D := g.1) (ci := 11) (v := .ref (a_m 1)) (C := RX11) (T := TX11) (N := 46) hx hb hi_X11 (fun _ h => h) hown hK.1 hP 0 rfl rfl 0 (by decide) hf_7 (fun _ h9 => h9) rfl dX11_laysLines_132 ?_
                          refine lv_sipush (v := 600) hx hb dX11_laysLines_135 (by decide) ?_
                          refine lv_aload_n hx hb dX11_laysLines_138 rfl (lv_at hl 6 rfl) ?_
                          refine va_get (D := g.1) (ci := 11) (v := .ref (a_m 1)) (C := RX11) (T := TX11) (N := 46) hx hb hi_X11 (fun _ h => h) hown hK.1 hP 0 rfl rfl 0 (by decide) hf_7 (fun _ h9 => h9) rfl dX11_laysLines_139 ?_
                          refine lv_sipush (v := 1850) hx hb dX11_laysLines_142 (by decide) ?_
                          refine lv_iload_n hx hb dX11_laysLines_145 rfl (lv_at hl 4 rfl) ?_
                          refine r_iadd hx hb dX11_laysLines_146 (by decide : (1850 : Int32).toInt = 1850) rfl (fun x115 e_x115 t_x115 => ?_)
                          try have t_x115 := t_x115 (by omega)
                          have n_147 : vp_in x115 19800 := (t_in (by omega))
                          refine va_iald hx hb hK.1 hP 1 0 rfl rfl n_147 dX11_laysLines_147 ?_
                          refine q_nm (fun x116 e_x116 => ?_)
                          have e_x116 : x116 = (I_m_123 1) x115.toNatClampNeg := e_x116
                          have g_x116 : x116.toInt = ((I_m_123 1) x115.toNatClampNeg).toInt := congrArg _ e_x116
                          rw [ha123] at e_x116
                          have hq_x116 : x116.toInt = (I_m 1 (1850 + v2_24.toInt.toNat)).toInt := congrArg Int32.toInt (at_ix e_x116 (by omega))
                          refine r_iadd hx hb dX11_laysLines_148 (by decide : (600 : Int32).toInt = 600) rfl (fun x117 e_x117 t_x117 => ?_)
                          try have t_x117 := t_x117 (by omega)
                          refine lv_iload hx hb dX11_laysLines_149 (lv_at hl 2 rfl) ?_
                          refine r_iadd hx hb dX11_laysLines_151 rfl rfl (fun x118 e_x118 t_x118 => ?_)
                          try have t_x118 := t_x118 (by omega)
                          refine lv_iload hx hb dX11_laysLines_152 (lv_at hl 0 rfl) ?_
                          refine r_iadd hx hb dX11_laysLines_154 rfl rfl (fun x119 e_x119 t_x119 => ?_)
                          try have t_x119 := t_x119 (by omega)
                          have n_155 : vp_in x119 19800 := (t_in (by omega))
                          refine va_iald hx hb hK.1 hP 1 0 rfl rfl n_155 dX11_laysLines_155 ?_
                          refine q_nm (fun x120 e_x120 => ?_)
                          have e_x120 : x120 = (I_m_123 1) x119.toNatClampNeg := e_x120
                          have g_x120 : x120.toInt = ((I_m_123 1) x119.toNatClampNeg).toInt := congrArg _ e_x120
                          refine EffV.cv (wr := ([])) (w' := fun u122 => wX11 g a_m u122 J_m) (As := [.int x120]) (kX11_laysCell l g a_m I_m_123 J_m x120 hM_123 hn_123 (by omega)) fx (gUV (uT _) u_898 u_899 u_900 u_5 u_901) rfl hdX11_laysCell ⟨Nat.le_of_ble_eq_true rfl, Nat.le_of_ble_eq_true rfl⟩ hK hP hD hS hA [0, 1, 2, 3, 4, 5, 6, 7, 8, 9, 10, 11, 12, 13, 14, 15, 16, 17, 18, 19, 20, 21, 22] [] [0, 1, 2, 3, 4, 5, 6, 7, 8, 9, 10, 11, 12, 13, 14, 15, 16, 17, 18, 19, 20, 21, 22] rfl rfl rfl rfl (by decide) rfl (fun _ => rfl) rfl rfl rfl rfl hl.1 (Nat.le_of_ble_eq_true rfl) dX11_laysLines_156 (fun u122 H locs p_r121 hP hD hS => ?_)
                          have hP : va_P g.1 vwCl (wX11 g a_m u122 J_m) H := hP
                          have hD : va_D A (wX11 g a_m u122 J_m) := hD
                          have hl156 := p_r121.2.2.2
                          have hL156 := p_r121.2.2.1
                          have hm156 : (u122 0 27).toInt = ((I_m_123 0 27)).toInt := congrArg Int32.toInt (p_r121.2.1.num 27 (by decide))
                          refine r_iinc (lv' := fun i123 => [(6, .int i123), (5, .int x1), (4, .int v4_94), (3, .int r3), (2, .int v2_24), (1, .int x1), (0, .ref (a_m 0))]) hx hb dX11_laysLines_159 hl (k := 0) rfl (by decide) rfl (by decide) (fun _ => rfl) (fun i123 e_i123 t_i123 ls hl => ?_)
                          try have t_i123 := t_i123 (by omega)
                          refine lv_goto (tgt := 123) hx hb dX11_laysLines_162 (by decide) ?_
                          exact ih_123 i123 u122 (p_r121.1) (KK.tr hk_123 p_r121.2.1 (by decide) (by decide)) (by omega) hL156 (by omega) (by omega) _ _ hP hD hS ls hl
                    exact L123 ((41 - (0 : Int32).toInt) + 1).toNat (0 : Int32) I_m_94 hM_94 hk_94 (by omega) hn_94 (by omega) (by omega) _ _ hP hD hS ls hl
            exact L94 ((1300 - (0 : Int32).toInt) + 1).toNat (0 : Int32) (uR u67 10 f69) hc_90 hk_90 (by omega) hL90 (show 1 ≤ ((u67 0 27)).toInt ∧ ((u67 0 27)).toInt ≤ _ ∧ ((u67 0 28)).toInt ≤ _ from (by rw [lm0]; omega)) (by omega) _ _ hP hD hS ls hl
          · refine lv_aload_n hx hb dX11_laysLines_67 rfl (lv_at hl 3 rfl) ?_
            refine EffV.cv (wr := ([])) (w' := fun u125 => wX11 g a_m u125 J_m) (As := []) (kX11_newLine l g a_m I_m_24 J_m hM_24 hn_24 (by omega)) fx (gUV (uT _) u_894 u_895 u_896 u_5 u_897) rfl hdX11_newLine ⟨Nat.le_of_ble_eq_true rfl, Nat.le_of_ble_eq_true rfl⟩ hK hP hD hS hA [0, 1, 2, 3, 4, 5, 6, 7, 8, 9, 10, 11, 12, 13, 14, 15, 16, 17, 18, 19, 20, 21, 22] [] [0, 1, 2, 3, 4, 5, 6, 7, 8, 9, 10, 11, 12, 13, 14, 15, 16, 17, 18, 19, 20, 21, 22] rfl rfl rfl rfl (by decide) rfl (fun _ => rfl) rfl rfl rfl rfl hl.1 (Nat.le_of_ble_eq_true rfl) dX11_laysLines_68 (fun u125 H locs p_r124 hP hD hS => ?_)
            have hP : va_P g.1 vwCl (wX11 g a_m u125 J_m) H := hP
            have hD : va_D A (wX11 g a_m u125 J_m) := hD
            have hl68 := p_r124.2.2.2
            have hL68 := p_r124.2.2.1
            have hm68 : (u125 0 28).toInt = ((I_m_24 0 28)).toInt := congrArg Int32.toInt (p_r124.2.1.num 28 (by decide))
            refine lv_goto (tgt := 79) hx hb dX11_laysLines_71 (by decide) ?_
            refine lv_aload_n hx hb dX11_laysLines_79 rfl (lv_at hl 3 rfl) ?_
            refine va_get (D := g.1) (ci := 11) (v := .ref (a_m 10)) (C := RX11) (T := TX11) (N := 46) hx hb hi_X11 (fun _ h => h) hown hK.1 hP 0 rfl rfl 25 (by decide) hf_50 (fun _ h9 => h9) rfl dX11_laysLines_80 ?_
            refine lv_iload_n hx hb dX11_laysLines_83 rfl (lv_at hl 1 rfl) ?_
            refine lv_aload_n hx hb dX11_laysLines_84 rfl (lv_at hl 3 rfl) ?_
            refine va_get (D := g.1) (ci := 11) (v := .int (u125 0 27)) (C := RX11) (T := TX11) (N := 46) hx hb hi_X11 (fun _ h => h) hown hK.1 hP 0 rfl rfl 27 (by decide) hf_315 (fun _ h9 => h9) rfl dX11_laysLines_85 ?_
            refine lv_iconst (v := 1) hx hb dX11_laysLines_88 (by decide) ?_
            refine r_isub hx hb dX11_laysLines_89 rfl (by decide : (1 : Int32).toInt = 1) (fun x126 e_x126 t_x126 => ?_)
            try have t_x126 := t_x126 (by omega)
            have n_90 : vp_in v2_24 160 := (t_in (by omega))
            obtain ⟨f127, e_f127⟩ : ∃ z, z = upd (u125 10) v2_24.toNatClampNeg x126 := ⟨_, rfl⟩
            refine va_iast hx hb hK.1 hP hD hS 10 0 rfl rfl n_90 dX11_laysLines_90 (fun H locs hP hD hS => ?_)
            have hP : va_P g.1 vwCl (wX11 g a_m (uR u125 10 f127) J_m) H := by rw [e_f127]; exact hP
            have hD : va_D A (wX11 g a_m (uR u125 10 f127) J_m) := by rw [e_f127]; exact hD
            have hc_90 : MI (uR u125 10 f127) := MI.ur (p_r124.1) (by decide)
            have hk_90 : KK [7, 8, 9, 10, 11] [27, 28, 29] I_m (uR u125 10 f127) := KK.ur (KK.tr hk_24 p_r124.2.1 (by decide) (by decide)) (by decide) (by decide)
            have hL90 : LN (uR u125 10 f127) := hL68.of rfl rfl rfl rfl
            have hA90 := hk_90.row 1 (by decide)
            refine lv_iconst (v := 0) hx hb dX11_laysLines_91 (by decide) ?_
            refine lv_istore (lv' := [(4, .int (0 : Int32)), (3, .int r3), (2, .int v2_24), (1, .int x1), (0, .ref (a_m 0))]) hx hb dX11_laysLines_92 hl (by decide) rfl (fun ls hl => ?_)
            have L94 : ∀ (nn : Nat) (v4_94 : Int32) (I_m_94 : Nat → Nat → Int32), (hM_94 : MI I_m_94) → (hk_94 : KK [7, 8, 9, 10, 11] [27, 28, 29] I_m I_m_94) → (hv_94 : 0 ≤ v4_94.toInt ∧ v4_94.toInt ≤ r3.toInt) → (hn_94 : LN I_m_94) → (hb_94 : 1 ≤ (I_m_94 0 27).toInt ∧ (I_m_94 0 27).toInt ≤ (I_m 1 (1850 + v2_24.toInt.toNat)).toInt + 1 + v4_94.toInt ∧ (I_m_94 0 28).toInt ≤ 2 * (I_m 1 (1850 + v2_24.toInt.toNat)).toInt + 1 + 2 * v4_94.toInt) → ((1300 - v4_94.toInt) < (nn : Int)) → ∀ (H : Heap) (locs : List Loc), va_P g.1 vwCl (wX11 g a_m I_m_94 J_m) H → va_D A (wX11 g a_m I_m_94 J_m) → va_S A s.heap H locs → ∀ ls : Array Slot, lv_has ls 7 [(4, .int v4_94), (3, .int r3), (2, .int v2_24), (1, .int x1), (0, .ref (a_m 0))] → W p l e (rm 1) s m args below meth c H locs 0 0 Q (F0 m 94 ls []) := by
              intro n_94
              induction n_94 with
              | zero =>
                intro v4_94 I_m_94 hM_94 hk_94 hv_94 hn_94 hb_94 hms_94 H locs hP hD hS ls hl
                exfalso; omega
              | succ n_94 ih_94 =>
                intro v4_94 I_m_94 hM_94 hk_94 hv_94 hn_94 hb_94 hms_94 H locs hP hD hS ls hl
                have ha94 : I_m_94 1 = I_m 1 := hk_94.row 1 (by decide)
                have hn941 := hn_94.1
                have hn942 := hn_94.2.1
                refine lv_iload_n hx hb dX11_laysLines_94 rfl (lv_at hl 1 rfl) ?_
                refine lv_iload hx hb dX11_laysLines_95 (lv_at hl 0 rfl) ?_
                refine r_isub hx hb dX11_laysLines_97 rfl rfl (fun x128 e_x128 t_x128 => ?_)
                try have t_x128 := t_x128 (by omega)
                refine lv_iload_n hx hb dX11_laysLines_98 rfl (lv_at hl 3 rfl) ?_
                refine q_icmp_le (tgt := 208) hx hb dX11_laysLines_99 (by decide) rfl rfl (fun k_99 => ?_) (fun k_99 => ?_)
                · refine lv_iload hx hb dX11_laysLines_208 (lv_at hl 0 rfl) ?_
                  refine lv_istore (lv' := [(5, .int v4_94), (4, .int v4_94), (3, .int r3), (2, .int v2_24), (1, .int x1), (0, .ref (a_m 0))]) hx hb dX11_laysLines_210 hl (by decide) rfl (fun ls hl => ?_)
                  have L212 : ∀ (nn : Nat) (v5_212 : Int32) (I_m_212 : Nat → Nat → Int32), (hM_212 : MI I_m_212) → (hk_212 : KK [7, 8, 9, 10, 11] [27, 28, 29] I_m I_m_212) → (hv_212 : v4_94.toInt ≤ v5_212.toInt ∧ v5_212.toInt ≤ r3.toInt) → (hn_212 : LN I_m_212) → (hb_212 : (I_m_212 0 27).toInt = (I_m_94 0 27).toInt ∧ (I_m_212 0 28).toInt = (I_m_94 0 28).toInt + (v5_212.toInt - v4_94.toInt)) → ((1300 - v5_212.toInt) < (nn : Int)) → ∀ (H : Heap) (locs : List Loc), va_P g.1 vwCl (wX11 g a_m I_m_212 J_m) H → va_D A (wX11 g a_m I_m_212 J_m) → va_S A s.heap H locs → ∀ ls : Array Slot, lv_has ls 7 [(5, .int v5_212), (4, .int v4_94), (3, .int r3), (2, .int v2_24), (1, .int x1), (0, .ref (a_m 0))] → W p l e (rm 1) s m args below meth c H locs 0 0 Q (F0 m 212 ls []) := by
                    intro n_212
                    induction n_212 with
                    | zero =>
                      intro v5_212 I_m_212 hM_212 hk_212 hv_212 hn_212 hb_212 hms_212 H locs hP hD hS ls hl
                      exfalso; omega
                    | succ n_212 ih_212 =>
                      intro v5_212 I_m_212 hM_212 hk_212 hv_212 hn_212 hb_212 hms_212 H locs hP hD hS ls hl
                      have ha212 : I_m_212 1 = I_m 1 := hk_212.row 1 (by decide)
                      have hn2121 := hn_212.1
                      have hn2122 := hn_212.2.1
                      refine lv_iload hx hb dX11_laysLines_212 (lv_at hl 0 rfl) ?_
                      refine lv_iload_n hx hb dX11_laysLines_214 rfl (lv_at hl 2 rfl) ?_
                      refine q_icmp_ge (tgt := 250) hx hb dX11_laysLines_215 (by decide) rfl rfl (fun k_215 => ?_) (fun k_215 => ?_)
                      · refine lv_aload_n hx hb dX11_laysLines_250 rfl (lv_at hl 5 rfl) ?_
                        refine va_get (D := g.1) (ci := 11) (v := .ref (a_m 11)) (C := RX11) (T := TX11) (N := 46) hx hb hi_X11 (fun _ h => h) hown hK.1 hP 0 rfl rfl 26 (by decide) hf_53 (fun _ h9 => h9) rfl dX11_laysLines_251 ?_
                        refine lv_iload_n hx hb dX11_laysLines_254 rfl (lv_at hl 3 rfl) ?_
                        refine lv_aload_n hx hb dX11_laysLines_255 rfl (lv_at hl 5 rfl) ?_
                        refine va_get (D := g.1) (ci := 11) (v := .int (I_m_212 0 27)) (C := RX11) (T := TX11) (N := 46) hx hb hi_X11 (fun _ h => h) hown hK.1 hP 0 rfl rfl 27 (by decide) hf_315 (fun _ h9 => h9) rfl dX11_laysLines_256 ?_
                        refine lv_iconst (v := 1) hx hb dX11_laysLines_259 (by decide) ?_
                        refine r_isub hx hb dX11_laysLines_260 rfl (by decide : (1 : Int32).toInt = 1) (fun x129 e_x129 t_x129 => ?_)
                        try have t_x129 := t_x129 (by omega)
                        have n_261 : vp_in v2_24 160 := (t_in (by omega))
                        obtain ⟨f130, e_f130⟩ : ∃ z, z = upd (I_m_212 11) v2_24.toNatClampNeg x129 := ⟨_, rfl⟩
                        refine va_iast hx hb hK.1 hP hD hS 11 0 rfl rfl n_261 dX11_laysLines_261 (fun H locs hP hD hS => ?_)
                        have hP : va_P g.1 vwCl (wX11 g a_m (uR I_m_212 11 f130) J_m) H := by rw [e_f130]; exact hP
                        have hD : va_D A (wX11 g a_m (uR I_m_212 11 f130) J_m) := by rw [e_f130]; exact hD
                        have hc_261 : MI (uR I_m_212 11 f130) := MI.ur hM_212 (by decide)
                        have hk_261 : KK [7, 8, 9, 10, 11] [27, 28, 29] I_m (uR I_m_212 11 f130) := KK.ur hk_212 (by decide) (by decide)
                        refine r_iinc (lv' := fun i131 => [(2, .int i131), (5, .int v5_212), (4, .int v4_94), (3, .int r3), (1, .int x1), (0, .ref (a_m 0))]) hx hb dX11_laysLines_262 hl (k := 3) rfl (by decide) rfl (by decide) (fun _ => rfl) (fun i131 e_i131 t_i131 ls hl => ?_)
                        try have t_i131 := t_i131 (by omega)
                        refine lv_goto (tgt := 24) hx hb dX11_laysLines_265 (by decide) ?_
                        exact ih_24 i131 (uR I_m_212 11 f130) hc_261 hk_261 (by omega) (hn_212.of rfl rfl rfl rfl) (fun q => (show (I_m_212 0 27).toInt ≤ _ ∧ (I_m_212 0 28).toInt ≤ _ from (by rw [show (i131).toInt = v2_24.toInt + 1 by omega] at q ⊢; omega))) (by omega) _ _ hP hD hS ls (lv_sub hl [0, 4, 5] rfl)
                      · refine lv_aload_n hx hb dX11_laysLines_218 rfl (lv_at hl 5 rfl) ?_
                        refine lv_aload_n hx hb dX11_laysLines_219 rfl (lv_at hl 5 rfl) ?_
                        refine va_get (D := g.1) (ci := 11) (v := .ref (a_m 1)) (C := RX11) (T := TX11) (N := 46) hx hb hi_X11 (fun _ h => h) hown hK.1 hP 0 rfl rfl 0 (by decide) hf_7 (fun _ h9 => h9) rfl dX11_laysLines_220 ?_
                        refine lv_sipush (v := 600) hx hb dX11_laysLines_223 (by decide) ?_
                        refine lv_aload_n hx hb dX11_laysLines_226 rfl (lv_at hl 5 rfl) ?_
                        refine va_get (D := g.1) (ci := 11) (v := .ref (a_m 1)) (C := RX11) (T := TX11) (N := 46) hx hb hi_X11 (fun _ h => h) hown hK.1 hP 0 rfl rfl 0 (by decide) hf_7 (fun _ h9 => h9) rfl dX11_laysLines_227 ?_
                        refine lv_sipush (v := 1850) hx hb dX11_laysLines_230 (by decide) ?_
                        refine lv_iload_n hx hb dX11_laysLines_233 rfl (lv_at hl 3 rfl) ?_
                        refine r_iadd hx hb dX11_laysLines_234 (by decide : (1850 : Int32).toInt = 1850) rfl (fun x132 e_x132 t_x132 => ?_)
                        try have t_x132 := t_x132 (by omega)
                        have n_235 : vp_in x132 19800 := (t_in (by omega))
                        refine va_iald hx hb hK.1 hP 1 0 rfl rfl n_235 dX11_laysLines_235 ?_
                        refine q_nm (fun x133 e_x133 => ?_)
                        have e_x133 : x133 = (I_m_212 1) x132.toNatClampNeg := e_x133
                        have g_x133 : x133.toInt = ((I_m_212 1) x132.toNatClampNeg).toInt := congrArg _ e_x133
                        rw [ha212] at e_x133
                        have hq_x133 : x133.toInt = (I_m 1 (1850 + v2_24.toInt.toNat)).toInt := congrArg Int32.toInt (at_ix e_x133 (by omega))
                        refine r_iadd hx hb dX11_laysLines_236 (by decide : (600 : Int32).toInt = 600) rfl (fun x134 e_x134 t_x134 => ?_)
                        try have t_x134 := t_x134 (by omega)
                        refine lv_iload hx hb dX11_laysLines_237 (lv_at hl 0 rfl) ?_
                        refine r_iadd hx hb dX11_laysLines_239 rfl rfl (fun x135 e_x135 t_x135 => ?_)
                        try have t_x135 := t_x135 (by omega)
                        have n_240 : vp_in x135 19800 := (t_in (by omega))
                        refine va_iald hx hb hK.1 hP 1 0 rfl rfl n_240 dX11_laysLines_240 ?_
                        refine q_nm (fun x136 e_x136 => ?_)
                        have e_x136 : x136 = (I_m_212 1) x135.toNatClampNeg := e_x136
                        have g_x136 : x136.toInt = ((I_m_212 1) x135.toNatClampNeg).toInt := congrArg _ e_x136
                        refine EffV.cv (wr := ([])) (w' := fun u138 => wX11 g a_m u138 J_m) (As := [.int x136]) (kX11_laysCell l g a_m I_m_212 J_m x136 hM_212 hn_212 (by omega)) fx (gUV (uT _) u_898 u_899 u_900 u_5 u_901) rfl hdX11_laysCell ⟨Nat.le_of_ble_eq_true rfl, Nat.le_of_ble_eq_true rfl⟩ hK hP hD hS hA [0, 1, 2, 3, 4, 5, 6, 7, 8, 9, 10, 11, 12, 13, 14, 15, 16, 17, 18, 19, 20, 21, 22] [] [0, 1, 2, 3, 4, 5, 6, 7, 8, 9, 10, 11, 12, 13, 14, 15, 16, 17, 18, 19, 20, 21, 22] rfl rfl rfl rfl (by decide) rfl (fun _ => rfl) rfl rfl rfl rfl hl.1 (Nat.le_of_ble_eq_true rfl) dX11_laysLines_241 (fun u138 H locs p_r137 hP hD hS => ?_)
                        have hP : va_P g.1 vwCl (wX11 g a_m u138 J_m) H := hP
                        have hD : va_D A (wX11 g a_m u138 J_m) := hD
                        have hl241 := p_r137.2.2.2
                        have hL241 := p_r137.2.2.1
                        have hm241 : (u138 0 27).toInt = ((I_m_212 0 27)).toInt := congrArg Int32.toInt (p_r137.2.1.num 27 (by decide))
                        refine r_iinc (lv' := fun i139 => [(5, .int i139), (4, .int v4_94), (3, .int r3), (2, .int v2_24), (1, .int x1), (0, .ref (a_m 0))]) hx hb dX11_laysLines_244 hl (k := 0) rfl (by decide) rfl (by decide) (fun _ => rfl) (fun i139 e_i139 t_i139 ls hl => ?_)
                        try have t_i139 := t_i139 (by omega)
                        refine lv_goto (tgt := 212) hx hb dX11_laysLines_247 (by decide) ?_
                        exact ih_212 i139 u138 (p_r137.1) (KK.tr hk_212 p_r137.2.1 (by decide) (by decide)) (by omega) hL241 (by omega) (by omega) _ _ hP hD hS ls hl
                  exact L212 ((1300 - v4_94.toInt) + 1).toNat v4_94 I_m_94 hM_94 hk_94 (by omega) hn_94 (by omega) (by omega) _ _ hP hD hS ls hl
                · refine lv_aload_n hx hb dX11_laysLines_102 rfl (lv_at hl 4 rfl) ?_
                  refine va_get (D := g.1) (ci := 11) (v := .ref (a_m 1)) (C := RX11) (T := TX11) (N := 46) hx hb hi_X11 (fun _ h => h) hown hK.1 hP 0 rfl rfl 0 (by decide) hf_7 (fun _ h9 => h9) rfl dX11_laysLines_103 ?_
                  refine lv_iconst (v := 3) hx hb dX11_laysLines_106 (by decide) ?_
                  have n_107 : vp_in (3 : Int32) 19800 := (t_in (by decide))
                  refine va_iald hx hb hK.1 hP 1 0 rfl rfl n_107 dX11_laysLines_107 ?_
                  refine q_nm (fun x140 e_x140 => ?_)
                  have e_x140 : x140 = (I_m_94 1) 3 := e_x140
                  have g_x140 : x140.toInt = ((I_m_94 1) 3).toInt := congrArg _ e_x140
                  have f_x140 := MI.sign hM_94 3 (by decide) e_x140
                  refine q_if_ne (tgt := 115) hx hb dX11_laysLines_108 (by decide) rfl (fun b_108 k_108 => ?_) (fun b_108 k_108 => ?_)
                  · refine lv_iload_n hx hb dX11_laysLines_115 rfl (lv_at hl 3 rfl) ?_
                    refine lv_iconst (v := 1) hx hb dX11_laysLines_116 (by decide) ?_
                    refine r_isub hx hb dX11_laysLines_117 rfl (by decide : (1 : Int32).toInt = 1) (fun x141 e_x141 t_x141 => ?_)
                    try have t_x141 := t_x141 (by omega)
                    refine lv_istore (lv' := [(5, .int x141), (4, .int v4_94), (3, .int r3), (2, .int v2_24), (1, .int x1), (0, .ref (a_m 0))]) hx hb dX11_laysLines_118 hl (by decide) rfl (fun ls hl => ?_)
                    refine lv_iconst (v := 0) hx hb dX11_laysLines_120 (by decide) ?_
                    refine lv_istore (lv' := [(6, .int (0 : Int32)), (5, .int x141), (4, .int v4_94), (3, .int r3), (2, .int v2_24), (1, .int x1), (0, .ref (a_m 0))]) hx hb dX11_laysLines_121 hl (by decide) rfl (fun ls hl => ?_)
                    have L123 : ∀ (nn : Nat) (v6_123 : Int32) (I_m_123 : Nat → Nat → Int32), (hM_123 : MI I_m_123) → (hk_123 : KK [7, 8, 9, 10, 11] [27, 28, 29] I_m I_m_123) → (hv_123 : 0 ≤ v6_123.toInt ∧ v6_123.toInt ≤ x141.toInt) → (hn_123 : LN I_m_123) → (hb_123 : (I_m_123 0 27).toInt = (I_m_94 0 27).toInt ∧ (I_m_123 0 28).toInt = (I_m_94 0 28).toInt + v6_123.toInt) → ((41 - v6_123.toInt) < (nn : Int)) → ∀ (H : Heap) (locs : List Loc), va_P g.1 vwCl (wX11 g a_m I_m_123 J_m) H → va_D A (wX11 g a_m I_m_123 J_m) → va_S A s.heap H locs → ∀ ls : Array Slot, lv_has ls 7 [(6, .int v6_123), (5, .int x141), (4, .int v4_94), (3, .int r3), (2, .int v2_24), (1, .int x1), (0, .ref (a_m 0))] → W p l e (rm 1) s m args below meth c H locs 0 0 Q (F0 m 123 ls []) := by
                      intro n_123
                      induction n_123 with
                      | zero =>
                        intro v6_123 I_m_123 hM_123 hk_123 hv_123 hn_123 hb_123 hms_123 H locs hP hD hS ls hl
                        exfalso; omega
                      | succ n_123 ih_123 =>
                        intro v6_123 I_m_123 hM_123 hk_123 hv_123 hn_123 hb_123 hms_123 H locs hP hD hS ls hl
                        have ha123 : I_m_123 1 = I_m 1 := hk_123.row 1 (by decide)
                        have hn1231 := hn_123.1
                        have hn1232 := hn_123.2.1
                        refine lv_iload hx hb dX11_laysLines_123 (lv_at hl 0 rfl) ?_
                        refine lv_iload hx hb dX11_laysLines_125 (lv_at hl 1 rfl) ?_
                        refine q_icmp_ge (tgt := 165) hx hb dX11_laysLines_127 (by decide) rfl rfl (fun k_127 => ?_) (fun k_127 => ?_)
                        · refine lv_aload_n hx hb dX11_laysLines_165 rfl (lv_at hl 6 rfl) ?_
                          refine va_get (D := g.1) (ci := 11) (v := .ref (a_m 1)) (C := RX11) (T := TX11) (N := 46) hx hb hi_X11 (fun _ h => h) hown hK.1 hP 0 rfl rfl 0 (by decide) hf_7 (fun _ h9 => h9) rfl dX11_laysLines_166 ?_
                          refine lv_iconst (v := 3) hx hb dX11_laysLines_169 (by decide) ?_
                          have n_170 : vp_in (3 : Int32) 19800 := (t_in (by decide))
                          refine va_iald hx hb hK.1 hP 1 0 rfl rfl n_170 dX11_laysLines_170 ?_
                          refine q_nm (fun x142 e_x142 => ?_)
                          have e_x142 : x142 = (I_m_123 1) 3 := e_x142
                          have g_x142 : x142.toInt = ((I_m_123 1) 3).toInt := congrArg _ e_x142
                          have f_x142 := MI.sign hM_123 3 (by decide) e_x142
                          refine q_if_eq (tgt := 194) hx hb dX11_laysLines_171 (by decide) rfl (fun b_171 k_171 => ?_) (fun b_171 k_171 => ?_)
                          · refine lv_iload hx hb dX11_laysLines_194 (lv_at hl 2 rfl) ?_
                            refine lv_iload hx hb dX11_laysLines_196 (lv_at hl 1 rfl) ?_
                            refine r_iadd hx hb dX11_laysLines_198 rfl rfl (fun x143 e_x143 t_x143 => ?_)
                            try have t_x143 := t_x143 (by omega)
                            refine lv_istore (lv' := [(4, .int x143), (6, .int v6_123), (5, .int x141), (3, .int r3), (2, .int v2_24), (1, .int x1), (0, .ref (a_m 0))]) hx hb dX11_laysLines_199 hl (by decide) rfl (fun ls hl => ?_)
                            refine lv_aload_n hx hb dX11_laysLines_201 rfl (lv_at hl 6 rfl) ?_
                            refine EffV.cv (wr := ([])) (w' := fun u145 => wX11 g a_m u145 J_m) (As := []) (kX11_newLine l g a_m I_m_123 J_m hM_123 (by first | exact hL181.of rfl rfl rfl rfl | exact hn_123) (show ((I_m_123 0 27)).toInt < 1300 from (by omega))) fx (gUV (uT _) u_894 u_895 u_896 u_5 u_897) rfl hdX11_newLine ⟨Nat.le_of_ble_eq_true rfl, Nat.le_of_ble_eq_true rfl⟩ hK hP hD hS hA [0, 1, 2, 3, 4, 5, 6, 7, 8, 9, 10, 11, 12, 13, 14, 15, 16, 17, 18, 19, 20, 21, 22] [] [0, 1, 2, 3, 4, 5, 6, 7, 8, 9, 10, 11, 12, 13, 14, 15, 16, 17, 18, 19, 20, 21, 22] rfl rfl rfl rfl (by decide) rfl (fun _ => rfl) rfl rfl rfl rfl hl.1 (Nat.le_of_ble_eq_true rfl) dX11_laysLines_202 (fun u145 H locs p_r144 hP hD hS => ?_)
                            have hP : va_P g.1 vwCl (wX11 g a_m u145 J_m) H := hP
                            have hD : va_D A (wX11 g a_m u145 J_m) := hD
                            have hl202 := p_r144.2.2.2
                            have hL202 := p_r144.2.2.1
                            have hm202 : (u145 0 28).toInt = ((I_m_123 0 28)).toInt := congrArg Int32.toInt (p_r144.2.1.num 28 (by decide))
                            refine lv_goto (tgt := 94) hx hb dX11_laysLines_205 (by decide) ?_
                            exact ih_94 x143 u145 (p_r144.1) (KK.tr hk_123 p_r144.2.1 (by decide) (by decide)) (by omega) hL202 (by omega) (by omega) _ _ hP hD hS ls (lv_sub hl [0, 3, 4, 5, 6] rfl)
                          · refine lv_aload_n hx hb dX11_laysLines_174 rfl (lv_at hl 6 rfl) ?_
                            refine lv_aload_n hx hb dX11_laysLines_175 rfl (lv_at hl 6 rfl) ?_
                            refine va_get (D := g.1) (ci := 11) (v := .ref (a_m 1)) (C := RX11) (T := TX11) (N := 46) hx hb hi_X11 (fun _ h => h) hown hK.1 hP 0 rfl rfl 0 (by decide) hf_7 (fun _ h9 => h9) rfl dX11_laysLines_176 ?_
                            refine lv_iconst (v := 3) hx hb dX11_laysLines_179 (by decide) ?_
                            have n_180 : vp_in (3 : Int32) 19800 := (t_in (by decide))
                            refine va_iald hx hb hK.1 hP 1 0 rfl rfl n_180 dX11_laysLines_180 ?_
                            refine q_nm (fun x146 e_x146 => ?_)
                            have e_x146 : x146 = (I_m_123 1) 3 := e_x146
                            have g_x146 : x146.toInt = ((I_m_123 1) 3).toInt := congrArg _ e_x146
                            have f_x146 := MI.sign hM_123 3 (by decide) e_x146
                            refine EffV.cv (wr := ([])) (w' := fun u148 => wX11 g a_m u148 J_m) (As := [.int x146]) (kX11_laysCell l g a_m I_m_123 J_m x146 hM_123 hn_123 (by omega)) fx (gUV (uT _) u_898 u_899 u_900 u_5 u_901) rfl hdX11_laysCell ⟨Nat.le_of_ble_eq_true rfl, Nat.le_of_ble_eq_true rfl⟩ hK hP hD hS hA [0, 1, 2, 3, 4, 5, 6, 7, 8, 9, 10, 11, 12, 13, 14, 15, 16, 17, 18, 19, 20, 21, 22] [] [0, 1, 2, 3, 4, 5, 6, 7, 8, 9, 10, 11, 12, 13, 14, 15, 16, 17, 18, 19, 20, 21, 22] rfl rfl rfl rfl (by decide) rfl (fun _ => rfl) rfl rfl rfl rfl hl.1 (Nat.le_of_ble_eq_true rfl) dX11_laysLines_181 (fun u148 H locs p_r147 hP hD hS => ?_)
                            have hP : va_P g.1 vwCl (wX11 g a_m u148 J_m) H := hP
                            have hD : va_D A (wX11 g a_m u148 J_m) := hD
                            have hl181 := p_r147.2.2.2
                            have hL181 := p_r147.2.2.1
                            have hm181 : (u148 0 27).toInt = ((I_m_123 0 27)).toInt := congrArg Int32.toInt (p_r147.2.1.num 27 (by decide))
                            refine lv_aload_n hx hb dX11_laysLines_184 rfl (lv_at hl 6 rfl) ?_
                            refine lv_dup hx hb dX11_laysLines_185 rfl ?_
                            refine va_get (D := g.1) (ci := 11) (v := .int (u148 0 29)) (C := RX11) (T := TX11) (N := 46) hx hb hi_X11 (fun _ h => h) hown hK.1 hP 0 rfl rfl 29 (by decide) hf_318 (fun _ h9 => h9) rfl dX11_laysLines_186 ?_
                            refine lv_iconst (v := 1) hx hb dX11_laysLines_189 (by decide) ?_
                            refine r_iadd hx hb dX11_laysLines_190 rfl (by decide : (1 : Int32).toInt = 1) (fun x149 e_x149 t_x149 => ?_)
                            try have t_x149 := t_x149 (by omega)
                            refine va_put (D := g.1) (ci := 11) (v := .int x149) (ty := .int) (C := RX11) (T := TX11) (N := 46) hx hb hi_X11 (fun _ h => h) tyX11 tyX11_ok nmX11 hown hK.1 hP hD hS 0 rfl rfl 29 (by decide) hf_318 (fun _ h9 => h9) rfl (by decide +kernel) rfl rfl (Nat.le_of_ble_eq_true rfl) dX11_laysLines_191 (fun H locs hP hD hS => ?_)
                            have hP : va_P g.1 vwCl (wX11 g a_m (uF u148 0 29 x149) J_m) H := hP
                            have hD : va_D A (wX11 g a_m (uF u148 0 29 x149) J_m) := hD
                            have hc_191 : MI (uF u148 0 29 x149) := MI.uf (p_r147.1) (by decide)
                            have hk_191 : KK [7, 8, 9, 10, 11] [27, 28, 29] I_m (uF u148 0 29 x149) := KK.uf (KK.tr hk_123 p_r147.2.1 (by decide) (by decide)) (by decide)
                            refine lv_iload hx hb dX11_laysLines_194 (lv_at hl 2 rfl) ?_
                            refine lv_iload hx hb dX11_laysLines_196 (lv_at hl 1 rfl) ?_
                            refine r_iadd hx hb dX11_laysLines_198 rfl rfl (fun x150 e_x150 t_x150 => ?_)
                            try have t_x150 := t_x150 (by omega)
                            refine lv_istore (lv' := [(4, .int x150), (6, .int v6_123), (5, .int x141), (3, .int r3), (2, .int v2_24), (1, .int x1), (0, .ref (a_m 0))]) hx hb dX11_laysLines_199 hl (by decide) rfl (fun ls hl => ?_)
                            refine lv_aload_n hx hb dX11_laysLines_201 rfl (lv_at hl 6 rfl) ?_
                            refine EffV.cv (wr := ([])) (w' := fun u152 => wX11 g a_m u152 J_m) (As := []) (kX11_newLine l g a_m (uF u148 0 29 x149) J_m hc_191 (by first | exact hL181.of rfl rfl rfl rfl | exact hn_123) (show ((u148 0 27)).toInt < 1300 from (by omega))) fx (gUV (uT _) u_894 u_895 u_896 u_5 u_897) rfl hdX11_newLine ⟨Nat.le_of_ble_eq_true rfl, Nat.le_of_ble_eq_true rfl⟩ hK hP hD hS hA [0, 1, 2, 3, 4, 5, 6, 7, 8, 9, 10, 11, 12, 13, 14, 15, 16, 17, 18, 19, 20, 21, 22] [] [0, 1, 2, 3, 4, 5, 6, 7, 8, 9, 10, 11, 12, 13, 14, 15, 16, 17, 18, 19, 20, 21, 22] rfl rfl rfl rfl (by decide) rfl (fun _ => rfl) rfl rfl rfl rfl hl.1 (Nat.le_of_ble_eq_true rfl) dX11_laysLines_202 (fun u152 H locs p_r151 hP hD hS => ?_)
                            have hP : va_P g.1 vwCl (wX11 g a_m u152 J_m) H := hP
                            have hD : va_D A (wX11 g a_m u152 J_m) := hD
                            have p_r151 : MI u152 ∧ KK [8, 9] [27] (uF u148 0 29 x149) u152 ∧ LN u152 ∧ (u152 0 27).toInt = (u148 0 27).toInt + 1 := p_r151
                            have hl202 := p_r151.2.2.2
                            have hL202 := p_r151.2.2.1
                            have hm202 : (u152 0 28).toInt = ((u148 0 28)).toInt := congrArg Int32.toInt (p_r151.2.1.num 28 (by decide))
                            refine lv_goto (tgt := 94) hx hb dX11_laysLines_205 (by decide) ?_
                            exact ih_94 x150 u152 (p_r151.1) (KK.tr hk_191 p_r151.2.1 (by decide) (by decide)) (by omega) hL202 (by omega) (by omega) _ _ hP hD hS ls (lv_sub hl [0, 3, 4, 5, 6] rfl)
                        · refine lv_aload_n hx hb dX11_laysLines_130 rfl (lv_at hl 6 rfl) ?_
                          refine lv_aload_n hx hb dX11_laysLines_131 rfl (lv_at hl 6 rfl) ?_
                          refine va_get (D := g.1) (ci := 11) (v := .ref (a_m 1)) (C := RX11) (T := TX11) (N := 46) hx hb hi_X11 (fun _ h => h) hown hK.1 hP 0 rfl rfl 0 (by decide) hf_7 (fun _ h9 => h9) rfl dX11_laysLines_132 ?_
                          refine lv_sipush (v := 600) hx hb dX11_laysLines_135 (by decide) ?_
                          refine lv_aload_n hx hb dX11_laysLines_138 rfl (lv_at hl 6 rfl) ?_
                          refine va_get (D := g.1) (ci := 11) (v := .ref (a_m 1)) (C := RX11) (T := TX11) (N := 46) hx hb hi_X11 (fun _ h => h) hown hK.1 hP 0 rfl rfl 0 (by decide) hf_7 (fun _ h9 => h9) rfl dX11_laysLines_139 ?_
                          refine lv_sipush (v := 1850) hx hb dX11_laysLines_142 (by decide) ?_
                          refine lv_iload_n hx hb dX11_laysLines_145 rfl (lv_at hl 4 rfl) ?_
                          refine r_iadd hx hb dX11_laysLines_146 (by decide : (1850 : Int32).toInt = 1850) rfl (fun x153 e_x153 t_x153 => ?_)
                          try have t_x153 := t_x153 (by omega)
                          have n_147 : vp_in x153 19800 := (t_in (by omega))
                          refine va_iald hx hb hK.1 hP 1 0 rfl rfl n_147 dX11_laysLines_147 ?_
                          refine q_nm (fun x154 e_x154 => ?_)
                          have e_x154 : x154 = (I_m_123 1) x153.toNatClampNeg := e_x154
                          have g_x154 : x154.toInt = ((I_m_123 1) x153.toNatClampNeg).toInt := congrArg _ e_x154
                          rw [ha123] at e_x154
                          have hq_x154 : x154.toInt = (I_m 1 (1850 + v2_24.toInt.toNat)).toInt := congrArg Int32.toInt (at_ix e_x154 (by omega))
                          refine r_iadd hx hb dX11_laysLines_148 (by decide : (600 : Int32).toInt = 600) rfl (fun x155 e_x155 t_x155 => ?_)
                          try have t_x155 := t_x155 (by omega)
                          refine lv_iload hx hb dX11_laysLines_149 (lv_at hl 2 rfl) ?_
                          refine r_iadd hx hb dX11_laysLines_151 rfl rfl (fun x156 e_x156 t_x156 => ?_)
                          try have t_x156 := t_x156 (by omega)
                          refine lv_iload hx hb dX11_laysLines_152 (lv_at hl 0 rfl) ?_
                          refine r_iadd hx hb dX11_laysLines_154 rfl rfl (fun x157 e_x157 t_x157 => ?_)
                          try have t_x157 := t_x157 (by omega)
                          have n_155 : vp_in x157 19800 := (t_in (by omega))
                          refine va_iald hx hb hK.1 hP 1 0 rfl rfl n_155 dX11_laysLines_155 ?_
                          refine q_nm (fun x158 e_x158 => ?_)
                          have e_x158 : x158 = (I_m_123 1) x157.toNatClampNeg := e_x158
                          have g_x158 : x158.toInt = ((I_m_123 1) x157.toNatClampNeg).toInt := congrArg _ e_x158
                          refine EffV.cv (wr := ([])) (w' := fun u160 => wX11 g a_m u160 J_m) (As := [.int x158]) (kX11_laysCell l g a_m I_m_123 J_m x158 hM_123 hn_123 (by omega)) fx (gUV (uT _) u_898 u_899 u_900 u_5 u_901) rfl hdX11_laysCell ⟨Nat.le_of_ble_eq_true rfl, Nat.le_of_ble_eq_true rfl⟩ hK hP hD hS hA [0, 1, 2, 3, 4, 5, 6, 7, 8, 9, 10, 11, 12, 13, 14, 15, 16, 17, 18, 19, 20, 21, 22] [] [0, 1, 2, 3, 4, 5, 6, 7, 8, 9, 10, 11, 12, 13, 14, 15, 16, 17, 18, 19, 20, 21, 22] rfl rfl rfl rfl (by decide) rfl (fun _ => rfl) rfl rfl rfl rfl hl.1 (Nat.le_of_ble_eq_true rfl) dX11_laysLines_156 (fun u160 H locs p_r159 hP hD hS => ?_)
                          have hP : va_P g.1 vwCl (wX11 g a_m u160 J_m) H := hP
                          have hD : va_D A (wX11 g a_m u160 J_m) := hD
                          have hl156 := p_r159.2.2.2
                          have hL156 := p_r159.2.2.1
                          have hm156 : (u160 0 27).toInt = ((I_m_123 0 27)).toInt := congrArg Int32.toInt (p_r159.2.1.num 27 (by decide))
                          refine r_iinc (lv' := fun i161 => [(6, .int i161), (5, .int x141), (4, .int v4_94), (3, .int r3), (2, .int v2_24), (1, .int x1), (0, .ref (a_m 0))]) hx hb dX11_laysLines_159 hl (k := 0) rfl (by decide) rfl (by decide) (fun _ => rfl) (fun i161 e_i161 t_i161 ls hl => ?_)
                          try have t_i161 := t_i161 (by omega)
                          refine lv_goto (tgt := 123) hx hb dX11_laysLines_162 (by decide) ?_
                          exact ih_123 i161 u160 (p_r159.1) (KK.tr hk_123 p_r159.2.1 (by decide) (by decide)) (by omega) hL156 (by omega) (by omega) _ _ hP hD hS ls hl
                    exact L123 ((41 - (0 : Int32).toInt) + 1).toNat (0 : Int32) I_m_94 hM_94 hk_94 (by omega) hn_94 (by omega) (by omega) _ _ hP hD hS ls hl
                  · refine lv_iload_n hx hb dX11_laysLines_111 rfl (lv_at hl 3 rfl) ?_
                    refine lv_goto (tgt := 118) hx hb dX11_laysLines_112 (by decide) ?_
                    refine lv_istore (lv' := [(5, .int x1), (4, .int v4_94), (3, .int r3), (2, .int v2_24), (1, .int x1), (0, .ref (a_m 0))]) hx hb dX11_laysLines_118 hl (by decide) rfl (fun ls hl => ?_)
                    refine lv_iconst (v := 0) hx hb dX11_laysLines_120 (by decide) ?_
                    refine lv_istore (lv' := [(6, .int (0 : Int32)), (5, .int x1), (4, .int v4_94), (3, .int r3), (2, .int v2_24), (1, .int x1), (0, .ref (a_m 0))]) hx hb dX11_laysLines_121 hl (by decide) rfl (fun ls hl => ?_)
                    have L123 : ∀ (nn : Nat) (v6_123 : Int32) (I_m_123 : Nat → Nat → Int32), (hM_123 : MI I_m_123) → (hk_123 : KK [7, 8, 9, 10, 11] [27, 28, 29] I_m I_m_123) → (hv_123 : 0 ≤ v6_123.toInt ∧ v6_123.toInt ≤ x1.toInt) → (hn_123 : LN I_m_123) → (hb_123 : (I_m_123 0 27).toInt = (I_m_94 0 27).toInt ∧ (I_m_123 0 28).toInt = (I_m_94 0 28).toInt + v6_123.toInt) → ((41 - v6_123.toInt) < (nn : Int)) → ∀ (H : Heap) (locs : List Loc), va_P g.1 vwCl (wX11 g a_m I_m_123 J_m) H → va_D A (wX11 g a_m I_m_123 J_m) → va_S A s.heap H locs → ∀ ls : Array Slot, lv_has ls 7 [(6, .int v6_123), (5, .int x1), (4, .int v4_94), (3, .int r3), (2, .int v2_24), (1, .int x1), (0, .ref (a_m 0))] → W p l e (rm 1) s m args below meth c H locs 0 0 Q (F0 m 123 ls []) := by
                      intro n_123
                      induction n_123 with
                      | zero =>
                        intro v6_123 I_m_123 hM_123 hk_123 hv_123 hn_123 hb_123 hms_123 H locs hP hD hS ls hl
                        exfalso; omega
                      | succ n_123 ih_123 =>
                        intro v6_123 I_m_123 hM_123 hk_123 hv_123 hn_123 hb_123 hms_123 H locs hP hD hS ls hl
                        have ha123 : I_m_123 1 = I_m 1 := hk_123.row 1 (by decide)
                        have hn1231 := hn_123.1
                        have hn1232 := hn_123.2.1
                        refine lv_iload hx hb dX11_laysLines_123 (lv_at hl 0 rfl) ?_
                        refine lv_iload hx hb dX11_laysLines_125 (lv_at hl 1 rfl) ?_
                        refine q_icmp_ge (tgt := 165) hx hb dX11_laysLines_127 (by decide) rfl rfl (fun k_127 => ?_) (fun k_127 => ?_)
                        · refine lv_aload_n hx hb dX11_laysLines_165 rfl (lv_at hl 6 rfl) ?_
                          refine va_get (D := g.1) (ci := 11) (v := .ref (a_m 1)) (C := RX11) (T := TX11) (N := 46) hx hb hi_X11 (fun _ h => h) hown hK.1 hP 0 rfl rfl 0 (by decide) hf_7 (fun _ h9 => h9) rfl dX11_laysLines_166 ?_
                          refine lv_iconst (v := 3) hx hb dX11_laysLines_169 (by decide) ?_
                          have n_170 : vp_in (3 : Int32) 19800 := (t_in (by decide))
                          refine va_iald hx hb hK.1 hP 1 0 rfl rfl n_170 dX11_laysLines_170 ?_
                          refine q_nm (fun x162 e_x162 => ?_)
                          have e_x162 : x162 = (I_m_123 1) 3 := e_x162
                          have g_x162 : x162.toInt = ((I_m_123 1) 3).toInt := congrArg _ e_x162
                          have f_x162 := MI.sign hM_123 3 (by decide) e_x162
                          refine q_if_eq (tgt := 194) hx hb dX11_laysLines_171 (by decide) rfl (fun b_171 k_171 => ?_) (fun b_171 k_171 => ?_)
                          · refine lv_iload hx hb dX11_laysLines_194 (lv_at hl 2 rfl) ?_
                            refine lv_iload hx hb dX11_laysLines_196 (lv_at hl 1 rfl) ?_
                            refine r_iadd hx hb dX11_laysLines_198 rfl rfl (fun x163 e_x163 t_x163 => ?_)
                            try have t_x163 := t_x163 (by omega)
                            refine lv_istore (lv' := [(4, .int x163), (6, .int v6_123), (5, .int x1), (3, .int r3), (2, .int v2_24), (1, .int x1), (0, .ref (a_m 0))]) hx hb dX11_laysLines_199 hl (by decide) rfl (fun ls hl => ?_)
                            refine lv_aload_n hx hb dX11_laysLines_201 rfl (lv_at hl 6 rfl) ?_
                            refine EffV.cv (wr := ([])) (w' := fun u165 => wX11 g a_m u165 J_m) (As := []) (kX11_newLine l g a_m I_m_123 J_m hM_123 (by first | exact hL181.of rfl rfl rfl rfl | exact hn_123) (show ((I_m_123 0 27)).toInt < 1300 from (by omega))) fx (gUV (uT _) u_894 u_895 u_896 u_5 u_897) rfl hdX11_newLine ⟨Nat.le_of_ble_eq_true rfl, Nat.le_of_ble_eq_true rfl⟩ hK hP hD hS hA [0, 1, 2, 3, 4, 5, 6, 7, 8, 9, 10, 11, 12, 13, 14, 15, 16, 17, 18, 19, 20, 21, 22] [] [0, 1, 2, 3, 4, 5, 6, 7, 8, 9, 10, 11, 12, 13, 14, 15, 16, 17, 18, 19, 20, 21, 22] rfl rfl rfl rfl (by decide) rfl (fun _ => rfl) rfl rfl rfl rfl hl.1 (Nat.le_of_ble_eq_true rfl) dX11_laysLines_202 (fun u165 H locs p_r164 hP hD hS => ?_)
                            have hP : va_P g.1 vwCl (wX11 g a_m u165 J_m) H := hP
                            have hD : va_D A (wX11 g a_m u165 J_m) := hD
                            have hl202 := p_r164.2.2.2
                            have hL202 := p_r164.2.2.1
                            have hm202 : (u165 0 28).toInt = ((I_m_123 0 28)).toInt := congrArg Int32.toInt (p_r164.2.1.num 28 (by decide))
                            refine lv_goto (tgt := 94) hx hb dX11_laysLines_205 (by decide) ?_
                            exact ih_94 x163 u165 (p_r164.1) (KK.tr hk_123 p_r164.2.1 (by decide) (by decide)) (by omega) hL202 (by omega) (by omega) _ _ hP hD hS ls (lv_sub hl [0, 3, 4, 5, 6] rfl)
                          · refine lv_aload_n hx hb dX11_laysLines_174 rfl (lv_at hl 6 rfl) ?_
                            refine lv_aload_n hx hb dX11_laysLines_175 rfl (lv_at hl 6 rfl) ?_
                            refine va_get (D := g.1) (ci := 11) (v := .ref (a_m 1)) (C := RX11) (T := TX11) (N := 46) hx hb hi_X11 (fun _ h => h) hown hK.1 hP 0 rfl rfl 0 (by decide) hf_7 (fun _ h9 => h9) rfl dX11_laysLines_176 ?_
                            refine lv_iconst (v := 3) hx hb dX11_laysLines_179 (by decide) ?_
                            have n_180 : vp_in (3 : Int32) 19800 := (t_in (by decide))
                            refine va_iald hx hb hK.1 hP 1 0 rfl rfl n_180 dX11_laysLines_180 ?_
                            refine q_nm (fun x166 e_x166 => ?_)
                            have e_x166 : x166 = (I_m_123 1) 3 := e_x166
                            have g_x166 : x166.toInt = ((I_m_123 1) 3).toInt := congrArg _ e_x166
                            have f_x166 := MI.sign hM_123 3 (by decide) e_x166
                            refine EffV.cv (wr := ([])) (w' := fun u168 => wX11 g a_m u168 J_m) (As := [.int x166]) (kX11_laysCell l g a_m I_m_123 J_m x166 hM_123 hn_123 (by omega)) fx (gUV (uT _) u_898 u_899 u_900 u_5 u_901) rfl hdX11_laysCell ⟨Nat.le_of_ble_eq_true rfl, Nat.le_of_ble_eq_true rfl⟩ hK hP hD hS hA [0, 1, 2, 3, 4, 5, 6, 7, 8, 9, 10, 11, 12, 13, 14, 15, 16, 17, 18, 19, 20, 21, 22] [] [0, 1, 2, 3, 4, 5, 6, 7, 8, 9, 10, 11, 12, 13, 14, 15, 16, 17, 18, 19, 20, 21, 22] rfl rfl rfl rfl (by decide) rfl (fun _ => rfl) rfl rfl rfl rfl hl.1 (Nat.le_of_ble_eq_true rfl) dX11_laysLines_181 (fun u168 H locs p_r167 hP hD hS => ?_)
                            have hP : va_P g.1 vwCl (wX11 g a_m u168 J_m) H := hP
                            have hD : va_D A (wX11 g a_m u168 J_m) := hD
                            have hl181 := p_r167.2.2.2
                            have hL181 := p_r167.2.2.1
                            have hm181 : (u168 0 27).toInt = ((I_m_123 0 27)).toInt := congrArg Int32.toInt (p_r167.2.1.num 27 (by decide))
                            refine lv_aload_n hx hb dX11_laysLines_184 rfl (lv_at hl 6 rfl) ?_
                            refine lv_dup hx hb dX11_laysLines_185 rfl ?_
                            refine va_get (D := g.1) (ci := 11) (v := .int (u168 0 29)) (C := RX11) (T := TX11) (N := 46) hx hb hi_X11 (fun _ h => h) hown hK.1 hP 0 rfl rfl 29 (by decide) hf_318 (fun _ h9 => h9) rfl dX11_laysLines_186 ?_
                            refine lv_iconst (v := 1) hx hb dX11_laysLines_189 (by decide) ?_
                            refine r_iadd hx hb dX11_laysLines_190 rfl (by decide : (1 : Int32).toInt = 1) (fun x169 e_x169 t_x169 => ?_)
                            try have t_x169 := t_x169 (by omega)
                            refine va_put (D := g.1) (ci := 11) (v := .int x169) (ty := .int) (C := RX11) (T := TX11) (N := 46) hx hb hi_X11 (fun _ h => h) tyX11 tyX11_ok nmX11 hown hK.1 hP hD hS 0 rfl rfl 29 (by decide) hf_318 (fun _ h9 => h9) rfl (by decide +kernel) rfl rfl (Nat.le_of_ble_eq_true rfl) dX11_laysLines_191 (fun H locs hP hD hS => ?_)
                            have hP : va_P g.1 vwCl (wX11 g a_m (uF u168 0 29 x169) J_m) H := hP
                            have hD : va_D A (wX11 g a_m (uF u168 0 29 x169) J_m) := hD
                            have hc_191 : MI (uF u168 0 29 x169) := MI.uf (p_r167.1) (by decide)
                            have hk_191 : KK [7, 8, 9, 10, 11] [27, 28, 29] I_m (uF u168 0 29 x169) := KK.uf (KK.tr hk_123 p_r167.2.1 (by decide) (by decide)) (by decide)
                            refine lv_iload hx hb dX11_laysLines_194 (lv_at hl 2 rfl) ?_
                            refine lv_iload hx hb dX11_laysLines_196 (lv_at hl 1 rfl) ?_
                            refine r_iadd hx hb dX11_laysLines_198 rfl rfl (fun x170 e_x170 t_x170 => ?_)
                            try have t_x170 := t_x170 (by omega)
                            refine lv_istore (lv' := [(4, .int x170), (6, .int v6_123), (5, .int x1), (3, .int r3), (2, .int v2_24), (1, .int x1), (0, .ref (a_m 0))]) hx hb dX11_laysLines_199 hl (by decide) rfl (fun ls hl => ?_)
                            refine lv_aload_n hx hb dX11_laysLines_201 rfl (lv_at hl 6 rfl) ?_
                            refine EffV.cv (wr := ([])) (w' := fun u172 => wX11 g a_m u172 J_m) (As := []) (kX11_newLine l g a_m (uF u168 0 29 x169) J_m hc_191 (by first | exact hL181.of rfl rfl rfl rfl | exact hn_123) (show ((u168 0 27)).toInt < 1300 from (by omega))) fx (gUV (uT _) u_894 u_895 u_896 u_5 u_897) rfl hdX11_newLine ⟨Nat.le_of_ble_eq_true rfl, Nat.le_of_ble_eq_true rfl⟩ hK hP hD hS hA [0, 1, 2, 3, 4, 5, 6, 7, 8, 9, 10, 11, 12, 13, 14, 15, 16, 17, 18, 19, 20, 21, 22] [] [0, 1, 2, 3, 4, 5, 6, 7, 8, 9, 10, 11, 12, 13, 14, 15, 16, 17, 18, 19, 20, 21, 22] rfl rfl rfl rfl (by decide) rfl (fun _ => rfl) rfl rfl rfl rfl hl.1 (Nat.le_of_ble_eq_true rfl) dX11_laysLines_202 (fun u172 H locs p_r171 hP hD hS => ?_)
                            have hP : va_P g.1 vwCl (wX11 g a_m u172 J_m) H := hP
                            have hD : va_D A (wX11 g a_m u172 J_m) := hD
                            have p_r171 : MI u172 ∧ KK [8, 9] [27] (uF u168 0 29 x169) u172 ∧ LN u172 ∧ (u172 0 27).toInt = (u168 0 27).toInt + 1 := p_r171
                            have hl202 := p_r171.2.2.2
                            have hL202 := p_r171.2.2.1
                            have hm202 : (u172 0 28).toInt = ((u168 0 28)).toInt := congrArg Int32.toInt (p_r171.2.1.num 28 (by decide))
                            refine lv_goto (tgt := 94) hx hb dX11_laysLines_205 (by decide) ?_
                            exact ih_94 x170 u172 (p_r171.1) (KK.tr hk_191 p_r171.2.1 (by decide) (by decide)) (by omega) hL202 (by omega) (by omega) _ _ hP hD hS ls (lv_sub hl [0, 3, 4, 5, 6] rfl)
                        · refine lv_aload_n hx hb dX11_laysLines_130 rfl (lv_at hl 6 rfl) ?_
                          refine lv_aload_n hx hb dX11_laysLines_131 rfl (lv_at hl 6 rfl) ?_
                          refine va_get (D := g.1) (ci := 11) (v := .ref (a_m 1)) (C := RX11) (T := TX11) (N := 46) hx hb hi_X11 (fun _ h => h) hown hK.1 hP 0 rfl rfl 0 (by decide) hf_7 (fun _ h9 => h9) rfl dX11_laysLines_132 ?_
                          refine lv_sipush (v := 600) hx hb dX11_laysLines_135 (by decide) ?_
                          refine lv_aload_n hx hb dX11_laysLines_138 rfl (lv_at hl 6 rfl) ?_
                          refine va_get (D := g.1) (ci := 11) (v := .ref (a_m 1)) (C := RX11) (T := TX11) (N := 46) hx hb hi_X11 (fun _ h => h) hown hK.1 hP 0 rfl rfl 0 (by decide) hf_7 (fun _ h9 => h9) rfl dX11_laysLines_139 ?_
                          refine lv_sipush (v := 1850) hx hb dX11_laysLines_142 (by decide) ?_
                          refine lv_iload_n hx hb dX11_laysLines_145 rfl (lv_at hl 4 rfl) ?_
                          refine r_iadd hx hb dX11_laysLines_146 (by decide : (1850 : Int32).toInt = 1850) rfl (fun x173 e_x173 t_x173 => ?_)
                          try have t_x173 := t_x173 (by omega)
                          have n_147 : vp_in x173 19800 := (t_in (by omega))
                          refine va_iald hx hb hK.1 hP 1 0 rfl rfl n_147 dX11_laysLines_147 ?_
                          refine q_nm (fun x174 e_x174 => ?_)
                          have e_x174 : x174 = (I_m_123 1) x173.toNatClampNeg := e_x174
                          have g_x174 : x174.toInt = ((I_m_123 1) x173.toNatClampNeg).toInt := congrArg _ e_x174
                          rw [ha123] at e_x174
                          have hq_x174 : x174.toInt = (I_m 1 (1850 + v2_24.toInt.toNat)).toInt := congrArg Int32.toInt (at_ix e_x174 (by omega))
                          refine r_iadd hx hb dX11_laysLines_148 (by decide : (600 : Int32).toInt = 600) rfl (fun x175 e_x175 t_x175 => ?_)
                          try have t_x175 := t_x175 (by omega)
                          refine lv_iload hx hb dX11_laysLines_149 (lv_at hl 2 rfl) ?_
                          refine r_iadd hx hb dX11_laysLines_151 rfl rfl (fun x176 e_x176 t_x176 => ?_)
                          try have t_x176 := t_x176 (by omega)
                          refine lv_iload hx hb dX11_laysLines_152 (lv_at hl 0 rfl) ?_
                          refine r_iadd hx hb dX11_laysLines_154 rfl rfl (fun x177 e_x177 t_x177 => ?_)
                          try have t_x177 := t_x177 (by omega)
                          have n_155 : vp_in x177 19800 := (t_in (by omega))
                          refine va_iald hx hb hK.1 hP 1 0 rfl rfl n_155 dX11_laysLines_155 ?_
                          refine q_nm (fun x178 e_x178 => ?_)
                          have e_x178 : x178 = (I_m_123 1) x177.toNatClampNeg := e_x178
                          have g_x178 : x178.toInt = ((I_m_123 1) x177.toNatClampNeg).toInt := congrArg _ e_x178
                          refine EffV.cv (wr := ([])) (w' := fun u180 => wX11 g a_m u180 J_m) (As := [.int x178]) (kX11_laysCell l g a_m I_m_123 J_m x178 hM_123 hn_123 (by omega)) fx (gUV (uT _) u_898 u_899 u_900 u_5 u_901) rfl hdX11_laysCell ⟨Nat.le_of_ble_eq_true rfl, Nat.le_of_ble_eq_true rfl⟩ hK hP hD hS hA [0, 1, 2, 3, 4, 5, 6, 7, 8, 9, 10, 11, 12, 13, 14, 15, 16, 17, 18, 19, 20, 21, 22] [] [0, 1, 2, 3, 4, 5, 6, 7, 8, 9, 10, 11, 12, 13, 14, 15, 16, 17, 18, 19, 20, 21, 22] rfl rfl rfl rfl (by decide) rfl (fun _ => rfl) rfl rfl rfl rfl hl.1 (Nat.le_of_ble_eq_true rfl) dX11_laysLines_156 (fun u180 H locs p_r179 hP hD hS => ?_)
                          have hP : va_P g.1 vwCl (wX11 g a_m u180 J_m) H := hP
                          have hD : va_D A (wX11 g a_m u180 J_m) := hD
                          have hl156 := p_r179.2.2.2
                          have hL156 := p_r179.2.2.1
                          have hm156 : (u180 0 27).toInt = ((I_m_123 0 27)).toInt := congrArg Int32.toInt (p_r179.2.1.num 27 (by decide))
                          refine r_iinc (lv' := fun i181 => [(6, .int i181), (5, .int x1), (4, .int v4_94), (3, .int r3), (2, .int v2_24), (1, .int x1), (0, .ref (a_m 0))]) hx hb dX11_laysLines_159 hl (k := 0) rfl (by decide) rfl (by decide) (fun _ => rfl) (fun i181 e_i181 t_i181 ls hl => ?_)
                          try have t_i181 := t_i181 (by omega)
                          refine lv_goto (tgt := 123) hx hb dX11_laysLines_162 (by decide) ?_
                          exact ih_123 i181 u180 (p_r179.1) (KK.tr hk_123 p_r179.2.1 (by decide) (by decide)) (by omega) hL156 (by omega) (by omega) _ _ hP hD hS ls hl
                    exact L123 ((41 - (0 : Int32).toInt) + 1).toNat (0 : Int32) I_m_94 hM_94 hk_94 (by omega) hn_94 (by omega) (by omega) _ _ hP hD hS ls hl
            exact L94 ((1300 - (0 : Int32).toInt) + 1).toNat (0 : Int32) (uR u125 10 f127) hc_90 hk_90 (by omega) hL90 (show 1 ≤ ((u125 0 27)).toInt ∧ ((u125 0 27)).toInt ≤ _ ∧ ((u125 0 28)).toInt ≤ _ from (by rw [lm0]; omega)) (by omega) _ _ hP hD hS ls hl
  exact L24 ((151 - (0 : Int32).toInt) + 1).toNat (0 : Int32) (uF (uF (uF I_m 0 27 (0 : Int32)) 0 28 (0 : Int32)) 0 29 (0 : Int32)) hc_12 hk_12 (by omega) (LN.zero lm0 lm0) (fun q => by have := hM.pk 0 (by omega); show (0 : Int32).toInt ≤ _ ∧ (0 : Int32).toInt ≤ _; rw [lm0]; omega) (by omega) _ _ hP hD hS ls hl
