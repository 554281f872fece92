
theorem RC.set {T I I' : Nat → Nat → Int32} {rule place st x : Int32} (h : RC T I) (e : I' 1 = upd (I 1) st.toNatClampNeg x) (hr : 0 ≤ rule.toInt ∧ rule.toInt < 24) (hp : 0 ≤ place.toInt ∧ place.toInt < 3) (hs : st.toInt = rule.toInt * 3 + place.toInt) (hc : place.toInt < (T 3 rule.toNatClampNeg).toInt) : RC T I' := by
  intro s hs1 hs2
  rw [e] at hs2
  have i1 := t_cl (i := st) hs (by omega)
  have i2 := t_cl (i := rule) rfl hr.1
  by_cases q : s = st.toNatClampNeg
  · have e1 : s / 3 = rule.toNatClampNeg := by omega
    rw [e1]
    omega
  · rw [pk_un q] at hs2
    exact h s hs1 hs2
theorem RC.use {T I : Nat → Nat → Int32} {st x1 x2 : Int32} (h : RC T I) (hs : 0 ≤ st.toInt ∧ st.toInt < 72) (hl : (I 1 st.toNatClampNeg).toInt < 1000000) (h1 : x1.toInt = st.toInt / 3) (h2 : x2.toInt = st.toInt % 3) : x2.toInt < (T 3 x1.toNatClampNeg).toInt := by
  have i1 := t_cl (i := st) rfl hs.1
  have i2 := t_cl (i := x1) h1 (by omega)
  have q := h st.toNatClampNeg (by omega) hl
  have e1 : st.toNatClampNeg / 3 = x1.toNatClampNeg := by omega
  rw [e1] at q
  omega
theorem RC.init {T I : Nat → Nat → Int32} (h : ∀ s : Nat, s < 72 → (I 1 s).toInt = 1000000) : RC T I := fun s h1 h2 => by rw [h s h1] at h2; omega
theorem init_step {I I' : Nat → Nat → Int32} {v x : Int32} {v2 : Int} (h : ∀ s : Nat, (s : Int) < v.toInt → (I 1 s).toInt = 1000000) (hv : 0 ≤ v.toInt) (e : I' 1 = upd (I 1) v.toNatClampNeg x) (hx : x.toInt = 1000000) (h2 : v2 = v.toInt + 1) : ∀ s : Nat, (s : Int) < v2 → (I' 1 s).toInt = 1000000 := fun s hs => by
  have i1 := t_cl (i := v) rfl hv
  rw [e]
  by_cases q : s = v.toNatClampNeg
  · rw [upd_at q]; exact hx
  · rw [pk_un q]; exact h s (by omega)
set_option maxHeartbeats 4000000 in
set_option maxRecDepth 100000 in
theorem kX0_reach (l : Launch) (g : gG) (a_c : Nat → Nat) (I_c : Nat → Nat → Int32) (a_t : Nat → Nat) (I_t : Nat → Nat → Int32) (rule : Int32) (place : Int32) (cells : Int32) (h_rule : 0 ≤ rule.toInt ∧ rule.toInt < 24) (h_p : 0 ≤ place.toInt) (hT : TI I_t) : EffI l g yX0_reach wsX0_reach 1 [.ref (a_c 0), .int rule, .int place, .int cells, .ref (a_t 0)] (wX0 g a_c I_c ++ wX7 g a_t I_t) (fun (u : (Nat → Nat → Int32)) => wX0 g a_c u ++ wX7 g a_t I_t) (fun r (u : (Nat → Nat → Int32)) => (r = 0 ∨ r = 1) ∧ (RC I_t I_c → RC I_t (u)) ∧ gwRe (cC I_t) (I_c 1) ((u) 1) (I_c 0 1) ((u) 0 1) rule.toInt.toNat place.toInt.toNat cells.toInt r) := by
  refine EffI.sz (cc := cX0_reach) (maxL := 7) (by decide) rfl (Nat.le_of_ble_eq_true rfl) (fun p e s m args below meth c A Q ls fx hK hP hD hA hS hl hret => ?_)
  have hx := fx.1
  have hb := fx.2.1
  have hml := fx.2.2.1
  have hown := fx.2.2.2.1
  have hts := fx.2.2.2.2
  have hl : lv_has ls 7 [(0, .ref (a_c 0)), (1, .int rule), (2, .int place), (3, .int cells), (4, .ref (a_t 0))] := hl
  have hP : va_P g.1 vwCl (wX0 g a_c I_c ++ wX7 g a_t I_t) s.heap := hP
  have hf_11 := hts _ (uT _ _ u_147)
  have hf_16 := hts _ (uT _ _ u_149)
  have hf_33 := hts _ (uT _ _ u_1548)
  have hi_X0 : ∀ w ∈ wsX00, w.before args s = true := fun w h => hts w (uT _ w (u_wsX00 w h))
  have hi_X7 : ∀ w ∈ wsX70, w.before args s = true := fun w h => hts w (uT _ w (u_wsX70 w h))
  have lm1 : (-1 : Int32).toInt = -1 := by decide
  have lm0 : (0 : Int32).toInt = 0 := by decide
  have lm2 : (1 : Int32).toInt = 1 := by decide
  refine lv_iload_n hx hb dX0_reach_0 rfl (lv_at hl 2 rfl) ?_
  refine lv_aload hx hb dX0_reach_1 (lv_at hl 4 rfl) ?_
  refine va_get (D := g.1) (ci := 7) (v := .ref (a_t 3)) (C := RX7) (T := TX7) (N := 8) hx hb hi_X7 (fun _ h => h) hown hK.1 hP 2 rfl rfl 4 (by decide) hf_33 (fun _ h9 => h9) rfl dX0_reach_3 ?_
  refine lv_iload_n hx hb dX0_reach_6 rfl (lv_at hl 1 rfl) ?_
  have n_7 : vp_in rule 24 := (t_in (by omega))
  refine va_iald hx hb hK.1 hP 5 0 rfl rfl n_7 dX0_reach_7 ?_
  refine q_nm (fun x1 e_x1 => ?_)
  have e_x1 : x1 = (I_t 3) rule.toNatClampNeg := e_x1
  have g_x1 : x1.toInt = ((I_t 3) rule.toNatClampNeg).toInt := congrArg _ e_x1
  have f_x1 := TI.cc hT rule.toNatClampNeg
  rw [← e_x1] at f_x1
  refine q_icmp_lt (tgt := 25) hx hb dX0_reach_8 (by decide) rfl rfl (fun k_8 => ?_) (fun k_8 => ?_)
  · refine lv_iload_n hx hb dX0_reach_25 rfl (lv_at hl 1 rfl) ?_
    refine lv_iconst (v := 3) hx hb dX0_reach_26 (by decide) ?_
    refine r_imul hx hb dX0_reach_27 rfl (by decide : (3 : Int32).toInt = 3) (fun x2 e_x2 t_x2 => ?_)
    try have t_x2 := t_x2 (by omega)
    refine lv_iload_n hx hb dX0_reach_28 rfl (lv_at hl 2 rfl) ?_
    refine r_iadd hx hb dX0_reach_29 rfl rfl (fun x3 e_x3 t_x3 => ?_)
    try have t_x3 := t_x3 (by omega)
    refine lv_istore (lv' := [(5, .int x3), (0, .ref (a_c 0)), (1, .int rule), (2, .int place), (3, .int cells), (4, .ref (a_t 0))]) hx hb dX0_reach_30 hl (by decide) rfl (fun ls hl => ?_)
    refine lv_iload_n hx hb dX0_reach_32 rfl (lv_at hl 4 rfl) ?_
    refine lv_aload_n hx hb dX0_reach_33 rfl (lv_at hl 1 rfl) ?_
    refine va_get (D := g.1) (ci := 0) (v := .ref (a_c 1)) (C := RX0) (T := TX0) (N := 2) hx hb hi_X0 (fun _ h => h) hown hK.1 hP 0 rfl rfl 0 (by decide) hf_11 (fun _ h9 => h9) rfl dX0_reach_34 ?_
    refine lv_iload hx hb dX0_reach_37 (lv_at hl 0 rfl) ?_
    have n_39 : vp_in x3 72 := (t_in (by omega))
    refine va_iald hx hb hK.1 hP 1 0 rfl rfl n_39 dX0_reach_39 ?_
    refine q_nm (fun x4 e_x4 => ?_)
    have e_x4 : x4 = (I_c 1) x3.toNatClampNeg := e_x4
    have g_x4 : x4.toInt = ((I_c 1) x3.toNatClampNeg).toInt := congrArg _ e_x4
    have i39 : (x3).toInt.toNat = (3 * rule.toInt.toNat + place.toInt.toNat) := by omega
    have h39 : (I_c 1 (3 * rule.toInt.toNat + place.toInt.toNat)).toInt = (x4).toInt := (by rw [← i39]; exact congrArg Int32.toInt e_x4.symm)
    refine q_icmp_ge (tgt := 47) hx hb dX0_reach_40 (by decide) rfl rfl (fun k_40 => ?_) (fun k_40 => ?_)
    · refine lv_iconst (v := 0) hx hb dX0_reach_47 (by decide) ?_
      refine lv_istore (lv' := [(6, .int (0 : Int32)), (5, .int x3), (0, .ref (a_c 0)), (1, .int rule), (2, .int place), (3, .int cells), (4, .ref (a_t 0))]) hx hb dX0_reach_48 hl (by decide) rfl (fun ls hl => ?_)
      refine lv_iload hx hb dX0_reach_50 (lv_at hl 0 rfl) ?_
      refine q_if_eq (tgt := 63) hx hb dX0_reach_52 (by decide) (by decide : (0 : Int32).toInt = 0) (fun b_52 k_52 => ?_) (fun b_52 k_52 => ?_)
      · refine lv_iload hx hb dX0_reach_63 (lv_at hl 0 rfl) ?_
        refine hret 65 ls (0 : Int32) _ _ I_c dX0_reach_65 (Or.inl rfl) hS hP hD ?_
        exact (by have c7 : (cC I_t rule.toInt.toNat).toInt = (x1).toInt := congrArg Int32.toInt e_x1.symm; exact ⟨Or.inl rfl, fun h => h, Or.inr ⟨by unfold gwc; omega, rfl, Or.inr ⟨by omega, rfl, rfl⟩⟩⟩)
      · exfalso
        omega
    · refine lv_iconst (v := 1) hx hb dX0_reach_43 (by decide) ?_
      refine lv_goto (tgt := 48) hx hb dX0_reach_44 (by decide) ?_
      refine lv_istore (lv' := [(6, .int (1 : Int32)), (5, .int x3), (0, .ref (a_c 0)), (1, .int rule), (2, .int place), (3, .int cells), (4, .ref (a_t 0))]) hx hb dX0_reach_48 hl (by decide) rfl (fun ls hl => ?_)
      refine lv_iload hx hb dX0_reach_50 (lv_at hl 0 rfl) ?_
      refine q_if_eq (tgt := 63) hx hb dX0_reach_52 (by decide) (by decide : (1 : Int32).toInt = 1) (fun b_52 k_52 => ?_) (fun b_52 k_52 => ?_)
      · exfalso
        omega
      · refine lv_aload_n hx hb dX0_reach_55 rfl (lv_at hl 2 rfl) ?_
        refine va_get (D := g.1) (ci := 0) (v := .ref (a_c 1)) (C := RX0) (T := TX0) (N := 2) hx hb hi_X0 (fun _ h => h) hown hK.1 hP 0 rfl rfl 0 (by decide) hf_11 (fun _ h9 => h9) rfl dX0_reach_56 ?_
        refine lv_iload hx hb dX0_reach_59 (lv_at hl 1 rfl) ?_
        refine lv_iload_n hx hb dX0_reach_61 rfl (lv_at hl 5 rfl) ?_
        have n_62 : vp_in x3 72 := (t_in (by omega))
        obtain ⟨f5, e_f5⟩ : ∃ z, z = upd (I_c 1) x3.toNatClampNeg cells := ⟨_, rfl⟩
        refine va_iast hx hb hK.1 hP hD hS 1 0 rfl rfl n_62 dX0_reach_62 (fun H locs hP hD hS => ?_)
        have hP : va_P g.1 vwCl (wX0 g a_c (uR I_c 1 f5) ++ wX7 g a_t I_t) H := by rw [e_f5]; exact hP
        have hD : va_D A (wX0 g a_c (uR I_c 1 f5) ++ wX7 g a_t I_t) := by rw [e_f5]; exact hD
        refine lv_iload hx hb dX0_reach_63 (lv_at hl 0 rfl) ?_
        have lr : (1 : Int32).toInt = 1 := by decide
        refine hret 65 ls (1 : Int32) _ _ (uR I_c 1 f5) dX0_reach_65 (Or.inr rfl) hS hP hD ?_
        exact (by have c7 : (cC I_t rule.toInt.toNat).toInt = (x1).toInt := congrArg Int32.toInt e_x1.symm; first | exact ⟨Or.inl rfl, fun h => h, Or.inr ⟨by unfold gwc; omega, rfl, Or.inr ⟨by omega, rfl, rfl⟩⟩⟩ | exact ⟨Or.inr rfl, fun h => h.set (rule := rule) (place := place) e_f5 (by omega) (by omega) (by omega) (by omega), Or.inr ⟨by unfold gwc; omega, rfl, Or.inl ⟨by omega, rfl, cells, (by rw [← i39]; show f5 = _; exact e_f5), rfl⟩⟩⟩)
  · refine lv_aload_n hx hb dX0_reach_11 rfl (lv_at hl 0 rfl) ?_
    refine lv_aload_n hx hb dX0_reach_12 rfl (lv_at hl 0 rfl) ?_
    refine va_get (D := g.1) (ci := 0) (v := .int (I_c 0 1)) (C := RX0) (T := TX0) (N := 2) hx hb hi_X0 (fun _ h => h) hown hK.1 hP 0 rfl rfl 1 (by decide) hf_16 (fun _ h9 => h9) rfl dX0_reach_13 ?_
    refine lv_iload_n hx hb dX0_reach_16 rfl (lv_at hl 3 rfl) ?_
    refine va_mmin hx hb (hml.trans hl.1.symm) hown (hts _ (uT _ _ u_1555)) (hts _ (uT _ _ u_523)) (hts _ (uT _ _ u_524)) (hts _ (uT _ _ u_525)) (Nat.le_of_ble_eq_true rfl) (Nat.le_of_ble_eq_true rfl) (Nat.zero_le _) (Nat.zero_le _) dX0_reach_17 ?_
    refine q_nm (fun x6 e_x6 => ?_)
    have t_x6 := t_min e_x6 rfl rfl
    refine va_put (D := g.1) (ci := 0) (v := .int x6) (ty := .int) (C := RX0) (T := TX0) (N := 2) hx hb hi_X0 (fun _ h => h) tyX0 tyX0_ok nmX0 hown hK.1 hP hD hS 0 rfl rfl 1 (by decide) hf_16 (fun _ h9 => h9) rfl (by decide +kernel) rfl rfl (Nat.le_of_ble_eq_true rfl) dX0_reach_20 (fun H locs hP hD hS => ?_)
    have hP : va_P g.1 vwCl (wX0 g a_c (uF I_c 0 1 x6) ++ wX7 g a_t I_t) H := hP
    have hD : va_D A (wX0 g a_c (uF I_c 0 1 x6) ++ wX7 g a_t I_t) := hD
    refine lv_iconst (v := 0) hx hb dX0_reach_23 (by decide) ?_
    refine hret 24 ls (0 : Int32) _ _ (uF I_c 0 1 x6) dX0_reach_24 (Or.inl rfl) hS hP hD ?_
    exact (by have c7 : (cC I_t rule.toInt.toNat).toInt = (x1).toInt := congrArg Int32.toInt e_x1.symm; exact ⟨Or.inl rfl, fun h => h, Or.inl ⟨by unfold gwc; omega, rfl, rfl, t_x6⟩⟩)

set_option maxHeartbeats 4000000 in
set_option maxRecDepth 100000 in
theorem kX0_append (l : Launch) (g : gG) (a_c : Nat → Nat) (I_c : Nat → Nat → Int32) (a_t : Nat → Nat) (I_t : Nat → Nat → Int32) (state : Int32) (next : Int32) (h_s : 0 ≤ state.toInt ∧ state.toInt < 72) (h_n : 0 ≤ next.toInt ∧ next.toInt < 24) (hT : TI I_t) (hRC : RC I_t I_c) (h_l : (I_c 1 state.toNatClampNeg).toInt < 1000000) (h_cc : gwH (I_t 0 0).toInt.toNat (cC I_t)) (hSd : gwSd (I_t 0 0).toInt.toNat (I_t 0 1) (cC I_t) (cL I_t) (I_c 1) (I_c 0 1)) (h_nx : next.toInt < (I_t 0 0).toInt) (h_in : outB (I_t 0 1) next = false) : EffI l g yX0_append wsX0_append 2 [.ref (a_c 0), .int state, .int next, .ref (a_t 0)] (wX0 g a_c I_c ++ wX7 g a_t I_t) (fun (u : (Nat → Nat → Int32)) => wX0 g a_c u ++ wX7 g a_t I_t) (fun r (u : (Nat → Nat → Int32)) => (r = 0 ∨ r = 1) ∧ RC I_t (u) ∧ gwSd (I_t 0 0).toInt.toNat (I_t 0 1) (cC I_t) (cL I_t) ((u) 1) ((u) 0 1) ∧ gwT (I_t 0 0).toInt.toNat (I_t 0 1) (cC I_t) (cL I_t) (fun s => s) (I_c 1) ((u) 1) (I_c 0 1) ((u) 0 1) state.toInt.toNat next.toInt.toNat r) := by
  refine EffI.sz (cc := cX0_append) (maxL := 8) (by decide) rfl (Nat.le_of_ble_eq_true rfl) (fun p e s m args below meth c A Q ls fx hK hP hD hA hS hl hret => ?_)
  have hx := fx.1
  have hb := fx.2.1
  have hml := fx.2.2.1
  have hown := fx.2.2.2.1
  have hts := fx.2.2.2.2
  have hl : lv_has ls 8 [(0, .ref (a_c 0)), (1, .int state), (2, .int next), (3, .ref (a_t 0))] := hl
  have hP : va_P g.1 vwCl (wX0 g a_c I_c ++ wX7 g a_t I_t) s.heap := hP
  have hf_11 := hts _ (uT _ _ u_147)
  have hf_33 := hts _ (uT _ _ u_1548)
  have hi_X0 : ∀ w ∈ wsX00, w.before args s = true := fun w h => hts w (uT _ w (u_wsX00 w h))
  have hi_X7 : ∀ w ∈ wsX70, w.before args s = true := fun w h => hts w (uT _ w (u_wsX70 w h))
  have lm1 : (-1 : Int32).toInt = -1 := by decide
  have lm0 : (0 : Int32).toInt = 0 := by decide
  have lm2 : (1 : Int32).toInt = 1 := by decide
  refine lv_iload_n hx hb dX0_append_0 rfl (lv_at hl 1 rfl) ?_
  refine lv_iconst (v := 3) hx hb dX0_append_1 (by decide) ?_
  refine lv_idiv hx hb dX0_append_2 (by decide) ?_
  refine q_nm (fun x1 e_x1 => ?_)
  try have t_x1 := t_div e_x1 rfl (by decide : (3 : Int32).toInt = 3) (by omega) (by omega)
  refine lv_istore (lv' := [(4, .int x1), (0, .ref (a_c 0)), (1, .int state), (2, .int next), (3, .ref (a_t 0))]) hx hb dX0_append_3 hl (by decide) rfl (fun ls hl => ?_)
  refine lv_iload_n hx hb dX0_append_5 rfl (lv_at hl 2 rfl) ?_
  refine lv_iconst (v := 3) hx hb dX0_append_6 (by decide) ?_
  refine lv_irem hx hb dX0_append_7 (by decide) ?_
  refine q_nm (fun x2 e_x2 => ?_)
  try have t_x2 := t_rem e_x2 rfl (by decide : (3 : Int32).toInt = 3) (by omega) (by omega)
  refine lv_istore (lv' := [(5, .int x2), (4, .int x1), (0, .ref (a_c 0)), (1, .int state), (2, .int next), (3, .ref (a_t 0))]) hx hb dX0_append_8 hl (by decide) rfl (fun ls hl => ?_)
  refine lv_aload_n hx hb dX0_append_10 rfl (lv_at hl 5 rfl) ?_
  refine va_get (D := g.1) (ci := 7) (v := .ref (a_t 3)) (C := RX7) (T := TX7) (N := 8) hx hb hi_X7 (fun _ h => h) hown hK.1 hP 2 rfl rfl 4 (by decide) hf_33 (fun _ h9 => h9) rfl dX0_append_11 ?_
  refine lv_iload hx hb dX0_append_14 (lv_at hl 1 rfl) ?_
  have n_16 : vp_in x1 24 := (t_in (by omega))
  refine va_iald hx hb hK.1 hP 5 0 rfl rfl n_16 dX0_append_16 ?_
  refine q_nm (fun x3 e_x3 => ?_)
  have e_x3 : x3 = (I_t 3) x1.toNatClampNeg := e_x3
  have g_x3 : x3.toInt = ((I_t 3) x1.toNatClampNeg).toInt := congrArg _ e_x3
  have f_x3 := TI.cc hT x1.toNatClampNeg
  rw [← e_x3] at f_x3
  refine lv_iload hx hb dX0_append_17 (lv_at hl 0 rfl) ?_
  have hu := RC.use hRC h_s h_l (x1 := x1) (x2 := x2) (by omega) (by omega)
  refine r_isub hx hb dX0_append_19 rfl rfl (fun x4 e_x4 t_x4 => ?_)
  try have t_x4 := t_x4 (by omega)
  refine lv_istore (lv' := [(6, .int x4), (5, .int x2), (4, .int x1), (0, .ref (a_c 0)), (1, .int state), (2, .int next), (3, .ref (a_t 0))]) hx hb dX0_append_20 hl (by decide) rfl (fun ls hl => ?_)
  refine lv_aload_n hx hb dX0_append_22 rfl (lv_at hl 6 rfl) ?_
  refine va_get (D := g.1) (ci := 7) (v := .ref (a_t 3)) (C := RX7) (T := TX7) (N := 8) hx hb hi_X7 (fun _ h => h) hown hK.1 hP 2 rfl rfl 4 (by decide) hf_33 (fun _ h9 => h9) rfl dX0_append_23 ?_
  refine lv_iload_n hx hb dX0_append_26 rfl (lv_at hl 5 rfl) ?_
  have n_27 : vp_in next 24 := (t_in (by omega))
  refine va_iald hx hb hK.1 hP 5 0 rfl rfl n_27 dX0_append_27 ?_
  refine q_nm (fun x5 e_x5 => ?_)
  have e_x5 : x5 = (I_t 3) next.toNatClampNeg := e_x5
  have g_x5 : x5.toInt = ((I_t 3) next.toNatClampNeg).toInt := congrArg _ e_x5
  have f_x5 := TI.cc hT next.toNatClampNeg
  rw [← e_x5] at f_x5
  refine lv_istore (lv' := [(7, .int x5), (6, .int x4), (5, .int x2), (4, .int x1), (0, .ref (a_c 0)), (1, .int state), (2, .int next), (3, .ref (a_t 0))]) hx hb dX0_append_28 hl (by decide) rfl (fun ls hl => ?_)
  refine lv_aload_n hx hb dX0_append_30 rfl (lv_at hl 7 rfl) ?_
  refine lv_iload hx hb dX0_append_31 (lv_at hl 3 rfl) ?_
  refine lv_iload hx hb dX0_append_33 (lv_at hl 2 rfl) ?_
  refine lv_iload_n hx hb dX0_append_35 rfl (lv_at hl 6 rfl) ?_
  refine lv_iconst (v := 0) hx hb dX0_append_36 (by decide) ?_
  refine lv_iload hx hb dX0_append_37 (lv_at hl 1 rfl) ?_
  refine lv_iload hx hb dX0_append_39 (lv_at hl 0 rfl) ?_
  refine va_mmin hx hb (hml.trans hl.1.symm) hown (hts _ (uT _ _ u_1555)) (hts _ (uT _ _ u_523)) (hts _ (uT _ _ u_524)) (hts _ (uT _ _ u_525)) (Nat.le_of_ble_eq_true rfl) (Nat.le_of_ble_eq_true rfl) (Nat.zero_le _) (Nat.zero_le _) dX0_append_41 ?_
  refine q_nm (fun x6 e_x6 => ?_)
  have t_x6 := t_min e_x6 rfl rfl
  refine PurI.cv (As := [.int x1, .int x2, .int next, .int (0 : Int32), .int x6]) (kX7_areAlike l g a_t I_t x1 x2 next (0 : Int32) x6 (by omega) (by omega) (by omega) hT) fx (gUV (uT _) u_1564 u_1490 u_1491 u_31 u_1492) rfl hdX7_areAlike ⟨Nat.le_of_ble_eq_true rfl, Nat.le_of_ble_eq_true rfl⟩ hK hP [2, 3, 4, 5, 6, 7, 8] rfl rfl rfl rfl rfl hl.1 (Nat.le_of_ble_eq_true rfl) dX0_append_44 (fun r7 p_r7 => ?_)
  have s1 : (x1).toInt.toNat = state.toInt.toNat / 3 := by omega
  have s2 : (x2).toInt.toNat = state.toInt.toNat % 3 := by omega
  have cA : gwA (cC I_t) state.toInt.toNat = (x4).toInt.toNat := (by have c16 : (cC I_t (x1).toInt.toNat).toInt = (x3).toInt := congrArg Int32.toInt e_x3.symm; unfold gwA gwc; rw [← s1, ← s2]; omega)
  have cT : gwc (cC I_t) next.toInt.toNat = (x5).toInt.toNat := (by have c27 : (cC I_t next.toInt.toNat).toInt = (x5).toInt := congrArg Int32.toInt e_x5.symm; unfold gwc; omega)
  have hIn : gwIn (I_t 0 0).toInt.toNat (I_t 0 1) next.toInt.toNat := ⟨by omega, (by have e9 := (t_nI (x := next) rfl h_n.1).1; rw [← e9]; exact h_in)⟩
  have h_l9 : (I_c 1 state.toInt.toNat).toInt < 1000000 := h_l
  refine q_if_ne (tgt := 52) hx hb dX0_append_47 (by decide) rfl (fun b_47 k_47 => ?_) (fun b_47 k_47 => ?_)
  · have q_47 := bP.t p_r7 b_47
    have hg : gwG (cC I_t) (cL I_t) state.toInt.toNat next.toInt.toNat := fun k h1 h2 => (by rw [cA] at h1; rw [cT] at h2; rw [← s1, ← s2]; have w := q_47 k (by omega); rw [show (0 : Int32).toInt.toNat = 0 from rfl, Nat.zero_add] at w; exact w)
    refine lv_iload hx hb dX0_append_52 (lv_at hl 0 rfl) ?_
    refine lv_iload hx hb dX0_append_54 (lv_at hl 1 rfl) ?_
    refine q_icmp_gt (tgt := 78) hx hb dX0_append_56 (by decide) rfl rfl (fun k_56 => ?_) (fun k_56 => ?_)
    · refine lv_aload_n hx hb dX0_append_78 rfl (lv_at hl 4 rfl) ?_
      refine lv_iload_n hx hb dX0_append_79 rfl (lv_at hl 6 rfl) ?_
      refine lv_iload hx hb dX0_append_80 (lv_at hl 1 rfl) ?_
      refine lv_aload_n hx hb dX0_append_82 rfl (lv_at hl 4 rfl) ?_
      refine va_get (D := g.1) (ci := 0) (v := .ref (a_c 1)) (C := RX0) (T := TX0) (N := 2) hx hb hi_X0 (fun _ h => h) hown hK.1 hP 0 rfl rfl 0 (by decide) hf_11 (fun _ h9 => h9) rfl dX0_append_83 ?_
      refine lv_iload_n hx hb dX0_append_86 rfl (lv_at hl 5 rfl) ?_
      have n_87 : vp_in state 72 := (t_in (by omega))
      refine va_iald hx hb hK.1 hP 1 0 rfl rfl n_87 dX0_append_87 ?_
      refine q_nm (fun x8 e_x8 => ?_)
      have e_x8 : x8 = (I_c 1) state.toNatClampNeg := e_x8
      have g_x8 : x8.toInt = ((I_c 1) state.toNatClampNeg).toInt := congrArg _ e_x8
      have l87 : 1 ≤ (x8).toInt := (by rw [e_x8]; exact gwSd.lo (s := state.toInt.toNat) h_cc hSd (by omega) h_l)
      refine lv_iload hx hb dX0_append_88 (lv_at hl 0 rfl) ?_
      refine r_iadd hx hb dX0_append_90 rfl rfl (fun x9 e_x9 t_x9 => ?_)
      try have t_x9 := t_x9 (by omega)
      refine lv_iload hx hb dX0_append_91 (lv_at hl 1 rfl) ?_
      refine r_isub hx hb dX0_append_93 rfl rfl (fun x10 e_x10 t_x10 => ?_)
      try have t_x10 := t_x10 (by omega)
      refine lv_aload_n hx hb dX0_append_94 rfl (lv_at hl 7 rfl) ?_
      refine EffI.cv (wr := ([])) (w' := fun u12 => wX0 g a_c u12 ++ wX7 g a_t I_t) (As := [.int next, .int x4, .int x10, .ref (a_t 0)]) (kX0_reach l g a_c I_c a_t I_t next x4 x10 (by omega) (by omega) hT) fx (gUV (uT _) u_1551 u_1552 u_1553 u_53 u_1554) rfl hdX0_reach ⟨Nat.le_of_ble_eq_true rfl, Nat.le_of_ble_eq_true rfl⟩ hK hP hD hS hA [0, 1, 2, 3, 4, 5, 6, 7, 8] [] [0, 1, 2, 3, 4, 5, 6, 7, 8] rfl rfl rfl rfl (by decide) rfl (fun _ => rfl) rfl rfl rfl rfl hl.1 (Nat.le_of_ble_eq_true rfl) dX0_append_95 (fun r11 u12 H locs p_r11 hP hD hS => ?_)
      have hP : va_P g.1 vwCl (wX0 g a_c u12 ++ wX7 g a_t I_t) H := hP
      have hD : va_D A (wX0 g a_c u12 ++ wX7 g a_t I_t) := hD
      refine hret 98 ls r11 _ _ u12 dX0_append_98 p_r11.1 hS hP hD ?_
      exact (by have T := gwRe.tt h_cc hSd (s := state.toInt.toNat) (t := next.toInt.toNat) (by omega) h_l9 hIn hg (Or.inr ⟨by rw [cA, cT]; omega, (by have w := p_r11.2.2; rw [show (x4).toInt.toNat = gwA (cC I_t) state.toInt.toNat from cA.symm, show (x10).toInt = (I_c 1 state.toInt.toNat).toInt + (gwc (cC I_t) next.toInt.toNat : Int) - (gwA (cC I_t) state.toInt.toNat : Int) from (by rw [cA, cT]; have g9 : (I_c 1 state.toInt.toNat).toInt = (x8).toInt := congrArg Int32.toInt e_x8.symm; omega)] at w; exact w)⟩); exact ⟨p_r11.1, p_r11.2.1 hRC, T.1, T.2⟩)
    · refine lv_aload_n hx hb dX0_append_59 rfl (lv_at hl 4 rfl) ?_
      refine lv_iload hx hb dX0_append_60 (lv_at hl 3 rfl) ?_
      refine lv_iload hx hb dX0_append_62 (lv_at hl 2 rfl) ?_
      refine lv_iload hx hb dX0_append_64 (lv_at hl 0 rfl) ?_
      refine r_iadd hx hb dX0_append_66 rfl rfl (fun x13 e_x13 t_x13 => ?_)
      try have t_x13 := t_x13 (by omega)
      refine lv_aload_n hx hb dX0_append_67 rfl (lv_at hl 4 rfl) ?_
      refine va_get (D := g.1) (ci := 0) (v := .ref (a_c 1)) (C := RX0) (T := TX0) (N := 2) hx hb hi_X0 (fun _ h => h) hown hK.1 hP 0 rfl rfl 0 (by decide) hf_11 (fun _ h9 => h9) rfl dX0_append_68 ?_
      refine lv_iload_n hx hb dX0_append_71 rfl (lv_at hl 5 rfl) ?_
      have n_72 : vp_in state 72 := (t_in (by omega))
      refine va_iald hx hb hK.1 hP 1 0 rfl rfl n_72 dX0_append_72 ?_
      refine q_nm (fun x14 e_x14 => ?_)
      have e_x14 : x14 = (I_c 1) state.toNatClampNeg := e_x14
      have g_x14 : x14.toInt = ((I_c 1) state.toNatClampNeg).toInt := congrArg _ e_x14
      refine lv_aload_n hx hb dX0_append_73 rfl (lv_at hl 7 rfl) ?_
      refine EffI.cv (wr := ([])) (w' := fun u16 => wX0 g a_c u16 ++ wX7 g a_t I_t) (As := [.int x1, .int x13, .int x14, .ref (a_t 0)]) (kX0_reach l g a_c I_c a_t I_t x1 x13 x14 (by omega) (by omega) hT) fx (gUV (uT _) u_1551 u_1552 u_1553 u_53 u_1554) rfl hdX0_reach ⟨Nat.le_of_ble_eq_true rfl, Nat.le_of_ble_eq_true rfl⟩ hK hP hD hS hA [0, 1, 2, 3, 4, 5, 6, 7, 8] [] [0, 1, 2, 3, 4, 5, 6, 7, 8] rfl rfl rfl rfl (by decide) rfl (fun _ => rfl) rfl rfl rfl rfl hl.1 (Nat.le_of_ble_eq_true rfl) dX0_append_74 (fun r15 u16 H locs p_r15 hP hD hS => ?_)
      have hP : va_P g.1 vwCl (wX0 g a_c u16 ++ wX7 g a_t I_t) H := hP
      have hD : va_D A (wX0 g a_c u16 ++ wX7 g a_t I_t) := hD
      refine hret 77 ls r15 _ _ u16 dX0_append_77 p_r15.1 hS hP hD ?_
      exact (by have T := gwRe.tt h_cc hSd (s := state.toInt.toNat) (t := next.toInt.toNat) (by omega) h_l9 hIn hg (Or.inl ⟨by rw [cA, cT]; omega, (by have w := p_r15.2.2; rw [s1, show (x13).toInt.toNat = state.toInt.toNat % 3 + gwc (cC I_t) next.toInt.toNat from (by rw [cT, ← s2]; omega), show (x14).toInt = (I_c 1 state.toInt.toNat).toInt from congrArg Int32.toInt e_x14] at w; exact w)⟩); exact ⟨p_r15.1, p_r15.2.1 hRC, T.1, T.2⟩)
  · have q_47 := bP.f p_r7 b_47
    have hng : ¬ gwG (cC I_t) (cL I_t) state.toInt.toNat next.toInt.toNat := fun w => (by obtain ⟨k, h1, h2⟩ := q_47; exact h2 (by have z := w k (by rw [cA]; omega) (by rw [cT]; omega); rw [← s1, ← s2] at z; rw [show (0 : Int32).toInt.toNat = 0 from rfl, Nat.zero_add]; exact z))
    refine lv_iconst (v := 0) hx hb dX0_append_50 (by decide) ?_
    refine hret 51 ls (0 : Int32) _ _ I_c dX0_append_51 (Or.inl rfl) hS hP hD ?_
    exact ⟨Or.inl rfl, hRC, hSd, gwT.no (fun w => hng w.2) rfl⟩

set_option maxHeartbeats 4000000 in
set_option maxRecDepth 100000 in
theorem kX0_goOn (l : Launch) (g : gG) (a_c : Nat → Nat) (I_c : Nat → Nat → Int32) (a_t : Nat → Nat) (I_t : Nat → Nat → Int32) (hT : TI I_t) (hRC : RC I_t I_c) (h_cc : gwH (I_t 0 0).toInt.toNat (cC I_t)) (hSd : gwSd (I_t 0 0).toInt.toNat (I_t 0 1) (cC I_t) (cL I_t) (I_c 1) (I_c 0 1)) : EffI l g yX0_goOn wsX0_goOn 3 [.ref (a_c 0), .ref (a_t 0)] (wX0 g a_c I_c ++ wX7 g a_t I_t) (fun (u : (Nat → Nat → Int32)) => wX0 g a_c u ++ wX7 g a_t I_t) (fun r (u : (Nat → Nat → Int32)) => (r = 0 ∨ r = 1) ∧ RC I_t (u) ∧ gwSd (I_t 0 0).toInt.toNat (I_t 0 1) (cC I_t) (cL I_t) ((u) 1) ((u) 0 1) ∧ gwGo (I_t 0 0).toInt.toNat (I_t 0 1) (cC I_t) (cL I_t) (I_c 1) ((u) 1) (I_c 0 1) ((u) 0 1) r) := by
  refine EffI.sz (cc := cX0_goOn) (maxL := 5) (by decide) rfl (Nat.le_of_ble_eq_true rfl) (fun p e s m args below meth c A Q ls fx hK hP hD hA hS hl hret => ?_)
  have hx := fx.1
  have hb := fx.2.1
  have hml := fx.2.2.1
  have hown := fx.2.2.2.1
  have hts := fx.2.2.2.2
  have hl : lv_has ls 5 [(0, .ref (a_c 0)), (1, .ref (a_t 0))] := hl
  have hP : va_P g.1 vwCl (wX0 g a_c I_c ++ wX7 g a_t I_t) s.heap := hP
  have hf_11 := hts _ (uT _ _ u_147)
  have hf_20 := hts _ (uT _ _ u_1547)
  have hi_X0 : ∀ w ∈ wsX00, w.before args s = true := fun w h => hts w (uT _ w (u_wsX00 w h))
  have hi_X7 : ∀ w ∈ wsX70, w.before args s = true := fun w h => hts w (uT _ w (u_wsX70 w h))
  have hc_15 := hts _ (uT _ _ u_148)
  have lm1 : (-1 : Int32).toInt = -1 := by decide
  have lm0 : (0 : Int32).toInt = 0 := by decide
  have lm2 : (1 : Int32).toInt = 1 := by decide
  have hru := TI.ru hT
  refine lv_iconst (v := 0) hx hb dX0_goOn_0 (by decide) ?_
  refine lv_istore_n (lv' := [(2, .int (0 : Int32)), (0, .ref (a_c 0)), (1, .ref (a_t 0))]) hx hb dX0_goOn_1 rfl hl (by decide) rfl (fun ls hl => ?_)
  refine lv_iconst (v := 0) hx hb dX0_goOn_2 (by decide) ?_
  refine lv_istore_n (lv' := [(3, .int (0 : Int32)), (2, .int (0 : Int32)), (0, .ref (a_c 0)), (1, .ref (a_t 0))]) hx hb dX0_goOn_3 rfl hl (by decide) rfl (fun ls hl => ?_)
  have L4 : ∀ (nn : Nat) (v2_4 : Int32) (v3_4 : Int32) (I_c_4 : Nat → Nat → Int32), (hv_4 : 0 ≤ v3_4.toInt ∧ v3_4.toInt ≤ 72) → (hf_4 : v2_4 = 0 ∨ v2_4 = 1) → (hRC_4 : RC I_t I_c_4) → (hSd_4 : gwSd (I_t 0 0).toInt.toNat (I_t 0 1) (cC I_t) (cL I_t) (I_c_4 1) (I_c_4 0 1)) → (hPr_4 : gwPr (I_t 0 0).toInt.toNat (I_t 0 1) (cC I_t) (cL I_t) (fun s => s) (I_c 1) (I_c_4 1) (I_c 0 1) (I_c_4 0 1) v2_4 v3_4.toInt.toNat 0) → ((73 - v3_4.toInt) < (nn : Int)) → ∀ (H : Heap) (locs : List Loc), va_P g.1 vwCl (wX0 g a_c I_c_4 ++ wX7 g a_t I_t) H → va_D A (wX0 g a_c I_c_4 ++ wX7 g a_t I_t) → va_S A s.heap H locs → ∀ ls : Array Slot, lv_has ls 5 [(3, .int v3_4), (2, .int v2_4), (0, .ref (a_c 0)), (1, .ref (a_t 0))] → W p l e (rm 3) s m args below meth c H locs 0 0 Q (F0 m 4 ls []) := by
    intro n_4
    induction n_4 with
    | zero =>
      intro v2_4 v3_4 I_c_4 hv_4 hf_4 hRC_4 hSd_4 hPr_4 hms_4 H locs hP hD hS ls hl
      exfalso; omega
    | succ n_4 ih_4 =>
      intro v2_4 v3_4 I_c_4 hv_4 hf_4 hRC_4 hSd_4 hPr_4 hms_4 H locs hP hD hS ls hl
      refine lv_iload_n hx hb dX0_goOn_4 rfl (lv_at hl 0 rfl) ?_
      refine lv_bipush (v := 72) hx hb dX0_goOn_5 (by decide) ?_
      refine q_icmp_ge (tgt := 67) hx hb dX0_goOn_7 (by decide) rfl (by decide : (72 : Int32).toInt = 72) (fun k_7 => ?_) (fun k_7 => ?_)
      · refine lv_iload_n hx hb dX0_goOn_67 rfl (lv_at hl 1 rfl) ?_
        refine hret 68 ls v2_4 _ _ I_c_4 dX0_goOn_68 hf_4 hS hP hD ?_
        exact ⟨hf_4, hRC_4, hSd_4, gwPr.go hPr_4 (fun s a => (by have w := a.1; show s < _; omega))⟩
      · refine lv_iconst (v := 0) hx hb dX0_goOn_10 (by decide) ?_
        refine lv_istore (lv' := [(4, .int (0 : Int32)), (3, .int v3_4), (2, .int v2_4), (0, .ref (a_c 0)), (1, .ref (a_t 0))]) hx hb dX0_goOn_11 hl (by decide) rfl (fun ls hl => ?_)
        have L13 : ∀ (nn : Nat) (v2_13 : Int32) (v4_13 : Int32) (I_c_13 : Nat → Nat → Int32), (hw_13 : 0 ≤ v4_13.toInt ∧ v4_13.toInt ≤ 24) → (hf_13 : v2_13 = 0 ∨ v2_13 = 1) → (hRC_13 : RC I_t I_c_13) → (hSd_13 : gwSd (I_t 0 0).toInt.toNat (I_t 0 1) (cC I_t) (cL I_t) (I_c_13 1) (I_c_13 0 1)) → (hPr_13 : gwPr (I_t 0 0).toInt.toNat (I_t 0 1) (cC I_t) (cL I_t) (fun s => s) (I_c 1) (I_c_13 1) (I_c 0 1) (I_c_13 0 1) v2_13 v3_4.toInt.toNat v4_13.toInt.toNat) → ((25 - v4_13.toInt) < (nn : Int)) → ∀ (H : Heap) (locs : List Loc), va_P g.1 vwCl (wX0 g a_c I_c_13 ++ wX7 g a_t I_t) H → va_D A (wX0 g a_c I_c_13 ++ wX7 g a_t I_t) → va_S A s.heap H locs → ∀ ls : Array Slot, lv_has ls 5 [(4, .int v4_13), (3, .int v3_4), (2, .int v2_13), (0, .ref (a_c 0)), (1, .ref (a_t 0))] → W p l e (rm 3) s m args below meth c H locs 0 0 Q (F0 m 13 ls []) := by
          intro n_13
          induction n_13 with
          | zero =>
            intro v2_13 v4_13 I_c_13 hw_13 hf_13 hRC_13 hSd_13 hPr_13 hms_13 H locs hP hD hS ls hl
            exfalso; omega
          | succ n_13 ih_13 =>
            intro v2_13 v4_13 I_c_13 hw_13 hf_13 hRC_13 hSd_13 hPr_13 hms_13 H locs hP hD hS ls hl
            refine lv_aload_n hx hb dX0_goOn_13 rfl (lv_at hl 3 rfl) ?_
            refine va_get (D := g.1) (ci := 0) (v := .ref (a_c 1)) (C := RX0) (T := TX0) (N := 2) hx hb hi_X0 (fun _ h => h) hown hK.1 hP 0 rfl rfl 0 (by decide) hf_11 (fun _ h9 => h9) rfl dX0_goOn_14 ?_
            refine lv_iload_n hx hb dX0_goOn_17 rfl (lv_at hl 1 rfl) ?_
            have n_18 : vp_in v3_4 72 := (t_in (by omega))
            refine va_iald hx hb hK.1 hP 1 0 rfl rfl n_18 dX0_goOn_18 ?_
            refine q_nm (fun x1 e_x1 => ?_)
            have e_x1 : x1 = (I_c_13 1) v3_4.toNatClampNeg := e_x1
            have g_x1 : x1.toInt = ((I_c_13 1) v3_4.toNatClampNeg).toInt := congrArg _ e_x1
            refine lv_ldc hx hb hown hc_15 dX0_goOn_19 ?_
            refine q_icmp_ge (tgt := 61) hx hb dX0_goOn_21 (by decide) rfl (by decide : (1000000 : Int32).toInt = 1000000) (fun k_21 => ?_) (fun k_21 => ?_)
            · refine r_iinc (lv' := fun i2 => [(3, .int i2), (4, .int v4_13), (2, .int v2_13), (0, .ref (a_c 0)), (1, .ref (a_t 0))]) hx hb dX0_goOn_61 hl (k := 1) rfl (by decide) rfl (by decide) (fun _ => rfl) (fun i2 e_i2 t_i2 ls hl => ?_)
              try have t_i2 := t_i2 (by omega)
              refine lv_goto (tgt := 4) hx hb dX0_goOn_64 (by decide) ?_
              exact ih_4 v2_13 i2 I_c_13 (by omega) hf_13 hRC_13 hSd_13 (by rw [show (i2).toInt.toNat = v3_4.toInt.toNat + 1 by omega]; exact gwPr.nx hPr_13 (by first | exact Or.inl (by omega) | exact Or.inr (fun s a e => (by have m9 := hPr_13.1.1 s; have e9 : s = v3_4.toInt.toNat := e; (have x9 : (I_c_13 1 s).toInt = (x1).toInt := (by rw [e9]; exact congrArg Int32.toInt e_x1.symm)); omega)))) (by omega) _ _ hP hD hS ls (lv_sub hl [0, 2, 3, 4] rfl)
            · refine lv_iload hx hb dX0_goOn_24 (lv_at hl 0 rfl) ?_
              refine lv_aload_n hx hb dX0_goOn_26 rfl (lv_at hl 4 rfl) ?_
              refine va_get (D := g.1) (ci := 7) (v := .int (I_t 0 0)) (C := RX7) (T := TX7) (N := 8) hx hb hi_X7 (fun _ h => h) hown hK.1 hP 2 rfl rfl 0 (by decide) hf_20 (fun _ h9 => h9) rfl dX0_goOn_27 ?_
              refine q_icmp_ge (tgt := 61) hx hb dX0_goOn_30 (by decide) rfl rfl (fun k_30 => ?_) (fun k_30 => ?_)
              · refine r_iinc (lv' := fun i3 => [(3, .int i3), (4, .int v4_13), (2, .int v2_13), (0, .ref (a_c 0)), (1, .ref (a_t 0))]) hx hb dX0_goOn_61 hl (k := 1) rfl (by decide) rfl (by decide) (fun _ => rfl) (fun i3 e_i3 t_i3 ls hl => ?_)
                try have t_i3 := t_i3 (by omega)
                refine lv_goto (tgt := 4) hx hb dX0_goOn_64 (by decide) ?_
                exact ih_4 v2_13 i3 I_c_13 (by omega) hf_13 hRC_13 hSd_13 (by rw [show (i3).toInt.toNat = v3_4.toInt.toNat + 1 by omega]; exact gwPr.nx hPr_13 (by first | exact Or.inl (by omega) | exact Or.inr (fun s a e => (by have m9 := hPr_13.1.1 s; have e9 : s = v3_4.toInt.toNat := e; (have x9 : (I_c_13 1 s).toInt = (x1).toInt := (by rw [e9]; exact congrArg Int32.toInt e_x1.symm)); omega)))) (by omega) _ _ hP hD hS ls (lv_sub hl [0, 2, 3, 4] rfl)
              · refine lv_aload_n hx hb dX0_goOn_33 rfl (lv_at hl 4 rfl) ?_
                refine lv_iload hx hb dX0_goOn_34 (lv_at hl 0 rfl) ?_
                refine PurI.cv (As := [.int v4_13]) (kX7_isThere l g a_t I_t v4_13) fx (gUV (uT _) u_1549 u_983 u_984 u_31 u_985) rfl hdX7_isThere ⟨Nat.le_of_ble_eq_true rfl, Nat.le_of_ble_eq_true rfl⟩ hK hP [2, 3, 4, 5, 6, 7, 8] rfl rfl rfl rfl rfl hl.1 (Nat.le_of_ble_eq_true rfl) dX0_goOn_36 (fun r4 p_r4 => ?_)
                refine q_if_eq (tgt := 55) hx hb dX0_goOn_39 (by decide) rfl (fun b_39 k_39 => ?_) (fun b_39 k_39 => ?_)
                · have q_39 := bP.f p_r4 b_39
                  have hn39 : ¬ gwIn (I_t 0 0).toInt.toNat (I_t 0 1) (v4_13).toInt.toNat := fun w => (by have e9 := (t_nI (x := v4_13) rfl (by omega)).1; have w2 := w.2; rw [← e9, q_39] at w2; exact absurd w2 (by decide))
                  refine r_iinc (lv' := fun i5 => [(4, .int i5), (3, .int v3_4), (2, .int v2_13), (0, .ref (a_c 0)), (1, .ref (a_t 0))]) hx hb dX0_goOn_55 hl (k := 0) rfl (by decide) rfl (by decide) (fun _ => rfl) (fun i5 e_i5 t_i5 ls hl => ?_)
                  try have t_i5 := t_i5 (by omega)
                  refine lv_goto (tgt := 13) hx hb dX0_goOn_58 (by decide) ?_
                  exact ih_13 v2_13 i5 I_c_13 (by omega) (by first | exact hf_13 | exact Or.inr rfl) (by exact hRC_13) (by exact hSd_13) (by rw [show (i5).toInt.toNat = v4_13.toInt.toNat + 1 by omega]; exact gwPr.sk hPr_13 hn39) (by omega) _ _ hP hD hS ls hl
                · have q_39 := bP.t p_r4 b_39
                  refine lv_aload_n hx hb dX0_goOn_42 rfl (lv_at hl 3 rfl) ?_
                  refine lv_iload_n hx hb dX0_goOn_43 rfl (lv_at hl 1 rfl) ?_
                  refine lv_iload hx hb dX0_goOn_44 (lv_at hl 0 rfl) ?_
                  refine lv_aload_n hx hb dX0_goOn_46 rfl (lv_at hl 4 rfl) ?_
                  refine EffI.cv (wr := ([])) (w' := fun u7 => wX0 g a_c u7 ++ wX7 g a_t I_t) (As := [.int v3_4, .int v4_13, .ref (a_t 0)]) (kX0_append l g a_c I_c_13 a_t I_t v3_4 v4_13 (by omega) (by omega) hT hRC_13 (by omega) h_cc hSd_13 (by omega) q_39) fx (gUV (uT _) u_1560 u_1561 u_1562 u_53 u_1563) rfl hdX0_append ⟨Nat.le_of_ble_eq_true rfl, Nat.le_of_ble_eq_true rfl⟩ hK hP hD hS hA [0, 1, 2, 3, 4, 5, 6, 7, 8] [] [0, 1, 2, 3, 4, 5, 6, 7, 8] rfl rfl rfl rfl (by decide) rfl (fun _ => rfl) rfl rfl rfl rfl hl.1 (Nat.le_of_ble_eq_true rfl) dX0_goOn_47 (fun r6 u7 H locs p_r6 hP hD hS => ?_)
                  have hP : va_P g.1 vwCl (wX0 g a_c u7 ++ wX7 g a_t I_t) H := hP
                  have hD : va_D A (wX0 g a_c u7 ++ wX7 g a_t I_t) := hD
                  refine q_if_eq (tgt := 55) hx hb dX0_goOn_50 (by decide) rfl (fun b_50 k_50 => ?_) (fun b_50 k_50 => ?_)
                  · refine r_iinc (lv' := fun i8 => [(4, .int i8), (3, .int v3_4), (2, .int v2_13), (0, .ref (a_c 0)), (1, .ref (a_t 0))]) hx hb dX0_goOn_55 hl (k := 0) rfl (by decide) rfl (by decide) (fun _ => rfl) (fun i8 e_i8 t_i8 ls hl => ?_)
                    try have t_i8 := t_i8 (by omega)
                    refine lv_goto (tgt := 13) hx hb dX0_goOn_58 (by decide) ?_
                    exact ih_13 v2_13 i8 u7 (by omega) (by first | exact hf_13 | exact Or.inr rfl) (by first | exact p_r6.2.1 | exact hRC_13) (by first | exact p_r6.2.2.1 | exact hSd_13) (by rw [show (i8).toInt.toNat = v4_13.toInt.toNat + 1 by omega]; first | exact gwPr.sk hPr_13 hn39 | exact gwPr.st hPr_13 p_r6.2.2.2 (fun e => absurd e (by decide)) | exact gwPr.st hPr_13 p_r6.2.2.2 (fun e => ⟨e, t_inj_ (by omega)⟩)) (by omega) _ _ hP hD hS ls hl
                  · refine lv_iconst (v := 1) hx hb dX0_goOn_53 (by decide) ?_
                    refine lv_istore_n (lv' := [(2, .int (1 : Int32)), (4, .int v4_13), (3, .int v3_4), (0, .ref (a_c 0)), (1, .ref (a_t 0))]) hx hb dX0_goOn_54 rfl hl (by decide) rfl (fun ls hl => ?_)
                    refine r_iinc (lv' := fun i9 => [(4, .int i9), (2, .int (1 : Int32)), (3, .int v3_4), (0, .ref (a_c 0)), (1, .ref (a_t 0))]) hx hb dX0_goOn_55 hl (k := 1) rfl (by decide) rfl (by decide) (fun _ => rfl) (fun i9 e_i9 t_i9 ls hl => ?_)
                    try have t_i9 := t_i9 (by omega)
                    refine lv_goto (tgt := 13) hx hb dX0_goOn_58 (by decide) ?_
                    exact ih_13 (1 : Int32) i9 u7 (by omega) (by first | exact hf_13 | exact Or.inr rfl) (by first | exact p_r6.2.1 | exact hRC_13) (by first | exact p_r6.2.2.1 | exact hSd_13) (by rw [show (i9).toInt.toNat = v4_13.toInt.toNat + 1 by omega]; first | exact gwPr.sk hPr_13 hn39 | exact gwPr.st hPr_13 p_r6.2.2.2 (fun e => absurd e (by decide)) | exact gwPr.st hPr_13 p_r6.2.2.2 (fun e => ⟨e, t_inj_ (by omega)⟩)) (by omega) _ _ hP hD hS ls (lv_sub hl [0, 2, 1, 3, 4] rfl)
        exact L13 ((25 - (0 : Int32).toInt) + 1).toNat v2_4 (0 : Int32) I_c_4 (by omega) hf_4 hRC_4 hSd_4 (by rw [lm0]; exact hPr_4) (by omega) _ _ hP hD hS ls hl
  exact L4 ((73 - (0 : Int32).toInt) + 1).toNat (0 : Int32) (0 : Int32) I_c (by omega) (Or.inl rfl) hRC hSd (gwPr.in (fun s _ w => (by have w9 : s < (0 : Int32).toInt.toNat := w; rw [lm0] at w9; exact absurd w9 (Nat.not_lt_zero s)))) (by omega) _ _ hP hD hS ls hl

set_option maxHeartbeats 4000000 in
set_option maxRecDepth 100000 in
theorem kX0_shortestTwin (l : Launch) (g : gG) (a_c : Nat → Nat) (I_c : Nat → Nat → Int32) (a_t : Nat → Nat) (I_t : Nat → Nat → Int32) (hT : TI I_t) (h_cc : gwH (I_t 0 0).toInt.toNat (cC I_t)) : EffI l g yX0_shortestTwin wsX0_shortestTwin 4 [.ref (a_c 0), .ref (a_t 0)] (wX0 g a_c I_c ++ wX7 g a_t I_t) (fun (u : (Nat → Nat → Int32)) => wX0 g a_c u ++ wX7 g a_t I_t) (fun r (u : (Nat → Nat → Int32)) => ((r = -1 ∧ gwL (I_t 0 0).toInt.toNat (I_t 0 1) (cC I_t) (cL I_t) 1000000) ∨ (r.toInt ≠ -1 ∧ r.toInt ≠ 1000000 ∧ gwL (I_t 0 0).toInt.toNat (I_t 0 1) (cC I_t) (cL I_t) r.toInt))) := by
  refine EffI.st (cc := cX0_shortestTwin) (maxL := 5) (by decide) rfl (Nat.le_of_ble_eq_true rfl) (fun p e s m args below meth c A Q ls fx hK hP hD hA hS hl hret => ?_)
  have hx := fx.1
  have hb := fx.2.1
  have hml := fx.2.2.1
  have hown := fx.2.2.2.1
  have hts := fx.2.2.2.2
  have hl : lv_has ls 5 [(0, .ref (a_c 0)), (1, .ref (a_t 0))] := hl
  have hP : va_P g.1 vwCl (wX0 g a_c I_c ++ wX7 g a_t I_t) s.heap := hP
  have hf_11 := hts _ (uT _ _ u_147)
  have hf_16 := hts _ (uT _ _ u_149)
  have hf_20 := hts _ (uT _ _ u_1547)
  have hf_33 := hts _ (uT _ _ u_1548)
  have hi_X0 : ∀ w ∈ wsX00, w.before args s = true := fun w h => hts w (uT _ w (u_wsX00 w h))
  have hi_X7 : ∀ w ∈ wsX70, w.before args s = true := fun w h => hts w (uT _ w (u_wsX70 w h))
  have hc_15 := hts _ (uT _ _ u_148)
  have lm1 : (-1 : Int32).toInt = -1 := by decide
  have lm0 : (0 : Int32).toInt = 0 := by decide
  have lm2 : (1 : Int32).toInt = 1 := by decide
  have hru := TI.ru hT
  refine lv_aload_n hx hb dX0_shortestTwin_0 rfl (lv_at hl 0 rfl) ?_
  refine lv_ldc hx hb hown hc_15 dX0_shortestTwin_1 ?_
  refine va_put (D := g.1) (ci := 0) (v := .int (1000000 : Int32)) (ty := .int) (C := RX0) (T := TX0) (N := 2) hx hb hi_X0 (fun _ h => h) tyX0 tyX0_ok nmX0 hown hK.1 hP hD hS 0 rfl rfl 1 (by decide) hf_16 (fun _ h9 => h9) rfl (by decide +kernel) rfl rfl (Nat.le_of_ble_eq_true rfl) dX0_shortestTwin_3 (fun H locs hP hD hS => ?_)
  have hP : va_P g.1 vwCl (wX0 g a_c (uF I_c 0 1 (1000000 : Int32)) ++ wX7 g a_t I_t) H := hP
  have hD : va_D A (wX0 g a_c (uF I_c 0 1 (1000000 : Int32)) ++ wX7 g a_t I_t) := hD
  refine lv_iconst (v := 0) hx hb dX0_shortestTwin_6 (by decide) ?_
  refine lv_istore_n (lv' := [(2, .int (0 : Int32)), (0, .ref (a_c 0)), (1, .ref (a_t 0))]) hx hb dX0_shortestTwin_7 rfl hl (by decide) rfl (fun ls hl => ?_)
  have L8 : ∀ (nn : Nat) (v2_8 : Int32) (I_c_8 : Nat → Nat → Int32), (hv_8 : 0 ≤ v2_8.toInt ∧ v2_8.toInt ≤ 72) → (hi_8 : ∀ s : Nat, (s : Int) < v2_8.toInt → (I_c_8 1 s).toInt = 1000000) → (hz_8 : (I_c_8 0 1).toInt = 1000000) → ((73 - v2_8.toInt) < (nn : Int)) → ∀ (H : Heap) (locs : List Loc), va_P g.1 vwCl (wX0 g a_c I_c_8 ++ wX7 g a_t I_t) H → va_D A (wX0 g a_c I_c_8 ++ wX7 g a_t I_t) → va_S A s.heap H locs → ∀ ls : Array Slot, lv_has ls 5 [(2, .int v2_8), (0, .ref (a_c 0)), (1, .ref (a_t 0))] → W p l e (rm 4) s m args below meth c H locs 0 0 Q (F0 m 8 ls []) := by
    intro n_8
    induction n_8 with
    | zero =>
      intro v2_8 I_c_8 hv_8 hi_8 hz_8 hms_8 H locs hP hD hS ls hl
      exfalso; omega
    | succ n_8 ih_8 =>
      intro v2_8 I_c_8 hv_8 hi_8 hz_8 hms_8 H locs hP hD hS ls hl
      refine lv_iload_n hx hb dX0_shortestTwin_8 rfl (lv_at hl 0 rfl) ?_
      refine lv_bipush (v := 72) hx hb dX0_shortestTwin_9 (by decide) ?_
      refine q_icmp_ge (tgt := 28) hx hb dX0_shortestTwin_11 (by decide) rfl (by decide : (72 : Int32).toInt = 72) (fun k_11 => ?_) (fun k_11 => ?_)
      · refine lv_iconst (v := 0) hx hb dX0_shortestTwin_28 (by decide) ?_
        refine lv_istore_n (lv' := [(2, .int (0 : Int32)), (0, .ref (a_c 0)), (1, .ref (a_t 0))]) hx hb dX0_shortestTwin_29 rfl hl (by decide) rfl (fun ls hl => ?_)
        have L30 : ∀ (nn : Nat) (v2_30 : Int32) (I_c_30 : Nat → Nat → Int32), (hv_30 : 0 ≤ v2_30.toInt ∧ v2_30.toInt ≤ 24) → (hRC_30 : RC I_t I_c_30) → (hSd_30 : gwSd (I_t 0 0).toInt.toNat (I_t 0 1) (cC I_t) (cL I_t) (I_c_30 1) (I_c_30 0 1)) → (hJ_30 : gwJ (I_t 0 0).toInt.toNat (I_t 0 1) (cC I_t) (cL I_t) (I_c_30 1) (I_c_30 0 1) v2_30.toInt.toNat 0) → ((25 - v2_30.toInt) < (nn : Int)) → ∀ (H : Heap) (locs : List Loc), va_P g.1 vwCl (wX0 g a_c I_c_30 ++ wX7 g a_t I_t) H → va_D A (wX0 g a_c I_c_30 ++ wX7 g a_t I_t) → va_S A s.heap H locs → ∀ ls : Array Slot, lv_has ls 5 [(2, .int v2_30), (0, .ref (a_c 0)), (1, .ref (a_t 0))] → W p l e (rm 4) s m args below meth c H locs 0 0 Q (F0 m 30 ls []) := by
          intro n_30
          induction n_30 with
          | zero =>
            intro v2_30 I_c_30 hv_30 hRC_30 hSd_30 hJ_30 hms_30 H locs hP hD hS ls hl
            exfalso; omega
          | succ n_30 ih_30 =>
            intro v2_30 I_c_30 hv_30 hRC_30 hSd_30 hJ_30 hms_30 H locs hP hD hS ls hl
            refine lv_iload_n hx hb dX0_shortestTwin_30 rfl (lv_at hl 0 rfl) ?_
            refine lv_aload_n hx hb dX0_shortestTwin_31 rfl (lv_at hl 2 rfl) ?_
            refine va_get (D := g.1) (ci := 7) (v := .int (I_t 0 0)) (C := RX7) (T := TX7) (N := 8) hx hb hi_X7 (fun _ h => h) hown hK.1 hP 2 rfl rfl 0 (by decide) hf_20 (fun _ h9 => h9) rfl dX0_shortestTwin_32 ?_
            refine q_icmp_ge (tgt := 121) hx hb dX0_shortestTwin_35 (by decide) rfl rfl (fun k_35 => ?_) (fun k_35 => ?_)
            · refine lv_iconst (v := 1) hx hb dX0_shortestTwin_121 (by decide) ?_
              refine lv_istore_n (lv' := [(2, .int (1 : Int32)), (0, .ref (a_c 0)), (1, .ref (a_t 0))]) hx hb dX0_shortestTwin_122 rfl hl (by decide) rfl (fun ls hl => ?_)
              refine lv_iconst (v := 0) hx hb dX0_shortestTwin_123 (by decide) ?_
              refine lv_istore_n (lv' := [(3, .int (0 : Int32)), (2, .int (1 : Int32)), (0, .ref (a_c 0)), (1, .ref (a_t 0))]) hx hb dX0_shortestTwin_124 rfl hl (by decide) rfl (fun ls hl => ?_)
              have L125 : ∀ (nn : Nat) (v2_125 : Int32) (v3_125 : Int32) (I_c_125 : Nat → Nat → Int32), (hv_125 : 0 ≤ v3_125.toInt ∧ v3_125.toInt ≤ 72) → (hRC_125 : RC I_t I_c_125) → (hSd_125 : gwSd (I_t 0 0).toInt.toNat (I_t 0 1) (cC I_t) (cL I_t) (I_c_125 1) (I_c_125 0 1)) → (hK_125 : gwK (I_t 0 0).toInt.toNat (I_t 0 1) (cC I_t) (cL I_t) (I_c_125 1) (I_c_125 0 1) v3_125.toInt.toNat) → (hZ_125 : v2_125 = 0 → gwZ (I_t 0 0).toInt.toNat (I_t 0 1) (cC I_t) (cL I_t) (I_c_125 1) (I_c_125 0 1)) → ((73 - v3_125.toInt) < (nn : Int)) → ∀ (H : Heap) (locs : List Loc), va_P g.1 vwCl (wX0 g a_c I_c_125 ++ wX7 g a_t I_t) H → va_D A (wX0 g a_c I_c_125 ++ wX7 g a_t I_t) → va_S A s.heap H locs → ∀ ls : Array Slot, lv_has ls 5 [(3, .int v3_125), (2, .int v2_125), (0, .ref (a_c 0)), (1, .ref (a_t 0))] → W p l e (rm 4) s m args below meth c H locs 0 0 Q (F0 m 125 ls []) := by
                intro n_125
                induction n_125 with
                | zero =>
                  intro v2_125 v3_125 I_c_125 hv_125 hRC_125 hSd_125 hK_125 hZ_125 hms_125 H locs hP hD hS ls hl
                  exfalso; omega
                | succ n_125 ih_125 =>
                  intro v2_125 v3_125 I_c_125 hv_125 hRC_125 hSd_125 hK_125 hZ_125 hms_125 H locs hP hD hS ls hl
                  refine lv_iload_n hx hb dX0_shortestTwin_125 rfl (lv_at hl 0 rfl) ?_
                  refine lv_bipush (v := 72) hx hb dX0_shortestTwin_126 (by decide) ?_
                  refine q_icmp_ge (tgt := 147) hx hb dX0_shortestTwin_128 (by decide) rfl (by decide : (72 : Int32).toInt = 72) (fun k_128 => ?_) (fun k_128 => ?_)
                  · refine lv_aload_n hx hb dX0_shortestTwin_147 rfl (lv_at hl 2 rfl) ?_
                    refine va_get (D := g.1) (ci := 0) (v := .int (I_c_125 0 1)) (C := RX0) (T := TX0) (N := 2) hx hb hi_X0 (fun _ h => h) hown hK.1 hP 0 rfl rfl 1 (by decide) hf_16 (fun _ h9 => h9) rfl dX0_shortestTwin_148 ?_
                    refine lv_ldc hx hb hown hc_15 dX0_shortestTwin_151 ?_
                    refine q_icmp_ne (tgt := 160) hx hb dX0_shortestTwin_153 (by decide) rfl (by decide : (1000000 : Int32).toInt = 1000000) (fun k_153 => ?_) (fun k_153 => ?_)
                    · refine lv_aload_n hx hb dX0_shortestTwin_160 rfl (lv_at hl 2 rfl) ?_
                      refine va_get (D := g.1) (ci := 0) (v := .int (I_c_125 0 1)) (C := RX0) (T := TX0) (N := 2) hx hb hi_X0 (fun _ h => h) hown hK.1 hP 0 rfl rfl 1 (by decide) hf_16 (fun _ h9 => h9) rfl dX0_shortestTwin_161 ?_
                      refine hret 164 ls (I_c_125 0 1) _ _ I_c_125 dX0_shortestTwin_164 hS hP hD ?_
                      exact (by have w9 := gwK.fin h_cc (by omega) (gwSd.b (by omega) hSd_125) hSd_125.2.2 hK_125 (by first | exact Or.inr (by omega) | exact Or.inl (hZ_125 (t_inj_ (by omega)))); first | exact Or.inl ⟨rfl, (by rw [show (I_c_125 0 1).toInt = 1000000 by omega] at w9; exact w9)⟩ | exact Or.inr ⟨(by have a9 := w9.1; have b9 := gwR.pos h_cc (w9.2.1 (by omega)); omega), by omega, w9⟩)
                    · refine lv_iconst (v := -1) hx hb dX0_shortestTwin_156 (by decide) ?_
                      refine lv_goto (tgt := 164) hx hb dX0_shortestTwin_157 (by decide) ?_
                      refine hret 164 ls (-1 : Int32) _ _ I_c_125 dX0_shortestTwin_164 hS hP hD ?_
                      exact (by have w9 := gwK.fin h_cc (by omega) (gwSd.b (by omega) hSd_125) hSd_125.2.2 hK_125 (by first | exact Or.inr (by omega) | exact Or.inl (hZ_125 (t_inj_ (by omega)))); first | exact Or.inl ⟨rfl, (by rw [show (I_c_125 0 1).toInt = 1000000 by omega] at w9; exact w9)⟩ | exact Or.inr ⟨(by have a9 := w9.1; have b9 := gwR.pos h_cc (w9.2.1 (by omega)); omega), by omega, w9⟩)
                  · refine lv_iload_n hx hb dX0_shortestTwin_131 rfl (lv_at hl 1 rfl) ?_
                    refine q_if_eq (tgt := 147) hx hb dX0_shortestTwin_132 (by decide) rfl (fun b_132 k_132 => ?_) (fun b_132 k_132 => ?_)
                    · refine lv_aload_n hx hb dX0_shortestTwin_147 rfl (lv_at hl 2 rfl) ?_
                      refine va_get (D := g.1) (ci := 0) (v := .int (I_c_125 0 1)) (C := RX0) (T := TX0) (N := 2) hx hb hi_X0 (fun _ h => h) hown hK.1 hP 0 rfl rfl 1 (by decide) hf_16 (fun _ h9 => h9) rfl dX0_shortestTwin_148 ?_
                      refine lv_ldc hx hb hown hc_15 dX0_shortestTwin_151 ?_
                      refine q_icmp_ne (tgt := 160) hx hb dX0_shortestTwin_153 (by decide) rfl (by decide : (1000000 : Int32).toInt = 1000000) (fun k_153 => ?_) (fun k_153 => ?_)
                      · refine lv_aload_n hx hb dX0_shortestTwin_160 rfl (lv_at hl 2 rfl) ?_
                        refine va_get (D := g.1) (ci := 0) (v := .int (I_c_125 0 1)) (C := RX0) (T := TX0) (N := 2) hx hb hi_X0 (fun _ h => h) hown hK.1 hP 0 rfl rfl 1 (by decide) hf_16 (fun _ h9 => h9) rfl dX0_shortestTwin_161 ?_
                        refine hret 164 ls (I_c_125 0 1) _ _ I_c_125 dX0_shortestTwin_164 hS hP hD ?_
                        exact (by have w9 := gwK.fin h_cc (by omega) (gwSd.b (by omega) hSd_125) hSd_125.2.2 hK_125 (by first | exact Or.inr (by omega) | exact Or.inl (hZ_125 (t_inj_ (by omega)))); first | exact Or.inl ⟨rfl, (by rw [show (I_c_125 0 1).toInt = 1000000 by omega] at w9; exact w9)⟩ | exact Or.inr ⟨(by have a9 := w9.1; have b9 := gwR.pos h_cc (w9.2.1 (by omega)); omega), by omega, w9⟩)
                      · refine lv_iconst (v := -1) hx hb dX0_shortestTwin_156 (by decide) ?_
                        refine lv_goto (tgt := 164) hx hb dX0_shortestTwin_157 (by decide) ?_
                        refine hret 164 ls (-1 : Int32) _ _ I_c_125 dX0_shortestTwin_164 hS hP hD ?_
                        exact (by have w9 := gwK.fin h_cc (by omega) (gwSd.b (by omega) hSd_125) hSd_125.2.2 hK_125 (by first | exact Or.inr (by omega) | exact Or.inl (hZ_125 (t_inj_ (by omega)))); first | exact Or.inl ⟨rfl, (by rw [show (I_c_125 0 1).toInt = 1000000 by omega] at w9; exact w9)⟩ | exact Or.inr ⟨(by have a9 := w9.1; have b9 := gwR.pos h_cc (w9.2.1 (by omega)); omega), by omega, w9⟩)
                    · refine lv_aload_n hx hb dX0_shortestTwin_135 rfl (lv_at hl 2 rfl) ?_
                      refine lv_aload_n hx hb dX0_shortestTwin_136 rfl (lv_at hl 3 rfl) ?_
                      refine EffI.cv (wr := ([])) (w' := fun u2 => wX0 g a_c u2 ++ wX7 g a_t I_t) (As := [.ref (a_t 0)]) (kX0_goOn l g a_c I_c_125 a_t I_t hT hRC_125 h_cc hSd_125) fx (gUV (uT _) u_1556 u_1557 u_1558 u_53 u_1559) rfl hdX0_goOn ⟨Nat.le_of_ble_eq_true rfl, Nat.le_of_ble_eq_true rfl⟩ hK hP hD hS hA [0, 1, 2, 3, 4, 5, 6, 7, 8] [] [0, 1, 2, 3, 4, 5, 6, 7, 8] rfl rfl rfl rfl (by decide) rfl (fun _ => rfl) rfl rfl rfl rfl hl.1 (Nat.le_of_ble_eq_true rfl) dX0_shortestTwin_137 (fun r1 u2 H locs p_r1 hP hD hS => ?_)
                      have hP : va_P g.1 vwCl (wX0 g a_c u2 ++ wX7 g a_t I_t) H := hP
                      have hD : va_D A (wX0 g a_c u2 ++ wX7 g a_t I_t) := hD
                      refine lv_istore_n (lv' := [(2, .int r1), (3, .int v3_125), (0, .ref (a_c 0)), (1, .ref (a_t 0))]) hx hb dX0_shortestTwin_140 rfl hl (by decide) rfl (fun ls hl => ?_)
                      refine r_iinc (lv' := fun i3 => [(3, .int i3), (2, .int r1), (0, .ref (a_c 0)), (1, .ref (a_t 0))]) hx hb dX0_shortestTwin_141 hl (k := 1) rfl (by decide) rfl (by decide) (fun _ => rfl) (fun i3 e_i3 t_i3 ls hl => ?_)
                      try have t_i3 := t_i3 (by omega)
                      refine lv_goto (tgt := 125) hx hb dX0_shortestTwin_144 (by decide) ?_
                      exact ih_125 r1 i3 u2 (by omega) p_r1.2.1 p_r1.2.2.1 (by rw [show (i3).toInt.toNat = v3_125.toInt.toNat + 1 by omega]; exact gwK.st h_cc (gwSd.b (by omega) p_r1.2.2.1) hK_125 p_r1.2.2.2) (fun e => gwGo.z p_r1.2.2.2 e) (by omega) _ _ hP hD hS ls hl
              exact L125 ((73 - (0 : Int32).toInt) + 1).toNat (1 : Int32) (0 : Int32) I_c_30 (by omega) hRC_30 hSd_30 (by rw [lm0]; exact gwJ.kk hJ_30 (by omega)) (fun e => absurd e (by decide)) (by omega) _ _ hP hD hS ls hl
            · refine lv_iconst (v := 0) hx hb dX0_shortestTwin_38 (by decide) ?_
              refine lv_istore_n (lv' := [(3, .int (0 : Int32)), (2, .int v2_30), (0, .ref (a_c 0)), (1, .ref (a_t 0))]) hx hb dX0_shortestTwin_39 rfl hl (by decide) rfl (fun ls hl => ?_)
              have L40 : ∀ (nn : Nat) (v3_40 : Int32) (I_c_40 : Nat → Nat → Int32), (hw_40 : 0 ≤ v3_40.toInt ∧ v3_40.toInt ≤ 24) → (hRC_40 : RC I_t I_c_40) → (hSd_40 : gwSd (I_t 0 0).toInt.toNat (I_t 0 1) (cC I_t) (cL I_t) (I_c_40 1) (I_c_40 0 1)) → (hJ_40 : gwJ (I_t 0 0).toInt.toNat (I_t 0 1) (cC I_t) (cL I_t) (I_c_40 1) (I_c_40 0 1) v2_30.toInt.toNat v3_40.toInt.toNat) → ((25 - v3_40.toInt) < (nn : Int)) → ∀ (H : Heap) (locs : List Loc), va_P g.1 vwCl (wX0 g a_c I_c_40 ++ wX7 g a_t I_t) H → va_D A (wX0 g a_c I_c_40 ++ wX7 g a_t I_t) → va_S A s.heap H locs → ∀ ls : Array Slot, lv_has ls 5 [(3, .int v3_40), (2, .int v2_30), (0, .ref (a_c 0)), (1, .ref (a_t 0))] → W p l e (rm 4) s m args below meth c H locs 0 0 Q (F0 m 40 ls []) := by
                intro n_40
                induction n_40 with
                | zero =>
                  intro v3_40 I_c_40 hw_40 hRC_40 hSd_40 hJ_40 hms_40 H locs hP hD hS ls hl
                  exfalso; omega
                | succ n_40 ih_40 =>
                  intro v3_40 I_c_40 hw_40 hRC_40 hSd_40 hJ_40 hms_40 H locs hP hD hS ls hl
                  refine lv_iload_n hx hb dX0_shortestTwin_40 rfl (lv_at hl 0 rfl) ?_
                  refine lv_aload_n hx hb dX0_shortestTwin_41 rfl (lv_at hl 3 rfl) ?_
                  refine va_get (D := g.1) (ci := 7) (v := .int (I_t 0 0)) (C := RX7) (T := TX7) (N := 8) hx hb hi_X7 (fun _ h => h) hown hK.1 hP 2 rfl rfl 0 (by decide) hf_20 (fun _ h9 => h9) rfl dX0_shortestTwin_42 ?_
                  refine q_icmp_ge (tgt := 115) hx hb dX0_shortestTwin_45 (by decide) rfl rfl (fun k_45 => ?_) (fun k_45 => ?_)
                  · refine r_iinc (lv' := fun i4 => [(2, .int i4), (3, .int v3_40), (0, .ref (a_c 0)), (1, .ref (a_t 0))]) hx hb dX0_shortestTwin_115 hl (k := 1) rfl (by decide) rfl (by decide) (fun _ => rfl) (fun i4 e_i4 t_i4 ls hl => ?_)
                    try have t_i4 := t_i4 (by omega)
                    refine lv_goto (tgt := 30) hx hb dX0_shortestTwin_118 (by decide) ?_
                    exact ih_30 i4 I_c_40 (by omega) hRC_40 hSd_40 (by rw [show (i4).toInt.toNat = v2_30.toInt.toNat + 1 by omega]; exact gwJ.nx hJ_40 (by omega)) (by omega) _ _ hP hD hS ls (lv_sub hl [0, 2, 3] rfl)
                  · refine lv_iload_n hx hb dX0_shortestTwin_48 rfl (lv_at hl 1 rfl) ?_
                    refine lv_iload_n hx hb dX0_shortestTwin_49 rfl (lv_at hl 0 rfl) ?_
                    refine q_icmp_eq (tgt := 73) hx hb dX0_shortestTwin_50 (by decide) rfl rfl (fun k_50 => ?_) (fun k_50 => ?_)
                    · refine lv_iconst (v := 0) hx hb dX0_shortestTwin_73 (by decide) ?_
                      refine lv_istore (lv' := [(4, .int (0 : Int32)), (3, .int v3_40), (2, .int v2_30), (0, .ref (a_c 0)), (1, .ref (a_t 0))]) hx hb dX0_shortestTwin_74 hl (by decide) rfl (fun ls hl => ?_)
                      refine lv_iload hx hb dX0_shortestTwin_76 (lv_at hl 0 rfl) ?_
                      refine q_if_eq (tgt := 109) hx hb dX0_shortestTwin_78 (by decide) (by decide : (0 : Int32).toInt = 0) (fun b_78 k_78 => ?_) (fun b_78 k_78 => ?_)
                      · refine r_iinc (lv' := fun i5 => [(3, .int i5), (4, .int (0 : Int32)), (2, .int v2_30), (0, .ref (a_c 0)), (1, .ref (a_t 0))]) hx hb dX0_shortestTwin_109 hl (k := 1) rfl (by decide) rfl (by decide) (fun _ => rfl) (fun i5 e_i5 t_i5 ls hl => ?_)
                        try have t_i5 := t_i5 (by omega)
                        refine lv_goto (tgt := 40) hx hb dX0_shortestTwin_112 (by decide) ?_
                        exact ih_40 i5 I_c_40 (by omega) (by exact hRC_40) (by first | exact j105.1 | exact hSd_40) (by rw [show (i5).toInt.toNat = v3_40.toInt.toNat + 1 by omega]; first | exact gwJ.st hJ_40 j105.2.1 ⟨j105.2.2.1, j105.2.2.2⟩ | exact gwJ.sk hJ_40 (fun w => (by first | exact w.2.2.1 (by omega) | (have e9 := (t_nI (x := v2_30) rfl (by omega)).1; have w9 := w.1.2; rw [← e9, q_58] at w9; exact absurd w9 (by decide)) | (have e9 := (t_nI (x := v3_40) rfl (by omega)).1; have w9 := w.2.1.2; rw [← e9, q_66] at w9; exact absurd w9 (by decide)) | exact absurd (w.2.2.2.symm.trans q_87) (by decide)))) (by omega) _ _ hP hD hS ls (lv_sub hl [0, 2, 3, 4] rfl)
                      · exfalso
                        omega
                    · refine lv_aload_n hx hb dX0_shortestTwin_53 rfl (lv_at hl 3 rfl) ?_
                      refine lv_iload_n hx hb dX0_shortestTwin_54 rfl (lv_at hl 1 rfl) ?_
                      refine PurI.cv (As := [.int v2_30]) (kX7_isThere l g a_t I_t v2_30) fx (gUV (uT _) u_1549 u_983 u_984 u_31 u_985) rfl hdX7_isThere ⟨Nat.le_of_ble_eq_true rfl, Nat.le_of_ble_eq_true rfl⟩ hK hP [2, 3, 4, 5, 6, 7, 8] rfl rfl rfl rfl rfl hl.1 (Nat.le_of_ble_eq_true rfl) dX0_shortestTwin_55 (fun r6 p_r6 => ?_)
                      refine q_if_eq (tgt := 73) hx hb dX0_shortestTwin_58 (by decide) rfl (fun b_58 k_58 => ?_) (fun b_58 k_58 => ?_)
                      · have q_58 := bP.f p_r6 b_58
                        refine lv_iconst (v := 0) hx hb dX0_shortestTwin_73 (by decide) ?_
                        refine lv_istore (lv' := [(4, .int (0 : Int32)), (3, .int v3_40), (2, .int v2_30), (0, .ref (a_c 0)), (1, .ref (a_t 0))]) hx hb dX0_shortestTwin_74 hl (by decide) rfl (fun ls hl => ?_)
                        refine lv_iload hx hb dX0_shortestTwin_76 (lv_at hl 0 rfl) ?_
                        refine q_if_eq (tgt := 109) hx hb dX0_shortestTwin_78 (by decide) (by decide : (0 : Int32).toInt = 0) (fun b_78 k_78 => ?_) (fun b_78 k_78 => ?_)
                        · refine r_iinc (lv' := fun i7 => [(3, .int i7), (4, .int (0 : Int32)), (2, .int v2_30), (0, .ref (a_c 0)), (1, .ref (a_t 0))]) hx hb dX0_shortestTwin_109 hl (k := 1) rfl (by decide) rfl (by decide) (fun _ => rfl) (fun i7 e_i7 t_i7 ls hl => ?_)
                          try have t_i7 := t_i7 (by omega)
                          refine lv_goto (tgt := 40) hx hb dX0_shortestTwin_112 (by decide) ?_
                          exact ih_40 i7 I_c_40 (by omega) (by exact hRC_40) (by first | exact j105.1 | exact hSd_40) (by rw [show (i7).toInt.toNat = v3_40.toInt.toNat + 1 by omega]; first | exact gwJ.st hJ_40 j105.2.1 ⟨j105.2.2.1, j105.2.2.2⟩ | exact gwJ.sk hJ_40 (fun w => (by first | exact w.2.2.1 (by omega) | (have e9 := (t_nI (x := v2_30) rfl (by omega)).1; have w9 := w.1.2; rw [← e9, q_58] at w9; exact absurd w9 (by decide)) | (have e9 := (t_nI (x := v3_40) rfl (by omega)).1; have w9 := w.2.1.2; rw [← e9, q_66] at w9; exact absurd w9 (by decide)) | exact absurd (w.2.2.2.symm.trans q_87) (by decide)))) (by omega) _ _ hP hD hS ls (lv_sub hl [0, 2, 3, 4] rfl)
                        · exfalso
                          omega
                      · have q_58 := bP.t p_r6 b_58
                        refine lv_aload_n hx hb dX0_shortestTwin_61 rfl (lv_at hl 3 rfl) ?_
                        refine lv_iload_n hx hb dX0_shortestTwin_62 rfl (lv_at hl 0 rfl) ?_
                        refine PurI.cv (As := [.int v3_40]) (kX7_isThere l g a_t I_t v3_40) fx (gUV (uT _) u_1549 u_983 u_984 u_31 u_985) rfl hdX7_isThere ⟨Nat.le_of_ble_eq_true rfl, Nat.le_of_ble_eq_true rfl⟩ hK hP [2, 3, 4, 5, 6, 7, 8] rfl rfl rfl rfl rfl hl.1 (Nat.le_of_ble_eq_true rfl) dX0_shortestTwin_63 (fun r8 p_r8 => ?_)
                        refine q_if_eq (tgt := 73) hx hb dX0_shortestTwin_66 (by decide) rfl (fun b_66 k_66 => ?_) (fun b_66 k_66 => ?_)
                        · have q_66 := bP.f p_r8 b_66
                          refine lv_iconst (v := 0) hx hb dX0_shortestTwin_73 (by decide) ?_
                          refine lv_istore (lv' := [(4, .int (0 : Int32)), (3, .int v3_40), (2, .int v2_30), (0, .ref (a_c 0)), (1, .ref (a_t 0))]) hx hb dX0_shortestTwin_74 hl (by decide) rfl (fun ls hl => ?_)
                          refine lv_iload hx hb dX0_shortestTwin_76 (lv_at hl 0 rfl) ?_
                          refine q_if_eq (tgt := 109) hx hb dX0_shortestTwin_78 (by decide) (by decide : (0 : Int32).toInt = 0) (fun b_78 k_78 => ?_) (fun b_78 k_78 => ?_)
                          · refine r_iinc (lv' := fun i9 => [(3, .int i9), (4, .int (0 : Int32)), (2, .int v2_30), (0, .ref (a_c 0)), (1, .ref (a_t 0))]) hx hb dX0_shortestTwin_109 hl (k := 1) rfl (by decide) rfl (by decide) (fun _ => rfl) (fun i9 e_i9 t_i9 ls hl => ?_)
                            try have t_i9 := t_i9 (by omega)
                            refine lv_goto (tgt := 40) hx hb dX0_shortestTwin_112 (by decide) ?_
                            exact ih_40 i9 I_c_40 (by omega) (by exact hRC_40) (by first | exact j105.1 | exact hSd_40) (by rw [show (i9).toInt.toNat = v3_40.toInt.toNat + 1 by omega]; first | exact gwJ.st hJ_40 j105.2.1 ⟨j105.2.2.1, j105.2.2.2⟩ | exact gwJ.sk hJ_40 (fun w => (by first | exact w.2.2.1 (by omega) | (have e9 := (t_nI (x := v2_30) rfl (by omega)).1; have w9 := w.1.2; rw [← e9, q_58] at w9; exact absurd w9 (by decide)) | (have e9 := (t_nI (x := v3_40) rfl (by omega)).1; have w9 := w.2.1.2; rw [← e9, q_66] at w9; exact absurd w9 (by decide)) | exact absurd (w.2.2.2.symm.trans q_87) (by decide)))) (by omega) _ _ hP hD hS ls (lv_sub hl [0, 2, 3, 4] rfl)
                          · exfalso
                            omega
                        · have q_66 := bP.t p_r8 b_66
                          refine lv_iconst (v := 1) hx hb dX0_shortestTwin_69 (by decide) ?_
                          refine lv_goto (tgt := 74) hx hb dX0_shortestTwin_70 (by decide) ?_
                          refine lv_istore (lv' := [(4, .int (1 : Int32)), (3, .int v3_40), (2, .int v2_30), (0, .ref (a_c 0)), (1, .ref (a_t 0))]) hx hb dX0_shortestTwin_74 hl (by decide) rfl (fun ls hl => ?_)
                          refine lv_iload hx hb dX0_shortestTwin_76 (lv_at hl 0 rfl) ?_
                          refine q_if_eq (tgt := 109) hx hb dX0_shortestTwin_78 (by decide) (by decide : (1 : Int32).toInt = 1) (fun b_78 k_78 => ?_) (fun b_78 k_78 => ?_)
                          · exfalso
                            omega
                          · refine lv_aload_n hx hb dX0_shortestTwin_81 rfl (lv_at hl 4 rfl) ?_
                            refine lv_iload_n hx hb dX0_shortestTwin_82 rfl (lv_at hl 2 rfl) ?_
                            refine lv_iload_n hx hb dX0_shortestTwin_83 rfl (lv_at hl 1 rfl) ?_
                            refine PurI.cv (As := [.int v2_30, .int v3_40]) (kX7_begins l g a_t I_t v2_30 v3_40 (by omega) (by omega) hT) fx (gUV (uT _) u_1550 u_1486 u_1487 u_31 u_1488) rfl hdX7_begins ⟨Nat.le_of_ble_eq_true rfl, Nat.le_of_ble_eq_true rfl⟩ hK hP [2, 3, 4, 5, 6, 7, 8] rfl rfl rfl rfl rfl hl.1 (Nat.le_of_ble_eq_true rfl) dX0_shortestTwin_84 (fun r10 p_r10 => ?_)
                            refine q_if_eq (tgt := 109) hx hb dX0_shortestTwin_87 (by decide) rfl (fun b_87 k_87 => ?_) (fun b_87 k_87 => ?_)
                            · have q_87 := bP.f p_r10 b_87
                              refine r_iinc (lv' := fun i11 => [(3, .int i11), (4, .int (1 : Int32)), (2, .int v2_30), (0, .ref (a_c 0)), (1, .ref (a_t 0))]) hx hb dX0_shortestTwin_109 hl (k := 1) rfl (by decide) rfl (by decide) (fun _ => rfl) (fun i11 e_i11 t_i11 ls hl => ?_)
                              try have t_i11 := t_i11 (by omega)
                              refine lv_goto (tgt := 40) hx hb dX0_shortestTwin_112 (by decide) ?_
                              exact ih_40 i11 I_c_40 (by omega) (by exact hRC_40) (by first | exact j105.1 | exact hSd_40) (by rw [show (i11).toInt.toNat = v3_40.toInt.toNat + 1 by omega]; first | exact gwJ.st hJ_40 j105.2.1 ⟨j105.2.2.1, j105.2.2.2⟩ | exact gwJ.sk hJ_40 (fun w => (by first | exact w.2.2.1 (by omega) | (have e9 := (t_nI (x := v2_30) rfl (by omega)).1; have w9 := w.1.2; rw [← e9, q_58] at w9; exact absurd w9 (by decide)) | (have e9 := (t_nI (x := v3_40) rfl (by omega)).1; have w9 := w.2.1.2; rw [← e9, q_66] at w9; exact absurd w9 (by decide)) | exact absurd (w.2.2.2.symm.trans q_87) (by decide)))) (by omega) _ _ hP hD hS ls (lv_sub hl [0, 2, 3, 4] rfl)
                            · have q_87 := bP.t p_r10 b_87
                              refine lv_aload_n hx hb dX0_shortestTwin_90 rfl (lv_at hl 3 rfl) ?_
                              refine lv_iload_n hx hb dX0_shortestTwin_91 rfl (lv_at hl 1 rfl) ?_
                              refine lv_aload_n hx hb dX0_shortestTwin_92 rfl (lv_at hl 4 rfl) ?_
                              refine va_get (D := g.1) (ci := 7) (v := .ref (a_t 3)) (C := RX7) (T := TX7) (N := 8) hx hb hi_X7 (fun _ h => h) hown hK.1 hP 2 rfl rfl 4 (by decide) hf_33 (fun _ h9 => h9) rfl dX0_shortestTwin_93 ?_
                              refine lv_iload_n hx hb dX0_shortestTwin_96 rfl (lv_at hl 2 rfl) ?_
                              have n_97 : vp_in v2_30 24 := (t_in (by omega))
                              refine va_iald hx hb hK.1 hP 5 0 rfl rfl n_97 dX0_shortestTwin_97 ?_
                              refine q_nm (fun x12 e_x12 => ?_)
                              have e_x12 : x12 = (I_t 3) v2_30.toNatClampNeg := e_x12
                              have g_x12 : x12.toInt = ((I_t 3) v2_30.toNatClampNeg).toInt := congrArg _ e_x12
                              have f_x12 := TI.cc hT v2_30.toNatClampNeg
                              rw [← e_x12] at f_x12
                              refine lv_aload_n hx hb dX0_shortestTwin_98 rfl (lv_at hl 4 rfl) ?_
                              refine va_get (D := g.1) (ci := 7) (v := .ref (a_t 3)) (C := RX7) (T := TX7) (N := 8) hx hb hi_X7 (fun _ h => h) hown hK.1 hP 2 rfl rfl 4 (by decide) hf_33 (fun _ h9 => h9) rfl dX0_shortestTwin_99 ?_
                              refine lv_iload_n hx hb dX0_shortestTwin_102 rfl (lv_at hl 1 rfl) ?_
                              have n_103 : vp_in v3_40 24 := (t_in (by omega))
                              refine va_iald hx hb hK.1 hP 5 0 rfl rfl n_103 dX0_shortestTwin_103 ?_
                              refine q_nm (fun x13 e_x13 => ?_)
                              have e_x13 : x13 = (I_t 3) v3_40.toNatClampNeg := e_x13
                              have g_x13 : x13.toInt = ((I_t 3) v3_40.toNatClampNeg).toInt := congrArg _ e_x13
                              have f_x13 := TI.cc hT v3_40.toNatClampNeg
                              rw [← e_x13] at f_x13
                              refine lv_aload_n hx hb dX0_shortestTwin_104 rfl (lv_at hl 4 rfl) ?_
                              refine EffI.cv (wr := ([])) (w' := fun u15 => wX0 g a_c u15 ++ wX7 g a_t I_t) (As := [.int v3_40, .int x12, .int x13, .ref (a_t 0)]) (kX0_reach l g a_c I_c_40 a_t I_t v3_40 x12 x13 (by omega) (by omega) hT) fx (gUV (uT _) u_1551 u_1552 u_1553 u_53 u_1554) rfl hdX0_reach ⟨Nat.le_of_ble_eq_true rfl, Nat.le_of_ble_eq_true rfl⟩ hK hP hD hS hA [0, 1, 2, 3, 4, 5, 6, 7, 8] [] [0, 1, 2, 3, 4, 5, 6, 7, 8] rfl rfl rfl rfl (by decide) rfl (fun _ => rfl) rfl rfl rfl rfl hl.1 (Nat.le_of_ble_eq_true rfl) dX0_shortestTwin_105 (fun r14 u15 H locs p_r14 hP hD hS => ?_)
                              have hP : va_P g.1 vwCl (wX0 g a_c u15 ++ wX7 g a_t I_t) H := hP
                              have hD : va_D A (wX0 g a_c u15 ++ wX7 g a_t I_t) := hD
                              have j105 := gwRe.j (a := (v2_30).toInt.toNat) (b := (v3_40).toInt.toNat) h_cc ⟨by omega, (by have e9 := (t_nI (x := v2_30) rfl (by omega)).1; rw [← e9]; exact q_58)⟩ ⟨by omega, (by have e9 := (t_nI (x := v3_40) rfl (by omega)).1; rw [← e9]; exact q_66)⟩ (by omega) q_87.2 hSd_40 (by have c9 : (cC I_t (v2_30).toInt.toNat).toInt = (x12).toInt := congrArg Int32.toInt e_x12.symm; have d9 : (cC I_t (v3_40).toInt.toNat).toInt = (x13).toInt := congrArg Int32.toInt e_x13.symm; have w9 := p_r14.2.2; rw [show (x12).toInt.toNat = gwc (cC I_t) (v2_30).toInt.toNat from (by unfold gwc; omega), show (x13).toInt = (gwc (cC I_t) (v3_40).toInt.toNat : Int) from (by unfold gwc; omega)] at w9; exact w9)
                              refine lv_pop hx hb dX0_shortestTwin_108 rfl ?_
                              refine r_iinc (lv' := fun i16 => [(3, .int i16), (4, .int (1 : Int32)), (2, .int v2_30), (0, .ref (a_c 0)), (1, .ref (a_t 0))]) hx hb dX0_shortestTwin_109 hl (k := 1) rfl (by decide) rfl (by decide) (fun _ => rfl) (fun i16 e_i16 t_i16 ls hl => ?_)
                              try have t_i16 := t_i16 (by omega)
                              refine lv_goto (tgt := 40) hx hb dX0_shortestTwin_112 (by decide) ?_
                              exact ih_40 i16 u15 (by omega) (by first | exact p_r14.2.1 hRC_40 | exact hRC_40) (by first | exact j105.1 | exact hSd_40) (by rw [show (i16).toInt.toNat = v3_40.toInt.toNat + 1 by omega]; first | exact gwJ.st hJ_40 j105.2.1 ⟨j105.2.2.1, j105.2.2.2⟩ | exact gwJ.sk hJ_40 (fun w => (by first | exact w.2.2.1 (by omega) | (have e9 := (t_nI (x := v2_30) rfl (by omega)).1; have w9 := w.1.2; rw [← e9, q_58] at w9; exact absurd w9 (by decide)) | (have e9 := (t_nI (x := v3_40) rfl (by omega)).1; have w9 := w.2.1.2; rw [← e9, q_66] at w9; exact absurd w9 (by decide)) | exact absurd (w.2.2.2.symm.trans q_87) (by decide)))) (by omega) _ _ hP hD hS ls (lv_sub hl [0, 2, 3, 4] rfl)
              exact L40 ((25 - (0 : Int32).toInt) + 1).toNat (0 : Int32) I_c_30 (by omega) hRC_30 hSd_30 (by rw [lm0]; exact hJ_30) (by omega) _ _ hP hD hS ls hl
        exact L30 ((25 - (0 : Int32).toInt) + 1).toNat (0 : Int32) I_c_8 (by omega) (RC.init (fun s hs => hi_8 s (by omega))) (gwSd.in (fun s hs => hi_8 s (by omega)) hz_8) (by rw [lm0]; exact gwJ.in) (by omega) _ _ hP hD hS ls hl
      · refine lv_aload_n hx hb dX0_shortestTwin_14 rfl (lv_at hl 1 rfl) ?_
        refine va_get (D := g.1) (ci := 0) (v := .ref (a_c 1)) (C := RX0) (T := TX0) (N := 2) hx hb hi_X0 (fun _ h => h) hown hK.1 hP 0 rfl rfl 0 (by decide) hf_11 (fun _ h9 => h9) rfl dX0_shortestTwin_15 ?_
        refine lv_iload_n hx hb dX0_shortestTwin_18 rfl (lv_at hl 0 rfl) ?_
        refine lv_ldc hx hb hown hc_15 dX0_shortestTwin_19 ?_
        have n_21 : vp_in v2_8 72 := (t_in (by omega))
        obtain ⟨f17, e_f17⟩ : ∃ z, z = upd (I_c_8 1) v2_8.toNatClampNeg (1000000 : Int32) := ⟨_, rfl⟩
        refine va_iast hx hb hK.1 hP hD hS 1 0 rfl rfl n_21 dX0_shortestTwin_21 (fun H locs hP hD hS => ?_)
        have hP : va_P g.1 vwCl (wX0 g a_c (uR I_c_8 1 f17) ++ wX7 g a_t I_t) H := by rw [e_f17]; exact hP
        have hD : va_D A (wX0 g a_c (uR I_c_8 1 f17) ++ wX7 g a_t I_t) := by rw [e_f17]; exact hD
        refine r_iinc (lv' := fun i18 => [(2, .int i18), (0, .ref (a_c 0)), (1, .ref (a_t 0))]) hx hb dX0_shortestTwin_22 hl (k := 0) rfl (by decide) rfl (by decide) (fun _ => rfl) (fun i18 e_i18 t_i18 ls hl => ?_)
        try have t_i18 := t_i18 (by omega)
        refine lv_goto (tgt := 8) hx hb dX0_shortestTwin_25 (by decide) ?_
        exact ih_8 i18 (uR I_c_8 1 f17) (by omega) (init_step hi_8 hv_8.1 e_f17 (by decide) (by omega)) hz_8 (by omega) _ _ hP hD hS ls hl
  exact L8 ((73 - (0 : Int32).toInt) + 1).toNat (0 : Int32) (uF I_c 0 1 (1000000 : Int32)) (by omega) (fun s hs => by omega) (show (1000000 : Int32).toInt = 1000000 from by decide) (by omega) _ _ hP hD hS ls hl
