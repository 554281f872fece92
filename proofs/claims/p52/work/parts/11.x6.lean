
/-- what holds of what is SET -/
def EI (I : Nat → Nat → Int32) : Prop := 0 ≤ (I 0 3).toInt ∧ (I 0 3).toInt ≤ 1200
def sameB (a b : Nat) (I I' : Nat → Nat → Int32) : Prop := ∀ k, k ≠ a → k ≠ b → I' 0 k = I 0 k
theorem sameB.rf (a b : Nat) (I : Nat → Nat → Int32) : sameB a b I I := fun _ _ _ => rfl
theorem sameB.tr {a b : Nat} {I I' I2 : Nat → Nat → Int32} (h : sameB a b I I') (h2 : sameB a b I' I2) : sameB a b I I2 := fun k h3 h4 => (h2 k h3 h4).trans (h k h3 h4)
set_option maxHeartbeats 4000000 in
set_option maxRecDepth 100000 in
theorem kX10_wordEnd (l : Launch) (g : gG) (a_x : Nat → Nat) (n_x : Nat) (I_x : Nat → Nat → Int32) (n : Int32) (fr : Int32) (h_n : 0 ≤ fr.toInt ∧ fr.toInt ≤ n.toInt ∧ n.toInt ≤ (n_x : Int) ∧ n_x ≤ 1000) : PurI l g yX10_wordEnd wsX10_wordEnd 2 [.ref (a_x 0), .int n, .int fr] (wArr g a_x n_x I_x) (fun r => fr.toInt ≤ r.toInt ∧ r.toInt ≤ n.toInt ∧ (fr.toInt < n.toInt → ((97 ≤ (I_x 0 fr.toNatClampNeg).toInt ∧ (I_x 0 fr.toNatClampNeg).toInt ≤ 122) ∨ (65 ≤ (I_x 0 fr.toNatClampNeg).toInt ∧ (I_x 0 fr.toNatClampNeg).toInt ≤ 90)) → fr.toInt < r.toInt) ∧ (∀ j : Nat, fr.toInt ≤ (j : Int) → (j : Int) < r.toInt → uLt ((fxB (I_x 0)) j)) ∧ (r.toInt < n.toInt → ¬ uLt ((fxB (I_x 0)) r.toInt.toNat))) := by
  refine PurI.st (cc := cX10_wordEnd) (maxL := 4) (by decide) rfl (Nat.le_of_ble_eq_true rfl) (fun p e s m args below meth c Q ls fx hK hP hl hret => ?_)
  have hx := fx.1
  have hb := fx.2.1
  have hml := fx.2.2.1
  have hown := fx.2.2.2.1
  have hts := fx.2.2.2.2
  have hl : lv_has ls 4 [(0, .ref (a_x 0)), (1, .int n), (2, .int fr)] := hl
  have hP : va_P g.1 vwCl (wArr g a_x n_x I_x) s.heap := hP
  have lm1 : (-1 : Int32).toInt = -1 := by decide
  have lm0 : (0 : Int32).toInt = 0 := by decide
  have lm2 : (1 : Int32).toInt = 1 := by decide
  refine lv_iload_n hx hb dX10_wordEnd_0 rfl (lv_at hl 2 rfl) ?_
  refine lv_istore_n (lv' := [(3, .int fr), (0, .ref (a_x 0)), (1, .int n), (2, .int fr)]) hx hb dX10_wordEnd_1 rfl hl (by decide) rfl (fun ls hl => ?_)
  have L2 : ∀ (nn : Nat) (v3_2 : Int32), (hv_2 : fr.toInt ≤ v3_2.toInt ∧ v3_2.toInt ≤ n.toInt) → (hl_2 : ∀ j : Nat, fr.toInt ≤ (j : Int) → (j : Int) < v3_2.toInt → uLt ((fxB (I_x 0)) j)) → ((n.toInt + 1 - v3_2.toInt) < (nn : Int)) → ∀ ls : Array Slot, lv_has ls 4 [(3, .int v3_2), (0, .ref (a_x 0)), (1, .int n), (2, .int fr)] → W p l e (rm 2) s m args below meth c s.heap [] 0 0 Q (F0 m 2 ls []) := by
    intro n_2
    induction n_2 with
    | zero =>
      intro v3_2 hv_2 hl_2 hms_2 ls hl
      exfalso; omega
    | succ n_2 ih_2 =>
      intro v3_2 hv_2 hl_2 hms_2 ls hl
      refine lv_iload_n hx hb dX10_wordEnd_2 rfl (lv_at hl 0 rfl) ?_
      refine lv_iload_n hx hb dX10_wordEnd_3 rfl (lv_at hl 2 rfl) ?_
      refine q_icmp_ge (tgt := 22) hx hb dX10_wordEnd_4 (by decide) rfl rfl (fun k_4 => ?_) (fun k_4 => ?_)
      · refine lv_iload_n hx hb dX10_wordEnd_22 rfl (lv_at hl 0 rfl) ?_
        exact hret 23 ls v3_2 dX10_wordEnd_23 ⟨by omega, by omega, (by intro h1 h2; omega), hl_2, (by exact (fun q => absurd q (by omega)))⟩
      · refine lv_aload_n hx hb dX10_wordEnd_7 rfl (lv_at hl 1 rfl) ?_
        refine lv_iload_n hx hb dX10_wordEnd_8 rfl (lv_at hl 0 rfl) ?_
        have n_9 : vp_in v3_2 n_x := (t_in (by omega))
        refine va_iald hx hb hK.1 hP 0 0 rfl rfl n_9 dX10_wordEnd_9 ?_
        refine q_nm (fun x1 e_x1 => ?_)
        have e_x1 : x1 = (I_x 0) v3_2.toNatClampNeg := e_x1
        have g_x1 : x1.toInt = ((I_x 0) v3_2.toNatClampNeg).toInt := congrArg _ e_x1
        refine PurI.cs (C := RX10) (As := [.int x1]) (kX10_isLetter l g x1) fx (gUS (uT _) u_649 u_636 u_2 u_637) rfl hdX10_isLetter ⟨Nat.le_of_ble_eq_true rfl, Nat.le_of_ble_eq_true rfl⟩ hK hP [] rfl rfl rfl hl.1 (Nat.le_of_ble_eq_true rfl) dX10_wordEnd_10 (fun r2 p_r2 => ?_)
        refine q_if_eq (tgt := 22) hx hb dX10_wordEnd_13 (by decide) rfl (fun b_13 k_13 => ?_) (fun b_13 k_13 => ?_)
        · have q_13 := bP.f p_r2 b_13
          refine lv_iload_n hx hb dX10_wordEnd_22 rfl (lv_at hl 0 rfl) ?_
          exact hret 23 ls v3_2 dX10_wordEnd_23 ⟨by omega, by omega, (by intro h1 h2; first | omega | exact (Classical.em (v3_2 = fr)).elim (fun hh => absurd (by rw [← hh] at h2; rw [← e_x1] at h2; exact h2) q_13) (fun hh => by have : (v3_2).toInt ≠ fr.toInt := fun q => hh (Int32.toInt_inj.mp q); omega)), hl_2, (by first | exact (fun q => absurd q (by omega)) | exact (fun _ => by have w := q_13; rw [e_x1] at w; exact w))⟩
        · have q_13 := bP.t p_r2 b_13
          refine r_iinc (lv' := fun i3 => [(3, .int i3), (0, .ref (a_x 0)), (1, .int n), (2, .int fr)]) hx hb dX10_wordEnd_16 hl (k := 0) rfl (by decide) rfl (by decide) (fun _ => rfl) (fun i3 e_i3 t_i3 ls hl => ?_)
          try have t_i3 := t_i3 (by omega)
          refine lv_goto (tgt := 2) hx hb dX10_wordEnd_19 (by decide) ?_
          exact ih_2 i3 (by omega) (fx_all (P := uLt) hl_2 e_x1 rfl (by omega) q_13 (by omega)) (by omega) ls hl
  exact L2 ((n.toInt + 1 - fr.toInt) + 1).toNat fr (by omega) (fun j h1 h2 => by exfalso; omega) (by omega) ls hl

set_option maxHeartbeats 4000000 in
set_option maxRecDepth 100000 in
theorem kX6_add (l : Launch) (g : gG) (a_e : Nat → Nat) (I_e : Nat → Nat → Int32) (cell : Int32) (rule : Int32) (hE : EI I_e) : EffV l g yX6_add wsX6_add 0 [.ref (a_e 0), .int cell, .int rule] (wX6 g a_e I_e) (fun (u : (Nat → Nat → Int32)) => wX6 g a_e u) (fun (u : (Nat → Nat → Int32)) => EI (u) ∧ sameB 3 3 I_e (u) ∧ ((I_e 0 3).toInt < 1200 → ((u) 0 3).toInt = (I_e 0 3).toInt + 1)) := by
  refine EffV.st (cc := cX6_add) (maxL := 3) (by decide) rfl (Nat.le_of_ble_eq_true rfl) (fun p e s m args below meth c A Q ls fx hK hP hD hA hS hl hret => ?_)
  have hx := fx.1
  have hb := fx.2.1
  have hml := fx.2.2.1
  have hown := fx.2.2.2.1
  have hts := fx.2.2.2.2
  have hl : lv_has ls 3 [(0, .ref (a_e 0)), (1, .int cell), (2, .int rule)] := hl
  have hP : va_P g.1 vwCl (wX6 g a_e I_e) s.heap := hP
  have hf_9 := hts _ (uT _ _ u_108)
  have hf_15 := hts _ (uT _ _ u_109)
  have hf_21 := hts _ (uT _ _ u_111)
  have hi_X6 : ∀ w ∈ wsX60, w.before args s = true := fun w h => hts w (uT _ w (u_wsX60 w h))
  have lm1 : (-1 : Int32).toInt = -1 := by decide
  have lm0 : (0 : Int32).toInt = 0 := by decide
  have lm2 : (1 : Int32).toInt = 1 := by decide
  have hE0 := hE.1
  have hE1 := hE.2
  refine lv_aload_n hx hb dX6_add_0 rfl (lv_at hl 0 rfl) ?_
  refine va_get (D := g.1) (ci := 6) (v := .int (I_e 0 3)) (C := RX6) (T := TX6) (N := 10) hx hb hi_X6 (fun _ h => h) hown hK.1 hP 0 rfl rfl 3 (by decide) hf_21 (fun _ h9 => h9) rfl dX6_add_1 ?_
  refine lv_sipush (v := 1200) hx hb dX6_add_4 (by decide) ?_
  refine q_icmp_ge (tgt := 40) hx hb dX6_add_7 (by decide) rfl (by decide : (1200 : Int32).toInt = 1200) (fun k_7 => ?_) (fun k_7 => ?_)
  · refine hret 40 ls _ _ I_e dX6_add_40 hS hP hD ?_
    exact ⟨by simp [EI, uF, uR, upd]; omega, fun k h1 h2 => by simp [uF, uR, upd, h1], (by first | exact (fun q => absurd q (by omega)) | exact (fun _ => (show ((I_e 0 3)).toInt = _ from (by omega))))⟩
  · refine lv_aload_n hx hb dX6_add_10 rfl (lv_at hl 0 rfl) ?_
    refine va_get (D := g.1) (ci := 6) (v := .ref (a_e 1)) (C := RX6) (T := TX6) (N := 10) hx hb hi_X6 (fun _ h => h) hown hK.1 hP 0 rfl rfl 0 (by decide) hf_9 (fun _ h9 => h9) rfl dX6_add_11 ?_
    refine lv_aload_n hx hb dX6_add_14 rfl (lv_at hl 0 rfl) ?_
    refine va_get (D := g.1) (ci := 6) (v := .int (I_e 0 3)) (C := RX6) (T := TX6) (N := 10) hx hb hi_X6 (fun _ h => h) hown hK.1 hP 0 rfl rfl 3 (by decide) hf_21 (fun _ h9 => h9) rfl dX6_add_15 ?_
    refine lv_iload_n hx hb dX6_add_18 rfl (lv_at hl 1 rfl) ?_
    have n_19 : vp_in (I_e 0 3) 1200 := (t_in (by omega))
    obtain ⟨f1, e_f1⟩ : ∃ z, z = upd (I_e 1) (I_e 0 3).toNatClampNeg cell := ⟨_, rfl⟩
    refine va_iast hx hb hK.1 hP hD hS 1 0 rfl rfl n_19 dX6_add_19 (fun H locs hP hD hS => ?_)
    have hP : va_P g.1 vwCl (wX6 g a_e (uR I_e 1 f1)) H := by rw [e_f1]; exact hP
    have hD : va_D A (wX6 g a_e (uR I_e 1 f1)) := by rw [e_f1]; exact hD
    refine lv_aload_n hx hb dX6_add_20 rfl (lv_at hl 0 rfl) ?_
    refine va_get (D := g.1) (ci := 6) (v := .ref (a_e 2)) (C := RX6) (T := TX6) (N := 10) hx hb hi_X6 (fun _ h => h) hown hK.1 hP 0 rfl rfl 1 (by decide) hf_15 (fun _ h9 => h9) rfl dX6_add_21 ?_
    refine lv_aload_n hx hb dX6_add_24 rfl (lv_at hl 0 rfl) ?_
    refine va_get (D := g.1) (ci := 6) (v := .int (I_e 0 3)) (C := RX6) (T := TX6) (N := 10) hx hb hi_X6 (fun _ h => h) hown hK.1 hP 0 rfl rfl 3 (by decide) hf_21 (fun _ h9 => h9) rfl dX6_add_25 ?_
    refine lv_iload_n hx hb dX6_add_28 rfl (lv_at hl 2 rfl) ?_
    have n_29 : vp_in (I_e 0 3) 1200 := (t_in (by omega))
    obtain ⟨f2, e_f2⟩ : ∃ z, z = upd (I_e 2) (I_e 0 3).toNatClampNeg rule := ⟨_, rfl⟩
    refine va_iast hx hb hK.1 hP hD hS 2 0 rfl rfl n_29 dX6_add_29 (fun H locs hP hD hS => ?_)
    have hP : va_P g.1 vwCl (wX6 g a_e (uR (uR I_e 1 f1) 2 f2)) H := by rw [e_f2]; exact hP
    have hD : va_D A (wX6 g a_e (uR (uR I_e 1 f1) 2 f2)) := by rw [e_f2]; exact hD
    refine lv_aload_n hx hb dX6_add_30 rfl (lv_at hl 0 rfl) ?_
    refine lv_dup hx hb dX6_add_31 rfl ?_
    refine va_get (D := g.1) (ci := 6) (v := .int (I_e 0 3)) (C := RX6) (T := TX6) (N := 10) hx hb hi_X6 (fun _ h => h) hown hK.1 hP 0 rfl rfl 3 (by decide) hf_21 (fun _ h9 => h9) rfl dX6_add_32 ?_
    refine lv_iconst (v := 1) hx hb dX6_add_35 (by decide) ?_
    refine r_iadd hx hb dX6_add_36 rfl (by decide : (1 : Int32).toInt = 1) (fun x3 e_x3 t_x3 => ?_)
    try have t_x3 := t_x3 (by omega)
    refine va_put (D := g.1) (ci := 6) (v := .int x3) (ty := .int) (C := RX6) (T := TX6) (N := 10) hx hb hi_X6 (fun _ h => h) tyX6 tyX6_ok nmX6 hown hK.1 hP hD hS 0 rfl rfl 3 (by decide) hf_21 (fun _ h9 => h9) rfl (by decide +kernel) rfl rfl (Nat.le_of_ble_eq_true rfl) dX6_add_37 (fun H locs hP hD hS => ?_)
    have hP : va_P g.1 vwCl (wX6 g a_e (uF (uR (uR I_e 1 f1) 2 f2) 0 3 x3)) H := hP
    have hD : va_D A (wX6 g a_e (uF (uR (uR I_e 1 f1) 2 f2) 0 3 x3)) := hD
    refine hret 40 ls _ _ (uF (uR (uR I_e 1 f1) 2 f2) 0 3 x3) dX6_add_40 hS hP hD ?_
    exact ⟨by simp [EI, uF, uR, upd]; omega, fun k h1 h2 => by simp [uF, uR, upd, h1], (by first | exact (fun q => absurd q (by omega)) | exact (fun _ => (show (x3).toInt = _ from (by omega))))⟩

set_option maxHeartbeats 4000000 in
set_option maxRecDepth 100000 in
theorem kX6_addRule (l : Launch) (g : gG) (a_e : Nat → Nat) (I_e : Nat → Nat → Int32) (a_t : Nat → Nat) (I_t : Nat → Nat → Int32) (rule : Int32) (h_rule : 0 ≤ rule.toInt ∧ rule.toInt < 24) (hT : TI I_t) (hE : EI I_e) : EffV l g yX6_addRule wsX6_addRule 1 [.ref (a_e 0), .int rule, .ref (a_t 0)] (wX6 g a_e I_e ++ wX7 g a_t I_t) (fun (u : (Nat → Nat → Int32)) => wX6 g a_e u ++ wX7 g a_t I_t) (fun (u : (Nat → Nat → Int32)) => EI (u) ∧ sameB 3 3 I_e (u) ∧ ((I_e 0 3).toInt ≤ 1197 → ((u) 0 3).toInt = (I_e 0 3).toInt + (I_t 3 rule.toNatClampNeg).toInt)) := by
  refine EffV.st (cc := cX6_addRule) (maxL := 4) (by decide) rfl (Nat.le_of_ble_eq_true rfl) (fun p e s m args below meth c A Q ls fx hK hP hD hA hS hl hret => ?_)
  have hx := fx.1
  have hb := fx.2.1
  have hml := fx.2.2.1
  have hown := fx.2.2.2.1
  have hts := fx.2.2.2.2
  have hl : lv_has ls 4 [(0, .ref (a_e 0)), (1, .int rule), (2, .ref (a_t 0))] := hl
  have hP : va_P g.1 vwCl (wX6 g a_e I_e ++ wX7 g a_t I_t) s.heap := hP
  have hf_18 := hts _ (uT _ _ u_110)
  have hf_73 := hts _ (uT _ _ u_631)
  have hi_X6 : ∀ w ∈ wsX60, w.before args s = true := fun w h => hts w (uT _ w (u_wsX60 w h))
  have hi_X7 : ∀ w ∈ wsX70, w.before args s = true := fun w h => hts w (uT _ w (u_wsX70 w h))
  have lm1 : (-1 : Int32).toInt = -1 := by decide
  have lm0 : (0 : Int32).toInt = 0 := by decide
  have lm2 : (1 : Int32).toInt = 1 := by decide
  have hc3 := TI.cc hT rule.toNatClampNeg
  refine lv_iconst (v := 0) hx hb dX6_addRule_0 (by decide) ?_
  refine lv_istore_n (lv' := [(3, .int (0 : Int32)), (0, .ref (a_e 0)), (1, .int rule), (2, .ref (a_t 0))]) hx hb dX6_addRule_1 rfl hl (by decide) rfl (fun ls hl => ?_)
  have L2 : ∀ (nn : Nat) (v3_2 : Int32) (I_e_2 : Nat → Nat → Int32), (hv_2 : 0 ≤ v3_2.toInt ∧ v3_2.toInt ≤ 3 ∧ v3_2.toInt ≤ (I_t 3 rule.toNatClampNeg).toInt) → (hE_2 : EI I_e_2) → (hs_2 : sameB 3 3 I_e I_e_2) → (hc_2 : (I_e 0 3).toInt ≤ 1197 → (I_e_2 0 3).toInt = (I_e 0 3).toInt + v3_2.toInt) → ((4 - v3_2.toInt) < (nn : Int)) → ∀ (H : Heap) (locs : List Loc), va_P g.1 vwCl (wX6 g a_e I_e_2 ++ wX7 g a_t I_t) H → va_D A (wX6 g a_e I_e_2 ++ wX7 g a_t I_t) → va_S A s.heap H locs → ∀ ls : Array Slot, lv_has ls 4 [(3, .int v3_2), (0, .ref (a_e 0)), (1, .int rule), (2, .ref (a_t 0))] → W p l e (rm 1) s m args below meth c H locs 0 0 Q (F0 m 2 ls []) := by
    intro n_2
    induction n_2 with
    | zero =>
      intro v3_2 I_e_2 hv_2 hE_2 hs_2 hc_2 hms_2 H locs hP hD hS ls hl
      exfalso; omega
    | succ n_2 ih_2 =>
      intro v3_2 I_e_2 hv_2 hE_2 hs_2 hc_2 hms_2 H locs hP hD hS ls hl
      refine lv_iload_n hx hb dX6_addRule_2 rfl (lv_at hl 0 rfl) ?_
      refine lv_aload_n hx hb dX6_addRule_3 rfl (lv_at hl 3 rfl) ?_
      refine va_get (D := g.1) (ci := 7) (v := .ref (a_t 3)) (C := RX7) (T := TX7) (N := 8) hx hb hi_X7 (fun _ h => h) hown hK.1 hP 4 rfl rfl 4 (by decide) hf_73 (fun _ h9 => h9) rfl dX6_addRule_4 ?_
      refine lv_iload_n hx hb dX6_addRule_7 rfl (lv_at hl 2 rfl) ?_
      have n_8 : vp_in rule 24 := (t_in (by omega))
      refine va_iald hx hb hK.1 hP 7 0 rfl rfl n_8 dX6_addRule_8 ?_
      refine q_nm (fun x1 e_x1 => ?_)
      have e_x1 : x1 = (I_t 3) rule.toNatClampNeg := e_x1
      have g_x1 : x1.toInt = ((I_t 3) rule.toNatClampNeg).toInt := congrArg _ e_x1
      have f_x1 := TI.cc hT rule.toNatClampNeg
      rw [← e_x1] at f_x1
      refine q_icmp_ge (tgt := 29) hx hb dX6_addRule_9 (by decide) rfl rfl (fun k_9 => ?_) (fun k_9 => ?_)
      · refine lv_aload_n hx hb dX6_addRule_29 rfl (lv_at hl 1 rfl) ?_
        refine va_get (D := g.1) (ci := 6) (v := .ref (a_e 3)) (C := RX6) (T := TX6) (N := 10) hx hb hi_X6 (fun _ h => h) hown hK.1 hP 0 rfl rfl 2 (by decide) hf_18 (fun _ h9 => h9) rfl dX6_addRule_30 ?_
        refine lv_iload_n hx hb dX6_addRule_33 rfl (lv_at hl 2 rfl) ?_
        refine lv_dup2_11 hx hb dX6_addRule_34 rfl rfl ?_
        have n_35 : vp_in rule 24 := (t_in (by omega))
        refine va_iald hx hb hK.1 hP 3 0 rfl rfl n_35 dX6_addRule_35 ?_
        refine q_nm (fun x2 e_x2 => ?_)
        have e_x2 : x2 = (I_e_2 3) rule.toNatClampNeg := e_x2
        have g_x2 : x2.toInt = ((I_e_2 3) rule.toNatClampNeg).toInt := congrArg _ e_x2
        refine lv_iconst (v := 1) hx hb dX6_addRule_36 (by decide) ?_
        refine r_iadd hx hb dX6_addRule_37 rfl (by decide : (1 : Int32).toInt = 1) (fun x3 e_x3 t_x3 => ?_)
        try have t_x3 := t_x3 (by omega)
        have n_38 : vp_in rule 24 := (t_in (by omega))
        obtain ⟨f4, e_f4⟩ : ∃ z, z = upd (I_e_2 3) rule.toNatClampNeg x3 := ⟨_, rfl⟩
        refine va_iast hx hb hK.1 hP hD hS 3 0 rfl rfl n_38 dX6_addRule_38 (fun H locs hP hD hS => ?_)
        have hP : va_P g.1 vwCl (wX6 g a_e (uR I_e_2 3 f4) ++ wX7 g a_t I_t) H := by rw [e_f4]; exact hP
        have hD : va_D A (wX6 g a_e (uR I_e_2 3 f4) ++ wX7 g a_t I_t) := by rw [e_f4]; exact hD
        refine hret 39 ls _ _ (uR I_e_2 3 f4) dX6_addRule_39 hS hP hD ?_
        exact ⟨by simpa [EI, uF, uR, upd] using hE_2, fun k h1 h2 => by simp [uF, uR, upd]; exact hs_2 k h1 h2, fun q => (show (I_e_2 0 3).toInt = _ from (by have w := hc_2 q; omega))⟩
      · refine lv_aload_n hx hb dX6_addRule_12 rfl (lv_at hl 1 rfl) ?_
        refine lv_aload_n hx hb dX6_addRule_13 rfl (lv_at hl 3 rfl) ?_
        refine lv_iload_n hx hb dX6_addRule_14 rfl (lv_at hl 2 rfl) ?_
        refine lv_iload_n hx hb dX6_addRule_15 rfl (lv_at hl 0 rfl) ?_
        refine PurI.cv (As := [.int rule, .int v3_2]) (kX7_cellAt l g a_t I_t rule v3_2 h_rule (by omega) hT) fx (gUV (uT _) u_632 u_633 u_634 u_31 u_635) rfl hdX7_cellAt ⟨Nat.le_of_ble_eq_true rfl, Nat.le_of_ble_eq_true rfl⟩ hK hP [4, 5, 6, 7, 8, 9, 10] rfl rfl rfl rfl rfl hl.1 (Nat.le_of_ble_eq_true rfl) dX6_addRule_16 (fun r5 p_r5 => ?_)
        refine lv_iload_n hx hb dX6_addRule_19 rfl (lv_at hl 2 rfl) ?_
        refine EffV.cv (wr := (wX7 g a_t I_t)) (w' := fun u7 => wX6 g a_e u7 ++ wX7 g a_t I_t) (As := [.int r5, .int rule]) (kX6_add l g a_e I_e_2 r5 rule hE_2) fx (gUV (uT _) u_605 u_606 u_607 u_40 u_608) rfl hdX6_add ⟨Nat.le_of_ble_eq_true rfl, Nat.le_of_ble_eq_true rfl⟩ hK hP hD hS hA [0, 1, 2, 3] [4, 5, 6, 7, 8, 9, 10] [7, 8, 9, 10, 0, 1, 2, 3, 4, 5, 6] rfl rfl rfl rfl (by decide) rfl (fun _ => rfl) rfl rfl rfl rfl hl.1 (Nat.le_of_ble_eq_true rfl) dX6_addRule_20 (fun u7 H locs p_r6 hP hD hS => ?_)
        have hP : va_P g.1 vwCl (wX6 g a_e u7 ++ wX7 g a_t I_t) H := hP
        have hD : va_D A (wX6 g a_e u7 ++ wX7 g a_t I_t) := hD
        refine r_iinc (lv' := fun i8 => [(3, .int i8), (0, .ref (a_e 0)), (1, .int rule), (2, .ref (a_t 0))]) hx hb dX6_addRule_23 hl (k := 0) rfl (by decide) rfl (by decide) (fun _ => rfl) (fun i8 e_i8 t_i8 ls hl => ?_)
        try have t_i8 := t_i8 (by omega)
        refine lv_goto (tgt := 2) hx hb dX6_addRule_26 (by decide) ?_
        exact ih_2 i8 u7 (by omega) p_r6.1 (sameB.tr hs_2 p_r6.2.1) (fun q => by have w := hc_2 q; have w2 := p_r6.2.2 (by omega); omega) (by omega) _ _ hP hD hS ls hl
  exact L2 ((4 - (0 : Int32).toInt) + 1).toNat (0 : Int32) I_e (by omega) hE (sameB.rf _ _ _) (fun _ => by omega) (by omega) _ _ hP hD hS ls hl

set_option maxHeartbeats 4000000 in
set_option maxRecDepth 100000 in
theorem kX6_begin (l : Launch) (g : gG) (a_e : Nat → Nat) (I_e : Nat → Nat → Int32) (wo : Int32)  : EffV l g yX6_begin wsX6_begin 0 [.ref (a_e 0), .int wo] (wX6 g a_e I_e) (fun (u : (Nat → Nat → Int32)) => wX6 g a_e u) (fun (u : (Nat → Nat → Int32)) => EI (u) ∧ ((u) 0 9).toInt = 0 ∧ (u) 0 6 = 0 ∧ (u) 0 3 = 0 ∧ (u) 0 5 = wo ∧ (u) 0 7 = -1 ∧ (u) 0 8 = 0) := by
  refine EffV.st (cc := cX6_begin) (maxL := 3) (by decide) rfl (Nat.le_of_ble_eq_true rfl) (fun p e s m args below meth c A Q ls fx hK hP hD hA hS hl hret => ?_)
  have hx := fx.1
  have hb := fx.2.1
  have hml := fx.2.2.1
  have hown := fx.2.2.2.1
  have hts := fx.2.2.2.2
  have hl : lv_has ls 3 [(0, .ref (a_e 0)), (1, .int wo)] := hl
  have hP : va_P g.1 vwCl (wX6 g a_e I_e) s.heap := hP
  have hf_18 := hts _ (uT _ _ u_110)
  have hf_21 := hts _ (uT _ _ u_111)
  have hf_25 := hts _ (uT _ _ u_112)
  have hf_28 := hts _ (uT _ _ u_113)
  have hf_31 := hts _ (uT _ _ u_114)
  have hf_34 := hts _ (uT _ _ u_115)
  have hf_37 := hts _ (uT _ _ u_116)
  have hf_40 := hts _ (uT _ _ u_117)
  have hi_X6 : ∀ w ∈ wsX60, w.before args s = true := fun w h => hts w (uT _ w (u_wsX60 w h))
  have lm1 : (-1 : Int32).toInt = -1 := by decide
  have lm0 : (0 : Int32).toInt = 0 := by decide
  have lm2 : (1 : Int32).toInt = 1 := by decide
  refine lv_aload_n hx hb dX6_begin_0 rfl (lv_at hl 0 rfl) ?_
  refine lv_iconst (v := 0) hx hb dX6_begin_1 (by decide) ?_
  refine va_put (D := g.1) (ci := 6) (v := .int (0 : Int32)) (ty := .int) (C := RX6) (T := TX6) (N := 10) hx hb hi_X6 (fun _ h => h) tyX6 tyX6_ok nmX6 hown hK.1 hP hD hS 0 rfl rfl 3 (by decide) hf_21 (fun _ h9 => h9) rfl (by decide +kernel) rfl rfl (Nat.le_of_ble_eq_true rfl) dX6_begin_2 (fun H locs hP hD hS => ?_)
  have hP : va_P g.1 vwCl (wX6 g a_e (uF I_e 0 3 (0 : Int32))) H := hP
  have hD : va_D A (wX6 g a_e (uF I_e 0 3 (0 : Int32))) := hD
  refine lv_aload_n hx hb dX6_begin_5 rfl (lv_at hl 0 rfl) ?_
  refine lv_iconst (v := 0) hx hb dX6_begin_6 (by decide) ?_
  refine va_put (D := g.1) (ci := 6) (v := .int (0 : Int32)) (ty := .int) (C := RX6) (T := TX6) (N := 10) hx hb hi_X6 (fun _ h => h) tyX6 tyX6_ok nmX6 hown hK.1 hP hD hS 0 rfl rfl 4 (by decide) hf_25 (fun _ h9 => h9) rfl (by decide +kernel) rfl rfl (Nat.le_of_ble_eq_true rfl) dX6_begin_7 (fun H locs hP hD hS => ?_)
  have hP : va_P g.1 vwCl (wX6 g a_e (uF (uF I_e 0 3 (0 : Int32)) 0 4 (0 : Int32))) H := hP
  have hD : va_D A (wX6 g a_e (uF (uF I_e 0 3 (0 : Int32)) 0 4 (0 : Int32))) := hD
  refine lv_aload_n hx hb dX6_begin_10 rfl (lv_at hl 0 rfl) ?_
  refine lv_iload_n hx hb dX6_begin_11 rfl (lv_at hl 1 rfl) ?_
  refine va_put (D := g.1) (ci := 6) (v := .int wo) (ty := .int) (C := RX6) (T := TX6) (N := 10) hx hb hi_X6 (fun _ h => h) tyX6 tyX6_ok nmX6 hown hK.1 hP hD hS 0 rfl rfl 5 (by decide) hf_28 (fun _ h9 => h9) rfl (by decide +kernel) rfl rfl (Nat.le_of_ble_eq_true rfl) dX6_begin_12 (fun H locs hP hD hS => ?_)
  have hP : va_P g.1 vwCl (wX6 g a_e (uF (uF (uF I_e 0 3 (0 : Int32)) 0 4 (0 : Int32)) 0 5 wo)) H := hP
  have hD : va_D A (wX6 g a_e (uF (uF (uF I_e 0 3 (0 : Int32)) 0 4 (0 : Int32)) 0 5 wo)) := hD
  refine lv_aload_n hx hb dX6_begin_15 rfl (lv_at hl 0 rfl) ?_
  refine lv_iconst (v := 0) hx hb dX6_begin_16 (by decide) ?_
  refine va_put (D := g.1) (ci := 6) (v := .int (0 : Int32)) (ty := .int) (C := RX6) (T := TX6) (N := 10) hx hb hi_X6 (fun _ h => h) tyX6 tyX6_ok nmX6 hown hK.1 hP hD hS 0 rfl rfl 6 (by decide) hf_31 (fun _ h9 => h9) rfl (by decide +kernel) rfl rfl (Nat.le_of_ble_eq_true rfl) dX6_begin_17 (fun H locs hP hD hS => ?_)
  have hP : va_P g.1 vwCl (wX6 g a_e (uF (uF (uF (uF I_e 0 3 (0 : Int32)) 0 4 (0 : Int32)) 0 5 wo) 0 6 (0 : Int32))) H := hP
  have hD : va_D A (wX6 g a_e (uF (uF (uF (uF I_e 0 3 (0 : Int32)) 0 4 (0 : Int32)) 0 5 wo) 0 6 (0 : Int32))) := hD
  refine lv_aload_n hx hb dX6_begin_20 rfl (lv_at hl 0 rfl) ?_
  refine lv_iconst (v := -1) hx hb dX6_begin_21 (by decide) ?_
  refine va_put (D := g.1) (ci := 6) (v := .int (-1 : Int32)) (ty := .int) (C := RX6) (T := TX6) (N := 10) hx hb hi_X6 (fun _ h => h) tyX6 tyX6_ok nmX6 hown hK.1 hP hD hS 0 rfl rfl 7 (by decide) hf_34 (fun _ h9 => h9) rfl (by decide +kernel) rfl rfl (Nat.le_of_ble_eq_true rfl) dX6_begin_22 (fun H locs hP hD hS => ?_)
  have hP : va_P g.1 vwCl (wX6 g a_e (uF (uF (uF (uF (uF I_e 0 3 (0 : Int32)) 0 4 (0 : Int32)) 0 5 wo) 0 6 (0 : Int32)) 0 7 (-1 : Int32))) H := hP
  have hD : va_D A (wX6 g a_e (uF (uF (uF (uF (uF I_e 0 3 (0 : Int32)) 0 4 (0 : Int32)) 0 5 wo) 0 6 (0 : Int32)) 0 7 (-1 : Int32))) := hD
  refine lv_aload_n hx hb dX6_begin_25 rfl (lv_at hl 0 rfl) ?_
  refine lv_iconst (v := 0) hx hb dX6_begin_26 (by decide) ?_
  refine va_put (D := g.1) (ci := 6) (v := .int (0 : Int32)) (ty := .int) (C := RX6) (T := TX6) (N := 10) hx hb hi_X6 (fun _ h => h) tyX6 tyX6_ok nmX6 hown hK.1 hP hD hS 0 rfl rfl 8 (by decide) hf_37 (fun _ h9 => h9) rfl (by decide +kernel) rfl rfl (Nat.le_of_ble_eq_true rfl) dX6_begin_27 (fun H locs hP hD hS => ?_)
  have hP : va_P g.1 vwCl (wX6 g a_e (uF (uF (uF (uF (uF (uF I_e 0 3 (0 : Int32)) 0 4 (0 : Int32)) 0 5 wo) 0 6 (0 : Int32)) 0 7 (-1 : Int32)) 0 8 (0 : Int32))) H := hP
  have hD : va_D A (wX6 g a_e (uF (uF (uF (uF (uF (uF I_e 0 3 (0 : Int32)) 0 4 (0 : Int32)) 0 5 wo) 0 6 (0 : Int32)) 0 7 (-1 : Int32)) 0 8 (0 : Int32))) := hD
  refine lv_aload_n hx hb dX6_begin_30 rfl (lv_at hl 0 rfl) ?_
  refine lv_iconst (v := 0) hx hb dX6_begin_31 (by decide) ?_
  refine va_put (D := g.1) (ci := 6) (v := .int (0 : Int32)) (ty := .int) (C := RX6) (T := TX6) (N := 10) hx hb hi_X6 (fun _ h => h) tyX6 tyX6_ok nmX6 hown hK.1 hP hD hS 0 rfl rfl 9 (by decide) hf_40 (fun _ h9 => h9) rfl (by decide +kernel) rfl rfl (Nat.le_of_ble_eq_true rfl) dX6_begin_32 (fun H locs hP hD hS => ?_)
  have hP : va_P g.1 vwCl (wX6 g a_e (uF (uF (uF (uF (uF (uF (uF I_e 0 3 (0 : Int32)) 0 4 (0 : Int32)) 0 5 wo) 0 6 (0 : Int32)) 0 7 (-1 : Int32)) 0 8 (0 : Int32)) 0 9 (0 : Int32))) H := hP
  have hD : va_D A (wX6 g a_e (uF (uF (uF (uF (uF (uF (uF I_e 0 3 (0 : Int32)) 0 4 (0 : Int32)) 0 5 wo) 0 6 (0 : Int32)) 0 7 (-1 : Int32)) 0 8 (0 : Int32)) 0 9 (0 : Int32))) := hD
  refine lv_iconst (v := 0) hx hb dX6_begin_35 (by decide) ?_
  refine lv_istore_n (lv' := [(2, .int (0 : Int32)), (0, .ref (a_e 0)), (1, .int wo)]) hx hb dX6_begin_36 rfl hl (by decide) rfl (fun ls hl => ?_)
  have L37 : ∀ (nn : Nat) (v2_37 : Int32) (I_e_37 : Nat → Nat → Int32), (hv_37 : 0 ≤ v2_37.toInt ∧ v2_37.toInt ≤ 24) → (hs_37 : EI I_e_37 ∧ (I_e_37 0 9).toInt = 0 ∧ I_e_37 0 6 = 0 ∧ I_e_37 0 3 = 0 ∧ I_e_37 0 5 = wo ∧ I_e_37 0 7 = -1 ∧ I_e_37 0 8 = 0) → ((25 - v2_37.toInt) < (nn : Int)) → ∀ (H : Heap) (locs : List Loc), va_P g.1 vwCl (wX6 g a_e I_e_37) H → va_D A (wX6 g a_e I_e_37) → va_S A s.heap H locs → ∀ ls : Array Slot, lv_has ls 3 [(2, .int v2_37), (0, .ref (a_e 0)), (1, .int wo)] → W p l e (rm 0) s m args below meth c H locs 0 0 Q (F0 m 37 ls []) := by
    intro n_37
    induction n_37 with
    | zero =>
      intro v2_37 I_e_37 hv_37 hs_37 hms_37 H locs hP hD hS ls hl
      exfalso; omega
    | succ n_37 ih_37 =>
      intro v2_37 I_e_37 hv_37 hs_37 hms_37 H locs hP hD hS ls hl
      refine lv_iload_n hx hb dX6_begin_37 rfl (lv_at hl 0 rfl) ?_
      refine lv_bipush (v := 24) hx hb dX6_begin_38 (by decide) ?_
      refine q_icmp_ge (tgt := 56) hx hb dX6_begin_40 (by decide) rfl (by decide : (24 : Int32).toInt = 24) (fun k_40 => ?_) (fun k_40 => ?_)
      · refine hret 56 ls _ _ I_e_37 dX6_begin_56 hS hP hD ?_
        exact hs_37
      · refine lv_aload_n hx hb dX6_begin_43 rfl (lv_at hl 1 rfl) ?_
        refine va_get (D := g.1) (ci := 6) (v := .ref (a_e 3)) (C := RX6) (T := TX6) (N := 10) hx hb hi_X6 (fun _ h => h) hown hK.1 hP 0 rfl rfl 2 (by decide) hf_18 (fun _ h9 => h9) rfl dX6_begin_44 ?_
        refine lv_iload_n hx hb dX6_begin_47 rfl (lv_at hl 0 rfl) ?_
        refine lv_iconst (v := 0) hx hb dX6_begin_48 (by decide) ?_
        have n_49 : vp_in v2_37 24 := (t_in (by omega))
        obtain ⟨f1, e_f1⟩ : ∃ z, z = upd (I_e_37 3) v2_37.toNatClampNeg (0 : Int32) := ⟨_, rfl⟩
        refine va_iast hx hb hK.1 hP hD hS 3 0 rfl rfl n_49 dX6_begin_49 (fun H locs hP hD hS => ?_)
        have hP : va_P g.1 vwCl (wX6 g a_e (uR I_e_37 3 f1)) H := by rw [e_f1]; exact hP
        have hD : va_D A (wX6 g a_e (uR I_e_37 3 f1)) := by rw [e_f1]; exact hD
        refine r_iinc (lv' := fun i2 => [(2, .int i2), (0, .ref (a_e 0)), (1, .int wo)]) hx hb dX6_begin_50 hl (k := 0) rfl (by decide) rfl (by decide) (fun _ => rfl) (fun i2 e_i2 t_i2 ls hl => ?_)
        try have t_i2 := t_i2 (by omega)
        refine lv_goto (tgt := 37) hx hb dX6_begin_53 (by decide) ?_
        exact ih_37 i2 (uR I_e_37 3 f1) (by omega) (by simpa [EI, uF, uR, upd] using hs_37) (by omega) _ _ hP hD hS ls hl
  exact L37 ((25 - (0 : Int32).toInt) + 1).toNat (0 : Int32) (uF (uF (uF (uF (uF (uF (uF I_e 0 3 (0 : Int32)) 0 4 (0 : Int32)) 0 5 wo) 0 6 (0 : Int32)) 0 7 (-1 : Int32)) 0 8 (0 : Int32)) 0 9 (0 : Int32)) (by omega) (by simp [EI, uF, uR, upd]) (by omega) _ _ hP hD hS ls hl

set_option maxHeartbeats 4000000 in
set_option maxRecDepth 100000 in
theorem kX6_faulty (l : Launch) (g : gG) (a_e : Nat → Nat) (I_e : Nat → Nat → Int32) (kind : Int32) (ia : Int32) (hE : EI I_e) : EffI l g yX6_faulty wsX6_faulty 0 [.ref (a_e 0), .int kind, .int ia] (wX6 g a_e I_e) (fun (u : (Nat → Nat → Int32)) => wX6 g a_e u) (fun r (u : (Nat → Nat → Int32)) => r.toInt = 1 ∧ EI (u) ∧ sameB 6 7 I_e (u) ∧ (u) 0 6 = kind ∧ (u) 0 7 = ia) := by
  refine EffI.st (cc := cX6_faulty) (maxL := 3) (by decide) rfl (Nat.le_of_ble_eq_true rfl) (fun p e s m args below meth c A Q ls fx hK hP hD hA hS hl hret => ?_)
  have hx := fx.1
  have hb := fx.2.1
  have hml := fx.2.2.1
  have hown := fx.2.2.2.1
  have hts := fx.2.2.2.2
  have hl : lv_has ls 3 [(0, .ref (a_e 0)), (1, .int kind), (2, .int ia)] := hl
  have hP : va_P g.1 vwCl (wX6 g a_e I_e) s.heap := hP
  have hf_31 := hts _ (uT _ _ u_114)
  have hf_34 := hts _ (uT _ _ u_115)
  have hi_X6 : ∀ w ∈ wsX60, w.before args s = true := fun w h => hts w (uT _ w (u_wsX60 w h))
  have lm1 : (-1 : Int32).toInt = -1 := by decide
  have lm0 : (0 : Int32).toInt = 0 := by decide
  have lm2 : (1 : Int32).toInt = 1 := by decide
  refine lv_aload_n hx hb dX6_faulty_0 rfl (lv_at hl 0 rfl) ?_
  refine lv_iload_n hx hb dX6_faulty_1 rfl (lv_at hl 1 rfl) ?_
  refine va_put (D := g.1) (ci := 6) (v := .int kind) (ty := .int) (C := RX6) (T := TX6) (N := 10) hx hb hi_X6 (fun _ h => h) tyX6 tyX6_ok nmX6 hown hK.1 hP hD hS 0 rfl rfl 6 (by decide) hf_31 (fun _ h9 => h9) rfl (by decide +kernel) rfl rfl (Nat.le_of_ble_eq_true rfl) dX6_faulty_2 (fun H locs hP hD hS => ?_)
  have hP : va_P g.1 vwCl (wX6 g a_e (uF I_e 0 6 kind)) H := hP
  have hD : va_D A (wX6 g a_e (uF I_e 0 6 kind)) := hD
  refine lv_aload_n hx hb dX6_faulty_5 rfl (lv_at hl 0 rfl) ?_
  refine lv_iload_n hx hb dX6_faulty_6 rfl (lv_at hl 2 rfl) ?_
  refine va_put (D := g.1) (ci := 6) (v := .int ia) (ty := .int) (C := RX6) (T := TX6) (N := 10) hx hb hi_X6 (fun _ h => h) tyX6 tyX6_ok nmX6 hown hK.1 hP hD hS 0 rfl rfl 7 (by decide) hf_34 (fun _ h9 => h9) rfl (by decide +kernel) rfl rfl (Nat.le_of_ble_eq_true rfl) dX6_faulty_7 (fun H locs hP hD hS => ?_)
  have hP : va_P g.1 vwCl (wX6 g a_e (uF (uF I_e 0 6 kind) 0 7 ia)) H := hP
  have hD : va_D A (wX6 g a_e (uF (uF I_e 0 6 kind) 0 7 ia)) := hD
  refine lv_iconst (v := 1) hx hb dX6_faulty_10 (by decide) ?_
  have lr : (1 : Int32).toInt = 1 := by decide
  refine hret 11 ls (1 : Int32) _ _ (uF (uF I_e 0 6 kind) 0 7 ia) dX6_faulty_11 hS hP hD ?_
  exact ⟨by decide, by simpa [EI, uF, uR, upd] using hE, fun k h1 h2 => by simp [uF, uR, upd, h1, h2], rfl, rfl⟩

set_option maxHeartbeats 4000000 in
set_option maxRecDepth 100000 in
theorem kX6_setDigit (l : Launch) (g : gG) (a_e : Nat → Nat) (I_e : Nat → Nat → Int32) (a_x : Nat → Nat) (n_x : Nat) (I_x : Nat → Nat → Int32) (a_t : Nat → Nat) (I_t : Nat → Nat → Int32) (ia : Int32) (hT : TI I_t) (hE : EI I_e) (h_at : 0 ≤ ia.toInt ∧ ia.toInt < (n_x : Int) ∧ n_x ≤ 1000) (h_dg : 48 ≤ (I_x 0 ia.toNatClampNeg).toInt ∧ (I_x 0 ia.toNatClampNeg).toInt ≤ 57) : EffI l g yX6_setDigit wsX6_setDigit 2 [.ref (a_e 0), .ref (a_x 0), .int ia, .ref (a_t 0)] (wX6 g a_e I_e ++ (wArr g a_x n_x I_x ++ wX7 g a_t I_t)) (fun (u : (Nat → Nat → Int32)) => wX6 g a_e u ++ (wArr g a_x n_x I_x ++ wX7 g a_t I_t)) (fun r (u : (Nat → Nat → Int32)) => r.toInt = 1 ∧ EI (u) ∧ (u) 0 9 = I_e 0 9 ∧ (u) 0 8 = I_e 0 8 ∧ (u) 0 5 = I_e 0 5 ∧ ((((fxTc I_t).1 1 = 0 ∨ uNj (fxTc I_t) (I_e 0 5) (uFg ((fxB (I_x 0)) ia.toInt.toNat))) ∧ (u) 0 6 = 4 ∧ (u) 0 7 = ia) ∨ ((fxTc I_t).1 1 ≠ 0 ∧ (u) 0 6 = I_e 0 6 ∧ (u) 0 7 = I_e 0 7 ∧ ∃ q, uJs (fxTc I_t) (I_e 0 5) (uFg ((fxB (I_x 0)) ia.toInt.toNat)) q ∧ ((I_e 0 3).toInt ≤ 1196 → ((u) 0 3).toInt = (I_e 0 3).toInt + uNu (fxB (I_x 0)) ia.toInt + (uCC (fxTc I_t) q : Int))))) := by
  refine EffI.st (cc := cX6_setDigit) (maxL := 5) (by decide) rfl (Nat.le_of_ble_eq_true rfl) (fun p e s m args below meth c A Q ls fx hK hP hD hA hS hl hret => ?_)
  have hx := fx.1
  have hb := fx.2.1
  have hml := fx.2.2.1
  have hown := fx.2.2.2.1
  have hts := fx.2.2.2.2
  have hl : lv_has ls 5 [(0, .ref (a_e 0)), (1, .ref (a_x 0)), (2, .int ia), (3, .ref (a_t 0))] := hl
  have hP : va_P g.1 vwCl (wX6 g a_e I_e ++ (wArr g a_x n_x I_x ++ wX7 g a_t I_t)) s.heap := hP
  have hf_28 := hts _ (uT _ _ u_113)
  have hf_88 := hts _ (uT _ _ u_613)
  have hi_X6 : ∀ w ∈ wsX60, w.before args s = true := fun w h => hts w (uT _ w (u_wsX60 w h))
  have hi_X7 : ∀ w ∈ wsX70, w.before args s = true := fun w h => hts w (uT _ w (u_wsX70 w h))
  have lm1 : (-1 : Int32).toInt = -1 := by decide
  have lm0 : (0 : Int32).toInt = 0 := by decide
  have lm2 : (1 : Int32).toInt = 1 := by decide
  have hru := TI.ru hT
  refine lv_aload_n hx hb dX6_setDigit_0 rfl (lv_at hl 3 rfl) ?_
  refine lv_aload_n hx hb dX6_setDigit_1 rfl (lv_at hl 1 rfl) ?_
  refine lv_iload_n hx hb dX6_setDigit_2 rfl (lv_at hl 2 rfl) ?_
  have n_3 : vp_in ia n_x := (t_in (by omega))
  refine va_iald hx hb hK.1 hP 4 0 rfl rfl n_3 dX6_setDigit_3 ?_
  refine q_nm (fun x1 e_x1 => ?_)
  have e_x1 : x1 = (I_x 0) ia.toNatClampNeg := e_x1
  have g_x1 : x1.toInt = ((I_x 0) ia.toNatClampNeg).toInt := congrArg _ e_x1
  refine PurI.cn (C := RX10) (host := "RaisedPress") (As := [.int x1]) (kX10_letterOfDigit l g x1) fx (gU (uT _) u_615) rfl hdX10_letterOfDigit ⟨Nat.le_of_ble_eq_true rfl, Nat.le_of_ble_eq_true rfl⟩ hK hP [] rfl (nm_in_RX6_81) (uT _ _ u_614) (uT _ _ u_2) rfl rfl hl.1 (Nat.le_of_ble_eq_true rfl) dX6_setDigit_4 (fun r2 p_r2 => ?_)
  refine lv_aload_n hx hb dX6_setDigit_7 rfl (lv_at hl 0 rfl) ?_
  refine va_get (D := g.1) (ci := 6) (v := .int (I_e 0 5)) (C := RX6) (T := TX6) (N := 10) hx hb hi_X6 (fun _ h => h) hown hK.1 hP 0 rfl rfl 5 (by decide) hf_28 (fun _ h9 => h9) rfl dX6_setDigit_8 ?_
  refine PurI.cv (As := [.int r2, .int (I_e 0 5)]) (kX7_plainRule l g a_t I_t r2 (I_e 0 5) hT) fx (gUV (uT _) u_616 u_617 u_618 u_31 u_619) rfl hdX7_plainRule ⟨Nat.le_of_ble_eq_true rfl, Nat.le_of_ble_eq_true rfl⟩ hK hP [5, 6, 7, 8, 9, 10, 11] rfl rfl rfl rfl rfl hl.1 (Nat.le_of_ble_eq_true rfl) dX6_setDigit_11 (fun r3 p_r3 => ?_)
  refine lv_istore (lv' := [(4, .int r3), (0, .ref (a_e 0)), (1, .ref (a_x 0)), (2, .int ia), (3, .ref (a_t 0))]) hx hb dX6_setDigit_14 hl (by decide) rfl (fun ls hl => ?_)
  refine lv_aload_n hx hb dX6_setDigit_16 rfl (lv_at hl 4 rfl) ?_
  refine va_get (D := g.1) (ci := 7) (v := .ref (a_t 1)) (C := RX7) (T := TX7) (N := 8) hx hb hi_X7 (fun _ h => h) hown hK.1 hP 5 rfl rfl 2 (by decide) hf_88 (fun _ h9 => h9) rfl dX6_setDigit_17 ?_
  refine lv_iconst (v := 1) hx hb dX6_setDigit_20 (by decide) ?_
  have n_21 : vp_in (1 : Int32) 5 := (t_in (by decide))
  refine va_iald hx hb hK.1 hP 6 0 rfl rfl n_21 dX6_setDigit_21 ?_
  refine q_nm (fun x4 e_x4 => ?_)
  have e_x4 : x4 = (I_t 1) 1 := e_x4
  have g_x4 : x4.toInt = ((I_t 1) 1).toInt := congrArg _ e_x4
  have f_x4 := TI.sg hT 1
  rw [← e_x4] at f_x4
  refine q_if_eq (tgt := 31) hx hb dX6_setDigit_22 (by decide) rfl (fun b_22 k_22 => ?_) (fun b_22 k_22 => ?_)
  · refine lv_aload_n hx hb dX6_setDigit_31 rfl (lv_at hl 1 rfl) ?_
    refine lv_iconst (v := 4) hx hb dX6_setDigit_32 (by decide) ?_
    refine lv_iload_n hx hb dX6_setDigit_33 rfl (lv_at hl 3 rfl) ?_
    refine EffI.cv (wr := (wArr g a_x n_x I_x ++ wX7 g a_t I_t)) (w' := fun u6 => wX6 g a_e u6 ++ (wArr g a_x n_x I_x ++ wX7 g a_t I_t)) (As := [.int (4 : Int32), .int ia]) (kX6_faulty l g a_e I_e (4 : Int32) ia hE) fx (gUV (uT _) u_623 u_624 u_625 u_40 u_626) rfl hdX6_faulty ⟨Nat.le_of_ble_eq_true rfl, Nat.le_of_ble_eq_true rfl⟩ hK hP hD hS hA [0, 1, 2, 3] [4, 5, 6, 7, 8, 9, 10, 11] [8, 9, 10, 11, 0, 1, 2, 3, 4, 5, 6, 7] rfl rfl rfl rfl (by decide) rfl (fun _ => rfl) rfl rfl rfl rfl hl.1 (Nat.le_of_ble_eq_true rfl) dX6_setDigit_34 (fun r5 u6 H locs p_r5 hP hD hS => ?_)
    have hP : va_P g.1 vwCl (wX6 g a_e u6 ++ (wArr g a_x n_x I_x ++ wX7 g a_t I_t)) H := hP
    have hD : va_D A (wX6 g a_e u6 ++ (wArr g a_x n_x I_x ++ wX7 g a_t I_t)) := hD
    refine hret 37 ls r5 _ _ u6 dX6_setDigit_37 hS hP hD ?_
    exact (by have s1 : (fxTc I_t).1 1 = (x4).toInt := (uTc.sg (by decide)).trans (congrArg Int32.toInt (show I_t 1 1 = x4 from e_x4.symm)); have w4 : (r2).toInt = uFg ((fxB (I_x 0)) ia.toInt.toNat) := (by have w := p_r2 (by rw [e_x1]; exact h_dg); rw [w, e_x1]; rfl); exact ⟨p_r5.1, p_r5.2.1, (p_r5.2.2.1 9 (by decide) (by decide)), (p_r5.2.2.1 8 (by decide) (by decide)), (p_r5.2.2.1 5 (by decide) (by decide)), Or.inl ⟨(by first | exact Or.inl (by omega) | (refine Or.inr ?_; have j11 := p_r3.2.2.2.resolve_right (fun z => by omega); rw [w4] at j11; exact j11.2)), p_r5.2.2.2.1, p_r5.2.2.2.2⟩⟩)
  · refine lv_iload hx hb dX6_setDigit_25 (lv_at hl 0 rfl) ?_
    refine lv_iconst (v := -1) hx hb dX6_setDigit_27 (by decide) ?_
    refine q_icmp_ne (tgt := 38) hx hb dX6_setDigit_28 (by decide) rfl (by decide : (-1 : Int32).toInt = -1) (fun k_28 => ?_) (fun k_28 => ?_)
    · refine lv_iload_n hx hb dX6_setDigit_38 rfl (lv_at hl 3 rfl) ?_
      refine q_if_eq (tgt := 53) hx hb dX6_setDigit_39 (by decide) rfl (fun b_39 k_39 => ?_) (fun b_39 k_39 => ?_)
      · refine lv_aload_n hx hb dX6_setDigit_53 rfl (lv_at hl 1 rfl) ?_
        refine lv_aload_n hx hb dX6_setDigit_54 rfl (lv_at hl 4 rfl) ?_
        refine va_get (D := g.1) (ci := 7) (v := .ref (a_t 1)) (C := RX7) (T := TX7) (N := 8) hx hb hi_X7 (fun _ h => h) hown hK.1 hP 5 rfl rfl 2 (by decide) hf_88 (fun _ h9 => h9) rfl dX6_setDigit_55 ?_
        refine lv_iconst (v := 1) hx hb dX6_setDigit_58 (by decide) ?_
        have n_59 : vp_in (1 : Int32) 5 := (t_in (by decide))
        refine va_iald hx hb hK.1 hP 6 0 rfl rfl n_59 dX6_setDigit_59 ?_
        refine q_nm (fun x7 e_x7 => ?_)
        have e_x7 : x7 = (I_t 1) 1 := e_x7
        have g_x7 : x7.toInt = ((I_t 1) 1).toInt := congrArg _ e_x7
        have f_x7 := TI.sg hT 1
        rw [← e_x7] at f_x7
        refine lv_iconst (v := -1) hx hb dX6_setDigit_60 (by decide) ?_
        refine EffV.cv (wr := (wArr g a_x n_x I_x ++ wX7 g a_t I_t)) (w' := fun u9 => wX6 g a_e u9 ++ (wArr g a_x n_x I_x ++ wX7 g a_t I_t)) (As := [.int x7, .int (-1 : Int32)]) (kX6_add l g a_e I_e x7 (-1 : Int32) hE) fx (gUV (uT _) u_605 u_606 u_607 u_40 u_608) rfl hdX6_add ⟨Nat.le_of_ble_eq_true rfl, Nat.le_of_ble_eq_true rfl⟩ hK hP hD hS hA [0, 1, 2, 3] [4, 5, 6, 7, 8, 9, 10, 11] [8, 9, 10, 11, 0, 1, 2, 3, 4, 5, 6, 7] rfl rfl rfl rfl (by decide) rfl (fun _ => rfl) rfl rfl rfl rfl hl.1 (Nat.le_of_ble_eq_true rfl) dX6_setDigit_61 (fun u9 H locs p_r8 hP hD hS => ?_)
        have hP : va_P g.1 vwCl (wX6 g a_e u9 ++ (wArr g a_x n_x I_x ++ wX7 g a_t I_t)) H := hP
        have hD : va_D A (wX6 g a_e u9 ++ (wArr g a_x n_x I_x ++ wX7 g a_t I_t)) := hD
        refine lv_aload_n hx hb dX6_setDigit_64 rfl (lv_at hl 1 rfl) ?_
        refine lv_iload hx hb dX6_setDigit_65 (lv_at hl 0 rfl) ?_
        refine lv_aload_n hx hb dX6_setDigit_67 rfl (lv_at hl 4 rfl) ?_
        refine EffV.cv (wr := (wArr g a_x n_x I_x)) (w' := fun u11 => wX6 g a_e u11 ++ (wArr g a_x n_x I_x ++ wX7 g a_t I_t)) (As := [.int r3, .ref (a_t 0)]) (kX6_addRule l g a_e u9 a_t I_t r3 (by have q := p_r3; omega) hT p_r8.1) fx (gUV (uT _) u_627 u_628 u_629 u_40 u_630) rfl hdX6_addRule ⟨Nat.le_of_ble_eq_true rfl, Nat.le_of_ble_eq_true rfl⟩ hK hP hD hS hA [0, 1, 2, 3, 5, 6, 7, 8, 9, 10, 11] [4] [1, 2, 3, 4, 0, 5, 6, 7, 8, 9, 10, 11] rfl rfl rfl rfl (by decide) rfl (fun _ => rfl) rfl rfl rfl rfl hl.1 (Nat.le_of_ble_eq_true rfl) dX6_setDigit_68 (fun u11 H locs p_r10 hP hD hS => ?_)
        have hP : va_P g.1 vwCl (wX6 g a_e u11 ++ (wArr g a_x n_x I_x ++ wX7 g a_t I_t)) H := hP
        have hD : va_D A (wX6 g a_e u11 ++ (wArr g a_x n_x I_x ++ wX7 g a_t I_t)) := hD
        refine lv_iconst (v := 1) hx hb dX6_setDigit_71 (by decide) ?_
        have lr : (1 : Int32).toInt = 1 := by decide
        refine hret 72 ls (1 : Int32) _ _ u11 dX6_setDigit_72 hS hP hD ?_
        exact (by first | exact (by have s1 : (fxTc I_t).1 1 = (x4).toInt := (uTc.sg (by decide)).trans (congrArg Int32.toInt (show I_t 1 1 = x4 from e_x4.symm)); have w4 : (r2).toInt = uFg ((fxB (I_x 0)) ia.toInt.toNat) := (by have w := p_r2 (by rw [e_x1]; exact h_dg); rw [w, e_x1]; rfl); have nu : uNu (fxB (I_x 0)) ia.toInt = 0 := (by unfold uNu; (rw [if_neg (by omega)]; done)); have j11 := p_r3.2.2.2.resolve_left (fun z => by omega); rw [w4] at j11; have cc := uTc.cc (I := I_t) (r := (r3).toInt.toNat) (by omega); exact ⟨by decide, p_r10.1, (p_r10.2.1 9 (by decide) (by decide)), (p_r10.2.1 8 (by decide) (by decide)), (p_r10.2.1 5 (by decide) (by decide)), Or.inr ⟨by omega, (p_r10.2.1 6 (by decide) (by decide)), (p_r10.2.1 7 (by decide) (by decide)), _, j11.2, fun z => by have a2 := p_r10.2.2 (by omega); have a3 : (I_t 3 (r3).toNatClampNeg).toInt = (I_t 3 (r3).toInt.toNat).toInt := rfl; have a4 := TI.cc hT (r3).toInt.toNat; omega⟩⟩) | exact (by have s1 : (fxTc I_t).1 1 = (x4).toInt := (uTc.sg (by decide)).trans (congrArg Int32.toInt (show I_t 1 1 = x4 from e_x4.symm)); have w4 : (r2).toInt = uFg ((fxB (I_x 0)) ia.toInt.toNat) := (by have w := p_r2 (by rw [e_x1]; exact h_dg); rw [w, e_x1]; rfl); have nu : uNu (fxB (I_x 0)) ia.toInt = 1 := (by unfold uNu; (rw [if_neg (by omega)]; done)); have j11 := p_r3.2.2.2.resolve_left (fun z => by omega); rw [w4] at j11; have cc := uTc.cc (I := I_t) (r := (r3).toInt.toNat) (by omega); exact ⟨by decide, p_r10.1, ((p_r10.2.1 9 (by decide) (by decide)).trans (p_r8.2.1 9 (by decide) (by decide))), ((p_r10.2.1 8 (by decide) (by decide)).trans (p_r8.2.1 8 (by decide) (by decide))), ((p_r10.2.1 5 (by decide) (by decide)).trans (p_r8.2.1 5 (by decide) (by decide))), Or.inr ⟨by omega, ((p_r10.2.1 6 (by decide) (by decide)).trans (p_r8.2.1 6 (by decide) (by decide))), ((p_r10.2.1 7 (by decide) (by decide)).trans (p_r8.2.1 7 (by decide) (by decide))), _, j11.2, fun z => by have a1 := p_r8.2.2 (by omega); have a2 := p_r10.2.2 (by omega); have a3 : (I_t 3 (r3).toNatClampNeg).toInt = (I_t 3 (r3).toInt.toNat).toInt := rfl; have a4 := TI.cc hT (r3).toInt.toNat; omega⟩⟩))
      · refine lv_aload_n hx hb dX6_setDigit_42 rfl (lv_at hl 2 rfl) ?_
        refine lv_iload_n hx hb dX6_setDigit_43 rfl (lv_at hl 3 rfl) ?_
        refine lv_iconst (v := 1) hx hb dX6_setDigit_44 (by decide) ?_
        refine r_isub hx hb dX6_setDigit_45 rfl (by decide : (1 : Int32).toInt = 1) (fun x12 e_x12 t_x12 => ?_)
        try have t_x12 := t_x12 (by omega)
        have n_46 : vp_in x12 n_x := (t_in (by omega))
        refine va_iald hx hb hK.1 hP 4 0 rfl rfl n_46 dX6_setDigit_46 ?_
        refine q_nm (fun x13 e_x13 => ?_)
        have e_x13 : x13 = (I_x 0) x12.toNatClampNeg := e_x13
        have g_x13 : x13.toInt = ((I_x 0) x12.toNatClampNeg).toInt := congrArg _ e_x13
        refine PurI.cn (C := RX10) (host := "RaisedPress") (As := [.int x13]) (kX10_isDigit l g x13) fx (gU (uT _) u_375) rfl hdX10_isDigit ⟨Nat.le_of_ble_eq_true rfl, Nat.le_of_ble_eq_true rfl⟩ hK hP [] rfl (nm_in_RX6_55) (uT _ _ u_374) (uT _ _ u_2) rfl rfl hl.1 (Nat.le_of_ble_eq_true rfl) dX6_setDigit_47 (fun r14 p_r14 => ?_)
        refine q_if_ne (tgt := 64) hx hb dX6_setDigit_50 (by decide) rfl (fun b_50 k_50 => ?_) (fun b_50 k_50 => ?_)
        · have q_50 := bP.t p_r14 b_50
          refine lv_aload_n hx hb dX6_setDigit_64 rfl (lv_at hl 1 rfl) ?_
          refine lv_iload hx hb dX6_setDigit_65 (lv_at hl 0 rfl) ?_
          refine lv_aload_n hx hb dX6_setDigit_67 rfl (lv_at hl 4 rfl) ?_
          refine EffV.cv (wr := (wArr g a_x n_x I_x)) (w' := fun u16 => wX6 g a_e u16 ++ (wArr g a_x n_x I_x ++ wX7 g a_t I_t)) (As := [.int r3, .ref (a_t 0)]) (kX6_addRule l g a_e I_e a_t I_t r3 (by have q := p_r3; omega) hT hE) fx (gUV (uT _) u_627 u_628 u_629 u_40 u_630) rfl hdX6_addRule ⟨Nat.le_of_ble_eq_true rfl, Nat.le_of_ble_eq_true rfl⟩ hK hP hD hS hA [0, 1, 2, 3, 5, 6, 7, 8, 9, 10, 11] [4] [1, 2, 3, 4, 0, 5, 6, 7, 8, 9, 10, 11] rfl rfl rfl rfl (by decide) rfl (fun _ => rfl) rfl rfl rfl rfl hl.1 (Nat.le_of_ble_eq_true rfl) dX6_setDigit_68 (fun u16 H locs p_r15 hP hD hS => ?_)
          have hP : va_P g.1 vwCl (wX6 g a_e u16 ++ (wArr g a_x n_x I_x ++ wX7 g a_t I_t)) H := hP
          have hD : va_D A (wX6 g a_e u16 ++ (wArr g a_x n_x I_x ++ wX7 g a_t I_t)) := hD
          refine lv_iconst (v := 1) hx hb dX6_setDigit_71 (by decide) ?_
          have lr : (1 : Int32).toInt = 1 := by decide
          refine hret 72 ls (1 : Int32) _ _ u16 dX6_setDigit_72 hS hP hD ?_
          exact (by exact (by have s1 : (fxTc I_t).1 1 = (x4).toInt := (uTc.sg (by decide)).trans (congrArg Int32.toInt (show I_t 1 1 = x4 from e_x4.symm)); have w4 : (r2).toInt = uFg ((fxB (I_x 0)) ia.toInt.toNat) := (by have w := p_r2 (by rw [e_x1]; exact h_dg); rw [w, e_x1]; rfl); have nu : uNu (fxB (I_x 0)) ia.toInt = 0 := (by unfold uNu; first | (rw [if_pos ⟨by omega, (by have w := q_50; rw [e_x13] at w; rw [show (ia.toInt - 1).toNat = (x12).toNatClampNeg from (by show _ = (x12).toInt.toNat; omega)]; exact w)⟩]; done) | (rw [if_neg (by omega)]; done) | (rw [if_neg (fun z => q_50 (by rw [e_x13, show (x12).toNatClampNeg = (ia.toInt - 1).toNat from (by show (x12).toInt.toNat = _; omega)]; exact z.2))]; done)); have j11 := p_r3.2.2.2.resolve_left (fun z => by omega); rw [w4] at j11; have cc := uTc.cc (I := I_t) (r := (r3).toInt.toNat) (by omega); exact ⟨by decide, p_r15.1, (p_r15.2.1 9 (by decide) (by decide)), (p_r15.2.1 8 (by decide) (by decide)), (p_r15.2.1 5 (by decide) (by decide)), Or.inr ⟨by omega, (p_r15.2.1 6 (by decide) (by decide)), (p_r15.2.1 7 (by decide) (by decide)), _, j11.2, fun z => by have a2 := p_r15.2.2 (by omega); have a3 : (I_t 3 (r3).toNatClampNeg).toInt = (I_t 3 (r3).toInt.toNat).toInt := rfl; have a4 := TI.cc hT (r3).toInt.toNat; omega⟩⟩))
        · have q_50 := bP.f p_r14 b_50
          refine lv_aload_n hx hb dX6_setDigit_53 rfl (lv_at hl 1 rfl) ?_
          refine lv_aload_n hx hb dX6_setDigit_54 rfl (lv_at hl 4 rfl) ?_
          refine va_get (D := g.1) (ci := 7) (v := .ref (a_t 1)) (C := RX7) (T := TX7) (N := 8) hx hb hi_X7 (fun _ h => h) hown hK.1 hP 5 rfl rfl 2 (by decide) hf_88 (fun _ h9 => h9) rfl dX6_setDigit_55 ?_
          refine lv_iconst (v := 1) hx hb dX6_setDigit_58 (by decide) ?_
          have n_59 : vp_in (1 : Int32) 5 := (t_in (by decide))
          refine va_iald hx hb hK.1 hP 6 0 rfl rfl n_59 dX6_setDigit_59 ?_
          refine q_nm (fun x17 e_x17 => ?_)
          have e_x17 : x17 = (I_t 1) 1 := e_x17
          have g_x17 : x17.toInt = ((I_t 1) 1).toInt := congrArg _ e_x17
          have f_x17 := TI.sg hT 1
          rw [← e_x17] at f_x17
          refine lv_iconst (v := -1) hx hb dX6_setDigit_60 (by decide) ?_
          refine EffV.cv (wr := (wArr g a_x n_x I_x ++ wX7 g a_t I_t)) (w' := fun u19 => wX6 g a_e u19 ++ (wArr g a_x n_x I_x ++ wX7 g a_t I_t)) (As := [.int x17, .int (-1 : Int32)]) (kX6_add l g a_e I_e x17 (-1 : Int32) hE) fx (gUV (uT _) u_605 u_606 u_607 u_40 u_608) rfl hdX6_add ⟨Nat.le_of_ble_eq_true rfl, Nat.le_of_ble_eq_true rfl⟩ hK hP hD hS hA [0, 1, 2, 3] [4, 5, 6, 7, 8, 9, 10, 11] [8, 9, 10, 11, 0, 1, 2, 3, 4, 5, 6, 7] rfl rfl rfl rfl (by decide) rfl (fun _ => rfl) rfl rfl rfl rfl hl.1 (Nat.le_of_ble_eq_true rfl) dX6_setDigit_61 (fun u19 H locs p_r18 hP hD hS => ?_)
          have hP : va_P g.1 vwCl (wX6 g a_e u19 ++ (wArr g a_x n_x I_x ++ wX7 g a_t I_t)) H := hP
          have hD : va_D A (wX6 g a_e u19 ++ (wArr g a_x n_x I_x ++ wX7 g a_t I_t)) := hD
          refine lv_aload_n hx hb dX6_setDigit_64 rfl (lv_at hl 1 rfl) ?_
          refine lv_iload hx hb dX6_setDigit_65 (lv_at hl 0 rfl) ?_
          refine lv_aload_n hx hb dX6_setDigit_67 rfl (lv_at hl 4 rfl) ?_
          refine EffV.cv (wr := (wArr g a_x n_x I_x)) (w' := fun u21 => wX6 g a_e u21 ++ (wArr g a_x n_x I_x ++ wX7 g a_t I_t)) (As := [.int r3, .ref (a_t 0)]) (kX6_addRule l g a_e u19 a_t I_t r3 (by have q := p_r3; omega) hT p_r18.1) fx (gUV (uT _) u_627 u_628 u_629 u_40 u_630) rfl hdX6_addRule ⟨Nat.le_of_ble_eq_true rfl, Nat.le_of_ble_eq_true rfl⟩ hK hP hD hS hA [0, 1, 2, 3, 5, 6, 7, 8, 9, 10, 11] [4] [1, 2, 3, 4, 0, 5, 6, 7, 8, 9, 10, 11] rfl rfl rfl rfl (by decide) rfl (fun _ => rfl) rfl rfl rfl rfl hl.1 (Nat.le_of_ble_eq_true rfl) dX6_setDigit_68 (fun u21 H locs p_r20 hP hD hS => ?_)
          have hP : va_P g.1 vwCl (wX6 g a_e u21 ++ (wArr g a_x n_x I_x ++ wX7 g a_t I_t)) H := hP
          have hD : va_D A (wX6 g a_e u21 ++ (wArr g a_x n_x I_x ++ wX7 g a_t I_t)) := hD
          refine lv_iconst (v := 1) hx hb dX6_setDigit_71 (by decide) ?_
          have lr : (1 : Int32).toInt = 1 := by decide
          refine hret 72 ls (1 : Int32) _ _ u21 dX6_setDigit_72 hS hP hD ?_
          exact (by first | exact (by have s1 : (fxTc I_t).1 1 = (x4).toInt := (uTc.sg (by decide)).trans (congrArg Int32.toInt (show I_t 1 1 = x4 from e_x4.symm)); have w4 : (r2).toInt = uFg ((fxB (I_x 0)) ia.toInt.toNat) := (by have w := p_r2 (by rw [e_x1]; exact h_dg); rw [w, e_x1]; rfl); have nu : uNu (fxB (I_x 0)) ia.toInt = 0 := (by unfold uNu; first | (rw [if_pos ⟨by omega, (by have w := q_50; rw [e_x13] at w; rw [show (ia.toInt - 1).toNat = (x12).toNatClampNeg from (by show _ = (x12).toInt.toNat; omega)]; exact w)⟩]; done) | (rw [if_neg (by omega)]; done) | (rw [if_neg (fun z => q_50 (by rw [e_x13, show (x12).toNatClampNeg = (ia.toInt - 1).toNat from (by show (x12).toInt.toNat = _; omega)]; exact z.2))]; done)); have j11 := p_r3.2.2.2.resolve_left (fun z => by omega); rw [w4] at j11; have cc := uTc.cc (I := I_t) (r := (r3).toInt.toNat) (by omega); exact ⟨by decide, p_r20.1, (p_r20.2.1 9 (by decide) (by decide)), (p_r20.2.1 8 (by decide) (by decide)), (p_r20.2.1 5 (by decide) (by decide)), Or.inr ⟨by omega, (p_r20.2.1 6 (by decide) (by decide)), (p_r20.2.1 7 (by decide) (by decide)), _, j11.2, fun z => by have a2 := p_r20.2.2 (by omega); have a3 : (I_t 3 (r3).toNatClampNeg).toInt = (I_t 3 (r3).toInt.toNat).toInt := rfl; have a4 := TI.cc hT (r3).toInt.toNat; omega⟩⟩) | exact (by have s1 : (fxTc I_t).1 1 = (x4).toInt := (uTc.sg (by decide)).trans (congrArg Int32.toInt (show I_t 1 1 = x4 from e_x4.symm)); have w4 : (r2).toInt = uFg ((fxB (I_x 0)) ia.toInt.toNat) := (by have w := p_r2 (by rw [e_x1]; exact h_dg); rw [w, e_x1]; rfl); have nu : uNu (fxB (I_x 0)) ia.toInt = 1 := (by unfold uNu; first | (rw [if_pos ⟨by omega, (by have w := q_50; rw [e_x13] at w; rw [show (ia.toInt - 1).toNat = (x12).toNatClampNeg from (by show _ = (x12).toInt.toNat; omega)]; exact w)⟩]; done) | (rw [if_neg (by omega)]; done) | (rw [if_neg (fun z => q_50 (by rw [e_x13, show (x12).toNatClampNeg = (ia.toInt - 1).toNat from (by show (x12).toInt.toNat = _; omega)]; exact z.2))]; done)); have j11 := p_r3.2.2.2.resolve_left (fun z => by omega); rw [w4] at j11; have cc := uTc.cc (I := I_t) (r := (r3).toInt.toNat) (by omega); exact ⟨by decide, p_r20.1, ((p_r20.2.1 9 (by decide) (by decide)).trans (p_r18.2.1 9 (by decide) (by decide))), ((p_r20.2.1 8 (by decide) (by decide)).trans (p_r18.2.1 8 (by decide) (by decide))), ((p_r20.2.1 5 (by decide) (by decide)).trans (p_r18.2.1 5 (by decide) (by decide))), Or.inr ⟨by omega, ((p_r20.2.1 6 (by decide) (by decide)).trans (p_r18.2.1 6 (by decide) (by decide))), ((p_r20.2.1 7 (by decide) (by decide)).trans (p_r18.2.1 7 (by decide) (by decide))), _, j11.2, fun z => by have a1 := p_r18.2.2 (by omega); have a2 := p_r20.2.2 (by omega); have a3 : (I_t 3 (r3).toNatClampNeg).toInt = (I_t 3 (r3).toInt.toNat).toInt := rfl; have a4 := TI.cc hT (r3).toInt.toNat; omega⟩⟩))
    · refine lv_aload_n hx hb dX6_setDigit_31 rfl (lv_at hl 1 rfl) ?_
      refine lv_iconst (v := 4) hx hb dX6_setDigit_32 (by decide) ?_
      refine lv_iload_n hx hb dX6_setDigit_33 rfl (lv_at hl 3 rfl) ?_
      refine EffI.cv (wr := (wArr g a_x n_x I_x ++ wX7 g a_t I_t)) (w' := fun u23 => wX6 g a_e u23 ++ (wArr g a_x n_x I_x ++ wX7 g a_t I_t)) (As := [.int (4 : Int32), .int ia]) (kX6_faulty l g a_e I_e (4 : Int32) ia hE) fx (gUV (uT _) u_623 u_624 u_625 u_40 u_626) rfl hdX6_faulty ⟨Nat.le_of_ble_eq_true rfl, Nat.le_of_ble_eq_true rfl⟩ hK hP hD hS hA [0, 1, 2, 3] [4, 5, 6, 7, 8, 9, 10, 11] [8, 9, 10, 11, 0, 1, 2, 3, 4, 5, 6, 7] rfl rfl rfl rfl (by decide) rfl (fun _ => rfl) rfl rfl rfl rfl hl.1 (Nat.le_of_ble_eq_true rfl) dX6_setDigit_34 (fun r22 u23 H locs p_r22 hP hD hS => ?_)
      have hP : va_P g.1 vwCl (wX6 g a_e u23 ++ (wArr g a_x n_x I_x ++ wX7 g a_t I_t)) H := hP
      have hD : va_D A (wX6 g a_e u23 ++ (wArr g a_x n_x I_x ++ wX7 g a_t I_t)) := hD
      refine hret 37 ls r22 _ _ u23 dX6_setDigit_37 hS hP hD ?_
      exact (by have s1 : (fxTc I_t).1 1 = (x4).toInt := (uTc.sg (by decide)).trans (congrArg Int32.toInt (show I_t 1 1 = x4 from e_x4.symm)); have w4 : (r2).toInt = uFg ((fxB (I_x 0)) ia.toInt.toNat) := (by have w := p_r2 (by rw [e_x1]; exact h_dg); rw [w, e_x1]; rfl); exact ⟨p_r22.1, p_r22.2.1, (p_r22.2.2.1 9 (by decide) (by decide)), (p_r22.2.2.1 8 (by decide) (by decide)), (p_r22.2.2.1 5 (by decide) (by decide)), Or.inl ⟨(by first | exact Or.inl (by omega) | (refine Or.inr ?_; have j11 := p_r3.2.2.2.resolve_right (fun z => by omega); rw [w4] at j11; exact j11.2)), p_r22.2.2.2.1, p_r22.2.2.2.2⟩⟩)

set_option maxHeartbeats 4000000 in
set_option maxRecDepth 100000 in
theorem kX6_setLetters (l : Launch) (g : gG) (a_e : Nat → Nat) (I_e : Nat → Nat → Int32) (a_x : Nat → Nat) (n_x : Nat) (I_x : Nat → Nat → Int32) (a_t : Nat → Nat) (I_t : Nat → Nat → Int32) (n : Int32) (ia : Int32) (hT : TI I_t) (hE : EI I_e) (h_at : 0 ≤ ia.toInt ∧ ia.toInt < n.toInt ∧ n.toInt ≤ (n_x : Int) ∧ n_x ≤ 1000) (h_let : ((97 ≤ (I_x 0 ia.toNatClampNeg).toInt ∧ (I_x 0 ia.toNatClampNeg).toInt ≤ 122) ∨ (65 ≤ (I_x 0 ia.toNatClampNeg).toInt ∧ (I_x 0 ia.toNatClampNeg).toInt ≤ 90))) (h_wt : (I_e 0 9).toInt ≤ n.toInt) : EffI l g yX6_setLetters wsX6_setLetters 3 [.ref (a_e 0), .ref (a_x 0), .int n, .int ia, .ref (a_t 0)] (wX6 g a_e I_e ++ (wArr g a_x n_x I_x ++ wX7 g a_t I_t)) (fun (u : (Nat → Nat → Int32)) => wX6 g a_e u ++ (wArr g a_x n_x I_x ++ wX7 g a_t I_t)) (fun r (u : (Nat → Nat → Int32)) => 0 ≤ r.toInt ∧ r.toInt ≤ 6 ∧ EI (u) ∧ ((u) 0 9).toInt ≤ n.toInt ∧ (u) 0 5 = I_e 0 5 ∧ (HL1 I_t → ((ia.toInt < (I_e 0 9).toInt → uWd (fxB (I_x 0)) n.toInt ia.toInt (I_e 0 8).toInt (I_e 0 9).toInt) ∧ ((I_e 0 9).toInt ≤ ia.toInt → 0 < ia.toInt → ¬ uLt ((fxB (I_x 0)) (ia.toInt - 1).toNat))) → (uWd (fxB (I_x 0)) n.toInt ia.toInt ((u) 0 8).toInt ((u) 0 9).toInt ∧ ((uNo (fxTc I_t) (I_e 0 5) (fxB (I_x 0)) ia.toInt ((u) 0 8).toInt ((u) 0 9).toInt ∧ ((u) 0 6 = 3 ∧ (u) 0 7 = ia) ∧ r.toInt = 1) ∨ ((∃ q, uLg (fxTc I_t) (I_e 0 5) (fxB (I_x 0)) ia.toInt ((u) 0 8).toInt ((u) 0 9).toInt q) ∧ uGr ((fxB (I_x 0)) ia.toInt.toNat) ∧ (fxTc I_t).1 0 = 0 ∧ ((u) 0 6 = 5 ∧ (u) 0 7 = ia) ∧ r.toInt = 1) ∨ (∃ q, uLg (fxTc I_t) (I_e 0 5) (fxB (I_x 0)) ia.toInt ((u) 0 8).toInt ((u) 0 9).toInt q ∧ (uGr ((fxB (I_x 0)) ia.toInt.toNat) → (fxTc I_t).1 0 ≠ 0) ∧ ((u) 0 6 = I_e 0 6 ∧ (u) 0 7 = I_e 0 7) ∧ r.toInt = (uLC (fxTc I_t) q : Int) ∧ ((I_e 0 3).toInt ≤ 1196 → ((u) 0 3).toInt = (I_e 0 3).toInt + uCa (fxB (I_x 0)) ia.toInt + (uCC (fxTc I_t) q : Int))))))) := by
  refine EffI.st (cc := cX6_setLetters) (maxL := 6) (by decide) rfl (Nat.le_of_ble_eq_true rfl) (fun p e s m args below meth c A Q ls fx hK hP hD hA hS hl hret => ?_)
  have hx := fx.1
  have hb := fx.2.1
  have hml := fx.2.2.1
  have hown := fx.2.2.2.1
  have hts := fx.2.2.2.2
  have hl : lv_has ls 6 [(0, .ref (a_e 0)), (1, .ref (a_x 0)), (2, .int n), (3, .int ia), (4, .ref (a_t 0))] := hl
  have hP : va_P g.1 vwCl (wX6 g a_e I_e ++ (wArr g a_x n_x I_x ++ wX7 g a_t I_t)) s.heap := hP
  have hf_25 := hts _ (uT _ _ u_112)
  have hf_28 := hts _ (uT _ _ u_113)
  have hf_37 := hts _ (uT _ _ u_116)
  have hf_40 := hts _ (uT _ _ u_117)
  have hf_73 := hts _ (uT _ _ u_631)
  have hf_88 := hts _ (uT _ _ u_613)
  have hf_106 := hts _ (uT _ _ u_646)
  have hi_X6 : ∀ w ∈ wsX60, w.before args s = true := fun w h => hts w (uT _ w (u_wsX60 w h))
  have hi_X7 : ∀ w ∈ wsX70, w.before args s = true := fun w h => hts w (uT _ w (u_wsX70 w h))
  have lm1 : (-1 : Int32).toInt = -1 := by decide
  have lm0 : (0 : Int32).toInt = 0 := by decide
  have lm2 : (1 : Int32).toInt = 1 := by decide
  have hru := TI.ru hT
  have J23 : ∀ (I_e_23 : Nat → Nat → Int32), (hE_23 : EI I_e_23) → (h2_23 : ia.toInt < (I_e_23 0 9).toInt ∧ (I_e_23 0 9).toInt ≤ n.toInt) → (hk23_23 : I_e_23 0 3 = I_e 0 3 ∧ I_e_23 0 5 = I_e 0 5 ∧ I_e_23 0 6 = I_e 0 6 ∧ I_e_23 0 7 = I_e 0 7) → (hw23_23 : ((ia.toInt < (I_e 0 9).toInt → uWd (fxB (I_x 0)) n.toInt ia.toInt (I_e 0 8).toInt (I_e 0 9).toInt) ∧ ((I_e 0 9).toInt ≤ ia.toInt → 0 < ia.toInt → ¬ uLt ((fxB (I_x 0)) (ia.toInt - 1).toNat))) → uWd (fxB (I_x 0)) n.toInt ia.toInt (I_e_23 0 8).toInt (I_e_23 0 9).toInt) → ∀ (H : Heap) (locs : List Loc), va_P g.1 vwCl (wX6 g a_e I_e_23 ++ (wArr g a_x n_x I_x ++ wX7 g a_t I_t)) H → va_D A (wX6 g a_e I_e_23 ++ (wArr g a_x n_x I_x ++ wX7 g a_t I_t)) → va_S A s.heap H locs → ∀ ls : Array Slot, lv_has ls 6 [(0, .ref (a_e 0)), (1, .ref (a_x 0)), (2, .int n), (3, .int ia), (4, .ref (a_t 0))] → W p l e (rm 3) s m args below meth c H locs 0 0 Q (F0 m 23 ls []) := by
    intro I_e_23 hE_23 h2_23 hk23_23 hw23_23 H locs hP hD hS ls hl
    refine lv_aload hx hb dX6_setLetters_23 (lv_at hl 4 rfl) ?_
    refine lv_aload_n hx hb dX6_setLetters_25 rfl (lv_at hl 1 rfl) ?_
    refine lv_aload_n hx hb dX6_setLetters_26 rfl (lv_at hl 0 rfl) ?_
    refine va_get (D := g.1) (ci := 6) (v := .int (I_e_23 0 8)) (C := RX6) (T := TX6) (N := 10) hx hb hi_X6 (fun _ h => h) hown hK.1 hP 0 rfl rfl 8 (by decide) hf_37 (fun _ h9 => h9) rfl dX6_setLetters_27 ?_
    refine lv_aload_n hx hb dX6_setLetters_30 rfl (lv_at hl 0 rfl) ?_
    refine va_get (D := g.1) (ci := 6) (v := .int (I_e_23 0 9)) (C := RX6) (T := TX6) (N := 10) hx hb hi_X6 (fun _ h => h) hown hK.1 hP 0 rfl rfl 9 (by decide) hf_40 (fun _ h9 => h9) rfl dX6_setLetters_31 ?_
    refine lv_iload_n hx hb dX6_setLetters_34 rfl (lv_at hl 3 rfl) ?_
    refine lv_aload_n hx hb dX6_setLetters_35 rfl (lv_at hl 0 rfl) ?_
    refine va_get (D := g.1) (ci := 6) (v := .int (I_e_23 0 5)) (C := RX6) (T := TX6) (N := 10) hx hb hi_X6 (fun _ h => h) hown hK.1 hP 0 rfl rfl 5 (by decide) hf_28 (fun _ h9 => h9) rfl dX6_setLetters_36 ?_
    refine PurI.cv (As := [.ref (a_x 0), .int (I_e_23 0 8), .int (I_e_23 0 9), .int ia, .int (I_e_23 0 5)]) (kX7_longestRule l g a_t I_t a_x n_x I_x (I_e_23 0 8) (I_e_23 0 9) ia (I_e_23 0 5) hT (by omega)) fx (gUV (uT _) u_650 u_651 u_652 u_31 u_653) rfl hdX7_longestRule ⟨Nat.le_of_ble_eq_true rfl, Nat.le_of_ble_eq_true rfl⟩ hK hP [5, 6, 7, 8, 9, 10, 11, 4] rfl rfl rfl rfl rfl hl.1 (Nat.le_of_ble_eq_true rfl) dX6_setLetters_39 (fun r1 p_r1 => ?_)
    refine lv_istore (lv' := [(5, .int r1), (0, .ref (a_e 0)), (1, .ref (a_x 0)), (2, .int n), (3, .int ia), (4, .ref (a_t 0))]) hx hb dX6_setLetters_42 hl (by decide) rfl (fun ls hl => ?_)
    refine lv_iload hx hb dX6_setLetters_44 (lv_at hl 0 rfl) ?_
    refine lv_iconst (v := -1) hx hb dX6_setLetters_46 (by decide) ?_
    refine q_icmp_ne (tgt := 57) hx hb dX6_setLetters_47 (by decide) rfl (by decide : (-1 : Int32).toInt = -1) (fun k_47 => ?_) (fun k_47 => ?_)
    · refine lv_aload_n hx hb dX6_setLetters_57 rfl (lv_at hl 2 rfl) ?_
      refine lv_iload_n hx hb dX6_setLetters_58 rfl (lv_at hl 4 rfl) ?_
      have n_59 : vp_in ia n_x := (t_in (by omega))
      refine va_iald hx hb hK.1 hP 4 0 rfl rfl n_59 dX6_setLetters_59 ?_
      refine q_nm (fun x2 e_x2 => ?_)
      have e_x2 : x2 = (I_x 0) ia.toNatClampNeg := e_x2
      have g_x2 : x2.toInt = ((I_x 0) ia.toNatClampNeg).toInt := congrArg _ e_x2
      refine PurI.cn (C := RX10) (host := "RaisedPress") (As := [.int x2]) (kX10_isGreat l g x2) fx (gU (uT _) u_641) rfl hdX10_isGreat ⟨Nat.le_of_ble_eq_true rfl, Nat.le_of_ble_eq_true rfl⟩ hK hP [] rfl (nm_in_RX6_103) (uT _ _ u_640) (uT _ _ u_2) rfl rfl hl.1 (Nat.le_of_ble_eq_true rfl) dX6_setLetters_60 (fun r3 p_r3 => ?_)
      refine q_if_eq (tgt := 95) hx hb dX6_setLetters_63 (by decide) rfl (fun b_63 k_63 => ?_) (fun b_63 k_63 => ?_)
      · have q_63 := bP.f p_r3 b_63
        refine lv_aload_n hx hb dX6_setLetters_95 rfl (lv_at hl 1 rfl) ?_
        refine lv_iload hx hb dX6_setLetters_96 (lv_at hl 0 rfl) ?_
        refine lv_aload hx hb dX6_setLetters_98 (lv_at hl 5 rfl) ?_
        refine EffV.cv (wr := (wArr g a_x n_x I_x)) (w' := fun u5 => wX6 g a_e u5 ++ (wArr g a_x n_x I_x ++ wX7 g a_t I_t)) (As := [.int r1, .ref (a_t 0)]) (kX6_addRule l g a_e I_e_23 a_t I_t r1 (by have q := p_r1; omega) hT hE_23) fx (gUV (uT _) u_627 u_628 u_629 u_40 u_630) rfl hdX6_addRule ⟨Nat.le_of_ble_eq_true rfl, Nat.le_of_ble_eq_true rfl⟩ hK hP hD hS hA [0, 1, 2, 3, 5, 6, 7, 8, 9, 10, 11] [4] [1, 2, 3, 4, 0, 5, 6, 7, 8, 9, 10, 11] rfl rfl rfl rfl (by decide) rfl (fun _ => rfl) rfl rfl rfl rfl hl.1 (Nat.le_of_ble_eq_true rfl) dX6_setLetters_100 (fun u5 H locs p_r4 hP hD hS => ?_)
        have hP : va_P g.1 vwCl (wX6 g a_e u5 ++ (wArr g a_x n_x I_x ++ wX7 g a_t I_t)) H := hP
        have hD : va_D A (wX6 g a_e u5 ++ (wArr g a_x n_x I_x ++ wX7 g a_t I_t)) := hD
        refine lv_aload_n hx hb dX6_setLetters_103 rfl (lv_at hl 1 rfl) ?_
        refine lv_dup hx hb dX6_setLetters_104 rfl ?_
        refine va_get (D := g.1) (ci := 6) (v := .int (u5 0 4)) (C := RX6) (T := TX6) (N := 10) hx hb hi_X6 (fun _ h => h) hown hK.1 hP 0 rfl rfl 4 (by decide) hf_25 (fun _ h9 => h9) rfl dX6_setLetters_105 ?_
        refine lv_aload hx hb dX6_setLetters_108 (lv_at hl 5 rfl) ?_
        refine va_get (D := g.1) (ci := 7) (v := .ref (a_t 3)) (C := RX7) (T := TX7) (N := 8) hx hb hi_X7 (fun _ h => h) hown hK.1 hP 5 rfl rfl 4 (by decide) hf_73 (fun _ h9 => h9) rfl dX6_setLetters_110 ?_
        refine lv_iload hx hb dX6_setLetters_113 (lv_at hl 0 rfl) ?_
        have n_115 : vp_in r1 24 := (t_in (by omega))
        refine va_iald hx hb hK.1 hP 8 0 rfl rfl n_115 dX6_setLetters_115 ?_
        refine q_nm (fun x6 e_x6 => ?_)
        have e_x6 : x6 = (I_t 3) r1.toNatClampNeg := e_x6
        have g_x6 : x6.toInt = ((I_t 3) r1.toNatClampNeg).toInt := congrArg _ e_x6
        have f_x6 := TI.cc hT r1.toNatClampNeg
        rw [← e_x6] at f_x6
        refine r_iadd hx hb dX6_setLetters_116 rfl rfl (fun x7 e_x7 t_x7 => ?_)
        try have t_x7 := t_x7 (by omega)
        refine va_put (D := g.1) (ci := 6) (v := .int x7) (ty := .int) (C := RX6) (T := TX6) (N := 10) hx hb hi_X6 (fun _ h => h) tyX6 tyX6_ok nmX6 hown hK.1 hP hD hS 0 rfl rfl 4 (by decide) hf_25 (fun _ h9 => h9) rfl (by decide +kernel) rfl rfl (Nat.le_of_ble_eq_true rfl) dX6_setLetters_117 (fun H locs hP hD hS => ?_)
        have hP : va_P g.1 vwCl (wX6 g a_e (uF u5 0 4 x7) ++ (wArr g a_x n_x I_x ++ wX7 g a_t I_t)) H := hP
        have hD : va_D A (wX6 g a_e (uF u5 0 4 x7) ++ (wArr g a_x n_x I_x ++ wX7 g a_t I_t)) := hD
        refine lv_aload hx hb dX6_setLetters_120 (lv_at hl 5 rfl) ?_
        refine va_get (D := g.1) (ci := 7) (v := .ref (a_t 2)) (C := RX7) (T := TX7) (N := 8) hx hb hi_X7 (fun _ h => h) hown hK.1 hP 5 rfl rfl 3 (by decide) hf_106 (fun _ h9 => h9) rfl dX6_setLetters_122 ?_
        refine lv_iload hx hb dX6_setLetters_125 (lv_at hl 0 rfl) ?_
        have n_127 : vp_in r1 24 := (t_in (by omega))
        refine va_iald hx hb hK.1 hP 7 0 rfl rfl n_127 dX6_setLetters_127 ?_
        refine q_nm (fun x8 e_x8 => ?_)
        have e_x8 : x8 = (I_t 2) r1.toNatClampNeg := e_x8
        have g_x8 : x8.toInt = ((I_t 2) r1.toNatClampNeg).toInt := congrArg _ e_x8
        have f_x8 := TI.lc hT r1.toNatClampNeg
        rw [← e_x8] at f_x8
        refine hret 128 ls x8 _ _ (uF u5 0 4 x7) dX6_setLetters_128 hS hP hD ?_
        exact (by exact (by have hby : (x2).toInt = ((fxB (I_x 0)) ia.toInt.toNat) := (by rw [e_x2]; rfl); have ca : uCa (fxB (I_x 0)) ia.toInt = 0 := (by unfold uCa; rw [if_neg (fun z => q_63 (by rw [hby]; exact z))]); exact ⟨by omega, by omega, (by simpa [EI, uF, uR, upd] using p_r4.1), (by show ((uF u5 0 4 x7) 0 9).toInt ≤ _; rw [show (uF u5 0 4 x7) 0 9 = _ from (p_r4.2.1 9 (by decide) (by decide))]; exact h2_23.2), (show (uF u5 0 4 x7) 0 5 = _ from (p_r4.2.1 5 (by decide) (by decide)).trans hk23_23.2.1), fun hl9 hw => ⟨(show uWd _ _ _ ((uF u5 0 4 x7) 0 8).toInt ((uF u5 0 4 x7) 0 9).toInt from (by rw [show (uF u5 0 4 x7) 0 8 = _ from (p_r4.2.1 8 (by decide) (by decide)), show (uF u5 0 4 x7) 0 9 = _ from (p_r4.2.1 9 (by decide) (by decide))]; exact hw23_23 hw)), Or.inr (Or.inr (by have g39 := p_r1.2.2 (⟨hl9, fun j z1 z2 => (hw23_23 hw).2.1 j (by have := (hw23_23 hw).1; omega) (by omega)⟩ : uPr I_t (fxB (I_x 0)) ia.toInt (I_e_23 0 9).toInt); rw [hk23_23.2.1] at g39; have l39 := (g39.resolve_left (fun z => by omega)).2; have lc := uTc.lc (I := I_t) (r := (r1).toInt.toNat) (by omega); have cc := uTc.cc (I := I_t) (r := (r1).toInt.toNat) (by omega); have g127 : (I_t 2 (r1).toInt.toNat).toInt = (x8).toInt := congrArg Int32.toInt e_x8.symm; exact ⟨_, (by rw [show (uF u5 0 4 x7) 0 8 = _ from (p_r4.2.1 8 (by decide) (by decide)), show (uF u5 0 4 x7) 0 9 = _ from (p_r4.2.1 9 (by decide) (by decide))]; exact l39), (fun z => absurd (by rw [hby]; exact z) q_63), ⟨(show (uF u5 0 4 x7) 0 6 = _ from (p_r4.2.1 6 (by decide) (by decide)).trans hk23_23.2.2.1), (show (uF u5 0 4 x7) 0 7 = _ from (p_r4.2.1 7 (by decide) (by decide)).trans hk23_23.2.2.2)⟩, by omega, fun z => (by have a2 := p_r4.2.2 (by first | (rw [hk23_23.1]; omega) | omega); have a3 : (I_t 3 (r1).toNatClampNeg).toInt = (I_t 3 (r1).toInt.toNat).toInt := rfl; have a4 := TI.cc hT (r1).toInt.toNat; have a6 := hk23_23.1; (try rw [a6] at a2); have a5 : ((uF u5 0 4 x7) 0 3).toInt = _ := a2; show ((uF u5 0 4 x7) 0 3).toInt = _; omega)⟩))⟩⟩))
      · have q_63 := bP.t p_r3 b_63
        refine lv_aload hx hb dX6_setLetters_66 (lv_at hl 5 rfl) ?_
        refine va_get (D := g.1) (ci := 7) (v := .ref (a_t 1)) (C := RX7) (T := TX7) (N := 8) hx hb hi_X7 (fun _ h => h) hown hK.1 hP 5 rfl rfl 2 (by decide) hf_88 (fun _ h9 => h9) rfl dX6_setLetters_68 ?_
        refine lv_iconst (v := 0) hx hb dX6_setLetters_71 (by decide) ?_
        have n_72 : vp_in (0 : Int32) 5 := (t_in (by decide))
        refine va_iald hx hb hK.1 hP 6 0 rfl rfl n_72 dX6_setLetters_72 ?_
        refine q_nm (fun x9 e_x9 => ?_)
        have e_x9 : x9 = (I_t 1) 0 := e_x9
        have g_x9 : x9.toInt = ((I_t 1) 0).toInt := congrArg _ e_x9
        have f_x9 := TI.sg hT 0
        rw [← e_x9] at f_x9
        refine q_if_ne (tgt := 83) hx hb dX6_setLetters_73 (by decide) rfl (fun b_73 k_73 => ?_) (fun b_73 k_73 => ?_)
        · refine lv_aload_n hx hb dX6_setLetters_83 rfl (lv_at hl 1 rfl) ?_
          refine lv_aload hx hb dX6_setLetters_84 (lv_at hl 5 rfl) ?_
          refine va_get (D := g.1) (ci := 7) (v := .ref (a_t 1)) (C := RX7) (T := TX7) (N := 8) hx hb hi_X7 (fun _ h => h) hown hK.1 hP 5 rfl rfl 2 (by decide) hf_88 (fun _ h9 => h9) rfl dX6_setLetters_86 ?_
          refine lv_iconst (v := 0) hx hb dX6_setLetters_89 (by decide) ?_
          have n_90 : vp_in (0 : Int32) 5 := (t_in (by decide))
          refine va_iald hx hb hK.1 hP 6 0 rfl rfl n_90 dX6_setLetters_90 ?_
          refine q_nm (fun x10 e_x10 => ?_)
          have e_x10 : x10 = (I_t 1) 0 := e_x10
          have g_x10 : x10.toInt = ((I_t 1) 0).toInt := congrArg _ e_x10
          have f_x10 := TI.sg hT 0
          rw [← e_x10] at f_x10
          refine lv_iconst (v := -1) hx hb dX6_setLetters_91 (by decide) ?_
          refine EffV.cv (wr := (wArr g a_x n_x I_x ++ wX7 g a_t I_t)) (w' := fun u12 => wX6 g a_e u12 ++ (wArr g a_x n_x I_x ++ wX7 g a_t I_t)) (As := [.int x10, .int (-1 : Int32)]) (kX6_add l g a_e I_e_23 x10 (-1 : Int32) hE_23) fx (gUV (uT _) u_605 u_606 u_607 u_40 u_608) rfl hdX6_add ⟨Nat.le_of_ble_eq_true rfl, Nat.le_of_ble_eq_true rfl⟩ hK hP hD hS hA [0, 1, 2, 3] [4, 5, 6, 7, 8, 9, 10, 11] [8, 9, 10, 11, 0, 1, 2, 3, 4, 5, 6, 7] rfl rfl rfl rfl (by decide) rfl (fun _ => rfl) rfl rfl rfl rfl hl.1 (Nat.le_of_ble_eq_true rfl) dX6_setLetters_92 (fun u12 H locs p_r11 hP hD hS => ?_)
          have hP : va_P g.1 vwCl (wX6 g a_e u12 ++ (wArr g a_x n_x I_x ++ wX7 g a_t I_t)) H := hP
          have hD : va_D A (wX6 g a_e u12 ++ (wArr g a_x n_x I_x ++ wX7 g a_t I_t)) := hD
          refine lv_aload_n hx hb dX6_setLetters_95 rfl (lv_at hl 1 rfl) ?_
          refine lv_iload hx hb dX6_setLetters_96 (lv_at hl 0 rfl) ?_
          refine lv_aload hx hb dX6_setLetters_98 (lv_at hl 5 rfl) ?_
          refine EffV.cv (wr := (wArr g a_x n_x I_x)) (w' := fun u14 => wX6 g a_e u14 ++ (wArr g a_x n_x I_x ++ wX7 g a_t I_t)) (As := [.int r1, .ref (a_t 0)]) (kX6_addRule l g a_e u12 a_t I_t r1 (by have q := p_r1; omega) hT p_r11.1) fx (gUV (uT _) u_627 u_628 u_629 u_40 u_630) rfl hdX6_addRule ⟨Nat.le_of_ble_eq_true rfl, Nat.le_of_ble_eq_true rfl⟩ hK hP hD hS hA [0, 1, 2, 3, 5, 6, 7, 8, 9, 10, 11] [4] [1, 2, 3, 4, 0, 5, 6, 7, 8, 9, 10, 11] rfl rfl rfl rfl (by decide) rfl (fun _ => rfl) rfl rfl rfl rfl hl.1 (Nat.le_of_ble_eq_true rfl) dX6_setLetters_100 (fun u14 H locs p_r13 hP hD hS => ?_)
          have hP : va_P g.1 vwCl (wX6 g a_e u14 ++ (wArr g a_x n_x I_x ++ wX7 g a_t I_t)) H := hP
          have hD : va_D A (wX6 g a_e u14 ++ (wArr g a_x n_x I_x ++ wX7 g a_t I_t)) := hD
          refine lv_aload_n hx hb dX6_setLetters_103 rfl (lv_at hl 1 rfl) ?_
          refine lv_dup hx hb dX6_setLetters_104 rfl ?_
          refine va_get (D := g.1) (ci := 6) (v := .int (u14 0 4)) (C := RX6) (T := TX6) (N := 10) hx hb hi_X6 (fun _ h => h) hown hK.1 hP 0 rfl rfl 4 (by decide) hf_25 (fun _ h9 => h9) rfl dX6_setLetters_105 ?_
          refine lv_aload hx hb dX6_setLetters_108 (lv_at hl 5 rfl) ?_
          refine va_get (D := g.1) (ci := 7) (v := .ref (a_t 3)) (C := RX7) (T := TX7) (N := 8) hx hb hi_X7 (fun _ h => h) hown hK.1 hP 5 rfl rfl 4 (by decide) hf_73 (fun _ h9 => h9) rfl dX6_setLetters_110 ?_
          refine lv_iload hx hb dX6_setLetters_113 (lv_at hl 0 rfl) ?_
          have n_115 : vp_in r1 24 := (t_in (by omega))
          refine va_iald hx hb hK.1 hP 8 0 rfl rfl n_115 dX6_setLetters_115 ?_
          refine q_nm (fun x15 e_x15 => ?_)
          have e_x15 : x15 = (I_t 3) r1.toNatClampNeg := e_x15
          have g_x15 : x15.toInt = ((I_t 3) r1.toNatClampNeg).toInt := congrArg _ e_x15
          have f_x15 := TI.cc hT r1.toNatClampNeg
          rw [← e_x15] at f_x15
          refine r_iadd hx hb dX6_setLetters_116 rfl rfl (fun x16 e_x16 t_x16 => ?_)
          try have t_x16 := t_x16 (by omega)
          refine va_put (D := g.1) (ci := 6) (v := .int x16) (ty := .int) (C := RX6) (T := TX6) (N := 10) hx hb hi_X6 (fun _ h => h) tyX6 tyX6_ok nmX6 hown hK.1 hP hD hS 0 rfl rfl 4 (by decide) hf_25 (fun _ h9 => h9) rfl (by decide +kernel) rfl rfl (Nat.le_of_ble_eq_true rfl) dX6_setLetters_117 (fun H locs hP hD hS => ?_)
          have hP : va_P g.1 vwCl (wX6 g a_e (uF u14 0 4 x16) ++ (wArr g a_x n_x I_x ++ wX7 g a_t I_t)) H := hP
          have hD : va_D A (wX6 g a_e (uF u14 0 4 x16) ++ (wArr g a_x n_x I_x ++ wX7 g a_t I_t)) := hD
          refine lv_aload hx hb dX6_setLetters_120 (lv_at hl 5 rfl) ?_
          refine va_get (D := g.1) (ci := 7) (v := .ref (a_t 2)) (C := RX7) (T := TX7) (N := 8) hx hb hi_X7 (fun _ h => h) hown hK.1 hP 5 rfl rfl 3 (by decide) hf_106 (fun _ h9 => h9) rfl dX6_setLetters_122 ?_
          refine lv_iload hx hb dX6_setLetters_125 (lv_at hl 0 rfl) ?_
          have n_127 : vp_in r1 24 := (t_in (by omega))
          refine va_iald hx hb hK.1 hP 7 0 rfl rfl n_127 dX6_setLetters_127 ?_
          refine q_nm (fun x17 e_x17 => ?_)
          have e_x17 : x17 = (I_t 2) r1.toNatClampNeg := e_x17
          have g_x17 : x17.toInt = ((I_t 2) r1.toNatClampNeg).toInt := congrArg _ e_x17
          have f_x17 := TI.lc hT r1.toNatClampNeg
          rw [← e_x17] at f_x17
          refine hret 128 ls x17 _ _ (uF u14 0 4 x16) dX6_setLetters_128 hS hP hD ?_
          exact (by first | exact (by have hby : (x2).toInt = ((fxB (I_x 0)) ia.toInt.toNat) := (by rw [e_x2]; rfl); have ca : uCa (fxB (I_x 0)) ia.toInt = 0 := (by unfold uCa; rw [if_neg (fun z => q_63 (by rw [hby]; exact z))]); exact ⟨by omega, by omega, (by simpa [EI, uF, uR, upd] using p_r13.1), (by show ((uF u14 0 4 x16) 0 9).toInt ≤ _; rw [show (uF u14 0 4 x16) 0 9 = _ from (p_r13.2.1 9 (by decide) (by decide))]; exact h2_23.2), (show (uF u14 0 4 x16) 0 5 = _ from (p_r13.2.1 5 (by decide) (by decide)).trans hk23_23.2.1), fun hl9 hw => ⟨(show uWd _ _ _ ((uF u14 0 4 x16) 0 8).toInt ((uF u14 0 4 x16) 0 9).toInt from (by rw [show (uF u14 0 4 x16) 0 8 = _ from (p_r13.2.1 8 (by decide) (by decide)), show (uF u14 0 4 x16) 0 9 = _ from (p_r13.2.1 9 (by decide) (by decide))]; exact hw23_23 hw)), Or.inr (Or.inr (by have g39 := p_r1.2.2 (⟨hl9, fun j z1 z2 => (hw23_23 hw).2.1 j (by have := (hw23_23 hw).1; omega) (by omega)⟩ : uPr I_t (fxB (I_x 0)) ia.toInt (I_e_23 0 9).toInt); rw [hk23_23.2.1] at g39; have l39 := (g39.resolve_left (fun z => by omega)).2; have lc := uTc.lc (I := I_t) (r := (r1).toInt.toNat) (by omega); have cc := uTc.cc (I := I_t) (r := (r1).toInt.toNat) (by omega); have g127 : (I_t 2 (r1).toInt.toNat).toInt = (x17).toInt := congrArg Int32.toInt e_x17.symm; exact ⟨_, (by rw [show (uF u14 0 4 x16) 0 8 = _ from (p_r13.2.1 8 (by decide) (by decide)), show (uF u14 0 4 x16) 0 9 = _ from (p_r13.2.1 9 (by decide) (by decide))]; exact l39), (fun z => absurd (by rw [hby]; exact z) q_63), ⟨(show (uF u14 0 4 x16) 0 6 = _ from (p_r13.2.1 6 (by decide) (by decide)).trans hk23_23.2.2.1), (show (uF u14 0 4 x16) 0 7 = _ from (p_r13.2.1 7 (by decide) (by decide)).trans hk23_23.2.2.2)⟩, by omega, fun z => (by have a2 := p_r13.2.2 (by first | (rw [hk23_23.1]; omega) | omega); have a3 : (I_t 3 (r1).toNatClampNeg).toInt = (I_t 3 (r1).toInt.toNat).toInt := rfl; have a4 := TI.cc hT (r1).toInt.toNat; have a6 := hk23_23.1; (try rw [a6] at a2); have a5 : ((uF u14 0 4 x16) 0 3).toInt = _ := a2; show ((uF u14 0 4 x16) 0 3).toInt = _; omega)⟩))⟩⟩) | exact (by have hby : (x2).toInt = ((fxB (I_x 0)) ia.toInt.toNat) := (by rw [e_x2]; rfl); have ca : uCa (fxB (I_x 0)) ia.toInt = 1 := (by unfold uCa; rw [if_pos (by rw [← hby]; exact q_63)]); exact ⟨by omega, by omega, (by simpa [EI, uF, uR, upd] using p_r13.1), (by show ((uF u14 0 4 x16) 0 9).toInt ≤ _; rw [show (uF u14 0 4 x16) 0 9 = _ from ((p_r13.2.1 9 (by decide) (by decide)).trans (p_r11.2.1 9 (by decide) (by decide)))]; exact h2_23.2), (show (uF u14 0 4 x16) 0 5 = _ from ((p_r13.2.1 5 (by decide) (by decide)).trans (p_r11.2.1 5 (by decide) (by decide))).trans hk23_23.2.1), fun hl9 hw => ⟨(show uWd _ _ _ ((uF u14 0 4 x16) 0 8).toInt ((uF u14 0 4 x16) 0 9).toInt from (by rw [show (uF u14 0 4 x16) 0 8 = _ from ((p_r13.2.1 8 (by decide) (by decide)).trans (p_r11.2.1 8 (by decide) (by decide))), show (uF u14 0 4 x16) 0 9 = _ from ((p_r13.2.1 9 (by decide) (by decide)).trans (p_r11.2.1 9 (by decide) (by decide)))]; exact hw23_23 hw)), Or.inr (Or.inr (by have g39 := p_r1.2.2 (⟨hl9, fun j z1 z2 => (hw23_23 hw).2.1 j (by have := (hw23_23 hw).1; omega) (by omega)⟩ : uPr I_t (fxB (I_x 0)) ia.toInt (I_e_23 0 9).toInt); rw [hk23_23.2.1] at g39; have l39 := (g39.resolve_left (fun z => by omega)).2; have lc := uTc.lc (I := I_t) (r := (r1).toInt.toNat) (by omega); have cc := uTc.cc (I := I_t) (r := (r1).toInt.toNat) (by omega); have g127 : (I_t 2 (r1).toInt.toNat).toInt = (x17).toInt := congrArg Int32.toInt e_x17.symm; exact ⟨_, (by rw [show (uF u14 0 4 x16) 0 8 = _ from ((p_r13.2.1 8 (by decide) (by decide)).trans (p_r11.2.1 8 (by decide) (by decide))), show (uF u14 0 4 x16) 0 9 = _ from ((p_r13.2.1 9 (by decide) (by decide)).trans (p_r11.2.1 9 (by decide) (by decide)))]; exact l39), fun _ => (by have s0 : (fxTc I_t).1 0 = (x9).toInt := (uTc.sg (by decide)).trans (congrArg Int32.toInt (show I_t 1 0 = x9 from e_x9.symm)); omega), ⟨(show (uF u14 0 4 x16) 0 6 = _ from ((p_r13.2.1 6 (by decide) (by decide)).trans (p_r11.2.1 6 (by decide) (by decide))).trans hk23_23.2.2.1), (show (uF u14 0 4 x16) 0 7 = _ from ((p_r13.2.1 7 (by decide) (by decide)).trans (p_r11.2.1 7 (by decide) (by decide))).trans hk23_23.2.2.2)⟩, by omega, fun z => (by have a1 := p_r11.2.2 (by rw [hk23_23.1]; omega); rw [hk23_23.1] at a1; have a2 := p_r13.2.2 (by first | (rw [hk23_23.1]; omega) | omega); have a3 : (I_t 3 (r1).toNatClampNeg).toInt = (I_t 3 (r1).toInt.toNat).toInt := rfl; have a4 := TI.cc hT (r1).toInt.toNat; have a6 := hk23_23.1; (try rw [a6] at a2); have a5 : ((uF u14 0 4 x16) 0 3).toInt = _ := a2; show ((uF u14 0 4 x16) 0 3).toInt = _; omega)⟩))⟩⟩))
        · refine lv_aload_n hx hb dX6_setLetters_76 rfl (lv_at hl 1 rfl) ?_
          refine lv_iconst (v := 5) hx hb dX6_setLetters_77 (by decide) ?_
          refine lv_iload_n hx hb dX6_setLetters_78 rfl (lv_at hl 4 rfl) ?_
          refine EffI.cv (wr := (wArr g a_x n_x I_x ++ wX7 g a_t I_t)) (w' := fun u19 => wX6 g a_e u19 ++ (wArr g a_x n_x I_x ++ wX7 g a_t I_t)) (As := [.int (5 : Int32), .int ia]) (kX6_faulty l g a_e I_e_23 (5 : Int32) ia hE_23) fx (gUV (uT _) u_623 u_624 u_625 u_40 u_626) rfl hdX6_faulty ⟨Nat.le_of_ble_eq_true rfl, Nat.le_of_ble_eq_true rfl⟩ hK hP hD hS hA [0, 1, 2, 3] [4, 5, 6, 7, 8, 9, 10, 11] [8, 9, 10, 11, 0, 1, 2, 3, 4, 5, 6, 7] rfl rfl rfl rfl (by decide) rfl (fun _ => rfl) rfl rfl rfl rfl hl.1 (Nat.le_of_ble_eq_true rfl) dX6_setLetters_79 (fun r18 u19 H locs p_r18 hP hD hS => ?_)
          have hP : va_P g.1 vwCl (wX6 g a_e u19 ++ (wArr g a_x n_x I_x ++ wX7 g a_t I_t)) H := hP
          have hD : va_D A (wX6 g a_e u19 ++ (wArr g a_x n_x I_x ++ wX7 g a_t I_t)) := hD
          refine hret 82 ls r18 _ _ u19 dX6_setLetters_82 hS hP hD ?_
          exact ⟨by omega, by omega, p_r18.2.1, by rw [(p_r18.2.2.1 9 (by decide) (by decide))]; exact h2_23.2, (p_r18.2.2.1 5 (by decide) (by decide)).trans hk23_23.2.1, fun hl9 hw => ⟨(by rw [(p_r18.2.2.1 8 (by decide) (by decide)), (p_r18.2.2.1 9 (by decide) (by decide))]; exact hw23_23 hw), Or.inr (Or.inl (by have g39 := p_r1.2.2 (⟨hl9, fun j z1 z2 => (hw23_23 hw).2.1 j (by have := (hw23_23 hw).1; omega) (by omega)⟩ : uPr I_t (fxB (I_x 0)) ia.toInt (I_e_23 0 9).toInt); rw [hk23_23.2.1] at g39; have hby : (x2).toInt = ((fxB (I_x 0)) ia.toInt.toNat) := (by rw [e_x2]; rfl); have s0 : (fxTc I_t).1 0 = (x9).toInt := (uTc.sg (by decide)).trans (congrArg Int32.toInt (show I_t 1 0 = x9 from e_x9.symm)); rw [(p_r18.2.2.1 8 (by decide) (by decide)), (p_r18.2.2.1 9 (by decide) (by decide))]; exact ⟨⟨_, (g39.resolve_left (fun z => by omega)).2⟩, (by rw [← hby]; exact q_63), by omega, ⟨p_r18.2.2.2.1, p_r18.2.2.2.2⟩, p_r18.1⟩))⟩⟩
    · refine lv_aload_n hx hb dX6_setLetters_50 rfl (lv_at hl 1 rfl) ?_
      refine lv_iconst (v := 3) hx hb dX6_setLetters_51 (by decide) ?_
      refine lv_iload_n hx hb dX6_setLetters_52 rfl (lv_at hl 4 rfl) ?_
      refine EffI.cv (wr := (wArr g a_x n_x I_x ++ wX7 g a_t I_t)) (w' := fun u21 => wX6 g a_e u21 ++ (wArr g a_x n_x I_x ++ wX7 g a_t I_t)) (As := [.int (3 : Int32), .int ia]) (kX6_faulty l g a_e I_e_23 (3 : Int32) ia hE_23) fx (gUV (uT _) u_623 u_624 u_625 u_40 u_626) rfl hdX6_faulty ⟨Nat.le_of_ble_eq_true rfl, Nat.le_of_ble_eq_true rfl⟩ hK hP hD hS hA [0, 1, 2, 3] [4, 5, 6, 7, 8, 9, 10, 11] [8, 9, 10, 11, 0, 1, 2, 3, 4, 5, 6, 7] rfl rfl rfl rfl (by decide) rfl (fun _ => rfl) rfl rfl rfl rfl hl.1 (Nat.le_of_ble_eq_true rfl) dX6_setLetters_53 (fun r20 u21 H locs p_r20 hP hD hS => ?_)
      have hP : va_P g.1 vwCl (wX6 g a_e u21 ++ (wArr g a_x n_x I_x ++ wX7 g a_t I_t)) H := hP
      have hD : va_D A (wX6 g a_e u21 ++ (wArr g a_x n_x I_x ++ wX7 g a_t I_t)) := hD
      refine hret 56 ls r20 _ _ u21 dX6_setLetters_56 hS hP hD ?_
      exact ⟨by omega, by omega, p_r20.2.1, by rw [(p_r20.2.2.1 9 (by decide) (by decide))]; exact h2_23.2, (p_r20.2.2.1 5 (by decide) (by decide)).trans hk23_23.2.1, fun hl9 hw => ⟨(by rw [(p_r20.2.2.1 8 (by decide) (by decide)), (p_r20.2.2.1 9 (by decide) (by decide))]; exact hw23_23 hw), Or.inl (by have g39 := p_r1.2.2 (⟨hl9, fun j z1 z2 => (hw23_23 hw).2.1 j (by have := (hw23_23 hw).1; omega) (by omega)⟩ : uPr I_t (fxB (I_x 0)) ia.toInt (I_e_23 0 9).toInt); rw [hk23_23.2.1] at g39; rw [(p_r20.2.2.1 8 (by decide) (by decide)), (p_r20.2.2.1 9 (by decide) (by decide))]; exact ⟨(g39.resolve_right (fun z => by omega)).2, ⟨p_r20.2.2.2.1, p_r20.2.2.2.2⟩, p_r20.1⟩)⟩⟩
  refine lv_iload_n hx hb dX6_setLetters_0 rfl (lv_at hl 3 rfl) ?_
  refine lv_aload_n hx hb dX6_setLetters_1 rfl (lv_at hl 0 rfl) ?_
  refine va_get (D := g.1) (ci := 6) (v := .int (I_e 0 9)) (C := RX6) (T := TX6) (N := 10) hx hb hi_X6 (fun _ h => h) hown hK.1 hP 0 rfl rfl 9 (by decide) hf_40 (fun _ h9 => h9) rfl dX6_setLetters_2 ?_
  refine q_icmp_lt (tgt := 23) hx hb dX6_setLetters_5 (by decide) rfl rfl (fun k_5 => ?_) (fun k_5 => ?_)
  · exact J23 I_e hE (by omega) (by exact ⟨rfl, rfl, rfl, rfl⟩) (fun hw => by exact hw.1 (by omega)) _ _ hP hD hS ls hl
  · refine lv_aload_n hx hb dX6_setLetters_8 rfl (lv_at hl 0 rfl) ?_
    refine lv_iload_n hx hb dX6_setLetters_9 rfl (lv_at hl 3 rfl) ?_
    refine va_put (D := g.1) (ci := 6) (v := .int ia) (ty := .int) (C := RX6) (T := TX6) (N := 10) hx hb hi_X6 (fun _ h => h) tyX6 tyX6_ok nmX6 hown hK.1 hP hD hS 0 rfl rfl 8 (by decide) hf_37 (fun _ h9 => h9) rfl (by decide +kernel) rfl rfl (Nat.le_of_ble_eq_true rfl) dX6_setLetters_10 (fun H locs hP hD hS => ?_)
    have hP : va_P g.1 vwCl (wX6 g a_e (uF I_e 0 8 ia) ++ (wArr g a_x n_x I_x ++ wX7 g a_t I_t)) H := hP
    have hD : va_D A (wX6 g a_e (uF I_e 0 8 ia) ++ (wArr g a_x n_x I_x ++ wX7 g a_t I_t)) := hD
    have hc_10 : EI (uF I_e 0 8 ia) := by simpa [EI, uF, uR, upd] using hE
    refine lv_aload_n hx hb dX6_setLetters_13 rfl (lv_at hl 0 rfl) ?_
    refine lv_aload_n hx hb dX6_setLetters_14 rfl (lv_at hl 1 rfl) ?_
    refine lv_iload_n hx hb dX6_setLetters_15 rfl (lv_at hl 2 rfl) ?_
    refine lv_iload_n hx hb dX6_setLetters_16 rfl (lv_at hl 3 rfl) ?_
    refine PurI.cn (C := RX10) (host := "RaisedPress") (As := [.ref (a_x 0), .int n, .int ia]) (kX10_wordEnd l g a_x n_x I_x n ia (by omega)) fx (gU (uT _) u_648) rfl hdX10_wordEnd ⟨Nat.le_of_ble_eq_true rfl, Nat.le_of_ble_eq_true rfl⟩ hK hP [4] rfl (nm_in_RX6_95) (uT _ _ u_647) (uT _ _ u_2) rfl rfl hl.1 (Nat.le_of_ble_eq_true rfl) dX6_setLetters_17 (fun r22 p_r22 => ?_)
    refine va_put (D := g.1) (ci := 6) (v := .int r22) (ty := .int) (C := RX6) (T := TX6) (N := 10) hx hb hi_X6 (fun _ h => h) tyX6 tyX6_ok nmX6 hown hK.1 hP hD hS 0 rfl rfl 9 (by decide) hf_40 (fun _ h9 => h9) rfl (by decide +kernel) rfl rfl (Nat.le_of_ble_eq_true rfl) dX6_setLetters_20 (fun H locs hP hD hS => ?_)
    have hP : va_P g.1 vwCl (wX6 g a_e (uF (uF I_e 0 8 ia) 0 9 r22) ++ (wArr g a_x n_x I_x ++ wX7 g a_t I_t)) H := hP
    have hD : va_D A (wX6 g a_e (uF (uF I_e 0 8 ia) 0 9 r22) ++ (wArr g a_x n_x I_x ++ wX7 g a_t I_t)) := hD
    have hc_20 : EI (uF (uF I_e 0 8 ia) 0 9 r22) := by simpa [EI, uF, uR, upd] using hE
    exact J23 (uF (uF I_e 0 8 ia) 0 9 r22) hc_20 (by first | (have q := p_r22; have q2 := q.2.2.1 (by omega) h_let; simp [uF, uR, upd]; omega) | omega) (by exact ⟨rfl, rfl, rfl, rfl⟩) (fun hw => by first | exact hw.1 (by omega) | (have q := p_r22; have q2 := q.2.2.1 (by omega) h_let; exact (show uWd _ _ _ ia.toInt (r22).toInt from ⟨⟨by omega, by omega, by omega, by omega⟩, q.2.2.2.1, q.2.2.2.2, fun z => hw.2 (by omega) z⟩))) _ _ hP hD hS ls hl

set_option maxHeartbeats 4000000 in
set_option maxRecDepth 100000 in
theorem kX6_sets (l : Launch) (g : gG) (a_e : Nat → Nat) (I_e : Nat → Nat → Int32) (a_x : Nat → Nat) (n_x : Nat) (I_x : Nat → Nat → Int32) (a_t : Nat → Nat) (I_t : Nat → Nat → Int32) (n : Int32) (wo : Int32) (hT : TI I_t) (hE : EI I_e) (h_n : -1 ≤ n.toInt ∧ n.toInt ≤ (n_x : Int) ∧ n_x ≤ 1000) : EffI l g yX6_sets wsX6_sets 4 [.ref (a_e 0), .ref (a_x 0), .int n, .ref (a_t 0), .int wo] (wX6 g a_e I_e ++ (wArr g a_x n_x I_x ++ wX7 g a_t I_t)) (fun (u : (Nat → Nat → Int32)) => wX6 g a_e u ++ (wArr g a_x n_x I_x ++ wX7 g a_t I_t)) (fun r (u : (Nat → Nat → Int32)) => (r = 0 ∨ r = 1) ∧ EI (u) ∧ (HL1 I_t → n.toInt ≤ 300 → ∃ (c v : Int × Int), gRe (uNx (fxTc I_t) wo (uB (fxB (I_x 0)) n.toInt) n.toInt) (0, 0) c ∧ uVd (fxTc I_t) wo (uB (fxB (I_x 0)) n.toInt) n.toInt c v ∧ ((r = 1 ∧ ((u) 0 6).toInt = 0 ∧ v = (0, -1) ∧ ((u) 0 3).toInt = c.2 ∧ ((u) 0 7).toInt = -1) ∨ (r = 0 ∧ ((u) 0 6).toInt ≠ 0 ∧ v = (((u) 0 6).toInt, ((u) 0 7).toInt))))) := by
  refine EffI.sz (cc := cX6_sets) (maxL := 8) (by decide) rfl (Nat.le_of_ble_eq_true rfl) (fun p e s m args below meth c A Q ls fx hK hP hD hA hS hl hret => ?_)
  have hx := fx.1
  have hb := fx.2.1
  have hml := fx.2.2.1
  have hown := fx.2.2.2.1
  have hts := fx.2.2.2.2
  have hl : lv_has ls 8 [(0, .ref (a_e 0)), (1, .ref (a_x 0)), (2, .int n), (3, .ref (a_t 0)), (4, .int wo)] := hl
  have hP : va_P g.1 vwCl (wX6 g a_e I_e ++ (wArr g a_x n_x I_x ++ wX7 g a_t I_t)) s.heap := hP
  have hf_21 := hts _ (uT _ _ u_111)
  have hf_31 := hts _ (uT _ _ u_114)
  have hi_X6 : ∀ w ∈ wsX60, w.before args s = true := fun w h => hts w (uT _ w (u_wsX60 w h))
  have lm1 : (-1 : Int32).toInt = -1 := by decide
  have lm0 : (0 : Int32).toInt = 0 := by decide
  have lm2 : (1 : Int32).toInt = 1 := by decide
  have hru := TI.ru hT
  refine lv_aload_n hx hb dX6_sets_0 rfl (lv_at hl 0 rfl) ?_
  refine lv_iload hx hb dX6_sets_1 (lv_at hl 4 rfl) ?_
  refine EffV.cv (wr := (wArr g a_x n_x I_x ++ wX7 g a_t I_t)) (w' := fun u2 => wX6 g a_e u2 ++ (wArr g a_x n_x I_x ++ wX7 g a_t I_t)) (As := [.int wo]) (kX6_begin l g a_e I_e wo) fx (gUV (uT _) u_601 u_602 u_603 u_40 u_604) rfl hdX6_begin ⟨Nat.le_of_ble_eq_true rfl, Nat.le_of_ble_eq_true rfl⟩ hK hP hD hS hA [0, 1, 2, 3] [4, 5, 6, 7, 8, 9, 10, 11] [8, 9, 10, 11, 0, 1, 2, 3, 4, 5, 6, 7] rfl rfl rfl rfl (by decide) rfl (fun _ => rfl) rfl rfl rfl rfl hl.1 (Nat.le_of_ble_eq_true rfl) dX6_sets_3 (fun u2 H locs p_r1 hP hD hS => ?_)
  have hP : va_P g.1 vwCl (wX6 g a_e u2 ++ (wArr g a_x n_x I_x ++ wX7 g a_t I_t)) H := hP
  have hD : va_D A (wX6 g a_e u2 ++ (wArr g a_x n_x I_x ++ wX7 g a_t I_t)) := hD
  refine lv_iconst (v := 0) hx hb dX6_sets_6 (by decide) ?_
  refine lv_istore (lv' := [(5, .int (0 : Int32)), (0, .ref (a_e 0)), (1, .ref (a_x 0)), (2, .int n), (3, .ref (a_t 0)), (4, .int wo)]) hx hb dX6_sets_7 hl (by decide) rfl (fun ls hl => ?_)
  refine lv_iconst (v := 0) hx hb dX6_sets_9 (by decide) ?_
  refine lv_istore (lv' := [(6, .int (0 : Int32)), (5, .int (0 : Int32)), (0, .ref (a_e 0)), (1, .ref (a_x 0)), (2, .int n), (3, .ref (a_t 0)), (4, .int wo)]) hx hb dX6_sets_10 hl (by decide) rfl (fun ls hl => ?_)
  refine lv_iconst (v := 0) hx hb dX6_sets_12 (by decide) ?_
  refine lv_istore (lv' := [(7, .int (0 : Int32)), (6, .int (0 : Int32)), (5, .int (0 : Int32)), (0, .ref (a_e 0)), (1, .ref (a_x 0)), (2, .int n), (3, .ref (a_t 0)), (4, .int wo)]) hx hb dX6_sets_13 hl (by decide) rfl (fun ls hl => ?_)
  have L15 : ∀ (nn : Nat) (v5_15 : Int32) (v6_15 : Int32) (v7_15 : Int32) (I_e_15 : Nat → Nat → Int32), (hE_15 : EI I_e_15) → (hw_15 : (I_e_15 0 9).toInt ≤ max n.toInt 0) → (hv_15 : 0 ≤ v7_15.toInt ∧ v7_15.toInt ≤ max n.toInt 0 ∧ 0 ≤ v5_15.toInt ∧ v5_15.toInt ≤ 2000) → (h5_15 : I_e_15 0 5 = wo) → (hF_15 : HL1 I_t → n.toInt ≤ 300 → uLi (fxTc I_t) wo (uB (fxB (I_x 0)) n.toInt) n.toInt (max v7_15.toInt v5_15.toInt) (I_e_15 0 3).toInt v6_15.toInt (I_e_15 0 6).toInt (I_e_15 0 7).toInt (I_e_15 0 8).toInt (I_e_15 0 9).toInt) → ((max n.toInt 0 + 1 - v7_15.toInt) < (nn : Int)) → ∀ (H : Heap) (locs : List Loc), va_P g.1 vwCl (wX6 g a_e I_e_15 ++ (wArr g a_x n_x I_x ++ wX7 g a_t I_t)) H → va_D A (wX6 g a_e I_e_15 ++ (wArr g a_x n_x I_x ++ wX7 g a_t I_t)) → va_S A s.heap H locs → ∀ ls : Array Slot, lv_has ls 8 [(7, .int v7_15), (6, .int v6_15), (5, .int v5_15), (0, .ref (a_e 0)), (1, .ref (a_x 0)), (2, .int n), (3, .ref (a_t 0)), (4, .int wo)] → W p l e (rm 4) s m args below meth c H locs 0 0 Q (F0 m 15 ls []) := by
    intro n_15
    induction n_15 with
    | zero =>
      intro v5_15 v6_15 v7_15 I_e_15 hE_15 hw_15 hv_15 h5_15 hF_15 hms_15 H locs hP hD hS ls hl
      exfalso; omega
    | succ n_15 ih_15 =>
      intro v5_15 v6_15 v7_15 I_e_15 hE_15 hw_15 hv_15 h5_15 hF_15 hms_15 H locs hP hD hS ls hl
      refine lv_iload hx hb dX6_sets_15 (lv_at hl 0 rfl) ?_
      refine lv_iload_n hx hb dX6_sets_17 rfl (lv_at hl 5 rfl) ?_
      refine q_icmp_ge (tgt := 150) hx hb dX6_sets_18 (by decide) rfl rfl (fun k_18 => ?_) (fun k_18 => ?_)
      · refine lv_aload_n hx hb dX6_sets_150 rfl (lv_at hl 3 rfl) ?_
        refine va_get (D := g.1) (ci := 6) (v := .int (I_e_15 0 6)) (C := RX6) (T := TX6) (N := 10) hx hb hi_X6 (fun _ h => h) hown hK.1 hP 0 rfl rfl 6 (by decide) hf_31 (fun _ h9 => h9) rfl dX6_sets_151 ?_
        refine q_if_ne (tgt := 161) hx hb dX6_sets_154 (by decide) rfl (fun b_154 k_154 => ?_) (fun b_154 k_154 => ?_)
        · refine lv_iconst (v := 0) hx hb dX6_sets_161 (by decide) ?_
          refine hret 162 ls (0 : Int32) _ _ I_e_15 dX6_sets_162 (Or.inl rfl) hS hP hD ?_
          exact (by first | exact ⟨Or.inr rfl, hE_15, fun hl9 h39 => by obtain ⟨c9, v9, e1, e2, e3⟩ := uLi.end (hF_15 hl9 h39) (fun _ => by omega); rcases e3 with ⟨e4, e5, e6, e7⟩ | ⟨e4, e5⟩; exact ⟨c9, v9, e1, e2, Or.inl ⟨rfl, e4, e5, e6, e7⟩⟩; (exfalso; omega)⟩ | exact ⟨Or.inl rfl, hE_15, fun hl9 h39 => by obtain ⟨c9, v9, e1, e2, e3⟩ := uLi.end (hF_15 hl9 h39) (fun z => by exfalso; omega); rcases e3 with ⟨e4, e5, e6, e7⟩ | ⟨e4, e5⟩; (exfalso; omega); exact ⟨c9, v9, e1, e2, Or.inr ⟨rfl, e4, e5⟩⟩⟩)
        · refine lv_iconst (v := 1) hx hb dX6_sets_157 (by decide) ?_
          refine lv_goto (tgt := 162) hx hb dX6_sets_158 (by decide) ?_
          have lr : (1 : Int32).toInt = 1 := by decide
          refine hret 162 ls (1 : Int32) _ _ I_e_15 dX6_sets_162 (Or.inr rfl) hS hP hD ?_
          exact (by first | exact ⟨Or.inr rfl, hE_15, fun hl9 h39 => by obtain ⟨c9, v9, e1, e2, e3⟩ := uLi.end (hF_15 hl9 h39) (fun _ => by omega); rcases e3 with ⟨e4, e5, e6, e7⟩ | ⟨e4, e5⟩; exact ⟨c9, v9, e1, e2, Or.inl ⟨rfl, e4, e5, e6, e7⟩⟩; (exfalso; omega)⟩ | exact ⟨Or.inl rfl, hE_15, fun hl9 h39 => by obtain ⟨c9, v9, e1, e2, e3⟩ := uLi.end (hF_15 hl9 h39) (fun z => by exfalso; omega); rcases e3 with ⟨e4, e5, e6, e7⟩ | ⟨e4, e5⟩; (exfalso; omega); exact ⟨c9, v9, e1, e2, Or.inr ⟨rfl, e4, e5⟩⟩⟩)
      · refine lv_aload_n hx hb dX6_sets_21 rfl (lv_at hl 3 rfl) ?_
        refine va_get (D := g.1) (ci := 6) (v := .int (I_e_15 0 6)) (C := RX6) (T := TX6) (N := 10) hx hb hi_X6 (fun _ h => h) hown hK.1 hP 0 rfl rfl 6 (by decide) hf_31 (fun _ h9 => h9) rfl dX6_sets_22 ?_
        refine q_if_ne (tgt := 150) hx hb dX6_sets_25 (by decide) rfl (fun b_25 k_25 => ?_) (fun b_25 k_25 => ?_)
        · refine lv_aload_n hx hb dX6_sets_150 rfl (lv_at hl 3 rfl) ?_
          refine va_get (D := g.1) (ci := 6) (v := .int (I_e_15 0 6)) (C := RX6) (T := TX6) (N := 10) hx hb hi_X6 (fun _ h => h) hown hK.1 hP 0 rfl rfl 6 (by decide) hf_31 (fun _ h9 => h9) rfl dX6_sets_151 ?_
          refine q_if_ne (tgt := 161) hx hb dX6_sets_154 (by decide) rfl (fun b_154 k_154 => ?_) (fun b_154 k_154 => ?_)
          · refine lv_iconst (v := 0) hx hb dX6_sets_161 (by decide) ?_
            refine hret 162 ls (0 : Int32) _ _ I_e_15 dX6_sets_162 (Or.inl rfl) hS hP hD ?_
            exact (by first | exact ⟨Or.inr rfl, hE_15, fun hl9 h39 => by obtain ⟨c9, v9, e1, e2, e3⟩ := uLi.end (hF_15 hl9 h39) (fun _ => by omega); rcases e3 with ⟨e4, e5, e6, e7⟩ | ⟨e4, e5⟩; exact ⟨c9, v9, e1, e2, Or.inl ⟨rfl, e4, e5, e6, e7⟩⟩; (exfalso; omega)⟩ | exact ⟨Or.inl rfl, hE_15, fun hl9 h39 => by obtain ⟨c9, v9, e1, e2, e3⟩ := uLi.end (hF_15 hl9 h39) (fun z => by exfalso; omega); rcases e3 with ⟨e4, e5, e6, e7⟩ | ⟨e4, e5⟩; (exfalso; omega); exact ⟨c9, v9, e1, e2, Or.inr ⟨rfl, e4, e5⟩⟩⟩)
          · refine lv_iconst (v := 1) hx hb dX6_sets_157 (by decide) ?_
            refine lv_goto (tgt := 162) hx hb dX6_sets_158 (by decide) ?_
            have lr : (1 : Int32).toInt = 1 := by decide
            refine hret 162 ls (1 : Int32) _ _ I_e_15 dX6_sets_162 (Or.inr rfl) hS hP hD ?_
            exact (by first | exact ⟨Or.inr rfl, hE_15, fun hl9 h39 => by obtain ⟨c9, v9, e1, e2, e3⟩ := uLi.end (hF_15 hl9 h39) (fun _ => by omega); rcases e3 with ⟨e4, e5, e6, e7⟩ | ⟨e4, e5⟩; exact ⟨c9, v9, e1, e2, Or.inl ⟨rfl, e4, e5, e6, e7⟩⟩; (exfalso; omega)⟩ | exact ⟨Or.inl rfl, hE_15, fun hl9 h39 => by obtain ⟨c9, v9, e1, e2, e3⟩ := uLi.end (hF_15 hl9 h39) (fun z => by exfalso; omega); rcases e3 with ⟨e4, e5, e6, e7⟩ | ⟨e4, e5⟩; (exfalso; omega); exact ⟨c9, v9, e1, e2, Or.inr ⟨rfl, e4, e5⟩⟩⟩)
        · refine lv_iload hx hb dX6_sets_28 (lv_at hl 0 rfl) ?_
          refine lv_iload hx hb dX6_sets_30 (lv_at hl 2 rfl) ?_
          refine q_icmp_ge (tgt := 38) hx hb dX6_sets_32 (by decide) rfl rfl (fun k_32 => ?_) (fun k_32 => ?_)
          · refine lv_aload_n hx hb dX6_sets_38 rfl (lv_at hl 4 rfl) ?_
            refine lv_iload hx hb dX6_sets_39 (lv_at hl 0 rfl) ?_
            have n_41 : vp_in v7_15 n_x := (t_in (by omega))
            refine va_iald hx hb hK.1 hP 4 0 rfl rfl n_41 dX6_sets_41 ?_
            refine q_nm (fun x3 e_x3 => ?_)
            have e_x3 : x3 = (I_x 0) v7_15.toNatClampNeg := e_x3
            have g_x3 : x3.toInt = ((I_x 0) v7_15.toNatClampNeg).toInt := congrArg _ e_x3
            refine PurI.cn (C := RX10) (host := "RaisedPress") (As := [.int x3]) (kX10_isBlank l g x3) fx (gU (uT _) u_371) rfl hdX10_isBlank ⟨Nat.le_of_ble_eq_true rfl, Nat.le_of_ble_eq_true rfl⟩ hK hP [] rfl (nm_in_RX6_47) (uT _ _ u_370) (uT _ _ u_2) rfl rfl hl.1 (Nat.le_of_ble_eq_true rfl) dX6_sets_42 (fun r4 p_r4 => ?_)
            refine q_if_eq (tgt := 65) hx hb dX6_sets_45 (by decide) rfl (fun b_45 k_45 => ?_) (fun b_45 k_45 => ?_)
            · have q_45 := bP.f p_r4 b_45
              refine lv_iload hx hb dX6_sets_65 (lv_at hl 1 rfl) ?_
              refine q_if_eq (tgt := 79) hx hb dX6_sets_67 (by decide) rfl (fun b_67 k_67 => ?_) (fun b_67 k_67 => ?_)
              · refine lv_aload_n hx hb dX6_sets_79 rfl (lv_at hl 4 rfl) ?_
                refine lv_iload hx hb dX6_sets_80 (lv_at hl 0 rfl) ?_
                have n_82 : vp_in v7_15 n_x := (t_in (by omega))
                refine va_iald hx hb hK.1 hP 4 0 rfl rfl n_82 dX6_sets_82 ?_
                refine q_nm (fun x5 e_x5 => ?_)
                have e_x5 : x5 = (I_x 0) v7_15.toNatClampNeg := e_x5
                have g_x5 : x5.toInt = ((I_x 0) v7_15.toNatClampNeg).toInt := congrArg _ e_x5
                refine PurI.cn (C := RX10) (host := "RaisedPress") (As := [.int x5]) (kX10_isDigit l g x5) fx (gU (uT _) u_375) rfl hdX10_isDigit ⟨Nat.le_of_ble_eq_true rfl, Nat.le_of_ble_eq_true rfl⟩ hK hP [] rfl (nm_in_RX6_55) (uT _ _ u_374) (uT _ _ u_2) rfl rfl hl.1 (Nat.le_of_ble_eq_true rfl) dX6_sets_83 (fun r6 p_r6 => ?_)
                refine q_if_eq (tgt := 105) hx hb dX6_sets_86 (by decide) rfl (fun b_86 k_86 => ?_) (fun b_86 k_86 => ?_)
                · have q_86 := bP.f p_r6 b_86
                  refine lv_aload_n hx hb dX6_sets_105 rfl (lv_at hl 4 rfl) ?_
                  refine lv_iload hx hb dX6_sets_106 (lv_at hl 0 rfl) ?_
                  have n_108 : vp_in v7_15 n_x := (t_in (by omega))
                  refine va_iald hx hb hK.1 hP 4 0 rfl rfl n_108 dX6_sets_108 ?_
                  refine q_nm (fun x7 e_x7 => ?_)
                  have e_x7 : x7 = (I_x 0) v7_15.toNatClampNeg := e_x7
                  have g_x7 : x7.toInt = ((I_x 0) v7_15.toNatClampNeg).toInt := congrArg _ e_x7
                  refine PurI.cn (C := RX10) (host := "RaisedPress") (As := [.int x7]) (kX10_isLetter l g x7) fx (gU (uT _) u_637) rfl hdX10_isLetter ⟨Nat.le_of_ble_eq_true rfl, Nat.le_of_ble_eq_true rfl⟩ hK hP [] rfl (nm_in_RX6_62) (uT _ _ u_636) (uT _ _ u_2) rfl rfl hl.1 (Nat.le_of_ble_eq_true rfl) dX6_sets_109 (fun r8 p_r8 => ?_)
                  refine q_if_eq (tgt := 132) hx hb dX6_sets_112 (by decide) rfl (fun b_112 k_112 => ?_) (fun b_112 k_112 => ?_)
                  · have q_112 := bP.f p_r8 b_112
                    refine lv_iload hx hb dX6_sets_132 (lv_at hl 0 rfl) ?_
                    refine lv_aload_n hx hb dX6_sets_134 rfl (lv_at hl 3 rfl) ?_
                    refine lv_iconst (v := 1) hx hb dX6_sets_135 (by decide) ?_
                    refine lv_iload hx hb dX6_sets_136 (lv_at hl 0 rfl) ?_
                    refine EffI.cv (wr := (wArr g a_x n_x I_x ++ wX7 g a_t I_t)) (w' := fun u10 => wX6 g a_e u10 ++ (wArr g a_x n_x I_x ++ wX7 g a_t I_t)) (As := [.int (1 : Int32), .int v7_15]) (kX6_faulty l g a_e I_e_15 (1 : Int32) v7_15 hE_15) fx (gUV (uT _) u_623 u_624 u_625 u_40 u_626) rfl hdX6_faulty ⟨Nat.le_of_ble_eq_true rfl, Nat.le_of_ble_eq_true rfl⟩ hK hP hD hS hA [0, 1, 2, 3] [4, 5, 6, 7, 8, 9, 10, 11] [8, 9, 10, 11, 0, 1, 2, 3, 4, 5, 6, 7] rfl rfl rfl rfl (by decide) rfl (fun _ => rfl) rfl rfl rfl rfl hl.1 (Nat.le_of_ble_eq_true rfl) dX6_sets_138 (fun r9 u10 H locs p_r9 hP hD hS => ?_)
                    have hP : va_P g.1 vwCl (wX6 g a_e u10 ++ (wArr g a_x n_x I_x ++ wX7 g a_t I_t)) H := hP
                    have hD : va_D A (wX6 g a_e u10 ++ (wArr g a_x n_x I_x ++ wX7 g a_t I_t)) := hD
                    refine r_iadd hx hb dX6_sets_141 rfl rfl (fun x11 e_x11 t_x11 => ?_)
                    try have t_x11 := t_x11 (by omega)
                    refine lv_istore (lv' := [(5, .int x11), (7, .int v7_15), (6, .int v6_15), (0, .ref (a_e 0)), (1, .ref (a_x 0)), (2, .int n), (3, .ref (a_t 0)), (4, .int wo)]) hx hb dX6_sets_142 hl (by decide) rfl (fun ls hl => ?_)
                    refine r_iinc (lv' := fun i12 => [(7, .int i12), (5, .int x11), (6, .int v6_15), (0, .ref (a_e 0)), (1, .ref (a_x 0)), (2, .int n), (3, .ref (a_t 0)), (4, .int wo)]) hx hb dX6_sets_144 hl (k := 1) rfl (by decide) rfl (by decide) (fun _ => rfl) (fun i12 e_i12 t_i12 ls hl => ?_)
                    try have t_i12 := t_i12 (by omega)
                    refine lv_goto (tgt := 15) hx hb dX6_sets_147 (by decide) ?_
                    exact ih_15 x11 v6_15 i12 u10 p_r9.2.1 (by first | exact hw_15 | (rw [p_r9.2.2.1 9 (by decide) (by decide)]; exact hw_15)) (by omega) (by first | exact h5_15 | exact (p_r9.2.2.1 5 (by decide) (by decide)).trans h5_15) (by first | exact (fun hl9 h39 => by have hu := hF_15 hl9 h39; rw [show max (i12).toInt (x11).toInt = max v7_15.toInt v5_15.toInt by omega]; exact hu) | exact (fun hl9 h39 => by have hu := hF_15 hl9 h39; rw [show max v7_15.toInt v5_15.toInt = v7_15.toInt by omega] at hu; have mn := uLi.mn hu k_25 (by omega); have hb := uB.at (F := (fxB (I_x 0))) (n := n.toInt) (j := v7_15.toInt.toNat) (by omega); have hx41 : (x3).toInt = (fxB (I_x 0)) v7_15.toInt.toNat := (by rw [e_x3]; rfl); exact uLi.bl hu k_25 (by omega) (by rw [hb, ← hx41]; exact q_45) (by omega) (by omega)) | exact (fun hl9 h39 => by have hu := hF_15 hl9 h39; rw [show max v7_15.toInt v5_15.toInt = v7_15.toInt by omega] at hu; have mn := uLi.mn hu k_25 (by omega); have hb := uB.at (F := (fxB (I_x 0))) (n := n.toInt) (j := v7_15.toInt.toNat) (by omega); have hx41 : (x3).toInt = (fxB (I_x 0)) v7_15.toInt.toNat := (by rw [e_x3]; rfl); exact uLi.fl hu k_25 ⟨by omega, Or.inl ⟨(by show ¬ uBl ((uB (fxB (I_x 0)) n.toInt) v7_15.toInt.toNat); rw [hb, ← hx41]; exact q_45), (by show ¬ uDg ((uB (fxB (I_x 0)) n.toInt) v7_15.toInt.toNat); rw [hb]; have w := q_86; rw [e_x5] at w; exact w), (by show ¬ uLt ((uB (fxB (I_x 0)) n.toInt) v7_15.toInt.toNat); rw [hb]; have w := q_112; rw [e_x7] at w; exact w), (by rw [p_r9.2.2.2.1]; decide)⟩⟩ (by rw [p_r9.2.2.2.1]; decide) (by rw [p_r9.2.2.2.2]))) (by omega) _ _ hP hD hS ls (lv_sub hl [0, 2, 1, 3, 4, 5, 6, 7] rfl)
                  · have q_112 := bP.t p_r8 b_112
                    refine lv_iload hx hb dX6_sets_115 (lv_at hl 0 rfl) ?_
                    refine lv_aload_n hx hb dX6_sets_117 rfl (lv_at hl 3 rfl) ?_
                    refine lv_aload_n hx hb dX6_sets_118 rfl (lv_at hl 4 rfl) ?_
                    refine lv_iload_n hx hb dX6_sets_119 rfl (lv_at hl 5 rfl) ?_
                    refine lv_iload hx hb dX6_sets_120 (lv_at hl 0 rfl) ?_
                    refine lv_aload_n hx hb dX6_sets_122 rfl (lv_at hl 6 rfl) ?_
                    refine EffI.cv (wr := ([])) (w' := fun u14 => wX6 g a_e u14 ++ (wArr g a_x n_x I_x ++ wX7 g a_t I_t)) (As := [.ref (a_x 0), .int n, .int v7_15, .ref (a_t 0)]) (kX6_setLetters l g a_e I_e_15 a_x n_x I_x a_t I_t n v7_15 hT hE_15 (by omega) (by rw [← e_x7]; exact q_112) (by omega)) fx (gUV (uT _) u_642 u_643 u_644 u_40 u_645) rfl hdX6_setLetters ⟨Nat.le_of_ble_eq_true rfl, Nat.le_of_ble_eq_true rfl⟩ hK hP hD hS hA [0, 1, 2, 3, 4, 5, 6, 7, 8, 9, 10, 11] [] [0, 1, 2, 3, 4, 5, 6, 7, 8, 9, 10, 11] rfl rfl rfl rfl (by decide) rfl (fun _ => rfl) rfl rfl rfl rfl hl.1 (Nat.le_of_ble_eq_true rfl) dX6_sets_123 (fun r13 u14 H locs p_r13 hP hD hS => ?_)
                    have hP : va_P g.1 vwCl (wX6 g a_e u14 ++ (wArr g a_x n_x I_x ++ wX7 g a_t I_t)) H := hP
                    have hD : va_D A (wX6 g a_e u14 ++ (wArr g a_x n_x I_x ++ wX7 g a_t I_t)) := hD
                    refine r_iadd hx hb dX6_sets_126 rfl rfl (fun x15 e_x15 t_x15 => ?_)
                    try have t_x15 := t_x15 (by omega)
                    refine lv_istore (lv' := [(5, .int x15), (7, .int v7_15), (6, .int v6_15), (0, .ref (a_e 0)), (1, .ref (a_x 0)), (2, .int n), (3, .ref (a_t 0)), (4, .int wo)]) hx hb dX6_sets_127 hl (by decide) rfl (fun ls hl => ?_)
                    refine lv_goto (tgt := 144) hx hb dX6_sets_129 (by decide) ?_
                    refine r_iinc (lv' := fun i16 => [(7, .int i16), (5, .int x15), (6, .int v6_15), (0, .ref (a_e 0)), (1, .ref (a_x 0)), (2, .int n), (3, .ref (a_t 0)), (4, .int wo)]) hx hb dX6_sets_144 hl (k := 1) rfl (by decide) rfl (by decide) (fun _ => rfl) (fun i16 e_i16 t_i16 ls hl => ?_)
                    try have t_i16 := t_i16 (by omega)
                    refine lv_goto (tgt := 15) hx hb dX6_sets_147 (by decide) ?_
                    exact ih_15 x15 v6_15 i16 u14 p_r13.2.2.1 (by first | exact hw_15 | exact Int.le_trans p_r13.2.2.2.1 (by omega)) (by omega) (by first | exact h5_15 | exact (p_r13.2.2.2.2.1).trans h5_15) (by first | exact (fun hl9 h39 => by have hu := hF_15 hl9 h39; rw [show max (i16).toInt (x15).toInt = max v7_15.toInt v5_15.toInt by omega]; exact hu) | exact (fun hl9 h39 => by have hu := hF_15 hl9 h39; rw [show max v7_15.toInt v5_15.toInt = v7_15.toInt by omega] at hu; have mn := uLi.mn hu k_25 (by omega); have hb := uB.at (F := (fxB (I_x 0))) (n := n.toInt) (j := v7_15.toInt.toNat) (by omega); have hx41 : (x3).toInt = (fxB (I_x 0)) v7_15.toInt.toNat := (by rw [e_x3]; rfl); exact uLi.bl hu k_25 (by omega) (by rw [hb, ← hx41]; exact q_45) (by omega) (by omega)) | exact (fun hl9 h39 => by have hu := hF_15 hl9 h39; rw [show max v7_15.toInt v5_15.toInt = v7_15.toInt by omega] at hu; have mn := uLi.mn hu k_25 (by omega); have hb := uB.at (F := (fxB (I_x 0))) (n := n.toInt) (j := v7_15.toInt.toNat) (by omega); have hx41 : (x3).toInt = (fxB (I_x 0)) v7_15.toInt.toNat := (by rw [e_x3]; rfl); have b5 : I_e_15 0 5 = wo := h5_15; have b8 : I_e_15 0 8 = I_e_15 0 8 := rfl; have b9 : I_e_15 0 9 = I_e_15 0 9 := rfl; have b6 : I_e_15 0 6 = I_e_15 0 6 := rfl; have b7 : I_e_15 0 7 = I_e_15 0 7 := rfl; have bg : (if v6_15.toInt ≠ 0 then (1 : Int) else 0) = 0 := if_neg (fun z => z k_67); have bm : (I_e_15 0 3).toInt = (I_e_15 0 3).toInt + (if v6_15.toInt ≠ 0 then (1 : Int) else 0) := (by rw [bg, Int.add_zero]); have hwd := uLi.wd hu k_25 (by omega) (show uLt ((uB (fxB (I_x 0)) n.toInt) v7_15.toInt.toNat) from by rw [hb]; have w := q_112; rw [e_x7] at w; exact w); have hw9 : (v7_15.toInt < (I_e_15 0 9).toInt → uWd (fxB (I_x 0)) n.toInt v7_15.toInt (I_e_15 0 8).toInt (I_e_15 0 9).toInt) ∧ ((I_e_15 0 9).toInt ≤ v7_15.toInt → 0 < v7_15.toInt → ¬ uLt ((fxB (I_x 0)) (v7_15.toInt - 1).toNat)) := (by rw [b8, b9]; exact ⟨fun z => uWd.km (hwd.1 z), fun z z2 => by have w := hwd.2 z z2; rw [uB.at (by omega)] at w; exact w⟩); obtain ⟨d1, d2, d3, d4, d5, d6⟩ := p_r13; obtain ⟨dw, d7⟩ := d6 hl9 hw9; rw [b5] at d7; have dn : (u14 0 9).toInt ≤ n.toInt := d4; rcases d7 with ⟨f1, ⟨f2, f3⟩, f4⟩ | ⟨⟨q9, f1⟩, g0, g1, ⟨f2, f3⟩, f4⟩ | ⟨q9, g1, g2, ⟨g3, g4⟩, g5, g6⟩; (exact uLi.fl hu k_25 ⟨by omega, Or.inr (Or.inr ⟨(show uLt ((uB (fxB (I_x 0)) n.toInt) v7_15.toInt.toNat) from by rw [hb]; have w := q_112; rw [e_x7] at w; exact w), _, _, uWd.mk dw, Or.inl ⟨uNo.mk' dn (by omega) f1, (by rw [f2]; decide)⟩⟩)⟩ (by rw [f2]; decide) (by rw [f3])); (exact uLi.fl hu k_25 ⟨by omega, Or.inr (Or.inr ⟨(show uLt ((uB (fxB (I_x 0)) n.toInt) v7_15.toInt.toNat) from by rw [hb]; have w := q_112; rw [e_x7] at w; exact w), _, _, uWd.mk dw, Or.inr ⟨⟨q9, uLg.mk' dn (by omega) f1⟩, (by show uGr ((uB (fxB (I_x 0)) n.toInt) v7_15.toInt.toNat); rw [hb]; exact g0), g1, (by rw [f2]; decide)⟩⟩)⟩ (by rw [f2]; decide) (by rw [f3])); (rw [g3, b6, g4, b7]; exact uLi.lt hu k_25 (by omega) (show uLt ((uB (fxB (I_x 0)) n.toInt) v7_15.toInt.toNat) from by rw [hb]; have w := q_112; rw [e_x7] at w; exact w) (uWd.mk dw) (uLg.mk' dn (by omega) g1) (by have hq := g1.1; rw [fxTc.len] at hq; have := hl9 q9 (by omega); rw [uTc.lc (by omega)]; omega) (fun z => g2 (by rw [← hb]; exact z)) (by have hq := g1.1; rw [fxTc.len] at hq; rw [uTc.cc (by omega)]; have := TI.cc hT q9; omega) (by rw [g6 (by omega), bg, Int.add_zero, uCa.mk (n := n.toInt) (by omega)]) (by omega) (by have hq := g1.1; rw [fxTc.len] at hq; have := hl9 q9 (by omega); have lc := uTc.lc (I := I_t) (r := q9) (by omega); omega)))) (by omega) _ _ hP hD hS ls (lv_sub hl [0, 2, 1, 3, 4, 5, 6, 7] rfl)
                · have q_86 := bP.t p_r6 b_86
                  refine lv_iload hx hb dX6_sets_89 (lv_at hl 0 rfl) ?_
                  refine lv_aload_n hx hb dX6_sets_91 rfl (lv_at hl 3 rfl) ?_
                  refine lv_aload_n hx hb dX6_sets_92 rfl (lv_at hl 4 rfl) ?_
                  refine lv_iload hx hb dX6_sets_93 (lv_at hl 0 rfl) ?_
                  refine lv_aload_n hx hb dX6_sets_95 rfl (lv_at hl 6 rfl) ?_
                  refine EffI.cv (wr := ([])) (w' := fun u18 => wX6 g a_e u18 ++ (wArr g a_x n_x I_x ++ wX7 g a_t I_t)) (As := [.ref (a_x 0), .int v7_15, .ref (a_t 0)]) (kX6_setDigit l g a_e I_e_15 a_x n_x I_x a_t I_t v7_15 hT hE_15 (by omega) (by rw [← e_x5]; exact q_86)) fx (gUV (uT _) u_609 u_610 u_611 u_40 u_612) rfl hdX6_setDigit ⟨Nat.le_of_ble_eq_true rfl, Nat.le_of_ble_eq_true rfl⟩ hK hP hD hS hA [0, 1, 2, 3, 4, 5, 6, 7, 8, 9, 10, 11] [] [0, 1, 2, 3, 4, 5, 6, 7, 8, 9, 10, 11] rfl rfl rfl rfl (by decide) rfl (fun _ => rfl) rfl rfl rfl rfl hl.1 (Nat.le_of_ble_eq_true rfl) dX6_sets_96 (fun r17 u18 H locs p_r17 hP hD hS => ?_)
                  have hP : va_P g.1 vwCl (wX6 g a_e u18 ++ (wArr g a_x n_x I_x ++ wX7 g a_t I_t)) H := hP
                  have hD : va_D A (wX6 g a_e u18 ++ (wArr g a_x n_x I_x ++ wX7 g a_t I_t)) := hD
                  refine r_iadd hx hb dX6_sets_99 rfl rfl (fun x19 e_x19 t_x19 => ?_)
                  try have t_x19 := t_x19 (by omega)
                  refine lv_istore (lv' := [(5, .int x19), (7, .int v7_15), (6, .int v6_15), (0, .ref (a_e 0)), (1, .ref (a_x 0)), (2, .int n), (3, .ref (a_t 0)), (4, .int wo)]) hx hb dX6_sets_100 hl (by decide) rfl (fun ls hl => ?_)
                  refine lv_goto (tgt := 144) hx hb dX6_sets_102 (by decide) ?_
                  refine r_iinc (lv' := fun i20 => [(7, .int i20), (5, .int x19), (6, .int v6_15), (0, .ref (a_e 0)), (1, .ref (a_x 0)), (2, .int n), (3, .ref (a_t 0)), (4, .int wo)]) hx hb dX6_sets_144 hl (k := 1) rfl (by decide) rfl (by decide) (fun _ => rfl) (fun i20 e_i20 t_i20 ls hl => ?_)
                  try have t_i20 := t_i20 (by omega)
                  refine lv_goto (tgt := 15) hx hb dX6_sets_147 (by decide) ?_
                  exact ih_15 x19 v6_15 i20 u18 p_r17.2.1 (by first | exact hw_15 | (rw [p_r17.2.2.1]; exact hw_15)) (by omega) (by first | exact h5_15 | exact (p_r17.2.2.2.2.1).trans h5_15) (by first | exact (fun hl9 h39 => by have hu := hF_15 hl9 h39; rw [show max (i20).toInt (x19).toInt = max v7_15.toInt v5_15.toInt by omega]; exact hu) | exact (fun hl9 h39 => by have hu := hF_15 hl9 h39; rw [show max v7_15.toInt v5_15.toInt = v7_15.toInt by omega] at hu; have mn := uLi.mn hu k_25 (by omega); have hb := uB.at (F := (fxB (I_x 0))) (n := n.toInt) (j := v7_15.toInt.toNat) (by omega); have hx41 : (x3).toInt = (fxB (I_x 0)) v7_15.toInt.toNat := (by rw [e_x3]; rfl); exact uLi.bl hu k_25 (by omega) (by rw [hb, ← hx41]; exact q_45) (by omega) (by omega)) | exact (fun hl9 h39 => by have hu := hF_15 hl9 h39; rw [show max v7_15.toInt v5_15.toInt = v7_15.toInt by omega] at hu; have mn := uLi.mn hu k_25 (by omega); have hb := uB.at (F := (fxB (I_x 0))) (n := n.toInt) (j := v7_15.toInt.toNat) (by omega); have hx41 : (x3).toInt = (fxB (I_x 0)) v7_15.toInt.toNat := (by rw [e_x3]; rfl); have b5 : I_e_15 0 5 = wo := h5_15; have b8 : I_e_15 0 8 = I_e_15 0 8 := rfl; have b9 : I_e_15 0 9 = I_e_15 0 9 := rfl; have b6 : I_e_15 0 6 = I_e_15 0 6 := rfl; have b7 : I_e_15 0 7 = I_e_15 0 7 := rfl; have bg : (if v6_15.toInt ≠ 0 then (1 : Int) else 0) = 0 := if_neg (fun z => z k_67); have bm : (I_e_15 0 3).toInt = (I_e_15 0 3).toInt + (if v6_15.toInt ≠ 0 then (1 : Int) else 0) := (by rw [bg, Int.add_zero]); obtain ⟨d1, d2, d3, d4, d5, d6⟩ := p_r17; rw [b5] at d6; rcases d6 with ⟨f1, f2, f3⟩ | ⟨g1, g2, g3, q9, g4, g5⟩; (exact uLi.fl hu k_25 ⟨by omega, Or.inr (Or.inl ⟨(show uDg ((uB (fxB (I_x 0)) n.toInt) v7_15.toInt.toNat) from by rw [hb]; have w := q_86; rw [e_x5] at w; exact w), (by show (fxTc I_t).1 1 = 0 ∨ uNj (fxTc I_t) wo (uFg ((uB (fxB (I_x 0)) n.toInt) v7_15.toInt.toNat)); rw [hb]; exact f1), (by rw [f2]; decide)⟩)⟩ (by rw [f2]; decide) (by rw [f3])); (rw [g2, b6, g3, b7, d4, b8, d3, b9]; exact uLi.dg hu k_25 (by omega) (show uDg ((uB (fxB (I_x 0)) n.toInt) v7_15.toInt.toNat) from by rw [hb]; have w := q_86; rw [e_x5] at w; exact w) g1 (by rw [hb]; exact g4) (by have hq := g4.1; rw [fxTc.len] at hq; rw [uTc.cc (by omega)]; have := TI.cc hT q9; omega) (by rw [g5 (by omega), bg, Int.add_zero, uNu.mk (n := n.toInt) (by omega)]) (by omega) (by omega)))) (by omega) _ _ hP hD hS ls (lv_sub hl [0, 2, 1, 3, 4, 5, 6, 7] rfl)
              · refine lv_aload_n hx hb dX6_sets_70 rfl (lv_at hl 3 rfl) ?_
                refine lv_iconst (v := 0) hx hb dX6_sets_71 (by decide) ?_
                refine lv_iconst (v := -1) hx hb dX6_sets_72 (by decide) ?_
                refine EffV.cv (wr := (wArr g a_x n_x I_x ++ wX7 g a_t I_t)) (w' := fun u22 => wX6 g a_e u22 ++ (wArr g a_x n_x I_x ++ wX7 g a_t I_t)) (As := [.int (0 : Int32), .int (-1 : Int32)]) (kX6_add l g a_e I_e_15 (0 : Int32) (-1 : Int32) hE_15) fx (gUV (uT _) u_605 u_606 u_607 u_40 u_608) rfl hdX6_add ⟨Nat.le_of_ble_eq_true rfl, Nat.le_of_ble_eq_true rfl⟩ hK hP hD hS hA [0, 1, 2, 3] [4, 5, 6, 7, 8, 9, 10, 11] [8, 9, 10, 11, 0, 1, 2, 3, 4, 5, 6, 7] rfl rfl rfl rfl (by decide) rfl (fun _ => rfl) rfl rfl rfl rfl hl.1 (Nat.le_of_ble_eq_true rfl) dX6_sets_73 (fun u22 H locs p_r21 hP hD hS => ?_)
                have hP : va_P g.1 vwCl (wX6 g a_e u22 ++ (wArr g a_x n_x I_x ++ wX7 g a_t I_t)) H := hP
                have hD : va_D A (wX6 g a_e u22 ++ (wArr g a_x n_x I_x ++ wX7 g a_t I_t)) := hD
                refine lv_iconst (v := 0) hx hb dX6_sets_76 (by decide) ?_
                refine lv_istore (lv' := [(6, .int (0 : Int32)), (7, .int v7_15), (5, .int v5_15), (0, .ref (a_e 0)), (1, .ref (a_x 0)), (2, .int n), (3, .ref (a_t 0)), (4, .int wo)]) hx hb dX6_sets_77 hl (by decide) rfl (fun ls hl => ?_)
                refine lv_aload_n hx hb dX6_sets_79 rfl (lv_at hl 4 rfl) ?_
                refine lv_iload hx hb dX6_sets_80 (lv_at hl 1 rfl) ?_
                have n_82 : vp_in v7_15 n_x := (t_in (by omega))
                refine va_iald hx hb hK.1 hP 4 0 rfl rfl n_82 dX6_sets_82 ?_
                refine q_nm (fun x23 e_x23 => ?_)
                have e_x23 : x23 = (I_x 0) v7_15.toNatClampNeg := e_x23
                have g_x23 : x23.toInt = ((I_x 0) v7_15.toNatClampNeg).toInt := congrArg _ e_x23
                refine PurI.cn (C := RX10) (host := "RaisedPress") (As := [.int x23]) (kX10_isDigit l g x23) fx (gU (uT _) u_375) rfl hdX10_isDigit ⟨Nat.le_of_ble_eq_true rfl, Nat.le_of_ble_eq_true rfl⟩ hK hP [] rfl (nm_in_RX6_55) (uT _ _ u_374) (uT _ _ u_2) rfl rfl hl.1 (Nat.le_of_ble_eq_true rfl) dX6_sets_83 (fun r24 p_r24 => ?_)
                refine q_if_eq (tgt := 105) hx hb dX6_sets_86 (by decide) rfl (fun b_86 k_86 => ?_) (fun b_86 k_86 => ?_)
                · have q_86 := bP.f p_r24 b_86
                  refine lv_aload_n hx hb dX6_sets_105 rfl (lv_at hl 4 rfl) ?_
                  refine lv_iload hx hb dX6_sets_106 (lv_at hl 1 rfl) ?_
                  have n_108 : vp_in v7_15 n_x := (t_in (by omega))
                  refine va_iald hx hb hK.1 hP 4 0 rfl rfl n_108 dX6_sets_108 ?_
                  refine q_nm (fun x25 e_x25 => ?_)
                  have e_x25 : x25 = (I_x 0) v7_15.toNatClampNeg := e_x25
                  have g_x25 : x25.toInt = ((I_x 0) v7_15.toNatClampNeg).toInt := congrArg _ e_x25
                  refine PurI.cn (C := RX10) (host := "RaisedPress") (As := [.int x25]) (kX10_isLetter l g x25) fx (gU (uT _) u_637) rfl hdX10_isLetter ⟨Nat.le_of_ble_eq_true rfl, Nat.le_of_ble_eq_true rfl⟩ hK hP [] rfl (nm_in_RX6_62) (uT _ _ u_636) (uT _ _ u_2) rfl rfl hl.1 (Nat.le_of_ble_eq_true rfl) dX6_sets_109 (fun r26 p_r26 => ?_)
                  refine q_if_eq (tgt := 132) hx hb dX6_sets_112 (by decide) rfl (fun b_112 k_112 => ?_) (fun b_112 k_112 => ?_)
                  · have q_112 := bP.f p_r26 b_112
                    refine lv_iload hx hb dX6_sets_132 (lv_at hl 1 rfl) ?_
                    refine lv_aload_n hx hb dX6_sets_134 rfl (lv_at hl 3 rfl) ?_
                    refine lv_iconst (v := 1) hx hb dX6_sets_135 (by decide) ?_
                    refine lv_iload hx hb dX6_sets_136 (lv_at hl 1 rfl) ?_
                    refine EffI.cv (wr := (wArr g a_x n_x I_x ++ wX7 g a_t I_t)) (w' := fun u28 => wX6 g a_e u28 ++ (wArr g a_x n_x I_x ++ wX7 g a_t I_t)) (As := [.int (1 : Int32), .int v7_15]) (kX6_faulty l g a_e u22 (1 : Int32) v7_15 p_r21.1) fx (gUV (uT _) u_623 u_624 u_625 u_40 u_626) rfl hdX6_faulty ⟨Nat.le_of_ble_eq_true rfl, Nat.le_of_ble_eq_true rfl⟩ hK hP hD hS hA [0, 1, 2, 3] [4, 5, 6, 7, 8, 9, 10, 11] [8, 9, 10, 11, 0, 1, 2, 3, 4, 5, 6, 7] rfl rfl rfl rfl (by decide) rfl (fun _ => rfl) rfl rfl rfl rfl hl.1 (Nat.le_of_ble_eq_true rfl) dX6_sets_138 (fun r27 u28 H locs p_r27 hP hD hS => ?_)
                    have hP : va_P g.1 vwCl (wX6 g a_e u28 ++ (wArr g a_x n_x I_x ++ wX7 g a_t I_t)) H := hP
                    have hD : va_D A (wX6 g a_e u28 ++ (wArr g a_x n_x I_x ++ wX7 g a_t I_t)) := hD
                    refine r_iadd hx hb dX6_sets_141 rfl rfl (fun x29 e_x29 t_x29 => ?_)
                    try have t_x29 := t_x29 (by omega)
                    refine lv_istore (lv' := [(5, .int x29), (6, .int (0 : Int32)), (7, .int v7_15), (0, .ref (a_e 0)), (1, .ref (a_x 0)), (2, .int n), (3, .ref (a_t 0)), (4, .int wo)]) hx hb dX6_sets_142 hl (by decide) rfl (fun ls hl => ?_)
                    refine r_iinc (lv' := fun i30 => [(7, .int i30), (5, .int x29), (6, .int (0 : Int32)), (0, .ref (a_e 0)), (1, .ref (a_x 0)), (2, .int n), (3, .ref (a_t 0)), (4, .int wo)]) hx hb dX6_sets_144 hl (k := 2) rfl (by decide) rfl (by decide) (fun _ => rfl) (fun i30 e_i30 t_i30 ls hl => ?_)
                    try have t_i30 := t_i30 (by omega)
                    refine lv_goto (tgt := 15) hx hb dX6_sets_147 (by decide) ?_
                    exact ih_15 x29 (0 : Int32) i30 u28 p_r27.2.1 (by first | exact hw_15 | (rw [p_r27.2.2.1 9 (by decide) (by decide)]; first | exact hw_15 | (rw [p_r21.2.1 9 (by decide) (by decide)]; exact hw_15))) (by omega) (by first | exact h5_15 | exact (p_r27.2.2.1 5 (by decide) (by decide)).trans h5_15 | exact (p_r27.2.2.1 5 (by decide) (by decide)).trans ((p_r21.2.1 5 (by decide) (by decide)).trans h5_15)) (by first | exact (fun hl9 h39 => by have hu := hF_15 hl9 h39; rw [show max (i30).toInt (x29).toInt = max v7_15.toInt v5_15.toInt by omega]; exact hu) | exact (fun hl9 h39 => by have hu := hF_15 hl9 h39; rw [show max v7_15.toInt v5_15.toInt = v7_15.toInt by omega] at hu; have mn := uLi.mn hu k_25 (by omega); have hb := uB.at (F := (fxB (I_x 0))) (n := n.toInt) (j := v7_15.toInt.toNat) (by omega); have hx41 : (x3).toInt = (fxB (I_x 0)) v7_15.toInt.toNat := (by rw [e_x3]; rfl); exact uLi.bl hu k_25 (by omega) (by rw [hb, ← hx41]; exact q_45) (by omega) (by omega)) | exact (fun hl9 h39 => by have hu := hF_15 hl9 h39; rw [show max v7_15.toInt v5_15.toInt = v7_15.toInt by omega] at hu; have mn := uLi.mn hu k_25 (by omega); have hb := uB.at (F := (fxB (I_x 0))) (n := n.toInt) (j := v7_15.toInt.toNat) (by omega); have hx41 : (x3).toInt = (fxB (I_x 0)) v7_15.toInt.toNat := (by rw [e_x3]; rfl); exact uLi.fl hu k_25 ⟨by omega, Or.inl ⟨(by show ¬ uBl ((uB (fxB (I_x 0)) n.toInt) v7_15.toInt.toNat); rw [hb, ← hx41]; exact q_45), (by show ¬ uDg ((uB (fxB (I_x 0)) n.toInt) v7_15.toInt.toNat); rw [hb]; have w := q_86; rw [e_x23] at w; exact w), (by show ¬ uLt ((uB (fxB (I_x 0)) n.toInt) v7_15.toInt.toNat); rw [hb]; have w := q_112; rw [e_x25] at w; exact w), (by rw [p_r27.2.2.2.1]; decide)⟩⟩ (by rw [p_r27.2.2.2.1]; decide) (by rw [p_r27.2.2.2.2]))) (by omega) _ _ hP hD hS ls (lv_sub hl [0, 2, 1, 3, 4, 5, 6, 7] rfl)
                  · have q_112 := bP.t p_r26 b_112
                    refine lv_iload hx hb dX6_sets_115 (lv_at hl 1 rfl) ?_
                    refine lv_aload_n hx hb dX6_sets_117 rfl (lv_at hl 3 rfl) ?_
                    refine lv_aload_n hx hb dX6_sets_118 rfl (lv_at hl 4 rfl) ?_
                    refine lv_iload_n hx hb dX6_sets_119 rfl (lv_at hl 5 rfl) ?_
                    refine lv_iload hx hb dX6_sets_120 (lv_at hl 1 rfl) ?_
                    refine lv_aload_n hx hb dX6_sets_122 rfl (lv_at hl 6 rfl) ?_
                    refine EffI.cv (wr := ([])) (w' := fun u32 => wX6 g a_e u32 ++ (wArr g a_x n_x I_x ++ wX7 g a_t I_t)) (As := [.ref (a_x 0), .int n, .int v7_15, .ref (a_t 0)]) (kX6_setLetters l g a_e u22 a_x n_x I_x a_t I_t n v7_15 hT p_r21.1 (by omega) (by rw [← e_x25]; exact q_112) (by first | (rw [p_r21.2.1 9 (by decide) (by decide)]; omega) | omega)) fx (gUV (uT _) u_642 u_643 u_644 u_40 u_645) rfl hdX6_setLetters ⟨Nat.le_of_ble_eq_true rfl, Nat.le_of_ble_eq_true rfl⟩ hK hP hD hS hA [0, 1, 2, 3, 4, 5, 6, 7, 8, 9, 10, 11] [] [0, 1, 2, 3, 4, 5, 6, 7, 8, 9, 10, 11] rfl rfl rfl rfl (by decide) rfl (fun _ => rfl) rfl rfl rfl rfl hl.1 (Nat.le_of_ble_eq_true rfl) dX6_sets_123 (fun r31 u32 H locs p_r31 hP hD hS => ?_)
                    have hP : va_P g.1 vwCl (wX6 g a_e u32 ++ (wArr g a_x n_x I_x ++ wX7 g a_t I_t)) H := hP
                    have hD : va_D A (wX6 g a_e u32 ++ (wArr g a_x n_x I_x ++ wX7 g a_t I_t)) := hD
                    refine r_iadd hx hb dX6_sets_126 rfl rfl (fun x33 e_x33 t_x33 => ?_)
                    try have t_x33 := t_x33 (by omega)
                    refine lv_istore (lv' := [(5, .int x33), (6, .int (0 : Int32)), (7, .int v7_15), (0, .ref (a_e 0)), (1, .ref (a_x 0)), (2, .int n), (3, .ref (a_t 0)), (4, .int wo)]) hx hb dX6_sets_127 hl (by decide) rfl (fun ls hl => ?_)
                    refine lv_goto (tgt := 144) hx hb dX6_sets_129 (by decide) ?_
                    refine r_iinc (lv' := fun i34 => [(7, .int i34), (5, .int x33), (6, .int (0 : Int32)), (0, .ref (a_e 0)), (1, .ref (a_x 0)), (2, .int n), (3, .ref (a_t 0)), (4, .int wo)]) hx hb dX6_sets_144 hl (k := 2) rfl (by decide) rfl (by decide) (fun _ => rfl) (fun i34 e_i34 t_i34 ls hl => ?_)
                    try have t_i34 := t_i34 (by omega)
                    refine lv_goto (tgt := 15) hx hb dX6_sets_147 (by decide) ?_
                    exact ih_15 x33 (0 : Int32) i34 u32 p_r31.2.2.1 (by first | exact hw_15 | exact Int.le_trans p_r31.2.2.2.1 (by omega)) (by omega) (by first | exact h5_15 | exact (p_r31.2.2.2.2.1).trans h5_15 | exact (p_r31.2.2.2.2.1).trans ((p_r21.2.1 5 (by decide) (by decide)).trans h5_15)) (by first | exact (fun hl9 h39 => by have hu := hF_15 hl9 h39; rw [show max (i34).toInt (x33).toInt = max v7_15.toInt v5_15.toInt by omega]; exact hu) | exact (fun hl9 h39 => by have hu := hF_15 hl9 h39; rw [show max v7_15.toInt v5_15.toInt = v7_15.toInt by omega] at hu; have mn := uLi.mn hu k_25 (by omega); have hb := uB.at (F := (fxB (I_x 0))) (n := n.toInt) (j := v7_15.toInt.toNat) (by omega); have hx41 : (x3).toInt = (fxB (I_x 0)) v7_15.toInt.toNat := (by rw [e_x3]; rfl); exact uLi.bl hu k_25 (by omega) (by rw [hb, ← hx41]; exact q_45) (by omega) (by omega)) | exact (fun hl9 h39 => by have hu := hF_15 hl9 h39; rw [show max v7_15.toInt v5_15.toInt = v7_15.toInt by omega] at hu; have mn := uLi.mn hu k_25 (by omega); have hb := uB.at (F := (fxB (I_x 0))) (n := n.toInt) (j := v7_15.toInt.toNat) (by omega); have hx41 : (x3).toInt = (fxB (I_x 0)) v7_15.toInt.toNat := (by rw [e_x3]; rfl); have b5 : u22 0 5 = wo := h5_15; have b8 : u22 0 8 = I_e_15 0 8 := rfl; have b9 : u22 0 9 = I_e_15 0 9 := rfl; have b6 : u22 0 6 = I_e_15 0 6 := rfl; have b7 : u22 0 7 = I_e_15 0 7 := rfl; have bg : (if v6_15.toInt ≠ 0 then (1 : Int) else 0) = 0 := if_neg (fun z => z k_67); have bm : (u22 0 3).toInt = (I_e_15 0 3).toInt + (if v6_15.toInt ≠ 0 then (1 : Int) else 0) := (by rw [bg, Int.add_zero]); have hwd := uLi.wd hu k_25 (by omega) (show uLt ((uB (fxB (I_x 0)) n.toInt) v7_15.toInt.toNat) from by rw [hb]; have w := q_112; rw [e_x25] at w; exact w); have hw9 : (v7_15.toInt < (u22 0 9).toInt → uWd (fxB (I_x 0)) n.toInt v7_15.toInt (u22 0 8).toInt (u22 0 9).toInt) ∧ ((u22 0 9).toInt ≤ v7_15.toInt → 0 < v7_15.toInt → ¬ uLt ((fxB (I_x 0)) (v7_15.toInt - 1).toNat)) := (by rw [b8, b9]; exact ⟨fun z => uWd.km (hwd.1 z), fun z z2 => by have w := hwd.2 z z2; rw [uB.at (by omega)] at w; exact w⟩); obtain ⟨d1, d2, d3, d4, d5, d6⟩ := p_r31; obtain ⟨dw, d7⟩ := d6 hl9 hw9; rw [b5] at d7; have dn : (u32 0 9).toInt ≤ n.toInt := d4; rcases d7 with ⟨f1, ⟨f2, f3⟩, f4⟩ | ⟨⟨q9, f1⟩, g0, g1, ⟨f2, f3⟩, f4⟩ | ⟨q9, g1, g2, ⟨g3, g4⟩, g5, g6⟩; (exact uLi.fl hu k_25 ⟨by omega, Or.inr (Or.inr ⟨(show uLt ((uB (fxB (I_x 0)) n.toInt) v7_15.toInt.toNat) from by rw [hb]; have w := q_112; rw [e_x25] at w; exact w), _, _, uWd.mk dw, Or.inl ⟨uNo.mk' dn (by omega) f1, (by rw [f2]; decide)⟩⟩)⟩ (by rw [f2]; decide) (by rw [f3])); (exact uLi.fl hu k_25 ⟨by omega, Or.inr (Or.inr ⟨(show uLt ((uB (fxB (I_x 0)) n.toInt) v7_15.toInt.toNat) from by rw [hb]; have w := q_112; rw [e_x25] at w; exact w), _, _, uWd.mk dw, Or.inr ⟨⟨q9, uLg.mk' dn (by omega) f1⟩, (by show uGr ((uB (fxB (I_x 0)) n.toInt) v7_15.toInt.toNat); rw [hb]; exact g0), g1, (by rw [f2]; decide)⟩⟩)⟩ (by rw [f2]; decide) (by rw [f3])); (rw [g3, b6, g4, b7]; exact uLi.lt hu k_25 (by omega) (show uLt ((uB (fxB (I_x 0)) n.toInt) v7_15.toInt.toNat) from by rw [hb]; have w := q_112; rw [e_x25] at w; exact w) (uWd.mk dw) (uLg.mk' dn (by omega) g1) (by have hq := g1.1; rw [fxTc.len] at hq; have := hl9 q9 (by omega); rw [uTc.lc (by omega)]; omega) (fun z => g2 (by rw [← hb]; exact z)) (by have hq := g1.1; rw [fxTc.len] at hq; rw [uTc.cc (by omega)]; have := TI.cc hT q9; omega) (by rw [g6 (by omega), bg, Int.add_zero, uCa.mk (n := n.toInt) (by omega)]) (by omega) (by have hq := g1.1; rw [fxTc.len] at hq; have := hl9 q9 (by omega); have lc := uTc.lc (I := I_t) (r := q9) (by omega); omega))) | exact (fun hl9 h39 => by have hu := hF_15 hl9 h39; rw [show max v7_15.toInt v5_15.toInt = v7_15.toInt by omega] at hu; have mn := uLi.mn hu k_25 (by omega); have hb := uB.at (F := (fxB (I_x 0))) (n := n.toInt) (j := v7_15.toInt.toNat) (by omega); have hx41 : (x3).toInt = (fxB (I_x 0)) v7_15.toInt.toNat := (by rw [e_x3]; rfl); have b3 := p_r21.2.2 (by omega); have b5 : u22 0 5 = wo := (p_r21.2.1 5 (by decide) (by decide)).trans h5_15; have b8 : u22 0 8 = I_e_15 0 8 := (p_r21.2.1 8 (by decide) (by decide)); have b9 : u22 0 9 = I_e_15 0 9 := (p_r21.2.1 9 (by decide) (by decide)); have b6 : u22 0 6 = I_e_15 0 6 := (p_r21.2.1 6 (by decide) (by decide)); have b7 : u22 0 7 = I_e_15 0 7 := (p_r21.2.1 7 (by decide) (by decide)); have bg : (if v6_15.toInt ≠ 0 then (1 : Int) else 0) = 1 := if_pos k_67; have bm : (u22 0 3).toInt = (I_e_15 0 3).toInt + (if v6_15.toInt ≠ 0 then (1 : Int) else 0) := (by rw [bg]; exact b3); have hwd := uLi.wd hu k_25 (by omega) (show uLt ((uB (fxB (I_x 0)) n.toInt) v7_15.toInt.toNat) from by rw [hb]; have w := q_112; rw [e_x25] at w; exact w); have hw9 : (v7_15.toInt < (u22 0 9).toInt → uWd (fxB (I_x 0)) n.toInt v7_15.toInt (u22 0 8).toInt (u22 0 9).toInt) ∧ ((u22 0 9).toInt ≤ v7_15.toInt → 0 < v7_15.toInt → ¬ uLt ((fxB (I_x 0)) (v7_15.toInt - 1).toNat)) := (by rw [b8, b9]; exact ⟨fun z => uWd.km (hwd.1 z), fun z z2 => by have w := hwd.2 z z2; rw [uB.at (by omega)] at w; exact w⟩); obtain ⟨d1, d2, d3, d4, d5, d6⟩ := p_r31; obtain ⟨dw, d7⟩ := d6 hl9 hw9; rw [b5] at d7; have dn : (u32 0 9).toInt ≤ n.toInt := d4; rcases d7 with ⟨f1, ⟨f2, f3⟩, f4⟩ | ⟨⟨q9, f1⟩, g0, g1, ⟨f2, f3⟩, f4⟩ | ⟨q9, g1, g2, ⟨g3, g4⟩, g5, g6⟩; (exact uLi.fl hu k_25 ⟨by omega, Or.inr (Or.inr ⟨(show uLt ((uB (fxB (I_x 0)) n.toInt) v7_15.toInt.toNat) from by rw [hb]; have w := q_112; rw [e_x25] at w; exact w), _, _, uWd.mk dw, Or.inl ⟨uNo.mk' dn (by omega) f1, (by rw [f2]; decide)⟩⟩)⟩ (by rw [f2]; decide) (by rw [f3])); (exact uLi.fl hu k_25 ⟨by omega, Or.inr (Or.inr ⟨(show uLt ((uB (fxB (I_x 0)) n.toInt) v7_15.toInt.toNat) from by rw [hb]; have w := q_112; rw [e_x25] at w; exact w), _, _, uWd.mk dw, Or.inr ⟨⟨q9, uLg.mk' dn (by omega) f1⟩, (by show uGr ((uB (fxB (I_x 0)) n.toInt) v7_15.toInt.toNat); rw [hb]; exact g0), g1, (by rw [f2]; decide)⟩⟩)⟩ (by rw [f2]; decide) (by rw [f3])); (rw [g3, b6, g4, b7]; exact uLi.lt hu k_25 (by omega) (show uLt ((uB (fxB (I_x 0)) n.toInt) v7_15.toInt.toNat) from by rw [hb]; have w := q_112; rw [e_x25] at w; exact w) (uWd.mk dw) (uLg.mk' dn (by omega) g1) (by have hq := g1.1; rw [fxTc.len] at hq; have := hl9 q9 (by omega); rw [uTc.lc (by omega)]; omega) (fun z => g2 (by rw [← hb]; exact z)) (by have hq := g1.1; rw [fxTc.len] at hq; rw [uTc.cc (by omega)]; have := TI.cc hT q9; omega) (by rw [g6 (by omega), bm, uCa.mk (n := n.toInt) (by omega)]) (by omega) (by have hq := g1.1; rw [fxTc.len] at hq; have := hl9 q9 (by omega); have lc := uTc.lc (I := I_t) (r := q9) (by omega); omega)))) (by omega) _ _ hP hD hS ls (lv_sub hl [0, 2, 1, 3, 4, 5, 6, 7] rfl)
                · have q_86 := bP.t p_r24 b_86
                  refine lv_iload hx hb dX6_sets_89 (lv_at hl 1 rfl) ?_
                  refine lv_aload_n hx hb dX6_sets_91 rfl (lv_at hl 3 rfl) ?_
                  refine lv_aload_n hx hb dX6_sets_92 rfl (lv_at hl 4 rfl) ?_
                  refine lv_iload hx hb dX6_sets_93 (lv_at hl 1 rfl) ?_
                  refine lv_aload_n hx hb dX6_sets_95 rfl (lv_at hl 6 rfl) ?_
                  refine EffI.cv (wr := ([])) (w' := fun u36 => wX6 g a_e u36 ++ (wArr g a_x n_x I_x ++ wX7 g a_t I_t)) (As := [.ref (a_x 0), .int v7_15, .ref (a_t 0)]) (kX6_setDigit l g a_e u22 a_x n_x I_x a_t I_t v7_15 hT p_r21.1 (by omega) (by rw [← e_x23]; exact q_86)) fx (gUV (uT _) u_609 u_610 u_611 u_40 u_612) rfl hdX6_setDigit ⟨Nat.le_of_ble_eq_true rfl, Nat.le_of_ble_eq_true rfl⟩ hK hP hD hS hA [0, 1, 2, 3, 4, 5, 6, 7, 8, 9, 10, 11] [] [0, 1, 2, 3, 4, 5, 6, 7, 8, 9, 10, 11] rfl rfl rfl rfl (by decide) rfl (fun _ => rfl) rfl rfl rfl rfl hl.1 (Nat.le_of_ble_eq_true rfl) dX6_sets_96 (fun r35 u36 H locs p_r35 hP hD hS => ?_)
                  have hP : va_P g.1 vwCl (wX6 g a_e u36 ++ (wArr g a_x n_x I_x ++ wX7 g a_t I_t)) H := hP
                  have hD : va_D A (wX6 g a_e u36 ++ (wArr g a_x n_x I_x ++ wX7 g a_t I_t)) := hD
                  refine r_iadd hx hb dX6_sets_99 rfl rfl (fun x37 e_x37 t_x37 => ?_)
                  try have t_x37 := t_x37 (by omega)
                  refine lv_istore (lv' := [(5, .int x37), (6, .int (0 : Int32)), (7, .int v7_15), (0, .ref (a_e 0)), (1, .ref (a_x 0)), (2, .int n), (3, .ref (a_t 0)), (4, .int wo)]) hx hb dX6_sets_100 hl (by decide) rfl (fun ls hl => ?_)
                  refine lv_goto (tgt := 144) hx hb dX6_sets_102 (by decide) ?_
                  refine r_iinc (lv' := fun i38 => [(7, .int i38), (5, .int x37), (6, .int (0 : Int32)), (0, .ref (a_e 0)), (1, .ref (a_x 0)), (2, .int n), (3, .ref (a_t 0)), (4, .int wo)]) hx hb dX6_sets_144 hl (k := 2) rfl (by decide) rfl (by decide) (fun _ => rfl) (fun i38 e_i38 t_i38 ls hl => ?_)
                  try have t_i38 := t_i38 (by omega)
                  refine lv_goto (tgt := 15) hx hb dX6_sets_147 (by decide) ?_
                  exact ih_15 x37 (0 : Int32) i38 u36 p_r35.2.1 (by first | exact hw_15 | (rw [p_r35.2.2.1]; first | exact hw_15 | (rw [p_r21.2.1 9 (by decide) (by decide)]; exact hw_15))) (by omega) (by first | exact h5_15 | exact (p_r35.2.2.2.2.1).trans h5_15 | exact (p_r35.2.2.2.2.1).trans ((p_r21.2.1 5 (by decide) (by decide)).trans h5_15)) (by first | exact (fun hl9 h39 => by have hu := hF_15 hl9 h39; rw [show max (i38).toInt (x37).toInt = max v7_15.toInt v5_15.toInt by omega]; exact hu) | exact (fun hl9 h39 => by have hu := hF_15 hl9 h39; rw [show max v7_15.toInt v5_15.toInt = v7_15.toInt by omega] at hu; have mn := uLi.mn hu k_25 (by omega); have hb := uB.at (F := (fxB (I_x 0))) (n := n.toInt) (j := v7_15.toInt.toNat) (by omega); have hx41 : (x3).toInt = (fxB (I_x 0)) v7_15.toInt.toNat := (by rw [e_x3]; rfl); exact uLi.bl hu k_25 (by omega) (by rw [hb, ← hx41]; exact q_45) (by omega) (by omega)) | exact (fun hl9 h39 => by have hu := hF_15 hl9 h39; rw [show max v7_15.toInt v5_15.toInt = v7_15.toInt by omega] at hu; have mn := uLi.mn hu k_25 (by omega); have hb := uB.at (F := (fxB (I_x 0))) (n := n.toInt) (j := v7_15.toInt.toNat) (by omega); have hx41 : (x3).toInt = (fxB (I_x 0)) v7_15.toInt.toNat := (by rw [e_x3]; rfl); have b5 : u22 0 5 = wo := h5_15; have b8 : u22 0 8 = I_e_15 0 8 := rfl; have b9 : u22 0 9 = I_e_15 0 9 := rfl; have b6 : u22 0 6 = I_e_15 0 6 := rfl; have b7 : u22 0 7 = I_e_15 0 7 := rfl; have bg : (if v6_15.toInt ≠ 0 then (1 : Int) else 0) = 0 := if_neg (fun z => z k_67); have bm : (u22 0 3).toInt = (I_e_15 0 3).toInt + (if v6_15.toInt ≠ 0 then (1 : Int) else 0) := (by rw [bg, Int.add_zero]); obtain ⟨d1, d2, d3, d4, d5, d6⟩ := p_r35; rw [b5] at d6; rcases d6 with ⟨f1, f2, f3⟩ | ⟨g1, g2, g3, q9, g4, g5⟩; (exact uLi.fl hu k_25 ⟨by omega, Or.inr (Or.inl ⟨(show uDg ((uB (fxB (I_x 0)) n.toInt) v7_15.toInt.toNat) from by rw [hb]; have w := q_86; rw [e_x23] at w; exact w), (by show (fxTc I_t).1 1 = 0 ∨ uNj (fxTc I_t) wo (uFg ((uB (fxB (I_x 0)) n.toInt) v7_15.toInt.toNat)); rw [hb]; exact f1), (by rw [f2]; decide)⟩)⟩ (by rw [f2]; decide) (by rw [f3])); (rw [g2, b6, g3, b7, d4, b8, d3, b9]; exact uLi.dg hu k_25 (by omega) (show uDg ((uB (fxB (I_x 0)) n.toInt) v7_15.toInt.toNat) from by rw [hb]; have w := q_86; rw [e_x23] at w; exact w) g1 (by rw [hb]; exact g4) (by have hq := g4.1; rw [fxTc.len] at hq; rw [uTc.cc (by omega)]; have := TI.cc hT q9; omega) (by rw [g5 (by omega), bg, Int.add_zero, uNu.mk (n := n.toInt) (by omega)]) (by omega) (by omega))) | exact (fun hl9 h39 => by have hu := hF_15 hl9 h39; rw [show max v7_15.toInt v5_15.toInt = v7_15.toInt by omega] at hu; have mn := uLi.mn hu k_25 (by omega); have hb := uB.at (F := (fxB (I_x 0))) (n := n.toInt) (j := v7_15.toInt.toNat) (by omega); have hx41 : (x3).toInt = (fxB (I_x 0)) v7_15.toInt.toNat := (by rw [e_x3]; rfl); have b3 := p_r21.2.2 (by omega); have b5 : u22 0 5 = wo := (p_r21.2.1 5 (by decide) (by decide)).trans h5_15; have b8 : u22 0 8 = I_e_15 0 8 := (p_r21.2.1 8 (by decide) (by decide)); have b9 : u22 0 9 = I_e_15 0 9 := (p_r21.2.1 9 (by decide) (by decide)); have b6 : u22 0 6 = I_e_15 0 6 := (p_r21.2.1 6 (by decide) (by decide)); have b7 : u22 0 7 = I_e_15 0 7 := (p_r21.2.1 7 (by decide) (by decide)); have bg : (if v6_15.toInt ≠ 0 then (1 : Int) else 0) = 1 := if_pos k_67; have bm : (u22 0 3).toInt = (I_e_15 0 3).toInt + (if v6_15.toInt ≠ 0 then (1 : Int) else 0) := (by rw [bg]; exact b3); obtain ⟨d1, d2, d3, d4, d5, d6⟩ := p_r35; rw [b5] at d6; rcases d6 with ⟨f1, f2, f3⟩ | ⟨g1, g2, g3, q9, g4, g5⟩; (exact uLi.fl hu k_25 ⟨by omega, Or.inr (Or.inl ⟨(show uDg ((uB (fxB (I_x 0)) n.toInt) v7_15.toInt.toNat) from by rw [hb]; have w := q_86; rw [e_x23] at w; exact w), (by show (fxTc I_t).1 1 = 0 ∨ uNj (fxTc I_t) wo (uFg ((uB (fxB (I_x 0)) n.toInt) v7_15.toInt.toNat)); rw [hb]; exact f1), (by rw [f2]; decide)⟩)⟩ (by rw [f2]; decide) (by rw [f3])); (rw [g2, b6, g3, b7, d4, b8, d3, b9]; exact uLi.dg hu k_25 (by omega) (show uDg ((uB (fxB (I_x 0)) n.toInt) v7_15.toInt.toNat) from by rw [hb]; have w := q_86; rw [e_x23] at w; exact w) g1 (by rw [hb]; exact g4) (by have hq := g4.1; rw [fxTc.len] at hq; rw [uTc.cc (by omega)]; have := TI.cc hT q9; omega) (by rw [g5 (by omega), bm, uNu.mk (n := n.toInt) (by omega)]) (by omega) (by omega)))) (by omega) _ _ hP hD hS ls (lv_sub hl [0, 2, 1, 3, 4, 5, 6, 7] rfl)
            · have q_45 := bP.t p_r4 b_45
              refine lv_aload_n hx hb dX6_sets_48 rfl (lv_at hl 3 rfl) ?_
              refine va_get (D := g.1) (ci := 6) (v := .int (I_e_15 0 3)) (C := RX6) (T := TX6) (N := 10) hx hb hi_X6 (fun _ h => h) hown hK.1 hP 0 rfl rfl 3 (by decide) hf_21 (fun _ h9 => h9) rfl dX6_sets_49 ?_
              refine q_if_le (tgt := 59) hx hb dX6_sets_52 (by decide) rfl (fun k_52 => ?_) (fun k_52 => ?_)
              · refine lv_iconst (v := 0) hx hb dX6_sets_59 (by decide) ?_
                refine lv_istore (lv' := [(6, .int (0 : Int32)), (7, .int v7_15), (5, .int v5_15), (0, .ref (a_e 0)), (1, .ref (a_x 0)), (2, .int n), (3, .ref (a_t 0)), (4, .int wo)]) hx hb dX6_sets_60 hl (by decide) rfl (fun ls hl => ?_)
                refine lv_goto (tgt := 144) hx hb dX6_sets_62 (by decide) ?_
                refine r_iinc (lv' := fun i39 => [(7, .int i39), (6, .int (0 : Int32)), (5, .int v5_15), (0, .ref (a_e 0)), (1, .ref (a_x 0)), (2, .int n), (3, .ref (a_t 0)), (4, .int wo)]) hx hb dX6_sets_144 hl (k := 1) rfl (by decide) rfl (by decide) (fun _ => rfl) (fun i39 e_i39 t_i39 ls hl => ?_)
                try have t_i39 := t_i39 (by omega)
                refine lv_goto (tgt := 15) hx hb dX6_sets_147 (by decide) ?_
                exact ih_15 v5_15 (0 : Int32) i39 I_e_15 hE_15 (by exact hw_15) (by omega) (by exact h5_15) (by first | exact (fun hl9 h39 => by have hu := hF_15 hl9 h39; rw [show max (i39).toInt (v5_15).toInt = max v7_15.toInt v5_15.toInt by omega]; exact hu) | exact (fun hl9 h39 => by have hu := hF_15 hl9 h39; rw [show max v7_15.toInt v5_15.toInt = v7_15.toInt by omega] at hu; have mn := uLi.mn hu k_25 (by omega); have hb := uB.at (F := (fxB (I_x 0))) (n := n.toInt) (j := v7_15.toInt.toNat) (by omega); have hx41 : (x3).toInt = (fxB (I_x 0)) v7_15.toInt.toNat := (by rw [e_x3]; rfl); exact uLi.bl hu k_25 (by omega) (by rw [hb, ← hx41]; exact q_45) (by omega) (by omega))) (by omega) _ _ hP hD hS ls hl
              · refine lv_iconst (v := 1) hx hb dX6_sets_55 (by decide) ?_
                refine lv_goto (tgt := 60) hx hb dX6_sets_56 (by decide) ?_
                refine lv_istore (lv' := [(6, .int (1 : Int32)), (7, .int v7_15), (5, .int v5_15), (0, .ref (a_e 0)), (1, .ref (a_x 0)), (2, .int n), (3, .ref (a_t 0)), (4, .int wo)]) hx hb dX6_sets_60 hl (by decide) rfl (fun ls hl => ?_)
                refine lv_goto (tgt := 144) hx hb dX6_sets_62 (by decide) ?_
                refine r_iinc (lv' := fun i40 => [(7, .int i40), (6, .int (1 : Int32)), (5, .int v5_15), (0, .ref (a_e 0)), (1, .ref (a_x 0)), (2, .int n), (3, .ref (a_t 0)), (4, .int wo)]) hx hb dX6_sets_144 hl (k := 1) rfl (by decide) rfl (by decide) (fun _ => rfl) (fun i40 e_i40 t_i40 ls hl => ?_)
                try have t_i40 := t_i40 (by omega)
                refine lv_goto (tgt := 15) hx hb dX6_sets_147 (by decide) ?_
                exact ih_15 v5_15 (1 : Int32) i40 I_e_15 hE_15 (by exact hw_15) (by omega) (by exact h5_15) (by first | exact (fun hl9 h39 => by have hu := hF_15 hl9 h39; rw [show max (i40).toInt (v5_15).toInt = max v7_15.toInt v5_15.toInt by omega]; exact hu) | exact (fun hl9 h39 => by have hu := hF_15 hl9 h39; rw [show max v7_15.toInt v5_15.toInt = v7_15.toInt by omega] at hu; have mn := uLi.mn hu k_25 (by omega); have hb := uB.at (F := (fxB (I_x 0))) (n := n.toInt) (j := v7_15.toInt.toNat) (by omega); have hx41 : (x3).toInt = (fxB (I_x 0)) v7_15.toInt.toNat := (by rw [e_x3]; rfl); exact uLi.bl hu k_25 (by omega) (by rw [hb, ← hx41]; exact q_45) (by omega) (by omega))) (by omega) _ _ hP hD hS ls hl
          · refine lv_goto (tgt := 144) hx hb dX6_sets_35 (by decide) ?_
            refine r_iinc (lv' := fun i41 => [(7, .int i41), (6, .int v6_15), (5, .int v5_15), (0, .ref (a_e 0)), (1, .ref (a_x 0)), (2, .int n), (3, .ref (a_t 0)), (4, .int wo)]) hx hb dX6_sets_144 hl (k := 0) rfl (by decide) rfl (by decide) (fun _ => rfl) (fun i41 e_i41 t_i41 ls hl => ?_)
            try have t_i41 := t_i41 (by omega)
            refine lv_goto (tgt := 15) hx hb dX6_sets_147 (by decide) ?_
            exact ih_15 v5_15 v6_15 i41 I_e_15 hE_15 (by exact hw_15) (by omega) (by exact h5_15) (by exact (fun hl9 h39 => by have hu := hF_15 hl9 h39; rw [show max (i41).toInt (v5_15).toInt = max v7_15.toInt v5_15.toInt by omega]; exact hu)) (by omega) _ _ hP hD hS ls hl
  exact L15 ((max n.toInt 0 + 1 - (0 : Int32).toInt) + 1).toNat (0 : Int32) (0 : Int32) (0 : Int32) u2 p_r1.1 (by have q := p_r1.2.1; omega) (by omega) p_r1.2.2.2.2.1 (fun _ _ => uLi.in lm0 (by rw [p_r1.2.2.2.1]; exact lm0) (by rw [p_r1.2.2.1]; exact lm0) (by rw [p_r1.2.2.2.2.2.1]; exact lm1) p_r1.2.1 (by omega)) (by omega) _ _ hP hD hS ls hl
