
/-- what holds of a WRITING's bytes -/
def SI (I : Nat → Nat → Int32) : Prop := -1 ≤ (I 0 1).toInt ∧ (I 0 1).toInt ≤ 300
def sameR (I I' : Nat → Nat → Int32) : Prop := I' 0 = I 0 ∧ I' 1 = I 1
theorem sameR.rf (I : Nat → Nat → Int32) : sameR I I := ⟨rfl, rfl⟩
theorem SI.of {I I' : Nat → Nat → Int32} (h : SI I) (q : sameR I I') : SI I' := by unfold SI; rw [q.1]; exact h
theorem sameR.tr {I I' I2 : Nat → Nat → Int32} (h : sameR I I') (h2 : sameR I' I2) : sameR I I2 := ⟨h2.1.trans h.1, h2.2.trans h.2⟩
/-- the rows of RULES that are known: a place is one of its RULE -/
def RC (T I : Nat → Nat → Int32) : Prop := ∀ s : Nat, s < 72 → (I 1 s).toInt < 1000000 → ((s % 3 : Nat) : Int) < (T 3 (s / 3)).toInt
set_option maxHeartbeats 4000000 in
set_option maxRecDepth 100000 in
theorem kX5_isThere (l : Launch) (g : gG) (a_s : Nat → Nat) (I_s : Nat → Nat → Int32)  : PurI l g yX5_isThere wsX5_isThere 0 [.ref (a_s 0)] (wX5 g a_s I_s) (fun r => bP (¬ (I_s 0 1).toInt = -1) ((I_s 0 1).toInt = -1) r) := by
  refine PurI.sz (cc := cX5_isThere) (maxL := 1) (by decide) rfl (Nat.le_of_ble_eq_true rfl) (fun p e s m args below meth c Q ls fx hK hP hl hret => ?_)
  have hx := fx.1
  have hb := fx.2.1
  have hml := fx.2.2.1
  have hown := fx.2.2.2.1
  have hts := fx.2.2.2.2
  have hl : lv_has ls 1 [(0, .ref (a_s 0))] := hl
  have hP : va_P g.1 vwCl (wX5 g a_s I_s) s.heap := hP
  have hf_15 := hts _ (uT _ _ u_103)
  have hi_X5 : ∀ w ∈ wsX50, w.before args s = true := fun w h => hts w (uT _ w (u_wsX50 w h))
  have lm1 : (-1 : Int32).toInt = -1 := by decide
  have lm0 : (0 : Int32).toInt = 0 := by decide
  have lm2 : (1 : Int32).toInt = 1 := by decide
  refine lv_aload_n hx hb dX5_isThere_0 rfl (lv_at hl 0 rfl) ?_
  refine va_get (D := g.1) (ci := 5) (v := .int (I_s 0 1)) (C := RX5) (T := TX5) (N := 3) hx hb hi_X5 (fun _ h => h) hown hK.1 hP 0 rfl rfl 1 (by decide) hf_15 (fun _ h9 => h9) rfl dX5_isThere_1 ?_
  refine lv_iconst (v := -1) hx hb dX5_isThere_4 (by decide) ?_
  refine q_icmp_eq (tgt := 12) hx hb dX5_isThere_5 (by decide) rfl (by decide : (-1 : Int32).toInt = -1) (fun k_5 => ?_) (fun k_5 => ?_)
  · refine lv_iconst (v := 0) hx hb dX5_isThere_12 (by decide) ?_
    exact hret 13 ls (0 : Int32) dX5_isThere_13 (Or.inl rfl) (by first | exact Or.inl ⟨rfl, by omega⟩ | exact Or.inr ⟨rfl, by omega⟩)
  · refine lv_iconst (v := 1) hx hb dX5_isThere_8 (by decide) ?_
    refine lv_goto (tgt := 13) hx hb dX5_isThere_9 (by decide) ?_
    have lr : (1 : Int32).toInt = 1 := by decide
    exact hret 13 ls (1 : Int32) dX5_isThere_13 (Or.inr rfl) (by first | exact Or.inl ⟨rfl, by omega⟩ | exact Or.inr ⟨rfl, by omega⟩)

set_option maxHeartbeats 4000000 in
set_option maxRecDepth 100000 in
theorem kX5_take (l : Launch) (g : gG) (a_s : Nat → Nat) (I_s : Nat → Nat → Int32) (a_x : Nat → Nat) (n_x : Nat) (I_x : Nat → Nat → Int32) (n : Int32) (hSI : SI I_s) (h_n : -1 ≤ n.toInt ∧ n.toInt ≤ (n_x : Int)) : EffV l g yX5_take wsX5_take 1 [.ref (a_s 0), .ref (a_x 0), .int n] (wX5 g a_s I_s ++ wArr g a_x n_x I_x) (fun (u : (Nat → Nat → Int32)) => wX5 g a_s u ++ wArr g a_x n_x I_x) (fun (u : (Nat → Nat → Int32)) => SI (u) ∧ ((u) 0 1).toInt = min n.toInt 300) := by
  refine EffV.st (cc := cX5_take) (maxL := 3) (by decide) rfl (Nat.le_of_ble_eq_true rfl) (fun p e s m args below meth c A Q ls fx hK hP hD hA hS hl hret => ?_)
  have hx := fx.1
  have hb := fx.2.1
  have hml := fx.2.2.1
  have hown := fx.2.2.2.1
  have hts := fx.2.2.2.2
  have hl : lv_has ls 3 [(0, .ref (a_s 0)), (1, .ref (a_x 0)), (2, .int n)] := hl
  have hP : va_P g.1 vwCl (wX5 g a_s I_s ++ wArr g a_x n_x I_x) s.heap := hP
  have hf_9 := hts _ (uT _ _ u_102)
  have hf_15 := hts _ (uT _ _ u_103)
  have hi_X5 : ∀ w ∈ wsX50, w.before args s = true := fun w h => hts w (uT _ w (u_wsX50 w h))
  have lm1 : (-1 : Int32).toInt = -1 := by decide
  have lm0 : (0 : Int32).toInt = 0 := by decide
  have lm2 : (1 : Int32).toInt = 1 := by decide
  have hs0 := hSI.1
  have hs1 := hSI.2
  refine lv_aload_n hx hb dX5_take_0 rfl (lv_at hl 0 rfl) ?_
  refine lv_iload_n hx hb dX5_take_1 rfl (lv_at hl 2 rfl) ?_
  refine lv_sipush (v := 300) hx hb dX5_take_2 (by decide) ?_
  refine va_mmin hx hb (hml.trans hl.1.symm) hown (hts _ (uT _ _ u_666)) (hts _ (uT _ _ u_523)) (hts _ (uT _ _ u_524)) (hts _ (uT _ _ u_525)) (Nat.le_of_ble_eq_true rfl) (Nat.le_of_ble_eq_true rfl) (Nat.zero_le _) (Nat.zero_le _) dX5_take_5 ?_
  refine q_nm (fun x1 e_x1 => ?_)
  have t_x1 := t_min e_x1 rfl (by decide : (300 : Int32).toInt = 300)
  refine va_put (D := g.1) (ci := 5) (v := .int x1) (ty := .int) (C := RX5) (T := TX5) (N := 3) hx hb hi_X5 (fun _ h => h) tyX5 tyX5_ok nmX5 hown hK.1 hP hD hS 0 rfl rfl 1 (by decide) hf_15 (fun _ h9 => h9) rfl (by decide +kernel) rfl rfl (Nat.le_of_ble_eq_true rfl) dX5_take_8 (fun H locs hP hD hS => ?_)
  have hP : va_P g.1 vwCl (wX5 g a_s (uF I_s 0 1 x1) ++ wArr g a_x n_x I_x) H := hP
  have hD : va_D A (wX5 g a_s (uF I_s 0 1 x1) ++ wArr g a_x n_x I_x) := hD
  refine lv_aload_n hx hb dX5_take_11 rfl (lv_at hl 0 rfl) ?_
  refine va_get (D := g.1) (ci := 5) (v := .int x1) (C := RX5) (T := TX5) (N := 3) hx hb hi_X5 (fun _ h => h) hown hK.1 hP 0 rfl rfl 1 (by decide) hf_15 (fun _ h9 => h9) rfl dX5_take_12 ?_
  refine q_if_le (tgt := 32) hx hb dX5_take_15 (by decide) rfl (fun k_15 => ?_) (fun k_15 => ?_)
  · refine hret 32 ls _ _ (uF I_s 0 1 x1) dX5_take_32 hS hP hD ?_
    exact (show (-1 ≤ (x1).toInt ∧ (x1).toInt ≤ 300) ∧ (x1).toInt = min n.toInt 300 from (by omega))
  · refine lv_aload_n hx hb dX5_take_18 rfl (lv_at hl 1 rfl) ?_
    refine lv_iconst (v := 0) hx hb dX5_take_19 (by decide) ?_
    refine lv_aload_n hx hb dX5_take_20 rfl (lv_at hl 0 rfl) ?_
    refine va_get (D := g.1) (ci := 5) (v := .ref (a_s 1)) (C := RX5) (T := TX5) (N := 3) hx hb hi_X5 (fun _ h => h) hown hK.1 hP 0 rfl rfl 0 (by decide) hf_9 (fun _ h9 => h9) rfl dX5_take_21 ?_
    refine lv_iconst (v := 0) hx hb dX5_take_24 (by decide) ?_
    refine lv_aload_n hx hb dX5_take_25 rfl (lv_at hl 0 rfl) ?_
    refine va_get (D := g.1) (ci := 5) (v := .int x1) (C := RX5) (T := TX5) (N := 3) hx hb hi_X5 (fun _ h => h) hown hK.1 hP 0 rfl rfl 1 (by decide) hf_15 (fun _ h9 => h9) rfl dX5_take_26 ?_
    obtain ⟨f2, e_f2⟩ : ∃ z, z = va_cpy (I_x 0) (I_s 1) ((0 : Int32)).toNatClampNeg ((0 : Int32)).toNatClampNeg (x1).toNatClampNeg := ⟨_, rfl⟩
    refine va_copyi hx hb (hml.trans hl.1.symm) hown (hts _ (uT _ _ u_667)) (hts _ (uT _ _ u_326)) (hts _ (uT _ _ u_327)) (hts _ (uT _ _ u_328)) hK.1 hP hD hS 3 1 0 0 rfl rfl rfl rfl rfl (by decide) (by decide) (fun h => by have := t_lt h rfl (by decide : (0 : Int32).toInt = 0); omega) (by show ((0 : Int32)).toInt.toNat + (x1).toInt.toNat ≤ _; omega) (by show ((0 : Int32)).toInt.toNat + (x1).toInt.toNat ≤ _; omega) (fun _ _ => rfl) (Nat.le_of_ble_eq_true rfl) (Nat.le_of_ble_eq_true rfl) dX5_take_29 (fun H locs hP hD hS => ?_)
    have hP : va_P g.1 vwCl (wX5 g a_s (uR (uF I_s 0 1 x1) 1 f2) ++ wArr g a_x n_x I_x) H := by rw [e_f2]; exact hP
    have hD : va_D A (wX5 g a_s (uR (uF I_s 0 1 x1) 1 f2) ++ wArr g a_x n_x I_x) := by rw [e_f2]; exact hD
    refine hret 32 ls _ _ (uR (uF I_s 0 1 x1) 1 f2) dX5_take_32 hS hP hD ?_
    exact (show (-1 ≤ (x1).toInt ∧ (x1).toInt ≤ 300) ∧ (x1).toInt = min n.toInt 300 from (by omega))

set_option maxHeartbeats 4000000 in
set_option maxRecDepth 100000 in
theorem kX5_beginsFigure (l : Launch) (g : gG) (a_s : Nat → Nat) (I_s : Nat → Nat → Int32) (k : Int32) (h_k : 0 ≤ k.toInt ∧ k.toInt < 300) : PurI l g yX5_beginsFigure wsX5_beginsFigure 1 [.ref (a_s 0), .int k] (wX5 g a_s I_s) (fun r => bP True True r) := by
  refine PurI.sz (cc := cX5_beginsFigure) (maxL := 2) (by decide) rfl (Nat.le_of_ble_eq_true rfl) (fun p e s m args below meth c Q ls fx hK hP hl hret => ?_)
  have hx := fx.1
  have hb := fx.2.1
  have hml := fx.2.2.1
  have hown := fx.2.2.2.1
  have hts := fx.2.2.2.2
  have hl : lv_has ls 2 [(0, .ref (a_s 0)), (1, .int k)] := hl
  have hP : va_P g.1 vwCl (wX5 g a_s I_s) s.heap := hP
  have hf_9 := hts _ (uT _ _ u_102)
  have hi_X5 : ∀ w ∈ wsX50, w.before args s = true := fun w h => hts w (uT _ w (u_wsX50 w h))
  have lm1 : (-1 : Int32).toInt = -1 := by decide
  have lm0 : (0 : Int32).toInt = 0 := by decide
  have lm2 : (1 : Int32).toInt = 1 := by decide
  refine lv_aload_n hx hb dX5_beginsFigure_0 rfl (lv_at hl 0 rfl) ?_
  refine va_get (D := g.1) (ci := 5) (v := .ref (a_s 1)) (C := RX5) (T := TX5) (N := 3) hx hb hi_X5 (fun _ h => h) hown hK.1 hP 0 rfl rfl 0 (by decide) hf_9 (fun _ h9 => h9) rfl dX5_beginsFigure_1 ?_
  refine lv_iload_n hx hb dX5_beginsFigure_4 rfl (lv_at hl 1 rfl) ?_
  have n_5 : vp_in k 300 := (t_in (by omega))
  refine va_iald hx hb hK.1 hP 1 0 rfl rfl n_5 dX5_beginsFigure_5 ?_
  refine q_nm (fun x1 e_x1 => ?_)
  have e_x1 : x1 = (I_s 1) k.toNatClampNeg := e_x1
  have g_x1 : x1.toInt = ((I_s 1) k.toNatClampNeg).toInt := congrArg _ e_x1
  refine PurI.cn (C := RX10) (host := "RaisedPress") (As := [.int x1]) (kX10_isDigit l g x1) fx (gU (uT _) u_375) rfl hdX10_isDigit ⟨Nat.le_of_ble_eq_true rfl, Nat.le_of_ble_eq_true rfl⟩ hK hP [] rfl (nm_in_RX5_38) (uT _ _ u_374) (uT _ _ u_2) rfl rfl hl.1 (Nat.le_of_ble_eq_true rfl) dX5_beginsFigure_6 (fun r2 p_r2 => ?_)
  refine q_if_eq (tgt := 34) hx hb dX5_beginsFigure_9 (by decide) rfl (fun b_9 k_9 => ?_) (fun b_9 k_9 => ?_)
  · have q_9 := bP.f p_r2 b_9
    refine lv_iconst (v := 0) hx hb dX5_beginsFigure_34 (by decide) ?_
    exact hret 35 ls (0 : Int32) dX5_beginsFigure_35 (Or.inl rfl) (by first | exact Or.inl ⟨rfl, trivial⟩ | exact Or.inr ⟨rfl, trivial⟩)
  · have q_9 := bP.t p_r2 b_9
    refine lv_iload_n hx hb dX5_beginsFigure_12 rfl (lv_at hl 1 rfl) ?_
    refine q_if_eq (tgt := 30) hx hb dX5_beginsFigure_13 (by decide) rfl (fun b_13 k_13 => ?_) (fun b_13 k_13 => ?_)
    · refine lv_iconst (v := 1) hx hb dX5_beginsFigure_30 (by decide) ?_
      refine lv_goto (tgt := 35) hx hb dX5_beginsFigure_31 (by decide) ?_
      have lr : (1 : Int32).toInt = 1 := by decide
      exact hret 35 ls (1 : Int32) dX5_beginsFigure_35 (Or.inr rfl) (by first | exact Or.inl ⟨rfl, trivial⟩ | exact Or.inr ⟨rfl, trivial⟩)
    · refine lv_aload_n hx hb dX5_beginsFigure_16 rfl (lv_at hl 0 rfl) ?_
      refine va_get (D := g.1) (ci := 5) (v := .ref (a_s 1)) (C := RX5) (T := TX5) (N := 3) hx hb hi_X5 (fun _ h => h) hown hK.1 hP 0 rfl rfl 0 (by decide) hf_9 (fun _ h9 => h9) rfl dX5_beginsFigure_17 ?_
      refine lv_iload_n hx hb dX5_beginsFigure_20 rfl (lv_at hl 1 rfl) ?_
      refine lv_iconst (v := 1) hx hb dX5_beginsFigure_21 (by decide) ?_
      refine r_isub hx hb dX5_beginsFigure_22 rfl (by decide : (1 : Int32).toInt = 1) (fun x3 e_x3 t_x3 => ?_)
      try have t_x3 := t_x3 (by omega)
      have n_23 : vp_in x3 300 := (t_in (by omega))
      refine va_iald hx hb hK.1 hP 1 0 rfl rfl n_23 dX5_beginsFigure_23 ?_
      refine q_nm (fun x4 e_x4 => ?_)
      have e_x4 : x4 = (I_s 1) x3.toNatClampNeg := e_x4
      have g_x4 : x4.toInt = ((I_s 1) x3.toNatClampNeg).toInt := congrArg _ e_x4
      refine PurI.cn (C := RX10) (host := "RaisedPress") (As := [.int x4]) (kX10_isDigit l g x4) fx (gU (uT _) u_375) rfl hdX10_isDigit ⟨Nat.le_of_ble_eq_true rfl, Nat.le_of_ble_eq_true rfl⟩ hK hP [] rfl (nm_in_RX5_38) (uT _ _ u_374) (uT _ _ u_2) rfl rfl hl.1 (Nat.le_of_ble_eq_true rfl) dX5_beginsFigure_24 (fun r5 p_r5 => ?_)
      refine q_if_ne (tgt := 34) hx hb dX5_beginsFigure_27 (by decide) rfl (fun b_27 k_27 => ?_) (fun b_27 k_27 => ?_)
      · have q_27 := bP.t p_r5 b_27
        refine lv_iconst (v := 0) hx hb dX5_beginsFigure_34 (by decide) ?_
        exact hret 35 ls (0 : Int32) dX5_beginsFigure_35 (Or.inl rfl) (by first | exact Or.inl ⟨rfl, trivial⟩ | exact Or.inr ⟨rfl, trivial⟩)
      · have q_27 := bP.f p_r5 b_27
        refine lv_iconst (v := 1) hx hb dX5_beginsFigure_30 (by decide) ?_
        refine lv_goto (tgt := 35) hx hb dX5_beginsFigure_31 (by decide) ?_
        have lr : (1 : Int32).toInt = 1 := by decide
        exact hret 35 ls (1 : Int32) dX5_beginsFigure_35 (Or.inr rfl) (by first | exact Or.inl ⟨rfl, trivial⟩ | exact Or.inr ⟨rfl, trivial⟩)

set_option maxHeartbeats 4000000 in
set_option maxRecDepth 100000 in
theorem kX5_beginsWord (l : Launch) (g : gG) (a_s : Nat → Nat) (I_s : Nat → Nat → Int32) (k : Int32) (h_k : 0 ≤ k.toInt ∧ k.toInt < 300) : PurI l g yX5_beginsWord wsX5_beginsWord 2 [.ref (a_s 0), .int k] (wX5 g a_s I_s) (fun r => bP ((97 ≤ (I_s 1 k.toNatClampNeg).toInt ∧ (I_s 1 k.toNatClampNeg).toInt ≤ 122) ∨ (65 ≤ (I_s 1 k.toNatClampNeg).toInt ∧ (I_s 1 k.toNatClampNeg).toInt ≤ 90)) True r) := by
  refine PurI.sz (cc := cX5_beginsWord) (maxL := 2) (by decide) rfl (Nat.le_of_ble_eq_true rfl) (fun p e s m args below meth c Q ls fx hK hP hl hret => ?_)
  have hx := fx.1
  have hb := fx.2.1
  have hml := fx.2.2.1
  have hown := fx.2.2.2.1
  have hts := fx.2.2.2.2
  have hl : lv_has ls 2 [(0, .ref (a_s 0)), (1, .int k)] := hl
  have hP : va_P g.1 vwCl (wX5 g a_s I_s) s.heap := hP
  have hf_9 := hts _ (uT _ _ u_102)
  have hi_X5 : ∀ w ∈ wsX50, w.before args s = true := fun w h => hts w (uT _ w (u_wsX50 w h))
  have lm1 : (-1 : Int32).toInt = -1 := by decide
  have lm0 : (0 : Int32).toInt = 0 := by decide
  have lm2 : (1 : Int32).toInt = 1 := by decide
  refine lv_aload_n hx hb dX5_beginsWord_0 rfl (lv_at hl 0 rfl) ?_
  refine va_get (D := g.1) (ci := 5) (v := .ref (a_s 1)) (C := RX5) (T := TX5) (N := 3) hx hb hi_X5 (fun _ h => h) hown hK.1 hP 0 rfl rfl 0 (by decide) hf_9 (fun _ h9 => h9) rfl dX5_beginsWord_1 ?_
  refine lv_iload_n hx hb dX5_beginsWord_4 rfl (lv_at hl 1 rfl) ?_
  have n_5 : vp_in k 300 := (t_in (by omega))
  refine va_iald hx hb hK.1 hP 1 0 rfl rfl n_5 dX5_beginsWord_5 ?_
  refine q_nm (fun x1 e_x1 => ?_)
  have e_x1 : x1 = (I_s 1) k.toNatClampNeg := e_x1
  have g_x1 : x1.toInt = ((I_s 1) k.toNatClampNeg).toInt := congrArg _ e_x1
  refine PurI.cn (C := RX10) (host := "RaisedPress") (As := [.int x1]) (kX10_isLetter l g x1) fx (gU (uT _) u_637) rfl hdX10_isLetter ⟨Nat.le_of_ble_eq_true rfl, Nat.le_of_ble_eq_true rfl⟩ hK hP [] rfl (nm_in_RX5_41) (uT _ _ u_636) (uT _ _ u_2) rfl rfl hl.1 (Nat.le_of_ble_eq_true rfl) dX5_beginsWord_6 (fun r2 p_r2 => ?_)
  refine q_if_eq (tgt := 34) hx hb dX5_beginsWord_9 (by decide) rfl (fun b_9 k_9 => ?_) (fun b_9 k_9 => ?_)
  · have q_9 := bP.f p_r2 b_9
    refine lv_iconst (v := 0) hx hb dX5_beginsWord_34 (by decide) ?_
    exact hret 35 ls (0 : Int32) dX5_beginsWord_35 (Or.inl rfl) (by first | exact Or.inr ⟨rfl, trivial⟩ | exact Or.inl ⟨rfl, by omega⟩)
  · have q_9 := bP.t p_r2 b_9
    refine lv_iload_n hx hb dX5_beginsWord_12 rfl (lv_at hl 1 rfl) ?_
    refine q_if_eq (tgt := 30) hx hb dX5_beginsWord_13 (by decide) rfl (fun b_13 k_13 => ?_) (fun b_13 k_13 => ?_)
    · refine lv_iconst (v := 1) hx hb dX5_beginsWord_30 (by decide) ?_
      refine lv_goto (tgt := 35) hx hb dX5_beginsWord_31 (by decide) ?_
      have lr : (1 : Int32).toInt = 1 := by decide
      exact hret 35 ls (1 : Int32) dX5_beginsWord_35 (Or.inr rfl) (by first | exact Or.inr ⟨rfl, trivial⟩ | exact Or.inl ⟨rfl, by omega⟩)
    · refine lv_aload_n hx hb dX5_beginsWord_16 rfl (lv_at hl 0 rfl) ?_
      refine va_get (D := g.1) (ci := 5) (v := .ref (a_s 1)) (C := RX5) (T := TX5) (N := 3) hx hb hi_X5 (fun _ h => h) hown hK.1 hP 0 rfl rfl 0 (by decide) hf_9 (fun _ h9 => h9) rfl dX5_beginsWord_17 ?_
      refine lv_iload_n hx hb dX5_beginsWord_20 rfl (lv_at hl 1 rfl) ?_
      refine lv_iconst (v := 1) hx hb dX5_beginsWord_21 (by decide) ?_
      refine r_isub hx hb dX5_beginsWord_22 rfl (by decide : (1 : Int32).toInt = 1) (fun x3 e_x3 t_x3 => ?_)
      try have t_x3 := t_x3 (by omega)
      have n_23 : vp_in x3 300 := (t_in (by omega))
      refine va_iald hx hb hK.1 hP 1 0 rfl rfl n_23 dX5_beginsWord_23 ?_
      refine q_nm (fun x4 e_x4 => ?_)
      have e_x4 : x4 = (I_s 1) x3.toNatClampNeg := e_x4
      have g_x4 : x4.toInt = ((I_s 1) x3.toNatClampNeg).toInt := congrArg _ e_x4
      refine PurI.cn (C := RX10) (host := "RaisedPress") (As := [.int x4]) (kX10_isLetter l g x4) fx (gU (uT _) u_637) rfl hdX10_isLetter ⟨Nat.le_of_ble_eq_true rfl, Nat.le_of_ble_eq_true rfl⟩ hK hP [] rfl (nm_in_RX5_41) (uT _ _ u_636) (uT _ _ u_2) rfl rfl hl.1 (Nat.le_of_ble_eq_true rfl) dX5_beginsWord_24 (fun r5 p_r5 => ?_)
      refine q_if_ne (tgt := 34) hx hb dX5_beginsWord_27 (by decide) rfl (fun b_27 k_27 => ?_) (fun b_27 k_27 => ?_)
      · have q_27 := bP.t p_r5 b_27
        refine lv_iconst (v := 0) hx hb dX5_beginsWord_34 (by decide) ?_
        exact hret 35 ls (0 : Int32) dX5_beginsWord_35 (Or.inl rfl) (by first | exact Or.inr ⟨rfl, trivial⟩ | exact Or.inl ⟨rfl, by omega⟩)
      · have q_27 := bP.f p_r5 b_27
        refine lv_iconst (v := 1) hx hb dX5_beginsWord_30 (by decide) ?_
        refine lv_goto (tgt := 35) hx hb dX5_beginsWord_31 (by decide) ?_
        have lr : (1 : Int32).toInt = 1 := by decide
        exact hret 35 ls (1 : Int32) dX5_beginsWord_35 (Or.inr rfl) (by first | exact Or.inr ⟨rfl, trivial⟩ | exact Or.inl ⟨rfl, by omega⟩)

set_option maxHeartbeats 4000000 in
set_option maxRecDepth 100000 in
theorem kX5_greatLetters (l : Launch) (g : gG) (a_s : Nat → Nat) (I_s : Nat → Nat → Int32) (hSI : SI I_s) : PurI l g yX5_greatLetters wsX5_greatLetters 1 [.ref (a_s 0)] (wX5 g a_s I_s) (fun r => True) := by
  refine PurI.st (cc := cX5_greatLetters) (maxL := 3) (by decide) rfl (Nat.le_of_ble_eq_true rfl) (fun p e s m args below meth c Q ls fx hK hP hl hret => ?_)
  have hx := fx.1
  have hb := fx.2.1
  have hml := fx.2.2.1
  have hown := fx.2.2.2.1
  have hts := fx.2.2.2.2
  have hl : lv_has ls 3 [(0, .ref (a_s 0))] := hl
  have hP : va_P g.1 vwCl (wX5 g a_s I_s) s.heap := hP
  have hf_9 := hts _ (uT _ _ u_102)
  have hf_15 := hts _ (uT _ _ u_103)
  have hi_X5 : ∀ w ∈ wsX50, w.before args s = true := fun w h => hts w (uT _ w (u_wsX50 w h))
  have lm1 : (-1 : Int32).toInt = -1 := by decide
  have lm0 : (0 : Int32).toInt = 0 := by decide
  have lm2 : (1 : Int32).toInt = 1 := by decide
  have hs0 := hSI.1
  have hs1 := hSI.2
  refine lv_iconst (v := 0) hx hb dX5_greatLetters_0 (by decide) ?_
  refine lv_istore_n (lv' := [(1, .int (0 : Int32)), (0, .ref (a_s 0))]) hx hb dX5_greatLetters_1 rfl hl (by decide) rfl (fun ls hl => ?_)
  refine lv_iconst (v := 0) hx hb dX5_greatLetters_2 (by decide) ?_
  refine lv_istore_n (lv' := [(2, .int (0 : Int32)), (1, .int (0 : Int32)), (0, .ref (a_s 0))]) hx hb dX5_greatLetters_3 rfl hl (by decide) rfl (fun ls hl => ?_)
  have L4 : ∀ (nn : Nat) (v1_4 : Int32) (v2_4 : Int32), (hv_4 : 0 ≤ v2_4.toInt ∧ v2_4.toInt ≤ 300) → ((301 - v2_4.toInt) < (nn : Int)) → ∀ ls : Array Slot, lv_has ls 3 [(2, .int v2_4), (1, .int v1_4), (0, .ref (a_s 0))] → W p l e (rm 1) s m args below meth c s.heap [] 0 0 Q (F0 m 4 ls []) := by
    intro n_4
    induction n_4 with
    | zero =>
      intro v1_4 v2_4 hv_4 hms_4 ls hl
      exfalso; omega
    | succ n_4 ih_4 =>
      intro v1_4 v2_4 hv_4 hms_4 ls hl
      refine lv_iload_n hx hb dX5_greatLetters_4 rfl (lv_at hl 0 rfl) ?_
      refine lv_aload_n hx hb dX5_greatLetters_5 rfl (lv_at hl 2 rfl) ?_
      refine va_get (D := g.1) (ci := 5) (v := .int (I_s 0 1)) (C := RX5) (T := TX5) (N := 3) hx hb hi_X5 (fun _ h => h) hown hK.1 hP 0 rfl rfl 1 (by decide) hf_15 (fun _ h9 => h9) rfl dX5_greatLetters_6 ?_
      refine q_icmp_ge (tgt := 33) hx hb dX5_greatLetters_9 (by decide) rfl rfl (fun k_9 => ?_) (fun k_9 => ?_)
      · refine lv_iload_n hx hb dX5_greatLetters_33 rfl (lv_at hl 1 rfl) ?_
        exact hret 34 ls v1_4 dX5_greatLetters_34 trivial
      · refine lv_aload_n hx hb dX5_greatLetters_12 rfl (lv_at hl 2 rfl) ?_
        refine va_get (D := g.1) (ci := 5) (v := .ref (a_s 1)) (C := RX5) (T := TX5) (N := 3) hx hb hi_X5 (fun _ h => h) hown hK.1 hP 0 rfl rfl 0 (by decide) hf_9 (fun _ h9 => h9) rfl dX5_greatLetters_13 ?_
        refine lv_iload_n hx hb dX5_greatLetters_16 rfl (lv_at hl 0 rfl) ?_
        have n_17 : vp_in v2_4 300 := (t_in (by omega))
        refine va_iald hx hb hK.1 hP 1 0 rfl rfl n_17 dX5_greatLetters_17 ?_
        refine q_nm (fun x1 e_x1 => ?_)
        have e_x1 : x1 = (I_s 1) v2_4.toNatClampNeg := e_x1
        have g_x1 : x1.toInt = ((I_s 1) v2_4.toNatClampNeg).toInt := congrArg _ e_x1
        refine PurI.cn (C := RX10) (host := "RaisedPress") (As := [.int x1]) (kX10_isGreat l g x1) fx (gU (uT _) u_641) rfl hdX10_isGreat ⟨Nat.le_of_ble_eq_true rfl, Nat.le_of_ble_eq_true rfl⟩ hK hP [] rfl (nm_in_RX5_34) (uT _ _ u_640) (uT _ _ u_2) rfl rfl hl.1 (Nat.le_of_ble_eq_true rfl) dX5_greatLetters_18 (fun r2 p_r2 => ?_)
        refine q_if_eq (tgt := 27) hx hb dX5_greatLetters_21 (by decide) rfl (fun b_21 k_21 => ?_) (fun b_21 k_21 => ?_)
        · have q_21 := bP.f p_r2 b_21
          refine r_iinc (lv' := fun i3 => [(2, .int i3), (1, .int v1_4), (0, .ref (a_s 0))]) hx hb dX5_greatLetters_27 hl (k := 0) rfl (by decide) rfl (by decide) (fun _ => rfl) (fun i3 e_i3 t_i3 ls hl => ?_)
          try have t_i3 := t_i3 (by omega)
          refine lv_goto (tgt := 4) hx hb dX5_greatLetters_30 (by decide) ?_
          exact ih_4 v1_4 i3 (by omega) (by omega) ls hl
        · have q_21 := bP.t p_r2 b_21
          refine r_iinc (lv' := fun i4 => [(1, .int i4), (2, .int v2_4), (0, .ref (a_s 0))]) hx hb dX5_greatLetters_24 hl (k := 1) rfl (by decide) rfl (by decide) (fun _ => rfl) (fun i4 e_i4 t_i4 ls hl => ?_)
          try have t_i4 := t_i4 (by omega)
          refine r_iinc (lv' := fun i5 => [(2, .int i5), (1, .int i4), (0, .ref (a_s 0))]) hx hb dX5_greatLetters_27 hl (k := 1) rfl (by decide) rfl (by decide) (fun _ => rfl) (fun i5 e_i5 t_i5 ls hl => ?_)
          try have t_i5 := t_i5 (by omega)
          refine lv_goto (tgt := 4) hx hb dX5_greatLetters_30 (by decide) ?_
          exact ih_4 i4 i5 (by omega) (by omega) ls hl
  exact L4 ((301 - (0 : Int32).toInt) + 1).toNat (0 : Int32) (0 : Int32) (by omega) (by omega) ls hl

set_option maxHeartbeats 4000000 in
set_option maxRecDepth 100000 in
theorem kX5_figures (l : Launch) (g : gG) (a_s : Nat → Nat) (I_s : Nat → Nat → Int32) (hSI : SI I_s) : PurI l g yX5_figures wsX5_figures 2 [.ref (a_s 0)] (wX5 g a_s I_s) (fun r => True) := by
  refine PurI.st (cc := cX5_figures) (maxL := 3) (by decide) rfl (Nat.le_of_ble_eq_true rfl) (fun p e s m args below meth c Q ls fx hK hP hl hret => ?_)
  have hx := fx.1
  have hb := fx.2.1
  have hml := fx.2.2.1
  have hown := fx.2.2.2.1
  have hts := fx.2.2.2.2
  have hl : lv_has ls 3 [(0, .ref (a_s 0))] := hl
  have hP : va_P g.1 vwCl (wX5 g a_s I_s) s.heap := hP
  have hf_15 := hts _ (uT _ _ u_103)
  have hi_X5 : ∀ w ∈ wsX50, w.before args s = true := fun w h => hts w (uT _ w (u_wsX50 w h))
  have lm1 : (-1 : Int32).toInt = -1 := by decide
  have lm0 : (0 : Int32).toInt = 0 := by decide
  have lm2 : (1 : Int32).toInt = 1 := by decide
  have hs0 := hSI.1
  have hs1 := hSI.2
  refine lv_iconst (v := 0) hx hb dX5_figures_0 (by decide) ?_
  refine lv_istore_n (lv' := [(1, .int (0 : Int32)), (0, .ref (a_s 0))]) hx hb dX5_figures_1 rfl hl (by decide) rfl (fun ls hl => ?_)
  refine lv_iconst (v := 0) hx hb dX5_figures_2 (by decide) ?_
  refine lv_istore_n (lv' := [(2, .int (0 : Int32)), (1, .int (0 : Int32)), (0, .ref (a_s 0))]) hx hb dX5_figures_3 rfl hl (by decide) rfl (fun ls hl => ?_)
  have L4 : ∀ (nn : Nat) (v1_4 : Int32) (v2_4 : Int32), (hv_4 : 0 ≤ v2_4.toInt ∧ v2_4.toInt ≤ 300) → ((301 - v2_4.toInt) < (nn : Int)) → ∀ ls : Array Slot, lv_has ls 3 [(2, .int v2_4), (1, .int v1_4), (0, .ref (a_s 0))] → W p l e (rm 2) s m args below meth c s.heap [] 0 0 Q (F0 m 4 ls []) := by
    intro n_4
    induction n_4 with
    | zero =>
      intro v1_4 v2_4 hv_4 hms_4 ls hl
      exfalso; omega
    | succ n_4 ih_4 =>
      intro v1_4 v2_4 hv_4 hms_4 ls hl
      refine lv_iload_n hx hb dX5_figures_4 rfl (lv_at hl 0 rfl) ?_
      refine lv_aload_n hx hb dX5_figures_5 rfl (lv_at hl 2 rfl) ?_
      refine va_get (D := g.1) (ci := 5) (v := .int (I_s 0 1)) (C := RX5) (T := TX5) (N := 3) hx hb hi_X5 (fun _ h => h) hown hK.1 hP 0 rfl rfl 1 (by decide) hf_15 (fun _ h9 => h9) rfl dX5_figures_6 ?_
      refine q_icmp_ge (tgt := 29) hx hb dX5_figures_9 (by decide) rfl rfl (fun k_9 => ?_) (fun k_9 => ?_)
      · refine lv_iload_n hx hb dX5_figures_29 rfl (lv_at hl 1 rfl) ?_
        exact hret 30 ls v1_4 dX5_figures_30 trivial
      · refine lv_aload_n hx hb dX5_figures_12 rfl (lv_at hl 2 rfl) ?_
        refine lv_iload_n hx hb dX5_figures_13 rfl (lv_at hl 0 rfl) ?_
        refine PurI.cv (As := [.int v2_4]) (kX5_beginsFigure l g a_s I_s v2_4 (by omega)) fx (gUV (uT _) u_1217 u_1218 u_1219 u_35 u_1220) rfl hdX5_beginsFigure ⟨Nat.le_of_ble_eq_true rfl, Nat.le_of_ble_eq_true rfl⟩ hK hP [0, 1, 2] rfl rfl rfl rfl rfl hl.1 (Nat.le_of_ble_eq_true rfl) dX5_figures_14 (fun r1 p_r1 => ?_)
        refine q_if_eq (tgt := 23) hx hb dX5_figures_17 (by decide) rfl (fun b_17 k_17 => ?_) (fun b_17 k_17 => ?_)
        · have q_17 := bP.f p_r1 b_17
          refine r_iinc (lv' := fun i2 => [(2, .int i2), (1, .int v1_4), (0, .ref (a_s 0))]) hx hb dX5_figures_23 hl (k := 0) rfl (by decide) rfl (by decide) (fun _ => rfl) (fun i2 e_i2 t_i2 ls hl => ?_)
          try have t_i2 := t_i2 (by omega)
          refine lv_goto (tgt := 4) hx hb dX5_figures_26 (by decide) ?_
          exact ih_4 v1_4 i2 (by omega) (by omega) ls hl
        · have q_17 := bP.t p_r1 b_17
          refine r_iinc (lv' := fun i3 => [(1, .int i3), (2, .int v2_4), (0, .ref (a_s 0))]) hx hb dX5_figures_20 hl (k := 1) rfl (by decide) rfl (by decide) (fun _ => rfl) (fun i3 e_i3 t_i3 ls hl => ?_)
          try have t_i3 := t_i3 (by omega)
          refine r_iinc (lv' := fun i4 => [(2, .int i4), (1, .int i3), (0, .ref (a_s 0))]) hx hb dX5_figures_23 hl (k := 1) rfl (by decide) rfl (by decide) (fun _ => rfl) (fun i4 e_i4 t_i4 ls hl => ?_)
          try have t_i4 := t_i4 (by omega)
          refine lv_goto (tgt := 4) hx hb dX5_figures_26 (by decide) ?_
          exact ih_4 i3 i4 (by omega) (by omega) ls hl
  exact L4 ((301 - (0 : Int32).toInt) + 1).toNat (0 : Int32) (0 : Int32) (by omega) (by omega) ls hl

set_option maxHeartbeats 4000000 in
set_option maxRecDepth 100000 in
theorem kX5_mostOftenLetter (l : Launch) (g : gG) (a_s : Nat → Nat) (I_s : Nat → Nat → Int32) (hSI : SI I_s) : EffI l g yX5_mostOftenLetter wsX5_mostOftenLetter 2 [.ref (a_s 0)] (wX5 g a_s I_s) (fun (u : (Nat → Nat → Int32)) => wX5 g a_s u) (fun r (u : (Nat → Nat → Int32)) => SI (u) ∧ sameR I_s (u)) := by
  refine EffI.st (cc := cX5_mostOftenLetter) (maxL := 4) (by decide) rfl (Nat.le_of_ble_eq_true rfl) (fun p e s m args below meth c A Q ls fx hK hP hD hA hS hl hret => ?_)
  have hx := fx.1
  have hb := fx.2.1
  have hml := fx.2.2.1
  have hown := fx.2.2.2.1
  have hts := fx.2.2.2.2
  have hl : lv_has ls 4 [(0, .ref (a_s 0))] := hl
  have hP : va_P g.1 vwCl (wX5 g a_s I_s) s.heap := hP
  have hf_9 := hts _ (uT _ _ u_102)
  have hf_15 := hts _ (uT _ _ u_103)
  have hf_19 := hts _ (uT _ _ u_104)
  have hi_X5 : ∀ w ∈ wsX50, w.before args s = true := fun w h => hts w (uT _ w (u_wsX50 w h))
  have lm1 : (-1 : Int32).toInt = -1 := by decide
  have lm0 : (0 : Int32).toInt = 0 := by decide
  have lm2 : (1 : Int32).toInt = 1 := by decide
  have hs0 := hSI.1
  have hs1 := hSI.2
  refine lv_iconst (v := 1) hx hb dX5_mostOftenLetter_0 (by decide) ?_
  refine lv_istore_n (lv' := [(1, .int (1 : Int32)), (0, .ref (a_s 0))]) hx hb dX5_mostOftenLetter_1 rfl hl (by decide) rfl (fun ls hl => ?_)
  have L2 : ∀ (nn : Nat) (v1_2 : Int32) (I_s_2 : Nat → Nat → Int32), (hv_2 : 1 ≤ v1_2.toInt ∧ v1_2.toInt ≤ 27) → (hs_2 : sameR I_s I_s_2) → ((28 - v1_2.toInt) < (nn : Int)) → ∀ (H : Heap) (locs : List Loc), va_P g.1 vwCl (wX5 g a_s I_s_2) H → va_D A (wX5 g a_s I_s_2) → va_S A s.heap H locs → ∀ ls : Array Slot, lv_has ls 4 [(1, .int v1_2), (0, .ref (a_s 0))] → W p l e (rm 2) s m args below meth c H locs 0 0 Q (F0 m 2 ls []) := by
    intro n_2
    induction n_2 with
    | zero =>
      intro v1_2 I_s_2 hv_2 hs_2 hms_2 H locs hP hD hS ls hl
      exfalso; omega
    | succ n_2 ih_2 =>
      intro v1_2 I_s_2 hv_2 hs_2 hms_2 H locs hP hD hS ls hl
      refine lv_iload_n hx hb dX5_mostOftenLetter_2 rfl (lv_at hl 0 rfl) ?_
      refine lv_bipush (v := 26) hx hb dX5_mostOftenLetter_3 (by decide) ?_
      refine q_icmp_gt (tgt := 21) hx hb dX5_mostOftenLetter_5 (by decide) rfl (by decide : (26 : Int32).toInt = 26) (fun k_5 => ?_) (fun k_5 => ?_)
      · refine lv_iconst (v := 0) hx hb dX5_mostOftenLetter_21 (by decide) ?_
        refine lv_istore_n (lv' := [(1, .int (0 : Int32)), (0, .ref (a_s 0))]) hx hb dX5_mostOftenLetter_22 rfl hl (by decide) rfl (fun ls hl => ?_)
        have L23 : ∀ (nn : Nat) (v1_23 : Int32) (I_s_23 : Nat → Nat → Int32), (hv_23 : 0 ≤ v1_23.toInt ∧ v1_23.toInt ≤ 300) → (hs_23 : sameR I_s I_s_23) → ((301 - v1_23.toInt) < (nn : Int)) → ∀ (H : Heap) (locs : List Loc), va_P g.1 vwCl (wX5 g a_s I_s_23) H → va_D A (wX5 g a_s I_s_23) → va_S A s.heap H locs → ∀ ls : Array Slot, lv_has ls 4 [(1, .int v1_23), (0, .ref (a_s 0))] → W p l e (rm 2) s m args below meth c H locs 0 0 Q (F0 m 23 ls []) := by
          intro n_23
          induction n_23 with
          | zero =>
            intro v1_23 I_s_23 hv_23 hs_23 hms_23 H locs hP hD hS ls hl
            exfalso; omega
          | succ n_23 ih_23 =>
            intro v1_23 I_s_23 hv_23 hs_23 hms_23 H locs hP hD hS ls hl
            have hq23 : (I_s_23 0 1).toInt = (I_s 0 1).toInt := by rw [hs_23.1]
            refine lv_iload_n hx hb dX5_mostOftenLetter_23 rfl (lv_at hl 0 rfl) ?_
            refine lv_aload_n hx hb dX5_mostOftenLetter_24 rfl (lv_at hl 1 rfl) ?_
            refine va_get (D := g.1) (ci := 5) (v := .int (I_s_23 0 1)) (C := RX5) (T := TX5) (N := 3) hx hb hi_X5 (fun _ h => h) hown hK.1 hP 0 rfl rfl 1 (by decide) hf_15 (fun _ h9 => h9) rfl dX5_mostOftenLetter_25 ?_
            refine q_icmp_ge (tgt := 67) hx hb dX5_mostOftenLetter_28 (by decide) rfl rfl (fun k_28 => ?_) (fun k_28 => ?_)
            · refine lv_iconst (v := 0) hx hb dX5_mostOftenLetter_67 (by decide) ?_
              refine lv_istore_n (lv' := [(1, .int (0 : Int32)), (0, .ref (a_s 0))]) hx hb dX5_mostOftenLetter_68 rfl hl (by decide) rfl (fun ls hl => ?_)
              refine lv_iconst (v := 0) hx hb dX5_mostOftenLetter_69 (by decide) ?_
              refine lv_istore_n (lv' := [(2, .int (0 : Int32)), (1, .int (0 : Int32)), (0, .ref (a_s 0))]) hx hb dX5_mostOftenLetter_70 rfl hl (by decide) rfl (fun ls hl => ?_)
              refine lv_iconst (v := 1) hx hb dX5_mostOftenLetter_71 (by decide) ?_
              refine lv_istore_n (lv' := [(3, .int (1 : Int32)), (2, .int (0 : Int32)), (1, .int (0 : Int32)), (0, .ref (a_s 0))]) hx hb dX5_mostOftenLetter_72 rfl hl (by decide) rfl (fun ls hl => ?_)
              have L73 : ∀ (nn : Nat) (v1_73 : Int32) (v2_73 : Int32) (v3_73 : Int32) (I_s_73 : Nat → Nat → Int32), (hv_73 : 1 ≤ v3_73.toInt ∧ v3_73.toInt ≤ 27) → (hs_73 : sameR I_s I_s_73) → ((28 - v3_73.toInt) < (nn : Int)) → ∀ (H : Heap) (locs : List Loc), va_P g.1 vwCl (wX5 g a_s I_s_73) H → va_D A (wX5 g a_s I_s_73) → va_S A s.heap H locs → ∀ ls : Array Slot, lv_has ls 4 [(3, .int v3_73), (2, .int v2_73), (1, .int v1_73), (0, .ref (a_s 0))] → W p l e (rm 2) s m args below meth c H locs 0 0 Q (F0 m 73 ls []) := by
                intro n_73
                induction n_73 with
                | zero =>
                  intro v1_73 v2_73 v3_73 I_s_73 hv_73 hs_73 hms_73 H locs hP hD hS ls hl
                  exfalso; omega
                | succ n_73 ih_73 =>
                  intro v1_73 v2_73 v3_73 I_s_73 hv_73 hs_73 hms_73 H locs hP hD hS ls hl
                  refine lv_iload_n hx hb dX5_mostOftenLetter_73 rfl (lv_at hl 0 rfl) ?_
                  refine lv_bipush (v := 26) hx hb dX5_mostOftenLetter_74 (by decide) ?_
                  refine q_icmp_gt (tgt := 104) hx hb dX5_mostOftenLetter_76 (by decide) rfl (by decide : (26 : Int32).toInt = 26) (fun k_76 => ?_) (fun k_76 => ?_)
                  · refine lv_iload_n hx hb dX5_mostOftenLetter_104 rfl (lv_at hl 2 rfl) ?_
                    refine hret 105 ls v1_73 _ _ I_s_73 dX5_mostOftenLetter_105 hS hP hD ?_
                    exact ⟨hSI.of hs_73, hs_73⟩
                  · refine lv_aload_n hx hb dX5_mostOftenLetter_79 rfl (lv_at hl 3 rfl) ?_
                    refine va_get (D := g.1) (ci := 5) (v := .ref (a_s 2)) (C := RX5) (T := TX5) (N := 3) hx hb hi_X5 (fun _ h => h) hown hK.1 hP 0 rfl rfl 2 (by decide) hf_19 (fun _ h9 => h9) rfl dX5_mostOftenLetter_80 ?_
                    refine lv_iload_n hx hb dX5_mostOftenLetter_83 rfl (lv_at hl 0 rfl) ?_
                    have n_84 : vp_in v3_73 301 := (t_in (by omega))
                    refine va_iald hx hb hK.1 hP 2 0 rfl rfl n_84 dX5_mostOftenLetter_84 ?_
                    refine q_nm (fun x1 e_x1 => ?_)
                    have e_x1 : x1 = (I_s_73 2) v3_73.toNatClampNeg := e_x1
                    have g_x1 : x1.toInt = ((I_s_73 2) v3_73.toNatClampNeg).toInt := congrArg _ e_x1
                    refine lv_iload_n hx hb dX5_mostOftenLetter_85 rfl (lv_at hl 1 rfl) ?_
                    refine q_icmp_le (tgt := 98) hx hb dX5_mostOftenLetter_86 (by decide) rfl rfl (fun k_86 => ?_) (fun k_86 => ?_)
                    · refine r_iinc (lv' := fun i2 => [(3, .int i2), (2, .int v2_73), (1, .int v1_73), (0, .ref (a_s 0))]) hx hb dX5_mostOftenLetter_98 hl (k := 0) rfl (by decide) rfl (by decide) (fun _ => rfl) (fun i2 e_i2 t_i2 ls hl => ?_)
                      try have t_i2 := t_i2 (by omega)
                      refine lv_goto (tgt := 73) hx hb dX5_mostOftenLetter_101 (by decide) ?_
                      exact ih_73 v1_73 v2_73 i2 I_s_73 (by omega) hs_73 (by omega) _ _ hP hD hS ls hl
                    · refine lv_iload_n hx hb dX5_mostOftenLetter_89 rfl (lv_at hl 0 rfl) ?_
                      refine lv_istore_n (lv' := [(1, .int v3_73), (3, .int v3_73), (2, .int v2_73), (0, .ref (a_s 0))]) hx hb dX5_mostOftenLetter_90 rfl hl (by decide) rfl (fun ls hl => ?_)
                      refine lv_aload_n hx hb dX5_mostOftenLetter_91 rfl (lv_at hl 3 rfl) ?_
                      refine va_get (D := g.1) (ci := 5) (v := .ref (a_s 2)) (C := RX5) (T := TX5) (N := 3) hx hb hi_X5 (fun _ h => h) hown hK.1 hP 0 rfl rfl 2 (by decide) hf_19 (fun _ h9 => h9) rfl dX5_mostOftenLetter_92 ?_
                      refine lv_iload_n hx hb dX5_mostOftenLetter_95 rfl (lv_at hl 1 rfl) ?_
                      have n_96 : vp_in v3_73 301 := (t_in (by omega))
                      refine va_iald hx hb hK.1 hP 2 0 rfl rfl n_96 dX5_mostOftenLetter_96 ?_
                      refine q_nm (fun x3 e_x3 => ?_)
                      have e_x3 : x3 = (I_s_73 2) v3_73.toNatClampNeg := e_x3
                      have g_x3 : x3.toInt = ((I_s_73 2) v3_73.toNatClampNeg).toInt := congrArg _ e_x3
                      refine lv_istore_n (lv' := [(2, .int x3), (1, .int v3_73), (3, .int v3_73), (0, .ref (a_s 0))]) hx hb dX5_mostOftenLetter_97 rfl hl (by decide) rfl (fun ls hl => ?_)
                      refine r_iinc (lv' := fun i4 => [(3, .int i4), (2, .int x3), (1, .int v3_73), (0, .ref (a_s 0))]) hx hb dX5_mostOftenLetter_98 hl (k := 2) rfl (by decide) rfl (by decide) (fun _ => rfl) (fun i4 e_i4 t_i4 ls hl => ?_)
                      try have t_i4 := t_i4 (by omega)
                      refine lv_goto (tgt := 73) hx hb dX5_mostOftenLetter_101 (by decide) ?_
                      exact ih_73 v3_73 x3 i4 I_s_73 (by omega) hs_73 (by omega) _ _ hP hD hS ls hl
              exact L73 ((28 - (1 : Int32).toInt) + 1).toNat (0 : Int32) (0 : Int32) (1 : Int32) I_s_23 (by omega) hs_23 (by omega) _ _ hP hD hS ls hl
            · refine lv_aload_n hx hb dX5_mostOftenLetter_31 rfl (lv_at hl 1 rfl) ?_
              refine va_get (D := g.1) (ci := 5) (v := .ref (a_s 1)) (C := RX5) (T := TX5) (N := 3) hx hb hi_X5 (fun _ h => h) hown hK.1 hP 0 rfl rfl 0 (by decide) hf_9 (fun _ h9 => h9) rfl dX5_mostOftenLetter_32 ?_
              refine lv_iload_n hx hb dX5_mostOftenLetter_35 rfl (lv_at hl 0 rfl) ?_
              have n_36 : vp_in v1_23 300 := (t_in (by omega))
              refine va_iald hx hb hK.1 hP 1 0 rfl rfl n_36 dX5_mostOftenLetter_36 ?_
              refine q_nm (fun x5 e_x5 => ?_)
              have e_x5 : x5 = (I_s_23 1) v1_23.toNatClampNeg := e_x5
              have g_x5 : x5.toInt = ((I_s_23 1) v1_23.toNatClampNeg).toInt := congrArg _ e_x5
              refine PurI.cn (C := RX10) (host := "RaisedPress") (As := [.int x5]) (kX10_isLetter l g x5) fx (gU (uT _) u_637) rfl hdX10_isLetter ⟨Nat.le_of_ble_eq_true rfl, Nat.le_of_ble_eq_true rfl⟩ hK hP [] rfl (nm_in_RX5_41) (uT _ _ u_636) (uT _ _ u_2) rfl rfl hl.1 (Nat.le_of_ble_eq_true rfl) dX5_mostOftenLetter_37 (fun r6 p_r6 => ?_)
              refine q_if_eq (tgt := 61) hx hb dX5_mostOftenLetter_40 (by decide) rfl (fun b_40 k_40 => ?_) (fun b_40 k_40 => ?_)
              · have q_40 := bP.f p_r6 b_40
                refine r_iinc (lv' := fun i7 => [(1, .int i7), (0, .ref (a_s 0))]) hx hb dX5_mostOftenLetter_61 hl (k := 0) rfl (by decide) rfl (by decide) (fun _ => rfl) (fun i7 e_i7 t_i7 ls hl => ?_)
                try have t_i7 := t_i7 (by omega)
                refine lv_goto (tgt := 23) hx hb dX5_mostOftenLetter_64 (by decide) ?_
                exact ih_23 i7 I_s_23 (by omega) (hs_23.tr ⟨rfl, rfl⟩) (by omega) _ _ hP hD hS ls hl
              · have q_40 := bP.t p_r6 b_40
                refine lv_aload_n hx hb dX5_mostOftenLetter_43 rfl (lv_at hl 1 rfl) ?_
                refine va_get (D := g.1) (ci := 5) (v := .ref (a_s 2)) (C := RX5) (T := TX5) (N := 3) hx hb hi_X5 (fun _ h => h) hown hK.1 hP 0 rfl rfl 2 (by decide) hf_19 (fun _ h9 => h9) rfl dX5_mostOftenLetter_44 ?_
                refine lv_aload_n hx hb dX5_mostOftenLetter_47 rfl (lv_at hl 1 rfl) ?_
                refine va_get (D := g.1) (ci := 5) (v := .ref (a_s 1)) (C := RX5) (T := TX5) (N := 3) hx hb hi_X5 (fun _ h => h) hown hK.1 hP 0 rfl rfl 0 (by decide) hf_9 (fun _ h9 => h9) rfl dX5_mostOftenLetter_48 ?_
                refine lv_iload_n hx hb dX5_mostOftenLetter_51 rfl (lv_at hl 0 rfl) ?_
                have n_52 : vp_in v1_23 300 := (t_in (by omega))
                refine va_iald hx hb hK.1 hP 1 0 rfl rfl n_52 dX5_mostOftenLetter_52 ?_
                refine q_nm (fun x8 e_x8 => ?_)
                have e_x8 : x8 = (I_s_23 1) v1_23.toNatClampNeg := e_x8
                have g_x8 : x8.toInt = ((I_s_23 1) v1_23.toNatClampNeg).toInt := congrArg _ e_x8
                refine PurI.cn (C := RX10) (host := "RaisedPress") (As := [.int x8]) (kX10_letterOf l g x8) fx (gU (uT _) u_454) rfl hdX10_letterOf ⟨Nat.le_of_ble_eq_true rfl, Nat.le_of_ble_eq_true rfl⟩ hK hP [] rfl (nm_in_RX5_47) (uT _ _ u_453) (uT _ _ u_2) rfl rfl hl.1 (Nat.le_of_ble_eq_true rfl) dX5_mostOftenLetter_53 (fun r9 p_r9 => ?_)
                refine lv_dup2_11 hx hb dX5_mostOftenLetter_56 rfl rfl ?_
                have n_57 : vp_in r9 301 := (t_in (by omega))
                refine va_iald hx hb hK.1 hP 2 0 rfl rfl n_57 dX5_mostOftenLetter_57 ?_
                refine q_nm (fun x10 e_x10 => ?_)
                have e_x10 : x10 = (I_s_23 2) r9.toNatClampNeg := e_x10
                have g_x10 : x10.toInt = ((I_s_23 2) r9.toNatClampNeg).toInt := congrArg _ e_x10
                refine lv_iconst (v := 1) hx hb dX5_mostOftenLetter_58 (by decide) ?_
                refine r_iadd hx hb dX5_mostOftenLetter_59 rfl (by decide : (1 : Int32).toInt = 1) (fun x11 e_x11 t_x11 => ?_)
                try have t_x11 := t_x11 (by omega)
                have n_60 : vp_in r9 301 := (t_in (by omega))
                obtain ⟨f12, e_f12⟩ : ∃ z, z = upd (I_s_23 2) r9.toNatClampNeg x11 := ⟨_, rfl⟩
                refine va_iast hx hb hK.1 hP hD hS 2 0 rfl rfl n_60 dX5_mostOftenLetter_60 (fun H locs hP hD hS => ?_)
                have hP : va_P g.1 vwCl (wX5 g a_s (uR I_s_23 2 f12)) H := by rw [e_f12]; exact hP
                have hD : va_D A (wX5 g a_s (uR I_s_23 2 f12)) := by rw [e_f12]; exact hD
                refine r_iinc (lv' := fun i13 => [(1, .int i13), (0, .ref (a_s 0))]) hx hb dX5_mostOftenLetter_61 hl (k := 0) rfl (by decide) rfl (by decide) (fun _ => rfl) (fun i13 e_i13 t_i13 ls hl => ?_)
                try have t_i13 := t_i13 (by omega)
                refine lv_goto (tgt := 23) hx hb dX5_mostOftenLetter_64 (by decide) ?_
                exact ih_23 i13 (uR I_s_23 2 f12) (by omega) (hs_23.tr ⟨rfl, rfl⟩) (by omega) _ _ hP hD hS ls hl
        exact L23 ((301 - (0 : Int32).toInt) + 1).toNat (0 : Int32) I_s_2 (by omega) hs_2 (by omega) _ _ hP hD hS ls hl
      · refine lv_aload_n hx hb dX5_mostOftenLetter_8 rfl (lv_at hl 1 rfl) ?_
        refine va_get (D := g.1) (ci := 5) (v := .ref (a_s 2)) (C := RX5) (T := TX5) (N := 3) hx hb hi_X5 (fun _ h => h) hown hK.1 hP 0 rfl rfl 2 (by decide) hf_19 (fun _ h9 => h9) rfl dX5_mostOftenLetter_9 ?_
        refine lv_iload_n hx hb dX5_mostOftenLetter_12 rfl (lv_at hl 0 rfl) ?_
        refine lv_iconst (v := 0) hx hb dX5_mostOftenLetter_13 (by decide) ?_
        have n_14 : vp_in v1_2 301 := (t_in (by omega))
        obtain ⟨f14, e_f14⟩ : ∃ z, z = upd (I_s_2 2) v1_2.toNatClampNeg (0 : Int32) := ⟨_, rfl⟩
        refine va_iast hx hb hK.1 hP hD hS 2 0 rfl rfl n_14 dX5_mostOftenLetter_14 (fun H locs hP hD hS => ?_)
        have hP : va_P g.1 vwCl (wX5 g a_s (uR I_s_2 2 f14)) H := by rw [e_f14]; exact hP
        have hD : va_D A (wX5 g a_s (uR I_s_2 2 f14)) := by rw [e_f14]; exact hD
        refine r_iinc (lv' := fun i15 => [(1, .int i15), (0, .ref (a_s 0))]) hx hb dX5_mostOftenLetter_15 hl (k := 0) rfl (by decide) rfl (by decide) (fun _ => rfl) (fun i15 e_i15 t_i15 ls hl => ?_)
        try have t_i15 := t_i15 (by omega)
        refine lv_goto (tgt := 2) hx hb dX5_mostOftenLetter_18 (by decide) ?_
        exact ih_2 i15 (uR I_s_2 2 f14) (by omega) (hs_2.tr ⟨rfl, rfl⟩) (by omega) _ _ hP hD hS ls hl
  exact L2 ((28 - (1 : Int32).toInt) + 1).toNat (1 : Int32) I_s (by omega) (sameR.rf _) (by omega) _ _ hP hD hS ls hl

set_option maxHeartbeats 4000000 in
set_option maxRecDepth 100000 in
theorem kX5_placesOf (l : Launch) (g : gG) (a_s : Nat → Nat) (I_s : Nat → Nat → Int32) (a_t : Nat → Nat) (I_t : Nat → Nat → Int32) (rule : Int32) (h_rule : 0 ≤ rule.toInt ∧ rule.toInt < 24) (hT : TI I_t) (hSI : SI I_s) : PurI l g yX5_placesOf wsX5_placesOf 3 [.ref (a_s 0), .int rule, .ref (a_t 0)] (wX5 g a_s I_s ++ wX7 g a_t I_t) (fun r => True) := by
  refine PurI.st (cc := cX5_placesOf) (maxL := 7) (by decide) rfl (Nat.le_of_ble_eq_true rfl) (fun p e s m args below meth c Q ls fx hK hP hl hret => ?_)
  have hx := fx.1
  have hb := fx.2.1
  have hml := fx.2.2.1
  have hown := fx.2.2.2.1
  have hts := fx.2.2.2.2
  have hl : lv_has ls 7 [(0, .ref (a_s 0)), (1, .int rule), (2, .ref (a_t 0))] := hl
  have hP : va_P g.1 vwCl (wX5 g a_s I_s ++ wX7 g a_t I_t) s.heap := hP
  have hf_9 := hts _ (uT _ _ u_102)
  have hf_15 := hts _ (uT _ _ u_103)
  have hi_X5 : ∀ w ∈ wsX50, w.before args s = true := fun w h => hts w (uT _ w (u_wsX50 w h))
  have lm1 : (-1 : Int32).toInt = -1 := by decide
  have lm0 : (0 : Int32).toInt = 0 := by decide
  have lm2 : (1 : Int32).toInt = 1 := by decide
  have hs0 := hSI.1
  have hs1 := hSI.2
  refine lv_iconst (v := 0) hx hb dX5_placesOf_0 (by decide) ?_
  refine lv_istore_n (lv' := [(3, .int (0 : Int32)), (0, .ref (a_s 0)), (1, .int rule), (2, .ref (a_t 0))]) hx hb dX5_placesOf_1 rfl hl (by decide) rfl (fun ls hl => ?_)
  refine lv_iconst (v := 0) hx hb dX5_placesOf_2 (by decide) ?_
  refine lv_istore (lv' := [(4, .int (0 : Int32)), (3, .int (0 : Int32)), (0, .ref (a_s 0)), (1, .int rule), (2, .ref (a_t 0))]) hx hb dX5_placesOf_3 hl (by decide) rfl (fun ls hl => ?_)
  refine lv_iconst (v := 0) hx hb dX5_placesOf_5 (by decide) ?_
  refine lv_istore (lv' := [(5, .int (0 : Int32)), (4, .int (0 : Int32)), (3, .int (0 : Int32)), (0, .ref (a_s 0)), (1, .int rule), (2, .ref (a_t 0))]) hx hb dX5_placesOf_6 hl (by decide) rfl (fun ls hl => ?_)
  refine lv_iconst (v := 0) hx hb dX5_placesOf_8 (by decide) ?_
  refine lv_istore (lv' := [(6, .int (0 : Int32)), (5, .int (0 : Int32)), (4, .int (0 : Int32)), (3, .int (0 : Int32)), (0, .ref (a_s 0)), (1, .int rule), (2, .ref (a_t 0))]) hx hb dX5_placesOf_9 hl (by decide) rfl (fun ls hl => ?_)
  have L11 : ∀ (nn : Nat) (v3_11 : Int32) (v4_11 : Int32) (v5_11 : Int32) (v6_11 : Int32), (hv_11 : 0 ≤ v6_11.toInt ∧ v6_11.toInt ≤ 300) → (hw_11 : 0 ≤ v5_11.toInt ∧ v5_11.toInt ≤ 300) → ((301 - v6_11.toInt) < (nn : Int)) → ∀ ls : Array Slot, lv_has ls 7 [(6, .int v6_11), (5, .int v5_11), (4, .int v4_11), (3, .int v3_11), (0, .ref (a_s 0)), (1, .int rule), (2, .ref (a_t 0))] → W p l e (rm 3) s m args below meth c s.heap [] 0 0 Q (F0 m 11 ls []) := by
    intro n_11
    induction n_11 with
    | zero =>
      intro v3_11 v4_11 v5_11 v6_11 hv_11 hw_11 hms_11 ls hl
      exfalso; omega
    | succ n_11 ih_11 =>
      intro v3_11 v4_11 v5_11 v6_11 hv_11 hw_11 hms_11 ls hl
      refine lv_iload hx hb dX5_placesOf_11 (lv_at hl 0 rfl) ?_
      refine lv_aload_n hx hb dX5_placesOf_13 rfl (lv_at hl 4 rfl) ?_
      refine va_get (D := g.1) (ci := 5) (v := .int (I_s 0 1)) (C := RX5) (T := TX5) (N := 3) hx hb hi_X5 (fun _ h => h) hown hK.1 hP 0 rfl rfl 1 (by decide) hf_15 (fun _ h9 => h9) rfl dX5_placesOf_14 ?_
      refine q_icmp_ge (tgt := 82) hx hb dX5_placesOf_17 (by decide) rfl rfl (fun k_17 => ?_) (fun k_17 => ?_)
      · refine lv_iload_n hx hb dX5_placesOf_82 rfl (lv_at hl 3 rfl) ?_
        exact hret 83 ls v3_11 dX5_placesOf_83 trivial
      · refine lv_aload_n hx hb dX5_placesOf_20 rfl (lv_at hl 4 rfl) ?_
        refine lv_iload hx hb dX5_placesOf_21 (lv_at hl 0 rfl) ?_
        refine PurI.cv (As := [.int v6_11]) (kX5_beginsWord l g a_s I_s v6_11 (by omega)) fx (gUV (uT _) u_1052 u_1053 u_1054 u_35 u_1055) rfl hdX5_beginsWord ⟨Nat.le_of_ble_eq_true rfl, Nat.le_of_ble_eq_true rfl⟩ hK hP [0, 1, 2] rfl rfl rfl rfl rfl hl.1 (Nat.le_of_ble_eq_true rfl) dX5_placesOf_23 (fun r1 p_r1 => ?_)
        refine q_if_eq (tgt := 48) hx hb dX5_placesOf_26 (by decide) rfl (fun b_26 k_26 => ?_) (fun b_26 k_26 => ?_)
        · have q_26 := bP.f p_r1 b_26
          refine lv_iload hx hb dX5_placesOf_48 (lv_at hl 0 rfl) ?_
          refine lv_iload hx hb dX5_placesOf_50 (lv_at hl 1 rfl) ?_
          refine q_icmp_ge (tgt := 76) hx hb dX5_placesOf_52 (by decide) rfl rfl (fun k_52 => ?_) (fun k_52 => ?_)
          · refine r_iinc (lv' := fun i2 => [(6, .int i2), (5, .int v5_11), (4, .int v4_11), (3, .int v3_11), (0, .ref (a_s 0)), (1, .int rule), (2, .ref (a_t 0))]) hx hb dX5_placesOf_76 hl (k := 0) rfl (by decide) rfl (by decide) (fun _ => rfl) (fun i2 e_i2 t_i2 ls hl => ?_)
            try have t_i2 := t_i2 (by omega)
            refine lv_goto (tgt := 11) hx hb dX5_placesOf_79 (by decide) ?_
            exact ih_11 v3_11 v4_11 v5_11 i2 (by omega) (by omega) (by omega) ls hl
          · refine lv_aload_n hx hb dX5_placesOf_55 rfl (lv_at hl 6 rfl) ?_
            refine lv_iload_n hx hb dX5_placesOf_56 rfl (lv_at hl 5 rfl) ?_
            refine lv_aload_n hx hb dX5_placesOf_57 rfl (lv_at hl 4 rfl) ?_
            refine va_get (D := g.1) (ci := 5) (v := .ref (a_s 1)) (C := RX5) (T := TX5) (N := 3) hx hb hi_X5 (fun _ h => h) hown hK.1 hP 0 rfl rfl 0 (by decide) hf_9 (fun _ h9 => h9) rfl dX5_placesOf_58 ?_
            refine lv_iload hx hb dX5_placesOf_61 (lv_at hl 2 rfl) ?_
            refine lv_iload hx hb dX5_placesOf_63 (lv_at hl 1 rfl) ?_
            refine lv_iload hx hb dX5_placesOf_65 (lv_at hl 0 rfl) ?_
            refine PurI.cv (As := [.int rule, .ref (a_s 1), .int v4_11, .int v5_11, .int v6_11]) (kX7_mayStand l g a_t I_t (fun k => a_s (k + 1)) 300 (fun k => I_s (k + 1)) rule v4_11 v5_11 v6_11 (by omega) hT (by omega)) fx (gUV (uT _) u_1063 u_655 u_656 u_31 u_657) rfl hdX7_mayStand ⟨Nat.le_of_ble_eq_true rfl, Nat.le_of_ble_eq_true rfl⟩ hK hP [3, 4, 5, 6, 7, 8, 9, 1] rfl rfl rfl rfl rfl hl.1 (Nat.le_of_ble_eq_true rfl) dX5_placesOf_67 (fun r3 p_r3 => ?_)
            refine q_if_eq (tgt := 76) hx hb dX5_placesOf_70 (by decide) rfl (fun b_70 k_70 => ?_) (fun b_70 k_70 => ?_)
            · have q_70 := bP.f p_r3 b_70
              refine r_iinc (lv' := fun i4 => [(6, .int i4), (5, .int v5_11), (4, .int v4_11), (3, .int v3_11), (0, .ref (a_s 0)), (1, .int rule), (2, .ref (a_t 0))]) hx hb dX5_placesOf_76 hl (k := 0) rfl (by decide) rfl (by decide) (fun _ => rfl) (fun i4 e_i4 t_i4 ls hl => ?_)
              try have t_i4 := t_i4 (by omega)
              refine lv_goto (tgt := 11) hx hb dX5_placesOf_79 (by decide) ?_
              exact ih_11 v3_11 v4_11 v5_11 i4 (by omega) (by omega) (by omega) ls hl
            · have q_70 := bP.t p_r3 b_70
              refine r_iinc (lv' := fun i5 => [(3, .int i5), (6, .int v6_11), (5, .int v5_11), (4, .int v4_11), (0, .ref (a_s 0)), (1, .int rule), (2, .ref (a_t 0))]) hx hb dX5_placesOf_73 hl (k := 3) rfl (by decide) rfl (by decide) (fun _ => rfl) (fun i5 e_i5 t_i5 ls hl => ?_)
              try have t_i5 := t_i5 (by omega)
              refine r_iinc (lv' := fun i6 => [(6, .int i6), (3, .int i5), (5, .int v5_11), (4, .int v4_11), (0, .ref (a_s 0)), (1, .int rule), (2, .ref (a_t 0))]) hx hb dX5_placesOf_76 hl (k := 1) rfl (by decide) rfl (by decide) (fun _ => rfl) (fun i6 e_i6 t_i6 ls hl => ?_)
              try have t_i6 := t_i6 (by omega)
              refine lv_goto (tgt := 11) hx hb dX5_placesOf_79 (by decide) ?_
              exact ih_11 i5 v4_11 v5_11 i6 (by omega) (by omega) (by omega) ls (lv_sub hl [0, 2, 3, 1, 4, 5, 6] rfl)
        · have q_26 := bP.t p_r1 b_26
          refine lv_iload hx hb dX5_placesOf_29 (lv_at hl 0 rfl) ?_
          refine lv_istore (lv' := [(4, .int v6_11), (6, .int v6_11), (5, .int v5_11), (3, .int v3_11), (0, .ref (a_s 0)), (1, .int rule), (2, .ref (a_t 0))]) hx hb dX5_placesOf_31 hl (by decide) rfl (fun ls hl => ?_)
          refine lv_aload_n hx hb dX5_placesOf_33 rfl (lv_at hl 4 rfl) ?_
          refine va_get (D := g.1) (ci := 5) (v := .ref (a_s 1)) (C := RX5) (T := TX5) (N := 3) hx hb hi_X5 (fun _ h => h) hown hK.1 hP 0 rfl rfl 0 (by decide) hf_9 (fun _ h9 => h9) rfl dX5_placesOf_34 ?_
          refine lv_aload_n hx hb dX5_placesOf_37 rfl (lv_at hl 4 rfl) ?_
          refine va_get (D := g.1) (ci := 5) (v := .int (I_s 0 1)) (C := RX5) (T := TX5) (N := 3) hx hb hi_X5 (fun _ h => h) hown hK.1 hP 0 rfl rfl 1 (by decide) hf_15 (fun _ h9 => h9) rfl dX5_placesOf_38 ?_
          refine lv_iload hx hb dX5_placesOf_41 (lv_at hl 1 rfl) ?_
          refine PurI.cn (C := RX10) (host := "RaisedPress") (As := [.ref (a_s 1), .int (I_s 0 1), .int v6_11]) (kX10_wordEnd l g (fun k => a_s (k + 1)) 300 (fun k => I_s (k + 1)) (I_s 0 1) v6_11 (by omega)) fx (gU (uT _) u_648) rfl hdX10_wordEnd ⟨Nat.le_of_ble_eq_true rfl, Nat.le_of_ble_eq_true rfl⟩ hK hP [1] rfl (nm_in_RX5_54) (uT _ _ u_647) (uT _ _ u_2) rfl rfl hl.1 (Nat.le_of_ble_eq_true rfl) dX5_placesOf_43 (fun r7 p_r7 => ?_)
          refine lv_istore (lv' := [(5, .int r7), (4, .int v6_11), (6, .int v6_11), (3, .int v3_11), (0, .ref (a_s 0)), (1, .int rule), (2, .ref (a_t 0))]) hx hb dX5_placesOf_46 hl (by decide) rfl (fun ls hl => ?_)
          refine lv_iload hx hb dX5_placesOf_48 (lv_at hl 2 rfl) ?_
          refine lv_iload hx hb dX5_placesOf_50 (lv_at hl 0 rfl) ?_
          refine q_icmp_ge (tgt := 76) hx hb dX5_placesOf_52 (by decide) rfl rfl (fun k_52 => ?_) (fun k_52 => ?_)
          · refine r_iinc (lv' := fun i8 => [(6, .int i8), (5, .int r7), (4, .int v6_11), (3, .int v3_11), (0, .ref (a_s 0)), (1, .int rule), (2, .ref (a_t 0))]) hx hb dX5_placesOf_76 hl (k := 2) rfl (by decide) rfl (by decide) (fun _ => rfl) (fun i8 e_i8 t_i8 ls hl => ?_)
            try have t_i8 := t_i8 (by omega)
            refine lv_goto (tgt := 11) hx hb dX5_placesOf_79 (by decide) ?_
            exact ih_11 v3_11 v6_11 r7 i8 (by omega) (by omega) (by omega) ls hl
          · refine lv_aload_n hx hb dX5_placesOf_55 rfl (lv_at hl 6 rfl) ?_
            refine lv_iload_n hx hb dX5_placesOf_56 rfl (lv_at hl 5 rfl) ?_
            refine lv_aload_n hx hb dX5_placesOf_57 rfl (lv_at hl 4 rfl) ?_
            refine va_get (D := g.1) (ci := 5) (v := .ref (a_s 1)) (C := RX5) (T := TX5) (N := 3) hx hb hi_X5 (fun _ h => h) hown hK.1 hP 0 rfl rfl 0 (by decide) hf_9 (fun _ h9 => h9) rfl dX5_placesOf_58 ?_
            refine lv_iload hx hb dX5_placesOf_61 (lv_at hl 1 rfl) ?_
            refine lv_iload hx hb dX5_placesOf_63 (lv_at hl 0 rfl) ?_
            refine lv_iload hx hb dX5_placesOf_65 (lv_at hl 2 rfl) ?_
            refine PurI.cv (As := [.int rule, .ref (a_s 1), .int v6_11, .int r7, .int v6_11]) (kX7_mayStand l g a_t I_t (fun k => a_s (k + 1)) 300 (fun k => I_s (k + 1)) rule v6_11 r7 v6_11 (by omega) hT (by omega)) fx (gUV (uT _) u_1063 u_655 u_656 u_31 u_657) rfl hdX7_mayStand ⟨Nat.le_of_ble_eq_true rfl, Nat.le_of_ble_eq_true rfl⟩ hK hP [3, 4, 5, 6, 7, 8, 9, 1] rfl rfl rfl rfl rfl hl.1 (Nat.le_of_ble_eq_true rfl) dX5_placesOf_67 (fun r9 p_r9 => ?_)
            refine q_if_eq (tgt := 76) hx hb dX5_placesOf_70 (by decide) rfl (fun b_70 k_70 => ?_) (fun b_70 k_70 => ?_)
            · have q_70 := bP.f p_r9 b_70
              refine r_iinc (lv' := fun i10 => [(6, .int i10), (5, .int r7), (4, .int v6_11), (3, .int v3_11), (0, .ref (a_s 0)), (1, .int rule), (2, .ref (a_t 0))]) hx hb dX5_placesOf_76 hl (k := 2) rfl (by decide) rfl (by decide) (fun _ => rfl) (fun i10 e_i10 t_i10 ls hl => ?_)
              try have t_i10 := t_i10 (by omega)
              refine lv_goto (tgt := 11) hx hb dX5_placesOf_79 (by decide) ?_
              exact ih_11 v3_11 v6_11 r7 i10 (by omega) (by omega) (by omega) ls hl
            · have q_70 := bP.t p_r9 b_70
              refine r_iinc (lv' := fun i11 => [(3, .int i11), (5, .int r7), (4, .int v6_11), (6, .int v6_11), (0, .ref (a_s 0)), (1, .int rule), (2, .ref (a_t 0))]) hx hb dX5_placesOf_73 hl (k := 3) rfl (by decide) rfl (by decide) (fun _ => rfl) (fun i11 e_i11 t_i11 ls hl => ?_)
              try have t_i11 := t_i11 (by omega)
              refine r_iinc (lv' := fun i12 => [(6, .int i12), (3, .int i11), (5, .int r7), (4, .int v6_11), (0, .ref (a_s 0)), (1, .int rule), (2, .ref (a_t 0))]) hx hb dX5_placesOf_76 hl (k := 3) rfl (by decide) rfl (by decide) (fun _ => rfl) (fun i12 e_i12 t_i12 ls hl => ?_)
              try have t_i12 := t_i12 (by omega)
              refine lv_goto (tgt := 11) hx hb dX5_placesOf_79 (by decide) ?_
              exact ih_11 i11 v6_11 r7 i12 (by omega) (by omega) (by omega) ls (lv_sub hl [0, 2, 3, 1, 4, 5, 6] rfl)
  exact L11 ((301 - (0 : Int32).toInt) + 1).toNat (0 : Int32) (0 : Int32) (0 : Int32) (0 : Int32) (by omega) (by omega) (by omega) ls hl

set_option maxHeartbeats 4000000 in
set_option maxRecDepth 100000 in
theorem kX5_plainLetterCells (l : Launch) (g : gG) (a_s : Nat → Nat) (I_s : Nat → Nat → Int32) (a_t : Nat → Nat) (I_t : Nat → Nat → Int32) (hT : TI I_t) (hSI : SI I_s) : PurI l g yX5_plainLetterCells wsX5_plainLetterCells 2 [.ref (a_s 0), .ref (a_t 0)] (wX5 g a_s I_s ++ wX7 g a_t I_t) (fun r => True) := by
  refine PurI.st (cc := cX5_plainLetterCells) (maxL := 5) (by decide) rfl (Nat.le_of_ble_eq_true rfl) (fun p e s m args below meth c Q ls fx hK hP hl hret => ?_)
  have hx := fx.1
  have hb := fx.2.1
  have hml := fx.2.2.1
  have hown := fx.2.2.2.1
  have hts := fx.2.2.2.2
  have hl : lv_has ls 5 [(0, .ref (a_s 0)), (1, .ref (a_t 0))] := hl
  have hP : va_P g.1 vwCl (wX5 g a_s I_s ++ wX7 g a_t I_t) s.heap := hP
  have hf_9 := hts _ (uT _ _ u_102)
  have hf_15 := hts _ (uT _ _ u_103)
  have hf_64 := hts _ (uT _ _ u_1024)
  have hf_70 := hts _ (uT _ _ u_1025)
  have hi_X5 : ∀ w ∈ wsX50, w.before args s = true := fun w h => hts w (uT _ w (u_wsX50 w h))
  have hi_X7 : ∀ w ∈ wsX70, w.before args s = true := fun w h => hts w (uT _ w (u_wsX70 w h))
  have lm1 : (-1 : Int32).toInt = -1 := by decide
  have lm0 : (0 : Int32).toInt = 0 := by decide
  have lm2 : (1 : Int32).toInt = 1 := by decide
  have hs0 := hSI.1
  have hs1 := hSI.2
  have hru := TI.ru hT
  refine lv_iconst (v := 0) hx hb dX5_plainLetterCells_0 (by decide) ?_
  refine lv_istore_n (lv' := [(2, .int (0 : Int32)), (0, .ref (a_s 0)), (1, .ref (a_t 0))]) hx hb dX5_plainLetterCells_1 rfl hl (by decide) rfl (fun ls hl => ?_)
  refine lv_iconst (v := 0) hx hb dX5_plainLetterCells_2 (by decide) ?_
  refine lv_istore_n (lv' := [(3, .int (0 : Int32)), (2, .int (0 : Int32)), (0, .ref (a_s 0)), (1, .ref (a_t 0))]) hx hb dX5_plainLetterCells_3 rfl hl (by decide) rfl (fun ls hl => ?_)
  have L4 : ∀ (nn : Nat) (v2_4 : Int32) (v3_4 : Int32), (hv_4 : 0 ≤ v3_4.toInt ∧ v3_4.toInt ≤ 300) → ((301 - v3_4.toInt) < (nn : Int)) → ∀ ls : Array Slot, lv_has ls 5 [(3, .int v3_4), (2, .int v2_4), (0, .ref (a_s 0)), (1, .ref (a_t 0))] → W p l e (rm 2) s m args below meth c s.heap [] 0 0 Q (F0 m 4 ls []) := by
    intro n_4
    induction n_4 with
    | zero =>
      intro v2_4 v3_4 hv_4 hms_4 ls hl
      exfalso; omega
    | succ n_4 ih_4 =>
      intro v2_4 v3_4 hv_4 hms_4 ls hl
      refine lv_iload_n hx hb dX5_plainLetterCells_4 rfl (lv_at hl 0 rfl) ?_
      refine lv_aload_n hx hb dX5_plainLetterCells_5 rfl (lv_at hl 2 rfl) ?_
      refine va_get (D := g.1) (ci := 5) (v := .int (I_s 0 1)) (C := RX5) (T := TX5) (N := 3) hx hb hi_X5 (fun _ h => h) hown hK.1 hP 0 rfl rfl 1 (by decide) hf_15 (fun _ h9 => h9) rfl dX5_plainLetterCells_6 ?_
      refine q_icmp_ge (tgt := 67) hx hb dX5_plainLetterCells_9 (by decide) rfl rfl (fun k_9 => ?_) (fun k_9 => ?_)
      · refine lv_iload_n hx hb dX5_plainLetterCells_67 rfl (lv_at hl 1 rfl) ?_
        exact hret 68 ls v2_4 dX5_plainLetterCells_68 trivial
      · refine lv_aload_n hx hb dX5_plainLetterCells_12 rfl (lv_at hl 2 rfl) ?_
        refine va_get (D := g.1) (ci := 5) (v := .ref (a_s 1)) (C := RX5) (T := TX5) (N := 3) hx hb hi_X5 (fun _ h => h) hown hK.1 hP 0 rfl rfl 0 (by decide) hf_9 (fun _ h9 => h9) rfl dX5_plainLetterCells_13 ?_
        refine lv_iload_n hx hb dX5_plainLetterCells_16 rfl (lv_at hl 0 rfl) ?_
        have n_17 : vp_in v3_4 300 := (t_in (by omega))
        refine va_iald hx hb hK.1 hP 1 0 rfl rfl n_17 dX5_plainLetterCells_17 ?_
        refine q_nm (fun x1 e_x1 => ?_)
        have e_x1 : x1 = (I_s 1) v3_4.toNatClampNeg := e_x1
        have g_x1 : x1.toInt = ((I_s 1) v3_4.toNatClampNeg).toInt := congrArg _ e_x1
        refine PurI.cn (C := RX10) (host := "RaisedPress") (As := [.int x1]) (kX10_isLetter l g x1) fx (gU (uT _) u_637) rfl hdX10_isLetter ⟨Nat.le_of_ble_eq_true rfl, Nat.le_of_ble_eq_true rfl⟩ hK hP [] rfl (nm_in_RX5_41) (uT _ _ u_636) (uT _ _ u_2) rfl rfl hl.1 (Nat.le_of_ble_eq_true rfl) dX5_plainLetterCells_18 (fun r2 p_r2 => ?_)
        refine q_if_eq (tgt := 61) hx hb dX5_plainLetterCells_21 (by decide) rfl (fun b_21 k_21 => ?_) (fun b_21 k_21 => ?_)
        · have q_21 := bP.f p_r2 b_21
          refine r_iinc (lv' := fun i3 => [(3, .int i3), (2, .int v2_4), (0, .ref (a_s 0)), (1, .ref (a_t 0))]) hx hb dX5_plainLetterCells_61 hl (k := 0) rfl (by decide) rfl (by decide) (fun _ => rfl) (fun i3 e_i3 t_i3 ls hl => ?_)
          try have t_i3 := t_i3 (by omega)
          refine lv_goto (tgt := 4) hx hb dX5_plainLetterCells_64 (by decide) ?_
          exact ih_4 v2_4 i3 (by omega) (by omega) ls hl
        · have q_21 := bP.t p_r2 b_21
          refine lv_aload_n hx hb dX5_plainLetterCells_24 rfl (lv_at hl 3 rfl) ?_
          refine lv_aload_n hx hb dX5_plainLetterCells_25 rfl (lv_at hl 2 rfl) ?_
          refine va_get (D := g.1) (ci := 5) (v := .ref (a_s 1)) (C := RX5) (T := TX5) (N := 3) hx hb hi_X5 (fun _ h => h) hown hK.1 hP 0 rfl rfl 0 (by decide) hf_9 (fun _ h9 => h9) rfl dX5_plainLetterCells_26 ?_
          refine lv_iload_n hx hb dX5_plainLetterCells_29 rfl (lv_at hl 0 rfl) ?_
          have n_30 : vp_in v3_4 300 := (t_in (by omega))
          refine va_iald hx hb hK.1 hP 1 0 rfl rfl n_30 dX5_plainLetterCells_30 ?_
          refine q_nm (fun x4 e_x4 => ?_)
          have e_x4 : x4 = (I_s 1) v3_4.toNatClampNeg := e_x4
          have g_x4 : x4.toInt = ((I_s 1) v3_4.toNatClampNeg).toInt := congrArg _ e_x4
          refine PurI.cn (C := RX10) (host := "RaisedPress") (As := [.int x4]) (kX10_letterOf l g x4) fx (gU (uT _) u_454) rfl hdX10_letterOf ⟨Nat.le_of_ble_eq_true rfl, Nat.le_of_ble_eq_true rfl⟩ hK hP [] rfl (nm_in_RX5_47) (uT _ _ u_453) (uT _ _ u_2) rfl rfl hl.1 (Nat.le_of_ble_eq_true rfl) dX5_plainLetterCells_31 (fun r5 p_r5 => ?_)
          refine lv_aload_n hx hb dX5_plainLetterCells_34 rfl (lv_at hl 3 rfl) ?_
          refine va_get (D := g.1) (ci := 7) (v := .int (I_t 0 1)) (C := RX7) (T := TX7) (N := 8) hx hb hi_X7 (fun _ h => h) hown hK.1 hP 3 rfl rfl 1 (by decide) hf_64 (fun _ h9 => h9) rfl dX5_plainLetterCells_35 ?_
          refine PurI.cv (As := [.int r5, .int (I_t 0 1)]) (kX7_plainRule l g a_t I_t r5 (I_t 0 1) hT) fx (gUV (uT _) u_1026 u_617 u_618 u_31 u_619) rfl hdX7_plainRule ⟨Nat.le_of_ble_eq_true rfl, Nat.le_of_ble_eq_true rfl⟩ hK hP [3, 4, 5, 6, 7, 8, 9] rfl rfl rfl rfl rfl hl.1 (Nat.le_of_ble_eq_true rfl) dX5_plainLetterCells_38 (fun r6 p_r6 => ?_)
          refine lv_istore (lv' := [(4, .int r6), (3, .int v3_4), (2, .int v2_4), (0, .ref (a_s 0)), (1, .ref (a_t 0))]) hx hb dX5_plainLetterCells_41 hl (by decide) rfl (fun ls hl => ?_)
          refine lv_iload hx hb dX5_plainLetterCells_43 (lv_at hl 0 rfl) ?_
          refine lv_iconst (v := -1) hx hb dX5_plainLetterCells_45 (by decide) ?_
          refine q_icmp_ne (tgt := 51) hx hb dX5_plainLetterCells_46 (by decide) rfl (by decide : (-1 : Int32).toInt = -1) (fun k_46 => ?_) (fun k_46 => ?_)
          · refine lv_iload_n hx hb dX5_plainLetterCells_51 rfl (lv_at hl 2 rfl) ?_
            refine lv_aload_n hx hb dX5_plainLetterCells_52 rfl (lv_at hl 4 rfl) ?_
            refine va_get (D := g.1) (ci := 7) (v := .ref (a_t 3)) (C := RX7) (T := TX7) (N := 8) hx hb hi_X7 (fun _ h => h) hown hK.1 hP 3 rfl rfl 4 (by decide) hf_70 (fun _ h9 => h9) rfl dX5_plainLetterCells_53 ?_
            refine lv_iload hx hb dX5_plainLetterCells_56 (lv_at hl 0 rfl) ?_
            have n_58 : vp_in r6 24 := (t_in (by omega))
            refine va_iald hx hb hK.1 hP 6 0 rfl rfl n_58 dX5_plainLetterCells_58 ?_
            refine q_nm (fun x7 e_x7 => ?_)
            have e_x7 : x7 = (I_t 3) r6.toNatClampNeg := e_x7
            have g_x7 : x7.toInt = ((I_t 3) r6.toNatClampNeg).toInt := congrArg _ e_x7
            have f_x7 := TI.cc hT r6.toNatClampNeg
            rw [← e_x7] at f_x7
            refine r_iadd hx hb dX5_plainLetterCells_59 rfl rfl (fun x8 e_x8 t_x8 => ?_)
            try have t_x8 := t_x8 (by omega)
            refine lv_istore_n (lv' := [(2, .int x8), (4, .int r6), (3, .int v3_4), (0, .ref (a_s 0)), (1, .ref (a_t 0))]) hx hb dX5_plainLetterCells_60 rfl hl (by decide) rfl (fun ls hl => ?_)
            refine r_iinc (lv' := fun i9 => [(3, .int i9), (2, .int x8), (4, .int r6), (0, .ref (a_s 0)), (1, .ref (a_t 0))]) hx hb dX5_plainLetterCells_61 hl (k := 2) rfl (by decide) rfl (by decide) (fun _ => rfl) (fun i9 e_i9 t_i9 ls hl => ?_)
            try have t_i9 := t_i9 (by omega)
            refine lv_goto (tgt := 4) hx hb dX5_plainLetterCells_64 (by decide) ?_
            exact ih_4 x8 i9 (by omega) (by omega) ls (lv_sub hl [0, 1, 3, 4] rfl)
          · refine lv_iconst (v := -1) hx hb dX5_plainLetterCells_49 (by decide) ?_
            exact hret 50 ls (-1 : Int32) dX5_plainLetterCells_50 trivial
  exact L4 ((301 - (0 : Int32).toInt) + 1).toNat (0 : Int32) (0 : Int32) (by omega) (by omega) ls hl

set_option maxHeartbeats 4000000 in
set_option maxRecDepth 100000 in
theorem kX5_takeIfFewer (l : Launch) (g : gG) (a_s : Nat → Nat) (I_s : Nat → Nat → Int32) (ia : Int32) (cells : Int32) (rest_ : Int32) (hSI : SI I_s) (h_a : 0 ≤ ia.toInt ∧ ia.toInt ≤ 300) : EffV l g yX5_takeIfFewer wsX5_takeIfFewer 0 [.ref (a_s 0), .int ia, .int cells, .int rest_] (wX5 g a_s I_s) (fun (u : (Nat → Nat → Int32)) => wX5 g a_s u) (fun (u : (Nat → Nat → Int32)) => SI (u) ∧ sameR I_s (u)) := by
  refine EffV.st (cc := cX5_takeIfFewer) (maxL := 5) (by decide) rfl (Nat.le_of_ble_eq_true rfl) (fun p e s m args below meth c A Q ls fx hK hP hD hA hS hl hret => ?_)
  have hx := fx.1
  have hb := fx.2.1
  have hml := fx.2.2.1
  have hown := fx.2.2.2.1
  have hts := fx.2.2.2.2
  have hl : lv_has ls 5 [(0, .ref (a_s 0)), (1, .int ia), (2, .int cells), (3, .int rest_)] := hl
  have hP : va_P g.1 vwCl (wX5 g a_s I_s) s.heap := hP
  have hf_19 := hts _ (uT _ _ u_104)
  have hi_X5 : ∀ w ∈ wsX50, w.before args s = true := fun w h => hts w (uT _ w (u_wsX50 w h))
  have lm1 : (-1 : Int32).toInt = -1 := by decide
  have lm0 : (0 : Int32).toInt = 0 := by decide
  have lm2 : (1 : Int32).toInt = 1 := by decide
  refine lv_iload_n hx hb dX5_takeIfFewer_0 rfl (lv_at hl 3 rfl) ?_
  refine lv_iconst (v := -1) hx hb dX5_takeIfFewer_1 (by decide) ?_
  refine q_icmp_ne (tgt := 6) hx hb dX5_takeIfFewer_2 (by decide) rfl (by decide : (-1 : Int32).toInt = -1) (fun k_2 => ?_) (fun k_2 => ?_)
  · refine lv_iload_n hx hb dX5_takeIfFewer_6 rfl (lv_at hl 2 rfl) ?_
    refine lv_iload_n hx hb dX5_takeIfFewer_7 rfl (lv_at hl 3 rfl) ?_
    refine r_iadd hx hb dX5_takeIfFewer_8 rfl rfl (fun x1 e_x1 t_x1 => ?_)
    try have t_x1 := t_x1 (by omega)
    refine lv_istore (lv' := [(4, .int x1), (0, .ref (a_s 0)), (1, .int ia), (2, .int cells), (3, .int rest_)]) hx hb dX5_takeIfFewer_9 hl (by decide) rfl (fun ls hl => ?_)
    refine lv_aload_n hx hb dX5_takeIfFewer_11 rfl (lv_at hl 1 rfl) ?_
    refine va_get (D := g.1) (ci := 5) (v := .ref (a_s 2)) (C := RX5) (T := TX5) (N := 3) hx hb hi_X5 (fun _ h => h) hown hK.1 hP 0 rfl rfl 2 (by decide) hf_19 (fun _ h9 => h9) rfl dX5_takeIfFewer_12 ?_
    refine lv_iload_n hx hb dX5_takeIfFewer_15 rfl (lv_at hl 2 rfl) ?_
    have n_16 : vp_in ia 301 := (t_in (by omega))
    refine va_iald hx hb hK.1 hP 2 0 rfl rfl n_16 dX5_takeIfFewer_16 ?_
    refine q_nm (fun x2 e_x2 => ?_)
    have e_x2 : x2 = (I_s 2) ia.toNatClampNeg := e_x2
    have g_x2 : x2.toInt = ((I_s 2) ia.toNatClampNeg).toInt := congrArg _ e_x2
    refine lv_iconst (v := -1) hx hb dX5_takeIfFewer_17 (by decide) ?_
    refine q_icmp_eq (tgt := 32) hx hb dX5_takeIfFewer_18 (by decide) rfl (by decide : (-1 : Int32).toInt = -1) (fun k_18 => ?_) (fun k_18 => ?_)
    · refine lv_aload_n hx hb dX5_takeIfFewer_32 rfl (lv_at hl 1 rfl) ?_
      refine va_get (D := g.1) (ci := 5) (v := .ref (a_s 2)) (C := RX5) (T := TX5) (N := 3) hx hb hi_X5 (fun _ h => h) hown hK.1 hP 0 rfl rfl 2 (by decide) hf_19 (fun _ h9 => h9) rfl dX5_takeIfFewer_33 ?_
      refine lv_iload_n hx hb dX5_takeIfFewer_36 rfl (lv_at hl 2 rfl) ?_
      refine lv_iload hx hb dX5_takeIfFewer_37 (lv_at hl 0 rfl) ?_
      have n_39 : vp_in ia 301 := (t_in (by omega))
      obtain ⟨f3, e_f3⟩ : ∃ z, z = upd (I_s 2) ia.toNatClampNeg x1 := ⟨_, rfl⟩
      refine va_iast hx hb hK.1 hP hD hS 2 0 rfl rfl n_39 dX5_takeIfFewer_39 (fun H locs hP hD hS => ?_)
      have hP : va_P g.1 vwCl (wX5 g a_s (uR I_s 2 f3)) H := by rw [e_f3]; exact hP
      have hD : va_D A (wX5 g a_s (uR I_s 2 f3)) := by rw [e_f3]; exact hD
      refine hret 40 ls _ _ (uR I_s 2 f3) dX5_takeIfFewer_40 hS hP hD ?_
      exact ⟨hSI, ⟨rfl, rfl⟩⟩
    · refine lv_iload hx hb dX5_takeIfFewer_21 (lv_at hl 0 rfl) ?_
      refine lv_aload_n hx hb dX5_takeIfFewer_23 rfl (lv_at hl 1 rfl) ?_
      refine va_get (D := g.1) (ci := 5) (v := .ref (a_s 2)) (C := RX5) (T := TX5) (N := 3) hx hb hi_X5 (fun _ h => h) hown hK.1 hP 0 rfl rfl 2 (by decide) hf_19 (fun _ h9 => h9) rfl dX5_takeIfFewer_24 ?_
      refine lv_iload_n hx hb dX5_takeIfFewer_27 rfl (lv_at hl 2 rfl) ?_
      have n_28 : vp_in ia 301 := (t_in (by omega))
      refine va_iald hx hb hK.1 hP 2 0 rfl rfl n_28 dX5_takeIfFewer_28 ?_
      refine q_nm (fun x4 e_x4 => ?_)
      have e_x4 : x4 = (I_s 2) ia.toNatClampNeg := e_x4
      have g_x4 : x4.toInt = ((I_s 2) ia.toNatClampNeg).toInt := congrArg _ e_x4
      refine q_icmp_ge (tgt := 40) hx hb dX5_takeIfFewer_29 (by decide) rfl rfl (fun k_29 => ?_) (fun k_29 => ?_)
      · refine hret 40 ls _ _ I_s dX5_takeIfFewer_40 hS hP hD ?_
        exact ⟨hSI, ⟨rfl, rfl⟩⟩
      · refine lv_aload_n hx hb dX5_takeIfFewer_32 rfl (lv_at hl 1 rfl) ?_
        refine va_get (D := g.1) (ci := 5) (v := .ref (a_s 2)) (C := RX5) (T := TX5) (N := 3) hx hb hi_X5 (fun _ h => h) hown hK.1 hP 0 rfl rfl 2 (by decide) hf_19 (fun _ h9 => h9) rfl dX5_takeIfFewer_33 ?_
        refine lv_iload_n hx hb dX5_takeIfFewer_36 rfl (lv_at hl 2 rfl) ?_
        refine lv_iload hx hb dX5_takeIfFewer_37 (lv_at hl 0 rfl) ?_
        have n_39 : vp_in ia 301 := (t_in (by omega))
        obtain ⟨f5, e_f5⟩ : ∃ z, z = upd (I_s 2) ia.toNatClampNeg x1 := ⟨_, rfl⟩
        refine va_iast hx hb hK.1 hP hD hS 2 0 rfl rfl n_39 dX5_takeIfFewer_39 (fun H locs hP hD hS => ?_)
        have hP : va_P g.1 vwCl (wX5 g a_s (uR I_s 2 f5)) H := by rw [e_f5]; exact hP
        have hD : va_D A (wX5 g a_s (uR I_s 2 f5)) := by rw [e_f5]; exact hD
        refine hret 40 ls _ _ (uR I_s 2 f5) dX5_takeIfFewer_40 hS hP hD ?_
        exact ⟨hSI, ⟨rfl, rfl⟩⟩
  · refine hret 5 ls _ _ I_s dX5_takeIfFewer_5 hS hP hD ?_
    exact ⟨hSI, ⟨rfl, rfl⟩⟩

set_option maxHeartbeats 4000000 in
set_option maxRecDepth 100000 in
theorem kX5_fewestOfWord (l : Launch) (g : gG) (a_s : Nat → Nat) (I_s : Nat → Nat → Int32) (a_t : Nat → Nat) (I_t : Nat → Nat → Int32) (fr : Int32) (to : Int32) (hT : TI I_t) (hSI : SI I_s) (h_f : 0 ≤ fr.toInt ∧ fr.toInt ≤ to.toInt ∧ to.toInt ≤ 300) : EffI l g yX5_fewestOfWord wsX5_fewestOfWord 2 [.ref (a_s 0), .int fr, .int to, .ref (a_t 0)] (wX5 g a_s I_s ++ wX7 g a_t I_t) (fun (u : (Nat → Nat → Int32)) => wX5 g a_s u ++ wX7 g a_t I_t) (fun r (u : (Nat → Nat → Int32)) => SI (u) ∧ sameR I_s (u)) := by
  refine EffI.st (cc := cX5_fewestOfWord) (maxL := 6) (by decide) rfl (Nat.le_of_ble_eq_true rfl) (fun p e s m args below meth c A Q ls fx hK hP hD hA hS hl hret => ?_)
  have hx := fx.1
  have hb := fx.2.1
  have hml := fx.2.2.1
  have hown := fx.2.2.2.1
  have hts := fx.2.2.2.2
  have hl : lv_has ls 6 [(0, .ref (a_s 0)), (1, .int fr), (2, .int to), (3, .ref (a_t 0))] := hl
  have hP : va_P g.1 vwCl (wX5 g a_s I_s ++ wX7 g a_t I_t) s.heap := hP
  have hf_9 := hts _ (uT _ _ u_102)
  have hf_19 := hts _ (uT _ _ u_104)
  have hf_70 := hts _ (uT _ _ u_1025)
  have hf_77 := hts _ (uT _ _ u_1060)
  have hf_83 := hts _ (uT _ _ u_1061)
  have hi_X5 : ∀ w ∈ wsX50, w.before args s = true := fun w h => hts w (uT _ w (u_wsX50 w h))
  have hi_X7 : ∀ w ∈ wsX70, w.before args s = true := fun w h => hts w (uT _ w (u_wsX70 w h))
  have lm1 : (-1 : Int32).toInt = -1 := by decide
  have lm0 : (0 : Int32).toInt = 0 := by decide
  have lm2 : (1 : Int32).toInt = 1 := by decide
  have hs0 := hSI.1
  have hs1 := hSI.2
  have hru := TI.ru hT
  refine lv_aload_n hx hb dX5_fewestOfWord_0 rfl (lv_at hl 0 rfl) ?_
  refine va_get (D := g.1) (ci := 5) (v := .ref (a_s 2)) (C := RX5) (T := TX5) (N := 3) hx hb hi_X5 (fun _ h => h) hown hK.1 hP 0 rfl rfl 2 (by decide) hf_19 (fun _ h9 => h9) rfl dX5_fewestOfWord_1 ?_
  refine lv_iload_n hx hb dX5_fewestOfWord_4 rfl (lv_at hl 2 rfl) ?_
  refine lv_iconst (v := 0) hx hb dX5_fewestOfWord_5 (by decide) ?_
  have n_6 : vp_in to 301 := (t_in (by omega))
  obtain ⟨f1, e_f1⟩ : ∃ z, z = upd (I_s 2) to.toNatClampNeg (0 : Int32) := ⟨_, rfl⟩
  refine va_iast hx hb hK.1 hP hD hS 2 0 rfl rfl n_6 dX5_fewestOfWord_6 (fun H locs hP hD hS => ?_)
  have hP : va_P g.1 vwCl (wX5 g a_s (uR I_s 2 f1) ++ wX7 g a_t I_t) H := by rw [e_f1]; exact hP
  have hD : va_D A (wX5 g a_s (uR I_s 2 f1) ++ wX7 g a_t I_t) := by rw [e_f1]; exact hD
  have hc_6 : SI (uR I_s 2 f1) := hSI
  refine lv_iload_n hx hb dX5_fewestOfWord_7 rfl (lv_at hl 2 rfl) ?_
  refine lv_iconst (v := 1) hx hb dX5_fewestOfWord_8 (by decide) ?_
  refine r_isub hx hb dX5_fewestOfWord_9 rfl (by decide : (1 : Int32).toInt = 1) (fun x2 e_x2 t_x2 => ?_)
  try have t_x2 := t_x2 (by omega)
  refine lv_istore (lv' := [(4, .int x2), (0, .ref (a_s 0)), (1, .int fr), (2, .int to), (3, .ref (a_t 0))]) hx hb dX5_fewestOfWord_10 hl (by decide) rfl (fun ls hl => ?_)
  have L12 : ∀ (nn : Nat) (v4_12 : Int32) (I_s_12 : Nat → Nat → Int32), (hv_12 : fr.toInt - 1 ≤ v4_12.toInt ∧ v4_12.toInt < to.toInt) → (hSI_12 : SI I_s_12) → (hs_12 : sameR I_s I_s_12) → ((v4_12.toInt + 1) < (nn : Int)) → ∀ (H : Heap) (locs : List Loc), va_P g.1 vwCl (wX5 g a_s I_s_12 ++ wX7 g a_t I_t) H → va_D A (wX5 g a_s I_s_12 ++ wX7 g a_t I_t) → va_S A s.heap H locs → ∀ ls : Array Slot, lv_has ls 6 [(4, .int v4_12), (0, .ref (a_s 0)), (1, .int fr), (2, .int to), (3, .ref (a_t 0))] → W p l e (rm 2) s m args below meth c H locs 0 0 Q (F0 m 12 ls []) := by
    intro n_12
    induction n_12 with
    | zero =>
      intro v4_12 I_s_12 hv_12 hSI_12 hs_12 hms_12 H locs hP hD hS ls hl
      exfalso; omega
    | succ n_12 ih_12 =>
      intro v4_12 I_s_12 hv_12 hSI_12 hs_12 hms_12 H locs hP hD hS ls hl
      refine lv_iload hx hb dX5_fewestOfWord_12 (lv_at hl 0 rfl) ?_
      refine lv_iload_n hx hb dX5_fewestOfWord_14 rfl (lv_at hl 2 rfl) ?_
      refine q_icmp_lt (tgt := 104) hx hb dX5_fewestOfWord_15 (by decide) rfl rfl (fun k_15 => ?_) (fun k_15 => ?_)
      · refine lv_aload_n hx hb dX5_fewestOfWord_104 rfl (lv_at hl 1 rfl) ?_
        refine va_get (D := g.1) (ci := 5) (v := .ref (a_s 2)) (C := RX5) (T := TX5) (N := 3) hx hb hi_X5 (fun _ h => h) hown hK.1 hP 0 rfl rfl 2 (by decide) hf_19 (fun _ h9 => h9) rfl dX5_fewestOfWord_105 ?_
        refine lv_iload_n hx hb dX5_fewestOfWord_108 rfl (lv_at hl 2 rfl) ?_
        have n_109 : vp_in fr 301 := (t_in (by omega))
        refine va_iald hx hb hK.1 hP 2 0 rfl rfl n_109 dX5_fewestOfWord_109 ?_
        refine q_nm (fun x3 e_x3 => ?_)
        have e_x3 : x3 = (I_s_12 2) fr.toNatClampNeg := e_x3
        have g_x3 : x3.toInt = ((I_s_12 2) fr.toNatClampNeg).toInt := congrArg _ e_x3
        refine hret 110 ls x3 _ _ I_s_12 dX5_fewestOfWord_110 hS hP hD ?_
        exact ⟨hSI_12, hs_12⟩
      · refine lv_aload_n hx hb dX5_fewestOfWord_18 rfl (lv_at hl 1 rfl) ?_
        refine va_get (D := g.1) (ci := 5) (v := .ref (a_s 2)) (C := RX5) (T := TX5) (N := 3) hx hb hi_X5 (fun _ h => h) hown hK.1 hP 0 rfl rfl 2 (by decide) hf_19 (fun _ h9 => h9) rfl dX5_fewestOfWord_19 ?_
        refine lv_iload hx hb dX5_fewestOfWord_22 (lv_at hl 0 rfl) ?_
        refine lv_iconst (v := -1) hx hb dX5_fewestOfWord_24 (by decide) ?_
        have n_25 : vp_in v4_12 301 := (t_in (by omega))
        obtain ⟨f4, e_f4⟩ : ∃ z, z = upd (I_s_12 2) v4_12.toNatClampNeg (-1 : Int32) := ⟨_, rfl⟩
        refine va_iast hx hb hK.1 hP hD hS 2 0 rfl rfl n_25 dX5_fewestOfWord_25 (fun H locs hP hD hS => ?_)
        have hP : va_P g.1 vwCl (wX5 g a_s (uR I_s_12 2 f4) ++ wX7 g a_t I_t) H := by rw [e_f4]; exact hP
        have hD : va_D A (wX5 g a_s (uR I_s_12 2 f4) ++ wX7 g a_t I_t) := by rw [e_f4]; exact hD
        have hc_25 : SI (uR I_s_12 2 f4) := hSI_12
        refine lv_iconst (v := 0) hx hb dX5_fewestOfWord_26 (by decide) ?_
        refine lv_istore (lv' := [(5, .int (0 : Int32)), (4, .int v4_12), (0, .ref (a_s 0)), (1, .int fr), (2, .int to), (3, .ref (a_t 0))]) hx hb dX5_fewestOfWord_27 hl (by decide) rfl (fun ls hl => ?_)
        have L29 : ∀ (nn : Nat) (v5_29 : Int32) (I_s_29 : Nat → Nat → Int32), (hv_29 : 0 ≤ v5_29.toInt ∧ v5_29.toInt ≤ 24) → (hSI_29 : SI I_s_29) → (hs_29 : sameR I_s I_s_29) → ((25 - v5_29.toInt) < (nn : Int)) → ∀ (H : Heap) (locs : List Loc), va_P g.1 vwCl (wX5 g a_s I_s_29 ++ wX7 g a_t I_t) H → va_D A (wX5 g a_s I_s_29 ++ wX7 g a_t I_t) → va_S A s.heap H locs → ∀ ls : Array Slot, lv_has ls 6 [(5, .int v5_29), (4, .int v4_12), (0, .ref (a_s 0)), (1, .int fr), (2, .int to), (3, .ref (a_t 0))] → W p l e (rm 2) s m args below meth c H locs 0 0 Q (F0 m 29 ls []) := by
          intro n_29
          induction n_29 with
          | zero =>
            intro v5_29 I_s_29 hv_29 hSI_29 hs_29 hms_29 H locs hP hD hS ls hl
            exfalso; omega
          | succ n_29 ih_29 =>
            intro v5_29 I_s_29 hv_29 hSI_29 hs_29 hms_29 H locs hP hD hS ls hl
            refine lv_iload hx hb dX5_fewestOfWord_29 (lv_at hl 0 rfl) ?_
            refine lv_aload_n hx hb dX5_fewestOfWord_31 rfl (lv_at hl 5 rfl) ?_
            refine va_get (D := g.1) (ci := 7) (v := .int (I_t 0 0)) (C := RX7) (T := TX7) (N := 8) hx hb hi_X7 (fun _ h => h) hown hK.1 hP 3 rfl rfl 0 (by decide) hf_77 (fun _ h9 => h9) rfl dX5_fewestOfWord_32 ?_
            refine q_icmp_ge (tgt := 98) hx hb dX5_fewestOfWord_35 (by decide) rfl rfl (fun k_35 => ?_) (fun k_35 => ?_)
            · refine r_iinc (lv' := fun i5 => [(4, .int i5), (5, .int v5_29), (0, .ref (a_s 0)), (1, .int fr), (2, .int to), (3, .ref (a_t 0))]) hx hb dX5_fewestOfWord_98 hl (k := 1) rfl (by decide) rfl (by decide) (fun _ => rfl) (fun i5 e_i5 t_i5 ls hl => ?_)
              try have t_i5 := t_i5 (by omega)
              refine lv_goto (tgt := 12) hx hb dX5_fewestOfWord_101 (by decide) ?_
              exact ih_12 i5 I_s_29 (by omega) hSI_29 hs_29 (by omega) _ _ hP hD hS ls (lv_sub hl [0, 2, 3, 4, 5] rfl)
            · refine lv_aload_n hx hb dX5_fewestOfWord_38 rfl (lv_at hl 5 rfl) ?_
              refine lv_iload hx hb dX5_fewestOfWord_39 (lv_at hl 0 rfl) ?_
              refine PurI.cv (As := [.int v5_29]) (kX7_isThere l g a_t I_t v5_29) fx (gUV (uT _) u_1062 u_983 u_984 u_31 u_985) rfl hdX7_isThere ⟨Nat.le_of_ble_eq_true rfl, Nat.le_of_ble_eq_true rfl⟩ hK hP [3, 4, 5, 6, 7, 8, 9] rfl rfl rfl rfl rfl hl.1 (Nat.le_of_ble_eq_true rfl) dX5_fewestOfWord_41 (fun r6 p_r6 => ?_)
              refine q_if_eq (tgt := 92) hx hb dX5_fewestOfWord_44 (by decide) rfl (fun b_44 k_44 => ?_) (fun b_44 k_44 => ?_)
              · have q_44 := bP.f p_r6 b_44
                refine r_iinc (lv' := fun i7 => [(5, .int i7), (4, .int v4_12), (0, .ref (a_s 0)), (1, .int fr), (2, .int to), (3, .ref (a_t 0))]) hx hb dX5_fewestOfWord_92 hl (k := 0) rfl (by decide) rfl (by decide) (fun _ => rfl) (fun i7 e_i7 t_i7 ls hl => ?_)
                try have t_i7 := t_i7 (by omega)
                refine lv_goto (tgt := 29) hx hb dX5_fewestOfWord_95 (by decide) ?_
                exact ih_29 i7 I_s_29 (by omega) hSI_29 (by exact hs_29) (by omega) _ _ hP hD hS ls hl
              · have q_44 := bP.t p_r6 b_44
                refine lv_aload_n hx hb dX5_fewestOfWord_47 rfl (lv_at hl 5 rfl) ?_
                refine lv_iload hx hb dX5_fewestOfWord_48 (lv_at hl 0 rfl) ?_
                refine lv_aload_n hx hb dX5_fewestOfWord_50 rfl (lv_at hl 2 rfl) ?_
                refine va_get (D := g.1) (ci := 5) (v := .ref (a_s 1)) (C := RX5) (T := TX5) (N := 3) hx hb hi_X5 (fun _ h => h) hown hK.1 hP 0 rfl rfl 0 (by decide) hf_9 (fun _ h9 => h9) rfl dX5_fewestOfWord_51 ?_
                refine lv_iload_n hx hb dX5_fewestOfWord_54 rfl (lv_at hl 3 rfl) ?_
                refine lv_iload_n hx hb dX5_fewestOfWord_55 rfl (lv_at hl 4 rfl) ?_
                refine lv_iload hx hb dX5_fewestOfWord_56 (lv_at hl 1 rfl) ?_
                refine PurI.cv (As := [.int v5_29, .ref (a_s 1), .int fr, .int to, .int v4_12]) (kX7_mayStand l g a_t I_t (fun k => a_s (k + 1)) 300 (fun k => I_s_29 (k + 1)) v5_29 fr to v4_12 (by omega) hT (by omega)) fx (gUV (uT _) u_1063 u_655 u_656 u_31 u_657) rfl hdX7_mayStand ⟨Nat.le_of_ble_eq_true rfl, Nat.le_of_ble_eq_true rfl⟩ hK hP [3, 4, 5, 6, 7, 8, 9, 1] rfl rfl rfl rfl rfl hl.1 (Nat.le_of_ble_eq_true rfl) dX5_fewestOfWord_58 (fun r8 p_r8 => ?_)
                refine q_if_eq (tgt := 92) hx hb dX5_fewestOfWord_61 (by decide) rfl (fun b_61 k_61 => ?_) (fun b_61 k_61 => ?_)
                · have q_61 := bP.f p_r8 b_61
                  refine r_iinc (lv' := fun i9 => [(5, .int i9), (4, .int v4_12), (0, .ref (a_s 0)), (1, .int fr), (2, .int to), (3, .ref (a_t 0))]) hx hb dX5_fewestOfWord_92 hl (k := 0) rfl (by decide) rfl (by decide) (fun _ => rfl) (fun i9 e_i9 t_i9 ls hl => ?_)
                  try have t_i9 := t_i9 (by omega)
                  refine lv_goto (tgt := 29) hx hb dX5_fewestOfWord_95 (by decide) ?_
                  exact ih_29 i9 I_s_29 (by omega) hSI_29 (by exact hs_29) (by omega) _ _ hP hD hS ls hl
                · have q_61 := bP.t p_r8 b_61
                  refine lv_aload_n hx hb dX5_fewestOfWord_64 rfl (lv_at hl 2 rfl) ?_
                  refine lv_iload hx hb dX5_fewestOfWord_65 (lv_at hl 1 rfl) ?_
                  refine lv_aload_n hx hb dX5_fewestOfWord_67 rfl (lv_at hl 5 rfl) ?_
                  refine va_get (D := g.1) (ci := 7) (v := .ref (a_t 3)) (C := RX7) (T := TX7) (N := 8) hx hb hi_X7 (fun _ h => h) hown hK.1 hP 3 rfl rfl 4 (by decide) hf_70 (fun _ h9 => h9) rfl dX5_fewestOfWord_68 ?_
                  refine lv_iload hx hb dX5_fewestOfWord_71 (lv_at hl 0 rfl) ?_
                  have n_73 : vp_in v5_29 24 := (t_in (by omega))
                  refine va_iald hx hb hK.1 hP 6 0 rfl rfl n_73 dX5_fewestOfWord_73 ?_
                  refine q_nm (fun x10 e_x10 => ?_)
                  have e_x10 : x10 = (I_t 3) v5_29.toNatClampNeg := e_x10
                  have g_x10 : x10.toInt = ((I_t 3) v5_29.toNatClampNeg).toInt := congrArg _ e_x10
                  have f_x10 := TI.cc hT v5_29.toNatClampNeg
                  rw [← e_x10] at f_x10
                  refine lv_aload_n hx hb dX5_fewestOfWord_74 rfl (lv_at hl 2 rfl) ?_
                  refine va_get (D := g.1) (ci := 5) (v := .ref (a_s 2)) (C := RX5) (T := TX5) (N := 3) hx hb hi_X5 (fun _ h => h) hown hK.1 hP 0 rfl rfl 2 (by decide) hf_19 (fun _ h9 => h9) rfl dX5_fewestOfWord_75 ?_
                  refine lv_iload hx hb dX5_fewestOfWord_78 (lv_at hl 1 rfl) ?_
                  refine lv_aload_n hx hb dX5_fewestOfWord_80 rfl (lv_at hl 5 rfl) ?_
                  refine va_get (D := g.1) (ci := 7) (v := .ref (a_t 2)) (C := RX7) (T := TX7) (N := 8) hx hb hi_X7 (fun _ h => h) hown hK.1 hP 3 rfl rfl 3 (by decide) hf_83 (fun _ h9 => h9) rfl dX5_fewestOfWord_81 ?_
                  refine lv_iload hx hb dX5_fewestOfWord_84 (lv_at hl 0 rfl) ?_
                  have n_86 : vp_in v5_29 24 := (t_in (by omega))
                  refine va_iald hx hb hK.1 hP 5 0 rfl rfl n_86 dX5_fewestOfWord_86 ?_
                  refine q_nm (fun x11 e_x11 => ?_)
                  have e_x11 : x11 = (I_t 2) v5_29.toNatClampNeg := e_x11
                  have g_x11 : x11.toInt = ((I_t 2) v5_29.toNatClampNeg).toInt := congrArg _ e_x11
                  have f_x11 := TI.lc hT v5_29.toNatClampNeg
                  rw [← e_x11] at f_x11
                  refine r_iadd hx hb dX5_fewestOfWord_87 rfl rfl (fun x12 e_x12 t_x12 => ?_)
                  try have t_x12 := t_x12 (by omega)
                  have n_88 : vp_in x12 301 := (t_in (by omega))
                  refine va_iald hx hb hK.1 hP 2 0 rfl rfl n_88 dX5_fewestOfWord_88 ?_
                  refine q_nm (fun x13 e_x13 => ?_)
                  have e_x13 : x13 = (I_s_29 2) x12.toNatClampNeg := e_x13
                  have g_x13 : x13.toInt = ((I_s_29 2) x12.toNatClampNeg).toInt := congrArg _ e_x13
                  refine EffV.cv (wr := (wX7 g a_t I_t)) (w' := fun u15 => wX5 g a_s u15 ++ wX7 g a_t I_t) (As := [.int v4_12, .int x10, .int x13]) (kX5_takeIfFewer l g a_s I_s_29 v4_12 x10 x13 hSI_29 (by omega)) fx (gUV (uT _) u_1064 u_1065 u_1066 u_35 u_1067) rfl hdX5_takeIfFewer ⟨Nat.le_of_ble_eq_true rfl, Nat.le_of_ble_eq_true rfl⟩ hK hP hD hS hA [0, 1, 2] [3, 4, 5, 6, 7, 8, 9] [7, 8, 9, 0, 1, 2, 3, 4, 5, 6] rfl rfl rfl rfl (by decide) rfl (fun _ => rfl) rfl rfl rfl rfl hl.1 (Nat.le_of_ble_eq_true rfl) dX5_fewestOfWord_89 (fun u15 H locs p_r14 hP hD hS => ?_)
                  have hP : va_P g.1 vwCl (wX5 g a_s u15 ++ wX7 g a_t I_t) H := hP
                  have hD : va_D A (wX5 g a_s u15 ++ wX7 g a_t I_t) := hD
                  refine r_iinc (lv' := fun i16 => [(5, .int i16), (4, .int v4_12), (0, .ref (a_s 0)), (1, .int fr), (2, .int to), (3, .ref (a_t 0))]) hx hb dX5_fewestOfWord_92 hl (k := 0) rfl (by decide) rfl (by decide) (fun _ => rfl) (fun i16 e_i16 t_i16 ls hl => ?_)
                  try have t_i16 := t_i16 (by omega)
                  refine lv_goto (tgt := 29) hx hb dX5_fewestOfWord_95 (by decide) ?_
                  exact ih_29 i16 u15 (by omega) p_r14.1 (by first | exact hs_29.tr p_r14.2 | exact hs_29) (by omega) _ _ hP hD hS ls hl
        exact L29 ((25 - (0 : Int32).toInt) + 1).toNat (0 : Int32) (uR I_s_12 2 f4) (by omega) hc_25 ⟨hs_12.1, hs_12.2⟩ (by omega) _ _ hP hD hS ls hl
  exact L12 ((x2.toInt + 1) + 1).toNat x2 (uR I_s 2 f1) (by omega) hc_6 ⟨rfl, rfl⟩ (by omega) _ _ hP hD hS ls hl

set_option maxHeartbeats 4000000 in
set_option maxRecDepth 100000 in
theorem kX5_fewestLetterCells (l : Launch) (g : gG) (a_s : Nat → Nat) (I_s : Nat → Nat → Int32) (a_t : Nat → Nat) (I_t : Nat → Nat → Int32) (hT : TI I_t) (hSI : SI I_s) : EffI l g yX5_fewestLetterCells wsX5_fewestLetterCells 3 [.ref (a_s 0), .ref (a_t 0)] (wX5 g a_s I_s ++ wX7 g a_t I_t) (fun (u : (Nat → Nat → Int32)) => wX5 g a_s u ++ wX7 g a_t I_t) (fun r (u : (Nat → Nat → Int32)) => SI (u) ∧ sameR I_s (u)) := by
  refine EffI.st (cc := cX5_fewestLetterCells) (maxL := 4) (by decide) rfl (Nat.le_of_ble_eq_true rfl) (fun p e s m args below meth c A Q ls fx hK hP hD hA hS hl hret => ?_)
  have hx := fx.1
  have hb := fx.2.1
  have hml := fx.2.2.1
  have hown := fx.2.2.2.1
  have hts := fx.2.2.2.2
  have hl : lv_has ls 4 [(0, .ref (a_s 0)), (1, .ref (a_t 0))] := hl
  have hP : va_P g.1 vwCl (wX5 g a_s I_s ++ wX7 g a_t I_t) s.heap := hP
  have hf_9 := hts _ (uT _ _ u_102)
  have hf_15 := hts _ (uT _ _ u_103)
  have hi_X5 : ∀ w ∈ wsX50, w.before args s = true := fun w h => hts w (uT _ w (u_wsX50 w h))
  have lm1 : (-1 : Int32).toInt = -1 := by decide
  have lm0 : (0 : Int32).toInt = 0 := by decide
  have lm2 : (1 : Int32).toInt = 1 := by decide
  have hs0 := hSI.1
  have hs1 := hSI.2
  refine lv_iconst (v := 0) hx hb dX5_fewestLetterCells_0 (by decide) ?_
  refine lv_istore_n (lv' := [(2, .int (0 : Int32)), (0, .ref (a_s 0)), (1, .ref (a_t 0))]) hx hb dX5_fewestLetterCells_1 rfl hl (by decide) rfl (fun ls hl => ?_)
  refine lv_iconst (v := 0) hx hb dX5_fewestLetterCells_2 (by decide) ?_
  refine lv_istore_n (lv' := [(3, .int (0 : Int32)), (2, .int (0 : Int32)), (0, .ref (a_s 0)), (1, .ref (a_t 0))]) hx hb dX5_fewestLetterCells_3 rfl hl (by decide) rfl (fun ls hl => ?_)
  have L4 : ∀ (nn : Nat) (v2_4 : Int32) (v3_4 : Int32) (I_s_4 : Nat → Nat → Int32), (hv_4 : 0 ≤ v3_4.toInt ∧ v3_4.toInt ≤ 300) → (hSI_4 : SI I_s_4) → (hs_4 : sameR I_s I_s_4) → ((301 - v3_4.toInt) < (nn : Int)) → ∀ (H : Heap) (locs : List Loc), va_P g.1 vwCl (wX5 g a_s I_s_4 ++ wX7 g a_t I_t) H → va_D A (wX5 g a_s I_s_4 ++ wX7 g a_t I_t) → va_S A s.heap H locs → ∀ ls : Array Slot, lv_has ls 4 [(3, .int v3_4), (2, .int v2_4), (0, .ref (a_s 0)), (1, .ref (a_t 0))] → W p l e (rm 3) s m args below meth c H locs 0 0 Q (F0 m 4 ls []) := by
    intro n_4
    induction n_4 with
    | zero =>
      intro v2_4 v3_4 I_s_4 hv_4 hSI_4 hs_4 hms_4 H locs hP hD hS ls hl
      exfalso; omega
    | succ n_4 ih_4 =>
      intro v2_4 v3_4 I_s_4 hv_4 hSI_4 hs_4 hms_4 H locs hP hD hS ls hl
      have hq4 : (I_s_4 0 1).toInt = (I_s 0 1).toInt := by rw [hs_4.1]
      refine lv_iload_n hx hb dX5_fewestLetterCells_4 rfl (lv_at hl 0 rfl) ?_
      refine lv_aload_n hx hb dX5_fewestLetterCells_5 rfl (lv_at hl 2 rfl) ?_
      refine va_get (D := g.1) (ci := 5) (v := .int (I_s_4 0 1)) (C := RX5) (T := TX5) (N := 3) hx hb hi_X5 (fun _ h => h) hown hK.1 hP 0 rfl rfl 1 (by decide) hf_15 (fun _ h9 => h9) rfl dX5_fewestLetterCells_6 ?_
      refine q_icmp_ge (tgt := 47) hx hb dX5_fewestLetterCells_9 (by decide) rfl rfl (fun k_9 => ?_) (fun k_9 => ?_)
      · refine lv_iload_n hx hb dX5_fewestLetterCells_47 rfl (lv_at hl 1 rfl) ?_
        refine hret 48 ls v2_4 _ _ I_s_4 dX5_fewestLetterCells_48 hS hP hD ?_
        exact ⟨hSI_4, hs_4⟩
      · refine lv_aload_n hx hb dX5_fewestLetterCells_12 rfl (lv_at hl 2 rfl) ?_
        refine lv_iload_n hx hb dX5_fewestLetterCells_13 rfl (lv_at hl 0 rfl) ?_
        refine PurI.cv (As := [.int v3_4]) (kX5_beginsWord l g a_s I_s_4 v3_4 (by omega)) fx (gUV (uT _) u_1052 u_1053 u_1054 u_35 u_1055) rfl hdX5_beginsWord ⟨Nat.le_of_ble_eq_true rfl, Nat.le_of_ble_eq_true rfl⟩ hK hP [0, 1, 2] rfl rfl rfl rfl rfl hl.1 (Nat.le_of_ble_eq_true rfl) dX5_fewestLetterCells_14 (fun r1 p_r1 => ?_)
        refine q_if_eq (tgt := 41) hx hb dX5_fewestLetterCells_17 (by decide) rfl (fun b_17 k_17 => ?_) (fun b_17 k_17 => ?_)
        · have q_17 := bP.f p_r1 b_17
          refine r_iinc (lv' := fun i2 => [(3, .int i2), (2, .int v2_4), (0, .ref (a_s 0)), (1, .ref (a_t 0))]) hx hb dX5_fewestLetterCells_41 hl (k := 0) rfl (by decide) rfl (by decide) (fun _ => rfl) (fun i2 e_i2 t_i2 ls hl => ?_)
          try have t_i2 := t_i2 (by omega)
          refine lv_goto (tgt := 4) hx hb dX5_fewestLetterCells_44 (by decide) ?_
          exact ih_4 v2_4 i2 I_s_4 (by omega) hSI_4 (by exact hs_4) (by omega) _ _ hP hD hS ls hl
        · have q_17 := bP.t p_r1 b_17
          refine lv_iload_n hx hb dX5_fewestLetterCells_20 rfl (lv_at hl 1 rfl) ?_
          refine lv_aload_n hx hb dX5_fewestLetterCells_21 rfl (lv_at hl 2 rfl) ?_
          refine lv_iload_n hx hb dX5_fewestLetterCells_22 rfl (lv_at hl 0 rfl) ?_
          refine lv_aload_n hx hb dX5_fewestLetterCells_23 rfl (lv_at hl 2 rfl) ?_
          refine va_get (D := g.1) (ci := 5) (v := .ref (a_s 1)) (C := RX5) (T := TX5) (N := 3) hx hb hi_X5 (fun _ h => h) hown hK.1 hP 0 rfl rfl 0 (by decide) hf_9 (fun _ h9 => h9) rfl dX5_fewestLetterCells_24 ?_
          refine lv_aload_n hx hb dX5_fewestLetterCells_27 rfl (lv_at hl 2 rfl) ?_
          refine va_get (D := g.1) (ci := 5) (v := .int (I_s_4 0 1)) (C := RX5) (T := TX5) (N := 3) hx hb hi_X5 (fun _ h => h) hown hK.1 hP 0 rfl rfl 1 (by decide) hf_15 (fun _ h9 => h9) rfl dX5_fewestLetterCells_28 ?_
          refine lv_iload_n hx hb dX5_fewestLetterCells_31 rfl (lv_at hl 0 rfl) ?_
          refine PurI.cn (C := RX10) (host := "RaisedPress") (As := [.ref (a_s 1), .int (I_s_4 0 1), .int v3_4]) (kX10_wordEnd l g (fun k => a_s (k + 1)) 300 (fun k => I_s_4 (k + 1)) (I_s_4 0 1) v3_4 (by omega)) fx (gU (uT _) u_648) rfl hdX10_wordEnd ⟨Nat.le_of_ble_eq_true rfl, Nat.le_of_ble_eq_true rfl⟩ hK hP [1] rfl (nm_in_RX5_54) (uT _ _ u_647) (uT _ _ u_2) rfl rfl hl.1 (Nat.le_of_ble_eq_true rfl) dX5_fewestLetterCells_32 (fun r3 p_r3 => ?_)
          refine lv_aload_n hx hb dX5_fewestLetterCells_35 rfl (lv_at hl 3 rfl) ?_
          refine EffI.cv (wr := ([])) (w' := fun u5 => wX5 g a_s u5 ++ wX7 g a_t I_t) (As := [.int v3_4, .int r3, .ref (a_t 0)]) (kX5_fewestOfWord l g a_s I_s_4 a_t I_t v3_4 r3 hT hSI_4 (by omega)) fx (gUV (uT _) u_1056 u_1057 u_1058 u_35 u_1059) rfl hdX5_fewestOfWord ⟨Nat.le_of_ble_eq_true rfl, Nat.le_of_ble_eq_true rfl⟩ hK hP hD hS hA [0, 1, 2, 3, 4, 5, 6, 7, 8, 9] [] [0, 1, 2, 3, 4, 5, 6, 7, 8, 9] rfl rfl rfl rfl (by decide) rfl (fun _ => rfl) rfl rfl rfl rfl hl.1 (Nat.le_of_ble_eq_true rfl) dX5_fewestLetterCells_36 (fun r4 u5 H locs p_r4 hP hD hS => ?_)
          have hP : va_P g.1 vwCl (wX5 g a_s u5 ++ wX7 g a_t I_t) H := hP
          have hD : va_D A (wX5 g a_s u5 ++ wX7 g a_t I_t) := hD
          refine r_iadd hx hb dX5_fewestLetterCells_39 rfl rfl (fun x6 e_x6 t_x6 => ?_)
          try have t_x6 := t_x6 (by omega)
          refine lv_istore_n (lv' := [(2, .int x6), (3, .int v3_4), (0, .ref (a_s 0)), (1, .ref (a_t 0))]) hx hb dX5_fewestLetterCells_40 rfl hl (by decide) rfl (fun ls hl => ?_)
          refine r_iinc (lv' := fun i7 => [(3, .int i7), (2, .int x6), (0, .ref (a_s 0)), (1, .ref (a_t 0))]) hx hb dX5_fewestLetterCells_41 hl (k := 1) rfl (by decide) rfl (by decide) (fun _ => rfl) (fun i7 e_i7 t_i7 ls hl => ?_)
          try have t_i7 := t_i7 (by omega)
          refine lv_goto (tgt := 4) hx hb dX5_fewestLetterCells_44 (by decide) ?_
          exact ih_4 x6 i7 u5 (by omega) p_r4.1 (by first | exact hs_4.tr p_r4.2 | exact hs_4) (by omega) _ _ hP hD hS ls hl
  exact L4 ((301 - (0 : Int32).toInt) + 1).toNat (0 : Int32) (0 : Int32) I_s (by omega) hSI (sameR.rf _) (by omega) _ _ hP hD hS ls hl

set_option maxHeartbeats 4000000 in
set_option maxRecDepth 100000 in
theorem kX9_wearOff (l : Launch) (g : gG) (a_z : Nat → Nat) (I_z : Nat → Nat → Int32) (a_e : Nat → Nat) (I_e : Nat → Nat → Int32) (seed : Int32) (six : Int32) (hE : EI I_e) : EffI l g yX9_wearOff wsX9_wearOff 1 [.ref (a_z 0), .ref (a_e 0), .int seed, .int six] (wX9 g a_z I_z ++ wX6 g a_e I_e) (fun (u : (Nat → Nat → Int32)) => wX9 g a_z u ++ wX6 g a_e I_e) (fun r (u : (Nat → Nat → Int32)) => WI (u)) := by
  refine EffI.st (cc := cX9_wearOff) (maxL := 6) (by decide) rfl (Nat.le_of_ble_eq_true rfl) (fun p e s m args below meth c A Q ls fx hK hP hD hA hS hl hret => ?_)
  have hx := fx.1
  have hb := fx.2.1
  have hml := fx.2.2.1
  have hown := fx.2.2.2.1
  have hts := fx.2.2.2.2
  have hl : lv_has ls 6 [(0, .ref (a_z 0)), (1, .ref (a_e 0)), (2, .int seed), (3, .int six)] := hl
  have hP : va_P g.1 vwCl (wX9 g a_z I_z ++ wX6 g a_e I_e) s.heap := hP
  have hf_9 := hts _ (uT _ _ u_153)
  have hf_15 := hts _ (uT _ _ u_154)
  have hf_19 := hts _ (uT _ _ u_155)
  have hf_22 := hts _ (uT _ _ u_1619)
  have hf_25 := hts _ (uT _ _ u_1620)
  have hi_X6 : ∀ w ∈ wsX60, w.before args s = true := fun w h => hts w (uT _ w (u_wsX60 w h))
  have hi_X9 : ∀ w ∈ wsX90, w.before args s = true := fun w h => hts w (uT _ w (u_wsX90 w h))
  have lm1 : (-1 : Int32).toInt = -1 := by decide
  have lm0 : (0 : Int32).toInt = 0 := by decide
  have lm2 : (1 : Int32).toInt = 1 := by decide
  have hE0 := hE.1
  have hE1 := hE.2
  refine lv_aload_n hx hb dX9_wearOff_0 rfl (lv_at hl 0 rfl) ?_
  refine lv_iload_n hx hb dX9_wearOff_1 rfl (lv_at hl 2 rfl) ?_
  refine va_put (D := g.1) (ci := 9) (v := .int seed) (ty := .int) (C := RX9) (T := TX9) (N := 3) hx hb hi_X9 (fun _ h => h) tyX9 tyX9_ok nmX9 hown hK.1 hP hD hS 0 rfl rfl 2 (by decide) hf_19 (fun _ h9 => h9) rfl (by decide +kernel) rfl rfl (Nat.le_of_ble_eq_true rfl) dX9_wearOff_2 (fun H locs hP hD hS => ?_)
  have hP : va_P g.1 vwCl (wX9 g a_z (uF I_z 0 2 seed) ++ wX6 g a_e I_e) H := hP
  have hD : va_D A (wX9 g a_z (uF I_z 0 2 seed) ++ wX6 g a_e I_e) := hD
  refine lv_aload_n hx hb dX9_wearOff_5 rfl (lv_at hl 0 rfl) ?_
  refine lv_aload_n hx hb dX9_wearOff_6 rfl (lv_at hl 1 rfl) ?_
  refine va_get (D := g.1) (ci := 6) (v := .int (I_e 0 3)) (C := RX6) (T := TX6) (N := 10) hx hb hi_X6 (fun _ h => h) hown hK.1 hP 2 rfl rfl 3 (by decide) hf_22 (fun _ h9 => h9) rfl dX9_wearOff_7 ?_
  refine va_put (D := g.1) (ci := 9) (v := .int (I_e 0 3)) (ty := .int) (C := RX9) (T := TX9) (N := 3) hx hb hi_X9 (fun _ h => h) tyX9 tyX9_ok nmX9 hown hK.1 hP hD hS 0 rfl rfl 1 (by decide) hf_15 (fun _ h9 => h9) rfl (by decide +kernel) rfl rfl (Nat.le_of_ble_eq_true rfl) dX9_wearOff_10 (fun H locs hP hD hS => ?_)
  have hP : va_P g.1 vwCl (wX9 g a_z (uF (uF I_z 0 2 seed) 0 1 (I_e 0 3)) ++ wX6 g a_e I_e) H := hP
  have hD : va_D A (wX9 g a_z (uF (uF I_z 0 2 seed) 0 1 (I_e 0 3)) ++ wX6 g a_e I_e) := hD
  refine lv_iconst (v := 0) hx hb dX9_wearOff_13 (by decide) ?_
  refine lv_istore (lv' := [(4, .int (0 : Int32)), (0, .ref (a_z 0)), (1, .ref (a_e 0)), (2, .int seed), (3, .int six)]) hx hb dX9_wearOff_14 hl (by decide) rfl (fun ls hl => ?_)
  refine lv_iconst (v := 0) hx hb dX9_wearOff_16 (by decide) ?_
  refine lv_istore (lv' := [(5, .int (0 : Int32)), (4, .int (0 : Int32)), (0, .ref (a_z 0)), (1, .ref (a_e 0)), (2, .int seed), (3, .int six)]) hx hb dX9_wearOff_17 hl (by decide) rfl (fun ls hl => ?_)
  have L19 : ∀ (nn : Nat) (v4_19 : Int32) (v5_19 : Int32) (I_z_19 : Nat → Nat → Int32), (hv_19 : 0 ≤ v5_19.toInt ∧ v5_19.toInt ≤ 1200) → (hm_19 : I_z_19 0 1 = I_e 0 3) → ((1201 - v5_19.toInt) < (nn : Int)) → ∀ (H : Heap) (locs : List Loc), va_P g.1 vwCl (wX9 g a_z I_z_19 ++ wX6 g a_e I_e) H → va_D A (wX9 g a_z I_z_19 ++ wX6 g a_e I_e) → va_S A s.heap H locs → ∀ ls : Array Slot, lv_has ls 6 [(5, .int v5_19), (4, .int v4_19), (0, .ref (a_z 0)), (1, .ref (a_e 0)), (2, .int seed), (3, .int six)] → W p l e (rm 1) s m args below meth c H locs 0 0 Q (F0 m 19 ls []) := by
    intro n_19
    induction n_19 with
    | zero =>
      intro v4_19 v5_19 I_z_19 hv_19 hm_19 hms_19 H locs hP hD hS ls hl
      exfalso; omega
    | succ n_19 ih_19 =>
      intro v4_19 v5_19 I_z_19 hv_19 hm_19 hms_19 H locs hP hD hS ls hl
      have hq19 : (I_z_19 0 1).toInt = (I_e 0 3).toInt := by rw [hm_19]
      refine lv_iload hx hb dX9_wearOff_19 (lv_at hl 0 rfl) ?_
      refine lv_aload_n hx hb dX9_wearOff_21 rfl (lv_at hl 2 rfl) ?_
      refine va_get (D := g.1) (ci := 9) (v := .int (I_z_19 0 1)) (C := RX9) (T := TX9) (N := 3) hx hb hi_X9 (fun _ h => h) hown hK.1 hP 0 rfl rfl 1 (by decide) hf_15 (fun _ h9 => h9) rfl dX9_wearOff_22 ?_
      refine q_icmp_ge (tgt := 79) hx hb dX9_wearOff_25 (by decide) rfl rfl (fun k_25 => ?_) (fun k_25 => ?_)
      · refine lv_iload hx hb dX9_wearOff_79 (lv_at hl 1 rfl) ?_
        refine hret 81 ls v4_19 _ _ I_z_19 dX9_wearOff_81 hS hP hD ?_
        exact (show 0 ≤ _ ∧ _ from (by rw [hm_19]; exact hE))
      · refine lv_aload_n hx hb dX9_wearOff_28 rfl (lv_at hl 2 rfl) ?_
        refine va_get (D := g.1) (ci := 9) (v := .ref (a_z 1)) (C := RX9) (T := TX9) (N := 3) hx hb hi_X9 (fun _ h => h) hown hK.1 hP 0 rfl rfl 0 (by decide) hf_9 (fun _ h9 => h9) rfl dX9_wearOff_29 ?_
        refine lv_iload hx hb dX9_wearOff_32 (lv_at hl 0 rfl) ?_
        refine lv_aload_n hx hb dX9_wearOff_34 rfl (lv_at hl 2 rfl) ?_
        refine lv_aload_n hx hb dX9_wearOff_35 rfl (lv_at hl 3 rfl) ?_
        refine va_get (D := g.1) (ci := 6) (v := .ref (a_e 1)) (C := RX6) (T := TX6) (N := 10) hx hb hi_X6 (fun _ h => h) hown hK.1 hP 2 rfl rfl 0 (by decide) hf_25 (fun _ h9 => h9) rfl dX9_wearOff_36 ?_
        refine lv_iload hx hb dX9_wearOff_39 (lv_at hl 0 rfl) ?_
        have n_41 : vp_in v5_19 1200 := (t_in (by omega))
        refine va_iald hx hb hK.1 hP 3 0 rfl rfl n_41 dX9_wearOff_41 ?_
        refine q_nm (fun x1 e_x1 => ?_)
        have e_x1 : x1 = (I_e 1) v5_19.toNatClampNeg := e_x1
        have g_x1 : x1.toInt = ((I_e 1) v5_19.toNatClampNeg).toInt := congrArg _ e_x1
        refine lv_iload_n hx hb dX9_wearOff_42 rfl (lv_at hl 5 rfl) ?_
        refine EffI.cv (wr := (wX6 g a_e I_e)) (w' := fun u3 => wX9 g a_z u3 ++ wX6 g a_e I_e) (As := [.int x1, .int six]) (kX9_leftOf l g a_z I_z_19 x1 six) fx (gUV (uT _) u_1621 u_1622 u_1623 u_57 u_1624) rfl hdX9_leftOf ⟨Nat.le_of_ble_eq_true rfl, Nat.le_of_ble_eq_true rfl⟩ hK hP hD hS hA [0, 1] [2, 3, 4, 5] [4, 5, 0, 1, 2, 3] rfl rfl rfl rfl (by decide) rfl (fun _ => rfl) rfl rfl rfl rfl hl.1 (Nat.le_of_ble_eq_true rfl) dX9_wearOff_43 (fun r2 u3 H locs p_r2 hP hD hS => ?_)
        have hP : va_P g.1 vwCl (wX9 g a_z u3 ++ wX6 g a_e I_e) H := hP
        have hD : va_D A (wX9 g a_z u3 ++ wX6 g a_e I_e) := hD
        have n_46 : vp_in v5_19 1200 := (t_in (by omega))
        obtain ⟨f4, e_f4⟩ : ∃ z, z = upd (u3 1) v5_19.toNatClampNeg r2 := ⟨_, rfl⟩
        refine va_iast hx hb hK.1 hP hD hS 1 0 rfl rfl n_46 dX9_wearOff_46 (fun H locs hP hD hS => ?_)
        have hP : va_P g.1 vwCl (wX9 g a_z (uR u3 1 f4) ++ wX6 g a_e I_e) H := by rw [e_f4]; exact hP
        have hD : va_D A (wX9 g a_z (uR u3 1 f4) ++ wX6 g a_e I_e) := by rw [e_f4]; exact hD
        refine lv_iload hx hb dX9_wearOff_47 (lv_at hl 1 rfl) ?_
        refine lv_aload_n hx hb dX9_wearOff_49 rfl (lv_at hl 3 rfl) ?_
        refine va_get (D := g.1) (ci := 6) (v := .ref (a_e 1)) (C := RX6) (T := TX6) (N := 10) hx hb hi_X6 (fun _ h => h) hown hK.1 hP 2 rfl rfl 0 (by decide) hf_25 (fun _ h9 => h9) rfl dX9_wearOff_50 ?_
        refine lv_iload hx hb dX9_wearOff_53 (lv_at hl 0 rfl) ?_
        have n_55 : vp_in v5_19 1200 := (t_in (by omega))
        refine va_iald hx hb hK.1 hP 3 0 rfl rfl n_55 dX9_wearOff_55 ?_
        refine q_nm (fun x5 e_x5 => ?_)
        have e_x5 : x5 = (I_e 1) v5_19.toNatClampNeg := e_x5
        have g_x5 : x5.toInt = ((I_e 1) v5_19.toNatClampNeg).toInt := congrArg _ e_x5
        refine PurI.cs (C := RJ6) (As := [.int x5]) (kJ6_bitCount_0f7a4 l g x5) fx (gUS (uT _) u_1626 u_999 u_1000 u_1001) rfl hdJ6_bitCount_0f7a4 ⟨Nat.le_of_ble_eq_true rfl, Nat.le_of_ble_eq_true rfl⟩ hK hP [] rfl rfl rfl hl.1 (Nat.le_of_ble_eq_true rfl) dX9_wearOff_56 (fun r6 p_r6 => ?_)
        refine lv_aload_n hx hb dX9_wearOff_59 rfl (lv_at hl 2 rfl) ?_
        refine va_get (D := g.1) (ci := 9) (v := .ref (a_z 1)) (C := RX9) (T := TX9) (N := 3) hx hb hi_X9 (fun _ h => h) hown hK.1 hP 0 rfl rfl 0 (by decide) hf_9 (fun _ h9 => h9) rfl dX9_wearOff_60 ?_
        refine lv_iload hx hb dX9_wearOff_63 (lv_at hl 0 rfl) ?_
        have n_65 : vp_in v5_19 1200 := (t_in (by omega))
        refine va_iald hx hb hK.1 hP 1 0 rfl rfl n_65 dX9_wearOff_65 ?_
        refine q_nm (fun x7 e_x7 => ?_)
        have e_x7 : x7 = f4 v5_19.toNatClampNeg := e_x7
        have g_x7 : x7.toInt = (f4 v5_19.toNatClampNeg).toInt := congrArg _ e_x7
        refine PurI.cs (C := RJ6) (As := [.int x7]) (kJ6_bitCount_0f7a4 l g x7) fx (gUS (uT _) u_1626 u_999 u_1000 u_1001) rfl hdJ6_bitCount_0f7a4 ⟨Nat.le_of_ble_eq_true rfl, Nat.le_of_ble_eq_true rfl⟩ hK hP [] rfl rfl rfl hl.1 (Nat.le_of_ble_eq_true rfl) dX9_wearOff_66 (fun r8 p_r8 => ?_)
        refine r_isub hx hb dX9_wearOff_69 rfl rfl (fun x9 e_x9 t_x9 => ?_)
        try have t_x9 := t_x9 (by omega)
        refine r_iadd hx hb dX9_wearOff_70 rfl rfl (fun x10 e_x10 t_x10 => ?_)
        try have t_x10 := t_x10 (by omega)
        refine lv_istore (lv' := [(4, .int x10), (5, .int v5_19), (0, .ref (a_z 0)), (1, .ref (a_e 0)), (2, .int seed), (3, .int six)]) hx hb dX9_wearOff_71 hl (by decide) rfl (fun ls hl => ?_)
        refine r_iinc (lv' := fun i11 => [(5, .int i11), (4, .int x10), (0, .ref (a_z 0)), (1, .ref (a_e 0)), (2, .int seed), (3, .int six)]) hx hb dX9_wearOff_73 hl (k := 1) rfl (by decide) rfl (by decide) (fun _ => rfl) (fun i11 e_i11 t_i11 ls hl => ?_)
        try have t_i11 := t_i11 (by omega)
        refine lv_goto (tgt := 19) hx hb dX9_wearOff_76 (by decide) ?_
        exact ih_19 x10 i11 (uR u3 1 f4) (by omega) ((p_r2 1 (by decide)).trans hm_19) (by omega) _ _ hP hD hS ls hl
  exact L19 ((1201 - (0 : Int32).toInt) + 1).toNat (0 : Int32) (0 : Int32) (uF (uF I_z 0 2 seed) 0 1 (I_e 0 3)) (by omega) rfl (by omega) _ _ hP hD hS ls hl

set_option maxHeartbeats 4000000 in
set_option maxRecDepth 100000 in
theorem kX9_leavesNoneBare (l : Launch) (g : gG) (a_z : Nat → Nat) (I_z : Nat → Nat → Int32) (a_e : Nat → Nat) (I_e : Nat → Nat → Int32) (seed : Int32) (six : Int32) (hE : EI I_e) (hW : WI I_z) : EffI l g yX9_leavesNoneBare wsX9_leavesNoneBare 1 [.ref (a_z 0), .ref (a_e 0), .int seed, .int six] (wX9 g a_z I_z ++ wX6 g a_e I_e) (fun (u : (Nat → Nat → Int32)) => wX9 g a_z u ++ wX6 g a_e I_e) (fun r (u : (Nat → Nat → Int32)) => (r = 0 ∨ r = 1) ∧ WI (u)) := by
  refine EffI.sz (cc := cX9_leavesNoneBare) (maxL := 5) (by decide) rfl (Nat.le_of_ble_eq_true rfl) (fun p e s m args below meth c A Q ls fx hK hP hD hA hS hl hret => ?_)
  have hx := fx.1
  have hb := fx.2.1
  have hml := fx.2.2.1
  have hown := fx.2.2.2.1
  have hts := fx.2.2.2.2
  have hl : lv_has ls 5 [(0, .ref (a_z 0)), (1, .ref (a_e 0)), (2, .int seed), (3, .int six)] := hl
  have hP : va_P g.1 vwCl (wX9 g a_z I_z ++ wX6 g a_e I_e) s.heap := hP
  have hf_19 := hts _ (uT _ _ u_155)
  have hf_22 := hts _ (uT _ _ u_1619)
  have hf_25 := hts _ (uT _ _ u_1620)
  have hi_X6 : ∀ w ∈ wsX60, w.before args s = true := fun w h => hts w (uT _ w (u_wsX60 w h))
  have hi_X9 : ∀ w ∈ wsX90, w.before args s = true := fun w h => hts w (uT _ w (u_wsX90 w h))
  have lm1 : (-1 : Int32).toInt = -1 := by decide
  have lm0 : (0 : Int32).toInt = 0 := by decide
  have lm2 : (1 : Int32).toInt = 1 := by decide
  have hE0 := hE.1
  have hE1 := hE.2
  refine lv_aload_n hx hb dX9_leavesNoneBare_0 rfl (lv_at hl 0 rfl) ?_
  refine lv_iload_n hx hb dX9_leavesNoneBare_1 rfl (lv_at hl 2 rfl) ?_
  refine va_put (D := g.1) (ci := 9) (v := .int seed) (ty := .int) (C := RX9) (T := TX9) (N := 3) hx hb hi_X9 (fun _ h => h) tyX9 tyX9_ok nmX9 hown hK.1 hP hD hS 0 rfl rfl 2 (by decide) hf_19 (fun _ h9 => h9) rfl (by decide +kernel) rfl rfl (Nat.le_of_ble_eq_true rfl) dX9_leavesNoneBare_2 (fun H locs hP hD hS => ?_)
  have hP : va_P g.1 vwCl (wX9 g a_z (uF I_z 0 2 seed) ++ wX6 g a_e I_e) H := hP
  have hD : va_D A (wX9 g a_z (uF I_z 0 2 seed) ++ wX6 g a_e I_e) := hD
  refine lv_iconst (v := 0) hx hb dX9_leavesNoneBare_5 (by decide) ?_
  refine lv_istore (lv' := [(4, .int (0 : Int32)), (0, .ref (a_z 0)), (1, .ref (a_e 0)), (2, .int seed), (3, .int six)]) hx hb dX9_leavesNoneBare_6 hl (by decide) rfl (fun ls hl => ?_)
  have L8 : ∀ (nn : Nat) (v4_8 : Int32) (I_z_8 : Nat → Nat → Int32), (hv_8 : 0 ≤ v4_8.toInt ∧ v4_8.toInt ≤ 1200) → (hm_8 : I_z_8 0 1 = I_z 0 1) → ((1201 - v4_8.toInt) < (nn : Int)) → ∀ (H : Heap) (locs : List Loc), va_P g.1 vwCl (wX9 g a_z I_z_8 ++ wX6 g a_e I_e) H → va_D A (wX9 g a_z I_z_8 ++ wX6 g a_e I_e) → va_S A s.heap H locs → ∀ ls : Array Slot, lv_has ls 5 [(4, .int v4_8), (0, .ref (a_z 0)), (1, .ref (a_e 0)), (2, .int seed), (3, .int six)] → W p l e (rm 1) s m args below meth c H locs 0 0 Q (F0 m 8 ls []) := by
    intro n_8
    induction n_8 with
    | zero =>
      intro v4_8 I_z_8 hv_8 hm_8 hms_8 H locs hP hD hS ls hl
      exfalso; omega
    | succ n_8 ih_8 =>
      intro v4_8 I_z_8 hv_8 hm_8 hms_8 H locs hP hD hS ls hl
      refine lv_iload hx hb dX9_leavesNoneBare_8 (lv_at hl 0 rfl) ?_
      refine lv_aload_n hx hb dX9_leavesNoneBare_10 rfl (lv_at hl 2 rfl) ?_
      refine va_get (D := g.1) (ci := 6) (v := .int (I_e 0 3)) (C := RX6) (T := TX6) (N := 10) hx hb hi_X6 (fun _ h => h) hown hK.1 hP 2 rfl rfl 3 (by decide) hf_22 (fun _ h9 => h9) rfl dX9_leavesNoneBare_11 ?_
      refine q_icmp_ge (tgt := 50) hx hb dX9_leavesNoneBare_14 (by decide) rfl rfl (fun k_14 => ?_) (fun k_14 => ?_)
      · refine lv_iconst (v := 1) hx hb dX9_leavesNoneBare_50 (by decide) ?_
        have lr : (1 : Int32).toInt = 1 := by decide
        refine hret 51 ls (1 : Int32) _ _ I_z_8 dX9_leavesNoneBare_51 (Or.inr rfl) hS hP hD ?_
        exact ⟨Or.inr rfl, (show 0 ≤ _ ∧ _ from (by rw [hm_8]; exact hW))⟩
      · refine lv_aload_n hx hb dX9_leavesNoneBare_17 rfl (lv_at hl 2 rfl) ?_
        refine va_get (D := g.1) (ci := 6) (v := .ref (a_e 1)) (C := RX6) (T := TX6) (N := 10) hx hb hi_X6 (fun _ h => h) hown hK.1 hP 2 rfl rfl 0 (by decide) hf_25 (fun _ h9 => h9) rfl dX9_leavesNoneBare_18 ?_
        refine lv_iload hx hb dX9_leavesNoneBare_21 (lv_at hl 0 rfl) ?_
        have n_23 : vp_in v4_8 1200 := (t_in (by omega))
        refine va_iald hx hb hK.1 hP 3 0 rfl rfl n_23 dX9_leavesNoneBare_23 ?_
        refine q_nm (fun x1 e_x1 => ?_)
        have e_x1 : x1 = (I_e 1) v4_8.toNatClampNeg := e_x1
        have g_x1 : x1.toInt = ((I_e 1) v4_8.toNatClampNeg).toInt := congrArg _ e_x1
        refine q_if_eq (tgt := 44) hx hb dX9_leavesNoneBare_24 (by decide) rfl (fun b_24 k_24 => ?_) (fun b_24 k_24 => ?_)
        · refine r_iinc (lv' := fun i2 => [(4, .int i2), (0, .ref (a_z 0)), (1, .ref (a_e 0)), (2, .int seed), (3, .int six)]) hx hb dX9_leavesNoneBare_44 hl (k := 0) rfl (by decide) rfl (by decide) (fun _ => rfl) (fun i2 e_i2 t_i2 ls hl => ?_)
          try have t_i2 := t_i2 (by omega)
          refine lv_goto (tgt := 8) hx hb dX9_leavesNoneBare_47 (by decide) ?_
          exact ih_8 i2 I_z_8 (by omega) (by exact hm_8) (by omega) _ _ hP hD hS ls hl
        · refine lv_aload_n hx hb dX9_leavesNoneBare_27 rfl (lv_at hl 1 rfl) ?_
          refine lv_aload_n hx hb dX9_leavesNoneBare_28 rfl (lv_at hl 2 rfl) ?_
          refine va_get (D := g.1) (ci := 6) (v := .ref (a_e 1)) (C := RX6) (T := TX6) (N := 10) hx hb hi_X6 (fun _ h => h) hown hK.1 hP 2 rfl rfl 0 (by decide) hf_25 (fun _ h9 => h9) rfl dX9_leavesNoneBare_29 ?_
          refine lv_iload hx hb dX9_leavesNoneBare_32 (lv_at hl 0 rfl) ?_
          have n_34 : vp_in v4_8 1200 := (t_in (by omega))
          refine va_iald hx hb hK.1 hP 3 0 rfl rfl n_34 dX9_leavesNoneBare_34 ?_
          refine q_nm (fun x3 e_x3 => ?_)
          have e_x3 : x3 = (I_e 1) v4_8.toNatClampNeg := e_x3
          have g_x3 : x3.toInt = ((I_e 1) v4_8.toNatClampNeg).toInt := congrArg _ e_x3
          refine lv_iload_n hx hb dX9_leavesNoneBare_35 rfl (lv_at hl 4 rfl) ?_
          refine EffI.cv (wr := (wX6 g a_e I_e)) (w' := fun u5 => wX9 g a_z u5 ++ wX6 g a_e I_e) (As := [.int x3, .int six]) (kX9_leftOf l g a_z I_z_8 x3 six) fx (gUV (uT _) u_1621 u_1622 u_1623 u_57 u_1624) rfl hdX9_leftOf ⟨Nat.le_of_ble_eq_true rfl, Nat.le_of_ble_eq_true rfl⟩ hK hP hD hS hA [0, 1] [2, 3, 4, 5] [4, 5, 0, 1, 2, 3] rfl rfl rfl rfl (by decide) rfl (fun _ => rfl) rfl rfl rfl rfl hl.1 (Nat.le_of_ble_eq_true rfl) dX9_leavesNoneBare_36 (fun r4 u5 H locs p_r4 hP hD hS => ?_)
          have hP : va_P g.1 vwCl (wX9 g a_z u5 ++ wX6 g a_e I_e) H := hP
          have hD : va_D A (wX9 g a_z u5 ++ wX6 g a_e I_e) := hD
          refine q_if_ne (tgt := 44) hx hb dX9_leavesNoneBare_39 (by decide) rfl (fun b_39 k_39 => ?_) (fun b_39 k_39 => ?_)
          · refine r_iinc (lv' := fun i6 => [(4, .int i6), (0, .ref (a_z 0)), (1, .ref (a_e 0)), (2, .int seed), (3, .int six)]) hx hb dX9_leavesNoneBare_44 hl (k := 0) rfl (by decide) rfl (by decide) (fun _ => rfl) (fun i6 e_i6 t_i6 ls hl => ?_)
            try have t_i6 := t_i6 (by omega)
            refine lv_goto (tgt := 8) hx hb dX9_leavesNoneBare_47 (by decide) ?_
            exact ih_8 i6 u5 (by omega) (by first | exact (p_r4 1 (by decide)).trans hm_8 | exact hm_8) (by omega) _ _ hP hD hS ls hl
          · refine lv_iconst (v := 0) hx hb dX9_leavesNoneBare_42 (by decide) ?_
            refine hret 43 ls (0 : Int32) _ _ u5 dX9_leavesNoneBare_43 (Or.inl rfl) hS hP hD ?_
            exact ⟨Or.inl rfl, (show 0 ≤ _ ∧ _ from (by rw [p_r4 1 (by decide), hm_8]; exact hW))⟩
  exact L8 ((1201 - (0 : Int32).toInt) + 1).toNat (0 : Int32) (uF I_z 0 2 seed) (by omega) rfl (by omega) _ _ hP hD hS ls hl
