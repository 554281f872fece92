
/-- where the Reader stands: a RULE is being read only while there is room; a sign is one of five -/
def QA (aw ru sg : Int) : Prop := (1 ≤ aw ∧ aw ≤ 5 → ru < 24) ∧ (aw = 6 → 0 ≤ sg ∧ sg ≤ 4)
theorem TI.u2 {I I' : Nat → Nat → Int32} {k : Nat} {x : Int32} (h : TI I) (e : I' 2 = upd (I 2) k x) (hx : 0 ≤ x.toInt ∧ x.toInt ≤ 6) (e0 : I' 0 = I 0) (e1 : I' 1 = I 1) (e3 : I' 3 = I 3) (e4 : I' 4 = I 4) (e5 : I' 5 = I 5) (e6 : I' 6 = I 6) : TI I' := by
  unfold TI; rw [e0, e1, e, e3, e4, e5, e6]
  exact ⟨h.1, h.2.1, h.2.2.1, h.2.2.2.1, upd_all (P := fun z => 0 ≤ z.toInt ∧ z.toInt ≤ 6) h.lc hx, h.cc, h.cd, h.lt, h.cl⟩
theorem TI.u3 {I I' : Nat → Nat → Int32} {k : Nat} {x : Int32} (h : TI I) (e : I' 3 = upd (I 3) k x) (hx : 0 ≤ x.toInt ∧ x.toInt ≤ 3) (e0 : I' 0 = I 0) (e1 : I' 1 = I 1) (e2 : I' 2 = I 2) (e4 : I' 4 = I 4) (e5 : I' 5 = I 5) (e6 : I' 6 = I 6) : TI I' := by
  unfold TI; rw [e0, e1, e, e2, e4, e5, e6]
  exact ⟨h.1, h.2.1, h.2.2.1, h.2.2.2.1, h.lc, upd_all (P := fun z => 0 ≤ z.toInt ∧ z.toInt ≤ 3) h.cc hx, h.cd, h.lt, h.cl⟩
theorem TI.u4 {I I' : Nat → Nat → Int32} {k : Nat} {x : Int32} (h : TI I) (e : I' 4 = upd (I 4) k x) (hx : 0 ≤ x.toInt ∧ x.toInt ≤ 4) (e0 : I' 0 = I 0) (e1 : I' 1 = I 1) (e2 : I' 2 = I 2) (e3 : I' 3 = I 3) (e5 : I' 5 = I 5) (e6 : I' 6 = I 6) : TI I' := by
  unfold TI; rw [e0, e1, e, e2, e3, e5, e6]
  exact ⟨h.1, h.2.1, h.2.2.1, h.2.2.2.1, h.lc, h.cc, upd_all (P := fun z => 0 ≤ z.toInt ∧ z.toInt ≤ 4) h.cd hx, h.lt, h.cl⟩
theorem TI.ur {I I' : Nat → Nat → Int32} (h : TI I) (hx : 0 ≤ (I' 0 0).toInt ∧ (I' 0 0).toInt ≤ 24) (e1 : I' 1 = I 1) (e2 : I' 2 = I 2) (e3 : I' 3 = I 3) (e4 : I' 4 = I 4) (e5 : I' 5 = I 5) (e6 : I' 6 = I 6) : TI I' := by
  unfold TI; rw [e1, e2, e3, e4, e5, e6]
  exact ⟨hx, h.2.1, h.2.2.1, h.2.2.2.1, h.lc, h.cc, h.cd, h.lt, h.cl⟩
theorem TI.us {I I' : Nat → Nat → Int32} {s x : Int32} (h : TI I) (e : I' 1 = upd (I 1) s.toNatClampNeg x) (hs : 0 ≤ s.toInt ∧ s.toInt ≤ 4) (hx : 0 ≤ x.toInt ∧ x.toInt ≤ 63 ∧ (s.toInt = 3 → 4 ≤ x.toInt ∧ x.toInt ≤ 40) ∧ (s.toInt = 4 → 2 ≤ x.toInt ∧ x.toInt ≤ 30)) (e0 : I' 0 = I 0) (e2 : I' 2 = I 2) (e3 : I' 3 = I 3) (e4 : I' 4 = I 4) (e5 : I' 5 = I 5) (e6 : I' 6 = I 6) : TI I' := by
  have i1 := t_cl (i := s) rfl hs.1
  unfold TI; rw [e0, e, e2, e3, e4, e5, e6]
  refine ⟨h.1, upd_all (P := fun z => 0 ≤ z.toInt ∧ z.toInt ≤ 63) h.sg (by omega), ?_, ?_, h.lc, h.cc, h.cd, h.lt, h.cl⟩
  · by_cases q : 3 = s.toNatClampNeg
    · rw [upd_at q]; exact hx.2.2.1 (by omega)
    · rw [pk_un q]; exact h.li
  · by_cases q : 4 = s.toNatClampNeg
    · rw [upd_at q]; exact hx.2.2.2 (by omega)
    · rw [pk_un q]; exact h.pa
set_option maxHeartbeats 4000000 in
set_option maxRecDepth 100000 in
theorem kX3_isWord (l : Launch) (g : gG) (ad av : Nat → Nat) (a_r : Nat → Nat) (I_r : Nat → Nat → Int32) (a_x : Nat → Nat) (n_x : Nat) (I_x : Nat → Nat → Int32) (w : Nat) (h_w : w < 12) (h_r : 0 ≤ (I_r 0 4).toInt ∧ (I_r 0 4).toInt ≤ (I_r 0 5).toInt ∧ (I_r 0 5).toInt ≤ (n_x : Int) ∧ n_x ≤ 1000) : PurIS l g ad av yX3_isWord wsX3_isWord 4 [.ref (a_r 0), .ref (a_x 0), .ref (ad w)] (wX3 g a_r I_r ++ wArr g a_x n_x I_x) (fun r => bP ((I_r 0 3).toInt = 0 ∧ (fxW (fxB (I_x 0)) (I_r 0 4).toInt (I_r 0 5).toInt) = fxWs w) (¬ ((I_r 0 3).toInt = 0 ∧ (fxW (fxB (I_x 0)) (I_r 0 4).toInt (I_r 0 5).toInt) = fxWs w)) r) := by
  refine PurIS.sz (cc := cX3_isWord) (maxL := 4) (by decide) rfl (Nat.le_of_ble_eq_true rfl) (fun p e s m args below meth c Q ls fx hK hP hJ hl hret => ?_)
  have hx := fx.1
  have hb := fx.2.1
  have hml := fx.2.2.1
  have hown := fx.2.2.2.1
  have hts := fx.2.2.2.2
  have hl : lv_has ls 4 [(0, .ref (a_r 0)), (1, .ref (a_x 0)), (2, .ref (ad w))] := hl
  have hP : va_P g.1 vwCl (wX3 g a_r I_r ++ wArr g a_x n_x I_x) s.heap := hP
  have hf_25 := hts _ (uT _ _ u_79)
  have hf_28 := hts _ (uT _ _ u_80)
  have hf_31 := hts _ (uT _ _ u_81)
  have hi_X3 : ∀ w ∈ wsX30, w.before args s = true := fun w h => hts w (uT _ w (u_wsX30 w h))
  have lm1 : (-1 : Int32).toInt = -1 := by decide
  have lm0 : (0 : Int32).toInt = 0 := by decide
  have lm2 : (1 : Int32).toInt = 1 := by decide
  have hlw := lenS_ok w h_w
  have hws := fxWs_len w h_w
  refine lv_aload_n hx hb dX3_isWord_0 rfl (lv_at hl 0 rfl) ?_
  refine va_get (D := g.1) (ci := 3) (v := .int (I_r 0 3)) (C := RX3) (T := TX3) (N := 10) hx hb hi_X3 (fun _ h => h) hown hK.1 hP 0 rfl rfl 3 (by decide) hf_25 (fun _ h9 => h9) rfl dX3_isWord_1 ?_
  refine q_if_ne (tgt := 23) hx hb dX3_isWord_4 (by decide) rfl (fun b_4 k_4 => ?_) (fun b_4 k_4 => ?_)
  · refine lv_iconst (v := 0) hx hb dX3_isWord_23 (by decide) ?_
    exact hret 24 ls (0 : Int32) dX3_isWord_24 (Or.inl rfl) (by first | exact Or.inr ⟨rfl, fun q => absurd q.1 (by omega)⟩ | exact Or.inr ⟨rfl, fun q => fxW.nl (by rw [hws]; omega) q.2⟩)
  · refine lv_aload_n hx hb dX3_isWord_7 rfl (lv_at hl 0 rfl) ?_
    refine va_get (D := g.1) (ci := 3) (v := .int (I_r 0 5)) (C := RX3) (T := TX3) (N := 10) hx hb hi_X3 (fun _ h => h) hown hK.1 hP 0 rfl rfl 5 (by decide) hf_31 (fun _ h9 => h9) rfl dX3_isWord_8 ?_
    refine lv_aload_n hx hb dX3_isWord_11 rfl (lv_at hl 0 rfl) ?_
    refine va_get (D := g.1) (ci := 3) (v := .int (I_r 0 4)) (C := RX3) (T := TX3) (N := 10) hx hb hi_X3 (fun _ h => h) hown hK.1 hP 0 rfl rfl 4 (by decide) hf_28 (fun _ h9 => h9) rfl dX3_isWord_12 ?_
    refine r_isub hx hb dX3_isWord_15 rfl rfl (fun x1 e_x1 t_x1 => ?_)
    try have t_x1 := t_x1 (by omega)
    refine lv_aload_n hx hb dX3_isWord_16 rfl (lv_at hl 2 rfl) ?_
    refine PurJ.cv (As := []) (kJ0_length_8abf5 l ad av w h_w) h_w fx (gUV (uT _) u_393 u_394 u_395 u_396 u_397) rfl hdJ0_length_8abf5 ⟨Nat.le_of_ble_eq_true rfl, Nat.le_of_ble_eq_true rfl⟩ hJ va_S.rf rfl rfl hl.1 (Nat.le_of_ble_eq_true rfl) dX3_isWord_17 (fun r2 p_r2 => ?_)
    have hl17 := p_r2
    refine q_icmp_eq (tgt := 25) hx hb dX3_isWord_20 (by decide) rfl rfl (fun k_20 => ?_) (fun k_20 => ?_)
    · refine lv_iconst (v := 0) hx hb dX3_isWord_25 (by decide) ?_
      refine lv_istore_n (lv' := [(3, .int (0 : Int32)), (0, .ref (a_r 0)), (1, .ref (a_x 0)), (2, .ref (ad w))]) hx hb dX3_isWord_26 rfl hl (by decide) rfl (fun ls hl => ?_)
      have L27 : ∀ (nn : Nat) (v3_27 : Int32), (hv_27 : 0 ≤ v3_27.toInt ∧ v3_27.toInt ≤ 100) → (hm_27 : ∀ k : Nat, (k : Int) < v3_27.toInt → fxB (I_x 0) ((I_r 0 4).toInt.toNat + k) = (fxWs w).getD k 0) → ((101 - v3_27.toInt) < (nn : Int)) → ∀ ls : Array Slot, lv_has ls 4 [(3, .int v3_27), (0, .ref (a_r 0)), (1, .ref (a_x 0)), (2, .ref (ad w))] → W p l e (rm 4) s m args below meth c s.heap [] 0 0 Q (F0 m 27 ls []) := by
        intro n_27
        induction n_27 with
        | zero =>
          intro v3_27 hv_27 hm_27 hms_27 ls hl
          exfalso; omega
        | succ n_27 ih_27 =>
          intro v3_27 hv_27 hm_27 hms_27 ls hl
          refine lv_iload_n hx hb dX3_isWord_27 rfl (lv_at hl 0 rfl) ?_
          refine lv_aload_n hx hb dX3_isWord_28 rfl (lv_at hl 3 rfl) ?_
          refine PurJ.cv (As := []) (kJ0_length_8abf5 l ad av w h_w) h_w fx (gUV (uT _) u_393 u_394 u_395 u_396 u_397) rfl hdJ0_length_8abf5 ⟨Nat.le_of_ble_eq_true rfl, Nat.le_of_ble_eq_true rfl⟩ hJ va_S.rf rfl rfl hl.1 (Nat.le_of_ble_eq_true rfl) dX3_isWord_29 (fun r3 p_r3 => ?_)
          have hl29 := p_r3
          refine q_icmp_ge (tgt := 59) hx hb dX3_isWord_32 (by decide) rfl rfl (fun k_32 => ?_) (fun k_32 => ?_)
          · refine lv_iconst (v := 1) hx hb dX3_isWord_59 (by decide) ?_
            have lr : (1 : Int32).toInt = 1 := by decide
            exact hret 60 ls (1 : Int32) dX3_isWord_60 (Or.inr rfl) (Or.inl ⟨rfl, by omega, fxW.eq (by rw [hws]; omega) (fun k hk => hm_27 k (by rw [hws] at hk; omega))⟩)
          · refine lv_aload_n hx hb dX3_isWord_35 rfl (lv_at hl 2 rfl) ?_
            refine lv_aload_n hx hb dX3_isWord_36 rfl (lv_at hl 1 rfl) ?_
            refine va_get (D := g.1) (ci := 3) (v := .int (I_r 0 4)) (C := RX3) (T := TX3) (N := 10) hx hb hi_X3 (fun _ h => h) hown hK.1 hP 0 rfl rfl 4 (by decide) hf_28 (fun _ h9 => h9) rfl dX3_isWord_37 ?_
            refine lv_iload_n hx hb dX3_isWord_40 rfl (lv_at hl 0 rfl) ?_
            refine r_iadd hx hb dX3_isWord_41 rfl rfl (fun x4 e_x4 t_x4 => ?_)
            try have t_x4 := t_x4 (by omega)
            have n_42 : vp_in x4 n_x := (t_in (by omega))
            refine va_iald hx hb hK.1 hP 1 0 rfl rfl n_42 dX3_isWord_42 ?_
            refine q_nm (fun x5 e_x5 => ?_)
            have e_x5 : x5 = (I_x 0) x4.toNatClampNeg := e_x5
            have g_x5 : x5.toInt = ((I_x 0) x4.toNatClampNeg).toInt := congrArg _ e_x5
            refine lv_aload_n hx hb dX3_isWord_43 rfl (lv_at hl 3 rfl) ?_
            refine lv_iload_n hx hb dX3_isWord_44 rfl (lv_at hl 0 rfl) ?_
            refine PurJ.cv (As := [.int v3_27]) (kJ0_charAt_5068e l ad av w h_w v3_27 (by omega)) h_w fx (gUV (uT _) u_405 u_406 u_407 u_396 u_408) rfl hdJ0_charAt_5068e ⟨Nat.le_of_ble_eq_true rfl, Nat.le_of_ble_eq_true rfl⟩ hJ va_S.rf rfl rfl hl.1 (Nat.le_of_ble_eq_true rfl) dX3_isWord_45 (fun r6 p_r6 => ?_)
            refine q_icmp_eq (tgt := 53) hx hb dX3_isWord_48 (by decide) rfl rfl (fun k_48 => ?_) (fun k_48 => ?_)
            · refine r_iinc (lv' := fun i7 => [(3, .int i7), (0, .ref (a_r 0)), (1, .ref (a_x 0)), (2, .ref (ad w))]) hx hb dX3_isWord_53 hl (k := 0) rfl (by decide) rfl (by decide) (fun _ => rfl) (fun i7 e_i7 t_i7 ls hl => ?_)
              try have t_i7 := t_i7 (by omega)
              refine lv_goto (tgt := 27) hx hb dX3_isWord_56 (by decide) ?_
              exact ih_27 i7 (by omega) (fun k q => fx_isw hm_27 e_x5 (by omega) (by omega) (by rw [fxWs_at w h_w v3_27.toInt.toNat (by omega), p_r6]; rfl) k_48 (by omega) k q) (by omega) ls hl
            · refine lv_iconst (v := 0) hx hb dX3_isWord_51 (by decide) ?_
              exact hret 52 ls (0 : Int32) dX3_isWord_52 (Or.inl rfl) (Or.inr ⟨rfl, fun q => fxW.ne (k := v3_27.toInt.toNat) (by rw [hws]; omega) (fx_nsw e_x5 (by omega) (by omega) (by rw [fxWs_at w h_w v3_27.toInt.toNat (by omega), p_r6]; rfl) k_48) (by rw [hws]; omega) q.2⟩)
      exact L27 ((101 - (0 : Int32).toInt) + 1).toNat (0 : Int32) (by omega) (fun k q => by rw [lm0] at q; omega) (by omega) ls hl
    · refine lv_iconst (v := 0) hx hb dX3_isWord_23 (by decide) ?_
      exact hret 24 ls (0 : Int32) dX3_isWord_24 (Or.inl rfl) (by first | exact Or.inr ⟨rfl, fun q => absurd q.1 (by omega)⟩ | exact Or.inr ⟨rfl, fun q => fxW.nl (by rw [hws]; omega) q.2⟩)

set_option maxHeartbeats 4000000 in
set_option maxRecDepth 100000 in
theorem kX3_signNamed (l : Launch) (g : gG) (ad av : Nat → Nat) (a_r : Nat → Nat) (I_r : Nat → Nat → Int32) (a_x : Nat → Nat) (n_x : Nat) (I_x : Nat → Nat → Int32) (h_r : 0 ≤ (I_r 0 4).toInt ∧ (I_r 0 4).toInt ≤ (I_r 0 5).toInt ∧ (I_r 0 5).toInt ≤ (n_x : Int) ∧ n_x ≤ 1000) : PurIS l g ad av yX3_signNamed wsX3_signNamed 5 [.ref (a_r 0), .ref (a_x 0)] (wX3 g a_r I_r ++ wArr g a_x n_x I_x) (fun r => (r.toInt = -1 ∧ ∀ k : Nat, 1 ≤ k → k ≤ 5 → ¬ fxIs (I_r 0 3).toInt (fxW (fxB (I_x 0)) (I_r 0 4).toInt (I_r 0 5).toInt) k) ∨ (0 ≤ r.toInt ∧ r.toInt ≤ 4 ∧ fxIs (I_r 0 3).toInt (fxW (fxB (I_x 0)) (I_r 0 4).toInt (I_r 0 5).toInt) (r.toInt.toNat + 1))) := by
  refine PurIS.st (cc := cX3_signNamed) (maxL := 2) (by decide) rfl (Nat.le_of_ble_eq_true rfl) (fun p e s m args below meth c Q ls fx hK hP hJ hl hret => ?_)
  have hx := fx.1
  have hb := fx.2.1
  have hml := fx.2.2.1
  have hown := fx.2.2.2.1
  have hts := fx.2.2.2.2
  have hl : lv_has ls 2 [(0, .ref (a_r 0)), (1, .ref (a_x 0))] := hl
  have hP : va_P g.1 vwCl (wX3 g a_r I_r ++ wArr g a_x n_x I_x) s.heap := hP
  have lm1 : (-1 : Int32).toInt = -1 := by decide
  have lm0 : (0 : Int32).toInt = 0 := by decide
  have lm2 : (1 : Int32).toInt = 1 := by decide
  have lq2 : (2 : Int32).toInt = 2 := by decide
  have lq3 : (3 : Int32).toInt = 3 := by decide
  have lq4 : (4 : Int32).toInt = 4 := by decide
  refine lv_aload_n hx hb dX3_signNamed_0 rfl (lv_at hl 0 rfl) ?_
  refine lv_aload_n hx hb dX3_signNamed_1 rfl (lv_at hl 1 rfl) ?_
  refine va_ldcS hx hb hown (jF.l2 hJ) dX3_signNamed_2 ?_
  refine PurIS.cv (As := [.ref (a_x 0), .ref (ad 2)]) (kX3_isWord l g ad av a_r I_r a_x n_x I_x 2 (by decide) (by omega)) fx (gUV (uT _) u_389 u_390 u_391 u_27 u_392) rfl hdX3_isWord ⟨Nat.le_of_ble_eq_true rfl, Nat.le_of_ble_eq_true rfl⟩ hJ va_S.rf hK hP [0, 1] rfl rfl rfl rfl rfl hl.1 (Nat.le_of_ble_eq_true rfl) dX3_signNamed_4 (fun r1 p_r1 => ?_)
  refine q_if_eq (tgt := 12) hx hb dX3_signNamed_7 (by decide) rfl (fun b_7 k_7 => ?_) (fun b_7 k_7 => ?_)
  · have q_7 := bP.f p_r1 b_7
    refine lv_aload_n hx hb dX3_signNamed_12 rfl (lv_at hl 0 rfl) ?_
    refine lv_aload_n hx hb dX3_signNamed_13 rfl (lv_at hl 1 rfl) ?_
    refine va_ldcS hx hb hown (jF.l3 hJ) dX3_signNamed_14 ?_
    refine PurIS.cv (As := [.ref (a_x 0), .ref (ad 3)]) (kX3_isWord l g ad av a_r I_r a_x n_x I_x 3 (by decide) (by omega)) fx (gUV (uT _) u_389 u_390 u_391 u_27 u_392) rfl hdX3_isWord ⟨Nat.le_of_ble_eq_true rfl, Nat.le_of_ble_eq_true rfl⟩ hJ va_S.rf hK hP [0, 1] rfl rfl rfl rfl rfl hl.1 (Nat.le_of_ble_eq_true rfl) dX3_signNamed_16 (fun r2 p_r2 => ?_)
    refine q_if_eq (tgt := 24) hx hb dX3_signNamed_19 (by decide) rfl (fun b_19 k_19 => ?_) (fun b_19 k_19 => ?_)
    · have q_19 := bP.f p_r2 b_19
      refine lv_aload_n hx hb dX3_signNamed_24 rfl (lv_at hl 0 rfl) ?_
      refine lv_aload_n hx hb dX3_signNamed_25 rfl (lv_at hl 1 rfl) ?_
      refine va_ldcS hx hb hown (jF.l4 hJ) dX3_signNamed_26 ?_
      refine PurIS.cv (As := [.ref (a_x 0), .ref (ad 4)]) (kX3_isWord l g ad av a_r I_r a_x n_x I_x 4 (by decide) (by omega)) fx (gUV (uT _) u_389 u_390 u_391 u_27 u_392) rfl hdX3_isWord ⟨Nat.le_of_ble_eq_true rfl, Nat.le_of_ble_eq_true rfl⟩ hJ va_S.rf hK hP [0, 1] rfl rfl rfl rfl rfl hl.1 (Nat.le_of_ble_eq_true rfl) dX3_signNamed_28 (fun r3 p_r3 => ?_)
      refine q_if_eq (tgt := 36) hx hb dX3_signNamed_31 (by decide) rfl (fun b_31 k_31 => ?_) (fun b_31 k_31 => ?_)
      · have q_31 := bP.f p_r3 b_31
        refine lv_aload_n hx hb dX3_signNamed_36 rfl (lv_at hl 0 rfl) ?_
        refine lv_aload_n hx hb dX3_signNamed_37 rfl (lv_at hl 1 rfl) ?_
        refine va_ldcS hx hb hown (jF.l5 hJ) dX3_signNamed_38 ?_
        refine PurIS.cv (As := [.ref (a_x 0), .ref (ad 5)]) (kX3_isWord l g ad av a_r I_r a_x n_x I_x 5 (by decide) (by omega)) fx (gUV (uT _) u_389 u_390 u_391 u_27 u_392) rfl hdX3_isWord ⟨Nat.le_of_ble_eq_true rfl, Nat.le_of_ble_eq_true rfl⟩ hJ va_S.rf hK hP [0, 1] rfl rfl rfl rfl rfl hl.1 (Nat.le_of_ble_eq_true rfl) dX3_signNamed_40 (fun r4 p_r4 => ?_)
        refine q_if_eq (tgt := 48) hx hb dX3_signNamed_43 (by decide) rfl (fun b_43 k_43 => ?_) (fun b_43 k_43 => ?_)
        · have q_43 := bP.f p_r4 b_43
          refine lv_aload_n hx hb dX3_signNamed_48 rfl (lv_at hl 0 rfl) ?_
          refine lv_aload_n hx hb dX3_signNamed_49 rfl (lv_at hl 1 rfl) ?_
          refine va_ldcS hx hb hown (jF.l6 hJ) dX3_signNamed_50 ?_
          refine PurIS.cv (As := [.ref (a_x 0), .ref (ad 6)]) (kX3_isWord l g ad av a_r I_r a_x n_x I_x 6 (by decide) (by omega)) fx (gUV (uT _) u_389 u_390 u_391 u_27 u_392) rfl hdX3_isWord ⟨Nat.le_of_ble_eq_true rfl, Nat.le_of_ble_eq_true rfl⟩ hJ va_S.rf hK hP [0, 1] rfl rfl rfl rfl rfl hl.1 (Nat.le_of_ble_eq_true rfl) dX3_signNamed_52 (fun r5 p_r5 => ?_)
          refine q_if_eq (tgt := 62) hx hb dX3_signNamed_55 (by decide) rfl (fun b_55 k_55 => ?_) (fun b_55 k_55 => ?_)
          · have q_55 := bP.f p_r5 b_55
            refine lv_iconst (v := -1) hx hb dX3_signNamed_62 (by decide) ?_
            exact hret 63 ls (-1 : Int32) dX3_signNamed_63 (by first | exact Or.inr (fx_sgn (k := 4) (by decide) (by decide) q_55 fxWs_6) | exact Or.inl ⟨by decide, fx_nsg q_7 q_19 q_31 q_43 q_55⟩)
          · have q_55 := bP.t p_r5 b_55
            refine lv_iconst (v := 4) hx hb dX3_signNamed_58 (by decide) ?_
            refine lv_goto (tgt := 63) hx hb dX3_signNamed_59 (by decide) ?_
            have lr : (4 : Int32).toInt = 4 := by decide
            exact hret 63 ls (4 : Int32) dX3_signNamed_63 (by first | exact Or.inr (fx_sgn (k := 4) (by decide) (by decide) q_55 fxWs_6) | exact Or.inl ⟨by decide, fx_nsg q_7 q_19 q_31 q_43 q_55⟩)
        · have q_43 := bP.t p_r4 b_43
          refine lv_iconst (v := 3) hx hb dX3_signNamed_46 (by decide) ?_
          have lr : (3 : Int32).toInt = 3 := by decide
          exact hret 47 ls (3 : Int32) dX3_signNamed_47 (Or.inr (fx_sgn (k := 3) (by decide) (by decide) q_43 fxWs_5))
      · have q_31 := bP.t p_r3 b_31
        refine lv_iconst (v := 2) hx hb dX3_signNamed_34 (by decide) ?_
        have lr : (2 : Int32).toInt = 2 := by decide
        exact hret 35 ls (2 : Int32) dX3_signNamed_35 (Or.inr (fx_sgn (k := 2) (by decide) (by decide) q_31 fxWs_4))
    · have q_19 := bP.t p_r2 b_19
      refine lv_iconst (v := 1) hx hb dX3_signNamed_22 (by decide) ?_
      have lr : (1 : Int32).toInt = 1 := by decide
      exact hret 23 ls (1 : Int32) dX3_signNamed_23 (Or.inr (fx_sgn (k := 1) (by decide) (by decide) q_19 fxWs_3))
  · have q_7 := bP.t p_r1 b_7
    refine lv_iconst (v := 0) hx hb dX3_signNamed_10 (by decide) ?_
    exact hret 11 ls (0 : Int32) dX3_signNamed_11 (Or.inr (fx_sgn (k := 0) (by decide) (by decide) q_7 fxWs_2))

set_option maxHeartbeats 4000000 in
set_option maxRecDepth 100000 in
theorem kX3_condNamed (l : Launch) (g : gG) (ad av : Nat → Nat) (a_r : Nat → Nat) (I_r : Nat → Nat → Int32) (a_x : Nat → Nat) (n_x : Nat) (I_x : Nat → Nat → Int32) (h_r : 0 ≤ (I_r 0 4).toInt ∧ (I_r 0 4).toInt ≤ (I_r 0 5).toInt ∧ (I_r 0 5).toInt ≤ (n_x : Int) ∧ n_x ≤ 1000) : PurIS l g ad av yX3_condNamed wsX3_condNamed 5 [.ref (a_r 0), .ref (a_x 0)] (wX3 g a_r I_r ++ wArr g a_x n_x I_x) (fun r => (r.toInt = 0 ∧ ∀ k : Nat, 7 ≤ k → k ≤ 10 → ¬ fxIs (I_r 0 3).toInt (fxW (fxB (I_x 0)) (I_r 0 4).toInt (I_r 0 5).toInt) k) ∨ (1 ≤ r.toInt ∧ r.toInt ≤ 4 ∧ fxIs (I_r 0 3).toInt (fxW (fxB (I_x 0)) (I_r 0 4).toInt (I_r 0 5).toInt) (r.toInt.toNat + 6))) := by
  refine PurIS.st (cc := cX3_condNamed) (maxL := 2) (by decide) rfl (Nat.le_of_ble_eq_true rfl) (fun p e s m args below meth c Q ls fx hK hP hJ hl hret => ?_)
  have hx := fx.1
  have hb := fx.2.1
  have hml := fx.2.2.1
  have hown := fx.2.2.2.1
  have hts := fx.2.2.2.2
  have hl : lv_has ls 2 [(0, .ref (a_r 0)), (1, .ref (a_x 0))] := hl
  have hP : va_P g.1 vwCl (wX3 g a_r I_r ++ wArr g a_x n_x I_x) s.heap := hP
  have lm1 : (-1 : Int32).toInt = -1 := by decide
  have lm0 : (0 : Int32).toInt = 0 := by decide
  have lm2 : (1 : Int32).toInt = 1 := by decide
  have lq2 : (2 : Int32).toInt = 2 := by decide
  have lq3 : (3 : Int32).toInt = 3 := by decide
  have lq4 : (4 : Int32).toInt = 4 := by decide
  refine lv_aload_n hx hb dX3_condNamed_0 rfl (lv_at hl 0 rfl) ?_
  refine lv_aload_n hx hb dX3_condNamed_1 rfl (lv_at hl 1 rfl) ?_
  refine va_ldcS hx hb hown (jF.l7 hJ) dX3_condNamed_2 ?_
  refine PurIS.cv (As := [.ref (a_x 0), .ref (ad 7)]) (kX3_isWord l g ad av a_r I_r a_x n_x I_x 7 (by decide) (by omega)) fx (gUV (uT _) u_389 u_390 u_391 u_27 u_392) rfl hdX3_isWord ⟨Nat.le_of_ble_eq_true rfl, Nat.le_of_ble_eq_true rfl⟩ hJ va_S.rf hK hP [0, 1] rfl rfl rfl rfl rfl hl.1 (Nat.le_of_ble_eq_true rfl) dX3_condNamed_4 (fun r1 p_r1 => ?_)
  refine q_if_eq (tgt := 12) hx hb dX3_condNamed_7 (by decide) rfl (fun b_7 k_7 => ?_) (fun b_7 k_7 => ?_)
  · have q_7 := bP.f p_r1 b_7
    refine lv_aload_n hx hb dX3_condNamed_12 rfl (lv_at hl 0 rfl) ?_
    refine lv_aload_n hx hb dX3_condNamed_13 rfl (lv_at hl 1 rfl) ?_
    refine va_ldcS hx hb hown (jF.l8 hJ) dX3_condNamed_14 ?_
    refine PurIS.cv (As := [.ref (a_x 0), .ref (ad 8)]) (kX3_isWord l g ad av a_r I_r a_x n_x I_x 8 (by decide) (by omega)) fx (gUV (uT _) u_389 u_390 u_391 u_27 u_392) rfl hdX3_isWord ⟨Nat.le_of_ble_eq_true rfl, Nat.le_of_ble_eq_true rfl⟩ hJ va_S.rf hK hP [0, 1] rfl rfl rfl rfl rfl hl.1 (Nat.le_of_ble_eq_true rfl) dX3_condNamed_16 (fun r2 p_r2 => ?_)
    refine q_if_eq (tgt := 24) hx hb dX3_condNamed_19 (by decide) rfl (fun b_19 k_19 => ?_) (fun b_19 k_19 => ?_)
    · have q_19 := bP.f p_r2 b_19
      refine lv_aload_n hx hb dX3_condNamed_24 rfl (lv_at hl 0 rfl) ?_
      refine lv_aload_n hx hb dX3_condNamed_25 rfl (lv_at hl 1 rfl) ?_
      refine va_ldcS hx hb hown (jF.l9 hJ) dX3_condNamed_26 ?_
      refine PurIS.cv (As := [.ref (a_x 0), .ref (ad 9)]) (kX3_isWord l g ad av a_r I_r a_x n_x I_x 9 (by decide) (by omega)) fx (gUV (uT _) u_389 u_390 u_391 u_27 u_392) rfl hdX3_isWord ⟨Nat.le_of_ble_eq_true rfl, Nat.le_of_ble_eq_true rfl⟩ hJ va_S.rf hK hP [0, 1] rfl rfl rfl rfl rfl hl.1 (Nat.le_of_ble_eq_true rfl) dX3_condNamed_28 (fun r3 p_r3 => ?_)
      refine q_if_eq (tgt := 36) hx hb dX3_condNamed_31 (by decide) rfl (fun b_31 k_31 => ?_) (fun b_31 k_31 => ?_)
      · have q_31 := bP.f p_r3 b_31
        refine lv_aload_n hx hb dX3_condNamed_36 rfl (lv_at hl 0 rfl) ?_
        refine lv_aload_n hx hb dX3_condNamed_37 rfl (lv_at hl 1 rfl) ?_
        refine va_ldcS hx hb hown (jF.l10 hJ) dX3_condNamed_38 ?_
        refine PurIS.cv (As := [.ref (a_x 0), .ref (ad 10)]) (kX3_isWord l g ad av a_r I_r a_x n_x I_x 10 (by decide) (by omega)) fx (gUV (uT _) u_389 u_390 u_391 u_27 u_392) rfl hdX3_isWord ⟨Nat.le_of_ble_eq_true rfl, Nat.le_of_ble_eq_true rfl⟩ hJ va_S.rf hK hP [0, 1] rfl rfl rfl rfl rfl hl.1 (Nat.le_of_ble_eq_true rfl) dX3_condNamed_40 (fun r4 p_r4 => ?_)
        refine q_if_eq (tgt := 50) hx hb dX3_condNamed_43 (by decide) rfl (fun b_43 k_43 => ?_) (fun b_43 k_43 => ?_)
        · have q_43 := bP.f p_r4 b_43
          refine lv_iconst (v := 0) hx hb dX3_condNamed_50 (by decide) ?_
          exact hret 51 ls (0 : Int32) dX3_condNamed_51 (by first | exact Or.inr (fx_cnd (k := 4) (by decide) (by decide) q_43 fxWs_10) | exact Or.inl ⟨by decide, fx_ncd q_7 q_19 q_31 q_43⟩)
        · have q_43 := bP.t p_r4 b_43
          refine lv_iconst (v := 4) hx hb dX3_condNamed_46 (by decide) ?_
          refine lv_goto (tgt := 51) hx hb dX3_condNamed_47 (by decide) ?_
          have lr : (4 : Int32).toInt = 4 := by decide
          exact hret 51 ls (4 : Int32) dX3_condNamed_51 (by first | exact Or.inr (fx_cnd (k := 4) (by decide) (by decide) q_43 fxWs_10) | exact Or.inl ⟨by decide, fx_ncd q_7 q_19 q_31 q_43⟩)
      · have q_31 := bP.t p_r3 b_31
        refine lv_iconst (v := 3) hx hb dX3_condNamed_34 (by decide) ?_
        have lr : (3 : Int32).toInt = 3 := by decide
        exact hret 35 ls (3 : Int32) dX3_condNamed_35 (Or.inr (fx_cnd (k := 3) (by decide) (by decide) q_31 fxWs_9))
    · have q_19 := bP.t p_r2 b_19
      refine lv_iconst (v := 2) hx hb dX3_condNamed_22 (by decide) ?_
      have lr : (2 : Int32).toInt = 2 := by decide
      exact hret 23 ls (2 : Int32) dX3_condNamed_23 (Or.inr (fx_cnd (k := 2) (by decide) (by decide) q_19 fxWs_8))
  · have q_7 := bP.t p_r1 b_7
    refine lv_iconst (v := 1) hx hb dX3_condNamed_10 (by decide) ?_
    have lr : (1 : Int32).toInt = 1 := by decide
    exact hret 11 ls (1 : Int32) dX3_condNamed_11 (Or.inr (fx_cnd (k := 1) (by decide) (by decide) q_7 fxWs_7))
