
/-- what holds of the press itself -/
def PI (I : Nat → Nat → Int32) : Prop := (0 ≤ (I 0 1).toInt ∧ (I 0 1).toInt ≤ 900) ∧ (0 ≤ (I 0 19).toInt ∧ (I 0 19).toInt ≤ 3) ∧ (I 0 11 = 0 ∨ I 0 11 = 1)
def KP (I I' : Nat → Nat → Int32) : Prop := I' 0 1 = I 0 1 ∧ I' 0 19 = I 0 19 ∧ I' 1 = I 1 ∧ I' 0 3 = I 0 3 ∧ I' 0 4 = I 0 4
theorem KP.rf (I : Nat → Nat → Int32) : KP I I := ⟨rfl, rfl, rfl, rfl, rfl⟩
theorem KP.tr {I I' I2 : Nat → Nat → Int32} (h : KP I I') (h2 : KP I' I2) : KP I I2 := ⟨h2.1.trans h.1, h2.2.1.trans h.2.1, h2.2.2.1.trans h.2.2.1, h2.2.2.2.1.trans h.2.2.2.1, h2.2.2.2.2.trans h.2.2.2.2⟩
theorem PI.st {I I' : Nat → Nat → Int32} {v : Int32} (h : PI I) (e : I' = uF I 0 2 v) : PI I' := by subst e; exact h
theorem KP.st {I I' : Nat → Nat → Int32} {v : Int32} (e : I' = uF I 0 2 v) : KP I I' := by subst e; exact ⟨rfl, rfl, rfl, rfl, rfl⟩
def MKI (I : Nat → Nat → Int32) : Prop := I 0 2 = 0 ∨ I 0 2 = 1
set_option maxHeartbeats 4000000 in
set_option maxRecDepth 100000 in
theorem kX10_answer (l : Launch) (g : gG) (a_p : Nat → Nat) (I_p : Nat → Nat → Int32) (J_p : Nat → Nat → Int64) (v : Int32)  : EffI l g yX10_answer wsX10_answer 0 [.ref (a_p 0), .int v] (wX10 g a_p I_p J_p) (fun (u : (Nat → Nat → Int32)) => wX10 g a_p u J_p) (fun r (u : (Nat → Nat → Int32)) => r = v ∧ (u) = uF I_p 0 2 0) := by
  refine EffI.st (cc := cX10_answer) (maxL := 2) (by decide) rfl (Nat.le_of_ble_eq_true rfl) (fun p e s m args below meth c A Q ls fx hK hP hD hA hS hl hret => ?_)
  have hx := fx.1
  have hb := fx.2.1
  have hml := fx.2.2.1
  have hown := fx.2.2.2.1
  have hts := fx.2.2.2.2
  have hl : lv_has ls 2 [(0, .ref (a_p 0)), (1, .int v)] := hl
  have hP : va_P g.1 vwCl (wX10 g a_p I_p J_p) s.heap := hP
  have hf_17 := hts _ (uT _ _ u_16)
  have hi_X10 : ∀ w ∈ wsX100, w.before args s = true := fun w h => hts w (uT _ w (u_wsX100 w h))
  have lm1 : (-1 : Int32).toInt = -1 := by decide
  have lm0 : (0 : Int32).toInt = 0 := by decide
  have lm2 : (1 : Int32).toInt = 1 := by decide
  refine lv_aload_n hx hb dX10_answer_0 rfl (lv_at hl 0 rfl) ?_
  refine lv_iconst (v := 0) hx hb dX10_answer_1 (by decide) ?_
  refine va_put (D := g.1) (ci := 10) (v := .int (0 : Int32)) (ty := .int) (C := RX10) (T := TX10) (N := 20) hx hb hi_X10 (fun _ h => h) tyX10 tyX10_ok nmX10 hown hK.1 hP hD hS 0 rfl rfl 2 (by decide) hf_17 (fun _ h9 => h9) rfl (by decide +kernel) rfl rfl (Nat.le_of_ble_eq_true rfl) dX10_answer_2 (fun H locs hP hD hS => ?_)
  have hP : va_P g.1 vwCl (wX10 g a_p (uF I_p 0 2 (0 : Int32)) J_p) H := hP
  have hD : va_D A (wX10 g a_p (uF I_p 0 2 (0 : Int32)) J_p) := hD
  refine lv_iload_n hx hb dX10_answer_5 rfl (lv_at hl 1 rfl) ?_
  refine hret 6 ls v _ _ (uF I_p 0 2 (0 : Int32)) dX10_answer_6 hS hP hD ?_
  exact ⟨rfl, rfl⟩

set_option maxHeartbeats 4000000 in
set_option maxRecDepth 100000 in
theorem kX10_refuse (l : Launch) (g : gG) (a_p : Nat → Nat) (I_p : Nat → Nat → Int32) (J_p : Nat → Nat → Int64) (v : Int32)  : EffI l g yX10_refuse wsX10_refuse 0 [.ref (a_p 0), .int v] (wX10 g a_p I_p J_p) (fun (u : (Nat → Nat → Int32)) => wX10 g a_p u J_p) (fun r (u : (Nat → Nat → Int32)) => r = -1 ∧ (u) = uF I_p 0 2 v) := by
  refine EffI.st (cc := cX10_refuse) (maxL := 2) (by decide) rfl (Nat.le_of_ble_eq_true rfl) (fun p e s m args below meth c A Q ls fx hK hP hD hA hS hl hret => ?_)
  have hx := fx.1
  have hb := fx.2.1
  have hml := fx.2.2.1
  have hown := fx.2.2.2.1
  have hts := fx.2.2.2.2
  have hl : lv_has ls 2 [(0, .ref (a_p 0)), (1, .int v)] := hl
  have hP : va_P g.1 vwCl (wX10 g a_p I_p J_p) s.heap := hP
  have hf_17 := hts _ (uT _ _ u_16)
  have hi_X10 : ∀ w ∈ wsX100, w.before args s = true := fun w h => hts w (uT _ w (u_wsX100 w h))
  have lm1 : (-1 : Int32).toInt = -1 := by decide
  have lm0 : (0 : Int32).toInt = 0 := by decide
  have lm2 : (1 : Int32).toInt = 1 := by decide
  refine lv_aload_n hx hb dX10_refuse_0 rfl (lv_at hl 0 rfl) ?_
  refine lv_iload_n hx hb dX10_refuse_1 rfl (lv_at hl 1 rfl) ?_
  refine va_put (D := g.1) (ci := 10) (v := .int v) (ty := .int) (C := RX10) (T := TX10) (N := 20) hx hb hi_X10 (fun _ h => h) tyX10 tyX10_ok nmX10 hown hK.1 hP hD hS 0 rfl rfl 2 (by decide) hf_17 (fun _ h9 => h9) rfl (by decide +kernel) rfl rfl (Nat.le_of_ble_eq_true rfl) dX10_refuse_2 (fun H locs hP hD hS => ?_)
  have hP : va_P g.1 vwCl (wX10 g a_p (uF I_p 0 2 v) J_p) H := hP
  have hD : va_D A (wX10 g a_p (uF I_p 0 2 v) J_p) := hD
  refine lv_iconst (v := -1) hx hb dX10_refuse_5 (by decide) ?_
  refine hret 6 ls (-1 : Int32) _ _ (uF I_p 0 2 v) dX10_refuse_6 hS hP hD ?_
  exact ⟨rfl, rfl⟩

set_option maxHeartbeats 4000000 in
set_option maxRecDepth 100000 in
theorem kX10_did (l : Launch) (g : gG) (a_p : Nat → Nat) (I_p : Nat → Nat → Int32) (J_p : Nat → Nat → Int64)  : EffI l g yX10_did wsX10_did 0 [.ref (a_p 0)] (wX10 g a_p I_p J_p) (fun (u : (Nat → Nat → Int32)) => wX10 g a_p u J_p) (fun r (u : (Nat → Nat → Int32)) => r = 1 ∧ (u) = uF I_p 0 2 0) := by
  refine EffI.sz (cc := cX10_did) (maxL := 1) (by decide) rfl (Nat.le_of_ble_eq_true rfl) (fun p e s m args below meth c A Q ls fx hK hP hD hA hS hl hret => ?_)
  have hx := fx.1
  have hb := fx.2.1
  have hml := fx.2.2.1
  have hown := fx.2.2.2.1
  have hts := fx.2.2.2.2
  have hl : lv_has ls 1 [(0, .ref (a_p 0))] := hl
  have hP : va_P g.1 vwCl (wX10 g a_p I_p J_p) s.heap := hP
  have hf_17 := hts _ (uT _ _ u_16)
  have hi_X10 : ∀ w ∈ wsX100, w.before args s = true := fun w h => hts w (uT _ w (u_wsX100 w h))
  have lm1 : (-1 : Int32).toInt = -1 := by decide
  have lm0 : (0 : Int32).toInt = 0 := by decide
  have lm2 : (1 : Int32).toInt = 1 := by decide
  refine lv_aload_n hx hb dX10_did_0 rfl (lv_at hl 0 rfl) ?_
  refine lv_iconst (v := 0) hx hb dX10_did_1 (by decide) ?_
  refine va_put (D := g.1) (ci := 10) (v := .int (0 : Int32)) (ty := .int) (C := RX10) (T := TX10) (N := 20) hx hb hi_X10 (fun _ h => h) tyX10 tyX10_ok nmX10 hown hK.1 hP hD hS 0 rfl rfl 2 (by decide) hf_17 (fun _ h9 => h9) rfl (by decide +kernel) rfl rfl (Nat.le_of_ble_eq_true rfl) dX10_did_2 (fun H locs hP hD hS => ?_)
  have hP : va_P g.1 vwCl (wX10 g a_p (uF I_p 0 2 (0 : Int32)) J_p) H := hP
  have hD : va_D A (wX10 g a_p (uF I_p 0 2 (0 : Int32)) J_p) := hD
  refine lv_iconst (v := 1) hx hb dX10_did_5 (by decide) ?_
  have lr : (1 : Int32).toInt = 1 := by decide
  refine hret 6 ls (1 : Int32) _ _ (uF I_p 0 2 (0 : Int32)) dX10_did_6 (Or.inr rfl) hS hP hD ?_
  exact ⟨rfl, rfl⟩

set_option maxHeartbeats 4000000 in
set_option maxRecDepth 100000 in
theorem kX10_didNot (l : Launch) (g : gG) (a_p : Nat → Nat) (I_p : Nat → Nat → Int32) (J_p : Nat → Nat → Int64) (v : Int32)  : EffI l g yX10_didNot wsX10_didNot 0 [.ref (a_p 0), .int v] (wX10 g a_p I_p J_p) (fun (u : (Nat → Nat → Int32)) => wX10 g a_p u J_p) (fun r (u : (Nat → Nat → Int32)) => r = 0 ∧ (u) = uF I_p 0 2 v) := by
  refine EffI.sz (cc := cX10_didNot) (maxL := 2) (by decide) rfl (Nat.le_of_ble_eq_true rfl) (fun p e s m args below meth c A Q ls fx hK hP hD hA hS hl hret => ?_)
  have hx := fx.1
  have hb := fx.2.1
  have hml := fx.2.2.1
  have hown := fx.2.2.2.1
  have hts := fx.2.2.2.2
  have hl : lv_has ls 2 [(0, .ref (a_p 0)), (1, .int v)] := hl
  have hP : va_P g.1 vwCl (wX10 g a_p I_p J_p) s.heap := hP
  have hf_17 := hts _ (uT _ _ u_16)
  have hi_X10 : ∀ w ∈ wsX100, w.before args s = true := fun w h => hts w (uT _ w (u_wsX100 w h))
  have lm1 : (-1 : Int32).toInt = -1 := by decide
  have lm0 : (0 : Int32).toInt = 0 := by decide
  have lm2 : (1 : Int32).toInt = 1 := by decide
  refine lv_aload_n hx hb dX10_didNot_0 rfl (lv_at hl 0 rfl) ?_
  refine lv_iload_n hx hb dX10_didNot_1 rfl (lv_at hl 1 rfl) ?_
  refine va_put (D := g.1) (ci := 10) (v := .int v) (ty := .int) (C := RX10) (T := TX10) (N := 20) hx hb hi_X10 (fun _ h => h) tyX10 tyX10_ok nmX10 hown hK.1 hP hD hS 0 rfl rfl 2 (by decide) hf_17 (fun _ h9 => h9) rfl (by decide +kernel) rfl rfl (Nat.le_of_ble_eq_true rfl) dX10_didNot_2 (fun H locs hP hD hS => ?_)
  have hP : va_P g.1 vwCl (wX10 g a_p (uF I_p 0 2 v) J_p) H := hP
  have hD : va_D A (wX10 g a_p (uF I_p 0 2 v) J_p) := hD
  refine lv_iconst (v := 0) hx hb dX10_didNot_5 (by decide) ?_
  refine hret 6 ls (0 : Int32) _ _ (uF I_p 0 2 v) dX10_didNot_6 (Or.inl rfl) hS hP hD ?_
  exact ⟨rfl, rfl⟩

set_option maxHeartbeats 4000000 in
set_option maxRecDepth 100000 in
theorem kX10_answerOr (l : Launch) (g : gG) (a_p : Nat → Nat) (I_p : Nat → Nat → Int32) (J_p : Nat → Nat → Int64) (hd_ : Int32) (v : Int32) (why : Int32)  : EffI l g yX10_answerOr wsX10_answerOr 1 [.ref (a_p 0), .int hd_, .int v, .int why] (wX10 g a_p I_p J_p) (fun (u : (Nat → Nat → Int32)) => wX10 g a_p u J_p) (fun r (u : (Nat → Nat → Int32)) => ((hd_.toInt ≠ 0 ∧ r = v) ∨ (hd_.toInt = 0 ∧ r = -1)) ∧ ∃ z, (u) = uF I_p 0 2 z) := by
  refine EffI.st (cc := cX10_answerOr) (maxL := 4) (by decide) rfl (Nat.le_of_ble_eq_true rfl) (fun p e s m args below meth c A Q ls fx hK hP hD hA hS hl hret => ?_)
  have hx := fx.1
  have hb := fx.2.1
  have hml := fx.2.2.1
  have hown := fx.2.2.2.1
  have hts := fx.2.2.2.2
  have hl : lv_has ls 4 [(0, .ref (a_p 0)), (1, .int hd_), (2, .int v), (3, .int why)] := hl
  have hP : va_P g.1 vwCl (wX10 g a_p I_p J_p) s.heap := hP
  have lm1 : (-1 : Int32).toInt = -1 := by decide
  have lm0 : (0 : Int32).toInt = 0 := by decide
  have lm2 : (1 : Int32).toInt = 1 := by decide
  refine lv_iload_n hx hb dX10_answerOr_0 rfl (lv_at hl 1 rfl) ?_
  refine q_if_eq (tgt := 12) hx hb dX10_answerOr_1 (by decide) rfl (fun b_1 k_1 => ?_) (fun b_1 k_1 => ?_)
  · refine lv_aload_n hx hb dX10_answerOr_12 rfl (lv_at hl 0 rfl) ?_
    refine lv_iload_n hx hb dX10_answerOr_13 rfl (lv_at hl 3 rfl) ?_
    refine EffI.cv (wr := ([])) (w' := fun u2 => wX10 g a_p u2 J_p) (As := [.int why]) (kX10_refuse l g a_p I_p J_p why) fx (gUV (uT _) u_295 u_296 u_297 u_2 u_298) rfl hdX10_refuse ⟨Nat.le_of_ble_eq_true rfl, Nat.le_of_ble_eq_true rfl⟩ hK hP hD hS hA [0, 1] [] [0, 1] rfl rfl rfl rfl (by decide) rfl (fun _ => rfl) rfl rfl rfl rfl hl.1 (Nat.le_of_ble_eq_true rfl) dX10_answerOr_14 (fun r1 u2 H locs p_r1 hP hD hS => ?_)
    have hP : va_P g.1 vwCl (wX10 g a_p u2 J_p) H := hP
    have hD : va_D A (wX10 g a_p u2 J_p) := hD
    refine hret 17 ls r1 _ _ u2 dX10_answerOr_17 hS hP hD ?_
    exact (by exact ⟨Or.inr ⟨by omega, p_r1.1⟩, _, p_r1.2⟩)
  · refine lv_aload_n hx hb dX10_answerOr_4 rfl (lv_at hl 0 rfl) ?_
    refine lv_iload_n hx hb dX10_answerOr_5 rfl (lv_at hl 2 rfl) ?_
    refine EffI.cv (wr := ([])) (w' := fun u4 => wX10 g a_p u4 J_p) (As := [.int v]) (kX10_answer l g a_p I_p J_p v) fx (gUV (uT _) u_497 u_498 u_499 u_2 u_500) rfl hdX10_answer ⟨Nat.le_of_ble_eq_true rfl, Nat.le_of_ble_eq_true rfl⟩ hK hP hD hS hA [0, 1] [] [0, 1] rfl rfl rfl rfl (by decide) rfl (fun _ => rfl) rfl rfl rfl rfl hl.1 (Nat.le_of_ble_eq_true rfl) dX10_answerOr_6 (fun r3 u4 H locs p_r3 hP hD hS => ?_)
    have hP : va_P g.1 vwCl (wX10 g a_p u4 J_p) H := hP
    have hD : va_D A (wX10 g a_p u4 J_p) := hD
    refine lv_goto (tgt := 17) hx hb dX10_answerOr_9 (by decide) ?_
    refine hret 17 ls r3 _ _ u4 dX10_answerOr_17 hS hP hD ?_
    exact (by exact ⟨Or.inl ⟨by omega, p_r3.1⟩, _, p_r3.2⟩)

set_option maxHeartbeats 4000000 in
set_option maxRecDepth 100000 in
theorem kX10_status (l : Launch) (g : gG) (a_p : Nat → Nat) (I_p : Nat → Nat → Int32) (J_p : Nat → Nat → Int64)  : PurI l g yX10_status wsX10_status 0 [.ref (a_p 0)] (wX10 g a_p I_p J_p) (fun r => r = I_p 0 2) := by
  refine PurI.st (cc := cX10_status) (maxL := 1) (by decide) rfl (Nat.le_of_ble_eq_true rfl) (fun p e s m args below meth c Q ls fx hK hP hl hret => ?_)
  have hx := fx.1
  have hb := fx.2.1
  have hml := fx.2.2.1
  have hown := fx.2.2.2.1
  have hts := fx.2.2.2.2
  have hl : lv_has ls 1 [(0, .ref (a_p 0))] := hl
  have hP : va_P g.1 vwCl (wX10 g a_p I_p J_p) s.heap := hP
  have hf_17 := hts _ (uT _ _ u_16)
  have hi_X10 : ∀ w ∈ wsX100, w.before args s = true := fun w h => hts w (uT _ w (u_wsX100 w h))
  have lm1 : (-1 : Int32).toInt = -1 := by decide
  have lm0 : (0 : Int32).toInt = 0 := by decide
  have lm2 : (1 : Int32).toInt = 1 := by decide
  refine lv_aload_n hx hb dX10_status_0 rfl (lv_at hl 0 rfl) ?_
  refine va_get (D := g.1) (ci := 10) (v := .int (I_p 0 2)) (C := RX10) (T := TX10) (N := 20) hx hb hi_X10 (fun _ h => h) hown hK.1 hP 0 rfl rfl 2 (by decide) hf_17 (fun _ h9 => h9) rfl dX10_status_1 ?_
  exact hret 4 ls (I_p 0 2) dX10_status_4 rfl

set_option maxHeartbeats 4000000 in
set_option maxRecDepth 100000 in
theorem kX10_top (l : Launch) (g : gG) (a_p : Nat → Nat) (I_p : Nat → Nat → Int32) (J_p : Nat → Nat → Int64)  : PurL l g yX10_top wsX10_top 0 [.ref (a_p 0)] (wX10 g a_p I_p J_p) (fun r => r = J_p 0 5) := by
  refine PurL.st (cc := cX10_top) (maxL := 1) (by decide) rfl (Nat.le_of_ble_eq_true rfl) (fun p e s m args below meth c Q ls fx hK hP hl hret => ?_)
  have hx := fx.1
  have hb := fx.2.1
  have hml := fx.2.2.1
  have hown := fx.2.2.2.1
  have hts := fx.2.2.2.2
  have hl : lv_has ls 1 [(0, .ref (a_p 0))] := hl
  have hP : va_P g.1 vwCl (wX10 g a_p I_p J_p) s.heap := hP
  have hf_26 := hts _ (uT _ _ u_19)
  have hi_X10 : ∀ w ∈ wsX100, w.before args s = true := fun w h => hts w (uT _ w (u_wsX100 w h))
  have lm1 : (-1 : Int32).toInt = -1 := by decide
  have lm0 : (0 : Int32).toInt = 0 := by decide
  have lm2 : (1 : Int32).toInt = 1 := by decide
  refine lv_aload_n hx hb dX10_top_0 rfl (lv_at hl 0 rfl) ?_
  refine va_get (D := g.1) (ci := 10) (v := .long (J_p 0 5)) (C := RX10) (T := TX10) (N := 20) hx hb hi_X10 (fun _ h => h) hown hK.1 hP 0 rfl rfl 5 (by decide) hf_26 (fun _ h9 => h9) rfl dX10_top_1 ?_
  exact hret 4 ls (J_p 0 5) dX10_top_4 rfl

set_option maxHeartbeats 4000000 in
set_option maxRecDepth 100000 in
theorem kX10_bottom (l : Launch) (g : gG) (a_p : Nat → Nat) (I_p : Nat → Nat → Int32) (J_p : Nat → Nat → Int64)  : PurL l g yX10_bottom wsX10_bottom 0 [.ref (a_p 0)] (wX10 g a_p I_p J_p) (fun r => r = J_p 0 6) := by
  refine PurL.st (cc := cX10_bottom) (maxL := 1) (by decide) rfl (Nat.le_of_ble_eq_true rfl) (fun p e s m args below meth c Q ls fx hK hP hl hret => ?_)
  have hx := fx.1
  have hb := fx.2.1
  have hml := fx.2.2.1
  have hown := fx.2.2.2.1
  have hts := fx.2.2.2.2
  have hl : lv_has ls 1 [(0, .ref (a_p 0))] := hl
  have hP : va_P g.1 vwCl (wX10 g a_p I_p J_p) s.heap := hP
  have hf_30 := hts _ (uT _ _ u_20)
  have hi_X10 : ∀ w ∈ wsX100, w.before args s = true := fun w h => hts w (uT _ w (u_wsX100 w h))
  have lm1 : (-1 : Int32).toInt = -1 := by decide
  have lm0 : (0 : Int32).toInt = 0 := by decide
  have lm2 : (1 : Int32).toInt = 1 := by decide
  refine lv_aload_n hx hb dX10_bottom_0 rfl (lv_at hl 0 rfl) ?_
  refine va_get (D := g.1) (ci := 10) (v := .long (J_p 0 6)) (C := RX10) (T := TX10) (N := 20) hx hb hi_X10 (fun _ h => h) hown hK.1 hP 0 rfl rfl 6 (by decide) hf_30 (fun _ h9 => h9) rfl dX10_bottom_1 ?_
  exact hret 4 ls (J_p 0 6) dX10_bottom_4 rfl

set_option maxHeartbeats 4000000 in
set_option maxRecDepth 100000 in
theorem kX10_fault (l : Launch) (g : gG) (a_p : Nat → Nat) (I_p : Nat → Nat → Int32) (J_p : Nat → Nat → Int64) (what : Int32)  : PurI l g yX10_fault wsX10_fault 0 [.ref (a_p 0), .int what] (wX10 g a_p I_p J_p) (fun r => (what.toInt = 0 ∧ r = I_p 0 3) ∨ (what.toInt = 1 ∧ r = I_p 0 4) ∨ (what.toInt ≠ 0 ∧ what.toInt ≠ 1 ∧ r = -1)) := by
  refine PurI.st (cc := cX10_fault) (maxL := 2) (by decide) rfl (Nat.le_of_ble_eq_true rfl) (fun p e s m args below meth c Q ls fx hK hP hl hret => ?_)
  have hx := fx.1
  have hb := fx.2.1
  have hml := fx.2.2.1
  have hown := fx.2.2.2.1
  have hts := fx.2.2.2.2
  have hl : lv_has ls 2 [(0, .ref (a_p 0)), (1, .int what)] := hl
  have hP : va_P g.1 vwCl (wX10 g a_p I_p J_p) s.heap := hP
  have hf_20 := hts _ (uT _ _ u_17)
  have hf_23 := hts _ (uT _ _ u_18)
  have hi_X10 : ∀ w ∈ wsX100, w.before args s = true := fun w h => hts w (uT _ w (u_wsX100 w h))
  have lm1 : (-1 : Int32).toInt = -1 := by decide
  have lm0 : (0 : Int32).toInt = 0 := by decide
  have lm2 : (1 : Int32).toInt = 1 := by decide
  refine lv_iload_n hx hb dX10_fault_0 rfl (lv_at hl 1 rfl) ?_
  refine q_if_ne (tgt := 9) hx hb dX10_fault_1 (by decide) rfl (fun b_1 k_1 => ?_) (fun b_1 k_1 => ?_)
  · refine lv_iload_n hx hb dX10_fault_9 rfl (lv_at hl 1 rfl) ?_
    refine lv_iconst (v := 1) hx hb dX10_fault_10 (by decide) ?_
    refine q_icmp_ne (tgt := 21) hx hb dX10_fault_11 (by decide) rfl (by decide : (1 : Int32).toInt = 1) (fun k_11 => ?_) (fun k_11 => ?_)
    · refine lv_iconst (v := -1) hx hb dX10_fault_21 (by decide) ?_
      exact hret 22 ls (-1 : Int32) dX10_fault_22 (by first | exact Or.inl ⟨by omega, rfl⟩ | exact Or.inr (Or.inl ⟨by omega, rfl⟩) | exact Or.inr (Or.inr ⟨by omega, by omega, rfl⟩))
    · refine lv_aload_n hx hb dX10_fault_14 rfl (lv_at hl 0 rfl) ?_
      refine va_get (D := g.1) (ci := 10) (v := .int (I_p 0 4)) (C := RX10) (T := TX10) (N := 20) hx hb hi_X10 (fun _ h => h) hown hK.1 hP 0 rfl rfl 4 (by decide) hf_23 (fun _ h9 => h9) rfl dX10_fault_15 ?_
      refine lv_goto (tgt := 22) hx hb dX10_fault_18 (by decide) ?_
      exact hret 22 ls (I_p 0 4) dX10_fault_22 (by first | exact Or.inl ⟨by omega, rfl⟩ | exact Or.inr (Or.inl ⟨by omega, rfl⟩) | exact Or.inr (Or.inr ⟨by omega, by omega, rfl⟩))
  · refine lv_aload_n hx hb dX10_fault_4 rfl (lv_at hl 0 rfl) ?_
    refine va_get (D := g.1) (ci := 10) (v := .int (I_p 0 3)) (C := RX10) (T := TX10) (N := 20) hx hb hi_X10 (fun _ h => h) hown hK.1 hP 0 rfl rfl 3 (by decide) hf_20 (fun _ h9 => h9) rfl dX10_fault_5 ?_
    exact hret 8 ls (I_p 0 3) dX10_fault_8 (by first | exact Or.inl ⟨by omega, rfl⟩ | exact Or.inr (Or.inl ⟨by omega, rfl⟩) | exact Or.inr (Or.inr ⟨by omega, by omega, rfl⟩))

set_option maxHeartbeats 4000000 in
set_option maxRecDepth 100000 in
theorem kX10_areDraws (l : Launch) (g : gG) (seed : Int32) (six : Int32)  : PurI l g yX10_areDraws wsX10_areDraws 0 [.int seed, .int six] ([]) (fun r => bP (0 ≤ seed.toInt ∧ seed.toInt ≤ 9999) True r) := by
  refine PurI.sz (cc := cX10_areDraws) (maxL := 2) (by decide) rfl (Nat.le_of_ble_eq_true rfl) (fun p e s m args below meth c Q ls fx hK hP hl hret => ?_)
  have hx := fx.1
  have hb := fx.2.1
  have hml := fx.2.2.1
  have hown := fx.2.2.2.1
  have hts := fx.2.2.2.2
  have hl : lv_has ls 2 [(0, .int seed), (1, .int six)] := hl
  have hP : va_P g.1 vwCl ([]) s.heap := hP
  have lm1 : (-1 : Int32).toInt = -1 := by decide
  have lm0 : (0 : Int32).toInt = 0 := by decide
  have lm2 : (1 : Int32).toInt = 1 := by decide
  refine lv_iload_n hx hb dX10_areDraws_0 rfl (lv_at hl 0 rfl) ?_
  refine q_if_lt (tgt := 25) hx hb dX10_areDraws_1 (by decide) rfl (fun k_1 => ?_) (fun k_1 => ?_)
  · refine lv_iconst (v := 0) hx hb dX10_areDraws_25 (by decide) ?_
    exact hret 26 ls (0 : Int32) dX10_areDraws_26 (Or.inl rfl) (by first | exact Or.inr ⟨rfl, trivial⟩ | exact Or.inl ⟨rfl, by omega⟩)
  · refine lv_iload_n hx hb dX10_areDraws_4 rfl (lv_at hl 0 rfl) ?_
    refine lv_sipush (v := 9999) hx hb dX10_areDraws_5 (by decide) ?_
    refine q_icmp_gt (tgt := 25) hx hb dX10_areDraws_8 (by decide) rfl (by decide : (9999 : Int32).toInt = 9999) (fun k_8 => ?_) (fun k_8 => ?_)
    · refine lv_iconst (v := 0) hx hb dX10_areDraws_25 (by decide) ?_
      exact hret 26 ls (0 : Int32) dX10_areDraws_26 (Or.inl rfl) (by first | exact Or.inr ⟨rfl, trivial⟩ | exact Or.inl ⟨rfl, by omega⟩)
    · refine lv_iload_n hx hb dX10_areDraws_11 rfl (lv_at hl 1 rfl) ?_
      refine q_if_lt (tgt := 25) hx hb dX10_areDraws_12 (by decide) rfl (fun k_12 => ?_) (fun k_12 => ?_)
      · refine lv_iconst (v := 0) hx hb dX10_areDraws_25 (by decide) ?_
        exact hret 26 ls (0 : Int32) dX10_areDraws_26 (Or.inl rfl) (by first | exact Or.inr ⟨rfl, trivial⟩ | exact Or.inl ⟨rfl, by omega⟩)
      · refine lv_iload_n hx hb dX10_areDraws_15 rfl (lv_at hl 1 rfl) ?_
        refine lv_bipush (v := 16) hx hb dX10_areDraws_16 (by decide) ?_
        refine q_icmp_gt (tgt := 25) hx hb dX10_areDraws_18 (by decide) rfl (by decide : (16 : Int32).toInt = 16) (fun k_18 => ?_) (fun k_18 => ?_)
        · refine lv_iconst (v := 0) hx hb dX10_areDraws_25 (by decide) ?_
          exact hret 26 ls (0 : Int32) dX10_areDraws_26 (Or.inl rfl) (by first | exact Or.inr ⟨rfl, trivial⟩ | exact Or.inl ⟨rfl, by omega⟩)
        · refine lv_iconst (v := 1) hx hb dX10_areDraws_21 (by decide) ?_
          refine lv_goto (tgt := 26) hx hb dX10_areDraws_22 (by decide) ?_
          have lr : (1 : Int32).toInt = 1 := by decide
          exact hret 26 ls (1 : Int32) dX10_areDraws_26 (Or.inr rfl) (by first | exact Or.inr ⟨rfl, trivial⟩ | exact Or.inl ⟨rfl, by omega⟩)

set_option maxHeartbeats 4000000 in
set_option maxRecDepth 100000 in
theorem kX10_tray (l : Launch) (g : gG) (a_p : Nat → Nat) (I_p : Nat → Nat → Int32) (J_p : Nat → Nat → Int64) (a_d : Nat → Nat) (I_d : Nat → Nat → Int32) (J_d : Nat → Nat → Int64) (tray : Int32) (sort : Int32) (many : Int32) (hl_p_trays : a_p 107 = a_d 0) (hPI : PI I_p) (hDI : DI I_d) : EffI l g yX10_tray wsX10_tray 1 [.ref (a_p 0), .int tray, .int sort, .int many] (wX10 g a_p I_p J_p ++ wX8 g a_d I_d J_d) (fun (u : ((Nat → Nat → Int32) × (Nat → Nat → Int32) × (Nat → Nat → Int64))) => wX10 g a_p (u.1) J_p ++ wX8 g a_d (u.2.1) (u.2.2)) (fun r (u : ((Nat → Nat → Int32) × (Nat → Nat → Int32) × (Nat → Nat → Int64))) => PI (u.1) ∧ DI (u.2.1) ∧ KP I_p (u.1) ∧ ((r = 1 ∧ 0 ≤ tray.toInt ∧ tray.toInt < 4 ∧ 0 ≤ sort.toInt ∧ sort.toInt < 4 ∧ 0 ≤ many.toInt ∧ many.toInt ≤ 60 ∧ (u.2.1) 2 = upd (I_d 2) tray.toNatClampNeg sort ∧ (u.2.1) 3 = upd (I_d 3) tray.toNatClampNeg many ∧ ∀ j : Nat, (u.2.2) 1 j = if tray.toInt * 60 ≤ (j : Int) ∧ (j : Int) < tray.toInt * 60 + many.toInt then 0 else J_d 1 j) ∨ (r = 0 ∧ ¬ (0 ≤ tray.toInt ∧ tray.toInt < 4 ∧ 0 ≤ sort.toInt ∧ sort.toInt < 4 ∧ 0 ≤ many.toInt ∧ many.toInt ≤ 60) ∧ (u.2.1) = I_d ∧ (u.2.2) = J_d))) := by
  refine EffI.sz (cc := cX10_tray) (maxL := 4) (by decide) rfl (Nat.le_of_ble_eq_true rfl) (fun p e s m args below meth c A Q ls fx hK hP hD hA hS hl hret => ?_)
  have hx := fx.1
  have hb := fx.2.1
  have hml := fx.2.2.1
  have hown := fx.2.2.2.1
  have hts := fx.2.2.2.2
  have hl : lv_has ls 4 [(0, .ref (a_p 0)), (1, .int tray), (2, .int sort), (3, .int many)] := hl
  have hP : va_P g.1 vwCl (wX10 g a_p I_p J_p ++ wX8 g a_d I_d J_d) s.heap := hP
  have hf_36 := hts _ (uT _ _ u_24)
  have hi_X10 : ∀ w ∈ wsX100, w.before args s = true := fun w h => hts w (uT _ w (u_wsX100 w h))
  have lm1 : (-1 : Int32).toInt = -1 := by decide
  have lm0 : (0 : Int32).toInt = 0 := by decide
  have lm2 : (1 : Int32).toInt = 1 := by decide
  have hp1 := hPI.1
  have hp2 := hPI.2.1
  refine lv_aload_n hx hb dX10_tray_0 rfl (lv_at hl 0 rfl) ?_
  refine va_get (D := g.1) (ci := 10) (v := .ref (a_d 0)) (C := RX10) (T := TX10) (N := 20) hx hb hi_X10 (fun _ h => h) hown hK.1 hP 0 rfl rfl 7 (by decide) hf_36 (fun _ h9 => h9) (congrArg (fun z => some (Value.ref z)) hl_p_trays) dX10_tray_1 ?_
  refine lv_iload_n hx hb dX10_tray_4 rfl (lv_at hl 1 rfl) ?_
  refine PurI.cv (As := [.int tray]) (kX8_isTray l g a_d I_d J_d tray) fx (gUV (uT _) u_232 u_233 u_234 u_23 u_235) rfl hdX8_isTray ⟨Nat.le_of_ble_eq_true rfl, Nat.le_of_ble_eq_true rfl⟩ hK hP [2, 3, 4, 5] rfl rfl rfl rfl rfl hl.1 (Nat.le_of_ble_eq_true rfl) dX10_tray_5 (fun r1 p_r1 => ?_)
  refine q_if_eq (tgt := 32) hx hb dX10_tray_8 (by decide) rfl (fun b_8 k_8 => ?_) (fun b_8 k_8 => ?_)
  · have q_8 := bP.f p_r1 b_8
    refine lv_aload_n hx hb dX10_tray_32 rfl (lv_at hl 0 rfl) ?_
    refine lv_iconst (v := 1) hx hb dX10_tray_33 (by decide) ?_
    refine EffI.cv (wr := (wX8 g a_d I_d J_d)) (w' := fun u3 => wX10 g a_p u3 J_p ++ wX8 g a_d I_d J_d) (As := [.int (1 : Int32)]) (kX10_didNot l g a_p I_p J_p (1 : Int32)) fx (gUV (uT _) u_240 u_241 u_242 u_2 u_243) rfl hdX10_didNot ⟨Nat.le_of_ble_eq_true rfl, Nat.le_of_ble_eq_true rfl⟩ hK hP hD hS hA [0, 1] [2, 3, 4, 5] [4, 5, 0, 1, 2, 3] rfl rfl rfl rfl (by decide) rfl (fun _ => rfl) rfl rfl rfl rfl hl.1 (Nat.le_of_ble_eq_true rfl) dX10_tray_34 (fun r2 u3 H locs p_r2 hP hD hS => ?_)
    have hP : va_P g.1 vwCl (wX10 g a_p u3 J_p ++ wX8 g a_d I_d J_d) H := hP
    have hD : va_D A (wX10 g a_p u3 J_p ++ wX8 g a_d I_d J_d) := hD
    refine hret 37 ls r2 _ _ (u3, I_d, J_d) dX10_tray_37 (Or.inl p_r2.1) hS hP hD ?_
    exact ⟨(PI.st hPI p_r2.2), hDI, (KP.tr (KP.rf I_p) (KP.st p_r2.2)), (by exact Or.inr ⟨p_r2.1, by omega, rfl, rfl⟩)⟩
  · have q_8 := bP.t p_r1 b_8
    refine lv_aload_n hx hb dX10_tray_11 rfl (lv_at hl 0 rfl) ?_
    refine va_get (D := g.1) (ci := 10) (v := .ref (a_d 0)) (C := RX10) (T := TX10) (N := 20) hx hb hi_X10 (fun _ h => h) hown hK.1 hP 0 rfl rfl 7 (by decide) hf_36 (fun _ h9 => h9) (congrArg (fun z => some (Value.ref z)) hl_p_trays) dX10_tray_12 ?_
    refine lv_iload_n hx hb dX10_tray_15 rfl (lv_at hl 2 rfl) ?_
    refine PurI.cv (As := [.int sort]) (kX8_isSort l g a_d I_d J_d sort) fx (gUV (uT _) u_236 u_237 u_238 u_23 u_239) rfl hdX8_isSort ⟨Nat.le_of_ble_eq_true rfl, Nat.le_of_ble_eq_true rfl⟩ hK hP [2, 3, 4, 5] rfl rfl rfl rfl rfl hl.1 (Nat.le_of_ble_eq_true rfl) dX10_tray_16 (fun r4 p_r4 => ?_)
    refine q_if_eq (tgt := 32) hx hb dX10_tray_19 (by decide) rfl (fun b_19 k_19 => ?_) (fun b_19 k_19 => ?_)
    · have q_19 := bP.f p_r4 b_19
      refine lv_aload_n hx hb dX10_tray_32 rfl (lv_at hl 0 rfl) ?_
      refine lv_iconst (v := 1) hx hb dX10_tray_33 (by decide) ?_
      refine EffI.cv (wr := (wX8 g a_d I_d J_d)) (w' := fun u6 => wX10 g a_p u6 J_p ++ wX8 g a_d I_d J_d) (As := [.int (1 : Int32)]) (kX10_didNot l g a_p I_p J_p (1 : Int32)) fx (gUV (uT _) u_240 u_241 u_242 u_2 u_243) rfl hdX10_didNot ⟨Nat.le_of_ble_eq_true rfl, Nat.le_of_ble_eq_true rfl⟩ hK hP hD hS hA [0, 1] [2, 3, 4, 5] [4, 5, 0, 1, 2, 3] rfl rfl rfl rfl (by decide) rfl (fun _ => rfl) rfl rfl rfl rfl hl.1 (Nat.le_of_ble_eq_true rfl) dX10_tray_34 (fun r5 u6 H locs p_r5 hP hD hS => ?_)
      have hP : va_P g.1 vwCl (wX10 g a_p u6 J_p ++ wX8 g a_d I_d J_d) H := hP
      have hD : va_D A (wX10 g a_p u6 J_p ++ wX8 g a_d I_d J_d) := hD
      refine hret 37 ls r5 _ _ (u6, I_d, J_d) dX10_tray_37 (Or.inl p_r5.1) hS hP hD ?_
      exact ⟨(PI.st hPI p_r5.2), hDI, (KP.tr (KP.rf I_p) (KP.st p_r5.2)), (by exact Or.inr ⟨p_r5.1, by omega, rfl, rfl⟩)⟩
    · have q_19 := bP.t p_r4 b_19
      refine lv_iload_n hx hb dX10_tray_22 rfl (lv_at hl 3 rfl) ?_
      refine q_if_lt (tgt := 32) hx hb dX10_tray_23 (by decide) rfl (fun k_23 => ?_) (fun k_23 => ?_)
      · refine lv_aload_n hx hb dX10_tray_32 rfl (lv_at hl 0 rfl) ?_
        refine lv_iconst (v := 1) hx hb dX10_tray_33 (by decide) ?_
        refine EffI.cv (wr := (wX8 g a_d I_d J_d)) (w' := fun u8 => wX10 g a_p u8 J_p ++ wX8 g a_d I_d J_d) (As := [.int (1 : Int32)]) (kX10_didNot l g a_p I_p J_p (1 : Int32)) fx (gUV (uT _) u_240 u_241 u_242 u_2 u_243) rfl hdX10_didNot ⟨Nat.le_of_ble_eq_true rfl, Nat.le_of_ble_eq_true rfl⟩ hK hP hD hS hA [0, 1] [2, 3, 4, 5] [4, 5, 0, 1, 2, 3] rfl rfl rfl rfl (by decide) rfl (fun _ => rfl) rfl rfl rfl rfl hl.1 (Nat.le_of_ble_eq_true rfl) dX10_tray_34 (fun r7 u8 H locs p_r7 hP hD hS => ?_)
        have hP : va_P g.1 vwCl (wX10 g a_p u8 J_p ++ wX8 g a_d I_d J_d) H := hP
        have hD : va_D A (wX10 g a_p u8 J_p ++ wX8 g a_d I_d J_d) := hD
        refine hret 37 ls r7 _ _ (u8, I_d, J_d) dX10_tray_37 (Or.inl p_r7.1) hS hP hD ?_
        exact ⟨(PI.st hPI p_r7.2), hDI, (KP.tr (KP.rf I_p) (KP.st p_r7.2)), (by exact Or.inr ⟨p_r7.1, by omega, rfl, rfl⟩)⟩
      · refine lv_iload_n hx hb dX10_tray_26 rfl (lv_at hl 3 rfl) ?_
        refine lv_bipush (v := 60) hx hb dX10_tray_27 (by decide) ?_
        refine q_icmp_le (tgt := 38) hx hb dX10_tray_29 (by decide) rfl (by decide : (60 : Int32).toInt = 60) (fun k_29 => ?_) (fun k_29 => ?_)
        · refine lv_aload_n hx hb dX10_tray_38 rfl (lv_at hl 0 rfl) ?_
          refine va_get (D := g.1) (ci := 10) (v := .ref (a_d 0)) (C := RX10) (T := TX10) (N := 20) hx hb hi_X10 (fun _ h => h) hown hK.1 hP 0 rfl rfl 7 (by decide) hf_36 (fun _ h9 => h9) (congrArg (fun z => some (Value.ref z)) hl_p_trays) dX10_tray_39 ?_
          refine lv_iload_n hx hb dX10_tray_42 rfl (lv_at hl 1 rfl) ?_
          refine lv_iload_n hx hb dX10_tray_43 rfl (lv_at hl 2 rfl) ?_
          refine lv_iload_n hx hb dX10_tray_44 rfl (lv_at hl 3 rfl) ?_
          refine EffV.cv (wr := (wX10 g a_p I_p J_p)) (w' := fun u10 => wX10 g a_p I_p J_p ++ wX8 g a_d u10.1 u10.2) (As := [.int tray, .int sort, .int many]) (kX8_lay l g a_d I_d J_d tray sort many (by omega) (by omega) hDI) fx (gUV (uT _) u_244 u_245 u_246 u_23 u_247) rfl hdX8_lay ⟨Nat.le_of_ble_eq_true rfl, Nat.le_of_ble_eq_true rfl⟩ hK hP hD hS hA [2, 3, 4, 5] [0, 1] [0, 1, 2, 3, 4, 5] rfl rfl rfl rfl (by decide) rfl (fun _ => rfl) rfl rfl rfl rfl hl.1 (Nat.le_of_ble_eq_true rfl) dX10_tray_45 (fun u10 H locs p_r9 hP hD hS => ?_)
          obtain ⟨I11, I12⟩ := u10
          try dsimp only at p_r9
          have hP : va_P g.1 vwCl (wX10 g a_p I_p J_p ++ wX8 g a_d I11 I12) H := hP
          have hD : va_D A (wX10 g a_p I_p J_p ++ wX8 g a_d I11 I12) := hD
          refine lv_aload_n hx hb dX10_tray_48 rfl (lv_at hl 0 rfl) ?_
          refine EffI.cv (wr := (wX8 g a_d I11 I12)) (w' := fun u14 => wX10 g a_p u14 J_p ++ wX8 g a_d I11 I12) (As := []) (kX10_did l g a_p I_p J_p) fx (gUV (uT _) u_248 u_249 u_250 u_2 u_251) rfl hdX10_did ⟨Nat.le_of_ble_eq_true rfl, Nat.le_of_ble_eq_true rfl⟩ hK hP hD hS hA [0, 1] [2, 3, 4, 5] [4, 5, 0, 1, 2, 3] rfl rfl rfl rfl (by decide) rfl (fun _ => rfl) rfl rfl rfl rfl hl.1 (Nat.le_of_ble_eq_true rfl) dX10_tray_49 (fun r13 u14 H locs p_r13 hP hD hS => ?_)
          have hP : va_P g.1 vwCl (wX10 g a_p u14 J_p ++ wX8 g a_d I11 I12) H := hP
          have hD : va_D A (wX10 g a_p u14 J_p ++ wX8 g a_d I11 I12) := hD
          refine hret 52 ls r13 _ _ (u14, I11, I12) dX10_tray_52 (Or.inr p_r13.1) hS hP hD ?_
          exact ⟨(PI.st hPI p_r13.2), p_r9.1, (KP.tr (KP.rf I_p) (KP.st p_r13.2)), (by exact Or.inl ⟨p_r13.1, by omega, by omega, by omega, by omega, by omega, by omega, p_r9.2⟩)⟩
        · refine lv_aload_n hx hb dX10_tray_32 rfl (lv_at hl 0 rfl) ?_
          refine lv_iconst (v := 1) hx hb dX10_tray_33 (by decide) ?_
          refine EffI.cv (wr := (wX8 g a_d I_d J_d)) (w' := fun u16 => wX10 g a_p u16 J_p ++ wX8 g a_d I_d J_d) (As := [.int (1 : Int32)]) (kX10_didNot l g a_p I_p J_p (1 : Int32)) fx (gUV (uT _) u_240 u_241 u_242 u_2 u_243) rfl hdX10_didNot ⟨Nat.le_of_ble_eq_true rfl, Nat.le_of_ble_eq_true rfl⟩ hK hP hD hS hA [0, 1] [2, 3, 4, 5] [4, 5, 0, 1, 2, 3] rfl rfl rfl rfl (by decide) rfl (fun _ => rfl) rfl rfl rfl rfl hl.1 (Nat.le_of_ble_eq_true rfl) dX10_tray_34 (fun r15 u16 H locs p_r15 hP hD hS => ?_)
          have hP : va_P g.1 vwCl (wX10 g a_p u16 J_p ++ wX8 g a_d I_d J_d) H := hP
          have hD : va_D A (wX10 g a_p u16 J_p ++ wX8 g a_d I_d J_d) := hD
          refine hret 37 ls r15 _ _ (u16, I_d, J_d) dX10_tray_37 (Or.inl p_r15.1) hS hP hD ?_
          exact ⟨(PI.st hPI p_r15.2), hDI, (KP.tr (KP.rf I_p) (KP.st p_r15.2)), (by exact Or.inr ⟨p_r15.1, by omega, rfl, rfl⟩)⟩
