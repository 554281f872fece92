set_option maxHeartbeats 4000000 in
set_option maxRecDepth 100000 in
theorem kX10_isBlank (l : Launch) (g : gG) (b : Int32)  : PurI l g yX10_isBlank wsX10_isBlank 0 [.int b] ([]) (fun r => bP (b.toInt = 10 ∨ b.toInt = 32) (¬ (b.toInt = 10 ∨ b.toInt = 32)) r) := by
  refine PurI.sz (cc := cX10_isBlank) (maxL := 1) (by decide) rfl (Nat.le_of_ble_eq_true rfl) (fun p e s m args below meth c Q ls fx hK hP hl hret => ?_)
  have hx := fx.1
  have hb := fx.2.1
  have hml := fx.2.2.1
  have hown := fx.2.2.2.1
  have hts := fx.2.2.2.2
  have hl : lv_has ls 1 [(0, .int b)] := hl
  have hP : va_P g.1 vwCl ([]) s.heap := hP
  have lm1 : (-1 : Int32).toInt = -1 := by decide
  have lm0 : (0 : Int32).toInt = 0 := by decide
  have lm2 : (1 : Int32).toInt = 1 := by decide
  refine lv_iload_n hx hb dX10_isBlank_0 rfl (lv_at hl 0 rfl) ?_
  refine lv_bipush (v := 10) hx hb dX10_isBlank_1 (by decide) ?_
  refine q_icmp_eq (tgt := 12) hx hb dX10_isBlank_3 (by decide) rfl (by decide : (10 : Int32).toInt = 10) (fun k_3 => ?_) (fun k_3 => ?_)
  · refine lv_iconst (v := 1) hx hb dX10_isBlank_12 (by decide) ?_
    refine lv_goto (tgt := 17) hx hb dX10_isBlank_13 (by decide) ?_
    have lr : (1 : Int32).toInt = 1 := by decide
    exact hret 17 ls (1 : Int32) dX10_isBlank_17 (Or.inr rfl) (by first | exact Or.inl ⟨rfl, by omega⟩ | exact Or.inr ⟨rfl, by omega⟩)
  · refine lv_iload_n hx hb dX10_isBlank_6 rfl (lv_at hl 0 rfl) ?_
    refine lv_bipush (v := 32) hx hb dX10_isBlank_7 (by decide) ?_
    refine q_icmp_ne (tgt := 16) hx hb dX10_isBlank_9 (by decide) rfl (by decide : (32 : Int32).toInt = 32) (fun k_9 => ?_) (fun k_9 => ?_)
    · refine lv_iconst (v := 0) hx hb dX10_isBlank_16 (by decide) ?_
      exact hret 17 ls (0 : Int32) dX10_isBlank_17 (Or.inl rfl) (by first | exact Or.inl ⟨rfl, by omega⟩ | exact Or.inr ⟨rfl, by omega⟩)
    · refine lv_iconst (v := 1) hx hb dX10_isBlank_12 (by decide) ?_
      refine lv_goto (tgt := 17) hx hb dX10_isBlank_13 (by decide) ?_
      have lr : (1 : Int32).toInt = 1 := by decide
      exact hret 17 ls (1 : Int32) dX10_isBlank_17 (Or.inr rfl) (by first | exact Or.inl ⟨rfl, by omega⟩ | exact Or.inr ⟨rfl, by omega⟩)

set_option maxHeartbeats 4000000 in
set_option maxRecDepth 100000 in
theorem kX10_isDigit (l : Launch) (g : gG) (b : Int32)  : PurI l g yX10_isDigit wsX10_isDigit 0 [.int b] ([]) (fun r => bP (48 ≤ b.toInt ∧ b.toInt ≤ 57) (¬ (48 ≤ b.toInt ∧ b.toInt ≤ 57)) r) := by
  refine PurI.sz (cc := cX10_isDigit) (maxL := 1) (by decide) rfl (Nat.le_of_ble_eq_true rfl) (fun p e s m args below meth c Q ls fx hK hP hl hret => ?_)
  have hx := fx.1
  have hb := fx.2.1
  have hml := fx.2.2.1
  have hown := fx.2.2.2.1
  have hts := fx.2.2.2.2
  have hl : lv_has ls 1 [(0, .int b)] := hl
  have hP : va_P g.1 vwCl ([]) s.heap := hP
  have lm1 : (-1 : Int32).toInt = -1 := by decide
  have lm0 : (0 : Int32).toInt = 0 := by decide
  have lm2 : (1 : Int32).toInt = 1 := by decide
  refine lv_iload_n hx hb dX10_isDigit_0 rfl (lv_at hl 0 rfl) ?_
  refine lv_bipush (v := 48) hx hb dX10_isDigit_1 (by decide) ?_
  refine q_icmp_lt (tgt := 16) hx hb dX10_isDigit_3 (by decide) rfl (by decide : (48 : Int32).toInt = 48) (fun k_3 => ?_) (fun k_3 => ?_)
  · refine lv_iconst (v := 0) hx hb dX10_isDigit_16 (by decide) ?_
    exact hret 17 ls (0 : Int32) dX10_isDigit_17 (Or.inl rfl) (by first | exact Or.inl ⟨rfl, by omega⟩ | exact Or.inr ⟨rfl, by omega⟩)
  · refine lv_iload_n hx hb dX10_isDigit_6 rfl (lv_at hl 0 rfl) ?_
    refine lv_bipush (v := 57) hx hb dX10_isDigit_7 (by decide) ?_
    refine q_icmp_gt (tgt := 16) hx hb dX10_isDigit_9 (by decide) rfl (by decide : (57 : Int32).toInt = 57) (fun k_9 => ?_) (fun k_9 => ?_)
    · refine lv_iconst (v := 0) hx hb dX10_isDigit_16 (by decide) ?_
      exact hret 17 ls (0 : Int32) dX10_isDigit_17 (Or.inl rfl) (by first | exact Or.inl ⟨rfl, by omega⟩ | exact Or.inr ⟨rfl, by omega⟩)
    · refine lv_iconst (v := 1) hx hb dX10_isDigit_12 (by decide) ?_
      refine lv_goto (tgt := 17) hx hb dX10_isDigit_13 (by decide) ?_
      have lr : (1 : Int32).toInt = 1 := by decide
      exact hret 17 ls (1 : Int32) dX10_isDigit_17 (Or.inr rfl) (by first | exact Or.inl ⟨rfl, by omega⟩ | exact Or.inr ⟨rfl, by omega⟩)

set_option maxHeartbeats 4000000 in
set_option maxRecDepth 100000 in
theorem kX10_isSmall (l : Launch) (g : gG) (b : Int32)  : PurI l g yX10_isSmall wsX10_isSmall 0 [.int b] ([]) (fun r => bP (97 ≤ b.toInt ∧ b.toInt ≤ 122) (¬ (97 ≤ b.toInt ∧ b.toInt ≤ 122)) r) := by
  refine PurI.sz (cc := cX10_isSmall) (maxL := 1) (by decide) rfl (Nat.le_of_ble_eq_true rfl) (fun p e s m args below meth c Q ls fx hK hP hl hret => ?_)
  have hx := fx.1
  have hb := fx.2.1
  have hml := fx.2.2.1
  have hown := fx.2.2.2.1
  have hts := fx.2.2.2.2
  have hl : lv_has ls 1 [(0, .int b)] := hl
  have hP : va_P g.1 vwCl ([]) s.heap := hP
  have lm1 : (-1 : Int32).toInt = -1 := by decide
  have lm0 : (0 : Int32).toInt = 0 := by decide
  have lm2 : (1 : Int32).toInt = 1 := by decide
  refine lv_iload_n hx hb dX10_isSmall_0 rfl (lv_at hl 0 rfl) ?_
  refine lv_bipush (v := 97) hx hb dX10_isSmall_1 (by decide) ?_
  refine q_icmp_lt (tgt := 16) hx hb dX10_isSmall_3 (by decide) rfl (by decide : (97 : Int32).toInt = 97) (fun k_3 => ?_) (fun k_3 => ?_)
  · refine lv_iconst (v := 0) hx hb dX10_isSmall_16 (by decide) ?_
    exact hret 17 ls (0 : Int32) dX10_isSmall_17 (Or.inl rfl) (by first | exact Or.inl ⟨rfl, by omega⟩ | exact Or.inr ⟨rfl, by omega⟩)
  · refine lv_iload_n hx hb dX10_isSmall_6 rfl (lv_at hl 0 rfl) ?_
    refine lv_bipush (v := 122) hx hb dX10_isSmall_7 (by decide) ?_
    refine q_icmp_gt (tgt := 16) hx hb dX10_isSmall_9 (by decide) rfl (by decide : (122 : Int32).toInt = 122) (fun k_9 => ?_) (fun k_9 => ?_)
    · refine lv_iconst (v := 0) hx hb dX10_isSmall_16 (by decide) ?_
      exact hret 17 ls (0 : Int32) dX10_isSmall_17 (Or.inl rfl) (by first | exact Or.inl ⟨rfl, by omega⟩ | exact Or.inr ⟨rfl, by omega⟩)
    · refine lv_iconst (v := 1) hx hb dX10_isSmall_12 (by decide) ?_
      refine lv_goto (tgt := 17) hx hb dX10_isSmall_13 (by decide) ?_
      have lr : (1 : Int32).toInt = 1 := by decide
      exact hret 17 ls (1 : Int32) dX10_isSmall_17 (Or.inr rfl) (by first | exact Or.inl ⟨rfl, by omega⟩ | exact Or.inr ⟨rfl, by omega⟩)

set_option maxHeartbeats 4000000 in
set_option maxRecDepth 100000 in
theorem kX10_isGreat (l : Launch) (g : gG) (b : Int32)  : PurI l g yX10_isGreat wsX10_isGreat 0 [.int b] ([]) (fun r => bP (65 ≤ b.toInt ∧ b.toInt ≤ 90) (¬ (65 ≤ b.toInt ∧ b.toInt ≤ 90)) r) := by
  refine PurI.sz (cc := cX10_isGreat) (maxL := 1) (by decide) rfl (Nat.le_of_ble_eq_true rfl) (fun p e s m args below meth c Q ls fx hK hP hl hret => ?_)
  have hx := fx.1
  have hb := fx.2.1
  have hml := fx.2.2.1
  have hown := fx.2.2.2.1
  have hts := fx.2.2.2.2
  have hl : lv_has ls 1 [(0, .int b)] := hl
  have hP : va_P g.1 vwCl ([]) s.heap := hP
  have lm1 : (-1 : Int32).toInt = -1 := by decide
  have lm0 : (0 : Int32).toInt = 0 := by decide
  have lm2 : (1 : Int32).toInt = 1 := by decide
  refine lv_iload_n hx hb dX10_isGreat_0 rfl (lv_at hl 0 rfl) ?_
  refine lv_bipush (v := 65) hx hb dX10_isGreat_1 (by decide) ?_
  refine q_icmp_lt (tgt := 16) hx hb dX10_isGreat_3 (by decide) rfl (by decide : (65 : Int32).toInt = 65) (fun k_3 => ?_) (fun k_3 => ?_)
  · refine lv_iconst (v := 0) hx hb dX10_isGreat_16 (by decide) ?_
    exact hret 17 ls (0 : Int32) dX10_isGreat_17 (Or.inl rfl) (by first | exact Or.inl ⟨rfl, by omega⟩ | exact Or.inr ⟨rfl, by omega⟩)
  · refine lv_iload_n hx hb dX10_isGreat_6 rfl (lv_at hl 0 rfl) ?_
    refine lv_bipush (v := 90) hx hb dX10_isGreat_7 (by decide) ?_
    refine q_icmp_gt (tgt := 16) hx hb dX10_isGreat_9 (by decide) rfl (by decide : (90 : Int32).toInt = 90) (fun k_9 => ?_) (fun k_9 => ?_)
    · refine lv_iconst (v := 0) hx hb dX10_isGreat_16 (by decide) ?_
      exact hret 17 ls (0 : Int32) dX10_isGreat_17 (Or.inl rfl) (by first | exact Or.inl ⟨rfl, by omega⟩ | exact Or.inr ⟨rfl, by omega⟩)
    · refine lv_iconst (v := 1) hx hb dX10_isGreat_12 (by decide) ?_
      refine lv_goto (tgt := 17) hx hb dX10_isGreat_13 (by decide) ?_
      have lr : (1 : Int32).toInt = 1 := by decide
      exact hret 17 ls (1 : Int32) dX10_isGreat_17 (Or.inr rfl) (by first | exact Or.inl ⟨rfl, by omega⟩ | exact Or.inr ⟨rfl, by omega⟩)

set_option maxHeartbeats 4000000 in
set_option maxRecDepth 100000 in
theorem kX10_isLetter (l : Launch) (g : gG) (b : Int32)  : PurI l g yX10_isLetter wsX10_isLetter 1 [.int b] ([]) (fun r => bP ((97 ≤ b.toInt ∧ b.toInt ≤ 122) ∨ (65 ≤ b.toInt ∧ b.toInt ≤ 90)) (¬ ((97 ≤ b.toInt ∧ b.toInt ≤ 122) ∨ (65 ≤ b.toInt ∧ b.toInt ≤ 90))) r) := by
  refine PurI.sz (cc := cX10_isLetter) (maxL := 1) (by decide) rfl (Nat.le_of_ble_eq_true rfl) (fun p e s m args below meth c Q ls fx hK hP hl hret => ?_)
  have hx := fx.1
  have hb := fx.2.1
  have hml := fx.2.2.1
  have hown := fx.2.2.2.1
  have hts := fx.2.2.2.2
  have hl : lv_has ls 1 [(0, .int b)] := hl
  have hP : va_P g.1 vwCl ([]) s.heap := hP
  have lm1 : (-1 : Int32).toInt = -1 := by decide
  have lm0 : (0 : Int32).toInt = 0 := by decide
  have lm2 : (1 : Int32).toInt = 1 := by decide
  refine lv_iload_n hx hb dX10_isLetter_0 rfl (lv_at hl 0 rfl) ?_
  refine PurI.cs (C := RX10) (As := [.int b]) (kX10_isSmall l g b) fx (gUS (uT _) u_638 u_372 u_2 u_373) rfl hdX10_isSmall ⟨Nat.le_of_ble_eq_true rfl, Nat.le_of_ble_eq_true rfl⟩ hK hP [] rfl rfl rfl hl.1 (Nat.le_of_ble_eq_true rfl) dX10_isLetter_1 (fun r1 p_r1 => ?_)
  refine q_if_ne (tgt := 14) hx hb dX10_isLetter_4 (by decide) rfl (fun b_4 k_4 => ?_) (fun b_4 k_4 => ?_)
  · have q_4 := bP.t p_r1 b_4
    refine lv_iconst (v := 1) hx hb dX10_isLetter_14 (by decide) ?_
    refine lv_goto (tgt := 19) hx hb dX10_isLetter_15 (by decide) ?_
    have lr : (1 : Int32).toInt = 1 := by decide
    exact hret 19 ls (1 : Int32) dX10_isLetter_19 (Or.inr rfl) (by first | exact Or.inl ⟨rfl, by omega⟩ | exact Or.inr ⟨rfl, by omega⟩)
  · have q_4 := bP.f p_r1 b_4
    refine lv_iload_n hx hb dX10_isLetter_7 rfl (lv_at hl 0 rfl) ?_
    refine PurI.cs (C := RX10) (As := [.int b]) (kX10_isGreat l g b) fx (gUS (uT _) u_639 u_640 u_2 u_641) rfl hdX10_isGreat ⟨Nat.le_of_ble_eq_true rfl, Nat.le_of_ble_eq_true rfl⟩ hK hP [] rfl rfl rfl hl.1 (Nat.le_of_ble_eq_true rfl) dX10_isLetter_8 (fun r2 p_r2 => ?_)
    refine q_if_eq (tgt := 18) hx hb dX10_isLetter_11 (by decide) rfl (fun b_11 k_11 => ?_) (fun b_11 k_11 => ?_)
    · have q_11 := bP.f p_r2 b_11
      refine lv_iconst (v := 0) hx hb dX10_isLetter_18 (by decide) ?_
      exact hret 19 ls (0 : Int32) dX10_isLetter_19 (Or.inl rfl) (by first | exact Or.inl ⟨rfl, by omega⟩ | exact Or.inr ⟨rfl, by omega⟩)
    · have q_11 := bP.t p_r2 b_11
      refine lv_iconst (v := 1) hx hb dX10_isLetter_14 (by decide) ?_
      refine lv_goto (tgt := 19) hx hb dX10_isLetter_15 (by decide) ?_
      have lr : (1 : Int32).toInt = 1 := by decide
      exact hret 19 ls (1 : Int32) dX10_isLetter_19 (Or.inr rfl) (by first | exact Or.inl ⟨rfl, by omega⟩ | exact Or.inr ⟨rfl, by omega⟩)

set_option maxHeartbeats 4000000 in
set_option maxRecDepth 100000 in
theorem kX10_letterOf (l : Launch) (g : gG) (b : Int32)  : PurI l g yX10_letterOf wsX10_letterOf 0 [.int b] ([]) (fun r => r = b &&& 31 ∧ 0 ≤ r.toInt ∧ r.toInt ≤ 31) := by
  refine PurI.st (cc := cX10_letterOf) (maxL := 1) (by decide) rfl (Nat.le_of_ble_eq_true rfl) (fun p e s m args below meth c Q ls fx hK hP hl hret => ?_)
  have hx := fx.1
  have hb := fx.2.1
  have hml := fx.2.2.1
  have hown := fx.2.2.2.1
  have hts := fx.2.2.2.2
  have hl : lv_has ls 1 [(0, .int b)] := hl
  have hP : va_P g.1 vwCl ([]) s.heap := hP
  have lm1 : (-1 : Int32).toInt = -1 := by decide
  have lm0 : (0 : Int32).toInt = 0 := by decide
  have lm2 : (1 : Int32).toInt = 1 := by decide
  refine lv_iload_n hx hb dX10_letterOf_0 rfl (lv_at hl 0 rfl) ?_
  refine lv_bipush (v := 31) hx hb dX10_letterOf_1 (by decide) ?_
  refine lv_iand hx hb dX10_letterOf_3 ?_
  refine q_nm (fun x1 e_x1 => ?_)
  have q := and31 b
  rw [← e_x1] at q
  exact hret 4 ls x1 dX10_letterOf_4 ⟨by first | exact e_x1 | rfl, by omega⟩

set_option maxHeartbeats 4000000 in
set_option maxRecDepth 100000 in
theorem kX10_letterOfDigit (l : Launch) (g : gG) (b : Int32)  : PurI l g yX10_letterOfDigit wsX10_letterOfDigit 0 [.int b] ([]) (fun r => (48 ≤ b.toInt ∧ b.toInt ≤ 57) → r.toInt = uFg b.toInt) := by
  refine PurI.st (cc := cX10_letterOfDigit) (maxL := 1) (by decide) rfl (Nat.le_of_ble_eq_true rfl) (fun p e s m args below meth c Q ls fx hK hP hl hret => ?_)
  have hx := fx.1
  have hb := fx.2.1
  have hml := fx.2.2.1
  have hown := fx.2.2.2.1
  have hts := fx.2.2.2.2
  have hl : lv_has ls 1 [(0, .int b)] := hl
  have hP : va_P g.1 vwCl ([]) s.heap := hP
  have lm1 : (-1 : Int32).toInt = -1 := by decide
  have lm0 : (0 : Int32).toInt = 0 := by decide
  have lm2 : (1 : Int32).toInt = 1 := by decide
  refine lv_iload_n hx hb dX10_letterOfDigit_0 rfl (lv_at hl 0 rfl) ?_
  refine lv_bipush (v := 48) hx hb dX10_letterOfDigit_1 (by decide) ?_
  refine q_icmp_ne (tgt := 11) hx hb dX10_letterOfDigit_3 (by decide) rfl (by decide : (48 : Int32).toInt = 48) (fun k_3 => ?_) (fun k_3 => ?_)
  · refine lv_iload_n hx hb dX10_letterOfDigit_11 rfl (lv_at hl 0 rfl) ?_
    refine lv_bipush (v := 48) hx hb dX10_letterOfDigit_12 (by decide) ?_
    refine r_isub hx hb dX10_letterOfDigit_14 rfl (by decide : (48 : Int32).toInt = 48) (fun x1 e_x1 t_x1 => ?_)
    try have t_x1 := t_x1 (by omega)
    exact hret 15 ls x1 dX10_letterOfDigit_15 (fun q => by unfold uFg; first | (rw [if_pos (by omega)]; decide) | (have w := t_x1 (by omega); rw [if_neg (by omega)]; omega))
  · refine lv_bipush (v := 10) hx hb dX10_letterOfDigit_6 (by decide) ?_
    refine lv_goto (tgt := 15) hx hb dX10_letterOfDigit_8 (by decide) ?_
    have lr : (10 : Int32).toInt = 10 := by decide
    exact hret 15 ls (10 : Int32) dX10_letterOfDigit_15 (fun q => by unfold uFg; (rw [if_pos (by omega)]; decide))

set_option maxHeartbeats 4000000 in
set_option maxRecDepth 100000 in
theorem kX10_mirrorOf (l : Launch) (g : gG) (cl : Int32)  : PurI l g yX10_mirrorOf wsX10_mirrorOf 0 [.int cl] ([]) (fun r => r = mirO cl) := by
  refine PurI.st (cc := cX10_mirrorOf) (maxL := 1) (by decide) rfl (Nat.le_of_ble_eq_true rfl) (fun p e s m args below meth c Q ls fx hK hP hl hret => ?_)
  have hx := fx.1
  have hb := fx.2.1
  have hml := fx.2.2.1
  have hown := fx.2.2.2.1
  have hts := fx.2.2.2.2
  have hl : lv_has ls 1 [(0, .int cl)] := hl
  have hP : va_P g.1 vwCl ([]) s.heap := hP
  have lm1 : (-1 : Int32).toInt = -1 := by decide
  have lm0 : (0 : Int32).toInt = 0 := by decide
  have lm2 : (1 : Int32).toInt = 1 := by decide
  refine lv_iload_n hx hb dX10_mirrorOf_0 rfl (lv_at hl 0 rfl) ?_
  refine lv_bipush (v := 7) hx hb dX10_mirrorOf_1 (by decide) ?_
  refine lv_iand hx hb dX10_mirrorOf_3 ?_
  refine q_nm (fun x1 e_x1 => ?_)
  refine lv_iconst (v := 3) hx hb dX10_mirrorOf_4 (by decide) ?_
  refine lv_ishl hx hb dX10_mirrorOf_5 ?_
  refine q_nm (fun x2 e_x2 => ?_)
  refine lv_iload_n hx hb dX10_mirrorOf_6 rfl (lv_at hl 0 rfl) ?_
  refine lv_iconst (v := 3) hx hb dX10_mirrorOf_7 (by decide) ?_
  refine lv_ishr hx hb dX10_mirrorOf_8 ?_
  refine q_nm (fun x3 e_x3 => ?_)
  refine lv_ior hx hb dX10_mirrorOf_9 ?_
  refine q_nm (fun x4 e_x4 => ?_)
  exact hret 10 ls x4 dX10_mirrorOf_10 (by first | (subst_vars; rfl) | (unfold mirO; subst_vars; rfl))

set_option maxHeartbeats 4000000 in
set_option maxRecDepth 100000 in
theorem kX7_has (l : Launch) (g : gG) (a_t : Nat → Nat) (I_t : Nat → Nat → Int32) (rule : Int32)  : PurI l g yX7_has wsX7_has 0 [.ref (a_t 0), .int rule] (wX7 g a_t I_t) (fun r => bP (0 ≤ rule.toInt ∧ rule.toInt < (I_t 0 0).toInt) (rule.toInt < 0 ∨ (I_t 0 0).toInt ≤ rule.toInt) r) := by
  refine PurI.sz (cc := cX7_has) (maxL := 2) (by decide) rfl (Nat.le_of_ble_eq_true rfl) (fun p e s m args below meth c Q ls fx hK hP hl hret => ?_)
  have hx := fx.1
  have hb := fx.2.1
  have hml := fx.2.2.1
  have hown := fx.2.2.2.1
  have hts := fx.2.2.2.2
  have hl : lv_has ls 2 [(0, .ref (a_t 0)), (1, .int rule)] := hl
  have hP : va_P g.1 vwCl (wX7 g a_t I_t) s.heap := hP
  have hf_9 := hts _ (uT _ _ u_90)
  have hi_X7 : ∀ w ∈ wsX70, w.before args s = true := fun w h => hts w (uT _ w (u_wsX70 w h))
  have lm1 : (-1 : Int32).toInt = -1 := by decide
  have lm0 : (0 : Int32).toInt = 0 := by decide
  have lm2 : (1 : Int32).toInt = 1 := by decide
  refine lv_iload_n hx hb dX7_has_0 rfl (lv_at hl 1 rfl) ?_
  refine q_if_lt (tgt := 16) hx hb dX7_has_1 (by decide) rfl (fun k_1 => ?_) (fun k_1 => ?_)
  · refine lv_iconst (v := 0) hx hb dX7_has_16 (by decide) ?_
    exact hret 17 ls (0 : Int32) dX7_has_17 (Or.inl rfl) (by first | exact Or.inl ⟨rfl, by omega⟩ | exact Or.inr ⟨rfl, by omega⟩)
  · refine lv_iload_n hx hb dX7_has_4 rfl (lv_at hl 1 rfl) ?_
    refine lv_aload_n hx hb dX7_has_5 rfl (lv_at hl 0 rfl) ?_
    refine va_get (D := g.1) (ci := 7) (v := .int (I_t 0 0)) (C := RX7) (T := TX7) (N := 8) hx hb hi_X7 (fun _ h => h) hown hK.1 hP 0 rfl rfl 0 (by decide) hf_9 (fun _ h9 => h9) rfl dX7_has_6 ?_
    refine q_icmp_ge (tgt := 16) hx hb dX7_has_9 (by decide) rfl rfl (fun k_9 => ?_) (fun k_9 => ?_)
    · refine lv_iconst (v := 0) hx hb dX7_has_16 (by decide) ?_
      exact hret 17 ls (0 : Int32) dX7_has_17 (Or.inl rfl) (by first | exact Or.inl ⟨rfl, by omega⟩ | exact Or.inr ⟨rfl, by omega⟩)
    · refine lv_iconst (v := 1) hx hb dX7_has_12 (by decide) ?_
      refine lv_goto (tgt := 17) hx hb dX7_has_13 (by decide) ?_
      have lr : (1 : Int32).toInt = 1 := by decide
      exact hret 17 ls (1 : Int32) dX7_has_17 (Or.inr rfl) (by first | exact Or.inl ⟨rfl, by omega⟩ | exact Or.inr ⟨rfl, by omega⟩)

set_option maxHeartbeats 4000000 in
set_option maxRecDepth 100000 in
theorem kX7_isIn (l : Launch) (g : gG) (rule : Int32) (wo : Int32)  : PurI l g yX7_isIn wsX7_isIn 0 [.int rule, .int wo] ([]) (fun r => bP (outB wo rule = false) (outB wo rule = true) r) := by
  refine PurI.sz (cc := cX7_isIn) (maxL := 2) (by decide) rfl (Nat.le_of_ble_eq_true rfl) (fun p e s m args below meth c Q ls fx hK hP hl hret => ?_)
  have hx := fx.1
  have hb := fx.2.1
  have hml := fx.2.2.1
  have hown := fx.2.2.2.1
  have hts := fx.2.2.2.2
  have hl : lv_has ls 2 [(0, .int rule), (1, .int wo)] := hl
  have hP : va_P g.1 vwCl ([]) s.heap := hP
  have lm1 : (-1 : Int32).toInt = -1 := by decide
  have lm0 : (0 : Int32).toInt = 0 := by decide
  have lm2 : (1 : Int32).toInt = 1 := by decide
  refine lv_iload_n hx hb dX7_isIn_0 rfl (lv_at hl 1 rfl) ?_
  refine lv_iload_n hx hb dX7_isIn_1 rfl (lv_at hl 0 rfl) ?_
  refine lv_ishr hx hb dX7_isIn_2 ?_
  refine q_nm (fun x1 e_x1 => ?_)
  refine lv_iconst (v := 1) hx hb dX7_isIn_3 (by decide) ?_
  refine lv_iand hx hb dX7_isIn_4 ?_
  refine q_nm (fun x2 e_x2 => ?_)
  refine q_if_ne (tgt := 12) hx hb dX7_isIn_5 (by decide) rfl (fun b_5 k_5 => ?_) (fun b_5 k_5 => ?_)
  · refine lv_iconst (v := 0) hx hb dX7_isIn_12 (by decide) ?_
    exact hret 13 ls (0 : Int32) dX7_isIn_13 (Or.inl rfl) (by first | exact Or.inl ⟨rfl, outB.f e_x2 e_x1 (by omega)⟩ | exact Or.inr ⟨rfl, outB.t e_x2 e_x1 (by omega)⟩)
  · refine lv_iconst (v := 1) hx hb dX7_isIn_8 (by decide) ?_
    refine lv_goto (tgt := 13) hx hb dX7_isIn_9 (by decide) ?_
    have lr : (1 : Int32).toInt = 1 := by decide
    exact hret 13 ls (1 : Int32) dX7_isIn_13 (Or.inr rfl) (by first | exact Or.inl ⟨rfl, outB.f e_x2 e_x1 (by omega)⟩ | exact Or.inr ⟨rfl, outB.t e_x2 e_x1 (by omega)⟩)

set_option maxHeartbeats 4000000 in
set_option maxRecDepth 100000 in
theorem kX7_isThere (l : Launch) (g : gG) (a_t : Nat → Nat) (I_t : Nat → Nat → Int32) (rule : Int32)  : PurI l g yX7_isThere wsX7_isThere 1 [.ref (a_t 0), .int rule] (wX7 g a_t I_t) (fun r => bP (outB (I_t 0 1) rule = false) (outB (I_t 0 1) rule = true) r) := by
  refine PurI.sz (cc := cX7_isThere) (maxL := 2) (by decide) rfl (Nat.le_of_ble_eq_true rfl) (fun p e s m args below meth c Q ls fx hK hP hl hret => ?_)
  have hx := fx.1
  have hb := fx.2.1
  have hml := fx.2.2.1
  have hown := fx.2.2.2.1
  have hts := fx.2.2.2.2
  have hl : lv_has ls 2 [(0, .ref (a_t 0)), (1, .int rule)] := hl
  have hP : va_P g.1 vwCl (wX7 g a_t I_t) s.heap := hP
  have hf_15 := hts _ (uT _ _ u_91)
  have hi_X7 : ∀ w ∈ wsX70, w.before args s = true := fun w h => hts w (uT _ w (u_wsX70 w h))
  have lm1 : (-1 : Int32).toInt = -1 := by decide
  have lm0 : (0 : Int32).toInt = 0 := by decide
  have lm2 : (1 : Int32).toInt = 1 := by decide
  refine lv_iload_n hx hb dX7_isThere_0 rfl (lv_at hl 1 rfl) ?_
  refine lv_aload_n hx hb dX7_isThere_1 rfl (lv_at hl 0 rfl) ?_
  refine va_get (D := g.1) (ci := 7) (v := .int (I_t 0 1)) (C := RX7) (T := TX7) (N := 8) hx hb hi_X7 (fun _ h => h) hown hK.1 hP 0 rfl rfl 1 (by decide) hf_15 (fun _ h9 => h9) rfl dX7_isThere_2 ?_
  refine PurI.cs (C := RX7) (As := [.int rule, .int (I_t 0 1)]) (kX7_isIn l g rule (I_t 0 1)) fx (gUS (uT _) u_620 u_621 u_31 u_622) rfl hdX7_isIn ⟨Nat.le_of_ble_eq_true rfl, Nat.le_of_ble_eq_true rfl⟩ hK hP [] rfl rfl rfl hl.1 (Nat.le_of_ble_eq_true rfl) dX7_isThere_5 (fun r1 p_r1 => ?_)
  exact hret 8 ls r1 dX7_isThere_8 (bP.z p_r1) p_r1

set_option maxHeartbeats 4000000 in
set_option maxRecDepth 100000 in
theorem kX7_letterAt (l : Launch) (g : gG) (a_t : Nat → Nat) (I_t : Nat → Nat → Int32) (rule : Int32) (k : Int32) (h_rule : 0 ≤ rule.toInt ∧ rule.toInt < 24) (h_k : 0 ≤ k.toInt ∧ k.toInt < 6) (hT : TI I_t) : PurI l g yX7_letterAt wsX7_letterAt 0 [.ref (a_t 0), .int rule, .int k] (wX7 g a_t I_t) (fun r => r = I_t 5 (rule.toInt * 6 + k.toInt).toNat ∧ 0 ≤ r.toInt ∧ r.toInt ≤ 31) := by
  refine PurI.st (cc := cX7_letterAt) (maxL := 3) (by decide) rfl (Nat.le_of_ble_eq_true rfl) (fun p e s m args below meth c Q ls fx hK hP hl hret => ?_)
  have hx := fx.1
  have hb := fx.2.1
  have hml := fx.2.2.1
  have hown := fx.2.2.2.1
  have hts := fx.2.2.2.2
  have hl : lv_has ls 3 [(0, .ref (a_t 0)), (1, .int rule), (2, .int k)] := hl
  have hP : va_P g.1 vwCl (wX7 g a_t I_t) s.heap := hP
  have hf_31 := hts _ (uT _ _ u_96)
  have hi_X7 : ∀ w ∈ wsX70, w.before args s = true := fun w h => hts w (uT _ w (u_wsX70 w h))
  have lm1 : (-1 : Int32).toInt = -1 := by decide
  have lm0 : (0 : Int32).toInt = 0 := by decide
  have lm2 : (1 : Int32).toInt = 1 := by decide
  refine lv_aload_n hx hb dX7_letterAt_0 rfl (lv_at hl 0 rfl) ?_
  refine va_get (D := g.1) (ci := 7) (v := .ref (a_t 5)) (C := RX7) (T := TX7) (N := 8) hx hb hi_X7 (fun _ h => h) hown hK.1 hP 0 rfl rfl 6 (by decide) hf_31 (fun _ h9 => h9) rfl dX7_letterAt_1 ?_
  refine lv_iload_n hx hb dX7_letterAt_4 rfl (lv_at hl 1 rfl) ?_
  refine lv_bipush (v := 6) hx hb dX7_letterAt_5 (by decide) ?_
  refine r_imul hx hb dX7_letterAt_7 rfl (by decide : (6 : Int32).toInt = 6) (fun x1 e_x1 t_x1 => ?_)
  try have t_x1 := t_x1 (by omega)
  refine lv_iload_n hx hb dX7_letterAt_8 rfl (lv_at hl 2 rfl) ?_
  refine r_iadd hx hb dX7_letterAt_9 rfl rfl (fun x2 e_x2 t_x2 => ?_)
  try have t_x2 := t_x2 (by omega)
  have n_10 : vp_in x2 144 := (t_in (by omega))
  refine va_iald hx hb hK.1 hP 5 0 rfl rfl n_10 dX7_letterAt_10 ?_
  refine q_nm (fun x3 e_x3 => ?_)
  have e_x3 : x3 = (I_t 5) x2.toNatClampNeg := e_x3
  have g_x3 : x3.toInt = ((I_t 5) x2.toNatClampNeg).toInt := congrArg _ e_x3
  have f_x3 := TI.lt hT x2.toNatClampNeg
  rw [← e_x3] at f_x3
  exact hret 11 ls x3 dX7_letterAt_11 ⟨by rw [e_x3]; show I_t 5 (x2.toInt.toNat) = _; rw [t_x2, t_x1], f_x3⟩

set_option maxHeartbeats 4000000 in
set_option maxRecDepth 100000 in
theorem kX7_cellAt (l : Launch) (g : gG) (a_t : Nat → Nat) (I_t : Nat → Nat → Int32) (rule : Int32) (k : Int32) (h_rule : 0 ≤ rule.toInt ∧ rule.toInt < 24) (h_k : 0 ≤ k.toInt ∧ k.toInt < 3) (hT : TI I_t) : PurI l g yX7_cellAt wsX7_cellAt 0 [.ref (a_t 0), .int rule, .int k] (wX7 g a_t I_t) (fun r => r = I_t 6 (rule.toInt * 3 + k.toInt).toNat ∧ 0 ≤ r.toInt ∧ r.toInt ≤ 63) := by
  refine PurI.st (cc := cX7_cellAt) (maxL := 3) (by decide) rfl (Nat.le_of_ble_eq_true rfl) (fun p e s m args below meth c Q ls fx hK hP hl hret => ?_)
  have hx := fx.1
  have hb := fx.2.1
  have hml := fx.2.2.1
  have hown := fx.2.2.2.1
  have hts := fx.2.2.2.2
  have hl : lv_has ls 3 [(0, .ref (a_t 0)), (1, .int rule), (2, .int k)] := hl
  have hP : va_P g.1 vwCl (wX7 g a_t I_t) s.heap := hP
  have hf_34 := hts _ (uT _ _ u_97)
  have hi_X7 : ∀ w ∈ wsX70, w.before args s = true := fun w h => hts w (uT _ w (u_wsX70 w h))
  have lm1 : (-1 : Int32).toInt = -1 := by decide
  have lm0 : (0 : Int32).toInt = 0 := by decide
  have lm2 : (1 : Int32).toInt = 1 := by decide
  refine lv_aload_n hx hb dX7_cellAt_0 rfl (lv_at hl 0 rfl) ?_
  refine va_get (D := g.1) (ci := 7) (v := .ref (a_t 6)) (C := RX7) (T := TX7) (N := 8) hx hb hi_X7 (fun _ h => h) hown hK.1 hP 0 rfl rfl 7 (by decide) hf_34 (fun _ h9 => h9) rfl dX7_cellAt_1 ?_
  refine lv_iload_n hx hb dX7_cellAt_4 rfl (lv_at hl 1 rfl) ?_
  refine lv_iconst (v := 3) hx hb dX7_cellAt_5 (by decide) ?_
  refine r_imul hx hb dX7_cellAt_6 rfl (by decide : (3 : Int32).toInt = 3) (fun x1 e_x1 t_x1 => ?_)
  try have t_x1 := t_x1 (by omega)
  refine lv_iload_n hx hb dX7_cellAt_7 rfl (lv_at hl 2 rfl) ?_
  refine r_iadd hx hb dX7_cellAt_8 rfl rfl (fun x2 e_x2 t_x2 => ?_)
  try have t_x2 := t_x2 (by omega)
  have n_9 : vp_in x2 72 := (t_in (by omega))
  refine va_iald hx hb hK.1 hP 6 0 rfl rfl n_9 dX7_cellAt_9 ?_
  refine q_nm (fun x3 e_x3 => ?_)
  have e_x3 : x3 = (I_t 6) x2.toNatClampNeg := e_x3
  have g_x3 : x3.toInt = ((I_t 6) x2.toNatClampNeg).toInt := congrArg _ e_x3
  have f_x3 := TI.cl hT x2.toNatClampNeg
  rw [← e_x3] at f_x3
  exact hret 10 ls x3 dX7_cellAt_10 ⟨by rw [e_x3]; show I_t 6 (x2.toInt.toNat) = _; rw [t_x2, t_x1], f_x3⟩

set_option maxHeartbeats 4000000 in
set_option maxRecDepth 100000 in
theorem kX7_condHolds (l : Launch) (g : gG) (a_t : Nat → Nat) (I_t : Nat → Nat → Int32) (rule : Int32) (bg : Int32) (en : Int32) (h_rule : 0 ≤ rule.toInt ∧ rule.toInt < 24) (hT : TI I_t) : PurI l g yX7_condHolds wsX7_condHolds 0 [.ref (a_t 0), .int rule, .int bg, .int en] (wX7 g a_t I_t) (fun r => bP (coP (I_t 4 rule.toInt.toNat).toInt (bg.toInt ≠ 0) (en.toInt ≠ 0)) (¬ coP (I_t 4 rule.toInt.toNat).toInt (bg.toInt ≠ 0) (en.toInt ≠ 0)) r) := by
  refine PurI.sz (cc := cX7_condHolds) (maxL := 4) (by decide) rfl (Nat.le_of_ble_eq_true rfl) (fun p e s m args below meth c Q ls fx hK hP hl hret => ?_)
  have hx := fx.1
  have hb := fx.2.1
  have hml := fx.2.2.1
  have hown := fx.2.2.2.1
  have hts := fx.2.2.2.2
  have hl : lv_has ls 4 [(0, .ref (a_t 0)), (1, .int rule), (2, .int bg), (3, .int en)] := hl
  have hP : va_P g.1 vwCl (wX7 g a_t I_t) s.heap := hP
  have hf_28 := hts _ (uT _ _ u_95)
  have hi_X7 : ∀ w ∈ wsX70, w.before args s = true := fun w h => hts w (uT _ w (u_wsX70 w h))
  have lm1 : (-1 : Int32).toInt = -1 := by decide
  have lm0 : (0 : Int32).toInt = 0 := by decide
  have lm2 : (1 : Int32).toInt = 1 := by decide
  refine lv_aload_n hx hb dX7_condHolds_0 rfl (lv_at hl 0 rfl) ?_
  refine va_get (D := g.1) (ci := 7) (v := .ref (a_t 4)) (C := RX7) (T := TX7) (N := 8) hx hb hi_X7 (fun _ h => h) hown hK.1 hP 0 rfl rfl 5 (by decide) hf_28 (fun _ h9 => h9) rfl dX7_condHolds_1 ?_
  refine lv_iload_n hx hb dX7_condHolds_4 rfl (lv_at hl 1 rfl) ?_
  have n_5 : vp_in rule 24 := (t_in (by omega))
  refine va_iald hx hb hK.1 hP 4 0 rfl rfl n_5 dX7_condHolds_5 ?_
  refine q_nm (fun x1 e_x1 => ?_)
  have e_x1 : x1 = (I_t 4) rule.toNatClampNeg := e_x1
  have g_x1 : x1.toInt = ((I_t 4) rule.toNatClampNeg).toInt := congrArg _ e_x1
  have f_x1 := TI.cd hT rule.toNatClampNeg
  rw [← e_x1] at f_x1
  have sw_6 : x1.toInt < 1 ∨ 4 < x1.toInt ∨ x1.toInt = 1 ∨ x1.toInt = 2 ∨ x1.toInt = 3 ∨ x1.toInt = 4 := by omega
  rcases sw_6 with k_6 | k_6 | k_6 | k_6 | k_6 | k_6
  · refine lv_tableOut (tgt := 92) hx hb dX7_condHolds_6 (by omega) (by decide) ?_
    refine lv_iconst (v := 1) hx hb dX7_condHolds_92 (by decide) ?_
    have lr : (1 : Int32).toInt = 1 := by decide
    exact hret 93 ls (1 : Int32) dX7_condHolds_93 (Or.inr rfl) (by have c5 : (I_t 4 rule.toInt.toNat).toInt = (x1).toInt := congrArg Int32.toInt e_x1.symm; unfold coP; rw [c5]; first | exact Or.inl ⟨rfl, by omega⟩ | exact Or.inr ⟨rfl, by omega⟩)
  · refine lv_tableOut (tgt := 92) hx hb dX7_condHolds_6 (by omega) (by decide) ?_
    refine lv_iconst (v := 1) hx hb dX7_condHolds_92 (by decide) ?_
    have lr : (1 : Int32).toInt = 1 := by decide
    exact hret 93 ls (1 : Int32) dX7_condHolds_93 (Or.inr rfl) (by have c5 : (I_t 4 rule.toInt.toNat).toInt = (x1).toInt := congrArg Int32.toInt e_x1.symm; unfold coP; rw [c5]; first | exact Or.inl ⟨rfl, by omega⟩ | exact Or.inr ⟨rfl, by omega⟩)
  · refine lv_tableIn (tgt := 36) hx hb dX7_condHolds_6 (by omega) (by omega) (by rw [k_6]; rfl) (by decide) ?_
    refine lv_iload_n hx hb dX7_condHolds_36 rfl (lv_at hl 2 rfl) ?_
    refine q_if_eq (tgt := 48) hx hb dX7_condHolds_37 (by decide) rfl (fun b_37 k_37 => ?_) (fun b_37 k_37 => ?_)
    · refine lv_iconst (v := 0) hx hb dX7_condHolds_48 (by decide) ?_
      exact hret 49 ls (0 : Int32) dX7_condHolds_49 (Or.inl rfl) (by have c5 : (I_t 4 rule.toInt.toNat).toInt = (x1).toInt := congrArg Int32.toInt e_x1.symm; unfold coP; rw [c5]; first | exact Or.inl ⟨rfl, by omega⟩ | exact Or.inr ⟨rfl, by omega⟩)
    · refine lv_iload_n hx hb dX7_condHolds_40 rfl (lv_at hl 3 rfl) ?_
      refine q_if_ne (tgt := 48) hx hb dX7_condHolds_41 (by decide) rfl (fun b_41 k_41 => ?_) (fun b_41 k_41 => ?_)
      · refine lv_iconst (v := 0) hx hb dX7_condHolds_48 (by decide) ?_
        exact hret 49 ls (0 : Int32) dX7_condHolds_49 (Or.inl rfl) (by have c5 : (I_t 4 rule.toInt.toNat).toInt = (x1).toInt := congrArg Int32.toInt e_x1.symm; unfold coP; rw [c5]; first | exact Or.inl ⟨rfl, by omega⟩ | exact Or.inr ⟨rfl, by omega⟩)
      · refine lv_iconst (v := 1) hx hb dX7_condHolds_44 (by decide) ?_
        refine lv_goto (tgt := 49) hx hb dX7_condHolds_45 (by decide) ?_
        have lr : (1 : Int32).toInt = 1 := by decide
        exact hret 49 ls (1 : Int32) dX7_condHolds_49 (Or.inr rfl) (by have c5 : (I_t 4 rule.toInt.toNat).toInt = (x1).toInt := congrArg Int32.toInt e_x1.symm; unfold coP; rw [c5]; first | exact Or.inl ⟨rfl, by omega⟩ | exact Or.inr ⟨rfl, by omega⟩)
  · refine lv_tableIn (tgt := 50) hx hb dX7_condHolds_6 (by omega) (by omega) (by rw [k_6]; rfl) (by decide) ?_
    refine lv_iload_n hx hb dX7_condHolds_50 rfl (lv_at hl 2 rfl) ?_
    refine q_if_ne (tgt := 62) hx hb dX7_condHolds_51 (by decide) rfl (fun b_51 k_51 => ?_) (fun b_51 k_51 => ?_)
    · refine lv_iconst (v := 0) hx hb dX7_condHolds_62 (by decide) ?_
      exact hret 63 ls (0 : Int32) dX7_condHolds_63 (Or.inl rfl) (by have c5 : (I_t 4 rule.toInt.toNat).toInt = (x1).toInt := congrArg Int32.toInt e_x1.symm; unfold coP; rw [c5]; first | exact Or.inl ⟨rfl, by omega⟩ | exact Or.inr ⟨rfl, by omega⟩)
    · refine lv_iload_n hx hb dX7_condHolds_54 rfl (lv_at hl 3 rfl) ?_
      refine q_if_ne (tgt := 62) hx hb dX7_condHolds_55 (by decide) rfl (fun b_55 k_55 => ?_) (fun b_55 k_55 => ?_)
      · refine lv_iconst (v := 0) hx hb dX7_condHolds_62 (by decide) ?_
        exact hret 63 ls (0 : Int32) dX7_condHolds_63 (Or.inl rfl) (by have c5 : (I_t 4 rule.toInt.toNat).toInt = (x1).toInt := congrArg Int32.toInt e_x1.symm; unfold coP; rw [c5]; first | exact Or.inl ⟨rfl, by omega⟩ | exact Or.inr ⟨rfl, by omega⟩)
      · refine lv_iconst (v := 1) hx hb dX7_condHolds_58 (by decide) ?_
        refine lv_goto (tgt := 63) hx hb dX7_condHolds_59 (by decide) ?_
        have lr : (1 : Int32).toInt = 1 := by decide
        exact hret 63 ls (1 : Int32) dX7_condHolds_63 (Or.inr rfl) (by have c5 : (I_t 4 rule.toInt.toNat).toInt = (x1).toInt := congrArg Int32.toInt e_x1.symm; unfold coP; rw [c5]; first | exact Or.inl ⟨rfl, by omega⟩ | exact Or.inr ⟨rfl, by omega⟩)
  · refine lv_tableIn (tgt := 64) hx hb dX7_condHolds_6 (by omega) (by omega) (by rw [k_6]; rfl) (by decide) ?_
    refine lv_iload_n hx hb dX7_condHolds_64 rfl (lv_at hl 2 rfl) ?_
    refine q_if_ne (tgt := 76) hx hb dX7_condHolds_65 (by decide) rfl (fun b_65 k_65 => ?_) (fun b_65 k_65 => ?_)
    · refine lv_iconst (v := 0) hx hb dX7_condHolds_76 (by decide) ?_
      exact hret 77 ls (0 : Int32) dX7_condHolds_77 (Or.inl rfl) (by have c5 : (I_t 4 rule.toInt.toNat).toInt = (x1).toInt := congrArg Int32.toInt e_x1.symm; unfold coP; rw [c5]; first | exact Or.inl ⟨rfl, by omega⟩ | exact Or.inr ⟨rfl, by omega⟩)
    · refine lv_iload_n hx hb dX7_condHolds_68 rfl (lv_at hl 3 rfl) ?_
      refine q_if_eq (tgt := 76) hx hb dX7_condHolds_69 (by decide) rfl (fun b_69 k_69 => ?_) (fun b_69 k_69 => ?_)
      · refine lv_iconst (v := 0) hx hb dX7_condHolds_76 (by decide) ?_
        exact hret 77 ls (0 : Int32) dX7_condHolds_77 (Or.inl rfl) (by have c5 : (I_t 4 rule.toInt.toNat).toInt = (x1).toInt := congrArg Int32.toInt e_x1.symm; unfold coP; rw [c5]; first | exact Or.inl ⟨rfl, by omega⟩ | exact Or.inr ⟨rfl, by omega⟩)
      · refine lv_iconst (v := 1) hx hb dX7_condHolds_72 (by decide) ?_
        refine lv_goto (tgt := 77) hx hb dX7_condHolds_73 (by decide) ?_
        have lr : (1 : Int32).toInt = 1 := by decide
        exact hret 77 ls (1 : Int32) dX7_condHolds_77 (Or.inr rfl) (by have c5 : (I_t 4 rule.toInt.toNat).toInt = (x1).toInt := congrArg Int32.toInt e_x1.symm; unfold coP; rw [c5]; first | exact Or.inl ⟨rfl, by omega⟩ | exact Or.inr ⟨rfl, by omega⟩)
  · refine lv_tableIn (tgt := 78) hx hb dX7_condHolds_6 (by omega) (by omega) (by rw [k_6]; rfl) (by decide) ?_
    refine lv_iload_n hx hb dX7_condHolds_78 rfl (lv_at hl 2 rfl) ?_
    refine q_if_eq (tgt := 90) hx hb dX7_condHolds_79 (by decide) rfl (fun b_79 k_79 => ?_) (fun b_79 k_79 => ?_)
    · refine lv_iconst (v := 0) hx hb dX7_condHolds_90 (by decide) ?_
      exact hret 91 ls (0 : Int32) dX7_condHolds_91 (Or.inl rfl) (by have c5 : (I_t 4 rule.toInt.toNat).toInt = (x1).toInt := congrArg Int32.toInt e_x1.symm; unfold coP; rw [c5]; first | exact Or.inl ⟨rfl, by omega⟩ | exact Or.inr ⟨rfl, by omega⟩)
    · refine lv_iload_n hx hb dX7_condHolds_82 rfl (lv_at hl 3 rfl) ?_
      refine q_if_eq (tgt := 90) hx hb dX7_condHolds_83 (by decide) rfl (fun b_83 k_83 => ?_) (fun b_83 k_83 => ?_)
      · refine lv_iconst (v := 0) hx hb dX7_condHolds_90 (by decide) ?_
        exact hret 91 ls (0 : Int32) dX7_condHolds_91 (Or.inl rfl) (by have c5 : (I_t 4 rule.toInt.toNat).toInt = (x1).toInt := congrArg Int32.toInt e_x1.symm; unfold coP; rw [c5]; first | exact Or.inl ⟨rfl, by omega⟩ | exact Or.inr ⟨rfl, by omega⟩)
      · refine lv_iconst (v := 1) hx hb dX7_condHolds_86 (by decide) ?_
        refine lv_goto (tgt := 91) hx hb dX7_condHolds_87 (by decide) ?_
        have lr : (1 : Int32).toInt = 1 := by decide
        exact hret 91 ls (1 : Int32) dX7_condHolds_91 (Or.inr rfl) (by have c5 : (I_t 4 rule.toInt.toNat).toInt = (x1).toInt := congrArg Int32.toInt e_x1.symm; unfold coP; rw [c5]; first | exact Or.inl ⟨rfl, by omega⟩ | exact Or.inr ⟨rfl, by omega⟩)

set_option maxHeartbeats 4000000 in
set_option maxRecDepth 100000 in
theorem kX7_mayStand (l : Launch) (g : gG) (a_t : Nat → Nat) (I_t : Nat → Nat → Int32) (a_x : Nat → Nat) (n_x : Nat) (I_x : Nat → Nat → Int32) (rule : Int32) (fr : Int32) (to : Int32) (ia : Int32) (h_rule : 0 ≤ rule.toInt ∧ rule.toInt < 24) (hT : TI I_t) (h_at : 0 ≤ ia.toInt ∧ ia.toInt < to.toInt ∧ to.toInt ≤ (n_x : Int) ∧ n_x ≤ 1000) : PurI l g yX7_mayStand wsX7_mayStand 1 [.ref (a_t 0), .int rule, .ref (a_x 0), .int fr, .int to, .int ia] (wX7 g a_t I_t ++ wArr g a_x n_x I_x) (fun r => bP (ia.toInt + (I_t 2 rule.toNatClampNeg).toInt ≤ to.toInt ∧ (uPr I_t (fxB (I_x 0)) ia.toInt to.toInt → rule.toInt < (I_t 0 0).toInt → uSt (fxTc I_t) (fxB (I_x 0)) rule.toInt.toNat ia.toInt fr.toInt to.toInt)) (uPr I_t (fxB (I_x 0)) ia.toInt to.toInt → rule.toInt < (I_t 0 0).toInt → ¬ uSt (fxTc I_t) (fxB (I_x 0)) rule.toInt.toNat ia.toInt fr.toInt to.toInt) r) := by
  refine PurI.sz (cc := cX7_mayStand) (maxL := 8) (by decide) rfl (Nat.le_of_ble_eq_true rfl) (fun p e s m args below meth c Q ls fx hK hP hl hret => ?_)
  have hx := fx.1
  have hb := fx.2.1
  have hml := fx.2.2.1
  have hown := fx.2.2.2.1
  have hts := fx.2.2.2.2
  have hl : lv_has ls 8 [(0, .ref (a_t 0)), (1, .int rule), (2, .ref (a_x 0)), (3, .int fr), (4, .int to), (5, .int ia)] := hl
  have hP : va_P g.1 vwCl (wX7 g a_t I_t ++ wArr g a_x n_x I_x) s.heap := hP
  have hf_22 := hts _ (uT _ _ u_93)
  have hi_X7 : ∀ w ∈ wsX70, w.before args s = true := fun w h => hts w (uT _ w (u_wsX70 w h))
  have lm1 : (-1 : Int32).toInt = -1 := by decide
  have lm0 : (0 : Int32).toInt = 0 := by decide
  have lm2 : (1 : Int32).toInt = 1 := by decide
  refine lv_iload hx hb dX7_mayStand_0 (lv_at hl 5 rfl) ?_
  refine lv_aload_n hx hb dX7_mayStand_2 rfl (lv_at hl 0 rfl) ?_
  refine va_get (D := g.1) (ci := 7) (v := .ref (a_t 2)) (C := RX7) (T := TX7) (N := 8) hx hb hi_X7 (fun _ h => h) hown hK.1 hP 0 rfl rfl 3 (by decide) hf_22 (fun _ h9 => h9) rfl dX7_mayStand_3 ?_
  refine lv_iload_n hx hb dX7_mayStand_6 rfl (lv_at hl 1 rfl) ?_
  have n_7 : vp_in rule 24 := (t_in (by omega))
  refine va_iald hx hb hK.1 hP 2 0 rfl rfl n_7 dX7_mayStand_7 ?_
  refine q_nm (fun x1 e_x1 => ?_)
  have e_x1 : x1 = (I_t 2) rule.toNatClampNeg := e_x1
  have g_x1 : x1.toInt = ((I_t 2) rule.toNatClampNeg).toInt := congrArg _ e_x1
  have f_x1 := TI.lc hT rule.toNatClampNeg
  rw [← e_x1] at f_x1
  have hlc : x1 = I_t 2 rule.toNatClampNeg := e_x1
  have hlc2 : (I_t 2 rule.toNatClampNeg).toInt = x1.toInt := by rw [hlc]
  have hlc3 : (I_t 2 rule.toInt.toNat).toInt = x1.toInt := hlc2
  refine r_iadd hx hb dX7_mayStand_8 rfl rfl (fun x2 e_x2 t_x2 => ?_)
  try have t_x2 := t_x2 (by omega)
  refine lv_istore (lv' := [(6, .int x2), (0, .ref (a_t 0)), (1, .int rule), (2, .ref (a_x 0)), (3, .int fr), (4, .int to), (5, .int ia)]) hx hb dX7_mayStand_9 hl (by decide) rfl (fun ls hl => ?_)
  refine lv_iload hx hb dX7_mayStand_11 (lv_at hl 0 rfl) ?_
  refine lv_iload hx hb dX7_mayStand_13 (lv_at hl 5 rfl) ?_
  refine q_icmp_gt (tgt := 34) hx hb dX7_mayStand_15 (by decide) rfl rfl (fun k_15 => ?_) (fun k_15 => ?_)
  · refine lv_iconst (v := 0) hx hb dX7_mayStand_34 (by decide) ?_
    exact hret 35 ls (0 : Int32) dX7_mayStand_35 (Or.inl rfl) (by exact Or.inr ⟨rfl, fun hp hr q => by have w := q.1; rw [uTc.lc (by omega)] at w; omega⟩)
  · refine lv_aload_n hx hb dX7_mayStand_18 rfl (lv_at hl 3 rfl) ?_
    refine lv_iload hx hb dX7_mayStand_19 (lv_at hl 6 rfl) ?_
    have n_21 : vp_in ia n_x := (t_in (by omega))
    refine va_iald hx hb hK.1 hP 7 0 rfl rfl n_21 dX7_mayStand_21 ?_
    refine q_nm (fun x3 e_x3 => ?_)
    have e_x3 : x3 = (I_x 0) ia.toNatClampNeg := e_x3
    have g_x3 : x3.toInt = ((I_x 0) ia.toNatClampNeg).toInt := congrArg _ e_x3
    refine PurI.cn (C := RX10) (host := "RaisedPress") (As := [.int x3]) (kX10_letterOf l g x3) fx (gU (uT _) u_454) rfl hdX10_letterOf ⟨Nat.le_of_ble_eq_true rfl, Nat.le_of_ble_eq_true rfl⟩ hK hP [] rfl (nm_in_RX7_51) (uT _ _ u_453) (uT _ _ u_2) rfl rfl hl.1 (Nat.le_of_ble_eq_true rfl) dX7_mayStand_22 (fun r4 p_r4 => ?_)
    refine lv_aload_n hx hb dX7_mayStand_25 rfl (lv_at hl 1 rfl) ?_
    refine lv_iload_n hx hb dX7_mayStand_26 rfl (lv_at hl 2 rfl) ?_
    refine lv_iconst (v := 0) hx hb dX7_mayStand_27 (by decide) ?_
    refine PurI.cv (As := [.int rule, .int (0 : Int32)]) (kX7_letterAt l g a_t I_t rule (0 : Int32) h_rule (by decide) hT) fx (gUV (uT _) u_479 u_480 u_481 u_31 u_482) rfl hdX7_letterAt ⟨Nat.le_of_ble_eq_true rfl, Nat.le_of_ble_eq_true rfl⟩ hK hP [0, 1, 2, 3, 4, 5, 6] rfl rfl rfl rfl rfl hl.1 (Nat.le_of_ble_eq_true rfl) dX7_mayStand_28 (fun r5 p_r5 => ?_)
    refine q_icmp_eq (tgt := 36) hx hb dX7_mayStand_31 (by decide) rfl rfl (fun k_31 => ?_) (fun k_31 => ?_)
    · refine lv_iload hx hb dX7_mayStand_36 (lv_at hl 6 rfl) ?_
      refine lv_iconst (v := 1) hx hb dX7_mayStand_38 (by decide) ?_
      refine r_iadd hx hb dX7_mayStand_39 rfl (by decide : (1 : Int32).toInt = 1) (fun x6 e_x6 t_x6 => ?_)
      try have t_x6 := t_x6 (by omega)
      refine lv_istore (lv' := [(7, .int x6), (6, .int x2), (0, .ref (a_t 0)), (1, .int rule), (2, .ref (a_x 0)), (3, .int fr), (4, .int to), (5, .int ia)]) hx hb dX7_mayStand_40 hl (by decide) rfl (fun ls hl => ?_)
      have L42 : ∀ (nn : Nat) (v7_42 : Int32), (hv_42 : ia.toInt < v7_42.toInt ∧ v7_42.toInt ≤ to.toInt) → (hq_42 : uPr I_t (fxB (I_x 0)) ia.toInt to.toInt → rule.toInt < (I_t 0 0).toInt → ∀ k : Nat, (k : Int) < v7_42.toInt - ia.toInt → uLo ((fxB (I_x 0)) (ia.toInt.toNat + k)) = (I_t 5 (6 * rule.toInt.toNat + k)).toInt ∧ (0 < k → ¬ uGr ((fxB (I_x 0)) (ia.toInt.toNat + k)))) → ((to.toInt - v7_42.toInt) < (nn : Int)) → ∀ ls : Array Slot, lv_has ls 8 [(7, .int v7_42), (6, .int x2), (0, .ref (a_t 0)), (1, .int rule), (2, .ref (a_x 0)), (3, .int fr), (4, .int to), (5, .int ia)] → W p l e (rm 1) s m args below meth c s.heap [] 0 0 Q (F0 m 42 ls []) := by
        intro n_42
        induction n_42 with
        | zero =>
          intro v7_42 hv_42 hq_42 hms_42 ls hl
          exfalso; omega
        | succ n_42 ih_42 =>
          intro v7_42 hv_42 hq_42 hms_42 ls hl
          refine lv_iload hx hb dX7_mayStand_42 (lv_at hl 0 rfl) ?_
          refine lv_iload hx hb dX7_mayStand_44 (lv_at hl 1 rfl) ?_
          refine q_icmp_ge (tgt := 87) hx hb dX7_mayStand_46 (by decide) rfl rfl (fun k_46 => ?_) (fun k_46 => ?_)
          · refine lv_aload_n hx hb dX7_mayStand_87 rfl (lv_at hl 2 rfl) ?_
            refine lv_iload_n hx hb dX7_mayStand_88 rfl (lv_at hl 3 rfl) ?_
            refine lv_iload hx hb dX7_mayStand_89 (lv_at hl 7 rfl) ?_
            refine lv_iload_n hx hb dX7_mayStand_91 rfl (lv_at hl 5 rfl) ?_
            refine q_icmp_ne (tgt := 99) hx hb dX7_mayStand_92 (by decide) rfl rfl (fun k_92 => ?_) (fun k_92 => ?_)
            · refine lv_iconst (v := 0) hx hb dX7_mayStand_99 (by decide) ?_
              refine lv_iload hx hb dX7_mayStand_100 (lv_at hl 1 rfl) ?_
              refine lv_iload hx hb dX7_mayStand_102 (lv_at hl 6 rfl) ?_
              refine q_icmp_ne (tgt := 111) hx hb dX7_mayStand_104 (by decide) rfl rfl (fun k_104 => ?_) (fun k_104 => ?_)
              · refine lv_iconst (v := 0) hx hb dX7_mayStand_111 (by decide) ?_
                refine PurI.cv (As := [.int rule, .int (0 : Int32), .int (0 : Int32)]) (kX7_condHolds l g a_t I_t rule (0 : Int32) (0 : Int32) h_rule hT) fx (gUV (uT _) u_658 u_659 u_660 u_31 u_661) rfl hdX7_condHolds ⟨Nat.le_of_ble_eq_true rfl, Nat.le_of_ble_eq_true rfl⟩ hK hP [0, 1, 2, 3, 4, 5, 6] rfl rfl rfl rfl rfl hl.1 (Nat.le_of_ble_eq_true rfl) dX7_mayStand_112 (fun r7 p_r7 => ?_)
                exact hret 115 ls r7 dX7_mayStand_115 (bP.z p_r7) (bP.imp p_r7 (fun q => ⟨by omega, fun hp hr => ⟨by rw [uTc.lc (by omega)]; omega, fun k hk => by rw [uTc.lc (by omega)] at hk; rw [uTc.lt (by omega) hk]; exact hq_42 hp hr k (by omega), by rw [uTc.cd (by omega), uTc.lc (by omega)]; exact q.cg (by omega) (by omega)⟩⟩) (fun q hp hr w => q (by have w3 := w.2.2; rw [uTc.cd (by omega), uTc.lc (by omega)] at w3; exact w3.cg (by omega) (by omega))))
              · refine lv_iconst (v := 1) hx hb dX7_mayStand_107 (by decide) ?_
                refine lv_goto (tgt := 112) hx hb dX7_mayStand_108 (by decide) ?_
                refine PurI.cv (As := [.int rule, .int (0 : Int32), .int (1 : Int32)]) (kX7_condHolds l g a_t I_t rule (0 : Int32) (1 : Int32) h_rule hT) fx (gUV (uT _) u_658 u_659 u_660 u_31 u_661) rfl hdX7_condHolds ⟨Nat.le_of_ble_eq_true rfl, Nat.le_of_ble_eq_true rfl⟩ hK hP [0, 1, 2, 3, 4, 5, 6] rfl rfl rfl rfl rfl hl.1 (Nat.le_of_ble_eq_true rfl) dX7_mayStand_112 (fun r8 p_r8 => ?_)
                exact hret 115 ls r8 dX7_mayStand_115 (bP.z p_r8) (bP.imp p_r8 (fun q => ⟨by omega, fun hp hr => ⟨by rw [uTc.lc (by omega)]; omega, fun k hk => by rw [uTc.lc (by omega)] at hk; rw [uTc.lt (by omega) hk]; exact hq_42 hp hr k (by omega), by rw [uTc.cd (by omega), uTc.lc (by omega)]; exact q.cg (by omega) (by omega)⟩⟩) (fun q hp hr w => q (by have w3 := w.2.2; rw [uTc.cd (by omega), uTc.lc (by omega)] at w3; exact w3.cg (by omega) (by omega))))
            · refine lv_iconst (v := 1) hx hb dX7_mayStand_95 (by decide) ?_
              refine lv_goto (tgt := 100) hx hb dX7_mayStand_96 (by decide) ?_
              refine lv_iload hx hb dX7_mayStand_100 (lv_at hl 1 rfl) ?_
              refine lv_iload hx hb dX7_mayStand_102 (lv_at hl 6 rfl) ?_
              refine q_icmp_ne (tgt := 111) hx hb dX7_mayStand_104 (by decide) rfl rfl (fun k_104 => ?_) (fun k_104 => ?_)
              · refine lv_iconst (v := 0) hx hb dX7_mayStand_111 (by decide) ?_
                refine PurI.cv (As := [.int rule, .int (1 : Int32), .int (0 : Int32)]) (kX7_condHolds l g a_t I_t rule (1 : Int32) (0 : Int32) h_rule hT) fx (gUV (uT _) u_658 u_659 u_660 u_31 u_661) rfl hdX7_condHolds ⟨Nat.le_of_ble_eq_true rfl, Nat.le_of_ble_eq_true rfl⟩ hK hP [0, 1, 2, 3, 4, 5, 6] rfl rfl rfl rfl rfl hl.1 (Nat.le_of_ble_eq_true rfl) dX7_mayStand_112 (fun r9 p_r9 => ?_)
                exact hret 115 ls r9 dX7_mayStand_115 (bP.z p_r9) (bP.imp p_r9 (fun q => ⟨by omega, fun hp hr => ⟨by rw [uTc.lc (by omega)]; omega, fun k hk => by rw [uTc.lc (by omega)] at hk; rw [uTc.lt (by omega) hk]; exact hq_42 hp hr k (by omega), by rw [uTc.cd (by omega), uTc.lc (by omega)]; exact q.cg (by omega) (by omega)⟩⟩) (fun q hp hr w => q (by have w3 := w.2.2; rw [uTc.cd (by omega), uTc.lc (by omega)] at w3; exact w3.cg (by omega) (by omega))))
              · refine lv_iconst (v := 1) hx hb dX7_mayStand_107 (by decide) ?_
                refine lv_goto (tgt := 112) hx hb dX7_mayStand_108 (by decide) ?_
                refine PurI.cv (As := [.int rule, .int (1 : Int32), .int (1 : Int32)]) (kX7_condHolds l g a_t I_t rule (1 : Int32) (1 : Int32) h_rule hT) fx (gUV (uT _) u_658 u_659 u_660 u_31 u_661) rfl hdX7_condHolds ⟨Nat.le_of_ble_eq_true rfl, Nat.le_of_ble_eq_true rfl⟩ hK hP [0, 1, 2, 3, 4, 5, 6] rfl rfl rfl rfl rfl hl.1 (Nat.le_of_ble_eq_true rfl) dX7_mayStand_112 (fun r10 p_r10 => ?_)
                exact hret 115 ls r10 dX7_mayStand_115 (bP.z p_r10) (bP.imp p_r10 (fun q => ⟨by omega, fun hp hr => ⟨by rw [uTc.lc (by omega)]; omega, fun k hk => by rw [uTc.lc (by omega)] at hk; rw [uTc.lt (by omega) hk]; exact hq_42 hp hr k (by omega), by rw [uTc.cd (by omega), uTc.lc (by omega)]; exact q.cg (by omega) (by omega)⟩⟩) (fun q hp hr w => q (by have w3 := w.2.2; rw [uTc.cd (by omega), uTc.lc (by omega)] at w3; exact w3.cg (by omega) (by omega))))
          · refine lv_aload_n hx hb dX7_mayStand_49 rfl (lv_at hl 4 rfl) ?_
            refine lv_iload hx hb dX7_mayStand_50 (lv_at hl 0 rfl) ?_
            have n_52 : vp_in v7_42 n_x := (t_in (by omega))
            refine va_iald hx hb hK.1 hP 7 0 rfl rfl n_52 dX7_mayStand_52 ?_
            refine q_nm (fun x11 e_x11 => ?_)
            have e_x11 : x11 = (I_x 0) v7_42.toNatClampNeg := e_x11
            have g_x11 : x11.toInt = ((I_x 0) v7_42.toNatClampNeg).toInt := congrArg _ e_x11
            refine PurI.cn (C := RX10) (host := "RaisedPress") (As := [.int x11]) (kX10_isGreat l g x11) fx (gU (uT _) u_641) rfl hdX10_isGreat ⟨Nat.le_of_ble_eq_true rfl, Nat.le_of_ble_eq_true rfl⟩ hK hP [] rfl (nm_in_RX7_55) (uT _ _ u_640) (uT _ _ u_2) rfl rfl hl.1 (Nat.le_of_ble_eq_true rfl) dX7_mayStand_53 (fun r12 p_r12 => ?_)
            refine q_if_ne (tgt := 79) hx hb dX7_mayStand_56 (by decide) rfl (fun b_56 k_56 => ?_) (fun b_56 k_56 => ?_)
            · have q_56 := bP.t p_r12 b_56
              refine lv_iconst (v := 0) hx hb dX7_mayStand_79 (by decide) ?_
              exact hret 80 ls (0 : Int32) dX7_mayStand_80 (Or.inl rfl) (by exact Or.inr ⟨rfl, fun hp hr q => u_mig (k := (v7_42.toInt - ia.toInt).toNat) (by omega) q (by omega) (by omega) (by rw [e_x11, show ia.toInt.toNat + (v7_42.toInt - ia.toInt).toNat = v7_42.toNatClampNeg from (by show _ = v7_42.toInt.toNat; omega)]) q_56⟩)
            · have q_56 := bP.f p_r12 b_56
              refine lv_aload_n hx hb dX7_mayStand_59 rfl (lv_at hl 4 rfl) ?_
              refine lv_iload hx hb dX7_mayStand_60 (lv_at hl 0 rfl) ?_
              have n_62 : vp_in v7_42 n_x := (t_in (by omega))
              refine va_iald hx hb hK.1 hP 7 0 rfl rfl n_62 dX7_mayStand_62 ?_
              refine q_nm (fun x13 e_x13 => ?_)
              have e_x13 : x13 = (I_x 0) v7_42.toNatClampNeg := e_x13
              have g_x13 : x13.toInt = ((I_x 0) v7_42.toNatClampNeg).toInt := congrArg _ e_x13
              refine PurI.cn (C := RX10) (host := "RaisedPress") (As := [.int x13]) (kX10_letterOf l g x13) fx (gU (uT _) u_454) rfl hdX10_letterOf ⟨Nat.le_of_ble_eq_true rfl, Nat.le_of_ble_eq_true rfl⟩ hK hP [] rfl (nm_in_RX7_51) (uT _ _ u_453) (uT _ _ u_2) rfl rfl hl.1 (Nat.le_of_ble_eq_true rfl) dX7_mayStand_63 (fun r14 p_r14 => ?_)
              refine lv_aload_n hx hb dX7_mayStand_66 rfl (lv_at hl 2 rfl) ?_
              refine lv_iload_n hx hb dX7_mayStand_67 rfl (lv_at hl 3 rfl) ?_
              refine lv_iload hx hb dX7_mayStand_68 (lv_at hl 0 rfl) ?_
              refine lv_iload hx hb dX7_mayStand_70 (lv_at hl 7 rfl) ?_
              refine r_isub hx hb dX7_mayStand_72 rfl rfl (fun x15 e_x15 t_x15 => ?_)
              try have t_x15 := t_x15 (by omega)
              refine PurI.cv (As := [.int rule, .int x15]) (kX7_letterAt l g a_t I_t rule x15 h_rule (by omega) hT) fx (gUV (uT _) u_479 u_480 u_481 u_31 u_482) rfl hdX7_letterAt ⟨Nat.le_of_ble_eq_true rfl, Nat.le_of_ble_eq_true rfl⟩ hK hP [0, 1, 2, 3, 4, 5, 6] rfl rfl rfl rfl rfl hl.1 (Nat.le_of_ble_eq_true rfl) dX7_mayStand_73 (fun r16 p_r16 => ?_)
              refine q_icmp_eq (tgt := 81) hx hb dX7_mayStand_76 (by decide) rfl rfl (fun k_76 => ?_) (fun k_76 => ?_)
              · refine r_iinc (lv' := fun i17 => [(7, .int i17), (6, .int x2), (0, .ref (a_t 0)), (1, .int rule), (2, .ref (a_x 0)), (3, .int fr), (4, .int to), (5, .int ia)]) hx hb dX7_mayStand_81 hl (k := 0) rfl (by decide) rfl (by decide) (fun _ => rfl) (fun i17 e_i17 t_i17 ls hl => ?_)
                try have t_i17 := t_i17 (by omega)
                refine lv_goto (tgt := 42) hx hb dX7_mayStand_84 (by decide) ?_
                exact ih_42 i17 (by omega) (fun hp hr => tq_ext (P := fun k => uLo ((fxB (I_x 0)) (ia.toInt.toNat + k)) = (I_t 5 (6 * rule.toInt.toNat + k)).toInt ∧ (0 < k → ¬ uGr ((fxB (I_x 0)) (ia.toInt.toNat + k)))) (hq_42 hp hr) (by omega) (by omega) (by exact ⟨u_hit (k := (v7_42.toInt - ia.toInt).toNat) hp (by omega) (by omega) (by rw [e_x13, show ia.toInt.toNat + (v7_42.toInt - ia.toInt).toNat = v7_42.toNatClampNeg from (by show _ = v7_42.toInt.toNat; omega)]) p_r14.1 (by rw [p_r16.1]; congr 1; omega) k_76, fun _ w => q_56 (by rw [e_x11, show v7_42.toNatClampNeg = ia.toInt.toNat + (v7_42.toInt - ia.toInt).toNat from (by show v7_42.toInt.toNat = _; omega)]; exact w)⟩)) (by omega) ls hl
              · refine lv_iconst (v := 0) hx hb dX7_mayStand_79 (by decide) ?_
                exact hret 80 ls (0 : Int32) dX7_mayStand_80 (Or.inl rfl) (by first | exact Or.inr ⟨rfl, fun hp hr q => u_mig (k := (v7_42.toInt - ia.toInt).toNat) (by omega) q (by omega) (by omega) (by rw [e_x11, show ia.toInt.toNat + (v7_42.toInt - ia.toInt).toNat = v7_42.toNatClampNeg from (by show _ = v7_42.toInt.toNat; omega)]) q_56⟩ | exact Or.inr ⟨rfl, fun hp hr q => k_76 (u_mis (k := (v7_42.toInt - ia.toInt).toNat) (by omega) hp (by omega) q (by omega) (by rw [e_x13, show ia.toInt.toNat + (v7_42.toInt - ia.toInt).toNat = v7_42.toNatClampNeg from (by show _ = v7_42.toInt.toNat; omega)]) p_r14.1 (by rw [p_r16.1]; congr 1; omega))⟩)
      exact L42 ((to.toInt - x6.toInt) + 1).toNat x6 (by omega) (fun hp hr k hk => by have e0 : k = 0 := (by omega); subst e0; exact ⟨u_hit (k := 0) hp (by omega) (by omega) (by rw [e_x3]; rfl) p_r4.1 (by rw [p_r5.1]; congr 1; omega) k_31, fun w => absurd w (Nat.lt_irrefl 0)⟩) (by omega) ls hl
    · refine lv_iconst (v := 0) hx hb dX7_mayStand_34 (by decide) ?_
      exact hret 35 ls (0 : Int32) dX7_mayStand_35 (Or.inl rfl) (by first | exact Or.inr ⟨rfl, fun hp hr q => by have w := q.1; rw [uTc.lc (by omega)] at w; omega⟩ | exact Or.inr ⟨rfl, fun hp hr q => k_31 (u_mis (k := 0) (by omega) hp (by omega) q (by have := hp.1 rule.toInt.toNat (by omega); omega) (by rw [e_x3]; rfl) p_r4.1 (by rw [p_r5.1]; congr 1; omega))⟩)

set_option maxHeartbeats 4000000 in
set_option maxRecDepth 100000 in
theorem kJ6_bitCount_0f7a4 (l : Launch) (g : gG) (i : Int32)  : PurI l g yJ6_bitCount_0f7a4 wsJ6_bitCount_0f7a4 0 [.int i] ([]) (fun r => r = bcF i) := by
  refine PurI.st (cc := cJ6_bitCount_0f7a4) (maxL := 1) (by decide) rfl (Nat.le_of_ble_eq_true rfl) (fun p e s m args below meth c Q ls fx hK hP hl hret => ?_)
  have hx := fx.1
  have hb := fx.2.1
  have hml := fx.2.2.1
  have hown := fx.2.2.2.1
  have hts := fx.2.2.2.2
  have hl : lv_has ls 1 [(0, .int i)] := hl
  have hP : va_P g.1 vwCl ([]) s.heap := hP
  have hc_265 := hts _ (uT _ _ u_1002)
  have hc_266 := hts _ (uT _ _ u_1003)
  have hc_267 := hts _ (uT _ _ u_1004)
  have lm1 : (-1 : Int32).toInt = -1 := by decide
  have lm0 : (0 : Int32).toInt = 0 := by decide
  have lm2 : (1 : Int32).toInt = 1 := by decide
  refine lv_iload_n hx hb dJ6_bitCount_0f7a4_0 rfl (lv_at hl 0 rfl) ?_
  refine lv_iload_n hx hb dJ6_bitCount_0f7a4_1 rfl (lv_at hl 0 rfl) ?_
  refine lv_iconst (v := 1) hx hb dJ6_bitCount_0f7a4_2 (by decide) ?_
  refine lv_iushr hx hb dJ6_bitCount_0f7a4_3 rfl ?_
  refine q_nm (fun x1 e_x1 => ?_)
  refine lv_ldcw hx hb hown hc_265 dJ6_bitCount_0f7a4_4 ?_
  refine lv_iand hx hb dJ6_bitCount_0f7a4_7 ?_
  refine q_nm (fun x2 e_x2 => ?_)
  refine r_isub hx hb dJ6_bitCount_0f7a4_8 rfl rfl (fun x3 e_x3 t_x3 => ?_)
  try have t_x3 := t_x3 (by omega)
  refine lv_istore_n (lv' := [(0, .int x3)]) hx hb dJ6_bitCount_0f7a4_9 rfl hl (by decide) rfl (fun ls hl => ?_)
  refine lv_iload_n hx hb dJ6_bitCount_0f7a4_10 rfl (lv_at hl 0 rfl) ?_
  refine lv_ldcw hx hb hown hc_266 dJ6_bitCount_0f7a4_11 ?_
  refine lv_iand hx hb dJ6_bitCount_0f7a4_14 ?_
  refine q_nm (fun x4 e_x4 => ?_)
  refine lv_iload_n hx hb dJ6_bitCount_0f7a4_15 rfl (lv_at hl 0 rfl) ?_
  refine lv_iconst (v := 2) hx hb dJ6_bitCount_0f7a4_16 (by decide) ?_
  refine lv_iushr hx hb dJ6_bitCount_0f7a4_17 rfl ?_
  refine q_nm (fun x5 e_x5 => ?_)
  refine lv_ldcw hx hb hown hc_266 dJ6_bitCount_0f7a4_18 ?_
  refine lv_iand hx hb dJ6_bitCount_0f7a4_21 ?_
  refine q_nm (fun x6 e_x6 => ?_)
  refine r_iadd hx hb dJ6_bitCount_0f7a4_22 rfl rfl (fun x7 e_x7 t_x7 => ?_)
  try have t_x7 := t_x7 (by omega)
  refine lv_istore_n (lv' := [(0, .int x7)]) hx hb dJ6_bitCount_0f7a4_23 rfl hl (by decide) rfl (fun ls hl => ?_)
  refine lv_iload_n hx hb dJ6_bitCount_0f7a4_24 rfl (lv_at hl 0 rfl) ?_
  refine lv_iload_n hx hb dJ6_bitCount_0f7a4_25 rfl (lv_at hl 0 rfl) ?_
  refine lv_iconst (v := 4) hx hb dJ6_bitCount_0f7a4_26 (by decide) ?_
  refine lv_iushr hx hb dJ6_bitCount_0f7a4_27 rfl ?_
  refine q_nm (fun x8 e_x8 => ?_)
  refine r_iadd hx hb dJ6_bitCount_0f7a4_28 rfl rfl (fun x9 e_x9 t_x9 => ?_)
  try have t_x9 := t_x9 (by omega)
  refine lv_ldcw hx hb hown hc_267 dJ6_bitCount_0f7a4_29 ?_
  refine lv_iand hx hb dJ6_bitCount_0f7a4_32 ?_
  refine q_nm (fun x10 e_x10 => ?_)
  refine lv_istore_n (lv' := [(0, .int x10)]) hx hb dJ6_bitCount_0f7a4_33 rfl hl (by decide) rfl (fun ls hl => ?_)
  refine lv_iload_n hx hb dJ6_bitCount_0f7a4_34 rfl (lv_at hl 0 rfl) ?_
  refine lv_iload_n hx hb dJ6_bitCount_0f7a4_35 rfl (lv_at hl 0 rfl) ?_
  refine lv_bipush (v := 8) hx hb dJ6_bitCount_0f7a4_36 (by decide) ?_
  refine lv_iushr hx hb dJ6_bitCount_0f7a4_38 rfl ?_
  refine q_nm (fun x11 e_x11 => ?_)
  refine r_iadd hx hb dJ6_bitCount_0f7a4_39 rfl rfl (fun x12 e_x12 t_x12 => ?_)
  try have t_x12 := t_x12 (by omega)
  refine lv_istore_n (lv' := [(0, .int x12)]) hx hb dJ6_bitCount_0f7a4_40 rfl hl (by decide) rfl (fun ls hl => ?_)
  refine lv_iload_n hx hb dJ6_bitCount_0f7a4_41 rfl (lv_at hl 0 rfl) ?_
  refine lv_iload_n hx hb dJ6_bitCount_0f7a4_42 rfl (lv_at hl 0 rfl) ?_
  refine lv_bipush (v := 16) hx hb dJ6_bitCount_0f7a4_43 (by decide) ?_
  refine lv_iushr hx hb dJ6_bitCount_0f7a4_45 rfl ?_
  refine q_nm (fun x13 e_x13 => ?_)
  refine r_iadd hx hb dJ6_bitCount_0f7a4_46 rfl rfl (fun x14 e_x14 t_x14 => ?_)
  try have t_x14 := t_x14 (by omega)
  refine lv_istore_n (lv' := [(0, .int x14)]) hx hb dJ6_bitCount_0f7a4_47 rfl hl (by decide) rfl (fun ls hl => ?_)
  refine lv_iload_n hx hb dJ6_bitCount_0f7a4_48 rfl (lv_at hl 0 rfl) ?_
  refine lv_bipush (v := 63) hx hb dJ6_bitCount_0f7a4_49 (by decide) ?_
  refine lv_iand hx hb dJ6_bitCount_0f7a4_51 ?_
  refine q_nm (fun x15 e_x15 => ?_)
  exact hret 52 ls x15 dJ6_bitCount_0f7a4_52 (by subst_vars; rfl)

set_option maxHeartbeats 4000000 in
set_option maxRecDepth 100000 in
theorem kX7_isSameRule (l : Launch) (g : gG) (a_t : Nat → Nat) (I_t : Nat → Nat → Int32) (ra : Int32) (rb : Int32) (h_ra : 0 ≤ ra.toInt ∧ ra.toInt < 24) (h_rb : 0 ≤ rb.toInt ∧ rb.toInt < 24) (hT : TI I_t) : PurI l g yX7_isSameRule wsX7_isSameRule 1 [.ref (a_t 0), .int ra, .int rb] (wX7 g a_t I_t) (fun r => bP (fxLs I_t ra.toNatClampNeg = fxLs I_t rb.toNatClampNeg ∧ (I_t 4 ra.toNatClampNeg).toInt = (I_t 4 rb.toNatClampNeg).toInt) (¬ (fxLs I_t ra.toNatClampNeg = fxLs I_t rb.toNatClampNeg ∧ (I_t 4 ra.toNatClampNeg).toInt = (I_t 4 rb.toNatClampNeg).toInt)) r) := by
  refine PurI.sz (cc := cX7_isSameRule) (maxL := 4) (by decide) rfl (Nat.le_of_ble_eq_true rfl) (fun p e s m args below meth c Q ls fx hK hP hl hret => ?_)
  have hx := fx.1
  have hb := fx.2.1
  have hml := fx.2.2.1
  have hown := fx.2.2.2.1
  have hts := fx.2.2.2.2
  have hl : lv_has ls 4 [(0, .ref (a_t 0)), (1, .int ra), (2, .int rb)] := hl
  have hP : va_P g.1 vwCl (wX7 g a_t I_t) s.heap := hP
  have hf_22 := hts _ (uT _ _ u_93)
  have hf_28 := hts _ (uT _ _ u_95)
  have hi_X7 : ∀ w ∈ wsX70, w.before args s = true := fun w h => hts w (uT _ w (u_wsX70 w h))
  have lm1 : (-1 : Int32).toInt = -1 := by decide
  have lm0 : (0 : Int32).toInt = 0 := by decide
  have lm2 : (1 : Int32).toInt = 1 := by decide
  have ira := t_cl (i := ra) rfl h_ra.1
  have irb := t_cl (i := rb) rfl h_rb.1
  refine lv_aload_n hx hb dX7_isSameRule_0 rfl (lv_at hl 0 rfl) ?_
  refine va_get (D := g.1) (ci := 7) (v := .ref (a_t 2)) (C := RX7) (T := TX7) (N := 8) hx hb hi_X7 (fun _ h => h) hown hK.1 hP 0 rfl rfl 3 (by decide) hf_22 (fun _ h9 => h9) rfl dX7_isSameRule_1 ?_
  refine lv_iload_n hx hb dX7_isSameRule_4 rfl (lv_at hl 1 rfl) ?_
  have n_5 : vp_in ra 24 := (t_in (by omega))
  refine va_iald hx hb hK.1 hP 2 0 rfl rfl n_5 dX7_isSameRule_5 ?_
  refine q_nm (fun x1 e_x1 => ?_)
  have e_x1 : x1 = (I_t 2) ra.toNatClampNeg := e_x1
  have g_x1 : x1.toInt = ((I_t 2) ra.toNatClampNeg).toInt := congrArg _ e_x1
  have f_x1 := TI.lc hT ra.toNatClampNeg
  rw [← e_x1] at f_x1
  refine lv_aload_n hx hb dX7_isSameRule_6 rfl (lv_at hl 0 rfl) ?_
  refine va_get (D := g.1) (ci := 7) (v := .ref (a_t 2)) (C := RX7) (T := TX7) (N := 8) hx hb hi_X7 (fun _ h => h) hown hK.1 hP 0 rfl rfl 3 (by decide) hf_22 (fun _ h9 => h9) rfl dX7_isSameRule_7 ?_
  refine lv_iload_n hx hb dX7_isSameRule_10 rfl (lv_at hl 2 rfl) ?_
  have n_11 : vp_in rb 24 := (t_in (by omega))
  refine va_iald hx hb hK.1 hP 2 0 rfl rfl n_11 dX7_isSameRule_11 ?_
  refine q_nm (fun x2 e_x2 => ?_)
  have e_x2 : x2 = (I_t 2) rb.toNatClampNeg := e_x2
  have g_x2 : x2.toInt = ((I_t 2) rb.toNatClampNeg).toInt := congrArg _ e_x2
  have f_x2 := TI.lc hT rb.toNatClampNeg
  rw [← e_x2] at f_x2
  refine q_icmp_ne (tgt := 30) hx hb dX7_isSameRule_12 (by decide) rfl rfl (fun k_12 => ?_) (fun k_12 => ?_)
  · refine lv_iconst (v := 0) hx hb dX7_isSameRule_30 (by decide) ?_
    exact hret 31 ls (0 : Int32) dX7_isSameRule_31 (Or.inl rfl) (by exact Or.inr ⟨rfl, fun q => by have w := congrArg List.length q.1; rw [fxLs.len, fxLs.len, ← e_x1, ← e_x2] at w; omega⟩)
  · refine lv_aload_n hx hb dX7_isSameRule_15 rfl (lv_at hl 0 rfl) ?_
    refine va_get (D := g.1) (ci := 7) (v := .ref (a_t 4)) (C := RX7) (T := TX7) (N := 8) hx hb hi_X7 (fun _ h => h) hown hK.1 hP 0 rfl rfl 5 (by decide) hf_28 (fun _ h9 => h9) rfl dX7_isSameRule_16 ?_
    refine lv_iload_n hx hb dX7_isSameRule_19 rfl (lv_at hl 1 rfl) ?_
    have n_20 : vp_in ra 24 := (t_in (by omega))
    refine va_iald hx hb hK.1 hP 4 0 rfl rfl n_20 dX7_isSameRule_20 ?_
    refine q_nm (fun x3 e_x3 => ?_)
    have e_x3 : x3 = (I_t 4) ra.toNatClampNeg := e_x3
    have g_x3 : x3.toInt = ((I_t 4) ra.toNatClampNeg).toInt := congrArg _ e_x3
    have f_x3 := TI.cd hT ra.toNatClampNeg
    rw [← e_x3] at f_x3
    refine lv_aload_n hx hb dX7_isSameRule_21 rfl (lv_at hl 0 rfl) ?_
    refine va_get (D := g.1) (ci := 7) (v := .ref (a_t 4)) (C := RX7) (T := TX7) (N := 8) hx hb hi_X7 (fun _ h => h) hown hK.1 hP 0 rfl rfl 5 (by decide) hf_28 (fun _ h9 => h9) rfl dX7_isSameRule_22 ?_
    refine lv_iload_n hx hb dX7_isSameRule_25 rfl (lv_at hl 2 rfl) ?_
    have n_26 : vp_in rb 24 := (t_in (by omega))
    refine va_iald hx hb hK.1 hP 4 0 rfl rfl n_26 dX7_isSameRule_26 ?_
    refine q_nm (fun x4 e_x4 => ?_)
    have e_x4 : x4 = (I_t 4) rb.toNatClampNeg := e_x4
    have g_x4 : x4.toInt = ((I_t 4) rb.toNatClampNeg).toInt := congrArg _ e_x4
    have f_x4 := TI.cd hT rb.toNatClampNeg
    rw [← e_x4] at f_x4
    refine q_icmp_eq (tgt := 32) hx hb dX7_isSameRule_27 (by decide) rfl rfl (fun k_27 => ?_) (fun k_27 => ?_)
    · refine lv_iconst (v := 0) hx hb dX7_isSameRule_32 (by decide) ?_
      refine lv_istore_n (lv' := [(3, .int (0 : Int32)), (0, .ref (a_t 0)), (1, .int ra), (2, .int rb)]) hx hb dX7_isSameRule_33 rfl hl (by decide) rfl (fun ls hl => ?_)
      have L34 : ∀ (nn : Nat) (v3_34 : Int32), (hv_34 : 0 ≤ v3_34.toInt ∧ v3_34.toInt ≤ 6) → (hk_34 : ∀ k : Nat, (k : Int) < v3_34.toInt → (I_t 5 (6 * ra.toNatClampNeg + k)).toInt = (I_t 5 (6 * rb.toNatClampNeg + k)).toInt) → ((7 - v3_34.toInt) < (nn : Int)) → ∀ ls : Array Slot, lv_has ls 4 [(3, .int v3_34), (0, .ref (a_t 0)), (1, .int ra), (2, .int rb)] → W p l e (rm 1) s m args below meth c s.heap [] 0 0 Q (F0 m 34 ls []) := by
        intro n_34
        induction n_34 with
        | zero =>
          intro v3_34 hv_34 hk_34 hms_34 ls hl
          exfalso; omega
        | succ n_34 ih_34 =>
          intro v3_34 hv_34 hk_34 hms_34 ls hl
          refine lv_iload_n hx hb dX7_isSameRule_34 rfl (lv_at hl 0 rfl) ?_
          refine lv_aload_n hx hb dX7_isSameRule_35 rfl (lv_at hl 1 rfl) ?_
          refine va_get (D := g.1) (ci := 7) (v := .ref (a_t 2)) (C := RX7) (T := TX7) (N := 8) hx hb hi_X7 (fun _ h => h) hown hK.1 hP 0 rfl rfl 3 (by decide) hf_22 (fun _ h9 => h9) rfl dX7_isSameRule_36 ?_
          refine lv_iload_n hx hb dX7_isSameRule_39 rfl (lv_at hl 2 rfl) ?_
          have n_40 : vp_in ra 24 := (t_in (by omega))
          refine va_iald hx hb hK.1 hP 2 0 rfl rfl n_40 dX7_isSameRule_40 ?_
          refine q_nm (fun x5 e_x5 => ?_)
          have e_x5 : x5 = (I_t 2) ra.toNatClampNeg := e_x5
          have g_x5 : x5.toInt = ((I_t 2) ra.toNatClampNeg).toInt := congrArg _ e_x5
          have f_x5 := TI.lc hT ra.toNatClampNeg
          rw [← e_x5] at f_x5
          refine q_icmp_ge (tgt := 67) hx hb dX7_isSameRule_41 (by decide) rfl rfl (fun k_41 => ?_) (fun k_41 => ?_)
          · refine lv_iconst (v := 1) hx hb dX7_isSameRule_67 (by decide) ?_
            have lr : (1 : Int32).toInt = 1 := by decide
            exact hret 68 ls (1 : Int32) dX7_isSameRule_68 (Or.inr rfl) (Or.inl ⟨rfl, fxLs.eq (by rw [← e_x1, ← e_x2]; omega) (fun k hk => hk_34 k (by rw [← e_x5] at hk; omega)), by rw [← e_x3, ← e_x4]; omega⟩)
          · refine lv_aload_n hx hb dX7_isSameRule_44 rfl (lv_at hl 1 rfl) ?_
            refine lv_iload_n hx hb dX7_isSameRule_45 rfl (lv_at hl 2 rfl) ?_
            refine lv_iload_n hx hb dX7_isSameRule_46 rfl (lv_at hl 0 rfl) ?_
            refine PurI.cv (As := [.int ra, .int v3_34]) (kX7_letterAt l g a_t I_t ra v3_34 h_ra (by omega) hT) fx (gUV (uT _) u_479 u_480 u_481 u_31 u_482) rfl hdX7_letterAt ⟨Nat.le_of_ble_eq_true rfl, Nat.le_of_ble_eq_true rfl⟩ hK hP [0, 1, 2, 3, 4, 5, 6] rfl rfl rfl rfl rfl hl.1 (Nat.le_of_ble_eq_true rfl) dX7_isSameRule_47 (fun r6 p_r6 => ?_)
            refine lv_aload_n hx hb dX7_isSameRule_50 rfl (lv_at hl 1 rfl) ?_
            refine lv_iload_n hx hb dX7_isSameRule_51 rfl (lv_at hl 3 rfl) ?_
            refine lv_iload_n hx hb dX7_isSameRule_52 rfl (lv_at hl 0 rfl) ?_
            refine PurI.cv (As := [.int rb, .int v3_34]) (kX7_letterAt l g a_t I_t rb v3_34 h_rb (by omega) hT) fx (gUV (uT _) u_479 u_480 u_481 u_31 u_482) rfl hdX7_letterAt ⟨Nat.le_of_ble_eq_true rfl, Nat.le_of_ble_eq_true rfl⟩ hK hP [0, 1, 2, 3, 4, 5, 6] rfl rfl rfl rfl rfl hl.1 (Nat.le_of_ble_eq_true rfl) dX7_isSameRule_53 (fun r7 p_r7 => ?_)
            refine q_icmp_eq (tgt := 61) hx hb dX7_isSameRule_56 (by decide) rfl rfl (fun k_56 => ?_) (fun k_56 => ?_)
            · refine r_iinc (lv' := fun i8 => [(3, .int i8), (0, .ref (a_t 0)), (1, .int ra), (2, .int rb)]) hx hb dX7_isSameRule_61 hl (k := 0) rfl (by decide) rfl (by decide) (fun _ => rfl) (fun i8 e_i8 t_i8 ls hl => ?_)
              try have t_i8 := t_i8 (by omega)
              refine lv_goto (tgt := 34) hx hb dX7_isSameRule_64 (by decide) ?_
              exact ih_34 i8 (by omega) (fun k q => by by_cases w : (k : Int) < v3_34.toInt; exact hk_34 k w; rw [show 6 * ra.toNatClampNeg + k = (ra.toInt * 6 + v3_34.toInt).toNat by omega, show 6 * rb.toNatClampNeg + k = (rb.toInt * 6 + v3_34.toInt).toNat by omega, ← p_r6.1, ← p_r7.1]; exact k_56) (by omega) ls hl
            · refine lv_iconst (v := 0) hx hb dX7_isSameRule_59 (by decide) ?_
              exact hret 60 ls (0 : Int32) dX7_isSameRule_60 (Or.inl rfl) (Or.inr ⟨rfl, fun q => by have w := fxLs.at (k := v3_34.toInt.toNat) q.1 (by rw [← e_x5]; omega); rw [show 6 * ra.toNatClampNeg + v3_34.toInt.toNat = (ra.toInt * 6 + v3_34.toInt).toNat by omega, show 6 * rb.toNatClampNeg + v3_34.toInt.toNat = (rb.toInt * 6 + v3_34.toInt).toNat by omega, ← p_r6.1, ← p_r7.1] at w; exact k_56 w⟩)
      exact L34 ((7 - (0 : Int32).toInt) + 1).toNat (0 : Int32) (by omega) (fun k q => by rw [lm0] at q; omega) (by omega) ls hl
    · refine lv_iconst (v := 0) hx hb dX7_isSameRule_30 (by decide) ?_
      exact hret 31 ls (0 : Int32) dX7_isSameRule_31 (Or.inl rfl) (by first | exact Or.inr ⟨rfl, fun q => by have w := congrArg List.length q.1; rw [fxLs.len, fxLs.len, ← e_x1, ← e_x2] at w; omega⟩ | exact Or.inr ⟨rfl, fun q => by have w := q.2; rw [← e_x3, ← e_x4] at w; omega⟩)

set_option maxHeartbeats 4000000 in
set_option maxRecDepth 100000 in
theorem kX7_areAlike (l : Launch) (g : gG) (a_t : Nat → Nat) (I_t : Nat → Nat → Int32) (ra : Int32) (fa : Int32) (rb : Int32) (fb : Int32) (many : Int32) (h_ra : 0 ≤ ra.toInt ∧ ra.toInt < 24) (h_rb : 0 ≤ rb.toInt ∧ rb.toInt < 24) (h_fa : 0 ≤ fa.toInt ∧ 0 ≤ fb.toInt ∧ fa.toInt + many.toInt ≤ 3 ∧ fb.toInt + many.toInt ≤ 3) (hT : TI I_t) : PurI l g yX7_areAlike wsX7_areAlike 1 [.ref (a_t 0), .int ra, .int fa, .int rb, .int fb, .int many] (wX7 g a_t I_t) (fun r => bP (∀ k : Nat, (k : Int) < many.toInt → cL I_t ra.toInt.toNat (fa.toInt.toNat + k) = cL I_t rb.toInt.toNat (fb.toInt.toNat + k)) (∃ k : Nat, (k : Int) < many.toInt ∧ ¬ cL I_t ra.toInt.toNat (fa.toInt.toNat + k) = cL I_t rb.toInt.toNat (fb.toInt.toNat + k)) r) := by
  refine PurI.sz (cc := cX7_areAlike) (maxL := 7) (by decide) rfl (Nat.le_of_ble_eq_true rfl) (fun p e s m args below meth c Q ls fx hK hP hl hret => ?_)
  have hx := fx.1
  have hb := fx.2.1
  have hml := fx.2.2.1
  have hown := fx.2.2.2.1
  have hts := fx.2.2.2.2
  have hl : lv_has ls 7 [(0, .ref (a_t 0)), (1, .int ra), (2, .int fa), (3, .int rb), (4, .int fb), (5, .int many)] := hl
  have hP : va_P g.1 vwCl (wX7 g a_t I_t) s.heap := hP
  have lm1 : (-1 : Int32).toInt = -1 := by decide
  have lm0 : (0 : Int32).toInt = 0 := by decide
  have lm2 : (1 : Int32).toInt = 1 := by decide
  refine lv_iconst (v := 0) hx hb dX7_areAlike_0 (by decide) ?_
  refine lv_istore (lv' := [(6, .int (0 : Int32)), (0, .ref (a_t 0)), (1, .int ra), (2, .int fa), (3, .int rb), (4, .int fb), (5, .int many)]) hx hb dX7_areAlike_1 hl (by decide) rfl (fun ls hl => ?_)
  have L3 : ∀ (nn : Nat) (v6_3 : Int32), (hv_3 : 0 ≤ v6_3.toInt ∧ v6_3.toInt ≤ 4) → (hq_3 : ∀ k : Nat, (k : Int) < v6_3.toInt → cL I_t ra.toInt.toNat (fa.toInt.toNat + k) = cL I_t rb.toInt.toNat (fb.toInt.toNat + k)) → ((5 - v6_3.toInt) < (nn : Int)) → ∀ ls : Array Slot, lv_has ls 7 [(6, .int v6_3), (0, .ref (a_t 0)), (1, .int ra), (2, .int fa), (3, .int rb), (4, .int fb), (5, .int many)] → W p l e (rm 1) s m args below meth c s.heap [] 0 0 Q (F0 m 3 ls []) := by
    intro n_3
    induction n_3 with
    | zero =>
      intro v6_3 hv_3 hq_3 hms_3 ls hl
      exfalso; omega
    | succ n_3 ih_3 =>
      intro v6_3 hv_3 hq_3 hms_3 ls hl
      refine lv_iload hx hb dX7_areAlike_3 (lv_at hl 0 rfl) ?_
      refine lv_iload hx hb dX7_areAlike_5 (lv_at hl 6 rfl) ?_
      refine q_icmp_ge (tgt := 40) hx hb dX7_areAlike_7 (by decide) rfl rfl (fun k_7 => ?_) (fun k_7 => ?_)
      · refine lv_iconst (v := 1) hx hb dX7_areAlike_40 (by decide) ?_
        have lr : (1 : Int32).toInt = 1 := by decide
        exact hret 41 ls (1 : Int32) dX7_areAlike_41 (Or.inr rfl) (Or.inl ⟨rfl, fun k hk => hq_3 k (by omega)⟩)
      · refine lv_aload_n hx hb dX7_areAlike_10 rfl (lv_at hl 1 rfl) ?_
        refine lv_iload_n hx hb dX7_areAlike_11 rfl (lv_at hl 2 rfl) ?_
        refine lv_iload_n hx hb dX7_areAlike_12 rfl (lv_at hl 3 rfl) ?_
        refine lv_iload hx hb dX7_areAlike_13 (lv_at hl 0 rfl) ?_
        refine r_iadd hx hb dX7_areAlike_15 rfl rfl (fun x1 e_x1 t_x1 => ?_)
        try have t_x1 := t_x1 (by omega)
        refine PurI.cv (As := [.int ra, .int x1]) (kX7_cellAt l g a_t I_t ra x1 h_ra (by omega) hT) fx (gUV (uT _) u_1467 u_633 u_634 u_31 u_635) rfl hdX7_cellAt ⟨Nat.le_of_ble_eq_true rfl, Nat.le_of_ble_eq_true rfl⟩ hK hP [0, 1, 2, 3, 4, 5, 6] rfl rfl rfl rfl rfl hl.1 (Nat.le_of_ble_eq_true rfl) dX7_areAlike_16 (fun r2 p_r2 => ?_)
        refine lv_aload_n hx hb dX7_areAlike_19 rfl (lv_at hl 1 rfl) ?_
        refine lv_iload_n hx hb dX7_areAlike_20 rfl (lv_at hl 4 rfl) ?_
        refine lv_iload hx hb dX7_areAlike_21 (lv_at hl 5 rfl) ?_
        refine lv_iload hx hb dX7_areAlike_23 (lv_at hl 0 rfl) ?_
        refine r_iadd hx hb dX7_areAlike_25 rfl rfl (fun x3 e_x3 t_x3 => ?_)
        try have t_x3 := t_x3 (by omega)
        refine PurI.cv (As := [.int rb, .int x3]) (kX7_cellAt l g a_t I_t rb x3 h_rb (by omega) hT) fx (gUV (uT _) u_1467 u_633 u_634 u_31 u_635) rfl hdX7_cellAt ⟨Nat.le_of_ble_eq_true rfl, Nat.le_of_ble_eq_true rfl⟩ hK hP [0, 1, 2, 3, 4, 5, 6] rfl rfl rfl rfl rfl hl.1 (Nat.le_of_ble_eq_true rfl) dX7_areAlike_26 (fun r4 p_r4 => ?_)
        refine q_icmp_eq (tgt := 34) hx hb dX7_areAlike_29 (by decide) rfl rfl (fun k_29 => ?_) (fun k_29 => ?_)
        · refine r_iinc (lv' := fun i5 => [(6, .int i5), (0, .ref (a_t 0)), (1, .int ra), (2, .int fa), (3, .int rb), (4, .int fb), (5, .int many)]) hx hb dX7_areAlike_34 hl (k := 0) rfl (by decide) rfl (by decide) (fun _ => rfl) (fun i5 e_i5 t_i5 ls hl => ?_)
          try have t_i5 := t_i5 (by omega)
          refine lv_goto (tgt := 3) hx hb dX7_areAlike_37 (by decide) ?_
          exact ih_3 i5 (by omega) (tq_ext hq_3 (by omega) (by omega) (by rw [tq_cl2 (f := fa.toInt) (v := v6_3.toInt) p_r2.1 (by omega) (by omega) (by omega) (by omega), tq_cl2 (f := fb.toInt) (v := v6_3.toInt) p_r4.1 (by omega) (by omega) (by omega) (by omega)]; exact t_inj_ (by omega))) (by omega) ls hl
        · refine lv_iconst (v := 0) hx hb dX7_areAlike_32 (by decide) ?_
          exact hret 33 ls (0 : Int32) dX7_areAlike_33 (Or.inl rfl) (Or.inr ⟨rfl, v6_3.toInt.toNat, by omega, by rw [tq_cl2 (f := fa.toInt) (v := v6_3.toInt) p_r2.1 (by omega) (by omega) (by omega) (by omega), tq_cl2 (f := fb.toInt) (v := v6_3.toInt) p_r4.1 (by omega) (by omega) (by omega) (by omega)]; exact fun q => by have := congrArg Int32.toInt q; omega⟩)
  exact L3 ((5 - (0 : Int32).toInt) + 1).toNat (0 : Int32) (by omega) (fun k q => by rw [lm0] at q; exfalso; omega) (by omega) ls hl

set_option maxHeartbeats 4000000 in
set_option maxRecDepth 100000 in
theorem kX7_begins (l : Launch) (g : gG) (a_t : Nat → Nat) (I_t : Nat → Nat → Int32) (ra : Int32) (rb : Int32) (h_ra : 0 ≤ ra.toInt ∧ ra.toInt < 24) (h_rb : 0 ≤ rb.toInt ∧ rb.toInt < 24) (hT : TI I_t) : PurI l g yX7_begins wsX7_begins 2 [.ref (a_t 0), .int ra, .int rb] (wX7 g a_t I_t) (fun r => bP ((I_t 3 ra.toNatClampNeg).toInt ≤ (I_t 3 rb.toNatClampNeg).toInt ∧ begB (cC I_t) (cL I_t) ra.toInt.toNat rb.toInt.toNat = true) (begB (cC I_t) (cL I_t) ra.toInt.toNat rb.toInt.toNat = false) r) := by
  refine PurI.sz (cc := cX7_begins) (maxL := 3) (by decide) rfl (Nat.le_of_ble_eq_true rfl) (fun p e s m args below meth c Q ls fx hK hP hl hret => ?_)
  have hx := fx.1
  have hb := fx.2.1
  have hml := fx.2.2.1
  have hown := fx.2.2.2.1
  have hts := fx.2.2.2.2
  have hl : lv_has ls 3 [(0, .ref (a_t 0)), (1, .int ra), (2, .int rb)] := hl
  have hP : va_P g.1 vwCl (wX7 g a_t I_t) s.heap := hP
  have hf_25 := hts _ (uT _ _ u_94)
  have hi_X7 : ∀ w ∈ wsX70, w.before args s = true := fun w h => hts w (uT _ w (u_wsX70 w h))
  have lm1 : (-1 : Int32).toInt = -1 := by decide
  have lm0 : (0 : Int32).toInt = 0 := by decide
  have lm2 : (1 : Int32).toInt = 1 := by decide
  refine lv_aload_n hx hb dX7_begins_0 rfl (lv_at hl 0 rfl) ?_
  refine va_get (D := g.1) (ci := 7) (v := .ref (a_t 3)) (C := RX7) (T := TX7) (N := 8) hx hb hi_X7 (fun _ h => h) hown hK.1 hP 0 rfl rfl 4 (by decide) hf_25 (fun _ h9 => h9) rfl dX7_begins_1 ?_
  refine lv_iload_n hx hb dX7_begins_4 rfl (lv_at hl 1 rfl) ?_
  have n_5 : vp_in ra 24 := (t_in (by omega))
  refine va_iald hx hb hK.1 hP 3 0 rfl rfl n_5 dX7_begins_5 ?_
  refine q_nm (fun x1 e_x1 => ?_)
  have e_x1 : x1 = (I_t 3) ra.toNatClampNeg := e_x1
  have g_x1 : x1.toInt = ((I_t 3) ra.toNatClampNeg).toInt := congrArg _ e_x1
  have f_x1 := TI.cc hT ra.toNatClampNeg
  rw [← e_x1] at f_x1
  refine lv_aload_n hx hb dX7_begins_6 rfl (lv_at hl 0 rfl) ?_
  refine va_get (D := g.1) (ci := 7) (v := .ref (a_t 3)) (C := RX7) (T := TX7) (N := 8) hx hb hi_X7 (fun _ h => h) hown hK.1 hP 0 rfl rfl 4 (by decide) hf_25 (fun _ h9 => h9) rfl dX7_begins_7 ?_
  refine lv_iload_n hx hb dX7_begins_10 rfl (lv_at hl 2 rfl) ?_
  have n_11 : vp_in rb 24 := (t_in (by omega))
  refine va_iald hx hb hK.1 hP 3 0 rfl rfl n_11 dX7_begins_11 ?_
  refine q_nm (fun x2 e_x2 => ?_)
  have e_x2 : x2 = (I_t 3) rb.toNatClampNeg := e_x2
  have g_x2 : x2.toInt = ((I_t 3) rb.toNatClampNeg).toInt := congrArg _ e_x2
  have f_x2 := TI.cc hT rb.toNatClampNeg
  rw [← e_x2] at f_x2
  refine q_icmp_gt (tgt := 36) hx hb dX7_begins_12 (by decide) rfl rfl (fun k_12 => ?_) (fun k_12 => ?_)
  · refine lv_iconst (v := 0) hx hb dX7_begins_36 (by decide) ?_
    exact hret 37 ls (0 : Int32) dX7_begins_37 (Or.inl rfl) (by have c5 : (cC I_t ra.toInt.toNat).toInt = (x1).toInt := congrArg Int32.toInt e_x1.symm; have c11 : (cC I_t rb.toInt.toNat).toInt = (x2).toInt := congrArg Int32.toInt e_x2.symm; first | exact Or.inr ⟨rfl, begB.f1 (by omega)⟩ | exact Or.inl ⟨rfl, by rw [← e_x1, ← e_x2]; omega, begB.t (by omega) (fun k hk => by have w := q_29 k (by omega); rw [show (0 : Int32).toInt.toNat = 0 from rfl, Nat.zero_add] at w; exact w)⟩ | (obtain ⟨k9, h9, g9⟩ := q_29; exact Or.inr ⟨rfl, begB.f2 k9 (by omega) (fun w => g9 (by rw [show (0 : Int32).toInt.toNat = 0 from rfl, Nat.zero_add]; exact w))⟩))
  · refine lv_aload_n hx hb dX7_begins_15 rfl (lv_at hl 0 rfl) ?_
    refine lv_iload_n hx hb dX7_begins_16 rfl (lv_at hl 1 rfl) ?_
    refine lv_iconst (v := 0) hx hb dX7_begins_17 (by decide) ?_
    refine lv_iload_n hx hb dX7_begins_18 rfl (lv_at hl 2 rfl) ?_
    refine lv_iconst (v := 0) hx hb dX7_begins_19 (by decide) ?_
    refine lv_aload_n hx hb dX7_begins_20 rfl (lv_at hl 0 rfl) ?_
    refine va_get (D := g.1) (ci := 7) (v := .ref (a_t 3)) (C := RX7) (T := TX7) (N := 8) hx hb hi_X7 (fun _ h => h) hown hK.1 hP 0 rfl rfl 4 (by decide) hf_25 (fun _ h9 => h9) rfl dX7_begins_21 ?_
    refine lv_iload_n hx hb dX7_begins_24 rfl (lv_at hl 1 rfl) ?_
    have n_25 : vp_in ra 24 := (t_in (by omega))
    refine va_iald hx hb hK.1 hP 3 0 rfl rfl n_25 dX7_begins_25 ?_
    refine q_nm (fun x3 e_x3 => ?_)
    have e_x3 : x3 = (I_t 3) ra.toNatClampNeg := e_x3
    have g_x3 : x3.toInt = ((I_t 3) ra.toNatClampNeg).toInt := congrArg _ e_x3
    have f_x3 := TI.cc hT ra.toNatClampNeg
    rw [← e_x3] at f_x3
    refine PurI.cv (As := [.int ra, .int (0 : Int32), .int rb, .int (0 : Int32), .int x3]) (kX7_areAlike l g a_t I_t ra (0 : Int32) rb (0 : Int32) x3 h_ra h_rb (by have q1 := e_x1; have q3 := e_x3; rw [← q1] at q3; rw [q3]; simp; omega) hT) fx (gUV (uT _) u_1489 u_1490 u_1491 u_31 u_1492) rfl hdX7_areAlike ⟨Nat.le_of_ble_eq_true rfl, Nat.le_of_ble_eq_true rfl⟩ hK hP [0, 1, 2, 3, 4, 5, 6] rfl rfl rfl rfl rfl hl.1 (Nat.le_of_ble_eq_true rfl) dX7_begins_26 (fun r4 p_r4 => ?_)
    refine q_if_eq (tgt := 36) hx hb dX7_begins_29 (by decide) rfl (fun b_29 k_29 => ?_) (fun b_29 k_29 => ?_)
    · have q_29 := bP.f p_r4 b_29
      refine lv_iconst (v := 0) hx hb dX7_begins_36 (by decide) ?_
      exact hret 37 ls (0 : Int32) dX7_begins_37 (Or.inl rfl) (by have c5 : (cC I_t ra.toInt.toNat).toInt = (x1).toInt := congrArg Int32.toInt e_x1.symm; have c11 : (cC I_t rb.toInt.toNat).toInt = (x2).toInt := congrArg Int32.toInt e_x2.symm; first | exact Or.inr ⟨rfl, begB.f1 (by omega)⟩ | (have c25 : (x3).toInt = (x1).toInt := by rw [e_x3, e_x1]); first | exact Or.inl ⟨rfl, by rw [← e_x1, ← e_x2]; omega, begB.t (by omega) (fun k hk => by have w := q_29 k (by omega); rw [show (0 : Int32).toInt.toNat = 0 from rfl, Nat.zero_add] at w; exact w)⟩ | (obtain ⟨k9, h9, g9⟩ := q_29; exact Or.inr ⟨rfl, begB.f2 k9 (by omega) (fun w => g9 (by rw [show (0 : Int32).toInt.toNat = 0 from rfl, Nat.zero_add]; exact w))⟩))
    · have q_29 := bP.t p_r4 b_29
      refine lv_iconst (v := 1) hx hb dX7_begins_32 (by decide) ?_
      refine lv_goto (tgt := 37) hx hb dX7_begins_33 (by decide) ?_
      have lr : (1 : Int32).toInt = 1 := by decide
      exact hret 37 ls (1 : Int32) dX7_begins_37 (Or.inr rfl) (by have c5 : (cC I_t ra.toInt.toNat).toInt = (x1).toInt := congrArg Int32.toInt e_x1.symm; have c11 : (cC I_t rb.toInt.toNat).toInt = (x2).toInt := congrArg Int32.toInt e_x2.symm; first | exact Or.inr ⟨rfl, begB.f1 (by omega)⟩ | (have c25 : (x3).toInt = (x1).toInt := by rw [e_x3, e_x1]); first | exact Or.inl ⟨rfl, by rw [← e_x1, ← e_x2]; omega, begB.t (by omega) (fun k hk => by have w := q_29 k (by omega); rw [show (0 : Int32).toInt.toNat = 0 from rfl, Nat.zero_add] at w; exact w)⟩ | (obtain ⟨k9, h9, g9⟩ := q_29; exact Or.inr ⟨rfl, begB.f2 k9 (by omega) (fun w => g9 (by rw [show (0 : Int32).toInt.toNat = 0 from rfl, Nat.zero_add]; exact w))⟩))

set_option maxHeartbeats 4000000 in
set_option maxRecDepth 100000 in
theorem kX7_areMirrors (l : Launch) (g : gG) (a_t : Nat → Nat) (I_t : Nat → Nat → Int32) (ra : Int32) (rb : Int32) (h_ra : 0 ≤ ra.toInt ∧ ra.toInt < 24) (h_rb : 0 ≤ rb.toInt ∧ rb.toInt < 24) (hT : TI I_t) : PurI l g yX7_areMirrors wsX7_areMirrors 1 [.ref (a_t 0), .int ra, .int rb] (wX7 g a_t I_t) (fun r => bP (tbMir (cC I_t) (cL I_t) ra.toInt.toNat rb.toInt.toNat) (¬ tbMir (cC I_t) (cL I_t) ra.toInt.toNat rb.toInt.toNat) r) := by
  refine PurI.sz (cc := cX7_areMirrors) (maxL := 4) (by decide) rfl (Nat.le_of_ble_eq_true rfl) (fun p e s m args below meth c Q ls fx hK hP hl hret => ?_)
  have hx := fx.1
  have hb := fx.2.1
  have hml := fx.2.2.1
  have hown := fx.2.2.2.1
  have hts := fx.2.2.2.2
  have hl : lv_has ls 4 [(0, .ref (a_t 0)), (1, .int ra), (2, .int rb)] := hl
  have hP : va_P g.1 vwCl (wX7 g a_t I_t) s.heap := hP
  have hf_25 := hts _ (uT _ _ u_94)
  have hi_X7 : ∀ w ∈ wsX70, w.before args s = true := fun w h => hts w (uT _ w (u_wsX70 w h))
  have lm1 : (-1 : Int32).toInt = -1 := by decide
  have lm0 : (0 : Int32).toInt = 0 := by decide
  have lm2 : (1 : Int32).toInt = 1 := by decide
  refine lv_aload_n hx hb dX7_areMirrors_0 rfl (lv_at hl 0 rfl) ?_
  refine va_get (D := g.1) (ci := 7) (v := .ref (a_t 3)) (C := RX7) (T := TX7) (N := 8) hx hb hi_X7 (fun _ h => h) hown hK.1 hP 0 rfl rfl 4 (by decide) hf_25 (fun _ h9 => h9) rfl dX7_areMirrors_1 ?_
  refine lv_iload_n hx hb dX7_areMirrors_4 rfl (lv_at hl 1 rfl) ?_
  have n_5 : vp_in ra 24 := (t_in (by omega))
  refine va_iald hx hb hK.1 hP 3 0 rfl rfl n_5 dX7_areMirrors_5 ?_
  refine q_nm (fun x1 e_x1 => ?_)
  have e_x1 : x1 = (I_t 3) ra.toNatClampNeg := e_x1
  have g_x1 : x1.toInt = ((I_t 3) ra.toNatClampNeg).toInt := congrArg _ e_x1
  have f_x1 := TI.cc hT ra.toNatClampNeg
  rw [← e_x1] at f_x1
  refine lv_aload_n hx hb dX7_areMirrors_6 rfl (lv_at hl 0 rfl) ?_
  refine va_get (D := g.1) (ci := 7) (v := .ref (a_t 3)) (C := RX7) (T := TX7) (N := 8) hx hb hi_X7 (fun _ h => h) hown hK.1 hP 0 rfl rfl 4 (by decide) hf_25 (fun _ h9 => h9) rfl dX7_areMirrors_7 ?_
  refine lv_iload_n hx hb dX7_areMirrors_10 rfl (lv_at hl 2 rfl) ?_
  have n_11 : vp_in rb 24 := (t_in (by omega))
  refine va_iald hx hb hK.1 hP 3 0 rfl rfl n_11 dX7_areMirrors_11 ?_
  refine q_nm (fun x2 e_x2 => ?_)
  have e_x2 : x2 = (I_t 3) rb.toNatClampNeg := e_x2
  have g_x2 : x2.toInt = ((I_t 3) rb.toNatClampNeg).toInt := congrArg _ e_x2
  have f_x2 := TI.cc hT rb.toNatClampNeg
  rw [← e_x2] at f_x2
  refine q_icmp_eq (tgt := 17) hx hb dX7_areMirrors_12 (by decide) rfl rfl (fun k_12 => ?_) (fun k_12 => ?_)
  · refine lv_iconst (v := 0) hx hb dX7_areMirrors_17 (by decide) ?_
    refine lv_istore_n (lv' := [(3, .int (0 : Int32)), (0, .ref (a_t 0)), (1, .int ra), (2, .int rb)]) hx hb dX7_areMirrors_18 rfl hl (by decide) rfl (fun ls hl => ?_)
    have L19 : ∀ (nn : Nat) (v3_19 : Int32), (hv_19 : 0 ≤ v3_19.toInt ∧ v3_19.toInt ≤ 3) → (hq_19 : ∀ k : Nat, (k : Int) < v3_19.toInt → mirO (cL I_t ra.toInt.toNat k) = cL I_t rb.toInt.toNat k) → ((4 - v3_19.toInt) < (nn : Int)) → ∀ ls : Array Slot, lv_has ls 4 [(3, .int v3_19), (0, .ref (a_t 0)), (1, .int ra), (2, .int rb)] → W p l e (rm 1) s m args below meth c s.heap [] 0 0 Q (F0 m 19 ls []) := by
      intro n_19
      induction n_19 with
      | zero =>
        intro v3_19 hv_19 hq_19 hms_19 ls hl
        exfalso; omega
      | succ n_19 ih_19 =>
        intro v3_19 hv_19 hq_19 hms_19 ls hl
        refine lv_iload_n hx hb dX7_areMirrors_19 rfl (lv_at hl 0 rfl) ?_
        refine lv_aload_n hx hb dX7_areMirrors_20 rfl (lv_at hl 1 rfl) ?_
        refine va_get (D := g.1) (ci := 7) (v := .ref (a_t 3)) (C := RX7) (T := TX7) (N := 8) hx hb hi_X7 (fun _ h => h) hown hK.1 hP 0 rfl rfl 4 (by decide) hf_25 (fun _ h9 => h9) rfl dX7_areMirrors_21 ?_
        refine lv_iload_n hx hb dX7_areMirrors_24 rfl (lv_at hl 2 rfl) ?_
        have n_25 : vp_in ra 24 := (t_in (by omega))
        refine va_iald hx hb hK.1 hP 3 0 rfl rfl n_25 dX7_areMirrors_25 ?_
        refine q_nm (fun x3 e_x3 => ?_)
        have e_x3 : x3 = (I_t 3) ra.toNatClampNeg := e_x3
        have g_x3 : x3.toInt = ((I_t 3) ra.toNatClampNeg).toInt := congrArg _ e_x3
        have f_x3 := TI.cc hT ra.toNatClampNeg
        rw [← e_x3] at f_x3
        refine q_icmp_ge (tgt := 55) hx hb dX7_areMirrors_26 (by decide) rfl rfl (fun k_26 => ?_) (fun k_26 => ?_)
        · refine lv_iconst (v := 1) hx hb dX7_areMirrors_55 (by decide) ?_
          have lr : (1 : Int32).toInt = 1 := by decide
          exact hret 56 ls (1 : Int32) dX7_areMirrors_56 (Or.inr rfl) (by have c5 : (cC I_t ra.toInt.toNat).toInt = (x1).toInt := congrArg Int32.toInt e_x1.symm; have c11 : (cC I_t rb.toInt.toNat).toInt = (x2).toInt := congrArg Int32.toInt e_x2.symm; (have c25 : (x3).toInt = (x1).toInt := by rw [e_x3, e_x1]); exact Or.inl ⟨rfl, by omega, fun k hk => hq_19 k (by omega)⟩)
        · refine lv_aload_n hx hb dX7_areMirrors_29 rfl (lv_at hl 1 rfl) ?_
          refine lv_iload_n hx hb dX7_areMirrors_30 rfl (lv_at hl 2 rfl) ?_
          refine lv_iload_n hx hb dX7_areMirrors_31 rfl (lv_at hl 0 rfl) ?_
          refine PurI.cv (As := [.int ra, .int v3_19]) (kX7_cellAt l g a_t I_t ra v3_19 h_ra (by omega) hT) fx (gUV (uT _) u_1467 u_633 u_634 u_31 u_635) rfl hdX7_cellAt ⟨Nat.le_of_ble_eq_true rfl, Nat.le_of_ble_eq_true rfl⟩ hK hP [0, 1, 2, 3, 4, 5, 6] rfl rfl rfl rfl rfl hl.1 (Nat.le_of_ble_eq_true rfl) dX7_areMirrors_32 (fun r4 p_r4 => ?_)
          refine PurI.cn (C := RX10) (host := "RaisedPress") (As := [.int r4]) (kX10_mirrorOf l g r4) fx (gU (uT _) u_1451) rfl hdX10_mirrorOf ⟨Nat.le_of_ble_eq_true rfl, Nat.le_of_ble_eq_true rfl⟩ hK hP [] rfl (nm_in_RX7_74) (uT _ _ u_1450) (uT _ _ u_2) rfl rfl hl.1 (Nat.le_of_ble_eq_true rfl) dX7_areMirrors_35 (fun r5 p_r5 => ?_)
          refine lv_aload_n hx hb dX7_areMirrors_38 rfl (lv_at hl 1 rfl) ?_
          refine lv_iload_n hx hb dX7_areMirrors_39 rfl (lv_at hl 3 rfl) ?_
          refine lv_iload_n hx hb dX7_areMirrors_40 rfl (lv_at hl 0 rfl) ?_
          refine PurI.cv (As := [.int rb, .int v3_19]) (kX7_cellAt l g a_t I_t rb v3_19 h_rb (by omega) hT) fx (gUV (uT _) u_1467 u_633 u_634 u_31 u_635) rfl hdX7_cellAt ⟨Nat.le_of_ble_eq_true rfl, Nat.le_of_ble_eq_true rfl⟩ hK hP [0, 1, 2, 3, 4, 5, 6] rfl rfl rfl rfl rfl hl.1 (Nat.le_of_ble_eq_true rfl) dX7_areMirrors_41 (fun r6 p_r6 => ?_)
          refine q_icmp_eq (tgt := 49) hx hb dX7_areMirrors_44 (by decide) rfl rfl (fun k_44 => ?_) (fun k_44 => ?_)
          · refine r_iinc (lv' := fun i7 => [(3, .int i7), (0, .ref (a_t 0)), (1, .int ra), (2, .int rb)]) hx hb dX7_areMirrors_49 hl (k := 0) rfl (by decide) rfl (by decide) (fun _ => rfl) (fun i7 e_i7 t_i7 ls hl => ?_)
            try have t_i7 := t_i7 (by omega)
            refine lv_goto (tgt := 19) hx hb dX7_areMirrors_52 (by decide) ?_
            exact ih_19 i7 (by omega) (tq_ext hq_19 (by omega) (by omega) (by rw [tq_cl (k := v3_19) p_r4.1 (by omega) (by omega), tq_cl (k := v3_19) p_r6.1 (by omega) (by omega), ← p_r5]; exact t_inj_ (by omega))) (by omega) ls hl
          · refine lv_iconst (v := 0) hx hb dX7_areMirrors_47 (by decide) ?_
            exact hret 48 ls (0 : Int32) dX7_areMirrors_48 (Or.inl rfl) (by have c5 : (cC I_t ra.toInt.toNat).toInt = (x1).toInt := congrArg Int32.toInt e_x1.symm; have c11 : (cC I_t rb.toInt.toNat).toInt = (x2).toInt := congrArg Int32.toInt e_x2.symm; (have c25 : (x3).toInt = (x1).toInt := by rw [e_x3, e_x1]); exact Or.inr ⟨rfl, fun q => by have w := q.2 v3_19.toInt.toNat (by omega); (have c25 : (x3).toInt = (x1).toInt := by rw [e_x3, e_x1]); rw [tq_cl (k := v3_19) p_r4.1 (by omega) (by omega), tq_cl (k := v3_19) p_r6.1 (by omega) (by omega), ← p_r5] at w; have := congrArg Int32.toInt w; omega⟩)
    exact L19 ((4 - (0 : Int32).toInt) + 1).toNat (0 : Int32) (by omega) (fun k q => by rw [lm0] at q; exfalso; omega) (by omega) ls hl
  · refine lv_iconst (v := 0) hx hb dX7_areMirrors_15 (by decide) ?_
    exact hret 16 ls (0 : Int32) dX7_areMirrors_16 (Or.inl rfl) (by have c5 : (cC I_t ra.toInt.toNat).toInt = (x1).toInt := congrArg Int32.toInt e_x1.symm; have c11 : (cC I_t rb.toInt.toNat).toInt = (x2).toInt := congrArg Int32.toInt e_x2.symm; exact Or.inr ⟨rfl, fun q => by have := q.1; omega⟩)

set_option maxHeartbeats 4000000 in
set_option maxRecDepth 100000 in
theorem kX7_unlikeDots (l : Launch) (g : gG) (a_t : Nat → Nat) (I_t : Nat → Nat → Int32) (ra : Int32) (rb : Int32) (h_ra : 0 ≤ ra.toInt ∧ ra.toInt < 24) (h_rb : 0 ≤ rb.toInt ∧ rb.toInt < 24) (hT : TI I_t) : PurI l g yX7_unlikeDots wsX7_unlikeDots 1 [.ref (a_t 0), .int ra, .int rb] (wX7 g a_t I_t) (fun r => r.toInt = nrR (cL I_t) ra.toInt.toNat rb.toInt.toNat (cC I_t ra.toInt.toNat).toInt.toNat) := by
  refine PurI.st (cc := cX7_unlikeDots) (maxL := 5) (by decide) rfl (Nat.le_of_ble_eq_true rfl) (fun p e s m args below meth c Q ls fx hK hP hl hret => ?_)
  have hx := fx.1
  have hb := fx.2.1
  have hml := fx.2.2.1
  have hown := fx.2.2.2.1
  have hts := fx.2.2.2.2
  have hl : lv_has ls 5 [(0, .ref (a_t 0)), (1, .int ra), (2, .int rb)] := hl
  have hP : va_P g.1 vwCl (wX7 g a_t I_t) s.heap := hP
  have hf_25 := hts _ (uT _ _ u_94)
  have hi_X7 : ∀ w ∈ wsX70, w.before args s = true := fun w h => hts w (uT _ w (u_wsX70 w h))
  have lm1 : (-1 : Int32).toInt = -1 := by decide
  have lm0 : (0 : Int32).toInt = 0 := by decide
  have lm2 : (1 : Int32).toInt = 1 := by decide
  refine lv_iconst (v := 0) hx hb dX7_unlikeDots_0 (by decide) ?_
  refine lv_istore_n (lv' := [(3, .int (0 : Int32)), (0, .ref (a_t 0)), (1, .int ra), (2, .int rb)]) hx hb dX7_unlikeDots_1 rfl hl (by decide) rfl (fun ls hl => ?_)
  refine lv_iconst (v := 0) hx hb dX7_unlikeDots_2 (by decide) ?_
  refine lv_istore (lv' := [(4, .int (0 : Int32)), (3, .int (0 : Int32)), (0, .ref (a_t 0)), (1, .int ra), (2, .int rb)]) hx hb dX7_unlikeDots_3 hl (by decide) rfl (fun ls hl => ?_)
  have L5 : ∀ (nn : Nat) (v3_5 : Int32) (v4_5 : Int32), (hv_5 : 0 ≤ v4_5.toInt ∧ v4_5.toInt ≤ 3) → (hb_5 : 0 ≤ v3_5.toInt ∧ v3_5.toInt ≤ 6 * v4_5.toInt) → (hs_5 : v3_5.toInt = nrR (cL I_t) ra.toInt.toNat rb.toInt.toNat v4_5.toInt.toNat) → (h4_5 : v4_5.toInt ≤ (cC I_t ra.toInt.toNat).toInt) → ((4 - v4_5.toInt) < (nn : Int)) → ∀ ls : Array Slot, lv_has ls 5 [(4, .int v4_5), (3, .int v3_5), (0, .ref (a_t 0)), (1, .int ra), (2, .int rb)] → W p l e (rm 1) s m args below meth c s.heap [] 0 0 Q (F0 m 5 ls []) := by
    intro n_5
    induction n_5 with
    | zero =>
      intro v3_5 v4_5 hv_5 hb_5 hs_5 h4_5 hms_5 ls hl
      exfalso; omega
    | succ n_5 ih_5 =>
      intro v3_5 v4_5 hv_5 hb_5 hs_5 h4_5 hms_5 ls hl
      refine lv_iload hx hb dX7_unlikeDots_5 (lv_at hl 0 rfl) ?_
      refine lv_aload_n hx hb dX7_unlikeDots_7 rfl (lv_at hl 2 rfl) ?_
      refine va_get (D := g.1) (ci := 7) (v := .ref (a_t 3)) (C := RX7) (T := TX7) (N := 8) hx hb hi_X7 (fun _ h => h) hown hK.1 hP 0 rfl rfl 4 (by decide) hf_25 (fun _ h9 => h9) rfl dX7_unlikeDots_8 ?_
      refine lv_iload_n hx hb dX7_unlikeDots_11 rfl (lv_at hl 3 rfl) ?_
      have n_12 : vp_in ra 24 := (t_in (by omega))
      refine va_iald hx hb hK.1 hP 3 0 rfl rfl n_12 dX7_unlikeDots_12 ?_
      refine q_nm (fun x1 e_x1 => ?_)
      have e_x1 : x1 = (I_t 3) ra.toNatClampNeg := e_x1
      have g_x1 : x1.toInt = ((I_t 3) ra.toNatClampNeg).toInt := congrArg _ e_x1
      have f_x1 := TI.cc hT ra.toNatClampNeg
      rw [← e_x1] at f_x1
      refine q_icmp_ge (tgt := 43) hx hb dX7_unlikeDots_13 (by decide) rfl rfl (fun k_13 => ?_) (fun k_13 => ?_)
      · refine lv_iload_n hx hb dX7_unlikeDots_43 rfl (lv_at hl 1 rfl) ?_
        exact hret 44 ls v3_5 dX7_unlikeDots_44 (by have c12 : (cC I_t ra.toInt.toNat).toInt = (x1).toInt := congrArg Int32.toInt e_x1.symm; rw [hs_5, show (cC I_t ra.toInt.toNat).toInt.toNat = v4_5.toInt.toNat by omega])
      · refine lv_iload_n hx hb dX7_unlikeDots_16 rfl (lv_at hl 1 rfl) ?_
        refine lv_aload_n hx hb dX7_unlikeDots_17 rfl (lv_at hl 2 rfl) ?_
        refine lv_iload_n hx hb dX7_unlikeDots_18 rfl (lv_at hl 3 rfl) ?_
        refine lv_iload hx hb dX7_unlikeDots_19 (lv_at hl 0 rfl) ?_
        refine PurI.cv (As := [.int ra, .int v4_5]) (kX7_cellAt l g a_t I_t ra v4_5 h_ra (by omega) hT) fx (gUV (uT _) u_1467 u_633 u_634 u_31 u_635) rfl hdX7_cellAt ⟨Nat.le_of_ble_eq_true rfl, Nat.le_of_ble_eq_true rfl⟩ hK hP [0, 1, 2, 3, 4, 5, 6] rfl rfl rfl rfl rfl hl.1 (Nat.le_of_ble_eq_true rfl) dX7_unlikeDots_21 (fun r2 p_r2 => ?_)
        refine lv_aload_n hx hb dX7_unlikeDots_24 rfl (lv_at hl 2 rfl) ?_
        refine lv_iload_n hx hb dX7_unlikeDots_25 rfl (lv_at hl 4 rfl) ?_
        refine lv_iload hx hb dX7_unlikeDots_26 (lv_at hl 0 rfl) ?_
        refine PurI.cv (As := [.int rb, .int v4_5]) (kX7_cellAt l g a_t I_t rb v4_5 h_rb (by omega) hT) fx (gUV (uT _) u_1467 u_633 u_634 u_31 u_635) rfl hdX7_cellAt ⟨Nat.le_of_ble_eq_true rfl, Nat.le_of_ble_eq_true rfl⟩ hK hP [0, 1, 2, 3, 4, 5, 6] rfl rfl rfl rfl rfl hl.1 (Nat.le_of_ble_eq_true rfl) dX7_unlikeDots_28 (fun r3 p_r3 => ?_)
        refine lv_ixor hx hb dX7_unlikeDots_31 ?_
        refine q_nm (fun x4 e_x4 => ?_)
        refine PurI.cs (C := RJ6) (As := [.int x4]) (kJ6_bitCount_0f7a4 l g x4) fx (gUS (uT _) u_1513 u_999 u_1000 u_1001) rfl hdJ6_bitCount_0f7a4 ⟨Nat.le_of_ble_eq_true rfl, Nat.le_of_ble_eq_true rfl⟩ hK hP [] rfl rfl rfl hl.1 (Nat.le_of_ble_eq_true rfl) dX7_unlikeDots_32 (fun r5 p_r5 => ?_)
        have hx31 := xor_63 e_x4 p_r2.2 p_r3.2
        have hb32 : (r5).toInt = popI x4 := by rw [p_r5]; exact bc_ok hx31
        have hr32 := popI.rng x4
        refine r_iadd hx hb dX7_unlikeDots_35 rfl rfl (fun x6 e_x6 t_x6 => ?_)
        try have t_x6 := t_x6 (by omega)
        refine lv_istore_n (lv' := [(3, .int x6), (4, .int v4_5), (0, .ref (a_t 0)), (1, .int ra), (2, .int rb)]) hx hb dX7_unlikeDots_36 rfl hl (by decide) rfl (fun ls hl => ?_)
        refine r_iinc (lv' := fun i7 => [(4, .int i7), (3, .int x6), (0, .ref (a_t 0)), (1, .int ra), (2, .int rb)]) hx hb dX7_unlikeDots_37 hl (k := 1) rfl (by decide) rfl (by decide) (fun _ => rfl) (fun i7 e_i7 t_i7 ls hl => ?_)
        try have t_i7 := t_i7 (by omega)
        refine lv_goto (tgt := 5) hx hb dX7_unlikeDots_40 (by decide) ?_
        exact ih_5 x6 i7 (by omega) (by omega) (by rw [show (i7).toInt.toNat = v4_5.toInt.toNat + 1 by omega]; show _ = nrR (cL I_t) ra.toInt.toNat rb.toInt.toNat v4_5.toInt.toNat + popI (cL I_t ra.toInt.toNat v4_5.toInt.toNat ^^^ cL I_t rb.toInt.toNat v4_5.toInt.toNat); rw [← hs_5, tq_cl (k := v4_5) p_r2.1 (by omega) (by omega), tq_cl (k := v4_5) p_r3.1 (by omega) (by omega), ← e_x4]; omega) (by have c12 : (cC I_t ra.toInt.toNat).toInt = (x1).toInt := congrArg Int32.toInt e_x1.symm; omega) (by omega) ls hl
  exact L5 ((4 - (0 : Int32).toInt) + 1).toNat (0 : Int32) (0 : Int32) (by omega) (by omega) (by rw [lm0]; rfl) (by rw [lm0]; exact (TI.cc hT _).1) (by omega) ls hl

set_option maxHeartbeats 4000000 in
set_option maxRecDepth 100000 in
theorem kX7_twinCouples (l : Launch) (g : gG) (a_t : Nat → Nat) (I_t : Nat → Nat → Int32) (hT : TI I_t) : PurI l g yX7_twinCouples wsX7_twinCouples 3 [.ref (a_t 0)] (wX7 g a_t I_t) (fun r => r.toInt = sumN (twR (I_t 0 1) (cC I_t) (cL I_t) (I_t 0 0).toInt.toNat) (I_t 0 0).toInt.toNat) := by
  refine PurI.st (cc := cX7_twinCouples) (maxL := 5) (by decide) rfl (Nat.le_of_ble_eq_true rfl) (fun p e s m args below meth c Q ls fx hK hP hl hret => ?_)
  have hx := fx.1
  have hb := fx.2.1
  have hml := fx.2.2.1
  have hown := fx.2.2.2.1
  have hts := fx.2.2.2.2
  have hl : lv_has ls 5 [(0, .ref (a_t 0))] := hl
  have hP : va_P g.1 vwCl (wX7 g a_t I_t) s.heap := hP
  have hf_9 := hts _ (uT _ _ u_90)
  have hi_X7 : ∀ w ∈ wsX70, w.before args s = true := fun w h => hts w (uT _ w (u_wsX70 w h))
  have lm1 : (-1 : Int32).toInt = -1 := by decide
  have lm0 : (0 : Int32).toInt = 0 := by decide
  have lm2 : (1 : Int32).toInt = 1 := by decide
  have hru := TI.ru hT
  refine lv_iconst (v := 0) hx hb dX7_twinCouples_0 (by decide) ?_
  refine lv_istore_n (lv' := [(1, .int (0 : Int32)), (0, .ref (a_t 0))]) hx hb dX7_twinCouples_1 rfl hl (by decide) rfl (fun ls hl => ?_)
  refine lv_iconst (v := 0) hx hb dX7_twinCouples_2 (by decide) ?_
  refine lv_istore_n (lv' := [(2, .int (0 : Int32)), (1, .int (0 : Int32)), (0, .ref (a_t 0))]) hx hb dX7_twinCouples_3 rfl hl (by decide) rfl (fun ls hl => ?_)
  have L4 : ∀ (nn : Nat) (v1_4 : Int32) (v2_4 : Int32), (hv_4 : 0 ≤ v2_4.toInt ∧ v2_4.toInt ≤ (I_t 0 0).toInt) → (hb_4 : 0 ≤ v1_4.toInt ∧ v1_4.toInt ≤ 24 * v2_4.toInt) → (hs_4 : v1_4.toInt = sumN (twR (I_t 0 1) (cC I_t) (cL I_t) (I_t 0 0).toInt.toNat) v2_4.toInt.toNat) → ((25 - v2_4.toInt) < (nn : Int)) → ∀ ls : Array Slot, lv_has ls 5 [(2, .int v2_4), (1, .int v1_4), (0, .ref (a_t 0))] → W p l e (rm 3) s m args below meth c s.heap [] 0 0 Q (F0 m 4 ls []) := by
    intro n_4
    induction n_4 with
    | zero =>
      intro v1_4 v2_4 hv_4 hb_4 hs_4 hms_4 ls hl
      exfalso; omega
    | succ n_4 ih_4 =>
      intro v1_4 v2_4 hv_4 hb_4 hs_4 hms_4 ls hl
      refine lv_iload_n hx hb dX7_twinCouples_4 rfl (lv_at hl 0 rfl) ?_
      refine lv_aload_n hx hb dX7_twinCouples_5 rfl (lv_at hl 2 rfl) ?_
      refine va_get (D := g.1) (ci := 7) (v := .int (I_t 0 0)) (C := RX7) (T := TX7) (N := 8) hx hb hi_X7 (fun _ h => h) hown hK.1 hP 0 rfl rfl 0 (by decide) hf_9 (fun _ h9 => h9) rfl dX7_twinCouples_6 ?_
      refine q_icmp_ge (tgt := 85) hx hb dX7_twinCouples_9 (by decide) rfl rfl (fun k_9 => ?_) (fun k_9 => ?_)
      · refine lv_iload_n hx hb dX7_twinCouples_85 rfl (lv_at hl 1 rfl) ?_
        exact hret 86 ls v1_4 dX7_twinCouples_86 (by rw [hs_4, show v2_4.toInt.toNat = (I_t 0 0).toInt.toNat by omega])
      · refine lv_iload_n hx hb dX7_twinCouples_12 rfl (lv_at hl 0 rfl) ?_
        refine lv_iconst (v := 1) hx hb dX7_twinCouples_13 (by decide) ?_
        refine r_iadd hx hb dX7_twinCouples_14 rfl (by decide : (1 : Int32).toInt = 1) (fun x1 e_x1 t_x1 => ?_)
        try have t_x1 := t_x1 (by omega)
        refine lv_istore_n (lv' := [(3, .int x1), (2, .int v2_4), (1, .int v1_4), (0, .ref (a_t 0))]) hx hb dX7_twinCouples_15 rfl hl (by decide) rfl (fun ls hl => ?_)
        have L16 : ∀ (nn : Nat) (v1_16 : Int32) (v3_16 : Int32), (hw_16 : v2_4.toInt < v3_16.toInt ∧ v3_16.toInt ≤ (I_t 0 0).toInt) → (hb_16 : 0 ≤ v1_16.toInt ∧ v1_16.toInt ≤ 24 * v2_4.toInt + v3_16.toInt) → (hs_16 : v1_16.toInt = sumN (twR (I_t 0 1) (cC I_t) (cL I_t) (I_t 0 0).toInt.toNat) v2_4.toInt.toNat + twR (I_t 0 1) (cC I_t) (cL I_t) v3_16.toInt.toNat v2_4.toInt.toNat) → ((25 - v3_16.toInt) < (nn : Int)) → ∀ ls : Array Slot, lv_has ls 5 [(3, .int v3_16), (2, .int v2_4), (1, .int v1_16), (0, .ref (a_t 0))] → W p l e (rm 3) s m args below meth c s.heap [] 0 0 Q (F0 m 16 ls []) := by
          intro n_16
          induction n_16 with
          | zero =>
            intro v1_16 v3_16 hw_16 hb_16 hs_16 hms_16 ls hl
            exfalso; omega
          | succ n_16 ih_16 =>
            intro v1_16 v3_16 hw_16 hb_16 hs_16 hms_16 ls hl
            refine lv_iload_n hx hb dX7_twinCouples_16 rfl (lv_at hl 0 rfl) ?_
            refine lv_aload_n hx hb dX7_twinCouples_17 rfl (lv_at hl 3 rfl) ?_
            refine va_get (D := g.1) (ci := 7) (v := .int (I_t 0 0)) (C := RX7) (T := TX7) (N := 8) hx hb hi_X7 (fun _ h => h) hown hK.1 hP 0 rfl rfl 0 (by decide) hf_9 (fun _ h9 => h9) rfl dX7_twinCouples_18 ?_
            refine q_icmp_ge (tgt := 79) hx hb dX7_twinCouples_21 (by decide) rfl rfl (fun k_21 => ?_) (fun k_21 => ?_)
            · refine r_iinc (lv' := fun i2 => [(2, .int i2), (3, .int v3_16), (1, .int v1_16), (0, .ref (a_t 0))]) hx hb dX7_twinCouples_79 hl (k := 1) rfl (by decide) rfl (by decide) (fun _ => rfl) (fun i2 e_i2 t_i2 ls hl => ?_)
              try have t_i2 := t_i2 (by omega)
              refine lv_goto (tgt := 4) hx hb dX7_twinCouples_82 (by decide) ?_
              exact ih_4 v1_16 i2 (by omega) (by omega) (by rw [show (i2).toInt.toNat = v2_4.toInt.toNat + 1 by omega]; show _ = sumN (twR (I_t 0 1) (cC I_t) (cL I_t) (I_t 0 0).toInt.toNat) v2_4.toInt.toNat + twR (I_t 0 1) (cC I_t) (cL I_t) (I_t 0 0).toInt.toNat v2_4.toInt.toNat; rw [hs_16, show v3_16.toInt.toNat = (I_t 0 0).toInt.toNat by omega]) (by omega) ls (lv_sub hl [0, 2, 3] rfl)
            · refine lv_aload_n hx hb dX7_twinCouples_24 rfl (lv_at hl 3 rfl) ?_
              refine lv_iload_n hx hb dX7_twinCouples_25 rfl (lv_at hl 1 rfl) ?_
              refine PurI.cv (As := [.int v2_4]) (kX7_isThere l g a_t I_t v2_4) fx (gUV (uT _) u_1484 u_983 u_984 u_31 u_985) rfl hdX7_isThere ⟨Nat.le_of_ble_eq_true rfl, Nat.le_of_ble_eq_true rfl⟩ hK hP [0, 1, 2, 3, 4, 5, 6] rfl rfl rfl rfl rfl hl.1 (Nat.le_of_ble_eq_true rfl) dX7_twinCouples_26 (fun r3 p_r3 => ?_)
              refine q_if_eq (tgt := 44) hx hb dX7_twinCouples_29 (by decide) rfl (fun b_29 k_29 => ?_) (fun b_29 k_29 => ?_)
              · have q_29 := bP.f p_r3 b_29
                refine lv_iconst (v := 0) hx hb dX7_twinCouples_44 (by decide) ?_
                refine lv_istore (lv' := [(4, .int (0 : Int32)), (3, .int v3_16), (2, .int v2_4), (1, .int v1_16), (0, .ref (a_t 0))]) hx hb dX7_twinCouples_45 hl (by decide) rfl (fun ls hl => ?_)
                refine lv_iload hx hb dX7_twinCouples_47 (lv_at hl 0 rfl) ?_
                refine q_if_eq (tgt := 73) hx hb dX7_twinCouples_49 (by decide) (by decide : (0 : Int32).toInt = 0) (fun b_49 k_49 => ?_) (fun b_49 k_49 => ?_)
                · refine r_iinc (lv' := fun i4 => [(3, .int i4), (4, .int (0 : Int32)), (2, .int v2_4), (1, .int v1_16), (0, .ref (a_t 0))]) hx hb dX7_twinCouples_73 hl (k := 1) rfl (by decide) rfl (by decide) (fun _ => rfl) (fun i4 e_i4 t_i4 ls hl => ?_)
                  try have t_i4 := t_i4 (by omega)
                  refine lv_goto (tgt := 16) hx hb dX7_twinCouples_76 (by decide) ?_
                  exact ih_16 v1_16 i4 (by omega) (by omega) (by first | (rw [show (i4).toInt.toNat = v3_16.toInt.toNat + 1 by omega, tw_in (by omega) (tbQ.t (by omega) (by omega) q_29 q_37 q_58.2 q_67.2), ← Int.add_assoc, ← hs_16]; show _ = _ + 1; omega) | (rw [show (i4).toInt.toNat = v3_16.toInt.toNat + 1 by omega, tw_in (by omega) (tbQ.f (by omega) (by omega) (by first | exact Or.inl q_29 | exact Or.inr (Or.inl q_37) | exact Or.inr (Or.inr (Or.inl q_58)) | exact Or.inr (Or.inr (Or.inr q_67)))), ← Int.add_assoc, ← hs_16]; show _ = _ + 0; omega)) (by omega) ls (lv_sub hl [0, 2, 3, 4] rfl)
                · exfalso
                  omega
              · have q_29 := bP.t p_r3 b_29
                refine lv_aload_n hx hb dX7_twinCouples_32 rfl (lv_at hl 3 rfl) ?_
                refine lv_iload_n hx hb dX7_twinCouples_33 rfl (lv_at hl 0 rfl) ?_
                refine PurI.cv (As := [.int v3_16]) (kX7_isThere l g a_t I_t v3_16) fx (gUV (uT _) u_1484 u_983 u_984 u_31 u_985) rfl hdX7_isThere ⟨Nat.le_of_ble_eq_true rfl, Nat.le_of_ble_eq_true rfl⟩ hK hP [0, 1, 2, 3, 4, 5, 6] rfl rfl rfl rfl rfl hl.1 (Nat.le_of_ble_eq_true rfl) dX7_twinCouples_34 (fun r5 p_r5 => ?_)
                refine q_if_eq (tgt := 44) hx hb dX7_twinCouples_37 (by decide) rfl (fun b_37 k_37 => ?_) (fun b_37 k_37 => ?_)
                · have q_37 := bP.f p_r5 b_37
                  refine lv_iconst (v := 0) hx hb dX7_twinCouples_44 (by decide) ?_
                  refine lv_istore (lv' := [(4, .int (0 : Int32)), (3, .int v3_16), (2, .int v2_4), (1, .int v1_16), (0, .ref (a_t 0))]) hx hb dX7_twinCouples_45 hl (by decide) rfl (fun ls hl => ?_)
                  refine lv_iload hx hb dX7_twinCouples_47 (lv_at hl 0 rfl) ?_
                  refine q_if_eq (tgt := 73) hx hb dX7_twinCouples_49 (by decide) (by decide : (0 : Int32).toInt = 0) (fun b_49 k_49 => ?_) (fun b_49 k_49 => ?_)
                  · refine r_iinc (lv' := fun i6 => [(3, .int i6), (4, .int (0 : Int32)), (2, .int v2_4), (1, .int v1_16), (0, .ref (a_t 0))]) hx hb dX7_twinCouples_73 hl (k := 1) rfl (by decide) rfl (by decide) (fun _ => rfl) (fun i6 e_i6 t_i6 ls hl => ?_)
                    try have t_i6 := t_i6 (by omega)
                    refine lv_goto (tgt := 16) hx hb dX7_twinCouples_76 (by decide) ?_
                    exact ih_16 v1_16 i6 (by omega) (by omega) (by first | (rw [show (i6).toInt.toNat = v3_16.toInt.toNat + 1 by omega, tw_in (by omega) (tbQ.t (by omega) (by omega) q_29 q_37 q_58.2 q_67.2), ← Int.add_assoc, ← hs_16]; show _ = _ + 1; omega) | (rw [show (i6).toInt.toNat = v3_16.toInt.toNat + 1 by omega, tw_in (by omega) (tbQ.f (by omega) (by omega) (by first | exact Or.inl q_29 | exact Or.inr (Or.inl q_37) | exact Or.inr (Or.inr (Or.inl q_58)) | exact Or.inr (Or.inr (Or.inr q_67)))), ← Int.add_assoc, ← hs_16]; show _ = _ + 0; omega)) (by omega) ls (lv_sub hl [0, 2, 3, 4] rfl)
                  · exfalso
                    omega
                · have q_37 := bP.t p_r5 b_37
                  refine lv_iconst (v := 1) hx hb dX7_twinCouples_40 (by decide) ?_
                  refine lv_goto (tgt := 45) hx hb dX7_twinCouples_41 (by decide) ?_
                  refine lv_istore (lv' := [(4, .int (1 : Int32)), (3, .int v3_16), (2, .int v2_4), (1, .int v1_16), (0, .ref (a_t 0))]) hx hb dX7_twinCouples_45 hl (by decide) rfl (fun ls hl => ?_)
                  refine lv_iload hx hb dX7_twinCouples_47 (lv_at hl 0 rfl) ?_
                  refine q_if_eq (tgt := 73) hx hb dX7_twinCouples_49 (by decide) (by decide : (1 : Int32).toInt = 1) (fun b_49 k_49 => ?_) (fun b_49 k_49 => ?_)
                  · exfalso
                    omega
                  · refine lv_aload_n hx hb dX7_twinCouples_52 rfl (lv_at hl 4 rfl) ?_
                    refine lv_iload_n hx hb dX7_twinCouples_53 rfl (lv_at hl 2 rfl) ?_
                    refine lv_iload_n hx hb dX7_twinCouples_54 rfl (lv_at hl 1 rfl) ?_
                    refine PurI.cv (As := [.int v2_4, .int v3_16]) (kX7_begins l g a_t I_t v2_4 v3_16 (by omega) (by omega) hT) fx (gUV (uT _) u_1485 u_1486 u_1487 u_31 u_1488) rfl hdX7_begins ⟨Nat.le_of_ble_eq_true rfl, Nat.le_of_ble_eq_true rfl⟩ hK hP [0, 1, 2, 3, 4, 5, 6] rfl rfl rfl rfl rfl hl.1 (Nat.le_of_ble_eq_true rfl) dX7_twinCouples_55 (fun r7 p_r7 => ?_)
                    refine q_if_eq (tgt := 73) hx hb dX7_twinCouples_58 (by decide) rfl (fun b_58 k_58 => ?_) (fun b_58 k_58 => ?_)
                    · have q_58 := bP.f p_r7 b_58
                      refine r_iinc (lv' := fun i8 => [(3, .int i8), (4, .int (1 : Int32)), (2, .int v2_4), (1, .int v1_16), (0, .ref (a_t 0))]) hx hb dX7_twinCouples_73 hl (k := 1) rfl (by decide) rfl (by decide) (fun _ => rfl) (fun i8 e_i8 t_i8 ls hl => ?_)
                      try have t_i8 := t_i8 (by omega)
                      refine lv_goto (tgt := 16) hx hb dX7_twinCouples_76 (by decide) ?_
                      exact ih_16 v1_16 i8 (by omega) (by omega) (by first | (rw [show (i8).toInt.toNat = v3_16.toInt.toNat + 1 by omega, tw_in (by omega) (tbQ.t (by omega) (by omega) q_29 q_37 q_58.2 q_67.2), ← Int.add_assoc, ← hs_16]; show _ = _ + 1; omega) | (rw [show (i8).toInt.toNat = v3_16.toInt.toNat + 1 by omega, tw_in (by omega) (tbQ.f (by omega) (by omega) (by first | exact Or.inl q_29 | exact Or.inr (Or.inl q_37) | exact Or.inr (Or.inr (Or.inl q_58)) | exact Or.inr (Or.inr (Or.inr q_67)))), ← Int.add_assoc, ← hs_16]; show _ = _ + 0; omega)) (by omega) ls (lv_sub hl [0, 2, 3, 4] rfl)
                    · have q_58 := bP.t p_r7 b_58
                      refine lv_aload_n hx hb dX7_twinCouples_61 rfl (lv_at hl 4 rfl) ?_
                      refine lv_iload_n hx hb dX7_twinCouples_62 rfl (lv_at hl 1 rfl) ?_
                      refine lv_iload_n hx hb dX7_twinCouples_63 rfl (lv_at hl 2 rfl) ?_
                      refine PurI.cv (As := [.int v3_16, .int v2_4]) (kX7_begins l g a_t I_t v3_16 v2_4 (by omega) (by omega) hT) fx (gUV (uT _) u_1485 u_1486 u_1487 u_31 u_1488) rfl hdX7_begins ⟨Nat.le_of_ble_eq_true rfl, Nat.le_of_ble_eq_true rfl⟩ hK hP [0, 1, 2, 3, 4, 5, 6] rfl rfl rfl rfl rfl hl.1 (Nat.le_of_ble_eq_true rfl) dX7_twinCouples_64 (fun r9 p_r9 => ?_)
                      refine q_if_eq (tgt := 73) hx hb dX7_twinCouples_67 (by decide) rfl (fun b_67 k_67 => ?_) (fun b_67 k_67 => ?_)
                      · have q_67 := bP.f p_r9 b_67
                        refine r_iinc (lv' := fun i10 => [(3, .int i10), (4, .int (1 : Int32)), (2, .int v2_4), (1, .int v1_16), (0, .ref (a_t 0))]) hx hb dX7_twinCouples_73 hl (k := 1) rfl (by decide) rfl (by decide) (fun _ => rfl) (fun i10 e_i10 t_i10 ls hl => ?_)
                        try have t_i10 := t_i10 (by omega)
                        refine lv_goto (tgt := 16) hx hb dX7_twinCouples_76 (by decide) ?_
                        exact ih_16 v1_16 i10 (by omega) (by omega) (by first | (rw [show (i10).toInt.toNat = v3_16.toInt.toNat + 1 by omega, tw_in (by omega) (tbQ.t (by omega) (by omega) q_29 q_37 q_58.2 q_67.2), ← Int.add_assoc, ← hs_16]; show _ = _ + 1; omega) | (rw [show (i10).toInt.toNat = v3_16.toInt.toNat + 1 by omega, tw_in (by omega) (tbQ.f (by omega) (by omega) (by first | exact Or.inl q_29 | exact Or.inr (Or.inl q_37) | exact Or.inr (Or.inr (Or.inl q_58)) | exact Or.inr (Or.inr (Or.inr q_67)))), ← Int.add_assoc, ← hs_16]; show _ = _ + 0; omega)) (by omega) ls (lv_sub hl [0, 2, 3, 4] rfl)
                      · have q_67 := bP.t p_r9 b_67
                        refine r_iinc (lv' := fun i11 => [(1, .int i11), (4, .int (1 : Int32)), (3, .int v3_16), (2, .int v2_4), (0, .ref (a_t 0))]) hx hb dX7_twinCouples_70 hl (k := 3) rfl (by decide) rfl (by decide) (fun _ => rfl) (fun i11 e_i11 t_i11 ls hl => ?_)
                        try have t_i11 := t_i11 (by omega)
                        refine r_iinc (lv' := fun i12 => [(3, .int i12), (1, .int i11), (4, .int (1 : Int32)), (2, .int v2_4), (0, .ref (a_t 0))]) hx hb dX7_twinCouples_73 hl (k := 2) rfl (by decide) rfl (by decide) (fun _ => rfl) (fun i12 e_i12 t_i12 ls hl => ?_)
                        try have t_i12 := t_i12 (by omega)
                        refine lv_goto (tgt := 16) hx hb dX7_twinCouples_76 (by decide) ?_
                        exact ih_16 i11 i12 (by omega) (by omega) (by first | (rw [show (i12).toInt.toNat = v3_16.toInt.toNat + 1 by omega, tw_in (by omega) (tbQ.t (by omega) (by omega) q_29 q_37 q_58.2 q_67.2), ← Int.add_assoc, ← hs_16]; show _ = _ + 1; omega) | (rw [show (i12).toInt.toNat = v3_16.toInt.toNat + 1 by omega, tw_in (by omega) (tbQ.f (by omega) (by omega) (by first | exact Or.inl q_29 | exact Or.inr (Or.inl q_37) | exact Or.inr (Or.inr (Or.inl q_58)) | exact Or.inr (Or.inr (Or.inr q_67)))), ← Int.add_assoc, ← hs_16]; show _ = _ + 0; omega)) (by omega) ls (lv_sub hl [0, 3, 1, 4] rfl)
        exact L16 ((25 - x1.toInt) + 1).toNat v1_4 x1 (by omega) (by omega) (by rw [tw_lo (by omega), Int.add_zero]; exact hs_4) (by omega) ls hl
  exact L4 ((25 - (0 : Int32).toInt) + 1).toNat (0 : Int32) (0 : Int32) (by omega) (by omega) (by rw [lm0]; rfl) (by omega) ls hl

set_option maxHeartbeats 4000000 in
set_option maxRecDepth 100000 in
theorem kX7_clashingCouples (l : Launch) (g : gG) (a_t : Nat → Nat) (I_t : Nat → Nat → Int32) (hT : TI I_t) : PurI l g yX7_clashingCouples wsX7_clashingCouples 3 [.ref (a_t 0)] (wX7 g a_t I_t) (fun r => r.toInt = sumN (clR (I_t 0 1) (cC I_t) (cL I_t) (I_t 0 0).toInt.toNat) (I_t 0 0).toInt.toNat) := by
  refine PurI.st (cc := cX7_clashingCouples) (maxL := 4) (by decide) rfl (Nat.le_of_ble_eq_true rfl) (fun p e s m args below meth c Q ls fx hK hP hl hret => ?_)
  have hx := fx.1
  have hb := fx.2.1
  have hml := fx.2.2.1
  have hown := fx.2.2.2.1
  have hts := fx.2.2.2.2
  have hl : lv_has ls 4 [(0, .ref (a_t 0))] := hl
  have hP : va_P g.1 vwCl (wX7 g a_t I_t) s.heap := hP
  have hf_9 := hts _ (uT _ _ u_90)
  have hi_X7 : ∀ w ∈ wsX70, w.before args s = true := fun w h => hts w (uT _ w (u_wsX70 w h))
  have lm1 : (-1 : Int32).toInt = -1 := by decide
  have lm0 : (0 : Int32).toInt = 0 := by decide
  have lm2 : (1 : Int32).toInt = 1 := by decide
  have hru := TI.ru hT
  refine lv_iconst (v := 0) hx hb dX7_clashingCouples_0 (by decide) ?_
  refine lv_istore_n (lv' := [(1, .int (0 : Int32)), (0, .ref (a_t 0))]) hx hb dX7_clashingCouples_1 rfl hl (by decide) rfl (fun ls hl => ?_)
  refine lv_iconst (v := 0) hx hb dX7_clashingCouples_2 (by decide) ?_
  refine lv_istore_n (lv' := [(2, .int (0 : Int32)), (1, .int (0 : Int32)), (0, .ref (a_t 0))]) hx hb dX7_clashingCouples_3 rfl hl (by decide) rfl (fun ls hl => ?_)
  have L4 : ∀ (nn : Nat) (v1_4 : Int32) (v2_4 : Int32), (hv_4 : 0 ≤ v2_4.toInt ∧ v2_4.toInt ≤ (I_t 0 0).toInt) → (hb_4 : 0 ≤ v1_4.toInt ∧ v1_4.toInt ≤ 24 * v2_4.toInt) → (hs_4 : v1_4.toInt = sumN (clR (I_t 0 1) (cC I_t) (cL I_t) (I_t 0 0).toInt.toNat) v2_4.toInt.toNat) → ((25 - v2_4.toInt) < (nn : Int)) → ∀ ls : Array Slot, lv_has ls 4 [(2, .int v2_4), (1, .int v1_4), (0, .ref (a_t 0))] → W p l e (rm 3) s m args below meth c s.heap [] 0 0 Q (F0 m 4 ls []) := by
    intro n_4
    induction n_4 with
    | zero =>
      intro v1_4 v2_4 hv_4 hb_4 hs_4 hms_4 ls hl
      exfalso; omega
    | succ n_4 ih_4 =>
      intro v1_4 v2_4 hv_4 hb_4 hs_4 hms_4 ls hl
      refine lv_iload_n hx hb dX7_clashingCouples_4 rfl (lv_at hl 0 rfl) ?_
      refine lv_aload_n hx hb dX7_clashingCouples_5 rfl (lv_at hl 2 rfl) ?_
      refine va_get (D := g.1) (ci := 7) (v := .int (I_t 0 0)) (C := RX7) (T := TX7) (N := 8) hx hb hi_X7 (fun _ h => h) hown hK.1 hP 0 rfl rfl 0 (by decide) hf_9 (fun _ h9 => h9) rfl dX7_clashingCouples_6 ?_
      refine q_icmp_ge (tgt := 67) hx hb dX7_clashingCouples_9 (by decide) rfl rfl (fun k_9 => ?_) (fun k_9 => ?_)
      · refine lv_iload_n hx hb dX7_clashingCouples_67 rfl (lv_at hl 1 rfl) ?_
        exact hret 68 ls v1_4 dX7_clashingCouples_68 (by rw [hs_4, show v2_4.toInt.toNat = (I_t 0 0).toInt.toNat by omega])
      · refine lv_iconst (v := 0) hx hb dX7_clashingCouples_12 (by decide) ?_
        refine lv_istore_n (lv' := [(3, .int (0 : Int32)), (2, .int v2_4), (1, .int v1_4), (0, .ref (a_t 0))]) hx hb dX7_clashingCouples_13 rfl hl (by decide) rfl (fun ls hl => ?_)
        have L14 : ∀ (nn : Nat) (v1_14 : Int32) (v3_14 : Int32), (hw_14 : 0 ≤ v3_14.toInt ∧ v3_14.toInt ≤ (I_t 0 0).toInt) → (hb_14 : 0 ≤ v1_14.toInt ∧ v1_14.toInt ≤ 24 * v2_4.toInt + v3_14.toInt) → (hs_14 : v1_14.toInt = sumN (clR (I_t 0 1) (cC I_t) (cL I_t) (I_t 0 0).toInt.toNat) v2_4.toInt.toNat + clR (I_t 0 1) (cC I_t) (cL I_t) v3_14.toInt.toNat v2_4.toInt.toNat) → ((25 - v3_14.toInt) < (nn : Int)) → ∀ ls : Array Slot, lv_has ls 4 [(3, .int v3_14), (2, .int v2_4), (1, .int v1_14), (0, .ref (a_t 0))] → W p l e (rm 3) s m args below meth c s.heap [] 0 0 Q (F0 m 14 ls []) := by
          intro n_14
          induction n_14 with
          | zero =>
            intro v1_14 v3_14 hw_14 hb_14 hs_14 hms_14 ls hl
            exfalso; omega
          | succ n_14 ih_14 =>
            intro v1_14 v3_14 hw_14 hb_14 hs_14 hms_14 ls hl
            refine lv_iload_n hx hb dX7_clashingCouples_14 rfl (lv_at hl 0 rfl) ?_
            refine lv_aload_n hx hb dX7_clashingCouples_15 rfl (lv_at hl 3 rfl) ?_
            refine va_get (D := g.1) (ci := 7) (v := .int (I_t 0 0)) (C := RX7) (T := TX7) (N := 8) hx hb hi_X7 (fun _ h => h) hown hK.1 hP 0 rfl rfl 0 (by decide) hf_9 (fun _ h9 => h9) rfl dX7_clashingCouples_16 ?_
            refine q_icmp_ge (tgt := 61) hx hb dX7_clashingCouples_19 (by decide) rfl rfl (fun k_19 => ?_) (fun k_19 => ?_)
            · refine r_iinc (lv' := fun i1 => [(2, .int i1), (3, .int v3_14), (1, .int v1_14), (0, .ref (a_t 0))]) hx hb dX7_clashingCouples_61 hl (k := 1) rfl (by decide) rfl (by decide) (fun _ => rfl) (fun i1 e_i1 t_i1 ls hl => ?_)
              try have t_i1 := t_i1 (by omega)
              refine lv_goto (tgt := 4) hx hb dX7_clashingCouples_64 (by decide) ?_
              exact ih_4 v1_14 i1 (by omega) (by omega) (by rw [show (i1).toInt.toNat = v2_4.toInt.toNat + 1 by omega]; show _ = sumN (clR (I_t 0 1) (cC I_t) (cL I_t) (I_t 0 0).toInt.toNat) v2_4.toInt.toNat + clR (I_t 0 1) (cC I_t) (cL I_t) (I_t 0 0).toInt.toNat v2_4.toInt.toNat; rw [hs_14, show v3_14.toInt.toNat = (I_t 0 0).toInt.toNat by omega]) (by omega) ls (lv_sub hl [0, 2, 3] rfl)
            · refine lv_iload_n hx hb dX7_clashingCouples_22 rfl (lv_at hl 1 rfl) ?_
              refine lv_iload_n hx hb dX7_clashingCouples_23 rfl (lv_at hl 0 rfl) ?_
              refine q_icmp_eq (tgt := 55) hx hb dX7_clashingCouples_24 (by decide) rfl rfl (fun k_24 => ?_) (fun k_24 => ?_)
              · refine r_iinc (lv' := fun i2 => [(3, .int i2), (2, .int v2_4), (1, .int v1_14), (0, .ref (a_t 0))]) hx hb dX7_clashingCouples_55 hl (k := 0) rfl (by decide) rfl (by decide) (fun _ => rfl) (fun i2 e_i2 t_i2 ls hl => ?_)
                try have t_i2 := t_i2 (by omega)
                refine lv_goto (tgt := 14) hx hb dX7_clashingCouples_58 (by decide) ?_
                exact ih_14 v1_14 i2 (by omega) (by omega) (by first | (rw [show (i2).toInt.toNat = v3_14.toInt.toNat + 1 by omega, cl_in (clQ.t (by omega) (by omega) (by omega) q_32 q_40 q_49.2), ← Int.add_assoc, ← hs_14]; show _ = _ + 1; omega) | (rw [show (i2).toInt.toNat = v3_14.toInt.toNat + 1 by omega, cl_in (clQ.f (by omega) (by omega) (by first | exact Or.inl (by omega) | exact Or.inr (Or.inl q_32) | exact Or.inr (Or.inr (Or.inl q_40)) | exact Or.inr (Or.inr (Or.inr q_49)))), ← Int.add_assoc, ← hs_14]; show _ = _ + 0; omega)) (by omega) ls hl
              · refine lv_aload_n hx hb dX7_clashingCouples_27 rfl (lv_at hl 3 rfl) ?_
                refine lv_iload_n hx hb dX7_clashingCouples_28 rfl (lv_at hl 1 rfl) ?_
                refine PurI.cv (As := [.int v2_4]) (kX7_isThere l g a_t I_t v2_4) fx (gUV (uT _) u_1484 u_983 u_984 u_31 u_985) rfl hdX7_isThere ⟨Nat.le_of_ble_eq_true rfl, Nat.le_of_ble_eq_true rfl⟩ hK hP [0, 1, 2, 3, 4, 5, 6] rfl rfl rfl rfl rfl hl.1 (Nat.le_of_ble_eq_true rfl) dX7_clashingCouples_29 (fun r3 p_r3 => ?_)
                refine q_if_eq (tgt := 55) hx hb dX7_clashingCouples_32 (by decide) rfl (fun b_32 k_32 => ?_) (fun b_32 k_32 => ?_)
                · have q_32 := bP.f p_r3 b_32
                  refine r_iinc (lv' := fun i4 => [(3, .int i4), (2, .int v2_4), (1, .int v1_14), (0, .ref (a_t 0))]) hx hb dX7_clashingCouples_55 hl (k := 0) rfl (by decide) rfl (by decide) (fun _ => rfl) (fun i4 e_i4 t_i4 ls hl => ?_)
                  try have t_i4 := t_i4 (by omega)
                  refine lv_goto (tgt := 14) hx hb dX7_clashingCouples_58 (by decide) ?_
                  exact ih_14 v1_14 i4 (by omega) (by omega) (by first | (rw [show (i4).toInt.toNat = v3_14.toInt.toNat + 1 by omega, cl_in (clQ.t (by omega) (by omega) (by omega) q_32 q_40 q_49.2), ← Int.add_assoc, ← hs_14]; show _ = _ + 1; omega) | (rw [show (i4).toInt.toNat = v3_14.toInt.toNat + 1 by omega, cl_in (clQ.f (by omega) (by omega) (by first | exact Or.inl (by omega) | exact Or.inr (Or.inl q_32) | exact Or.inr (Or.inr (Or.inl q_40)) | exact Or.inr (Or.inr (Or.inr q_49)))), ← Int.add_assoc, ← hs_14]; show _ = _ + 0; omega)) (by omega) ls hl
                · have q_32 := bP.t p_r3 b_32
                  refine lv_aload_n hx hb dX7_clashingCouples_35 rfl (lv_at hl 3 rfl) ?_
                  refine lv_iload_n hx hb dX7_clashingCouples_36 rfl (lv_at hl 0 rfl) ?_
                  refine PurI.cv (As := [.int v3_14]) (kX7_isThere l g a_t I_t v3_14) fx (gUV (uT _) u_1484 u_983 u_984 u_31 u_985) rfl hdX7_isThere ⟨Nat.le_of_ble_eq_true rfl, Nat.le_of_ble_eq_true rfl⟩ hK hP [0, 1, 2, 3, 4, 5, 6] rfl rfl rfl rfl rfl hl.1 (Nat.le_of_ble_eq_true rfl) dX7_clashingCouples_37 (fun r5 p_r5 => ?_)
                  refine q_if_eq (tgt := 55) hx hb dX7_clashingCouples_40 (by decide) rfl (fun b_40 k_40 => ?_) (fun b_40 k_40 => ?_)
                  · have q_40 := bP.f p_r5 b_40
                    refine r_iinc (lv' := fun i6 => [(3, .int i6), (2, .int v2_4), (1, .int v1_14), (0, .ref (a_t 0))]) hx hb dX7_clashingCouples_55 hl (k := 0) rfl (by decide) rfl (by decide) (fun _ => rfl) (fun i6 e_i6 t_i6 ls hl => ?_)
                    try have t_i6 := t_i6 (by omega)
                    refine lv_goto (tgt := 14) hx hb dX7_clashingCouples_58 (by decide) ?_
                    exact ih_14 v1_14 i6 (by omega) (by omega) (by first | (rw [show (i6).toInt.toNat = v3_14.toInt.toNat + 1 by omega, cl_in (clQ.t (by omega) (by omega) (by omega) q_32 q_40 q_49.2), ← Int.add_assoc, ← hs_14]; show _ = _ + 1; omega) | (rw [show (i6).toInt.toNat = v3_14.toInt.toNat + 1 by omega, cl_in (clQ.f (by omega) (by omega) (by first | exact Or.inl (by omega) | exact Or.inr (Or.inl q_32) | exact Or.inr (Or.inr (Or.inl q_40)) | exact Or.inr (Or.inr (Or.inr q_49)))), ← Int.add_assoc, ← hs_14]; show _ = _ + 0; omega)) (by omega) ls hl
                  · have q_40 := bP.t p_r5 b_40
                    refine lv_aload_n hx hb dX7_clashingCouples_43 rfl (lv_at hl 3 rfl) ?_
                    refine lv_iload_n hx hb dX7_clashingCouples_44 rfl (lv_at hl 1 rfl) ?_
                    refine lv_iload_n hx hb dX7_clashingCouples_45 rfl (lv_at hl 0 rfl) ?_
                    refine PurI.cv (As := [.int v2_4, .int v3_14]) (kX7_begins l g a_t I_t v2_4 v3_14 (by omega) (by omega) hT) fx (gUV (uT _) u_1485 u_1486 u_1487 u_31 u_1488) rfl hdX7_begins ⟨Nat.le_of_ble_eq_true rfl, Nat.le_of_ble_eq_true rfl⟩ hK hP [0, 1, 2, 3, 4, 5, 6] rfl rfl rfl rfl rfl hl.1 (Nat.le_of_ble_eq_true rfl) dX7_clashingCouples_46 (fun r7 p_r7 => ?_)
                    refine q_if_eq (tgt := 55) hx hb dX7_clashingCouples_49 (by decide) rfl (fun b_49 k_49 => ?_) (fun b_49 k_49 => ?_)
                    · have q_49 := bP.f p_r7 b_49
                      refine r_iinc (lv' := fun i8 => [(3, .int i8), (2, .int v2_4), (1, .int v1_14), (0, .ref (a_t 0))]) hx hb dX7_clashingCouples_55 hl (k := 0) rfl (by decide) rfl (by decide) (fun _ => rfl) (fun i8 e_i8 t_i8 ls hl => ?_)
                      try have t_i8 := t_i8 (by omega)
                      refine lv_goto (tgt := 14) hx hb dX7_clashingCouples_58 (by decide) ?_
                      exact ih_14 v1_14 i8 (by omega) (by omega) (by first | (rw [show (i8).toInt.toNat = v3_14.toInt.toNat + 1 by omega, cl_in (clQ.t (by omega) (by omega) (by omega) q_32 q_40 q_49.2), ← Int.add_assoc, ← hs_14]; show _ = _ + 1; omega) | (rw [show (i8).toInt.toNat = v3_14.toInt.toNat + 1 by omega, cl_in (clQ.f (by omega) (by omega) (by first | exact Or.inl (by omega) | exact Or.inr (Or.inl q_32) | exact Or.inr (Or.inr (Or.inl q_40)) | exact Or.inr (Or.inr (Or.inr q_49)))), ← Int.add_assoc, ← hs_14]; show _ = _ + 0; omega)) (by omega) ls hl
                    · have q_49 := bP.t p_r7 b_49
                      refine r_iinc (lv' := fun i9 => [(1, .int i9), (3, .int v3_14), (2, .int v2_4), (0, .ref (a_t 0))]) hx hb dX7_clashingCouples_52 hl (k := 2) rfl (by decide) rfl (by decide) (fun _ => rfl) (fun i9 e_i9 t_i9 ls hl => ?_)
                      try have t_i9 := t_i9 (by omega)
                      refine r_iinc (lv' := fun i10 => [(3, .int i10), (1, .int i9), (2, .int v2_4), (0, .ref (a_t 0))]) hx hb dX7_clashingCouples_55 hl (k := 1) rfl (by decide) rfl (by decide) (fun _ => rfl) (fun i10 e_i10 t_i10 ls hl => ?_)
                      try have t_i10 := t_i10 (by omega)
                      refine lv_goto (tgt := 14) hx hb dX7_clashingCouples_58 (by decide) ?_
                      exact ih_14 i9 i10 (by omega) (by omega) (by first | (rw [show (i10).toInt.toNat = v3_14.toInt.toNat + 1 by omega, cl_in (clQ.t (by omega) (by omega) (by omega) q_32 q_40 q_49.2), ← Int.add_assoc, ← hs_14]; show _ = _ + 1; omega) | (rw [show (i10).toInt.toNat = v3_14.toInt.toNat + 1 by omega, cl_in (clQ.f (by omega) (by omega) (by first | exact Or.inl (by omega) | exact Or.inr (Or.inl q_32) | exact Or.inr (Or.inr (Or.inl q_40)) | exact Or.inr (Or.inr (Or.inr q_49)))), ← Int.add_assoc, ← hs_14]; show _ = _ + 0; omega)) (by omega) ls (lv_sub hl [0, 2, 1, 3] rfl)
        exact L14 ((25 - (0 : Int32).toInt) + 1).toNat v1_4 (0 : Int32) (by omega) (by omega) (by rw [lm0]; show _ = _ + 0; rw [Int.add_zero]; exact hs_4) (by omega) ls hl
  exact L4 ((25 - (0 : Int32).toInt) + 1).toNat (0 : Int32) (0 : Int32) (by omega) (by omega) (by rw [lm0]; rfl) (by omega) ls hl

set_option maxHeartbeats 4000000 in
set_option maxRecDepth 100000 in
theorem kX7_plainRule (l : Launch) (g : gG) (a_t : Nat → Nat) (I_t : Nat → Nat → Int32) (wanted : Int32) (wo : Int32) (hT : TI I_t) : PurI l g yX7_plainRule wsX7_plainRule 1 [.ref (a_t 0), .int wanted, .int wo] (wX7 g a_t I_t) (fun r => -1 ≤ r.toInt ∧ r.toInt < (I_t 0 0).toInt ∧ ((r.toInt = -1 ∧ jsN wo (I_t 2) (I_t 4) (fun i => I_t 5 (6 * i)) wanted (I_t 0 0).toInt.toNat = true) ∨ (0 ≤ r.toInt ∧ jsN wo (I_t 2) (I_t 4) (fun i => I_t 5 (6 * i)) wanted (I_t 0 0).toInt.toNat = false)) ∧ ((r.toInt = -1 ∧ uNj (fxTc I_t) wo wanted.toInt) ∨ (0 ≤ r.toInt ∧ uJs (fxTc I_t) wo wanted.toInt r.toInt.toNat))) := by
  refine PurI.st (cc := cX7_plainRule) (maxL := 5) (by decide) rfl (Nat.le_of_ble_eq_true rfl) (fun p e s m args below meth c Q ls fx hK hP hl hret => ?_)
  have hx := fx.1
  have hb := fx.2.1
  have hml := fx.2.2.1
  have hown := fx.2.2.2.1
  have hts := fx.2.2.2.2
  have hl : lv_has ls 5 [(0, .ref (a_t 0)), (1, .int wanted), (2, .int wo)] := hl
  have hP : va_P g.1 vwCl (wX7 g a_t I_t) s.heap := hP
  have hf_9 := hts _ (uT _ _ u_90)
  have hf_22 := hts _ (uT _ _ u_93)
  have hf_28 := hts _ (uT _ _ u_95)
  have hi_X7 : ∀ w ∈ wsX70, w.before args s = true := fun w h => hts w (uT _ w (u_wsX70 w h))
  have lm1 : (-1 : Int32).toInt = -1 := by decide
  have lm0 : (0 : Int32).toInt = 0 := by decide
  have lm2 : (1 : Int32).toInt = 1 := by decide
  have hru := TI.ru hT
  refine lv_iconst (v := 0) hx hb dX7_plainRule_0 (by decide) ?_
  refine lv_istore_n (lv' := [(3, .int (0 : Int32)), (0, .ref (a_t 0)), (1, .int wanted), (2, .int wo)]) hx hb dX7_plainRule_1 rfl hl (by decide) rfl (fun ls hl => ?_)
  have L2 : ∀ (nn : Nat) (v3_2 : Int32), (hv_2 : 0 ≤ v3_2.toInt ∧ v3_2.toInt ≤ 24) → (hj_2 : ∀ i : Nat, (i : Int) < v3_2.toInt → jsJ wo (I_t 2) (I_t 4) (fun i => I_t 5 (6 * i)) wanted i = false) → (hu_2 : ∀ i : Nat, (i : Int) < v3_2.toInt → ¬ uJt (fxTc I_t) wo wanted.toInt i) → ((25 - v3_2.toInt) < (nn : Int)) → ∀ ls : Array Slot, lv_has ls 5 [(3, .int v3_2), (0, .ref (a_t 0)), (1, .int wanted), (2, .int wo)] → W p l e (rm 1) s m args below meth c s.heap [] 0 0 Q (F0 m 2 ls []) := by
    intro n_2
    induction n_2 with
    | zero =>
      intro v3_2 hv_2 hj_2 hu_2 hms_2 ls hl
      exfalso; omega
    | succ n_2 ih_2 =>
      intro v3_2 hv_2 hj_2 hu_2 hms_2 ls hl
      refine lv_iload_n hx hb dX7_plainRule_2 rfl (lv_at hl 0 rfl) ?_
      refine lv_aload_n hx hb dX7_plainRule_3 rfl (lv_at hl 1 rfl) ?_
      refine va_get (D := g.1) (ci := 7) (v := .int (I_t 0 0)) (C := RX7) (T := TX7) (N := 8) hx hb hi_X7 (fun _ h => h) hown hK.1 hP 0 rfl rfl 0 (by decide) hf_9 (fun _ h9 => h9) rfl dX7_plainRule_4 ?_
      refine q_icmp_ge (tgt := 67) hx hb dX7_plainRule_7 (by decide) rfl rfl (fun k_7 => ?_) (fun k_7 => ?_)
      · refine lv_iconst (v := -1) hx hb dX7_plainRule_67 (by decide) ?_
        exact hret 68 ls (-1 : Int32) dX7_plainRule_68 ⟨by omega, by omega, Or.inl ⟨by omega, jsN.iff.2 (fun i hi => hj_2 i (by omega))⟩, Or.inl ⟨by omega, fun j hj => hu_2 j (by rw [fxTc.len] at hj; omega)⟩⟩
      · refine lv_aload_n hx hb dX7_plainRule_10 rfl (lv_at hl 1 rfl) ?_
        refine va_get (D := g.1) (ci := 7) (v := .ref (a_t 2)) (C := RX7) (T := TX7) (N := 8) hx hb hi_X7 (fun _ h => h) hown hK.1 hP 0 rfl rfl 3 (by decide) hf_22 (fun _ h9 => h9) rfl dX7_plainRule_11 ?_
        refine lv_iload_n hx hb dX7_plainRule_14 rfl (lv_at hl 0 rfl) ?_
        have n_15 : vp_in v3_2 24 := (t_in (by omega))
        refine va_iald hx hb hK.1 hP 2 0 rfl rfl n_15 dX7_plainRule_15 ?_
        refine q_nm (fun x1 e_x1 => ?_)
        have e_x1 : x1 = (I_t 2) v3_2.toNatClampNeg := e_x1
        have g_x1 : x1.toInt = ((I_t 2) v3_2.toNatClampNeg).toInt := congrArg _ e_x1
        have f_x1 := TI.lc hT v3_2.toNatClampNeg
        rw [← e_x1] at f_x1
        refine lv_iconst (v := 1) hx hb dX7_plainRule_16 (by decide) ?_
        refine q_icmp_ne (tgt := 43) hx hb dX7_plainRule_17 (by decide) rfl (by decide : (1 : Int32).toInt = 1) (fun k_17 => ?_) (fun k_17 => ?_)
        · refine lv_iconst (v := 0) hx hb dX7_plainRule_43 (by decide) ?_
          refine lv_istore (lv' := [(4, .int (0 : Int32)), (3, .int v3_2), (0, .ref (a_t 0)), (1, .int wanted), (2, .int wo)]) hx hb dX7_plainRule_44 hl (by decide) rfl (fun ls hl => ?_)
          refine lv_iload hx hb dX7_plainRule_46 (lv_at hl 0 rfl) ?_
          refine q_if_eq (tgt := 61) hx hb dX7_plainRule_48 (by decide) (by decide : (0 : Int32).toInt = 0) (fun b_48 k_48 => ?_) (fun b_48 k_48 => ?_)
          · refine r_iinc (lv' := fun i2 => [(3, .int i2), (4, .int (0 : Int32)), (0, .ref (a_t 0)), (1, .int wanted), (2, .int wo)]) hx hb dX7_plainRule_61 hl (k := 1) rfl (by decide) rfl (by decide) (fun _ => rfl) (fun i2 e_i2 t_i2 ls hl => ?_)
            try have t_i2 := t_i2 (by omega)
            refine lv_goto (tgt := 2) hx hb dX7_plainRule_64 (by decide) ?_
            exact ih_2 i2 (by omega) (tq_ext (P := fun i => jsJ wo (I_t 2) (I_t 4) (fun i => I_t 5 (6 * i)) wanted i = false) hj_2 (by omega) (by omega) (jsJ.f (by omega) (by first | exact Or.inl q_56 | exact Or.inr (Or.inl (by show ¬ I_t 2 v3_2.toInt.toNat = 1; intro q; have e := congrArg Int32.toInt ((show x1 = I_t 2 v3_2.toInt.toNat from e_x1).trans q); omega))))) (tq_ext (P := fun i => ¬ uJt (fxTc I_t) wo wanted.toInt i) hu_2 (by omega) (by omega) (fun q => by rw [uJt.iff (by omega)] at q; obtain ⟨q1, q2, q3, q4⟩ := q; first | (rw [show I_t 2 v3_2.toInt.toNat = x1 from e_x1.symm] at q2; omega) | (rw [show nI v3_2.toInt.toNat = v3_2 from (t_nI (x := v3_2) rfl (by omega)).1.symm, q_56] at q1; exact absurd q1 (by decide)))) (by omega) ls (lv_sub hl [0, 2, 3, 4] rfl)
          · exfalso
            omega
        · refine lv_aload_n hx hb dX7_plainRule_20 rfl (lv_at hl 1 rfl) ?_
          refine va_get (D := g.1) (ci := 7) (v := .ref (a_t 4)) (C := RX7) (T := TX7) (N := 8) hx hb hi_X7 (fun _ h => h) hown hK.1 hP 0 rfl rfl 5 (by decide) hf_28 (fun _ h9 => h9) rfl dX7_plainRule_21 ?_
          refine lv_iload_n hx hb dX7_plainRule_24 rfl (lv_at hl 0 rfl) ?_
          have n_25 : vp_in v3_2 24 := (t_in (by omega))
          refine va_iald hx hb hK.1 hP 4 0 rfl rfl n_25 dX7_plainRule_25 ?_
          refine q_nm (fun x3 e_x3 => ?_)
          have e_x3 : x3 = (I_t 4) v3_2.toNatClampNeg := e_x3
          have g_x3 : x3.toInt = ((I_t 4) v3_2.toNatClampNeg).toInt := congrArg _ e_x3
          have f_x3 := TI.cd hT v3_2.toNatClampNeg
          rw [← e_x3] at f_x3
          refine q_if_ne (tgt := 43) hx hb dX7_plainRule_26 (by decide) rfl (fun b_26 k_26 => ?_) (fun b_26 k_26 => ?_)
          · refine lv_iconst (v := 0) hx hb dX7_plainRule_43 (by decide) ?_
            refine lv_istore (lv' := [(4, .int (0 : Int32)), (3, .int v3_2), (0, .ref (a_t 0)), (1, .int wanted), (2, .int wo)]) hx hb dX7_plainRule_44 hl (by decide) rfl (fun ls hl => ?_)
            refine lv_iload hx hb dX7_plainRule_46 (lv_at hl 0 rfl) ?_
            refine q_if_eq (tgt := 61) hx hb dX7_plainRule_48 (by decide) (by decide : (0 : Int32).toInt = 0) (fun b_48 k_48 => ?_) (fun b_48 k_48 => ?_)
            · refine r_iinc (lv' := fun i4 => [(3, .int i4), (4, .int (0 : Int32)), (0, .ref (a_t 0)), (1, .int wanted), (2, .int wo)]) hx hb dX7_plainRule_61 hl (k := 1) rfl (by decide) rfl (by decide) (fun _ => rfl) (fun i4 e_i4 t_i4 ls hl => ?_)
              try have t_i4 := t_i4 (by omega)
              refine lv_goto (tgt := 2) hx hb dX7_plainRule_64 (by decide) ?_
              exact ih_2 i4 (by omega) (tq_ext (P := fun i => jsJ wo (I_t 2) (I_t 4) (fun i => I_t 5 (6 * i)) wanted i = false) hj_2 (by omega) (by omega) (jsJ.f (by omega) (by first | exact Or.inl q_56 | exact Or.inr (Or.inl (by show ¬ I_t 2 v3_2.toInt.toNat = 1; intro q; have e := congrArg Int32.toInt ((show x1 = I_t 2 v3_2.toInt.toNat from e_x1).trans q); omega)) | exact Or.inr (Or.inr (Or.inr (by show ¬ I_t 4 v3_2.toInt.toNat = 0; intro q; have e := congrArg Int32.toInt ((show x3 = I_t 4 v3_2.toInt.toNat from e_x3).trans q); omega)))))) (tq_ext (P := fun i => ¬ uJt (fxTc I_t) wo wanted.toInt i) hu_2 (by omega) (by omega) (fun q => by rw [uJt.iff (by omega)] at q; obtain ⟨q1, q2, q3, q4⟩ := q; first | (rw [show I_t 2 v3_2.toInt.toNat = x1 from e_x1.symm] at q2; omega) | (rw [show I_t 4 v3_2.toInt.toNat = x3 from e_x3.symm] at q4; omega) | (rw [show nI v3_2.toInt.toNat = v3_2 from (t_nI (x := v3_2) rfl (by omega)).1.symm, q_56] at q1; exact absurd q1 (by decide)))) (by omega) ls (lv_sub hl [0, 2, 3, 4] rfl)
            · exfalso
              omega
          · refine lv_aload_n hx hb dX7_plainRule_29 rfl (lv_at hl 1 rfl) ?_
            refine lv_iload_n hx hb dX7_plainRule_30 rfl (lv_at hl 0 rfl) ?_
            refine lv_iconst (v := 0) hx hb dX7_plainRule_31 (by decide) ?_
            refine PurI.cv (As := [.int v3_2, .int (0 : Int32)]) (kX7_letterAt l g a_t I_t v3_2 (0 : Int32) (by omega) (by omega) hT) fx (gUV (uT _) u_479 u_480 u_481 u_31 u_482) rfl hdX7_letterAt ⟨Nat.le_of_ble_eq_true rfl, Nat.le_of_ble_eq_true rfl⟩ hK hP [0, 1, 2, 3, 4, 5, 6] rfl rfl rfl rfl rfl hl.1 (Nat.le_of_ble_eq_true rfl) dX7_plainRule_32 (fun r5 p_r5 => ?_)
            refine lv_iload_n hx hb dX7_plainRule_35 rfl (lv_at hl 2 rfl) ?_
            refine q_icmp_ne (tgt := 43) hx hb dX7_plainRule_36 (by decide) rfl rfl (fun k_36 => ?_) (fun k_36 => ?_)
            · refine lv_iconst (v := 0) hx hb dX7_plainRule_43 (by decide) ?_
              refine lv_istore (lv' := [(4, .int (0 : Int32)), (3, .int v3_2), (0, .ref (a_t 0)), (1, .int wanted), (2, .int wo)]) hx hb dX7_plainRule_44 hl (by decide) rfl (fun ls hl => ?_)
              refine lv_iload hx hb dX7_plainRule_46 (lv_at hl 0 rfl) ?_
              refine q_if_eq (tgt := 61) hx hb dX7_plainRule_48 (by decide) (by decide : (0 : Int32).toInt = 0) (fun b_48 k_48 => ?_) (fun b_48 k_48 => ?_)
              · refine r_iinc (lv' := fun i6 => [(3, .int i6), (4, .int (0 : Int32)), (0, .ref (a_t 0)), (1, .int wanted), (2, .int wo)]) hx hb dX7_plainRule_61 hl (k := 1) rfl (by decide) rfl (by decide) (fun _ => rfl) (fun i6 e_i6 t_i6 ls hl => ?_)
                try have t_i6 := t_i6 (by omega)
                refine lv_goto (tgt := 2) hx hb dX7_plainRule_64 (by decide) ?_
                exact ih_2 i6 (by omega) (tq_ext (P := fun i => jsJ wo (I_t 2) (I_t 4) (fun i => I_t 5 (6 * i)) wanted i = false) hj_2 (by omega) (by omega) (jsJ.f (by omega) (by first | exact Or.inl q_56 | exact Or.inr (Or.inl (by show ¬ I_t 2 v3_2.toInt.toNat = 1; intro q; have e := congrArg Int32.toInt ((show x1 = I_t 2 v3_2.toInt.toNat from e_x1).trans q); omega)) | exact Or.inr (Or.inr (Or.inr (by show ¬ I_t 4 v3_2.toInt.toNat = 0; intro q; have e := congrArg Int32.toInt ((show x3 = I_t 4 v3_2.toInt.toNat from e_x3).trans q); omega))) | exact Or.inr (Or.inr (Or.inl (by show ¬ I_t 5 (6 * v3_2.toInt.toNat) = wanted; intro q; have e9 := p_r5.1; rw [show (v3_2.toInt * 6 + (0 : Int32).toInt).toNat = 6 * v3_2.toInt.toNat by omega, q] at e9; have := congrArg Int32.toInt e9; omega)))))) (tq_ext (P := fun i => ¬ uJt (fxTc I_t) wo wanted.toInt i) hu_2 (by omega) (by omega) (fun q => by rw [uJt.iff (by omega)] at q; obtain ⟨q1, q2, q3, q4⟩ := q; first | (rw [show I_t 2 v3_2.toInt.toNat = x1 from e_x1.symm] at q2; omega) | (rw [show I_t 4 v3_2.toInt.toNat = x3 from e_x3.symm] at q4; omega) | (rw [show I_t 5 (6 * v3_2.toInt.toNat) = r5 from (by rw [p_r5.1]; congr 1; omega)] at q3; omega) | (rw [show nI v3_2.toInt.toNat = v3_2 from (t_nI (x := v3_2) rfl (by omega)).1.symm, q_56] at q1; exact absurd q1 (by decide)))) (by omega) ls (lv_sub hl [0, 2, 3, 4] rfl)
              · exfalso
                omega
            · refine lv_iconst (v := 1) hx hb dX7_plainRule_39 (by decide) ?_
              refine lv_goto (tgt := 44) hx hb dX7_plainRule_40 (by decide) ?_
              refine lv_istore (lv' := [(4, .int (1 : Int32)), (3, .int v3_2), (0, .ref (a_t 0)), (1, .int wanted), (2, .int wo)]) hx hb dX7_plainRule_44 hl (by decide) rfl (fun ls hl => ?_)
              refine lv_iload hx hb dX7_plainRule_46 (lv_at hl 0 rfl) ?_
              refine q_if_eq (tgt := 61) hx hb dX7_plainRule_48 (by decide) (by decide : (1 : Int32).toInt = 1) (fun b_48 k_48 => ?_) (fun b_48 k_48 => ?_)
              · exfalso
                omega
              · refine lv_iload_n hx hb dX7_plainRule_51 rfl (lv_at hl 1 rfl) ?_
                refine lv_iload_n hx hb dX7_plainRule_52 rfl (lv_at hl 4 rfl) ?_
                refine PurI.cs (C := RX7) (As := [.int v3_2, .int wo]) (kX7_isIn l g v3_2 wo) fx (gUS (uT _) u_620 u_621 u_31 u_622) rfl hdX7_isIn ⟨Nat.le_of_ble_eq_true rfl, Nat.le_of_ble_eq_true rfl⟩ hK hP [] rfl rfl rfl hl.1 (Nat.le_of_ble_eq_true rfl) dX7_plainRule_53 (fun r7 p_r7 => ?_)
                refine q_if_eq (tgt := 61) hx hb dX7_plainRule_56 (by decide) rfl (fun b_56 k_56 => ?_) (fun b_56 k_56 => ?_)
                · have q_56 := bP.f p_r7 b_56
                  refine r_iinc (lv' := fun i8 => [(3, .int i8), (4, .int (1 : Int32)), (0, .ref (a_t 0)), (1, .int wanted), (2, .int wo)]) hx hb dX7_plainRule_61 hl (k := 1) rfl (by decide) rfl (by decide) (fun _ => rfl) (fun i8 e_i8 t_i8 ls hl => ?_)
                  try have t_i8 := t_i8 (by omega)
                  refine lv_goto (tgt := 2) hx hb dX7_plainRule_64 (by decide) ?_
                  exact ih_2 i8 (by omega) (tq_ext (P := fun i => jsJ wo (I_t 2) (I_t 4) (fun i => I_t 5 (6 * i)) wanted i = false) hj_2 (by omega) (by omega) (jsJ.f (by omega) (by first | exact Or.inl q_56 | exact Or.inr (Or.inl (by show ¬ I_t 2 v3_2.toInt.toNat = 1; intro q; have e := congrArg Int32.toInt ((show x1 = I_t 2 v3_2.toInt.toNat from e_x1).trans q); omega)) | exact Or.inr (Or.inr (Or.inr (by show ¬ I_t 4 v3_2.toInt.toNat = 0; intro q; have e := congrArg Int32.toInt ((show x3 = I_t 4 v3_2.toInt.toNat from e_x3).trans q); omega))) | exact Or.inr (Or.inr (Or.inl (by show ¬ I_t 5 (6 * v3_2.toInt.toNat) = wanted; intro q; have e9 := p_r5.1; rw [show (v3_2.toInt * 6 + (0 : Int32).toInt).toNat = 6 * v3_2.toInt.toNat by omega, q] at e9; have := congrArg Int32.toInt e9; omega)))))) (tq_ext (P := fun i => ¬ uJt (fxTc I_t) wo wanted.toInt i) hu_2 (by omega) (by omega) (fun q => by rw [uJt.iff (by omega)] at q; obtain ⟨q1, q2, q3, q4⟩ := q; first | (rw [show I_t 2 v3_2.toInt.toNat = x1 from e_x1.symm] at q2; omega) | (rw [show I_t 4 v3_2.toInt.toNat = x3 from e_x3.symm] at q4; omega) | (rw [show I_t 5 (6 * v3_2.toInt.toNat) = r5 from (by rw [p_r5.1]; congr 1; omega)] at q3; omega) | (rw [show nI v3_2.toInt.toNat = v3_2 from (t_nI (x := v3_2) rfl (by omega)).1.symm, q_56] at q1; exact absurd q1 (by decide)))) (by omega) ls (lv_sub hl [0, 2, 3, 4] rfl)
                · have q_56 := bP.t p_r7 b_56
                  refine lv_iload_n hx hb dX7_plainRule_59 rfl (lv_at hl 1 rfl) ?_
                  exact hret 60 ls v3_2 dX7_plainRule_60 ⟨by omega, by omega, Or.inr ⟨by omega, jsN.f (i := v3_2.toInt.toNat) (by omega) (jsJ.t (by omega) q_56 ((show I_t 2 v3_2.toInt.toNat = x1 from e_x1.symm).trans (t_inj_ (by omega))) ((show I_t 5 (6 * v3_2.toInt.toNat) = r5 from (p_r5.1.trans (by congr 1; omega)).symm).trans (t_inj_ (by omega))) ((show I_t 4 v3_2.toInt.toNat = x3 from e_x3.symm).trans (t_inj_ (by omega))))⟩, Or.inr ⟨by omega, by rw [fxTc.len]; omega, (by rw [uJt.iff (by omega), show nI v3_2.toInt.toNat = v3_2 from (t_nI (x := v3_2) rfl (by omega)).1.symm, show I_t 2 v3_2.toInt.toNat = x1 from e_x1.symm, show I_t 4 v3_2.toInt.toNat = x3 from e_x3.symm, show I_t 5 (6 * v3_2.toInt.toNat) = r5 from (by rw [p_r5.1]; congr 1; omega)]; exact ⟨q_56, by omega, by omega, by omega⟩), fun j hj => hu_2 j (by omega)⟩⟩
  exact L2 ((25 - (0 : Int32).toInt) + 1).toNat (0 : Int32) (by omega) (fun i q => by rw [lm0] at q; exfalso; omega) (fun i q => by rw [lm0] at q; exfalso; omega) (by omega) ls hl

set_option maxHeartbeats 4000000 in
set_option maxRecDepth 100000 in
theorem kX7_longestRule (l : Launch) (g : gG) (a_t : Nat → Nat) (I_t : Nat → Nat → Int32) (a_x : Nat → Nat) (n_x : Nat) (I_x : Nat → Nat → Int32) (fr : Int32) (to : Int32) (ia : Int32) (wo : Int32) (hT : TI I_t) (h_at : 0 ≤ ia.toInt ∧ ia.toInt < to.toInt ∧ to.toInt ≤ (n_x : Int) ∧ n_x ≤ 1000) : PurI l g yX7_longestRule wsX7_longestRule 2 [.ref (a_t 0), .ref (a_x 0), .int fr, .int to, .int ia, .int wo] (wX7 g a_t I_t ++ wArr g a_x n_x I_x) (fun r => -1 ≤ r.toInt ∧ r.toInt < (I_t 0 0).toInt ∧ (uPr I_t (fxB (I_x 0)) ia.toInt to.toInt → ((r.toInt = -1 ∧ uNo (fxTc I_t) wo (fxB (I_x 0)) ia.toInt fr.toInt to.toInt) ∨ (0 ≤ r.toInt ∧ uLg (fxTc I_t) wo (fxB (I_x 0)) ia.toInt fr.toInt to.toInt r.toInt.toNat)))) := by
  refine PurI.st (cc := cX7_longestRule) (maxL := 10) (by decide) rfl (Nat.le_of_ble_eq_true rfl) (fun p e s m args below meth c Q ls fx hK hP hl hret => ?_)
  have hx := fx.1
  have hb := fx.2.1
  have hml := fx.2.2.1
  have hown := fx.2.2.2.1
  have hts := fx.2.2.2.2
  have hl : lv_has ls 10 [(0, .ref (a_t 0)), (1, .ref (a_x 0)), (2, .int fr), (3, .int to), (4, .int ia), (5, .int wo)] := hl
  have hP : va_P g.1 vwCl (wX7 g a_t I_t ++ wArr g a_x n_x I_x) s.heap := hP
  have hf_9 := hts _ (uT _ _ u_90)
  have hf_22 := hts _ (uT _ _ u_93)
  have hi_X7 : ∀ w ∈ wsX70, w.before args s = true := fun w h => hts w (uT _ w (u_wsX70 w h))
  have lm1 : (-1 : Int32).toInt = -1 := by decide
  have lm0 : (0 : Int32).toInt = 0 := by decide
  have lm2 : (1 : Int32).toInt = 1 := by decide
  have hru := TI.ru hT
  refine lv_iconst (v := -1) hx hb dX7_longestRule_0 (by decide) ?_
  refine lv_istore (lv' := [(6, .int (-1 : Int32)), (0, .ref (a_t 0)), (1, .ref (a_x 0)), (2, .int fr), (3, .int to), (4, .int ia), (5, .int wo)]) hx hb dX7_longestRule_1 hl (by decide) rfl (fun ls hl => ?_)
  refine lv_iconst (v := 0) hx hb dX7_longestRule_3 (by decide) ?_
  refine lv_istore (lv' := [(7, .int (0 : Int32)), (6, .int (-1 : Int32)), (0, .ref (a_t 0)), (1, .ref (a_x 0)), (2, .int fr), (3, .int to), (4, .int ia), (5, .int wo)]) hx hb dX7_longestRule_4 hl (by decide) rfl (fun ls hl => ?_)
  refine lv_iconst (v := 0) hx hb dX7_longestRule_6 (by decide) ?_
  refine lv_istore (lv' := [(8, .int (0 : Int32)), (7, .int (0 : Int32)), (6, .int (-1 : Int32)), (0, .ref (a_t 0)), (1, .ref (a_x 0)), (2, .int fr), (3, .int to), (4, .int ia), (5, .int wo)]) hx hb dX7_longestRule_7 hl (by decide) rfl (fun ls hl => ?_)
  have L9 : ∀ (nn : Nat) (v6_9 : Int32) (v7_9 : Int32) (v8_9 : Int32), (hv_9 : 0 ≤ v8_9.toInt ∧ v8_9.toInt ≤ 24) → (hb_9 : -1 ≤ v6_9.toInt ∧ v6_9.toInt < (I_t 0 0).toInt) → (hv2_9 : v8_9.toInt ≤ (I_t 0 0).toInt) → (hq_9 : uPr I_t (fxB (I_x 0)) ia.toInt to.toInt → uBs (fxTc I_t) wo (fxB (I_x 0)) ia.toInt fr.toInt to.toInt v6_9.toInt v7_9.toInt v8_9.toInt.toNat) → ((25 - v8_9.toInt) < (nn : Int)) → ∀ ls : Array Slot, lv_has ls 10 [(8, .int v8_9), (7, .int v7_9), (6, .int v6_9), (0, .ref (a_t 0)), (1, .ref (a_x 0)), (2, .int fr), (3, .int to), (4, .int ia), (5, .int wo)] → W p l e (rm 2) s m args below meth c s.heap [] 0 0 Q (F0 m 9 ls []) := by
    intro n_9
    induction n_9 with
    | zero =>
      intro v6_9 v7_9 v8_9 hv_9 hb_9 hv2_9 hq_9 hms_9 ls hl
      exfalso; omega
    | succ n_9 ih_9 =>
      intro v6_9 v7_9 v8_9 hv_9 hb_9 hv2_9 hq_9 hms_9 ls hl
      refine lv_iload hx hb dX7_longestRule_9 (lv_at hl 0 rfl) ?_
      refine lv_aload_n hx hb dX7_longestRule_11 rfl (lv_at hl 3 rfl) ?_
      refine va_get (D := g.1) (ci := 7) (v := .int (I_t 0 0)) (C := RX7) (T := TX7) (N := 8) hx hb hi_X7 (fun _ h => h) hown hK.1 hP 0 rfl rfl 0 (by decide) hf_9 (fun _ h9 => h9) rfl dX7_longestRule_12 ?_
      refine q_icmp_ge (tgt := 85) hx hb dX7_longestRule_15 (by decide) rfl rfl (fun k_15 => ?_) (fun k_15 => ?_)
      · refine lv_iload hx hb dX7_longestRule_85 (lv_at hl 2 rfl) ?_
        exact hret 87 ls v6_9 dX7_longestRule_87 ⟨by omega, by omega, fun hp => uBs.out (hq_9 hp) (by rw [fxTc.len]; omega)⟩
      · refine lv_aload_n hx hb dX7_longestRule_18 rfl (lv_at hl 3 rfl) ?_
        refine va_get (D := g.1) (ci := 7) (v := .ref (a_t 2)) (C := RX7) (T := TX7) (N := 8) hx hb hi_X7 (fun _ h => h) hown hK.1 hP 0 rfl rfl 3 (by decide) hf_22 (fun _ h9 => h9) rfl dX7_longestRule_19 ?_
        refine lv_iload hx hb dX7_longestRule_22 (lv_at hl 0 rfl) ?_
        have n_24 : vp_in v8_9 24 := (t_in (by omega))
        refine va_iald hx hb hK.1 hP 2 0 rfl rfl n_24 dX7_longestRule_24 ?_
        refine q_nm (fun x1 e_x1 => ?_)
        have e_x1 : x1 = (I_t 2) v8_9.toNatClampNeg := e_x1
        have g_x1 : x1.toInt = ((I_t 2) v8_9.toNatClampNeg).toInt := congrArg _ e_x1
        have f_x1 := TI.lc hT v8_9.toNatClampNeg
        rw [← e_x1] at f_x1
        refine lv_iload hx hb dX7_longestRule_25 (lv_at hl 1 rfl) ?_
        refine q_icmp_le (tgt := 44) hx hb dX7_longestRule_27 (by decide) rfl rfl (fun k_27 => ?_) (fun k_27 => ?_)
        · refine lv_iconst (v := 0) hx hb dX7_longestRule_44 (by decide) ?_
          refine lv_istore (lv' := [(9, .int (0 : Int32)), (8, .int v8_9), (7, .int v7_9), (6, .int v6_9), (0, .ref (a_t 0)), (1, .ref (a_x 0)), (2, .int fr), (3, .int to), (4, .int ia), (5, .int wo)]) hx hb dX7_longestRule_45 hl (by decide) rfl (fun ls hl => ?_)
          refine lv_iload hx hb dX7_longestRule_47 (lv_at hl 0 rfl) ?_
          refine q_if_eq (tgt := 79) hx hb dX7_longestRule_49 (by decide) (by decide : (0 : Int32).toInt = 0) (fun b_49 k_49 => ?_) (fun b_49 k_49 => ?_)
          · refine r_iinc (lv' := fun i2 => [(8, .int i2), (9, .int (0 : Int32)), (7, .int v7_9), (6, .int v6_9), (0, .ref (a_t 0)), (1, .ref (a_x 0)), (2, .int fr), (3, .int to), (4, .int ia), (5, .int wo)]) hx hb dX7_longestRule_79 hl (k := 1) rfl (by decide) rfl (by decide) (fun _ => rfl) (fun i2 e_i2 t_i2 ls hl => ?_)
            try have t_i2 := t_i2 (by omega)
            refine lv_goto (tgt := 9) hx hb dX7_longestRule_82 (by decide) ?_
            exact ih_9 v6_9 v7_9 i2 (by omega) (by omega) (by omega) (fun hp => by have l22 : (I_t 2 v8_9.toInt.toNat).toInt = (x1).toInt := congrArg Int32.toInt e_x1.symm; have hy9 := hp.1 v8_9.toInt.toNat (by omega); have uc9 := uTc.lc (I := I_t) (r := v8_9.toInt.toNat) (by omega); first | exact uBs.less (hq_9 hp) (by omega) (by omega) (by omega) | exact uBs.no (hq_9 hp) (fun w => by have w1 := w.1; rw [show nI v8_9.toInt.toNat = v8_9 from (t_nI (x := v8_9) rfl (by omega)).1.symm, q_37] at w1; exact absurd w1 (by decide)) (by omega) | exact uBs.no (hq_9 hp) (fun w => q_63 hp (by omega) w.2) (by omega)) (by omega) ls (lv_sub hl [0, 2, 3, 4, 5, 6, 7, 8, 9] rfl)
          · exfalso
            omega
        · refine lv_iload hx hb dX7_longestRule_30 (lv_at hl 0 rfl) ?_
          refine lv_iload hx hb dX7_longestRule_32 (lv_at hl 8 rfl) ?_
          refine PurI.cs (C := RX7) (As := [.int v8_9, .int wo]) (kX7_isIn l g v8_9 wo) fx (gUS (uT _) u_620 u_621 u_31 u_622) rfl hdX7_isIn ⟨Nat.le_of_ble_eq_true rfl, Nat.le_of_ble_eq_true rfl⟩ hK hP [] rfl rfl rfl hl.1 (Nat.le_of_ble_eq_true rfl) dX7_longestRule_34 (fun r3 p_r3 => ?_)
          refine q_if_eq (tgt := 44) hx hb dX7_longestRule_37 (by decide) rfl (fun b_37 k_37 => ?_) (fun b_37 k_37 => ?_)
          · have q_37 := bP.f p_r3 b_37
            refine lv_iconst (v := 0) hx hb dX7_longestRule_44 (by decide) ?_
            refine lv_istore (lv' := [(9, .int (0 : Int32)), (8, .int v8_9), (7, .int v7_9), (6, .int v6_9), (0, .ref (a_t 0)), (1, .ref (a_x 0)), (2, .int fr), (3, .int to), (4, .int ia), (5, .int wo)]) hx hb dX7_longestRule_45 hl (by decide) rfl (fun ls hl => ?_)
            refine lv_iload hx hb dX7_longestRule_47 (lv_at hl 0 rfl) ?_
            refine q_if_eq (tgt := 79) hx hb dX7_longestRule_49 (by decide) (by decide : (0 : Int32).toInt = 0) (fun b_49 k_49 => ?_) (fun b_49 k_49 => ?_)
            · refine r_iinc (lv' := fun i4 => [(8, .int i4), (9, .int (0 : Int32)), (7, .int v7_9), (6, .int v6_9), (0, .ref (a_t 0)), (1, .ref (a_x 0)), (2, .int fr), (3, .int to), (4, .int ia), (5, .int wo)]) hx hb dX7_longestRule_79 hl (k := 1) rfl (by decide) rfl (by decide) (fun _ => rfl) (fun i4 e_i4 t_i4 ls hl => ?_)
              try have t_i4 := t_i4 (by omega)
              refine lv_goto (tgt := 9) hx hb dX7_longestRule_82 (by decide) ?_
              exact ih_9 v6_9 v7_9 i4 (by omega) (by omega) (by omega) (fun hp => by have l22 : (I_t 2 v8_9.toInt.toNat).toInt = (x1).toInt := congrArg Int32.toInt e_x1.symm; have hy9 := hp.1 v8_9.toInt.toNat (by omega); have uc9 := uTc.lc (I := I_t) (r := v8_9.toInt.toNat) (by omega); first | exact uBs.less (hq_9 hp) (by omega) (by omega) (by omega) | exact uBs.no (hq_9 hp) (fun w => by have w1 := w.1; rw [show nI v8_9.toInt.toNat = v8_9 from (t_nI (x := v8_9) rfl (by omega)).1.symm, q_37] at w1; exact absurd w1 (by decide)) (by omega) | exact uBs.no (hq_9 hp) (fun w => q_63 hp (by omega) w.2) (by omega)) (by omega) ls (lv_sub hl [0, 2, 3, 4, 5, 6, 7, 8, 9] rfl)
            · exfalso
              omega
          · have q_37 := bP.t p_r3 b_37
            refine lv_iconst (v := 1) hx hb dX7_longestRule_40 (by decide) ?_
            refine lv_goto (tgt := 45) hx hb dX7_longestRule_41 (by decide) ?_
            refine lv_istore (lv' := [(9, .int (1 : Int32)), (8, .int v8_9), (7, .int v7_9), (6, .int v6_9), (0, .ref (a_t 0)), (1, .ref (a_x 0)), (2, .int fr), (3, .int to), (4, .int ia), (5, .int wo)]) hx hb dX7_longestRule_45 hl (by decide) rfl (fun ls hl => ?_)
            refine lv_iload hx hb dX7_longestRule_47 (lv_at hl 0 rfl) ?_
            refine q_if_eq (tgt := 79) hx hb dX7_longestRule_49 (by decide) (by decide : (1 : Int32).toInt = 1) (fun b_49 k_49 => ?_) (fun b_49 k_49 => ?_)
            · exfalso
              omega
            · refine lv_aload_n hx hb dX7_longestRule_52 rfl (lv_at hl 4 rfl) ?_
              refine lv_iload hx hb dX7_longestRule_53 (lv_at hl 1 rfl) ?_
              refine lv_aload_n hx hb dX7_longestRule_55 rfl (lv_at hl 5 rfl) ?_
              refine lv_iload_n hx hb dX7_longestRule_56 rfl (lv_at hl 6 rfl) ?_
              refine lv_iload_n hx hb dX7_longestRule_57 rfl (lv_at hl 7 rfl) ?_
              refine lv_iload hx hb dX7_longestRule_58 (lv_at hl 8 rfl) ?_
              refine PurI.cv (As := [.int v8_9, .ref (a_x 0), .int fr, .int to, .int ia]) (kX7_mayStand l g a_t I_t a_x n_x I_x v8_9 fr to ia (by omega) hT h_at) fx (gUV (uT _) u_654 u_655 u_656 u_31 u_657) rfl hdX7_mayStand ⟨Nat.le_of_ble_eq_true rfl, Nat.le_of_ble_eq_true rfl⟩ hK hP [0, 1, 2, 3, 4, 5, 6, 7] rfl rfl rfl rfl rfl hl.1 (Nat.le_of_ble_eq_true rfl) dX7_longestRule_60 (fun r5 p_r5 => ?_)
              refine q_if_eq (tgt := 79) hx hb dX7_longestRule_63 (by decide) rfl (fun b_63 k_63 => ?_) (fun b_63 k_63 => ?_)
              · have q_63 := bP.f p_r5 b_63
                refine r_iinc (lv' := fun i6 => [(8, .int i6), (9, .int (1 : Int32)), (7, .int v7_9), (6, .int v6_9), (0, .ref (a_t 0)), (1, .ref (a_x 0)), (2, .int fr), (3, .int to), (4, .int ia), (5, .int wo)]) hx hb dX7_longestRule_79 hl (k := 1) rfl (by decide) rfl (by decide) (fun _ => rfl) (fun i6 e_i6 t_i6 ls hl => ?_)
                try have t_i6 := t_i6 (by omega)
                refine lv_goto (tgt := 9) hx hb dX7_longestRule_82 (by decide) ?_
                exact ih_9 v6_9 v7_9 i6 (by omega) (by omega) (by omega) (fun hp => by have l22 : (I_t 2 v8_9.toInt.toNat).toInt = (x1).toInt := congrArg Int32.toInt e_x1.symm; have hy9 := hp.1 v8_9.toInt.toNat (by omega); have uc9 := uTc.lc (I := I_t) (r := v8_9.toInt.toNat) (by omega); first | exact uBs.less (hq_9 hp) (by omega) (by omega) (by omega) | exact uBs.no (hq_9 hp) (fun w => by have w1 := w.1; rw [show nI v8_9.toInt.toNat = v8_9 from (t_nI (x := v8_9) rfl (by omega)).1.symm, q_37] at w1; exact absurd w1 (by decide)) (by omega) | exact uBs.no (hq_9 hp) (fun w => q_63 hp (by omega) w.2) (by omega)) (by omega) ls (lv_sub hl [0, 2, 3, 4, 5, 6, 7, 8, 9] rfl)
              · have q_63 := bP.t p_r5 b_63
                refine lv_iload hx hb dX7_longestRule_66 (lv_at hl 1 rfl) ?_
                refine lv_istore (lv' := [(6, .int v8_9), (9, .int (1 : Int32)), (8, .int v8_9), (7, .int v7_9), (0, .ref (a_t 0)), (1, .ref (a_x 0)), (2, .int fr), (3, .int to), (4, .int ia), (5, .int wo)]) hx hb dX7_longestRule_68 hl (by decide) rfl (fun ls hl => ?_)
                refine lv_aload_n hx hb dX7_longestRule_70 rfl (lv_at hl 4 rfl) ?_
                refine va_get (D := g.1) (ci := 7) (v := .ref (a_t 2)) (C := RX7) (T := TX7) (N := 8) hx hb hi_X7 (fun _ h => h) hown hK.1 hP 0 rfl rfl 3 (by decide) hf_22 (fun _ h9 => h9) rfl dX7_longestRule_71 ?_
                refine lv_iload hx hb dX7_longestRule_74 (lv_at hl 2 rfl) ?_
                have n_76 : vp_in v8_9 24 := (t_in (by omega))
                refine va_iald hx hb hK.1 hP 2 0 rfl rfl n_76 dX7_longestRule_76 ?_
                refine q_nm (fun x7 e_x7 => ?_)
                have e_x7 : x7 = (I_t 2) v8_9.toNatClampNeg := e_x7
                have g_x7 : x7.toInt = ((I_t 2) v8_9.toNatClampNeg).toInt := congrArg _ e_x7
                have f_x7 := TI.lc hT v8_9.toNatClampNeg
                rw [← e_x7] at f_x7
                refine lv_istore (lv' := [(7, .int x7), (6, .int v8_9), (9, .int (1 : Int32)), (8, .int v8_9), (0, .ref (a_t 0)), (1, .ref (a_x 0)), (2, .int fr), (3, .int to), (4, .int ia), (5, .int wo)]) hx hb dX7_longestRule_77 hl (by decide) rfl (fun ls hl => ?_)
                refine r_iinc (lv' := fun i8 => [(8, .int i8), (7, .int x7), (6, .int v8_9), (9, .int (1 : Int32)), (0, .ref (a_t 0)), (1, .ref (a_x 0)), (2, .int fr), (3, .int to), (4, .int ia), (5, .int wo)]) hx hb dX7_longestRule_79 hl (k := 3) rfl (by decide) rfl (by decide) (fun _ => rfl) (fun i8 e_i8 t_i8 ls hl => ?_)
                try have t_i8 := t_i8 (by omega)
                refine lv_goto (tgt := 9) hx hb dX7_longestRule_82 (by decide) ?_
                exact ih_9 v8_9 x7 i8 (by omega) (by omega) (by omega) (fun hp => by have l22 : (I_t 2 v8_9.toInt.toNat).toInt = (x1).toInt := congrArg Int32.toInt e_x1.symm; have hy9 := hp.1 v8_9.toInt.toNat (by omega); have uc9 := uTc.lc (I := I_t) (r := v8_9.toInt.toNat) (by omega); first | exact uBs.take (hq_9 hp) ⟨by rw [show nI v8_9.toInt.toNat = v8_9 from (t_nI (x := v8_9) rfl (by omega)).1.symm]; exact q_37, q_63.2 hp (by omega)⟩ (by omega) (by omega) (by have l76 : (I_t 2 v8_9.toInt.toNat).toInt = (x7).toInt := congrArg Int32.toInt e_x7.symm; omega) (by omega) | exact uBs.less (hq_9 hp) (by omega) (by omega) (by omega) | exact uBs.no (hq_9 hp) (fun w => by have w1 := w.1; rw [show nI v8_9.toInt.toNat = v8_9 from (t_nI (x := v8_9) rfl (by omega)).1.symm, q_37] at w1; exact absurd w1 (by decide)) (by omega) | exact uBs.no (hq_9 hp) (fun w => q_63 hp (by omega) w.2) (by omega)) (by omega) ls (lv_sub hl [0, 1, 2, 4, 5, 6, 7, 8, 9] rfl)
  exact L9 ((25 - (0 : Int32).toInt) + 1).toNat (-1 : Int32) (0 : Int32) (0 : Int32) (by omega) (by omega) (by omega) (fun _ => by rw [lm1, lm0]; exact uBs.in) (by omega) ls hl
