set_option maxHeartbeats 4000000 in
set_option maxRecDepth 100000 in
theorem kX11_isSmall (l : Launch) (g : gG) (b : Int32)  : PurI l g yX11_isSmall wsX11_isSmall 0 [.int b] ([]) (fun r => bP (97 ≤ b.toInt ∧ b.toInt ≤ 122) (¬ (97 ≤ b.toInt ∧ b.toInt ≤ 122)) r) := by
  refine PurI.sz (cc := cX11_isSmall) (maxL := 1) (by decide) rfl (Nat.le_of_ble_eq_true rfl) (fun p e s m args below meth c Q ls fx hK hP hl hret => ?_)
  have hx := fx.1
  have hb := fx.2.1
  have hml := fx.2.2.1
  have hown := fx.2.2.2.1
  have hts := fx.2.2.2.2
  have hl : lv_has ls 1 [(0, .int b)] := hl
  have hP : va_P g.1 vwCl ([]) s.heap := hP
  have lm1 : (-1 : Int32).toInt = -1 := by decide
  have lm0 : (0 : Int32).toInt = 0 := by decide
  have lm2 : (1 : Int32).toInt = 1 := by decide
  refine lv_iload_n hx hb dX11_isSmall_0 rfl (lv_at hl 0 rfl) ?_
  refine lv_bipush (v := 97) hx hb dX11_isSmall_1 (by decide) ?_
  refine q_icmp_lt (tgt := 16) hx hb dX11_isSmall_3 (by decide) rfl (by decide : (97 : Int32).toInt = 97) (fun k_3 => ?_) (fun k_3 => ?_)
  · refine lv_iconst (v := 0) hx hb dX11_isSmall_16 (by decide) ?_
    exact hret 17 ls (0 : Int32) dX11_isSmall_17 (Or.inl rfl) (by first | exact Or.inl ⟨rfl, by omega⟩ | exact Or.inr ⟨rfl, by omega⟩)
  · refine lv_iload_n hx hb dX11_isSmall_6 rfl (lv_at hl 0 rfl) ?_
    refine lv_bipush (v := 122) hx hb dX11_isSmall_7 (by decide) ?_
    refine q_icmp_gt (tgt := 16) hx hb dX11_isSmall_9 (by decide) rfl (by decide : (122 : Int32).toInt = 122) (fun k_9 => ?_) (fun k_9 => ?_)
    · refine lv_iconst (v := 0) hx hb dX11_isSmall_16 (by decide) ?_
      exact hret 17 ls (0 : Int32) dX11_isSmall_17 (Or.inl rfl) (by first | exact Or.inl ⟨rfl, by omega⟩ | exact Or.inr ⟨rfl, by omega⟩)
    · refine lv_iconst (v := 1) hx hb dX11_isSmall_12 (by decide) ?_
      refine lv_goto (tgt := 17) hx hb dX11_isSmall_13 (by decide) ?_
      have lr : (1 : Int32).toInt = 1 := by decide
      exact hret 17 ls (1 : Int32) dX11_isSmall_17 (Or.inr rfl) (by first | exact Or.inl ⟨rfl, by omega⟩ | exact Or.inr ⟨rfl, by omega⟩)

set_option maxHeartbeats 4000000 in
set_option maxRecDepth 100000 in
theorem kX11_isDigit (l : Launch) (g : gG) (b : Int32)  : PurI l g yX11_isDigit wsX11_isDigit 0 [.int b] ([]) (fun r => bP (48 ≤ b.toInt ∧ b.toInt ≤ 57) (¬ (48 ≤ b.toInt ∧ b.toInt ≤ 57)) r) := by
  refine PurI.sz (cc := cX11_isDigit) (maxL := 1) (by decide) rfl (Nat.le_of_ble_eq_true rfl) (fun p e s m args below meth c Q ls fx hK hP hl hret => ?_)
  have hx := fx.1
  have hb := fx.2.1
  have hml := fx.2.2.1
  have hown := fx.2.2.2.1
  have hts := fx.2.2.2.2
  have hl : lv_has ls 1 [(0, .int b)] := hl
  have hP : va_P g.1 vwCl ([]) s.heap := hP
  have lm1 : (-1 : Int32).toInt = -1 := by decide
  have lm0 : (0 : Int32).toInt = 0 := by decide
  have lm2 : (1 : Int32).toInt = 1 := by decide
  refine lv_iload_n hx hb dX11_isDigit_0 rfl (lv_at hl 0 rfl) ?_
  refine lv_bipush (v := 48) hx hb dX11_isDigit_1 (by decide) ?_
  refine q_icmp_lt (tgt := 16) hx hb dX11_isDigit_3 (by decide) rfl (by decide : (48 : Int32).toInt = 48) (fun k_3 => ?_) (fun k_3 => ?_)
  · refine lv_iconst (v := 0) hx hb dX11_isDigit_16 (by decide) ?_
    exact hret 17 ls (0 : Int32) dX11_isDigit_17 (Or.inl rfl) (by first | exact Or.inl ⟨rfl, by omega⟩ | exact Or.inr ⟨rfl, by omega⟩)
  · refine lv_iload_n hx hb dX11_isDigit_6 rfl (lv_at hl 0 rfl) ?_
    refine lv_bipush (v := 57) hx hb dX11_isDigit_7 (by decide) ?_
    refine q_icmp_gt (tgt := 16) hx hb dX11_isDigit_9 (by decide) rfl (by decide : (57 : Int32).toInt = 57) (fun k_9 => ?_) (fun k_9 => ?_)
    · refine lv_iconst (v := 0) hx hb dX11_isDigit_16 (by decide) ?_
      exact hret 17 ls (0 : Int32) dX11_isDigit_17 (Or.inl rfl) (by first | exact Or.inl ⟨rfl, by omega⟩ | exact Or.inr ⟨rfl, by omega⟩)
    · refine lv_iconst (v := 1) hx hb dX11_isDigit_12 (by decide) ?_
      refine lv_goto (tgt := 17) hx hb dX11_isDigit_13 (by decide) ?_
      have lr : (1 : Int32).toInt = 1 := by decide
      exact hret 17 ls (1 : Int32) dX11_isDigit_17 (Or.inr rfl) (by first | exact Or.inl ⟨rfl, by omega⟩ | exact Or.inr ⟨rfl, by omega⟩)

set_option maxHeartbeats 4000000 in
set_option maxRecDepth 100000 in
theorem kX11_isBlank (l : Launch) (g : gG) (b : Int32)  : PurI l g yX11_isBlank wsX11_isBlank 0 [.int b] ([]) (fun r => bP (b.toInt = 10 ∨ b.toInt = 32) (¬ (b.toInt = 10 ∨ b.toInt = 32)) r) := by
  refine PurI.sz (cc := cX11_isBlank) (maxL := 1) (by decide) rfl (Nat.le_of_ble_eq_true rfl) (fun p e s m args below meth c Q ls fx hK hP hl hret => ?_)
  have hx := fx.1
  have hb := fx.2.1
  have hml := fx.2.2.1
  have hown := fx.2.2.2.1
  have hts := fx.2.2.2.2
  have hl : lv_has ls 1 [(0, .int b)] := hl
  have hP : va_P g.1 vwCl ([]) s.heap := hP
  have lm1 : (-1 : Int32).toInt = -1 := by decide
  have lm0 : (0 : Int32).toInt = 0 := by decide
  have lm2 : (1 : Int32).toInt = 1 := by decide
  refine lv_iload_n hx hb dX11_isBlank_0 rfl (lv_at hl 0 rfl) ?_
  refine lv_bipush (v := 10) hx hb dX11_isBlank_1 (by decide) ?_
  refine q_icmp_eq (tgt := 12) hx hb dX11_isBlank_3 (by decide) rfl (by decide : (10 : Int32).toInt = 10) (fun k_3 => ?_) (fun k_3 => ?_)
  · refine lv_iconst (v := 1) hx hb dX11_isBlank_12 (by decide) ?_
    refine lv_goto (tgt := 17) hx hb dX11_isBlank_13 (by decide) ?_
    have lr : (1 : Int32).toInt = 1 := by decide
    exact hret 17 ls (1 : Int32) dX11_isBlank_17 (Or.inr rfl) (by first | exact Or.inl ⟨rfl, by omega⟩ | exact Or.inr ⟨rfl, by omega⟩)
  · refine lv_iload_n hx hb dX11_isBlank_6 rfl (lv_at hl 0 rfl) ?_
    refine lv_bipush (v := 32) hx hb dX11_isBlank_7 (by decide) ?_
    refine q_icmp_ne (tgt := 16) hx hb dX11_isBlank_9 (by decide) rfl (by decide : (32 : Int32).toInt = 32) (fun k_9 => ?_) (fun k_9 => ?_)
    · refine lv_iconst (v := 0) hx hb dX11_isBlank_16 (by decide) ?_
      exact hret 17 ls (0 : Int32) dX11_isBlank_17 (Or.inl rfl) (by first | exact Or.inl ⟨rfl, by omega⟩ | exact Or.inr ⟨rfl, by omega⟩)
    · refine lv_iconst (v := 1) hx hb dX11_isBlank_12 (by decide) ?_
      refine lv_goto (tgt := 17) hx hb dX11_isBlank_13 (by decide) ?_
      have lr : (1 : Int32).toInt = 1 := by decide
      exact hret 17 ls (1 : Int32) dX11_isBlank_17 (Or.inr rfl) (by first | exact Or.inl ⟨rfl, by omega⟩ | exact Or.inr ⟨rfl, by omega⟩)

set_option maxHeartbeats 4000000 in
set_option maxRecDepth 100000 in
theorem kX11_isGreat (l : Launch) (g : gG) (b : Int32)  : PurI l g yX11_isGreat wsX11_isGreat 0 [.int b] ([]) (fun r => bP (65 ≤ b.toInt ∧ b.toInt ≤ 90) (¬ (65 ≤ b.toInt ∧ b.toInt ≤ 90)) r) := by
  refine PurI.sz (cc := cX11_isGreat) (maxL := 1) (by decide) rfl (Nat.le_of_ble_eq_true rfl) (fun p e s m args below meth c Q ls fx hK hP hl hret => ?_)
  have hx := fx.1
  have hb := fx.2.1
  have hml := fx.2.2.1
  have hown := fx.2.2.2.1
  have hts := fx.2.2.2.2
  have hl : lv_has ls 1 [(0, .int b)] := hl
  have hP : va_P g.1 vwCl ([]) s.heap := hP
  have lm1 : (-1 : Int32).toInt = -1 := by decide
  have lm0 : (0 : Int32).toInt = 0 := by decide
  have lm2 : (1 : Int32).toInt = 1 := by decide
  refine lv_iload_n hx hb dX11_isGreat_0 rfl (lv_at hl 0 rfl) ?_
  refine lv_bipush (v := 65) hx hb dX11_isGreat_1 (by decide) ?_
  refine q_icmp_lt (tgt := 16) hx hb dX11_isGreat_3 (by decide) rfl (by decide : (65 : Int32).toInt = 65) (fun k_3 => ?_) (fun k_3 => ?_)
  · refine lv_iconst (v := 0) hx hb dX11_isGreat_16 (by decide) ?_
    exact hret 17 ls (0 : Int32) dX11_isGreat_17 (Or.inl rfl) (by first | exact Or.inl ⟨rfl, by omega⟩ | exact Or.inr ⟨rfl, by omega⟩)
  · refine lv_iload_n hx hb dX11_isGreat_6 rfl (lv_at hl 0 rfl) ?_
    refine lv_bipush (v := 90) hx hb dX11_isGreat_7 (by decide) ?_
    refine q_icmp_gt (tgt := 16) hx hb dX11_isGreat_9 (by decide) rfl (by decide : (90 : Int32).toInt = 90) (fun k_9 => ?_) (fun k_9 => ?_)
    · refine lv_iconst (v := 0) hx hb dX11_isGreat_16 (by decide) ?_
      exact hret 17 ls (0 : Int32) dX11_isGreat_17 (Or.inl rfl) (by first | exact Or.inl ⟨rfl, by omega⟩ | exact Or.inr ⟨rfl, by omega⟩)
    · refine lv_iconst (v := 1) hx hb dX11_isGreat_12 (by decide) ?_
      refine lv_goto (tgt := 17) hx hb dX11_isGreat_13 (by decide) ?_
      have lr : (1 : Int32).toInt = 1 := by decide
      exact hret 17 ls (1 : Int32) dX11_isGreat_17 (Or.inr rfl) (by first | exact Or.inl ⟨rfl, by omega⟩ | exact Or.inr ⟨rfl, by omega⟩)

set_option maxHeartbeats 4000000 in
set_option maxRecDepth 100000 in
theorem kX11_isDigit0 (l : Launch) (g : gG) (b : Int32)  : PurI l g yX11_isDigit0 wsX11_isDigit0 0 [.int b] ([]) (fun r => bP (48 ≤ b.toInt ∧ b.toInt ≤ 57) (¬ (48 ≤ b.toInt ∧ b.toInt ≤ 57)) r) := by
  refine PurI.sz (cc := cX11_isDigit0) (maxL := 1) (by decide) rfl (Nat.le_of_ble_eq_true rfl) (fun p e s m args below meth c Q ls fx hK hP hl hret => ?_)
  have hx := fx.1
  have hb := fx.2.1
  have hml := fx.2.2.1
  have hown := fx.2.2.2.1
  have hts := fx.2.2.2.2
  have hl : lv_has ls 1 [(0, .int b)] := hl
  have hP : va_P g.1 vwCl ([]) s.heap := hP
  have lm1 : (-1 : Int32).toInt = -1 := by decide
  have lm0 : (0 : Int32).toInt = 0 := by decide
  have lm2 : (1 : Int32).toInt = 1 := by decide
  refine lv_iload_n hx hb dX11_isDigit0_0 rfl (lv_at hl 0 rfl) ?_
  refine lv_bipush (v := 48) hx hb dX11_isDigit0_1 (by decide) ?_
  refine q_icmp_lt (tgt := 16) hx hb dX11_isDigit0_3 (by decide) rfl (by decide : (48 : Int32).toInt = 48) (fun k_3 => ?_) (fun k_3 => ?_)
  · refine lv_iconst (v := 0) hx hb dX11_isDigit0_16 (by decide) ?_
    exact hret 17 ls (0 : Int32) dX11_isDigit0_17 (Or.inl rfl) (by first | exact Or.inl ⟨rfl, by omega⟩ | exact Or.inr ⟨rfl, by omega⟩)
  · refine lv_iload_n hx hb dX11_isDigit0_6 rfl (lv_at hl 0 rfl) ?_
    refine lv_bipush (v := 57) hx hb dX11_isDigit0_7 (by decide) ?_
    refine q_icmp_gt (tgt := 16) hx hb dX11_isDigit0_9 (by decide) rfl (by decide : (57 : Int32).toInt = 57) (fun k_9 => ?_) (fun k_9 => ?_)
    · refine lv_iconst (v := 0) hx hb dX11_isDigit0_16 (by decide) ?_
      exact hret 17 ls (0 : Int32) dX11_isDigit0_17 (Or.inl rfl) (by first | exact Or.inl ⟨rfl, by omega⟩ | exact Or.inr ⟨rfl, by omega⟩)
    · refine lv_iconst (v := 1) hx hb dX11_isDigit0_12 (by decide) ?_
      refine lv_goto (tgt := 17) hx hb dX11_isDigit0_13 (by decide) ?_
      have lr : (1 : Int32).toInt = 1 := by decide
      exact hret 17 ls (1 : Int32) dX11_isDigit0_17 (Or.inr rfl) (by first | exact Or.inl ⟨rfl, by omega⟩ | exact Or.inr ⟨rfl, by omega⟩)

set_option maxHeartbeats 4000000 in
set_option maxRecDepth 100000 in
theorem kX11_isLetter (l : Launch) (g : gG) (b : Int32)  : PurI l g yX11_isLetter wsX11_isLetter 1 [.int b] ([]) (fun r => bP ((97 ≤ b.toInt ∧ b.toInt ≤ 122) ∨ (65 ≤ b.toInt ∧ b.toInt ≤ 90)) (¬ ((97 ≤ b.toInt ∧ b.toInt ≤ 122) ∨ (65 ≤ b.toInt ∧ b.toInt ≤ 90))) r) := by
  refine PurI.sz (cc := cX11_isLetter) (maxL := 1) (by decide) rfl (Nat.le_of_ble_eq_true rfl) (fun p e s m args below meth c Q ls fx hK hP hl hret => ?_)
  have hx := fx.1
  have hb := fx.2.1
  have hml := fx.2.2.1
  have hown := fx.2.2.2.1
  have hts := fx.2.2.2.2
  have hl : lv_has ls 1 [(0, .int b)] := hl
  have hP : va_P g.1 vwCl ([]) s.heap := hP
  have lm1 : (-1 : Int32).toInt = -1 := by decide
  have lm0 : (0 : Int32).toInt = 0 := by decide
  have lm2 : (1 : Int32).toInt = 1 := by decide
  refine lv_iload_n hx hb dX11_isLetter_0 rfl (lv_at hl 0 rfl) ?_
  refine PurI.cs (C := RX11) (As := [.int b]) (kX11_isGreat l g b) fx (gUS (uT _) u_714 u_715 u_5 u_716) rfl hdX11_isGreat ⟨Nat.le_of_ble_eq_true rfl, Nat.le_of_ble_eq_true rfl⟩ hK hP [] rfl rfl rfl hl.1 (Nat.le_of_ble_eq_true rfl) dX11_isLetter_1 (fun r1 p_r1 => ?_)
  refine q_if_ne (tgt := 19) hx hb dX11_isLetter_4 (by decide) rfl (fun b_4 k_4 => ?_) (fun b_4 k_4 => ?_)
  · have q_4 := bP.t p_r1 b_4
    refine lv_iconst (v := 1) hx hb dX11_isLetter_19 (by decide) ?_
    refine lv_goto (tgt := 24) hx hb dX11_isLetter_20 (by decide) ?_
    have lr : (1 : Int32).toInt = 1 := by decide
    exact hret 24 ls (1 : Int32) dX11_isLetter_24 (Or.inr rfl) (by first | exact Or.inl ⟨rfl, by omega⟩ | exact Or.inr ⟨rfl, by omega⟩)
  · have q_4 := bP.f p_r1 b_4
    refine lv_iload_n hx hb dX11_isLetter_7 rfl (lv_at hl 0 rfl) ?_
    refine lv_bipush (v := 97) hx hb dX11_isLetter_8 (by decide) ?_
    refine q_icmp_lt (tgt := 23) hx hb dX11_isLetter_10 (by decide) rfl (by decide : (97 : Int32).toInt = 97) (fun k_10 => ?_) (fun k_10 => ?_)
    · refine lv_iconst (v := 0) hx hb dX11_isLetter_23 (by decide) ?_
      exact hret 24 ls (0 : Int32) dX11_isLetter_24 (Or.inl rfl) (by first | exact Or.inl ⟨rfl, by omega⟩ | exact Or.inr ⟨rfl, by omega⟩)
    · refine lv_iload_n hx hb dX11_isLetter_13 rfl (lv_at hl 0 rfl) ?_
      refine lv_bipush (v := 122) hx hb dX11_isLetter_14 (by decide) ?_
      refine q_icmp_gt (tgt := 23) hx hb dX11_isLetter_16 (by decide) rfl (by decide : (122 : Int32).toInt = 122) (fun k_16 => ?_) (fun k_16 => ?_)
      · refine lv_iconst (v := 0) hx hb dX11_isLetter_23 (by decide) ?_
        exact hret 24 ls (0 : Int32) dX11_isLetter_24 (Or.inl rfl) (by first | exact Or.inl ⟨rfl, by omega⟩ | exact Or.inr ⟨rfl, by omega⟩)
      · refine lv_iconst (v := 1) hx hb dX11_isLetter_19 (by decide) ?_
        refine lv_goto (tgt := 24) hx hb dX11_isLetter_20 (by decide) ?_
        have lr : (1 : Int32).toInt = 1 := by decide
        exact hret 24 ls (1 : Int32) dX11_isLetter_24 (Or.inr rfl) (by first | exact Or.inl ⟨rfl, by omega⟩ | exact Or.inr ⟨rfl, by omega⟩)

set_option maxHeartbeats 4000000 in
set_option maxRecDepth 100000 in
theorem kX11_isTray (l : Launch) (g : gG) (tray : Int32)  : PurI l g yX11_isTray wsX11_isTray 0 [.int tray] ([]) (fun r => bP ((0 ≤ tray.toInt ∧ tray.toInt < 4)) (¬ (0 ≤ tray.toInt ∧ tray.toInt < 4)) r) := by
  refine PurI.sz (cc := cX11_isTray) (maxL := 1) (by decide) rfl (Nat.le_of_ble_eq_true rfl) (fun p e s m args below meth c Q ls fx hK hP hl hret => ?_)
  have hx := fx.1
  have hb := fx.2.1
  have hml := fx.2.2.1
  have hown := fx.2.2.2.1
  have hts := fx.2.2.2.2
  have hl : lv_has ls 1 [(0, .int tray)] := hl
  have hP : va_P g.1 vwCl ([]) s.heap := hP
  have lm1 : (-1 : Int32).toInt = -1 := by decide
  have lm0 : (0 : Int32).toInt = 0 := by decide
  have lm2 : (1 : Int32).toInt = 1 := by decide
  have lq4 : (4 : Int32).toInt = 4 := by decide
  refine lv_iload_n hx hb dX11_isTray_0 rfl (lv_at hl 0 rfl) ?_
  refine q_if_lt (tgt := 13) hx hb dX11_isTray_1 (by decide) rfl (fun k_1 => ?_) (fun k_1 => ?_)
  · refine lv_iconst (v := 0) hx hb dX11_isTray_13 (by decide) ?_
    exact hret 14 ls (0 : Int32) dX11_isTray_14 (Or.inl rfl) (by first | exact Or.inl ⟨rfl, by omega⟩ | exact Or.inr ⟨rfl, by omega⟩)
  · refine lv_iload_n hx hb dX11_isTray_4 rfl (lv_at hl 0 rfl) ?_
    refine lv_iconst (v := 4) hx hb dX11_isTray_5 (by decide) ?_
    refine q_icmp_ge (tgt := 13) hx hb dX11_isTray_6 (by decide) rfl (by decide : (4 : Int32).toInt = 4) (fun k_6 => ?_) (fun k_6 => ?_)
    · refine lv_iconst (v := 0) hx hb dX11_isTray_13 (by decide) ?_
      exact hret 14 ls (0 : Int32) dX11_isTray_14 (Or.inl rfl) (by first | exact Or.inl ⟨rfl, by omega⟩ | exact Or.inr ⟨rfl, by omega⟩)
    · refine lv_iconst (v := 1) hx hb dX11_isTray_9 (by decide) ?_
      refine lv_goto (tgt := 14) hx hb dX11_isTray_10 (by decide) ?_
      have lr : (1 : Int32).toInt = 1 := by decide
      exact hret 14 ls (1 : Int32) dX11_isTray_14 (Or.inr rfl) (by first | exact Or.inl ⟨rfl, by omega⟩ | exact Or.inr ⟨rfl, by omega⟩)

set_option maxHeartbeats 4000000 in
set_option maxRecDepth 100000 in
theorem kX11_letterOf (l : Launch) (g : gG) (b : Int32)  : PurI l g yX11_letterOf wsX11_letterOf 1 [.int b] ([]) (fun r => uLt b.toInt → r.toInt = uLo b.toInt) := by
  refine PurI.st (cc := cX11_letterOf) (maxL := 1) (by decide) rfl (Nat.le_of_ble_eq_true rfl) (fun p e s m args below meth c Q ls fx hK hP hl hret => ?_)
  have hx := fx.1
  have hb := fx.2.1
  have hml := fx.2.2.1
  have hown := fx.2.2.2.1
  have hts := fx.2.2.2.2
  have hl : lv_has ls 1 [(0, .int b)] := hl
  have hP : va_P g.1 vwCl ([]) s.heap := hP
  have lm1 : (-1 : Int32).toInt = -1 := by decide
  have lm0 : (0 : Int32).toInt = 0 := by decide
  have lm2 : (1 : Int32).toInt = 1 := by decide
  refine lv_iload_n hx hb dX11_letterOf_0 rfl (lv_at hl 0 rfl) ?_
  refine PurI.cs (C := RX11) (As := [.int b]) (kX11_isGreat l g b) fx (gUS (uT _) u_714 u_715 u_5 u_716) rfl hdX11_isGreat ⟨Nat.le_of_ble_eq_true rfl, Nat.le_of_ble_eq_true rfl⟩ hK hP [] rfl rfl rfl hl.1 (Nat.le_of_ble_eq_true rfl) dX11_letterOf_1 (fun r1 p_r1 => ?_)
  refine q_if_eq (tgt := 16) hx hb dX11_letterOf_4 (by decide) rfl (fun b_4 k_4 => ?_) (fun b_4 k_4 => ?_)
  · have q_4 := bP.f p_r1 b_4
    refine lv_iload_n hx hb dX11_letterOf_16 rfl (lv_at hl 0 rfl) ?_
    refine lv_bipush (v := 97) hx hb dX11_letterOf_17 (by decide) ?_
    refine lv_isub hx hb dX11_letterOf_19 ?_
    refine q_nm (fun x2 e_x2 => ?_)
    refine lv_iconst (v := 1) hx hb dX11_letterOf_20 (by decide) ?_
    refine r_iadd hx hb dX11_letterOf_21 rfl (by decide : (1 : Int32).toInt = 1) (fun x3 e_x3 t_x3 => ?_)
    try have t_x3 := t_x3 (by omega)
    exact hret 22 ls x3 dX11_letterOf_22 (fun q => by unfold uLo; (have w := t_sub e_x2 rfl (show (97 : Int32).toInt = 97 from by decide) (by omega); have w2 := t_add e_x3 rfl lm2 (by omega); rw [if_neg (by omega)]; omega))
  · have q_4 := bP.t p_r1 b_4
    refine lv_iload_n hx hb dX11_letterOf_7 rfl (lv_at hl 0 rfl) ?_
    refine lv_bipush (v := 65) hx hb dX11_letterOf_8 (by decide) ?_
    refine lv_isub hx hb dX11_letterOf_10 ?_
    refine q_nm (fun x4 e_x4 => ?_)
    refine lv_iconst (v := 1) hx hb dX11_letterOf_11 (by decide) ?_
    refine r_iadd hx hb dX11_letterOf_12 rfl (by decide : (1 : Int32).toInt = 1) (fun x5 e_x5 t_x5 => ?_)
    try have t_x5 := t_x5 (by omega)
    refine lv_goto (tgt := 22) hx hb dX11_letterOf_13 (by decide) ?_
    exact hret 22 ls x5 dX11_letterOf_22 (fun q => by unfold uLo; (have w := t_sub e_x4 rfl (show (65 : Int32).toInt = 65 from by decide) (by omega); have w2 := t_add e_x5 rfl lm2 (by omega); rw [if_pos (by omega)]; omega))

set_option maxHeartbeats 4000000 in
set_option maxRecDepth 100000 in
theorem kX11_figureLetter (l : Launch) (g : gG) (b : Int32)  : PurI l g yX11_figureLetter wsX11_figureLetter 0 [.int b] ([]) (fun r => (48 ≤ b.toInt ∧ b.toInt ≤ 57) → r.toInt = uFg b.toInt) := by
  refine PurI.st (cc := cX11_figureLetter) (maxL := 1) (by decide) rfl (Nat.le_of_ble_eq_true rfl) (fun p e s m args below meth c Q ls fx hK hP hl hret => ?_)
  have hx := fx.1
  have hb := fx.2.1
  have hml := fx.2.2.1
  have hown := fx.2.2.2.1
  have hts := fx.2.2.2.2
  have hl : lv_has ls 1 [(0, .int b)] := hl
  have hP : va_P g.1 vwCl ([]) s.heap := hP
  have lm1 : (-1 : Int32).toInt = -1 := by decide
  have lm0 : (0 : Int32).toInt = 0 := by decide
  have lm2 : (1 : Int32).toInt = 1 := by decide
  refine lv_iload_n hx hb dX11_figureLetter_0 rfl (lv_at hl 0 rfl) ?_
  refine lv_bipush (v := 48) hx hb dX11_figureLetter_1 (by decide) ?_
  refine q_icmp_ne (tgt := 11) hx hb dX11_figureLetter_3 (by decide) rfl (by decide : (48 : Int32).toInt = 48) (fun k_3 => ?_) (fun k_3 => ?_)
  · refine lv_iload_n hx hb dX11_figureLetter_11 rfl (lv_at hl 0 rfl) ?_
    refine lv_bipush (v := 48) hx hb dX11_figureLetter_12 (by decide) ?_
    refine r_isub hx hb dX11_figureLetter_14 rfl (by decide : (48 : Int32).toInt = 48) (fun x1 e_x1 t_x1 => ?_)
    try have t_x1 := t_x1 (by omega)
    exact hret 15 ls x1 dX11_figureLetter_15 (fun q => by unfold uFg; first | (rw [if_pos (by omega)]; decide) | (have w := t_x1 (by omega); rw [if_neg (by omega)]; omega) | (rw [if_neg (by omega)]; omega))
  · refine lv_bipush (v := 10) hx hb dX11_figureLetter_6 (by decide) ?_
    refine lv_goto (tgt := 15) hx hb dX11_figureLetter_8 (by decide) ?_
    have lr : (10 : Int32).toInt = 10 := by decide
    exact hret 15 ls (10 : Int32) dX11_figureLetter_15 (fun q => by unfold uFg; first | (rw [if_pos (by omega)]; decide) | (rw [if_neg (by omega)]; omega))

set_option maxHeartbeats 4000000 in
set_option maxRecDepth 100000 in
theorem kX11_mirrorOf (l : Launch) (g : gG) (cl : Int32)  : PurI l g yX11_mirrorOf wsX11_mirrorOf 0 [.int cl] ([]) (fun r => r = mirO cl) := by
  refine PurI.st (cc := cX11_mirrorOf) (maxL := 1) (by decide) rfl (Nat.le_of_ble_eq_true rfl) (fun p e s m args below meth c Q ls fx hK hP hl hret => ?_)
  have hx := fx.1
  have hb := fx.2.1
  have hml := fx.2.2.1
  have hown := fx.2.2.2.1
  have hts := fx.2.2.2.2
  have hl : lv_has ls 1 [(0, .int cl)] := hl
  have hP : va_P g.1 vwCl ([]) s.heap := hP
  have lm1 : (-1 : Int32).toInt = -1 := by decide
  have lm0 : (0 : Int32).toInt = 0 := by decide
  have lm2 : (1 : Int32).toInt = 1 := by decide
  refine lv_iload_n hx hb dX11_mirrorOf_0 rfl (lv_at hl 0 rfl) ?_
  refine lv_iconst (v := 3) hx hb dX11_mirrorOf_1 (by decide) ?_
  refine lv_ishr hx hb dX11_mirrorOf_2 ?_
  refine q_nm (fun x1 e_x1 => ?_)
  refine lv_iload_n hx hb dX11_mirrorOf_3 rfl (lv_at hl 0 rfl) ?_
  refine lv_bipush (v := 7) hx hb dX11_mirrorOf_4 (by decide) ?_
  refine lv_iand hx hb dX11_mirrorOf_6 ?_
  refine q_nm (fun x2 e_x2 => ?_)
  refine lv_iconst (v := 3) hx hb dX11_mirrorOf_7 (by decide) ?_
  refine lv_ishl hx hb dX11_mirrorOf_8 ?_
  refine q_nm (fun x3 e_x3 => ?_)
  refine lv_ior hx hb dX11_mirrorOf_9 ?_
  refine q_nm (fun x4 e_x4 => ?_)
  exact hret 10 ls x4 dX11_mirrorOf_10 (by refine Eq.trans ?_ (mirO.m cl); first | (subst_vars; rfl) | rfl)

set_option maxHeartbeats 4000000 in
set_option maxRecDepth 100000 in
theorem kX11_holds (l : Launch) (g : gG) (cond : Int32) (bg : Int32) (en : Int32)  : PurI l g yX11_holds wsX11_holds 0 [.int cond, .int bg, .int en] ([]) (fun r => bP (hoP cond.toInt bg.toInt en.toInt) (¬ hoP cond.toInt bg.toInt en.toInt) r) := by
  refine PurI.sz (cc := cX11_holds) (maxL := 3) (by decide) rfl (Nat.le_of_ble_eq_true rfl) (fun p e s m args below meth c Q ls fx hK hP hl hret => ?_)
  have hx := fx.1
  have hb := fx.2.1
  have hml := fx.2.2.1
  have hown := fx.2.2.2.1
  have hts := fx.2.2.2.2
  have hl : lv_has ls 3 [(0, .int cond), (1, .int bg), (2, .int en)] := hl
  have hP : va_P g.1 vwCl ([]) s.heap := hP
  have lm1 : (-1 : Int32).toInt = -1 := by decide
  have lm0 : (0 : Int32).toInt = 0 := by decide
  have lm2 : (1 : Int32).toInt = 1 := by decide
  have lq2 : (2 : Int32).toInt = 2 := by decide
  have lq3 : (3 : Int32).toInt = 3 := by decide
  have lq4 : (4 : Int32).toInt = 4 := by decide
  refine lv_iload_n hx hb dX11_holds_0 rfl (lv_at hl 0 rfl) ?_
  refine q_if_eq (tgt := 37) hx hb dX11_holds_1 (by decide) rfl (fun b_1 k_1 => ?_) (fun b_1 k_1 => ?_)
  · refine lv_iconst (v := 1) hx hb dX11_holds_37 (by decide) ?_
    refine lv_goto (tgt := 42) hx hb dX11_holds_38 (by decide) ?_
    have lr : (1 : Int32).toInt = 1 := by decide
    exact hret 42 ls (1 : Int32) dX11_holds_42 (Or.inr rfl) (by unfold hoP; first | exact Or.inl ⟨rfl, by omega⟩ | exact Or.inr ⟨rfl, by omega⟩)
  · refine lv_iload_n hx hb dX11_holds_4 rfl (lv_at hl 0 rfl) ?_
    refine lv_iload_n hx hb dX11_holds_5 rfl (lv_at hl 1 rfl) ?_
    refine q_if_eq (tgt := 17) hx hb dX11_holds_6 (by decide) rfl (fun b_6 k_6 => ?_) (fun b_6 k_6 => ?_)
    · refine lv_iload_n hx hb dX11_holds_17 rfl (lv_at hl 1 rfl) ?_
      refine q_if_eq (tgt := 25) hx hb dX11_holds_18 (by decide) rfl (fun b_18 k_18 => ?_) (fun b_18 k_18 => ?_)
      · refine lv_iload_n hx hb dX11_holds_25 rfl (lv_at hl 2 rfl) ?_
        refine q_if_eq (tgt := 33) hx hb dX11_holds_26 (by decide) rfl (fun b_26 k_26 => ?_) (fun b_26 k_26 => ?_)
        · refine lv_iconst (v := 2) hx hb dX11_holds_33 (by decide) ?_
          refine q_icmp_ne (tgt := 41) hx hb dX11_holds_34 (by decide) rfl (by decide : (2 : Int32).toInt = 2) (fun k_34 => ?_) (fun k_34 => ?_)
          · refine lv_iconst (v := 0) hx hb dX11_holds_41 (by decide) ?_
            exact hret 42 ls (0 : Int32) dX11_holds_42 (Or.inl rfl) (by unfold hoP; first | exact Or.inl ⟨rfl, by omega⟩ | exact Or.inr ⟨rfl, by omega⟩)
          · refine lv_iconst (v := 1) hx hb dX11_holds_37 (by decide) ?_
            refine lv_goto (tgt := 42) hx hb dX11_holds_38 (by decide) ?_
            have lr : (1 : Int32).toInt = 1 := by decide
            exact hret 42 ls (1 : Int32) dX11_holds_42 (Or.inr rfl) (by unfold hoP; first | exact Or.inl ⟨rfl, by omega⟩ | exact Or.inr ⟨rfl, by omega⟩)
        · refine lv_iconst (v := 3) hx hb dX11_holds_29 (by decide) ?_
          refine lv_goto (tgt := 34) hx hb dX11_holds_30 (by decide) ?_
          refine q_icmp_ne (tgt := 41) hx hb dX11_holds_34 (by decide) rfl (by decide : (3 : Int32).toInt = 3) (fun k_34 => ?_) (fun k_34 => ?_)
          · refine lv_iconst (v := 0) hx hb dX11_holds_41 (by decide) ?_
            exact hret 42 ls (0 : Int32) dX11_holds_42 (Or.inl rfl) (by unfold hoP; first | exact Or.inl ⟨rfl, by omega⟩ | exact Or.inr ⟨rfl, by omega⟩)
          · refine lv_iconst (v := 1) hx hb dX11_holds_37 (by decide) ?_
            refine lv_goto (tgt := 42) hx hb dX11_holds_38 (by decide) ?_
            have lr : (1 : Int32).toInt = 1 := by decide
            exact hret 42 ls (1 : Int32) dX11_holds_42 (Or.inr rfl) (by unfold hoP; first | exact Or.inl ⟨rfl, by omega⟩ | exact Or.inr ⟨rfl, by omega⟩)
      · refine lv_iconst (v := 1) hx hb dX11_holds_21 (by decide) ?_
        refine lv_goto (tgt := 34) hx hb dX11_holds_22 (by decide) ?_
        refine q_icmp_ne (tgt := 41) hx hb dX11_holds_34 (by decide) rfl (by decide : (1 : Int32).toInt = 1) (fun k_34 => ?_) (fun k_34 => ?_)
        · refine lv_iconst (v := 0) hx hb dX11_holds_41 (by decide) ?_
          exact hret 42 ls (0 : Int32) dX11_holds_42 (Or.inl rfl) (by unfold hoP; first | exact Or.inl ⟨rfl, by omega⟩ | exact Or.inr ⟨rfl, by omega⟩)
        · refine lv_iconst (v := 1) hx hb dX11_holds_37 (by decide) ?_
          refine lv_goto (tgt := 42) hx hb dX11_holds_38 (by decide) ?_
          have lr : (1 : Int32).toInt = 1 := by decide
          exact hret 42 ls (1 : Int32) dX11_holds_42 (Or.inr rfl) (by unfold hoP; first | exact Or.inl ⟨rfl, by omega⟩ | exact Or.inr ⟨rfl, by omega⟩)
    · refine lv_iload_n hx hb dX11_holds_9 rfl (lv_at hl 2 rfl) ?_
      refine q_if_eq (tgt := 17) hx hb dX11_holds_10 (by decide) rfl (fun b_10 k_10 => ?_) (fun b_10 k_10 => ?_)
      · refine lv_iload_n hx hb dX11_holds_17 rfl (lv_at hl 1 rfl) ?_
        refine q_if_eq (tgt := 25) hx hb dX11_holds_18 (by decide) rfl (fun b_18 k_18 => ?_) (fun b_18 k_18 => ?_)
        · refine lv_iload_n hx hb dX11_holds_25 rfl (lv_at hl 2 rfl) ?_
          refine q_if_eq (tgt := 33) hx hb dX11_holds_26 (by decide) rfl (fun b_26 k_26 => ?_) (fun b_26 k_26 => ?_)
          · refine lv_iconst (v := 2) hx hb dX11_holds_33 (by decide) ?_
            refine q_icmp_ne (tgt := 41) hx hb dX11_holds_34 (by decide) rfl (by decide : (2 : Int32).toInt = 2) (fun k_34 => ?_) (fun k_34 => ?_)
            · refine lv_iconst (v := 0) hx hb dX11_holds_41 (by decide) ?_
              exact hret 42 ls (0 : Int32) dX11_holds_42 (Or.inl rfl) (by unfold hoP; first | exact Or.inl ⟨rfl, by omega⟩ | exact Or.inr ⟨rfl, by omega⟩)
            · refine lv_iconst (v := 1) hx hb dX11_holds_37 (by decide) ?_
              refine lv_goto (tgt := 42) hx hb dX11_holds_38 (by decide) ?_
              have lr : (1 : Int32).toInt = 1 := by decide
              exact hret 42 ls (1 : Int32) dX11_holds_42 (Or.inr rfl) (by unfold hoP; first | exact Or.inl ⟨rfl, by omega⟩ | exact Or.inr ⟨rfl, by omega⟩)
          · refine lv_iconst (v := 3) hx hb dX11_holds_29 (by decide) ?_
            refine lv_goto (tgt := 34) hx hb dX11_holds_30 (by decide) ?_
            refine q_icmp_ne (tgt := 41) hx hb dX11_holds_34 (by decide) rfl (by decide : (3 : Int32).toInt = 3) (fun k_34 => ?_) (fun k_34 => ?_)
            · refine lv_iconst (v := 0) hx hb dX11_holds_41 (by decide) ?_
              exact hret 42 ls (0 : Int32) dX11_holds_42 (Or.inl rfl) (by unfold hoP; first | exact Or.inl ⟨rfl, by omega⟩ | exact Or.inr ⟨rfl, by omega⟩)
            · refine lv_iconst (v := 1) hx hb dX11_holds_37 (by decide) ?_
              refine lv_goto (tgt := 42) hx hb dX11_holds_38 (by decide) ?_
              have lr : (1 : Int32).toInt = 1 := by decide
              exact hret 42 ls (1 : Int32) dX11_holds_42 (Or.inr rfl) (by unfold hoP; first | exact Or.inl ⟨rfl, by omega⟩ | exact Or.inr ⟨rfl, by omega⟩)
        · refine lv_iconst (v := 1) hx hb dX11_holds_21 (by decide) ?_
          refine lv_goto (tgt := 34) hx hb dX11_holds_22 (by decide) ?_
          refine q_icmp_ne (tgt := 41) hx hb dX11_holds_34 (by decide) rfl (by decide : (1 : Int32).toInt = 1) (fun k_34 => ?_) (fun k_34 => ?_)
          · refine lv_iconst (v := 0) hx hb dX11_holds_41 (by decide) ?_
            exact hret 42 ls (0 : Int32) dX11_holds_42 (Or.inl rfl) (by unfold hoP; first | exact Or.inl ⟨rfl, by omega⟩ | exact Or.inr ⟨rfl, by omega⟩)
          · refine lv_iconst (v := 1) hx hb dX11_holds_37 (by decide) ?_
            refine lv_goto (tgt := 42) hx hb dX11_holds_38 (by decide) ?_
            have lr : (1 : Int32).toInt = 1 := by decide
            exact hret 42 ls (1 : Int32) dX11_holds_42 (Or.inr rfl) (by unfold hoP; first | exact Or.inl ⟨rfl, by omega⟩ | exact Or.inr ⟨rfl, by omega⟩)
      · refine lv_iconst (v := 4) hx hb dX11_holds_13 (by decide) ?_
        refine lv_goto (tgt := 34) hx hb dX11_holds_14 (by decide) ?_
        refine q_icmp_ne (tgt := 41) hx hb dX11_holds_34 (by decide) rfl (by decide : (4 : Int32).toInt = 4) (fun k_34 => ?_) (fun k_34 => ?_)
        · refine lv_iconst (v := 0) hx hb dX11_holds_41 (by decide) ?_
          exact hret 42 ls (0 : Int32) dX11_holds_42 (Or.inl rfl) (by unfold hoP; first | exact Or.inl ⟨rfl, by omega⟩ | exact Or.inr ⟨rfl, by omega⟩)
        · refine lv_iconst (v := 1) hx hb dX11_holds_37 (by decide) ?_
          refine lv_goto (tgt := 42) hx hb dX11_holds_38 (by decide) ?_
          have lr : (1 : Int32).toInt = 1 := by decide
          exact hret 42 ls (1 : Int32) dX11_holds_42 (Or.inr rfl) (by unfold hoP; first | exact Or.inl ⟨rfl, by omega⟩ | exact Or.inr ⟨rfl, by omega⟩)

set_option maxHeartbeats 4000000 in
set_option maxRecDepth 100000 in
theorem kX11_isOut (l : Launch) (g : gG) (gone : Int32) (rule : Int32)  : PurI l g yX11_isOut wsX11_isOut 0 [.int gone, .int rule] ([]) (fun r => bP (outP gone rule) (¬ outP gone rule) r) := by
  refine PurI.sz (cc := cX11_isOut) (maxL := 2) (by decide) rfl (Nat.le_of_ble_eq_true rfl) (fun p e s m args below meth c Q ls fx hK hP hl hret => ?_)
  have hx := fx.1
  have hb := fx.2.1
  have hml := fx.2.2.1
  have hown := fx.2.2.2.1
  have hts := fx.2.2.2.2
  have hl : lv_has ls 2 [(0, .int gone), (1, .int rule)] := hl
  have hP : va_P g.1 vwCl ([]) s.heap := hP
  have lm1 : (-1 : Int32).toInt = -1 := by decide
  have lm0 : (0 : Int32).toInt = 0 := by decide
  have lm2 : (1 : Int32).toInt = 1 := by decide
  refine lv_iload_n hx hb dX11_isOut_0 rfl (lv_at hl 0 rfl) ?_
  refine lv_iload_n hx hb dX11_isOut_1 rfl (lv_at hl 1 rfl) ?_
  refine lv_ishr hx hb dX11_isOut_2 ?_
  refine q_nm (fun x1 e_x1 => ?_)
  refine lv_iconst (v := 1) hx hb dX11_isOut_3 (by decide) ?_
  refine lv_iand hx hb dX11_isOut_4 ?_
  refine q_nm (fun x2 e_x2 => ?_)
  refine lv_iconst (v := 1) hx hb dX11_isOut_5 (by decide) ?_
  refine q_icmp_ne (tgt := 13) hx hb dX11_isOut_6 (by decide) rfl (by decide : (1 : Int32).toInt = 1) (fun k_6 => ?_) (fun k_6 => ?_)
  · refine lv_iconst (v := 0) hx hb dX11_isOut_13 (by decide) ?_
    exact hret 14 ls (0 : Int32) dX11_isOut_14 (Or.inl rfl) (by unfold outP; rw [← e_x1, ← e_x2]; first | exact Or.inl ⟨rfl, by omega⟩ | exact Or.inr ⟨rfl, by omega⟩)
  · refine lv_iconst (v := 1) hx hb dX11_isOut_9 (by decide) ?_
    refine lv_goto (tgt := 14) hx hb dX11_isOut_10 (by decide) ?_
    have lr : (1 : Int32).toInt = 1 := by decide
    exact hret 14 ls (1 : Int32) dX11_isOut_14 (Or.inr rfl) (by unfold outP; rw [← e_x1, ← e_x2]; first | exact Or.inl ⟨rfl, by omega⟩ | exact Or.inr ⟨rfl, by omega⟩)

set_option maxHeartbeats 4000000 in
set_option maxRecDepth 100000 in
theorem kX11_isFrom (l : Launch) (g : gG) (v : Int64) (lo : Int64) (hi : Int64)  : PurI l g yX11_isFrom wsX11_isFrom 0 [.long v, .long lo, .long hi] ([]) (fun r => bP (lo.toInt ≤ v.toInt ∧ v.toInt ≤ hi.toInt) (¬ (lo.toInt ≤ v.toInt ∧ v.toInt ≤ hi.toInt)) r) := by
  refine PurI.sz (cc := cX11_isFrom) (maxL := 6) (by decide) rfl (Nat.le_of_ble_eq_true rfl) (fun p e s m args below meth c Q ls fx hK hP hl hret => ?_)
  have hx := fx.1
  have hb := fx.2.1
  have hml := fx.2.2.1
  have hown := fx.2.2.2.1
  have hts := fx.2.2.2.2
  have hl : lv_has ls 6 [(0, .long v), (2, .long lo), (4, .long hi)] := hl
  have hP : va_P g.1 vwCl ([]) s.heap := hP
  have lm1 : (-1 : Int32).toInt = -1 := by decide
  have lm0 : (0 : Int32).toInt = 0 := by decide
  have lm2 : (1 : Int32).toInt = 1 := by decide
  refine lv_lload_n hx hb dX11_isFrom_0 rfl (lv_at hl 0 rfl) ?_
  refine lv_lload_n hx hb dX11_isFrom_1 rfl (lv_at hl 1 rfl) ?_
  refine W.lcmp hx hb dX11_isFrom_2 ?_
  refine q_nm (fun x1 e_x1 => ?_)
  refine q_if_lt (tgt := 17) hx hb dX11_isFrom_3 (by decide) rfl (fun k_3 => ?_) (fun k_3 => ?_)
  · refine lv_iconst (v := 0) hx hb dX11_isFrom_17 (by decide) ?_
    exact hret 18 ls (0 : Int32) dX11_isFrom_18 (Or.inl rfl) (by first | exact Or.inl ⟨rfl, cmp_nlt e_x1 k_3, cmp_ngt e_x2 k_10⟩ | exact Or.inr ⟨rfl, fun q => by have := cmp_gt e_x2 k_10; omega⟩ | exact Or.inr ⟨rfl, fun q => by have := cmp_lt e_x1 k_3; omega⟩)
  · refine lv_lload_n hx hb dX11_isFrom_6 rfl (lv_at hl 0 rfl) ?_
    refine lv_lload hx hb dX11_isFrom_7 (lv_at hl 2 rfl) ?_
    refine W.lcmp hx hb dX11_isFrom_9 ?_
    refine q_nm (fun x2 e_x2 => ?_)
    refine q_if_gt (tgt := 17) hx hb dX11_isFrom_10 (by decide) rfl (fun k_10 => ?_) (fun k_10 => ?_)
    · refine lv_iconst (v := 0) hx hb dX11_isFrom_17 (by decide) ?_
      exact hret 18 ls (0 : Int32) dX11_isFrom_18 (Or.inl rfl) (by first | exact Or.inl ⟨rfl, cmp_nlt e_x1 k_3, cmp_ngt e_x2 k_10⟩ | exact Or.inr ⟨rfl, fun q => by have := cmp_gt e_x2 k_10; omega⟩ | exact Or.inr ⟨rfl, fun q => by have := cmp_lt e_x1 k_3; omega⟩)
    · refine lv_iconst (v := 1) hx hb dX11_isFrom_13 (by decide) ?_
      refine lv_goto (tgt := 18) hx hb dX11_isFrom_14 (by decide) ?_
      have lr : (1 : Int32).toInt = 1 := by decide
      exact hret 18 ls (1 : Int32) dX11_isFrom_18 (Or.inr rfl) (by first | exact Or.inl ⟨rfl, cmp_nlt e_x1 k_3, cmp_ngt e_x2 k_10⟩ | exact Or.inr ⟨rfl, fun q => by have := cmp_gt e_x2 k_10; omega⟩ | exact Or.inr ⟨rfl, fun q => by have := cmp_lt e_x1 k_3; omega⟩)

set_option maxHeartbeats 4000000 in
set_option maxRecDepth 100000 in
theorem kX11_cut (l : Launch) (g : gG) (v : Int64) (sort : Int32)  : PurL l g yX11_cut wsX11_cut 0 [.long v, .int sort] ([]) (fun r => r = cutL v sort) := by
  refine PurL.st (cc := cX11_cut) (maxL := 3) (by decide) rfl (Nat.le_of_ble_eq_true rfl) (fun p e s m args below meth c Q ls fx hK hP hl hret => ?_)
  have hx := fx.1
  have hb := fx.2.1
  have hml := fx.2.2.1
  have hown := fx.2.2.2.1
  have hts := fx.2.2.2.2
  have hl : lv_has ls 3 [(0, .long v), (2, .int sort)] := hl
  have hP : va_P g.1 vwCl ([]) s.heap := hP
  have lm1 : (-1 : Int32).toInt = -1 := by decide
  have lm0 : (0 : Int32).toInt = 0 := by decide
  have lm2 : (1 : Int32).toInt = 1 := by decide
  have lq2 : (2 : Int32).toInt = 2 := by decide
  refine lv_iload_n hx hb dX11_cut_0 rfl (lv_at hl 1 rfl) ?_
  refine q_if_ne (tgt := 11) hx hb dX11_cut_1 (by decide) rfl (fun b_1 k_1 => ?_) (fun b_1 k_1 => ?_)
  · refine lv_iload_n hx hb dX11_cut_11 rfl (lv_at hl 1 rfl) ?_
    refine lv_iconst (v := 1) hx hb dX11_cut_12 (by decide) ?_
    refine q_icmp_ne (tgt := 23) hx hb dX11_cut_13 (by decide) rfl (by decide : (1 : Int32).toInt = 1) (fun k_13 => ?_) (fun k_13 => ?_)
    · refine lv_iload_n hx hb dX11_cut_23 rfl (lv_at hl 1 rfl) ?_
      refine lv_iconst (v := 2) hx hb dX11_cut_24 (by decide) ?_
      refine q_icmp_ne (tgt := 34) hx hb dX11_cut_25 (by decide) rfl (by decide : (2 : Int32).toInt = 2) (fun k_25 => ?_) (fun k_25 => ?_)
      · refine lv_lload_n hx hb dX11_cut_34 rfl (lv_at hl 0 rfl) ?_
        exact hret 35 ls v dX11_cut_35 (by unfold cutL; first | (rw [if_pos b_1]; subst_vars; rfl) | (rw [if_neg b_1, if_pos (t_inj (by omega))]; subst_vars; rfl) | (rw [if_neg b_1, if_neg (fun h => by have := congrArg Int32.toInt h; omega), if_pos (t_inj (by omega))]; subst_vars; rfl) | (rw [if_neg b_1, if_neg (fun h => by have := congrArg Int32.toInt h; omega), if_neg (fun h => by have := congrArg Int32.toInt h; omega)]))
      · refine lv_lload_n hx hb dX11_cut_28 rfl (lv_at hl 0 rfl) ?_
        refine lv_l2i hx hb dX11_cut_29 rfl ?_
        refine q_nm (fun x1 e_x1 => ?_)
        refine lv_i2l hx hb dX11_cut_30 rfl ?_
        refine q_nml (fun w2 e_w2 => ?_)
        refine lv_goto (tgt := 35) hx hb dX11_cut_31 (by decide) ?_
        exact hret 35 ls w2 dX11_cut_35 (by unfold cutL; first | (rw [if_pos b_1]; subst_vars; rfl) | (rw [if_neg b_1, if_pos (t_inj (by omega))]; subst_vars; rfl) | (rw [if_neg b_1, if_neg (fun h => by have := congrArg Int32.toInt h; omega), if_pos (t_inj (by omega))]; subst_vars; rfl) | (rw [if_neg b_1, if_neg (fun h => by have := congrArg Int32.toInt h; omega), if_neg (fun h => by have := congrArg Int32.toInt h; omega)]))
    · refine lv_lload_n hx hb dX11_cut_16 rfl (lv_at hl 0 rfl) ?_
      refine lv_l2i hx hb dX11_cut_17 rfl ?_
      refine q_nm (fun x3 e_x3 => ?_)
      refine lv_i2s hx hb dX11_cut_18 rfl ?_
      refine q_nm (fun x4 e_x4 => ?_)
      refine lv_i2l hx hb dX11_cut_19 rfl ?_
      refine q_nml (fun w5 e_w5 => ?_)
      refine lv_goto (tgt := 35) hx hb dX11_cut_20 (by decide) ?_
      exact hret 35 ls w5 dX11_cut_35 (by unfold cutL; first | (rw [if_pos b_1]; subst_vars; rfl) | (rw [if_neg b_1, if_pos (t_inj (by omega))]; subst_vars; rfl) | (rw [if_neg b_1, if_neg (fun h => by have := congrArg Int32.toInt h; omega), if_pos (t_inj (by omega))]; subst_vars; rfl) | (rw [if_neg b_1, if_neg (fun h => by have := congrArg Int32.toInt h; omega), if_neg (fun h => by have := congrArg Int32.toInt h; omega)]))
  · refine lv_lload_n hx hb dX11_cut_4 rfl (lv_at hl 0 rfl) ?_
    refine lv_l2i hx hb dX11_cut_5 rfl ?_
    refine q_nm (fun x6 e_x6 => ?_)
    refine lv_i2b hx hb dX11_cut_6 rfl ?_
    refine q_nm (fun x7 e_x7 => ?_)
    refine lv_i2l hx hb dX11_cut_7 rfl ?_
    refine q_nml (fun w8 e_w8 => ?_)
    refine lv_goto (tgt := 35) hx hb dX11_cut_8 (by decide) ?_
    exact hret 35 ls w8 dX11_cut_35 (by unfold cutL; first | (rw [if_pos b_1]; subst_vars; rfl) | (rw [if_neg b_1, if_pos (t_inj (by omega))]; subst_vars; rfl) | (rw [if_neg b_1, if_neg (fun h => by have := congrArg Int32.toInt h; omega), if_pos (t_inj (by omega))]; subst_vars; rfl) | (rw [if_neg b_1, if_neg (fun h => by have := congrArg Int32.toInt h; omega), if_neg (fun h => by have := congrArg Int32.toInt h; omega)]))

set_option maxHeartbeats 4000000 in
set_option maxRecDepth 100000 in
theorem kX11_sizeOf (l : Launch) (g : gG) (ov : Int32) (h_o : 0 ≤ ov.toInt ∧ ov.toInt ≤ 4160) : PurI l g yX11_sizeOf wsX11_sizeOf 0 [.int ov] ([]) (fun r => 0 ≤ r.toInt ∧ r.toInt ≤ 2 ∧ (r.toInt = 0 ↔ ov.toInt = 0) ∧ r.toInt = gwSz ov.toInt) := by
  refine PurI.st (cc := cX11_sizeOf) (maxL := 1) (by decide) rfl (Nat.le_of_ble_eq_true rfl) (fun p e s m args below meth c Q ls fx hK hP hl hret => ?_)
  have hx := fx.1
  have hb := fx.2.1
  have hml := fx.2.2.1
  have hown := fx.2.2.2.1
  have hts := fx.2.2.2.2
  have hl : lv_has ls 1 [(0, .int ov)] := hl
  have hP : va_P g.1 vwCl ([]) s.heap := hP
  have lm1 : (-1 : Int32).toInt = -1 := by decide
  have lm0 : (0 : Int32).toInt = 0 := by decide
  have lm2 : (1 : Int32).toInt = 1 := by decide
  have lq2 : (2 : Int32).toInt = 2 := by decide
  refine lv_iload_n hx hb dX11_sizeOf_0 rfl (lv_at hl 0 rfl) ?_
  refine q_if_ne (tgt := 8) hx hb dX11_sizeOf_1 (by decide) rfl (fun b_1 k_1 => ?_) (fun b_1 k_1 => ?_)
  · refine lv_iload_n hx hb dX11_sizeOf_8 rfl (lv_at hl 0 rfl) ?_
    refine lv_bipush (v := 64) hx hb dX11_sizeOf_9 (by decide) ?_
    refine q_icmp_ge (tgt := 18) hx hb dX11_sizeOf_11 (by decide) rfl (by decide : (64 : Int32).toInt = 64) (fun k_11 => ?_) (fun k_11 => ?_)
    · refine lv_iconst (v := 2) hx hb dX11_sizeOf_18 (by decide) ?_
      have lr : (2 : Int32).toInt = 2 := by decide
      exact hret 19 ls (2 : Int32) dX11_sizeOf_19 (by refine ⟨by omega, by omega, by omega, ?_⟩; unfold gwSz; first | (rw [if_pos (by omega)]; omega) | (rw [if_neg (by omega), if_pos (by omega)]; omega) | (rw [if_neg (by omega), if_neg (by omega)]; omega))
    · refine lv_iconst (v := 1) hx hb dX11_sizeOf_14 (by decide) ?_
      refine lv_goto (tgt := 19) hx hb dX11_sizeOf_15 (by decide) ?_
      have lr : (1 : Int32).toInt = 1 := by decide
      exact hret 19 ls (1 : Int32) dX11_sizeOf_19 (by refine ⟨by omega, by omega, by omega, ?_⟩; unfold gwSz; first | (rw [if_pos (by omega)]; omega) | (rw [if_neg (by omega), if_pos (by omega)]; omega) | (rw [if_neg (by omega), if_neg (by omega)]; omega))
  · refine lv_iconst (v := 0) hx hb dX11_sizeOf_4 (by decide) ?_
    refine lv_goto (tgt := 19) hx hb dX11_sizeOf_5 (by decide) ?_
    exact hret 19 ls (0 : Int32) dX11_sizeOf_19 (by refine ⟨by omega, by omega, by omega, ?_⟩; unfold gwSz; first | (rw [if_pos (by omega)]; omega) | (rw [if_neg (by omega), if_pos (by omega)]; omega) | (rw [if_neg (by omega), if_neg (by omega)]; omega))

set_option maxHeartbeats 4000000 in
set_option maxRecDepth 100000 in
theorem kX11_cellIn (l : Launch) (g : gG) (ov : Int32) (k : Int32) (h_o : 0 ≤ ov.toInt ∧ ov.toInt ≤ 4160) : PurI l g yX11_cellIn wsX11_cellIn 0 [.int ov, .int k] ([]) (fun r => 0 ≤ r.toInt ∧ r.toInt ≤ 65 ∧ (k.toInt ≠ 0 → r.toInt ≤ 63) ∧ r.toInt = gwCi ov.toInt k.toInt) := by
  refine PurI.st (cc := cX11_cellIn) (maxL := 2) (by decide) rfl (Nat.le_of_ble_eq_true rfl) (fun p e s m args below meth c Q ls fx hK hP hl hret => ?_)
  have hx := fx.1
  have hb := fx.2.1
  have hml := fx.2.2.1
  have hown := fx.2.2.2.1
  have hts := fx.2.2.2.2
  have hl : lv_has ls 2 [(0, .int ov), (1, .int k)] := hl
  have hP : va_P g.1 vwCl ([]) s.heap := hP
  have lm1 : (-1 : Int32).toInt = -1 := by decide
  have lm0 : (0 : Int32).toInt = 0 := by decide
  have lm2 : (1 : Int32).toInt = 1 := by decide
  have lq64 : (64 : Int32).toInt = 64 := by decide
  refine lv_iload_n hx hb dX11_cellIn_0 rfl (lv_at hl 0 rfl) ?_
  refine lv_bipush (v := 64) hx hb dX11_cellIn_1 (by decide) ?_
  refine q_icmp_ge (tgt := 10) hx hb dX11_cellIn_3 (by decide) rfl (by decide : (64 : Int32).toInt = 64) (fun k_3 => ?_) (fun k_3 => ?_)
  · refine lv_iload_n hx hb dX11_cellIn_10 rfl (lv_at hl 1 rfl) ?_
    refine q_if_ne (tgt := 21) hx hb dX11_cellIn_11 (by decide) rfl (fun b_11 k_11 => ?_) (fun b_11 k_11 => ?_)
    · refine lv_iload_n hx hb dX11_cellIn_21 rfl (lv_at hl 0 rfl) ?_
      refine lv_bipush (v := 64) hx hb dX11_cellIn_22 (by decide) ?_
      refine lv_irem hx hb dX11_cellIn_24 (by decide) ?_
      refine q_nm (fun x1 e_x1 => ?_)
      try have t_x1 := t_rem e_x1 rfl (by decide : (64 : Int32).toInt = 64) (by omega) (by omega)
      exact hret 25 ls x1 dX11_cellIn_25 (by refine ⟨by omega, by omega, by omega, ?_⟩; unfold gwCi; first | rw [if_pos (by omega)] | (rw [if_neg (by omega), if_pos (by omega)]; omega) | (rw [if_neg (by omega), if_neg (by omega)]; omega))
    · refine lv_iload_n hx hb dX11_cellIn_14 rfl (lv_at hl 0 rfl) ?_
      refine lv_bipush (v := 64) hx hb dX11_cellIn_15 (by decide) ?_
      refine lv_idiv hx hb dX11_cellIn_17 (by decide) ?_
      refine q_nm (fun x2 e_x2 => ?_)
      try have t_x2 := t_div e_x2 rfl (by decide : (64 : Int32).toInt = 64) (by omega) (by omega)
      refine lv_goto (tgt := 25) hx hb dX11_cellIn_18 (by decide) ?_
      exact hret 25 ls x2 dX11_cellIn_25 (by refine ⟨by omega, by omega, by omega, ?_⟩; unfold gwCi; first | rw [if_pos (by omega)] | (rw [if_neg (by omega), if_pos (by omega)]; omega) | (rw [if_neg (by omega), if_neg (by omega)]; omega))
  · refine lv_iload_n hx hb dX11_cellIn_6 rfl (lv_at hl 0 rfl) ?_
    refine lv_goto (tgt := 25) hx hb dX11_cellIn_7 (by decide) ?_
    exact hret 25 ls ov dX11_cellIn_25 (by refine ⟨by omega, by omega, by omega, ?_⟩; unfold gwCi; first | rw [if_pos (by omega)] | (rw [if_neg (by omega), if_pos (by omega)]; omega) | (rw [if_neg (by omega), if_neg (by omega)]; omega))

set_option maxHeartbeats 4000000 in
set_option maxRecDepth 100000 in
theorem kX11_ruleAt (l : Launch) (g : gG) (slot : Int32) (rule : Int32) (h_s : 0 ≤ slot.toInt ∧ slot.toInt ≤ 16500) (h_r : -1 ≤ rule.toInt ∧ rule.toInt ≤ 24) : PurI l g yX11_ruleAt wsX11_ruleAt 0 [.int slot, .int rule] ([]) (fun r => r.toInt = slot.toInt + 12 + 12 * rule.toInt) := by
  refine PurI.st (cc := cX11_ruleAt) (maxL := 2) (by decide) rfl (Nat.le_of_ble_eq_true rfl) (fun p e s m args below meth c Q ls fx hK hP hl hret => ?_)
  have hx := fx.1
  have hb := fx.2.1
  have hml := fx.2.2.1
  have hown := fx.2.2.2.1
  have hts := fx.2.2.2.2
  have hl : lv_has ls 2 [(0, .int slot), (1, .int rule)] := hl
  have hP : va_P g.1 vwCl ([]) s.heap := hP
  have lm1 : (-1 : Int32).toInt = -1 := by decide
  have lm0 : (0 : Int32).toInt = 0 := by decide
  have lm2 : (1 : Int32).toInt = 1 := by decide
  have lq12 : (12 : Int32).toInt = 12 := by decide
  refine lv_iload_n hx hb dX11_ruleAt_0 rfl (lv_at hl 0 rfl) ?_
  refine lv_bipush (v := 12) hx hb dX11_ruleAt_1 (by decide) ?_
  refine r_iadd hx hb dX11_ruleAt_3 rfl (by decide : (12 : Int32).toInt = 12) (fun x1 e_x1 t_x1 => ?_)
  try have t_x1 := t_x1 (by omega)
  refine lv_bipush (v := 12) hx hb dX11_ruleAt_4 (by decide) ?_
  refine lv_iload_n hx hb dX11_ruleAt_6 rfl (lv_at hl 1 rfl) ?_
  refine r_imul hx hb dX11_ruleAt_7 (by decide : (12 : Int32).toInt = 12) rfl (fun x2 e_x2 t_x2 => ?_)
  try have t_x2 := t_x2 (by omega)
  refine r_iadd hx hb dX11_ruleAt_8 rfl rfl (fun x3 e_x3 t_x3 => ?_)
  try have t_x3 := t_x3 (by omega)
  exact hret 9 ls x3 dX11_ruleAt_9 (by omega)

set_option maxHeartbeats 4000000 in
set_option maxRecDepth 100000 in
theorem kX11_status (l : Launch) (g : gG) (a_m : Nat → Nat) (I_m : Nat → Nat → Int32) (J_m : Nat → Nat → Int64)  : PurI l g yX11_status wsX11_status 0 [.ref (a_m 0)] (wX11 g a_m I_m J_m) (fun r => r = I_m 0 1) := by
  refine PurI.st (cc := cX11_status) (maxL := 1) (by decide) rfl (Nat.le_of_ble_eq_true rfl) (fun p e s m args below meth c Q ls fx hK hP hl hret => ?_)
  have hx := fx.1
  have hb := fx.2.1
  have hml := fx.2.2.1
  have hown := fx.2.2.2.1
  have hts := fx.2.2.2.2
  have hl : lv_has ls 1 [(0, .ref (a_m 0))] := hl
  have hP : va_P g.1 vwCl (wX11 g a_m I_m J_m) s.heap := hP
  have hf_99 := hts _ (uT _ _ u_210)
  have hi_X11 : ∀ w ∈ wsX110, w.before args s = true := fun w h => hts w (uT _ w (u_wsX110 w h))
  have lm1 : (-1 : Int32).toInt = -1 := by decide
  have lm0 : (0 : Int32).toInt = 0 := by decide
  have lm2 : (1 : Int32).toInt = 1 := by decide
  refine lv_aload_n hx hb dX11_status_0 rfl (lv_at hl 0 rfl) ?_
  refine va_get (D := g.1) (ci := 11) (v := .int (I_m 0 1)) (C := RX11) (T := TX11) (N := 46) hx hb hi_X11 (fun _ h => h) hown hK.1 hP 0 rfl rfl 1 (by decide) hf_99 (fun _ h9 => h9) rfl dX11_status_1 ?_
  exact hret 4 ls (I_m 0 1) dX11_status_4 rfl

set_option maxHeartbeats 4000000 in
set_option maxRecDepth 100000 in
theorem kX11_top (l : Launch) (g : gG) (a_m : Nat → Nat) (I_m : Nat → Nat → Int32) (J_m : Nat → Nat → Int64)  : PurL l g yX11_top wsX11_top 0 [.ref (a_m 0)] (wX11 g a_m I_m J_m) (fun r => r = J_m 0 2) := by
  refine PurL.st (cc := cX11_top) (maxL := 1) (by decide) rfl (Nat.le_of_ble_eq_true rfl) (fun p e s m args below meth c Q ls fx hK hP hl hret => ?_)
  have hx := fx.1
  have hb := fx.2.1
  have hml := fx.2.2.1
  have hown := fx.2.2.2.1
  have hts := fx.2.2.2.2
  have hl : lv_has ls 1 [(0, .ref (a_m 0))] := hl
  have hP : va_P g.1 vwCl (wX11 g a_m I_m J_m) s.heap := hP
  have hf_102 := hts _ (uT _ _ u_219)
  have hi_X11 : ∀ w ∈ wsX110, w.before args s = true := fun w h => hts w (uT _ w (u_wsX110 w h))
  have lm1 : (-1 : Int32).toInt = -1 := by decide
  have lm0 : (0 : Int32).toInt = 0 := by decide
  have lm2 : (1 : Int32).toInt = 1 := by decide
  refine lv_aload_n hx hb dX11_top_0 rfl (lv_at hl 0 rfl) ?_
  refine va_get (D := g.1) (ci := 11) (v := .long (J_m 0 2)) (C := RX11) (T := TX11) (N := 46) hx hb hi_X11 (fun _ h => h) hown hK.1 hP 0 rfl rfl 2 (by decide) hf_102 (fun _ h9 => h9) rfl dX11_top_1 ?_
  exact hret 4 ls (J_m 0 2) dX11_top_4 rfl

set_option maxHeartbeats 4000000 in
set_option maxRecDepth 100000 in
theorem kX11_bottom (l : Launch) (g : gG) (a_m : Nat → Nat) (I_m : Nat → Nat → Int32) (J_m : Nat → Nat → Int64)  : PurL l g yX11_bottom wsX11_bottom 0 [.ref (a_m 0)] (wX11 g a_m I_m J_m) (fun r => r = J_m 0 3) := by
  refine PurL.st (cc := cX11_bottom) (maxL := 1) (by decide) rfl (Nat.le_of_ble_eq_true rfl) (fun p e s m args below meth c Q ls fx hK hP hl hret => ?_)
  have hx := fx.1
  have hb := fx.2.1
  have hml := fx.2.2.1
  have hown := fx.2.2.2.1
  have hts := fx.2.2.2.2
  have hl : lv_has ls 1 [(0, .ref (a_m 0))] := hl
  have hP : va_P g.1 vwCl (wX11 g a_m I_m J_m) s.heap := hP
  have hf_13 := hts _ (uT _ _ u_171)
  have hi_X11 : ∀ w ∈ wsX110, w.before args s = true := fun w h => hts w (uT _ w (u_wsX110 w h))
  have lm1 : (-1 : Int32).toInt = -1 := by decide
  have lm0 : (0 : Int32).toInt = 0 := by decide
  have lm2 : (1 : Int32).toInt = 1 := by decide
  refine lv_aload_n hx hb dX11_bottom_0 rfl (lv_at hl 0 rfl) ?_
  refine va_get (D := g.1) (ci := 11) (v := .long (J_m 0 3)) (C := RX11) (T := TX11) (N := 46) hx hb hi_X11 (fun _ h => h) hown hK.1 hP 0 rfl rfl 3 (by decide) hf_13 (fun _ h9 => h9) rfl dX11_bottom_1 ?_
  exact hret 4 ls (J_m 0 3) dX11_bottom_4 rfl

set_option maxHeartbeats 4000000 in
set_option maxRecDepth 100000 in
theorem kX11_is (l : Launch) (g : gG) (a_m : Nat → Nat) (I_m : Nat → Nat → Int32) (J_m : Nat → Nat → Int64) (v : Int32)  : EffI l g yX11_is wsX11_is 0 [.ref (a_m 0), .int v] (wX11 g a_m I_m J_m) (fun (u : (Nat → Nat → Int32)) => wX11 g a_m u J_m) (fun r (u : (Nat → Nat → Int32)) => ((r = 1 ∧ v.toInt = 0) ∨ (r = 0 ∧ v.toInt ≠ 0)) ∧ (u) = uF I_m 0 1 v) := by
  refine EffI.sz (cc := cX11_is) (maxL := 2) (by decide) rfl (Nat.le_of_ble_eq_true rfl) (fun p e s m args below meth c A Q ls fx hK hP hD hA hS hl hret => ?_)
  have hx := fx.1
  have hb := fx.2.1
  have hml := fx.2.2.1
  have hown := fx.2.2.2.1
  have hts := fx.2.2.2.2
  have hl : lv_has ls 2 [(0, .ref (a_m 0)), (1, .int v)] := hl
  have hP : va_P g.1 vwCl (wX11 g a_m I_m J_m) s.heap := hP
  have hf_99 := hts _ (uT _ _ u_210)
  have hi_X11 : ∀ w ∈ wsX110, w.before args s = true := fun w h => hts w (uT _ w (u_wsX110 w h))
  have lm1 : (-1 : Int32).toInt = -1 := by decide
  have lm0 : (0 : Int32).toInt = 0 := by decide
  have lm2 : (1 : Int32).toInt = 1 := by decide
  refine lv_aload_n hx hb dX11_is_0 rfl (lv_at hl 0 rfl) ?_
  refine lv_iload_n hx hb dX11_is_1 rfl (lv_at hl 1 rfl) ?_
  refine va_put (D := g.1) (ci := 11) (v := .int v) (ty := .int) (C := RX11) (T := TX11) (N := 46) hx hb hi_X11 (fun _ h => h) tyX11 tyX11_ok nmX11 hown hK.1 hP hD hS 0 rfl rfl 1 (by decide) hf_99 (fun _ h9 => h9) rfl (by decide +kernel) rfl rfl (Nat.le_of_ble_eq_true rfl) dX11_is_2 (fun H locs hP hD hS => ?_)
  have hP : va_P g.1 vwCl (wX11 g a_m (uF I_m 0 1 v) J_m) H := hP
  have hD : va_D A (wX11 g a_m (uF I_m 0 1 v) J_m) := hD
  refine lv_iload_n hx hb dX11_is_5 rfl (lv_at hl 1 rfl) ?_
  refine q_if_ne (tgt := 13) hx hb dX11_is_6 (by decide) rfl (fun b_6 k_6 => ?_) (fun b_6 k_6 => ?_)
  · refine lv_iconst (v := 0) hx hb dX11_is_13 (by decide) ?_
    refine hret 14 ls (0 : Int32) _ _ (uF I_m 0 1 v) dX11_is_14 (Or.inl rfl) hS hP hD ?_
    exact ⟨by first | exact Or.inl ⟨rfl, by omega⟩ | exact Or.inr ⟨rfl, by omega⟩, rfl⟩
  · refine lv_iconst (v := 1) hx hb dX11_is_9 (by decide) ?_
    refine lv_goto (tgt := 14) hx hb dX11_is_10 (by decide) ?_
    have lr : (1 : Int32).toInt = 1 := by decide
    refine hret 14 ls (1 : Int32) _ _ (uF I_m 0 1 v) dX11_is_14 (Or.inr rfl) hS hP hD ?_
    exact ⟨by first | exact Or.inl ⟨rfl, by omega⟩ | exact Or.inr ⟨rfl, by omega⟩, rfl⟩

set_option maxHeartbeats 4000000 in
set_option maxRecDepth 100000 in
theorem kX11_refuse (l : Launch) (g : gG) (a_m : Nat → Nat) (I_m : Nat → Nat → Int32) (J_m : Nat → Nat → Int64) (v : Int32)  : EffI l g yX11_refuse wsX11_refuse 0 [.ref (a_m 0), .int v] (wX11 g a_m I_m J_m) (fun (u : (Nat → Nat → Int32)) => wX11 g a_m u J_m) (fun r (u : (Nat → Nat → Int32)) => r = -1 ∧ (u) = uF I_m 0 1 v) := by
  refine EffI.st (cc := cX11_refuse) (maxL := 2) (by decide) rfl (Nat.le_of_ble_eq_true rfl) (fun p e s m args below meth c A Q ls fx hK hP hD hA hS hl hret => ?_)
  have hx := fx.1
  have hb := fx.2.1
  have hml := fx.2.2.1
  have hown := fx.2.2.2.1
  have hts := fx.2.2.2.2
  have hl : lv_has ls 2 [(0, .ref (a_m 0)), (1, .int v)] := hl
  have hP : va_P g.1 vwCl (wX11 g a_m I_m J_m) s.heap := hP
  have hf_99 := hts _ (uT _ _ u_210)
  have hi_X11 : ∀ w ∈ wsX110, w.before args s = true := fun w h => hts w (uT _ w (u_wsX110 w h))
  have lm1 : (-1 : Int32).toInt = -1 := by decide
  have lm0 : (0 : Int32).toInt = 0 := by decide
  have lm2 : (1 : Int32).toInt = 1 := by decide
  refine lv_aload_n hx hb dX11_refuse_0 rfl (lv_at hl 0 rfl) ?_
  refine lv_iload_n hx hb dX11_refuse_1 rfl (lv_at hl 1 rfl) ?_
  refine va_put (D := g.1) (ci := 11) (v := .int v) (ty := .int) (C := RX11) (T := TX11) (N := 46) hx hb hi_X11 (fun _ h => h) tyX11 tyX11_ok nmX11 hown hK.1 hP hD hS 0 rfl rfl 1 (by decide) hf_99 (fun _ h9 => h9) rfl (by decide +kernel) rfl rfl (Nat.le_of_ble_eq_true rfl) dX11_refuse_2 (fun H locs hP hD hS => ?_)
  have hP : va_P g.1 vwCl (wX11 g a_m (uF I_m 0 1 v) J_m) H := hP
  have hD : va_D A (wX11 g a_m (uF I_m 0 1 v) J_m) := hD
  refine lv_iconst (v := -1) hx hb dX11_refuse_5 (by decide) ?_
  refine hret 6 ls (-1 : Int32) _ _ (uF I_m 0 1 v) dX11_refuse_6 hS hP hD ?_
  exact ⟨rfl, rfl⟩

set_option maxHeartbeats 4000000 in
set_option maxRecDepth 100000 in
theorem kX11_gives (l : Launch) (g : gG) (a_m : Nat → Nat) (I_m : Nat → Nat → Int32) (J_m : Nat → Nat → Int64) (v : Int32)  : EffI l g yX11_gives wsX11_gives 0 [.ref (a_m 0), .int v] (wX11 g a_m I_m J_m) (fun (u : (Nat → Nat → Int32)) => wX11 g a_m u J_m) (fun r (u : (Nat → Nat → Int32)) => r = v ∧ (u) = uF I_m 0 1 0) := by
  refine EffI.st (cc := cX11_gives) (maxL := 2) (by decide) rfl (Nat.le_of_ble_eq_true rfl) (fun p e s m args below meth c A Q ls fx hK hP hD hA hS hl hret => ?_)
  have hx := fx.1
  have hb := fx.2.1
  have hml := fx.2.2.1
  have hown := fx.2.2.2.1
  have hts := fx.2.2.2.2
  have hl : lv_has ls 2 [(0, .ref (a_m 0)), (1, .int v)] := hl
  have hP : va_P g.1 vwCl (wX11 g a_m I_m J_m) s.heap := hP
  have hf_99 := hts _ (uT _ _ u_210)
  have hi_X11 : ∀ w ∈ wsX110, w.before args s = true := fun w h => hts w (uT _ w (u_wsX110 w h))
  have lm1 : (-1 : Int32).toInt = -1 := by decide
  have lm0 : (0 : Int32).toInt = 0 := by decide
  have lm2 : (1 : Int32).toInt = 1 := by decide
  refine lv_aload_n hx hb dX11_gives_0 rfl (lv_at hl 0 rfl) ?_
  refine lv_iconst (v := 0) hx hb dX11_gives_1 (by decide) ?_
  refine va_put (D := g.1) (ci := 11) (v := .int (0 : Int32)) (ty := .int) (C := RX11) (T := TX11) (N := 46) hx hb hi_X11 (fun _ h => h) tyX11 tyX11_ok nmX11 hown hK.1 hP hD hS 0 rfl rfl 1 (by decide) hf_99 (fun _ h9 => h9) rfl (by decide +kernel) rfl rfl (Nat.le_of_ble_eq_true rfl) dX11_gives_2 (fun H locs hP hD hS => ?_)
  have hP : va_P g.1 vwCl (wX11 g a_m (uF I_m 0 1 (0 : Int32)) J_m) H := hP
  have hD : va_D A (wX11 g a_m (uF I_m 0 1 (0 : Int32)) J_m) := hD
  refine lv_iload_n hx hb dX11_gives_5 rfl (lv_at hl 1 rfl) ?_
  refine hret 6 ls v _ _ (uF I_m 0 1 (0 : Int32)) dX11_gives_6 hS hP hD ?_
  exact ⟨rfl, rfl⟩

set_option maxHeartbeats 4000000 in
set_option maxRecDepth 100000 in
theorem kX11_fault (l : Launch) (g : gG) (a_m : Nat → Nat) (I_m : Nat → Nat → Int32) (J_m : Nat → Nat → Int64) (what : Int32)  : PurI l g yX11_fault wsX11_fault 0 [.ref (a_m 0), .int what] (wX11 g a_m I_m J_m) (fun r => (what.toInt = 0 ∧ r = I_m 0 15) ∨ (what.toInt = 1 ∧ r = I_m 0 16) ∨ (what.toInt ≠ 0 ∧ what.toInt ≠ 1 ∧ r = -1)) := by
  refine PurI.st (cc := cX11_fault) (maxL := 2) (by decide) rfl (Nat.le_of_ble_eq_true rfl) (fun p e s m args below meth c Q ls fx hK hP hl hret => ?_)
  have hx := fx.1
  have hb := fx.2.1
  have hml := fx.2.2.1
  have hown := fx.2.2.2.1
  have hts := fx.2.2.2.2
  have hl : lv_has ls 2 [(0, .ref (a_m 0)), (1, .int what)] := hl
  have hP : va_P g.1 vwCl (wX11 g a_m I_m J_m) s.heap := hP
  have hf_34 := hts _ (uT _ _ u_178)
  have hf_38 := hts _ (uT _ _ u_179)
  have hi_X11 : ∀ w ∈ wsX110, w.before args s = true := fun w h => hts w (uT _ w (u_wsX110 w h))
  have lm1 : (-1 : Int32).toInt = -1 := by decide
  have lm0 : (0 : Int32).toInt = 0 := by decide
  have lm2 : (1 : Int32).toInt = 1 := by decide
  refine lv_iload_n hx hb dX11_fault_0 rfl (lv_at hl 1 rfl) ?_
  refine q_if_ne (tgt := 11) hx hb dX11_fault_1 (by decide) rfl (fun b_1 k_1 => ?_) (fun b_1 k_1 => ?_)
  · refine lv_iload_n hx hb dX11_fault_11 rfl (lv_at hl 1 rfl) ?_
    refine lv_iconst (v := 1) hx hb dX11_fault_12 (by decide) ?_
    refine q_icmp_ne (tgt := 23) hx hb dX11_fault_13 (by decide) rfl (by decide : (1 : Int32).toInt = 1) (fun k_13 => ?_) (fun k_13 => ?_)
    · refine lv_iconst (v := -1) hx hb dX11_fault_23 (by decide) ?_
      exact hret 24 ls (-1 : Int32) dX11_fault_24 (by first | exact Or.inl ⟨by omega, rfl⟩ | exact Or.inr (Or.inl ⟨by omega, rfl⟩) | exact Or.inr (Or.inr ⟨by omega, by omega, rfl⟩))
    · refine lv_aload_n hx hb dX11_fault_16 rfl (lv_at hl 0 rfl) ?_
      refine va_get (D := g.1) (ci := 11) (v := .int (I_m 0 16)) (C := RX11) (T := TX11) (N := 46) hx hb hi_X11 (fun _ h => h) hown hK.1 hP 0 rfl rfl 16 (by decide) hf_38 (fun _ h9 => h9) rfl dX11_fault_17 ?_
      refine lv_goto (tgt := 24) hx hb dX11_fault_20 (by decide) ?_
      exact hret 24 ls (I_m 0 16) dX11_fault_24 (by first | exact Or.inl ⟨by omega, rfl⟩ | exact Or.inr (Or.inl ⟨by omega, rfl⟩) | exact Or.inr (Or.inr ⟨by omega, by omega, rfl⟩))
  · refine lv_aload_n hx hb dX11_fault_4 rfl (lv_at hl 0 rfl) ?_
    refine va_get (D := g.1) (ci := 11) (v := .int (I_m 0 15)) (C := RX11) (T := TX11) (N := 46) hx hb hi_X11 (fun _ h => h) hown hK.1 hP 0 rfl rfl 15 (by decide) hf_34 (fun _ h9 => h9) rfl dX11_fault_5 ?_
    refine lv_goto (tgt := 24) hx hb dX11_fault_8 (by decide) ?_
    exact hret 24 ls (I_m 0 15) dX11_fault_24 (by first | exact Or.inl ⟨by omega, rfl⟩ | exact Or.inr (Or.inl ⟨by omega, rfl⟩) | exact Or.inr (Or.inr ⟨by omega, by omega, rfl⟩))

set_option maxHeartbeats 4000000 in
set_option maxRecDepth 100000 in
theorem kX11_tray (l : Launch) (g : gG) (a_m : Nat → Nat) (I_m : Nat → Nat → Int32) (J_m : Nat → Nat → Int64) (tray : Int32) (sort : Int32) (many : Int32) (hM : MI I_m) : EffI l g yX11_tray wsX11_tray 1 [.ref (a_m 0), .int tray, .int sort, .int many] (wX11 g a_m I_m J_m) (fun (u : ((Nat → Nat → Int32) × (Nat → Nat → Int64))) => wX11 g a_m (u.1) (u.2)) (fun r (u : ((Nat → Nat → Int32) × (Nat → Nat → Int64))) => MI (u.1) ∧ KK [2, 3] [1] I_m (u.1) ∧ ((r = 1 ∧ 0 ≤ tray.toInt ∧ tray.toInt < 4 ∧ 0 ≤ sort.toInt ∧ sort.toInt < 4 ∧ 0 ≤ many.toInt ∧ many.toInt ≤ 60 ∧ (u.1) 2 = upd (I_m 2) tray.toNatClampNeg sort ∧ (u.1) 3 = upd (I_m 3) tray.toNatClampNeg many ∧ ∀ j : Nat, (u.2) 4 j = if tray.toInt * 60 ≤ (j : Int) ∧ (j : Int) < tray.toInt * 60 + many.toInt then 0 else J_m 4 j) ∨ (r = 0 ∧ ¬ (0 ≤ tray.toInt ∧ tray.toInt < 4 ∧ 0 ≤ sort.toInt ∧ sort.toInt < 4 ∧ 0 ≤ many.toInt ∧ many.toInt ≤ 60) ∧ (u.1) 2 = I_m 2 ∧ (u.1) 3 = I_m 3 ∧ (u.2) 4 = J_m 4))) := by
  refine EffI.sz (cc := cX11_tray) (maxL := 5) (by decide) rfl (Nat.le_of_ble_eq_true rfl) (fun p e s m args below meth c A Q ls fx hK hP hD hA hS hl hret => ?_)
  have hx := fx.1
  have hb := fx.2.1
  have hml := fx.2.2.1
  have hown := fx.2.2.2.1
  have hts := fx.2.2.2.2
  have hl : lv_has ls 5 [(0, .ref (a_m 0)), (1, .int tray), (2, .int sort), (3, .int many)] := hl
  have hP : va_P g.1 vwCl (wX11 g a_m I_m J_m) s.heap := hP
  have hf_17 := hts _ (uT _ _ u_172)
  have hf_20 := hts _ (uT _ _ u_173)
  have hf_23 := hts _ (uT _ _ u_174)
  have hi_X11 : ∀ w ∈ wsX110, w.before args s = true := fun w h => hts w (uT _ w (u_wsX110 w h))
  have lm1 : (-1 : Int32).toInt = -1 := by decide
  have lm0 : (0 : Int32).toInt = 0 := by decide
  have lm2 : (1 : Int32).toInt = 1 := by decide
  have lq3 : (3 : Int32).toInt = 3 := by decide
  have lq60 : (60 : Int32).toInt = 60 := by decide
  refine lv_iload_n hx hb dX11_tray_0 rfl (lv_at hl 1 rfl) ?_
  refine PurI.cs (C := RX11) (As := [.int tray]) (kX11_isTray l g tray) fx (gUS (uT _) u_256 u_257 u_5 u_258) rfl hdX11_isTray ⟨Nat.le_of_ble_eq_true rfl, Nat.le_of_ble_eq_true rfl⟩ hK hP [] rfl rfl rfl hl.1 (Nat.le_of_ble_eq_true rfl) dX11_tray_1 (fun r1 p_r1 => ?_)
  refine q_if_eq (tgt := 26) hx hb dX11_tray_4 (by decide) rfl (fun b_4 k_4 => ?_) (fun b_4 k_4 => ?_)
  · have q_4 := bP.f p_r1 b_4
    refine lv_aload_n hx hb dX11_tray_26 rfl (lv_at hl 0 rfl) ?_
    refine lv_iconst (v := 1) hx hb dX11_tray_27 (by decide) ?_
    refine EffI.cv (wr := ([])) (w' := fun u3 => wX11 g a_m u3 J_m) (As := [.int (1 : Int32)]) (kX11_is l g a_m I_m J_m (1 : Int32)) fx (gUV (uT _) u_259 u_260 u_261 u_5 u_262) rfl hdX11_is ⟨Nat.le_of_ble_eq_true rfl, Nat.le_of_ble_eq_true rfl⟩ hK hP hD hS hA [0, 1, 2, 3, 4, 5, 6, 7, 8, 9, 10, 11, 12, 13, 14, 15, 16, 17, 18, 19, 20, 21, 22] [] [0, 1, 2, 3, 4, 5, 6, 7, 8, 9, 10, 11, 12, 13, 14, 15, 16, 17, 18, 19, 20, 21, 22] rfl rfl rfl rfl (by decide) rfl (fun _ => rfl) rfl rfl rfl rfl hl.1 (Nat.le_of_ble_eq_true rfl) dX11_tray_28 (fun r2 u3 H locs p_r2 hP hD hS => ?_)
    have hP : va_P g.1 vwCl (wX11 g a_m u3 J_m) H := hP
    have hD : va_D A (wX11 g a_m u3 J_m) := hD
    refine hret 31 ls r2 _ _ (u3, J_m) dX11_tray_31 (is_z p_r2.1) hS hP hD ?_
    exact ⟨(MI.st hM p_r2.2), (KK.st (KK.rf I_m) p_r2.2 (by decide)), Or.inr ⟨is_0 p_r2.1 (by omega), by omega, ST.row p_r2.2 2 (by decide), ST.row p_r2.2 3 (by decide), rfl⟩⟩
  · have q_4 := bP.t p_r1 b_4
    refine lv_iload_n hx hb dX11_tray_7 rfl (lv_at hl 2 rfl) ?_
    refine q_if_lt (tgt := 26) hx hb dX11_tray_8 (by decide) rfl (fun k_8 => ?_) (fun k_8 => ?_)
    · refine lv_aload_n hx hb dX11_tray_26 rfl (lv_at hl 0 rfl) ?_
      refine lv_iconst (v := 1) hx hb dX11_tray_27 (by decide) ?_
      refine EffI.cv (wr := ([])) (w' := fun u5 => wX11 g a_m u5 J_m) (As := [.int (1 : Int32)]) (kX11_is l g a_m I_m J_m (1 : Int32)) fx (gUV (uT _) u_259 u_260 u_261 u_5 u_262) rfl hdX11_is ⟨Nat.le_of_ble_eq_true rfl, Nat.le_of_ble_eq_true rfl⟩ hK hP hD hS hA [0, 1, 2, 3, 4, 5, 6, 7, 8, 9, 10, 11, 12, 13, 14, 15, 16, 17, 18, 19, 20, 21, 22] [] [0, 1, 2, 3, 4, 5, 6, 7, 8, 9, 10, 11, 12, 13, 14, 15, 16, 17, 18, 19, 20, 21, 22] rfl rfl rfl rfl (by decide) rfl (fun _ => rfl) rfl rfl rfl rfl hl.1 (Nat.le_of_ble_eq_true rfl) dX11_tray_28 (fun r4 u5 H locs p_r4 hP hD hS => ?_)
      have hP : va_P g.1 vwCl (wX11 g a_m u5 J_m) H := hP
      have hD : va_D A (wX11 g a_m u5 J_m) := hD
      refine hret 31 ls r4 _ _ (u5, J_m) dX11_tray_31 (is_z p_r4.1) hS hP hD ?_
      exact ⟨(MI.st hM p_r4.2), (KK.st (KK.rf I_m) p_r4.2 (by decide)), Or.inr ⟨is_0 p_r4.1 (by omega), by omega, ST.row p_r4.2 2 (by decide), ST.row p_r4.2 3 (by decide), rfl⟩⟩
    · refine lv_iload_n hx hb dX11_tray_11 rfl (lv_at hl 2 rfl) ?_
      refine lv_iconst (v := 3) hx hb dX11_tray_12 (by decide) ?_
      refine q_icmp_gt (tgt := 26) hx hb dX11_tray_13 (by decide) rfl (by decide : (3 : Int32).toInt = 3) (fun k_13 => ?_) (fun k_13 => ?_)
      · refine lv_aload_n hx hb dX11_tray_26 rfl (lv_at hl 0 rfl) ?_
        refine lv_iconst (v := 1) hx hb dX11_tray_27 (by decide) ?_
        refine EffI.cv (wr := ([])) (w' := fun u7 => wX11 g a_m u7 J_m) (As := [.int (1 : Int32)]) (kX11_is l g a_m I_m J_m (1 : Int32)) fx (gUV (uT _) u_259 u_260 u_261 u_5 u_262) rfl hdX11_is ⟨Nat.le_of_ble_eq_true rfl, Nat.le_of_ble_eq_true rfl⟩ hK hP hD hS hA [0, 1, 2, 3, 4, 5, 6, 7, 8, 9, 10, 11, 12, 13, 14, 15, 16, 17, 18, 19, 20, 21, 22] [] [0, 1, 2, 3, 4, 5, 6, 7, 8, 9, 10, 11, 12, 13, 14, 15, 16, 17, 18, 19, 20, 21, 22] rfl rfl rfl rfl (by decide) rfl (fun _ => rfl) rfl rfl rfl rfl hl.1 (Nat.le_of_ble_eq_true rfl) dX11_tray_28 (fun r6 u7 H locs p_r6 hP hD hS => ?_)
        have hP : va_P g.1 vwCl (wX11 g a_m u7 J_m) H := hP
        have hD : va_D A (wX11 g a_m u7 J_m) := hD
        refine hret 31 ls r6 _ _ (u7, J_m) dX11_tray_31 (is_z p_r6.1) hS hP hD ?_
        exact ⟨(MI.st hM p_r6.2), (KK.st (KK.rf I_m) p_r6.2 (by decide)), Or.inr ⟨is_0 p_r6.1 (by omega), by omega, ST.row p_r6.2 2 (by decide), ST.row p_r6.2 3 (by decide), rfl⟩⟩
      · refine lv_iload_n hx hb dX11_tray_16 rfl (lv_at hl 3 rfl) ?_
        refine q_if_lt (tgt := 26) hx hb dX11_tray_17 (by decide) rfl (fun k_17 => ?_) (fun k_17 => ?_)
        · refine lv_aload_n hx hb dX11_tray_26 rfl (lv_at hl 0 rfl) ?_
          refine lv_iconst (v := 1) hx hb dX11_tray_27 (by decide) ?_
          refine EffI.cv (wr := ([])) (w' := fun u9 => wX11 g a_m u9 J_m) (As := [.int (1 : Int32)]) (kX11_is l g a_m I_m J_m (1 : Int32)) fx (gUV (uT _) u_259 u_260 u_261 u_5 u_262) rfl hdX11_is ⟨Nat.le_of_ble_eq_true rfl, Nat.le_of_ble_eq_true rfl⟩ hK hP hD hS hA [0, 1, 2, 3, 4, 5, 6, 7, 8, 9, 10, 11, 12, 13, 14, 15, 16, 17, 18, 19, 20, 21, 22] [] [0, 1, 2, 3, 4, 5, 6, 7, 8, 9, 10, 11, 12, 13, 14, 15, 16, 17, 18, 19, 20, 21, 22] rfl rfl rfl rfl (by decide) rfl (fun _ => rfl) rfl rfl rfl rfl hl.1 (Nat.le_of_ble_eq_true rfl) dX11_tray_28 (fun r8 u9 H locs p_r8 hP hD hS => ?_)
          have hP : va_P g.1 vwCl (wX11 g a_m u9 J_m) H := hP
          have hD : va_D A (wX11 g a_m u9 J_m) := hD
          refine hret 31 ls r8 _ _ (u9, J_m) dX11_tray_31 (is_z p_r8.1) hS hP hD ?_
          exact ⟨(MI.st hM p_r8.2), (KK.st (KK.rf I_m) p_r8.2 (by decide)), Or.inr ⟨is_0 p_r8.1 (by omega), by omega, ST.row p_r8.2 2 (by decide), ST.row p_r8.2 3 (by decide), rfl⟩⟩
        · refine lv_iload_n hx hb dX11_tray_20 rfl (lv_at hl 3 rfl) ?_
          refine lv_bipush (v := 60) hx hb dX11_tray_21 (by decide) ?_
          refine q_icmp_le (tgt := 32) hx hb dX11_tray_23 (by decide) rfl (by decide : (60 : Int32).toInt = 60) (fun k_23 => ?_) (fun k_23 => ?_)
          · refine lv_aload_n hx hb dX11_tray_32 rfl (lv_at hl 0 rfl) ?_
            refine va_get (D := g.1) (ci := 11) (v := .ref (a_m 2)) (C := RX11) (T := TX11) (N := 46) hx hb hi_X11 (fun _ h => h) hown hK.1 hP 0 rfl rfl 4 (by decide) hf_17 (fun _ h9 => h9) rfl dX11_tray_33 ?_
            refine lv_iload_n hx hb dX11_tray_36 rfl (lv_at hl 1 rfl) ?_
            refine lv_iload_n hx hb dX11_tray_37 rfl (lv_at hl 2 rfl) ?_
            have n_38 : vp_in tray 4 := (t_in (by omega))
            obtain ⟨f10, e_f10⟩ : ∃ z, z = upd (I_m 2) tray.toNatClampNeg sort := ⟨_, rfl⟩
            refine va_iast hx hb hK.1 hP hD hS 2 0 rfl rfl n_38 dX11_tray_38 (fun H locs hP hD hS => ?_)
            have hP : va_P g.1 vwCl (wX11 g a_m (uR I_m 2 f10) J_m) H := by rw [e_f10]; exact hP
            have hD : va_D A (wX11 g a_m (uR I_m 2 f10) J_m) := by rw [e_f10]; exact hD
            have hc_38 : MI (uR I_m 2 f10) := MI.ur hM (by decide)
            have hk_38 : KK [2, 3] [1] I_m (uR I_m 2 f10) := KK.ur (KK.rf I_m) (by decide) (by decide)
            refine lv_aload_n hx hb dX11_tray_39 rfl (lv_at hl 0 rfl) ?_
            refine va_get (D := g.1) (ci := 11) (v := .ref (a_m 3)) (C := RX11) (T := TX11) (N := 46) hx hb hi_X11 (fun _ h => h) hown hK.1 hP 0 rfl rfl 5 (by decide) hf_20 (fun _ h9 => h9) rfl dX11_tray_40 ?_
            refine lv_iload_n hx hb dX11_tray_43 rfl (lv_at hl 1 rfl) ?_
            refine lv_iload_n hx hb dX11_tray_44 rfl (lv_at hl 3 rfl) ?_
            have n_45 : vp_in tray 4 := (t_in (by omega))
            obtain ⟨f11, e_f11⟩ : ∃ z, z = upd (I_m 3) tray.toNatClampNeg many := ⟨_, rfl⟩
            refine va_iast hx hb hK.1 hP hD hS 3 0 rfl rfl n_45 dX11_tray_45 (fun H locs hP hD hS => ?_)
            have hP : va_P g.1 vwCl (wX11 g a_m (uR (uR I_m 2 f10) 3 f11) J_m) H := by rw [e_f11]; exact hP
            have hD : va_D A (wX11 g a_m (uR (uR I_m 2 f10) 3 f11) J_m) := by rw [e_f11]; exact hD
            have hk_45 : KK [2, 3] [1] I_m (uR (uR I_m 2 f10) 3 f11) := KK.ur hk_38 (by decide) (by decide)
            have hc_45 : MI (uR (uR I_m 2 f10) 3 f11) := MI.ut hc_38 e_f11 (by omega)
            refine lv_iconst (v := 0) hx hb dX11_tray_46 (by decide) ?_
            refine lv_istore (lv' := [(4, .int (0 : Int32)), (0, .ref (a_m 0)), (1, .int tray), (2, .int sort), (3, .int many)]) hx hb dX11_tray_47 hl (by decide) rfl (fun ls hl => ?_)
            have L49 : ∀ (nn : Nat) (v4_49 : Int32) (J_m_49 : Nat → Nat → Int64), (hv_49 : 0 ≤ v4_49.toInt ∧ v4_49.toInt ≤ many.toInt) → (hj_49 : ∀ j : Nat, J_m_49 4 j = if tray.toInt * 60 ≤ (j : Int) ∧ (j : Int) < tray.toInt * 60 + v4_49.toInt then 0 else J_m 4 j) → ((61 - v4_49.toInt) < (nn : Int)) → ∀ (H : Heap) (locs : List Loc), va_P g.1 vwCl (wX11 g a_m (uR (uR I_m 2 f10) 3 f11) J_m_49) H → va_D A (wX11 g a_m (uR (uR I_m 2 f10) 3 f11) J_m_49) → va_S A s.heap H locs → ∀ ls : Array Slot, lv_has ls 5 [(4, .int v4_49), (0, .ref (a_m 0)), (1, .int tray), (2, .int sort), (3, .int many)] → W p l e (rm 1) s m args below meth c H locs 0 0 Q (F0 m 49 ls []) := by
              intro n_49
              induction n_49 with
              | zero =>
                intro v4_49 J_m_49 hv_49 hj_49 hms_49 H locs hP hD hS ls hl
                exfalso; omega
              | succ n_49 ih_49 =>
                intro v4_49 J_m_49 hv_49 hj_49 hms_49 H locs hP hD hS ls hl
                refine lv_iload hx hb dX11_tray_49 (lv_at hl 0 rfl) ?_
                refine lv_iload_n hx hb dX11_tray_51 rfl (lv_at hl 4 rfl) ?_
                refine q_icmp_ge (tgt := 74) hx hb dX11_tray_52 (by decide) rfl rfl (fun k_52 => ?_) (fun k_52 => ?_)
                · refine lv_aload_n hx hb dX11_tray_74 rfl (lv_at hl 1 rfl) ?_
                  refine lv_iconst (v := 0) hx hb dX11_tray_75 (by decide) ?_
                  refine EffI.cv (wr := ([])) (w' := fun u13 => wX11 g a_m u13 J_m_49) (As := [.int (0 : Int32)]) (kX11_is l g a_m (uR (uR I_m 2 f10) 3 f11) J_m_49 (0 : Int32)) fx (gUV (uT _) u_259 u_260 u_261 u_5 u_262) rfl hdX11_is ⟨Nat.le_of_ble_eq_true rfl, Nat.le_of_ble_eq_true rfl⟩ hK hP hD hS hA [0, 1, 2, 3, 4, 5, 6, 7, 8, 9, 10, 11, 12, 13, 14, 15, 16, 17, 18, 19, 20, 21, 22] [] [0, 1, 2, 3, 4, 5, 6, 7, 8, 9, 10, 11, 12, 13, 14, 15, 16, 17, 18, 19, 20, 21, 22] rfl rfl rfl rfl (by decide) rfl (fun _ => rfl) rfl rfl rfl rfl hl.1 (Nat.le_of_ble_eq_true rfl) dX11_tray_76 (fun r12 u13 H locs p_r12 hP hD hS => ?_)
                  have hP : va_P g.1 vwCl (wX11 g a_m u13 J_m_49) H := hP
                  have hD : va_D A (wX11 g a_m u13 J_m_49) := hD
                  refine hret 79 ls r12 _ _ (u13, J_m_49) dX11_tray_79 (is_z p_r12.1) hS hP hD ?_
                  exact ⟨(MI.st hc_45 p_r12.2), (KK.st hk_45 p_r12.2 (by decide)), Or.inl ⟨is_1 p_r12.1 (by omega), by omega, by omega, by omega, by omega, by omega, by omega, (ST.row p_r12.2 2 (by decide)).trans e_f10, (ST.row p_r12.2 3 (by decide)).trans e_f11, fun j => by rw [← (by omega : v4_49.toInt = many.toInt)]; exact hj_49 j⟩⟩
                · refine lv_aload_n hx hb dX11_tray_55 rfl (lv_at hl 1 rfl) ?_
                  refine va_get (D := g.1) (ci := 11) (v := .ref (a_m 4)) (C := RX11) (T := TX11) (N := 46) hx hb hi_X11 (fun _ h => h) hown hK.1 hP 0 rfl rfl 6 (by decide) hf_23 (fun _ h9 => h9) rfl dX11_tray_56 ?_
                  refine lv_bipush (v := 60) hx hb dX11_tray_59 (by decide) ?_
                  refine lv_iload_n hx hb dX11_tray_61 rfl (lv_at hl 2 rfl) ?_
                  refine r_imul hx hb dX11_tray_62 (by decide : (60 : Int32).toInt = 60) rfl (fun x14 e_x14 t_x14 => ?_)
                  try have t_x14 := t_x14 (by omega)
                  refine lv_iload hx hb dX11_tray_63 (lv_at hl 0 rfl) ?_
                  refine r_iadd hx hb dX11_tray_65 rfl rfl (fun x15 e_x15 t_x15 => ?_)
                  try have t_x15 := t_x15 (by omega)
                  refine lv_lconst (v := 0) hx hb dX11_tray_66 (by decide) ?_
                  have n_67 : vp_in x15 240 := (t_in (by omega))
                  obtain ⟨f16, e_f16⟩ : ∃ z, z = vp_updL (J_m_49 4) x15.toNatClampNeg (0 : Int64) := ⟨_, rfl⟩
                  refine va_last hx hb hK.1 hP hD hS 4 1 rfl rfl n_67 dX11_tray_67 (fun H locs hP hD hS => ?_)
                  have hP : va_P g.1 vwCl (wX11 g a_m (uR (uR I_m 2 f10) 3 f11) (vR J_m_49 4 f16)) H := by rw [e_f16]; exact hP
                  have hD : va_D A (wX11 g a_m (uR (uR I_m 2 f10) 3 f11) (vR J_m_49 4 f16)) := by rw [e_f16]; exact hD
                  refine r_iinc (lv' := fun i17 => [(4, .int i17), (0, .ref (a_m 0)), (1, .int tray), (2, .int sort), (3, .int many)]) hx hb dX11_tray_68 hl (k := 0) rfl (by decide) rfl (by decide) (fun _ => rfl) (fun i17 e_i17 t_i17 ls hl => ?_)
                  try have t_i17 := t_i17 (by omega)
                  refine lv_goto (tgt := 49) hx hb dX11_tray_71 (by decide) ?_
                  exact ih_49 i17 (vR J_m_49 4 f16) (by omega) (fun j => lay4 hj_49 e_f16 (by show (((x15).toInt.toNat : Nat) : Int) = _; omega) (by omega) (by omega) j) (by omega) _ _ hP hD hS ls hl
            exact L49 ((61 - (0 : Int32).toInt) + 1).toNat (0 : Int32) J_m (by omega) (fun j => by rw [if_neg (by rw [lm0]; omega)]) (by omega) _ _ hP hD hS ls hl
          · refine lv_aload_n hx hb dX11_tray_26 rfl (lv_at hl 0 rfl) ?_
            refine lv_iconst (v := 1) hx hb dX11_tray_27 (by decide) ?_
            refine EffI.cv (wr := ([])) (w' := fun u19 => wX11 g a_m u19 J_m) (As := [.int (1 : Int32)]) (kX11_is l g a_m I_m J_m (1 : Int32)) fx (gUV (uT _) u_259 u_260 u_261 u_5 u_262) rfl hdX11_is ⟨Nat.le_of_ble_eq_true rfl, Nat.le_of_ble_eq_true rfl⟩ hK hP hD hS hA [0, 1, 2, 3, 4, 5, 6, 7, 8, 9, 10, 11, 12, 13, 14, 15, 16, 17, 18, 19, 20, 21, 22] [] [0, 1, 2, 3, 4, 5, 6, 7, 8, 9, 10, 11, 12, 13, 14, 15, 16, 17, 18, 19, 20, 21, 22] rfl rfl rfl rfl (by decide) rfl (fun _ => rfl) rfl rfl rfl rfl hl.1 (Nat.le_of_ble_eq_true rfl) dX11_tray_28 (fun r18 u19 H locs p_r18 hP hD hS => ?_)
            have hP : va_P g.1 vwCl (wX11 g a_m u19 J_m) H := hP
            have hD : va_D A (wX11 g a_m u19 J_m) := hD
            refine hret 31 ls r18 _ _ (u19, J_m) dX11_tray_31 (is_z p_r18.1) hS hP hD ?_
            exact ⟨(MI.st hM p_r18.2), (KK.st (KK.rf I_m) p_r18.2 (by decide)), Or.inr ⟨is_0 p_r18.1 (by omega), by omega, ST.row p_r18.2 2 (by decide), ST.row p_r18.2 3 (by decide), rfl⟩⟩

set_option maxHeartbeats 4000000 in
set_option maxRecDepth 100000 in
theorem kX11_wrongPlace (l : Launch) (g : gG) (a_m : Nat → Nat) (I_m : Nat → Nat → Int32) (J_m : Nat → Nat → Int64) (tray : Int32) (place : Int32) (hM : MI I_m) : PurI l g yX11_wrongPlace wsX11_wrongPlace 1 [.ref (a_m 0), .int tray, .int place] (wX11 g a_m I_m J_m) (fun r => (r.toInt = 1 ∧ ¬ (0 ≤ tray.toInt ∧ tray.toInt < 4)) ∨ ((0 ≤ tray.toInt ∧ tray.toInt < 4) ∧ ((r.toInt = 2 ∧ (I_m 3 tray.toNatClampNeg).toInt = -1) ∨ ((I_m 3 tray.toNatClampNeg).toInt ≠ -1 ∧ ((r.toInt = 3 ∧ ¬ (0 ≤ place.toInt ∧ place.toInt < (I_m 3 tray.toNatClampNeg).toInt)) ∨ (r.toInt = 0 ∧ 0 ≤ place.toInt ∧ place.toInt < (I_m 3 tray.toNatClampNeg).toInt)))))) := by
  refine PurI.st (cc := cX11_wrongPlace) (maxL := 3) (by decide) rfl (Nat.le_of_ble_eq_true rfl) (fun p e s m args below meth c Q ls fx hK hP hl hret => ?_)
  have hx := fx.1
  have hb := fx.2.1
  have hml := fx.2.2.1
  have hown := fx.2.2.2.1
  have hts := fx.2.2.2.2
  have hl : lv_has ls 3 [(0, .ref (a_m 0)), (1, .int tray), (2, .int place)] := hl
  have hP : va_P g.1 vwCl (wX11 g a_m I_m J_m) s.heap := hP
  have hf_20 := hts _ (uT _ _ u_173)
  have hi_X11 : ∀ w ∈ wsX110, w.before args s = true := fun w h => hts w (uT _ w (u_wsX110 w h))
  have lm1 : (-1 : Int32).toInt = -1 := by decide
  have lm0 : (0 : Int32).toInt = 0 := by decide
  have lm2 : (1 : Int32).toInt = 1 := by decide
  have lq2 : (2 : Int32).toInt = 2 := by decide
  have lq3 : (3 : Int32).toInt = 3 := by decide
  refine lv_iload_n hx hb dX11_wrongPlace_0 rfl (lv_at hl 1 rfl) ?_
  refine PurI.cs (C := RX11) (As := [.int tray]) (kX11_isTray l g tray) fx (gUS (uT _) u_256 u_257 u_5 u_258) rfl hdX11_isTray ⟨Nat.le_of_ble_eq_true rfl, Nat.le_of_ble_eq_true rfl⟩ hK hP [] rfl rfl rfl hl.1 (Nat.le_of_ble_eq_true rfl) dX11_wrongPlace_1 (fun r1 p_r1 => ?_)
  refine q_if_ne (tgt := 11) hx hb dX11_wrongPlace_4 (by decide) rfl (fun b_4 k_4 => ?_) (fun b_4 k_4 => ?_)
  · have q_4 := bP.t p_r1 b_4
    refine lv_aload_n hx hb dX11_wrongPlace_11 rfl (lv_at hl 0 rfl) ?_
    refine va_get (D := g.1) (ci := 11) (v := .ref (a_m 3)) (C := RX11) (T := TX11) (N := 46) hx hb hi_X11 (fun _ h => h) hown hK.1 hP 0 rfl rfl 5 (by decide) hf_20 (fun _ h9 => h9) rfl dX11_wrongPlace_12 ?_
    refine lv_iload_n hx hb dX11_wrongPlace_15 rfl (lv_at hl 1 rfl) ?_
    have n_16 : vp_in tray 4 := (t_in (by omega))
    refine va_iald hx hb hK.1 hP 3 0 rfl rfl n_16 dX11_wrongPlace_16 ?_
    refine q_nm (fun x2 e_x2 => ?_)
    have e_x2 : x2 = (I_m 3) tray.toNatClampNeg := e_x2
    have g_x2 : x2.toInt = ((I_m 3) tray.toNatClampNeg).toInt := congrArg _ e_x2
    refine lv_iconst (v := -1) hx hb dX11_wrongPlace_17 (by decide) ?_
    refine q_icmp_ne (tgt := 25) hx hb dX11_wrongPlace_18 (by decide) rfl (by decide : (-1 : Int32).toInt = -1) (fun k_18 => ?_) (fun k_18 => ?_)
    · refine lv_iload_n hx hb dX11_wrongPlace_25 rfl (lv_at hl 2 rfl) ?_
      refine q_if_lt (tgt := 39) hx hb dX11_wrongPlace_26 (by decide) rfl (fun k_26 => ?_) (fun k_26 => ?_)
      · refine lv_iconst (v := 3) hx hb dX11_wrongPlace_39 (by decide) ?_
        refine lv_goto (tgt := 44) hx hb dX11_wrongPlace_40 (by decide) ?_
        have lr : (3 : Int32).toInt = 3 := by decide
        exact hret 44 ls (3 : Int32) dX11_wrongPlace_44 (by first | omega | (rw [← e_x2]; omega))
      · refine lv_iload_n hx hb dX11_wrongPlace_29 rfl (lv_at hl 2 rfl) ?_
        refine lv_aload_n hx hb dX11_wrongPlace_30 rfl (lv_at hl 0 rfl) ?_
        refine va_get (D := g.1) (ci := 11) (v := .ref (a_m 3)) (C := RX11) (T := TX11) (N := 46) hx hb hi_X11 (fun _ h => h) hown hK.1 hP 0 rfl rfl 5 (by decide) hf_20 (fun _ h9 => h9) rfl dX11_wrongPlace_31 ?_
        refine lv_iload_n hx hb dX11_wrongPlace_34 rfl (lv_at hl 1 rfl) ?_
        have n_35 : vp_in tray 4 := (t_in (by omega))
        refine va_iald hx hb hK.1 hP 3 0 rfl rfl n_35 dX11_wrongPlace_35 ?_
        refine q_nm (fun x3 e_x3 => ?_)
        have e_x3 : x3 = (I_m 3) tray.toNatClampNeg := e_x3
        have g_x3 : x3.toInt = ((I_m 3) tray.toNatClampNeg).toInt := congrArg _ e_x3
        refine q_icmp_lt (tgt := 43) hx hb dX11_wrongPlace_36 (by decide) rfl rfl (fun k_36 => ?_) (fun k_36 => ?_)
        · refine lv_iconst (v := 0) hx hb dX11_wrongPlace_43 (by decide) ?_
          exact hret 44 ls (0 : Int32) dX11_wrongPlace_44 (by first | omega | (rw [← e_x2]; omega))
        · refine lv_iconst (v := 3) hx hb dX11_wrongPlace_39 (by decide) ?_
          refine lv_goto (tgt := 44) hx hb dX11_wrongPlace_40 (by decide) ?_
          have lr : (3 : Int32).toInt = 3 := by decide
          exact hret 44 ls (3 : Int32) dX11_wrongPlace_44 (by first | omega | (rw [← e_x2]; omega))
    · refine lv_iconst (v := 2) hx hb dX11_wrongPlace_21 (by decide) ?_
      refine lv_goto (tgt := 44) hx hb dX11_wrongPlace_22 (by decide) ?_
      have lr : (2 : Int32).toInt = 2 := by decide
      exact hret 44 ls (2 : Int32) dX11_wrongPlace_44 (by first | omega | (rw [← e_x2]; omega))
  · have q_4 := bP.f p_r1 b_4
    refine lv_iconst (v := 1) hx hb dX11_wrongPlace_7 (by decide) ?_
    refine lv_goto (tgt := 44) hx hb dX11_wrongPlace_8 (by decide) ?_
    have lr : (1 : Int32).toInt = 1 := by decide
    exact hret 44 ls (1 : Int32) dX11_wrongPlace_44 (by omega)

set_option maxHeartbeats 4000000 in
set_option maxRecDepth 100000 in
theorem kX11_write (l : Launch) (g : gG) (a_m : Nat → Nat) (I_m : Nat → Nat → Int32) (J_m : Nat → Nat → Int64) (tray : Int32) (place : Int32) (v : Int64) (hM : MI I_m) : EffI l g yX11_write wsX11_write 2 [.ref (a_m 0), .int tray, .int place, .long v] (wX11 g a_m I_m J_m) (fun (u : ((Nat → Nat → Int32) × (Nat → Nat → Int64))) => wX11 g a_m (u.1) (u.2)) (fun r (u : ((Nat → Nat → Int32) × (Nat → Nat → Int64))) => KK [] [1] I_m (u.1) ∧ ((r = 1 ∧ ((0 ≤ tray.toInt ∧ tray.toInt < 4) ∧ (0 ≤ place.toInt ∧ place.toInt < (I_m 3 tray.toNatClampNeg).toInt)) ∧ (u.2) 4 = vp_updL (J_m 4) (tray.toInt * 60 + place.toInt).toNat (cutL v (I_m 2 tray.toNatClampNeg))) ∨ (r = 0 ∧ ¬ ((0 ≤ tray.toInt ∧ tray.toInt < 4) ∧ (0 ≤ place.toInt ∧ place.toInt < (I_m 3 tray.toNatClampNeg).toInt)) ∧ (u.2) 4 = J_m 4))) := by
  refine EffI.sz (cc := cX11_write) (maxL := 6) (by decide) rfl (Nat.le_of_ble_eq_true rfl) (fun p e s m args below meth c A Q ls fx hK hP hD hA hS hl hret => ?_)
  have hx := fx.1
  have hb := fx.2.1
  have hml := fx.2.2.1
  have hown := fx.2.2.2.1
  have hts := fx.2.2.2.2
  have hl : lv_has ls 6 [(0, .ref (a_m 0)), (1, .int tray), (2, .int place), (3, .long v)] := hl
  have hP : va_P g.1 vwCl (wX11 g a_m I_m J_m) s.heap := hP
  have hf_17 := hts _ (uT _ _ u_172)
  have hf_23 := hts _ (uT _ _ u_174)
  have hi_X11 : ∀ w ∈ wsX110, w.before args s = true := fun w h => hts w (uT _ w (u_wsX110 w h))
  have lm1 : (-1 : Int32).toInt = -1 := by decide
  have lm0 : (0 : Int32).toInt = 0 := by decide
  have lm2 : (1 : Int32).toInt = 1 := by decide
  have hdz := hM.tm tray.toNatClampNeg
  have lq60 : (60 : Int32).toInt = 60 := by decide
  refine lv_aload_n hx hb dX11_write_0 rfl (lv_at hl 0 rfl) ?_
  refine lv_iload_n hx hb dX11_write_1 rfl (lv_at hl 1 rfl) ?_
  refine lv_iload_n hx hb dX11_write_2 rfl (lv_at hl 2 rfl) ?_
  refine PurI.cv (As := [.int tray, .int place]) (kX11_wrongPlace l g a_m I_m J_m tray place hM) fx (gUV (uT _) u_284 u_285 u_286 u_5 u_287) rfl hdX11_wrongPlace ⟨Nat.le_of_ble_eq_true rfl, Nat.le_of_ble_eq_true rfl⟩ hK hP [0, 1, 2, 3, 4, 5, 6, 7, 8, 9, 10, 11, 12, 13, 14, 15, 16, 17, 18, 19, 20, 21, 22] rfl rfl rfl rfl rfl hl.1 (Nat.le_of_ble_eq_true rfl) dX11_write_3 (fun r1 p_r1 => ?_)
  refine lv_istore (lv' := [(5, .int r1), (0, .ref (a_m 0)), (1, .int tray), (2, .int place), (3, .long v)]) hx hb dX11_write_6 hl (by decide) rfl (fun ls hl => ?_)
  refine lv_iload hx hb dX11_write_8 (lv_at hl 0 rfl) ?_
  refine q_if_ne (tgt := 34) hx hb dX11_write_10 (by decide) rfl (fun b_10 k_10 => ?_) (fun b_10 k_10 => ?_)
  · refine lv_aload_n hx hb dX11_write_34 rfl (lv_at hl 1 rfl) ?_
    refine lv_iload hx hb dX11_write_35 (lv_at hl 0 rfl) ?_
    refine EffI.cv (wr := ([])) (w' := fun u3 => wX11 g a_m u3 J_m) (As := [.int r1]) (kX11_is l g a_m I_m J_m r1) fx (gUV (uT _) u_259 u_260 u_261 u_5 u_262) rfl hdX11_is ⟨Nat.le_of_ble_eq_true rfl, Nat.le_of_ble_eq_true rfl⟩ hK hP hD hS hA [0, 1, 2, 3, 4, 5, 6, 7, 8, 9, 10, 11, 12, 13, 14, 15, 16, 17, 18, 19, 20, 21, 22] [] [0, 1, 2, 3, 4, 5, 6, 7, 8, 9, 10, 11, 12, 13, 14, 15, 16, 17, 18, 19, 20, 21, 22] rfl rfl rfl rfl (by decide) rfl (fun _ => rfl) rfl rfl rfl rfl hl.1 (Nat.le_of_ble_eq_true rfl) dX11_write_37 (fun r2 u3 H locs p_r2 hP hD hS => ?_)
    have hP : va_P g.1 vwCl (wX11 g a_m u3 J_m) H := hP
    have hD : va_D A (wX11 g a_m u3 J_m) := hD
    refine hret 40 ls r2 _ _ (u3, J_m) dX11_write_40 (is_z p_r2.1) hS hP hD ?_
    exact ⟨(KK.st (KK.rf I_m) p_r2.2 (by decide)), (by have q3 := p_r1; exact Or.inr ⟨is_0 p_r2.1 (by omega), by omega, rfl⟩)⟩
  · refine lv_aload_n hx hb dX11_write_13 rfl (lv_at hl 1 rfl) ?_
    refine va_get (D := g.1) (ci := 11) (v := .ref (a_m 4)) (C := RX11) (T := TX11) (N := 46) hx hb hi_X11 (fun _ h => h) hown hK.1 hP 0 rfl rfl 6 (by decide) hf_23 (fun _ h9 => h9) rfl dX11_write_14 ?_
    refine lv_bipush (v := 60) hx hb dX11_write_17 (by decide) ?_
    refine lv_iload_n hx hb dX11_write_19 rfl (lv_at hl 2 rfl) ?_
    refine r_imul hx hb dX11_write_20 (by decide : (60 : Int32).toInt = 60) rfl (fun x4 e_x4 t_x4 => ?_)
    try have t_x4 := t_x4 (by omega)
    refine lv_iload_n hx hb dX11_write_21 rfl (lv_at hl 3 rfl) ?_
    refine r_iadd hx hb dX11_write_22 rfl rfl (fun x5 e_x5 t_x5 => ?_)
    try have t_x5 := t_x5 (by omega)
    refine lv_lload_n hx hb dX11_write_23 rfl (lv_at hl 4 rfl) ?_
    refine lv_aload_n hx hb dX11_write_24 rfl (lv_at hl 1 rfl) ?_
    refine va_get (D := g.1) (ci := 11) (v := .ref (a_m 2)) (C := RX11) (T := TX11) (N := 46) hx hb hi_X11 (fun _ h => h) hown hK.1 hP 0 rfl rfl 4 (by decide) hf_17 (fun _ h9 => h9) rfl dX11_write_25 ?_
    refine lv_iload_n hx hb dX11_write_28 rfl (lv_at hl 2 rfl) ?_
    have n_29 : vp_in tray 4 := (t_in (by omega))
    refine va_iald hx hb hK.1 hP 2 0 rfl rfl n_29 dX11_write_29 ?_
    refine q_nm (fun x6 e_x6 => ?_)
    have e_x6 : x6 = (I_m 2) tray.toNatClampNeg := e_x6
    have g_x6 : x6.toInt = ((I_m 2) tray.toNatClampNeg).toInt := congrArg _ e_x6
    refine PurL.cs (C := RX11) (As := [.long v, .int x6]) (kX11_cut l g v x6) fx (gUS (uT _) u_288 u_289 u_5 u_290) rfl hdX11_cut ⟨Nat.le_of_ble_eq_true rfl, Nat.le_of_ble_eq_true rfl⟩ hK hP [] rfl rfl rfl hl.1 (Nat.le_of_ble_eq_true rfl) dX11_write_30 (fun w7 p_w7 => ?_)
    have n_33 : vp_in x5 240 := (t_in (by omega))
    obtain ⟨f8, e_f8⟩ : ∃ z, z = vp_updL (J_m 4) x5.toNatClampNeg w7 := ⟨_, rfl⟩
    refine va_last hx hb hK.1 hP hD hS 4 1 rfl rfl n_33 dX11_write_33 (fun H locs hP hD hS => ?_)
    have hP : va_P g.1 vwCl (wX11 g a_m I_m (vR J_m 4 f8)) H := by rw [e_f8]; exact hP
    have hD : va_D A (wX11 g a_m I_m (vR J_m 4 f8)) := by rw [e_f8]; exact hD
    refine lv_aload_n hx hb dX11_write_34 rfl (lv_at hl 1 rfl) ?_
    refine lv_iload hx hb dX11_write_35 (lv_at hl 0 rfl) ?_
    refine EffI.cv (wr := ([])) (w' := fun u10 => wX11 g a_m u10 (vR J_m 4 f8)) (As := [.int r1]) (kX11_is l g a_m I_m (vR J_m 4 f8) r1) fx (gUV (uT _) u_259 u_260 u_261 u_5 u_262) rfl hdX11_is ⟨Nat.le_of_ble_eq_true rfl, Nat.le_of_ble_eq_true rfl⟩ hK hP hD hS hA [0, 1, 2, 3, 4, 5, 6, 7, 8, 9, 10, 11, 12, 13, 14, 15, 16, 17, 18, 19, 20, 21, 22] [] [0, 1, 2, 3, 4, 5, 6, 7, 8, 9, 10, 11, 12, 13, 14, 15, 16, 17, 18, 19, 20, 21, 22] rfl rfl rfl rfl (by decide) rfl (fun _ => rfl) rfl rfl rfl rfl hl.1 (Nat.le_of_ble_eq_true rfl) dX11_write_37 (fun r9 u10 H locs p_r9 hP hD hS => ?_)
    have hP : va_P g.1 vwCl (wX11 g a_m u10 (vR J_m 4 f8)) H := hP
    have hD : va_D A (wX11 g a_m u10 (vR J_m 4 f8)) := hD
    refine hret 40 ls r9 _ _ (u10, (vR J_m 4 f8)) dX11_write_40 (is_z p_r9.1) hS hP hD ?_
    exact ⟨(KK.st (KK.rf I_m) p_r9.2 (by decide)), (by have q3 := p_r1; first | exact Or.inl ⟨is_1 p_r9.1 (by omega), by omega, put_ok e_f8 (by show (x5).toInt.toNat = _; congr 1; omega) (by rw [p_w7, e_x6])⟩ | exact Or.inr ⟨is_0 p_r9.1 (by omega), by omega, rfl⟩)⟩

set_option maxHeartbeats 4000000 in
set_option maxRecDepth 100000 in
theorem kX11_read (l : Launch) (g : gG) (a_m : Nat → Nat) (I_m : Nat → Nat → Int32) (J_m : Nat → Nat → Int64) (tray : Int32) (place : Int32) (hM : MI I_m) : EffL l g yX11_read wsX11_read 2 [.ref (a_m 0), .int tray, .int place] (wX11 g a_m I_m J_m) (fun (u : (Nat → Nat → Int32)) => wX11 g a_m u J_m) (fun r (u : (Nat → Nat → Int32)) => KK [] [1] I_m (u) ∧ ((((0 ≤ tray.toInt ∧ tray.toInt < 4) ∧ (0 ≤ place.toInt ∧ place.toInt < (I_m 3 tray.toNatClampNeg).toInt)) ∧ r = J_m 4 (tray.toInt * 60 + place.toInt).toNat) ∨ (¬ ((0 ≤ tray.toInt ∧ tray.toInt < 4) ∧ (0 ≤ place.toInt ∧ place.toInt < (I_m 3 tray.toNatClampNeg).toInt)) ∧ r = -1))) := by
  refine EffL.st (cc := cX11_read) (maxL := 3) (by decide) rfl (Nat.le_of_ble_eq_true rfl) (fun p e s m args below meth c A Q ls fx hK hP hD hA hS hl hret => ?_)
  have hx := fx.1
  have hb := fx.2.1
  have hml := fx.2.2.1
  have hown := fx.2.2.2.1
  have hts := fx.2.2.2.2
  have hl : lv_has ls 3 [(0, .ref (a_m 0)), (1, .int tray), (2, .int place)] := hl
  have hP : va_P g.1 vwCl (wX11 g a_m I_m J_m) s.heap := hP
  have hf_23 := hts _ (uT _ _ u_174)
  have hf_99 := hts _ (uT _ _ u_210)
  have hi_X11 : ∀ w ∈ wsX110, w.before args s = true := fun w h => hts w (uT _ w (u_wsX110 w h))
  have lm1 : (-1 : Int32).toInt = -1 := by decide
  have lm0 : (0 : Int32).toInt = 0 := by decide
  have lm2 : (1 : Int32).toInt = 1 := by decide
  have hdz := hM.tm tray.toNatClampNeg
  have lq60 : (60 : Int32).toInt = 60 := by decide
  refine lv_aload_n hx hb dX11_read_0 rfl (lv_at hl 0 rfl) ?_
  refine lv_aload_n hx hb dX11_read_1 rfl (lv_at hl 0 rfl) ?_
  refine lv_iload_n hx hb dX11_read_2 rfl (lv_at hl 1 rfl) ?_
  refine lv_iload_n hx hb dX11_read_3 rfl (lv_at hl 2 rfl) ?_
  refine PurI.cv (As := [.int tray, .int place]) (kX11_wrongPlace l g a_m I_m J_m tray place hM) fx (gUV (uT _) u_284 u_285 u_286 u_5 u_287) rfl hdX11_wrongPlace ⟨Nat.le_of_ble_eq_true rfl, Nat.le_of_ble_eq_true rfl⟩ hK hP [0, 1, 2, 3, 4, 5, 6, 7, 8, 9, 10, 11, 12, 13, 14, 15, 16, 17, 18, 19, 20, 21, 22] rfl rfl rfl rfl rfl hl.1 (Nat.le_of_ble_eq_true rfl) dX11_read_4 (fun r1 p_r1 => ?_)
  refine va_put (D := g.1) (ci := 11) (v := .int r1) (ty := .int) (C := RX11) (T := TX11) (N := 46) hx hb hi_X11 (fun _ h => h) tyX11 tyX11_ok nmX11 hown hK.1 hP hD hS 0 rfl rfl 1 (by decide) hf_99 (fun _ h9 => h9) rfl (by decide +kernel) rfl rfl (Nat.le_of_ble_eq_true rfl) dX11_read_7 (fun H locs hP hD hS => ?_)
  have hP : va_P g.1 vwCl (wX11 g a_m (uF I_m 0 1 r1) J_m) H := hP
  have hD : va_D A (wX11 g a_m (uF I_m 0 1 r1) J_m) := hD
  have hc_7 : MI (uF I_m 0 1 r1) := MI.uf hM (by decide)
  have hk_7 : KK [] [1] I_m (uF I_m 0 1 r1) := KK.uf (KK.rf I_m) (by decide)
  refine lv_aload_n hx hb dX11_read_10 rfl (lv_at hl 0 rfl) ?_
  refine va_get (D := g.1) (ci := 11) (v := .int r1) (C := RX11) (T := TX11) (N := 46) hx hb hi_X11 (fun _ h => h) hown hK.1 hP 0 rfl rfl 1 (by decide) hf_99 (fun _ h9 => h9) rfl dX11_read_11 ?_
  refine q_if_le (tgt := 23) hx hb dX11_read_14 (by decide) rfl (fun k_14 => ?_) (fun k_14 => ?_)
  · refine lv_aload_n hx hb dX11_read_23 rfl (lv_at hl 0 rfl) ?_
    refine va_get (D := g.1) (ci := 11) (v := .ref (a_m 4)) (C := RX11) (T := TX11) (N := 46) hx hb hi_X11 (fun _ h => h) hown hK.1 hP 0 rfl rfl 6 (by decide) hf_23 (fun _ h9 => h9) rfl dX11_read_24 ?_
    refine lv_bipush (v := 60) hx hb dX11_read_27 (by decide) ?_
    refine lv_iload_n hx hb dX11_read_29 rfl (lv_at hl 1 rfl) ?_
    refine r_imul hx hb dX11_read_30 (by decide : (60 : Int32).toInt = 60) rfl (fun x2 e_x2 t_x2 => ?_)
    try have t_x2 := t_x2 (by omega)
    refine lv_iload_n hx hb dX11_read_31 rfl (lv_at hl 2 rfl) ?_
    refine r_iadd hx hb dX11_read_32 rfl rfl (fun x3 e_x3 t_x3 => ?_)
    try have t_x3 := t_x3 (by omega)
    have n_33 : vp_in x3 240 := (t_in (by omega))
    refine va_lald hx hb hK.1 hP 4 1 rfl rfl n_33 dX11_read_33 ?_
    refine q_nml (fun w4 e_w4 => ?_)
    have e_w4 : w4 = (J_m 4) x3.toNatClampNeg := e_w4
    refine hret 34 ls w4 _ _ (uF I_m 0 1 r1) dX11_read_34 hS hP hD ?_
    exact ⟨hk_7, (by have q3 := p_r1; first | exact Or.inl ⟨by omega, by rw [e_w4]; show J_m 4 (x3).toInt.toNat = _; congr 2; omega⟩ | exact Or.inr ⟨by omega, rfl⟩)⟩
  · refine lv_ldc2 hx hb hown (hts _ (uT _ _ u_307)) dX11_read_17 ?_
    refine lv_goto (tgt := 34) hx hb dX11_read_20 (by decide) ?_
    refine hret 34 ls (-1 : Int64) _ _ (uF I_m 0 1 r1) dX11_read_34 hS hP hD ?_
    exact ⟨hk_7, (by have q3 := p_r1; exact Or.inr ⟨by omega, rfl⟩)⟩

set_option maxHeartbeats 4000000 in
set_option maxRecDepth 100000 in
theorem kX11_pour (l : Launch) (g : gG) (a_m : Nat → Nat) (I_m : Nat → Nat → Int32) (J_m : Nat → Nat → Int64) (fr : Int32) (place : Int32) (to : Int32) (ia : Int32) (many : Int32) (hM : MI I_m) : EffI l g yX11_pour wsX11_pour 1 [.ref (a_m 0), .int fr, .int place, .int to, .int ia, .int many] (wX11 g a_m I_m J_m) (fun (u : ((Nat → Nat → Int32) × (Nat → Nat → Int64))) => wX11 g a_m (u.1) (u.2)) (fun r (u : ((Nat → Nat → Int32) × (Nat → Nat → Int64))) => KK [] [1] I_m (u.1) ∧ ((r = 1 ∧ ((0 ≤ fr.toInt ∧ fr.toInt < 4 ∧ 0 ≤ to.toInt ∧ to.toInt < 4 ∧ 0 ≤ place.toInt ∧ 0 ≤ ia.toInt ∧ 0 ≤ many.toInt) ∧ ¬ (I_m 3 fr.toNatClampNeg).toInt = -1 ∧ ¬ (I_m 3 to.toNatClampNeg).toInt = -1 ∧ (I_m 2 fr.toNatClampNeg).toInt = (I_m 2 to.toNatClampNeg).toInt ∧ place.toInt + many.toInt ≤ (I_m 3 fr.toNatClampNeg).toInt ∧ ia.toInt + many.toInt ≤ (I_m 3 to.toNatClampNeg).toInt) ∧ (u.2) 4 = va_cpy (J_m 4) (J_m 4) (fr.toInt * 60 + place.toInt).toNat (to.toInt * 60 + ia.toInt).toNat many.toInt.toNat) ∨ (r = 0 ∧ ¬ ((0 ≤ fr.toInt ∧ fr.toInt < 4 ∧ 0 ≤ to.toInt ∧ to.toInt < 4 ∧ 0 ≤ place.toInt ∧ 0 ≤ ia.toInt ∧ 0 ≤ many.toInt) ∧ ¬ (I_m 3 fr.toNatClampNeg).toInt = -1 ∧ ¬ (I_m 3 to.toNatClampNeg).toInt = -1 ∧ (I_m 2 fr.toNatClampNeg).toInt = (I_m 2 to.toNatClampNeg).toInt ∧ place.toInt + many.toInt ≤ (I_m 3 fr.toNatClampNeg).toInt ∧ ia.toInt + many.toInt ≤ (I_m 3 to.toNatClampNeg).toInt) ∧ (u.2) 4 = J_m 4))) := by
  refine EffI.sz (cc := cX11_pour) (maxL := 8) (by decide) rfl (Nat.le_of_ble_eq_true rfl) (fun p e s m args below meth c A Q ls fx hK hP hD hA hS hl hret => ?_)
  have hx := fx.1
  have hb := fx.2.1
  have hml := fx.2.2.1
  have hown := fx.2.2.2.1
  have hts := fx.2.2.2.2
  have hl : lv_has ls 8 [(0, .ref (a_m 0)), (1, .int fr), (2, .int place), (3, .int to), (4, .int ia), (5, .int many)] := hl
  have hP : va_P g.1 vwCl (wX11 g a_m I_m J_m) s.heap := hP
  have hf_17 := hts _ (uT _ _ u_172)
  have hf_20 := hts _ (uT _ _ u_173)
  have hf_23 := hts _ (uT _ _ u_174)
  have hi_X11 : ∀ w ∈ wsX110, w.before args s = true := fun w h => hts w (uT _ w (u_wsX110 w h))
  have lm1 : (-1 : Int32).toInt = -1 := by decide
  have lm0 : (0 : Int32).toInt = 0 := by decide
  have lm2 : (1 : Int32).toInt = 1 := by decide
  have rg_place := t_rng place
  have rg_ia := t_rng ia
  have rg_many := t_rng many
  have lq2 : (2 : Int32).toInt = 2 := by decide
  have lq3 : (3 : Int32).toInt = 3 := by decide
  have hdz := hM.tm fr.toNatClampNeg
  have hdz2 := hM.tm to.toNatClampNeg
  have lq60 : (60 : Int32).toInt = 60 := by decide
  have lq8 : (8 : Int32).toInt = 8 := by decide
  refine lv_iload_n hx hb dX11_pour_0 rfl (lv_at hl 1 rfl) ?_
  refine PurI.cs (C := RX11) (As := [.int fr]) (kX11_isTray l g fr) fx (gUS (uT _) u_256 u_257 u_5 u_258) rfl hdX11_isTray ⟨Nat.le_of_ble_eq_true rfl, Nat.le_of_ble_eq_true rfl⟩ hK hP [] rfl rfl rfl hl.1 (Nat.le_of_ble_eq_true rfl) dX11_pour_1 (fun r1 p_r1 => ?_)
  refine q_if_eq (tgt := 28) hx hb dX11_pour_4 (by decide) rfl (fun b_4 k_4 => ?_) (fun b_4 k_4 => ?_)
  · have q_4 := bP.f p_r1 b_4
    refine lv_aload_n hx hb dX11_pour_28 rfl (lv_at hl 0 rfl) ?_
    refine lv_iconst (v := 1) hx hb dX11_pour_29 (by decide) ?_
    refine EffI.cv (wr := ([])) (w' := fun u3 => wX11 g a_m u3 J_m) (As := [.int (1 : Int32)]) (kX11_is l g a_m I_m J_m (1 : Int32)) fx (gUV (uT _) u_259 u_260 u_261 u_5 u_262) rfl hdX11_is ⟨Nat.le_of_ble_eq_true rfl, Nat.le_of_ble_eq_true rfl⟩ hK hP hD hS hA [0, 1, 2, 3, 4, 5, 6, 7, 8, 9, 10, 11, 12, 13, 14, 15, 16, 17, 18, 19, 20, 21, 22] [] [0, 1, 2, 3, 4, 5, 6, 7, 8, 9, 10, 11, 12, 13, 14, 15, 16, 17, 18, 19, 20, 21, 22] rfl rfl rfl rfl (by decide) rfl (fun _ => rfl) rfl rfl rfl rfl hl.1 (Nat.le_of_ble_eq_true rfl) dX11_pour_30 (fun r2 u3 H locs p_r2 hP hD hS => ?_)
    have hP : va_P g.1 vwCl (wX11 g a_m u3 J_m) H := hP
    have hD : va_D A (wX11 g a_m u3 J_m) := hD
    refine hret 33 ls r2 _ _ (u3, J_m) dX11_pour_33 (is_z p_r2.1) hS hP hD ?_
    exact ⟨(KK.st (KK.rf I_m) p_r2.2 (by decide)), Or.inr ⟨is_0 p_r2.1 (by omega), by omega, rfl⟩⟩
  · have q_4 := bP.t p_r1 b_4
    refine lv_iload_n hx hb dX11_pour_7 rfl (lv_at hl 3 rfl) ?_
    refine PurI.cs (C := RX11) (As := [.int to]) (kX11_isTray l g to) fx (gUS (uT _) u_256 u_257 u_5 u_258) rfl hdX11_isTray ⟨Nat.le_of_ble_eq_true rfl, Nat.le_of_ble_eq_true rfl⟩ hK hP [] rfl rfl rfl hl.1 (Nat.le_of_ble_eq_true rfl) dX11_pour_8 (fun r4 p_r4 => ?_)
    refine q_if_eq (tgt := 28) hx hb dX11_pour_11 (by decide) rfl (fun b_11 k_11 => ?_) (fun b_11 k_11 => ?_)
    · have q_11 := bP.f p_r4 b_11
      refine lv_aload_n hx hb dX11_pour_28 rfl (lv_at hl 0 rfl) ?_
      refine lv_iconst (v := 1) hx hb dX11_pour_29 (by decide) ?_
      refine EffI.cv (wr := ([])) (w' := fun u6 => wX11 g a_m u6 J_m) (As := [.int (1 : Int32)]) (kX11_is l g a_m I_m J_m (1 : Int32)) fx (gUV (uT _) u_259 u_260 u_261 u_5 u_262) rfl hdX11_is ⟨Nat.le_of_ble_eq_true rfl, Nat.le_of_ble_eq_true rfl⟩ hK hP hD hS hA [0, 1, 2, 3, 4, 5, 6, 7, 8, 9, 10, 11, 12, 13, 14, 15, 16, 17, 18, 19, 20, 21, 22] [] [0, 1, 2, 3, 4, 5, 6, 7, 8, 9, 10, 11, 12, 13, 14, 15, 16, 17, 18, 19, 20, 21, 22] rfl rfl rfl rfl (by decide) rfl (fun _ => rfl) rfl rfl rfl rfl hl.1 (Nat.le_of_ble_eq_true rfl) dX11_pour_30 (fun r5 u6 H locs p_r5 hP hD hS => ?_)
      have hP : va_P g.1 vwCl (wX11 g a_m u6 J_m) H := hP
      have hD : va_D A (wX11 g a_m u6 J_m) := hD
      refine hret 33 ls r5 _ _ (u6, J_m) dX11_pour_33 (is_z p_r5.1) hS hP hD ?_
      exact ⟨(KK.st (KK.rf I_m) p_r5.2 (by decide)), Or.inr ⟨is_0 p_r5.1 (by omega), by omega, rfl⟩⟩
    · have q_11 := bP.t p_r4 b_11
      refine lv_iload_n hx hb dX11_pour_14 rfl (lv_at hl 2 rfl) ?_
      refine q_if_lt (tgt := 28) hx hb dX11_pour_15 (by decide) rfl (fun k_15 => ?_) (fun k_15 => ?_)
      · refine lv_aload_n hx hb dX11_pour_28 rfl (lv_at hl 0 rfl) ?_
        refine lv_iconst (v := 1) hx hb dX11_pour_29 (by decide) ?_
        refine EffI.cv (wr := ([])) (w' := fun u8 => wX11 g a_m u8 J_m) (As := [.int (1 : Int32)]) (kX11_is l g a_m I_m J_m (1 : Int32)) fx (gUV (uT _) u_259 u_260 u_261 u_5 u_262) rfl hdX11_is ⟨Nat.le_of_ble_eq_true rfl, Nat.le_of_ble_eq_true rfl⟩ hK hP hD hS hA [0, 1, 2, 3, 4, 5, 6, 7, 8, 9, 10, 11, 12, 13, 14, 15, 16, 17, 18, 19, 20, 21, 22] [] [0, 1, 2, 3, 4, 5, 6, 7, 8, 9, 10, 11, 12, 13, 14, 15, 16, 17, 18, 19, 20, 21, 22] rfl rfl rfl rfl (by decide) rfl (fun _ => rfl) rfl rfl rfl rfl hl.1 (Nat.le_of_ble_eq_true rfl) dX11_pour_30 (fun r7 u8 H locs p_r7 hP hD hS => ?_)
        have hP : va_P g.1 vwCl (wX11 g a_m u8 J_m) H := hP
        have hD : va_D A (wX11 g a_m u8 J_m) := hD
        refine hret 33 ls r7 _ _ (u8, J_m) dX11_pour_33 (is_z p_r7.1) hS hP hD ?_
        exact ⟨(KK.st (KK.rf I_m) p_r7.2 (by decide)), Or.inr ⟨is_0 p_r7.1 (by omega), by omega, rfl⟩⟩
      · refine lv_iload hx hb dX11_pour_18 (lv_at hl 4 rfl) ?_
        refine q_if_lt (tgt := 28) hx hb dX11_pour_20 (by decide) rfl (fun k_20 => ?_) (fun k_20 => ?_)
        · refine lv_aload_n hx hb dX11_pour_28 rfl (lv_at hl 0 rfl) ?_
          refine lv_iconst (v := 1) hx hb dX11_pour_29 (by decide) ?_
          refine EffI.cv (wr := ([])) (w' := fun u10 => wX11 g a_m u10 J_m) (As := [.int (1 : Int32)]) (kX11_is l g a_m I_m J_m (1 : Int32)) fx (gUV (uT _) u_259 u_260 u_261 u_5 u_262) rfl hdX11_is ⟨Nat.le_of_ble_eq_true rfl, Nat.le_of_ble_eq_true rfl⟩ hK hP hD hS hA [0, 1, 2, 3, 4, 5, 6, 7, 8, 9, 10, 11, 12, 13, 14, 15, 16, 17, 18, 19, 20, 21, 22] [] [0, 1, 2, 3, 4, 5, 6, 7, 8, 9, 10, 11, 12, 13, 14, 15, 16, 17, 18, 19, 20, 21, 22] rfl rfl rfl rfl (by decide) rfl (fun _ => rfl) rfl rfl rfl rfl hl.1 (Nat.le_of_ble_eq_true rfl) dX11_pour_30 (fun r9 u10 H locs p_r9 hP hD hS => ?_)
          have hP : va_P g.1 vwCl (wX11 g a_m u10 J_m) H := hP
          have hD : va_D A (wX11 g a_m u10 J_m) := hD
          refine hret 33 ls r9 _ _ (u10, J_m) dX11_pour_33 (is_z p_r9.1) hS hP hD ?_
          exact ⟨(KK.st (KK.rf I_m) p_r9.2 (by decide)), Or.inr ⟨is_0 p_r9.1 (by omega), by omega, rfl⟩⟩
        · refine lv_iload hx hb dX11_pour_23 (lv_at hl 5 rfl) ?_
          refine q_if_ge (tgt := 34) hx hb dX11_pour_25 (by decide) rfl (fun k_25 => ?_) (fun k_25 => ?_)
          · refine lv_aload_n hx hb dX11_pour_34 rfl (lv_at hl 0 rfl) ?_
            refine va_get (D := g.1) (ci := 11) (v := .ref (a_m 3)) (C := RX11) (T := TX11) (N := 46) hx hb hi_X11 (fun _ h => h) hown hK.1 hP 0 rfl rfl 5 (by decide) hf_20 (fun _ h9 => h9) rfl dX11_pour_35 ?_
            refine lv_iload_n hx hb dX11_pour_38 rfl (lv_at hl 1 rfl) ?_
            have n_39 : vp_in fr 4 := (t_in (by omega))
            refine va_iald hx hb hK.1 hP 3 0 rfl rfl n_39 dX11_pour_39 ?_
            refine q_nm (fun x11 e_x11 => ?_)
            have e_x11 : x11 = (I_m 3) fr.toNatClampNeg := e_x11
            have g_x11 : x11.toInt = ((I_m 3) fr.toNatClampNeg).toInt := congrArg _ e_x11
            refine lv_iconst (v := -1) hx hb dX11_pour_40 (by decide) ?_
            refine q_icmp_eq (tgt := 54) hx hb dX11_pour_41 (by decide) rfl (by decide : (-1 : Int32).toInt = -1) (fun k_41 => ?_) (fun k_41 => ?_)
            · refine lv_aload_n hx hb dX11_pour_54 rfl (lv_at hl 0 rfl) ?_
              refine lv_iconst (v := 2) hx hb dX11_pour_55 (by decide) ?_
              refine EffI.cv (wr := ([])) (w' := fun u13 => wX11 g a_m u13 J_m) (As := [.int (2 : Int32)]) (kX11_is l g a_m I_m J_m (2 : Int32)) fx (gUV (uT _) u_259 u_260 u_261 u_5 u_262) rfl hdX11_is ⟨Nat.le_of_ble_eq_true rfl, Nat.le_of_ble_eq_true rfl⟩ hK hP hD hS hA [0, 1, 2, 3, 4, 5, 6, 7, 8, 9, 10, 11, 12, 13, 14, 15, 16, 17, 18, 19, 20, 21, 22] [] [0, 1, 2, 3, 4, 5, 6, 7, 8, 9, 10, 11, 12, 13, 14, 15, 16, 17, 18, 19, 20, 21, 22] rfl rfl rfl rfl (by decide) rfl (fun _ => rfl) rfl rfl rfl rfl hl.1 (Nat.le_of_ble_eq_true rfl) dX11_pour_56 (fun r12 u13 H locs p_r12 hP hD hS => ?_)
              have hP : va_P g.1 vwCl (wX11 g a_m u13 J_m) H := hP
              have hD : va_D A (wX11 g a_m u13 J_m) := hD
              refine hret 59 ls r12 _ _ (u13, J_m) dX11_pour_59 (is_z p_r12.1) hS hP hD ?_
              exact ⟨(KK.st (KK.rf I_m) p_r12.2 (by decide)), Or.inr ⟨is_0 p_r12.1 (by omega), by omega, rfl⟩⟩
            · refine lv_aload_n hx hb dX11_pour_44 rfl (lv_at hl 0 rfl) ?_
              refine va_get (D := g.1) (ci := 11) (v := .ref (a_m 3)) (C := RX11) (T := TX11) (N := 46) hx hb hi_X11 (fun _ h => h) hown hK.1 hP 0 rfl rfl 5 (by decide) hf_20 (fun _ h9 => h9) rfl dX11_pour_45 ?_
              refine lv_iload_n hx hb dX11_pour_48 rfl (lv_at hl 3 rfl) ?_
              have n_49 : vp_in to 4 := (t_in (by omega))
              refine va_iald hx hb hK.1 hP 3 0 rfl rfl n_49 dX11_pour_49 ?_
              refine q_nm (fun x14 e_x14 => ?_)
              have e_x14 : x14 = (I_m 3) to.toNatClampNeg := e_x14
              have g_x14 : x14.toInt = ((I_m 3) to.toNatClampNeg).toInt := congrArg _ e_x14
              refine lv_iconst (v := -1) hx hb dX11_pour_50 (by decide) ?_
              refine q_icmp_ne (tgt := 60) hx hb dX11_pour_51 (by decide) rfl (by decide : (-1 : Int32).toInt = -1) (fun k_51 => ?_) (fun k_51 => ?_)
              · refine lv_aload_n hx hb dX11_pour_60 rfl (lv_at hl 0 rfl) ?_
                refine va_get (D := g.1) (ci := 11) (v := .ref (a_m 2)) (C := RX11) (T := TX11) (N := 46) hx hb hi_X11 (fun _ h => h) hown hK.1 hP 0 rfl rfl 4 (by decide) hf_17 (fun _ h9 => h9) rfl dX11_pour_61 ?_
                refine lv_iload_n hx hb dX11_pour_64 rfl (lv_at hl 1 rfl) ?_
                have n_65 : vp_in fr 4 := (t_in (by omega))
                refine va_iald hx hb hK.1 hP 2 0 rfl rfl n_65 dX11_pour_65 ?_
                refine q_nm (fun x15 e_x15 => ?_)
                have e_x15 : x15 = (I_m 2) fr.toNatClampNeg := e_x15
                have g_x15 : x15.toInt = ((I_m 2) fr.toNatClampNeg).toInt := congrArg _ e_x15
                refine lv_aload_n hx hb dX11_pour_66 rfl (lv_at hl 0 rfl) ?_
                refine va_get (D := g.1) (ci := 11) (v := .ref (a_m 2)) (C := RX11) (T := TX11) (N := 46) hx hb hi_X11 (fun _ h => h) hown hK.1 hP 0 rfl rfl 4 (by decide) hf_17 (fun _ h9 => h9) rfl dX11_pour_67 ?_
                refine lv_iload_n hx hb dX11_pour_70 rfl (lv_at hl 3 rfl) ?_
                have n_71 : vp_in to 4 := (t_in (by omega))
                refine va_iald hx hb hK.1 hP 2 0 rfl rfl n_71 dX11_pour_71 ?_
                refine q_nm (fun x16 e_x16 => ?_)
                have e_x16 : x16 = (I_m 2) to.toNatClampNeg := e_x16
                have g_x16 : x16.toInt = ((I_m 2) to.toNatClampNeg).toInt := congrArg _ e_x16
                refine q_icmp_eq (tgt := 82) hx hb dX11_pour_72 (by decide) rfl rfl (fun k_72 => ?_) (fun k_72 => ?_)
                · refine lv_iload hx hb dX11_pour_82 (lv_at hl 5 rfl) ?_
                  refine lv_aload_n hx hb dX11_pour_84 rfl (lv_at hl 0 rfl) ?_
                  refine va_get (D := g.1) (ci := 11) (v := .ref (a_m 3)) (C := RX11) (T := TX11) (N := 46) hx hb hi_X11 (fun _ h => h) hown hK.1 hP 0 rfl rfl 5 (by decide) hf_20 (fun _ h9 => h9) rfl dX11_pour_85 ?_
                  refine lv_iload_n hx hb dX11_pour_88 rfl (lv_at hl 1 rfl) ?_
                  have n_89 : vp_in fr 4 := (t_in (by omega))
                  refine va_iald hx hb hK.1 hP 3 0 rfl rfl n_89 dX11_pour_89 ?_
                  refine q_nm (fun x17 e_x17 => ?_)
                  have e_x17 : x17 = (I_m 3) fr.toNatClampNeg := e_x17
                  have g_x17 : x17.toInt = ((I_m 3) fr.toNatClampNeg).toInt := congrArg _ e_x17
                  refine lv_iload_n hx hb dX11_pour_90 rfl (lv_at hl 2 rfl) ?_
                  refine r_isub hx hb dX11_pour_91 rfl rfl (fun x18 e_x18 t_x18 => ?_)
                  try have t_x18 := t_x18 (by omega)
                  refine q_icmp_gt (tgt := 109) hx hb dX11_pour_92 (by decide) rfl rfl (fun k_92 => ?_) (fun k_92 => ?_)
                  · refine lv_aload_n hx hb dX11_pour_109 rfl (lv_at hl 0 rfl) ?_
                    refine lv_iconst (v := 3) hx hb dX11_pour_110 (by decide) ?_
                    refine EffI.cv (wr := ([])) (w' := fun u20 => wX11 g a_m u20 J_m) (As := [.int (3 : Int32)]) (kX11_is l g a_m I_m J_m (3 : Int32)) fx (gUV (uT _) u_259 u_260 u_261 u_5 u_262) rfl hdX11_is ⟨Nat.le_of_ble_eq_true rfl, Nat.le_of_ble_eq_true rfl⟩ hK hP hD hS hA [0, 1, 2, 3, 4, 5, 6, 7, 8, 9, 10, 11, 12, 13, 14, 15, 16, 17, 18, 19, 20, 21, 22] [] [0, 1, 2, 3, 4, 5, 6, 7, 8, 9, 10, 11, 12, 13, 14, 15, 16, 17, 18, 19, 20, 21, 22] rfl rfl rfl rfl (by decide) rfl (fun _ => rfl) rfl rfl rfl rfl hl.1 (Nat.le_of_ble_eq_true rfl) dX11_pour_111 (fun r19 u20 H locs p_r19 hP hD hS => ?_)
                    have hP : va_P g.1 vwCl (wX11 g a_m u20 J_m) H := hP
                    have hD : va_D A (wX11 g a_m u20 J_m) := hD
                    refine hret 114 ls r19 _ _ (u20, J_m) dX11_pour_114 (is_z p_r19.1) hS hP hD ?_
                    exact ⟨(KK.st (KK.rf I_m) p_r19.2 (by decide)), Or.inr ⟨is_0 p_r19.1 (by omega), by omega, rfl⟩⟩
                  · refine lv_iload hx hb dX11_pour_95 (lv_at hl 5 rfl) ?_
                    refine lv_aload_n hx hb dX11_pour_97 rfl (lv_at hl 0 rfl) ?_
                    refine va_get (D := g.1) (ci := 11) (v := .ref (a_m 3)) (C := RX11) (T := TX11) (N := 46) hx hb hi_X11 (fun _ h => h) hown hK.1 hP 0 rfl rfl 5 (by decide) hf_20 (fun _ h9 => h9) rfl dX11_pour_98 ?_
                    refine lv_iload_n hx hb dX11_pour_101 rfl (lv_at hl 3 rfl) ?_
                    have n_102 : vp_in to 4 := (t_in (by omega))
                    refine va_iald hx hb hK.1 hP 3 0 rfl rfl n_102 dX11_pour_102 ?_
                    refine q_nm (fun x21 e_x21 => ?_)
                    have e_x21 : x21 = (I_m 3) to.toNatClampNeg := e_x21
                    have g_x21 : x21.toInt = ((I_m 3) to.toNatClampNeg).toInt := congrArg _ e_x21
                    refine lv_iload hx hb dX11_pour_103 (lv_at hl 4 rfl) ?_
                    refine r_isub hx hb dX11_pour_105 rfl rfl (fun x22 e_x22 t_x22 => ?_)
                    try have t_x22 := t_x22 (by omega)
                    refine q_icmp_le (tgt := 115) hx hb dX11_pour_106 (by decide) rfl rfl (fun k_106 => ?_) (fun k_106 => ?_)
                    · refine lv_iconst (v := 0) hx hb dX11_pour_115 (by decide) ?_
                      refine lv_istore (lv' := [(6, .int (0 : Int32)), (0, .ref (a_m 0)), (1, .int fr), (2, .int place), (3, .int to), (4, .int ia), (5, .int many)]) hx hb dX11_pour_116 hl (by decide) rfl (fun ls hl => ?_)
                      have L118 : ∀ (nn : Nat) (v6_118 : Int32) (J_m_118 : Nat → Nat → Int64), (hv_118 : 0 ≤ v6_118.toInt ∧ v6_118.toInt ≤ many.toInt) → (hj_118 : (ia.toInt ≤ place.toInt → J_m_118 4 = va_cpy (J_m 4) (J_m 4) (fr.toInt * 60 + place.toInt).toNat (to.toInt * 60 + ia.toInt).toNat v6_118.toInt.toNat) ∧ (place.toInt < ia.toInt → J_m_118 4 = va_cpy (J_m 4) (J_m 4) ((fr.toInt * 60 + place.toInt).toNat + (many.toInt.toNat - v6_118.toInt.toNat)) ((to.toInt * 60 + ia.toInt).toNat + (many.toInt.toNat - v6_118.toInt.toNat)) v6_118.toInt.toNat)) → ((61 - v6_118.toInt) < (nn : Int)) → ∀ (H : Heap) (locs : List Loc), va_P g.1 vwCl (wX11 g a_m I_m J_m_118) H → va_D A (wX11 g a_m I_m J_m_118) → va_S A s.heap H locs → ∀ ls : Array Slot, lv_has ls 8 [(6, .int v6_118), (0, .ref (a_m 0)), (1, .int fr), (2, .int place), (3, .int to), (4, .int ia), (5, .int many)] → W p l e (rm 1) s m args below meth c H locs 0 0 Q (F0 m 118 ls []) := by
                        intro n_118
                        induction n_118 with
                        | zero =>
                          intro v6_118 J_m_118 hv_118 hj_118 hms_118 H locs hP hD hS ls hl
                          exfalso; omega
                        | succ n_118 ih_118 =>
                          intro v6_118 J_m_118 hv_118 hj_118 hms_118 H locs hP hD hS ls hl
                          refine lv_iload hx hb dX11_pour_118 (lv_at hl 0 rfl) ?_
                          refine lv_iload hx hb dX11_pour_120 (lv_at hl 6 rfl) ?_
                          refine q_icmp_ge (tgt := 180) hx hb dX11_pour_122 (by decide) rfl rfl (fun k_122 => ?_) (fun k_122 => ?_)
                          · refine lv_aload_n hx hb dX11_pour_180 rfl (lv_at hl 1 rfl) ?_
                            refine lv_iconst (v := 0) hx hb dX11_pour_181 (by decide) ?_
                            refine EffI.cv (wr := ([])) (w' := fun u24 => wX11 g a_m u24 J_m_118) (As := [.int (0 : Int32)]) (kX11_is l g a_m I_m J_m_118 (0 : Int32)) fx (gUV (uT _) u_259 u_260 u_261 u_5 u_262) rfl hdX11_is ⟨Nat.le_of_ble_eq_true rfl, Nat.le_of_ble_eq_true rfl⟩ hK hP hD hS hA [0, 1, 2, 3, 4, 5, 6, 7, 8, 9, 10, 11, 12, 13, 14, 15, 16, 17, 18, 19, 20, 21, 22] [] [0, 1, 2, 3, 4, 5, 6, 7, 8, 9, 10, 11, 12, 13, 14, 15, 16, 17, 18, 19, 20, 21, 22] rfl rfl rfl rfl (by decide) rfl (fun _ => rfl) rfl rfl rfl rfl hl.1 (Nat.le_of_ble_eq_true rfl) dX11_pour_182 (fun r23 u24 H locs p_r23 hP hD hS => ?_)
                            have hP : va_P g.1 vwCl (wX11 g a_m u24 J_m_118) H := hP
                            have hD : va_D A (wX11 g a_m u24 J_m_118) := hD
                            refine hret 185 ls r23 _ _ (u24, J_m_118) dX11_pour_185 (is_z p_r23.1) hS hP hD ?_
                            exact ⟨(KK.st (KK.rf I_m) p_r23.2 (by decide)), Or.inl ⟨is_1 p_r23.1 (by omega), by omega, by have q := hj_118; rw [show v6_118.toInt.toNat = many.toInt.toNat by omega, Nat.sub_self, Nat.add_zero, Nat.add_zero] at q; rcases Int.lt_or_le place.toInt ia.toInt with w | w; exact q.2 w; exact q.1 w⟩⟩
                          · refine lv_iload_n hx hb dX11_pour_125 rfl (lv_at hl 3 rfl) ?_
                            refine lv_iload hx hb dX11_pour_126 (lv_at hl 5 rfl) ?_
                            refine q_icmp_ge (tgt := 141) hx hb dX11_pour_128 (by decide) rfl rfl (fun k_128 => ?_) (fun k_128 => ?_)
                            · refine lv_iload hx hb dX11_pour_141 (lv_at hl 0 rfl) ?_
                              refine lv_istore (lv' := [(7, .int v6_118), (6, .int v6_118), (0, .ref (a_m 0)), (1, .int fr), (2, .int place), (3, .int to), (4, .int ia), (5, .int many)]) hx hb dX11_pour_143 hl (by decide) rfl (fun ls hl => ?_)
                              refine lv_aload_n hx hb dX11_pour_145 rfl (lv_at hl 2 rfl) ?_
                              refine va_get (D := g.1) (ci := 11) (v := .ref (a_m 4)) (C := RX11) (T := TX11) (N := 46) hx hb hi_X11 (fun _ h => h) hown hK.1 hP 0 rfl rfl 6 (by decide) hf_23 (fun _ h9 => h9) rfl dX11_pour_146 ?_
                              refine lv_bipush (v := 60) hx hb dX11_pour_149 (by decide) ?_
                              refine lv_iload_n hx hb dX11_pour_151 rfl (lv_at hl 5 rfl) ?_
                              refine r_imul hx hb dX11_pour_152 (by decide : (60 : Int32).toInt = 60) rfl (fun x25 e_x25 t_x25 => ?_)
                              try have t_x25 := t_x25 (by omega)
                              refine lv_iload hx hb dX11_pour_153 (lv_at hl 6 rfl) ?_
                              refine r_iadd hx hb dX11_pour_155 rfl rfl (fun x26 e_x26 t_x26 => ?_)
                              try have t_x26 := t_x26 (by omega)
                              refine lv_iload hx hb dX11_pour_156 (lv_at hl 0 rfl) ?_
                              refine r_iadd hx hb dX11_pour_158 rfl rfl (fun x27 e_x27 t_x27 => ?_)
                              try have t_x27 := t_x27 (by omega)
                              refine lv_aload_n hx hb dX11_pour_159 rfl (lv_at hl 2 rfl) ?_
                              refine va_get (D := g.1) (ci := 11) (v := .ref (a_m 4)) (C := RX11) (T := TX11) (N := 46) hx hb hi_X11 (fun _ h => h) hown hK.1 hP 0 rfl rfl 6 (by decide) hf_23 (fun _ h9 => h9) rfl dX11_pour_160 ?_
                              refine lv_bipush (v := 60) hx hb dX11_pour_163 (by decide) ?_
                              refine lv_iload_n hx hb dX11_pour_165 rfl (lv_at hl 3 rfl) ?_
                              refine r_imul hx hb dX11_pour_166 (by decide : (60 : Int32).toInt = 60) rfl (fun x28 e_x28 t_x28 => ?_)
                              try have t_x28 := t_x28 (by omega)
                              refine lv_iload_n hx hb dX11_pour_167 rfl (lv_at hl 4 rfl) ?_
                              refine r_iadd hx hb dX11_pour_168 rfl rfl (fun x29 e_x29 t_x29 => ?_)
                              try have t_x29 := t_x29 (by omega)
                              refine lv_iload hx hb dX11_pour_169 (lv_at hl 0 rfl) ?_
                              refine r_iadd hx hb dX11_pour_171 rfl rfl (fun x30 e_x30 t_x30 => ?_)
                              try have t_x30 := t_x30 (by omega)
                              have n_172 : vp_in x30 240 := (t_in (by omega))
                              refine va_lald hx hb hK.1 hP 4 1 rfl rfl n_172 dX11_pour_172 ?_
                              refine q_nml (fun w31 e_w31 => ?_)
                              have e_w31 : w31 = (J_m_118 4) x30.toNatClampNeg := e_w31
                              have n_173 : vp_in x27 240 := (t_in (by omega))
                              obtain ⟨f32, e_f32⟩ : ∃ z, z = vp_updL (J_m_118 4) x27.toNatClampNeg w31 := ⟨_, rfl⟩
                              refine va_last hx hb hK.1 hP hD hS 4 1 rfl rfl n_173 dX11_pour_173 (fun H locs hP hD hS => ?_)
                              have hP : va_P g.1 vwCl (wX11 g a_m I_m (vR J_m_118 4 f32)) H := by rw [e_f32]; exact hP
                              have hD : va_D A (wX11 g a_m I_m (vR J_m_118 4 f32)) := by rw [e_f32]; exact hD
                              refine r_iinc (lv' := fun i33 => [(6, .int i33), (7, .int v6_118), (0, .ref (a_m 0)), (1, .int fr), (2, .int place), (3, .int to), (4, .int ia), (5, .int many)]) hx hb dX11_pour_174 hl (k := 1) rfl (by decide) rfl (by decide) (fun _ => rfl) (fun i33 e_i33 t_i33 ls hl => ?_)
                              try have t_i33 := t_i33 (by omega)
                              refine lv_goto (tgt := 118) hx hb dX11_pour_177 (by decide) ?_
                              exact ih_118 i33 (vR J_m_118 4 f32) (by omega) (by first | exact ⟨fun w => by exfalso; omega, fun w => cpy_bw (hj_118.2 w) (by rw [e_f32, e_w31]; rfl) (by omega) (by show (x27).toInt.toNat = _; omega) (by show (x30).toInt.toNat = _; omega) (by omega) (by omega)⟩ | exact ⟨fun w => cpy_fw (hj_118.1 w) (by rw [e_f32, e_w31]; rfl) (by show (x27).toInt.toNat = _; omega) (by show (x30).toInt.toNat = _; omega) (by omega) (by omega), fun w => by exfalso; omega⟩) (by omega) _ _ hP hD hS ls (lv_sub hl [0, 2, 3, 4, 5, 6, 7] rfl)
                            · refine lv_iload hx hb dX11_pour_131 (lv_at hl 6 rfl) ?_
                              refine lv_iconst (v := 1) hx hb dX11_pour_133 (by decide) ?_
                              refine r_isub hx hb dX11_pour_134 rfl (by decide : (1 : Int32).toInt = 1) (fun x34 e_x34 t_x34 => ?_)
                              try have t_x34 := t_x34 (by omega)
                              refine lv_iload hx hb dX11_pour_135 (lv_at hl 0 rfl) ?_
                              refine r_isub hx hb dX11_pour_137 rfl rfl (fun x35 e_x35 t_x35 => ?_)
                              try have t_x35 := t_x35 (by omega)
                              refine lv_goto (tgt := 143) hx hb dX11_pour_138 (by decide) ?_
                              refine lv_istore (lv' := [(7, .int x35), (6, .int v6_118), (0, .ref (a_m 0)), (1, .int fr), (2, .int place), (3, .int to), (4, .int ia), (5, .int many)]) hx hb dX11_pour_143 hl (by decide) rfl (fun ls hl => ?_)
                              refine lv_aload_n hx hb dX11_pour_145 rfl (lv_at hl 2 rfl) ?_
                              refine va_get (D := g.1) (ci := 11) (v := .ref (a_m 4)) (C := RX11) (T := TX11) (N := 46) hx hb hi_X11 (fun _ h => h) hown hK.1 hP 0 rfl rfl 6 (by decide) hf_23 (fun _ h9 => h9) rfl dX11_pour_146 ?_
                              refine lv_bipush (v := 60) hx hb dX11_pour_149 (by decide) ?_
                              refine lv_iload_n hx hb dX11_pour_151 rfl (lv_at hl 5 rfl) ?_
                              refine r_imul hx hb dX11_pour_152 (by decide : (60 : Int32).toInt = 60) rfl (fun x36 e_x36 t_x36 => ?_)
                              try have t_x36 := t_x36 (by omega)
                              refine lv_iload hx hb dX11_pour_153 (lv_at hl 6 rfl) ?_
                              refine r_iadd hx hb dX11_pour_155 rfl rfl (fun x37 e_x37 t_x37 => ?_)
                              try have t_x37 := t_x37 (by omega)
                              refine lv_iload hx hb dX11_pour_156 (lv_at hl 0 rfl) ?_
                              refine r_iadd hx hb dX11_pour_158 rfl rfl (fun x38 e_x38 t_x38 => ?_)
                              try have t_x38 := t_x38 (by omega)
                              refine lv_aload_n hx hb dX11_pour_159 rfl (lv_at hl 2 rfl) ?_
                              refine va_get (D := g.1) (ci := 11) (v := .ref (a_m 4)) (C := RX11) (T := TX11) (N := 46) hx hb hi_X11 (fun _ h => h) hown hK.1 hP 0 rfl rfl 6 (by decide) hf_23 (fun _ h9 => h9) rfl dX11_pour_160 ?_
                              refine lv_bipush (v := 60) hx hb dX11_pour_163 (by decide) ?_
                              refine lv_iload_n hx hb dX11_pour_165 rfl (lv_at hl 3 rfl) ?_
                              refine r_imul hx hb dX11_pour_166 (by decide : (60 : Int32).toInt = 60) rfl (fun x39 e_x39 t_x39 => ?_)
                              try have t_x39 := t_x39 (by omega)
                              refine lv_iload_n hx hb dX11_pour_167 rfl (lv_at hl 4 rfl) ?_
                              refine r_iadd hx hb dX11_pour_168 rfl rfl (fun x40 e_x40 t_x40 => ?_)
                              try have t_x40 := t_x40 (by omega)
                              refine lv_iload hx hb dX11_pour_169 (lv_at hl 0 rfl) ?_
                              refine r_iadd hx hb dX11_pour_171 rfl rfl (fun x41 e_x41 t_x41 => ?_)
                              try have t_x41 := t_x41 (by omega)
                              have n_172 : vp_in x41 240 := (t_in (by omega))
                              refine va_lald hx hb hK.1 hP 4 1 rfl rfl n_172 dX11_pour_172 ?_
                              refine q_nml (fun w42 e_w42 => ?_)
                              have e_w42 : w42 = (J_m_118 4) x41.toNatClampNeg := e_w42
                              have n_173 : vp_in x38 240 := (t_in (by omega))
                              obtain ⟨f43, e_f43⟩ : ∃ z, z = vp_updL (J_m_118 4) x38.toNatClampNeg w42 := ⟨_, rfl⟩
                              refine va_last hx hb hK.1 hP hD hS 4 1 rfl rfl n_173 dX11_pour_173 (fun H locs hP hD hS => ?_)
                              have hP : va_P g.1 vwCl (wX11 g a_m I_m (vR J_m_118 4 f43)) H := by rw [e_f43]; exact hP
                              have hD : va_D A (wX11 g a_m I_m (vR J_m_118 4 f43)) := by rw [e_f43]; exact hD
                              refine r_iinc (lv' := fun i44 => [(6, .int i44), (7, .int x35), (0, .ref (a_m 0)), (1, .int fr), (2, .int place), (3, .int to), (4, .int ia), (5, .int many)]) hx hb dX11_pour_174 hl (k := 1) rfl (by decide) rfl (by decide) (fun _ => rfl) (fun i44 e_i44 t_i44 ls hl => ?_)
                              try have t_i44 := t_i44 (by omega)
                              refine lv_goto (tgt := 118) hx hb dX11_pour_177 (by decide) ?_
                              exact ih_118 i44 (vR J_m_118 4 f43) (by omega) (by first | exact ⟨fun w => by exfalso; omega, fun w => cpy_bw (hj_118.2 w) (by rw [e_f43, e_w42]; rfl) (by omega) (by show (x38).toInt.toNat = _; omega) (by show (x41).toInt.toNat = _; omega) (by omega) (by omega)⟩ | exact ⟨fun w => cpy_fw (hj_118.1 w) (by rw [e_f43, e_w42]; rfl) (by show (x38).toInt.toNat = _; omega) (by show (x41).toInt.toNat = _; omega) (by omega) (by omega), fun w => by exfalso; omega⟩) (by omega) _ _ hP hD hS ls (lv_sub hl [0, 2, 3, 4, 5, 6, 7] rfl)
                      exact L118 ((61 - (0 : Int32).toInt) + 1).toNat (0 : Int32) J_m (by omega) (by rw [lm0]; exact ⟨fun _ => (cpy_0 _ _ _).symm, fun _ => (cpy_0 _ _ _).symm⟩) (by omega) _ _ hP hD hS ls hl
                    · refine lv_aload_n hx hb dX11_pour_109 rfl (lv_at hl 0 rfl) ?_
                      refine lv_iconst (v := 3) hx hb dX11_pour_110 (by decide) ?_
                      refine EffI.cv (wr := ([])) (w' := fun u46 => wX11 g a_m u46 J_m) (As := [.int (3 : Int32)]) (kX11_is l g a_m I_m J_m (3 : Int32)) fx (gUV (uT _) u_259 u_260 u_261 u_5 u_262) rfl hdX11_is ⟨Nat.le_of_ble_eq_true rfl, Nat.le_of_ble_eq_true rfl⟩ hK hP hD hS hA [0, 1, 2, 3, 4, 5, 6, 7, 8, 9, 10, 11, 12, 13, 14, 15, 16, 17, 18, 19, 20, 21, 22] [] [0, 1, 2, 3, 4, 5, 6, 7, 8, 9, 10, 11, 12, 13, 14, 15, 16, 17, 18, 19, 20, 21, 22] rfl rfl rfl rfl (by decide) rfl (fun _ => rfl) rfl rfl rfl rfl hl.1 (Nat.le_of_ble_eq_true rfl) dX11_pour_111 (fun r45 u46 H locs p_r45 hP hD hS => ?_)
                      have hP : va_P g.1 vwCl (wX11 g a_m u46 J_m) H := hP
                      have hD : va_D A (wX11 g a_m u46 J_m) := hD
                      refine hret 114 ls r45 _ _ (u46, J_m) dX11_pour_114 (is_z p_r45.1) hS hP hD ?_
                      exact ⟨(KK.st (KK.rf I_m) p_r45.2 (by decide)), Or.inr ⟨is_0 p_r45.1 (by omega), by omega, rfl⟩⟩
                · refine lv_aload_n hx hb dX11_pour_75 rfl (lv_at hl 0 rfl) ?_
                  refine lv_bipush (v := 8) hx hb dX11_pour_76 (by decide) ?_
                  refine EffI.cv (wr := ([])) (w' := fun u48 => wX11 g a_m u48 J_m) (As := [.int (8 : Int32)]) (kX11_is l g a_m I_m J_m (8 : Int32)) fx (gUV (uT _) u_259 u_260 u_261 u_5 u_262) rfl hdX11_is ⟨Nat.le_of_ble_eq_true rfl, Nat.le_of_ble_eq_true rfl⟩ hK hP hD hS hA [0, 1, 2, 3, 4, 5, 6, 7, 8, 9, 10, 11, 12, 13, 14, 15, 16, 17, 18, 19, 20, 21, 22] [] [0, 1, 2, 3, 4, 5, 6, 7, 8, 9, 10, 11, 12, 13, 14, 15, 16, 17, 18, 19, 20, 21, 22] rfl rfl rfl rfl (by decide) rfl (fun _ => rfl) rfl rfl rfl rfl hl.1 (Nat.le_of_ble_eq_true rfl) dX11_pour_78 (fun r47 u48 H locs p_r47 hP hD hS => ?_)
                  have hP : va_P g.1 vwCl (wX11 g a_m u48 J_m) H := hP
                  have hD : va_D A (wX11 g a_m u48 J_m) := hD
                  refine hret 81 ls r47 _ _ (u48, J_m) dX11_pour_81 (is_z p_r47.1) hS hP hD ?_
                  exact ⟨(KK.st (KK.rf I_m) p_r47.2 (by decide)), Or.inr ⟨is_0 p_r47.1 (by omega), by omega, rfl⟩⟩
              · refine lv_aload_n hx hb dX11_pour_54 rfl (lv_at hl 0 rfl) ?_
                refine lv_iconst (v := 2) hx hb dX11_pour_55 (by decide) ?_
                refine EffI.cv (wr := ([])) (w' := fun u50 => wX11 g a_m u50 J_m) (As := [.int (2 : Int32)]) (kX11_is l g a_m I_m J_m (2 : Int32)) fx (gUV (uT _) u_259 u_260 u_261 u_5 u_262) rfl hdX11_is ⟨Nat.le_of_ble_eq_true rfl, Nat.le_of_ble_eq_true rfl⟩ hK hP hD hS hA [0, 1, 2, 3, 4, 5, 6, 7, 8, 9, 10, 11, 12, 13, 14, 15, 16, 17, 18, 19, 20, 21, 22] [] [0, 1, 2, 3, 4, 5, 6, 7, 8, 9, 10, 11, 12, 13, 14, 15, 16, 17, 18, 19, 20, 21, 22] rfl rfl rfl rfl (by decide) rfl (fun _ => rfl) rfl rfl rfl rfl hl.1 (Nat.le_of_ble_eq_true rfl) dX11_pour_56 (fun r49 u50 H locs p_r49 hP hD hS => ?_)
                have hP : va_P g.1 vwCl (wX11 g a_m u50 J_m) H := hP
                have hD : va_D A (wX11 g a_m u50 J_m) := hD
                refine hret 59 ls r49 _ _ (u50, J_m) dX11_pour_59 (is_z p_r49.1) hS hP hD ?_
                exact ⟨(KK.st (KK.rf I_m) p_r49.2 (by decide)), Or.inr ⟨is_0 p_r49.1 (by omega), by omega, rfl⟩⟩
          · refine lv_aload_n hx hb dX11_pour_28 rfl (lv_at hl 0 rfl) ?_
            refine lv_iconst (v := 1) hx hb dX11_pour_29 (by decide) ?_
            refine EffI.cv (wr := ([])) (w' := fun u52 => wX11 g a_m u52 J_m) (As := [.int (1 : Int32)]) (kX11_is l g a_m I_m J_m (1 : Int32)) fx (gUV (uT _) u_259 u_260 u_261 u_5 u_262) rfl hdX11_is ⟨Nat.le_of_ble_eq_true rfl, Nat.le_of_ble_eq_true rfl⟩ hK hP hD hS hA [0, 1, 2, 3, 4, 5, 6, 7, 8, 9, 10, 11, 12, 13, 14, 15, 16, 17, 18, 19, 20, 21, 22] [] [0, 1, 2, 3, 4, 5, 6, 7, 8, 9, 10, 11, 12, 13, 14, 15, 16, 17, 18, 19, 20, 21, 22] rfl rfl rfl rfl (by decide) rfl (fun _ => rfl) rfl rfl rfl rfl hl.1 (Nat.le_of_ble_eq_true rfl) dX11_pour_30 (fun r51 u52 H locs p_r51 hP hD hS => ?_)
            have hP : va_P g.1 vwCl (wX11 g a_m u52 J_m) H := hP
            have hD : va_D A (wX11 g a_m u52 J_m) := hD
            refine hret 33 ls r51 _ _ (u52, J_m) dX11_pour_33 (is_z p_r51.1) hS hP hD ?_
            exact ⟨(KK.st (KK.rf I_m) p_r51.2 (by decide)), Or.inr ⟨is_0 p_r51.1 (by omega), by omega, rfl⟩⟩

set_option maxHeartbeats 4000000 in
set_option maxRecDepth 100000 in
theorem kX11_four (l : Launch) (g : gG) (a_m : Nat → Nat) (I_m : Nat → Nat → Int32) (J_m : Nat → Nat → Int64) (v : Int32) (hM : MI I_m) (h_t : (I_m 0 9).toInt ≤ 896) : EffV l g yX11_four wsX11_four 0 [.ref (a_m 0), .int v] (wX11 g a_m I_m J_m) (fun (u : (Nat → Nat → Int32)) => wX11 g a_m u J_m) (fun (u : (Nat → Nat → Int32)) => MI (u) ∧ KK [5] [9] I_m (u) ∧ ((u) 0 9).toInt = (I_m 0 9).toInt + 4 ∧ fxFd fxBm (I_m 5) ((u) 5) (I_m 0 9).toInt.toNat [v]) := by
  refine EffV.st (cc := cX11_four) (maxL := 3) (by decide) rfl (Nat.le_of_ble_eq_true rfl) (fun p e s m args below meth c A Q ls fx hK hP hD hA hS hl hret => ?_)
  have hx := fx.1
  have hb := fx.2.1
  have hml := fx.2.2.1
  have hown := fx.2.2.2.1
  have hts := fx.2.2.2.2
  have hl : lv_has ls 3 [(0, .ref (a_m 0)), (1, .int v)] := hl
  have hP : va_P g.1 vwCl (wX11 g a_m I_m J_m) s.heap := hP
  have hf_27 := hts _ (uT _ _ u_176)
  have hf_122 := hts _ (uT _ _ u_345)
  have hi_X11 : ∀ w ∈ wsX110, w.before args s = true := fun w h => hts w (uT _ w (u_wsX110 w h))
  have lm1 : (-1 : Int32).toInt = -1 := by decide
  have lm0 : (0 : Int32).toInt = 0 := by decide
  have lm2 : (1 : Int32).toInt = 1 := by decide
  have hp0 := hM.tp
  have lq24 : (24 : Int32).toInt = 24 := by decide
  refine lv_bipush (v := 24) hx hb dX11_four_0 (by decide) ?_
  refine lv_istore_n (lv' := [(2, .int (24 : Int32)), (0, .ref (a_m 0)), (1, .int v)]) hx hb dX11_four_2 rfl hl (by decide) rfl (fun ls hl => ?_)
  have L3 : ∀ (nn : Nat) (v2_3 : Int32) (I_m_3 : Nat → Nat → Int32), (hM_3 : MI I_m_3) → (hk_3 : KK [5] [9] I_m I_m_3) → (hv_3 : -8 ≤ v2_3.toInt ∧ v2_3.toInt ≤ 24 ∧ v2_3.toInt % 8 = 0) → (ht_3 : 8 * (((I_m_3 0 9)).toInt) = 8 * (I_m 0 9).toInt + (24 - v2_3.toInt)) → (hs_3 : fxFs fxBm (I_m 5) (I_m_3 5) (I_m 0 9).toInt.toNat v v2_3.toInt) → ((v2_3.toInt + 9) < (nn : Int)) → ∀ (H : Heap) (locs : List Loc), va_P g.1 vwCl (wX11 g a_m I_m_3 J_m) H → va_D A (wX11 g a_m I_m_3 J_m) → va_S A s.heap H locs → ∀ ls : Array Slot, lv_has ls 3 [(2, .int v2_3), (0, .ref (a_m 0)), (1, .int v)] → W p l e (rm 0) s m args below meth c H locs 0 0 Q (F0 m 3 ls []) := by
    intro n_3
    induction n_3 with
    | zero =>
      intro v2_3 I_m_3 hM_3 hk_3 hv_3 ht_3 hs_3 hms_3 H locs hP hD hS ls hl
      exfalso; omega
    | succ n_3 ih_3 =>
      intro v2_3 I_m_3 hM_3 hk_3 hv_3 ht_3 hs_3 hms_3 H locs hP hD hS ls hl
      have hp3 := hM_3.tp
      refine lv_iload_n hx hb dX11_four_3 rfl (lv_at hl 0 rfl) ?_
      refine q_if_lt (tgt := 36) hx hb dX11_four_4 (by decide) rfl (fun k_4 => ?_) (fun k_4 => ?_)
      · refine hret 36 ls _ _ I_m_3 dX11_four_36 hS hP hD ?_
        exact ⟨hM_3, hk_3, (by omega), hs_3.out (by omega)⟩
      · refine lv_aload_n hx hb dX11_four_7 rfl (lv_at hl 1 rfl) ?_
        refine va_get (D := g.1) (ci := 11) (v := .ref (a_m 5)) (C := RX11) (T := TX11) (N := 46) hx hb hi_X11 (fun _ h => h) hown hK.1 hP 0 rfl rfl 7 (by decide) hf_27 (fun _ h9 => h9) rfl dX11_four_8 ?_
        refine lv_aload_n hx hb dX11_four_11 rfl (lv_at hl 1 rfl) ?_
        refine va_get (D := g.1) (ci := 11) (v := .int (I_m_3 0 9)) (C := RX11) (T := TX11) (N := 46) hx hb hi_X11 (fun _ h => h) hown hK.1 hP 0 rfl rfl 9 (by decide) hf_122 (fun _ h9 => h9) rfl dX11_four_12 ?_
        refine lv_iload_n hx hb dX11_four_15 rfl (lv_at hl 2 rfl) ?_
        refine lv_iload_n hx hb dX11_four_16 rfl (lv_at hl 0 rfl) ?_
        refine lv_ishr hx hb dX11_four_17 ?_
        refine q_nm (fun x1 e_x1 => ?_)
        refine lv_i2b hx hb dX11_four_18 rfl ?_
        refine q_nm (fun x2 e_x2 => ?_)
        have n_19 : vp_in (I_m_3 0 9) 900 := (t_in (by omega))
        obtain ⟨f3, e_f3⟩ : ∃ z, z = upd (I_m_3 5) (I_m_3 0 9).toNatClampNeg x2.toInt8.toInt32 := ⟨_, rfl⟩
        refine va_bast hx hb hK.1 hP hD hS 5 2 rfl rfl n_19 dX11_four_19 (fun H locs hP hD hS => ?_)
        have hP : va_P g.1 vwCl (wX11 g a_m (uR I_m_3 5 f3) J_m) H := by rw [e_f3]; exact hP
        have hD : va_D A (wX11 g a_m (uR I_m_3 5 f3) J_m) := by rw [e_f3]; exact hD
        have hc_19 : MI (uR I_m_3 5 f3) := MI.ur hM_3 (by decide)
        have hk_19 : KK [5] [9] I_m (uR I_m_3 5 f3) := KK.ur hk_3 (by decide) (by decide)
        refine lv_aload_n hx hb dX11_four_20 rfl (lv_at hl 1 rfl) ?_
        refine lv_dup hx hb dX11_four_21 rfl ?_
        refine va_get (D := g.1) (ci := 11) (v := .int (I_m_3 0 9)) (C := RX11) (T := TX11) (N := 46) hx hb hi_X11 (fun _ h => h) hown hK.1 hP 0 rfl rfl 9 (by decide) hf_122 (fun _ h9 => h9) rfl dX11_four_22 ?_
        refine lv_iconst (v := 1) hx hb dX11_four_25 (by decide) ?_
        refine r_iadd hx hb dX11_four_26 rfl (by decide : (1 : Int32).toInt = 1) (fun x4 e_x4 t_x4 => ?_)
        try have t_x4 := t_x4 (by omega)
        refine va_put (D := g.1) (ci := 11) (v := .int x4) (ty := .int) (C := RX11) (T := TX11) (N := 46) hx hb hi_X11 (fun _ h => h) tyX11 tyX11_ok nmX11 hown hK.1 hP hD hS 0 rfl rfl 9 (by decide) hf_122 (fun _ h9 => h9) rfl (by decide +kernel) rfl rfl (Nat.le_of_ble_eq_true rfl) dX11_four_27 (fun H locs hP hD hS => ?_)
        have hP : va_P g.1 vwCl (wX11 g a_m (uF (uR I_m_3 5 f3) 0 9 x4) J_m) H := hP
        have hD : va_D A (wX11 g a_m (uF (uR I_m_3 5 f3) 0 9 x4) J_m) := hD
        have hk_27 : KK [5] [9] I_m (uF (uR I_m_3 5 f3) 0 9 x4) := KK.uf hk_19 (by decide)
        have hc_27 : MI (uF (uR I_m_3 5 f3) 0 9 x4) := MI.tpd hc_19 (show 0 ≤ (x4).toInt ∧ (x4).toInt ≤ 900 from (by omega))
        refine r_iinc (lv' := fun i5 => [(2, .int i5), (0, .ref (a_m 0)), (1, .int v)]) hx hb dX11_four_30 hl (k := 0) rfl (by decide) rfl (by decide) (fun _ => rfl) (fun i5 e_i5 t_i5 ls hl => ?_)
        try have t_i5 := t_i5 (by omega)
        refine lv_goto (tgt := 3) hx hb dX11_four_33 (by decide) ?_
        exact ih_3 i5 (uF (uR I_m_3 5 f3) 0 9 x4) hc_27 hk_27 (by omega) (show 8 * ((x4).toInt) = _ from (by omega)) (fxFs.st fxBm.pt hs_3 (show (uR I_m_3 5 f3) 5 = _ from uR_eq.trans e_f3) (by omega) (by omega) (fun k hk => by show (((uR I_m_3 5 f3) 5 _) &&& 255).toInt = _; rw [uR_eq, e_f3, upd_at rfl, e_x2]; exact fx_by2 e_x1 (by omega) (by omega)) (by omega)) (by omega) _ _ hP hD hS ls hl
  exact L3 (((24 : Int32).toInt + 9) + 1).toNat (24 : Int32) I_m hM (KK.rf I_m) (by omega) (by omega) ⟨fun _ _ => rfl, fun k q => by exfalso; omega⟩ (by omega) _ _ hP hD hS ls hl

set_option maxHeartbeats 4000000 in
set_option maxRecDepth 100000 in
theorem kX11_feed (l : Launch) (g : gG) (a_m : Nat → Nat) (I_m : Nat → Nat → Int32) (J_m : Nat → Nat → Int64) (ia : Int32) (ib : Int32) (ic : Int32) (idd : Int32) (ie : Int32) (hM : MI I_m) : EffI l g yX11_feed wsX11_feed 1 [.ref (a_m 0), .int ia, .int ib, .int ic, .int idd, .int ie] (wX11 g a_m I_m J_m) (fun (u : (Nat → Nat → Int32)) => wX11 g a_m u J_m) (fun r (u : (Nat → Nat → Int32)) => MI (u) ∧ KK [5] [9] I_m (u) ∧ ((880 < (I_m 0 9).toInt ∧ r = -1 ∧ (u) 0 9 = I_m 0 9) ∨ ((I_m 0 9).toInt ≤ 880 ∧ r = (u) 0 9 ∧ ((u) 0 9).toInt = (I_m 0 9).toInt + 20)) ∧ ((I_m 0 9).toInt ≤ 880 → fxFd fxBm (I_m 5) ((u) 5) (I_m 0 9).toInt.toNat [ia, ib, ic, idd, ie]) ∧ ((u) 5 = I_m 5 ∨ ¬ 880 < (I_m 0 9).toInt)) := by
  refine EffI.st (cc := cX11_feed) (maxL := 6) (by decide) rfl (Nat.le_of_ble_eq_true rfl) (fun p e s m args below meth c A Q ls fx hK hP hD hA hS hl hret => ?_)
  have hx := fx.1
  have hb := fx.2.1
  have hml := fx.2.2.1
  have hown := fx.2.2.2.1
  have hts := fx.2.2.2.2
  have hl : lv_has ls 6 [(0, .ref (a_m 0)), (1, .int ia), (2, .int ib), (3, .int ic), (4, .int idd), (5, .int ie)] := hl
  have hP : va_P g.1 vwCl (wX11 g a_m I_m J_m) s.heap := hP
  have hf_122 := hts _ (uT _ _ u_345)
  have hi_X11 : ∀ w ∈ wsX110, w.before args s = true := fun w h => hts w (uT _ w (u_wsX110 w h))
  have lm1 : (-1 : Int32).toInt = -1 := by decide
  have lm0 : (0 : Int32).toInt = 0 := by decide
  have lm2 : (1 : Int32).toInt = 1 := by decide
  have hp0 := hM.tp
  have lq20 : (20 : Int32).toInt = 20 := by decide
  have lq900 : (900 : Int32).toInt = 900 := by decide
  refine lv_aload_n hx hb dX11_feed_0 rfl (lv_at hl 0 rfl) ?_
  refine va_get (D := g.1) (ci := 11) (v := .int (I_m 0 9)) (C := RX11) (T := TX11) (N := 46) hx hb hi_X11 (fun _ h => h) hown hK.1 hP 0 rfl rfl 9 (by decide) hf_122 (fun _ h9 => h9) rfl dX11_feed_1 ?_
  refine lv_bipush (v := 20) hx hb dX11_feed_4 (by decide) ?_
  refine r_iadd hx hb dX11_feed_6 rfl (by decide : (20 : Int32).toInt = 20) (fun x1 e_x1 t_x1 => ?_)
  try have t_x1 := t_x1 (by omega)
  refine lv_sipush (v := 900) hx hb dX11_feed_7 (by decide) ?_
  refine q_icmp_le (tgt := 15) hx hb dX11_feed_10 (by decide) rfl (by decide : (900 : Int32).toInt = 900) (fun k_10 => ?_) (fun k_10 => ?_)
  · refine lv_aload_n hx hb dX11_feed_15 rfl (lv_at hl 0 rfl) ?_
    refine lv_iload_n hx hb dX11_feed_16 rfl (lv_at hl 1 rfl) ?_
    refine EffV.cv (wr := ([])) (w' := fun u3 => wX11 g a_m u3 J_m) (As := [.int ia]) (kX11_four l g a_m I_m J_m ia hM (by omega)) fx (gUV (uT _) u_346 u_347 u_348 u_5 u_349) rfl hdX11_four ⟨Nat.le_of_ble_eq_true rfl, Nat.le_of_ble_eq_true rfl⟩ hK hP hD hS hA [0, 1, 2, 3, 4, 5, 6, 7, 8, 9, 10, 11, 12, 13, 14, 15, 16, 17, 18, 19, 20, 21, 22] [] [0, 1, 2, 3, 4, 5, 6, 7, 8, 9, 10, 11, 12, 13, 14, 15, 16, 17, 18, 19, 20, 21, 22] rfl rfl rfl rfl (by decide) rfl (fun _ => rfl) rfl rfl rfl rfl hl.1 (Nat.le_of_ble_eq_true rfl) dX11_feed_17 (fun u3 H locs p_r2 hP hD hS => ?_)
    have hP : va_P g.1 vwCl (wX11 g a_m u3 J_m) H := hP
    have hD : va_D A (wX11 g a_m u3 J_m) := hD
    have hq17 := p_r2.2.2.1
    have hfd17 := p_r2.2.2.2
    refine lv_aload_n hx hb dX11_feed_20 rfl (lv_at hl 0 rfl) ?_
    refine lv_iload_n hx hb dX11_feed_21 rfl (lv_at hl 2 rfl) ?_
    refine EffV.cv (wr := ([])) (w' := fun u5 => wX11 g a_m u5 J_m) (As := [.int ib]) (kX11_four l g a_m u3 J_m ib (p_r2.1) (by omega)) fx (gUV (uT _) u_346 u_347 u_348 u_5 u_349) rfl hdX11_four ⟨Nat.le_of_ble_eq_true rfl, Nat.le_of_ble_eq_true rfl⟩ hK hP hD hS hA [0, 1, 2, 3, 4, 5, 6, 7, 8, 9, 10, 11, 12, 13, 14, 15, 16, 17, 18, 19, 20, 21, 22] [] [0, 1, 2, 3, 4, 5, 6, 7, 8, 9, 10, 11, 12, 13, 14, 15, 16, 17, 18, 19, 20, 21, 22] rfl rfl rfl rfl (by decide) rfl (fun _ => rfl) rfl rfl rfl rfl hl.1 (Nat.le_of_ble_eq_true rfl) dX11_feed_22 (fun u5 H locs p_r4 hP hD hS => ?_)
    have hP : va_P g.1 vwCl (wX11 g a_m u5 J_m) H := hP
    have hD : va_D A (wX11 g a_m u5 J_m) := hD
    have hq22 := p_r4.2.2.1
    have hfd22 := p_r4.2.2.2
    refine lv_aload_n hx hb dX11_feed_25 rfl (lv_at hl 0 rfl) ?_
    refine lv_iload_n hx hb dX11_feed_26 rfl (lv_at hl 3 rfl) ?_
    refine EffV.cv (wr := ([])) (w' := fun u7 => wX11 g a_m u7 J_m) (As := [.int ic]) (kX11_four l g a_m u5 J_m ic (p_r4.1) (by omega)) fx (gUV (uT _) u_346 u_347 u_348 u_5 u_349) rfl hdX11_four ⟨Nat.le_of_ble_eq_true rfl, Nat.le_of_ble_eq_true rfl⟩ hK hP hD hS hA [0, 1, 2, 3, 4, 5, 6, 7, 8, 9, 10, 11, 12, 13, 14, 15, 16, 17, 18, 19, 20, 21, 22] [] [0, 1, 2, 3, 4, 5, 6, 7, 8, 9, 10, 11, 12, 13, 14, 15, 16, 17, 18, 19, 20, 21, 22] rfl rfl rfl rfl (by decide) rfl (fun _ => rfl) rfl rfl rfl rfl hl.1 (Nat.le_of_ble_eq_true rfl) dX11_feed_27 (fun u7 H locs p_r6 hP hD hS => ?_)
    have hP : va_P g.1 vwCl (wX11 g a_m u7 J_m) H := hP
    have hD : va_D A (wX11 g a_m u7 J_m) := hD
    have hq27 := p_r6.2.2.1
    have hfd27 := p_r6.2.2.2
    refine lv_aload_n hx hb dX11_feed_30 rfl (lv_at hl 0 rfl) ?_
    refine lv_iload hx hb dX11_feed_31 (lv_at hl 4 rfl) ?_
    refine EffV.cv (wr := ([])) (w' := fun u9 => wX11 g a_m u9 J_m) (As := [.int idd]) (kX11_four l g a_m u7 J_m idd (p_r6.1) (by omega)) fx (gUV (uT _) u_346 u_347 u_348 u_5 u_349) rfl hdX11_four ⟨Nat.le_of_ble_eq_true rfl, Nat.le_of_ble_eq_true rfl⟩ hK hP hD hS hA [0, 1, 2, 3, 4, 5, 6, 7, 8, 9, 10, 11, 12, 13, 14, 15, 16, 17, 18, 19, 20, 21, 22] [] [0, 1, 2, 3, 4, 5, 6, 7, 8, 9, 10, 11, 12, 13, 14, 15, 16, 17, 18, 19, 20, 21, 22] rfl rfl rfl rfl (by decide) rfl (fun _ => rfl) rfl rfl rfl rfl hl.1 (Nat.le_of_ble_eq_true rfl) dX11_feed_33 (fun u9 H locs p_r8 hP hD hS => ?_)
    have hP : va_P g.1 vwCl (wX11 g a_m u9 J_m) H := hP
    have hD : va_D A (wX11 g a_m u9 J_m) := hD
    have hq33 := p_r8.2.2.1
    have hfd33 := p_r8.2.2.2
    refine lv_aload_n hx hb dX11_feed_36 rfl (lv_at hl 0 rfl) ?_
    refine lv_iload hx hb dX11_feed_37 (lv_at hl 5 rfl) ?_
    refine EffV.cv (wr := ([])) (w' := fun u11 => wX11 g a_m u11 J_m) (As := [.int ie]) (kX11_four l g a_m u9 J_m ie (p_r8.1) (by omega)) fx (gUV (uT _) u_346 u_347 u_348 u_5 u_349) rfl hdX11_four ⟨Nat.le_of_ble_eq_true rfl, Nat.le_of_ble_eq_true rfl⟩ hK hP hD hS hA [0, 1, 2, 3, 4, 5, 6, 7, 8, 9, 10, 11, 12, 13, 14, 15, 16, 17, 18, 19, 20, 21, 22] [] [0, 1, 2, 3, 4, 5, 6, 7, 8, 9, 10, 11, 12, 13, 14, 15, 16, 17, 18, 19, 20, 21, 22] rfl rfl rfl rfl (by decide) rfl (fun _ => rfl) rfl rfl rfl rfl hl.1 (Nat.le_of_ble_eq_true rfl) dX11_feed_39 (fun u11 H locs p_r10 hP hD hS => ?_)
    have hP : va_P g.1 vwCl (wX11 g a_m u11 J_m) H := hP
    have hD : va_D A (wX11 g a_m u11 J_m) := hD
    have hq39 := p_r10.2.2.1
    have hfd39 := p_r10.2.2.2
    refine lv_aload_n hx hb dX11_feed_42 rfl (lv_at hl 0 rfl) ?_
    refine va_get (D := g.1) (ci := 11) (v := .int (u11 0 9)) (C := RX11) (T := TX11) (N := 46) hx hb hi_X11 (fun _ h => h) hown hK.1 hP 0 rfl rfl 9 (by decide) hf_122 (fun _ h9 => h9) rfl dX11_feed_43 ?_
    refine hret 46 ls (u11 0 9) _ _ u11 dX11_feed_46 hS hP hD ?_
    exact ⟨(p_r10.1), (KK.tr (KK.tr (KK.tr (KK.tr (KK.tr (KK.rf I_m) p_r2.2.1 (by decide) (by decide)) p_r4.2.1 (by decide) (by decide)) p_r6.2.1 (by decide) (by decide)) p_r8.2.1 (by decide) (by decide)) p_r10.2.1 (by decide) (by decide)), Or.inr ⟨by omega, rfl, by omega⟩, fun q => fxFd.app fxBm.pt (fxFd.app fxBm.pt (fxFd.app fxBm.pt (fxFd.app fxBm.pt hfd17 hfd22 (by show _ = _ + 4; omega)) hfd27 (by show _ = _ + 8; omega)) hfd33 (by show _ = _ + 12; omega)) hfd39 (by show _ = _ + 16; omega), Or.inr (by omega)⟩
  · refine lv_iconst (v := -1) hx hb dX11_feed_13 (by decide) ?_
    refine hret 14 ls (-1 : Int32) _ _ I_m dX11_feed_14 hS hP hD ?_
    exact ⟨hM, (KK.rf I_m), Or.inl ⟨by omega, rfl, rfl⟩, fun q => by exfalso; omega, Or.inl rfl⟩
