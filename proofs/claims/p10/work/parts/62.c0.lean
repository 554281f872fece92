set_option maxHeartbeats 4000000 in
set_option maxRecDepth 100000 in
theorem lawc0 (l : Launch) (g : gG) (ad av : Nat → Nat) {p : Program} {e : Env} {s : State} {m : MethodId} {below : List Frame} {meth : Method} {c : Code} {b L : Nat} {xs : Nat → Int32} (fx : CallFix p m c cL_law 4 s #[Value.ref b] lw_tbl RL) (hX : va_X b L xs s s.heap) (hbl : b < s.heap.size) (hK : gK g s) (hJ : jF ad av (lA s) s s.heap) (i : Int32) (hi : 0 ≤ i.toInt ∧ i.toInt + 6 ≤ (L : Int) ∧ (L : Int) ≤ 3072) (K : LawC p e s m below meth c l g b i 1956) : LawC p e s m below meth c l g b i 312 := by
  intro a_p I_p J_p a_d I_d J_d a_r I_r a_q I_q a_t I_t a_s I_s a_e I_e a_f I_f a_y I_y a_w I_w a_c I_c a_z I_z a_m a_ka I_ka a_ta I_ta a_sa I_sa a_kb I_kb a_tb I_tb a_sb I_sb a_kc I_kc a_tc I_tc a_sc I_sc a_o I_o J_o hl_p_trays hl_p_reader hl_p_table hl_p_script hl_p_shown hl_p_spare hl_p_layout hl_p_rows hl_p_code hl_p_wear hl_r_table hl_p_marks hl_m_0 hl_m_1 hl_m_2 hl_ka_table hl_ka_script hl_kb_table hl_kb_script hl_kc_table hl_kc_script hPI hDI hQ hT hSI hE hF hL hR hW hKa hTa hSa hKb hTb hSb hKc hTc hSc hMo hRt hRp hRm hTP H locs hP hD hS ls hl
  have hx := fx.1
  have hb := fx.2.1
  have hown := fx.2.2.2.1
  have hts := fx.2.2.2.2
  have hA : ∀ q : Nat, s.heap.size ≤ q → lA s q := fun _ h => h
  have hbA : ¬ lA s b := Nat.not_le.mpr hbl
  have lm1 : (-1 : Int32).toInt = -1 := by decide
  have lm0 : (0 : Int32).toInt = 0 := by decide
  have lm2 : (1 : Int32).toInt = 1 := by decide
  have lq2 : (2 : Int32).toInt = 2 := by decide
  have lq3 : (3 : Int32).toInt = 3 := by decide
  have lq4 : (4 : Int32).toInt = 4 := by decide
  have lq5 : (5 : Int32).toInt = 5 := by decide
  have lq6 : (6 : Int32).toInt = 6 := by decide
  have lq7 : (7 : Int32).toInt = 7 := by decide
  refine lv_aload_n hx hb dL_law_312 rfl (lv_at hl 2 rfl) ?_
  refine PurI.gv (wc := wfl [wX10 g a_p I_p J_p, wX8 g a_d I_d J_d, wX3 g a_r I_r, wX7 g a_q I_q, wX7 g a_t I_t, wX5 g a_s I_s, wX6 g a_e I_e, wX6 g a_f I_f, wX1 g a_y I_y, wX4 g a_w I_w, wX0 g a_c I_c, wX9 g a_z I_z, wMQ g a_m, wX2 g a_ka I_ka, wX7 g a_ta I_ta, wX5 g a_sa I_sa, wX2 g a_kb I_kb, wX7 g a_tb I_tb, wX5 g a_sb I_sb, wX2 g a_kc I_kc, wX7 g a_tc I_tc, wX5 g a_sc I_sc, wX11 g a_o I_o J_o]) (As := []) (kX10_status l g a_p I_p J_p) fx (gUV wsL_law_in u_202 u_203 u_204 u_2 u_205) rfl hdX10_status ⟨Nat.le_of_ble_eq_true rfl, Nat.le_of_ble_eq_true rfl⟩ hK hP (cI [wX10 g a_p I_p J_p, wX8 g a_d I_d J_d, wX3 g a_r I_r, wX7 g a_q I_q, wX7 g a_t I_t, wX5 g a_s I_s, wX6 g a_e I_e, wX6 g a_f I_f, wX1 g a_y I_y, wX4 g a_w I_w, wX0 g a_c I_c, wX9 g a_z I_z, wMQ g a_m, wX2 g a_ka I_ka, wX7 g a_ta I_ta, wX5 g a_sa I_sa, wX2 g a_kb I_kb, wX7 g a_tb I_tb, wX5 g a_sb I_sb, wX2 g a_kc I_kc, wX7 g a_tc I_tc, wX5 g a_sc I_sc, wX11 g a_o I_o J_o] [0]) (ci_fm [wX10 g a_p I_p J_p, wX8 g a_d I_d J_d, wX3 g a_r I_r, wX7 g a_q I_q, wX7 g a_t I_t, wX5 g a_s I_s, wX6 g a_e I_e, wX6 g a_f I_f, wX1 g a_y I_y, wX4 g a_w I_w, wX0 g a_c I_c, wX9 g a_z I_z, wMQ g a_m, wX2 g a_ka I_ka, wX7 g a_ta I_ta, wX5 g a_sa I_sa, wX2 g a_kb I_kb, wX7 g a_tb I_tb, wX5 g a_sb I_sb, wX2 g a_kc I_kc, wX7 g a_tc I_tc, wX5 g a_sc I_sc, wX11 g a_o I_o J_o] [wX10 g a_p I_p J_p] rfl) rfl rfl rfl rfl hl.1 (Nat.le_of_ble_eq_true rfl) dL_law_313 ⟨Nat.le_of_ble_eq_true rfl, Nat.le_of_ble_eq_true rfl⟩ (fun r1 p_r1 => ?_)
  refine lv_pop hx hb dL_law_316 rfl ?_
  refine lv_aload_n hx hb dL_law_317 rfl (lv_at hl 1 rfl) ?_
  refine PurI.gv (wc := wfl [wX10 g a_p I_p J_p, wX8 g a_d I_d J_d, wX3 g a_r I_r, wX7 g a_q I_q, wX7 g a_t I_t, wX5 g a_s I_s, wX6 g a_e I_e, wX6 g a_f I_f, wX1 g a_y I_y, wX4 g a_w I_w, wX0 g a_c I_c, wX9 g a_z I_z, wMQ g a_m, wX2 g a_ka I_ka, wX7 g a_ta I_ta, wX5 g a_sa I_sa, wX2 g a_kb I_kb, wX7 g a_tb I_tb, wX5 g a_sb I_sb, wX2 g a_kc I_kc, wX7 g a_tc I_tc, wX5 g a_sc I_sc, wX11 g a_o I_o J_o]) (As := []) (kX11_status l g a_o I_o J_o) fx (gUV wsL_law_in u_206 u_207 u_208 u_5 u_209) rfl hdX11_status ⟨Nat.le_of_ble_eq_true rfl, Nat.le_of_ble_eq_true rfl⟩ hK hP (cI [wX10 g a_p I_p J_p, wX8 g a_d I_d J_d, wX3 g a_r I_r, wX7 g a_q I_q, wX7 g a_t I_t, wX5 g a_s I_s, wX6 g a_e I_e, wX6 g a_f I_f, wX1 g a_y I_y, wX4 g a_w I_w, wX0 g a_c I_c, wX9 g a_z I_z, wMQ g a_m, wX2 g a_ka I_ka, wX7 g a_ta I_ta, wX5 g a_sa I_sa, wX2 g a_kb I_kb, wX7 g a_tb I_tb, wX5 g a_sb I_sb, wX2 g a_kc I_kc, wX7 g a_tc I_tc, wX5 g a_sc I_sc, wX11 g a_o I_o J_o] [22]) (ci_fm [wX10 g a_p I_p J_p, wX8 g a_d I_d J_d, wX3 g a_r I_r, wX7 g a_q I_q, wX7 g a_t I_t, wX5 g a_s I_s, wX6 g a_e I_e, wX6 g a_f I_f, wX1 g a_y I_y, wX4 g a_w I_w, wX0 g a_c I_c, wX9 g a_z I_z, wMQ g a_m, wX2 g a_ka I_ka, wX7 g a_ta I_ta, wX5 g a_sa I_sa, wX2 g a_kb I_kb, wX7 g a_tb I_tb, wX5 g a_sb I_sb, wX2 g a_kc I_kc, wX7 g a_tc I_tc, wX5 g a_sc I_sc, wX11 g a_o I_o J_o] [wX11 g a_o I_o J_o] rfl) rfl rfl rfl rfl hl.1 (Nat.le_of_ble_eq_true rfl) dL_law_318 ⟨Nat.le_of_ble_eq_true rfl, Nat.le_of_ble_eq_true rfl⟩ (fun r2 p_r2 => ?_)
  refine lv_pop hx hb dL_law_321 rfl ?_
  refine lv_goto (tgt := 1956) hx hb dL_law_322 (by decide) ?_
  exact K a_p I_p J_p a_d I_d J_d a_r I_r a_q I_q a_t I_t a_s I_s a_e I_e a_f I_f a_y I_y a_w I_w a_c I_c a_z I_z a_m a_ka I_ka a_ta I_ta a_sa I_sa a_kb I_kb a_tb I_tb a_sb I_sb a_kc I_kc a_tc I_tc a_sc I_sc a_o I_o J_o hl_p_trays hl_p_reader hl_p_table hl_p_script hl_p_shown hl_p_spare hl_p_layout hl_p_rows hl_p_code hl_p_wear hl_r_table hl_p_marks hl_m_0 hl_m_1 hl_m_2 hl_ka_table hl_ka_script hl_kb_table hl_kb_script hl_kc_table hl_kc_script hPI hDI hQ hT hSI hE hF hL hR hW hKa hTa hSa hKb hTb hSb hKc hTc hSc hMo (hRt.kk rfl rfl rfl) ((KP.rf I_p).1.trans (hRp.trans rfl.symm)) ((KP.rf I_p).2.1.trans (hRm.trans rfl.symm)) (hTP.kk (KP.rf I_p).1 (KP.rf I_p).2.2 rfl) _ _ hP hD hS ls hl

set_option maxHeartbeats 4000000 in
set_option maxRecDepth 100000 in
theorem lawc1 (l : Launch) (g : gG) (ad av : Nat → Nat) {p : Program} {e : Env} {s : State} {m : MethodId} {below : List Frame} {meth : Method} {c : Code} {b L : Nat} {xs : Nat → Int32} (fx : CallFix p m c cL_law 4 s #[Value.ref b] lw_tbl RL) (hX : va_X b L xs s s.heap) (hbl : b < s.heap.size) (hK : gK g s) (hJ : jF ad av (lA s) s s.heap) (i : Int32) (hi : 0 ≤ i.toInt ∧ i.toInt + 6 ≤ (L : Int) ∧ (L : Int) ≤ 3072) (K : LawC p e s m below meth c l g b i 1956) : LawC p e s m below meth c l g b i 325 := by
  intro a_p I_p J_p a_d I_d J_d a_r I_r a_q I_q a_t I_t a_s I_s a_e I_e a_f I_f a_y I_y a_w I_w a_c I_c a_z I_z a_m a_ka I_ka a_ta I_ta a_sa I_sa a_kb I_kb a_tb I_tb a_sb I_sb a_kc I_kc a_tc I_tc a_sc I_sc a_o I_o J_o hl_p_trays hl_p_reader hl_p_table hl_p_script hl_p_shown hl_p_spare hl_p_layout hl_p_rows hl_p_code hl_p_wear hl_r_table hl_p_marks hl_m_0 hl_m_1 hl_m_2 hl_ka_table hl_ka_script hl_kb_table hl_kb_script hl_kc_table hl_kc_script hPI hDI hQ hT hSI hE hF hL hR hW hKa hTa hSa hKb hTb hSb hKc hTc hSc hMo hRt hRp hRm hTP H locs hP hD hS ls hl
  have hx := fx.1
  have hb := fx.2.1
  have hown := fx.2.2.2.1
  have hts := fx.2.2.2.2
  have hA : ∀ q : Nat, s.heap.size ≤ q → lA s q := fun _ h => h
  have hbA : ¬ lA s b := Nat.not_le.mpr hbl
  have lm1 : (-1 : Int32).toInt = -1 := by decide
  have lm0 : (0 : Int32).toInt = 0 := by decide
  have lm2 : (1 : Int32).toInt = 1 := by decide
  have lq2 : (2 : Int32).toInt = 2 := by decide
  have lq3 : (3 : Int32).toInt = 3 := by decide
  have lq4 : (4 : Int32).toInt = 4 := by decide
  have lq5 : (5 : Int32).toInt = 5 := by decide
  have lq6 : (6 : Int32).toInt = 6 := by decide
  have lq7 : (7 : Int32).toInt = 7 := by decide
  refine lv_aload_n hx hb dL_law_325 rfl (lv_at hl 2 rfl) ?_
  refine PurL.gv (wc := wfl [wX10 g a_p I_p J_p, wX8 g a_d I_d J_d, wX3 g a_r I_r, wX7 g a_q I_q, wX7 g a_t I_t, wX5 g a_s I_s, wX6 g a_e I_e, wX6 g a_f I_f, wX1 g a_y I_y, wX4 g a_w I_w, wX0 g a_c I_c, wX9 g a_z I_z, wMQ g a_m, wX2 g a_ka I_ka, wX7 g a_ta I_ta, wX5 g a_sa I_sa, wX2 g a_kb I_kb, wX7 g a_tb I_tb, wX5 g a_sb I_sb, wX2 g a_kc I_kc, wX7 g a_tc I_tc, wX5 g a_sc I_sc, wX11 g a_o I_o J_o]) (As := []) (kX10_top l g a_p I_p J_p) fx (gUV wsL_law_in u_211 u_212 u_213 u_2 u_214) rfl hdX10_top ⟨Nat.le_of_ble_eq_true rfl, Nat.le_of_ble_eq_true rfl⟩ hK hP (cI [wX10 g a_p I_p J_p, wX8 g a_d I_d J_d, wX3 g a_r I_r, wX7 g a_q I_q, wX7 g a_t I_t, wX5 g a_s I_s, wX6 g a_e I_e, wX6 g a_f I_f, wX1 g a_y I_y, wX4 g a_w I_w, wX0 g a_c I_c, wX9 g a_z I_z, wMQ g a_m, wX2 g a_ka I_ka, wX7 g a_ta I_ta, wX5 g a_sa I_sa, wX2 g a_kb I_kb, wX7 g a_tb I_tb, wX5 g a_sb I_sb, wX2 g a_kc I_kc, wX7 g a_tc I_tc, wX5 g a_sc I_sc, wX11 g a_o I_o J_o] [0]) (ci_fm [wX10 g a_p I_p J_p, wX8 g a_d I_d J_d, wX3 g a_r I_r, wX7 g a_q I_q, wX7 g a_t I_t, wX5 g a_s I_s, wX6 g a_e I_e, wX6 g a_f I_f, wX1 g a_y I_y, wX4 g a_w I_w, wX0 g a_c I_c, wX9 g a_z I_z, wMQ g a_m, wX2 g a_ka I_ka, wX7 g a_ta I_ta, wX5 g a_sa I_sa, wX2 g a_kb I_kb, wX7 g a_tb I_tb, wX5 g a_sb I_sb, wX2 g a_kc I_kc, wX7 g a_tc I_tc, wX5 g a_sc I_sc, wX11 g a_o I_o J_o] [wX10 g a_p I_p J_p] rfl) rfl rfl rfl rfl hl.1 (Nat.le_of_ble_eq_true rfl) dL_law_326 ⟨Nat.le_of_ble_eq_true rfl, Nat.le_of_ble_eq_true rfl⟩ (fun w1 p_w1 => ?_)
  refine lv_pop2_2 hx hb dL_law_329 rfl ?_
  refine lv_aload_n hx hb dL_law_330 rfl (lv_at hl 1 rfl) ?_
  refine PurL.gv (wc := wfl [wX10 g a_p I_p J_p, wX8 g a_d I_d J_d, wX3 g a_r I_r, wX7 g a_q I_q, wX7 g a_t I_t, wX5 g a_s I_s, wX6 g a_e I_e, wX6 g a_f I_f, wX1 g a_y I_y, wX4 g a_w I_w, wX0 g a_c I_c, wX9 g a_z I_z, wMQ g a_m, wX2 g a_ka I_ka, wX7 g a_ta I_ta, wX5 g a_sa I_sa, wX2 g a_kb I_kb, wX7 g a_tb I_tb, wX5 g a_sb I_sb, wX2 g a_kc I_kc, wX7 g a_tc I_tc, wX5 g a_sc I_sc, wX11 g a_o I_o J_o]) (As := []) (kX11_top l g a_o I_o J_o) fx (gUV wsL_law_in u_215 u_216 u_217 u_5 u_218) rfl hdX11_top ⟨Nat.le_of_ble_eq_true rfl, Nat.le_of_ble_eq_true rfl⟩ hK hP (cI [wX10 g a_p I_p J_p, wX8 g a_d I_d J_d, wX3 g a_r I_r, wX7 g a_q I_q, wX7 g a_t I_t, wX5 g a_s I_s, wX6 g a_e I_e, wX6 g a_f I_f, wX1 g a_y I_y, wX4 g a_w I_w, wX0 g a_c I_c, wX9 g a_z I_z, wMQ g a_m, wX2 g a_ka I_ka, wX7 g a_ta I_ta, wX5 g a_sa I_sa, wX2 g a_kb I_kb, wX7 g a_tb I_tb, wX5 g a_sb I_sb, wX2 g a_kc I_kc, wX7 g a_tc I_tc, wX5 g a_sc I_sc, wX11 g a_o I_o J_o] [22]) (ci_fm [wX10 g a_p I_p J_p, wX8 g a_d I_d J_d, wX3 g a_r I_r, wX7 g a_q I_q, wX7 g a_t I_t, wX5 g a_s I_s, wX6 g a_e I_e, wX6 g a_f I_f, wX1 g a_y I_y, wX4 g a_w I_w, wX0 g a_c I_c, wX9 g a_z I_z, wMQ g a_m, wX2 g a_ka I_ka, wX7 g a_ta I_ta, wX5 g a_sa I_sa, wX2 g a_kb I_kb, wX7 g a_tb I_tb, wX5 g a_sb I_sb, wX2 g a_kc I_kc, wX7 g a_tc I_tc, wX5 g a_sc I_sc, wX11 g a_o I_o J_o] [wX11 g a_o I_o J_o] rfl) rfl rfl rfl rfl hl.1 (Nat.le_of_ble_eq_true rfl) dL_law_331 ⟨Nat.le_of_ble_eq_true rfl, Nat.le_of_ble_eq_true rfl⟩ (fun w2 p_w2 => ?_)
  refine lv_pop2_2 hx hb dL_law_334 rfl ?_
  refine lv_goto (tgt := 1956) hx hb dL_law_335 (by decide) ?_
  exact K a_p I_p J_p a_d I_d J_d a_r I_r a_q I_q a_t I_t a_s I_s a_e I_e a_f I_f a_y I_y a_w I_w a_c I_c a_z I_z a_m a_ka I_ka a_ta I_ta a_sa I_sa a_kb I_kb a_tb I_tb a_sb I_sb a_kc I_kc a_tc I_tc a_sc I_sc a_o I_o J_o hl_p_trays hl_p_reader hl_p_table hl_p_script hl_p_shown hl_p_spare hl_p_layout hl_p_rows hl_p_code hl_p_wear hl_r_table hl_p_marks hl_m_0 hl_m_1 hl_m_2 hl_ka_table hl_ka_script hl_kb_table hl_kb_script hl_kc_table hl_kc_script hPI hDI hQ hT hSI hE hF hL hR hW hKa hTa hSa hKb hTb hSb hKc hTc hSc hMo (hRt.kk rfl rfl rfl) ((KP.rf I_p).1.trans (hRp.trans rfl.symm)) ((KP.rf I_p).2.1.trans (hRm.trans rfl.symm)) (hTP.kk (KP.rf I_p).1 (KP.rf I_p).2.2 rfl) _ _ hP hD hS ls hl

set_option maxHeartbeats 4000000 in
set_option maxRecDepth 100000 in
theorem lawc2 (l : Launch) (g : gG) (ad av : Nat → Nat) {p : Program} {e : Env} {s : State} {m : MethodId} {below : List Frame} {meth : Method} {c : Code} {b L : Nat} {xs : Nat → Int32} (fx : CallFix p m c cL_law 4 s #[Value.ref b] lw_tbl RL) (hX : va_X b L xs s s.heap) (hbl : b < s.heap.size) (hK : gK g s) (hJ : jF ad av (lA s) s s.heap) (i : Int32) (hi : 0 ≤ i.toInt ∧ i.toInt + 6 ≤ (L : Int) ∧ (L : Int) ≤ 3072) (K : LawC p e s m below meth c l g b i 1956) : LawC p e s m below meth c l g b i 338 := by
  intro a_p I_p J_p a_d I_d J_d a_r I_r a_q I_q a_t I_t a_s I_s a_e I_e a_f I_f a_y I_y a_w I_w a_c I_c a_z I_z a_m a_ka I_ka a_ta I_ta a_sa I_sa a_kb I_kb a_tb I_tb a_sb I_sb a_kc I_kc a_tc I_tc a_sc I_sc a_o I_o J_o hl_p_trays hl_p_reader hl_p_table hl_p_script hl_p_shown hl_p_spare hl_p_layout hl_p_rows hl_p_code hl_p_wear hl_r_table hl_p_marks hl_m_0 hl_m_1 hl_m_2 hl_ka_table hl_ka_script hl_kb_table hl_kb_script hl_kc_table hl_kc_script hPI hDI hQ hT hSI hE hF hL hR hW hKa hTa hSa hKb hTb hSb hKc hTc hSc hMo hRt hRp hRm hTP H locs hP hD hS ls hl
  have hx := fx.1
  have hb := fx.2.1
  have hown := fx.2.2.2.1
  have hts := fx.2.2.2.2
  have hA : ∀ q : Nat, s.heap.size ≤ q → lA s q := fun _ h => h
  have hbA : ¬ lA s b := Nat.not_le.mpr hbl
  have lm1 : (-1 : Int32).toInt = -1 := by decide
  have lm0 : (0 : Int32).toInt = 0 := by decide
  have lm2 : (1 : Int32).toInt = 1 := by decide
  have lq2 : (2 : Int32).toInt = 2 := by decide
  have lq3 : (3 : Int32).toInt = 3 := by decide
  have lq4 : (4 : Int32).toInt = 4 := by decide
  have lq5 : (5 : Int32).toInt = 5 := by decide
  have lq6 : (6 : Int32).toInt = 6 := by decide
  have lq7 : (7 : Int32).toInt = 7 := by decide
  refine lv_aload_n hx hb dL_law_338 rfl (lv_at hl 2 rfl) ?_
  refine PurL.gv (wc := wfl [wX10 g a_p I_p J_p, wX8 g a_d I_d J_d, wX3 g a_r I_r, wX7 g a_q I_q, wX7 g a_t I_t, wX5 g a_s I_s, wX6 g a_e I_e, wX6 g a_f I_f, wX1 g a_y I_y, wX4 g a_w I_w, wX0 g a_c I_c, wX9 g a_z I_z, wMQ g a_m, wX2 g a_ka I_ka, wX7 g a_ta I_ta, wX5 g a_sa I_sa, wX2 g a_kb I_kb, wX7 g a_tb I_tb, wX5 g a_sb I_sb, wX2 g a_kc I_kc, wX7 g a_tc I_tc, wX5 g a_sc I_sc, wX11 g a_o I_o J_o]) (As := []) (kX10_bottom l g a_p I_p J_p) fx (gUV wsL_law_in u_220 u_221 u_222 u_2 u_223) rfl hdX10_bottom ⟨Nat.le_of_ble_eq_true rfl, Nat.le_of_ble_eq_true rfl⟩ hK hP (cI [wX10 g a_p I_p J_p, wX8 g a_d I_d J_d, wX3 g a_r I_r, wX7 g a_q I_q, wX7 g a_t I_t, wX5 g a_s I_s, wX6 g a_e I_e, wX6 g a_f I_f, wX1 g a_y I_y, wX4 g a_w I_w, wX0 g a_c I_c, wX9 g a_z I_z, wMQ g a_m, wX2 g a_ka I_ka, wX7 g a_ta I_ta, wX5 g a_sa I_sa, wX2 g a_kb I_kb, wX7 g a_tb I_tb, wX5 g a_sb I_sb, wX2 g a_kc I_kc, wX7 g a_tc I_tc, wX5 g a_sc I_sc, wX11 g a_o I_o J_o] [0]) (ci_fm [wX10 g a_p I_p J_p, wX8 g a_d I_d J_d, wX3 g a_r I_r, wX7 g a_q I_q, wX7 g a_t I_t, wX5 g a_s I_s, wX6 g a_e I_e, wX6 g a_f I_f, wX1 g a_y I_y, wX4 g a_w I_w, wX0 g a_c I_c, wX9 g a_z I_z, wMQ g a_m, wX2 g a_ka I_ka, wX7 g a_ta I_ta, wX5 g a_sa I_sa, wX2 g a_kb I_kb, wX7 g a_tb I_tb, wX5 g a_sb I_sb, wX2 g a_kc I_kc, wX7 g a_tc I_tc, wX5 g a_sc I_sc, wX11 g a_o I_o J_o] [wX10 g a_p I_p J_p] rfl) rfl rfl rfl rfl hl.1 (Nat.le_of_ble_eq_true rfl) dL_law_339 ⟨Nat.le_of_ble_eq_true rfl, Nat.le_of_ble_eq_true rfl⟩ (fun w1 p_w1 => ?_)
  refine lv_pop2_2 hx hb dL_law_342 rfl ?_
  refine lv_aload_n hx hb dL_law_343 rfl (lv_at hl 1 rfl) ?_
  refine PurL.gv (wc := wfl [wX10 g a_p I_p J_p, wX8 g a_d I_d J_d, wX3 g a_r I_r, wX7 g a_q I_q, wX7 g a_t I_t, wX5 g a_s I_s, wX6 g a_e I_e, wX6 g a_f I_f, wX1 g a_y I_y, wX4 g a_w I_w, wX0 g a_c I_c, wX9 g a_z I_z, wMQ g a_m, wX2 g a_ka I_ka, wX7 g a_ta I_ta, wX5 g a_sa I_sa, wX2 g a_kb I_kb, wX7 g a_tb I_tb, wX5 g a_sb I_sb, wX2 g a_kc I_kc, wX7 g a_tc I_tc, wX5 g a_sc I_sc, wX11 g a_o I_o J_o]) (As := []) (kX11_bottom l g a_o I_o J_o) fx (gUV wsL_law_in u_224 u_225 u_226 u_5 u_227) rfl hdX11_bottom ⟨Nat.le_of_ble_eq_true rfl, Nat.le_of_ble_eq_true rfl⟩ hK hP (cI [wX10 g a_p I_p J_p, wX8 g a_d I_d J_d, wX3 g a_r I_r, wX7 g a_q I_q, wX7 g a_t I_t, wX5 g a_s I_s, wX6 g a_e I_e, wX6 g a_f I_f, wX1 g a_y I_y, wX4 g a_w I_w, wX0 g a_c I_c, wX9 g a_z I_z, wMQ g a_m, wX2 g a_ka I_ka, wX7 g a_ta I_ta, wX5 g a_sa I_sa, wX2 g a_kb I_kb, wX7 g a_tb I_tb, wX5 g a_sb I_sb, wX2 g a_kc I_kc, wX7 g a_tc I_tc, wX5 g a_sc I_sc, wX11 g a_o I_o J_o] [22]) (ci_fm [wX10 g a_p I_p J_p, wX8 g a_d I_d J_d, wX3 g a_r I_r, wX7 g a_q I_q, wX7 g a_t I_t, wX5 g a_s I_s, wX6 g a_e I_e, wX6 g a_f I_f, wX1 g a_y I_y, wX4 g a_w I_w, wX0 g a_c I_c, wX9 g a_z I_z, wMQ g a_m, wX2 g a_ka I_ka, wX7 g a_ta I_ta, wX5 g a_sa I_sa, wX2 g a_kb I_kb, wX7 g a_tb I_tb, wX5 g a_sb I_sb, wX2 g a_kc I_kc, wX7 g a_tc I_tc, wX5 g a_sc I_sc, wX11 g a_o I_o J_o] [wX11 g a_o I_o J_o] rfl) rfl rfl rfl rfl hl.1 (Nat.le_of_ble_eq_true rfl) dL_law_344 ⟨Nat.le_of_ble_eq_true rfl, Nat.le_of_ble_eq_true rfl⟩ (fun w2 p_w2 => ?_)
  refine lv_pop2_2 hx hb dL_law_347 rfl ?_
  refine lv_goto (tgt := 1956) hx hb dL_law_348 (by decide) ?_
  exact K a_p I_p J_p a_d I_d J_d a_r I_r a_q I_q a_t I_t a_s I_s a_e I_e a_f I_f a_y I_y a_w I_w a_c I_c a_z I_z a_m a_ka I_ka a_ta I_ta a_sa I_sa a_kb I_kb a_tb I_tb a_sb I_sb a_kc I_kc a_tc I_tc a_sc I_sc a_o I_o J_o hl_p_trays hl_p_reader hl_p_table hl_p_script hl_p_shown hl_p_spare hl_p_layout hl_p_rows hl_p_code hl_p_wear hl_r_table hl_p_marks hl_m_0 hl_m_1 hl_m_2 hl_ka_table hl_ka_script hl_kb_table hl_kb_script hl_kc_table hl_kc_script hPI hDI hQ hT hSI hE hF hL hR hW hKa hTa hSa hKb hTb hSb hKc hTc hSc hMo (hRt.kk rfl rfl rfl) ((KP.rf I_p).1.trans (hRp.trans rfl.symm)) ((KP.rf I_p).2.1.trans (hRm.trans rfl.symm)) (hTP.kk (KP.rf I_p).1 (KP.rf I_p).2.2 rfl) _ _ hP hD hS ls hl

set_option maxHeartbeats 4000000 in
set_option maxRecDepth 100000 in
theorem lawc3 (l : Launch) (g : gG) (ad av : Nat → Nat) {p : Program} {e : Env} {s : State} {m : MethodId} {below : List Frame} {meth : Method} {c : Code} {b L : Nat} {xs : Nat → Int32} (fx : CallFix p m c cL_law 4 s #[Value.ref b] lw_tbl RL) (hX : va_X b L xs s s.heap) (hbl : b < s.heap.size) (hK : gK g s) (hJ : jF ad av (lA s) s s.heap) (i : Int32) (hi : 0 ≤ i.toInt ∧ i.toInt + 6 ≤ (L : Int) ∧ (L : Int) ≤ 3072) (K : LawC p e s m below meth c l g b i 1956) : LawC p e s m below meth c l g b i 351 := by
  intro a_p I_p J_p a_d I_d J_d a_r I_r a_q I_q a_t I_t a_s I_s a_e I_e a_f I_f a_y I_y a_w I_w a_c I_c a_z I_z a_m a_ka I_ka a_ta I_ta a_sa I_sa a_kb I_kb a_tb I_tb a_sb I_sb a_kc I_kc a_tc I_tc a_sc I_sc a_o I_o J_o hl_p_trays hl_p_reader hl_p_table hl_p_script hl_p_shown hl_p_spare hl_p_layout hl_p_rows hl_p_code hl_p_wear hl_r_table hl_p_marks hl_m_0 hl_m_1 hl_m_2 hl_ka_table hl_ka_script hl_kb_table hl_kb_script hl_kc_table hl_kc_script hPI hDI hQ hT hSI hE hF hL hR hW hKa hTa hSa hKb hTb hSb hKc hTc hSc hMo hRt hRp hRm hTP H locs hP hD hS ls hl
  have hx := fx.1
  have hb := fx.2.1
  have hown := fx.2.2.2.1
  have hts := fx.2.2.2.2
  have hA : ∀ q : Nat, s.heap.size ≤ q → lA s q := fun _ h => h
  have hbA : ¬ lA s b := Nat.not_le.mpr hbl
  have lm1 : (-1 : Int32).toInt = -1 := by decide
  have lm0 : (0 : Int32).toInt = 0 := by decide
  have lm2 : (1 : Int32).toInt = 1 := by decide
  have lq2 : (2 : Int32).toInt = 2 := by decide
  have lq3 : (3 : Int32).toInt = 3 := by decide
  have lq4 : (4 : Int32).toInt = 4 := by decide
  have lq5 : (5 : Int32).toInt = 5 := by decide
  have lq6 : (6 : Int32).toInt = 6 := by decide
  have lq7 : (7 : Int32).toInt = 7 := by decide
  refine lv_aload_n hx hb dL_law_351 rfl (lv_at hl 2 rfl) ?_
  refine lv_aload_n hx hb dL_law_352 rfl (lv_at hl 3 rfl) ?_
  refine lv_iload_n hx hb dL_law_353 rfl (lv_at hl 0 rfl) ?_
  refine lv_iconst (v := 1) hx hb dL_law_354 (by decide) ?_
  refine r_iadd hx hb dL_law_355 rfl (by decide : (1 : Int32).toInt = 1) (fun x1 e_x1 t_x1 => ?_)
  try have t_x1 := t_x1 (by omega)
  have n_356 : vp_in x1 L := t_in (by omega)
  refine va_sld hx hb hX hbl hbA hS n_356 dL_law_356 ?_
  refine q_nm (fun x2 e_x2 => ?_)
  have s_x2 : x2 = xs (i.toInt.toNat + 1) := at_ix e_x2 (by omega)
  refine lv_aload_n hx hb dL_law_357 rfl (lv_at hl 3 rfl) ?_
  refine lv_iload_n hx hb dL_law_358 rfl (lv_at hl 0 rfl) ?_
  refine lv_iconst (v := 2) hx hb dL_law_359 (by decide) ?_
  refine r_iadd hx hb dL_law_360 rfl (by decide : (2 : Int32).toInt = 2) (fun x3 e_x3 t_x3 => ?_)
  try have t_x3 := t_x3 (by omega)
  have n_361 : vp_in x3 L := t_in (by omega)
  refine va_sld hx hb hX hbl hbA hS n_361 dL_law_361 ?_
  refine q_nm (fun x4 e_x4 => ?_)
  have s_x4 : x4 = xs (i.toInt.toNat + 2) := at_ix e_x4 (by omega)
  refine lv_aload_n hx hb dL_law_362 rfl (lv_at hl 3 rfl) ?_
  refine lv_iload_n hx hb dL_law_363 rfl (lv_at hl 0 rfl) ?_
  refine lv_iconst (v := 3) hx hb dL_law_364 (by decide) ?_
  refine r_iadd hx hb dL_law_365 rfl (by decide : (3 : Int32).toInt = 3) (fun x5 e_x5 t_x5 => ?_)
  try have t_x5 := t_x5 (by omega)
  have n_366 : vp_in x5 L := t_in (by omega)
  refine va_sld hx hb hX hbl hbA hS n_366 dL_law_366 ?_
  refine q_nm (fun x6 e_x6 => ?_)
  have s_x6 : x6 = xs (i.toInt.toNat + 3) := at_ix e_x6 (by omega)
  refine EffI.gv (wc := wfl [wX10 g a_p I_p J_p, wX8 g a_d I_d J_d, wX3 g a_r I_r, wX7 g a_q I_q, wX7 g a_t I_t, wX5 g a_s I_s, wX6 g a_e I_e, wX6 g a_f I_f, wX1 g a_y I_y, wX4 g a_w I_w, wX0 g a_c I_c, wX9 g a_z I_z, wMQ g a_m, wX2 g a_ka I_ka, wX7 g a_ta I_ta, wX5 g a_sa I_sa, wX2 g a_kb I_kb, wX7 g a_tb I_tb, wX5 g a_sb I_sb, wX2 g a_kc I_kc, wX7 g a_tc I_tc, wX5 g a_sc I_sc, wX11 g a_o I_o J_o]) (wr := wfl [wX3 g a_r I_r, wX7 g a_q I_q, wX7 g a_t I_t, wX5 g a_s I_s, wX6 g a_e I_e, wX6 g a_f I_f, wX1 g a_y I_y, wX4 g a_w I_w, wX0 g a_c I_c, wX9 g a_z I_z, wMQ g a_m, wX2 g a_ka I_ka, wX7 g a_ta I_ta, wX5 g a_sa I_sa, wX2 g a_kb I_kb, wX7 g a_tb I_tb, wX5 g a_sb I_sb, wX2 g a_kc I_kc, wX7 g a_tc I_tc, wX5 g a_sc I_sc, wX11 g a_o I_o J_o]) (w' := fun u8 => wfl [wX10 g a_p u8.1 J_p, wX8 g a_d u8.2.1 u8.2.2, wX3 g a_r I_r, wX7 g a_q I_q, wX7 g a_t I_t, wX5 g a_s I_s, wX6 g a_e I_e, wX6 g a_f I_f, wX1 g a_y I_y, wX4 g a_w I_w, wX0 g a_c I_c, wX9 g a_z I_z, wMQ g a_m, wX2 g a_ka I_ka, wX7 g a_ta I_ta, wX5 g a_sa I_sa, wX2 g a_kb I_kb, wX7 g a_tb I_tb, wX5 g a_sb I_sb, wX2 g a_kc I_kc, wX7 g a_tc I_tc, wX5 g a_sc I_sc, wX11 g a_o I_o J_o]) (As := [.int x2, .int x4, .int x6]) (kX10_tray l g a_p I_p J_p a_d I_d J_d x2 x4 x6 hl_p_trays (by omega) (by omega)) fx (gUV wsL_law_in u_228 u_229 u_230 u_2 u_231) rfl hdX10_tray ⟨Nat.le_of_ble_eq_true rfl, Nat.le_of_ble_eq_true rfl⟩ hK hP hD hS hA (cI [wX10 g a_p I_p J_p, wX8 g a_d I_d J_d, wX3 g a_r I_r, wX7 g a_q I_q, wX7 g a_t I_t, wX5 g a_s I_s, wX6 g a_e I_e, wX6 g a_f I_f, wX1 g a_y I_y, wX4 g a_w I_w, wX0 g a_c I_c, wX9 g a_z I_z, wMQ g a_m, wX2 g a_ka I_ka, wX7 g a_ta I_ta, wX5 g a_sa I_sa, wX2 g a_kb I_kb, wX7 g a_tb I_tb, wX5 g a_sb I_sb, wX2 g a_kc I_kc, wX7 g a_tc I_tc, wX5 g a_sc I_sc, wX11 g a_o I_o J_o] [0, 1]) (cI [wX10 g a_p I_p J_p, wX8 g a_d I_d J_d, wX3 g a_r I_r, wX7 g a_q I_q, wX7 g a_t I_t, wX5 g a_s I_s, wX6 g a_e I_e, wX6 g a_f I_f, wX1 g a_y I_y, wX4 g a_w I_w, wX0 g a_c I_c, wX9 g a_z I_z, wMQ g a_m, wX2 g a_ka I_ka, wX7 g a_ta I_ta, wX5 g a_sa I_sa, wX2 g a_kb I_kb, wX7 g a_tb I_tb, wX5 g a_sb I_sb, wX2 g a_kc I_kc, wX7 g a_tc I_tc, wX5 g a_sc I_sc, wX11 g a_o I_o J_o] [2, 3, 4, 5, 6, 7, 8, 9, 10, 11, 12, 13, 14, 15, 16, 17, 18, 19, 20, 21, 22]) (cI ([wX3 g a_r I_r, wX7 g a_q I_q, wX7 g a_t I_t, wX5 g a_s I_s, wX6 g a_e I_e, wX6 g a_f I_f, wX1 g a_y I_y, wX4 g a_w I_w, wX0 g a_c I_c, wX9 g a_z I_z, wMQ g a_m, wX2 g a_ka I_ka, wX7 g a_ta I_ta, wX5 g a_sa I_sa, wX2 g a_kb I_kb, wX7 g a_tb I_tb, wX5 g a_sb I_sb, wX2 g a_kc I_kc, wX7 g a_tc I_tc, wX5 g a_sc I_sc, wX11 g a_o I_o J_o] ++ [wX10 g a_p I_p J_p, wX8 g a_d I_d J_d]) [21, 22, 0, 1, 2, 3, 4, 5, 6, 7, 8, 9, 10, 11, 12, 13, 14, 15, 16, 17, 18, 19, 20]) (ci_map [wX10 g a_p I_p J_p, wX8 g a_d I_d J_d, wX3 g a_r I_r, wX7 g a_q I_q, wX7 g a_t I_t, wX5 g a_s I_s, wX6 g a_e I_e, wX6 g a_f I_f, wX1 g a_y I_y, wX4 g a_w I_w, wX0 g a_c I_c, wX9 g a_z I_z, wMQ g a_m, wX2 g a_ka I_ka, wX7 g a_ta I_ta, wX5 g a_sa I_sa, wX2 g a_kb I_kb, wX7 g a_tb I_tb, wX5 g a_sb I_sb, wX2 g a_kc I_kc, wX7 g a_tc I_tc, wX5 g a_sc I_sc, wX11 g a_o I_o J_o] [wX10 g a_p I_p J_p, wX8 g a_d I_d J_d] rfl) (ci_map [wX10 g a_p I_p J_p, wX8 g a_d I_d J_d, wX3 g a_r I_r, wX7 g a_q I_q, wX7 g a_t I_t, wX5 g a_s I_s, wX6 g a_e I_e, wX6 g a_f I_f, wX1 g a_y I_y, wX4 g a_w I_w, wX0 g a_c I_c, wX9 g a_z I_z, wMQ g a_m, wX2 g a_ka I_ka, wX7 g a_ta I_ta, wX5 g a_sa I_sa, wX2 g a_kb I_kb, wX7 g a_tb I_tb, wX5 g a_sb I_sb, wX2 g a_kc I_kc, wX7 g a_tc I_tc, wX5 g a_sc I_sc, wX11 g a_o I_o J_o] [wX3 g a_r I_r, wX7 g a_q I_q, wX7 g a_t I_t, wX5 g a_s I_s, wX6 g a_e I_e, wX6 g a_f I_f, wX1 g a_y I_y, wX4 g a_w I_w, wX0 g a_c I_c, wX9 g a_z I_z, wMQ g a_m, wX2 g a_ka I_ka, wX7 g a_ta I_ta, wX5 g a_sa I_sa, wX2 g a_kb I_kb, wX7 g a_tb I_tb, wX5 g a_sb I_sb, wX2 g a_kc I_kc, wX7 g a_tc I_tc, wX5 g a_sc I_sc, wX11 g a_o I_o J_o] rfl) (ci_nd _ rfl) (ci_nd _ rfl) (ci_dis _ (by decide)) (ci_nd _ rfl) (fun u8 => ci_mapB [wX3 g a_r I_r, wX7 g a_q I_q, wX7 g a_t I_t, wX5 g a_s I_s, wX6 g a_e I_e, wX6 g a_f I_f, wX1 g a_y I_y, wX4 g a_w I_w, wX0 g a_c I_c, wX9 g a_z I_z, wMQ g a_m, wX2 g a_ka I_ka, wX7 g a_ta I_ta, wX5 g a_sa I_sa, wX2 g a_kb I_kb, wX7 g a_tb I_tb, wX5 g a_sb I_sb, wX2 g a_kc I_kc, wX7 g a_tc I_tc, wX5 g a_sc I_sc, wX11 g a_o I_o J_o] [wX10 g a_p I_p J_p, wX8 g a_d I_d J_d] [wX10 g a_p u8.1 J_p, wX8 g a_d u8.2.1 u8.2.2] [wX10 g a_p u8.1 J_p, wX8 g a_d u8.2.1 u8.2.2, wX3 g a_r I_r, wX7 g a_q I_q, wX7 g a_t I_t, wX5 g a_s I_s, wX6 g a_e I_e, wX6 g a_f I_f, wX1 g a_y I_y, wX4 g a_w I_w, wX0 g a_c I_c, wX9 g a_z I_z, wMQ g a_m, wX2 g a_ka I_ka, wX7 g a_ta I_ta, wX5 g a_sa I_sa, wX2 g a_kb I_kb, wX7 g a_tb I_tb, wX5 g a_sb I_sb, wX2 g a_kc I_kc, wX7 g a_tc I_tc, wX5 g a_sc I_sc, wX11 g a_o I_o J_o] rfl rfl) rfl rfl rfl rfl hl.1 (Nat.le_of_ble_eq_true rfl) dL_law_367 ⟨Nat.le_of_ble_eq_true rfl, Nat.le_of_ble_eq_true rfl⟩ (fun r7 u8 H locs p_r7 hP hD hS => ?_)
  obtain ⟨I9, I10, I11⟩ := u8
  try dsimp only at p_r7
  have hP : va_P g.1 vwCl (wX10 g a_p I9 J_p ++ (wX8 g a_d I10 I11 ++ (wX3 g a_r I_r ++ (wX7 g a_q I_q ++ (wX7 g a_t I_t ++ (wX5 g a_s I_s ++ (wX6 g a_e I_e ++ (wX6 g a_f I_f ++ (wX1 g a_y I_y ++ (wX4 g a_w I_w ++ (wX0 g a_c I_c ++ (wX9 g a_z I_z ++ (wMQ g a_m ++ (wX2 g a_ka I_ka ++ (wX7 g a_ta I_ta ++ (wX5 g a_sa I_sa ++ (wX2 g a_kb I_kb ++ (wX7 g a_tb I_tb ++ (wX5 g a_sb I_sb ++ (wX2 g a_kc I_kc ++ (wX7 g a_tc I_tc ++ (wX5 g a_sc I_sc ++ wX11 g a_o I_o J_o)))))))))))))))))))))) H := hP
  have hD : va_D (lA s) (wX10 g a_p I9 J_p ++ (wX8 g a_d I10 I11 ++ (wX3 g a_r I_r ++ (wX7 g a_q I_q ++ (wX7 g a_t I_t ++ (wX5 g a_s I_s ++ (wX6 g a_e I_e ++ (wX6 g a_f I_f ++ (wX1 g a_y I_y ++ (wX4 g a_w I_w ++ (wX0 g a_c I_c ++ (wX9 g a_z I_z ++ (wMQ g a_m ++ (wX2 g a_ka I_ka ++ (wX7 g a_ta I_ta ++ (wX5 g a_sa I_sa ++ (wX2 g a_kb I_kb ++ (wX7 g a_tb I_tb ++ (wX5 g a_sb I_sb ++ (wX2 g a_kc I_kc ++ (wX7 g a_tc I_tc ++ (wX5 g a_sc I_sc ++ wX11 g a_o I_o J_o)))))))))))))))))))))) := hD
  refine lv_pop hx hb dL_law_370 rfl ?_
  refine lv_aload_n hx hb dL_law_371 rfl (lv_at hl 1 rfl) ?_
  refine lv_aload_n hx hb dL_law_372 rfl (lv_at hl 3 rfl) ?_
  refine lv_iload_n hx hb dL_law_373 rfl (lv_at hl 0 rfl) ?_
  refine lv_iconst (v := 1) hx hb dL_law_374 (by decide) ?_
  refine r_iadd hx hb dL_law_375 rfl (by decide : (1 : Int32).toInt = 1) (fun x12 e_x12 t_x12 => ?_)
  try have t_x12 := t_x12 (by omega)
  have n_376 : vp_in x12 L := t_in (by omega)
  refine va_sld hx hb hX hbl hbA hS n_376 dL_law_376 ?_
  have u_376 : xs (x12).toNatClampNeg = xs (i.toInt.toNat + 1) := at_ix rfl (by omega)
  refine q_same (s_x2.trans u_376.symm) ?_
  refine lv_aload_n hx hb dL_law_377 rfl (lv_at hl 3 rfl) ?_
  refine lv_iload_n hx hb dL_law_378 rfl (lv_at hl 0 rfl) ?_
  refine lv_iconst (v := 2) hx hb dL_law_379 (by decide) ?_
  refine r_iadd hx hb dL_law_380 rfl (by decide : (2 : Int32).toInt = 2) (fun x14 e_x14 t_x14 => ?_)
  try have t_x14 := t_x14 (by omega)
  have n_381 : vp_in x14 L := t_in (by omega)
  refine va_sld hx hb hX hbl hbA hS n_381 dL_law_381 ?_
  have u_381 : xs (x14).toNatClampNeg = xs (i.toInt.toNat + 2) := at_ix rfl (by omega)
  refine q_same (s_x4.trans u_381.symm) ?_
  refine lv_aload_n hx hb dL_law_382 rfl (lv_at hl 3 rfl) ?_
  refine lv_iload_n hx hb dL_law_383 rfl (lv_at hl 0 rfl) ?_
  refine lv_iconst (v := 3) hx hb dL_law_384 (by decide) ?_
  refine r_iadd hx hb dL_law_385 rfl (by decide : (3 : Int32).toInt = 3) (fun x16 e_x16 t_x16 => ?_)
  try have t_x16 := t_x16 (by omega)
  have n_386 : vp_in x16 L := t_in (by omega)
  refine va_sld hx hb hX hbl hbA hS n_386 dL_law_386 ?_
  have u_386 : xs (x16).toNatClampNeg = xs (i.toInt.toNat + 3) := at_ix rfl (by omega)
  refine q_same (s_x6.trans u_386.symm) ?_
  refine EffI.gv (wc := wfl [wX10 g a_p I9 J_p, wX8 g a_d I10 I11, wX3 g a_r I_r, wX7 g a_q I_q, wX7 g a_t I_t, wX5 g a_s I_s, wX6 g a_e I_e, wX6 g a_f I_f, wX1 g a_y I_y, wX4 g a_w I_w, wX0 g a_c I_c, wX9 g a_z I_z, wMQ g a_m, wX2 g a_ka I_ka, wX7 g a_ta I_ta, wX5 g a_sa I_sa, wX2 g a_kb I_kb, wX7 g a_tb I_tb, wX5 g a_sb I_sb, wX2 g a_kc I_kc, wX7 g a_tc I_tc, wX5 g a_sc I_sc, wX11 g a_o I_o J_o]) (wr := wfl [wX10 g a_p I9 J_p, wX8 g a_d I10 I11, wX3 g a_r I_r, wX7 g a_q I_q, wX7 g a_t I_t, wX5 g a_s I_s, wX6 g a_e I_e, wX6 g a_f I_f, wX1 g a_y I_y, wX4 g a_w I_w, wX0 g a_c I_c, wX9 g a_z I_z, wMQ g a_m, wX2 g a_ka I_ka, wX7 g a_ta I_ta, wX5 g a_sa I_sa, wX2 g a_kb I_kb, wX7 g a_tb I_tb, wX5 g a_sb I_sb, wX2 g a_kc I_kc, wX7 g a_tc I_tc, wX5 g a_sc I_sc]) (w' := fun u19 => wfl [wX10 g a_p I9 J_p, wX8 g a_d I10 I11, wX3 g a_r I_r, wX7 g a_q I_q, wX7 g a_t I_t, wX5 g a_s I_s, wX6 g a_e I_e, wX6 g a_f I_f, wX1 g a_y I_y, wX4 g a_w I_w, wX0 g a_c I_c, wX9 g a_z I_z, wMQ g a_m, wX2 g a_ka I_ka, wX7 g a_ta I_ta, wX5 g a_sa I_sa, wX2 g a_kb I_kb, wX7 g a_tb I_tb, wX5 g a_sb I_sb, wX2 g a_kc I_kc, wX7 g a_tc I_tc, wX5 g a_sc I_sc, wX11 g a_o u19.1 u19.2]) (As := [.int x2, .int x4, .int x6]) (kX11_tray l g a_o I_o J_o x2 x4 x6 hMo) fx (gUV wsL_law_in u_252 u_253 u_254 u_5 u_255) rfl hdX11_tray ⟨Nat.le_of_ble_eq_true rfl, Nat.le_of_ble_eq_true rfl⟩ hK hP hD hS hA (cI [wX10 g a_p I9 J_p, wX8 g a_d I10 I11, wX3 g a_r I_r, wX7 g a_q I_q, wX7 g a_t I_t, wX5 g a_s I_s, wX6 g a_e I_e, wX6 g a_f I_f, wX1 g a_y I_y, wX4 g a_w I_w, wX0 g a_c I_c, wX9 g a_z I_z, wMQ g a_m, wX2 g a_ka I_ka, wX7 g a_ta I_ta, wX5 g a_sa I_sa, wX2 g a_kb I_kb, wX7 g a_tb I_tb, wX5 g a_sb I_sb, wX2 g a_kc I_kc, wX7 g a_tc I_tc, wX5 g a_sc I_sc, wX11 g a_o I_o J_o] [22]) (cI [wX10 g a_p I9 J_p, wX8 g a_d I10 I11, wX3 g a_r I_r, wX7 g a_q I_q, wX7 g a_t I_t, wX5 g a_s I_s, wX6 g a_e I_e, wX6 g a_f I_f, wX1 g a_y I_y, wX4 g a_w I_w, wX0 g a_c I_c, wX9 g a_z I_z, wMQ g a_m, wX2 g a_ka I_ka, wX7 g a_ta I_ta, wX5 g a_sa I_sa, wX2 g a_kb I_kb, wX7 g a_tb I_tb, wX5 g a_sb I_sb, wX2 g a_kc I_kc, wX7 g a_tc I_tc, wX5 g a_sc I_sc, wX11 g a_o I_o J_o] [0, 1, 2, 3, 4, 5, 6, 7, 8, 9, 10, 11, 12, 13, 14, 15, 16, 17, 18, 19, 20, 21]) (cI ([wX10 g a_p I9 J_p, wX8 g a_d I10 I11, wX3 g a_r I_r, wX7 g a_q I_q, wX7 g a_t I_t, wX5 g a_s I_s, wX6 g a_e I_e, wX6 g a_f I_f, wX1 g a_y I_y, wX4 g a_w I_w, wX0 g a_c I_c, wX9 g a_z I_z, wMQ g a_m, wX2 g a_ka I_ka, wX7 g a_ta I_ta, wX5 g a_sa I_sa, wX2 g a_kb I_kb, wX7 g a_tb I_tb, wX5 g a_sb I_sb, wX2 g a_kc I_kc, wX7 g a_tc I_tc, wX5 g a_sc I_sc] ++ [wX11 g a_o I_o J_o]) [0, 1, 2, 3, 4, 5, 6, 7, 8, 9, 10, 11, 12, 13, 14, 15, 16, 17, 18, 19, 20, 21, 22]) (ci_map [wX10 g a_p I9 J_p, wX8 g a_d I10 I11, wX3 g a_r I_r, wX7 g a_q I_q, wX7 g a_t I_t, wX5 g a_s I_s, wX6 g a_e I_e, wX6 g a_f I_f, wX1 g a_y I_y, wX4 g a_w I_w, wX0 g a_c I_c, wX9 g a_z I_z, wMQ g a_m, wX2 g a_ka I_ka, wX7 g a_ta I_ta, wX5 g a_sa I_sa, wX2 g a_kb I_kb, wX7 g a_tb I_tb, wX5 g a_sb I_sb, wX2 g a_kc I_kc, wX7 g a_tc I_tc, wX5 g a_sc I_sc, wX11 g a_o I_o J_o] [wX11 g a_o I_o J_o] rfl) (ci_map [wX10 g a_p I9 J_p, wX8 g a_d I10 I11, wX3 g a_r I_r, wX7 g a_q I_q, wX7 g a_t I_t, wX5 g a_s I_s, wX6 g a_e I_e, wX6 g a_f I_f, wX1 g a_y I_y, wX4 g a_w I_w, wX0 g a_c I_c, wX9 g a_z I_z, wMQ g a_m, wX2 g a_ka I_ka, wX7 g a_ta I_ta, wX5 g a_sa I_sa, wX2 g a_kb I_kb, wX7 g a_tb I_tb, wX5 g a_sb I_sb, wX2 g a_kc I_kc, wX7 g a_tc I_tc, wX5 g a_sc I_sc, wX11 g a_o I_o J_o] [wX10 g a_p I9 J_p, wX8 g a_d I10 I11, wX3 g a_r I_r, wX7 g a_q I_q, wX7 g a_t I_t, wX5 g a_s I_s, wX6 g a_e I_e, wX6 g a_f I_f, wX1 g a_y I_y, wX4 g a_w I_w, wX0 g a_c I_c, wX9 g a_z I_z, wMQ g a_m, wX2 g a_ka I_ka, wX7 g a_ta I_ta, wX5 g a_sa I_sa, wX2 g a_kb I_kb, wX7 g a_tb I_tb, wX5 g a_sb I_sb, wX2 g a_kc I_kc, wX7 g a_tc I_tc, wX5 g a_sc I_sc] rfl) (ci_nd _ rfl) (ci_nd _ rfl) (ci_dis _ (by decide)) (ci_nd _ rfl) (fun u19 => ci_mapB [wX10 g a_p I9 J_p, wX8 g a_d I10 I11, wX3 g a_r I_r, wX7 g a_q I_q, wX7 g a_t I_t, wX5 g a_s I_s, wX6 g a_e I_e, wX6 g a_f I_f, wX1 g a_y I_y, wX4 g a_w I_w, wX0 g a_c I_c, wX9 g a_z I_z, wMQ g a_m, wX2 g a_ka I_ka, wX7 g a_ta I_ta, wX5 g a_sa I_sa, wX2 g a_kb I_kb, wX7 g a_tb I_tb, wX5 g a_sb I_sb, wX2 g a_kc I_kc, wX7 g a_tc I_tc, wX5 g a_sc I_sc] [wX11 g a_o I_o J_o] [wX11 g a_o u19.1 u19.2] [wX10 g a_p I9 J_p, wX8 g a_d I10 I11, wX3 g a_r I_r, wX7 g a_q I_q, wX7 g a_t I_t, wX5 g a_s I_s, wX6 g a_e I_e, wX6 g a_f I_f, wX1 g a_y I_y, wX4 g a_w I_w, wX0 g a_c I_c, wX9 g a_z I_z, wMQ g a_m, wX2 g a_ka I_ka, wX7 g a_ta I_ta, wX5 g a_sa I_sa, wX2 g a_kb I_kb, wX7 g a_tb I_tb, wX5 g a_sb I_sb, wX2 g a_kc I_kc, wX7 g a_tc I_tc, wX5 g a_sc I_sc, wX11 g a_o u19.1 u19.2] rfl rfl) rfl rfl rfl rfl hl.1 (Nat.le_of_ble_eq_true rfl) dL_law_387 ⟨Nat.le_of_ble_eq_true rfl, Nat.le_of_ble_eq_true rfl⟩ (fun r18 u19 H locs p_r18 hP hD hS => ?_)
  obtain ⟨I20, I21⟩ := u19
  try dsimp only at p_r18
  have hP : va_P g.1 vwCl (wX10 g a_p I9 J_p ++ (wX8 g a_d I10 I11 ++ (wX3 g a_r I_r ++ (wX7 g a_q I_q ++ (wX7 g a_t I_t ++ (wX5 g a_s I_s ++ (wX6 g a_e I_e ++ (wX6 g a_f I_f ++ (wX1 g a_y I_y ++ (wX4 g a_w I_w ++ (wX0 g a_c I_c ++ (wX9 g a_z I_z ++ (wMQ g a_m ++ (wX2 g a_ka I_ka ++ (wX7 g a_ta I_ta ++ (wX5 g a_sa I_sa ++ (wX2 g a_kb I_kb ++ (wX7 g a_tb I_tb ++ (wX5 g a_sb I_sb ++ (wX2 g a_kc I_kc ++ (wX7 g a_tc I_tc ++ (wX5 g a_sc I_sc ++ wX11 g a_o I20 I21)))))))))))))))))))))) H := hP
  have hD : va_D (lA s) (wX10 g a_p I9 J_p ++ (wX8 g a_d I10 I11 ++ (wX3 g a_r I_r ++ (wX7 g a_q I_q ++ (wX7 g a_t I_t ++ (wX5 g a_s I_s ++ (wX6 g a_e I_e ++ (wX6 g a_f I_f ++ (wX1 g a_y I_y ++ (wX4 g a_w I_w ++ (wX0 g a_c I_c ++ (wX9 g a_z I_z ++ (wMQ g a_m ++ (wX2 g a_ka I_ka ++ (wX7 g a_ta I_ta ++ (wX5 g a_sa I_sa ++ (wX2 g a_kb I_kb ++ (wX7 g a_tb I_tb ++ (wX5 g a_sb I_sb ++ (wX2 g a_kc I_kc ++ (wX7 g a_tc I_tc ++ (wX5 g a_sc I_sc ++ wX11 g a_o I20 I21)))))))))))))))))))))) := hD
  refine lv_pop hx hb dL_law_390 rfl ?_
  refine lv_goto (tgt := 1956) hx hb dL_law_391 (by decide) ?_
  exact K a_p I9 J_p a_d I10 I11 a_r I_r a_q I_q a_t I_t a_s I_s a_e I_e a_f I_f a_y I_y a_w I_w a_c I_c a_z I_z a_m a_ka I_ka a_ta I_ta a_sa I_sa a_kb I_kb a_tb I_tb a_sb I_sb a_kc I_kc a_tc I_tc a_sc I_sc a_o I20 I21 hl_p_trays hl_p_reader hl_p_table hl_p_script hl_p_shown hl_p_spare hl_p_layout hl_p_rows hl_p_code hl_p_wear hl_r_table hl_p_marks hl_m_0 hl_m_1 hl_m_2 hl_ka_table hl_ka_script hl_kb_table hl_kb_script hl_kc_table hl_kc_script (p_r7.1) (p_r7.2.1) hQ hT hSI hE hF hL hR hW hKa hTa hSa hKb hTb hSb hKc hTc hSc (p_r18.1) ((RT.tray hRt p_r7.2.2.2 p_r18.2.2).1) ((show KP I_p I9 from (KP.tr (KP.rf I_p) (p_r7.2.2.1))).1.trans (hRp.trans ((show KK [2, 3] [1] I_o I20 from (KK.tr (KK.rf I_o) p_r18.2.1 (by decide) (by decide))).num 9 (by decide)).symm)) ((show KP I_p I9 from (KP.tr (KP.rf I_p) (p_r7.2.2.1))).2.1.trans (hRm.trans ((show KK [2, 3] [1] I_o I20 from (KK.tr (KK.rf I_o) p_r18.2.1 (by decide) (by decide))).num 45 (by decide)).symm)) (hTP.kk (show KP I_p I9 from (KP.tr (KP.rf I_p) (p_r7.2.2.1))).1 (show KP I_p I9 from (KP.tr (KP.rf I_p) (p_r7.2.2.1))).2.2 ((show KK [2, 3] [1] I_o I20 from (KK.tr (KK.rf I_o) p_r18.2.1 (by decide) (by decide))).row 5 (by decide))) _ _ hP hD hS ls hl

set_option maxHeartbeats 4000000 in
set_option maxRecDepth 100000 in
theorem lawc4 (l : Launch) (g : gG) (ad av : Nat → Nat) {p : Program} {e : Env} {s : State} {m : MethodId} {below : List Frame} {meth : Method} {c : Code} {b L : Nat} {xs : Nat → Int32} (fx : CallFix p m c cL_law 4 s #[Value.ref b] lw_tbl RL) (hX : va_X b L xs s s.heap) (hbl : b < s.heap.size) (hK : gK g s) (hJ : jF ad av (lA s) s s.heap) (i : Int32) (hi : 0 ≤ i.toInt ∧ i.toInt + 6 ≤ (L : Int) ∧ (L : Int) ≤ 3072) (K : LawC p e s m below meth c l g b i 1956) : LawC p e s m below meth c l g b i 394 := by
  intro a_p I_p J_p a_d I_d J_d a_r I_r a_q I_q a_t I_t a_s I_s a_e I_e a_f I_f a_y I_y a_w I_w a_c I_c a_z I_z a_m a_ka I_ka a_ta I_ta a_sa I_sa a_kb I_kb a_tb I_tb a_sb I_sb a_kc I_kc a_tc I_tc a_sc I_sc a_o I_o J_o hl_p_trays hl_p_reader hl_p_table hl_p_script hl_p_shown hl_p_spare hl_p_layout hl_p_rows hl_p_code hl_p_wear hl_r_table hl_p_marks hl_m_0 hl_m_1 hl_m_2 hl_ka_table hl_ka_script hl_kb_table hl_kb_script hl_kc_table hl_kc_script hPI hDI hQ hT hSI hE hF hL hR hW hKa hTa hSa hKb hTb hSb hKc hTc hSc hMo hRt hRp hRm hTP H locs hP hD hS ls hl
  have hx := fx.1
  have hb := fx.2.1
  have hown := fx.2.2.2.1
  have hts := fx.2.2.2.2
  have hA : ∀ q : Nat, s.heap.size ≤ q → lA s q := fun _ h => h
  have hbA : ¬ lA s b := Nat.not_le.mpr hbl
  have lm1 : (-1 : Int32).toInt = -1 := by decide
  have lm0 : (0 : Int32).toInt = 0 := by decide
  have lm2 : (1 : Int32).toInt = 1 := by decide
  have lq2 : (2 : Int32).toInt = 2 := by decide
  have lq3 : (3 : Int32).toInt = 3 := by decide
  have lq4 : (4 : Int32).toInt = 4 := by decide
  have lq5 : (5 : Int32).toInt = 5 := by decide
  have lq6 : (6 : Int32).toInt = 6 := by decide
  have lq7 : (7 : Int32).toInt = 7 := by decide
  refine lv_aload_n hx hb dL_law_394 rfl (lv_at hl 2 rfl) ?_
  refine lv_aload_n hx hb dL_law_395 rfl (lv_at hl 3 rfl) ?_
  refine lv_iload_n hx hb dL_law_396 rfl (lv_at hl 0 rfl) ?_
  refine lv_iconst (v := 1) hx hb dL_law_397 (by decide) ?_
  refine r_iadd hx hb dL_law_398 rfl (by decide : (1 : Int32).toInt = 1) (fun x1 e_x1 t_x1 => ?_)
  try have t_x1 := t_x1 (by omega)
  have n_399 : vp_in x1 L := t_in (by omega)
  refine va_sld hx hb hX hbl hbA hS n_399 dL_law_399 ?_
  refine q_nm (fun x2 e_x2 => ?_)
  have s_x2 : x2 = xs (i.toInt.toNat + 1) := at_ix e_x2 (by omega)
  refine lv_aload_n hx hb dL_law_400 rfl (lv_at hl 3 rfl) ?_
  refine lv_iload_n hx hb dL_law_401 rfl (lv_at hl 0 rfl) ?_
  refine lv_iconst (v := 2) hx hb dL_law_402 (by decide) ?_
  refine r_iadd hx hb dL_law_403 rfl (by decide : (2 : Int32).toInt = 2) (fun x3 e_x3 t_x3 => ?_)
  try have t_x3 := t_x3 (by omega)
  have n_404 : vp_in x3 L := t_in (by omega)
  refine va_sld hx hb hX hbl hbA hS n_404 dL_law_404 ?_
  refine q_nm (fun x4 e_x4 => ?_)
  have s_x4 : x4 = xs (i.toInt.toNat + 2) := at_ix e_x4 (by omega)
  refine lv_aload_n hx hb dL_law_405 rfl (lv_at hl 3 rfl) ?_
  refine lv_iload_n hx hb dL_law_406 rfl (lv_at hl 0 rfl) ?_
  refine lv_iconst (v := 3) hx hb dL_law_407 (by decide) ?_
  refine r_iadd hx hb dL_law_408 rfl (by decide : (3 : Int32).toInt = 3) (fun x5 e_x5 t_x5 => ?_)
  try have t_x5 := t_x5 (by omega)
  have n_409 : vp_in x5 L := t_in (by omega)
  refine va_sld hx hb hX hbl hbA hS n_409 dL_law_409 ?_
  refine q_nm (fun x6 e_x6 => ?_)
  have s_x6 : x6 = xs (i.toInt.toNat + 3) := at_ix e_x6 (by omega)
  refine lv_i2l hx hb dL_law_410 rfl ?_
  refine q_nml (fun w7 e_w7 => ?_)
  refine lv_bipush (v := 32) hx hb dL_law_411 (by decide) ?_
  refine lv_lshl hx hb dL_law_413 rfl ?_
  refine q_nml (fun w8 e_w8 => ?_)
  refine lv_aload_n hx hb dL_law_414 rfl (lv_at hl 3 rfl) ?_
  refine lv_iload_n hx hb dL_law_415 rfl (lv_at hl 0 rfl) ?_
  refine lv_iconst (v := 4) hx hb dL_law_416 (by decide) ?_
  refine r_iadd hx hb dL_law_417 rfl (by decide : (4 : Int32).toInt = 4) (fun x9 e_x9 t_x9 => ?_)
  try have t_x9 := t_x9 (by omega)
  have n_418 : vp_in x9 L := t_in (by omega)
  refine va_sld hx hb hX hbl hbA hS n_418 dL_law_418 ?_
  refine q_nm (fun x10 e_x10 => ?_)
  have s_x10 : x10 = xs (i.toInt.toNat + 4) := at_ix e_x10 (by omega)
  refine lv_i2l hx hb dL_law_419 rfl ?_
  refine q_nml (fun w11 e_w11 => ?_)
  refine lv_ldc2 hx hb hown (hts _ (wsL_law_in _ u_6)) dL_law_420 ?_
  refine lv_land hx hb dL_law_423 ?_
  refine q_nml (fun w12 e_w12 => ?_)
  refine lv_lor hx hb dL_law_424 ?_
  refine q_nml (fun w13 e_w13 => ?_)
  refine EffI.gv (wc := wfl [wX10 g a_p I_p J_p, wX8 g a_d I_d J_d, wX3 g a_r I_r, wX7 g a_q I_q, wX7 g a_t I_t, wX5 g a_s I_s, wX6 g a_e I_e, wX6 g a_f I_f, wX1 g a_y I_y, wX4 g a_w I_w, wX0 g a_c I_c, wX9 g a_z I_z, wMQ g a_m, wX2 g a_ka I_ka, wX7 g a_ta I_ta, wX5 g a_sa I_sa, wX2 g a_kb I_kb, wX7 g a_tb I_tb, wX5 g a_sb I_sb, wX2 g a_kc I_kc, wX7 g a_tc I_tc, wX5 g a_sc I_sc, wX11 g a_o I_o J_o]) (wr := wfl [wX3 g a_r I_r, wX7 g a_q I_q, wX7 g a_t I_t, wX5 g a_s I_s, wX6 g a_e I_e, wX6 g a_f I_f, wX1 g a_y I_y, wX4 g a_w I_w, wX0 g a_c I_c, wX9 g a_z I_z, wMQ g a_m, wX2 g a_ka I_ka, wX7 g a_ta I_ta, wX5 g a_sa I_sa, wX2 g a_kb I_kb, wX7 g a_tb I_tb, wX5 g a_sb I_sb, wX2 g a_kc I_kc, wX7 g a_tc I_tc, wX5 g a_sc I_sc, wX11 g a_o I_o J_o]) (w' := fun u15 => wfl [wX10 g a_p u15.1 J_p, wX8 g a_d I_d u15.2, wX3 g a_r I_r, wX7 g a_q I_q, wX7 g a_t I_t, wX5 g a_s I_s, wX6 g a_e I_e, wX6 g a_f I_f, wX1 g a_y I_y, wX4 g a_w I_w, wX0 g a_c I_c, wX9 g a_z I_z, wMQ g a_m, wX2 g a_ka I_ka, wX7 g a_ta I_ta, wX5 g a_sa I_sa, wX2 g a_kb I_kb, wX7 g a_tb I_tb, wX5 g a_sb I_sb, wX2 g a_kc I_kc, wX7 g a_tc I_tc, wX5 g a_sc I_sc, wX11 g a_o I_o J_o]) (As := [.int x2, .int x4, .long w13]) (kX10_write l g a_p I_p J_p a_d I_d J_d x2 x4 w13 hl_p_trays (by omega) (by omega)) fx (gUV wsL_law_in u_263 u_264 u_265 u_2 u_266) rfl hdX10_write ⟨Nat.le_of_ble_eq_true rfl, Nat.le_of_ble_eq_true rfl⟩ hK hP hD hS hA (cI [wX10 g a_p I_p J_p, wX8 g a_d I_d J_d, wX3 g a_r I_r, wX7 g a_q I_q, wX7 g a_t I_t, wX5 g a_s I_s, wX6 g a_e I_e, wX6 g a_f I_f, wX1 g a_y I_y, wX4 g a_w I_w, wX0 g a_c I_c, wX9 g a_z I_z, wMQ g a_m, wX2 g a_ka I_ka, wX7 g a_ta I_ta, wX5 g a_sa I_sa, wX2 g a_kb I_kb, wX7 g a_tb I_tb, wX5 g a_sb I_sb, wX2 g a_kc I_kc, wX7 g a_tc I_tc, wX5 g a_sc I_sc, wX11 g a_o I_o J_o] [0, 1]) (cI [wX10 g a_p I_p J_p, wX8 g a_d I_d J_d, wX3 g a_r I_r, wX7 g a_q I_q, wX7 g a_t I_t, wX5 g a_s I_s, wX6 g a_e I_e, wX6 g a_f I_f, wX1 g a_y I_y, wX4 g a_w I_w, wX0 g a_c I_c, wX9 g a_z I_z, wMQ g a_m, wX2 g a_ka I_ka, wX7 g a_ta I_ta, wX5 g a_sa I_sa, wX2 g a_kb I_kb, wX7 g a_tb I_tb, wX5 g a_sb I_sb, wX2 g a_kc I_kc, wX7 g a_tc I_tc, wX5 g a_sc I_sc, wX11 g a_o I_o J_o] [2, 3, 4, 5, 6, 7, 8, 9, 10, 11, 12, 13, 14, 15, 16, 17, 18, 19, 20, 21, 22]) (cI ([wX3 g a_r I_r, wX7 g a_q I_q, wX7 g a_t I_t, wX5 g a_s I_s, wX6 g a_e I_e, wX6 g a_f I_f, wX1 g a_y I_y, wX4 g a_w I_w, wX0 g a_c I_c, wX9 g a_z I_z, wMQ g a_m, wX2 g a_ka I_ka, wX7 g a_ta I_ta, wX5 g a_sa I_sa, wX2 g a_kb I_kb, wX7 g a_tb I_tb, wX5 g a_sb I_sb, wX2 g a_kc I_kc, wX7 g a_tc I_tc, wX5 g a_sc I_sc, wX11 g a_o I_o J_o] ++ [wX10 g a_p I_p J_p, wX8 g a_d I_d J_d]) [21, 22, 0, 1, 2, 3, 4, 5, 6, 7, 8, 9, 10, 11, 12, 13, 14, 15, 16, 17, 18, 19, 20]) (ci_map [wX10 g a_p I_p J_p, wX8 g a_d I_d J_d, wX3 g a_r I_r, wX7 g a_q I_q, wX7 g a_t I_t, wX5 g a_s I_s, wX6 g a_e I_e, wX6 g a_f I_f, wX1 g a_y I_y, wX4 g a_w I_w, wX0 g a_c I_c, wX9 g a_z I_z, wMQ g a_m, wX2 g a_ka I_ka, wX7 g a_ta I_ta, wX5 g a_sa I_sa, wX2 g a_kb I_kb, wX7 g a_tb I_tb, wX5 g a_sb I_sb, wX2 g a_kc I_kc, wX7 g a_tc I_tc, wX5 g a_sc I_sc, wX11 g a_o I_o J_o] [wX10 g a_p I_p J_p, wX8 g a_d I_d J_d] rfl) (ci_map [wX10 g a_p I_p J_p, wX8 g a_d I_d J_d, wX3 g a_r I_r, wX7 g a_q I_q, wX7 g a_t I_t, wX5 g a_s I_s, wX6 g a_e I_e, wX6 g a_f I_f, wX1 g a_y I_y, wX4 g a_w I_w, wX0 g a_c I_c, wX9 g a_z I_z, wMQ g a_m, wX2 g a_ka I_ka, wX7 g a_ta I_ta, wX5 g a_sa I_sa, wX2 g a_kb I_kb, wX7 g a_tb I_tb, wX5 g a_sb I_sb, wX2 g a_kc I_kc, wX7 g a_tc I_tc, wX5 g a_sc I_sc, wX11 g a_o I_o J_o] [wX3 g a_r I_r, wX7 g a_q I_q, wX7 g a_t I_t, wX5 g a_s I_s, wX6 g a_e I_e, wX6 g a_f I_f, wX1 g a_y I_y, wX4 g a_w I_w, wX0 g a_c I_c, wX9 g a_z I_z, wMQ g a_m, wX2 g a_ka I_ka, wX7 g a_ta I_ta, wX5 g a_sa I_sa, wX2 g a_kb I_kb, wX7 g a_tb I_tb, wX5 g a_sb I_sb, wX2 g a_kc I_kc, wX7 g a_tc I_tc, wX5 g a_sc I_sc, wX11 g a_o I_o J_o] rfl) (ci_nd _ rfl) (ci_nd _ rfl) (ci_dis _ (by decide)) (ci_nd _ rfl) (fun u15 => ci_mapB [wX3 g a_r I_r, wX7 g a_q I_q, wX7 g a_t I_t, wX5 g a_s I_s, wX6 g a_e I_e, wX6 g a_f I_f, wX1 g a_y I_y, wX4 g a_w I_w, wX0 g a_c I_c, wX9 g a_z I_z, wMQ g a_m, wX2 g a_ka I_ka, wX7 g a_ta I_ta, wX5 g a_sa I_sa, wX2 g a_kb I_kb, wX7 g a_tb I_tb, wX5 g a_sb I_sb, wX2 g a_kc I_kc, wX7 g a_tc I_tc, wX5 g a_sc I_sc, wX11 g a_o I_o J_o] [wX10 g a_p I_p J_p, wX8 g a_d I_d J_d] [wX10 g a_p u15.1 J_p, wX8 g a_d I_d u15.2] [wX10 g a_p u15.1 J_p, wX8 g a_d I_d u15.2, wX3 g a_r I_r, wX7 g a_q I_q, wX7 g a_t I_t, wX5 g a_s I_s, wX6 g a_e I_e, wX6 g a_f I_f, wX1 g a_y I_y, wX4 g a_w I_w, wX0 g a_c I_c, wX9 g a_z I_z, wMQ g a_m, wX2 g a_ka I_ka, wX7 g a_ta I_ta, wX5 g a_sa I_sa, wX2 g a_kb I_kb, wX7 g a_tb I_tb, wX5 g a_sb I_sb, wX2 g a_kc I_kc, wX7 g a_tc I_tc, wX5 g a_sc I_sc, wX11 g a_o I_o J_o] rfl rfl) rfl rfl rfl rfl hl.1 (Nat.le_of_ble_eq_true rfl) dL_law_425 ⟨Nat.le_of_ble_eq_true rfl, Nat.le_of_ble_eq_true rfl⟩ (fun r14 u15 H locs p_r14 hP hD hS => ?_)
  obtain ⟨I16, I17⟩ := u15
  try dsimp only at p_r14
  have hP : va_P g.1 vwCl (wX10 g a_p I16 J_p ++ (wX8 g a_d I_d I17 ++ (wX3 g a_r I_r ++ (wX7 g a_q I_q ++ (wX7 g a_t I_t ++ (wX5 g a_s I_s ++ (wX6 g a_e I_e ++ (wX6 g a_f I_f ++ (wX1 g a_y I_y ++ (wX4 g a_w I_w ++ (wX0 g a_c I_c ++ (wX9 g a_z I_z ++ (wMQ g a_m ++ (wX2 g a_ka I_ka ++ (wX7 g a_ta I_ta ++ (wX5 g a_sa I_sa ++ (wX2 g a_kb I_kb ++ (wX7 g a_tb I_tb ++ (wX5 g a_sb I_sb ++ (wX2 g a_kc I_kc ++ (wX7 g a_tc I_tc ++ (wX5 g a_sc I_sc ++ wX11 g a_o I_o J_o)))))))))))))))))))))) H := hP
  have hD : va_D (lA s) (wX10 g a_p I16 J_p ++ (wX8 g a_d I_d I17 ++ (wX3 g a_r I_r ++ (wX7 g a_q I_q ++ (wX7 g a_t I_t ++ (wX5 g a_s I_s ++ (wX6 g a_e I_e ++ (wX6 g a_f I_f ++ (wX1 g a_y I_y ++ (wX4 g a_w I_w ++ (wX0 g a_c I_c ++ (wX9 g a_z I_z ++ (wMQ g a_m ++ (wX2 g a_ka I_ka ++ (wX7 g a_ta I_ta ++ (wX5 g a_sa I_sa ++ (wX2 g a_kb I_kb ++ (wX7 g a_tb I_tb ++ (wX5 g a_sb I_sb ++ (wX2 g a_kc I_kc ++ (wX7 g a_tc I_tc ++ (wX5 g a_sc I_sc ++ wX11 g a_o I_o J_o)))))))))))))))))))))) := hD
  refine lv_pop hx hb dL_law_428 rfl ?_
  refine lv_aload_n hx hb dL_law_429 rfl (lv_at hl 1 rfl) ?_
  refine lv_aload_n hx hb dL_law_430 rfl (lv_at hl 3 rfl) ?_
  refine lv_iload_n hx hb dL_law_431 rfl (lv_at hl 0 rfl) ?_
  refine lv_iconst (v := 1) hx hb dL_law_432 (by decide) ?_
  refine r_iadd hx hb dL_law_433 rfl (by decide : (1 : Int32).toInt = 1) (fun x18 e_x18 t_x18 => ?_)
  try have t_x18 := t_x18 (by omega)
  have n_434 : vp_in x18 L := t_in (by omega)
  refine va_sld hx hb hX hbl hbA hS n_434 dL_law_434 ?_
  have u_434 : xs (x18).toNatClampNeg = xs (i.toInt.toNat + 1) := at_ix rfl (by omega)
  refine q_same (s_x2.trans u_434.symm) ?_
  refine lv_aload_n hx hb dL_law_435 rfl (lv_at hl 3 rfl) ?_
  refine lv_iload_n hx hb dL_law_436 rfl (lv_at hl 0 rfl) ?_
  refine lv_iconst (v := 2) hx hb dL_law_437 (by decide) ?_
  refine r_iadd hx hb dL_law_438 rfl (by decide : (2 : Int32).toInt = 2) (fun x20 e_x20 t_x20 => ?_)
  try have t_x20 := t_x20 (by omega)
  have n_439 : vp_in x20 L := t_in (by omega)
  refine va_sld hx hb hX hbl hbA hS n_439 dL_law_439 ?_
  have u_439 : xs (x20).toNatClampNeg = xs (i.toInt.toNat + 2) := at_ix rfl (by omega)
  refine q_same (s_x4.trans u_439.symm) ?_
  refine lv_aload_n hx hb dL_law_440 rfl (lv_at hl 3 rfl) ?_
  refine lv_iload_n hx hb dL_law_441 rfl (lv_at hl 0 rfl) ?_
  refine lv_iconst (v := 3) hx hb dL_law_442 (by decide) ?_
  refine r_iadd hx hb dL_law_443 rfl (by decide : (3 : Int32).toInt = 3) (fun x22 e_x22 t_x22 => ?_)
  try have t_x22 := t_x22 (by omega)
  have n_444 : vp_in x22 L := t_in (by omega)
  refine va_sld hx hb hX hbl hbA hS n_444 dL_law_444 ?_
  have u_444 : xs (x22).toNatClampNeg = xs (i.toInt.toNat + 3) := at_ix rfl (by omega)
  refine q_same (s_x6.trans u_444.symm) ?_
  refine lv_i2l hx hb dL_law_445 rfl ?_
  refine q_sameL e_w7 ?_
  refine lv_bipush (v := 32) hx hb dL_law_446 (by decide) ?_
  refine lv_lshl hx hb dL_law_448 rfl ?_
  refine q_sameL e_w8 ?_
  refine lv_aload_n hx hb dL_law_449 rfl (lv_at hl 3 rfl) ?_
  refine lv_iload_n hx hb dL_law_450 rfl (lv_at hl 0 rfl) ?_
  refine lv_iconst (v := 4) hx hb dL_law_451 (by decide) ?_
  refine r_iadd hx hb dL_law_452 rfl (by decide : (4 : Int32).toInt = 4) (fun x26 e_x26 t_x26 => ?_)
  try have t_x26 := t_x26 (by omega)
  have n_453 : vp_in x26 L := t_in (by omega)
  refine va_sld hx hb hX hbl hbA hS n_453 dL_law_453 ?_
  have u_453 : xs (x26).toNatClampNeg = xs (i.toInt.toNat + 4) := at_ix rfl (by omega)
  refine q_same (s_x10.trans u_453.symm) ?_
  refine lv_i2l hx hb dL_law_454 rfl ?_
  refine q_sameL e_w11 ?_
  refine lv_ldc2 hx hb hown (hts _ (wsL_law_in _ u_6)) dL_law_455 ?_
  refine lv_land hx hb dL_law_458 ?_
  refine q_sameL e_w12 ?_
  refine lv_lor hx hb dL_law_459 ?_
  refine q_sameL e_w13 ?_
  refine EffI.gv (wc := wfl [wX10 g a_p I16 J_p, wX8 g a_d I_d I17, wX3 g a_r I_r, wX7 g a_q I_q, wX7 g a_t I_t, wX5 g a_s I_s, wX6 g a_e I_e, wX6 g a_f I_f, wX1 g a_y I_y, wX4 g a_w I_w, wX0 g a_c I_c, wX9 g a_z I_z, wMQ g a_m, wX2 g a_ka I_ka, wX7 g a_ta I_ta, wX5 g a_sa I_sa, wX2 g a_kb I_kb, wX7 g a_tb I_tb, wX5 g a_sb I_sb, wX2 g a_kc I_kc, wX7 g a_tc I_tc, wX5 g a_sc I_sc, wX11 g a_o I_o J_o]) (wr := wfl [wX10 g a_p I16 J_p, wX8 g a_d I_d I17, wX3 g a_r I_r, wX7 g a_q I_q, wX7 g a_t I_t, wX5 g a_s I_s, wX6 g a_e I_e, wX6 g a_f I_f, wX1 g a_y I_y, wX4 g a_w I_w, wX0 g a_c I_c, wX9 g a_z I_z, wMQ g a_m, wX2 g a_ka I_ka, wX7 g a_ta I_ta, wX5 g a_sa I_sa, wX2 g a_kb I_kb, wX7 g a_tb I_tb, wX5 g a_sb I_sb, wX2 g a_kc I_kc, wX7 g a_tc I_tc, wX5 g a_sc I_sc]) (w' := fun u32 => wfl [wX10 g a_p I16 J_p, wX8 g a_d I_d I17, wX3 g a_r I_r, wX7 g a_q I_q, wX7 g a_t I_t, wX5 g a_s I_s, wX6 g a_e I_e, wX6 g a_f I_f, wX1 g a_y I_y, wX4 g a_w I_w, wX0 g a_c I_c, wX9 g a_z I_z, wMQ g a_m, wX2 g a_ka I_ka, wX7 g a_ta I_ta, wX5 g a_sa I_sa, wX2 g a_kb I_kb, wX7 g a_tb I_tb, wX5 g a_sb I_sb, wX2 g a_kc I_kc, wX7 g a_tc I_tc, wX5 g a_sc I_sc, wX11 g a_o u32.1 u32.2]) (As := [.int x2, .int x4, .long w13]) (kX11_write l g a_o I_o J_o x2 x4 w13 hMo) fx (gUV wsL_law_in u_280 u_281 u_282 u_5 u_283) rfl hdX11_write ⟨Nat.le_of_ble_eq_true rfl, Nat.le_of_ble_eq_true rfl⟩ hK hP hD hS hA (cI [wX10 g a_p I16 J_p, wX8 g a_d I_d I17, wX3 g a_r I_r, wX7 g a_q I_q, wX7 g a_t I_t, wX5 g a_s I_s, wX6 g a_e I_e, wX6 g a_f I_f, wX1 g a_y I_y, wX4 g a_w I_w, wX0 g a_c I_c, wX9 g a_z I_z, wMQ g a_m, wX2 g a_ka I_ka, wX7 g a_ta I_ta, wX5 g a_sa I_sa, wX2 g a_kb I_kb, wX7 g a_tb I_tb, wX5 g a_sb I_sb, wX2 g a_kc I_kc, wX7 g a_tc I_tc, wX5 g a_sc I_sc, wX11 g a_o I_o J_o] [22]) (cI [wX10 g a_p I16 J_p, wX8 g a_d I_d I17, wX3 g a_r I_r, wX7 g a_q I_q, wX7 g a_t I_t, wX5 g a_s I_s, wX6 g a_e I_e, wX6 g a_f I_f, wX1 g a_y I_y, wX4 g a_w I_w, wX0 g a_c I_c, wX9 g a_z I_z, wMQ g a_m, wX2 g a_ka I_ka, wX7 g a_ta I_ta, wX5 g a_sa I_sa, wX2 g a_kb I_kb, wX7 g a_tb I_tb, wX5 g a_sb I_sb, wX2 g a_kc I_kc, wX7 g a_tc I_tc, wX5 g a_sc I_sc, wX11 g a_o I_o J_o] [0, 1, 2, 3, 4, 5, 6, 7, 8, 9, 10, 11, 12, 13, 14, 15, 16, 17, 18, 19, 20, 21]) (cI ([wX10 g a_p I16 J_p, wX8 g a_d I_d I17, wX3 g a_r I_r, wX7 g a_q I_q, wX7 g a_t I_t, wX5 g a_s I_s, wX6 g a_e I_e, wX6 g a_f I_f, wX1 g a_y I_y, wX4 g a_w I_w, wX0 g a_c I_c, wX9 g a_z I_z, wMQ g a_m, wX2 g a_ka I_ka, wX7 g a_ta I_ta, wX5 g a_sa I_sa, wX2 g a_kb I_kb, wX7 g a_tb I_tb, wX5 g a_sb I_sb, wX2 g a_kc I_kc, wX7 g a_tc I_tc, wX5 g a_sc I_sc] ++ [wX11 g a_o I_o J_o]) [0, 1, 2, 3, 4, 5, 6, 7, 8, 9, 10, 11, 12, 13, 14, 15, 16, 17, 18, 19, 20, 21, 22]) (ci_map [wX10 g a_p I16 J_p, wX8 g a_d I_d I17, wX3 g a_r I_r, wX7 g a_q I_q, wX7 g a_t I_t, wX5 g a_s I_s, wX6 g a_e I_e, wX6 g a_f I_f, wX1 g a_y I_y, wX4 g a_w I_w, wX0 g a_c I_c, wX9 g a_z I_z, wMQ g a_m, wX2 g a_ka I_ka, wX7 g a_ta I_ta, wX5 g a_sa I_sa, wX2 g a_kb I_kb, wX7 g a_tb I_tb, wX5 g a_sb I_sb, wX2 g a_kc I_kc, wX7 g a_tc I_tc, wX5 g a_sc I_sc, wX11 g a_o I_o J_o] [wX11 g a_o I_o J_o] rfl) (ci_map [wX10 g a_p I16 J_p, wX8 g a_d I_d I17, wX3 g a_r I_r, wX7 g a_q I_q, wX7 g a_t I_t, wX5 g a_s I_s, wX6 g a_e I_e, wX6 g a_f I_f, wX1 g a_y I_y, wX4 g a_w I_w, wX0 g a_c I_c, wX9 g a_z I_z, wMQ g a_m, wX2 g a_ka I_ka, wX7 g a_ta I_ta, wX5 g a_sa I_sa, wX2 g a_kb I_kb, wX7 g a_tb I_tb, wX5 g a_sb I_sb, wX2 g a_kc I_kc, wX7 g a_tc I_tc, wX5 g a_sc I_sc, wX11 g a_o I_o J_o] [wX10 g a_p I16 J_p, wX8 g a_d I_d I17, wX3 g a_r I_r, wX7 g a_q I_q, wX7 g a_t I_t, wX5 g a_s I_s, wX6 g a_e I_e, wX6 g a_f I_f, wX1 g a_y I_y, wX4 g a_w I_w, wX0 g a_c I_c, wX9 g a_z I_z, wMQ g a_m, wX2 g a_ka I_ka, wX7 g a_ta I_ta, wX5 g a_sa I_sa, wX2 g a_kb I_kb, wX7 g a_tb I_tb, wX5 g a_sb I_sb, wX2 g a_kc I_kc, wX7 g a_tc I_tc, wX5 g a_sc I_sc] rfl) (ci_nd _ rfl) (ci_nd _ rfl) (ci_dis _ (by decide)) (ci_nd _ rfl) (fun u32 => ci_mapB [wX10 g a_p I16 J_p, wX8 g a_d I_d I17, wX3 g a_r I_r, wX7 g a_q I_q, wX7 g a_t I_t, wX5 g a_s I_s, wX6 g a_e I_e, wX6 g a_f I_f, wX1 g a_y I_y, wX4 g a_w I_w, wX0 g a_c I_c, wX9 g a_z I_z, wMQ g a_m, wX2 g a_ka I_ka, wX7 g a_ta I_ta, wX5 g a_sa I_sa, wX2 g a_kb I_kb, wX7 g a_tb I_tb, wX5 g a_sb I_sb, wX2 g a_kc I_kc, wX7 g a_tc I_tc, wX5 g a_sc I_sc] [wX11 g a_o I_o J_o] [wX11 g a_o u32.1 u32.2] [wX10 g a_p I16 J_p, wX8 g a_d I_d I17, wX3 g a_r I_r, wX7 g a_q I_q, wX7 g a_t I_t, wX5 g a_s I_s, wX6 g a_e I_e, wX6 g a_f I_f, wX1 g a_y I_y, wX4 g a_w I_w, wX0 g a_c I_c, wX9 g a_z I_z, wMQ g a_m, wX2 g a_ka I_ka, wX7 g a_ta I_ta, wX5 g a_sa I_sa, wX2 g a_kb I_kb, wX7 g a_tb I_tb, wX5 g a_sb I_sb, wX2 g a_kc I_kc, wX7 g a_tc I_tc, wX5 g a_sc I_sc, wX11 g a_o u32.1 u32.2] rfl rfl) rfl rfl rfl rfl hl.1 (Nat.le_of_ble_eq_true rfl) dL_law_460 ⟨Nat.le_of_ble_eq_true rfl, Nat.le_of_ble_eq_true rfl⟩ (fun r31 u32 H locs p_r31 hP hD hS => ?_)
  obtain ⟨I33, I34⟩ := u32
  try dsimp only at p_r31
  have hP : va_P g.1 vwCl (wX10 g a_p I16 J_p ++ (wX8 g a_d I_d I17 ++ (wX3 g a_r I_r ++ (wX7 g a_q I_q ++ (wX7 g a_t I_t ++ (wX5 g a_s I_s ++ (wX6 g a_e I_e ++ (wX6 g a_f I_f ++ (wX1 g a_y I_y ++ (wX4 g a_w I_w ++ (wX0 g a_c I_c ++ (wX9 g a_z I_z ++ (wMQ g a_m ++ (wX2 g a_ka I_ka ++ (wX7 g a_ta I_ta ++ (wX5 g a_sa I_sa ++ (wX2 g a_kb I_kb ++ (wX7 g a_tb I_tb ++ (wX5 g a_sb I_sb ++ (wX2 g a_kc I_kc ++ (wX7 g a_tc I_tc ++ (wX5 g a_sc I_sc ++ wX11 g a_o I33 I34)))))))))))))))))))))) H := hP
  have hD : va_D (lA s) (wX10 g a_p I16 J_p ++ (wX8 g a_d I_d I17 ++ (wX3 g a_r I_r ++ (wX7 g a_q I_q ++ (wX7 g a_t I_t ++ (wX5 g a_s I_s ++ (wX6 g a_e I_e ++ (wX6 g a_f I_f ++ (wX1 g a_y I_y ++ (wX4 g a_w I_w ++ (wX0 g a_c I_c ++ (wX9 g a_z I_z ++ (wMQ g a_m ++ (wX2 g a_ka I_ka ++ (wX7 g a_ta I_ta ++ (wX5 g a_sa I_sa ++ (wX2 g a_kb I_kb ++ (wX7 g a_tb I_tb ++ (wX5 g a_sb I_sb ++ (wX2 g a_kc I_kc ++ (wX7 g a_tc I_tc ++ (wX5 g a_sc I_sc ++ wX11 g a_o I33 I34)))))))))))))))))))))) := hD
  refine lv_pop hx hb dL_law_463 rfl ?_
  refine lv_goto (tgt := 1956) hx hb dL_law_464 (by decide) ?_
  exact K a_p I16 J_p a_d I_d I17 a_r I_r a_q I_q a_t I_t a_s I_s a_e I_e a_f I_f a_y I_y a_w I_w a_c I_c a_z I_z a_m a_ka I_ka a_ta I_ta a_sa I_sa a_kb I_kb a_tb I_tb a_sb I_sb a_kc I_kc a_tc I_tc a_sc I_sc a_o I33 I34 hl_p_trays hl_p_reader hl_p_table hl_p_script hl_p_shown hl_p_spare hl_p_layout hl_p_rows hl_p_code hl_p_wear hl_r_table hl_p_marks hl_m_0 hl_m_1 hl_m_2 hl_ka_table hl_ka_script hl_kb_table hl_kb_script hl_kc_table hl_kc_script (p_r14.1) hDI hQ hT hSI hE hF hL hR hW hKa hTa hSa hKb hTb hSb hKc hTc hSc (MI.kk hMo p_r31.1 (by decide) (by decide)) ((RT.write hRt ((show KK [] [1] I_o I33 from (KK.tr (KK.rf I_o) p_r31.1 (by decide) (by decide))).row 2 (by decide)) ((show KK [] [1] I_o I33 from (KK.tr (KK.rf I_o) p_r31.1 (by decide) (by decide))).row 3 (by decide)) p_r14.2.2 p_r31.2).1) ((show KP I_p I16 from (KP.tr (KP.rf I_p) (p_r14.2.1))).1.trans (hRp.trans ((show KK [] [1] I_o I33 from (KK.tr (KK.rf I_o) p_r31.1 (by decide) (by decide))).num 9 (by decide)).symm)) ((show KP I_p I16 from (KP.tr (KP.rf I_p) (p_r14.2.1))).2.1.trans (hRm.trans ((show KK [] [1] I_o I33 from (KK.tr (KK.rf I_o) p_r31.1 (by decide) (by decide))).num 45 (by decide)).symm)) (hTP.kk (show KP I_p I16 from (KP.tr (KP.rf I_p) (p_r14.2.1))).1 (show KP I_p I16 from (KP.tr (KP.rf I_p) (p_r14.2.1))).2.2 ((show KK [] [1] I_o I33 from (KK.tr (KK.rf I_o) p_r31.1 (by decide) (by decide))).row 5 (by decide))) _ _ hP hD hS ls hl

set_option maxHeartbeats 4000000 in
set_option maxRecDepth 100000 in
theorem lawc5 (l : Launch) (g : gG) (ad av : Nat → Nat) {p : Program} {e : Env} {s : State} {m : MethodId} {below : List Frame} {meth : Method} {c : Code} {b L : Nat} {xs : Nat → Int32} (fx : CallFix p m c cL_law 4 s #[Value.ref b] lw_tbl RL) (hX : va_X b L xs s s.heap) (hbl : b < s.heap.size) (hK : gK g s) (hJ : jF ad av (lA s) s s.heap) (i : Int32) (hi : 0 ≤ i.toInt ∧ i.toInt + 6 ≤ (L : Int) ∧ (L : Int) ≤ 3072) (K : LawC p e s m below meth c l g b i 1956) : LawC p e s m below meth c l g b i 467 := by
  intro a_p I_p J_p a_d I_d J_d a_r I_r a_q I_q a_t I_t a_s I_s a_e I_e a_f I_f a_y I_y a_w I_w a_c I_c a_z I_z a_m a_ka I_ka a_ta I_ta a_sa I_sa a_kb I_kb a_tb I_tb a_sb I_sb a_kc I_kc a_tc I_tc a_sc I_sc a_o I_o J_o hl_p_trays hl_p_reader hl_p_table hl_p_script hl_p_shown hl_p_spare hl_p_layout hl_p_rows hl_p_code hl_p_wear hl_r_table hl_p_marks hl_m_0 hl_m_1 hl_m_2 hl_ka_table hl_ka_script hl_kb_table hl_kb_script hl_kc_table hl_kc_script hPI hDI hQ hT hSI hE hF hL hR hW hKa hTa hSa hKb hTb hSb hKc hTc hSc hMo hRt hRp hRm hTP H locs hP hD hS ls hl
  have hx := fx.1
  have hb := fx.2.1
  have hown := fx.2.2.2.1
  have hts := fx.2.2.2.2
  have hA : ∀ q : Nat, s.heap.size ≤ q → lA s q := fun _ h => h
  have hbA : ¬ lA s b := Nat.not_le.mpr hbl
  have lm1 : (-1 : Int32).toInt = -1 := by decide
  have lm0 : (0 : Int32).toInt = 0 := by decide
  have lm2 : (1 : Int32).toInt = 1 := by decide
  have lq2 : (2 : Int32).toInt = 2 := by decide
  have lq3 : (3 : Int32).toInt = 3 := by decide
  have lq4 : (4 : Int32).toInt = 4 := by decide
  have lq5 : (5 : Int32).toInt = 5 := by decide
  have lq6 : (6 : Int32).toInt = 6 := by decide
  have lq7 : (7 : Int32).toInt = 7 := by decide
  refine lv_aload_n hx hb dL_law_467 rfl (lv_at hl 2 rfl) ?_
  refine lv_aload_n hx hb dL_law_468 rfl (lv_at hl 3 rfl) ?_
  refine lv_iload_n hx hb dL_law_469 rfl (lv_at hl 0 rfl) ?_
  refine lv_iconst (v := 1) hx hb dL_law_470 (by decide) ?_
  refine r_iadd hx hb dL_law_471 rfl (by decide : (1 : Int32).toInt = 1) (fun x1 e_x1 t_x1 => ?_)
  try have t_x1 := t_x1 (by omega)
  have n_472 : vp_in x1 L := t_in (by omega)
  refine va_sld hx hb hX hbl hbA hS n_472 dL_law_472 ?_
  refine q_nm (fun x2 e_x2 => ?_)
  have s_x2 : x2 = xs (i.toInt.toNat + 1) := at_ix e_x2 (by omega)
  refine lv_aload_n hx hb dL_law_473 rfl (lv_at hl 3 rfl) ?_
  refine lv_iload_n hx hb dL_law_474 rfl (lv_at hl 0 rfl) ?_
  refine lv_iconst (v := 2) hx hb dL_law_475 (by decide) ?_
  refine r_iadd hx hb dL_law_476 rfl (by decide : (2 : Int32).toInt = 2) (fun x3 e_x3 t_x3 => ?_)
  try have t_x3 := t_x3 (by omega)
  have n_477 : vp_in x3 L := t_in (by omega)
  refine va_sld hx hb hX hbl hbA hS n_477 dL_law_477 ?_
  refine q_nm (fun x4 e_x4 => ?_)
  have s_x4 : x4 = xs (i.toInt.toNat + 2) := at_ix e_x4 (by omega)
  refine EffL.gv (wc := wfl [wX10 g a_p I_p J_p, wX8 g a_d I_d J_d, wX3 g a_r I_r, wX7 g a_q I_q, wX7 g a_t I_t, wX5 g a_s I_s, wX6 g a_e I_e, wX6 g a_f I_f, wX1 g a_y I_y, wX4 g a_w I_w, wX0 g a_c I_c, wX9 g a_z I_z, wMQ g a_m, wX2 g a_ka I_ka, wX7 g a_ta I_ta, wX5 g a_sa I_sa, wX2 g a_kb I_kb, wX7 g a_tb I_tb, wX5 g a_sb I_sb, wX2 g a_kc I_kc, wX7 g a_tc I_tc, wX5 g a_sc I_sc, wX11 g a_o I_o J_o]) (wr := wfl [wX3 g a_r I_r, wX7 g a_q I_q, wX7 g a_t I_t, wX5 g a_s I_s, wX6 g a_e I_e, wX6 g a_f I_f, wX1 g a_y I_y, wX4 g a_w I_w, wX0 g a_c I_c, wX9 g a_z I_z, wMQ g a_m, wX2 g a_ka I_ka, wX7 g a_ta I_ta, wX5 g a_sa I_sa, wX2 g a_kb I_kb, wX7 g a_tb I_tb, wX5 g a_sb I_sb, wX2 g a_kc I_kc, wX7 g a_tc I_tc, wX5 g a_sc I_sc, wX11 g a_o I_o J_o]) (w' := fun u6 => wfl [wX10 g a_p u6 J_p, wX8 g a_d I_d J_d, wX3 g a_r I_r, wX7 g a_q I_q, wX7 g a_t I_t, wX5 g a_s I_s, wX6 g a_e I_e, wX6 g a_f I_f, wX1 g a_y I_y, wX4 g a_w I_w, wX0 g a_c I_c, wX9 g a_z I_z, wMQ g a_m, wX2 g a_ka I_ka, wX7 g a_ta I_ta, wX5 g a_sa I_sa, wX2 g a_kb I_kb, wX7 g a_tb I_tb, wX5 g a_sb I_sb, wX2 g a_kc I_kc, wX7 g a_tc I_tc, wX5 g a_sc I_sc, wX11 g a_o I_o J_o]) (As := [.int x2, .int x4]) (kX10_read l g a_p I_p J_p a_d I_d J_d x2 x4 hl_p_trays (by omega) (by omega)) fx (gUV wsL_law_in u_291 u_292 u_293 u_2 u_294) rfl hdX10_read ⟨Nat.le_of_ble_eq_true rfl, Nat.le_of_ble_eq_true rfl⟩ hK hP hD hS hA (cI [wX10 g a_p I_p J_p, wX8 g a_d I_d J_d, wX3 g a_r I_r, wX7 g a_q I_q, wX7 g a_t I_t, wX5 g a_s I_s, wX6 g a_e I_e, wX6 g a_f I_f, wX1 g a_y I_y, wX4 g a_w I_w, wX0 g a_c I_c, wX9 g a_z I_z, wMQ g a_m, wX2 g a_ka I_ka, wX7 g a_ta I_ta, wX5 g a_sa I_sa, wX2 g a_kb I_kb, wX7 g a_tb I_tb, wX5 g a_sb I_sb, wX2 g a_kc I_kc, wX7 g a_tc I_tc, wX5 g a_sc I_sc, wX11 g a_o I_o J_o] [0, 1]) (cI [wX10 g a_p I_p J_p, wX8 g a_d I_d J_d, wX3 g a_r I_r, wX7 g a_q I_q, wX7 g a_t I_t, wX5 g a_s I_s, wX6 g a_e I_e, wX6 g a_f I_f, wX1 g a_y I_y, wX4 g a_w I_w, wX0 g a_c I_c, wX9 g a_z I_z, wMQ g a_m, wX2 g a_ka I_ka, wX7 g a_ta I_ta, wX5 g a_sa I_sa, wX2 g a_kb I_kb, wX7 g a_tb I_tb, wX5 g a_sb I_sb, wX2 g a_kc I_kc, wX7 g a_tc I_tc, wX5 g a_sc I_sc, wX11 g a_o I_o J_o] [2, 3, 4, 5, 6, 7, 8, 9, 10, 11, 12, 13, 14, 15, 16, 17, 18, 19, 20, 21, 22]) (cI ([wX3 g a_r I_r, wX7 g a_q I_q, wX7 g a_t I_t, wX5 g a_s I_s, wX6 g a_e I_e, wX6 g a_f I_f, wX1 g a_y I_y, wX4 g a_w I_w, wX0 g a_c I_c, wX9 g a_z I_z, wMQ g a_m, wX2 g a_ka I_ka, wX7 g a_ta I_ta, wX5 g a_sa I_sa, wX2 g a_kb I_kb, wX7 g a_tb I_tb, wX5 g a_sb I_sb, wX2 g a_kc I_kc, wX7 g a_tc I_tc, wX5 g a_sc I_sc, wX11 g a_o I_o J_o] ++ [wX10 g a_p I_p J_p, wX8 g a_d I_d J_d]) [21, 22, 0, 1, 2, 3, 4, 5, 6, 7, 8, 9, 10, 11, 12, 13, 14, 15, 16, 17, 18, 19, 20]) (ci_map [wX10 g a_p I_p J_p, wX8 g a_d I_d J_d, wX3 g a_r I_r, wX7 g a_q I_q, wX7 g a_t I_t, wX5 g a_s I_s, wX6 g a_e I_e, wX6 g a_f I_f, wX1 g a_y I_y, wX4 g a_w I_w, wX0 g a_c I_c, wX9 g a_z I_z, wMQ g a_m, wX2 g a_ka I_ka, wX7 g a_ta I_ta, wX5 g a_sa I_sa, wX2 g a_kb I_kb, wX7 g a_tb I_tb, wX5 g a_sb I_sb, wX2 g a_kc I_kc, wX7 g a_tc I_tc, wX5 g a_sc I_sc, wX11 g a_o I_o J_o] [wX10 g a_p I_p J_p, wX8 g a_d I_d J_d] rfl) (ci_map [wX10 g a_p I_p J_p, wX8 g a_d I_d J_d, wX3 g a_r I_r, wX7 g a_q I_q, wX7 g a_t I_t, wX5 g a_s I_s, wX6 g a_e I_e, wX6 g a_f I_f, wX1 g a_y I_y, wX4 g a_w I_w, wX0 g a_c I_c, wX9 g a_z I_z, wMQ g a_m, wX2 g a_ka I_ka, wX7 g a_ta I_ta, wX5 g a_sa I_sa, wX2 g a_kb I_kb, wX7 g a_tb I_tb, wX5 g a_sb I_sb, wX2 g a_kc I_kc, wX7 g a_tc I_tc, wX5 g a_sc I_sc, wX11 g a_o I_o J_o] [wX3 g a_r I_r, wX7 g a_q I_q, wX7 g a_t I_t, wX5 g a_s I_s, wX6 g a_e I_e, wX6 g a_f I_f, wX1 g a_y I_y, wX4 g a_w I_w, wX0 g a_c I_c, wX9 g a_z I_z, wMQ g a_m, wX2 g a_ka I_ka, wX7 g a_ta I_ta, wX5 g a_sa I_sa, wX2 g a_kb I_kb, wX7 g a_tb I_tb, wX5 g a_sb I_sb, wX2 g a_kc I_kc, wX7 g a_tc I_tc, wX5 g a_sc I_sc, wX11 g a_o I_o J_o] rfl) (ci_nd _ rfl) (ci_nd _ rfl) (ci_dis _ (by decide)) (ci_nd _ rfl) (fun u6 => ci_mapB [wX3 g a_r I_r, wX7 g a_q I_q, wX7 g a_t I_t, wX5 g a_s I_s, wX6 g a_e I_e, wX6 g a_f I_f, wX1 g a_y I_y, wX4 g a_w I_w, wX0 g a_c I_c, wX9 g a_z I_z, wMQ g a_m, wX2 g a_ka I_ka, wX7 g a_ta I_ta, wX5 g a_sa I_sa, wX2 g a_kb I_kb, wX7 g a_tb I_tb, wX5 g a_sb I_sb, wX2 g a_kc I_kc, wX7 g a_tc I_tc, wX5 g a_sc I_sc, wX11 g a_o I_o J_o] [wX10 g a_p I_p J_p, wX8 g a_d I_d J_d] [wX10 g a_p u6 J_p, wX8 g a_d I_d J_d] [wX10 g a_p u6 J_p, wX8 g a_d I_d J_d, wX3 g a_r I_r, wX7 g a_q I_q, wX7 g a_t I_t, wX5 g a_s I_s, wX6 g a_e I_e, wX6 g a_f I_f, wX1 g a_y I_y, wX4 g a_w I_w, wX0 g a_c I_c, wX9 g a_z I_z, wMQ g a_m, wX2 g a_ka I_ka, wX7 g a_ta I_ta, wX5 g a_sa I_sa, wX2 g a_kb I_kb, wX7 g a_tb I_tb, wX5 g a_sb I_sb, wX2 g a_kc I_kc, wX7 g a_tc I_tc, wX5 g a_sc I_sc, wX11 g a_o I_o J_o] rfl rfl) rfl rfl rfl rfl hl.1 (Nat.le_of_ble_eq_true rfl) dL_law_478 ⟨Nat.le_of_ble_eq_true rfl, Nat.le_of_ble_eq_true rfl⟩ (fun w5 u6 H locs p_w5 hP hD hS => ?_)
  have hP : va_P g.1 vwCl (wX10 g a_p u6 J_p ++ (wX8 g a_d I_d J_d ++ (wX3 g a_r I_r ++ (wX7 g a_q I_q ++ (wX7 g a_t I_t ++ (wX5 g a_s I_s ++ (wX6 g a_e I_e ++ (wX6 g a_f I_f ++ (wX1 g a_y I_y ++ (wX4 g a_w I_w ++ (wX0 g a_c I_c ++ (wX9 g a_z I_z ++ (wMQ g a_m ++ (wX2 g a_ka I_ka ++ (wX7 g a_ta I_ta ++ (wX5 g a_sa I_sa ++ (wX2 g a_kb I_kb ++ (wX7 g a_tb I_tb ++ (wX5 g a_sb I_sb ++ (wX2 g a_kc I_kc ++ (wX7 g a_tc I_tc ++ (wX5 g a_sc I_sc ++ wX11 g a_o I_o J_o)))))))))))))))))))))) H := hP
  have hD : va_D (lA s) (wX10 g a_p u6 J_p ++ (wX8 g a_d I_d J_d ++ (wX3 g a_r I_r ++ (wX7 g a_q I_q ++ (wX7 g a_t I_t ++ (wX5 g a_s I_s ++ (wX6 g a_e I_e ++ (wX6 g a_f I_f ++ (wX1 g a_y I_y ++ (wX4 g a_w I_w ++ (wX0 g a_c I_c ++ (wX9 g a_z I_z ++ (wMQ g a_m ++ (wX2 g a_ka I_ka ++ (wX7 g a_ta I_ta ++ (wX5 g a_sa I_sa ++ (wX2 g a_kb I_kb ++ (wX7 g a_tb I_tb ++ (wX5 g a_sb I_sb ++ (wX2 g a_kc I_kc ++ (wX7 g a_tc I_tc ++ (wX5 g a_sc I_sc ++ wX11 g a_o I_o J_o)))))))))))))))))))))) := hD
  refine lv_pop2_2 hx hb dL_law_481 rfl ?_
  refine lv_aload_n hx hb dL_law_482 rfl (lv_at hl 1 rfl) ?_
  refine lv_aload_n hx hb dL_law_483 rfl (lv_at hl 3 rfl) ?_
  refine lv_iload_n hx hb dL_law_484 rfl (lv_at hl 0 rfl) ?_
  refine lv_iconst (v := 1) hx hb dL_law_485 (by decide) ?_
  refine r_iadd hx hb dL_law_486 rfl (by decide : (1 : Int32).toInt = 1) (fun x7 e_x7 t_x7 => ?_)
  try have t_x7 := t_x7 (by omega)
  have n_487 : vp_in x7 L := t_in (by omega)
  refine va_sld hx hb hX hbl hbA hS n_487 dL_law_487 ?_
  have u_487 : xs (x7).toNatClampNeg = xs (i.toInt.toNat + 1) := at_ix rfl (by omega)
  refine q_same (s_x2.trans u_487.symm) ?_
  refine lv_aload_n hx hb dL_law_488 rfl (lv_at hl 3 rfl) ?_
  refine lv_iload_n hx hb dL_law_489 rfl (lv_at hl 0 rfl) ?_
  refine lv_iconst (v := 2) hx hb dL_law_490 (by decide) ?_
  refine r_iadd hx hb dL_law_491 rfl (by decide : (2 : Int32).toInt = 2) (fun x9 e_x9 t_x9 => ?_)
  try have t_x9 := t_x9 (by omega)
  have n_492 : vp_in x9 L := t_in (by omega)
  refine va_sld hx hb hX hbl hbA hS n_492 dL_law_492 ?_
  have u_492 : xs (x9).toNatClampNeg = xs (i.toInt.toNat + 2) := at_ix rfl (by omega)
  refine q_same (s_x4.trans u_492.symm) ?_
  refine EffL.gv (wc := wfl [wX10 g a_p u6 J_p, wX8 g a_d I_d J_d, wX3 g a_r I_r, wX7 g a_q I_q, wX7 g a_t I_t, wX5 g a_s I_s, wX6 g a_e I_e, wX6 g a_f I_f, wX1 g a_y I_y, wX4 g a_w I_w, wX0 g a_c I_c, wX9 g a_z I_z, wMQ g a_m, wX2 g a_ka I_ka, wX7 g a_ta I_ta, wX5 g a_sa I_sa, wX2 g a_kb I_kb, wX7 g a_tb I_tb, wX5 g a_sb I_sb, wX2 g a_kc I_kc, wX7 g a_tc I_tc, wX5 g a_sc I_sc, wX11 g a_o I_o J_o]) (wr := wfl [wX10 g a_p u6 J_p, wX8 g a_d I_d J_d, wX3 g a_r I_r, wX7 g a_q I_q, wX7 g a_t I_t, wX5 g a_s I_s, wX6 g a_e I_e, wX6 g a_f I_f, wX1 g a_y I_y, wX4 g a_w I_w, wX0 g a_c I_c, wX9 g a_z I_z, wMQ g a_m, wX2 g a_ka I_ka, wX7 g a_ta I_ta, wX5 g a_sa I_sa, wX2 g a_kb I_kb, wX7 g a_tb I_tb, wX5 g a_sb I_sb, wX2 g a_kc I_kc, wX7 g a_tc I_tc, wX5 g a_sc I_sc]) (w' := fun u12 => wfl [wX10 g a_p u6 J_p, wX8 g a_d I_d J_d, wX3 g a_r I_r, wX7 g a_q I_q, wX7 g a_t I_t, wX5 g a_s I_s, wX6 g a_e I_e, wX6 g a_f I_f, wX1 g a_y I_y, wX4 g a_w I_w, wX0 g a_c I_c, wX9 g a_z I_z, wMQ g a_m, wX2 g a_ka I_ka, wX7 g a_ta I_ta, wX5 g a_sa I_sa, wX2 g a_kb I_kb, wX7 g a_tb I_tb, wX5 g a_sb I_sb, wX2 g a_kc I_kc, wX7 g a_tc I_tc, wX5 g a_sc I_sc, wX11 g a_o u12 J_o]) (As := [.int x2, .int x4]) (kX11_read l g a_o I_o J_o x2 x4 hMo) fx (gUV wsL_law_in u_303 u_304 u_305 u_5 u_306) rfl hdX11_read ⟨Nat.le_of_ble_eq_true rfl, Nat.le_of_ble_eq_true rfl⟩ hK hP hD hS hA (cI [wX10 g a_p u6 J_p, wX8 g a_d I_d J_d, wX3 g a_r I_r, wX7 g a_q I_q, wX7 g a_t I_t, wX5 g a_s I_s, wX6 g a_e I_e, wX6 g a_f I_f, wX1 g a_y I_y, wX4 g a_w I_w, wX0 g a_c I_c, wX9 g a_z I_z, wMQ g a_m, wX2 g a_ka I_ka, wX7 g a_ta I_ta, wX5 g a_sa I_sa, wX2 g a_kb I_kb, wX7 g a_tb I_tb, wX5 g a_sb I_sb, wX2 g a_kc I_kc, wX7 g a_tc I_tc, wX5 g a_sc I_sc, wX11 g a_o I_o J_o] [22]) (cI [wX10 g a_p u6 J_p, wX8 g a_d I_d J_d, wX3 g a_r I_r, wX7 g a_q I_q, wX7 g a_t I_t, wX5 g a_s I_s, wX6 g a_e I_e, wX6 g a_f I_f, wX1 g a_y I_y, wX4 g a_w I_w, wX0 g a_c I_c, wX9 g a_z I_z, wMQ g a_m, wX2 g a_ka I_ka, wX7 g a_ta I_ta, wX5 g a_sa I_sa, wX2 g a_kb I_kb, wX7 g a_tb I_tb, wX5 g a_sb I_sb, wX2 g a_kc I_kc, wX7 g a_tc I_tc, wX5 g a_sc I_sc, wX11 g a_o I_o J_o] [0, 1, 2, 3, 4, 5, 6, 7, 8, 9, 10, 11, 12, 13, 14, 15, 16, 17, 18, 19, 20, 21]) (cI ([wX10 g a_p u6 J_p, wX8 g a_d I_d J_d, wX3 g a_r I_r, wX7 g a_q I_q, wX7 g a_t I_t, wX5 g a_s I_s, wX6 g a_e I_e, wX6 g a_f I_f, wX1 g a_y I_y, wX4 g a_w I_w, wX0 g a_c I_c, wX9 g a_z I_z, wMQ g a_m, wX2 g a_ka I_ka, wX7 g a_ta I_ta, wX5 g a_sa I_sa, wX2 g a_kb I_kb, wX7 g a_tb I_tb, wX5 g a_sb I_sb, wX2 g a_kc I_kc, wX7 g a_tc I_tc, wX5 g a_sc I_sc] ++ [wX11 g a_o I_o J_o]) [0, 1, 2, 3, 4, 5, 6, 7, 8, 9, 10, 11, 12, 13, 14, 15, 16, 17, 18, 19, 20, 21, 22]) (ci_map [wX10 g a_p u6 J_p, wX8 g a_d I_d J_d, wX3 g a_r I_r, wX7 g a_q I_q, wX7 g a_t I_t, wX5 g a_s I_s, wX6 g a_e I_e, wX6 g a_f I_f, wX1 g a_y I_y, wX4 g a_w I_w, wX0 g a_c I_c, wX9 g a_z I_z, wMQ g a_m, wX2 g a_ka I_ka, wX7 g a_ta I_ta, wX5 g a_sa I_sa, wX2 g a_kb I_kb, wX7 g a_tb I_tb, wX5 g a_sb I_sb, wX2 g a_kc I_kc, wX7 g a_tc I_tc, wX5 g a_sc I_sc, wX11 g a_o I_o J_o] [wX11 g a_o I_o J_o] rfl) (ci_map [wX10 g a_p u6 J_p, wX8 g a_d I_d J_d, wX3 g a_r I_r, wX7 g a_q I_q, wX7 g a_t I_t, wX5 g a_s I_s, wX6 g a_e I_e, wX6 g a_f I_f, wX1 g a_y I_y, wX4 g a_w I_w, wX0 g a_c I_c, wX9 g a_z I_z, wMQ g a_m, wX2 g a_ka I_ka, wX7 g a_ta I_ta, wX5 g a_sa I_sa, wX2 g a_kb I_kb, wX7 g a_tb I_tb, wX5 g a_sb I_sb, wX2 g a_kc I_kc, wX7 g a_tc I_tc, wX5 g a_sc I_sc, wX11 g a_o I_o J_o] [wX10 g a_p u6 J_p, wX8 g a_d I_d J_d, wX3 g a_r I_r, wX7 g a_q I_q, wX7 g a_t I_t, wX5 g a_s I_s, wX6 g a_e I_e, wX6 g a_f I_f, wX1 g a_y I_y, wX4 g a_w I_w, wX0 g a_c I_c, wX9 g a_z I_z, wMQ g a_m, wX2 g a_ka I_ka, wX7 g a_ta I_ta, wX5 g a_sa I_sa, wX2 g a_kb I_kb, wX7 g a_tb I_tb, wX5 g a_sb I_sb, wX2 g a_kc I_kc, wX7 g a_tc I_tc, wX5 g a_sc I_sc] rfl) (ci_nd _ rfl) (ci_nd _ rfl) (ci_dis _ (by decide)) (ci_nd _ rfl) (fun u12 => ci_mapB [wX10 g a_p u6 J_p, wX8 g a_d I_d J_d, wX3 g a_r I_r, wX7 g a_q I_q, wX7 g a_t I_t, wX5 g a_s I_s, wX6 g a_e I_e, wX6 g a_f I_f, wX1 g a_y I_y, wX4 g a_w I_w, wX0 g a_c I_c, wX9 g a_z I_z, wMQ g a_m, wX2 g a_ka I_ka, wX7 g a_ta I_ta, wX5 g a_sa I_sa, wX2 g a_kb I_kb, wX7 g a_tb I_tb, wX5 g a_sb I_sb, wX2 g a_kc I_kc, wX7 g a_tc I_tc, wX5 g a_sc I_sc] [wX11 g a_o I_o J_o] [wX11 g a_o u12 J_o] [wX10 g a_p u6 J_p, wX8 g a_d I_d J_d, wX3 g a_r I_r, wX7 g a_q I_q, wX7 g a_t I_t, wX5 g a_s I_s, wX6 g a_e I_e, wX6 g a_f I_f, wX1 g a_y I_y, wX4 g a_w I_w, wX0 g a_c I_c, wX9 g a_z I_z, wMQ g a_m, wX2 g a_ka I_ka, wX7 g a_ta I_ta, wX5 g a_sa I_sa, wX2 g a_kb I_kb, wX7 g a_tb I_tb, wX5 g a_sb I_sb, wX2 g a_kc I_kc, wX7 g a_tc I_tc, wX5 g a_sc I_sc, wX11 g a_o u12 J_o] rfl rfl) rfl rfl rfl rfl hl.1 (Nat.le_of_ble_eq_true rfl) dL_law_493 ⟨Nat.le_of_ble_eq_true rfl, Nat.le_of_ble_eq_true rfl⟩ (fun w11 u12 H locs p_w11 hP hD hS => ?_)
  have hP : va_P g.1 vwCl (wX10 g a_p u6 J_p ++ (wX8 g a_d I_d J_d ++ (wX3 g a_r I_r ++ (wX7 g a_q I_q ++ (wX7 g a_t I_t ++ (wX5 g a_s I_s ++ (wX6 g a_e I_e ++ (wX6 g a_f I_f ++ (wX1 g a_y I_y ++ (wX4 g a_w I_w ++ (wX0 g a_c I_c ++ (wX9 g a_z I_z ++ (wMQ g a_m ++ (wX2 g a_ka I_ka ++ (wX7 g a_ta I_ta ++ (wX5 g a_sa I_sa ++ (wX2 g a_kb I_kb ++ (wX7 g a_tb I_tb ++ (wX5 g a_sb I_sb ++ (wX2 g a_kc I_kc ++ (wX7 g a_tc I_tc ++ (wX5 g a_sc I_sc ++ wX11 g a_o u12 J_o)))))))))))))))))))))) H := hP
  have hD : va_D (lA s) (wX10 g a_p u6 J_p ++ (wX8 g a_d I_d J_d ++ (wX3 g a_r I_r ++ (wX7 g a_q I_q ++ (wX7 g a_t I_t ++ (wX5 g a_s I_s ++ (wX6 g a_e I_e ++ (wX6 g a_f I_f ++ (wX1 g a_y I_y ++ (wX4 g a_w I_w ++ (wX0 g a_c I_c ++ (wX9 g a_z I_z ++ (wMQ g a_m ++ (wX2 g a_ka I_ka ++ (wX7 g a_ta I_ta ++ (wX5 g a_sa I_sa ++ (wX2 g a_kb I_kb ++ (wX7 g a_tb I_tb ++ (wX5 g a_sb I_sb ++ (wX2 g a_kc I_kc ++ (wX7 g a_tc I_tc ++ (wX5 g a_sc I_sc ++ wX11 g a_o u12 J_o)))))))))))))))))))))) := hD
  refine lv_pop2_2 hx hb dL_law_496 rfl ?_
  refine lv_goto (tgt := 1956) hx hb dL_law_497 (by decide) ?_
  exact K a_p u6 J_p a_d I_d J_d a_r I_r a_q I_q a_t I_t a_s I_s a_e I_e a_f I_f a_y I_y a_w I_w a_c I_c a_z I_z a_m a_ka I_ka a_ta I_ta a_sa I_sa a_kb I_kb a_tb I_tb a_sb I_sb a_kc I_kc a_tc I_tc a_sc I_sc a_o u12 J_o hl_p_trays hl_p_reader hl_p_table hl_p_script hl_p_shown hl_p_spare hl_p_layout hl_p_rows hl_p_code hl_p_wear hl_r_table hl_p_marks hl_m_0 hl_m_1 hl_m_2 hl_ka_table hl_ka_script hl_kb_table hl_kb_script hl_kc_table hl_kc_script (p_w5.1) hDI hQ hT hSI hE hF hL hR hW hKa hTa hSa hKb hTb hSb hKc hTc hSc (MI.kk hMo p_w11.1 (by decide) (by decide)) (hRt.kk ((show KK [] [1] I_o u12 from (KK.tr (KK.rf I_o) p_w11.1 (by decide) (by decide))).row 2 (by decide)) ((show KK [] [1] I_o u12 from (KK.tr (KK.rf I_o) p_w11.1 (by decide) (by decide))).row 3 (by decide)) rfl) ((show KP I_p u6 from (KP.tr (KP.rf I_p) (p_w5.2.1))).1.trans (hRp.trans ((show KK [] [1] I_o u12 from (KK.tr (KK.rf I_o) p_w11.1 (by decide) (by decide))).num 9 (by decide)).symm)) ((show KP I_p u6 from (KP.tr (KP.rf I_p) (p_w5.2.1))).2.1.trans (hRm.trans ((show KK [] [1] I_o u12 from (KK.tr (KK.rf I_o) p_w11.1 (by decide) (by decide))).num 45 (by decide)).symm)) (hTP.kk (show KP I_p u6 from (KP.tr (KP.rf I_p) (p_w5.2.1))).1 (show KP I_p u6 from (KP.tr (KP.rf I_p) (p_w5.2.1))).2.2 ((show KK [] [1] I_o u12 from (KK.tr (KK.rf I_o) p_w11.1 (by decide) (by decide))).row 5 (by decide))) _ _ hP hD hS ls hl

set_option maxHeartbeats 4000000 in
set_option maxRecDepth 100000 in
theorem lawc6 (l : Launch) (g : gG) (ad av : Nat → Nat) {p : Program} {e : Env} {s : State} {m : MethodId} {below : List Frame} {meth : Method} {c : Code} {b L : Nat} {xs : Nat → Int32} (fx : CallFix p m c cL_law 4 s #[Value.ref b] lw_tbl RL) (hX : va_X b L xs s s.heap) (hbl : b < s.heap.size) (hK : gK g s) (hJ : jF ad av (lA s) s s.heap) (i : Int32) (hi : 0 ≤ i.toInt ∧ i.toInt + 6 ≤ (L : Int) ∧ (L : Int) ≤ 3072) (K : LawC p e s m below meth c l g b i 1956) : LawC p e s m below meth c l g b i 500 := by
  intro a_p I_p J_p a_d I_d J_d a_r I_r a_q I_q a_t I_t a_s I_s a_e I_e a_f I_f a_y I_y a_w I_w a_c I_c a_z I_z a_m a_ka I_ka a_ta I_ta a_sa I_sa a_kb I_kb a_tb I_tb a_sb I_sb a_kc I_kc a_tc I_tc a_sc I_sc a_o I_o J_o hl_p_trays hl_p_reader hl_p_table hl_p_script hl_p_shown hl_p_spare hl_p_layout hl_p_rows hl_p_code hl_p_wear hl_r_table hl_p_marks hl_m_0 hl_m_1 hl_m_2 hl_ka_table hl_ka_script hl_kb_table hl_kb_script hl_kc_table hl_kc_script hPI hDI hQ hT hSI hE hF hL hR hW hKa hTa hSa hKb hTb hSb hKc hTc hSc hMo hRt hRp hRm hTP H locs hP hD hS ls hl
  have hx := fx.1
  have hb := fx.2.1
  have hown := fx.2.2.2.1
  have hts := fx.2.2.2.2
  have hA : ∀ q : Nat, s.heap.size ≤ q → lA s q := fun _ h => h
  have hbA : ¬ lA s b := Nat.not_le.mpr hbl
  have lm1 : (-1 : Int32).toInt = -1 := by decide
  have lm0 : (0 : Int32).toInt = 0 := by decide
  have lm2 : (1 : Int32).toInt = 1 := by decide
  have lq2 : (2 : Int32).toInt = 2 := by decide
  have lq3 : (3 : Int32).toInt = 3 := by decide
  have lq4 : (4 : Int32).toInt = 4 := by decide
  have lq5 : (5 : Int32).toInt = 5 := by decide
  have lq6 : (6 : Int32).toInt = 6 := by decide
  have lq7 : (7 : Int32).toInt = 7 := by decide
  refine lv_aload_n hx hb dL_law_500 rfl (lv_at hl 2 rfl) ?_
  refine lv_aload_n hx hb dL_law_501 rfl (lv_at hl 3 rfl) ?_
  refine lv_iload_n hx hb dL_law_502 rfl (lv_at hl 0 rfl) ?_
  refine lv_iconst (v := 1) hx hb dL_law_503 (by decide) ?_
  refine r_iadd hx hb dL_law_504 rfl (by decide : (1 : Int32).toInt = 1) (fun x1 e_x1 t_x1 => ?_)
  try have t_x1 := t_x1 (by omega)
  have n_505 : vp_in x1 L := t_in (by omega)
  refine va_sld hx hb hX hbl hbA hS n_505 dL_law_505 ?_
  refine q_nm (fun x2 e_x2 => ?_)
  have s_x2 : x2 = xs (i.toInt.toNat + 1) := at_ix e_x2 (by omega)
  refine lv_aload_n hx hb dL_law_506 rfl (lv_at hl 3 rfl) ?_
  refine lv_iload_n hx hb dL_law_507 rfl (lv_at hl 0 rfl) ?_
  refine lv_iconst (v := 2) hx hb dL_law_508 (by decide) ?_
  refine r_iadd hx hb dL_law_509 rfl (by decide : (2 : Int32).toInt = 2) (fun x3 e_x3 t_x3 => ?_)
  try have t_x3 := t_x3 (by omega)
  have n_510 : vp_in x3 L := t_in (by omega)
  refine va_sld hx hb hX hbl hbA hS n_510 dL_law_510 ?_
  refine q_nm (fun x4 e_x4 => ?_)
  have s_x4 : x4 = xs (i.toInt.toNat + 2) := at_ix e_x4 (by omega)
  refine lv_aload_n hx hb dL_law_511 rfl (lv_at hl 3 rfl) ?_
  refine lv_iload_n hx hb dL_law_512 rfl (lv_at hl 0 rfl) ?_
  refine lv_iconst (v := 3) hx hb dL_law_513 (by decide) ?_
  refine r_iadd hx hb dL_law_514 rfl (by decide : (3 : Int32).toInt = 3) (fun x5 e_x5 t_x5 => ?_)
  try have t_x5 := t_x5 (by omega)
  have n_515 : vp_in x5 L := t_in (by omega)
  refine va_sld hx hb hX hbl hbA hS n_515 dL_law_515 ?_
  refine q_nm (fun x6 e_x6 => ?_)
  have s_x6 : x6 = xs (i.toInt.toNat + 3) := at_ix e_x6 (by omega)
  refine lv_aload_n hx hb dL_law_516 rfl (lv_at hl 3 rfl) ?_
  refine lv_iload_n hx hb dL_law_517 rfl (lv_at hl 0 rfl) ?_
  refine lv_iconst (v := 4) hx hb dL_law_518 (by decide) ?_
  refine r_iadd hx hb dL_law_519 rfl (by decide : (4 : Int32).toInt = 4) (fun x7 e_x7 t_x7 => ?_)
  try have t_x7 := t_x7 (by omega)
  have n_520 : vp_in x7 L := t_in (by omega)
  refine va_sld hx hb hX hbl hbA hS n_520 dL_law_520 ?_
  refine q_nm (fun x8 e_x8 => ?_)
  have s_x8 : x8 = xs (i.toInt.toNat + 4) := at_ix e_x8 (by omega)
  refine lv_aload_n hx hb dL_law_521 rfl (lv_at hl 3 rfl) ?_
  refine lv_iload_n hx hb dL_law_522 rfl (lv_at hl 0 rfl) ?_
  refine lv_iconst (v := 5) hx hb dL_law_523 (by decide) ?_
  refine r_iadd hx hb dL_law_524 rfl (by decide : (5 : Int32).toInt = 5) (fun x9 e_x9 t_x9 => ?_)
  try have t_x9 := t_x9 (by omega)
  have n_525 : vp_in x9 L := t_in (by omega)
  refine va_sld hx hb hX hbl hbA hS n_525 dL_law_525 ?_
  refine q_nm (fun x10 e_x10 => ?_)
  have s_x10 : x10 = xs (i.toInt.toNat + 5) := at_ix e_x10 (by omega)
  refine EffI.gv (wc := wfl [wX10 g a_p I_p J_p, wX8 g a_d I_d J_d, wX3 g a_r I_r, wX7 g a_q I_q, wX7 g a_t I_t, wX5 g a_s I_s, wX6 g a_e I_e, wX6 g a_f I_f, wX1 g a_y I_y, wX4 g a_w I_w, wX0 g a_c I_c, wX9 g a_z I_z, wMQ g a_m, wX2 g a_ka I_ka, wX7 g a_ta I_ta, wX5 g a_sa I_sa, wX2 g a_kb I_kb, wX7 g a_tb I_tb, wX5 g a_sb I_sb, wX2 g a_kc I_kc, wX7 g a_tc I_tc, wX5 g a_sc I_sc, wX11 g a_o I_o J_o]) (wr := wfl [wX3 g a_r I_r, wX7 g a_q I_q, wX7 g a_t I_t, wX5 g a_s I_s, wX6 g a_e I_e, wX6 g a_f I_f, wX1 g a_y I_y, wX4 g a_w I_w, wX0 g a_c I_c, wX9 g a_z I_z, wMQ g a_m, wX2 g a_ka I_ka, wX7 g a_ta I_ta, wX5 g a_sa I_sa, wX2 g a_kb I_kb, wX7 g a_tb I_tb, wX5 g a_sb I_sb, wX2 g a_kc I_kc, wX7 g a_tc I_tc, wX5 g a_sc I_sc, wX11 g a_o I_o J_o]) (w' := fun u12 => wfl [wX10 g a_p u12.1 J_p, wX8 g a_d I_d u12.2, wX3 g a_r I_r, wX7 g a_q I_q, wX7 g a_t I_t, wX5 g a_s I_s, wX6 g a_e I_e, wX6 g a_f I_f, wX1 g a_y I_y, wX4 g a_w I_w, wX0 g a_c I_c, wX9 g a_z I_z, wMQ g a_m, wX2 g a_ka I_ka, wX7 g a_ta I_ta, wX5 g a_sa I_sa, wX2 g a_kb I_kb, wX7 g a_tb I_tb, wX5 g a_sb I_sb, wX2 g a_kc I_kc, wX7 g a_tc I_tc, wX5 g a_sc I_sc, wX11 g a_o I_o J_o]) (As := [.int x2, .int x4, .int x6, .int x8, .int x10]) (kX10_pour l g a_p I_p J_p a_d I_d J_d x2 x4 x6 x8 x10 hl_p_trays (by omega) (by omega)) fx (gUV wsL_law_in u_308 u_309 u_310 u_2 u_311) rfl hdX10_pour ⟨Nat.le_of_ble_eq_true rfl, Nat.le_of_ble_eq_true rfl⟩ hK hP hD hS hA (cI [wX10 g a_p I_p J_p, wX8 g a_d I_d J_d, wX3 g a_r I_r, wX7 g a_q I_q, wX7 g a_t I_t, wX5 g a_s I_s, wX6 g a_e I_e, wX6 g a_f I_f, wX1 g a_y I_y, wX4 g a_w I_w, wX0 g a_c I_c, wX9 g a_z I_z, wMQ g a_m, wX2 g a_ka I_ka, wX7 g a_ta I_ta, wX5 g a_sa I_sa, wX2 g a_kb I_kb, wX7 g a_tb I_tb, wX5 g a_sb I_sb, wX2 g a_kc I_kc, wX7 g a_tc I_tc, wX5 g a_sc I_sc, wX11 g a_o I_o J_o] [0, 1]) (cI [wX10 g a_p I_p J_p, wX8 g a_d I_d J_d, wX3 g a_r I_r, wX7 g a_q I_q, wX7 g a_t I_t, wX5 g a_s I_s, wX6 g a_e I_e, wX6 g a_f I_f, wX1 g a_y I_y, wX4 g a_w I_w, wX0 g a_c I_c, wX9 g a_z I_z, wMQ g a_m, wX2 g a_ka I_ka, wX7 g a_ta I_ta, wX5 g a_sa I_sa, wX2 g a_kb I_kb, wX7 g a_tb I_tb, wX5 g a_sb I_sb, wX2 g a_kc I_kc, wX7 g a_tc I_tc, wX5 g a_sc I_sc, wX11 g a_o I_o J_o] [2, 3, 4, 5, 6, 7, 8, 9, 10, 11, 12, 13, 14, 15, 16, 17, 18, 19, 20, 21, 22]) (cI ([wX3 g a_r I_r, wX7 g a_q I_q, wX7 g a_t I_t, wX5 g a_s I_s, wX6 g a_e I_e, wX6 g a_f I_f, wX1 g a_y I_y, wX4 g a_w I_w, wX0 g a_c I_c, wX9 g a_z I_z, wMQ g a_m, wX2 g a_ka I_ka, wX7 g a_ta I_ta, wX5 g a_sa I_sa, wX2 g a_kb I_kb, wX7 g a_tb I_tb, wX5 g a_sb I_sb, wX2 g a_kc I_kc, wX7 g a_tc I_tc, wX5 g a_sc I_sc, wX11 g a_o I_o J_o] ++ [wX10 g a_p I_p J_p, wX8 g a_d I_d J_d]) [21, 22, 0, 1, 2, 3, 4, 5, 6, 7, 8, 9, 10, 11, 12, 13, 14, 15, 16, 17, 18, 19, 20]) (ci_map [wX10 g a_p I_p J_p, wX8 g a_d I_d J_d, wX3 g a_r I_r, wX7 g a_q I_q, wX7 g a_t I_t, wX5 g a_s I_s, wX6 g a_e I_e, wX6 g a_f I_f, wX1 g a_y I_y, wX4 g a_w I_w, wX0 g a_c I_c, wX9 g a_z I_z, wMQ g a_m, wX2 g a_ka I_ka, wX7 g a_ta I_ta, wX5 g a_sa I_sa, wX2 g a_kb I_kb, wX7 g a_tb I_tb, wX5 g a_sb I_sb, wX2 g a_kc I_kc, wX7 g a_tc I_tc, wX5 g a_sc I_sc, wX11 g a_o I_o J_o] [wX10 g a_p I_p J_p, wX8 g a_d I_d J_d] rfl) (ci_map [wX10 g a_p I_p J_p, wX8 g a_d I_d J_d, wX3 g a_r I_r, wX7 g a_q I_q, wX7 g a_t I_t, wX5 g a_s I_s, wX6 g a_e I_e, wX6 g a_f I_f, wX1 g a_y I_y, wX4 g a_w I_w, wX0 g a_c I_c, wX9 g a_z I_z, wMQ g a_m, wX2 g a_ka I_ka, wX7 g a_ta I_ta, wX5 g a_sa I_sa, wX2 g a_kb I_kb, wX7 g a_tb I_tb, wX5 g a_sb I_sb, wX2 g a_kc I_kc, wX7 g a_tc I_tc, wX5 g a_sc I_sc, wX11 g a_o I_o J_o] [wX3 g a_r I_r, wX7 g a_q I_q, wX7 g a_t I_t, wX5 g a_s I_s, wX6 g a_e I_e, wX6 g a_f I_f, wX1 g a_y I_y, wX4 g a_w I_w, wX0 g a_c I_c, wX9 g a_z I_z, wMQ g a_m, wX2 g a_ka I_ka, wX7 g a_ta I_ta, wX5 g a_sa I_sa, wX2 g a_kb I_kb, wX7 g a_tb I_tb, wX5 g a_sb I_sb, wX2 g a_kc I_kc, wX7 g a_tc I_tc, wX5 g a_sc I_sc, wX11 g a_o I_o J_o] rfl) (ci_nd _ rfl) (ci_nd _ rfl) (ci_dis _ (by decide)) (ci_nd _ rfl) (fun u12 => ci_mapB [wX3 g a_r I_r, wX7 g a_q I_q, wX7 g a_t I_t, wX5 g a_s I_s, wX6 g a_e I_e, wX6 g a_f I_f, wX1 g a_y I_y, wX4 g a_w I_w, wX0 g a_c I_c, wX9 g a_z I_z, wMQ g a_m, wX2 g a_ka I_ka, wX7 g a_ta I_ta, wX5 g a_sa I_sa, wX2 g a_kb I_kb, wX7 g a_tb I_tb, wX5 g a_sb I_sb, wX2 g a_kc I_kc, wX7 g a_tc I_tc, wX5 g a_sc I_sc, wX11 g a_o I_o J_o] [wX10 g a_p I_p J_p, wX8 g a_d I_d J_d] [wX10 g a_p u12.1 J_p, wX8 g a_d I_d u12.2] [wX10 g a_p u12.1 J_p, wX8 g a_d I_d u12.2, wX3 g a_r I_r, wX7 g a_q I_q, wX7 g a_t I_t, wX5 g a_s I_s, wX6 g a_e I_e, wX6 g a_f I_f, wX1 g a_y I_y, wX4 g a_w I_w, wX0 g a_c I_c, wX9 g a_z I_z, wMQ g a_m, wX2 g a_ka I_ka, wX7 g a_ta I_ta, wX5 g a_sa I_sa, wX2 g a_kb I_kb, wX7 g a_tb I_tb, wX5 g a_sb I_sb, wX2 g a_kc I_kc, wX7 g a_tc I_tc, wX5 g a_sc I_sc, wX11 g a_o I_o J_o] rfl rfl) rfl rfl rfl rfl hl.1 (Nat.le_of_ble_eq_true rfl) dL_law_526 ⟨Nat.le_of_ble_eq_true rfl, Nat.le_of_ble_eq_true rfl⟩ (fun r11 u12 H locs p_r11 hP hD hS => ?_)
  obtain ⟨I13, I14⟩ := u12
  try dsimp only at p_r11
  have hP : va_P g.1 vwCl (wX10 g a_p I13 J_p ++ (wX8 g a_d I_d I14 ++ (wX3 g a_r I_r ++ (wX7 g a_q I_q ++ (wX7 g a_t I_t ++ (wX5 g a_s I_s ++ (wX6 g a_e I_e ++ (wX6 g a_f I_f ++ (wX1 g a_y I_y ++ (wX4 g a_w I_w ++ (wX0 g a_c I_c ++ (wX9 g a_z I_z ++ (wMQ g a_m ++ (wX2 g a_ka I_ka ++ (wX7 g a_ta I_ta ++ (wX5 g a_sa I_sa ++ (wX2 g a_kb I_kb ++ (wX7 g a_tb I_tb ++ (wX5 g a_sb I_sb ++ (wX2 g a_kc I_kc ++ (wX7 g a_tc I_tc ++ (wX5 g a_sc I_sc ++ wX11 g a_o I_o J_o)))))))))))))))))))))) H := hP
  have hD : va_D (lA s) (wX10 g a_p I13 J_p ++ (wX8 g a_d I_d I14 ++ (wX3 g a_r I_r ++ (wX7 g a_q I_q ++ (wX7 g a_t I_t ++ (wX5 g a_s I_s ++ (wX6 g a_e I_e ++ (wX6 g a_f I_f ++ (wX1 g a_y I_y ++ (wX4 g a_w I_w ++ (wX0 g a_c I_c ++ (wX9 g a_z I_z ++ (wMQ g a_m ++ (wX2 g a_ka I_ka ++ (wX7 g a_ta I_ta ++ (wX5 g a_sa I_sa ++ (wX2 g a_kb I_kb ++ (wX7 g a_tb I_tb ++ (wX5 g a_sb I_sb ++ (wX2 g a_kc I_kc ++ (wX7 g a_tc I_tc ++ (wX5 g a_sc I_sc ++ wX11 g a_o I_o J_o)))))))))))))))))))))) := hD
  refine lv_pop hx hb dL_law_529 rfl ?_
  refine lv_aload_n hx hb dL_law_530 rfl (lv_at hl 1 rfl) ?_
  refine lv_aload_n hx hb dL_law_531 rfl (lv_at hl 3 rfl) ?_
  refine lv_iload_n hx hb dL_law_532 rfl (lv_at hl 0 rfl) ?_
  refine lv_iconst (v := 1) hx hb dL_law_533 (by decide) ?_
  refine r_iadd hx hb dL_law_534 rfl (by decide : (1 : Int32).toInt = 1) (fun x15 e_x15 t_x15 => ?_)
  try have t_x15 := t_x15 (by omega)
  have n_535 : vp_in x15 L := t_in (by omega)
  refine va_sld hx hb hX hbl hbA hS n_535 dL_law_535 ?_
  have u_535 : xs (x15).toNatClampNeg = xs (i.toInt.toNat + 1) := at_ix rfl (by omega)
  refine q_same (s_x2.trans u_535.symm) ?_
  refine lv_aload_n hx hb dL_law_536 rfl (lv_at hl 3 rfl) ?_
  refine lv_iload_n hx hb dL_law_537 rfl (lv_at hl 0 rfl) ?_
  refine lv_iconst (v := 2) hx hb dL_law_538 (by decide) ?_
  refine r_iadd hx hb dL_law_539 rfl (by decide : (2 : Int32).toInt = 2) (fun x17 e_x17 t_x17 => ?_)
  try have t_x17 := t_x17 (by omega)
  have n_540 : vp_in x17 L := t_in (by omega)
  refine va_sld hx hb hX hbl hbA hS n_540 dL_law_540 ?_
  have u_540 : xs (x17).toNatClampNeg = xs (i.toInt.toNat + 2) := at_ix rfl (by omega)
  refine q_same (s_x4.trans u_540.symm) ?_
  refine lv_aload_n hx hb dL_law_541 rfl (lv_at hl 3 rfl) ?_
  refine lv_iload_n hx hb dL_law_542 rfl (lv_at hl 0 rfl) ?_
  refine lv_iconst (v := 3) hx hb dL_law_543 (by decide) ?_
  refine r_iadd hx hb dL_law_544 rfl (by decide : (3 : Int32).toInt = 3) (fun x19 e_x19 t_x19 => ?_)
  try have t_x19 := t_x19 (by omega)
  have n_545 : vp_in x19 L := t_in (by omega)
  refine va_sld hx hb hX hbl hbA hS n_545 dL_law_545 ?_
  have u_545 : xs (x19).toNatClampNeg = xs (i.toInt.toNat + 3) := at_ix rfl (by omega)
  refine q_same (s_x6.trans u_545.symm) ?_
  refine lv_aload_n hx hb dL_law_546 rfl (lv_at hl 3 rfl) ?_
  refine lv_iload_n hx hb dL_law_547 rfl (lv_at hl 0 rfl) ?_
  refine lv_iconst (v := 4) hx hb dL_law_548 (by decide) ?_
  refine r_iadd hx hb dL_law_549 rfl (by decide : (4 : Int32).toInt = 4) (fun x21 e_x21 t_x21 => ?_)
  try have t_x21 := t_x21 (by omega)
  have n_550 : vp_in x21 L := t_in (by omega)
  refine va_sld hx hb hX hbl hbA hS n_550 dL_law_550 ?_
  have u_550 : xs (x21).toNatClampNeg = xs (i.toInt.toNat + 4) := at_ix rfl (by omega)
  refine q_same (s_x8.trans u_550.symm) ?_
  refine lv_aload_n hx hb dL_law_551 rfl (lv_at hl 3 rfl) ?_
  refine lv_iload_n hx hb dL_law_552 rfl (lv_at hl 0 rfl) ?_
  refine lv_iconst (v := 5) hx hb dL_law_553 (by decide) ?_
  refine r_iadd hx hb dL_law_554 rfl (by decide : (5 : Int32).toInt = 5) (fun x23 e_x23 t_x23 => ?_)
  try have t_x23 := t_x23 (by omega)
  have n_555 : vp_in x23 L := t_in (by omega)
  refine va_sld hx hb hX hbl hbA hS n_555 dL_law_555 ?_
  have u_555 : xs (x23).toNatClampNeg = xs (i.toInt.toNat + 5) := at_ix rfl (by omega)
  refine q_same (s_x10.trans u_555.symm) ?_
  refine EffI.gv (wc := wfl [wX10 g a_p I13 J_p, wX8 g a_d I_d I14, wX3 g a_r I_r, wX7 g a_q I_q, wX7 g a_t I_t, wX5 g a_s I_s, wX6 g a_e I_e, wX6 g a_f I_f, wX1 g a_y I_y, wX4 g a_w I_w, wX0 g a_c I_c, wX9 g a_z I_z, wMQ g a_m, wX2 g a_ka I_ka, wX7 g a_ta I_ta, wX5 g a_sa I_sa, wX2 g a_kb I_kb, wX7 g a_tb I_tb, wX5 g a_sb I_sb, wX2 g a_kc I_kc, wX7 g a_tc I_tc, wX5 g a_sc I_sc, wX11 g a_o I_o J_o]) (wr := wfl [wX10 g a_p I13 J_p, wX8 g a_d I_d I14, wX3 g a_r I_r, wX7 g a_q I_q, wX7 g a_t I_t, wX5 g a_s I_s, wX6 g a_e I_e, wX6 g a_f I_f, wX1 g a_y I_y, wX4 g a_w I_w, wX0 g a_c I_c, wX9 g a_z I_z, wMQ g a_m, wX2 g a_ka I_ka, wX7 g a_ta I_ta, wX5 g a_sa I_sa, wX2 g a_kb I_kb, wX7 g a_tb I_tb, wX5 g a_sb I_sb, wX2 g a_kc I_kc, wX7 g a_tc I_tc, wX5 g a_sc I_sc]) (w' := fun u26 => wfl [wX10 g a_p I13 J_p, wX8 g a_d I_d I14, wX3 g a_r I_r, wX7 g a_q I_q, wX7 g a_t I_t, wX5 g a_s I_s, wX6 g a_e I_e, wX6 g a_f I_f, wX1 g a_y I_y, wX4 g a_w I_w, wX0 g a_c I_c, wX9 g a_z I_z, wMQ g a_m, wX2 g a_ka I_ka, wX7 g a_ta I_ta, wX5 g a_sa I_sa, wX2 g a_kb I_kb, wX7 g a_tb I_tb, wX5 g a_sb I_sb, wX2 g a_kc I_kc, wX7 g a_tc I_tc, wX5 g a_sc I_sc, wX11 g a_o u26.1 u26.2]) (As := [.int x2, .int x4, .int x6, .int x8, .int x10]) (kX11_pour l g a_o I_o J_o x2 x4 x6 x8 x10 hMo) fx (gUV wsL_law_in u_329 u_330 u_331 u_5 u_332) rfl hdX11_pour ⟨Nat.le_of_ble_eq_true rfl, Nat.le_of_ble_eq_true rfl⟩ hK hP hD hS hA (cI [wX10 g a_p I13 J_p, wX8 g a_d I_d I14, wX3 g a_r I_r, wX7 g a_q I_q, wX7 g a_t I_t, wX5 g a_s I_s, wX6 g a_e I_e, wX6 g a_f I_f, wX1 g a_y I_y, wX4 g a_w I_w, wX0 g a_c I_c, wX9 g a_z I_z, wMQ g a_m, wX2 g a_ka I_ka, wX7 g a_ta I_ta, wX5 g a_sa I_sa, wX2 g a_kb I_kb, wX7 g a_tb I_tb, wX5 g a_sb I_sb, wX2 g a_kc I_kc, wX7 g a_tc I_tc, wX5 g a_sc I_sc, wX11 g a_o I_o J_o] [22]) (cI [wX10 g a_p I13 J_p, wX8 g a_d I_d I14, wX3 g a_r I_r, wX7 g a_q I_q, wX7 g a_t I_t, wX5 g a_s I_s, wX6 g a_e I_e, wX6 g a_f I_f, wX1 g a_y I_y, wX4 g a_w I_w, wX0 g a_c I_c, wX9 g a_z I_z, wMQ g a_m, wX2 g a_ka I_ka, wX7 g a_ta I_ta, wX5 g a_sa I_sa, wX2 g a_kb I_kb, wX7 g a_tb I_tb, wX5 g a_sb I_sb, wX2 g a_kc I_kc, wX7 g a_tc I_tc, wX5 g a_sc I_sc, wX11 g a_o I_o J_o] [0, 1, 2, 3, 4, 5, 6, 7, 8, 9, 10, 11, 12, 13, 14, 15, 16, 17, 18, 19, 20, 21]) (cI ([wX10 g a_p I13 J_p, wX8 g a_d I_d I14, wX3 g a_r I_r, wX7 g a_q I_q, wX7 g a_t I_t, wX5 g a_s I_s, wX6 g a_e I_e, wX6 g a_f I_f, wX1 g a_y I_y, wX4 g a_w I_w, wX0 g a_c I_c, wX9 g a_z I_z, wMQ g a_m, wX2 g a_ka I_ka, wX7 g a_ta I_ta, wX5 g a_sa I_sa, wX2 g a_kb I_kb, wX7 g a_tb I_tb, wX5 g a_sb I_sb, wX2 g a_kc I_kc, wX7 g a_tc I_tc, wX5 g a_sc I_sc] ++ [wX11 g a_o I_o J_o]) [0, 1, 2, 3, 4, 5, 6, 7, 8, 9, 10, 11, 12, 13, 14, 15, 16, 17, 18, 19, 20, 21, 22]) (ci_map [wX10 g a_p I13 J_p, wX8 g a_d I_d I14, wX3 g a_r I_r, wX7 g a_q I_q, wX7 g a_t I_t, wX5 g a_s I_s, wX6 g a_e I_e, wX6 g a_f I_f, wX1 g a_y I_y, wX4 g a_w I_w, wX0 g a_c I_c, wX9 g a_z I_z, wMQ g a_m, wX2 g a_ka I_ka, wX7 g a_ta I_ta, wX5 g a_sa I_sa, wX2 g a_kb I_kb, wX7 g a_tb I_tb, wX5 g a_sb I_sb, wX2 g a_kc I_kc, wX7 g a_tc I_tc, wX5 g a_sc I_sc, wX11 g a_o I_o J_o] [wX11 g a_o I_o J_o] rfl) (ci_map [wX10 g a_p I13 J_p, wX8 g a_d I_d I14, wX3 g a_r I_r, wX7 g a_q I_q, wX7 g a_t I_t, wX5 g a_s I_s, wX6 g a_e I_e, wX6 g a_f I_f, wX1 g a_y I_y, wX4 g a_w I_w, wX0 g a_c I_c, wX9 g a_z I_z, wMQ g a_m, wX2 g a_ka I_ka, wX7 g a_ta I_ta, wX5 g a_sa I_sa, wX2 g a_kb I_kb, wX7 g a_tb I_tb, wX5 g a_sb I_sb, wX2 g a_kc I_kc, wX7 g a_tc I_tc, wX5 g a_sc I_sc, wX11 g a_o I_o J_o] [wX10 g a_p I13 J_p, wX8 g a_d I_d I14, wX3 g a_r I_r, wX7 g a_q I_q, wX7 g a_t I_t, wX5 g a_s I_s, wX6 g a_e I_e, wX6 g a_f I_f, wX1 g a_y I_y, wX4 g a_w I_w, wX0 g a_c I_c, wX9 g a_z I_z, wMQ g a_m, wX2 g a_ka I_ka, wX7 g a_ta I_ta, wX5 g a_sa I_sa, wX2 g a_kb I_kb, wX7 g a_tb I_tb, wX5 g a_sb I_sb, wX2 g a_kc I_kc, wX7 g a_tc I_tc, wX5 g a_sc I_sc] rfl) (ci_nd _ rfl) (ci_nd _ rfl) (ci_dis _ (by decide)) (ci_nd _ rfl) (fun u26 => ci_mapB [wX10 g a_p I13 J_p, wX8 g a_d I_d I14, wX3 g a_r I_r, wX7 g a_q I_q, wX7 g a_t I_t, wX5 g a_s I_s, wX6 g a_e I_e, wX6 g a_f I_f, wX1 g a_y I_y, wX4 g a_w I_w, wX0 g a_c I_c, wX9 g a_z I_z, wMQ g a_m, wX2 g a_ka I_ka, wX7 g a_ta I_ta, wX5 g a_sa I_sa, wX2 g a_kb I_kb, wX7 g a_tb I_tb, wX5 g a_sb I_sb, wX2 g a_kc I_kc, wX7 g a_tc I_tc, wX5 g a_sc I_sc] [wX11 g a_o I_o J_o] [wX11 g a_o u26.1 u26.2] [wX10 g a_p I13 J_p, wX8 g a_d I_d I14, wX3 g a_r I_r, wX7 g a_q I_q, wX7 g a_t I_t, wX5 g a_s I_s, wX6 g a_e I_e, wX6 g a_f I_f, wX1 g a_y I_y, wX4 g a_w I_w, wX0 g a_c I_c, wX9 g a_z I_z, wMQ g a_m, wX2 g a_ka I_ka, wX7 g a_ta I_ta, wX5 g a_sa I_sa, wX2 g a_kb I_kb, wX7 g a_tb I_tb, wX5 g a_sb I_sb, wX2 g a_kc I_kc, wX7 g a_tc I_tc, wX5 g a_sc I_sc, wX11 g a_o u26.1 u26.2] rfl rfl) rfl rfl rfl rfl hl.1 (Nat.le_of_ble_eq_true rfl) dL_law_556 ⟨Nat.le_of_ble_eq_true rfl, Nat.le_of_ble_eq_true rfl⟩ (fun r25 u26 H locs p_r25 hP hD hS => ?_)
  obtain ⟨I27, I28⟩ := u26
  try dsimp only at p_r25
  have hP : va_P g.1 vwCl (wX10 g a_p I13 J_p ++ (wX8 g a_d I_d I14 ++ (wX3 g a_r I_r ++ (wX7 g a_q I_q ++ (wX7 g a_t I_t ++ (wX5 g a_s I_s ++ (wX6 g a_e I_e ++ (wX6 g a_f I_f ++ (wX1 g a_y I_y ++ (wX4 g a_w I_w ++ (wX0 g a_c I_c ++ (wX9 g a_z I_z ++ (wMQ g a_m ++ (wX2 g a_ka I_ka ++ (wX7 g a_ta I_ta ++ (wX5 g a_sa I_sa ++ (wX2 g a_kb I_kb ++ (wX7 g a_tb I_tb ++ (wX5 g a_sb I_sb ++ (wX2 g a_kc I_kc ++ (wX7 g a_tc I_tc ++ (wX5 g a_sc I_sc ++ wX11 g a_o I27 I28)))))))))))))))))))))) H := hP
  have hD : va_D (lA s) (wX10 g a_p I13 J_p ++ (wX8 g a_d I_d I14 ++ (wX3 g a_r I_r ++ (wX7 g a_q I_q ++ (wX7 g a_t I_t ++ (wX5 g a_s I_s ++ (wX6 g a_e I_e ++ (wX6 g a_f I_f ++ (wX1 g a_y I_y ++ (wX4 g a_w I_w ++ (wX0 g a_c I_c ++ (wX9 g a_z I_z ++ (wMQ g a_m ++ (wX2 g a_ka I_ka ++ (wX7 g a_ta I_ta ++ (wX5 g a_sa I_sa ++ (wX2 g a_kb I_kb ++ (wX7 g a_tb I_tb ++ (wX5 g a_sb I_sb ++ (wX2 g a_kc I_kc ++ (wX7 g a_tc I_tc ++ (wX5 g a_sc I_sc ++ wX11 g a_o I27 I28)))))))))))))))))))))) := hD
  refine lv_pop hx hb dL_law_559 rfl ?_
  refine lv_goto (tgt := 1956) hx hb dL_law_560 (by decide) ?_
  exact K a_p I13 J_p a_d I_d I14 a_r I_r a_q I_q a_t I_t a_s I_s a_e I_e a_f I_f a_y I_y a_w I_w a_c I_c a_z I_z a_m a_ka I_ka a_ta I_ta a_sa I_sa a_kb I_kb a_tb I_tb a_sb I_sb a_kc I_kc a_tc I_tc a_sc I_sc a_o I27 I28 hl_p_trays hl_p_reader hl_p_table hl_p_script hl_p_shown hl_p_spare hl_p_layout hl_p_rows hl_p_code hl_p_wear hl_r_table hl_p_marks hl_m_0 hl_m_1 hl_m_2 hl_ka_table hl_ka_script hl_kb_table hl_kb_script hl_kc_table hl_kc_script (p_r11.1) hDI hQ hT hSI hE hF hL hR hW hKa hTa hSa hKb hTb hSb hKc hTc hSc (MI.kk hMo p_r25.1 (by decide) (by decide)) ((RT.pour hRt ((show KK [] [1] I_o I27 from (KK.tr (KK.rf I_o) p_r25.1 (by decide) (by decide))).row 2 (by decide)) ((show KK [] [1] I_o I27 from (KK.tr (KK.rf I_o) p_r25.1 (by decide) (by decide))).row 3 (by decide)) p_r11.2.2 p_r25.2).1) ((show KP I_p I13 from (KP.tr (KP.rf I_p) (p_r11.2.1))).1.trans (hRp.trans ((show KK [] [1] I_o I27 from (KK.tr (KK.rf I_o) p_r25.1 (by decide) (by decide))).num 9 (by decide)).symm)) ((show KP I_p I13 from (KP.tr (KP.rf I_p) (p_r11.2.1))).2.1.trans (hRm.trans ((show KK [] [1] I_o I27 from (KK.tr (KK.rf I_o) p_r25.1 (by decide) (by decide))).num 45 (by decide)).symm)) (hTP.kk (show KP I_p I13 from (KP.tr (KP.rf I_p) (p_r11.2.1))).1 (show KP I_p I13 from (KP.tr (KP.rf I_p) (p_r11.2.1))).2.2 ((show KK [] [1] I_o I27 from (KK.tr (KK.rf I_o) p_r25.1 (by decide) (by decide))).row 5 (by decide))) _ _ hP hD hS ls hl

set_option maxHeartbeats 4000000 in
set_option maxRecDepth 100000 in
theorem lawc7 (l : Launch) (g : gG) (ad av : Nat → Nat) {p : Program} {e : Env} {s : State} {m : MethodId} {below : List Frame} {meth : Method} {c : Code} {b L : Nat} {xs : Nat → Int32} (fx : CallFix p m c cL_law 4 s #[Value.ref b] lw_tbl RL) (hX : va_X b L xs s s.heap) (hbl : b < s.heap.size) (hK : gK g s) (hJ : jF ad av (lA s) s s.heap) (i : Int32) (hi : 0 ≤ i.toInt ∧ i.toInt + 6 ≤ (L : Int) ∧ (L : Int) ≤ 3072) (K : LawC p e s m below meth c l g b i 1956) : LawC p e s m below meth c l g b i 563 := by
  intro a_p I_p J_p a_d I_d J_d a_r I_r a_q I_q a_t I_t a_s I_s a_e I_e a_f I_f a_y I_y a_w I_w a_c I_c a_z I_z a_m a_ka I_ka a_ta I_ta a_sa I_sa a_kb I_kb a_tb I_tb a_sb I_sb a_kc I_kc a_tc I_tc a_sc I_sc a_o I_o J_o hl_p_trays hl_p_reader hl_p_table hl_p_script hl_p_shown hl_p_spare hl_p_layout hl_p_rows hl_p_code hl_p_wear hl_r_table hl_p_marks hl_m_0 hl_m_1 hl_m_2 hl_ka_table hl_ka_script hl_kb_table hl_kb_script hl_kc_table hl_kc_script hPI hDI hQ hT hSI hE hF hL hR hW hKa hTa hSa hKb hTb hSb hKc hTc hSc hMo hRt hRp hRm hTP H locs hP hD hS ls hl
  have hx := fx.1
  have hb := fx.2.1
  have hown := fx.2.2.2.1
  have hts := fx.2.2.2.2
  have hA : ∀ q : Nat, s.heap.size ≤ q → lA s q := fun _ h => h
  have hbA : ¬ lA s b := Nat.not_le.mpr hbl
  have lm1 : (-1 : Int32).toInt = -1 := by decide
  have lm0 : (0 : Int32).toInt = 0 := by decide
  have lm2 : (1 : Int32).toInt = 1 := by decide
  have lq2 : (2 : Int32).toInt = 2 := by decide
  have lq3 : (3 : Int32).toInt = 3 := by decide
  have lq4 : (4 : Int32).toInt = 4 := by decide
  have lq5 : (5 : Int32).toInt = 5 := by decide
  have lq6 : (6 : Int32).toInt = 6 := by decide
  have lq7 : (7 : Int32).toInt = 7 := by decide
  refine lv_aload_n hx hb dL_law_563 rfl (lv_at hl 2 rfl) ?_
  refine lv_aload_n hx hb dL_law_564 rfl (lv_at hl 3 rfl) ?_
  refine lv_iload_n hx hb dL_law_565 rfl (lv_at hl 0 rfl) ?_
  refine lv_iconst (v := 1) hx hb dL_law_566 (by decide) ?_
  refine r_iadd hx hb dL_law_567 rfl (by decide : (1 : Int32).toInt = 1) (fun x1 e_x1 t_x1 => ?_)
  try have t_x1 := t_x1 (by omega)
  have n_568 : vp_in x1 L := t_in (by omega)
  refine va_sld hx hb hX hbl hbA hS n_568 dL_law_568 ?_
  refine q_nm (fun x2 e_x2 => ?_)
  have s_x2 : x2 = xs (i.toInt.toNat + 1) := at_ix e_x2 (by omega)
  refine lv_aload_n hx hb dL_law_569 rfl (lv_at hl 3 rfl) ?_
  refine lv_iload_n hx hb dL_law_570 rfl (lv_at hl 0 rfl) ?_
  refine lv_iconst (v := 2) hx hb dL_law_571 (by decide) ?_
  refine r_iadd hx hb dL_law_572 rfl (by decide : (2 : Int32).toInt = 2) (fun x3 e_x3 t_x3 => ?_)
  try have t_x3 := t_x3 (by omega)
  have n_573 : vp_in x3 L := t_in (by omega)
  refine va_sld hx hb hX hbl hbA hS n_573 dL_law_573 ?_
  refine q_nm (fun x4 e_x4 => ?_)
  have s_x4 : x4 = xs (i.toInt.toNat + 2) := at_ix e_x4 (by omega)
  refine lv_aload_n hx hb dL_law_574 rfl (lv_at hl 3 rfl) ?_
  refine lv_iload_n hx hb dL_law_575 rfl (lv_at hl 0 rfl) ?_
  refine lv_iconst (v := 3) hx hb dL_law_576 (by decide) ?_
  refine r_iadd hx hb dL_law_577 rfl (by decide : (3 : Int32).toInt = 3) (fun x5 e_x5 t_x5 => ?_)
  try have t_x5 := t_x5 (by omega)
  have n_578 : vp_in x5 L := t_in (by omega)
  refine va_sld hx hb hX hbl hbA hS n_578 dL_law_578 ?_
  refine q_nm (fun x6 e_x6 => ?_)
  have s_x6 : x6 = xs (i.toInt.toNat + 3) := at_ix e_x6 (by omega)
  refine lv_aload_n hx hb dL_law_579 rfl (lv_at hl 3 rfl) ?_
  refine lv_iload_n hx hb dL_law_580 rfl (lv_at hl 0 rfl) ?_
  refine lv_iconst (v := 4) hx hb dL_law_581 (by decide) ?_
  refine r_iadd hx hb dL_law_582 rfl (by decide : (4 : Int32).toInt = 4) (fun x7 e_x7 t_x7 => ?_)
  try have t_x7 := t_x7 (by omega)
  have n_583 : vp_in x7 L := t_in (by omega)
  refine va_sld hx hb hX hbl hbA hS n_583 dL_law_583 ?_
  refine q_nm (fun x8 e_x8 => ?_)
  have s_x8 : x8 = xs (i.toInt.toNat + 4) := at_ix e_x8 (by omega)
  refine lv_aload_n hx hb dL_law_584 rfl (lv_at hl 3 rfl) ?_
  refine lv_iload_n hx hb dL_law_585 rfl (lv_at hl 0 rfl) ?_
  refine lv_iconst (v := 5) hx hb dL_law_586 (by decide) ?_
  refine r_iadd hx hb dL_law_587 rfl (by decide : (5 : Int32).toInt = 5) (fun x9 e_x9 t_x9 => ?_)
  try have t_x9 := t_x9 (by omega)
  have n_588 : vp_in x9 L := t_in (by omega)
  refine va_sld hx hb hX hbl hbA hS n_588 dL_law_588 ?_
  refine q_nm (fun x10 e_x10 => ?_)
  have s_x10 : x10 = xs (i.toInt.toNat + 5) := at_ix e_x10 (by omega)
  refine EffI.gv (wc := wfl [wX10 g a_p I_p J_p, wX8 g a_d I_d J_d, wX3 g a_r I_r, wX7 g a_q I_q, wX7 g a_t I_t, wX5 g a_s I_s, wX6 g a_e I_e, wX6 g a_f I_f, wX1 g a_y I_y, wX4 g a_w I_w, wX0 g a_c I_c, wX9 g a_z I_z, wMQ g a_m, wX2 g a_ka I_ka, wX7 g a_ta I_ta, wX5 g a_sa I_sa, wX2 g a_kb I_kb, wX7 g a_tb I_tb, wX5 g a_sb I_sb, wX2 g a_kc I_kc, wX7 g a_tc I_tc, wX5 g a_sc I_sc, wX11 g a_o I_o J_o]) (wr := wfl [wX8 g a_d I_d J_d, wX3 g a_r I_r, wX7 g a_q I_q, wX7 g a_t I_t, wX5 g a_s I_s, wX6 g a_e I_e, wX6 g a_f I_f, wX1 g a_y I_y, wX4 g a_w I_w, wX0 g a_c I_c, wX9 g a_z I_z, wMQ g a_m, wX2 g a_ka I_ka, wX7 g a_ta I_ta, wX5 g a_sa I_sa, wX2 g a_kb I_kb, wX7 g a_tb I_tb, wX5 g a_sb I_sb, wX2 g a_kc I_kc, wX7 g a_tc I_tc, wX5 g a_sc I_sc, wX11 g a_o I_o J_o]) (w' := fun u12 => wfl [wX10 g a_p u12 J_p, wX8 g a_d I_d J_d, wX3 g a_r I_r, wX7 g a_q I_q, wX7 g a_t I_t, wX5 g a_s I_s, wX6 g a_e I_e, wX6 g a_f I_f, wX1 g a_y I_y, wX4 g a_w I_w, wX0 g a_c I_c, wX9 g a_z I_z, wMQ g a_m, wX2 g a_ka I_ka, wX7 g a_ta I_ta, wX5 g a_sa I_sa, wX2 g a_kb I_kb, wX7 g a_tb I_tb, wX5 g a_sb I_sb, wX2 g a_kc I_kc, wX7 g a_tc I_tc, wX5 g a_sc I_sc, wX11 g a_o I_o J_o]) (As := [.int x2, .int x4, .int x6, .int x8, .int x10]) (kX10_feed l g a_p I_p J_p x2 x4 x6 x8 x10 (by omega)) fx (gUV wsL_law_in u_333 u_334 u_335 u_2 u_336) rfl hdX10_feed ⟨Nat.le_of_ble_eq_true rfl, Nat.le_of_ble_eq_true rfl⟩ hK hP hD hS hA (cI [wX10 g a_p I_p J_p, wX8 g a_d I_d J_d, wX3 g a_r I_r, wX7 g a_q I_q, wX7 g a_t I_t, wX5 g a_s I_s, wX6 g a_e I_e, wX6 g a_f I_f, wX1 g a_y I_y, wX4 g a_w I_w, wX0 g a_c I_c, wX9 g a_z I_z, wMQ g a_m, wX2 g a_ka I_ka, wX7 g a_ta I_ta, wX5 g a_sa I_sa, wX2 g a_kb I_kb, wX7 g a_tb I_tb, wX5 g a_sb I_sb, wX2 g a_kc I_kc, wX7 g a_tc I_tc, wX5 g a_sc I_sc, wX11 g a_o I_o J_o] [0]) (cI [wX10 g a_p I_p J_p, wX8 g a_d I_d J_d, wX3 g a_r I_r, wX7 g a_q I_q, wX7 g a_t I_t, wX5 g a_s I_s, wX6 g a_e I_e, wX6 g a_f I_f, wX1 g a_y I_y, wX4 g a_w I_w, wX0 g a_c I_c, wX9 g a_z I_z, wMQ g a_m, wX2 g a_ka I_ka, wX7 g a_ta I_ta, wX5 g a_sa I_sa, wX2 g a_kb I_kb, wX7 g a_tb I_tb, wX5 g a_sb I_sb, wX2 g a_kc I_kc, wX7 g a_tc I_tc, wX5 g a_sc I_sc, wX11 g a_o I_o J_o] [1, 2, 3, 4, 5, 6, 7, 8, 9, 10, 11, 12, 13, 14, 15, 16, 17, 18, 19, 20, 21, 22]) (cI ([wX8 g a_d I_d J_d, wX3 g a_r I_r, wX7 g a_q I_q, wX7 g a_t I_t, wX5 g a_s I_s, wX6 g a_e I_e, wX6 g a_f I_f, wX1 g a_y I_y, wX4 g a_w I_w, wX0 g a_c I_c, wX9 g a_z I_z, wMQ g a_m, wX2 g a_ka I_ka, wX7 g a_ta I_ta, wX5 g a_sa I_sa, wX2 g a_kb I_kb, wX7 g a_tb I_tb, wX5 g a_sb I_sb, wX2 g a_kc I_kc, wX7 g a_tc I_tc, wX5 g a_sc I_sc, wX11 g a_o I_o J_o] ++ [wX10 g a_p I_p J_p]) [22, 0, 1, 2, 3, 4, 5, 6, 7, 8, 9, 10, 11, 12, 13, 14, 15, 16, 17, 18, 19, 20, 21]) (ci_map [wX10 g a_p I_p J_p, wX8 g a_d I_d J_d, wX3 g a_r I_r, wX7 g a_q I_q, wX7 g a_t I_t, wX5 g a_s I_s, wX6 g a_e I_e, wX6 g a_f I_f, wX1 g a_y I_y, wX4 g a_w I_w, wX0 g a_c I_c, wX9 g a_z I_z, wMQ g a_m, wX2 g a_ka I_ka, wX7 g a_ta I_ta, wX5 g a_sa I_sa, wX2 g a_kb I_kb, wX7 g a_tb I_tb, wX5 g a_sb I_sb, wX2 g a_kc I_kc, wX7 g a_tc I_tc, wX5 g a_sc I_sc, wX11 g a_o I_o J_o] [wX10 g a_p I_p J_p] rfl) (ci_map [wX10 g a_p I_p J_p, wX8 g a_d I_d J_d, wX3 g a_r I_r, wX7 g a_q I_q, wX7 g a_t I_t, wX5 g a_s I_s, wX6 g a_e I_e, wX6 g a_f I_f, wX1 g a_y I_y, wX4 g a_w I_w, wX0 g a_c I_c, wX9 g a_z I_z, wMQ g a_m, wX2 g a_ka I_ka, wX7 g a_ta I_ta, wX5 g a_sa I_sa, wX2 g a_kb I_kb, wX7 g a_tb I_tb, wX5 g a_sb I_sb, wX2 g a_kc I_kc, wX7 g a_tc I_tc, wX5 g a_sc I_sc, wX11 g a_o I_o J_o] [wX8 g a_d I_d J_d, wX3 g a_r I_r, wX7 g a_q I_q, wX7 g a_t I_t, wX5 g a_s I_s, wX6 g a_e I_e, wX6 g a_f I_f, wX1 g a_y I_y, wX4 g a_w I_w, wX0 g a_c I_c, wX9 g a_z I_z, wMQ g a_m, wX2 g a_ka I_ka, wX7 g a_ta I_ta, wX5 g a_sa I_sa, wX2 g a_kb I_kb, wX7 g a_tb I_tb, wX5 g a_sb I_sb, wX2 g a_kc I_kc, wX7 g a_tc I_tc, wX5 g a_sc I_sc, wX11 g a_o I_o J_o] rfl) (ci_nd _ rfl) (ci_nd _ rfl) (ci_dis _ (by decide)) (ci_nd _ rfl) (fun u12 => ci_mapB [wX8 g a_d I_d J_d, wX3 g a_r I_r, wX7 g a_q I_q, wX7 g a_t I_t, wX5 g a_s I_s, wX6 g a_e I_e, wX6 g a_f I_f, wX1 g a_y I_y, wX4 g a_w I_w, wX0 g a_c I_c, wX9 g a_z I_z, wMQ g a_m, wX2 g a_ka I_ka, wX7 g a_ta I_ta, wX5 g a_sa I_sa, wX2 g a_kb I_kb, wX7 g a_tb I_tb, wX5 g a_sb I_sb, wX2 g a_kc I_kc, wX7 g a_tc I_tc, wX5 g a_sc I_sc, wX11 g a_o I_o J_o] [wX10 g a_p I_p J_p] [wX10 g a_p u12 J_p] [wX10 g a_p u12 J_p, wX8 g a_d I_d J_d, wX3 g a_r I_r, wX7 g a_q I_q, wX7 g a_t I_t, wX5 g a_s I_s, wX6 g a_e I_e, wX6 g a_f I_f, wX1 g a_y I_y, wX4 g a_w I_w, wX0 g a_c I_c, wX9 g a_z I_z, wMQ g a_m, wX2 g a_ka I_ka, wX7 g a_ta I_ta, wX5 g a_sa I_sa, wX2 g a_kb I_kb, wX7 g a_tb I_tb, wX5 g a_sb I_sb, wX2 g a_kc I_kc, wX7 g a_tc I_tc, wX5 g a_sc I_sc, wX11 g a_o I_o J_o] rfl rfl) rfl rfl rfl rfl hl.1 (Nat.le_of_ble_eq_true rfl) dL_law_589 ⟨Nat.le_of_ble_eq_true rfl, Nat.le_of_ble_eq_true rfl⟩ (fun r11 u12 H locs p_r11 hP hD hS => ?_)
  have hP : va_P g.1 vwCl (wX10 g a_p u12 J_p ++ (wX8 g a_d I_d J_d ++ (wX3 g a_r I_r ++ (wX7 g a_q I_q ++ (wX7 g a_t I_t ++ (wX5 g a_s I_s ++ (wX6 g a_e I_e ++ (wX6 g a_f I_f ++ (wX1 g a_y I_y ++ (wX4 g a_w I_w ++ (wX0 g a_c I_c ++ (wX9 g a_z I_z ++ (wMQ g a_m ++ (wX2 g a_ka I_ka ++ (wX7 g a_ta I_ta ++ (wX5 g a_sa I_sa ++ (wX2 g a_kb I_kb ++ (wX7 g a_tb I_tb ++ (wX5 g a_sb I_sb ++ (wX2 g a_kc I_kc ++ (wX7 g a_tc I_tc ++ (wX5 g a_sc I_sc ++ wX11 g a_o I_o J_o)))))))))))))))))))))) H := hP
  have hD : va_D (lA s) (wX10 g a_p u12 J_p ++ (wX8 g a_d I_d J_d ++ (wX3 g a_r I_r ++ (wX7 g a_q I_q ++ (wX7 g a_t I_t ++ (wX5 g a_s I_s ++ (wX6 g a_e I_e ++ (wX6 g a_f I_f ++ (wX1 g a_y I_y ++ (wX4 g a_w I_w ++ (wX0 g a_c I_c ++ (wX9 g a_z I_z ++ (wMQ g a_m ++ (wX2 g a_ka I_ka ++ (wX7 g a_ta I_ta ++ (wX5 g a_sa I_sa ++ (wX2 g a_kb I_kb ++ (wX7 g a_tb I_tb ++ (wX5 g a_sb I_sb ++ (wX2 g a_kc I_kc ++ (wX7 g a_tc I_tc ++ (wX5 g a_sc I_sc ++ wX11 g a_o I_o J_o)))))))))))))))))))))) := hD
  refine lv_pop hx hb dL_law_592 rfl ?_
  refine lv_aload_n hx hb dL_law_593 rfl (lv_at hl 1 rfl) ?_
  refine lv_aload_n hx hb dL_law_594 rfl (lv_at hl 3 rfl) ?_
  refine lv_iload_n hx hb dL_law_595 rfl (lv_at hl 0 rfl) ?_
  refine lv_iconst (v := 1) hx hb dL_law_596 (by decide) ?_
  refine r_iadd hx hb dL_law_597 rfl (by decide : (1 : Int32).toInt = 1) (fun x13 e_x13 t_x13 => ?_)
  try have t_x13 := t_x13 (by omega)
  have n_598 : vp_in x13 L := t_in (by omega)
  refine va_sld hx hb hX hbl hbA hS n_598 dL_law_598 ?_
  have u_598 : xs (x13).toNatClampNeg = xs (i.toInt.toNat + 1) := at_ix rfl (by omega)
  refine q_same (s_x2.trans u_598.symm) ?_
  refine lv_aload_n hx hb dL_law_599 rfl (lv_at hl 3 rfl) ?_
  refine lv_iload_n hx hb dL_law_600 rfl (lv_at hl 0 rfl) ?_
  refine lv_iconst (v := 2) hx hb dL_law_601 (by decide) ?_
  refine r_iadd hx hb dL_law_602 rfl (by decide : (2 : Int32).toInt = 2) (fun x15 e_x15 t_x15 => ?_)
  try have t_x15 := t_x15 (by omega)
  have n_603 : vp_in x15 L := t_in (by omega)
  refine va_sld hx hb hX hbl hbA hS n_603 dL_law_603 ?_
  have u_603 : xs (x15).toNatClampNeg = xs (i.toInt.toNat + 2) := at_ix rfl (by omega)
  refine q_same (s_x4.trans u_603.symm) ?_
  refine lv_aload_n hx hb dL_law_604 rfl (lv_at hl 3 rfl) ?_
  refine lv_iload_n hx hb dL_law_605 rfl (lv_at hl 0 rfl) ?_
  refine lv_iconst (v := 3) hx hb dL_law_606 (by decide) ?_
  refine r_iadd hx hb dL_law_607 rfl (by decide : (3 : Int32).toInt = 3) (fun x17 e_x17 t_x17 => ?_)
  try have t_x17 := t_x17 (by omega)
  have n_608 : vp_in x17 L := t_in (by omega)
  refine va_sld hx hb hX hbl hbA hS n_608 dL_law_608 ?_
  have u_608 : xs (x17).toNatClampNeg = xs (i.toInt.toNat + 3) := at_ix rfl (by omega)
  refine q_same (s_x6.trans u_608.symm) ?_
  refine lv_aload_n hx hb dL_law_609 rfl (lv_at hl 3 rfl) ?_
  refine lv_iload_n hx hb dL_law_610 rfl (lv_at hl 0 rfl) ?_
  refine lv_iconst (v := 4) hx hb dL_law_611 (by decide) ?_
  refine r_iadd hx hb dL_law_612 rfl (by decide : (4 : Int32).toInt = 4) (fun x19 e_x19 t_x19 => ?_)
  try have t_x19 := t_x19 (by omega)
  have n_613 : vp_in x19 L := t_in (by omega)
  refine va_sld hx hb hX hbl hbA hS n_613 dL_law_613 ?_
  have u_613 : xs (x19).toNatClampNeg = xs (i.toInt.toNat + 4) := at_ix rfl (by omega)
  refine q_same (s_x8.trans u_613.symm) ?_
  refine lv_aload_n hx hb dL_law_614 rfl (lv_at hl 3 rfl) ?_
  refine lv_iload_n hx hb dL_law_615 rfl (lv_at hl 0 rfl) ?_
  refine lv_iconst (v := 5) hx hb dL_law_616 (by decide) ?_
  refine r_iadd hx hb dL_law_617 rfl (by decide : (5 : Int32).toInt = 5) (fun x21 e_x21 t_x21 => ?_)
  try have t_x21 := t_x21 (by omega)
  have n_618 : vp_in x21 L := t_in (by omega)
  refine va_sld hx hb hX hbl hbA hS n_618 dL_law_618 ?_
  have u_618 : xs (x21).toNatClampNeg = xs (i.toInt.toNat + 5) := at_ix rfl (by omega)
  refine q_same (s_x10.trans u_618.symm) ?_
  refine EffI.gv (wc := wfl [wX10 g a_p u12 J_p, wX8 g a_d I_d J_d, wX3 g a_r I_r, wX7 g a_q I_q, wX7 g a_t I_t, wX5 g a_s I_s, wX6 g a_e I_e, wX6 g a_f I_f, wX1 g a_y I_y, wX4 g a_w I_w, wX0 g a_c I_c, wX9 g a_z I_z, wMQ g a_m, wX2 g a_ka I_ka, wX7 g a_ta I_ta, wX5 g a_sa I_sa, wX2 g a_kb I_kb, wX7 g a_tb I_tb, wX5 g a_sb I_sb, wX2 g a_kc I_kc, wX7 g a_tc I_tc, wX5 g a_sc I_sc, wX11 g a_o I_o J_o]) (wr := wfl [wX10 g a_p u12 J_p, wX8 g a_d I_d J_d, wX3 g a_r I_r, wX7 g a_q I_q, wX7 g a_t I_t, wX5 g a_s I_s, wX6 g a_e I_e, wX6 g a_f I_f, wX1 g a_y I_y, wX4 g a_w I_w, wX0 g a_c I_c, wX9 g a_z I_z, wMQ g a_m, wX2 g a_ka I_ka, wX7 g a_ta I_ta, wX5 g a_sa I_sa, wX2 g a_kb I_kb, wX7 g a_tb I_tb, wX5 g a_sb I_sb, wX2 g a_kc I_kc, wX7 g a_tc I_tc, wX5 g a_sc I_sc]) (w' := fun u24 => wfl [wX10 g a_p u12 J_p, wX8 g a_d I_d J_d, wX3 g a_r I_r, wX7 g a_q I_q, wX7 g a_t I_t, wX5 g a_s I_s, wX6 g a_e I_e, wX6 g a_f I_f, wX1 g a_y I_y, wX4 g a_w I_w, wX0 g a_c I_c, wX9 g a_z I_z, wMQ g a_m, wX2 g a_ka I_ka, wX7 g a_ta I_ta, wX5 g a_sa I_sa, wX2 g a_kb I_kb, wX7 g a_tb I_tb, wX5 g a_sb I_sb, wX2 g a_kc I_kc, wX7 g a_tc I_tc, wX5 g a_sc I_sc, wX11 g a_o u24 J_o]) (As := [.int x2, .int x4, .int x6, .int x8, .int x10]) (kX11_feed l g a_o I_o J_o x2 x4 x6 x8 x10 hMo) fx (gUV wsL_law_in u_341 u_342 u_343 u_5 u_344) rfl hdX11_feed ⟨Nat.le_of_ble_eq_true rfl, Nat.le_of_ble_eq_true rfl⟩ hK hP hD hS hA (cI [wX10 g a_p u12 J_p, wX8 g a_d I_d J_d, wX3 g a_r I_r, wX7 g a_q I_q, wX7 g a_t I_t, wX5 g a_s I_s, wX6 g a_e I_e, wX6 g a_f I_f, wX1 g a_y I_y, wX4 g a_w I_w, wX0 g a_c I_c, wX9 g a_z I_z, wMQ g a_m, wX2 g a_ka I_ka, wX7 g a_ta I_ta, wX5 g a_sa I_sa, wX2 g a_kb I_kb, wX7 g a_tb I_tb, wX5 g a_sb I_sb, wX2 g a_kc I_kc, wX7 g a_tc I_tc, wX5 g a_sc I_sc, wX11 g a_o I_o J_o] [22]) (cI [wX10 g a_p u12 J_p, wX8 g a_d I_d J_d, wX3 g a_r I_r, wX7 g a_q I_q, wX7 g a_t I_t, wX5 g a_s I_s, wX6 g a_e I_e, wX6 g a_f I_f, wX1 g a_y I_y, wX4 g a_w I_w, wX0 g a_c I_c, wX9 g a_z I_z, wMQ g a_m, wX2 g a_ka I_ka, wX7 g a_ta I_ta, wX5 g a_sa I_sa, wX2 g a_kb I_kb, wX7 g a_tb I_tb, wX5 g a_sb I_sb, wX2 g a_kc I_kc, wX7 g a_tc I_tc, wX5 g a_sc I_sc, wX11 g a_o I_o J_o] [0, 1, 2, 3, 4, 5, 6, 7, 8, 9, 10, 11, 12, 13, 14, 15, 16, 17, 18, 19, 20, 21]) (cI ([wX10 g a_p u12 J_p, wX8 g a_d I_d J_d, wX3 g a_r I_r, wX7 g a_q I_q, wX7 g a_t I_t, wX5 g a_s I_s, wX6 g a_e I_e, wX6 g a_f I_f, wX1 g a_y I_y, wX4 g a_w I_w, wX0 g a_c I_c, wX9 g a_z I_z, wMQ g a_m, wX2 g a_ka I_ka, wX7 g a_ta I_ta, wX5 g a_sa I_sa, wX2 g a_kb I_kb, wX7 g a_tb I_tb, wX5 g a_sb I_sb, wX2 g a_kc I_kc, wX7 g a_tc I_tc, wX5 g a_sc I_sc] ++ [wX11 g a_o I_o J_o]) [0, 1, 2, 3, 4, 5, 6, 7, 8, 9, 10, 11, 12, 13, 14, 15, 16, 17, 18, 19, 20, 21, 22]) (ci_map [wX10 g a_p u12 J_p, wX8 g a_d I_d J_d, wX3 g a_r I_r, wX7 g a_q I_q, wX7 g a_t I_t, wX5 g a_s I_s, wX6 g a_e I_e, wX6 g a_f I_f, wX1 g a_y I_y, wX4 g a_w I_w, wX0 g a_c I_c, wX9 g a_z I_z, wMQ g a_m, wX2 g a_ka I_ka, wX7 g a_ta I_ta, wX5 g a_sa I_sa, wX2 g a_kb I_kb, wX7 g a_tb I_tb, wX5 g a_sb I_sb, wX2 g a_kc I_kc, wX7 g a_tc I_tc, wX5 g a_sc I_sc, wX11 g a_o I_o J_o] [wX11 g a_o I_o J_o] rfl) (ci_map [wX10 g a_p u12 J_p, wX8 g a_d I_d J_d, wX3 g a_r I_r, wX7 g a_q I_q, wX7 g a_t I_t, wX5 g a_s I_s, wX6 g a_e I_e, wX6 g a_f I_f, wX1 g a_y I_y, wX4 g a_w I_w, wX0 g a_c I_c, wX9 g a_z I_z, wMQ g a_m, wX2 g a_ka I_ka, wX7 g a_ta I_ta, wX5 g a_sa I_sa, wX2 g a_kb I_kb, wX7 g a_tb I_tb, wX5 g a_sb I_sb, wX2 g a_kc I_kc, wX7 g a_tc I_tc, wX5 g a_sc I_sc, wX11 g a_o I_o J_o] [wX10 g a_p u12 J_p, wX8 g a_d I_d J_d, wX3 g a_r I_r, wX7 g a_q I_q, wX7 g a_t I_t, wX5 g a_s I_s, wX6 g a_e I_e, wX6 g a_f I_f, wX1 g a_y I_y, wX4 g a_w I_w, wX0 g a_c I_c, wX9 g a_z I_z, wMQ g a_m, wX2 g a_ka I_ka, wX7 g a_ta I_ta, wX5 g a_sa I_sa, wX2 g a_kb I_kb, wX7 g a_tb I_tb, wX5 g a_sb I_sb, wX2 g a_kc I_kc, wX7 g a_tc I_tc, wX5 g a_sc I_sc] rfl) (ci_nd _ rfl) (ci_nd _ rfl) (ci_dis _ (by decide)) (ci_nd _ rfl) (fun u24 => ci_mapB [wX10 g a_p u12 J_p, wX8 g a_d I_d J_d, wX3 g a_r I_r, wX7 g a_q I_q, wX7 g a_t I_t, wX5 g a_s I_s, wX6 g a_e I_e, wX6 g a_f I_f, wX1 g a_y I_y, wX4 g a_w I_w, wX0 g a_c I_c, wX9 g a_z I_z, wMQ g a_m, wX2 g a_ka I_ka, wX7 g a_ta I_ta, wX5 g a_sa I_sa, wX2 g a_kb I_kb, wX7 g a_tb I_tb, wX5 g a_sb I_sb, wX2 g a_kc I_kc, wX7 g a_tc I_tc, wX5 g a_sc I_sc] [wX11 g a_o I_o J_o] [wX11 g a_o u24 J_o] [wX10 g a_p u12 J_p, wX8 g a_d I_d J_d, wX3 g a_r I_r, wX7 g a_q I_q, wX7 g a_t I_t, wX5 g a_s I_s, wX6 g a_e I_e, wX6 g a_f I_f, wX1 g a_y I_y, wX4 g a_w I_w, wX0 g a_c I_c, wX9 g a_z I_z, wMQ g a_m, wX2 g a_ka I_ka, wX7 g a_ta I_ta, wX5 g a_sa I_sa, wX2 g a_kb I_kb, wX7 g a_tb I_tb, wX5 g a_sb I_sb, wX2 g a_kc I_kc, wX7 g a_tc I_tc, wX5 g a_sc I_sc, wX11 g a_o u24 J_o] rfl rfl) rfl rfl rfl rfl hl.1 (Nat.le_of_ble_eq_true rfl) dL_law_619 ⟨Nat.le_of_ble_eq_true rfl, Nat.le_of_ble_eq_true rfl⟩ (fun r23 u24 H locs p_r23 hP hD hS => ?_)
  have hP : va_P g.1 vwCl (wX10 g a_p u12 J_p ++ (wX8 g a_d I_d J_d ++ (wX3 g a_r I_r ++ (wX7 g a_q I_q ++ (wX7 g a_t I_t ++ (wX5 g a_s I_s ++ (wX6 g a_e I_e ++ (wX6 g a_f I_f ++ (wX1 g a_y I_y ++ (wX4 g a_w I_w ++ (wX0 g a_c I_c ++ (wX9 g a_z I_z ++ (wMQ g a_m ++ (wX2 g a_ka I_ka ++ (wX7 g a_ta I_ta ++ (wX5 g a_sa I_sa ++ (wX2 g a_kb I_kb ++ (wX7 g a_tb I_tb ++ (wX5 g a_sb I_sb ++ (wX2 g a_kc I_kc ++ (wX7 g a_tc I_tc ++ (wX5 g a_sc I_sc ++ wX11 g a_o u24 J_o)))))))))))))))))))))) H := hP
  have hD : va_D (lA s) (wX10 g a_p u12 J_p ++ (wX8 g a_d I_d J_d ++ (wX3 g a_r I_r ++ (wX7 g a_q I_q ++ (wX7 g a_t I_t ++ (wX5 g a_s I_s ++ (wX6 g a_e I_e ++ (wX6 g a_f I_f ++ (wX1 g a_y I_y ++ (wX4 g a_w I_w ++ (wX0 g a_c I_c ++ (wX9 g a_z I_z ++ (wMQ g a_m ++ (wX2 g a_ka I_ka ++ (wX7 g a_ta I_ta ++ (wX5 g a_sa I_sa ++ (wX2 g a_kb I_kb ++ (wX7 g a_tb I_tb ++ (wX5 g a_sb I_sb ++ (wX2 g a_kc I_kc ++ (wX7 g a_tc I_tc ++ (wX5 g a_sc I_sc ++ wX11 g a_o u24 J_o)))))))))))))))))))))) := hD
  refine lv_pop hx hb dL_law_622 rfl ?_
  refine lv_goto (tgt := 1956) hx hb dL_law_623 (by decide) ?_
  exact K a_p u12 J_p a_d I_d J_d a_r I_r a_q I_q a_t I_t a_s I_s a_e I_e a_f I_f a_y I_y a_w I_w a_c I_c a_z I_z a_m a_ka I_ka a_ta I_ta a_sa I_sa a_kb I_kb a_tb I_tb a_sb I_sb a_kc I_kc a_tc I_tc a_sc I_sc a_o u24 J_o hl_p_trays hl_p_reader hl_p_table hl_p_script hl_p_shown hl_p_spare hl_p_layout hl_p_rows hl_p_code hl_p_wear hl_r_table hl_p_marks hl_m_0 hl_m_1 hl_m_2 hl_ka_table hl_ka_script hl_kb_table hl_kb_script hl_kc_table hl_kc_script p_r11.1 hDI hQ hT hSI hE hF hL hR hW hKa hTa hSa hKb hTb hSb hKc hTc hSc (p_r23.1) (hRt.kk ((show KK [5] [9] I_o u24 from (KK.tr (KK.rf I_o) p_r23.2.1 (by decide) (by decide))).row 2 (by decide)) ((show KK [5] [9] I_o u24 from (KK.tr (KK.rf I_o) p_r23.2.1 (by decide) (by decide))).row 3 (by decide)) rfl) ((RP.feed hRp p_r11.2.2.1 p_r23.2.2.1).1) (p_r11.2.1.trans (hRm.trans ((show KK [5] [9] I_o u24 from (KK.tr (KK.rf I_o) p_r23.2.1 (by decide) (by decide))).num 45 (by decide)).symm)) (TPr.feed hRp hPI.1.1 hTP (p_r23.2.2.2.2 : _) rfl p_r11.2.2.1 p_r11.2.2.2 p_r23.2.2.2.1) _ _ hP hD hS ls hl

set_option maxHeartbeats 4000000 in
set_option maxRecDepth 100000 in
theorem lawc8 (l : Launch) (g : gG) (ad av : Nat → Nat) {p : Program} {e : Env} {s : State} {m : MethodId} {below : List Frame} {meth : Method} {c : Code} {b L : Nat} {xs : Nat → Int32} (fx : CallFix p m c cL_law 4 s #[Value.ref b] lw_tbl RL) (hX : va_X b L xs s s.heap) (hbl : b < s.heap.size) (hK : gK g s) (hJ : jF ad av (lA s) s s.heap) (i : Int32) (hi : 0 ≤ i.toInt ∧ i.toInt + 6 ≤ (L : Int) ∧ (L : Int) ≤ 3072) (K : LawC p e s m below meth c l g b i 1956) : LawC p e s m below meth c l g b i 626 := by
  intro a_p I_p J_p a_d I_d J_d a_r I_r a_q I_q a_t I_t a_s I_s a_e I_e a_f I_f a_y I_y a_w I_w a_c I_c a_z I_z a_m a_ka I_ka a_ta I_ta a_sa I_sa a_kb I_kb a_tb I_tb a_sb I_sb a_kc I_kc a_tc I_tc a_sc I_sc a_o I_o J_o hl_p_trays hl_p_reader hl_p_table hl_p_script hl_p_shown hl_p_spare hl_p_layout hl_p_rows hl_p_code hl_p_wear hl_r_table hl_p_marks hl_m_0 hl_m_1 hl_m_2 hl_ka_table hl_ka_script hl_kb_table hl_kb_script hl_kc_table hl_kc_script hPI hDI hQ hT hSI hE hF hL hR hW hKa hTa hSa hKb hTb hSb hKc hTc hSc hMo hRt hRp hRm hTP H locs hP hD hS ls hl
  have hx := fx.1
  have hb := fx.2.1
  have hown := fx.2.2.2.1
  have hts := fx.2.2.2.2
  have hA : ∀ q : Nat, s.heap.size ≤ q → lA s q := fun _ h => h
  have hbA : ¬ lA s b := Nat.not_le.mpr hbl
  have lm1 : (-1 : Int32).toInt = -1 := by decide
  have lm0 : (0 : Int32).toInt = 0 := by decide
  have lm2 : (1 : Int32).toInt = 1 := by decide
  have lq2 : (2 : Int32).toInt = 2 := by decide
  have lq3 : (3 : Int32).toInt = 3 := by decide
  have lq4 : (4 : Int32).toInt = 4 := by decide
  have lq5 : (5 : Int32).toInt = 5 := by decide
  have lq6 : (6 : Int32).toInt = 6 := by decide
  have lq7 : (7 : Int32).toInt = 7 := by decide
  refine lv_aload_n hx hb dL_law_626 rfl (lv_at hl 2 rfl) ?_
  refine lv_aload_n hx hb dL_law_627 rfl (lv_at hl 3 rfl) ?_
  refine lv_iload_n hx hb dL_law_628 rfl (lv_at hl 0 rfl) ?_
  refine lv_iconst (v := 1) hx hb dL_law_629 (by decide) ?_
  refine r_iadd hx hb dL_law_630 rfl (by decide : (1 : Int32).toInt = 1) (fun x1 e_x1 t_x1 => ?_)
  try have t_x1 := t_x1 (by omega)
  have n_631 : vp_in x1 L := t_in (by omega)
  refine va_sld hx hb hX hbl hbA hS n_631 dL_law_631 ?_
  refine q_nm (fun x2 e_x2 => ?_)
  have s_x2 : x2 = xs (i.toInt.toNat + 1) := at_ix e_x2 (by omega)
  refine EffIS.gv (wc := wfl [wX10 g a_p I_p J_p, wX8 g a_d I_d J_d, wX3 g a_r I_r, wX7 g a_q I_q, wX7 g a_t I_t, wX5 g a_s I_s, wX6 g a_e I_e, wX6 g a_f I_f, wX1 g a_y I_y, wX4 g a_w I_w, wX0 g a_c I_c, wX9 g a_z I_z, wMQ g a_m, wX2 g a_ka I_ka, wX7 g a_ta I_ta, wX5 g a_sa I_sa, wX2 g a_kb I_kb, wX7 g a_tb I_tb, wX5 g a_sb I_sb, wX2 g a_kc I_kc, wX7 g a_tc I_tc, wX5 g a_sc I_sc, wX11 g a_o I_o J_o]) (wr := wfl [wX8 g a_d I_d J_d, wX5 g a_s I_s, wX6 g a_e I_e, wX6 g a_f I_f, wX1 g a_y I_y, wX4 g a_w I_w, wX0 g a_c I_c, wX9 g a_z I_z, wMQ g a_m, wX2 g a_ka I_ka, wX7 g a_ta I_ta, wX5 g a_sa I_sa, wX2 g a_kb I_kb, wX7 g a_tb I_tb, wX5 g a_sb I_sb, wX2 g a_kc I_kc, wX7 g a_tc I_tc, wX5 g a_sc I_sc, wX11 g a_o I_o J_o]) (w' := fun u4 => wfl [wX10 g a_p u4.1 J_p, wX8 g a_d I_d J_d, wX3 g a_r u4.2.1, wX7 g a_q u4.2.2.1, wX7 g a_t u4.2.2.2, wX5 g a_s I_s, wX6 g a_e I_e, wX6 g a_f I_f, wX1 g a_y I_y, wX4 g a_w I_w, wX0 g a_c I_c, wX9 g a_z I_z, wMQ g a_m, wX2 g a_ka I_ka, wX7 g a_ta I_ta, wX5 g a_sa I_sa, wX2 g a_kb I_kb, wX7 g a_tb I_tb, wX5 g a_sb I_sb, wX2 g a_kc I_kc, wX7 g a_tc I_tc, wX5 g a_sc I_sc, wX11 g a_o I_o J_o]) (As := [.int x2]) (kX10_press l g ad av a_p I_p J_p a_r I_r a_q I_q a_t I_t x2 hl_p_reader hl_p_table hl_r_table (by omega) (by omega) (by omega)) fx (gUV wsL_law_in u_350 u_351 u_352 u_2 u_353) rfl hdX10_press ⟨Nat.le_of_ble_eq_true rfl, Nat.le_of_ble_eq_true rfl⟩ hJ hK hP hD hS hA (cI [wX10 g a_p I_p J_p, wX8 g a_d I_d J_d, wX3 g a_r I_r, wX7 g a_q I_q, wX7 g a_t I_t, wX5 g a_s I_s, wX6 g a_e I_e, wX6 g a_f I_f, wX1 g a_y I_y, wX4 g a_w I_w, wX0 g a_c I_c, wX9 g a_z I_z, wMQ g a_m, wX2 g a_ka I_ka, wX7 g a_ta I_ta, wX5 g a_sa I_sa, wX2 g a_kb I_kb, wX7 g a_tb I_tb, wX5 g a_sb I_sb, wX2 g a_kc I_kc, wX7 g a_tc I_tc, wX5 g a_sc I_sc, wX11 g a_o I_o J_o] [0, 2, 3, 4]) (cI [wX10 g a_p I_p J_p, wX8 g a_d I_d J_d, wX3 g a_r I_r, wX7 g a_q I_q, wX7 g a_t I_t, wX5 g a_s I_s, wX6 g a_e I_e, wX6 g a_f I_f, wX1 g a_y I_y, wX4 g a_w I_w, wX0 g a_c I_c, wX9 g a_z I_z, wMQ g a_m, wX2 g a_ka I_ka, wX7 g a_ta I_ta, wX5 g a_sa I_sa, wX2 g a_kb I_kb, wX7 g a_tb I_tb, wX5 g a_sb I_sb, wX2 g a_kc I_kc, wX7 g a_tc I_tc, wX5 g a_sc I_sc, wX11 g a_o I_o J_o] [1, 5, 6, 7, 8, 9, 10, 11, 12, 13, 14, 15, 16, 17, 18, 19, 20, 21, 22]) (cI ([wX8 g a_d I_d J_d, wX5 g a_s I_s, wX6 g a_e I_e, wX6 g a_f I_f, wX1 g a_y I_y, wX4 g a_w I_w, wX0 g a_c I_c, wX9 g a_z I_z, wMQ g a_m, wX2 g a_ka I_ka, wX7 g a_ta I_ta, wX5 g a_sa I_sa, wX2 g a_kb I_kb, wX7 g a_tb I_tb, wX5 g a_sb I_sb, wX2 g a_kc I_kc, wX7 g a_tc I_tc, wX5 g a_sc I_sc, wX11 g a_o I_o J_o] ++ [wX10 g a_p I_p J_p, wX3 g a_r I_r, wX7 g a_q I_q, wX7 g a_t I_t]) [19, 0, 20, 21, 22, 1, 2, 3, 4, 5, 6, 7, 8, 9, 10, 11, 12, 13, 14, 15, 16, 17, 18]) (ci_map [wX10 g a_p I_p J_p, wX8 g a_d I_d J_d, wX3 g a_r I_r, wX7 g a_q I_q, wX7 g a_t I_t, wX5 g a_s I_s, wX6 g a_e I_e, wX6 g a_f I_f, wX1 g a_y I_y, wX4 g a_w I_w, wX0 g a_c I_c, wX9 g a_z I_z, wMQ g a_m, wX2 g a_ka I_ka, wX7 g a_ta I_ta, wX5 g a_sa I_sa, wX2 g a_kb I_kb, wX7 g a_tb I_tb, wX5 g a_sb I_sb, wX2 g a_kc I_kc, wX7 g a_tc I_tc, wX5 g a_sc I_sc, wX11 g a_o I_o J_o] [wX10 g a_p I_p J_p, wX3 g a_r I_r, wX7 g a_q I_q, wX7 g a_t I_t] rfl) (ci_map [wX10 g a_p I_p J_p, wX8 g a_d I_d J_d, wX3 g a_r I_r, wX7 g a_q I_q, wX7 g a_t I_t, wX5 g a_s I_s, wX6 g a_e I_e, wX6 g a_f I_f, wX1 g a_y I_y, wX4 g a_w I_w, wX0 g a_c I_c, wX9 g a_z I_z, wMQ g a_m, wX2 g a_ka I_ka, wX7 g a_ta I_ta, wX5 g a_sa I_sa, wX2 g a_kb I_kb, wX7 g a_tb I_tb, wX5 g a_sb I_sb, wX2 g a_kc I_kc, wX7 g a_tc I_tc, wX5 g a_sc I_sc, wX11 g a_o I_o J_o] [wX8 g a_d I_d J_d, wX5 g a_s I_s, wX6 g a_e I_e, wX6 g a_f I_f, wX1 g a_y I_y, wX4 g a_w I_w, wX0 g a_c I_c, wX9 g a_z I_z, wMQ g a_m, wX2 g a_ka I_ka, wX7 g a_ta I_ta, wX5 g a_sa I_sa, wX2 g a_kb I_kb, wX7 g a_tb I_tb, wX5 g a_sb I_sb, wX2 g a_kc I_kc, wX7 g a_tc I_tc, wX5 g a_sc I_sc, wX11 g a_o I_o J_o] rfl) (ci_nd _ rfl) (ci_nd _ rfl) (ci_dis _ (by decide)) (ci_nd _ rfl) (fun u4 => ci_mapB [wX8 g a_d I_d J_d, wX5 g a_s I_s, wX6 g a_e I_e, wX6 g a_f I_f, wX1 g a_y I_y, wX4 g a_w I_w, wX0 g a_c I_c, wX9 g a_z I_z, wMQ g a_m, wX2 g a_ka I_ka, wX7 g a_ta I_ta, wX5 g a_sa I_sa, wX2 g a_kb I_kb, wX7 g a_tb I_tb, wX5 g a_sb I_sb, wX2 g a_kc I_kc, wX7 g a_tc I_tc, wX5 g a_sc I_sc, wX11 g a_o I_o J_o] [wX10 g a_p I_p J_p, wX3 g a_r I_r, wX7 g a_q I_q, wX7 g a_t I_t] [wX10 g a_p u4.1 J_p, wX3 g a_r u4.2.1, wX7 g a_q u4.2.2.1, wX7 g a_t u4.2.2.2] [wX10 g a_p u4.1 J_p, wX8 g a_d I_d J_d, wX3 g a_r u4.2.1, wX7 g a_q u4.2.2.1, wX7 g a_t u4.2.2.2, wX5 g a_s I_s, wX6 g a_e I_e, wX6 g a_f I_f, wX1 g a_y I_y, wX4 g a_w I_w, wX0 g a_c I_c, wX9 g a_z I_z, wMQ g a_m, wX2 g a_ka I_ka, wX7 g a_ta I_ta, wX5 g a_sa I_sa, wX2 g a_kb I_kb, wX7 g a_tb I_tb, wX5 g a_sb I_sb, wX2 g a_kc I_kc, wX7 g a_tc I_tc, wX5 g a_sc I_sc, wX11 g a_o I_o J_o] rfl rfl) rfl rfl rfl rfl hl.1 (Nat.le_of_ble_eq_true rfl) dL_law_632 ⟨Nat.le_of_ble_eq_true rfl, Nat.le_of_ble_eq_true rfl⟩ (fun r3 u4 H locs p_r3 hP hD hS => ?_)
  obtain ⟨I5, I6, I7, I8⟩ := u4
  try dsimp only at p_r3
  have hP : va_P g.1 vwCl (wX10 g a_p I5 J_p ++ (wX8 g a_d I_d J_d ++ (wX3 g a_r I6 ++ (wX7 g a_q I7 ++ (wX7 g a_t I8 ++ (wX5 g a_s I_s ++ (wX6 g a_e I_e ++ (wX6 g a_f I_f ++ (wX1 g a_y I_y ++ (wX4 g a_w I_w ++ (wX0 g a_c I_c ++ (wX9 g a_z I_z ++ (wMQ g a_m ++ (wX2 g a_ka I_ka ++ (wX7 g a_ta I_ta ++ (wX5 g a_sa I_sa ++ (wX2 g a_kb I_kb ++ (wX7 g a_tb I_tb ++ (wX5 g a_sb I_sb ++ (wX2 g a_kc I_kc ++ (wX7 g a_tc I_tc ++ (wX5 g a_sc I_sc ++ wX11 g a_o I_o J_o)))))))))))))))))))))) H := hP
  have hD : va_D (lA s) (wX10 g a_p I5 J_p ++ (wX8 g a_d I_d J_d ++ (wX3 g a_r I6 ++ (wX7 g a_q I7 ++ (wX7 g a_t I8 ++ (wX5 g a_s I_s ++ (wX6 g a_e I_e ++ (wX6 g a_f I_f ++ (wX1 g a_y I_y ++ (wX4 g a_w I_w ++ (wX0 g a_c I_c ++ (wX9 g a_z I_z ++ (wMQ g a_m ++ (wX2 g a_ka I_ka ++ (wX7 g a_ta I_ta ++ (wX5 g a_sa I_sa ++ (wX2 g a_kb I_kb ++ (wX7 g a_tb I_tb ++ (wX5 g a_sb I_sb ++ (wX2 g a_kc I_kc ++ (wX7 g a_tc I_tc ++ (wX5 g a_sc I_sc ++ wX11 g a_o I_o J_o)))))))))))))))))))))) := hD
  refine lv_aload_n hx hb dL_law_635 rfl (lv_at hl 1 rfl) ?_
  refine lv_aload_n hx hb dL_law_636 rfl (lv_at hl 3 rfl) ?_
  refine lv_iload_n hx hb dL_law_637 rfl (lv_at hl 0 rfl) ?_
  refine lv_iconst (v := 1) hx hb dL_law_638 (by decide) ?_
  refine r_iadd hx hb dL_law_639 rfl (by decide : (1 : Int32).toInt = 1) (fun x9 e_x9 t_x9 => ?_)
  try have t_x9 := t_x9 (by omega)
  have n_640 : vp_in x9 L := t_in (by omega)
  refine va_sld hx hb hX hbl hbA hS n_640 dL_law_640 ?_
  have u_640 : xs (x9).toNatClampNeg = xs (i.toInt.toNat + 1) := at_ix rfl (by omega)
  refine q_same (s_x2.trans u_640.symm) ?_
  refine EffIS.gv (wc := wfl [wX10 g a_p I5 J_p, wX8 g a_d I_d J_d, wX3 g a_r I6, wX7 g a_q I7, wX7 g a_t I8, wX5 g a_s I_s, wX6 g a_e I_e, wX6 g a_f I_f, wX1 g a_y I_y, wX4 g a_w I_w, wX0 g a_c I_c, wX9 g a_z I_z, wMQ g a_m, wX2 g a_ka I_ka, wX7 g a_ta I_ta, wX5 g a_sa I_sa, wX2 g a_kb I_kb, wX7 g a_tb I_tb, wX5 g a_sb I_sb, wX2 g a_kc I_kc, wX7 g a_tc I_tc, wX5 g a_sc I_sc, wX11 g a_o I_o J_o]) (wr := wfl [wX10 g a_p I5 J_p, wX8 g a_d I_d J_d, wX3 g a_r I6, wX7 g a_q I7, wX7 g a_t I8, wX5 g a_s I_s, wX6 g a_e I_e, wX6 g a_f I_f, wX1 g a_y I_y, wX4 g a_w I_w, wX0 g a_c I_c, wX9 g a_z I_z, wMQ g a_m, wX2 g a_ka I_ka, wX7 g a_ta I_ta, wX5 g a_sa I_sa, wX2 g a_kb I_kb, wX7 g a_tb I_tb, wX5 g a_sb I_sb, wX2 g a_kc I_kc, wX7 g a_tc I_tc, wX5 g a_sc I_sc]) (w' := fun u12 => wfl [wX10 g a_p I5 J_p, wX8 g a_d I_d J_d, wX3 g a_r I6, wX7 g a_q I7, wX7 g a_t I8, wX5 g a_s I_s, wX6 g a_e I_e, wX6 g a_f I_f, wX1 g a_y I_y, wX4 g a_w I_w, wX0 g a_c I_c, wX9 g a_z I_z, wMQ g a_m, wX2 g a_ka I_ka, wX7 g a_ta I_ta, wX5 g a_sa I_sa, wX2 g a_kb I_kb, wX7 g a_tb I_tb, wX5 g a_sb I_sb, wX2 g a_kc I_kc, wX7 g a_tc I_tc, wX5 g a_sc I_sc, wX11 g a_o u12 J_o]) (As := [.int x2]) (kX11_press l g ad av a_o I_o J_o x2 hMo) fx (gUV wsL_law_in u_501 u_502 u_503 u_5 u_504) rfl hdX11_press ⟨Nat.le_of_ble_eq_true rfl, Nat.le_of_ble_eq_true rfl⟩ hJ hK hP hD hS hA (cI [wX10 g a_p I5 J_p, wX8 g a_d I_d J_d, wX3 g a_r I6, wX7 g a_q I7, wX7 g a_t I8, wX5 g a_s I_s, wX6 g a_e I_e, wX6 g a_f I_f, wX1 g a_y I_y, wX4 g a_w I_w, wX0 g a_c I_c, wX9 g a_z I_z, wMQ g a_m, wX2 g a_ka I_ka, wX7 g a_ta I_ta, wX5 g a_sa I_sa, wX2 g a_kb I_kb, wX7 g a_tb I_tb, wX5 g a_sb I_sb, wX2 g a_kc I_kc, wX7 g a_tc I_tc, wX5 g a_sc I_sc, wX11 g a_o I_o J_o] [22]) (cI [wX10 g a_p I5 J_p, wX8 g a_d I_d J_d, wX3 g a_r I6, wX7 g a_q I7, wX7 g a_t I8, wX5 g a_s I_s, wX6 g a_e I_e, wX6 g a_f I_f, wX1 g a_y I_y, wX4 g a_w I_w, wX0 g a_c I_c, wX9 g a_z I_z, wMQ g a_m, wX2 g a_ka I_ka, wX7 g a_ta I_ta, wX5 g a_sa I_sa, wX2 g a_kb I_kb, wX7 g a_tb I_tb, wX5 g a_sb I_sb, wX2 g a_kc I_kc, wX7 g a_tc I_tc, wX5 g a_sc I_sc, wX11 g a_o I_o J_o] [0, 1, 2, 3, 4, 5, 6, 7, 8, 9, 10, 11, 12, 13, 14, 15, 16, 17, 18, 19, 20, 21]) (cI ([wX10 g a_p I5 J_p, wX8 g a_d I_d J_d, wX3 g a_r I6, wX7 g a_q I7, wX7 g a_t I8, wX5 g a_s I_s, wX6 g a_e I_e, wX6 g a_f I_f, wX1 g a_y I_y, wX4 g a_w I_w, wX0 g a_c I_c, wX9 g a_z I_z, wMQ g a_m, wX2 g a_ka I_ka, wX7 g a_ta I_ta, wX5 g a_sa I_sa, wX2 g a_kb I_kb, wX7 g a_tb I_tb, wX5 g a_sb I_sb, wX2 g a_kc I_kc, wX7 g a_tc I_tc, wX5 g a_sc I_sc] ++ [wX11 g a_o I_o J_o]) [0, 1, 2, 3, 4, 5, 6, 7, 8, 9, 10, 11, 12, 13, 14, 15, 16, 17, 18, 19, 20, 21, 22]) (ci_map [wX10 g a_p I5 J_p, wX8 g a_d I_d J_d, wX3 g a_r I6, wX7 g a_q I7, wX7 g a_t I8, wX5 g a_s I_s, wX6 g a_e I_e, wX6 g a_f I_f, wX1 g a_y I_y, wX4 g a_w I_w, wX0 g a_c I_c, wX9 g a_z I_z, wMQ g a_m, wX2 g a_ka I_ka, wX7 g a_ta I_ta, wX5 g a_sa I_sa, wX2 g a_kb I_kb, wX7 g a_tb I_tb, wX5 g a_sb I_sb, wX2 g a_kc I_kc, wX7 g a_tc I_tc, wX5 g a_sc I_sc, wX11 g a_o I_o J_o] [wX11 g a_o I_o J_o] rfl) (ci_map [wX10 g a_p I5 J_p, wX8 g a_d I_d J_d, wX3 g a_r I6, wX7 g a_q I7, wX7 g a_t I8, wX5 g a_s I_s, wX6 g a_e I_e, wX6 g a_f I_f, wX1 g a_y I_y, wX4 g a_w I_w, wX0 g a_c I_c, wX9 g a_z I_z, wMQ g a_m, wX2 g a_ka I_ka, wX7 g a_ta I_ta, wX5 g a_sa I_sa, wX2 g a_kb I_kb, wX7 g a_tb I_tb, wX5 g a_sb I_sb, wX2 g a_kc I_kc, wX7 g a_tc I_tc, wX5 g a_sc I_sc, wX11 g a_o I_o J_o] [wX10 g a_p I5 J_p, wX8 g a_d I_d J_d, wX3 g a_r I6, wX7 g a_q I7, wX7 g a_t I8, wX5 g a_s I_s, wX6 g a_e I_e, wX6 g a_f I_f, wX1 g a_y I_y, wX4 g a_w I_w, wX0 g a_c I_c, wX9 g a_z I_z, wMQ g a_m, wX2 g a_ka I_ka, wX7 g a_ta I_ta, wX5 g a_sa I_sa, wX2 g a_kb I_kb, wX7 g a_tb I_tb, wX5 g a_sb I_sb, wX2 g a_kc I_kc, wX7 g a_tc I_tc, wX5 g a_sc I_sc] rfl) (ci_nd _ rfl) (ci_nd _ rfl) (ci_dis _ (by decide)) (ci_nd _ rfl) (fun u12 => ci_mapB [wX10 g a_p I5 J_p, wX8 g a_d I_d J_d, wX3 g a_r I6, wX7 g a_q I7, wX7 g a_t I8, wX5 g a_s I_s, wX6 g a_e I_e, wX6 g a_f I_f, wX1 g a_y I_y, wX4 g a_w I_w, wX0 g a_c I_c, wX9 g a_z I_z, wMQ g a_m, wX2 g a_ka I_ka, wX7 g a_ta I_ta, wX5 g a_sa I_sa, wX2 g a_kb I_kb, wX7 g a_tb I_tb, wX5 g a_sb I_sb, wX2 g a_kc I_kc, wX7 g a_tc I_tc, wX5 g a_sc I_sc] [wX11 g a_o I_o J_o] [wX11 g a_o u12 J_o] [wX10 g a_p I5 J_p, wX8 g a_d I_d J_d, wX3 g a_r I6, wX7 g a_q I7, wX7 g a_t I8, wX5 g a_s I_s, wX6 g a_e I_e, wX6 g a_f I_f, wX1 g a_y I_y, wX4 g a_w I_w, wX0 g a_c I_c, wX9 g a_z I_z, wMQ g a_m, wX2 g a_ka I_ka, wX7 g a_ta I_ta, wX5 g a_sa I_sa, wX2 g a_kb I_kb, wX7 g a_tb I_tb, wX5 g a_sb I_sb, wX2 g a_kc I_kc, wX7 g a_tc I_tc, wX5 g a_sc I_sc, wX11 g a_o u12 J_o] rfl rfl) rfl rfl rfl rfl hl.1 (Nat.le_of_ble_eq_true rfl) dL_law_641 ⟨Nat.le_of_ble_eq_true rfl, Nat.le_of_ble_eq_true rfl⟩ (fun r11 u12 H locs p_r11 hP hD hS => ?_)
  have hP : va_P g.1 vwCl (wX10 g a_p I5 J_p ++ (wX8 g a_d I_d J_d ++ (wX3 g a_r I6 ++ (wX7 g a_q I7 ++ (wX7 g a_t I8 ++ (wX5 g a_s I_s ++ (wX6 g a_e I_e ++ (wX6 g a_f I_f ++ (wX1 g a_y I_y ++ (wX4 g a_w I_w ++ (wX0 g a_c I_c ++ (wX9 g a_z I_z ++ (wMQ g a_m ++ (wX2 g a_ka I_ka ++ (wX7 g a_ta I_ta ++ (wX5 g a_sa I_sa ++ (wX2 g a_kb I_kb ++ (wX7 g a_tb I_tb ++ (wX5 g a_sb I_sb ++ (wX2 g a_kc I_kc ++ (wX7 g a_tc I_tc ++ (wX5 g a_sc I_sc ++ wX11 g a_o u12 J_o)))))))))))))))))))))) H := hP
  have hD : va_D (lA s) (wX10 g a_p I5 J_p ++ (wX8 g a_d I_d J_d ++ (wX3 g a_r I6 ++ (wX7 g a_q I7 ++ (wX7 g a_t I8 ++ (wX5 g a_s I_s ++ (wX6 g a_e I_e ++ (wX6 g a_f I_f ++ (wX1 g a_y I_y ++ (wX4 g a_w I_w ++ (wX0 g a_c I_c ++ (wX9 g a_z I_z ++ (wMQ g a_m ++ (wX2 g a_ka I_ka ++ (wX7 g a_ta I_ta ++ (wX5 g a_sa I_sa ++ (wX2 g a_kb I_kb ++ (wX7 g a_tb I_tb ++ (wX5 g a_sb I_sb ++ (wX2 g a_kc I_kc ++ (wX7 g a_tc I_tc ++ (wX5 g a_sc I_sc ++ wX11 g a_o u12 J_o)))))))))))))))))))))) := hD
  refine q_icmp_eq (tgt := 1956) hx hb dL_law_644 (by decide) rfl rfl (fun k_644 => ?_) (fun k_644 => ?_)
  · exact K a_p I5 J_p a_d I_d J_d a_r I6 a_q I7 a_t I8 a_s I_s a_e I_e a_f I_f a_y I_y a_w I_w a_c I_c a_z I_z a_m a_ka I_ka a_ta I_ta a_sa I_sa a_kb I_kb a_tb I_tb a_sb I_sb a_kc I_kc a_tc I_tc a_sc I_sc a_o u12 J_o hl_p_trays hl_p_reader hl_p_table hl_p_script hl_p_shown hl_p_spare hl_p_layout hl_p_rows hl_p_code hl_p_wear hl_r_table hl_p_marks hl_m_0 hl_m_1 hl_m_2 hl_ka_table hl_ka_script hl_kb_table hl_kb_script hl_kc_table hl_kc_script (p_r3.1) hDI (p_r3.2.1) (p_r3.2.2.1) hSI hE hF hL hR hW hKa hTa hSa hKb hTb hSb hKc hTc hSc (p_r11.1) (hRt.kk ((show KK [1, 6] [1, 9, 10, 11, 12, 13, 14, 15, 16, 17, 18, 19] I_o u12 from (KK.tr (KK.rf I_o) p_r11.2.1 (by decide) (by decide))).row 2 (by decide)) ((show KK [1, 6] [1, 9, 10, 11, 12, 13, 14, 15, 16, 17, 18, 19] I_o u12 from (KK.tr (KK.rf I_o) p_r11.2.1 (by decide) (by decide))).row 3 (by decide)) rfl) (RP.cut hRp (by rw [hRp]) p_r3.2.2.2.1 p_r11.2.2.1) (p_r3.2.2.2.2.1.trans (hRm.trans ((show KK [1, 6] [1, 9, 10, 11, 12, 13, 14, 15, 16, 17, 18, 19] I_o u12 from (KK.tr (KK.rf I_o) p_r11.2.1 (by decide) (by decide))).num 45 (by decide)).symm)) (TPr.cut hTP ((show KK [1, 6] [1, 9, 10, 11, 12, 13, 14, 15, 16, 17, 18, 19] I_o u12 from (KK.tr (KK.rf I_o) p_r11.2.1 (by decide) (by decide))).row 5 (by decide)) p_r3.2.2.2.1 (fun q => (p_r3.2.2.2.2.2.2 q).2.2.2.2)) _ _ hP hD hS ls hl
  · exfalso
    exact k_644 (congrArg Int32.toInt (PR.press hRp hTP p_r3.2.2.1 p_r11.1 p_r3.2.2.2.2.2.1 (fun q => (p_r3.2.2.2.2.2.2 q).1) p_r11.2.2.2.1 (fun q => (p_r11.2.2.2.2 q).1)))

set_option maxHeartbeats 4000000 in
set_option maxRecDepth 100000 in
theorem lawc9 (l : Launch) (g : gG) (ad av : Nat → Nat) {p : Program} {e : Env} {s : State} {m : MethodId} {below : List Frame} {meth : Method} {c : Code} {b L : Nat} {xs : Nat → Int32} (fx : CallFix p m c cL_law 4 s #[Value.ref b] lw_tbl RL) (hX : va_X b L xs s s.heap) (hbl : b < s.heap.size) (hK : gK g s) (hJ : jF ad av (lA s) s s.heap) (i : Int32) (hi : 0 ≤ i.toInt ∧ i.toInt + 6 ≤ (L : Int) ∧ (L : Int) ≤ 3072) (K : LawC p e s m below meth c l g b i 1956) : LawC p e s m below meth c l g b i 649 := by
  intro a_p I_p J_p a_d I_d J_d a_r I_r a_q I_q a_t I_t a_s I_s a_e I_e a_f I_f a_y I_y a_w I_w a_c I_c a_z I_z a_m a_ka I_ka a_ta I_ta a_sa I_sa a_kb I_kb a_tb I_tb a_sb I_sb a_kc I_kc a_tc I_tc a_sc I_sc a_o I_o J_o hl_p_trays hl_p_reader hl_p_table hl_p_script hl_p_shown hl_p_spare hl_p_layout hl_p_rows hl_p_code hl_p_wear hl_r_table hl_p_marks hl_m_0 hl_m_1 hl_m_2 hl_ka_table hl_ka_script hl_kb_table hl_kb_script hl_kc_table hl_kc_script hPI hDI hQ hT hSI hE hF hL hR hW hKa hTa hSa hKb hTb hSb hKc hTc hSc hMo hRt hRp hRm hTP H locs hP hD hS ls hl
  have hx := fx.1
  have hb := fx.2.1
  have hown := fx.2.2.2.1
  have hts := fx.2.2.2.2
  have hA : ∀ q : Nat, s.heap.size ≤ q → lA s q := fun _ h => h
  have hbA : ¬ lA s b := Nat.not_le.mpr hbl
  have lm1 : (-1 : Int32).toInt = -1 := by decide
  have lm0 : (0 : Int32).toInt = 0 := by decide
  have lm2 : (1 : Int32).toInt = 1 := by decide
  have lq2 : (2 : Int32).toInt = 2 := by decide
  have lq3 : (3 : Int32).toInt = 3 := by decide
  have lq4 : (4 : Int32).toInt = 4 := by decide
  have lq5 : (5 : Int32).toInt = 5 := by decide
  have lq6 : (6 : Int32).toInt = 6 := by decide
  have lq7 : (7 : Int32).toInt = 7 := by decide
  refine lv_aload_n hx hb dL_law_649 rfl (lv_at hl 2 rfl) ?_
  refine lv_aload_n hx hb dL_law_650 rfl (lv_at hl 3 rfl) ?_
  refine lv_iload_n hx hb dL_law_651 rfl (lv_at hl 0 rfl) ?_
  refine lv_iconst (v := 1) hx hb dL_law_652 (by decide) ?_
  refine r_iadd hx hb dL_law_653 rfl (by decide : (1 : Int32).toInt = 1) (fun x1 e_x1 t_x1 => ?_)
  try have t_x1 := t_x1 (by omega)
  have n_654 : vp_in x1 L := t_in (by omega)
  refine va_sld hx hb hX hbl hbA hS n_654 dL_law_654 ?_
  refine q_nm (fun x2 e_x2 => ?_)
  have s_x2 : x2 = xs (i.toInt.toNat + 1) := at_ix e_x2 (by omega)
  refine EffI.gv (wc := wfl [wX10 g a_p I_p J_p, wX8 g a_d I_d J_d, wX3 g a_r I_r, wX7 g a_q I_q, wX7 g a_t I_t, wX5 g a_s I_s, wX6 g a_e I_e, wX6 g a_f I_f, wX1 g a_y I_y, wX4 g a_w I_w, wX0 g a_c I_c, wX9 g a_z I_z, wMQ g a_m, wX2 g a_ka I_ka, wX7 g a_ta I_ta, wX5 g a_sa I_sa, wX2 g a_kb I_kb, wX7 g a_tb I_tb, wX5 g a_sb I_sb, wX2 g a_kc I_kc, wX7 g a_tc I_tc, wX5 g a_sc I_sc, wX11 g a_o I_o J_o]) (wr := wfl [wX8 g a_d I_d J_d, wX3 g a_r I_r, wX7 g a_q I_q, wX4 g a_w I_w, wX0 g a_c I_c, wX9 g a_z I_z, wMQ g a_m, wX2 g a_ka I_ka, wX7 g a_ta I_ta, wX5 g a_sa I_sa, wX2 g a_kb I_kb, wX7 g a_tb I_tb, wX5 g a_sb I_sb, wX2 g a_kc I_kc, wX7 g a_tc I_tc, wX5 g a_sc I_sc, wX11 g a_o I_o J_o]) (w' := fun u4 => wfl [wX10 g u4.2.2.2.2.2.1 u4.1 J_p, wX8 g a_d I_d J_d, wX3 g a_r I_r, wX7 g a_q I_q, wX7 g a_t I_t, wX5 g a_s u4.2.1, wX6 g u4.2.2.2.2.2.2.1 u4.2.2.1, wX6 g u4.2.2.2.2.2.2.2 u4.2.2.2.1, wX1 g a_y u4.2.2.2.2.1, wX4 g a_w I_w, wX0 g a_c I_c, wX9 g a_z I_z, wMQ g a_m, wX2 g a_ka I_ka, wX7 g a_ta I_ta, wX5 g a_sa I_sa, wX2 g a_kb I_kb, wX7 g a_tb I_tb, wX5 g a_sb I_sb, wX2 g a_kc I_kc, wX7 g a_tc I_tc, wX5 g a_sc I_sc, wX11 g a_o I_o J_o]) (As := [.int x2]) (kX10_writing l g a_p I_p J_p a_t I_t a_s I_s a_e I_e a_f I_f a_y I_y x2 hl_p_table hl_p_script hl_p_shown hl_p_spare hl_p_layout (by omega) (by omega) (by omega) (by omega) (by omega) (by omega)) fx (gUV wsL_law_in u_589 u_590 u_591 u_2 u_592) rfl hdX10_writing ⟨Nat.le_of_ble_eq_true rfl, Nat.le_of_ble_eq_true rfl⟩ hK hP hD hS hA (cI [wX10 g a_p I_p J_p, wX8 g a_d I_d J_d, wX3 g a_r I_r, wX7 g a_q I_q, wX7 g a_t I_t, wX5 g a_s I_s, wX6 g a_e I_e, wX6 g a_f I_f, wX1 g a_y I_y, wX4 g a_w I_w, wX0 g a_c I_c, wX9 g a_z I_z, wMQ g a_m, wX2 g a_ka I_ka, wX7 g a_ta I_ta, wX5 g a_sa I_sa, wX2 g a_kb I_kb, wX7 g a_tb I_tb, wX5 g a_sb I_sb, wX2 g a_kc I_kc, wX7 g a_tc I_tc, wX5 g a_sc I_sc, wX11 g a_o I_o J_o] [0, 4, 5, 6, 7, 8]) (cI [wX10 g a_p I_p J_p, wX8 g a_d I_d J_d, wX3 g a_r I_r, wX7 g a_q I_q, wX7 g a_t I_t, wX5 g a_s I_s, wX6 g a_e I_e, wX6 g a_f I_f, wX1 g a_y I_y, wX4 g a_w I_w, wX0 g a_c I_c, wX9 g a_z I_z, wMQ g a_m, wX2 g a_ka I_ka, wX7 g a_ta I_ta, wX5 g a_sa I_sa, wX2 g a_kb I_kb, wX7 g a_tb I_tb, wX5 g a_sb I_sb, wX2 g a_kc I_kc, wX7 g a_tc I_tc, wX5 g a_sc I_sc, wX11 g a_o I_o J_o] [1, 2, 3, 9, 10, 11, 12, 13, 14, 15, 16, 17, 18, 19, 20, 21, 22]) (cI ([wX8 g a_d I_d J_d, wX3 g a_r I_r, wX7 g a_q I_q, wX4 g a_w I_w, wX0 g a_c I_c, wX9 g a_z I_z, wMQ g a_m, wX2 g a_ka I_ka, wX7 g a_ta I_ta, wX5 g a_sa I_sa, wX2 g a_kb I_kb, wX7 g a_tb I_tb, wX5 g a_sb I_sb, wX2 g a_kc I_kc, wX7 g a_tc I_tc, wX5 g a_sc I_sc, wX11 g a_o I_o J_o] ++ [wX10 g a_p I_p J_p, wX7 g a_t I_t, wX5 g a_s I_s, wX6 g a_e I_e, wX6 g a_f I_f, wX1 g a_y I_y]) [17, 0, 1, 2, 18, 19, 20, 21, 22, 3, 4, 5, 6, 7, 8, 9, 10, 11, 12, 13, 14, 15, 16]) (ci_map [wX10 g a_p I_p J_p, wX8 g a_d I_d J_d, wX3 g a_r I_r, wX7 g a_q I_q, wX7 g a_t I_t, wX5 g a_s I_s, wX6 g a_e I_e, wX6 g a_f I_f, wX1 g a_y I_y, wX4 g a_w I_w, wX0 g a_c I_c, wX9 g a_z I_z, wMQ g a_m, wX2 g a_ka I_ka, wX7 g a_ta I_ta, wX5 g a_sa I_sa, wX2 g a_kb I_kb, wX7 g a_tb I_tb, wX5 g a_sb I_sb, wX2 g a_kc I_kc, wX7 g a_tc I_tc, wX5 g a_sc I_sc, wX11 g a_o I_o J_o] [wX10 g a_p I_p J_p, wX7 g a_t I_t, wX5 g a_s I_s, wX6 g a_e I_e, wX6 g a_f I_f, wX1 g a_y I_y] rfl) (ci_map [wX10 g a_p I_p J_p, wX8 g a_d I_d J_d, wX3 g a_r I_r, wX7 g a_q I_q, wX7 g a_t I_t, wX5 g a_s I_s, wX6 g a_e I_e, wX6 g a_f I_f, wX1 g a_y I_y, wX4 g a_w I_w, wX0 g a_c I_c, wX9 g a_z I_z, wMQ g a_m, wX2 g a_ka I_ka, wX7 g a_ta I_ta, wX5 g a_sa I_sa, wX2 g a_kb I_kb, wX7 g a_tb I_tb, wX5 g a_sb I_sb, wX2 g a_kc I_kc, wX7 g a_tc I_tc, wX5 g a_sc I_sc, wX11 g a_o I_o J_o] [wX8 g a_d I_d J_d, wX3 g a_r I_r, wX7 g a_q I_q, wX4 g a_w I_w, wX0 g a_c I_c, wX9 g a_z I_z, wMQ g a_m, wX2 g a_ka I_ka, wX7 g a_ta I_ta, wX5 g a_sa I_sa, wX2 g a_kb I_kb, wX7 g a_tb I_tb, wX5 g a_sb I_sb, wX2 g a_kc I_kc, wX7 g a_tc I_tc, wX5 g a_sc I_sc, wX11 g a_o I_o J_o] rfl) (ci_nd _ rfl) (ci_nd _ rfl) (ci_dis _ (by decide)) (ci_nd _ rfl) (fun u4 => ci_mapB [wX8 g a_d I_d J_d, wX3 g a_r I_r, wX7 g a_q I_q, wX4 g a_w I_w, wX0 g a_c I_c, wX9 g a_z I_z, wMQ g a_m, wX2 g a_ka I_ka, wX7 g a_ta I_ta, wX5 g a_sa I_sa, wX2 g a_kb I_kb, wX7 g a_tb I_tb, wX5 g a_sb I_sb, wX2 g a_kc I_kc, wX7 g a_tc I_tc, wX5 g a_sc I_sc, wX11 g a_o I_o J_o] [wX10 g a_p I_p J_p, wX7 g a_t I_t, wX5 g a_s I_s, wX6 g a_e I_e, wX6 g a_f I_f, wX1 g a_y I_y] [wX10 g u4.2.2.2.2.2.1 u4.1 J_p, wX7 g a_t I_t, wX5 g a_s u4.2.1, wX6 g u4.2.2.2.2.2.2.1 u4.2.2.1, wX6 g u4.2.2.2.2.2.2.2 u4.2.2.2.1, wX1 g a_y u4.2.2.2.2.1] [wX10 g u4.2.2.2.2.2.1 u4.1 J_p, wX8 g a_d I_d J_d, wX3 g a_r I_r, wX7 g a_q I_q, wX7 g a_t I_t, wX5 g a_s u4.2.1, wX6 g u4.2.2.2.2.2.2.1 u4.2.2.1, wX6 g u4.2.2.2.2.2.2.2 u4.2.2.2.1, wX1 g a_y u4.2.2.2.2.1, wX4 g a_w I_w, wX0 g a_c I_c, wX9 g a_z I_z, wMQ g a_m, wX2 g a_ka I_ka, wX7 g a_ta I_ta, wX5 g a_sa I_sa, wX2 g a_kb I_kb, wX7 g a_tb I_tb, wX5 g a_sb I_sb, wX2 g a_kc I_kc, wX7 g a_tc I_tc, wX5 g a_sc I_sc, wX11 g a_o I_o J_o] rfl rfl) rfl rfl rfl rfl hl.1 (Nat.le_of_ble_eq_true rfl) dL_law_655 ⟨Nat.le_of_ble_eq_true rfl, Nat.le_of_ble_eq_true rfl⟩ (fun r3 u4 H locs p_r3 hP hD hS => ?_)
  obtain ⟨I5, I6, I7, I8, I9, I10, I11, I12⟩ := u4
  try dsimp only at p_r3
  have hP : va_P g.1 vwCl (wX10 g I10 I5 J_p ++ (wX8 g a_d I_d J_d ++ (wX3 g a_r I_r ++ (wX7 g a_q I_q ++ (wX7 g a_t I_t ++ (wX5 g a_s I6 ++ (wX6 g I11 I7 ++ (wX6 g I12 I8 ++ (wX1 g a_y I9 ++ (wX4 g a_w I_w ++ (wX0 g a_c I_c ++ (wX9 g a_z I_z ++ (wMQ g a_m ++ (wX2 g a_ka I_ka ++ (wX7 g a_ta I_ta ++ (wX5 g a_sa I_sa ++ (wX2 g a_kb I_kb ++ (wX7 g a_tb I_tb ++ (wX5 g a_sb I_sb ++ (wX2 g a_kc I_kc ++ (wX7 g a_tc I_tc ++ (wX5 g a_sc I_sc ++ wX11 g a_o I_o J_o)))))))))))))))))))))) H := hP
  have hD : va_D (lA s) (wX10 g I10 I5 J_p ++ (wX8 g a_d I_d J_d ++ (wX3 g a_r I_r ++ (wX7 g a_q I_q ++ (wX7 g a_t I_t ++ (wX5 g a_s I6 ++ (wX6 g I11 I7 ++ (wX6 g I12 I8 ++ (wX1 g a_y I9 ++ (wX4 g a_w I_w ++ (wX0 g a_c I_c ++ (wX9 g a_z I_z ++ (wMQ g a_m ++ (wX2 g a_ka I_ka ++ (wX7 g a_ta I_ta ++ (wX5 g a_sa I_sa ++ (wX2 g a_kb I_kb ++ (wX7 g a_tb I_tb ++ (wX5 g a_sb I_sb ++ (wX2 g a_kc I_kc ++ (wX7 g a_tc I_tc ++ (wX5 g a_sc I_sc ++ wX11 g a_o I_o J_o)))))))))))))))))))))) := hD
  have hm_p_trays : I10 107 = a_d 0 := by rcases p_r3.2.2.2.2.2.1 with ⟨h1, h2, h3⟩ | ⟨h1, h2, h3⟩ <;> (try rw [h2]) <;> (try rw [h3]) <;> rw [h1] <;> first | exact hl_p_trays | rfl
  have hm_p_reader : I10 108 = a_r 0 := by rcases p_r3.2.2.2.2.2.1 with ⟨h1, h2, h3⟩ | ⟨h1, h2, h3⟩ <;> (try rw [h2]) <;> (try rw [h3]) <;> rw [h1] <;> first | exact hl_p_reader | rfl
  have hm_p_table : I10 109 = a_t 0 := by rcases p_r3.2.2.2.2.2.1 with ⟨h1, h2, h3⟩ | ⟨h1, h2, h3⟩ <;> (try rw [h2]) <;> (try rw [h3]) <;> rw [h1] <;> first | exact hl_p_table | rfl
  have hm_p_script : I10 110 = a_s 0 := by rcases p_r3.2.2.2.2.2.1 with ⟨h1, h2, h3⟩ | ⟨h1, h2, h3⟩ <;> (try rw [h2]) <;> (try rw [h3]) <;> rw [h1] <;> first | exact hl_p_script | rfl
  have hm_p_shown : I10 112 = I11 0 := by rcases p_r3.2.2.2.2.2.1 with ⟨h1, h2, h3⟩ | ⟨h1, h2, h3⟩ <;> (try rw [h2]) <;> (try rw [h3]) <;> rw [h1] <;> first | exact hl_p_shown | rfl
  have hm_p_spare : I10 113 = I12 0 := by rcases p_r3.2.2.2.2.2.1 with ⟨h1, h2, h3⟩ | ⟨h1, h2, h3⟩ <;> (try rw [h2]) <;> (try rw [h3]) <;> rw [h1] <;> first | exact hl_p_spare | rfl
  have hm_p_layout : I10 114 = a_y 0 := by rcases p_r3.2.2.2.2.2.1 with ⟨h1, h2, h3⟩ | ⟨h1, h2, h3⟩ <;> (try rw [h2]) <;> (try rw [h3]) <;> rw [h1] <;> first | exact hl_p_layout | rfl
  have hm_p_rows : I10 115 = a_w 0 := by rcases p_r3.2.2.2.2.2.1 with ⟨h1, h2, h3⟩ | ⟨h1, h2, h3⟩ <;> (try rw [h2]) <;> (try rw [h3]) <;> rw [h1] <;> first | exact hl_p_rows | rfl
  have hm_p_code : I10 116 = a_c 0 := by rcases p_r3.2.2.2.2.2.1 with ⟨h1, h2, h3⟩ | ⟨h1, h2, h3⟩ <;> (try rw [h2]) <;> (try rw [h3]) <;> rw [h1] <;> first | exact hl_p_code | rfl
  have hm_p_wear : I10 117 = a_z 0 := by rcases p_r3.2.2.2.2.2.1 with ⟨h1, h2, h3⟩ | ⟨h1, h2, h3⟩ <;> (try rw [h2]) <;> (try rw [h3]) <;> rw [h1] <;> first | exact hl_p_wear | rfl
  have hm_p_marks : I10 118 = a_m 0 := by rcases p_r3.2.2.2.2.2.1 with ⟨h1, h2, h3⟩ | ⟨h1, h2, h3⟩ <;> (try rw [h2]) <;> (try rw [h3]) <;> rw [h1] <;> first | exact hl_p_marks | rfl
  have hp0 : I10 0 = a_p 0 := by rcases p_r3.2.2.2.2.2.1 with ⟨h1, h2, h3⟩ | ⟨h1, h2, h3⟩ <;> rw [h1] <;> rfl
  refine lv_pop hx hb dL_law_658 rfl ?_
  refine lv_aload_n hx hb dL_law_659 rfl (lv_at hl 1 rfl) ?_
  refine lv_aload_n hx hb dL_law_660 rfl (lv_at hl 3 rfl) ?_
  refine lv_iload_n hx hb dL_law_661 rfl (lv_at hl 0 rfl) ?_
  refine lv_iconst (v := 1) hx hb dL_law_662 (by decide) ?_
  refine r_iadd hx hb dL_law_663 rfl (by decide : (1 : Int32).toInt = 1) (fun x13 e_x13 t_x13 => ?_)
  try have t_x13 := t_x13 (by omega)
  have n_664 : vp_in x13 L := t_in (by omega)
  refine va_sld hx hb hX hbl hbA hS n_664 dL_law_664 ?_
  have u_664 : xs (x13).toNatClampNeg = xs (i.toInt.toNat + 1) := at_ix rfl (by omega)
  refine q_same (s_x2.trans u_664.symm) ?_
  refine EffI.gv (wc := wfl [wX10 g I10 I5 J_p, wX8 g a_d I_d J_d, wX3 g a_r I_r, wX7 g a_q I_q, wX7 g a_t I_t, wX5 g a_s I6, wX6 g I11 I7, wX6 g I12 I8, wX1 g a_y I9, wX4 g a_w I_w, wX0 g a_c I_c, wX9 g a_z I_z, wMQ g a_m, wX2 g a_ka I_ka, wX7 g a_ta I_ta, wX5 g a_sa I_sa, wX2 g a_kb I_kb, wX7 g a_tb I_tb, wX5 g a_sb I_sb, wX2 g a_kc I_kc, wX7 g a_tc I_tc, wX5 g a_sc I_sc, wX11 g a_o I_o J_o]) (wr := wfl [wX10 g I10 I5 J_p, wX8 g a_d I_d J_d, wX3 g a_r I_r, wX7 g a_q I_q, wX7 g a_t I_t, wX5 g a_s I6, wX6 g I11 I7, wX6 g I12 I8, wX1 g a_y I9, wX4 g a_w I_w, wX0 g a_c I_c, wX9 g a_z I_z, wMQ g a_m, wX2 g a_ka I_ka, wX7 g a_ta I_ta, wX5 g a_sa I_sa, wX2 g a_kb I_kb, wX7 g a_tb I_tb, wX5 g a_sb I_sb, wX2 g a_kc I_kc, wX7 g a_tc I_tc, wX5 g a_sc I_sc]) (w' := fun u16 => wfl [wX10 g I10 I5 J_p, wX8 g a_d I_d J_d, wX3 g a_r I_r, wX7 g a_q I_q, wX7 g a_t I_t, wX5 g a_s I6, wX6 g I11 I7, wX6 g I12 I8, wX1 g a_y I9, wX4 g a_w I_w, wX0 g a_c I_c, wX9 g a_z I_z, wMQ g a_m, wX2 g a_ka I_ka, wX7 g a_ta I_ta, wX5 g a_sa I_sa, wX2 g a_kb I_kb, wX7 g a_tb I_tb, wX5 g a_sb I_sb, wX2 g a_kc I_kc, wX7 g a_tc I_tc, wX5 g a_sc I_sc, wX11 g a_o u16 J_o]) (As := [.int x2]) (kX11_writing l g a_o I_o J_o x2 hMo) fx (gUV wsL_law_in u_694 u_695 u_696 u_5 u_697) rfl hdX11_writing ⟨Nat.le_of_ble_eq_true rfl, Nat.le_of_ble_eq_true rfl⟩ hK hP hD hS hA (cI [wX10 g I10 I5 J_p, wX8 g a_d I_d J_d, wX3 g a_r I_r, wX7 g a_q I_q, wX7 g a_t I_t, wX5 g a_s I6, wX6 g I11 I7, wX6 g I12 I8, wX1 g a_y I9, wX4 g a_w I_w, wX0 g a_c I_c, wX9 g a_z I_z, wMQ g a_m, wX2 g a_ka I_ka, wX7 g a_ta I_ta, wX5 g a_sa I_sa, wX2 g a_kb I_kb, wX7 g a_tb I_tb, wX5 g a_sb I_sb, wX2 g a_kc I_kc, wX7 g a_tc I_tc, wX5 g a_sc I_sc, wX11 g a_o I_o J_o] [22]) (cI [wX10 g I10 I5 J_p, wX8 g a_d I_d J_d, wX3 g a_r I_r, wX7 g a_q I_q, wX7 g a_t I_t, wX5 g a_s I6, wX6 g I11 I7, wX6 g I12 I8, wX1 g a_y I9, wX4 g a_w I_w, wX0 g a_c I_c, wX9 g a_z I_z, wMQ g a_m, wX2 g a_ka I_ka, wX7 g a_ta I_ta, wX5 g a_sa I_sa, wX2 g a_kb I_kb, wX7 g a_tb I_tb, wX5 g a_sb I_sb, wX2 g a_kc I_kc, wX7 g a_tc I_tc, wX5 g a_sc I_sc, wX11 g a_o I_o J_o] [0, 1, 2, 3, 4, 5, 6, 7, 8, 9, 10, 11, 12, 13, 14, 15, 16, 17, 18, 19, 20, 21]) (cI ([wX10 g I10 I5 J_p, wX8 g a_d I_d J_d, wX3 g a_r I_r, wX7 g a_q I_q, wX7 g a_t I_t, wX5 g a_s I6, wX6 g I11 I7, wX6 g I12 I8, wX1 g a_y I9, wX4 g a_w I_w, wX0 g a_c I_c, wX9 g a_z I_z, wMQ g a_m, wX2 g a_ka I_ka, wX7 g a_ta I_ta, wX5 g a_sa I_sa, wX2 g a_kb I_kb, wX7 g a_tb I_tb, wX5 g a_sb I_sb, wX2 g a_kc I_kc, wX7 g a_tc I_tc, wX5 g a_sc I_sc] ++ [wX11 g a_o I_o J_o]) [0, 1, 2, 3, 4, 5, 6, 7, 8, 9, 10, 11, 12, 13, 14, 15, 16, 17, 18, 19, 20, 21, 22]) (ci_map [wX10 g I10 I5 J_p, wX8 g a_d I_d J_d, wX3 g a_r I_r, wX7 g a_q I_q, wX7 g a_t I_t, wX5 g a_s I6, wX6 g I11 I7, wX6 g I12 I8, wX1 g a_y I9, wX4 g a_w I_w, wX0 g a_c I_c, wX9 g a_z I_z, wMQ g a_m, wX2 g a_ka I_ka, wX7 g a_ta I_ta, wX5 g a_sa I_sa, wX2 g a_kb I_kb, wX7 g a_tb I_tb, wX5 g a_sb I_sb, wX2 g a_kc I_kc, wX7 g a_tc I_tc, wX5 g a_sc I_sc, wX11 g a_o I_o J_o] [wX11 g a_o I_o J_o] rfl) (ci_map [wX10 g I10 I5 J_p, wX8 g a_d I_d J_d, wX3 g a_r I_r, wX7 g a_q I_q, wX7 g a_t I_t, wX5 g a_s I6, wX6 g I11 I7, wX6 g I12 I8, wX1 g a_y I9, wX4 g a_w I_w, wX0 g a_c I_c, wX9 g a_z I_z, wMQ g a_m, wX2 g a_ka I_ka, wX7 g a_ta I_ta, wX5 g a_sa I_sa, wX2 g a_kb I_kb, wX7 g a_tb I_tb, wX5 g a_sb I_sb, wX2 g a_kc I_kc, wX7 g a_tc I_tc, wX5 g a_sc I_sc, wX11 g a_o I_o J_o] [wX10 g I10 I5 J_p, wX8 g a_d I_d J_d, wX3 g a_r I_r, wX7 g a_q I_q, wX7 g a_t I_t, wX5 g a_s I6, wX6 g I11 I7, wX6 g I12 I8, wX1 g a_y I9, wX4 g a_w I_w, wX0 g a_c I_c, wX9 g a_z I_z, wMQ g a_m, wX2 g a_ka I_ka, wX7 g a_ta I_ta, wX5 g a_sa I_sa, wX2 g a_kb I_kb, wX7 g a_tb I_tb, wX5 g a_sb I_sb, wX2 g a_kc I_kc, wX7 g a_tc I_tc, wX5 g a_sc I_sc] rfl) (ci_nd _ rfl) (ci_nd _ rfl) (ci_dis _ (by decide)) (ci_nd _ rfl) (fun u16 => ci_mapB [wX10 g I10 I5 J_p, wX8 g a_d I_d J_d, wX3 g a_r I_r, wX7 g a_q I_q, wX7 g a_t I_t, wX5 g a_s I6, wX6 g I11 I7, wX6 g I12 I8, wX1 g a_y I9, wX4 g a_w I_w, wX0 g a_c I_c, wX9 g a_z I_z, wMQ g a_m, wX2 g a_ka I_ka, wX7 g a_ta I_ta, wX5 g a_sa I_sa, wX2 g a_kb I_kb, wX7 g a_tb I_tb, wX5 g a_sb I_sb, wX2 g a_kc I_kc, wX7 g a_tc I_tc, wX5 g a_sc I_sc] [wX11 g a_o I_o J_o] [wX11 g a_o u16 J_o] [wX10 g I10 I5 J_p, wX8 g a_d I_d J_d, wX3 g a_r I_r, wX7 g a_q I_q, wX7 g a_t I_t, wX5 g a_s I6, wX6 g I11 I7, wX6 g I12 I8, wX1 g a_y I9, wX4 g a_w I_w, wX0 g a_c I_c, wX9 g a_z I_z, wMQ g a_m, wX2 g a_ka I_ka, wX7 g a_ta I_ta, wX5 g a_sa I_sa, wX2 g a_kb I_kb, wX7 g a_tb I_tb, wX5 g a_sb I_sb, wX2 g a_kc I_kc, wX7 g a_tc I_tc, wX5 g a_sc I_sc, wX11 g a_o u16 J_o] rfl rfl) rfl rfl rfl rfl hl.1 (Nat.le_of_ble_eq_true rfl) dL_law_665 ⟨Nat.le_of_ble_eq_true rfl, Nat.le_of_ble_eq_true rfl⟩ (fun r15 u16 H locs p_r15 hP hD hS => ?_)
  have hP : va_P g.1 vwCl (wX10 g I10 I5 J_p ++ (wX8 g a_d I_d J_d ++ (wX3 g a_r I_r ++ (wX7 g a_q I_q ++ (wX7 g a_t I_t ++ (wX5 g a_s I6 ++ (wX6 g I11 I7 ++ (wX6 g I12 I8 ++ (wX1 g a_y I9 ++ (wX4 g a_w I_w ++ (wX0 g a_c I_c ++ (wX9 g a_z I_z ++ (wMQ g a_m ++ (wX2 g a_ka I_ka ++ (wX7 g a_ta I_ta ++ (wX5 g a_sa I_sa ++ (wX2 g a_kb I_kb ++ (wX7 g a_tb I_tb ++ (wX5 g a_sb I_sb ++ (wX2 g a_kc I_kc ++ (wX7 g a_tc I_tc ++ (wX5 g a_sc I_sc ++ wX11 g a_o u16 J_o)))))))))))))))))))))) H := hP
  have hD : va_D (lA s) (wX10 g I10 I5 J_p ++ (wX8 g a_d I_d J_d ++ (wX3 g a_r I_r ++ (wX7 g a_q I_q ++ (wX7 g a_t I_t ++ (wX5 g a_s I6 ++ (wX6 g I11 I7 ++ (wX6 g I12 I8 ++ (wX1 g a_y I9 ++ (wX4 g a_w I_w ++ (wX0 g a_c I_c ++ (wX9 g a_z I_z ++ (wMQ g a_m ++ (wX2 g a_ka I_ka ++ (wX7 g a_ta I_ta ++ (wX5 g a_sa I_sa ++ (wX2 g a_kb I_kb ++ (wX7 g a_tb I_tb ++ (wX5 g a_sb I_sb ++ (wX2 g a_kc I_kc ++ (wX7 g a_tc I_tc ++ (wX5 g a_sc I_sc ++ wX11 g a_o u16 J_o)))))))))))))))))))))) := hD
  refine lv_pop hx hb dL_law_668 rfl ?_
  refine lv_goto (tgt := 1956) hx hb dL_law_669 (by decide) ?_
  exact K I10 I5 J_p a_d I_d J_d a_r I_r a_q I_q a_t I_t a_s I6 I11 I7 I12 I8 a_y I9 a_w I_w a_c I_c a_z I_z a_m a_ka I_ka a_ta I_ta a_sa I_sa a_kb I_kb a_tb I_tb a_sb I_sb a_kc I_kc a_tc I_tc a_sc I_sc a_o u16 J_o hm_p_trays hm_p_reader hm_p_table hm_p_script hm_p_shown hm_p_spare hm_p_layout hm_p_rows hm_p_code hm_p_wear hl_r_table hm_p_marks hl_m_0 hl_m_1 hl_m_2 hl_ka_table hl_ka_script hl_kb_table hl_kb_script hl_kc_table hl_kc_script (p_r3.1) hDI hQ hT (p_r3.2.1) (p_r3.2.2.1) (p_r3.2.2.2.1) (p_r3.2.2.2.2.1) hR hW hKa hTa hSa hKb hTb hSb hKc hTc hSc (p_r15.1) (hRt.kk ((show KK [1] [1, 9, 15, 16, 20, 21] I_o u16 from (KK.tr (KK.rf I_o) p_r15.2.1 (by decide) (by decide))).row 2 (by decide)) ((show KK [1] [1, 9, 15, 16, 20, 21] I_o u16 from (KK.tr (KK.rf I_o) p_r15.2.1 (by decide) (by decide))).row 3 (by decide)) rfl) (RP.cut hRp (by rw [hRp]) p_r3.2.2.2.2.2.2.1 p_r15.2.2) (p_r3.2.2.2.2.2.2.2.1.trans (hRm.trans ((show KK [1] [1, 9, 15, 16, 20, 21] I_o u16 from (KK.tr (KK.rf I_o) p_r15.2.1 (by decide) (by decide))).num 45 (by decide)).symm)) (TPr.cut hTP ((show KK [1] [1, 9, 15, 16, 20, 21] I_o u16 from (KK.tr (KK.rf I_o) p_r15.2.1 (by decide) (by decide))).row 5 (by decide)) p_r3.2.2.2.2.2.2.1 p_r3.2.2.2.2.2.2.2.2) _ _ hP hD hS ls (by rw [hp0]; exact hl)

set_option maxHeartbeats 4000000 in
set_option maxRecDepth 100000 in
theorem lawc10 (l : Launch) (g : gG) (ad av : Nat → Nat) {p : Program} {e : Env} {s : State} {m : MethodId} {below : List Frame} {meth : Method} {c : Code} {b L : Nat} {xs : Nat → Int32} (fx : CallFix p m c cL_law 4 s #[Value.ref b] lw_tbl RL) (hX : va_X b L xs s s.heap) (hbl : b < s.heap.size) (hK : gK g s) (hJ : jF ad av (lA s) s s.heap) (i : Int32) (hi : 0 ≤ i.toInt ∧ i.toInt + 6 ≤ (L : Int) ∧ (L : Int) ≤ 3072) (K : LawC p e s m below meth c l g b i 1956) : LawC p e s m below meth c l g b i 672 := by
  intro a_p I_p J_p a_d I_d J_d a_r I_r a_q I_q a_t I_t a_s I_s a_e I_e a_f I_f a_y I_y a_w I_w a_c I_c a_z I_z a_m a_ka I_ka a_ta I_ta a_sa I_sa a_kb I_kb a_tb I_tb a_sb I_sb a_kc I_kc a_tc I_tc a_sc I_sc a_o I_o J_o hl_p_trays hl_p_reader hl_p_table hl_p_script hl_p_shown hl_p_spare hl_p_layout hl_p_rows hl_p_code hl_p_wear hl_r_table hl_p_marks hl_m_0 hl_m_1 hl_m_2 hl_ka_table hl_ka_script hl_kb_table hl_kb_script hl_kc_table hl_kc_script hPI hDI hQ hT hSI hE hF hL hR hW hKa hTa hSa hKb hTb hSb hKc hTc hSc hMo hRt hRp hRm hTP H locs hP hD hS ls hl
  have hx := fx.1
  have hb := fx.2.1
  have hown := fx.2.2.2.1
  have hts := fx.2.2.2.2
  have hA : ∀ q : Nat, s.heap.size ≤ q → lA s q := fun _ h => h
  have hbA : ¬ lA s b := Nat.not_le.mpr hbl
  have lm1 : (-1 : Int32).toInt = -1 := by decide
  have lm0 : (0 : Int32).toInt = 0 := by decide
  have lm2 : (1 : Int32).toInt = 1 := by decide
  have lq2 : (2 : Int32).toInt = 2 := by decide
  have lq3 : (3 : Int32).toInt = 3 := by decide
  have lq4 : (4 : Int32).toInt = 4 := by decide
  have lq5 : (5 : Int32).toInt = 5 := by decide
  have lq6 : (6 : Int32).toInt = 6 := by decide
  have lq7 : (7 : Int32).toInt = 7 := by decide
  refine lv_aload_n hx hb dL_law_672 rfl (lv_at hl 2 rfl) ?_
  refine lv_aload_n hx hb dL_law_673 rfl (lv_at hl 3 rfl) ?_
  refine lv_iload_n hx hb dL_law_674 rfl (lv_at hl 0 rfl) ?_
  refine lv_iconst (v := 1) hx hb dL_law_675 (by decide) ?_
  refine r_iadd hx hb dL_law_676 rfl (by decide : (1 : Int32).toInt = 1) (fun x1 e_x1 t_x1 => ?_)
  try have t_x1 := t_x1 (by omega)
  have n_677 : vp_in x1 L := t_in (by omega)
  refine va_sld hx hb hX hbl hbA hS n_677 dL_law_677 ?_
  refine q_nm (fun x2 e_x2 => ?_)
  have s_x2 : x2 = xs (i.toInt.toNat + 1) := at_ix e_x2 (by omega)
  refine PurI.gv (wc := wfl [wX10 g a_p I_p J_p, wX8 g a_d I_d J_d, wX3 g a_r I_r, wX7 g a_q I_q, wX7 g a_t I_t, wX5 g a_s I_s, wX6 g a_e I_e, wX6 g a_f I_f, wX1 g a_y I_y, wX4 g a_w I_w, wX0 g a_c I_c, wX9 g a_z I_z, wMQ g a_m, wX2 g a_ka I_ka, wX7 g a_ta I_ta, wX5 g a_sa I_sa, wX2 g a_kb I_kb, wX7 g a_tb I_tb, wX5 g a_sb I_sb, wX2 g a_kc I_kc, wX7 g a_tc I_tc, wX5 g a_sc I_sc, wX11 g a_o I_o J_o]) (As := [.int x2]) (kX10_fault l g a_p I_p J_p x2) fx (gUV wsL_law_in u_768 u_769 u_770 u_2 u_771) rfl hdX10_fault ⟨Nat.le_of_ble_eq_true rfl, Nat.le_of_ble_eq_true rfl⟩ hK hP (cI [wX10 g a_p I_p J_p, wX8 g a_d I_d J_d, wX3 g a_r I_r, wX7 g a_q I_q, wX7 g a_t I_t, wX5 g a_s I_s, wX6 g a_e I_e, wX6 g a_f I_f, wX1 g a_y I_y, wX4 g a_w I_w, wX0 g a_c I_c, wX9 g a_z I_z, wMQ g a_m, wX2 g a_ka I_ka, wX7 g a_ta I_ta, wX5 g a_sa I_sa, wX2 g a_kb I_kb, wX7 g a_tb I_tb, wX5 g a_sb I_sb, wX2 g a_kc I_kc, wX7 g a_tc I_tc, wX5 g a_sc I_sc, wX11 g a_o I_o J_o] [0]) (ci_fm [wX10 g a_p I_p J_p, wX8 g a_d I_d J_d, wX3 g a_r I_r, wX7 g a_q I_q, wX7 g a_t I_t, wX5 g a_s I_s, wX6 g a_e I_e, wX6 g a_f I_f, wX1 g a_y I_y, wX4 g a_w I_w, wX0 g a_c I_c, wX9 g a_z I_z, wMQ g a_m, wX2 g a_ka I_ka, wX7 g a_ta I_ta, wX5 g a_sa I_sa, wX2 g a_kb I_kb, wX7 g a_tb I_tb, wX5 g a_sb I_sb, wX2 g a_kc I_kc, wX7 g a_tc I_tc, wX5 g a_sc I_sc, wX11 g a_o I_o J_o] [wX10 g a_p I_p J_p] rfl) rfl rfl rfl rfl hl.1 (Nat.le_of_ble_eq_true rfl) dL_law_678 ⟨Nat.le_of_ble_eq_true rfl, Nat.le_of_ble_eq_true rfl⟩ (fun r3 p_r3 => ?_)
  refine lv_pop hx hb dL_law_681 rfl ?_
  refine lv_aload_n hx hb dL_law_682 rfl (lv_at hl 1 rfl) ?_
  refine lv_aload_n hx hb dL_law_683 rfl (lv_at hl 3 rfl) ?_
  refine lv_iload_n hx hb dL_law_684 rfl (lv_at hl 0 rfl) ?_
  refine lv_iconst (v := 1) hx hb dL_law_685 (by decide) ?_
  refine r_iadd hx hb dL_law_686 rfl (by decide : (1 : Int32).toInt = 1) (fun x4 e_x4 t_x4 => ?_)
  try have t_x4 := t_x4 (by omega)
  have n_687 : vp_in x4 L := t_in (by omega)
  refine va_sld hx hb hX hbl hbA hS n_687 dL_law_687 ?_
  have u_687 : xs (x4).toNatClampNeg = xs (i.toInt.toNat + 1) := at_ix rfl (by omega)
  refine q_same (s_x2.trans u_687.symm) ?_
  refine PurI.gv (wc := wfl [wX10 g a_p I_p J_p, wX8 g a_d I_d J_d, wX3 g a_r I_r, wX7 g a_q I_q, wX7 g a_t I_t, wX5 g a_s I_s, wX6 g a_e I_e, wX6 g a_f I_f, wX1 g a_y I_y, wX4 g a_w I_w, wX0 g a_c I_c, wX9 g a_z I_z, wMQ g a_m, wX2 g a_ka I_ka, wX7 g a_ta I_ta, wX5 g a_sa I_sa, wX2 g a_kb I_kb, wX7 g a_tb I_tb, wX5 g a_sb I_sb, wX2 g a_kc I_kc, wX7 g a_tc I_tc, wX5 g a_sc I_sc, wX11 g a_o I_o J_o]) (As := [.int x2]) (kX11_fault l g a_o I_o J_o x2) fx (gUV wsL_law_in u_772 u_773 u_774 u_5 u_775) rfl hdX11_fault ⟨Nat.le_of_ble_eq_true rfl, Nat.le_of_ble_eq_true rfl⟩ hK hP (cI [wX10 g a_p I_p J_p, wX8 g a_d I_d J_d, wX3 g a_r I_r, wX7 g a_q I_q, wX7 g a_t I_t, wX5 g a_s I_s, wX6 g a_e I_e, wX6 g a_f I_f, wX1 g a_y I_y, wX4 g a_w I_w, wX0 g a_c I_c, wX9 g a_z I_z, wMQ g a_m, wX2 g a_ka I_ka, wX7 g a_ta I_ta, wX5 g a_sa I_sa, wX2 g a_kb I_kb, wX7 g a_tb I_tb, wX5 g a_sb I_sb, wX2 g a_kc I_kc, wX7 g a_tc I_tc, wX5 g a_sc I_sc, wX11 g a_o I_o J_o] [22]) (ci_fm [wX10 g a_p I_p J_p, wX8 g a_d I_d J_d, wX3 g a_r I_r, wX7 g a_q I_q, wX7 g a_t I_t, wX5 g a_s I_s, wX6 g a_e I_e, wX6 g a_f I_f, wX1 g a_y I_y, wX4 g a_w I_w, wX0 g a_c I_c, wX9 g a_z I_z, wMQ g a_m, wX2 g a_ka I_ka, wX7 g a_ta I_ta, wX5 g a_sa I_sa, wX2 g a_kb I_kb, wX7 g a_tb I_tb, wX5 g a_sb I_sb, wX2 g a_kc I_kc, wX7 g a_tc I_tc, wX5 g a_sc I_sc, wX11 g a_o I_o J_o] [wX11 g a_o I_o J_o] rfl) rfl rfl rfl rfl hl.1 (Nat.le_of_ble_eq_true rfl) dL_law_688 ⟨Nat.le_of_ble_eq_true rfl, Nat.le_of_ble_eq_true rfl⟩ (fun r6 p_r6 => ?_)
  refine lv_pop hx hb dL_law_691 rfl ?_
  refine lv_goto (tgt := 1956) hx hb dL_law_692 (by decide) ?_
  exact K a_p I_p J_p a_d I_d J_d a_r I_r a_q I_q a_t I_t a_s I_s a_e I_e a_f I_f a_y I_y a_w I_w a_c I_c a_z I_z a_m a_ka I_ka a_ta I_ta a_sa I_sa a_kb I_kb a_tb I_tb a_sb I_sb a_kc I_kc a_tc I_tc a_sc I_sc a_o I_o J_o hl_p_trays hl_p_reader hl_p_table hl_p_script hl_p_shown hl_p_spare hl_p_layout hl_p_rows hl_p_code hl_p_wear hl_r_table hl_p_marks hl_m_0 hl_m_1 hl_m_2 hl_ka_table hl_ka_script hl_kb_table hl_kb_script hl_kc_table hl_kc_script hPI hDI hQ hT hSI hE hF hL hR hW hKa hTa hSa hKb hTb hSb hKc hTc hSc hMo (hRt.kk rfl rfl rfl) ((KP.rf I_p).1.trans (hRp.trans rfl.symm)) ((KP.rf I_p).2.1.trans (hRm.trans rfl.symm)) (hTP.kk (KP.rf I_p).1 (KP.rf I_p).2.2 rfl) _ _ hP hD hS ls hl
