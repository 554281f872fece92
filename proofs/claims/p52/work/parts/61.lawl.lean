section LawCalls
variable {p : Program} {l : Launch} {e : Env} {R : Room} {s : State} {m : MethodId} {args : Array Value} {below : List Frame} {meth : Method} {c : Code} {H : Heap} {locs : List Loc} {Q : State → Prop} {g : gG} {cc bytes : ByteArray} {A : Nat → Prop} {H0 : Heap} {pc nL maxL n index d : Nat} {ls : Array Slot} {rest st0 As : List Value} {Ts ws ws' : List Cond} {own C : String} {y : MethodName} {ret : Option FieldType} {b : Addr} {w0 wc wr : va_W}
variable {cells slots : Nat}
variable {ci N : Nat} {T : u_T} {fs : List Value}
theorem run_pi2 {post : Int32 → Prop} {a : Array Value} (hr : va_Run p l e R s m args below meth c H locs cells slots 0 0 (F0 m pc ls st0) rest (vp_Si post a) (fun _ => False))
    (kk : ∀ r : Int32, post r → W p l e R s m args below meth c H locs cells slots Q (F0 m (pc + 3) ls (.int r :: rest))) : W p l e R s m args below meth c H locs cells slots Q (F0 m pc ls st0) := by
  intro T hT X
  obtain ⟨v, st₀, t, T', L, h0, X', hL, e1, e2, ⟨r, hv, hp, hh⟩, st⟩ := hr T hT X
  cases hv
  rw [locs_nil hL] at X'
  obtain ⟨t2, a1, b1⟩ := kk r hp T' (by rw [e1, hh, h0]) X'
  exact ⟨t2, st t2 a1, b1⟩
theorem run_pl2 {post : Int64 → Prop} {a : Array Value} (hr : va_Run p l e R s m args below meth c H locs cells slots 0 0 (F0 m pc ls st0) rest (vp_Sl post a) (fun _ => False))
    (kk : ∀ r : Int64, post r → W p l e R s m args below meth c H locs cells slots Q (F0 m (pc + 3) ls (.long r :: rest))) : W p l e R s m args below meth c H locs cells slots Q (F0 m pc ls st0) := by
  intro T hT X
  obtain ⟨v, st₀, t, T', L, h0, X', hL, e1, e2, ⟨r, hv, hp, hh⟩, st⟩ := hr T hT X
  cases hv
  rw [locs_nil hL] at X'
  obtain ⟨t2, a1, b1⟩ := kk r hp T' (by rw [e1, hh, h0]) X'
  exact ⟨t2, st t2 a1, b1⟩
theorem PurI.gv {post : Int32 → Prop} (hM : PurI l g y ws d (.ref b :: As) w0 post) (fx : CallFix p m c cc nL s args Ts own) (hG : GoodIn Ts (wsV own index C y ws)) (hw : ws = Cond.code y bytes maxL ret :: ws') (hd : hdV y C n) (hR : roomOk d maxL R)
    (hK : gK g s) (hP : va_P g.1 vwCl wc H) (isC : List Nat) (hC : isC.filterMap (fun i => wc[i]?) = w0) (hq : w0[0]? = some (b, .inr (ci, fs))) (hc : vwCl[ci]? = some (C, T, N))
    (hst : st0 = As.reverse ++ .ref b :: rest) (hn : As.length = n) (hsz : ls.size = nL) (hcat : (rest.map fun v => v.category).sum ≤ 8) (hdg : decode cc pc = .ok (.invokevirtual index, 3)) (hf : cells + 0 ≤ R.cells ∧ slots + 0 ≤ R.slots)
    (kk : ∀ r : Int32, post r → W p l e R s m args below meth c H locs cells slots Q (F0 m (pc + 3) ls (.int r :: rest))) : W p l e R s m args below meth c H locs cells slots Q (F0 m pc ls st0) := by
  have hP0 := hP.sub (ws' := w0) isC hC
  refine run_pi2 (va_runV fx hM (cwV n fx.2.2.2.2 hG hw rfl rfl hd hR) ⟨PurB.blind, gr_recv hK hP0 hc hq, fun U hU hW => ⟨rfl, by rw [hU]; exact hP0, gK.warm hW hK⟩⟩ rfl hn hsz hst (lv_room (pc := pc) (ls := ls) (rest := st0) (m := m) hcat) hdg hf) kk
theorem PurL.gv {post : Int64 → Prop} (hM : PurL l g y ws d (.ref b :: As) w0 post) (fx : CallFix p m c cc nL s args Ts own) (hG : GoodIn Ts (wsV own index C y ws)) (hw : ws = Cond.code y bytes maxL ret :: ws') (hd : hdV y C n) (hR : roomOk d maxL R)
    (hK : gK g s) (hP : va_P g.1 vwCl wc H) (isC : List Nat) (hC : isC.filterMap (fun i => wc[i]?) = w0) (hq : w0[0]? = some (b, .inr (ci, fs))) (hc : vwCl[ci]? = some (C, T, N))
    (hst : st0 = As.reverse ++ .ref b :: rest) (hn : As.length = n) (hsz : ls.size = nL) (hcat : (rest.map fun v => v.category).sum ≤ 8) (hdg : decode cc pc = .ok (.invokevirtual index, 3)) (hf : cells + 0 ≤ R.cells ∧ slots + 0 ≤ R.slots)
    (kk : ∀ r : Int64, post r → W p l e R s m args below meth c H locs cells slots Q (F0 m (pc + 3) ls (.long r :: rest))) : W p l e R s m args below meth c H locs cells slots Q (F0 m pc ls st0) := by
  have hP0 := hP.sub (ws' := w0) isC hC
  refine run_pl2 (va_runV fx hM (cwV n fx.2.2.2.2 hG hw rfl rfl hd hR) ⟨PurB.blind, gr_recv hK hP0 hc hq, fun U hU hW => ⟨rfl, by rw [hU]; exact hP0, gK.warm hW hK⟩⟩ rfl hn hsz hst (lv_room (pc := pc) (ls := ls) (rest := st0) (m := m) hcat) hdg hf) kk
theorem EffI.gv {S : Type} {w1 w' : S → va_W} {post : Int32 → S → Prop} (hM : EffI l g y ws d (.ref b :: As) w0 w1 post) (fx : CallFix p m c cc nL s args Ts own) (hG : GoodIn Ts (wsV own index C y ws)) (hw : ws = Cond.code y bytes maxL ret :: ws') (hd : hdV y C n) (hR : roomOk d maxL R)
    (hK : gK g s) (hP : va_P g.1 vwCl wc H) (hD : va_D A wc) (hS : va_S A H0 H locs) (hA : ∀ q : Nat, H0.size ≤ q → A q) (isC isR isB : List Nat) (hC : isC.map (fun i => wc[i]?) = w0.map some) (hRs : isR.map (fun i => wc[i]?) = wr.map some) (hn0 : va_nd isC = true) (hn1 : va_nd isR = true) (hdis : ∀ i ∈ isR, i ∉ isC) (hn2 : va_nd isB = true) (hB : ∀ u, isB.map (fun i => (wr ++ w1 u)[i]?) = (w' u).map some)
    (hq : w0[0]? = some (b, .inr (ci, fs))) (hc : vwCl[ci]? = some (C, T, N)) (hst : st0 = As.reverse ++ .ref b :: rest) (hn : As.length = n) (hsz : ls.size = nL) (hcat : (rest.map fun v => v.category).sum ≤ 8) (hdg : decode cc pc = .ok (.invokevirtual index, 3)) (hf : cells + 0 ≤ R.cells ∧ slots + 0 ≤ R.slots)
    (kk : ∀ (r : Int32) (u : S) (H1 : Heap) (locs1 : List Loc), post r u → va_P g.1 vwCl (w' u) H1 → va_D A (w' u) → va_S A H0 H1 locs1 → W p l e R s m args below meth c H1 locs1 cells slots Q (F0 m (pc + 3) ls (.int r :: rest))) : W p l e R s m args below meth c H locs cells slots Q (F0 m pc ls st0) := by
  have hP0 := hP.sub (ws' := w0) isC (fm_map hC)
  have hD0 := hD.sub (ws' := w0) isC hn0 hC
  have hF := va_free (wc := w0) hD hS hA isC hC
  refine va_calli (va_runV fx (hM H.size) (cwV n fx.2.2.2.2 hG hw rfl rfl hd hR) ⟨EffB.blind, gr_recv hK hP0 hc hq, fun U hU hW => ⟨rfl, by rw [hU], by rw [hU]; exact hP0, gK.warm hW hK, hD0.weaken (fun _ _ _ _ => trivial)⟩⟩ rfl hn hsz hst (lv_room (pc := pc) (ls := ls) (rest := st0) (m := m) hcat) hdg hf) hS (fun q _ h => hF q h) hF (fun r u t H1 locs1 ht _ hw1 hB1 _ hk hS1 => ?_)
  obtain ⟨hP1, hD1⟩ := hB1
  rw [ht] at hP1
  obtain ⟨h1, h2⟩ := eff_join hP hD hF isC isR isB hC hRs hn1 hdis hn2 (hB u) hk hP1 hD1
  exact kk r u H1 locs1 hw1 h1 h2 hS1
theorem EffL.gv {S : Type} {w1 w' : S → va_W} {post : Int64 → S → Prop} (hM : EffL l g y ws d (.ref b :: As) w0 w1 post) (fx : CallFix p m c cc nL s args Ts own) (hG : GoodIn Ts (wsV own index C y ws)) (hw : ws = Cond.code y bytes maxL ret :: ws') (hd : hdV y C n) (hR : roomOk d maxL R)
    (hK : gK g s) (hP : va_P g.1 vwCl wc H) (hD : va_D A wc) (hS : va_S A H0 H locs) (hA : ∀ q : Nat, H0.size ≤ q → A q) (isC isR isB : List Nat) (hC : isC.map (fun i => wc[i]?) = w0.map some) (hRs : isR.map (fun i => wc[i]?) = wr.map some) (hn0 : va_nd isC = true) (hn1 : va_nd isR = true) (hdis : ∀ i ∈ isR, i ∉ isC) (hn2 : va_nd isB = true) (hB : ∀ u, isB.map (fun i => (wr ++ w1 u)[i]?) = (w' u).map some)
    (hq : w0[0]? = some (b, .inr (ci, fs))) (hc : vwCl[ci]? = some (C, T, N)) (hst : st0 = As.reverse ++ .ref b :: rest) (hn : As.length = n) (hsz : ls.size = nL) (hcat : (rest.map fun v => v.category).sum ≤ 8) (hdg : decode cc pc = .ok (.invokevirtual index, 3)) (hf : cells + 0 ≤ R.cells ∧ slots + 0 ≤ R.slots)
    (kk : ∀ (r : Int64) (u : S) (H1 : Heap) (locs1 : List Loc), post r u → va_P g.1 vwCl (w' u) H1 → va_D A (w' u) → va_S A H0 H1 locs1 → W p l e R s m args below meth c H1 locs1 cells slots Q (F0 m (pc + 3) ls (.long r :: rest))) : W p l e R s m args below meth c H locs cells slots Q (F0 m pc ls st0) := by
  have hP0 := hP.sub (ws' := w0) isC (fm_map hC)
  have hD0 := hD.sub (ws' := w0) isC hn0 hC
  have hF := va_free (wc := w0) hD hS hA isC hC
  refine va_calll (va_runV fx (hM H.size) (cwV n fx.2.2.2.2 hG hw rfl rfl hd hR) ⟨EffB.blind, gr_recv hK hP0 hc hq, fun U hU hW => ⟨rfl, by rw [hU], by rw [hU]; exact hP0, gK.warm hW hK, hD0.weaken (fun _ _ _ _ => trivial)⟩⟩ rfl hn hsz hst (lv_room (pc := pc) (ls := ls) (rest := st0) (m := m) hcat) hdg hf) hS (fun q _ h => hF q h) hF (fun r u t H1 locs1 ht _ hw1 hB1 _ hk hS1 => ?_)
  obtain ⟨hP1, hD1⟩ := hB1
  rw [ht] at hP1
  obtain ⟨h1, h2⟩ := eff_join hP hD hF isC isR isB hC hRs hn1 hdis hn2 (hB u) hk hP1 hD1
  exact kk r u H1 locs1 hw1 h1 h2 hS1
end LawCalls
section LawCallsS
variable {ad av : Nat → Nat} {A0 : Nat → Prop} {p : Program} {l : Launch} {e : Env} {R : Room} {s : State} {m : MethodId} {args : Array Value} {below : List Frame} {meth : Method} {c : Code} {H : Heap} {locs : List Loc} {Q : State → Prop} {g : gG} {cc bytes : ByteArray} {A : Nat → Prop} {H0 : Heap} {pc nL maxL n index d : Nat} {ls : Array Slot} {rest st0 As : List Value} {Ts ws ws' : List Cond} {own C : String} {y : MethodName} {ret : Option FieldType} {b : Addr} {w0 wc wr : va_W}
variable {ci N : Nat} {T : u_T} {fs : List Value}
variable {cells slots : Nat}
theorem EffIS.gv {S : Type} {w1 w' : S → va_W} {post : Int32 → S → Prop} (hM : EffIS l g ad av y ws d (.ref b :: As) w0 w1 post) (fx : CallFix p m c cc nL s args Ts own) (hG : GoodIn Ts (wsV own index C y ws)) (hw : ws = Cond.code y bytes maxL ret :: ws') (hd : hdV y C n) (hR : roomOk d maxL R)
    (hJ : jF ad av A s s.heap) (hK : gK g s) (hP : va_P g.1 vwCl wc H) (hD : va_D A wc) (hS : va_S A s.heap H locs) (hA : ∀ q : Nat, s.heap.size ≤ q → A q) (isC isR isB : List Nat) (hC : isC.map (fun i => wc[i]?) = w0.map some) (hRs : isR.map (fun i => wc[i]?) = wr.map some) (hn0 : va_nd isC = true) (hn1 : va_nd isR = true) (hdis : ∀ i ∈ isR, i ∉ isC) (hn2 : va_nd isB = true) (hB : ∀ u, isB.map (fun i => (wr ++ w1 u)[i]?) = (w' u).map some)
    (hq : w0[0]? = some (b, .inr (ci, fs))) (hc : vwCl[ci]? = some (C, T, N)) (hst : st0 = As.reverse ++ .ref b :: rest) (hn : As.length = n) (hsz : ls.size = nL) (hcat : (rest.map fun v => v.category).sum ≤ 8) (hdg : decode cc pc = .ok (.invokevirtual index, 3)) (hf : cells + 0 ≤ R.cells ∧ slots + 0 ≤ R.slots)
    (kk : ∀ (r : Int32) (u : S) (H1 : Heap) (locs1 : List Loc), post r u → va_P g.1 vwCl (w' u) H1 → va_D A (w' u) → va_S A s.heap H1 locs1 → W p l e R s m args below meth c H1 locs1 cells slots Q (F0 m (pc + 3) ls (.int r :: rest))) : W p l e R s m args below meth c H locs cells slots Q (F0 m pc ls st0) := by
  have hP0 := hP.sub (ws' := w0) isC (fm_map hC)
  have hD0 := hD.sub (ws' := w0) isC hn0 hC
  have hF := va_free (wc := w0) hD hS hA isC hC
  refine va_calli (va_runV fx (hM H.size) (cwV n fx.2.2.2.2 hG hw rfl rfl hd hR) ⟨EffSB.blind, gr_recv hK hP0 hc hq, fun U hU hW => ⟨rfl, ⟨by rw [hU], by rw [hU]; exact hP0, gK.warm hW hK, hD0.weaken (fun _ _ _ _ => trivial)⟩, by rw [hU]; exact ((hJ.kept hS.2.1).narrow hF).warm hW⟩⟩ rfl hn hsz hst (lv_room (pc := pc) (ls := ls) (rest := st0) (m := m) hcat) hdg hf) hS (fun q _ h => hF q h) hF (fun r u t H1 locs1 ht _ hw1 hB1 _ hk hS1 => ?_)
  obtain ⟨hP1, hD1⟩ := hB1
  rw [ht] at hP1
  obtain ⟨h1, h2⟩ := eff_join hP hD hF isC isR isB hC hRs hn1 hdis hn2 (hB u) hk hP1 hD1
  exact kk r u H1 locs1 hw1 h1 h2 hS1
end LawCallsS

section
variable {p : Program} {l : Launch} {e : Env} {R : Room} {s : State} {m : MethodId} {args : Array Value} {below : List Frame} {meth : Method} {c : Code} {H : Heap} {locs : List Loc} {cells slots : Nat} {Q : State → Prop} {pc : Nat} {ls : Array Slot} {rest : List Value}
theorem q_same {x z : Int32} (h : z = x) (k : W p l e R s m args below meth c H locs cells slots Q (F0 m pc ls (.int z :: rest))) : W p l e R s m args below meth c H locs cells slots Q (F0 m pc ls (.int x :: rest)) := by rw [← h]; exact k
end
abbrev lA (s : State) : Nat → Prop := fun q => s.heap.size ≤ q
def LawC (p : Program) (e : Env) (s : State) (m : MethodId) (below : List Frame) (meth : Method) (c : Code) (l : Launch) (g : gG) (b : Nat) (i : Int32) (pc : Nat) : Prop := ∀ (a_p : Nat → Nat) (I_p : Nat → Nat → Int32) (J_p : Nat → Nat → Int64) (a_d : Nat → Nat) (I_d : Nat → Nat → Int32) (J_d : Nat → Nat → Int64) (a_r : Nat → Nat) (I_r : Nat → Nat → Int32) (a_q : Nat → Nat) (I_q : Nat → Nat → Int32) (a_t : Nat → Nat) (I_t : Nat → Nat → Int32) (a_s : Nat → Nat) (I_s : Nat → Nat → Int32) (a_e : Nat → Nat) (I_e : Nat → Nat → Int32) (a_f : Nat → Nat) (I_f : Nat → Nat → Int32) (a_y : Nat → Nat) (I_y : Nat → Nat → Int32) (a_w : Nat → Nat) (I_w : Nat → Nat → Int32) (a_c : Nat → Nat) (I_c : Nat → Nat → Int32) (a_z : Nat → Nat) (I_z : Nat → Nat → Int32) (a_m : Nat → Nat) (a_ka : Nat → Nat) (I_ka : Nat → Nat → Int32) (a_ta : Nat → Nat) (I_ta : Nat → Nat → Int32) (a_sa : Nat → Nat) (I_sa : Nat → Nat → Int32) (a_kb : Nat → Nat) (I_kb : Nat → Nat → Int32) (a_tb : Nat → Nat) (I_tb : Nat → Nat → Int32) (a_sb : Nat → Nat) (I_sb : Nat → Nat → Int32) (a_kc : Nat → Nat) (I_kc : Nat → Nat → Int32) (a_tc : Nat → Nat) (I_tc : Nat → Nat → Int32) (a_sc : Nat → Nat) (I_sc : Nat → Nat → Int32) (a_o : Nat → Nat) (I_o : Nat → Nat → Int32) (J_o : Nat → Nat → Int64), (hl_p_trays : a_p 107 = a_d 0) → (hl_p_reader : a_p 108 = a_r 0) → (hl_p_table : a_p 109 = a_t 0) → (hl_p_script : a_p 110 = a_s 0) → (hl_p_shown : a_p 112 = a_e 0) → (hl_p_spare : a_p 113 = a_f 0) → (hl_p_layout : a_p 114 = a_y 0) → (hl_p_rows : a_p 115 = a_w 0) → (hl_p_code : a_p 116 = a_c 0) → (hl_p_wear : a_p 117 = a_z 0) → (hl_r_table : a_r 100 = a_q 0) → (hl_p_marks : a_p 118 = a_m 0) → (hl_m_0 : a_m 100 = a_ka 0) → (hl_m_1 : a_m 101 = a_kb 0) → (hl_m_2 : a_m 102 = a_kc 0) → (hl_ka_table : a_ka 100 = a_ta 0) → (hl_ka_script : a_ka 101 = a_sa 0) → (hl_kb_table : a_kb 100 = a_tb 0) → (hl_kb_script : a_kb 101 = a_sb 0) → (hl_kc_table : a_kc 100 = a_tc 0) → (hl_kc_script : a_kc 101 = a_sc 0) → (hPI : PI I_p) → (hDI : DI I_d) → (hQ : TI I_q) → (hT : TI I_t) → (hSI : SI I_s) → (hE : EI I_e) → (hF : EI I_f) → (hL : LI I_y) → (hR : RI I_w) → (hW : WI I_z) → (hKa : MKI I_ka) → (hTa : TI I_ta) → (hSa : SI I_sa) → (hKb : MKI I_kb) → (hTb : TI I_tb) → (hSb : SI I_sb) → (hKc : MKI I_kc) → (hTc : TI I_tc) → (hSc : SI I_sc) → (hMo : MI I_o) → (hRt : RT I_d J_d I_o J_o) → (hRp : I_p 0 1 = I_o 0 9) → (hRm : I_p 0 19 = I_o 0 45) → (hTP : TPr I_p I_o) → (hTR : TRr I_t I_ta I_tb I_tc I_o) → (hWB : WB I_w) → (hFR : FRr I_w I_o) → (hFL : FLr I_p I_o) → (hPT : PTr I_t I_ta I_tb I_tc (I_o 0 45).toInt) → ∀ (H : Heap) (locs : List Loc), va_P g.1 vwCl (wX10 g a_p I_p J_p ++ (wX8 g a_d I_d J_d ++ (wX3 g a_r I_r ++ (wX7 g a_q I_q ++ (wX7 g a_t I_t ++ (wX5 g a_s I_s ++ (wX6 g a_e I_e ++ (wX6 g a_f I_f ++ (wX1 g a_y I_y ++ (wX4 g a_w I_w ++ (wX0 g a_c I_c ++ (wX9 g a_z I_z ++ (wMQ g a_m ++ (wX2 g a_ka I_ka ++ (wX7 g a_ta I_ta ++ (wX5 g a_sa I_sa ++ (wX2 g a_kb I_kb ++ (wX7 g a_tb I_tb ++ (wX5 g a_sb I_sb ++ (wX2 g a_kc I_kc ++ (wX7 g a_tc I_tc ++ (wX5 g a_sc I_sc ++ wX11 g a_o I_o J_o)))))))))))))))))))))) H → va_D (lA s) (wX10 g a_p I_p J_p ++ (wX8 g a_d I_d J_d ++ (wX3 g a_r I_r ++ (wX7 g a_q I_q ++ (wX7 g a_t I_t ++ (wX5 g a_s I_s ++ (wX6 g a_e I_e ++ (wX6 g a_f I_f ++ (wX1 g a_y I_y ++ (wX4 g a_w I_w ++ (wX0 g a_c I_c ++ (wX9 g a_z I_z ++ (wMQ g a_m ++ (wX2 g a_ka I_ka ++ (wX7 g a_ta I_ta ++ (wX5 g a_sa I_sa ++ (wX2 g a_kb I_kb ++ (wX7 g a_tb I_tb ++ (wX5 g a_sb I_sb ++ (wX2 g a_kc I_kc ++ (wX7 g a_tc I_tc ++ (wX5 g a_sc I_sc ++ wX11 g a_o I_o J_o)))))))))))))))))))))) → va_S (lA s) s.heap H locs → ∀ ls : Array Slot, lv_has ls 4 [(3, .int i), (2, .ref (a_o 0)), (1, .ref (a_p 0)), (0, .ref b)] → W p l e room_1 s m #[Value.ref b] below meth c H locs 600000 7302250 (lw_Z below #[Value.ref b] s) (F0 m pc ls [])
