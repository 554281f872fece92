
theorem mq_app {α : Type} (o q : α) (R1 R2 X : List α) : (o :: (R1 ++ (q :: R2))) ++ X = o :: (R1 ++ (q :: (R2 ++ X))) := by simp
theorem mq_get {α : Type} (o q : α) (R1 R2 : List α) : (o :: (R1 ++ (q :: R2)))[R1.length + 1]? = some q := by simp
theorem mq_get2 {α : Type} (o q z : α) (R1 R2 T : List α) : (o :: (R1 ++ (q :: (R2 ++ (z :: T)))))[R1.length + 1 + (R2.length + 1)]? = some z := by
  rw [show R1.length + 1 + (R2.length + 1) = (R1.length + (R2.length + 1)) + 1 by omega, List.getElem?_cons_succ, List.getElem?_append_right (by omega), show R1.length + (R2.length + 1) - R1.length = R2.length + 1 by omega, List.getElem?_cons_succ, List.getElem?_append_right (by omega), Nat.sub_self]
  rfl
theorem mq_set {α : Type} (o q q2 : α) (R1 R2 : List α) : (o :: (R1 ++ (q :: R2))).set (R1.length + 1) q2 = o :: (R1 ++ (q2 :: R2)) := by
  rw [List.set_cons_succ, List.set_append_right _ _ (by omega), Nat.sub_self]
  rfl

theorem gK.oneq {s : State} {cA c0 : ClassId} {C : String} (h : va_RA s cA (.object C)) (h0 : va_RA s c0 (.object C)) : cA = c0 := by
  obtain ⟨_, _, _, _, _, a⟩ := h
  obtain ⟨_, _, _, _, _, b⟩ := h0
  exact Option.some.inj (a.symm.trans b)
section
variable {p : Program} {l : Launch} {e : Env} {R : Room} {s : State} {m : MethodId} {args : Array Value} {below : List Frame} {meth : Method} {c : Code} {H : Heap} {locs : List Loc} {cells slots : Nat} {Q : State → Prop} {g : gG} {cc : ByteArray} {A : Nat → Prop} {H0 : Heap} {pc : Nat} {ls : Array Slot} {rest : List Value} {ws : va_W}
theorem r_newq (hx : p.tables.exec = Jvm.exec) (hb : c.code = cc) {own : String} {index : Nat} (hown : s.vm.findClass own = some m.cls) (hclink : (Cond.classLink own index "RaisedPress$Mark").before args s = true) (hK : gK g s) (hP : va_P g.1 vwCl ws H) (hD : va_D A ws) (hS : va_S A H0 H locs) (hA : ∀ q, H0.size ≤ q → A q)
    {n : Int32} {N' : Nat} (hn : ¬ n < 0) (hN : n.toNatClampNeg = N') (hbytes : N' * 4 ≤ 536870912) (hcells : cells + 1 ≤ R.cells) (hslots : slots + N' ≤ R.slots) (hdg : decode cc pc = .ok (.anewarray index, 3))
    (kk : ∀ (q : Nat) (H1 : Heap), va_P g.1 vwCl (ws ++ [(q, .inl (g.2.2.2.2, N', .inr (.inr (.inr (.inr (fun _ => none))))))]) H1 → va_D A (ws ++ [(q, .inl (g.2.2.2.2, N', .inr (.inr (.inr (.inr (fun _ => none))))))]) → va_S A H0 H1 locs →
      W p l e R s m args below meth c H1 locs (cells + 1) (slots + N') Q (F0 m (pc + 3) ls (.ref q :: rest))) : W p l e R s m args below meth c H locs cells slots Q (F0 m pc ls (.int n :: rest)) := by
  refine va_newq hx hb hown hclink hK.2.2 hK.1 hP hD hS hA hn hN hbytes hcells hslots hdg (fun q cA H1 hK1 hP1 hD1 hS1 => ?_)
  have e : cA = g.2.2.2.2 := gK.oneq (hK1.2 4 _ rfl).2 (hK.1.2 3 _ rfl).2
  subst e
  exact kk q H1 hP1 hD1 hS1
end
section
variable {p : Program} {l : Launch} {e : Env} {R : Room} {s : State} {m : MethodId} {args : Array Value} {below : List Frame} {meth : Method} {c : Code} {H : Heap} {locs : List Loc} {cells slots : Nat} {Q : State → Prop} {g : gG} {cc bytes : ByteArray} {A : Nat → Prop} {H0 : Heap} {pc nL maxL n index d : Nat} {ls : Array Slot} {rest st0 As : List Value} {Ts ws ws' : List Cond} {own C : String} {y : MethodName} {ret : Option FieldType} {b : Addr} {w0 wc wr : va_W} {ci N : Nat} {T : u_T} {fs : List Value}
theorem EffV.cvN {S : Type} {w1 w' : S → va_W} {post : S → Prop} (hM : EffV l g y ws d (.ref b :: As) w0 w1 post) (fx : CallFix p m c cc nL s args Ts own) (hG : GoodIn Ts (wsV own index C y ws)) (hw : ws = Cond.code y bytes maxL ret :: ws') (hd : hdV y C n) (hR : roomOk d maxL R)
    (hK : gK g s) (hP : va_P g.1 vwCl wc H) (hD : va_D A wc) (hS : va_S A H0 H locs) (hA : ∀ q : Nat, H0.size ≤ q → A q) (isC isR isB : List Nat) (hC : isC.map (fun i => wc[i]?) = w0.map some) (hRs : isR.map (fun i => wc[i]?) = wr.map some) (hn0 : va_nd isC = true) (hn1 : va_nd isR = true) (hdis : ∀ i ∈ isR, i ∉ isC) (hn2 : va_nd isB = true) (hB : ∀ u, isB.map (fun i => (wr ++ w1 u)[i]?) = (w' u).map some)
    (hq : w0[0]? = some (b, .inr (ci, fs))) (hc : vwCl[ci]? = some (C, T, N)) (hst : st0 = As.reverse ++ .ref b :: rest) (hn : As.length = n) (hsz : ls.size = nL) (hcat : (rest.map fun v => v.category).sum ≤ 8) (hdg : decode cc pc = .ok (.invokevirtual index, 3)) (hf : cells + 0 ≤ R.cells ∧ slots + 0 ≤ R.slots)
    (kk : ∀ (u : S) (H1 : Heap) (locs1 : List Loc), post u → va_P g.1 vwCl (w' u) H1 → va_D A (w' u) → va_S A H0 H1 locs1 → W p l e R s m args below meth c H1 locs1 cells slots Q (F0 m (pc + 3) ls rest)) : W p l e R s m args below meth c H locs cells slots Q (F0 m pc ls st0) := by
  have hP0 := hP.sub (ws' := w0) isC (fm_map hC)
  have hD0 := hD.sub (ws' := w0) isC hn0 hC
  have hF := va_free (wc := w0) hD hS hA isC hC
  refine va_callv (va_runV fx (hM H.size) (cwV n fx.2.2.2.2 hG hw rfl rfl hd hR) ⟨EffB.blind, gr_recv hK hP0 hc hq, fun U hU hW => ⟨rfl, by rw [hU], by rw [hU]; exact hP0, gK.warm hW hK, hD0.weaken (fun _ _ _ _ => trivial)⟩⟩ rfl hn hsz hst (lv_room (pc := pc) (ls := ls) (rest := st0) (m := m) hcat) hdg hf) hS (fun q _ h => hF q h) hF (fun u t H1 locs1 ht _ hw1 hB1 _ hk hS1 => ?_)
  obtain ⟨hP1, hD1⟩ := hB1
  rw [ht] at hP1
  obtain ⟨h1, h2⟩ := eff_join hP hD hF isC isR isB hC hRs hn1 hdis hn2 (hB u) hk hP1 hD1
  exact kk u H1 locs1 hw1 h1 h2 hS1
end
theorem MI.new {I0 u : Nat → Nat → Int32} (k : KK [1] [] I0 u) (h : TS (u 1) (0 : Int32).toInt.toNat ∧ SS (u 1) (0 : Int32).toInt.toNat ∧ ∀ j : Nat, j < (0 : Int32).toInt.toNat ∨ (0 : Int32).toInt.toNat + 3300 ≤ j → u 1 j = I0 1 j) (h1 : I0 1 = fun _ => 0) (h3 : I0 3 = upd (upd (upd (upd (fun _ => 0) (0 : Int32).toNatClampNeg (-1)) (1 : Int32).toNatClampNeg (-1)) (2 : Int32).toNatClampNeg (-1)) (3 : Int32).toNatClampNeg (-1)) (h8 : I0 8 = fun _ => 0) (h9 : I0 9 = fun _ => 0) (f9 : I0 0 9 = 0) (f36 : I0 0 36 = -1) (f42 : I0 0 42 = -1) (f45 : I0 0 45 = 0) : MI u ∧ (∀ j : Nat, j < 4 → u 3 j = -1) ∧ u 0 9 = 0 ∧ u 0 45 = 0 := by
  have e0 : (0 : Int32).toInt.toNat = 0 := by decide
  rw [e0] at h
  obtain ⟨t, s, o⟩ := h
  have z : (0 : Int32).toInt = 0 := by decide
  have z1 : (-1 : Int32).toInt = -1 := by decide
  have n3 : u 3 = I0 3 := k.1 3 (by decide) (by decide)
  refine ⟨?_, fun j hj => ?_, (k.2 9 (by decide)).trans f9, (k.2 45 (by decide)).trans f45⟩
  · unfold MI
    rw [n3, k.1 8 (by decide) (by decide), k.1 9 (by decide) (by decide), k.2 9 (by decide), k.2 36 (by decide), k.2 42 (by decide), k.2 45 (by decide), h8, h9, f9, f36, f42, f45]
    refine ⟨fun j => ⟨?_, by show 0 ≤ (0 : Int32).toInt ∧ 0 ≤ (0 : Int32).toInt ∧ (0 : Int32).toInt + (0 : Int32).toInt ≤ 2600; omega⟩, by omega, by omega, by omega, by omega, by rw [o _ (by omega), h1]; show 0 ≤ (0 : Int32).toInt ∧ (0 : Int32).toInt ≤ 300; omega, fun k hk => by rw [o _ (by omega), h1]; show 0 ≤ (0 : Int32).toInt ∧ (0 : Int32).toInt ≤ 63; omega, fun j hj => ?_⟩
    · rw [h3]
      exact upd_all (P := fun z => -1 ≤ z.toInt ∧ z.toInt ≤ 60) (upd_all (P := fun z => -1 ≤ z.toInt ∧ z.toInt ≤ 60) (upd_all (P := fun z => -1 ≤ z.toInt ∧ z.toInt ≤ 60) (upd_all (P := fun z => -1 ≤ z.toInt ∧ z.toInt ≤ 60) (fun _ => by decide) (by decide)) (by decide)) (by decide)) (by decide) j
    · have : j = 0 := by omega
      subst this
      exact ⟨t, s⟩
  · rw [n3, h3]
    rcases (show j = 0 ∨ j = 1 ∨ j = 2 ∨ j = 3 by omega) with rfl | rfl | rfl | rfl <;> rfl
