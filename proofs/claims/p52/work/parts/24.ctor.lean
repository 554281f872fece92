/-! CONSTRUCTORS: contracts that make cells -/
abbrev rmN (d mc ms : Nat) : Room := { frames := d, cells := mc, slots := ms, locals := 40 * d }
def MkV (l : Launch) (g : gG) (y : MethodName) (ws : List Cond) (d mc ms : Nat) (av : List Value) (w0 : va_W) {S : Type} (w1 : S → va_W) (post : S → Prop) : Prop :=
  ∀ sz, Met l y ws (rmN d mc ms) (va_Pc av (EffB g w0 sz)) (va_Qv post (fun u t => va_P g.1 vwCl (w1 u) t.heap ∧ va_D (va_A w0 sz) (w1 u)) (va_A w0 sz)) mc ms (va_A w0 sz)
def fA (l : List Nat) : Nat → Nat := fun k => l.getD k 0
def fV (l : List Int32) : Nat → Int32 := fun k => l.getD k 0
def fI (l : List (Nat → Int32)) : Nat → Nat → Int32 := fun c => l.getD c (fun _ => 0)
def fW (l : List Int64) : Nat → Int64 := fun k => l.getD k 0
def fJ (l : List (Nat → Int64)) : Nat → Nat → Int64 := fun c => l.getD c (fun _ => 0)
section MkS
variable {l : Launch} {g : gG} {y : MethodName} {ws ws' : List Cond} {d mc ms : Nat} {av : List Value} {w0 : va_W} {cc : ByteArray} {maxL : Nat}
theorem MkV.st {S : Type} {w1 : S → va_W} {post : S → Prop} (hy : plainName y.cls = true) (hw : ws = Cond.code y cc maxL (none) :: ws') (hlen : (lg_sl av).length ≤ maxL)
    (body : ∀ (p : Program) (e : Env) (s : State) (m : MethodId) (args : Array Value) (below : List Frame) (meth : Method) (c : Code) (A : Nat → Prop) (Q : State → Prop) (ls : Array Slot), CallFix p m c cc maxL s args ws y.cls → meth.name = y.name → gK g s → va_P g.1 vwCl w0 s.heap → va_D A w0 → (∀ q : Nat, s.heap.size ≤ q → A q) → va_S A s.heap s.heap [] → lv_has ls maxL (lv_args 0 av) →
      (∀ (pc : Nat) (ls : Array Slot) (H : Heap) (locs : List Loc) (k n : Nat) (u : S), decode cc pc = .ok (.return_, 1) → k ≤ mc → n ≤ ms → va_S A s.heap H locs → va_P g.1 vwCl (w1 u) H → va_D A (w1 u) → post u → W p l e (rmN d mc ms) s m args below meth c H locs k n Q (F0 m pc ls [])) →
      W p l e (rmN d mc ms) s m args below meth c s.heap [] 0 0 Q (F0 m 0 ls [])) : MkV l g y ws d mc ms av w0 w1 post := by
  intro sz
  refine Met.ofW (cc := cc) (maxL := maxL) (ret := none) hy hw ?_
  intro p e s m args below meth c s₁ B hml hv
  obtain ⟨hav, hsz, hP, hK, hD0⟩ := hv
  subst hsz
  rw [hav, lg_entry_eq, ← hav]
  have hr := B.returns
  have hlk := B.notSynchronized
  exact body p e s m args below meth c (va_A w0 s.heap.size) _ _ ⟨B.exec, B.bytes, hml, findClass_of_methodNamed B.named, atoms_spec (ws := ws) B.pre⟩ (name_of_methodNamed B.named B.method).1 hK hP (hD0.self (sz := s.heap.size)) (fun q h => Or.inr h) va_S.rf (lv_entry av hlen)
    (fun pc ls H locs k n u hdg hk hn hS hP hD hp => W.widen hk hn (W.vret B.exec B.bytes hr (fun t ht _ => ⟨⟨u, rfl, hp, by rw [ht]; exact hP, hD⟩, hS.F ht⟩) hS.2.2 hdg hlk))
end MkS
section MkC
variable {p : Program} {l : Launch} {e : Env} {R : Room} {s : State} {m : MethodId} {args : Array Value} {below : List Frame} {meth : Method} {c : Code} {H : Heap} {locs : List Loc} {cells slots mc ms : Nat} {Q : State → Prop} {g : gG} {cc bytes : ByteArray} {A : Nat → Prop} {H0 : Heap} {pc nL maxL index d : Nat} {ls : Array Slot} {rest : List Value} {Ts ws ws' : List Cond} {own C : String} {y : MethodName} {b : Addr} {w0 wc wr : va_W}
/-- a constructor's call, its own link -/
theorem MkV.ci {S : Type} {w1 w' : S → va_W} {post : S → Prop} (hM : MkV l g y ws d mc ms [.ref b] w0 w1 post) (fx : CallFix p m c cc nL s args Ts own) (hG : GoodIn Ts ws) (hw : ws = Cond.code y bytes maxL none :: ws') (hd : hdV y C 0) (hR : roomOk d maxL R) (hy1 : y.name = "<init>")
    (hlk : (Cond.methodLink own index y).before args s = true) (hin : (Cond.instanceMethod y).before args s = true) (hini : (Cond.initialized y.cls).before args s = true)
    (hK : gK g s) (hP : va_P g.1 vwCl wc H) (hD : va_D A wc) (hS : va_S A H0 H locs) (hA : ∀ q : Nat, H0.size ≤ q → A q) (isC isR isB : List Nat) (hC : isC.map (fun i => wc[i]?) = w0.map some) (hRs : isR.map (fun i => wc[i]?) = wr.map some) (hn0 : va_nd isC = true) (hn1 : va_nd isR = true) (hdis : ∀ i ∈ isR, i ∉ isC) (hn2 : va_nd isB = true) (hB : ∀ u, isB.map (fun i => (wr ++ w1 u)[i]?) = (w' u).map some)
    (hsz : ls.size = nL) (hcat : (rest.map fun v => v.category).sum ≤ 8) (hdg : decode cc pc = .ok (.invokespecial index, 3)) (hf : cells + mc ≤ R.cells ∧ slots + ms ≤ R.slots)
    (kk : ∀ (u : S) (H1 : Heap) (locs1 : List Loc), post u → va_P g.1 vwCl (w' u) H1 → va_D A (w' u) → va_S A H0 H1 locs1 → W p l e R s m args below meth c H1 locs1 (cells + mc) (slots + ms) Q (F0 m (pc + 3) ls rest)) : W p l e R s m args below meth c H locs cells slots Q (F0 m pc ls (.ref b :: rest)) := by
  have hP0 := hP.sub (ws' := w0) isC (fm_map hC)
  have hD0 := hD.sub (ws' := w0) isC hn0 hC
  have hF := va_free (wc := w0) hD hS hA isC hC
  refine va_callv (va_runI (As := []) (rest := rest) fx (hM H.size) (cwI 0 fx.2.2.2.2 hG hw rfl rfl hini hlk hin hy1 hd.2 hR) ⟨EffB.blind, fun U hU hW => ⟨rfl, by rw [hU], by rw [hU]; exact hP0, gK.warm hW hK, hD0.weaken (fun _ _ _ _ => trivial)⟩⟩ rfl rfl hsz rfl (lv_room (pc := pc) (ls := ls) (rest := .ref b :: rest) (m := m) hcat) hdg hf) hS (fun q _ h => hF q h) hF (fun u t H1 locs1 ht _ hw1 hB1 _ hk hS1 => ?_)
  obtain ⟨hP1, hD1⟩ := hB1
  rw [ht] at hP1
  obtain ⟨h1, h2⟩ := eff_join hP hD hF isC isR isB hC hRs hn1 hdis hn2 (hB u) hk hP1 hD1
  exact kk u H1 locs1 hw1 h1 h2 hS1
/-- a constructor's call, a nest mate's -/
theorem MkV.cn {S : Type} {w1 w' : S → va_W} {post : S → Prop} {host : String} (hM : MkV l g y ws d mc ms [.ref b] w0 w1 post) (fx : CallFix p m c cc nL s args Ts own) (hG : GoodIn Ts ws) (hw : ws = Cond.code y bytes maxL none :: ws') (hd : hdV y C 0) (hR : roomOk d maxL R) (hy1 : y.name = "<init>")
    (hne : (own, index, y, host) ∈ nestM) (hin : (Cond.instanceMethod y).before args s = true) (hini : (Cond.initialized y.cls).before args s = true)
    (hK : gK g s) (hP : va_P g.1 vwCl wc H) (hD : va_D A wc) (hS : va_S A H0 H locs) (hA : ∀ q : Nat, H0.size ≤ q → A q) (isC isR isB : List Nat) (hC : isC.map (fun i => wc[i]?) = w0.map some) (hRs : isR.map (fun i => wc[i]?) = wr.map some) (hn0 : va_nd isC = true) (hn1 : va_nd isR = true) (hdis : ∀ i ∈ isR, i ∉ isC) (hn2 : va_nd isB = true) (hB : ∀ u, isB.map (fun i => (wr ++ w1 u)[i]?) = (w' u).map some)
    (hsz : ls.size = nL) (hcat : (rest.map fun v => v.category).sum ≤ 8) (hdg : decode cc pc = .ok (.invokespecial index, 3)) (hf : cells + mc ≤ R.cells ∧ slots + ms ≤ R.slots)
    (kk : ∀ (u : S) (H1 : Heap) (locs1 : List Loc), post u → va_P g.1 vwCl (w' u) H1 → va_D A (w' u) → va_S A H0 H1 locs1 → W p l e R s m args below meth c H1 locs1 (cells + mc) (slots + ms) Q (F0 m (pc + 3) ls rest)) : W p l e R s m args below meth c H locs cells slots Q (F0 m pc ls (.ref b :: rest)) := by
  have hP0 := hP.sub (ws' := w0) isC (fm_map hC)
  have hD0 := hD.sub (ws' := w0) isC hn0 hC
  have hF := va_free (wc := w0) hD hS hA isC hC
  refine va_callv (va_runIN (As := []) (rest := rest) fx (hM H.size) ⟨va_cnB 0 fx.2.2.2.2 hG hw rfl rfl (hK.2.1 _ hne) hini hd.2 hR, hy1, hin⟩ ⟨EffB.blind, fun U hU hW => ⟨rfl, by rw [hU], by rw [hU]; exact hP0, gK.warm hW hK, hD0.weaken (fun _ _ _ _ => trivial)⟩⟩ rfl rfl hsz rfl (lv_room (pc := pc) (ls := ls) (rest := .ref b :: rest) (m := m) hcat) hdg hf) hS (fun q _ h => hF q h) hF (fun u t H1 locs1 ht _ hw1 hB1 _ hk hS1 => ?_)
  obtain ⟨hP1, hD1⟩ := hB1
  rw [ht] at hP1
  obtain ⟨h1, h2⟩ := eff_join hP hD hF isC isR isB hC hRs hn1 hdis hn2 (hB u) hk hP1 hD1
  exact kk u H1 locs1 hw1 h1 h2 hS1
end MkC
section MkN
variable {p : Program} {l : Launch} {e : Env} {R : Room} {s : State} {m : MethodId} {args : Array Value} {below : List Frame} {meth : Method} {c : Code} {H : Heap} {locs : List Loc} {cells slots : Nat} {Q : State → Prop} {g : gG} {cc : ByteArray} {A : Nat → Prop} {H0 : Heap} {pc : Nat} {ls : Array Slot} {rest : List Value} {ws : va_W}
theorem gK.one {q : FieldType} {cA c0 : ClassId} (h : va_RA s cA q) (h0 : va_RA s c0 q) (hq : q = .int ∨ q = .long ∨ q = .byte) : cA = c0 := by
  rcases hq with rfl | rfl | rfl <;> exact Option.some.inj (h.symm.trans h0)
theorem r_newa (hx : p.tables.exec = Jvm.exec) (hb : c.code = cc) {atype : ArrayType} {ty : FieldType} (harr : (Cond.arrayClass (newarray.typeOf atype)).before args s = true) (hty : newarray.typeOf atype = ty) (hq : ty = .int ∨ ty = .long ∨ ty = .byte) (hK : gK g s) (hP : va_P g.1 vwCl ws H) (hD : va_D A ws) (hS : va_S A H0 H locs) (hA : ∀ q, H0.size ≤ q → A q)
    (t0 : Nat) {c0 : ClassId} (h0 : (gT g)[t0]? = some (c0, ty)) {n : Int32} {N' : Nat} {a0 : vp_A} (ha : ∀ cA : ClassId, vp_cell cA a0 = arrV cA N' (fun _ => defaultValue ty)) (hn : ¬ n < 0) (hN : n.toNatClampNeg = N') (hbytes : N' * componentBytes ty ≤ 536870912) (hcells : cells + 1 ≤ R.cells) (hslots : slots + N' ≤ R.slots) (hdg : decode cc pc = .ok (.newarray atype, 2))
    (kk : ∀ (q : Nat) (H1 : Heap), va_P g.1 vwCl (ws ++ [(q, .inl (c0, a0))]) H1 → va_D A (ws ++ [(q, .inl (c0, a0))]) → va_S A H0 H1 locs →
      W p l e R s m args below meth c H1 locs (cells + 1) (slots + N') Q (F0 m (pc + 2) ls (.ref q :: rest))) : W p l e R s m args below meth c H locs cells slots Q (F0 m pc ls (.int n :: rest)) := by
  refine va_newa hx hb harr hty hK.1 hP hD hS hA ha hn hN hbytes hcells hslots hdg (fun q cA H1 hK1 hP1 hD1 hS1 => ?_)
  have e : cA = c0 := gK.one (hK1.2 (gT g).length _ (by rw [List.getElem?_append_right (Nat.le_refl _), Nat.sub_self]; rfl)).2 (hK.1.2 t0 _ h0).2 hq
  subst e
  exact kk q H1 hP1 hD1 hS1
end MkN
theorem ls_C (w : va_W) (x : Nat × va_E) : [w.length].map (fun i => (w ++ [x])[i]?) = [x].map some := by simp
theorem ls_B (w w1 : va_W) {n : Nat} (h : w1.length = n) : (List.range (w.length + n)).map (fun i => (w ++ w1)[i]?) = (w ++ w1).map some := by
  subst h
  apply List.ext_getElem?
  intro j
  rw [← List.length_append, List.getElem?_map, List.getElem?_map]
  by_cases hj : j < (w ++ w1).length
  · rw [List.getElem?_range hj]
    show some ((w ++ w1)[j]?) = _
    rw [List.getElem?_eq_getElem hj]
    rfl
  · rw [List.getElem?_eq_none (by rw [List.length_range]; omega), List.getElem?_eq_none (by omega)]
    rfl
theorem ls_R (w : va_W) (x : Nat × va_E) : (List.range w.length).map (fun i => (w ++ [x])[i]?) = w.map some := by
  apply List.ext_getElem?
  intro j
  rw [List.getElem?_map, List.getElem?_map]
  by_cases hj : j < w.length
  · rw [List.getElem?_range hj]
    show some ((w ++ [x])[j]?) = _
    rw [List.getElem?_append_left hj, List.getElem?_eq_getElem hj]
    rfl
  · rw [List.getElem?_eq_none (by rw [List.length_range]; omega), List.getElem?_eq_none (by omega)]
    rfl
theorem ls_nd (n : Nat) : va_nd (List.range n) = true := by
  rw [nd_iff]
  exact (List.pairwise_lt_range).imp fun {a b} h => by omega
theorem ls_dis (w : va_W) : ∀ i ∈ List.range w.length, i ∉ [w.length] := fun i h h2 => by
  rw [List.mem_range] at h
  rw [List.mem_singleton] at h2
  omega
theorem TI.new {I : Nat → Nat → Int32} (h0 : I 0 0 = 0) (h1 : I 1 = upd (upd (fun _ => 0) (3 : Int32).toNatClampNeg 32) (4 : Int32).toNatClampNeg 25) (h2 : I 2 = fun _ => 0) (h3 : I 3 = fun _ => 0) (h4 : I 4 = fun _ => 0) (h5 : I 5 = fun _ => 0) (h6 : I 6 = fun _ => 0) : TI I := by
  unfold TI
  rw [h0, h1, h2, h3, h4, h5, h6]
  exact ⟨by decide, fun j => upd_all (P := fun z => 0 ≤ z.toInt ∧ z.toInt ≤ 63) (upd_all (P := fun z => 0 ≤ z.toInt ∧ z.toInt ≤ 63) (fun _ => by decide) (by decide)) (by decide) j, by decide, by decide, fun _ => (by decide : 0 ≤ (0 : Int32).toInt ∧ (0 : Int32).toInt ≤ 6), fun _ => (by decide : 0 ≤ (0 : Int32).toInt ∧ (0 : Int32).toInt ≤ 3), fun _ => (by decide : 0 ≤ (0 : Int32).toInt ∧ (0 : Int32).toInt ≤ 4), fun _ => (by decide : 0 ≤ (0 : Int32).toInt ∧ (0 : Int32).toInt ≤ 31), fun _ => (by decide : 0 ≤ (0 : Int32).toInt ∧ (0 : Int32).toInt ≤ 63)⟩
theorem LI.new {I : Nat → Nat → Int32} (h2 : I 0 2 = 0) (h6 : I 0 6 = 0) (h7 : I 0 7 = 0) (h3 : I 3 = fun _ => 0) (h4 : I 4 = fun _ => 0) (h5 : I 5 = fun _ => 0) : LI I := by
  unfold LI
  rw [h2, h6, h7, h3, h4, h5]
  exact ⟨by decide, by decide, by decide, fun _ => (by decide : 0 ≤ (0 : Int32).toInt ∧ 0 ≤ (0 : Int32).toInt ∧ (0 : Int32).toInt + (0 : Int32).toInt ≤ 1200), fun _ => (by decide : 0 ≤ (0 : Int32).toInt ∧ (0 : Int32).toInt ≤ 1)⟩
theorem RI.new {I : Nat → Nat → Int32} (h0 : I 0 0 = 0) (h5 : I 0 5 = 0) (h6 : I 6 = fun _ => 0) (h7 : I 7 = fun _ => 0) (h8 : I 8 = fun _ => 0) : RI I := by
  unfold RI
  rw [h0, h5, h6, h7, h8]
  refine ⟨by decide, by decide, fun d hd => ⟨?_, (by decide : 0 ≤ (0 : Int32).toInt ∧ (0 : Int32).toInt ≤ 126), (by decide : 0 ≤ (0 : Int32).toInt ∧ (0 : Int32).toInt ≤ 20), ?_, ?_⟩⟩ <;> rw [show (0 : Int32).toInt = 0 by decide] <;> omega
theorem DI.new {I : Nat → Nat → Int32} (h3 : I 3 = upd (upd (upd (upd (fun _ => 0) (0 : Int32).toNatClampNeg (-1)) (1 : Int32).toNatClampNeg (-1)) (2 : Int32).toNatClampNeg (-1)) (3 : Int32).toNatClampNeg (-1)) : DI I ∧ ∀ j : Nat, j < 4 → I 3 j = -1 := by
  unfold DI
  rw [h3]
  refine ⟨fun j => upd_all (P := fun z => -1 ≤ z.toInt ∧ z.toInt ≤ 60) (upd_all (P := fun z => -1 ≤ z.toInt ∧ z.toInt ≤ 60) (upd_all (P := fun z => -1 ≤ z.toInt ∧ z.toInt ≤ 60) (upd_all (P := fun z => -1 ≤ z.toInt ∧ z.toInt ≤ 60) (fun _ => by decide) (by decide)) (by decide)) (by decide)) (by decide) j, fun j hj => ?_⟩
  rcases (show j = 0 ∨ j = 1 ∨ j = 2 ∨ j = 3 by omega) with rfl | rfl | rfl | rfl <;> rfl
