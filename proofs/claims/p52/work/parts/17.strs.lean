/-! STRING CONSTANTS: twelve, by their places -/
def txS : List String := [" rule capital number hyphen line page cells begin middle end alone ", "rule", "capital", "number", "hyphen", "line", "page", "begin", "middle", "end", "alone", "cells"]
def byS : List (List Int32) := txS.map (fun t => t.toList.map (fun ch => Int32.ofNat ch.toNat))
def lenS : List Nat := txS.map (fun t => t.toList.length)
def litS : List (String × Nat × String × Nat) := [(RX11, 197, " rule capital number hyphen line page cells begin middle end alone ", 0), (RX3, 104, "rule", 1), (RX3, 112, "capital", 2), (RX3, 114, "number", 3), (RX3, 116, "hyphen", 4), (RX3, 118, "line", 5), (RX3, 120, "page", 6), (RX3, 146, "begin", 7), (RX3, 148, "middle", 8), (RX3, 150, "end", 9), (RX3, 152, "alone", 10), (RX3, 86, "cells", 11)]
theorem lenS_ok : ∀ i, i < 12 → lenS.getD i 0 < 100 := by decide +kernel
theorem lenS_by : ∀ i, i < 12 → lenS.getD i 0 = (byS.getD i []).length := by decide +kernel
theorem byS_ok : ∀ i, i < 12 → ∀ k, k < lenS.getD i 0 → (((byS.getD i []).getD k 0 &&& 255).toUInt32 % 65536).toInt32 = (byS.getD i []).getD k 0 ∧ narrow .char (.int ((byS.getD i []).getD k 0)) = .int ((byS.getD i []).getD k 0) := by decide +kernel
def jF (ad av : Nat → Nat) (A : Nat → Prop) (U : State) (H : Heap) : Prop := vk_S 12 lenS byS ad av A U H ∧ va_Z "java/lang/String" "COMPACT_STRINGS" "Z" (.int 1) A U H ∧ (∃ v : Value, ((∃ t : Nat, v = .ref t) ∨ v = .null) ∧ va_Z "jdk/internal/util/Preconditions" "SIOOBE_FORMATTER" "Ljava/util/function/BiFunction;" v A U H) ∧ ∀ q ∈ litS, vk_R q.1 q.2.1 q.2.2.1 (ad q.2.2.2) U
theorem jF.l0 {ad av : Nat → Nat} {A : Nat → Prop} {U : State} {H : Heap} (h : jF ad av A U H) : vk_R RX11 197 " rule capital number hyphen line page cells begin middle end alone " (ad 0) U := h.2.2.2 (RX11, 197, " rule capital number hyphen line page cells begin middle end alone ", 0) (List.mem_of_getElem? (i := 0) rfl)
theorem jF.l1 {ad av : Nat → Nat} {A : Nat → Prop} {U : State} {H : Heap} (h : jF ad av A U H) : vk_R RX3 104 "rule" (ad 1) U := h.2.2.2 (RX3, 104, "rule", 1) (List.mem_of_getElem? (i := 1) rfl)
theorem jF.l2 {ad av : Nat → Nat} {A : Nat → Prop} {U : State} {H : Heap} (h : jF ad av A U H) : vk_R RX3 112 "capital" (ad 2) U := h.2.2.2 (RX3, 112, "capital", 2) (List.mem_of_getElem? (i := 2) rfl)
theorem jF.l3 {ad av : Nat → Nat} {A : Nat → Prop} {U : State} {H : Heap} (h : jF ad av A U H) : vk_R RX3 114 "number" (ad 3) U := h.2.2.2 (RX3, 114, "number", 3) (List.mem_of_getElem? (i := 3) rfl)
theorem jF.l4 {ad av : Nat → Nat} {A : Nat → Prop} {U : State} {H : Heap} (h : jF ad av A U H) : vk_R RX3 116 "hyphen" (ad 4) U := h.2.2.2 (RX3, 116, "hyphen", 4) (List.mem_of_getElem? (i := 4) rfl)
theorem jF.l5 {ad av : Nat → Nat} {A : Nat → Prop} {U : State} {H : Heap} (h : jF ad av A U H) : vk_R RX3 118 "line" (ad 5) U := h.2.2.2 (RX3, 118, "line", 5) (List.mem_of_getElem? (i := 5) rfl)
theorem jF.l6 {ad av : Nat → Nat} {A : Nat → Prop} {U : State} {H : Heap} (h : jF ad av A U H) : vk_R RX3 120 "page" (ad 6) U := h.2.2.2 (RX3, 120, "page", 6) (List.mem_of_getElem? (i := 6) rfl)
theorem jF.l7 {ad av : Nat → Nat} {A : Nat → Prop} {U : State} {H : Heap} (h : jF ad av A U H) : vk_R RX3 146 "begin" (ad 7) U := h.2.2.2 (RX3, 146, "begin", 7) (List.mem_of_getElem? (i := 7) rfl)
theorem jF.l8 {ad av : Nat → Nat} {A : Nat → Prop} {U : State} {H : Heap} (h : jF ad av A U H) : vk_R RX3 148 "middle" (ad 8) U := h.2.2.2 (RX3, 148, "middle", 8) (List.mem_of_getElem? (i := 8) rfl)
theorem jF.l9 {ad av : Nat → Nat} {A : Nat → Prop} {U : State} {H : Heap} (h : jF ad av A U H) : vk_R RX3 150 "end" (ad 9) U := h.2.2.2 (RX3, 150, "end", 9) (List.mem_of_getElem? (i := 9) rfl)
theorem jF.l10 {ad av : Nat → Nat} {A : Nat → Prop} {U : State} {H : Heap} (h : jF ad av A U H) : vk_R RX3 152 "alone" (ad 10) U := h.2.2.2 (RX3, 152, "alone", 10) (List.mem_of_getElem? (i := 10) rfl)
theorem jF.l11 {ad av : Nat → Nat} {A : Nat → Prop} {U : State} {H : Heap} (h : jF ad av A U H) : vk_R RX3 86 "cells" (ad 11) U := h.2.2.2 (RX3, 86, "cells", 11) (List.mem_of_getElem? (i := 11) rfl)
theorem jF.kept {ad av : Nat → Nat} {A : Nat → Prop} {U : State} {H H1 : Heap} (h : jF ad av A U H) (hq : ∀ a : Nat, a < H.size → ¬ A a → H1[a]? = H[a]?) : jF ad av A U H1 := by
  obtain ⟨a, b, ⟨t, hv0, c⟩, d⟩ := h
  exact ⟨a.kept hq, b.kept hq, ⟨t, hv0, c.kept hq⟩, d⟩
theorem jF.narrow {ad av : Nat → Nat} {A B : Nat → Prop} {U : State} {H : Heap} (h : jF ad av A U H) (hAB : ∀ q, B q → A q) : jF ad av B U H := by
  obtain ⟨a, b, ⟨t, hv0, c⟩, d⟩ := h
  exact ⟨a.narrow hAB, b.narrow hAB, ⟨t, hv0, c.narrow hAB⟩, d⟩
theorem jF.warm {ad av : Nat → Nat} {A : Nat → Prop} {s U : State} {H : Heap} (hW : s.WarmedH U.vm) (h : jF ad av A s H) : jF ad av A U H := by
  obtain ⟨a, b, ⟨t, hv0, c⟩, d⟩ := h
  exact ⟨a.moved hW.alike, b.moved hW.alike, ⟨t, hv0, c.moved hW.alike⟩, fun q hq => (d q hq).warm hW⟩
theorem jF.same {ad av : Nat → Nat} {A : Nat → Prop} {u U : State} {H : Heap} (hv : U.vm = u.vm) (h : jF ad av A u H) : jF ad av A U H := by
  obtain ⟨a, b, ⟨t, hv0, c⟩, d⟩ := h
  have e : u.vm.Alike U.vm := hv ▸ Vm.Alike.refl u.vm
  exact ⟨a.moved e, b.moved e, ⟨t, hv0, c.moved e⟩, fun q hq => (d q hq).same hv⟩
def PurJ (l : Launch) (ad av : Nat → Nat) (y : MethodName) (ws : List Cond) (d : Nat) (args : List Value) (post : Int32 → Prop) : Prop :=
  Met l y ws (rm d) (va_Pc args (fun U => jF ad av (fun _ => False) U U.heap)) (vp_Si post) 0 0 (fun _ => False)
def PurJV (l : Launch) (ad av : Nat → Nat) (y : MethodName) (ws : List Cond) (d : Nat) (args : List Value) : Prop :=
  Met l y ws (rm d) (va_Pc args (fun U => jF ad av (fun _ => False) U U.heap)) (va_Sv (fun _ => True)) 0 0 (fun _ => False)
theorem jblind {ad av : Nat → Nat} {args : List Value} : FrameBlind (va_Pc args (fun U => jF ad av (fun _ => False) U U.heap)) := fun a U f mk q => by
  obtain ⟨q0, q1⟩ := q
  exact ⟨q0, q1.same rfl⟩
section JS
variable {l : Launch} {ad av : Nat → Nat} {y : MethodName} {ws ws' : List Cond} {d : Nat} {args0 : List Value} {cc : ByteArray} {maxL : Nat} {ret : Option FieldType}
theorem PurJ.st {ty : FieldType} {post : Int32 → Prop} (hy : plainName y.cls = true) (hw : ws = Cond.code y cc maxL (some ty) :: ws') (hlen : (lg_sl args0).length ≤ maxL)
    (body : ∀ (p : Program) (e : Env) (s : State) (m : MethodId) (args : Array Value) (below : List Frame) (meth : Method) (c : Code) (Q : State → Prop) (ls : Array Slot), CallFix p m c cc maxL s args ws y.cls → jF ad av (fun _ => False) s s.heap → lv_has ls maxL (lv_args 0 args0) →
      (∀ (pc : Nat) (ls : Array Slot) (v : Int32), decode cc pc = .ok (.ireturn, 1) → narrow ty (.int v) = .int v → post v → W p l e (rm d) s m args below meth c s.heap [] 0 0 Q (F0 m pc ls [.int v])) →
      W p l e (rm d) s m args below meth c s.heap [] 0 0 Q (F0 m 0 ls [])) : PurJ l ad av y ws d args0 post := by
  refine Met.ofW (cc := cc) (maxL := maxL) (ret := some ty) hy hw ?_
  intro p e s m args below meth c s₁ B hml hv
  obtain ⟨hav, hJ⟩ := hv
  rw [hav, lg_entry_eq, ← hav]
  have hr := B.returns
  have hlk := B.notSynchronized
  exact body p e s m args below meth c _ _ ⟨B.exec, B.bytes, hml, findClass_of_methodNamed B.named, atoms_spec (ws := ws) B.pre⟩ hJ (lv_entry args0 hlen)
    (fun pc ls v hdg hn hp => W.zret B.exec B.bytes hr hn (fun t ht _ => ⟨v, rfl, hp, ht⟩) (fun _ h => by cases h) hdg hlk)
theorem PurJV.st (hy : plainName y.cls = true) (hw : ws = Cond.code y cc maxL none :: ws') (hlen : (lg_sl args0).length ≤ maxL)
    (body : ∀ (p : Program) (e : Env) (s : State) (m : MethodId) (args : Array Value) (below : List Frame) (meth : Method) (c : Code) (Q : State → Prop) (ls : Array Slot), CallFix p m c cc maxL s args ws y.cls → jF ad av (fun _ => False) s s.heap → lv_has ls maxL (lv_args 0 args0) →
      (∀ (pc : Nat) (ls : Array Slot), decode cc pc = .ok (.return_, 1) → W p l e (rm d) s m args below meth c s.heap [] 0 0 Q (F0 m pc ls [])) →
      W p l e (rm d) s m args below meth c s.heap [] 0 0 Q (F0 m 0 ls [])) : PurJV l ad av y ws d args0 := by
  refine Met.ofW (cc := cc) (maxL := maxL) (ret := none) hy hw ?_
  intro p e s m args below meth c s₁ B hml hv
  obtain ⟨hav, hJ⟩ := hv
  rw [hav, lg_entry_eq, ← hav]
  have hr := B.returns
  have hlk := B.notSynchronized
  exact body p e s m args below meth c _ _ ⟨B.exec, B.bytes, hml, findClass_of_methodNamed B.named, atoms_spec (ws := ws) B.pre⟩ hJ (lv_entry args0 hlen)
    (fun pc ls hdg => W.vret B.exec B.bytes hr (fun t ht _ => ⟨rfl, trivial, ht⟩) (fun _ h => by cases h) hdg hlk)
end JS
section JC
variable {p : Program} {l : Launch} {e : Env} {R : Room} {s : State} {m : MethodId} {args : Array Value} {below : List Frame} {meth : Method} {c : Code} {H : Heap} {locs : List Loc} {Q : State → Prop} {cc bytes : ByteArray} {A : Nat → Prop} {pc nL maxL n index d : Nat} {ls : Array Slot} {rest st0 As : List Value} {Ts ws ws' : List Cond} {own C : String} {y : MethodName} {ret : Option FieldType} {ad av : Nat → Nat}
theorem jF.at (h : jF ad av A s s.heap) (hS : va_S A s.heap H locs) : jF ad av (fun _ => False) s H := (h.kept hS.2.1).narrow (fun _ q => q.elim)
theorem PurJ.cv {post : Int32 → Prop} {i : Nat} (hM : PurJ l ad av y ws d (.ref (ad i) :: As) post) (hi : i < 12) (fx : CallFix p m c cc nL s args Ts own) (hG : GoodIn Ts (wsV own index "java/lang/String" y ws)) (hw : ws = Cond.code y bytes maxL ret :: ws') (hd : hdV y "java/lang/String" n) (hR : roomOk d maxL R) (hJ : jF ad av A s s.heap) (hS : va_S A s.heap H locs)
    (hst : st0 = As.reverse ++ .ref (ad i) :: rest) (hn : As.length = n) (hsz : ls.size = nL) (hcat : (rest.map fun v => v.category).sum ≤ 8) (hdg : decode cc pc = .ok (.invokevirtual index, 3))
    (kk : ∀ r : Int32, post r → W p l e R s m args below meth c H locs 0 0 Q (F0 m (pc + 3) ls (.int r :: rest))) : W p l e R s m args below meth c H locs 0 0 Q (F0 m pc ls st0) :=
  run_pi (va_runV fx hM (cwV n fx.2.2.2.2 hG hw rfl rfl hd hR) ⟨jblind, vk_recv hJ.1 hi hS, fun U hU hW => ⟨rfl, by show jF ad av _ U U.heap; rw [hU]; exact (hJ.at hS).warm hW⟩⟩ rfl hn hsz hst (lv_room (pc := pc) (ls := ls) (rest := st0) (m := m) hcat) hdg ⟨Nat.zero_le _, Nat.zero_le _⟩) kk
theorem PurJ.cs {post : Int32 → Prop} (hM : PurJ l ad av y ws d As post) (fx : CallFix p m c cc nL s args Ts own) (hG : GoodIn Ts (va_wsS own index y ws)) (hw : ws = Cond.code y bytes maxL ret :: ws') (hd : hdV y C n) (hR : roomOk d maxL R) (hJ : jF ad av A s s.heap) (hS : va_S A s.heap H locs)
    (hst : st0 = As.reverse ++ rest) (hn : As.length = n) (hsz : ls.size = nL) (hcat : (rest.map fun v => v.category).sum ≤ 8) (hdg : decode cc pc = .ok (.invokestatic index, 3))
    (kk : ∀ r : Int32, post r → W p l e R s m args below meth c H locs 0 0 Q (F0 m (pc + 3) ls (.int r :: rest))) : W p l e R s m args below meth c H locs 0 0 Q (F0 m pc ls st0) :=
  run_pi (va_runS fx hM (va_cwS n fx.2.2.2.2 hG hw rfl rfl hd.2 hR) ⟨jblind, fun U hU hW => ⟨rfl, by show jF ad av _ U U.heap; rw [hU]; exact (hJ.at hS).warm hW⟩⟩ rfl hn hsz hst (lv_room (pc := pc) (ls := ls) (rest := st0) (m := m) hcat) hdg ⟨Nat.zero_le _, Nat.zero_le _⟩) kk
theorem PurJV.cs (hM : PurJV l ad av y ws d As) (fx : CallFix p m c cc nL s args Ts own) (hG : GoodIn Ts (va_wsS own index y ws)) (hw : ws = Cond.code y bytes maxL ret :: ws') (hd : hdV y C n) (hR : roomOk d maxL R) (hJ : jF ad av A s s.heap) (hS : va_S A s.heap H locs)
    (hst : st0 = As.reverse ++ rest) (hn : As.length = n) (hsz : ls.size = nL) (hcat : (rest.map fun v => v.category).sum ≤ 8) (hdg : decode cc pc = .ok (.invokestatic index, 3))
    (kk : W p l e R s m args below meth c H locs 0 0 Q (F0 m (pc + 3) ls rest)) : W p l e R s m args below meth c H locs 0 0 Q (F0 m pc ls st0) := by
  have hr := va_runS (H := H) (locs := locs) (cells := 0) (slots := 0) (g := F0 m pc ls st0) (rest := rest) (l := l) (e := e) (below := below) (meth := meth) fx hM (va_cwS n fx.2.2.2.2 hG hw rfl rfl hd.2 hR) ⟨jblind, fun U hU hW => ⟨rfl, by show jF ad av _ U U.heap; rw [hU]; exact (hJ.at hS).warm hW⟩⟩ rfl hn hsz hst (lv_room (pc := pc) (ls := ls) (rest := st0) (m := m) hcat) hdg ⟨Nat.zero_le _, Nat.zero_le _⟩
  intro T hT X
  obtain ⟨v, st₀, t, T', L, h0, X', hL, e1, e2, ⟨hv, hp, hh⟩, st⟩ := hr T hT X
  cases hv
  rw [locs_nil hL] at X'
  obtain ⟨t2, a1, b1⟩ := kk T' (by rw [e1, hh, h0]) X'
  exact ⟨t2, st t2 a1, b1⟩
end JC

def PurSB (g : gG) (ad av : Nat → Nat) (w0 : va_W) (U : State) : Prop := PurB g w0 U ∧ jF ad av (fun _ => False) U U.heap
def EffSB (g : gG) (ad av : Nat → Nat) (w0 : va_W) (sz : Nat) (U : State) : Prop := EffB g w0 sz U ∧ jF ad av (va_A w0 sz) U U.heap
def PurIS (l : Launch) (g : gG) (ad av : Nat → Nat) (y : MethodName) (ws : List Cond) (d : Nat) (args0 : List Value) (w0 : va_W) (post : Int32 → Prop) : Prop :=
  Met l y ws (rm d) (va_Pc args0 (PurSB g ad av w0)) (vp_Si post) 0 0 (fun _ => False)
def EffIS (l : Launch) (g : gG) (ad av : Nat → Nat) (y : MethodName) (ws : List Cond) (d : Nat) (args0 : List Value) (w0 : va_W) {S : Type} (w1 : S → va_W) (post : Int32 → S → Prop) : Prop :=
  ∀ sz, Met l y ws (rm d) (va_Pc args0 (EffSB g ad av w0 sz)) (va_Qi post (fun u t => va_P g.1 vwCl (w1 u) t.heap ∧ va_D (va_A w0 sz) (w1 u)) (va_A w0 sz)) 0 0 (va_A w0 sz)
theorem PurSB.blind {g : gG} {ad av : Nat → Nat} {w0 : va_W} {args0 : List Value} : FrameBlind (va_Pc args0 (PurSB g ad av w0)) := fun a U f mk q => by
  obtain ⟨q0, ⟨q1, q2⟩, q3⟩ := q
  exact ⟨q0, ⟨q1, gK.same rfl q2⟩, q3.same rfl⟩
theorem EffSB.blind {g : gG} {ad av : Nat → Nat} {w0 : va_W} {args0 : List Value} {sz : Nat} : FrameBlind (va_Pc args0 (EffSB g ad av w0 sz)) := fun a U f mk q => by
  obtain ⟨q0, ⟨q1, q2, q3, q4⟩, q5⟩ := q
  exact ⟨q0, ⟨q1, q2, gK.same rfl q3, q4⟩, q5.same rfl⟩
section StartsS
variable {l : Launch} {g : gG} {ad av : Nat → Nat} {y : MethodName} {ws ws' : List Cond} {d : Nat} {args0 : List Value} {w0 : va_W} {cc : ByteArray} {maxL : Nat}
theorem PurIS.st {post : Int32 → Prop} (hy : plainName y.cls = true) (hw : ws = Cond.code y cc maxL (some .int) :: ws') (hlen : (lg_sl args0).length ≤ maxL)
    (body : ∀ (p : Program) (e : Env) (s : State) (m : MethodId) (args : Array Value) (below : List Frame) (meth : Method) (c : Code) (Q : State → Prop) (ls : Array Slot), CallFix p m c cc maxL s args ws y.cls → gK g s → va_P g.1 vwCl w0 s.heap → jF ad av (fun _ => False) s s.heap → lv_has ls maxL (lv_args 0 args0) →
      (∀ (pc : Nat) (ls : Array Slot) (v : Int32), decode cc pc = .ok (.ireturn, 1) → post v → W p l e (rm d) s m args below meth c s.heap [] 0 0 Q (F0 m pc ls [.int v])) →
      W p l e (rm d) s m args below meth c s.heap [] 0 0 Q (F0 m 0 ls [])) : PurIS l g ad av y ws d args0 w0 post := by
  refine Met.ofW (cc := cc) (maxL := maxL) (ret := some .int) hy hw ?_
  intro p e s m args below meth c s₁ B hml hv
  obtain ⟨hav, ⟨hP, hK⟩, hJ⟩ := hv
  rw [hav, lg_entry_eq, ← hav]
  have hr := B.returns
  have hlk := B.notSynchronized
  exact body p e s m args below meth c _ _ ⟨B.exec, B.bytes, hml, findClass_of_methodNamed B.named, atoms_spec (ws := ws) B.pre⟩ hK hP hJ (lv_entry args0 hlen)
    (fun pc ls v hdg hp => W.iret B.exec B.bytes hr (fun t ht _ => ⟨v, rfl, hp, ht⟩) (fun _ h => by cases h) hdg hlk)
theorem PurIS.sz {post : Int32 → Prop} (hy : plainName y.cls = true) (hw : ws = Cond.code y cc maxL (some .boolean) :: ws') (hlen : (lg_sl args0).length ≤ maxL)
    (body : ∀ (p : Program) (e : Env) (s : State) (m : MethodId) (args : Array Value) (below : List Frame) (meth : Method) (c : Code) (Q : State → Prop) (ls : Array Slot), CallFix p m c cc maxL s args ws y.cls → gK g s → va_P g.1 vwCl w0 s.heap → jF ad av (fun _ => False) s s.heap → lv_has ls maxL (lv_args 0 args0) →
      (∀ (pc : Nat) (ls : Array Slot) (v : Int32), decode cc pc = .ok (.ireturn, 1) → (v = 0 ∨ v = 1) → post v → W p l e (rm d) s m args below meth c s.heap [] 0 0 Q (F0 m pc ls [.int v])) →
      W p l e (rm d) s m args below meth c s.heap [] 0 0 Q (F0 m 0 ls [])) : PurIS l g ad av y ws d args0 w0 post := by
  refine Met.ofW (cc := cc) (maxL := maxL) (ret := some .boolean) hy hw ?_
  intro p e s m args below meth c s₁ B hml hv
  obtain ⟨hav, ⟨hP, hK⟩, hJ⟩ := hv
  rw [hav, lg_entry_eq, ← hav]
  have hr := B.returns
  have hlk := B.notSynchronized
  exact body p e s m args below meth c _ _ ⟨B.exec, B.bytes, hml, findClass_of_methodNamed B.named, atoms_spec (ws := ws) B.pre⟩ hK hP hJ (lv_entry args0 hlen)
    (fun pc ls v hdg hz hp => W.zret B.exec B.bytes hr (by rcases hz with rfl | rfl <;> rfl) (fun t ht _ => ⟨v, rfl, hp, ht⟩) (fun _ h => by cases h) hdg hlk)
theorem EffIS.st {S : Type} {w1 : S → va_W} {post : Int32 → S → Prop} (hy : plainName y.cls = true) (hw : ws = Cond.code y cc maxL (some .int) :: ws') (hlen : (lg_sl args0).length ≤ maxL)
    (body : ∀ (p : Program) (e : Env) (s : State) (m : MethodId) (args : Array Value) (below : List Frame) (meth : Method) (c : Code) (A : Nat → Prop) (Q : State → Prop) (ls : Array Slot), CallFix p m c cc maxL s args ws y.cls → gK g s → va_P g.1 vwCl w0 s.heap → va_D A w0 → (∀ q : Nat, s.heap.size ≤ q → A q) → va_S A s.heap s.heap [] → jF ad av A s s.heap → lv_has ls maxL (lv_args 0 args0) →
      (∀ (pc : Nat) (ls : Array Slot) (v : Int32) (H : Heap) (locs : List Loc) (u : S), decode cc pc = .ok (.ireturn, 1) → va_S A s.heap H locs → va_P g.1 vwCl (w1 u) H → va_D A (w1 u) → post v u → W p l e (rm d) s m args below meth c H locs 0 0 Q (F0 m pc ls [.int v])) →
      W p l e (rm d) s m args below meth c s.heap [] 0 0 Q (F0 m 0 ls [])) : EffIS l g ad av y ws d args0 w0 w1 post := by
  intro sz
  refine Met.ofW (cc := cc) (maxL := maxL) (ret := some .int) hy hw ?_
  intro p e s m args below meth c s₁ B hml hv
  obtain ⟨hav, ⟨hsz, hP, hK, hD0⟩, hJ⟩ := hv
  subst hsz
  rw [hav, lg_entry_eq, ← hav]
  have hr := B.returns
  have hlk := B.notSynchronized
  exact body p e s m args below meth c (va_A w0 s.heap.size) _ _ ⟨B.exec, B.bytes, hml, findClass_of_methodNamed B.named, atoms_spec (ws := ws) B.pre⟩ hK hP (hD0.self (sz := s.heap.size)) (fun q h => Or.inr h) va_S.rf hJ (lv_entry args0 hlen)
    (fun pc ls v H locs u hdg hS hP hD hp => W.iret B.exec B.bytes hr (fun t ht _ => ⟨⟨v, u, rfl, hp, by rw [ht]; exact hP, hD⟩, hS.F ht⟩) hS.2.2 hdg hlk)
theorem EffIS.sz {S : Type} {w1 : S → va_W} {post : Int32 → S → Prop} (hy : plainName y.cls = true) (hw : ws = Cond.code y cc maxL (some .boolean) :: ws') (hlen : (lg_sl args0).length ≤ maxL)
    (body : ∀ (p : Program) (e : Env) (s : State) (m : MethodId) (args : Array Value) (below : List Frame) (meth : Method) (c : Code) (A : Nat → Prop) (Q : State → Prop) (ls : Array Slot), CallFix p m c cc maxL s args ws y.cls → gK g s → va_P g.1 vwCl w0 s.heap → va_D A w0 → (∀ q : Nat, s.heap.size ≤ q → A q) → va_S A s.heap s.heap [] → jF ad av A s s.heap → lv_has ls maxL (lv_args 0 args0) →
      (∀ (pc : Nat) (ls : Array Slot) (v : Int32) (H : Heap) (locs : List Loc) (u : S), decode cc pc = .ok (.ireturn, 1) → (v = 0 ∨ v = 1) → va_S A s.heap H locs → va_P g.1 vwCl (w1 u) H → va_D A (w1 u) → post v u → W p l e (rm d) s m args below meth c H locs 0 0 Q (F0 m pc ls [.int v])) →
      W p l e (rm d) s m args below meth c s.heap [] 0 0 Q (F0 m 0 ls [])) : EffIS l g ad av y ws d args0 w0 w1 post := by
  intro sz
  refine Met.ofW (cc := cc) (maxL := maxL) (ret := some .boolean) hy hw ?_
  intro p e s m args below meth c s₁ B hml hv
  obtain ⟨hav, ⟨hsz, hP, hK, hD0⟩, hJ⟩ := hv
  subst hsz
  rw [hav, lg_entry_eq, ← hav]
  have hr := B.returns
  have hlk := B.notSynchronized
  exact body p e s m args below meth c (va_A w0 s.heap.size) _ _ ⟨B.exec, B.bytes, hml, findClass_of_methodNamed B.named, atoms_spec (ws := ws) B.pre⟩ hK hP (hD0.self (sz := s.heap.size)) (fun q h => Or.inr h) va_S.rf hJ (lv_entry args0 hlen)
    (fun pc ls v H locs u hdg hz hS hP hD hp => W.zret B.exec B.bytes hr (by rcases hz with rfl | rfl <;> rfl) (fun t ht _ => ⟨⟨v, u, rfl, hp, by rw [ht]; exact hP, hD⟩, hS.F ht⟩) hS.2.2 hdg hlk)
end StartsS
section CallsS
variable {ad av : Nat → Nat} {A0 : Nat → Prop} {p : Program} {l : Launch} {e : Env} {R : Room} {s : State} {m : MethodId} {args : Array Value} {below : List Frame} {meth : Method} {c : Code} {H : Heap} {locs : List Loc} {Q : State → Prop} {g : gG} {cc bytes : ByteArray} {A : Nat → Prop} {H0 : Heap} {pc nL maxL n index d : Nat} {ls : Array Slot} {rest st0 As : List Value} {Ts ws ws' : List Cond} {own C : String} {y : MethodName} {ret : Option FieldType} {b : Addr} {w0 wc wr : va_W}
variable {ci N : Nat} {T : u_T} {fs : List Value}
theorem PurIS.cv {post : Int32 → Prop} (hM : PurIS l g ad av y ws d (.ref b :: As) w0 post) (fx : CallFix p m c cc nL s args Ts own) (hG : GoodIn Ts (wsV own index C y ws)) (hw : ws = Cond.code y bytes maxL ret :: ws') (hd : hdV y C n) (hR : roomOk d maxL R)
    (hJ : jF ad av A s s.heap) (hS : va_S A s.heap H locs) (hK : gK g s) (hP : va_P g.1 vwCl wc H) (isC : List Nat) (hC : isC.filterMap (fun i => wc[i]?) = w0) (hq : w0[0]? = some (b, .inr (ci, fs))) (hc : vwCl[ci]? = some (C, T, N))
    (hst : st0 = As.reverse ++ .ref b :: rest) (hn : As.length = n) (hsz : ls.size = nL) (hcat : (rest.map fun v => v.category).sum ≤ 8) (hdg : decode cc pc = .ok (.invokevirtual index, 3))
    (kk : ∀ r : Int32, post r → W p l e R s m args below meth c H locs 0 0 Q (F0 m (pc + 3) ls (.int r :: rest))) : W p l e R s m args below meth c H locs 0 0 Q (F0 m pc ls st0) := by
  have hP0 := hP.sub (ws' := w0) isC hC
  refine run_pi (va_runV fx hM (cwV n fx.2.2.2.2 hG hw rfl rfl hd hR) ⟨PurSB.blind, gr_recv hK hP0 hc hq, fun U hU hW => ⟨rfl, ⟨by rw [hU]; exact hP0, gK.warm hW hK⟩, by rw [hU]; exact (hJ.at hS).warm hW⟩⟩ rfl hn hsz hst (lv_room (pc := pc) (ls := ls) (rest := st0) (m := m) hcat) hdg ⟨Nat.zero_le _, Nat.zero_le _⟩) kk
theorem EffIS.cv {S : Type} {w1 w' : S → va_W} {post : Int32 → S → Prop} (hM : EffIS l g ad av y ws d (.ref b :: As) w0 w1 post) (fx : CallFix p m c cc nL s args Ts own) (hG : GoodIn Ts (wsV own index C y ws)) (hw : ws = Cond.code y bytes maxL ret :: ws') (hd : hdV y C n) (hR : roomOk d maxL R)
    (hJ : jF ad av A s s.heap) (hK : gK g s) (hP : va_P g.1 vwCl wc H) (hD : va_D A wc) (hS : va_S A s.heap H locs) (hA : ∀ q : Nat, s.heap.size ≤ q → A q) (isC isR isB : List Nat) (hC : isC.map (fun i => wc[i]?) = w0.map some) (hRs : isR.map (fun i => wc[i]?) = wr.map some) (hn0 : va_nd isC = true) (hn1 : va_nd isR = true) (hdis : ∀ i ∈ isR, i ∉ isC) (hn2 : va_nd isB = true) (hB : ∀ u, isB.map (fun i => (wr ++ w1 u)[i]?) = (w' u).map some)
    (hq : w0[0]? = some (b, .inr (ci, fs))) (hc : vwCl[ci]? = some (C, T, N)) (hst : st0 = As.reverse ++ .ref b :: rest) (hn : As.length = n) (hsz : ls.size = nL) (hcat : (rest.map fun v => v.category).sum ≤ 8) (hdg : decode cc pc = .ok (.invokevirtual index, 3))
    (kk : ∀ (r : Int32) (u : S) (H1 : Heap) (locs1 : List Loc), post r u → va_P g.1 vwCl (w' u) H1 → va_D A (w' u) → va_S A s.heap H1 locs1 → W p l e R s m args below meth c H1 locs1 0 0 Q (F0 m (pc + 3) ls (.int r :: rest))) : W p l e R s m args below meth c H locs 0 0 Q (F0 m pc ls st0) := by
  have hP0 := hP.sub (ws' := w0) isC (fm_map hC)
  have hD0 := hD.sub (ws' := w0) isC hn0 hC
  have hF := va_free (wc := w0) hD hS hA isC hC
  refine va_calli (va_runV fx (hM H.size) (cwV n fx.2.2.2.2 hG hw rfl rfl hd hR) ⟨EffSB.blind, gr_recv hK hP0 hc hq, fun U hU hW => ⟨rfl, ⟨by rw [hU], by rw [hU]; exact hP0, gK.warm hW hK, hD0.weaken (fun _ _ _ _ => trivial)⟩, by rw [hU]; exact ((hJ.kept hS.2.1).narrow hF).warm hW⟩⟩ rfl hn hsz hst (lv_room (pc := pc) (ls := ls) (rest := st0) (m := m) hcat) hdg ⟨Nat.zero_le _, Nat.zero_le _⟩) hS (fun q _ h => hF q h) hF (fun r u t H1 locs1 ht _ hw1 hB1 _ hk hS1 => ?_)
  obtain ⟨hP1, hD1⟩ := hB1
  rw [ht] at hP1
  obtain ⟨h1, h2⟩ := eff_join hP hD hF isC isR isB hC hRs hn1 hdis hn2 (hB u) hk hP1 hD1
  exact kk r u H1 locs1 hw1 h1 h2 hS1
end CallsS
set_option maxHeartbeats 4000000 in
set_option maxRecDepth 100000 in
theorem kJ0_coder_7d493 (l : Launch) (ad av : Nat → Nat) (i : Nat) (hi : i < 12) : PurJ l ad av yJ0_coder_7d493 wsJ0_coder_7d493 0 [.ref (ad i)] (fun r => r = 0) := by
  refine PurJ.st (cc := cJ0_coder_7d493) (maxL := 1) (by decide) rfl (Nat.le_of_ble_eq_true rfl) (fun p e s m args below meth c Q ls fx hJ hl hret => ?_)
  have hx := fx.1
  have hb := fx.2.1
  have hown := fx.2.2.2.1
  have hts := fx.2.2.2.2
  have hl : lv_has ls 1 [(0, .ref (ad i))] := hl
  refine va_gets hx hb hJ.2.1 va_S.rf hown (hts _ (uT _ _ u_403)) (fun _ h => h) dJ0_coder_7d493_0 ?_
  refine q_if_eq (tgt := 13) hx hb dJ0_coder_7d493_3 (by decide) (by decide : (1 : Int32).toInt = 1) (fun b k => absurd b (by decide)) (fun b k => ?_)
  refine lv_aload_n hx hb dJ0_coder_7d493_6 rfl (lv_at hl 0 rfl) ?_
  refine vk_getf hx hb (hJ.1.1 i hi).2.1 va_S.rf hown (hts _ (uT _ _ u_404)) (fun _ h => h) dJ0_coder_7d493_7 ?_
  refine lv_goto (tgt := 14) hx hb dJ0_coder_7d493_10 (by decide) ?_
  exact hret 14 ls 0 dJ0_coder_7d493_14 rfl rfl

set_option maxHeartbeats 4000000 in
set_option maxRecDepth 100000 in
theorem kJ0_isLatin1_aae02 (l : Launch) (ad av : Nat → Nat) (i : Nat) (hi : i < 12) : PurJ l ad av yJ0_isLatin1_aae02 wsJ0_isLatin1_aae02 0 [.ref (ad i)] (fun r => r = 1) := by
  refine PurJ.st (cc := cJ0_isLatin1_aae02) (maxL := 1) (by decide) rfl (Nat.le_of_ble_eq_true rfl) (fun p e s m args below meth c Q ls fx hJ hl hret => ?_)
  have hx := fx.1
  have hb := fx.2.1
  have hown := fx.2.2.2.1
  have hts := fx.2.2.2.2
  have hl : lv_has ls 1 [(0, .ref (ad i))] := hl
  refine va_gets hx hb hJ.2.1 va_S.rf hown (hts _ (uT _ _ u_403)) (fun _ h => h) dJ0_isLatin1_aae02_0 ?_
  refine q_if_eq (tgt := 17) hx hb dJ0_isLatin1_aae02_3 (by decide) (by decide : (1 : Int32).toInt = 1) (fun b k => absurd b (by decide)) (fun b k => ?_)
  refine lv_aload_n hx hb dJ0_isLatin1_aae02_6 rfl (lv_at hl 0 rfl) ?_
  refine vk_getf hx hb (hJ.1.1 i hi).2.1 va_S.rf hown (hts _ (uT _ _ u_404)) (fun _ h => h) dJ0_isLatin1_aae02_7 ?_
  refine q_if_ne (tgt := 17) hx hb dJ0_isLatin1_aae02_10 (by decide) (by decide : (0 : Int32).toInt = 0) (fun b k => absurd rfl b) (fun b k => ?_)
  refine lv_iconst (v := 1) hx hb dJ0_isLatin1_aae02_13 (by decide) ?_
  refine lv_goto (tgt := 18) hx hb dJ0_isLatin1_aae02_14 (by decide) ?_
  exact hret 18 ls 1 dJ0_isLatin1_aae02_18 rfl rfl

set_option maxHeartbeats 4000000 in
set_option maxRecDepth 100000 in
theorem kJ0_length_8abf5 (l : Launch) (ad av : Nat → Nat) (i : Nat) (hi : i < 12) : PurJ l ad av yJ0_length_8abf5 wsJ0_length_8abf5 1 [.ref (ad i)] (fun r => r.toInt = (lenS.getD i 0 : Nat)) := by
  refine PurJ.st (cc := cJ0_length_8abf5) (maxL := 1) (by decide) rfl (Nat.le_of_ble_eq_true rfl) (fun p e s m args below meth c Q ls fx hJ hl hret => ?_)
  have hx := fx.1
  have hb := fx.2.1
  have hown := fx.2.2.2.1
  have hts := fx.2.2.2.2
  have hl : lv_has ls 1 [(0, .ref (ad i))] := hl
  refine lv_aload_n hx hb dJ0_length_8abf5_0 rfl (lv_at hl 0 rfl) ?_
  refine vk_getf hx hb (hJ.1.1 i hi).2.2.1 va_S.rf hown (hts _ (uT _ _ u_398)) (fun _ h => h) dJ0_length_8abf5_1 ?_
  refine va_tlen hx hb (hJ.1.1 i hi).2.2.2 va_S.rf (v := nI (lenS.getD i 0)) rfl dJ0_length_8abf5_4 ?_
  refine lv_aload_n hx hb dJ0_length_8abf5_5 rfl (lv_at hl 0 rfl) ?_
  refine PurJ.cv (As := []) (kJ0_coder_7d493 l ad av i hi) hi fx (gUV (uT _) u_399 u_400 u_401 u_396 u_402) rfl hdJ0_coder_7d493 ⟨Nat.le_of_ble_eq_true rfl, Nat.le_of_ble_eq_true rfl⟩ hJ va_S.rf rfl rfl hl.1 (Nat.le_of_ble_eq_true rfl) dJ0_length_8abf5_6 (fun r pr => ?_)
  subst pr
  refine lv_ishr hx hb dJ0_length_8abf5_9 ?_
  have hn := lenS_ok i hi
  refine q_nm (fun z ez => ?_)
  have e1 : z = nI (lenS.getD i 0) := by rw [ez, pk_shrN (by omega) _ 0 (by decide)]; simp
  exact hret 10 ls z dJ0_length_8abf5_10 rfl (by rw [e1, nI_toInt (by omega)])

set_option maxHeartbeats 4000000 in
set_option maxRecDepth 100000 in
theorem kJ3_checkIndex_8e157 (l : Launch) (ad av : Nat → Nat) (k n : Int32) (t : Nat) (hk : 0 ≤ k.toInt ∧ k.toInt < n.toInt) : PurJ l ad av yJ3_checkIndex_8e157 wsJ3_checkIndex_8e157 0 [.int k, .int n, .ref t] (fun r => r = k) := by
  refine PurJ.st (cc := cJ3_checkIndex_8e157) (maxL := 3) (by decide) rfl (Nat.le_of_ble_eq_true rfl) (fun p e s m args below meth c Q ls fx hJ hl hret => ?_)
  have hx := fx.1
  have hb := fx.2.1
  have hown := fx.2.2.2.1
  have hts := fx.2.2.2.2
  have hl : lv_has ls 3 [(0, .int k), (1, .int n), (2, .ref t)] := hl
  refine lv_iload_n hx hb dJ3_checkIndex_8e157_0 rfl (lv_at hl 0 rfl) ?_
  refine q_if_lt (tgt := 9) hx hb dJ3_checkIndex_8e157_1 (by decide) rfl (fun q => by exfalso; omega) (fun q => ?_)
  refine lv_iload_n hx hb dJ3_checkIndex_8e157_4 rfl (lv_at hl 0 rfl) ?_
  refine lv_iload_n hx hb dJ3_checkIndex_8e157_5 rfl (lv_at hl 1 rfl) ?_
  refine q_icmp_lt (tgt := 16) hx hb dJ3_checkIndex_8e157_6 (by decide) rfl rfl (fun q => ?_) (fun q => by exfalso; omega)
  refine lv_iload_n hx hb dJ3_checkIndex_8e157_16 rfl (lv_at hl 0 rfl) ?_
  exact hret 17 ls k dJ3_checkIndex_8e157_17 rfl rfl

set_option maxHeartbeats 4000000 in
set_option maxRecDepth 100000 in
theorem kJ3_checkIndex_8e157n (l : Launch) (ad av : Nat → Nat) (k n : Int32) (hk : 0 ≤ k.toInt ∧ k.toInt < n.toInt) : PurJ l ad av yJ3_checkIndex_8e157 wsJ3_checkIndex_8e157 0 [.int k, .int n, .null] (fun r => r = k) := by
  refine PurJ.st (cc := cJ3_checkIndex_8e157) (maxL := 3) (by decide) rfl (Nat.le_of_ble_eq_true rfl) (fun p e s m args below meth c Q ls fx hJ hl hret => ?_)
  have hx := fx.1
  have hb := fx.2.1
  have hown := fx.2.2.2.1
  have hts := fx.2.2.2.2
  have hl : lv_has ls 3 [(0, .int k), (1, .int n), (2, .null)] := hl
  refine lv_iload_n hx hb dJ3_checkIndex_8e157_0 rfl (lv_at hl 0 rfl) ?_
  refine q_if_lt (tgt := 9) hx hb dJ3_checkIndex_8e157_1 (by decide) rfl (fun q => by exfalso; omega) (fun q => ?_)
  refine lv_iload_n hx hb dJ3_checkIndex_8e157_4 rfl (lv_at hl 0 rfl) ?_
  refine lv_iload_n hx hb dJ3_checkIndex_8e157_5 rfl (lv_at hl 1 rfl) ?_
  refine q_icmp_lt (tgt := 16) hx hb dJ3_checkIndex_8e157_6 (by decide) rfl rfl (fun q => ?_) (fun q => by exfalso; omega)
  refine lv_iload_n hx hb dJ3_checkIndex_8e157_16 rfl (lv_at hl 0 rfl) ?_
  exact hret 17 ls k dJ3_checkIndex_8e157_17 rfl rfl

set_option maxHeartbeats 4000000 in
set_option maxRecDepth 100000 in
theorem kJ0_checkIndex_df160 (l : Launch) (ad av : Nat → Nat) (k n : Int32) (hk : 0 ≤ k.toInt ∧ k.toInt < n.toInt) : PurJV l ad av yJ0_checkIndex_df160 wsJ0_checkIndex_df160 1 [.int k, .int n] := by
  refine PurJV.st (cc := cJ0_checkIndex_df160) (maxL := 2) (by decide) rfl (Nat.le_of_ble_eq_true rfl) (fun p e s m args below meth c Q ls fx hJ hl hret => ?_)
  have hx := fx.1
  have hb := fx.2.1
  have hown := fx.2.2.2.1
  have hts := fx.2.2.2.2
  have hl : lv_has ls 2 [(0, .int k), (1, .int n)] := hl
  obtain ⟨v, hv, hZ⟩ := hJ.2.2.1
  refine lv_iload_n hx hb dJ0_checkIndex_df160_0 rfl (lv_at hl 0 rfl) ?_
  refine lv_iload_n hx hb dJ0_checkIndex_df160_1 rfl (lv_at hl 1 rfl) ?_
  refine va_gets hx hb hZ va_S.rf hown (hts _ (uT _ _ u_420)) (fun _ h => h) dJ0_checkIndex_df160_2 ?_
  rcases hv with ⟨t, rfl⟩ | rfl
  · refine PurJ.cs (C := RJ3) (As := [.int k, .int n, .ref t]) (kJ3_checkIndex_8e157 l ad av k n t hk) fx (gUS (uT _) u_421 u_422 u_423 u_424) rfl hdJ3_checkIndex_8e157 ⟨Nat.le_of_ble_eq_true rfl, Nat.le_of_ble_eq_true rfl⟩ hJ va_S.rf rfl rfl hl.1 (Nat.le_of_ble_eq_true rfl) dJ0_checkIndex_df160_5 (fun r pr => ?_)
    refine lv_pop hx hb dJ0_checkIndex_df160_8 rfl ?_
    exact hret 9 ls dJ0_checkIndex_df160_9
  · refine PurJ.cs (C := RJ3) (As := [.int k, .int n, .null]) (kJ3_checkIndex_8e157n l ad av k n hk) fx (gUS (uT _) u_421 u_422 u_423 u_424) rfl hdJ3_checkIndex_8e157 ⟨Nat.le_of_ble_eq_true rfl, Nat.le_of_ble_eq_true rfl⟩ hJ va_S.rf rfl rfl hl.1 (Nat.le_of_ble_eq_true rfl) dJ0_checkIndex_df160_5 (fun r pr => ?_)
    refine lv_pop hx hb dJ0_checkIndex_df160_8 rfl ?_
    exact hret 9 ls dJ0_checkIndex_df160_9

set_option maxHeartbeats 4000000 in
set_option maxRecDepth 100000 in
theorem kJ1_charAt_3b067 (l : Launch) (ad av : Nat → Nat) (i : Nat) (hi : i < 12) (k : Int32) (hk : 0 ≤ k.toInt ∧ k.toInt < (lenS.getD i 0 : Nat)) : PurJ l ad av yJ1_charAt_3b067 wsJ1_charAt_3b067 2 [.ref (av i), .int k] (fun r => r = (byS.getD i []).getD k.toNatClampNeg 0) := by
  refine PurJ.st (cc := cJ1_charAt_3b067) (maxL := 2) (by decide) rfl (Nat.le_of_ble_eq_true rfl) (fun p e s m args below meth c Q ls fx hJ hl hret => ?_)
  have hx := fx.1
  have hb := fx.2.1
  have hown := fx.2.2.2.1
  have hts := fx.2.2.2.2
  have hl : lv_has ls 2 [(0, .ref (av i)), (1, .int k)] := hl
  have hn := lenS_ok i hi
  have hkc := t_cl (i := k) rfl hk.1
  have hbs := byS_ok i hi k.toNatClampNeg (by omega)
  refine lv_iload_n hx hb dJ1_charAt_3b067_0 rfl (lv_at hl 1 rfl) ?_
  refine lv_aload_n hx hb dJ1_charAt_3b067_1 rfl (lv_at hl 0 rfl) ?_
  refine va_tlen hx hb (hJ.1.1 i hi).2.2.2 va_S.rf (v := nI (lenS.getD i 0)) rfl dJ1_charAt_3b067_2 ?_
  refine PurJV.cs (C := RJ0) (As := [.int k, .int (nI (lenS.getD i 0))]) (kJ0_checkIndex_df160 l ad av k (nI (lenS.getD i 0)) (by rw [nI_toInt (by omega)]; exact hk)) fx (gUS (uT _) u_417 u_418 u_396 u_419) rfl hdJ0_checkIndex_df160 ⟨Nat.le_of_ble_eq_true rfl, Nat.le_of_ble_eq_true rfl⟩ hJ va_S.rf rfl rfl hl.1 (Nat.le_of_ble_eq_true rfl) dJ1_charAt_3b067_3 ?_
  refine lv_aload_n hx hb dJ1_charAt_3b067_6 rfl (lv_at hl 0 rfl) ?_
  refine lv_iload_n hx hb dJ1_charAt_3b067_7 rfl (lv_at hl 1 rfl) ?_
  refine va_tb hx hb (hJ.1.1 i hi).2.2.2 va_S.rf (i := k) (t_in hk) (v := .int ((byS.getD i []).getD k.toNatClampNeg 0)) rfl dJ1_charAt_3b067_8 ?_
  refine lv_sipush (v := 255) hx hb dJ1_charAt_3b067_9 (by decide) ?_
  refine lv_iand hx hb dJ1_charAt_3b067_12 ?_
  refine lv_i2c hx hb dJ1_charAt_3b067_13 hbs.1 ?_
  exact hret 14 ls _ dJ1_charAt_3b067_14 hbs.2 rfl

set_option maxHeartbeats 4000000 in
set_option maxRecDepth 100000 in
theorem kJ0_charAt_5068e (l : Launch) (ad av : Nat → Nat) (i : Nat) (hi : i < 12) (k : Int32) (hk : 0 ≤ k.toInt ∧ k.toInt < (lenS.getD i 0 : Nat)) : PurJ l ad av yJ0_charAt_5068e wsJ0_charAt_5068e 3 [.ref (ad i), .int k] (fun r => r = (byS.getD i []).getD k.toNatClampNeg 0) := by
  refine PurJ.st (cc := cJ0_charAt_5068e) (maxL := 2) (by decide) rfl (Nat.le_of_ble_eq_true rfl) (fun p e s m args below meth c Q ls fx hJ hl hret => ?_)
  have hx := fx.1
  have hb := fx.2.1
  have hown := fx.2.2.2.1
  have hts := fx.2.2.2.2
  have hl : lv_has ls 2 [(0, .ref (ad i)), (1, .int k)] := hl
  have hkc := t_cl (i := k) rfl hk.1
  have hbs := byS_ok i hi k.toNatClampNeg (by omega)
  refine lv_aload_n hx hb dJ0_charAt_5068e_0 rfl (lv_at hl 0 rfl) ?_
  refine PurJ.cv (As := []) (kJ0_isLatin1_aae02 l ad av i hi) hi fx (gUV (uT _) u_409 u_410 u_411 u_396 u_412) rfl hdJ0_isLatin1_aae02 ⟨Nat.le_of_ble_eq_true rfl, Nat.le_of_ble_eq_true rfl⟩ hJ va_S.rf rfl rfl hl.1 (Nat.le_of_ble_eq_true rfl) dJ0_charAt_5068e_1 (fun r pr => ?_)
  subst pr
  refine q_if_eq (tgt := 16) hx hb dJ0_charAt_5068e_4 (by decide) (by decide : (1 : Int32).toInt = 1) (fun b k => absurd b (by decide)) (fun b k => ?_)
  refine lv_aload_n hx hb dJ0_charAt_5068e_7 rfl (lv_at hl 0 rfl) ?_
  refine vk_getf hx hb (hJ.1.1 i hi).2.2.1 va_S.rf hown (hts _ (uT _ _ u_398)) (fun _ h => h) dJ0_charAt_5068e_8 ?_
  refine lv_iload_n hx hb dJ0_charAt_5068e_11 rfl (lv_at hl 1 rfl) ?_
  refine PurJ.cs (C := RJ1) (As := [.ref (av i), .int _]) (kJ1_charAt_3b067 l ad av i hi _ hk) fx (gUS (uT _) u_413 u_414 u_415 u_416) rfl hdJ1_charAt_3b067 ⟨Nat.le_of_ble_eq_true rfl, Nat.le_of_ble_eq_true rfl⟩ hJ va_S.rf rfl rfl hl.1 (Nat.le_of_ble_eq_true rfl) dJ0_charAt_5068e_12 (fun r pr => ?_)
  subst pr
  exact hret 15 ls _ dJ0_charAt_5068e_15 hbs.2 rfl

