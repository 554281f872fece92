theorem wi_X0 : (Cond.instantiable RX0 2) ∈ lw_tbl := tb_2 _ (List.mem_of_getElem? (i := 57) rfl)
theorem wi_X1 : (Cond.instantiable RX1 9) ∈ lw_tbl := tb_1 _ (List.mem_of_getElem? (i := 214) rfl)
theorem wi_X2 : (Cond.instantiable RX2 4) ∈ lw_tbl := tb_2 _ (List.mem_of_getElem? (i := 90) rfl)
theorem wi_X3 : (Cond.instantiable RX3 10) ∈ lw_tbl := tb_1 _ (List.mem_of_getElem? (i := 47) rfl)
theorem wi_X4 : (Cond.instantiable RX4 11) ∈ lw_tbl := tb_2 _ (List.mem_of_getElem? (i := 14) rfl)
theorem wi_X5 : (Cond.instantiable RX5 3) ∈ lw_tbl := tb_1 _ (List.mem_of_getElem? (i := 145) rfl)
theorem wi_X6 : (Cond.instantiable RX6 10) ∈ lw_tbl := tb_1 _ (List.mem_of_getElem? (i := 165) rfl)
theorem wi_X7 : (Cond.instantiable RX7 8) ∈ lw_tbl := tb_1 _ (List.mem_of_getElem? (i := 53) rfl)
theorem wi_X8 : (Cond.instantiable RX8 3) ∈ lw_tbl := tb_1 _ (List.mem_of_getElem? (i := 29) rfl)
theorem wi_X9 : (Cond.instantiable RX9 3) ∈ lw_tbl := tb_2 _ (List.mem_of_getElem? (i := 71) rfl)
theorem wi_X10 : (Cond.instantiable RX10 20) ∈ lw_tbl := tb_1 _ (List.mem_of_getElem? (i := 21) rfl)
theorem wi_X11 : (Cond.instantiable RX11 46) ∈ lw_tbl := tb_6 _ (List.mem_of_getElem? (i := 99) rfl)
theorem wa_int : (Cond.arrayClass .int) ∈ lw_tbl := tb_1 _ (List.mem_of_getElem? (i := 44) rfl)
theorem wa_long : (Cond.arrayClass .long) ∈ lw_tbl := tb_1 _ (List.mem_of_getElem? (i := 45) rfl)
theorem wa_byte : (Cond.arrayClass .byte) ∈ lw_tbl := tb_3 _ (List.mem_of_getElem? (i := 186) rfl)
theorem wa_mark : (Cond.arrayOver (.object "RaisedPress$Mark")) ∈ lw_tbl := tb_2 _ (List.mem_of_getElem? (i := 89) rfl)
set_option maxRecDepth 100000 in
theorem nest_in : ∀ q ∈ nestM, Cond.methodLinkNest q.1 q.2.1 q.2.2.1 q.2.2.2 ∈ lw_tbl := List.forall_mem_cons.mpr ⟨tb_2 _ (List.mem_of_getElem? (i := 91) rfl), List.forall_mem_cons.mpr ⟨tb_1 _ (List.mem_of_getElem? (i := 48) rfl), List.forall_mem_cons.mpr ⟨tb_1 _ (List.mem_of_getElem? (i := 146) rfl), List.forall_mem_cons.mpr ⟨tb_1 _ (List.mem_of_getElem? (i := 166) rfl), List.forall_mem_cons.mpr ⟨tb_1 _ (List.mem_of_getElem? (i := 215) rfl), List.forall_mem_cons.mpr ⟨tb_2 _ (List.mem_of_getElem? (i := 15) rfl), List.forall_mem_cons.mpr ⟨tb_2 _ (List.mem_of_getElem? (i := 58) rfl), List.forall_mem_cons.mpr ⟨tb_2 _ (List.mem_of_getElem? (i := 72) rfl), List.forall_mem_cons.mpr ⟨tb_2 _ (List.mem_of_getElem? (i := 98) rfl), List.forall_mem_cons.mpr ⟨tb_3 _ (List.mem_of_getElem? (i := 133) rfl), List.forall_mem_cons.mpr ⟨tb_3 _ (List.mem_of_getElem? (i := 46) rfl), List.forall_mem_cons.mpr ⟨tb_3 _ (List.mem_of_getElem? (i := 49) rfl), List.forall_mem_cons.mpr ⟨tb_3 _ (List.mem_of_getElem? (i := 52) rfl), List.forall_mem_cons.mpr ⟨tb_5 _ (List.mem_of_getElem? (i := 55) rfl), List.forall_mem_cons.mpr ⟨tb_5 _ (List.mem_of_getElem? (i := 64) rfl), List.forall_mem_cons.mpr ⟨tb_4 _ (List.mem_of_getElem? (i := 185) rfl), List.forall_mem_cons.mpr ⟨tb_4 _ (List.mem_of_getElem? (i := 186) rfl), List.forall_mem_cons.mpr ⟨tb_4 _ (List.mem_of_getElem? (i := 208) rfl), List.forall_mem_cons.mpr ⟨tb_4 _ (List.mem_of_getElem? (i := 20) rfl), List.forall_mem_cons.mpr ⟨tb_3 _ (List.mem_of_getElem? (i := 199) rfl), List.forall_mem_cons.mpr ⟨tb_3 _ (List.mem_of_getElem? (i := 204) rfl), List.forall_mem_cons.mpr ⟨tb_3 _ (List.mem_of_getElem? (i := 231) rfl), List.forall_mem_cons.mpr ⟨tb_3 _ (List.mem_of_getElem? (i := 209) rfl), List.forall_mem_cons.mpr ⟨tb_4 _ (List.mem_of_getElem? (i := 2) rfl), List.forall_mem_cons.mpr ⟨tb_4 _ (List.mem_of_getElem? (i := 14) rfl), List.forall_mem_cons.mpr ⟨tb_4 _ (List.mem_of_getElem? (i := 15) rfl), List.forall_mem_cons.mpr ⟨tb_5 _ (List.mem_of_getElem? (i := 218) rfl), List.forall_mem_nil _⟩⟩⟩⟩⟩⟩⟩⟩⟩⟩⟩⟩⟩⟩⟩⟩⟩⟩⟩⟩⟩⟩⟩⟩⟩⟩⟩
theorem ar_of {s : State} {A : Array Value} {ty : FieldType} (h : (Cond.arrayClass ty).before A s = true) : ∃ c : ClassId, ArrOfT s c ty ∧ s.vm.findClass ("[" ++ ty.toString) = some c := by
  obtain ⟨c, k, comp, h1, h2, h3⟩ := Cond.arrayClass_spec h
  exact ⟨c, fun n z => ⟨(fun k h => by cases h), k, h2, comp, h3⟩, h1⟩
theorem am_of {s : State} {A : Array Value} {C : String} (h : (Cond.arrayOver (.object C)).before A s = true) : ∃ c : ClassId, ArrOfT s c (.object C) ∧ va_RA s c (.object C) := by
  obtain ⟨comp, c, k, h1, h2, h3, h4, h5⟩ := Cond.arrayOver_spec h
  exact ⟨c, fun n z => ⟨(fun k h => by cases h), k, h3, comp, h4⟩, k, comp, h3, h4, h1, h5⟩
set_option maxRecDepth 100000 in
theorem g_of {s : State} {A : Array Value} (hts : ∀ w ∈ lw_tbl, w.before A s = true) : ∃ g : gG, gK g s := by
  obtain ⟨dX0, iX0, kX0⟩ := u_known (C := RX0) (T := TX0) (N := 2) (n := 2) hts lx_X0 (hts _ (wi_X0))
  obtain ⟨dX1, iX1, kX1⟩ := u_known (C := RX1) (T := TX1) (N := 9) (n := 9) hts lx_X1 (hts _ (wi_X1))
  obtain ⟨dX2, iX2, kX2⟩ := u_known (C := RX2) (T := TX2) (N := 4) (n := 4) hts lx_X2 (hts _ (wi_X2))
  obtain ⟨dX3, iX3, kX3⟩ := u_known (C := RX3) (T := TX3) (N := 10) (n := 10) hts lx_X3 (hts _ (wi_X3))
  obtain ⟨dX4, iX4, kX4⟩ := u_known (C := RX4) (T := TX4) (N := 11) (n := 11) hts lx_X4 (hts _ (wi_X4))
  obtain ⟨dX5, iX5, kX5⟩ := u_known (C := RX5) (T := TX5) (N := 3) (n := 3) hts lx_X5 (hts _ (wi_X5))
  obtain ⟨dX6, iX6, kX6⟩ := u_known (C := RX6) (T := TX6) (N := 10) (n := 10) hts lx_X6 (hts _ (wi_X6))
  obtain ⟨dX7, iX7, kX7⟩ := u_known (C := RX7) (T := TX7) (N := 8) (n := 8) hts lx_X7 (hts _ (wi_X7))
  obtain ⟨dX8, iX8, kX8⟩ := u_known (C := RX8) (T := TX8) (N := 3) (n := 3) hts lx_X8 (hts _ (wi_X8))
  obtain ⟨dX9, iX9, kX9⟩ := u_known (C := RX9) (T := TX9) (N := 3) (n := 3) hts lx_X9 (hts _ (wi_X9))
  obtain ⟨dX10, iX10, kX10⟩ := u_known (C := RX10) (T := TX10) (N := 20) (n := 20) hts lx_X10 (hts _ (wi_X10))
  obtain ⟨dX11, iX11, kX11⟩ := u_known (C := RX11) (T := TX11) (N := 46) (n := 46) hts lx_X11 (hts _ (wi_X11))
  obtain ⟨cI, rI, fI⟩ := ar_of (hts _ wa_int)
  obtain ⟨cL, rL, fL⟩ := ar_of (hts _ wa_long)
  obtain ⟨cB, rB, fB⟩ := ar_of (hts _ wa_byte)
  obtain ⟨cM, rM, fM⟩ := am_of (C := "RaisedPress$Mark") (hts _ wa_mark)
  refine ⟨((fun k => [dX0, dX1, dX2, dX3, dX4, dX5, dX6, dX7, dX8, dX9, dX10, dX11].getD k dX0, fun k => [iX0, iX1, iX2, iX3, iX4, iX5, iX6, iX7, iX8, iX9, iX10, iX11].getD k iX0), cI, cL, cB, cM), ⟨fun c q hq => ?_, fun k q hk => ?_⟩, ?_, va_AO.of (hts _ wa_mark)⟩
  · match c, hq with
    | 0, hq => exact (Option.some.inj hq) ▸ kX0
    | 1, hq => exact (Option.some.inj hq) ▸ kX1
    | 2, hq => exact (Option.some.inj hq) ▸ kX2
    | 3, hq => exact (Option.some.inj hq) ▸ kX3
    | 4, hq => exact (Option.some.inj hq) ▸ kX4
    | 5, hq => exact (Option.some.inj hq) ▸ kX5
    | 6, hq => exact (Option.some.inj hq) ▸ kX6
    | 7, hq => exact (Option.some.inj hq) ▸ kX7
    | 8, hq => exact (Option.some.inj hq) ▸ kX8
    | 9, hq => exact (Option.some.inj hq) ▸ kX9
    | 10, hq => exact (Option.some.inj hq) ▸ kX10
    | 11, hq => exact (Option.some.inj hq) ▸ kX11
    | n + 12, hq => exact absurd hq (by simp [vwCl])
  · match k, hk with
    | 0, hk => exact (Option.some.inj hk) ▸ ⟨rI, fI⟩
    | 1, hk => exact (Option.some.inj hk) ▸ ⟨rL, fL⟩
    | 2, hk => exact (Option.some.inj hk) ▸ ⟨rB, fB⟩
    | 3, hk => exact (Option.some.inj hk) ▸ ⟨rM, fM⟩
    | n + 4, hk => exact absurd hk (by simp [gT])
  · exact fun q hq => va_Nw.of rfl (hts _ (nest_in q hq))
def tmS (i : Nat) : Term := Term.string ((litS.getD i ("", 0, "", 0)).1) ((litS.getD i ("", 0, "", 0)).2.1)
abbrev FLs : List Cond := flatC (Jvm.Cond.and given_1 narrow_1)
theorem st_ex : ∀ i, i < 12 → Cond.exactly (tmS i) "java/lang/String" ∈ FLs := by decide +kernel
theorem st_co : ∀ i, i < 12 → Cond.eq (.field (tmS i) "java/lang/String" "coder" "B") (.int 0) ∈ FLs := by decide +kernel
theorem st_ar : ∀ i, i < 12 → Cond.arrayOf (Term.field (tmS i) "java/lang/String" "value" "[B") .byte ∈ FLs := by decide +kernel
theorem st_le : ∀ i, i < 12 → Cond.eq (.length (Term.field (tmS i) "java/lang/String" "value" "[B")) (.int (Int32.ofNat (lenS.getD i 0))) ∈ FLs := by decide +kernel
theorem st_el : ∀ i, i < 12 → ∀ j, j < lenS.getD i 0 → Cond.eq (.elem (Term.field (tmS i) "java/lang/String" "value" "[B") (.int (Int32.ofNat j))) (.int ((byS.getD i []).getD j 0)) ∈ FLs := by decide +kernel
theorem st_ne : ∀ i, i < 12 → ∀ j, j < 12 → i ≠ j → Cond.not (Cond.eq (tmS i) (tmS j)) ∈ FLs ∨ Cond.not (Cond.eq (tmS j) (tmS i)) ∈ FLs := by decide +kernel
theorem st_cs : Cond.eq (.static "java/lang/String" "COMPACT_STRINGS" "Z") (.int 1) ∈ FLs := by decide +kernel
theorem st_si : Cond.isRef (.static "jdk/internal/util/Preconditions" "SIOOBE_FORMATTER" "Ljava/util/function/BiFunction;") ∈ FLs := by decide +kernel
theorem wz_cs : (Cond.laysStatic "java/lang/String" "COMPACT_STRINGS" "Z") ∈ lw_tbl := tb_3 _ (List.mem_of_getElem? (i := 81) rfl)
theorem wz_si : (Cond.laysStatic "jdk/internal/util/Preconditions" "SIOOBE_FORMATTER" "Ljava/util/function/BiFunction;") ∈ lw_tbl := tb_3 _ (List.mem_of_getElem? (i := 97) rfl)
theorem wz_ci : (Cond.initialized "java/lang/String") ∈ lw_tbl := tb_1 _ (List.mem_of_getElem? (i := 14) rfl)
theorem wz_pi : (Cond.initialized "jdk/internal/util/Preconditions") ∈ lw_tbl := tb_1 _ (List.mem_of_getElem? (i := 16) rfl)
theorem wz_st : ∀ q ∈ litS, Cond.stringRef q.1 q.2.1 q.2.2.1 ∈ lw_tbl := List.forall_mem_cons.mpr ⟨tb_7 _ (List.mem_of_getElem? (i := 94) rfl), List.forall_mem_cons.mpr ⟨tb_3 _ (List.mem_of_getElem? (i := 67) rfl), List.forall_mem_cons.mpr ⟨tb_3 _ (List.mem_of_getElem? (i := 124) rfl), List.forall_mem_cons.mpr ⟨tb_3 _ (List.mem_of_getElem? (i := 125) rfl), List.forall_mem_cons.mpr ⟨tb_3 _ (List.mem_of_getElem? (i := 126) rfl), List.forall_mem_cons.mpr ⟨tb_3 _ (List.mem_of_getElem? (i := 127) rfl), List.forall_mem_cons.mpr ⟨tb_3 _ (List.mem_of_getElem? (i := 128) rfl), List.forall_mem_cons.mpr ⟨tb_3 _ (List.mem_of_getElem? (i := 169) rfl), List.forall_mem_cons.mpr ⟨tb_3 _ (List.mem_of_getElem? (i := 170) rfl), List.forall_mem_cons.mpr ⟨tb_3 _ (List.mem_of_getElem? (i := 171) rfl), List.forall_mem_cons.mpr ⟨tb_3 _ (List.mem_of_getElem? (i := 172) rfl), List.forall_mem_cons.mpr ⟨tb_3 _ (List.mem_of_getElem? (i := 140) rfl), List.forall_mem_nil _⟩⟩⟩⟩⟩⟩⟩⟩⟩⟩⟩⟩
theorem st_ix : ∀ q ∈ litS, q.2.2.2 < 12 ∧ tmS q.2.2.2 = Term.string q.1 q.2.1 := by
  refine List.forall_mem_cons.mpr ⟨⟨by decide, rfl⟩, List.forall_mem_cons.mpr ⟨⟨by decide, rfl⟩, List.forall_mem_cons.mpr ⟨⟨by decide, rfl⟩, List.forall_mem_cons.mpr ⟨⟨by decide, rfl⟩, List.forall_mem_cons.mpr ⟨⟨by decide, rfl⟩, List.forall_mem_cons.mpr ⟨⟨by decide, rfl⟩, List.forall_mem_cons.mpr ⟨⟨by decide, rfl⟩, List.forall_mem_cons.mpr ⟨⟨by decide, rfl⟩, List.forall_mem_cons.mpr ⟨⟨by decide, rfl⟩, List.forall_mem_cons.mpr ⟨⟨by decide, rfl⟩, List.forall_mem_cons.mpr ⟨⟨by decide, rfl⟩, List.forall_mem_cons.mpr ⟨⟨by decide, rfl⟩, List.forall_mem_nil _⟩⟩⟩⟩⟩⟩⟩⟩⟩⟩⟩⟩
theorem st_of {s : State} {A : Array Value} {X : Nat → Prop} (hts : ∀ w ∈ lw_tbl, w.before A s = true) (h : (Jvm.Cond.and given_1 narrow_1).before A s = true) (hX : ∀ a : Nat, a < s.heap.size → ¬ X a) : ∃ ad av : Nat → Nat, jF ad av X s s.heap := by
  have hs := flat_of_before _ h
  obtain ⟨ad, av, h1, h2⟩ := vk_Sof (N := 12) (tm := tmS) (len := lenS) (byt := byS) (A := X) (fun i hi => Nat.lt_of_lt_of_le (lenS_ok i hi) (by decide)) (fun i hi => hs _ (st_ex i hi)) (fun i hi => hs _ (st_co i hi)) (fun i hi => hs _ (st_ar i hi)) (fun i hi => hs _ (st_le i hi)) (fun i hi j hj => hs _ (st_el i hi j hj)) (fun i j hi hj hne => (st_ne i hi j hj hne).imp (hs _) (hs _)) hX
  obtain ⟨v, hv, hr⟩ := Cond.isRef_spec (hs _ st_si)
  refine ⟨ad, av, h1, va_Zof (hts _ wz_cs) (hts _ wz_ci) (va_eqi (hs _ st_cs)) hX, ⟨v, ?_, va_Zof (hts _ wz_si) (hts _ wz_pi) hv hX⟩, fun q hq => vk_R.of (hts _ (wz_st q hq)) ?_⟩
  · cases v with
    | ref t => exact Or.inl ⟨t, rfl⟩
    | null => exact Or.inr rfl
    | _ => exact absurd hr Bool.false_ne_true
  · have h3 := h2 _ (st_ix q hq).1
    rw [(st_ix q hq).2] at h3
    exact h3
