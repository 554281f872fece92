/-! what is left over, as the model writes it: as one number (behind fng, on the model's side) -/
def gwO (C : Nat → Int32) (L : Nat → Nat → Int32) (r p : Nat) : Int := if gwc C r - p = 0 then 0 else if gwc C r - p = 1 then (L r p).toInt else 64 * (L r p).toInt + (L r (p + 1)).toInt
def gwN (C : Nat → Int32) (L : Nat → Nat → Int32) (s : Nat) : Nat := (gwO C L (s / 3) (s % 3)).toNat
def gwP (N : Nat) (C : Nat → Int32) (L : Nat → Nat → Int32) : Prop := ∀ r, r < N → ∀ k, k < gwc C r → 1 ≤ (L r k).toInt ∧ (L r k).toInt ≤ 63
def gwSz (o : Int) : Int := if o = 0 then 0 else if o < 64 then 1 else 2
def gwCi (o k : Int) : Int := if o < 64 then o else if k = 0 then o / 64 else o % 64
/-- the model's numbers, seen by states -/
def gwM (C : Nat → Int32) (L : Nat → Nat → Int32) (O : Nat → Int32) : Nat → Int32 := fun s => O (gwN C L s)
def gwSm (N : Nat) (D : Int32) (C : Nat → Int32) (L : Nat → Nat → Int32) (O : Nat → Int32) : Prop := ∀ o, o < 4161 → (O o).toInt ≤ 1000000 ∧ ((O o).toInt < 1000000 → (o = 0 → gwR N D C L (O o).toInt) ∧ (o ≠ 0 → ∃ (n : Nat) (f : Nat → Nat) (g : Nat → Int), gwQ N D C L f g n ∧ gwN C L (f n) = o ∧ g n = (O o).toInt))
/-- what comes to a number -/
def gwU (O O' : Nat → Int32) (q : Nat) (c : Int) (r : Int32) : Prop := (c < (O q).toInt ∧ r = 1 ∧ ∃ x, O' = upd O q x ∧ x.toInt = c) ∨ ((O q).toInt ≤ c ∧ r = 0 ∧ O' = O)
section Fnh
variable {N n k m q t s rule : Nat} {D : Int32} {C : Nat → Int32} {L : Nat → Nat → Int32} {O O' : Nat → Int32} {r : Int32} {c : Int}
theorem gwN.sz (hH : gwH N C) (hP : gwP N C L) (hv : gwV N C s) : gwSz (gwN C L s) = (gwA C s : Int) ∧ (∀ k : Nat, k < gwA C s → gwCi (gwN C L s) k = (L (s / 3) (s % 3 + k)).toInt) ∧ 1 ≤ gwN C L s ∧ gwN C L s ≤ 4160 ∧ ((gwN C L s : Nat) : Int) = gwO C L (s / 3) (s % 3) := by
  obtain ⟨v1, v2, v3⟩ := hv
  have h1 := hH (s / 3) v1
  have hA : gwA C s = gwc C (s / 3) - s % 3 := rfl
  have p1 := hP (s / 3) v1 (s % 3) v3
  by_cases w : gwc C (s / 3) - s % 3 = 1
  · have eo : gwO C L (s / 3) (s % 3) = (L (s / 3) (s % 3)).toInt := by
      unfold gwO
      rw [if_neg (by omega), if_pos w]
    have en : ((gwN C L s : Nat) : Int) = (L (s / 3) (s % 3)).toInt := by
      unfold gwN
      rw [eo]
      omega
    refine ⟨?_, fun k hk => ?_, by omega, by omega, by rw [en, eo]⟩
    · rw [en]
      unfold gwSz
      rw [if_neg (by omega), if_pos (by omega)]
      omega
    · rw [en]
      unfold gwCi
      rw [if_pos (by omega), show k = 0 by omega]
      rfl
  · have p2 := hP (s / 3) v1 (s % 3 + 1) (by omega)
    have eo : gwO C L (s / 3) (s % 3) = 64 * (L (s / 3) (s % 3)).toInt + (L (s / 3) (s % 3 + 1)).toInt := by
      unfold gwO
      rw [if_neg (by omega), if_neg w]
    have en : ((gwN C L s : Nat) : Int) = 64 * (L (s / 3) (s % 3)).toInt + (L (s / 3) (s % 3 + 1)).toInt := by
      unfold gwN
      rw [eo]
      omega
    refine ⟨?_, fun k hk => ?_, by omega, by omega, by rw [en, eo]⟩
    · rw [en]
      unfold gwSz
      rw [if_neg (by omega), if_neg (by omega)]
      omega
    · rw [en]
      unfold gwCi
      rw [if_neg (by omega)]
      by_cases z : k = 0
      · rw [z, if_pos (by rfl)]
        show _ = (L (s / 3) (s % 3)).toInt
        omega
      · rw [if_neg (by omega), show k = 1 by omega]
        omega
theorem gwU.le (h : gwU O O' q c r) : (O' q).toInt ≤ c := by
  rcases h with ⟨a, _, x, e, ex⟩ | ⟨a, _, e⟩
  · rw [e, gw_up rfl, ex]
    exact Int.le_refl _
  · rw [e]
    exact a
theorem gwU.dn (h : gwU O O' q c r) (j : Nat) : (O' j).toInt ≤ (O j).toInt := by
  rcases h with ⟨a, _, x, e, ex⟩ | ⟨a, _, e⟩
  · rw [e]
    by_cases w : j = q
    · rw [gw_up w, w]
      omega
    · rw [pk_un w]
      exact Int.le_refl _
  · rw [e]
    exact Int.le_refl _
theorem gwU.mn (h : gwU O O' q c r) : gwMn (gwM C L O) (gwM C L O') (O 0) (O' 0) := ⟨fun j => h.dn _, h.dn 0⟩
theorem gwU.z (h : gwU O O' q c r) (e : r = 0) : O' = O := by
  rcases h with ⟨_, e2, _⟩ | ⟨_, _, e1⟩
  · exact absurd (e2.symm.trans e) (by decide)
  · exact e1
theorem gwU.sm (hs : gwSm N D C L O) (h0 : q = 0 → c < 1000000 → gwR N D C L c) (h1 : q ≠ 0 → c < 1000000 → ∃ (n : Nat) (f : Nat → Nat) (g : Nat → Int), gwQ N D C L f g n ∧ gwN C L (f n) = q ∧ g n = c) (h : gwU O O' q c r) : gwSm N D C L O' := by
  rcases h with ⟨a, _, x, e, ex⟩ | ⟨a, _, e⟩
  · intro o ho
    have b := hs o ho
    rw [e]
    by_cases w : o = q
    · rw [gw_up w, ex]
      rw [w] at b
      rw [w]
      exact ⟨by omega, fun y => ⟨fun z => h0 z y, fun z => h1 z y⟩⟩
    · rw [pk_un w]
      exact b
  · rw [e]
    exact hs
theorem gwSm.b (hH : gwH N C) (hP : gwP N C L) (hs : gwSm N D C L O) : gwB N C (gwM C L O) (O 0) := ⟨fun s a => (hs _ (by have := (gwN.sz hH hP a).2.2.2.1; omega)).1, (hs 0 (by decide)).1⟩
theorem gwSm.in (h : ∀ o, o < 4161 → (O o).toInt = 1000000) : gwSm N D C L O := fun o ho => by
  rw [h o ho]
  exact ⟨Int.le_refl _, fun w => absurd w (by decide)⟩
theorem gwN.in (hH : gwH N C) (hP : gwP N C L) : ∀ s, gwV N C s → ¬ gwN C L s < 1 := fun s a => by
  have := (gwN.sz hH hP a).2.2.1
  omega
theorem gwN.all (hH : gwH N C) (hP : gwP N C L) : ∀ s, gwV N C s → gwN C L s < 4161 := fun s a => by
  have := (gwN.sz hH hP a).2.2.2.1
  omega
/-- the number of what a RULE has from a place on -/
theorem gwN.at (h : gwc C rule ≤ 3) (hk : k < 3) : gwN C L (3 * rule + k) = (gwO C L rule k).toNat := by
  unfold gwN
  rw [show (3 * rule + k) / 3 = rule by omega, show (3 * rule + k) % 3 = k by omega]
/-- the RULES a and b, of which the first begins the second -/
theorem gwU.j {a b : Nat} (hH : gwH N C) (hP : gwP N C L) (ha : gwIn N D a) (hb : gwIn N D b) (hne : a ≠ b) (he : begB C L a b = true) (hs : gwSm N D C L O) (hq : (q : Int) = gwO C L b (gwc C a)) (h : gwU O O' q (gwc C b : Int) r) : gwSm N D C L O' ∧ gwMn (gwM C L O) (gwM C L O') (O 0) (O' 0) ∧ (gwc C a < gwc C b → (gwM C L O' (3 * b + gwc C a)).toInt ≤ (gwc C b : Int)) ∧ (gwc C a = gwc C b → (O' 0).toInt ≤ (gwc C b : Int)) := by
  have hle : gwc C a ≤ gwc C b := by
    have := (begB.iff.1 he).1
    unfold gwc
    omega
  have h1 := hH a ha.1
  have h2 := hH b hb.1
  by_cases w : gwc C a = gwc C b
  · have eq : q = 0 := by
      have : gwO C L b (gwc C a) = 0 := by
        unfold gwO
        rw [if_pos (by omega)]
      omega
    have l := h.le
    rw [eq] at l
    exact ⟨h.sm hs (fun _ _ => Or.inl ⟨a, b, ha, hb, hne, he, w, rfl⟩) (fun z => absurd eq z), h.mn, fun z => absurd w (by omega), fun _ => l⟩
  · have iv : gwI N D C L (3 * b + gwc C a) (gwc C b : Int) := ⟨a, b, ha, hb, hne, he, by omega, rfl, rfl⟩
    have en : gwN C L (3 * b + gwc C a) = q := by
      rw [gwN.at h2.2 (by omega), ← hq]
      omega
    have hz := (gwN.sz hH hP (gwI.vl hH iv).1).2.2.1
    have l := h.le
    rw [← en] at l
    exact ⟨h.sm hs (fun z => absurd z (by omega)) (fun _ _ => ⟨0, fun _ => 3 * b + gwc C a, fun _ => (gwc C b : Int), ⟨iv, fun i hi => absurd hi (Nat.not_lt_zero i)⟩, en, rfl⟩), h.mn, fun _ => l, fun z => absurd z w⟩
/-- a RULE behind what is left over -/
theorem gwU.tt {o : Nat} (hH : gwH N C) (hP : gwP N C L) (hs : gwSm N D C L O) (ho : 1 ≤ o ∧ o < 4161) (hl : (O o).toInt < 1000000) (ht : gwIn N D t) (hg : ∀ k : Nat, (k : Int) < gwSz o → k < gwc C t → gwCi o k = (L t k).toInt)
    (h : (gwSz o ≤ (gwc C t : Int) ∧ (q : Int) = gwO C L t (gwSz o).toNat ∧ gwU O O' q ((O o).toInt + (gwc C t : Int) - gwSz o) r) ∨ ((gwc C t : Int) < gwSz o ∧ (q : Int) = gwCi o 1 ∧ gwU O O' q (O o).toInt r)) : gwSm N D C L O' ∧ gwT N D C L (gwN C L) (gwM C L O) (gwM C L O') (O 0) (O' 0) o t r := by
  have h2 := hH t ht.1
  -- every state of this key goes on alike
  have key : ∀ s, gwV N C s → gwN C L s = o → gwSz o = (gwA C s : Int) ∧ gwG C L s t := fun s a e => by
    obtain ⟨z1, z2, _⟩ := gwN.sz hH hP a
    rw [e] at z1 z2
    refine ⟨z1, fun k h3 h4 => ?_⟩
    have x := z2 k h3
    have y := hg k (by rw [z1]; omega) h4
    exact Int32.toInt_inj.mp (by rw [← x, y])
  have go : ∀ s, gwV N C s → gwN C L s = o → (gwc C t = gwA C s → q = 0) ∧ (gwc C t ≠ gwA C s → gwN C L (gwX C s t) = q) ∧ gwU O O' q ((O o).toInt + gwD C s t) r := fun s a e => by
    obtain ⟨k1, k2⟩ := key s a e
    obtain ⟨z1, z2, _⟩ := gwN.sz hH hP a
    rw [e] at z1 z2
    obtain ⟨v1, v2, v3⟩ := a
    have h1 := hH (s / 3) v1
    have hA : gwA C s = gwc C (s / 3) - s % 3 := rfl
    rcases h with ⟨w, hq, h⟩ | ⟨w, hq, h⟩
    · have ed : gwD C s t = (gwc C t : Int) - (gwA C s : Int) := by
        unfold gwD
        rw [if_neg (by omega)]
      rw [k1, Int.toNat_natCast] at hq
      refine ⟨fun y => ?_, fun y => ?_, ?_⟩
      · have : gwO C L t (gwA C s) = 0 := by
          unfold gwO
          rw [if_pos (by omega)]
        omega
      · have ex : gwX C s t = 3 * t + gwA C s := by
          unfold gwX
          rw [if_neg (by omega)]
        rw [ex, gwN.at h2.2 (by omega), ← hq]
        omega
      · rw [ed, show (O o).toInt + ((gwc C t : Int) - (gwA C s : Int)) = (O o).toInt + (gwc C t : Int) - gwSz o by omega]
        exact h
    · have ed : gwD C s t = 0 := by
        unfold gwD
        rw [if_pos (by omega)]
      refine ⟨fun y => absurd y (by omega), fun y => ?_, by rw [ed, Int.add_zero]; exact h⟩
      have ex : gwX C s t = s + 1 := by
        unfold gwX
        rw [if_pos (by omega)]
        omega
      have x := z2 1 (by omega)
      have eo : gwO C L (s / 3) (s % 3 + 1) = (L (s / 3) (s % 3 + 1)).toInt := by
        unfold gwO
        rw [if_neg (by omega), if_pos (by omega)]
      rw [ex]
      unfold gwN
      rw [show (s + 1) / 3 = s / 3 by omega, show (s + 1) % 3 = s % 3 + 1 by omega, eo, ← x]
      have : gwCi (o : Int) ((1 : Nat) : Int) = gwCi (o : Int) 1 := rfl
      omega
  obtain ⟨n, f, g, q1, q2, q3⟩ := ((hs o ho.2).2 hl).2 (by omega)
  have hv := gwQ.vl hH q1 n (Nat.le_refl _)
  obtain ⟨b1, b2, b3⟩ := go (f n) hv q2
  have kk := (key (f n) hv q2).2
  refine ⟨b3.sm hs (fun z y => ?_) (fun z y => ?_), b3.mn, fun s a e => ?_, fun e => by rw [b3.z e]⟩
  · by_cases w : gwc C t = gwA C (f n)
    · have ed : gwD C (f n) t = 0 := by
        unfold gwD
        rw [if_neg (by omega)]
        omega
      exact Or.inr ⟨n, f, g, q1, ⟨t, ht, kk, w⟩, by omega⟩
    · exfalso
      have hx := (gwS.vl hH hv ⟨t, ht, kk, w, rfl, rfl⟩ : gwV N C (gwX C (f n) t) ∧ 0 ≤ gwD C (f n) t).1
      have := (gwN.sz hH hP hx).2.2.1
      have := b2 w
      omega
  · have w : gwc C t ≠ gwA C (f n) := fun w => z (b1 w)
    have st : gwS N D C L (f n) (gwX C (f n) t) (gwD C (f n) t) := ⟨t, ht, kk, w, rfl, rfl⟩
    exact ⟨n + 1, _, _, q1.sn st, by show gwN C L (if n + 1 ≤ n then _ else _) = _; rw [if_neg (by omega)]; exact b2 w, by show (if n + 1 ≤ n then _ else _) = _; rw [if_neg (by omega)]; omega⟩
  · obtain ⟨c1, c2, c3⟩ := go s a e
    have es : (gwM C L O s).toInt = (O o).toInt := by
      unfold gwM
      rw [e]
    refine fun _ _ => ⟨fun y => ?_, fun y => ?_⟩
    · have l := c3.le
      have ed : gwD C s t = 0 := by
        unfold gwD
        rw [if_neg (by omega)]
        omega
      rw [c1 y] at l
      rw [es]
      omega
    · have l := c3.le
      rw [← c2 y] at l
      rw [es]
      exact l
theorem gwM.no {o : Nat} (hH : gwH N C) (hP : gwP N C L) (hg : ¬ ∀ k : Nat, (k : Int) < gwSz o → k < gwc C t → gwCi o k = (L t k).toInt) (h : r = 0) : gwT N D C L (gwN C L) (gwM C L O) (gwM C L O) (O 0) (O 0) o t r := ⟨gwMn.rf _ _, fun s a e => fun x y => by
    exfalso
    apply hg
    intro k h3 h4
    obtain ⟨z1, z2, _⟩ := gwN.sz hH hP a
    rw [e] at z1 z2
    have := z2 k (by omega)
    rw [this, y k (by omega) h4], fun _ => rfl⟩
end Fnh
