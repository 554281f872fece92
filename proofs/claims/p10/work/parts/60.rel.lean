/-! THE RELATION: trays, the tape's length, the number of MARKS -/
def RT (Id : Nat → Nat → Int32) (Jd : Nat → Nat → Int64) (Io : Nat → Nat → Int32) (Jo : Nat → Nat → Int64) : Prop :=
  ∀ j : Nat, j < 4 → Id 3 j = Io 3 j ∧ ((Id 3 j).toInt ≠ -1 → Id 2 j = Io 2 j) ∧ ∀ k : Nat, (k : Int) < (Id 3 j).toInt → Jd 1 (j * 60 + k) = Jo 4 (j * 60 + k)
section Rel
variable {Id Io Id' Io' Ip Ip' : Nat → Nat → Int32} {Jd Jo Jd' Jo' : Nat → Nat → Int64} {t so n pl to ia r z : Int32} {v u w : Int64}
theorem RT.new (h1 : ∀ j : Nat, j < 4 → Id 3 j = -1) (h2 : ∀ j : Nat, j < 4 → Io 3 j = -1) : RT Id Jd Io Jo := fun j hj => by
  have e := h1 j hj
  have z1 : (-1 : Int32).toInt = -1 := by decide
  refine ⟨e.trans (h2 j hj).symm, fun q => absurd (by rw [e]; exact z1) q, fun k hk => ?_⟩
  rw [e, z1] at hk
  omega
theorem RT.kk (h : RT Id Jd Io Jo) (e2 : Io' 2 = Io 2) (e3 : Io' 3 = Io 3) (e4 : Jo' 4 = Jo 4) : RT Id Jd Io' Jo' := fun j hj => by
  rw [e2, e3, e4]
  exact h j hj
theorem RT.tray (h : RT Id Jd Io Jo)
    (hc : (r = 1 ∧ 0 ≤ t.toInt ∧ t.toInt < 4 ∧ 0 ≤ so.toInt ∧ so.toInt < 4 ∧ 0 ≤ n.toInt ∧ n.toInt ≤ 60 ∧ Id' 2 = upd (Id 2) t.toNatClampNeg so ∧ Id' 3 = upd (Id 3) t.toNatClampNeg n ∧ ∀ j : Nat, Jd' 1 j = if t.toInt * 60 ≤ (j : Int) ∧ (j : Int) < t.toInt * 60 + n.toInt then 0 else Jd 1 j) ∨ (r = 0 ∧ ¬ (0 ≤ t.toInt ∧ t.toInt < 4 ∧ 0 ≤ so.toInt ∧ so.toInt < 4 ∧ 0 ≤ n.toInt ∧ n.toInt ≤ 60) ∧ Id' = Id ∧ Jd' = Jd))
    (hm : (z = 1 ∧ 0 ≤ t.toInt ∧ t.toInt < 4 ∧ 0 ≤ so.toInt ∧ so.toInt < 4 ∧ 0 ≤ n.toInt ∧ n.toInt ≤ 60 ∧ Io' 2 = upd (Io 2) t.toNatClampNeg so ∧ Io' 3 = upd (Io 3) t.toNatClampNeg n ∧ ∀ j : Nat, Jo' 4 j = if t.toInt * 60 ≤ (j : Int) ∧ (j : Int) < t.toInt * 60 + n.toInt then 0 else Jo 4 j) ∨ (z = 0 ∧ ¬ (0 ≤ t.toInt ∧ t.toInt < 4 ∧ 0 ≤ so.toInt ∧ so.toInt < 4 ∧ 0 ≤ n.toInt ∧ n.toInt ≤ 60) ∧ Io' 2 = Io 2 ∧ Io' 3 = Io 3 ∧ Jo' 4 = Jo 4)) : RT Id' Jd' Io' Jo' ∧ r = z := by
  rcases hc with ⟨rfl, c1, c2, c3, c4, c5, c6, d2, d3, dj⟩ | ⟨rfl, cn, rfl, rfl⟩
  · rcases hm with ⟨rfl, m1, m2, m3, m4, m5, m6, o2, o3, oj⟩ | ⟨_, mn, _⟩
    · refine ⟨fun j hj => ?_, rfl⟩
      obtain ⟨h3, h2, hk⟩ := h j hj
      have ht : (t.toNatClampNeg : Int) = t.toInt := t_cl rfl c1
      rw [d2, d3, o2, o3]
      by_cases q : j = t.toNatClampNeg
      · rw [upd_at q, upd_at q, upd_at q, upd_at q]
        refine ⟨rfl, fun _ => rfl, fun k hk => ?_⟩
        rw [dj, oj, if_pos (by omega), if_pos (by omega)]
      · rw [pk_un q, pk_un q, pk_un q, pk_un q]
        refine ⟨h3, h2, fun k hk2 => ?_⟩
        rw [dj, oj]
        by_cases w : t.toInt * 60 ≤ ((j * 60 + k : Nat) : Int) ∧ ((j * 60 + k : Nat) : Int) < t.toInt * 60 + n.toInt
        · rw [if_pos w, if_pos w]
        · rw [if_neg w, if_neg w]
          exact hk k hk2
    · exact absurd ⟨c1, c2, c3, c4, c5, c6⟩ mn
  · rcases hm with ⟨_, m1, m2, m3, m4, m5, m6, _⟩ | ⟨rfl, mn, o2, o3, oj⟩
    · exact absurd ⟨m1, m2, m3, m4, m5, m6⟩ cn
    · exact ⟨h.kk o2 o3 oj, rfl⟩
theorem RT.write (h : RT Id Jd Io Jo) (x2 : Io' 2 = Io 2) (x3 : Io' 3 = Io 3)
    (hc : (r = 1 ∧ (0 ≤ t.toInt ∧ t.toInt < 4) ∧ (0 ≤ pl.toInt ∧ pl.toInt < (Id 3 t.toNatClampNeg).toInt) ∧ Jd' 1 = vp_updL (Jd 1) (t.toInt * 60 + pl.toInt).toNat (cutL v (Id 2 t.toNatClampNeg))) ∨ (r = 0 ∧ ¬ ((0 ≤ t.toInt ∧ t.toInt < 4) ∧ (0 ≤ pl.toInt ∧ pl.toInt < (Id 3 t.toNatClampNeg).toInt)) ∧ Jd' = Jd))
    (hm : (z = 1 ∧ ((0 ≤ t.toInt ∧ t.toInt < 4) ∧ (0 ≤ pl.toInt ∧ pl.toInt < (Io 3 t.toNatClampNeg).toInt)) ∧ Jo' 4 = vp_updL (Jo 4) (t.toInt * 60 + pl.toInt).toNat (cutL v (Io 2 t.toNatClampNeg))) ∨ (z = 0 ∧ ¬ ((0 ≤ t.toInt ∧ t.toInt < 4) ∧ (0 ≤ pl.toInt ∧ pl.toInt < (Io 3 t.toNatClampNeg).toInt)) ∧ Jo' 4 = Jo 4)) : RT Id Jd' Io' Jo' ∧ r = z := by
  rcases hc with ⟨rfl, ⟨a1, a2⟩, ⟨b1, b2⟩, dj⟩ | ⟨rfl, cn, rfl⟩
  · have ht : (t.toNatClampNeg : Int) = t.toInt := t_cl rfl a1
    obtain ⟨e3, e2, ek⟩ := h t.toNatClampNeg (by omega)
    rcases hm with ⟨rfl, m0, oj⟩ | ⟨_, mn, _⟩
    · refine ⟨fun j hj => ?_, rfl⟩
      obtain ⟨h3, h2, hk⟩ := h j hj
      rw [x2, x3]
      refine ⟨h3, h2, fun k hk2 => ?_⟩
      rw [dj, oj]
      unfold vp_updL
      by_cases w : j * 60 + k = (t.toInt * 60 + pl.toInt).toNat
      · rw [if_pos w, if_pos w, e2 (by omega)]
      · rw [if_neg w, if_neg w]
        exact hk k hk2
    · exact absurd ⟨⟨a1, a2⟩, b1, by rw [← e3]; exact b2⟩ mn
  · rcases hm with ⟨_, ⟨⟨m1, m2⟩, m3, m4⟩, _⟩ | ⟨rfl, mn, oj⟩
    · have ht : (t.toNatClampNeg : Int) = t.toInt := t_cl rfl m1
      obtain ⟨e3, _, _⟩ := h t.toNatClampNeg (by omega)
      exact absurd ⟨⟨m1, m2⟩, m3, by rw [e3]; exact m4⟩ cn
    · exact ⟨h.kk x2 x3 oj, rfl⟩
theorem RT.read (h : RT Id Jd Io Jo)
    (hc : ((0 ≤ t.toInt ∧ t.toInt < 4) ∧ (0 ≤ pl.toInt ∧ pl.toInt < (Id 3 t.toNatClampNeg).toInt) ∧ u = Jd 1 (t.toInt * 60 + pl.toInt).toNat) ∨ (¬ ((0 ≤ t.toInt ∧ t.toInt < 4) ∧ (0 ≤ pl.toInt ∧ pl.toInt < (Id 3 t.toNatClampNeg).toInt)) ∧ u = -1))
    (hm : (((0 ≤ t.toInt ∧ t.toInt < 4) ∧ (0 ≤ pl.toInt ∧ pl.toInt < (Io 3 t.toNatClampNeg).toInt)) ∧ w = Jo 4 (t.toInt * 60 + pl.toInt).toNat) ∨ (¬ ((0 ≤ t.toInt ∧ t.toInt < 4) ∧ (0 ≤ pl.toInt ∧ pl.toInt < (Io 3 t.toNatClampNeg).toInt)) ∧ w = -1)) : u = w := by
  rcases hc with ⟨⟨a1, a2⟩, ⟨b1, b2⟩, rfl⟩ | ⟨cn, rfl⟩
  · have ht : (t.toNatClampNeg : Int) = t.toInt := t_cl rfl a1
    obtain ⟨e3, e2, ek⟩ := h t.toNatClampNeg (by omega)
    rcases hm with ⟨m0, rfl⟩ | ⟨mn, _⟩
    · have q := ek pl.toInt.toNat (by omega)
      rw [show t.toNatClampNeg * 60 + pl.toInt.toNat = (t.toInt * 60 + pl.toInt).toNat by omega] at q
      exact q
    · exact absurd ⟨⟨a1, a2⟩, b1, by rw [← e3]; exact b2⟩ mn
  · rcases hm with ⟨⟨⟨m1, m2⟩, m3, m4⟩, _⟩ | ⟨mn, rfl⟩
    · have ht : (t.toNatClampNeg : Int) = t.toInt := t_cl rfl m1
      obtain ⟨e3, _, _⟩ := h t.toNatClampNeg (by omega)
      exact absurd ⟨⟨m1, m2⟩, m3, by rw [e3]; exact m4⟩ cn
    · rfl
theorem RT.pour (h : RT Id Jd Io Jo) (x2 : Io' 2 = Io 2) (x3 : Io' 3 = Io 3)
    (hc : (r = 1 ∧ (0 ≤ t.toInt ∧ t.toInt < 4 ∧ 0 ≤ to.toInt ∧ to.toInt < 4 ∧ 0 ≤ pl.toInt ∧ 0 ≤ ia.toInt ∧ 0 ≤ n.toInt) ∧ ¬ (Id 3 t.toNatClampNeg).toInt = -1 ∧ ¬ (Id 3 to.toNatClampNeg).toInt = -1 ∧ Id 2 t.toNatClampNeg = Id 2 to.toNatClampNeg ∧ pl.toInt + n.toInt ≤ (Id 3 t.toNatClampNeg).toInt ∧ ia.toInt + n.toInt ≤ (Id 3 to.toNatClampNeg).toInt ∧ Jd' 1 = va_cpy (Jd 1) (Jd 1) (t.toInt * 60 + pl.toInt).toNat (to.toInt * 60 + ia.toInt).toNat n.toInt.toNat) ∨ (r = 0 ∧ Jd' = Jd ∧ ¬ ((0 ≤ t.toInt ∧ t.toInt < 4 ∧ 0 ≤ to.toInt ∧ to.toInt < 4 ∧ 0 ≤ pl.toInt ∧ 0 ≤ ia.toInt ∧ 0 ≤ n.toInt) ∧ ¬ (Id 3 t.toNatClampNeg).toInt = -1 ∧ ¬ (Id 3 to.toNatClampNeg).toInt = -1 ∧ (Id 2 t.toNatClampNeg).toInt = (Id 2 to.toNatClampNeg).toInt ∧ pl.toInt + n.toInt ≤ (Id 3 t.toNatClampNeg).toInt ∧ ia.toInt + n.toInt ≤ (Id 3 to.toNatClampNeg).toInt)))
    (hm : (z = 1 ∧ ((0 ≤ t.toInt ∧ t.toInt < 4 ∧ 0 ≤ to.toInt ∧ to.toInt < 4 ∧ 0 ≤ pl.toInt ∧ 0 ≤ ia.toInt ∧ 0 ≤ n.toInt) ∧ ¬ (Io 3 t.toNatClampNeg).toInt = -1 ∧ ¬ (Io 3 to.toNatClampNeg).toInt = -1 ∧ (Io 2 t.toNatClampNeg).toInt = (Io 2 to.toNatClampNeg).toInt ∧ pl.toInt + n.toInt ≤ (Io 3 t.toNatClampNeg).toInt ∧ ia.toInt + n.toInt ≤ (Io 3 to.toNatClampNeg).toInt) ∧ Jo' 4 = va_cpy (Jo 4) (Jo 4) (t.toInt * 60 + pl.toInt).toNat (to.toInt * 60 + ia.toInt).toNat n.toInt.toNat) ∨ (z = 0 ∧ ¬ ((0 ≤ t.toInt ∧ t.toInt < 4 ∧ 0 ≤ to.toInt ∧ to.toInt < 4 ∧ 0 ≤ pl.toInt ∧ 0 ≤ ia.toInt ∧ 0 ≤ n.toInt) ∧ ¬ (Io 3 t.toNatClampNeg).toInt = -1 ∧ ¬ (Io 3 to.toNatClampNeg).toInt = -1 ∧ (Io 2 t.toNatClampNeg).toInt = (Io 2 to.toNatClampNeg).toInt ∧ pl.toInt + n.toInt ≤ (Io 3 t.toNatClampNeg).toInt ∧ ia.toInt + n.toInt ≤ (Io 3 to.toNatClampNeg).toInt) ∧ Jo' 4 = Jo 4)) : RT Id Jd' Io' Jo' ∧ r = z := by
  rcases hc with ⟨rfl, ⟨a1, a2, a3, a4, a5, a6, a7⟩, c1, c2, c3, c4, c5, dj⟩ | ⟨rfl, rfl, cn⟩
  · have ht : (t.toNatClampNeg : Int) = t.toInt := t_cl rfl a1
    have ho : (to.toNatClampNeg : Int) = to.toInt := t_cl rfl a3
    obtain ⟨e3, e2, ek⟩ := h t.toNatClampNeg (by omega)
    obtain ⟨f3, f2, fk⟩ := h to.toNatClampNeg (by omega)
    have e2 := e2 c1
    have f2 := f2 c2
    rcases hm with ⟨rfl, m0, oj⟩ | ⟨_, mn, _⟩
    · refine ⟨fun j hj => ?_, rfl⟩
      obtain ⟨h3, h2, hk⟩ := h j hj
      rw [x2, x3]
      refine ⟨h3, h2, fun k hk2 => ?_⟩
      rw [dj, oj]
      unfold va_cpy
      by_cases w : (to.toInt * 60 + ia.toInt).toNat ≤ j * 60 + k ∧ j * 60 + k < (to.toInt * 60 + ia.toInt).toNat + n.toInt.toNat
      · rw [if_pos w, if_pos w]
        have q := ek (pl.toInt.toNat + (j * 60 + k - (to.toInt * 60 + ia.toInt).toNat)) (by omega)
        rw [show t.toNatClampNeg * 60 + (pl.toInt.toNat + (j * 60 + k - (to.toInt * 60 + ia.toInt).toNat)) = (t.toInt * 60 + pl.toInt).toNat + (j * 60 + k - (to.toInt * 60 + ia.toInt).toNat) by omega] at q
        exact q
      · rw [if_neg w, if_neg w]
        exact hk k hk2
    · refine absurd ⟨⟨a1, a2, a3, a4, a5, a6, a7⟩, ?_, ?_, ?_, ?_, ?_⟩ mn
      · rw [← e3]; exact c1
      · rw [← f3]; exact c2
      · rw [← e2, ← f2, c3]
      · rw [← e3]; exact c4
      · rw [← f3]; exact c5
  · rcases hm with ⟨_, ⟨⟨a1, a2, a3, a4, a5, a6, a7⟩, c1, c2, c3, c4, c5⟩, _⟩ | ⟨rfl, mn, oj⟩
    · have ht : (t.toNatClampNeg : Int) = t.toInt := t_cl rfl a1
      have ho : (to.toNatClampNeg : Int) = to.toInt := t_cl rfl a3
      obtain ⟨e3, e2, _⟩ := h t.toNatClampNeg (by omega)
      obtain ⟨f3, f2, _⟩ := h to.toNatClampNeg (by omega)
      have e2 := e2 (by rw [e3]; exact c1)
      have f2 := f2 (by rw [f3]; exact c2)
      refine absurd ⟨⟨a1, a2, a3, a4, a5, a6, a7⟩, ?_, ?_, ?_, ?_, ?_⟩ cn
      · rw [e3]; exact c1
      · rw [f3]; exact c2
      · rw [e2, f2]; exact c3
      · rw [e3]; exact c4
      · rw [f3]; exact c5
    · exact ⟨h.kk x2 x3 oj, rfl⟩
theorem RP.feed (h : Ip 0 1 = Io 0 9) (hc : (880 < (Ip 0 1).toInt ∧ r = -1 ∧ Ip' = Ip) ∨ ((Ip 0 1).toInt ≤ 880 ∧ r = Ip' 0 1 ∧ (Ip' 0 1).toInt = (Ip 0 1).toInt + 20))
    (hm : (880 < (Io 0 9).toInt ∧ z = -1 ∧ Io' 0 9 = Io 0 9) ∨ ((Io 0 9).toInt ≤ 880 ∧ z = Io' 0 9 ∧ (Io' 0 9).toInt = (Io 0 9).toInt + 20)) : Ip' 0 1 = Io' 0 9 ∧ r = z := by
  have h9 := congrArg Int32.toInt h
  rcases hc with ⟨c1, rfl, rfl⟩ | ⟨c1, c2, c3⟩
  · rcases hm with ⟨m1, rfl, m2⟩ | ⟨m1, _⟩
    · exact ⟨h.trans m2.symm, rfl⟩
    · omega
  · rcases hm with ⟨m1, _⟩ | ⟨m1, m2, m3⟩
    · omega
    · have q : Ip' 0 1 = Io' 0 9 := t_inj (by omega)
      exact ⟨q, by rw [c2, m2, q]⟩
theorem RP.cut {P P' : Prop} (h : Ip 0 1 = Io 0 9) (hp : P ↔ P') (hc : (¬ P ∧ Ip' 0 1 = Ip 0 1) ∨ (P ∧ Ip' 0 1 = 0)) (hm : (¬ P' ∧ Io' 0 9 = Io 0 9) ∨ (P' ∧ (Io' 0 9).toInt = 0)) : Ip' 0 1 = Io' 0 9 := by
  rcases hc with ⟨c1, c2⟩ | ⟨c1, c2⟩
  · rcases hm with ⟨m1, m2⟩ | ⟨m1, _⟩
    · rw [c2, m2, h]
    · exact absurd (hp.mpr m1) c1
  · rcases hm with ⟨m1, _⟩ | ⟨m1, m2⟩
    · exact absurd (hp.mp c1) m1
    · rw [c2]
      exact t_inj (by rw [m2]; decide)
theorem RM.mark {x x' y y' : Int32} (h : x = y) (hc : (3 ≤ x.toInt ∧ r = -1 ∧ x' = x) ∨ (x.toInt < 3 ∧ r = x' ∧ x'.toInt = x.toInt + 1)) (hm : (3 ≤ y.toInt ∧ z = -1 ∧ y' = y) ∨ (y.toInt < 3 ∧ z = y' ∧ y'.toInt = y.toInt + 1)) : x' = y' ∧ r = z := by
  subst h
  rcases hc with ⟨c1, c2, c3⟩ | ⟨c1, c2, c3⟩
  · rcases hm with ⟨m1, m2, m3⟩ | ⟨m1, _⟩
    · exact ⟨c3.trans m3.symm, c2.trans m2.symm⟩
    · omega
  · rcases hm with ⟨m1, _⟩ | ⟨m1, m2, m3⟩
    · omega
    · have q : x' = y' := t_inj (by omega)
      exact ⟨q, by rw [c2, m2, q]⟩
theorem RM.back {x x' y y' : Int32} (h : x = y) (hc : (x.toInt ≤ 0 ∧ r = -1 ∧ x' = x) ∨ (0 < x.toInt ∧ r = x' ∧ x'.toInt = x.toInt - 1)) (hm : (y.toInt ≤ 0 ∧ z = -1 ∧ y' = y) ∨ (0 < y.toInt ∧ z = y' ∧ y'.toInt = y.toInt - 1)) : x' = y' ∧ r = z := by
  subst h
  rcases hc with ⟨c1, c2, c3⟩ | ⟨c1, c2, c3⟩
  · rcases hm with ⟨m1, m2, m3⟩ | ⟨m1, _⟩
    · exact ⟨c3.trans m3.symm, c2.trans m2.symm⟩
    · omega
  · rcases hm with ⟨m1, _⟩ | ⟨m1, m2, m3⟩
    · omega
    · have q : x' = y' := t_inj (by omega)
      exact ⟨q, by rw [c2, m2, q]⟩
end Rel
section
variable {p : Program} {l : Launch} {e : Env} {R : Room} {s : State} {m : MethodId} {args : Array Value} {below : List Frame} {meth : Method} {c : Code} {H : Heap} {locs : List Loc} {cells slots : Nat} {Q : State → Prop} {pc : Nat} {ls : Array Slot} {rest : List Value}
theorem q_sameL {x z : Int64} (h : z = x) (k : W p l e R s m args below meth c H locs cells slots Q (F0 m pc ls (.long z :: rest))) : W p l e R s m args below meth c H locs cells slots Q (F0 m pc ls (.long x :: rest)) := by rw [← h]; exact k
end
/-! THE TAPES' BYTES, AND A PRESS ON BOTH SIDES -/
def TPr (Ip Io : Nat → Nat → Int32) : Prop := ∀ j : Nat, (j : Int) < (Ip 0 1).toInt → fxB (Ip 1) j = fxBm (Io 5) j
section Rel2
variable {Ip Io Ip' Io' It It' : Nat → Nat → Int32} {n r z : Int32}
theorem TPr.kk (h : TPr Ip Io) (e1 : Ip' 0 1 = Ip 0 1) (e2 : Ip' 1 = Ip 1) (e3 : Io' 5 = Io 5) : TPr Ip' Io' := fun j hj => by
  rw [e2, e3]
  rw [e1] at hj
  exact h j hj
theorem TPr.zero (h : (Ip 0 1).toInt = 0) : TPr Ip Io := fun j hj => by
  exfalso
  omega
theorem TPr.cut {P : Prop} (h : TPr Ip Io) (e : Io' 5 = Io 5) (hc : (¬ P ∧ Ip' 0 1 = Ip 0 1) ∨ (P ∧ Ip' 0 1 = 0)) (hn : ¬ P → Ip' 1 = Ip 1) : TPr Ip' Io' := by
  rcases hc with ⟨c1, c2⟩ | ⟨c1, c2⟩
  · exact h.kk c2 (hn c1) e
  · exact TPr.zero (by rw [c2]; decide)
theorem TPr.feed {vs : List Int32} (hp : Ip 0 1 = Io 0 9) (h0 : 0 ≤ (Ip 0 1).toInt) (h : TPr Ip Io) (e : Io' 5 = Io 5 ∨ ¬ 880 < (Io 0 9).toInt) (hl : vs.length = 5)
    (hc : (880 < (Ip 0 1).toInt ∧ r = -1 ∧ Ip' = Ip) ∨ ((Ip 0 1).toInt ≤ 880 ∧ r = Ip' 0 1 ∧ (Ip' 0 1).toInt = (Ip 0 1).toInt + 20))
    (c2 : (Ip 0 1).toInt ≤ 880 → fxFd fxB (Ip 1) (Ip' 1) (Ip 0 1).toInt.toNat vs) (m2 : (Io 0 9).toInt ≤ 880 → fxFd fxBm (Io 5) (Io' 5) (Io 0 9).toInt.toNat vs) : TPr Ip' Io' := by
  rcases hc with ⟨c1, _, rfl⟩ | ⟨c1, _, c3⟩
  · rcases e with e | e
    · exact h.kk rfl rfl e
    · rw [hp] at c1
      exact absurd c1 e
  · intro j hj
    have hm := m2 (by rw [← hp]; exact c1)
    rw [← hp] at hm
    exact fxFd.rel (fun j hj => h j (by omega)) (c2 c1) hm j (by omega)
theorem fxT.len {I : Nat → Nat → Int32} {A : Nat → Int32} {s : Nat} (hT : TI I) (hA : TS A s) (e : fxTc I = fxTM A s) : I 0 0 = A s := by
  have h1 := hT.1
  have h2 := hA.1
  have w : (fxTc I).2.length = (fxTM A s).2.length := by rw [e]
  rw [fxTc.len, fxTM.len] at w
  exact t_inj (by omega)
/-- two readings of the same bytes -/
theorem PR.one {B B' : Nat → Int} {n f pl f' pl' : Int} {c c' : Int × fxS} (e : ∀ j : Nat, (j : Int) < n → B j = B' j) (h : fxRe B n (0, fxS0) c) (v : fxVd B n c f pl) (h' : fxRe B' n (0, fxS0) c') (v' : fxVd B' n c' f' pl') : c = c' ∧ f = f' ∧ pl = pl' := by
  have q : 0 ≤ c.1 := h.fwd
  exact fxRe.one (Int.le_refl _) (h.congr (Int.le_refl _) e) (v.congr q e) h' v'
theorem PR.press (hp : Ip 0 1 = Io 0 9) (h : TPr Ip Io) (hT : TI It') (hM : MI Io')
    (c1 : (0 ≤ n.toInt ∧ n.toInt ≤ (Ip 0 1).toInt) → ∃ (c : Int × fxS) (pl : Int), fxRe (fxB (Ip 1)) n.toInt (0, fxS0) c ∧ fxVd (fxB (Ip 1)) n.toInt c (Ip' 0 3).toInt pl ∧ ((r = It' 0 0 ∧ (Ip' 0 3).toInt = 0 ∧ (Ip' 0 4).toInt = -1 ∧ c.2.2.2.2.1 = fxTc It' ∧ (It' 0 1).toInt = 0) ∨ (r = -1 ∧ (Ip' 0 3).toInt ≠ 0 ∧ (Ip' 0 4).toInt = pl ∧ It' = It)))
    (c2 : ¬ (0 ≤ n.toInt ∧ n.toInt ≤ (Ip 0 1).toInt) → r = -1)
    (m1 : (0 ≤ n.toInt ∧ n.toInt ≤ (Io 0 9).toInt) → ∃ (c : Int × fxS) (pl : Int), fxRe (fxBm (Io 5)) n.toInt (0, fxS0) c ∧ fxVd (fxBm (Io 5)) n.toInt c (Io' 0 15).toInt pl ∧ ((z = Io' 1 0 ∧ (Io' 0 15).toInt = 0 ∧ c.2.2.2.2.1 = fxTM (Io' 1) 0 ∧ (Io' 1 6).toInt = 0) ∨ (z = -1 ∧ (Io' 0 15).toInt ≠ 0 ∧ (Io' 0 16).toInt = pl ∧ ∀ j : Nat, j < 13200 → Io' 1 j = Io 1 j)))
    (m2 : ¬ (0 ≤ n.toInt ∧ n.toInt ≤ (Io 0 9).toInt) → z = -1) : r = z := by
  rw [← hp] at m1 m2
  by_cases q : 0 ≤ n.toInt ∧ n.toInt ≤ (Ip 0 1).toInt
  · obtain ⟨c, pl, g, v, w⟩ := c1 q
    obtain ⟨c', pl', g', v', w'⟩ := m1 q
    obtain ⟨e1, e2, e3⟩ := PR.one (fun j hj => h j (by omega)) g v g' v'
    subst e1
    rcases w with ⟨a1, a2, a3, a4, a5⟩ | ⟨a1, a2, a3, a4⟩
    · rcases w' with ⟨b1, b2, b3, b4⟩ | ⟨b1, b2, b3⟩
      · have hS : TS (Io' 1) 0 := (hM.2.2.2.2.2.2.2 0 (by have := hM.mk; omega)).1
        rw [a1, b1]
        exact fxT.len hT hS (a4.symm.trans b3)
      · omega
    · rcases w' with ⟨b1, b2, b3, b4⟩ | ⟨b1, b2, b3⟩
      · omega
      · rw [a1, b1]
  · rw [c2 q, m2 q]
end Rel2
