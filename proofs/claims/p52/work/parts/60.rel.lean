/-! THE RELATION: trays, the tape's length, the number of MARKS -/
def RT (Id : Nat → Nat → Int32) (Jd : Nat → Nat → Int64) (Io : Nat → Nat → Int32) (Jo : Nat → Nat → Int64) : Prop :=
  ∀ j : Nat, j < 4 → Id 3 j = Io 3 j ∧ ((Id 3 j).toInt ≠ -1 → Id 2 j = Io 2 j) ∧ ∀ k : Nat, (k : Int) < (Id 3 j).toInt → Jd 1 (j * 60 + k) = Jo 4 (j * 60 + k)
section Rel
variable {Id Io Id' Io' Ip Ip' : Nat → Nat → Int32} {Jd Jo Jd' Jo' : Nat → Nat → Int64} {t so n pl to ia r z : Int32} {v u w : Int64}
theorem RT.new (h1 : ∀ j : Nat, j < 4 → Id 3 j = -1) (h2 : ∀ j : Nat, j < 4 → Io 3 j = -1) : RT Id Jd Io Jo := fun j hj => by
  have e := h1 j hj
  have z1 : (-1 : Int32).toInt = -1 := by decide
  refine ⟨e.trans (h2 j hj).symm, fun q => absurd (by rw [e]; exact z1) q, fun k hk => ?_⟩
  rw [e, z1] at hk
  omega
theorem RT.kk (h : RT Id Jd Io Jo) (e2 : Io' 2 = Io 2) (e3 : Io' 3 = Io 3) (e4 : Jo' 4 = Jo 4) : RT Id Jd Io' Jo' := fun j hj => by
  rw [e2, e3, e4]
  exact h j hj
theorem RT.tray (h : RT Id Jd Io Jo)
    (hc : (r = 1 ∧ 0 ≤ t.toInt ∧ t.toInt < 4 ∧ 0 ≤ so.toInt ∧ so.toInt < 4 ∧ 0 ≤ n.toInt ∧ n.toInt ≤ 60 ∧ Id' 2 = upd (Id 2) t.toNatClampNeg so ∧ Id' 3 = upd (Id 3) t.toNatClampNeg n ∧ ∀ j : Nat, Jd' 1 j = if t.toInt * 60 ≤ (j : Int) ∧ (j : Int) < t.toInt * 60 + n.toInt then 0 else Jd 1 j) ∨ (r = 0 ∧ ¬ (0 ≤ t.toInt ∧ t.toInt < 4 ∧ 0 ≤ so.toInt ∧ so.toInt < 4 ∧ 0 ≤ n.toInt ∧ n.toInt ≤ 60) ∧ Id' = Id ∧ Jd' = Jd))
    (hm : (z = 1 ∧ 0 ≤ t.toInt ∧ t.toInt < 4 ∧ 0 ≤ so.toInt ∧ so.toInt < 4 ∧ 0 ≤ n.toInt ∧ n.toInt ≤ 60 ∧ Io' 2 = upd (Io 2) t.toNatClampNeg so ∧ Io' 3 = upd (Io 3) t.toNatClampNeg n ∧ ∀ j : Nat, Jo' 4 j = if t.toInt * 60 ≤ (j : Int) ∧ (j : Int) < t.toInt * 60 + n.toInt then 0 else Jo 4 j) ∨ (z = 0 ∧ ¬ (0 ≤ t.toInt ∧ t.toInt < 4 ∧ 0 ≤ so.toInt ∧ so.toInt < 4 ∧ 0 ≤ n.toInt ∧ n.toInt ≤ 60) ∧ Io' 2 = Io 2 ∧ Io' 3 = Io 3 ∧ Jo' 4 = Jo 4)) : RT Id' Jd' Io' Jo' ∧ r = z := by
  rcases hc with ⟨rfl, c1, c2, c3, c4, c5, c6, d2, d3, dj⟩ | ⟨rfl, cn, rfl, rfl⟩
  · rcases hm with ⟨rfl, m1, m2, m3, m4, m5, m6, o2, o3, oj⟩ | ⟨_, mn, _⟩
    · refine ⟨fun j hj => ?_, rfl⟩
      obtain ⟨h3, h2, hk⟩ := h j hj
      have ht : (t.toNatClampNeg : Int) = t.toInt := t_cl rfl c1
      rw [d2, d3, o2, o3]
      by_cases q : j = t.toNatClampNeg
      · rw [upd_at q, upd_at q, upd_at q, upd_at q]
        refine ⟨rfl, fun _ => rfl, fun k hk => ?_⟩
        rw [dj, oj, if_pos (by omega), if_pos (by omega)]
      · rw [pk_un q, pk_un q, pk_un q, pk_un q]
        refine ⟨h3, h2, fun k hk2 => ?_⟩
        rw [dj, oj]
        by_cases w : t.toInt * 60 ≤ ((j * 60 + k : Nat) : Int) ∧ ((j * 60 + k : Nat) : Int) < t.toInt * 60 + n.toInt
        · rw [if_pos w, if_pos w]
        · rw [if_neg w, if_neg w]
          exact hk k hk2
    · exact absurd ⟨c1, c2, c3, c4, c5, c6⟩ mn
  · rcases hm with ⟨_, m1, m2, m3, m4, m5, m6, _⟩ | ⟨rfl, mn, o2, o3, oj⟩
    · exact absurd ⟨m1, m2, m3, m4, m5, m6⟩ cn
    · exact ⟨h.kk o2 o3 oj, rfl⟩
theorem RT.write (h : RT Id Jd Io Jo) (x2 : Io' 2 = Io 2) (x3 : Io' 3 = Io 3)
    (hc : (r = 1 ∧ (0 ≤ t.toInt ∧ t.toInt < 4) ∧ (0 ≤ pl.toInt ∧ pl.toInt < (Id 3 t.toNatClampNeg).toInt) ∧ Jd' 1 = vp_updL (Jd 1) (t.toInt * 60 + pl.toInt).toNat (cutL v (Id 2 t.toNatClampNeg))) ∨ (r = 0 ∧ ¬ ((0 ≤ t.toInt ∧ t.toInt < 4) ∧ (0 ≤ pl.toInt ∧ pl.toInt < (Id 3 t.toNatClampNeg).toInt)) ∧ Jd' = Jd))
    (hm : (z = 1 ∧ ((0 ≤ t.toInt ∧ t.toInt < 4) ∧ (0 ≤ pl.toInt ∧ pl.toInt < (Io 3 t.toNatClampNeg).toInt)) ∧ Jo' 4 = vp_updL (Jo 4) (t.toInt * 60 + pl.toInt).toNat (cutL v (Io 2 t.toNatClampNeg))) ∨ (z = 0 ∧ ¬ ((0 ≤ t.toInt ∧ t.toInt < 4) ∧ (0 ≤ pl.toInt ∧ pl.toInt < (Io 3 t.toNatClampNeg).toInt)) ∧ Jo' 4 = Jo 4)) : RT Id Jd' Io' Jo' ∧ r = z := by
  rcases hc with ⟨rfl, ⟨a1, a2⟩, ⟨b1, b2⟩, dj⟩ | ⟨rfl, cn, rfl⟩
  · have ht : (t.toNatClampNeg : Int) = t.toInt := t_cl rfl a1
    obtain ⟨e3, e2, ek⟩ := h t.toNatClampNeg (by omega)
    rcases hm with ⟨rfl, m0, oj⟩ | ⟨_, mn, _⟩
    · refine ⟨fun j hj => ?_, rfl⟩
      obtain ⟨h3, h2, hk⟩ := h j hj
      rw [x2, x3]
      refine ⟨h3, h2, fun k hk2 => ?_⟩
      rw [dj, oj]
      unfold vp_updL
      by_cases w : j * 60 + k = (t.toInt * 60 + pl.toInt).toNat
      · rw [if_pos w, if_pos w, e2 (by omega)]
      · rw [if_neg w, if_neg w]
        exact hk k hk2
    · exact absurd ⟨⟨a1, a2⟩, b1, by rw [← e3]; exact b2⟩ mn
  · rcases hm with ⟨_, ⟨⟨m1, m2⟩, m3, m4⟩, _⟩ | ⟨rfl, mn, oj⟩
    · have ht : (t.toNatClampNeg : Int) = t.toInt := t_cl rfl m1
      obtain ⟨e3, _, _⟩ := h t.toNatClampNeg (by omega)
      exact absurd ⟨⟨m1, m2⟩, m3, by rw [e3]; exact m4⟩ cn
    · exact ⟨h.kk x2 x3 oj, rfl⟩
theorem RT.read (h : RT Id Jd Io Jo)
    (hc : ((0 ≤ t.toInt ∧ t.toInt < 4) ∧ (0 ≤ pl.toInt ∧ pl.toInt < (Id 3 t.toNatClampNeg).toInt) ∧ u = Jd 1 (t.toInt * 60 + pl.toInt).toNat) ∨ (¬ ((0 ≤ t.toInt ∧ t.toInt < 4) ∧ (0 ≤ pl.toInt ∧ pl.toInt < (Id 3 t.toNatClampNeg).toInt)) ∧ u = -1))
    (hm : (((0 ≤ t.toInt ∧ t.toInt < 4) ∧ (0 ≤ pl.toInt ∧ pl.toInt < (Io 3 t.toNatClampNeg).toInt)) ∧ w = Jo 4 (t.toInt * 60 + pl.toInt).toNat) ∨ (¬ ((0 ≤ t.toInt ∧ t.toInt < 4) ∧ (0 ≤ pl.toInt ∧ pl.toInt < (Io 3 t.toNatClampNeg).toInt)) ∧ w = -1)) : u = w := by
  rcases hc with ⟨⟨a1, a2⟩, ⟨b1, b2⟩, rfl⟩ | ⟨cn, rfl⟩
  · have ht : (t.toNatClampNeg : Int) = t.toInt := t_cl rfl a1
    obtain ⟨e3, e2, ek⟩ := h t.toNatClampNeg (by omega)
    rcases hm with ⟨m0, rfl⟩ | ⟨mn, _⟩
    · have q := ek pl.toInt.toNat (by omega)
      rw [show t.toNatClampNeg * 60 + pl.toInt.toNat = (t.toInt * 60 + pl.toInt).toNat by omega] at q
      exact q
    · exact absurd ⟨⟨a1, a2⟩, b1, by rw [← e3]; exact b2⟩ mn
  · rcases hm with ⟨⟨⟨m1, m2⟩, m3, m4⟩, _⟩ | ⟨mn, rfl⟩
    · have ht : (t.toNatClampNeg : Int) = t.toInt := t_cl rfl m1
      obtain ⟨e3, _, _⟩ := h t.toNatClampNeg (by omega)
      exact absurd ⟨⟨m1, m2⟩, m3, by rw [e3]; exact m4⟩ cn
    · rfl
theorem RT.pour (h : RT Id Jd Io Jo) (x2 : Io' 2 = Io 2) (x3 : Io' 3 = Io 3)
    (hc : (r = 1 ∧ (0 ≤ t.toInt ∧ t.toInt < 4 ∧ 0 ≤ to.toInt ∧ to.toInt < 4 ∧ 0 ≤ pl.toInt ∧ 0 ≤ ia.toInt ∧ 0 ≤ n.toInt) ∧ ¬ (Id 3 t.toNatClampNeg).toInt = -1 ∧ ¬ (Id 3 to.toNatClampNeg).toInt = -1 ∧ Id 2 t.toNatClampNeg = Id 2 to.toNatClampNeg ∧ pl.toInt + n.toInt ≤ (Id 3 t.toNatClampNeg).toInt ∧ ia.toInt + n.toInt ≤ (Id 3 to.toNatClampNeg).toInt ∧ Jd' 1 = va_cpy (Jd 1) (Jd 1) (t.toInt * 60 + pl.toInt).toNat (to.toInt * 60 + ia.toInt).toNat n.toInt.toNat) ∨ (r = 0 ∧ Jd' = Jd ∧ ¬ ((0 ≤ t.toInt ∧ t.toInt < 4 ∧ 0 ≤ to.toInt ∧ to.toInt < 4 ∧ 0 ≤ pl.toInt ∧ 0 ≤ ia.toInt ∧ 0 ≤ n.toInt) ∧ ¬ (Id 3 t.toNatClampNeg).toInt = -1 ∧ ¬ (Id 3 to.toNatClampNeg).toInt = -1 ∧ (Id 2 t.toNatClampNeg).toInt = (Id 2 to.toNatClampNeg).toInt ∧ pl.toInt + n.toInt ≤ (Id 3 t.toNatClampNeg).toInt ∧ ia.toInt + n.toInt ≤ (Id 3 to.toNatClampNeg).toInt)))
    (hm : (z = 1 ∧ ((0 ≤ t.toInt ∧ t.toInt < 4 ∧ 0 ≤ to.toInt ∧ to.toInt < 4 ∧ 0 ≤ pl.toInt ∧ 0 ≤ ia.toInt ∧ 0 ≤ n.toInt) ∧ ¬ (Io 3 t.toNatClampNeg).toInt = -1 ∧ ¬ (Io 3 to.toNatClampNeg).toInt = -1 ∧ (Io 2 t.toNatClampNeg).toInt = (Io 2 to.toNatClampNeg).toInt ∧ pl.toInt + n.toInt ≤ (Io 3 t.toNatClampNeg).toInt ∧ ia.toInt + n.toInt ≤ (Io 3 to.toNatClampNeg).toInt) ∧ Jo' 4 = va_cpy (Jo 4) (Jo 4) (t.toInt * 60 + pl.toInt).toNat (to.toInt * 60 + ia.toInt).toNat n.toInt.toNat) ∨ (z = 0 ∧ ¬ ((0 ≤ t.toInt ∧ t.toInt < 4 ∧ 0 ≤ to.toInt ∧ to.toInt < 4 ∧ 0 ≤ pl.toInt ∧ 0 ≤ ia.toInt ∧ 0 ≤ n.toInt) ∧ ¬ (Io 3 t.toNatClampNeg).toInt = -1 ∧ ¬ (Io 3 to.toNatClampNeg).toInt = -1 ∧ (Io 2 t.toNatClampNeg).toInt = (Io 2 to.toNatClampNeg).toInt ∧ pl.toInt + n.toInt ≤ (Io 3 t.toNatClampNeg).toInt ∧ ia.toInt + n.toInt ≤ (Io 3 to.toNatClampNeg).toInt) ∧ Jo' 4 = Jo 4)) : RT Id Jd' Io' Jo' ∧ r = z := by
  rcases hc with ⟨rfl, ⟨a1, a2, a3, a4, a5, a6, a7⟩, c1, c2, c3, c4, c5, dj⟩ | ⟨rfl, rfl, cn⟩
  · have ht : (t.toNatClampNeg : Int) = t.toInt := t_cl rfl a1
    have ho : (to.toNatClampNeg : Int) = to.toInt := t_cl rfl a3
    obtain ⟨e3, e2, ek⟩ := h t.toNatClampNeg (by omega)
    obtain ⟨f3, f2, fk⟩ := h to.toNatClampNeg (by omega)
    have e2 := e2 c1
    have f2 := f2 c2
    rcases hm with ⟨rfl, m0, oj⟩ | ⟨_, mn, _⟩
    · refine ⟨fun j hj => ?_, rfl⟩
      obtain ⟨h3, h2, hk⟩ := h j hj
      rw [x2, x3]
      refine ⟨h3, h2, fun k hk2 => ?_⟩
      rw [dj, oj]
      unfold va_cpy
      by_cases w : (to.toInt * 60 + ia.toInt).toNat ≤ j * 60 + k ∧ j * 60 + k < (to.toInt * 60 + ia.toInt).toNat + n.toInt.toNat
      · rw [if_pos w, if_pos w]
        have q := ek (pl.toInt.toNat + (j * 60 + k - (to.toInt * 60 + ia.toInt).toNat)) (by omega)
        rw [show t.toNatClampNeg * 60 + (pl.toInt.toNat + (j * 60 + k - (to.toInt * 60 + ia.toInt).toNat)) = (t.toInt * 60 + pl.toInt).toNat + (j * 60 + k - (to.toInt * 60 + ia.toInt).toNat) by omega] at q
        exact q
      · rw [if_neg w, if_neg w]
        exact hk k hk2
    · refine absurd ⟨⟨a1, a2, a3, a4, a5, a6, a7⟩, ?_, ?_, ?_, ?_, ?_⟩ mn
      · rw [← e3]; exact c1
      · rw [← f3]; exact c2
      · rw [← e2, ← f2, c3]
      · rw [← e3]; exact c4
      · rw [← f3]; exact c5
  · rcases hm with ⟨_, ⟨⟨a1, a2, a3, a4, a5, a6, a7⟩, c1, c2, c3, c4, c5⟩, _⟩ | ⟨rfl, mn, oj⟩
    · have ht : (t.toNatClampNeg : Int) = t.toInt := t_cl rfl a1
      have ho : (to.toNatClampNeg : Int) = to.toInt := t_cl rfl a3
      obtain ⟨e3, e2, _⟩ := h t.toNatClampNeg (by omega)
      obtain ⟨f3, f2, _⟩ := h to.toNatClampNeg (by omega)
      have e2 := e2 (by rw [e3]; exact c1)
      have f2 := f2 (by rw [f3]; exact c2)
      refine absurd ⟨⟨a1, a2, a3, a4, a5, a6, a7⟩, ?_, ?_, ?_, ?_, ?_⟩ cn
      · rw [e3]; exact c1
      · rw [f3]; exact c2
      · rw [e2, f2]; exact c3
      · rw [e3]; exact c4
      · rw [f3]; exact c5
    · exact ⟨h.kk x2 x3 oj, rfl⟩
theorem RP.feed (h : Ip 0 1 = Io 0 9) (hc : (880 < (Ip 0 1).toInt ∧ r = -1 ∧ Ip' = Ip) ∨ ((Ip 0 1).toInt ≤ 880 ∧ r = Ip' 0 1 ∧ (Ip' 0 1).toInt = (Ip 0 1).toInt + 20))
    (hm : (880 < (Io 0 9).toInt ∧ z = -1 ∧ Io' 0 9 = Io 0 9) ∨ ((Io 0 9).toInt ≤ 880 ∧ z = Io' 0 9 ∧ (Io' 0 9).toInt = (Io 0 9).toInt + 20)) : Ip' 0 1 = Io' 0 9 ∧ r = z := by
  have h9 := congrArg Int32.toInt h
  rcases hc with ⟨c1, rfl, rfl⟩ | ⟨c1, c2, c3⟩
  · rcases hm with ⟨m1, rfl, m2⟩ | ⟨m1, _⟩
    · exact ⟨h.trans m2.symm, rfl⟩
    · omega
  · rcases hm with ⟨m1, _⟩ | ⟨m1, m2, m3⟩
    · omega
    · have q : Ip' 0 1 = Io' 0 9 := t_inj (by omega)
      exact ⟨q, by rw [c2, m2, q]⟩
theorem RP.cut {P P' : Prop} (h : Ip 0 1 = Io 0 9) (hp : P ↔ P') (hc : (¬ P ∧ Ip' 0 1 = Ip 0 1) ∨ (P ∧ Ip' 0 1 = 0)) (hm : (¬ P' ∧ Io' 0 9 = Io 0 9) ∨ (P' ∧ (Io' 0 9).toInt = 0)) : Ip' 0 1 = Io' 0 9 := by
  rcases hc with ⟨c1, c2⟩ | ⟨c1, c2⟩
  · rcases hm with ⟨m1, m2⟩ | ⟨m1, _⟩
    · rw [c2, m2, h]
    · exact absurd (hp.mpr m1) c1
  · rcases hm with ⟨m1, _⟩ | ⟨m1, m2⟩
    · exact absurd (hp.mp c1) m1
    · rw [c2]
      exact t_inj (by rw [m2]; decide)
theorem RM.mark {x x' y y' : Int32} (h : x = y) (hc : (3 ≤ x.toInt ∧ r = -1 ∧ x' = x) ∨ (x.toInt < 3 ∧ r = x' ∧ x'.toInt = x.toInt + 1)) (hm : (3 ≤ y.toInt ∧ z = -1 ∧ y' = y) ∨ (y.toInt < 3 ∧ z = y' ∧ y'.toInt = y.toInt + 1)) : x' = y' ∧ r = z := by
  subst h
  rcases hc with ⟨c1, c2, c3⟩ | ⟨c1, c2, c3⟩
  · rcases hm with ⟨m1, m2, m3⟩ | ⟨m1, _⟩
    · exact ⟨c3.trans m3.symm, c2.trans m2.symm⟩
    · omega
  · rcases hm with ⟨m1, _⟩ | ⟨m1, m2, m3⟩
    · omega
    · have q : x' = y' := t_inj (by omega)
      exact ⟨q, by rw [c2, m2, q]⟩
theorem RM.back {x x' y y' : Int32} (h : x = y) (hc : (x.toInt ≤ 0 ∧ r = -1 ∧ x' = x) ∨ (0 < x.toInt ∧ r = x' ∧ x'.toInt = x.toInt - 1)) (hm : (y.toInt ≤ 0 ∧ z = -1 ∧ y' = y) ∨ (0 < y.toInt ∧ z = y' ∧ y'.toInt = y.toInt - 1)) : x' = y' ∧ r = z := by
  subst h
  rcases hc with ⟨c1, c2, c3⟩ | ⟨c1, c2, c3⟩
  · rcases hm with ⟨m1, m2, m3⟩ | ⟨m1, _⟩
    · exact ⟨c3.trans m3.symm, c2.trans m2.symm⟩
    · omega
  · rcases hm with ⟨m1, _⟩ | ⟨m1, m2, m3⟩
    · omega
    · have q : x' = y' := t_inj (by omega)
      exact ⟨q, by rw [c2, m2, q]⟩
end Rel
section
variable {p : Program} {l : Launch} {e : Env} {R : Room} {s : State} {m : MethodId} {args : Array Value} {below : List Frame} {meth : Method} {c : Code} {H : Heap} {locs : List Loc} {cells slots : Nat} {Q : State → Prop} {pc : Nat} {ls : Array Slot} {rest : List Value}
theorem q_sameL {x z : Int64} (h : z = x) (k : W p l e R s m args below meth c H locs cells slots Q (F0 m pc ls (.long z :: rest))) : W p l e R s m args below meth c H locs cells slots Q (F0 m pc ls (.long x :: rest)) := by rw [← h]; exact k
end
/-! THE TAPES' BYTES, AND A PRESS ON BOTH SIDES -/
def TPr (Ip Io : Nat → Nat → Int32) : Prop := ∀ j : Nat, (j : Int) < (Ip 0 1).toInt → fxB (Ip 1) j = fxBm (Io 5) j
section Rel2
variable {Ip Io Ip' Io' It It' : Nat → Nat → Int32} {n r z : Int32}
theorem TPr.kk (h : TPr Ip Io) (e1 : Ip' 0 1 = Ip 0 1) (e2 : Ip' 1 = Ip 1) (e3 : Io' 5 = Io 5) : TPr Ip' Io' := fun j hj => by
  rw [e2, e3]
  rw [e1] at hj
  exact h j hj
theorem TPr.zero (h : (Ip 0 1).toInt = 0) : TPr Ip Io := fun j hj => by
  exfalso
  omega
theorem TPr.cut {P : Prop} (h : TPr Ip Io) (e : Io' 5 = Io 5) (hc : (¬ P ∧ Ip' 0 1 = Ip 0 1) ∨ (P ∧ Ip' 0 1 = 0)) (hn : ¬ P → Ip' 1 = Ip 1) : TPr Ip' Io' := by
  rcases hc with ⟨c1, c2⟩ | ⟨c1, c2⟩
  · exact h.kk c2 (hn c1) e
  · exact TPr.zero (by rw [c2]; decide)
theorem TPr.feed {vs : List Int32} (hp : Ip 0 1 = Io 0 9) (h0 : 0 ≤ (Ip 0 1).toInt) (h : TPr Ip Io) (e : Io' 5 = Io 5 ∨ ¬ 880 < (Io 0 9).toInt) (hl : vs.length = 5)
    (hc : (880 < (Ip 0 1).toInt ∧ r = -1 ∧ Ip' = Ip) ∨ ((Ip 0 1).toInt ≤ 880 ∧ r = Ip' 0 1 ∧ (Ip' 0 1).toInt = (Ip 0 1).toInt + 20))
    (c2 : (Ip 0 1).toInt ≤ 880 → fxFd fxB (Ip 1) (Ip' 1) (Ip 0 1).toInt.toNat vs) (m2 : (Io 0 9).toInt ≤ 880 → fxFd fxBm (Io 5) (Io' 5) (Io 0 9).toInt.toNat vs) : TPr Ip' Io' := by
  rcases hc with ⟨c1, _, rfl⟩ | ⟨c1, _, c3⟩
  · rcases e with e | e
    · exact h.kk rfl rfl e
    · rw [hp] at c1
      exact absurd c1 e
  · intro j hj
    have hm := m2 (by rw [← hp]; exact c1)
    rw [← hp] at hm
    exact fxFd.rel (fun j hj => h j (by omega)) (c2 c1) hm j (by omega)
theorem fxT.len {I : Nat → Nat → Int32} {A : Nat → Int32} {s : Nat} (hT : TI I) (hA : TS A s) (e : fxTc I = fxTM A s) : I 0 0 = A s := by
  have h1 := hT.1
  have h2 := hA.1
  have w : (fxTc I).2.length = (fxTM A s).2.length := by rw [e]
  rw [fxTc.len, fxTM.len] at w
  exact t_inj (by omega)
/-- two readings of the same bytes -/
theorem PR.one {B B' : Nat → Int} {n f pl f' pl' : Int} {c c' : Int × fxS} (e : ∀ j : Nat, (j : Int) < n → B j = B' j) (h : fxRe B n (0, fxS0) c) (v : fxVd B n c f pl) (h' : fxRe B' n (0, fxS0) c') (v' : fxVd B' n c' f' pl') : c = c' ∧ f = f' ∧ pl = pl' := by
  have q : 0 ≤ c.1 := h.fwd
  exact fxRe.one (Int.le_refl _) (h.congr (Int.le_refl _) e) (v.congr q e) h' v'
theorem PR.press (hp : Ip 0 1 = Io 0 9) (h : TPr Ip Io) (hT : TI It') (hM : MI Io')
    (c1 : (0 ≤ n.toInt ∧ n.toInt ≤ (Ip 0 1).toInt) → ∃ (c : Int × fxS) (pl : Int), fxRe (fxB (Ip 1)) n.toInt (0, fxS0) c ∧ fxVd (fxB (Ip 1)) n.toInt c (Ip' 0 3).toInt pl ∧ ((r = It' 0 0 ∧ (Ip' 0 3).toInt = 0 ∧ (Ip' 0 4).toInt = -1 ∧ c.2.2.2.2.1 = fxTc It' ∧ (It' 0 1).toInt = 0) ∨ (r = -1 ∧ (Ip' 0 3).toInt ≠ 0 ∧ (Ip' 0 4).toInt = pl ∧ It' = It)))
    (c2 : ¬ (0 ≤ n.toInt ∧ n.toInt ≤ (Ip 0 1).toInt) → r = -1)
    (m1 : (0 ≤ n.toInt ∧ n.toInt ≤ (Io 0 9).toInt) → ∃ (c : Int × fxS) (pl : Int), fxRe (fxBm (Io 5)) n.toInt (0, fxS0) c ∧ fxVd (fxBm (Io 5)) n.toInt c (Io' 0 15).toInt pl ∧ ((z = Io' 1 0 ∧ (Io' 0 15).toInt = 0 ∧ c.2.2.2.2.1 = fxTM (Io' 1) 0 ∧ (Io' 1 6).toInt = 0) ∨ (z = -1 ∧ (Io' 0 15).toInt ≠ 0 ∧ (Io' 0 16).toInt = pl ∧ ∀ j : Nat, j < 13200 → Io' 1 j = Io 1 j)))
    (m2 : ¬ (0 ≤ n.toInt ∧ n.toInt ≤ (Io 0 9).toInt) → z = -1) : r = z := by
  rw [← hp] at m1 m2
  by_cases q : 0 ≤ n.toInt ∧ n.toInt ≤ (Ip 0 1).toInt
  · obtain ⟨c, pl, g, v, w⟩ := c1 q
    obtain ⟨c', pl', g', v', w'⟩ := m1 q
    obtain ⟨e1, e2, e3⟩ := PR.one (fun j hj => h j (by omega)) g v g' v'
    subst e1
    rcases w with ⟨a1, a2, a3, a4, a5⟩ | ⟨a1, a2, a3, a4⟩
    · rcases w' with ⟨b1, b2, b3, b4⟩ | ⟨b1, b2, b3⟩
      · have hS : TS (Io' 1) 0 := (hM.2.2.2.2.2.2.2 0 (by have := hM.mk; omega)).1
        rw [a1, b1]
        exact fxT.len hT hS (a4.symm.trans b3)
      · omega
    · rcases w' with ⟨b1, b2, b3, b4⟩ | ⟨b1, b2, b3⟩
      · omega
      · rw [a1, b1]
  · rw [c2 q, m2 q]
end Rel2
/-! THE TABLES ON BOTH SIDES, AND THEIR MARKS (behind fnm and mdef) -/
def TBr (t : Nat → Nat → Int32) (A : Nat → Int32) (s : Nat) : Prop := fxTc t = fxTM A s ∧ t 0 1 = A (s + 6)
def TRr (t a b c o : Nat → Nat → Int32) : Prop := TBr t (o 1) 0 ∧ ∀ j : Nat, (j : Int) < (o 0 45).toInt → TBr (tsel j a b c) (o 1) (3300 * (j + 1))
section Rel3
variable {t t' a b c a' b' c' o o' Ip Ip' : Nat → Nat → Int32} {A A' : Nat → Int32} {s s' : Nat} {r z n : Int32}
theorem fxRM.mv {b b' : Nat} (h1 : (A b).toInt ≤ 6) (h2 : (A (b + 7)).toInt ≤ 3) (e : ∀ k, k < 12 → A' (b' + k) = A (b + k)) : fxRM A' b' = fxRM A b := by
  have e0 : A' b' = A b := e 0 (by omega)
  unfold fxRM fxLsM fxCsM
  rw [e0, e 7 (by omega), e 11 (by omega)]
  refine Prod.ext ?_ (Prod.ext ?_ rfl)
  · exact List.map_congr_left (fun k hk => by rw [List.mem_range] at hk; rw [Nat.add_assoc b', Nat.add_assoc b, e (1 + k) (by omega)])
  · exact List.map_congr_left (fun k hk => by rw [List.mem_range] at hk; rw [Nat.add_assoc b', Nat.add_assoc b, e (8 + k) (by omega)])
theorem fxTM.mv (hT : TS A s) (e : ∀ k, k < 300 → (k < 7 ∨ 12 ≤ k) → A' (s' + k) = A (s + k)) : fxTM A' s' = fxTM A s := by
  have e0 : A' s' = A s := e 0 (by omega) (by omega)
  have h0 := hT.1
  unfold fxTM
  rw [e0]
  refine Prod.ext ?_ ?_
  · show fxSgM A' s' = fxSgM A s
    funext k
    unfold fxSgM
    by_cases q : k < 5
    · rw [if_pos q, if_pos q, Nat.add_assoc s', Nat.add_assoc s, e (1 + k) (by omega) (by omega)]
    · rw [if_neg q, if_neg q]
  · refine List.map_congr_left (fun r hr => ?_)
    rw [List.mem_range] at hr
    obtain ⟨a, b, _⟩ := hT.2.2.2.2.1 r (by omega)
    rw [show s + 12 + 12 * r = s + (12 * r + 12) by omega, show s' + 12 + 12 * r = s' + (12 * r + 12) by omega]
    refine fxRM.mv a.2 (by rw [show s + (12 * r + 12) + 7 = s + (12 * r + 19) by omega]; exact b.2) (fun k hk => ?_)
    rw [Nat.add_assoc s', Nat.add_assoc s]
    exact e (12 * r + 12 + k) (by omega) (by omega)
theorem TBr.mv (h : TBr t A s) (hT : TS A s) (e : ∀ k, k < 300 → (k < 7 ∨ 12 ≤ k) → A' (s' + k) = A (s + k)) : TBr t A' s' := ⟨h.1.trans (fxTM.mv hT e).symm, h.2.trans (e 6 (by omega) (by omega)).symm⟩
theorem TBr.cp (h : TBr t A s) (k : cpT t' t) : TBr t' A s := ⟨k.1.trans h.1, k.2.trans h.2⟩
theorem MI.slot (h : MI o) (j : Nat) (hj : (j : Int) ≤ (o 0 45).toInt) : TS (o 1) (3300 * j) := (h.2.2.2.2.2.2.2 j hj).1
theorem TRr.ks (h : TRr t a b c o) (hM : MI o) (f : ∀ j : Nat, 3300 ≤ j → j < 13200 → o' 1 j = o 1 j) (e : o' 0 45 = o 0 45) : ∀ j : Nat, (j : Int) < (o' 0 45).toInt → TBr (tsel j a b c) (o' 1) (3300 * (j + 1)) := fun j hj => by
  have hm := hM.mk
  rw [e] at hj
  exact (h.2 j hj).mv (hM.slot (j + 1) (by omega)) (fun k h1 h2 => f _ (by omega) (by omega))
theorem TRr.ft (h : TRr t a b c o) (hM : MI o) (f : FT o o') (e : o' 0 45 = o 0 45) : TRr t a b c o' :=
  ⟨h.1.mv hM.t0 (fun k h1 h2 => f _ (by omega)), h.ks hM (fun j h1 h2 => f j (by omega)) e⟩
theorem TRr.press (hp : Ip 0 1 = o 0 9) (hB : TPr Ip o) (h : TRr t a b c o) (hM : MI o) (e45 : o' 0 45 = o 0 45)
    (c1 : (0 ≤ n.toInt ∧ n.toInt ≤ (Ip 0 1).toInt) → ∃ (c : Int × fxS) (pl : Int), fxRe (fxB (Ip 1)) n.toInt (0, fxS0) c ∧ fxVd (fxB (Ip 1)) n.toInt c (Ip' 0 3).toInt pl ∧ ((r = t' 0 0 ∧ (Ip' 0 3).toInt = 0 ∧ (Ip' 0 4).toInt = -1 ∧ c.2.2.2.2.1 = fxTc t' ∧ (t' 0 1).toInt = 0) ∨ (r = -1 ∧ (Ip' 0 3).toInt ≠ 0 ∧ (Ip' 0 4).toInt = pl ∧ t' = t)))
    (c2 : ¬ (0 ≤ n.toInt ∧ n.toInt ≤ (Ip 0 1).toInt) → t' = t)
    (m1 : (0 ≤ n.toInt ∧ n.toInt ≤ (o 0 9).toInt) → ∃ (c : Int × fxS) (pl : Int), fxRe (fxBm (o 5)) n.toInt (0, fxS0) c ∧ fxVd (fxBm (o 5)) n.toInt c (o' 0 15).toInt pl ∧ ((z = o' 1 0 ∧ (o' 0 15).toInt = 0 ∧ c.2.2.2.2.1 = fxTM (o' 1) 0 ∧ (o' 1 6).toInt = 0 ∧ ∀ j : Nat, 3300 ≤ j → j < 13200 → o' 1 j = o 1 j) ∨ (z = -1 ∧ (o' 0 15).toInt ≠ 0 ∧ (o' 0 16).toInt = pl ∧ ∀ j : Nat, j < 13200 → o' 1 j = o 1 j)))
    (m2 : ¬ (0 ≤ n.toInt ∧ n.toInt ≤ (o 0 9).toInt) → o' 1 = o 1) : TRr t' a b c o' := by
  rw [← hp] at m1 m2
  by_cases q : 0 ≤ n.toInt ∧ n.toInt ≤ (Ip 0 1).toInt
  · obtain ⟨c, pl, g, v, w⟩ := c1 q
    obtain ⟨c', pl', g', v', w'⟩ := m1 q
    obtain ⟨e1, e2, e3⟩ := PR.one (fun j hj => hB j (by omega)) g v g' v'
    subst e1
    rcases w with ⟨a1, a2, a3, a4, a5⟩ | ⟨a1, a2, a3, a4⟩
    · rcases w' with ⟨b1, b2, b3, b4, b5⟩ | ⟨b1, b2, b3⟩
      · exact ⟨⟨a4.symm.trans b3, t_inj (by rw [a5, Nat.zero_add, b4])⟩, h.ks hM b5 e45⟩
      · omega
    · rcases w' with ⟨b1, b2, b3, b4, b5⟩ | ⟨b1, b2, b3, b4⟩
      · omega
      · rw [a4]
        exact h.ft hM (fun j hj => b4 j (by omega)) e45
  · rw [c2 q]
    exact h.ft hM (fun j _ => by rw [m2 q]) e45
theorem dp_eq (d rule isd : Int32) : dpC d rule isd = dpM d rule isd := by
  unfold dpC dpM
  by_cases q : isd.toInt = 0
  · rw [if_pos q, if_pos q]
    apply b_ext
    intro i hi
    rw [b_or, b_0, Bool.or_false]
  · rw [if_neg q, if_neg q]
    apply b_ext
    intro i hi
    rw [b_or, b_or, b_and, b_xor, b_m1 i hi]
    cases bt d i <;> cases bt (1 <<< (rule &&& 31)) i <;> rfl
theorem fxTc.dp {v : Int32} : fxTc (uF t 0 1 v) = fxTc t := by
  have e0 : uF t 0 1 v 0 0 = t 0 0 := uF_ne (by omega)
  have e : ∀ k : Nat, k ≠ 0 → uF t 0 1 v k = t k := fun k hk => uF_nc hk
  unfold fxTc fxSg fxRc fxLs fxCs
  rw [e0, e 1 (by decide), e 2 (by decide), e 3 (by decide), e 4 (by decide), e 5 (by decide), e 6 (by decide)]
theorem TRr.drop {rule isd : Int32} (h : TRr t a b c o) (hM : MI o) (hT : TI t) (e45 : o' 0 45 = o 0 45)
    (hc : (r = 1 ∧ (0 ≤ rule.toInt ∧ rule.toInt < (t 0 0).toInt) ∧ t' = uF t 0 1 (dpC (t 0 1) rule isd)) ∨ (r = 0 ∧ ¬ (0 ≤ rule.toInt ∧ rule.toInt < (t 0 0).toInt) ∧ t' = t))
    (hm : (z = 1 ∧ (0 ≤ rule.toInt ∧ rule.toInt < (o 1 0).toInt) ∧ o' 1 = upd (o 1) 6 (dpM (o 1 6) rule isd)) ∨ (z = 0 ∧ ¬ (0 ≤ rule.toInt ∧ rule.toInt < (o 1 0).toInt) ∧ o' 1 = o 1)) : TRr t' a b c o' ∧ r = z := by
  have hl : t 0 0 = o 1 0 := fxT.len hT hM.t0 h.1.1
  rw [← hl] at hm
  rcases hc with ⟨c1, c2, c3⟩ | ⟨c1, c2, c3⟩
  · rcases hm with ⟨m1, m2, m3⟩ | ⟨m1, m2, m3⟩
    · refine ⟨⟨⟨?_, ?_⟩, h.ks hM (fun j h1 h2 => by rw [m3, pk_un (by omega)]) e45⟩, by rw [c1, m1]⟩
      · rw [c3, fxTc.dp, h.1.1, m3]
        exact (fxTM.congr hM.t0 (fun k hk => pk_un (by omega)) (fun k h1 h2 => pk_un (by omega))).symm
      · rw [c3, m3, upd_at rfl, ← dp_eq, show t 0 1 = o 1 6 from h.1.2]
        show uF t 0 1 (dpC (o 1 6) rule isd) 0 1 = _
        unfold uF
        rw [if_pos rfl, upd_at rfl]
    · exact absurd c2 m2
  · rcases hm with ⟨m1, m2, m3⟩ | ⟨m1, m2, m3⟩
    · exact absurd m2 c2
    · refine ⟨?_, by rw [c1, m1]⟩
      rw [c3]
      exact h.ft hM (fun j _ => by rw [m3]) e45
theorem TRr.mark (hm : Ip 0 19 = o 0 45) (h : TRr t a b c o) (hM : MI o)
    (hc : (3 ≤ (Ip 0 19).toInt ∧ a' = a ∧ b' = b ∧ c' = c) ∨ ((Ip 0 19).toInt < 3 ∧ ∀ j : Nat, j < 3 → ((j : Int) = (Ip 0 19).toInt → cpT (tsel j a' b' c') t) ∧ ((j : Int) ≠ (Ip 0 19).toInt → tsel j a' b' c' = tsel j a b c)))
    (hm2 : (3 ≤ (o 0 45).toInt ∧ o' 1 = o 1 ∧ o' 0 45 = o 0 45) ∨ ((o 0 45).toInt < 3 ∧ (o' 0 45).toInt = (o 0 45).toInt + 1 ∧ ∀ j : Nat, ((3300 * ((o 0 45).toInt + 1) ≤ (j : Int) ∧ (j : Int) < 3300 * ((o 0 45).toInt + 1) + 3300) → o' 1 j = o 1 ((j : Int) - 3300 * ((o 0 45).toInt + 1)).toNat) ∧ (¬ (3300 * ((o 0 45).toInt + 1) ≤ (j : Int) ∧ (j : Int) < 3300 * ((o 0 45).toInt + 1) + 3300) → o' 1 j = o 1 j))) : TRr t a' b' c' o' := by
  have hk := hM.mk
  rw [hm] at hc
  rcases hc with ⟨c1, c2, c3, c4⟩ | ⟨c1, c2⟩
  · rcases hm2 with ⟨m1, m2, m3⟩ | ⟨m1, m2, m3⟩
    · rw [c2, c3, c4]
      exact h.ft hM (fun j _ => by rw [m2]) m3
    · omega
  · rcases hm2 with ⟨m1, m2, m3⟩ | ⟨m1, m2, m3⟩
    · omega
    · refine ⟨h.1.mv hM.t0 (fun k h1 h2 => (m3 _).2 (by omega)), fun j hj => ?_⟩
      by_cases q : (j : Int) = (o 0 45).toInt
      · refine TBr.cp (h.1.mv hM.t0 (fun k h1 h2 => ?_)) ((c2 j (by omega)).1 q)
        rw [(m3 _).1 (by omega)]
        congr 1
        omega
      · rw [(c2 j (by omega)).2 q]
        exact (h.2 j (by omega)).mv (hM.slot (j + 1) (by omega)) (fun k h1 h2 => (m3 _).2 (by omega))
theorem TRr.back (hm : Ip 0 19 = o 0 45) (h : TRr t a b c o) (hM : MI o)
    (hc : ((Ip 0 19).toInt ≤ 0 ∧ t' = t) ∨ (0 < (Ip 0 19).toInt ∧ ∀ j : Nat, j < 3 → (j : Int) = (Ip 0 19).toInt - 1 → cpT t' (tsel j a b c)))
    (hm2 : ((o 0 45).toInt ≤ 0 ∧ o' 1 = o 1 ∧ o' 0 45 = o 0 45) ∨ (0 < (o 0 45).toInt ∧ (o' 0 45).toInt = (o 0 45).toInt - 1 ∧ ∀ j : Nat, (j < 3300 → o' 1 j = o 1 (j + 3300 * (o 0 45).toInt.toNat)) ∧ (¬ j < 3300 → o' 1 j = o 1 j))) : TRr t' a b c o' := by
  have hk := hM.mk
  rw [hm] at hc
  rcases hc with ⟨c1, c2⟩ | ⟨c1, c2⟩
  · rcases hm2 with ⟨m1, m2, m3⟩ | ⟨m1, m2, m3⟩
    · rw [c2]
      exact h.ft hM (fun j _ => by rw [m2]) m3
    · omega
  · rcases hm2 with ⟨m1, m2, m3⟩ | ⟨m1, m2, m3⟩
    · omega
    · refine ⟨?_, fun j hj => ?_⟩
      · have w := h.2 ((o 0 45).toInt - 1).toNat (by omega)
        refine TBr.cp ((w.mv (hM.slot (((o 0 45).toInt - 1).toNat + 1) (by omega)) (fun k h1 h2 => ?_))) (c2 ((o 0 45).toInt - 1).toNat (by omega) (by omega))
        rw [(m3 _).1 (by omega)]
        congr 1
        omega
      · exact (h.2 j (by omega)).mv (hM.slot (j + 1) (by omega)) (fun k h1 h2 => (m3 _).2 (by omega))
/-- the tables' numbers, one by one -/
theorem rg_map {n m : Nat} {f g : Nat → Int} (h : (List.range n).map f = (List.range m).map g) : n = m ∧ ∀ k, k < n → f k = g k := by
  have l := congrArg List.length h
  rw [List.length_map, List.length_map, List.length_range, List.length_range] at l
  subst l
  exact ⟨rfl, fun k hk => List.map_inj_left.1 h k (List.mem_range.2 hk)⟩
theorem rg_mapR {n m : Nat} {f g : Nat → fxR} (h : (List.range n).map f = (List.range m).map g) : n = m ∧ ∀ k, k < n → f k = g k := by
  have l := congrArg List.length h
  rw [List.length_map, List.length_map, List.length_range, List.length_range] at l
  subst l
  exact ⟨rfl, fun k hk => List.map_inj_left.1 h k (List.mem_range.2 hk)⟩
theorem TBr.sg (h : TBr t A s) {k : Nat} (hk : k < 5) : t 1 k = A (s + 1 + k) := by
  have w : fxSg t k = fxSgM A s k := congrFun (congrArg Prod.fst h.1) k
  unfold fxSg fxSgM at w
  rw [if_pos hk, if_pos hk] at w
  exact t_inj w
theorem TBr.len (h : TBr t A s) (hT : TI t) (hA : TS A s) : t 0 0 = A s := fxT.len hT hA h.1
theorem TBr.ru (h : TBr t A s) (hT : TI t) (hA : TS A s) {r : Nat} (hr : (r : Int) < (t 0 0).toInt) : t 2 r = A (s + 12 + 12 * r) ∧ t 3 r = A (s + 12 + 12 * r + 7) ∧ t 4 r = A (s + 12 + 12 * r + 11) ∧ (∀ k : Nat, (k : Int) < (t 2 r).toInt → t 5 (6 * r + k) = A (s + 12 + 12 * r + 1 + k)) ∧ ∀ k : Nat, (k : Int) < (t 3 r).toInt → t 6 (3 * r + k) = A (s + 12 + 12 * r + 8 + k) := by
  have w : (List.range (t 0 0).toInt.toNat).map (fxRc t) = (List.range (A s).toInt.toNat).map (fun r => fxRM A (s + 12 + 12 * r)) := congrArg Prod.snd h.1
  have e : fxRc t r = fxRM A (s + 12 + 12 * r) := (rg_mapR w).2 r (by omega)
  have e1 : fxLs t r = fxLsM A (s + 12 + 12 * r) := congrArg Prod.fst e
  have e2 : fxCs t r = fxCsM A (s + 12 + 12 * r) := congrArg (fun x => x.2.1) e
  have e3 : (t 4 r).toInt = (A (s + 12 + 12 * r + 11)).toInt := congrArg (fun x => x.2.2) e
  have hl := h.len hT hA
  have h24 := hA.1
  rw [hl] at hr
  obtain ⟨g1, g2, _⟩ := hA.2.2.2.2.1 r (by omega)
  rw [show s + (12 * r + 12) = s + 12 + 12 * r by omega] at g1
  rw [show s + (12 * r + 19) = s + 12 + 12 * r + 7 by omega] at g2
  have p1 := rg_map e1
  have p2 := rg_map e2
  have f1 := hT.lc r
  have f2 := hT.cc r
  exact ⟨t_inj (by have := p1.1; omega), t_inj (by have := p2.1; omega), t_inj e3, fun k hk => t_inj (p1.2 k (by omega)), fun k hk => t_inj (p2.2 k (by omega))⟩
/-- what is told of the table -/
theorem TRr.told {w : Int32} (h : TRr t a b c o) (hT : TI t) (hM : MI o)
    (hc : (¬ (0 ≤ w.toInt ∧ w.toInt ≤ 6) ∧ r = -1) ∨ (w.toInt = 0 ∧ r = t 0 0) ∨ (w.toInt = 6 ∧ r = t 0 1) ∨ ((1 ≤ w.toInt ∧ w.toInt ≤ 5) ∧ (((t 1 (w.toInt - 1).toNat).toInt ≠ 0 ∧ r = t 1 (w.toInt - 1).toNat) ∨ ((t 1 (w.toInt - 1).toNat).toInt = 0 ∧ r = -1))))
    (hm : (¬ (0 ≤ w.toInt ∧ w.toInt ≤ 6) ∧ z = -1) ∨ ((0 ≤ w.toInt ∧ w.toInt ≤ 6) ∧ ((1 ≤ w.toInt ∧ w.toInt ≤ 3 ∧ (o 1 w.toInt.toNat).toInt = 0 ∧ z = -1) ∨ (¬ (1 ≤ w.toInt ∧ w.toInt ≤ 3 ∧ (o 1 w.toInt.toNat).toInt = 0) ∧ z = o 1 w.toInt.toNat)))) : r = z := by
  have hl := h.1.len hT hM.t0
  have h6 : t 0 1 = o 1 6 := h.1.2
  have li := hT.li
  have pa := hT.pa
  rcases hc with ⟨c1, c2⟩ | ⟨c1, c2⟩ | ⟨c1, c2⟩ | ⟨c1, c2⟩
  · rcases hm with ⟨m1, m2⟩ | ⟨m1, m2⟩
    · rw [c2, m2]
    · exact absurd m1 c1
  · rcases hm with ⟨m1, m2⟩ | ⟨m1, m2⟩
    · omega
    · rw [c1] at m2
      rcases m2 with m2 | m2
      · omega
      · rw [c2, m2.2, hl]; rfl
  · rcases hm with ⟨m1, m2⟩ | ⟨m1, m2⟩
    · omega
    · rw [c1] at m2
      rcases m2 with m2 | m2
      · omega
      · rw [c2, m2.2, h6]; rfl
  · rcases hm with ⟨m1, m2⟩ | ⟨m1, m2⟩
    · omega
    · have e : t 1 (w.toInt - 1).toNat = o 1 w.toInt.toNat := by
        rw [h.1.sg (by omega), show 0 + 1 + (w.toInt - 1).toNat = w.toInt.toNat by omega]
      rcases c2 with ⟨c2, c3⟩ | ⟨c2, c3⟩
      · rcases m2 with ⟨m3, m4, m5, m6⟩ | ⟨m3, m4⟩
        · rw [e] at c2
          exact absurd m5 c2
        · rw [c3, m4, e]
      · rcases m2 with ⟨m3, m4, m5, m6⟩ | ⟨m3, m4⟩
        · rw [c3, m6]
        · exfalso
          rw [← e] at m3
          by_cases q : w.toInt ≤ 3
          · exact m3 ⟨by omega, q, c2⟩
          · have : w.toInt = 4 ∨ w.toInt = 5 := by omega
            rcases this with k | k <;> rw [k] at c2
            · exact absurd c2 (by have : (4 - 1 : Int).toNat = 3 := rfl; rw [this]; omega)
            · exact absurd c2 (by have : (5 - 1 : Int).toNat = 4 := rfl; rw [this]; omega)
theorem TRr.rule {ru w : Int32} (h : TRr t a b c o) (hT : TI t) (hM : MI o)
    (hc : (¬ ((0 ≤ ru.toInt ∧ ru.toInt < (t 0 0).toInt) ∧ 0 ≤ w.toInt ∧ w.toInt ≤ 2) ∧ r = -1) ∨ ((0 ≤ ru.toInt ∧ ru.toInt < (t 0 0).toInt) ∧ ((w.toInt = 0 ∧ r = t 2 ru.toInt.toNat) ∨ (w.toInt = 1 ∧ r = t 3 ru.toInt.toNat) ∨ (w.toInt = 2 ∧ r = t 4 ru.toInt.toNat))))
    (hm : (¬ ((0 ≤ ru.toInt ∧ ru.toInt < (o 1 0).toInt) ∧ 0 ≤ w.toInt ∧ w.toInt ≤ 2) ∧ z = -1) ∨ ((0 ≤ ru.toInt ∧ ru.toInt < (o 1 0).toInt) ∧ ((w.toInt = 0 ∧ z = o 1 (12 + 12 * ru.toInt.toNat)) ∨ (w.toInt = 1 ∧ z = o 1 (12 + 12 * ru.toInt.toNat + 7)) ∨ (w.toInt = 2 ∧ z = o 1 (12 + 12 * ru.toInt.toNat + 11))))) : r = z := by
  have hl := h.1.len hT hM.t0
  rw [← hl] at hm
  rcases hc with ⟨c1, c2⟩ | ⟨c1, c2⟩
  · rcases hm with ⟨m1, m2⟩ | ⟨m1, m2⟩
    · rw [c2, m2]
    · exact absurd ⟨m1, by omega, by omega⟩ c1
  · obtain ⟨e1, e2, e3, _⟩ := h.1.ru hT hM.t0 (r := ru.toInt.toNat) (by omega)
    rw [Nat.zero_add] at e1 e2 e3
    rcases hm with ⟨m1, m2⟩ | ⟨m1, m2⟩
    · exact absurd ⟨c1, by omega, by omega⟩ m1
    · rcases c2 with ⟨c2, c3⟩ | ⟨c2, c3⟩ | ⟨c2, c3⟩ <;> rcases m2 with ⟨m2, m3⟩ | ⟨m2, m3⟩ | ⟨m2, m3⟩ <;> first | (exfalso; omega) | (rw [c3, m3]; assumption)
theorem TRr.letter {ru k : Int32} (h : TRr t a b c o) (hT : TI t) (hM : MI o)
    (hc : (¬ (0 ≤ ru.toInt ∧ ru.toInt < (t 0 0).toInt) ∧ r = -1) ∨ ((0 ≤ ru.toInt ∧ ru.toInt < (t 0 0).toInt) ∧ ((¬ (0 ≤ k.toInt ∧ k.toInt < (t 2 ru.toInt.toNat).toInt) ∧ r = -1) ∨ ((0 ≤ k.toInt ∧ k.toInt < (t 2 ru.toInt.toNat).toInt) ∧ r = t 5 (ru.toInt * 6 + k.toInt).toNat))))
    (hm : (¬ (0 ≤ ru.toInt ∧ ru.toInt < (o 1 0).toInt) ∧ z = -1) ∨ ((0 ≤ ru.toInt ∧ ru.toInt < (o 1 0).toInt) ∧ ((¬ (0 ≤ k.toInt ∧ k.toInt < (o 1 (12 + 12 * ru.toInt.toNat)).toInt) ∧ z = -1) ∨ ((0 ≤ k.toInt ∧ k.toInt < (o 1 (12 + 12 * ru.toInt.toNat)).toInt) ∧ z = o 1 (12 + 12 * ru.toInt.toNat + 1 + k.toInt.toNat))))) : r = z := by
  have hl := h.1.len hT hM.t0
  rw [← hl] at hm
  rcases hc with ⟨c1, c2⟩ | ⟨c1, c2⟩
  · rcases hm with ⟨m1, m2⟩ | ⟨m1, m2⟩
    · rw [c2, m2]
    · exact absurd m1 c1
  · obtain ⟨e1, _, _, e4, _⟩ := h.1.ru hT hM.t0 (r := ru.toInt.toNat) (by omega)
    rw [Nat.zero_add] at e1 e4
    rcases hm with ⟨m1, m2⟩ | ⟨m1, m2⟩
    · exact absurd c1 m1
    · rw [← e1] at m2
      rcases c2 with ⟨c2, c3⟩ | ⟨c2, c3⟩ <;> rcases m2 with ⟨m2, m3⟩ | ⟨m2, m3⟩
      · rw [c3, m3]
      · exact absurd m2 c2
      · exact absurd c2 m2
      · rw [c3, m3, show (ru.toInt * 6 + k.toInt).toNat = 6 * ru.toInt.toNat + k.toInt.toNat by omega]
        exact e4 k.toInt.toNat (by omega)
theorem TRr.cellOf {ru k : Int32} (h : TRr t a b c o) (hT : TI t) (hM : MI o)
    (hc : (¬ (0 ≤ ru.toInt ∧ ru.toInt < (t 0 0).toInt) ∧ r = -1) ∨ ((0 ≤ ru.toInt ∧ ru.toInt < (t 0 0).toInt) ∧ ((¬ (0 ≤ k.toInt ∧ k.toInt < (t 3 ru.toInt.toNat).toInt) ∧ r = -1) ∨ ((0 ≤ k.toInt ∧ k.toInt < (t 3 ru.toInt.toNat).toInt) ∧ r = t 6 (ru.toInt * 3 + k.toInt).toNat))))
    (hm : (¬ (0 ≤ ru.toInt ∧ ru.toInt < (o 1 0).toInt) ∧ z = -1) ∨ ((0 ≤ ru.toInt ∧ ru.toInt < (o 1 0).toInt) ∧ ((¬ (0 ≤ k.toInt ∧ k.toInt < (o 1 (12 * ru.toInt.toNat + 19)).toInt) ∧ z = -1) ∨ ((0 ≤ k.toInt ∧ k.toInt < (o 1 (12 * ru.toInt.toNat + 19)).toInt) ∧ z = o 1 (12 * ru.toInt.toNat + (20 + k.toInt.toNat)))))) : r = z := by
  have hl := h.1.len hT hM.t0
  rw [← hl] at hm
  rcases hc with ⟨c1, c2⟩ | ⟨c1, c2⟩
  · rcases hm with ⟨m1, m2⟩ | ⟨m1, m2⟩
    · rw [c2, m2]
    · exact absurd m1 c1
  · obtain ⟨_, e2, _, _, e5⟩ := h.1.ru hT hM.t0 (r := ru.toInt.toNat) (by omega)
    rw [show 0 + 12 + 12 * ru.toInt.toNat + 7 = 12 * ru.toInt.toNat + 19 by omega] at e2
    rcases hm with ⟨m1, m2⟩ | ⟨m1, m2⟩
    · exact absurd c1 m1
    · rw [← e2] at m2
      rcases c2 with ⟨c2, c3⟩ | ⟨c2, c3⟩ <;> rcases m2 with ⟨m2, m3⟩ | ⟨m2, m3⟩
      · rw [c3, m3]
      · exact absurd m2 c2
      · exact absurd c2 m2
      · rw [c3, m3, show (ru.toInt * 3 + k.toInt).toNat = 3 * ru.toInt.toNat + k.toInt.toNat by omega, e5 k.toInt.toNat (by omega), show 0 + 12 + 12 * ru.toInt.toNat + 8 + k.toInt.toNat = 12 * ru.toInt.toNat + (20 + k.toInt.toNat) by omega]
end Rel3
/-! ANSWERS FROM THE TABLES (behind rel3) -/
section Rel4
variable {t a b c o : Nat → Nat → Int32} {r z ru ra rb : Int32}
theorem TRr.eq (h : TRr t a b c o) (hT : TI t) (hM : MI o) : tbEq (t 0 0).toInt (cC t) (mC (o 1)) (cL t) (mL (o 1)) := fun r hr => by
  obtain ⟨_, e2, _, _, e5⟩ := h.1.ru hT hM.t0 hr
  refine ⟨?_, fun k hk => ?_⟩
  · show t 3 r = o 1 (12 * r + 19)
    rw [e2]
    congr 1
    omega
  · show t 6 (3 * r + k) = o 1 (12 * r + (20 + k))
    rw [e5 k hk]
    congr 1
    omega
theorem TRr.turned (h : TRr t a b c o) (hT : TI t) (hM : MI o)
    (hc : (¬ (0 ≤ ru.toInt ∧ ru.toInt < (t 0 0).toInt) ∧ r = -1) ∨ ((0 ≤ ru.toInt ∧ ru.toInt < (t 0 0).toInt) ∧ tbFst (tbMir (cC t) (cL t) ru.toInt.toNat) (t 0 0).toInt r))
    (hm : (¬ (0 ≤ ru.toInt ∧ ru.toInt < (o 1 0).toInt) ∧ z = -1) ∨ ((0 ≤ ru.toInt ∧ ru.toInt < (o 1 0).toInt) ∧ tbFst (tbMir (mC (o 1)) (mL (o 1)) ru.toInt.toNat) (o 1 0).toInt z)) : r = z := by
  have hl := h.1.len hT hM.t0
  rw [← hl] at hm
  rcases hc with ⟨c1, c2⟩ | ⟨c1, c2⟩
  · rcases hm with ⟨m1, m2⟩ | ⟨m1, m2⟩
    · rw [c2, m2]
    · exact absurd m1 c1
  · rcases hm with ⟨m1, m2⟩ | ⟨m1, m2⟩
    · exact absurd c1 m1
    · exact tbFst.one c2 m2 (fun j hj => tbMir.eq (h.eq hT hM) (by omega) hj)
theorem TRr.clash (h : TRr t a b c o) (hT : TI t) (hM : MI o)
    (hc : (¬ ((0 ≤ ra.toInt ∧ ra.toInt < (t 0 0).toInt) ∧ 0 ≤ rb.toInt ∧ rb.toInt < (t 0 0).toInt) ∧ r = -1) ∨ (((0 ≤ ra.toInt ∧ ra.toInt < (t 0 0).toInt) ∧ 0 ≤ rb.toInt ∧ rb.toInt < (t 0 0).toInt) ∧ r.toInt = bI (begB (cC t) (cL t) ra.toInt.toNat rb.toInt.toNat)))
    (hm : (¬ ((0 ≤ ra.toInt ∧ ra.toInt < (o 1 0).toInt) ∧ 0 ≤ rb.toInt ∧ rb.toInt < (o 1 0).toInt) ∧ z = -1) ∨ (((0 ≤ ra.toInt ∧ ra.toInt < (o 1 0).toInt) ∧ 0 ≤ rb.toInt ∧ rb.toInt < (o 1 0).toInt) ∧ z.toInt = bI (begB (mC (o 1)) (mL (o 1)) ra.toInt.toNat rb.toInt.toNat))) : r = z := by
  have hl := h.1.len hT hM.t0
  rw [← hl] at hm
  rcases hc with ⟨c1, c2⟩ | ⟨c1, c2⟩
  · rcases hm with ⟨m1, m2⟩ | ⟨m1, m2⟩
    · rw [c2, m2]
    · exact absurd m1 c1
  · rcases hm with ⟨m1, m2⟩ | ⟨m1, m2⟩
    · exact absurd c1 m1
    · exact t_inj (by rw [c2, m2, begB.eq (h.eq hT hM) (by omega) (by omega)])
theorem TRr.eqN (h : TRr t a b c o) (hT : TI t) (hM : MI o) : tbEq ((t 0 0).toInt.toNat : Nat) (cC t) (mC (o 1)) (cL t) (mL (o 1)) := by
  have q := hT.ru
  rw [show (((t 0 0).toInt.toNat : Nat) : Int) = (t 0 0).toInt by omega]
  exact h.eq hT hM
theorem TRr.twins (h : TRr t a b c o) (hT : TI t) (hM : MI o) (hc : r.toInt = sumN (twR (t 0 1) (cC t) (cL t) (t 0 0).toInt.toNat) (t 0 0).toInt.toNat) (hm : z.toInt = sumN (tmR (o 1 6) (mC (o 1)) (mL (o 1)) (o 1 0).toInt.toNat) (o 1 0).toInt.toNat) : r = z := by
  rw [← h.1.len hT hM.t0, ← show t 0 1 = o 1 6 from h.1.2] at hm
  exact t_inj (by rw [hc, hm, tw_eq (h.eqN hT hM)])
theorem TRr.clashes (h : TRr t a b c o) (hT : TI t) (hM : MI o) (hc : r.toInt = sumN (clR (t 0 1) (cC t) (cL t) (t 0 0).toInt.toNat) (t 0 0).toInt.toNat) (hm : z.toInt = sumN (clR (o 1 6) (mC (o 1)) (mL (o 1)) (o 1 0).toInt.toNat) (o 1 0).toInt.toNat) : r = z := by
  rw [← h.1.len hT hM.t0, ← show t 0 1 = o 1 6 from h.1.2] at hm
  exact t_inj (by rw [hc, hm, cl_eq (h.eqN hT hM)])
theorem TRr.near (h : TRr t a b c o) (hT : TI t) (hM : MI o)
    (hc : (¬ ((0 ≤ ra.toInt ∧ ra.toInt < (t 0 0).toInt) ∧ 0 ≤ rb.toInt ∧ rb.toInt < (t 0 0).toInt) ∧ r = -1) ∨ (((0 ≤ ra.toInt ∧ ra.toInt < (t 0 0).toInt) ∧ 0 ≤ rb.toInt ∧ rb.toInt < (t 0 0).toInt) ∧ ((((cC t ra.toInt.toNat).toInt ≠ (cC t rb.toInt.toNat).toInt) ∧ r = -1) ∨ (((cC t ra.toInt.toNat).toInt = (cC t rb.toInt.toNat).toInt) ∧ r.toInt = nrR (cL t) ra.toInt.toNat rb.toInt.toNat (cC t ra.toInt.toNat).toInt.toNat))))
    (hm : (¬ ((0 ≤ ra.toInt ∧ ra.toInt < (o 1 0).toInt) ∧ 0 ≤ rb.toInt ∧ rb.toInt < (o 1 0).toInt) ∧ z = -1) ∨ (((0 ≤ ra.toInt ∧ ra.toInt < (o 1 0).toInt) ∧ 0 ≤ rb.toInt ∧ rb.toInt < (o 1 0).toInt) ∧ ((((mC (o 1) ra.toInt.toNat).toInt ≠ (mC (o 1) rb.toInt.toNat).toInt) ∧ z = -1) ∨ (((mC (o 1) ra.toInt.toNat).toInt = (mC (o 1) rb.toInt.toNat).toInt) ∧ z.toInt = nrR (mL (o 1)) ra.toInt.toNat rb.toInt.toNat (mC (o 1) ra.toInt.toNat).toInt.toNat)))) : r = z := by
  have hl := h.1.len hT hM.t0
  rw [← hl] at hm
  rcases hc with ⟨c1, c2⟩ | ⟨c1, c2⟩
  · rcases hm with ⟨m1, m2⟩ | ⟨m1, m2⟩
    · rw [c2, m2]
    · exact absurd m1 c1
  · rcases hm with ⟨m1, m2⟩ | ⟨m1, m2⟩
    · exact absurd c1 m1
    · obtain ⟨ea, fa⟩ := h.eq hT hM ra.toInt.toNat (by omega)
      obtain ⟨eb, fb⟩ := h.eq hT hM rb.toInt.toNat (by omega)
      rw [← ea, ← eb] at m2
      rcases c2 with ⟨c2, c3⟩ | ⟨c2, c3⟩ <;> rcases m2 with ⟨m2, m3⟩ | ⟨m2, m3⟩
      · rw [c3, m3]
      · exact absurd m2 c2
      · exact absurd c2 m2
      · refine t_inj ?_
        rw [c3, m3]
        refine sumN.congr _ (fun k hk => ?_)
        show popI (cL t _ k ^^^ cL t _ k) = popI (mL (o 1) _ k ^^^ mL (o 1) _ k)
        rw [fa k (by omega), fb k (by omega)]
theorem jsN.congr {D w : Int32} {LC CD F LC' CD' F' : Nat → Int32} {m : Nat} (e : ∀ i, i < m → LC i = LC' i ∧ CD i = CD' i ∧ F i = F' i) : jsN D LC CD F w m = jsN D LC' CD' F' w m := by
  have q : ∀ i, i < m → jsJ D LC CD F w i = jsJ D LC' CD' F' w i := fun i hi => by
    unfold jsJ
    rw [(e i hi).1, (e i hi).2.1, (e i hi).2.2]
  exact Bool.eq_iff_iff.2 (by rw [jsN.iff, jsN.iff]; exact ⟨fun h i hi => by rw [← q i hi]; exact h i hi, fun h i hi => by rw [q i hi]; exact h i hi⟩)
theorem TRr.lacks (h : TRr t a b c o) (hT : TI t) (hM : MI o)
    (hc : r = jsB (fun k => jsN (t 0 1) (t 2) (t 4) (fun i => t 5 (6 * i)) (nI k) (t 0 0).toInt.toNat) 26)
    (hm : z = jsB (fun k => jsN (o 1 6) (fun i => o 1 (12 * i + 12)) (fun i => o 1 (12 * i + 23)) (fun i => o 1 (12 * i + 13)) (nI k) (o 1 0).toInt.toNat) 26) : r = z := by
  have hl := h.1.len hT hM.t0
  rw [← hl, ← show t 0 1 = o 1 6 from h.1.2] at hm
  rw [hc, hm]
  have h24 := hT.ru
  refine jsB.congr 26 (fun k _ _ => jsN.congr (fun i hi => ?_))
  obtain ⟨e1, _, e3, e4, _⟩ := h.1.ru hT hM.t0 (r := i) (by omega)
  have h5 := (hM.t0.2.2.2.2.2 i (by omega) (by rw [← hl]; omega)).1
  have e1' : t 2 i = o 1 (12 * i + 12) := by rw [e1]; congr 1; omega
  refine ⟨e1', by rw [e3]; congr 1; omega, ?_⟩
  have w := e4 0 (by rw [e1', show 12 * i + 12 = 0 + (12 * i + 12) by omega]; omega)
  show t 5 (6 * i) = o 1 (12 * i + 13)
  rw [show 6 * i = 6 * i + 0 by omega, w]
  congr 1
  omega
end Rel4
/-! READINGS on both sides (behind rel4) -/
def FRr (w o : Nat → Nat → Int32) : Prop := ((w 0 0).toInt = 0 ∧ (o 0 36).toInt = -1) ∨ (1 ≤ (w 0 0).toInt ∧ w 0 0 = o 0 36 ∧ w 0 1 = o 0 37 ∧ ∀ k : Nat, (k : Int) < (w 0 0).toInt → w 1 k = o 17 k)
section Rel5
variable {t a b c o w w' o' Id : Nat → Nat → Int32} {Jd Jo : Nat → Nat → Int64} {r z tr n ds k : Int32}
theorem TRr.hy (h : TRr t a b c o) (hT : TI t) (hM : MI o) : HY t := fun i hi => by
  obtain ⟨_, e2, _⟩ := h.1.ru hT hM.t0 hi
  have hl := h.1.len hT hM.t0
  rw [hl] at hi
  have h24 := hM.t0.1
  have q := (hM.t0.2.2.2.2.2 i (by omega) hi).2
  rw [e2, show 0 + 12 + 12 * i + 7 = 0 + (12 * i + 19) by omega]
  exact q
theorem RT.ok {t n : Int32} {l : Int} (h : RT Id Jd o Jo) : okRow (Id 3) (Jd 1) t n l ↔ okRow (o 3) (Jo 4) t n l := by
  constructor
  · rintro ⟨⟨⟨a1, a2⟩, a3, a4⟩, b, d⟩
    have ht : (t.toNatClampNeg : Int) = t.toInt := t_cl rfl a1
    obtain ⟨e3, _, ek⟩ := h t.toNatClampNeg (by omega)
    refine ⟨⟨⟨a1, a2⟩, a3, a4⟩, by rw [← e3]; exact b, fun k hk => ?_⟩
    have q := ek k (by omega)
    rw [show t.toNatClampNeg * 60 + k = (t.toInt * 60 + (k : Int)).toNat by omega] at q
    rw [← q]
    exact d k hk
  · rintro ⟨⟨⟨a1, a2⟩, a3, a4⟩, b, d⟩
    have ht : (t.toNatClampNeg : Int) = t.toInt := t_cl rfl a1
    obtain ⟨e3, _, ek⟩ := h t.toNatClampNeg (by omega)
    refine ⟨⟨⟨a1, a2⟩, a3, a4⟩, by rw [e3]; exact b, fun k hk => ?_⟩
    have q := ek k (by rw [e3]; omega)
    rw [show t.toNatClampNeg * 60 + k = (t.toInt * 60 + (k : Int)).toNat by omega] at q
    rw [q]
    exact d k hk
/-- the same rows are asked -/
theorem RT.row {l : Int} {R Z R' Z' : Nat → Int32} (h : RT Id Jd o Jo) (ht : okRow (Id 3) (Jd 1) tr n l) (hd : ds.toInt = -1 ∨ okRow (Id 3) (Jd 1) ds n 0) (p : rowP (Jd 1) tr.toInt ds.toInt R Z n.toInt) (q : rowP (Jo 4) tr.toInt ds.toInt R' Z' n.toInt) : ∀ k : Nat, (k : Int) < n.toInt → R k = R' k ∧ Z k = Z' k := fun k hk => by
  obtain ⟨p1, p2⟩ := p k hk
  obtain ⟨q1, q2⟩ := q k hk
  have one : ∀ {x : Int32} {l : Int}, okRow (Id 3) (Jd 1) x n l → Jd 1 (x.toInt * 60 + (k : Int)).toNat = Jo 4 (x.toInt * 60 + (k : Int)).toNat := fun {x l} hx => by
    obtain ⟨⟨⟨a1, a2⟩, a3, a4⟩, b, d⟩ := hx
    have hc : (x.toNatClampNeg : Int) = x.toInt := t_cl rfl a1
    obtain ⟨e3, _, ek⟩ := h x.toNatClampNeg (by omega)
    have w := ek k (by omega)
    rw [show x.toNatClampNeg * 60 + k = (x.toInt * 60 + (k : Int)).toNat by omega] at w
    exact w
  refine ⟨by rw [p1, q1, one ht], ?_⟩
  rw [p2, q2]
  rcases hd with e | e
  · rw [if_pos e, if_pos e]
  · by_cases e2 : ds.toInt = -1
    · rw [if_pos e2, if_pos e2]
    · rw [if_neg e2, if_neg e2, one e]
theorem TRr.ok (h : TRr t a b c o) (hT : TI t) (hM : MI o) {R Z R' Z' : Nat → Int32} {m : Nat} (hr : ∀ k : Nat, k < m → R k = R' k ∧ Z k = Z' k) {i p : Nat} (hi : i < (t 0 0).toInt.toNat) : rdP (t 0 1) (cC t) (t 4) (cL t) R Z m i p ↔ okM (o 1) R' Z' m i p := by
  obtain ⟨e2, e5⟩ := h.eq hT hM i (by omega)
  obtain ⟨_, _, e4, _⟩ := h.1.ru hT hM.t0 (r := i) (by omega)
  have ed : t 0 1 = o 1 6 := h.1.2
  have e4' : t 4 i = o 1 (12 * i + 23) := by rw [e4]; congr 1; omega
  unfold okM
  rw [← ed]
  constructor
  · intro q
    exact q.im e2 e4' e5 (fun k hk => (hr k hk).1) (fun k hk => (hr k hk).2)
  · intro q
    exact q.im (C' := cC t) (CD' := t 4) (L' := cL t) e2.symm e4'.symm (fun k hk => (e5 k (by rw [e2]; exact hk)).symm) (fun k hk => (hr k hk).1.symm) (fun k hk => (hr k hk).2.symm)
theorem TRr.cn (h : TRr t a b c o) (hT : TI t) (hM : MI o) {i : Nat} (hi : i < (t 0 0).toInt.toNat) : cN t i = mN (o 1) i := by
  obtain ⟨e2, _⟩ := h.eq hT hM i (by omega)
  unfold cN mN
  rw [← e2]
  rfl
/-- as many READINGS from each place -/
theorem TRr.cnt (h : TRr t a b c o) (hT : TI t) (hM : MI o) {R' Z' W' : Nat → Int32} (hr : ∀ k : Nat, k < n.toInt.toNat → w 2 k = R' k ∧ w 3 k = Z' k) (p : cntP t w n) (q : cntM (o 1) R' Z' W' n) : ∀ j : Nat, j ≤ n.toInt.toNat → (w 4 j).toInt = (W' j).toInt := fun j hj => by
  have hl := h.1.len hT hM.t0
  have q' : wyP (t 0 0).toInt.toNat n.toInt.toNat (okM (o 1) R' Z' n.toInt.toNat) (mN (o 1)) (fun j => (W' j).toInt) 0 := by rw [hl]; exact q
  refine wyP.one p.2 q' (fun i p hi hp => ⟨h.ok hT hM hr hi, fun g => ?_⟩) (n.toInt.toNat - j) j hj (Nat.le_refl _)
  have hy := h.hy hT hM i (by omega)
  have g2 := g.2.1
  refine ⟨h.cn hT hM hi, by unfold cN; omega, g2⟩
theorem TRr.ways (hRt : RT Id Jd o Jo) (h : TRr t a b c o) (hT : TI t) (hM : MI o)
    (hc : (¬ okRow (Id 3) (Jd 1) tr n 1 ∧ r = -1) ∨ (okRow (Id 3) (Jd 1) tr n 1 ∧ r = w' 4 0 ∧ rowP (Jd 1) tr.toInt (-1 : Int32).toInt (w' 2) (w' 3) n.toInt ∧ cntP t w' n))
    (hm : (¬ okRow (o 3) (Jo 4) tr n 1 ∧ z = -1) ∨ (okRow (o 3) (Jo 4) tr n 1 ∧ z = o' 16 0 ∧ rowP (Jo 4) tr.toInt (-1 : Int32).toInt (o' 14) (o' 15) n.toInt ∧ cntM (o 1) (o' 14) (o' 15) (o' 16) n)) : r = z := by
  rw [← hRt.ok] at hm
  rcases hc with ⟨c1, c2⟩ | ⟨c1, c2, c3, c4⟩
  · rcases hm with ⟨m1, m2⟩ | ⟨m1, _⟩
    · rw [c2, m2]
    · exact absurd m1 c1
  · rcases hm with ⟨m1, _⟩ | ⟨m1, m2, m3, m4⟩
    · exact absurd c1 m1
    · have hr := hRt.row c1 (Or.inl (by decide)) c3 m3
      exact t_inj (by rw [c2, m2]; exact h.cnt hT hM (fun k hk => hr k (by omega)) c4 m4 0 (Nat.zero_le _))
theorem TRr.failed (hRt : RT Id Jd o Jo) (h : TRr t a b c o) (hT : TI t) (hM : MI o)
    (hc : (¬ (okRow (Id 3) (Jd 1) tr n 1 ∧ okRow (Id 3) (Jd 1) ds n 0) ∧ r = -1) ∨ ((okRow (Id 3) (Jd 1) tr n 1 ∧ okRow (Id 3) (Jd 1) ds n 0) ∧ r = w' 4 0 ∧ rowP (Jd 1) tr.toInt ds.toInt (w' 2) (w' 3) n.toInt ∧ cntP t w' n))
    (hm : (¬ (okRow (o 3) (Jo 4) tr n 1 ∧ okRow (o 3) (Jo 4) ds n 0) ∧ z = -1) ∨ ((okRow (o 3) (Jo 4) tr n 1 ∧ okRow (o 3) (Jo 4) ds n 0) ∧ z = o' 16 0 ∧ rowP (Jo 4) tr.toInt ds.toInt (o' 14) (o' 15) n.toInt ∧ cntM (o 1) (o' 14) (o' 15) (o' 16) n)) : r = z := by
  rw [← hRt.ok, ← hRt.ok] at hm
  rcases hc with ⟨c1, c2⟩ | ⟨c1, c2, c3, c4⟩
  · rcases hm with ⟨m1, m2⟩ | ⟨m1, _⟩
    · rw [c2, m2]
    · exact absurd m1 c1
  · rcases hm with ⟨m1, _⟩ | ⟨m1, m2, m3, m4⟩
    · exact absurd c1 m1
    · have hr := hRt.row c1.1 (Or.inr c1.2) c3 m3
      exact t_inj (by rw [c2, m2]; exact h.cnt hT hM (fun k hk => hr k (by omega)) c4 m4 0 (Nat.zero_le _))
/-- the FIRST READING: found alike on both sides -/
theorem TRr.first (hRt : RT Id Jd o Jo) (h : TRr t a b c o) (hT : TI t) (hM : MI o) (hF : FRr w o)
    (hc : (r = -1 ∧ frW w w' ∧ (¬ okRow (Id 3) (Jd 1) tr n 1 ∨ (okRow (Id 3) (Jd 1) tr n 1 ∧ (w' 4 0).toInt = 0 ∧ rowP (Jd 1) tr.toInt (-1 : Int32).toInt (w' 2) (w' 3) n.toInt ∧ cntP t w' n))) ∨ (okRow (Id 3) (Jd 1) tr n 1 ∧ r = w' 0 0 ∧ (w' 4 0).toInt ≠ 0 ∧ rowP (Jd 1) tr.toInt (-1 : Int32).toInt (w' 2) (w' 3) n.toInt ∧ cntP t w' n ∧ fsC t w' w' n))
    (hm : (z = -1 ∧ (o' 17 = o 17 ∧ o' 0 36 = o 0 36 ∧ o' 0 37 = o 0 37) ∧ (¬ okRow (o 3) (Jo 4) tr n 1 ∨ (okRow (o 3) (Jo 4) tr n 1 ∧ (o' 16 0).toInt = 0 ∧ rowP (Jo 4) tr.toInt (-1 : Int32).toInt (o' 14) (o' 15) n.toInt ∧ cntM (o 1) (o' 14) (o' 15) (o' 16) n))) ∨ (okRow (o 3) (Jo 4) tr n 1 ∧ z = o' 0 36 ∧ (o' 16 0).toInt ≠ 0 ∧ rowP (Jo 4) tr.toInt (-1 : Int32).toInt (o' 14) (o' 15) n.toInt ∧ cntM (o 1) (o' 14) (o' 15) (o' 16) n ∧ fsM (o 1) (o' 14) (o' 15) (o' 16) (o' 17) (o' 0 36) (o' 0 37) n.toInt.toNat)) : FRr w' o' ∧ r = z := by
  rw [← hRt.ok] at hm
  have keep : ∀ (q : frW w w') (q2 : o' 17 = o 17 ∧ o' 0 36 = o 0 36 ∧ o' 0 37 = o 0 37), FRr w' o' := fun q q2 => by
    unfold FRr
    rw [q.1, q.2.1, q.2.2, q2.1, q2.2.1, q2.2.2]
    exact hF
  have both : okRow (Id 3) (Jd 1) tr n 1 → rowP (Jd 1) tr.toInt (-1 : Int32).toInt (w' 2) (w' 3) n.toInt → rowP (Jo 4) tr.toInt (-1 : Int32).toInt (o' 14) (o' 15) n.toInt → cntP t w' n → cntM (o 1) (o' 14) (o' 15) (o' 16) n → ∀ j : Nat, j ≤ n.toInt.toNat → (w' 4 j).toInt = (o' 16 j).toInt := fun c1 c3 m3 c4 m4 => by
    have hr := hRt.row c1 (Or.inl (by decide)) c3 m3
    exact h.cnt hT hM (fun k hk => hr k (by omega)) c4 m4
  rcases hc with ⟨c1, c2, c3⟩ | ⟨c1, c2, c3, c4, c5, c6⟩
  · rcases hm with ⟨m1, m2, m3⟩ | ⟨m1, m2, m3, m4, m5, m6⟩
    · exact ⟨keep c2 m2, by rw [c1, m1]⟩
    · rcases c3 with c3 | ⟨c3, c4, c5, c6⟩
      · exact absurd m1 c3
      · exact absurd ((both c3 c5 m4 c6 m5 0 (Nat.zero_le _)).symm.trans c4) m3
  · rcases hm with ⟨m1, m2, m3⟩ | ⟨m1, m2, m3, m4, m5, m6⟩
    · rcases m3 with m3 | ⟨m3, m4, m5, m6⟩
      · exact absurd c1 m3
      · exact absurd ((both c1 c4 m5 c5 m6 0 (Nat.zero_le _)).trans m4) c3
    · have hw := both c1 c4 m4 c5 m5
      have hr := hRt.row c1 (Or.inl (by decide)) c4 m4
      have hl := h.1.len hT hM.t0
      have m6' : fiP (gM (o 1) (o' 14) (o' 15) (o' 16) n.toInt.toNat) (mN (o 1)) (fun r => (o 1 (12 * r + 12)).toInt) n.toInt.toNat (t 0 0).toInt.toNat (o' 17) (o' 0 36) (o' 0 37) n.toInt.toNat := by rw [hl]; exact m6
      have m5w : w' 0 5 = n := c5.1
      obtain ⟨e1, e2, e3⟩ := fiP.one c6 m6' (fun i p hi hp => ⟨by
          unfold gC gM okC
          rw [m5w, h.ok hT hM (fun k hk => hr k (by omega)) hi, h.cn hT hM hi]
          constructor
          · rintro ⟨g1, g2⟩
            exact ⟨g1, fun z => g2 ((hw _ g1.2.1).trans z)⟩
          · rintro ⟨g1, g2⟩
            exact ⟨g1, fun z => g2 ((hw _ g1.2.1).symm.trans z)⟩, h.cn hT hM hi⟩) (fun i hi => by
          obtain ⟨e2, _⟩ := h.1.ru hT hM.t0 (r := i) (by omega)
          show (t 2 i).toInt = (o 1 (12 * i + 12)).toInt
          rw [e2]
          congr 2
          omega)
      have p1 := c6.pos (by have := c1.1; omega)
      exact ⟨Or.inr ⟨p1, e1, e2, e3⟩, by rw [c2, m2, e1]⟩
theorem FRr.at (h : FRr w o) (hc : ((0 ≤ k.toInt ∧ k.toInt < (w 0 0).toInt) ∧ r = w 1 k.toInt.toNat) ∨ (¬ (0 ≤ k.toInt ∧ k.toInt < (w 0 0).toInt) ∧ r = -1)) (hm : ((0 ≤ k.toInt ∧ k.toInt < (o 0 36).toInt) ∧ z = o 17 k.toInt.toNat) ∨ (¬ (0 ≤ k.toInt ∧ k.toInt < (o 0 36).toInt) ∧ z = -1)) : r = z := by
  rcases h with ⟨h1, h2⟩ | ⟨h1, h2, h3, h4⟩
  · rcases hc with ⟨c1, c2⟩ | ⟨c1, c2⟩
    · omega
    · rcases hm with ⟨m1, m2⟩ | ⟨m1, m2⟩
      · omega
      · rw [c2, m2]
  · rw [← h2] at hm
    rcases hc with ⟨c1, c2⟩ | ⟨c1, c2⟩
    · rcases hm with ⟨m1, m2⟩ | ⟨m1, m2⟩
      · rw [c2, m2]
        exact h4 _ (by omega)
      · exact absurd c1 m1
    · rcases hm with ⟨m1, m2⟩ | ⟨m1, m2⟩
      · exact absurd m1 c1
      · rw [c2, m2]
theorem FRr.letters (h : FRr w o) (hc : (0 < (w 0 0).toInt ∧ r = w 0 1) ∨ ((w 0 0).toInt ≤ 0 ∧ r = -1)) (hm : ((o 0 36).toInt ≠ -1 ∧ z = o 0 37) ∨ ((o 0 36).toInt = -1 ∧ z = -1)) : r = z := by
  rcases h with ⟨h1, h2⟩ | ⟨h1, h2, h3, h4⟩
  · rcases hc with ⟨c1, c2⟩ | ⟨c1, c2⟩
    · omega
    · rcases hm with ⟨m1, m2⟩ | ⟨m1, m2⟩
      · omega
      · rw [c2, m2]
  · rw [← h2, ← h3] at hm
    rcases hc with ⟨c1, c2⟩ | ⟨c1, c2⟩
    · rcases hm with ⟨m1, m2⟩ | ⟨m1, m2⟩
      · rw [c2, m2]
      · omega
    · omega
theorem FRr.kk (h : FRr w o) (e1 : w' 1 = w 1) (e2 : w' 0 0 = w 0 0) (e3 : w' 0 1 = w 0 1) (e4 : o' 17 = o 17) (e5 : o' 0 36 = o 0 36) (e6 : o' 0 37 = o 0 37) : FRr w' o' := by
  unfold FRr
  rw [e1, e2, e3, e4, e5, e6]
  exact h
end Rel5
/-! A WRITING IS SET on both sides (behind rel3, fnu, fnv) -/
def FLr (Ip Io : Nat → Nat → Int32) : Prop := Ip 0 3 = Io 0 15 ∧ Ip 0 4 = Io 0 16
section Rel6
variable {t a b c o o' Ip Ip' : Nat → Nat → Int32} {r z n : Int32}
theorem TRr.h1 (h : TRr t a b c o) (hT : TI t) (hM : MI o) : HL1 t := fun i hi => by
  obtain ⟨e1, _⟩ := h.1.ru hT hM.t0 hi
  have hl := h.1.len hT hM.t0
  rw [hl] at hi
  have h24 := hM.t0.1
  have q := (hM.t0.2.2.2.2.2 i (by omega) hi).1
  rw [e1, show 0 + 12 + 12 * i = 0 + (12 * i + 12) by omega]
  exact q
theorem TRr.writing (hp : Ip 0 1 = o 0 9) (hB : TPr Ip o) (h : TRr t a b c o) (hT : TI t) (hM : MI o)
    (c1 : (0 ≤ n.toInt ∧ n.toInt ≤ (Ip 0 1).toInt ∧ n.toInt ≤ 300) → HL1 t → ∃ (c v : Int × Int), gRe (uNx (fxTc t) (t 0 1) (uB (fxB (Ip 1)) n.toInt) n.toInt) (0, 0) c ∧ uVd (fxTc t) (t 0 1) (uB (fxB (Ip 1)) n.toInt) n.toInt c v ∧ v = ((Ip' 0 3).toInt, (Ip' 0 4).toInt) ∧ ((v.1 = 0 ∧ r.toInt = c.2) ∨ (v.1 ≠ 0 ∧ r = -1)))
    (c2 : ¬ (0 ≤ n.toInt ∧ n.toInt ≤ (Ip 0 1).toInt ∧ n.toInt ≤ 300) → r = -1 ∧ Ip' 0 3 = Ip 0 3 ∧ Ip' 0 4 = Ip 0 4)
    (m1 : (0 ≤ n.toInt ∧ n.toInt ≤ (o 0 9).toInt ∧ n.toInt ≤ 300) → ∃ (c v : Int × Int), gRe (uNx (uTM o) (o 1 6) (uB (fxBm (o 5)) n.toInt) n.toInt) (0, 0) c ∧ uVd (uTM o) (o 1 6) (uB (fxBm (o 5)) n.toInt) n.toInt c v ∧ v = ((o' 0 15).toInt, (o' 0 16).toInt) ∧ ((v.1 = 0 ∧ z.toInt = c.2) ∨ (v.1 ≠ 0 ∧ z = -1)))
    (m2 : ¬ (0 ≤ n.toInt ∧ n.toInt ≤ (o 0 9).toInt ∧ n.toInt ≤ 300) → z = -1 ∧ o' 0 15 = o 0 15 ∧ o' 0 16 = o 0 16) : r = z ∧ (FLr Ip o → FLr Ip' o') := by
  rw [← hp] at m1 m2
  by_cases q : 0 ≤ n.toInt ∧ n.toInt ≤ (Ip 0 1).toInt ∧ n.toInt ≤ 300
  · obtain ⟨x, v, g1, g2, g3, g4⟩ := c1 q (h.h1 hT hM)
    obtain ⟨y, w, f1, f2, f3, f4⟩ := m1 q
    have eT : uTM o = fxTc t := h.1.1.symm
    have eD : o 1 6 = t 0 1 := h.1.2.symm
    have eB : uB (fxBm (o 5)) n.toInt = uB (fxB (Ip 1)) n.toInt := uB.eq (fun j hj => (hB j (by omega)).symm)
    rw [eT, eD, eB] at f1 f2
    obtain ⟨e1, e2⟩ := uRe.one g1 g2 f1 f2
    subst e1
    subst e2
    have e3 := g3.symm.trans f3
    refine ⟨?_, fun _ => ⟨t_inj (congrArg Prod.fst e3), t_inj (congrArg Prod.snd e3)⟩⟩
    rcases g4 with ⟨a1, a2⟩ | ⟨a1, a2⟩
    · rcases f4 with ⟨b1, b2⟩ | ⟨b1, b2⟩
      · exact t_inj (by omega)
      · exact absurd a1 b1
    · rcases f4 with ⟨b1, b2⟩ | ⟨b1, b2⟩
      · exact absurd b1 a1
      · rw [a2, b2]
  · obtain ⟨a1, a2, a3⟩ := c2 q
    obtain ⟨b1, b2, b3⟩ := m2 q
    exact ⟨by rw [a1, b1], fun f => ⟨by rw [a2, b2]; exact f.1, by rw [a3, b3]; exact f.2⟩⟩
theorem FLr.kk {Io Io' : Nat → Nat → Int32} (h : FLr Ip Io) (e1 : Ip' 0 3 = Ip 0 3) (e2 : Ip' 0 4 = Ip 0 4) (e3 : Io' 0 15 = Io 0 15) (e4 : Io' 0 16 = Io 0 16) : FLr Ip' Io' := ⟨by rw [e1, e3]; exact h.1, by rw [e2, e4]; exact h.2⟩
theorem FLr.press {Io Io' It It' : Nat → Nat → Int32} (hp : Ip 0 1 = Io 0 9) (hB : TPr Ip Io) (h : FLr Ip Io)
    (c1 : (0 ≤ n.toInt ∧ n.toInt ≤ (Ip 0 1).toInt) → ∃ (c : Int × fxS) (pl : Int), fxRe (fxB (Ip 1)) n.toInt (0, fxS0) c ∧ fxVd (fxB (Ip 1)) n.toInt c (Ip' 0 3).toInt pl ∧ ((r = It' 0 0 ∧ (Ip' 0 3).toInt = 0 ∧ (Ip' 0 4).toInt = -1 ∧ c.2.2.2.2.1 = fxTc It' ∧ (It' 0 1).toInt = 0) ∨ (r = -1 ∧ (Ip' 0 3).toInt ≠ 0 ∧ (Ip' 0 4).toInt = pl ∧ It' = It)))
    (c2 : ¬ (0 ≤ n.toInt ∧ n.toInt ≤ (Ip 0 1).toInt) → r = -1 ∧ Ip' 0 3 = Ip 0 3 ∧ Ip' 0 4 = Ip 0 4 ∧ It' = It ∧ Ip' 1 = Ip 1)
    (m1 : (0 ≤ n.toInt ∧ n.toInt ≤ (Io 0 9).toInt) → ∃ (c : Int × fxS) (pl : Int), fxRe (fxBm (Io 5)) n.toInt (0, fxS0) c ∧ fxVd (fxBm (Io 5)) n.toInt c (Io' 0 15).toInt pl ∧ ((z = Io' 1 0 ∧ (Io' 0 15).toInt = 0 ∧ c.2.2.2.2.1 = fxTM (Io' 1) 0 ∧ (Io' 1 6).toInt = 0 ∧ ∀ j : Nat, 3300 ≤ j → j < 13200 → Io' 1 j = Io 1 j) ∨ (z = -1 ∧ (Io' 0 15).toInt ≠ 0 ∧ (Io' 0 16).toInt = pl ∧ ∀ j : Nat, j < 13200 → Io' 1 j = Io 1 j)))
    (m2 : ¬ (0 ≤ n.toInt ∧ n.toInt ≤ (Io 0 9).toInt) → z = -1 ∧ Io' 0 15 = Io 0 15 ∧ Io' 0 16 = Io 0 16 ∧ Io' 1 = Io 1)
    (mj : (0 ≤ n.toInt ∧ n.toInt ≤ (Io 0 9).toInt) → (Io' 0 15).toInt = 0 → (Io' 0 16).toInt = -1) : FLr Ip' Io' := by
  rw [← hp] at m1 m2 mj
  by_cases q : 0 ≤ n.toInt ∧ n.toInt ≤ (Ip 0 1).toInt
  · obtain ⟨c, pl, g, v, w⟩ := c1 q
    obtain ⟨c', pl', g', v', w'⟩ := m1 q
    obtain ⟨e1, e2, e3⟩ := PR.one (fun j hj => hB j (by omega)) g v g' v'
    refine ⟨t_inj e2, t_inj ?_⟩
    rcases w with ⟨a1, a2, a3, a4, a5⟩ | ⟨a1, a2, a3, a4⟩
    · rw [a3, mj q (by omega)]
    · rcases w' with ⟨b1, b2, b3, b4, b5⟩ | ⟨b1, b2, b3, b4⟩
      · omega
      · rw [a3, b3, e3]
  · obtain ⟨_, a2, a3, _⟩ := c2 q
    obtain ⟨_, b2, b3, _⟩ := m2 q
    exact h.kk a2 a3 b2 b3
theorem FLr.fault {Io : Nat → Nat → Int32} {w : Int32} (h : FLr Ip Io) (hc : (w.toInt = 0 ∧ r = Ip 0 3) ∨ (w.toInt = 1 ∧ r = Ip 0 4) ∨ (w.toInt ≠ 0 ∧ w.toInt ≠ 1 ∧ r = -1)) (hm : (w.toInt = 0 ∧ z = Io 0 15) ∨ (w.toInt = 1 ∧ z = Io 0 16) ∨ (w.toInt ≠ 0 ∧ w.toInt ≠ 1 ∧ z = -1)) : r = z := by
  rcases hc with ⟨c1, c2⟩ | ⟨c1, c2⟩ | ⟨c1, c3, c2⟩
  · rcases hm with ⟨m1, m2⟩ | ⟨m1, m2⟩ | ⟨m1, m3, m2⟩
    · rw [c2, m2]; exact h.1
    · omega
    · omega
  · rcases hm with ⟨m1, m2⟩ | ⟨m1, m2⟩ | ⟨m1, m3, m2⟩
    · omega
    · rw [c2, m2]; exact h.2
    · omega
  · rcases hm with ⟨m1, m2⟩ | ⟨m1, m2⟩ | ⟨m1, m3, m2⟩
    · omega
    · omega
    · rw [c2, m2]
end Rel6
/-! ROWS OF RULES THAT HAVE ONE READING (behind rel3, rel4, fng, fnh) -/
def PTr (t a b c : Nat → Nat → Int32) (m : Int) : Prop := pqT t ∧ ∀ j : Nat, (j : Int) < m → pqT (tsel j a b c)
section Rel7
variable {t t' a b c a' b' c' o o' Ip Ip' : Nat → Nat → Int32} {r z n : Int32} {m m' : Int}
theorem PTr.kk (h : PTr t a b c m) (e : m' = m) : PTr t a b c m' := by
  rw [e]
  exact h
theorem PTr.to (h : PTr t a b c m) (e : m' = m) (k : pqT t') : PTr t' a b c m' := by
  rw [e]
  exact ⟨k, h.2⟩
theorem PTr.press (h : PTr t a b c m) (e : m' = m)
    (c1 : (0 ≤ n.toInt ∧ n.toInt ≤ (Ip 0 1).toInt) → ∃ (c : Int × fxS) (pl : Int), fxRe (fxB (Ip 1)) n.toInt (0, fxS0) c ∧ fxVd (fxB (Ip 1)) n.toInt c (Ip' 0 3).toInt pl ∧ ((r = t' 0 0 ∧ (Ip' 0 3).toInt = 0 ∧ (Ip' 0 4).toInt = -1 ∧ c.2.2.2.2.1 = fxTc t' ∧ (t' 0 1).toInt = 0) ∨ (r = -1 ∧ (Ip' 0 3).toInt ≠ 0 ∧ (Ip' 0 4).toInt = pl ∧ t' = t)))
    (c2 : ¬ (0 ≤ n.toInt ∧ n.toInt ≤ (Ip 0 1).toInt) → t' = t) : PTr t' a b c m' := by
  by_cases q : 0 ≤ n.toInt ∧ n.toInt ≤ (Ip 0 1).toInt
  · obtain ⟨x, pl, g, v, w⟩ := c1 q
    rcases w with ⟨a1, a2, a3, a4, a5⟩ | ⟨a1, a2, a3, a4⟩
    · refine h.to e ?_
      have y := (pqS.re g).1
      rw [a4] at y
      exact y
    · rw [a4]
      exact h.kk e
  · rw [c2 q]
    exact h.kk e
theorem PTr.drop {rule isd : Int32} (h : PTr t a b c m) (e : m' = m)
    (hc : (r = 1 ∧ (0 ≤ rule.toInt ∧ rule.toInt < (t 0 0).toInt) ∧ t' = uF t 0 1 (dpC (t 0 1) rule isd)) ∨ (r = 0 ∧ ¬ (0 ≤ rule.toInt ∧ rule.toInt < (t 0 0).toInt) ∧ t' = t)) : PTr t' a b c m' := by
  rcases hc with ⟨_, _, q⟩ | ⟨_, _, q⟩
  · rw [q]
    exact h.to e (h.1.of fxTc.dp)
  · rw [q]
    exact h.kk e
theorem PTr.mark (hm : Ip 0 19 = o 0 45) (hM : MI o) (h : PTr t a b c (o 0 45).toInt)
    (hc : (3 ≤ (Ip 0 19).toInt ∧ a' = a ∧ b' = b ∧ c' = c) ∨ ((Ip 0 19).toInt < 3 ∧ ∀ j : Nat, j < 3 → ((j : Int) = (Ip 0 19).toInt → cpT (tsel j a' b' c') t) ∧ ((j : Int) ≠ (Ip 0 19).toInt → tsel j a' b' c' = tsel j a b c)))
    (e1 : 3 ≤ (o 0 45).toInt → o' 0 45 = o 0 45) (e2 : (o 0 45).toInt < 3 → (o' 0 45).toInt = (o 0 45).toInt + 1) : PTr t a' b' c' (o' 0 45).toInt := by
  have hk := hM.mk
  rw [hm] at hc
  rcases hc with ⟨c1, c2, c3, c4⟩ | ⟨c1, c2⟩
  · rw [c2, c3, c4]
    exact h.kk (by rw [e1 c1])
  · refine ⟨h.1, fun j hj => ?_⟩
    have e3 := e2 c1
    by_cases q : (j : Int) = (o 0 45).toInt
    · exact h.1.of ((c2 j (by omega)).1 q).1
    · rw [(c2 j (by omega)).2 q]
      exact h.2 j (by omega)
theorem PTr.back (hm : Ip 0 19 = o 0 45) (hM : MI o) (h : PTr t a b c (o 0 45).toInt)
    (hc : ((Ip 0 19).toInt ≤ 0 ∧ t' = t) ∨ (0 < (Ip 0 19).toInt ∧ ∀ j : Nat, j < 3 → (j : Int) = (Ip 0 19).toInt - 1 → cpT t' (tsel j a b c)))
    (e1 : (o 0 45).toInt ≤ 0 → o' 0 45 = o 0 45) (e2 : 0 < (o 0 45).toInt → (o' 0 45).toInt = (o 0 45).toInt - 1) : PTr t' a b c (o' 0 45).toInt := by
  have hk := hM.mk
  rw [hm] at hc
  rcases hc with ⟨c1, c2⟩ | ⟨c1, c2⟩
  · rw [c2]
    exact h.kk (by rw [e1 c1])
  · have e3 := e2 c1
    refine ⟨(h.2 ((o 0 45).toInt - 1).toNat (by omega)).of (c2 ((o 0 45).toInt - 1).toNat (by omega) (by omega)).1, fun j hj => h.2 j (by omega)⟩
theorem TRr.gY (h : TRr t a b c o) (hT : TI t) (hM : MI o) : gwY (t 0 0).toInt.toNat (cC t) (mC (o 1)) (cL t) (mL (o 1)) := fun r hr => by
  obtain ⟨e1, e2⟩ := h.eq hT hM r (by omega)
  exact ⟨e1, fun k hk => e2 k (by unfold gwc at hk; omega)⟩
theorem TRr.gH (h : TRr t a b c o) (hT : TI t) (hM : MI o) : gwH (t 0 0).toInt.toNat (cC t) := fun i hi => by
  have hl := h.1.len hT hM.t0
  have q := hM.gH i (by rw [← hl]; exact hi)
  rw [(h.gY hT hM).cc hi] at q
  exact q
theorem PTr.gP (hP : PTr t a b c m) (h : TRr t a' b' c' o) (hT : TI t) (hM : MI o) : gwP (o 1 0).toInt.toNat (mC (o 1)) (mL (o 1)) := fun i hi k hk => by
  have hl := h.1.len hT hM.t0
  rw [← hl] at hi
  have hY := h.gY hT hM
  rw [hY.cc hi] at hk
  rw [← (hY i hi).2 k hk]
  exact ⟨hP.1.at hi hk, (hT.cl _).2⟩
theorem TRr.clear (h : TRr t a b c o) (hT : TI t) (hM : MI o)
    (hc : (r = 1 ∧ gwL (t 0 0).toInt.toNat (t 0 1) (cC t) (cL t) 1000000) ∨ (r = 0 ∧ ∃ x : Int, x ≠ 1000000 ∧ gwL (t 0 0).toInt.toNat (t 0 1) (cC t) (cL t) x))
    (hm : (z = 1 ∧ gwL (o 1 0).toInt.toNat (o 1 6) (mC (o 1)) (mL (o 1)) 1000000) ∨ (z = 0 ∧ ∃ x : Int, x ≠ 1000000 ∧ gwL (o 1 0).toInt.toNat (o 1 6) (mC (o 1)) (mL (o 1)) x)) : r = z := by
  have hl := h.1.len hT hM.t0
  have hH := hM.gH
  rw [← hl] at hm hH
  rw [← show t 0 1 = o 1 6 from h.1.2] at hm
  have hY := h.gY hT hM
  have hH2 := h.gH hT hM
  rcases hc with ⟨c1, c2⟩ | ⟨c1, x, c2, c3⟩
  · rcases hm with ⟨m1, m2⟩ | ⟨m1, y, m2, m3⟩
    · rw [c1, m1]
    · exact absurd ((hY.l hH2 hH c2).one m3).symm m2
  · rcases hm with ⟨m1, m2⟩ | ⟨m1, y, m2, m3⟩
    · exact absurd ((hY.l hH2 hH c3).one m2) c2
    · rw [c1, m1]
theorem TRr.twin (h : TRr t a b c o) (hT : TI t) (hM : MI o)
    (hc : (r = -1 ∧ gwL (t 0 0).toInt.toNat (t 0 1) (cC t) (cL t) 1000000) ∨ (r.toInt ≠ -1 ∧ r.toInt ≠ 1000000 ∧ gwL (t 0 0).toInt.toNat (t 0 1) (cC t) (cL t) r.toInt))
    (hm : (z = -1 ∧ gwL (o 1 0).toInt.toNat (o 1 6) (mC (o 1)) (mL (o 1)) 1000000) ∨ (z.toInt ≠ 1000000 ∧ gwL (o 1 0).toInt.toNat (o 1 6) (mC (o 1)) (mL (o 1)) z.toInt)) : r = z := by
  have hl := h.1.len hT hM.t0
  have hH := hM.gH
  rw [← hl] at hm hH
  rw [← show t 0 1 = o 1 6 from h.1.2] at hm
  have hY := h.gY hT hM
  have hH2 := h.gH hT hM
  rcases hc with ⟨c1, c2⟩ | ⟨c1, c2, c3⟩
  · rcases hm with ⟨m1, m2⟩ | ⟨m2, m3⟩
    · rw [c1, m1]
    · exact absurd ((hY.l hH2 hH c2).one m3).symm m2
  · rcases hm with ⟨m1, m2⟩ | ⟨m2, m3⟩
    · exact absurd ((hY.l hH2 hH c3).one m2) c2
    · exact t_inj ((hY.l hH2 hH c3).one m3)
end Rel7
/-! TRUE READINGS on both sides (behind rel5, rel6, rel7) -/
section Rel8
variable {t a b c o w w' o' Id Ip : Nat → Nat → Int32} {Jd Jo : Nat → Nat → Int64} {r z tr n : Int32} {m : Int}
theorem PTr.ql (h : PTr t a b c m) : pqL t := fun x hx v hv => (h.1 x hx).2 v hv
theorem TRr.truths (hRt : RT Id Jd o Jo) (h : TRr t a b c o) (hT : TI t) (hM : MI o) (hP : PTr t a b c m)
    (hc : (¬ okRow (Id 3) (Jd 1) tr n 1 ∧ r = -1) ∨ (okRow (Id 3) (Jd 1) tr n 1 ∧ rowP (Jd 1) tr.toInt (-1 : Int32).toInt (w' 2) (w' 3) n.toInt ∧ cntP t w' n ∧ ((9999 < (w' 4 0).toInt ∧ r = -1) ∨ ((w' 4 0).toInt ≤ 9999 ∧ (HL1 t → pqL t → r.toInt = tQ t w' 0 [])))))
    (hm : (¬ okRow (o 3) (Jo 4) tr n 1 ∧ z = -1) ∨ (okRow (o 3) (Jo 4) tr n 1 ∧ rowP (Jo 4) tr.toInt (-1 : Int32).toInt (o' 14) (o' 15) n.toInt ∧ cntM (o 1) (o' 14) (o' 15) (o' 16) n ∧ ((9999 < (o' 16 0).toInt ∧ z = -1) ∨ ((o' 16 0).toInt ≤ 9999 ∧ (pqM o → z.toInt = tQM (o 1) (o' 14) (o' 15) (o' 16) (uTM o) n.toInt.toNat))))) : r = z := by
  rw [← hRt.ok] at hm
  rcases hc with ⟨c1, c2⟩ | ⟨c1, c3, c4, c5⟩
  · rcases hm with ⟨m1, m2⟩ | ⟨m1, _⟩
    · rw [c2, m2]
    · exact absurd m1 c1
  · rcases hm with ⟨m1, _⟩ | ⟨m1, m3, m4, m5⟩
    · exact absurd c1 m1
    · have hr := hRt.row c1 (Or.inl (by decide)) c3 m3
      have hw := h.cnt hT hM (fun k hk => hr k (by omega)) c4 m4
      have h0 := hw 0 (Nat.zero_le _)
      rcases c5 with ⟨c5, c6⟩ | ⟨c5, c6⟩
      · rcases m5 with ⟨m5, m6⟩ | ⟨m5, m6⟩
        · rw [c6, m6]
        · omega
      · rcases m5 with ⟨m5, m6⟩ | ⟨m5, m6⟩
        · omega
        · have eT : fxTc t = uTM o := h.1.1
          have eD : t 0 1 = o 1 6 := h.1.2
          have hl := h.1.len hT hM.t0
          have qM : pqM o := by
            unfold pqM
            rw [← eT]
            exact hP.ql
          have ec := c6 (h.h1 hT hM) hP.ql
          have em := m6 qM
          have m5w : w' 0 5 = n := c4.1
          have hy := h.hy hT hM
          have er : tRw w' = rwM (o' 14) n.toInt.toNat := by
            unfold tRw rwM tCl
            rw [m5w]
            exact List.map_congr_left (fun k hk => by rw [(hr k (by have := List.mem_range.1 hk; omega)).1])
          refine t_inj ?_
          rw [ec, em]
          unfold tQ tQM
          rw [m5w, hl, eT, eD, er]
          refine tK.cg (fun i p hi hp => ?_) (fun _ => Iff.rfl) (Nat.zero_le _)
          have hi2 : i < (t 0 0).toInt.toNat := by rw [hl]; exact hi
          have cn := h.cn hT hM hi2
          have ok := h.ok hT hM (p := p) (m := n.toInt.toNat) (fun k hk => hr k (by omega)) hi2
          refine ⟨?_, fun g => ⟨cn, ?_⟩⟩
          · unfold gC gM okC
            rw [m5w, ok, cn]
            constructor
            · rintro ⟨g1, g2⟩
              exact ⟨g1, fun y => g2 ((hw _ g1.2.1).trans y)⟩
            · rintro ⟨g1, g2⟩
              exact ⟨g1, fun y => g2 ((hw _ g1.2.1).symm.trans y)⟩
          · have g2 : p + (cC t i).toInt.toNat ≤ (w' 0 5).toInt.toNat := g.1.2.1
            rw [m5w] at g2
            exact g2
end Rel8
