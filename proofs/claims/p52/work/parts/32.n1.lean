/-! THE MODEL'S SIDE OF A TEXT -/
def fxKm (t : Int) : Int := if t = 0 then 3 else if t = 1 then 4 else if t = 2 then 0 else if t = 3 then 1 else 2
def fxWm (I : Nat → Nat → Int32) : List Int := fxW (fxBm (I 6)) (I 0 12).toInt (I 0 13).toInt
/-- the TOKEN at hand, read from p on -/
def fxLM (I : Nat → Nat → Int32) (p : Int) : Prop := fxLx (fxBm (I 6)) (I 0 10).toInt p (fxKm (I 0 11).toInt) (I 0 12).toInt (I 0 13).toInt (I 0 14).toInt ∧ ((I 0 11).toInt = 4 → (I 0 14).toInt = 59) ∧ 0 ≤ (I 0 11).toInt ∧ (I 0 11).toInt ≤ 4
theorem fxLx.va {B : Nat → Int} {n p kd fr en va va' : Int} (h : fxLx B n p kd fr en va) (e : kd = 1 → va = va') : fxLx B n p kd fr en va' := by
  obtain ⟨a, b⟩ := h
  refine ⟨a, ?_⟩
  rcases b with b | b | ⟨b1, bs, b3, b4, b5, b6, b7⟩ | b
  · exact Or.inl b
  · exact Or.inr (Or.inl b)
  · refine Or.inr (Or.inr (Or.inl ⟨b1, bs, b3, b4, b5, b6, ?_⟩))
    rcases b7 with b8 | ⟨b8, b9, b10⟩
    · exact Or.inl b8
    · exact Or.inr ⟨b8, b9, by rw [← e b9]; exact b10⟩
  · exact Or.inr (Or.inr (Or.inr b))
theorem fxLM.mk {I I' : Nat → Nat → Int32} {p kd fr en va : Int} (e6 : I' 6 = I 6) (e10 : I' 0 10 = I 0 10) (h11 : fxKm (I' 0 11).toInt = kd) (h12 : (I' 0 12).toInt = fr) (h13 : (I' 0 13).toInt = en) (h14 : kd = 1 → va = (I' 0 14).toInt) (hs : (I' 0 11).toInt = 4 → (I' 0 14).toInt = 59) (hr : 0 ≤ (I' 0 11).toInt ∧ (I' 0 11).toInt ≤ 4) (l : fxLx (fxBm (I 6)) (I 0 10).toInt p kd fr en va) : fxLM I' p := by
  unfold fxLM
  rw [e6, e10, h11, h12, h13]
  exact ⟨l.va h14, hs, hr⟩
theorem fxLM.of {I I' : Nat → Nat → Int32} {p : Int} (h : fxLM I p) (e6 : I' 6 = I 6) (e10 : I' 0 10 = I 0 10) (e11 : I' 0 11 = I 0 11) (e12 : I' 0 12 = I 0 12) (e13 : I' 0 13 = I 0 13) (e14 : I' 0 14 = I 0 14) : fxLM I' p := by
  unfold fxLM
  rw [e6, e10, e11, e12, e13, e14]
  exact h
theorem fxLM.kk {cs fs : List Nat} {I I' : Nat → Nat → Int32} {p : Int} (h : fxLM I p) (k : KK cs fs I I') (h6 : 6 ∉ cs) (hf : 10 ∉ fs ∧ 11 ∉ fs ∧ 12 ∉ fs ∧ 13 ∉ fs ∧ 14 ∉ fs) : fxLM I' p := h.of (k.1 6 (by decide) h6) (k.2 10 hf.1) (k.2 11 hf.2.1) (k.2 12 hf.2.2.1) (k.2 13 hf.2.2.2.1) (k.2 14 hf.2.2.2.2)
/-- one byte asked for -/
theorem fx_by {F : Nat → Int32} {k r : Int32} {n : Int} (h : (k.toInt < n ∧ r = F k.toNatClampNeg &&& 255 ∧ 0 ≤ r.toInt ∧ r.toInt ≤ 255) ∨ (n ≤ k.toInt ∧ r.toInt = -1)) (hx : 0 ≤ r.toInt) : k.toInt < n ∧ fxBm F k.toInt.toNat = r.toInt := by
  rcases h with h | h
  · exact ⟨h.1, by rw [h.2.1]; rfl⟩
  · omega
theorem fx_byn {F : Nat → Int32} {k r : Int32} {n : Int} (h : (k.toInt < n ∧ r = F k.toNatClampNeg &&& 255 ∧ 0 ≤ r.toInt ∧ r.toInt ≤ 255) ∨ (n ≤ k.toInt ∧ r.toInt = -1)) (hx : k.toInt < n) : fxBm F k.toInt.toNat = r.toInt ∧ 0 ≤ r.toInt := by
  rcases h with h | h
  · exact ⟨by rw [h.2.1]; rfl, h.2.2.1⟩
  · omega
theorem fx_nbl {F : Nat → Int32} {k r r2 : Int32} {n : Int} (h : (k.toInt < n ∧ r = F k.toNatClampNeg &&& 255 ∧ 0 ≤ r.toInt ∧ r.toInt ≤ 255) ∨ (n ≤ k.toInt ∧ r.toInt = -1)) (h2 : (k.toInt < n ∧ r2 = F k.toNatClampNeg &&& 255 ∧ 0 ≤ r2.toInt ∧ r2.toInt ≤ 255) ∨ (n ≤ k.toInt ∧ r2.toInt = -1)) (a : r.toInt ≠ 32) (b : r2.toInt ≠ 10) : k.toInt < n → ¬ (fxBm F k.toInt.toNat = 10 ∨ fxBm F k.toInt.toNat = 32) := fun q z => by
  have g := (fx_byn h q).1
  have g2 := (fx_byn h2 q).1
  omega
theorem fx_all1 {P : Int → Prop} {B : Nat → Int} {F t t2 : Int} (h : ∀ j : Nat, F ≤ (j : Int) → (j : Int) < t → P (B j)) (h0 : 0 ≤ t) (hp : P (B t.toNat)) (h2 : t2 = t + 1) (j : Nat) (h1 : F ≤ (j : Int)) (hj : (j : Int) < t2) : P (B j) := by
  by_cases q : (j : Int) < t
  · exact h j h1 q
  · rw [show j = t.toNat by omega]
    exact hp
theorem fx_dvM {B : Nat → Int} {F t t2 v v2 x : Int} (h : v = fxDv B F.toNat (t - F).toNat) (hx : B t.toNat = x) (h0 : 0 ≤ F ∧ F ≤ t) (hv : v2 = v * 10 + x - 48) (h2 : t2 = t + 1) : v2 = fxDv B F.toNat (t2 - F).toNat := by
  rw [show (t2 - F).toNat = (t - F).toNat + 1 by omega]
  show v2 = fxDv B F.toNat (t - F).toNat * 10 + B (F.toNat + (t - F).toNat) - 48
  rw [← h, show F.toNat + (t - F).toNat = t.toNat by omega, hx, hv]
theorem fx_c0 {w k : Nat} {r : Int32} (h : w = 0) (e : r = (byS.getD w []).getD k 0) : r.toInt = ((byS.getD 0 []).getD k 0).toInt := by subst h; rw [e]
/-- where the words stand in the long one -/
def fxPs (i : Nat) : Nat := ([1, 6, 14, 21, 28, 33, 38, 44, 50, 57, 61, 67] : List Nat).getD i 67
theorem fxPs_up : ∀ i, i < 11 → fxPs (i + 1) = fxPs i + (fxK i).length + 1 := by decide +kernel
theorem fxPs_rng : ∀ i, i < 11 → 1 ≤ fxPs i ∧ fxPs (i + 1) ≤ 67 := by decide +kernel
theorem fxPs_ch : ∀ i, i < 11 → ∀ k, k < (fxK i).length → ((byS.getD 0 []).getD (fxPs i + k) 0).toInt = (fxK i).getD k 0 ∧ ((byS.getD 0 []).getD (fxPs i + k) 0).toInt ≠ 32 := by decide +kernel
theorem fxPs_bl : ∀ i, i < 11 → ((byS.getD 0 []).getD (fxPs i + (fxK i).length) 0).toInt = 32 := by decide +kernel
theorem fxPs_end : ∀ i, i ≤ 11 → 67 ≤ fxPs i → i = 11 := by decide +kernel
/-- the word ends at the next blank -/
theorem fx_wend {i : Nat} {a v : Int} (hi : i < 11) (ha : a = fxPs i) (hv : a ≤ v ∧ v ≤ 66) (h : ∀ j : Nat, a ≤ (j : Int) → (j : Int) < v → ((byS.getD 0 []).getD j 0).toInt ≠ 32) (he : ((byS.getD 0 []).getD v.toNat 0).toInt = 32) : v = a + ((fxK i).length : Int) := by
  rcases Int.lt_trichotomy v (a + ((fxK i).length : Int)) with q | q | q
  · exfalso
    have w := (fxPs_ch i hi (v - a).toNat (by omega)).2
    rw [show fxPs i + (v - a).toNat = v.toNat by omega] at w
    exact w he
  · exact q
  · exfalso
    have w := fxPs_bl i hi
    exact h (fxPs i + (fxK i).length) (by omega) (by omega) w
theorem fx_wyes {B : Nat → Int} {i : Nat} {fr en a v : Int} (hi : i < 11) (ha : a = fxPs i) (he : v = a + ((fxK i).length : Int)) (hl : v - a = en - fr) (h0 : 0 ≤ fr ∧ fr ≤ en) (h : ∀ j : Nat, a ≤ (j : Int) → (j : Int) < v → ((byS.getD 0 []).getD j 0).toInt = B (fr + (j : Int) - a).toNat) : fxW B fr en = fxK i := by
  apply fxW.eq (by omega)
  intro k hk
  have w := h (fxPs i + k) (by omega) (by omega)
  rw [show (fr + ((fxPs i + k : Nat) : Int) - a).toNat = fr.toNat + k by omega] at w
  rw [← w]
  exact (fxPs_ch i hi k hk).1
theorem fx_wno {B : Nat → Int} {i : Nat} {fr en a v x : Int} (hi : i < 11) (ha : a = fxPs i) (he : a ≤ x ∧ x < v) (hv : v = a + ((fxK i).length : Int)) (hl : v - a = en - fr) (h0 : 0 ≤ fr ∧ fr ≤ en) (h : ((byS.getD 0 []).getD x.toNat 0).toInt ≠ B (fr + x - a).toNat) : fxW B fr en ≠ fxK i := by
  refine fxW.ne (k := (x - a).toNat) (by omega) (fun q => h ?_) (by omega)
  have w := (fxPs_ch i hi (x - a).toNat (by omega)).1
  rw [show fxPs i + (x - a).toNat = x.toNat by omega] at w
  rw [w, show (fr + x - a).toNat = fr.toNat + (x - a).toNat by omega]
  exact q.symm
/-- the model's table in a slot -/
def fxLsM (A : Nat → Int32) (b : Nat) : List Int := (List.range (A b).toInt.toNat).map (fun k => (A (b + 1 + k)).toInt)
def fxCsM (A : Nat → Int32) (b : Nat) : List Int := (List.range (A (b + 7)).toInt.toNat).map (fun k => (A (b + 8 + k)).toInt)
def fxRM (A : Nat → Int32) (b : Nat) : fxR := (fxLsM A b, fxCsM A b, (A (b + 11)).toInt)
def fxSgM (A : Nat → Int32) (s : Nat) : Nat → Int := fun k => if k < 5 then (A (s + 1 + k)).toInt else 0
def fxTM (A : Nat → Int32) (s : Nat) : fxT := (fxSgM A s, (List.range (A s).toInt.toNat).map (fun r => fxRM A (s + 12 + 12 * r)))
def fxTdM (x : Int32) : Nat → Bool := fun k => decide (k < 5) && bt x (k + 1)
def fxS0M (I : Nat → Nat → Int32) : fxS := (0, 0, fxTdM (I 0 19), fxTM (I 1) 13200, fxE)
theorem fxTM.len {A : Nat → Int32} {s : Nat} : (fxTM A s).2.length = (A s).toInt.toNat := by
  show ((List.range _).map _).length = _
  rw [List.length_map, List.length_range]
theorem fxRM.congr {A A' : Nat → Int32} {b : Nat} (h1 : (A b).toInt ≤ 6) (h2 : (A (b + 7)).toInt ≤ 3) (e : ∀ k, k < 12 → A' (b + k) = A (b + k)) : fxRM A' b = fxRM A b := by
  have e0 : A' b = A b := e 0 (by omega)
  unfold fxRM fxLsM fxCsM
  rw [e0, e 7 (by omega), e 11 (by omega)]
  refine Prod.ext ?_ (Prod.ext ?_ rfl)
  · exact List.map_congr_left (fun k hk => by rw [List.mem_range] at hk; rw [Nat.add_assoc, e (1 + k) (by omega)])
  · exact List.map_congr_left (fun k hk => by rw [List.mem_range] at hk; rw [Nat.add_assoc, e (8 + k) (by omega)])
theorem fxTM.congr {A A' : Nat → Int32} {s : Nat} (hT : TS A s) (e : ∀ k, k < 6 → A' (s + k) = A (s + k)) (e2 : ∀ k : Nat, 12 ≤ k → (k : Int) < 12 + 12 * (A s).toInt → A' (s + k) = A (s + k)) : fxTM A' s = fxTM A s := by
  have e0 : A' s = A s := e 0 (by omega)
  have h0 := hT.1
  unfold fxTM
  rw [e0]
  refine Prod.ext ?_ ?_
  · show fxSgM A' s = fxSgM A s
    funext k
    unfold fxSgM
    by_cases q : k < 5
    · rw [if_pos q, if_pos q, Nat.add_assoc, e (1 + k) (by omega)]
    · rw [if_neg q, if_neg q]
  · refine List.map_congr_left (fun r hr => ?_)
    rw [List.mem_range] at hr
    have h4 := hT.2.2.2.2.1 r (by omega)
    refine fxRM.congr ?_ ?_ (fun k hk => ?_)
    · have := h4.1.2; rw [show s + 12 + 12 * r = s + (12 * r + 12) by omega]; exact this
    · have := h4.2.1.2; rw [show s + 12 + 12 * r + 7 = s + (12 * r + 19) by omega]; exact this
    · rw [show s + 12 + 12 * r + k = s + (12 + 12 * r + k) by omega]
      exact e2 _ (by omega) (by omega)
/-- what a part of the reading comes to -/
def fxMo (I I' : Nat → Nat → Int32) (r : Int32) (p : Int) (S S' : fxS) : Prop :=
  (r = 1 ∧ (I' 0 17).toInt = 0 ∧ ∃ q : Int, fxRe (fxBm (I 6)) (I 0 10).toInt (p, S) (q, S') ∧ fxLM I' q) ∨
  (r = 0 ∧ (I' 0 17).toInt ≠ 0 ∧ ∃ c : Int × fxS, fxRe (fxBm (I 6)) (I 0 10).toInt (p, S) c ∧ fxVd (fxBm (I 6)) (I 0 10).toInt c (I' 0 17).toInt (I' 0 16).toInt)
/-- a fault at the TOKEN at hand -/
theorem fx_flt {I I' : Nat → Nat → Int32} {k : Int32} {p : Int} {S : fxS} (l : fxLM I p) (hz : (I' 0 17).toInt = if (I 0 11).toInt = 1 then 1 else k.toInt) (hp : I' 0 16 = I 0 12) (hk : (I 0 11).toInt ≠ 1 → fxSt (fxKm (I 0 11).toInt) (fxWm I) (I 0 14).toInt S = .inl k.toInt) : fxVd (fxBm (I 6)) (I 0 10).toInt (p, S) (I' 0 17).toInt (I' 0 16).toInt := by
  refine ⟨fxKm (I 0 11).toInt, (I 0 13).toInt, (I 0 14).toInt, by rw [hp]; exact l.1, ?_⟩
  rw [hp, hz]
  by_cases q : (I 0 11).toInt = 1
  · rw [if_pos q, q]
    show fxStep (fxKm 1) _ _ _ _ _ _ _ = _
    unfold fxStep
    rw [if_pos (by decide)]
  · rw [if_neg q]
    exact hk q
theorem fxMo.no {I I0 I' : Nat → Nat → Int32} {p p0 : Int} {S S0 S' : fxS} {r : Int32} (hr : r = 0) (hn : (I' 0 17).toInt ≠ 0) (e6 : I 6 = I0 6) (e10 : I 0 10 = I0 0 10) (g : fxRe (fxBm (I0 6)) (I0 0 10).toInt (p0, S0) (p, S)) (v : fxVd (fxBm (I 6)) (I 0 10).toInt (p, S) (I' 0 17).toInt (I' 0 16).toInt) : fxMo I0 I' r p0 S0 S' := by
  rw [e6, e10] at v
  exact Or.inr ⟨hr, hn, (p, S), g, v⟩
theorem fxMo.yes {I0 I' : Nat → Nat → Int32} {p p0 : Int} {S0 S' : fxS} {r : Int32} (hr : r = 1) (hn : (I' 0 17).toInt = 0) (g : fxRe (fxBm (I0 6)) (I0 0 10).toInt (p0, S0) (p, S')) (l : fxLM I' p) : fxMo I0 I' r p0 S0 S' := Or.inl ⟨hr, hn, p, g, l⟩
/-- behind a part that came to its end -/
theorem fxMo.then {I0 I I' : Nat → Nat → Int32} {p p0 : Int} {S0 S S' : fxS} {r : Int32} (h : fxMo I I' r p S S') (e6 : I 6 = I0 6) (e10 : I 0 10 = I0 0 10) (g : fxRe (fxBm (I0 6)) (I0 0 10).toInt (p0, S0) (p, S)) : fxMo I0 I' r p0 S0 S' := by
  unfold fxMo at h
  rw [e6, e10] at h
  rcases h with ⟨a, b, q, g2, l⟩ | ⟨a, b, c, g2, v⟩
  · exact Or.inl ⟨a, b, q, g.tr g2, l⟩
  · exact Or.inr ⟨a, b, c, g.tr g2, v⟩
/-- one TOKEN taken, the next one read -/
theorem fx_tk {I I0 I' : Nat → Nat → Int32} {p p0 : Int} {S S0 S' : fxS} (l : fxLM I p) (l' : fxLM I' (I 0 13).toInt) (e6 : I 6 = I0 6) (e10 : I 0 10 = I0 0 10) (g : fxRe (fxBm (I0 6)) (I0 0 10).toInt (p0, S0) (p, S)) (h : fxSt (fxKm (I 0 11).toInt) (fxWm I) (I 0 14).toInt S = .inr S') : fxRe (fxBm (I0 6)) (I0 0 10).toInt (p0, S0) ((I 0 13).toInt, S') := by
  refine g.st ⟨fxKm (I 0 11).toInt, (I 0 12).toInt, (I 0 14).toInt, ?_, ?_⟩
  · have w := l.1
    rw [e6, e10] at w
    exact w
  · show fxSt _ (fxW (fxBm (I0 6)) (I 0 12).toInt (I 0 13).toInt) _ S = .inr S'
    rw [← e6]
    exact h
theorem fxKm_4 {t : Int} (h : t = 4) : fxKm t = 2 := by rw [h]; decide
theorem fxKm_3 {t : Int} (h : t = 3) : fxKm t = 1 := by rw [h]; decide
theorem fxKm_2 {t : Int} (h : t = 2) : fxKm t = 0 := by rw [h]; decide
theorem fxKm_1 {t : Int} (h : t = 1) : fxKm t = 4 := by rw [h]; decide
theorem fxKm_0 {t : Int} (h : t = 0) : fxKm t = 3 := by rw [h]; decide
/-- the kinds, both ways -/
theorem fxKm_all {t : Int} (h : 0 ≤ t ∧ t ≤ 4) : (t = 0 ↔ fxKm t = 3) ∧ (t = 1 ↔ fxKm t = 4) ∧ (t = 2 ↔ fxKm t = 0) ∧ (t = 3 ↔ fxKm t = 1) ∧ (t = 4 ↔ fxKm t = 2) := by
  rcases (show t = 0 ∨ t = 1 ∨ t = 2 ∨ t = 3 ∨ t = 4 by omega) with rfl | rfl | rfl | rfl | rfl <;> decide
theorem fx_fn {x k : Int} {c : Prop} (i : Decidable c) (h : x = if c then 1 else k) (hk : k ≠ 0) : x ≠ 0 := by
  rw [h]
  split
  · decide
  · exact hk
theorem fxMo.fail {I0 I I' : Nat → Nat → Int32} {cs fs : List Nat} {p p0 : Int} {S S0 S' : fxS} {r k : Int32} (h : KK cs fs I I' ∧ r = 0 ∧ ((I 0 17).toInt = 0 → (I' 0 17).toInt = (if (I 0 11).toInt = 1 then 1 else k.toInt) ∧ I' 0 16 = I 0 12) ∧ (k.toInt ≠ 0 → (I' 0 17).toInt ≠ 0)) (h17 : (I 0 17).toInt = 0) (hk0 : k.toInt ≠ 0) (l : fxLM I p) (e6 : I 6 = I0 6) (e10 : I 0 10 = I0 0 10) (g : fxRe (fxBm (I0 6)) (I0 0 10).toInt (p0, S0) (p, S)) (hk : (I 0 11).toInt ≠ 1 → fxSt (fxKm (I 0 11).toInt) (fxWm I) (I 0 14).toInt S = .inl k.toInt) : fxMo I0 I' r p0 S0 S' := by
  obtain ⟨_, hr, h, _⟩ := h
  obtain ⟨h1, h2⟩ := h h17
  exact fxMo.no hr (fx_fn _ h1 hk0) e6 e10 g (fx_flt l h1 h2 hk)
section
variable {kd va sg : Int} {w : List Int} {td : Nat → Bool} {T : fxT} {cu : fxR}
theorem fx_st0 (h4 : kd ≠ 4) (h3 : kd ≠ 3) : fxSt kd w va (0, 0, td, T, fxE) = fxPart kd w td T := by
  show fxStep kd w va 0 0 td T fxE = _
  unfold fxStep
  rw [if_neg h4, if_neg h3, if_pos rfl]
theorem fx_st1 (h4 : kd ≠ 4) : fxSt kd w va (1, 0, td, T, cu) = if kd = 0 ∧ w.length ≤ 6 then .inr (2, 0, td, T, (w.map (fun b => b - 96), [], 0)) else .inl 2 := by
  show fxStep kd w va 1 0 td T cu = _
  unfold fxStep
  rw [if_neg h4]
  by_cases h3 : kd = 3
  · rw [if_pos h3, if_neg (by decide), if_neg (by omega)]
  · rw [if_neg h3, if_neg (by decide), if_pos rfl]
    rfl
theorem fx_st2 (h4 : kd ≠ 4) : fxSt kd w va (2, 0, td, T, cu) = if kd = 0 ∧ w = fxK 6 then .inr (3, 0, td, T, cu) else .inl 2 := by
  show fxStep kd w va 2 0 td T cu = _
  unfold fxStep
  rw [if_neg h4]
  by_cases h3 : kd = 3
  · rw [if_pos h3, if_neg (by decide), if_neg (by omega)]
  · rw [if_neg h3, if_neg (by decide), if_neg (by decide), if_pos rfl]
theorem fx_st3 (h4 : kd ≠ 4) : fxSt kd w va (3, 0, td, T, cu) = if kd = 1 then fxCell va td T cu else .inl 2 := by
  show fxStep kd w va 3 0 td T cu = _
  unfold fxStep
  rw [if_neg h4]
  by_cases h3 : kd = 3
  · rw [if_pos h3, if_neg (by decide), if_neg (by omega)]
  · rw [if_neg h3, if_neg (by decide), if_neg (by decide), if_neg (by decide), if_pos rfl]
theorem fx_st4 (h4 : kd ≠ 4) : fxSt kd w va (4, 0, td, T, cu) = if kd = 3 then .inl 2 else fxMore kd w va td T cu := by
  show fxStep kd w va 4 0 td T cu = _
  unfold fxStep
  rw [if_neg h4]
  by_cases h3 : kd = 3
  · rw [if_pos h3, if_neg (by decide), if_pos h3]
  · rw [if_neg h3, if_neg (by decide), if_neg (by decide), if_neg (by decide), if_neg (by decide), if_pos rfl, if_neg h3]
theorem fx_st5 (h4 : kd ≠ 4) : fxSt kd w va (5, 0, td, T, cu) = if kd = 2 then fxRule td T cu else .inl 2 := by
  show fxStep kd w va 5 0 td T cu = _
  unfold fxStep
  rw [if_neg h4]
  by_cases h3 : kd = 3
  · rw [if_pos h3, if_neg (by decide), if_neg (by omega)]
  · rw [if_neg h3, if_neg (by decide), if_neg (by decide), if_neg (by decide), if_neg (by decide), if_neg (by decide), if_pos rfl]
theorem fx_st6 (h4 : kd ≠ 4) : fxSt kd w va (6, sg, td, T, cu) = if kd = 1 then fxSgv va sg td T else .inl 2 := by
  show fxStep kd w va 6 sg td T cu = _
  unfold fxStep
  rw [if_neg h4]
  by_cases h3 : kd = 3
  · rw [if_pos h3, if_neg (by decide), if_neg (by omega)]
  · rw [if_neg h3, if_neg (by decide), if_neg (by decide), if_neg (by decide), if_neg (by decide), if_neg (by decide), if_neg (by decide), if_pos rfl]
theorem fx_st7 (h4 : kd ≠ 4) : fxSt kd w va (7, 0, td, T, cu) = if kd = 2 then .inr (0, 0, td, T, fxE) else .inl 2 := by
  show fxStep kd w va 7 0 td T cu = _
  unfold fxStep
  rw [if_neg h4]
  by_cases h3 : kd = 3
  · rw [if_pos h3, if_neg (by decide), if_neg (by omega)]
  · rw [if_neg h3, if_neg (by decide), if_neg (by decide), if_neg (by decide), if_neg (by decide), if_neg (by decide), if_neg (by decide), if_neg (by decide)]
end
/-- a sign's value -/
theorem fxTM.sig {A A' : Nat → Int32} {x v : Int32} {sg : Int} (hT : TS A 13200) (e : A' = upd A x.toNatClampNeg v) (hx : x.toInt = 13201 + sg) (hs : 0 ≤ sg ∧ sg ≤ 4) : fxTM A' 13200 = (fxUp (fxTM A 13200).1 sg.toNat v.toInt, (fxTM A 13200).2) := by
  have i := t_cl (i := x) hx (by omega)
  have h0 := hT.1
  have ne : ∀ j, j ≠ x.toNatClampNeg → A' j = A j := fun j hj => by rw [e, pk_un hj]
  refine Prod.ext ?_ ?_
  · show fxSgM A' 13200 = fxUp (fxSgM A 13200) sg.toNat v.toInt
    funext k
    unfold fxSgM fxUp
    by_cases q : k = sg.toNat
    · rw [if_pos q, if_pos (by omega), e, upd_at (by omega)]
    · rw [if_neg q]
      show (if k < 5 then (A' (13200 + 1 + k)).toInt else 0) = (if k < 5 then (A (13200 + 1 + k)).toInt else 0)
      by_cases w : k < 5
      · rw [if_pos w, if_pos w, ne _ (by omega)]
      · rw [if_neg w, if_neg w]
  · show (List.range (A' 13200).toInt.toNat).map _ = (List.range (A 13200).toInt.toNat).map _
    rw [ne 13200 (by omega)]
    refine List.map_congr_left (fun r hr => ?_)
    rw [List.mem_range] at hr
    have h4 := hT.2.2.2.2.1 r (by omega)
    refine fxRM.congr ?_ ?_ (fun k hk => ne _ (by omega))
    · have := h4.1.2; rw [show 13200 + 12 + 12 * r = 13200 + (12 * r + 12) by omega]; exact this
    · have := h4.2.1.2; rw [show 13200 + 12 + 12 * r + 7 = 13200 + (12 * r + 19) by omega]; exact this
theorem fxLsM.len {A : Nat → Int32} {b : Nat} : (fxLsM A b).length = (A b).toInt.toNat := by unfold fxLsM; rw [List.length_map, List.length_range]
theorem fxCsM.len {A : Nat → Int32} {b : Nat} : (fxCsM A b).length = (A (b + 7)).toInt.toNat := by unfold fxCsM; rw [List.length_map, List.length_range]
theorem fxLsM.at {A : Nat → Int32} {a b k : Nat} (h : fxLsM A a = fxLsM A b) (hk : k < (A a).toInt.toNat) : (A (a + 1 + k)).toInt = (A (b + 1 + k)).toInt := by
  have hb : k < (A b).toInt.toNat := by rw [← fxLsM.len, ← h, fxLsM.len]; exact hk
  have e : (fxLsM A a)[k]? = (fxLsM A b)[k]? := by rw [h]
  unfold fxLsM at e
  rw [List.getElem?_map, List.getElem?_map, List.getElem?_range hk, List.getElem?_range hb] at e
  exact Option.some.inj e
theorem fxLsM.eq {A : Nat → Int32} {a b : Nat} (h : (A a).toInt = (A b).toInt) (hk : ∀ k : Nat, (k : Int) < (A a).toInt → (A (a + 1 + k)).toInt = (A (b + 1 + k)).toInt) : fxLsM A a = fxLsM A b := by
  unfold fxLsM
  rw [← h]
  exact List.map_congr_left (fun k q => by rw [List.mem_range] at q; exact hk k (by omega))
theorem fx_anyM {A : Nat → Int32} {s n : Nat} {ls : List Int} {cd : Int} : (((List.range n).map (fun r => fxRM A (s + 12 + 12 * r))).any (fun x => decide (x.1 = ls ∧ x.2.2 = cd)) = true) ↔ ∃ r : Nat, r < n ∧ fxLsM A (s + 12 + 12 * r) = ls ∧ (A (s + 12 + 12 * r + 11)).toInt = cd := by
  rw [List.any_eq_true]
  constructor
  · intro h
    obtain ⟨x, hx, h⟩ := h
    rw [List.mem_map] at hx
    obtain ⟨r, hr, e⟩ := hx
    subst e
    exact ⟨r, List.mem_range.mp hr, of_decide_eq_true h⟩
  · intro h
    obtain ⟨r, hr, h⟩ := h
    exact ⟨fxRM A (s + 12 + 12 * r), List.mem_map.mpr ⟨r, List.mem_range.mpr hr, rfl⟩, decide_eq_true h⟩
theorem fx_w6n {I : Nat → Nat → Int32} {p va : Int} {r : Int32} {td : Nat → Bool} {T : fxT} {cu : fxR} (l : fxLM I p) (q : (I 0 11).toInt ≠ 1) (h : (r.toInt = -1 ∧ ∀ k : Nat, k < 11 → ¬ fxIs (fxKm (I 0 11).toInt) (fxWm I) k) ∨ (0 ≤ r.toInt ∧ r.toInt ≤ 10 ∧ fxIs (fxKm (I 0 11).toInt) (fxWm I) r.toInt.toNat)) (hr : r.toInt ≠ 6) : fxSt (fxKm (I 0 11).toInt) (fxWm I) va (2, 0, td, T, cu) = .inl 2 := by
  rw [fx_st2 (fun z => q ((fxKm_all l.2.2).2.1.mpr z)), if_neg]
  intro z
  rcases h with ⟨_, h⟩ | ⟨h1, h2, h3⟩
  · exact h 6 (by omega) z
  · have w := fxK.inj r.toInt.toNat (by omega) 6 (by omega) (h3.2.symm.trans z.2)
    omega
theorem fx_w6y {I : Nat → Nat → Int32} {va : Int} {r : Int32} {td : Nat → Bool} {T : fxT} {cu : fxR} (h : (r.toInt = -1 ∧ ∀ k : Nat, k < 11 → ¬ fxIs (fxKm (I 0 11).toInt) (fxWm I) k) ∨ (0 ≤ r.toInt ∧ r.toInt ≤ 10 ∧ fxIs (fxKm (I 0 11).toInt) (fxWm I) r.toInt.toNat)) (hr : r.toInt = 6) : fxSt (fxKm (I 0 11).toInt) (fxWm I) va (2, 0, td, T, cu) = .inr (3, 0, td, T, cu) := by
  rcases h with ⟨h1, _⟩ | ⟨h1, h2, h3⟩
  · omega
  · rw [hr] at h3
    have h4 : fxKm (I 0 11).toInt = 0 ∧ fxWm I = fxK 6 := h3
    rw [fx_st2 (by omega), if_pos h4]
theorem fxWm.len {I : Nat → Nat → Int32} : (fxWm I).length = ((I 0 13).toInt - (I 0 12).toInt).toNat := fxW.len
/-- below a RULE's slot nothing has changed -/
def fxRf (I0 I : Nat → Nat → Int32) (n : Int) : Prop := ∀ j : Nat, (j : Int) < 13212 + 12 * n → I 1 j = I0 1 j
theorem fxRf.kk {cs fs : List Nat} {I0 I I' : Nat → Nat → Int32} {n : Int} (h : fxRf I0 I n) (k : KK cs fs I I') (h1 : 1 ∉ cs) : fxRf I0 I' n := fun j hj => by rw [k.1 1 (by decide) h1]; exact h j hj
theorem fxRf.put {I0 I : Nat → Nat → Int32} {n a : Int} {f : Nat → Int32} {x v : Int32} (h : fxRf I0 I n) (e : f = upd (I 1) x.toNatClampNeg v) (hx : x.toInt = a) (ha : 13212 + 12 * n ≤ a) (hn : 0 ≤ n) : fxRf I0 (uR I 1 f) n := fun j hj => by
  have i := t_cl (i := x) hx (by omega)
  rw [uR_eq, e, pk_un (by omega)]
  exact h j hj
theorem fxRf.T {I0 I : Nat → Nat → Int32} {n : Int} (h : fxRf I0 I n) (hT : TS (I0 1) 13200) (hn : (I0 1 13200).toInt = n) : fxTM (I 1) 13200 = fxTM (I0 1) 13200 := by
  have := hT.1
  exact fxTM.congr hT (fun k hk => h _ (by omega)) (fun k h1 h2 => h _ (by omega))
theorem fx_lsM {A A' : Nat → Int32} {B : Nat → Int} {b : Nat} {fr len v v2 : Int} {x z : Int32} (h : (A b).toInt = len ∧ ∀ k : Nat, (k : Int) < v → (k : Int) < len → (A (b + 1 + k)).toInt = B (fr.toNat + k) - 96) (e : A' = upd A x.toNatClampNeg z) (hx : x.toInt = (b : Int) + 1 + v) (hv : 0 ≤ v) (h2 : v2 = v + 1) (hz : v < len → z.toInt = B (fr + v).toNat - 96) (h0 : 0 ≤ fr) : (A' b).toInt = len ∧ ∀ k : Nat, (k : Int) < v2 → (k : Int) < len → (A' (b + 1 + k)).toInt = B (fr.toNat + k) - 96 := by
  have i := t_cl (i := x) hx (by omega)
  refine ⟨by rw [e, pk_un (by omega)]; exact h.1, fun k h1 h3 => ?_⟩
  by_cases q : (k : Int) < v
  · rw [e, pk_un (by omega)]
    exact h.2 k q h3
  · rw [e, upd_at (by omega), hz (by omega), show (fr + v).toNat = fr.toNat + k by omega]
theorem fx_lsM0 {A A' : Nat → Int32} {B : Nat → Int} {b : Nat} {fr len v : Int} {x z : Int32} (e : A' = upd A x.toNatClampNeg z) (hx : x.toInt = (b : Int)) (hz : z.toInt = len) (hv : v ≤ 0) : (A' b).toInt = len ∧ ∀ k : Nat, (k : Int) < v → (k : Int) < len → (A' (b + 1 + k)).toInt = B (fr.toNat + k) - 96 := by
  have i := t_cl (i := x) hx (by omega)
  exact ⟨by rw [e, upd_at (by omega)]; exact hz, fun k h1 _ => by exfalso; omega⟩
theorem fx_lsMx {A : Nat → Int32} {B : Nat → Int} {b : Nat} {fr en v : Int} (h : (A b).toInt = en - fr ∧ ∀ k : Nat, (k : Int) < v → (k : Int) < en - fr → (A (b + 1 + k)).toInt = B (fr.toNat + k) - 96) (hv : en - fr ≤ v) : fxLsM A b = (fxW B fr en).map (fun b => b - 96) := by
  unfold fxLsM fxW
  rw [h.1, List.map_map]
  exact List.map_congr_left (fun k hk => by rw [List.mem_range] at hk; exact h.2 k (by omega) (by omega))
theorem fxLsM.keep {A A' : Nat → Int32} {b : Nat} (h0 : (A b).toInt ≤ 6) (e : ∀ k, k < 7 → A' (b + k) = A (b + k)) : fxLsM A' b = fxLsM A b := by
  have e0 : A' b = A b := e 0 (by omega)
  unfold fxLsM
  rw [e0]
  exact List.map_congr_left (fun k hk => by rw [List.mem_range] at hk; rw [Nat.add_assoc, e (1 + k) (by omega)])
theorem fxCsM.keep {A A' : Nat → Int32} {b : Nat} (h0 : (A (b + 7)).toInt ≤ 3) (e : ∀ k, 7 ≤ k → k < 11 → A' (b + k) = A (b + k)) : fxCsM A' b = fxCsM A b := by
  unfold fxCsM
  rw [e 7 (by omega) (by omega)]
  exact List.map_congr_left (fun k hk => by rw [List.mem_range] at hk; rw [Nat.add_assoc, e (8 + k) (by omega) (by omega)])
theorem fxCsM.nil {A : Nat → Int32} {b : Nat} (h : (A (b + 7)).toInt ≤ 0) : fxCsM A b = [] := by
  unfold fxCsM
  rw [show (A (b + 7)).toInt.toNat = 0 by omega]
  rfl
/-- a CELL more in the slot -/
theorem fxCsM.add {A A1 A2 : Nat → Int32} {b : Nat} {c : Int} {x y v z : Int32} (e1 : A1 = upd A x.toNatClampNeg v) (e2 : A2 = upd A1 y.toNatClampNeg z) (hx : x.toInt = (b : Int) + 8 + c) (hy : y.toInt = (b : Int) + 7) (hc : (A (b + 7)).toInt = c) (hc3 : 0 ≤ c ∧ c < 3) (hz : z.toInt = c + 1) : fxCsM A2 b = fxCsM A b ++ [v.toInt] := by
  have i := t_cl (i := x) hx (by omega)
  have j := t_cl (i := y) hy (by omega)
  have a7 : (A2 (b + 7)).toInt = c + 1 := by rw [e2, upd_at (by omega)]; exact hz
  have ne : ∀ k, b + k ≠ x.toNatClampNeg → b + k ≠ y.toNatClampNeg → A2 (b + k) = A (b + k) := fun k h1 h2 => by rw [e2, pk_un h2, e1, pk_un h1]
  unfold fxCsM
  rw [a7, hc, show (c + 1).toNat = c.toNat + 1 by omega, List.range_succ, List.map_append]
  refine _root_.congr (congrArg _ (List.map_congr_left (fun k hk => ?_))) ?_
  · rw [List.mem_range] at hk
    rw [Nat.add_assoc, ne _ (by omega) (by omega)]
  · show [(A2 (b + 8 + c.toNat)).toInt] = _
    rw [e2, pk_un (by omega), e1, upd_at (by omega)]
theorem fxLsM.upd {A f : Nat → Int32} {x v : Int32} {b : Nat} {a : Int} (e : f = upd A x.toNatClampNeg v) (hx : x.toInt = a) (ha : (b : Int) + 7 ≤ a ∨ a < b) (h6 : (A b).toInt ≤ 6) (h0 : 0 ≤ a) : fxLsM f b = fxLsM A b := by
  have i := t_cl (i := x) hx h0
  exact fxLsM.keep h6 (fun k hk => by rw [e, pk_un (by omega)])
theorem fxCsM.upd {A f : Nat → Int32} {x v : Int32} {b : Nat} {a : Int} (e : f = upd A x.toNatClampNeg v) (hx : x.toInt = a) (ha : (b : Int) + 11 ≤ a ∨ a < b) (h3 : (A (b + 7)).toInt ≤ 3) (h0 : 0 ≤ a) : fxCsM f b = fxCsM A b := by
  have i := t_cl (i := x) hx h0
  exact fxCsM.keep h3 (fun k h1 h2 => by rw [e, pk_un (by omega)])
theorem fx_atx {A f : Nat → Int32} {x v : Int32} {b : Nat} (e : f = upd A x.toNatClampNeg v) (hx : x.toInt = (b : Int)) : f b = v := by
  have i := t_cl (i := x) hx (by omega)
  rw [e, upd_at (by omega)]
theorem fx_atn {A f : Nat → Int32} {x v : Int32} {b : Nat} {a : Int} (e : f = upd A x.toNatClampNeg v) (hx : x.toInt = a) (h0 : 0 ≤ a) (hn : a ≠ (b : Int)) : f b = A b := by
  have i := t_cl (i := x) hx h0
  rw [e, pk_un (by omega)]
theorem RA.lc {I : Nat → Nat → Int32} {n a b : Int} (h : RA I n a b) : 0 ≤ (I 1 (13212 + 12 * n.toNat)).toInt ∧ (I 1 (13212 + 12 * n.toNat)).toInt ≤ 6 := by
  have q := (h.1.1.2.2.2.2.1 n.toNat (by have := h.2.2.1; omega)).1
  rwa [show 13200 + (12 * n.toNat + 12) = 13212 + 12 * n.toNat by omega] at q
section
variable {kd va aw : Int} {w : List Int} {td : Nat → Bool} {T : fxT} {cu : fxR}
theorem fx_st34 (h : aw = 3 ∨ aw = 4) (hk : kd = 1) : fxSt kd w va (aw, 0, td, T, cu) = fxCell va td T cu := by
  rcases h with rfl | rfl
  · rw [fx_st3 (by omega), if_pos hk]
  · rw [fx_st4 (by omega), if_neg (by omega)]
    unfold fxMore
    rw [if_pos hk]
theorem fx_st45 (h : aw = 4 ∨ aw = 5) (hk : kd = 2) : fxSt kd w va (aw, 0, td, T, cu) = fxRule td T cu := by
  rcases h with rfl | rfl
  · rw [fx_st4 (by omega), if_neg (by omega)]
    unfold fxMore
    rw [if_neg (by omega), if_pos hk]
  · rw [fx_st5 (by omega), if_pos hk]
theorem fx_st45n (h : (aw = 4 ∧ kd ≠ 1 ∧ ∀ k : Nat, 7 ≤ k → k ≤ 10 → ¬ (kd = 0 ∧ w = fxK k)) ∨ aw = 5) (h4 : kd ≠ 4) (hk : kd ≠ 2) : fxSt kd w va (aw, 0, td, T, cu) = .inl 2 := by
  rcases h with ⟨rfl, h1, h2⟩ | rfl
  · rw [fx_st4 h4]
    by_cases h3 : kd = 3
    · rw [if_pos h3]
    · rw [if_neg h3, fxMore.none h1 hk h2]
  · rw [fx_st5 h4, if_neg hk]
end
theorem fxRule.sameM {A : Nat → Int32} {td : Nat → Bool} {n r : Nat} {ls cs : List Int} {cd : Int} (hn : (A 13200).toInt = (n : Int)) (hr : r < n) (h : fxLsM A (13212 + 12 * r) = ls ∧ (A (13212 + 12 * r + 11)).toInt = cd) : fxRule td (fxTM A 13200) (ls, cs, cd) = .inl 3 := by
  unfold fxRule
  rw [if_pos]
  show ((List.range (A 13200).toInt.toNat).map (fun r => fxRM A (13200 + 12 + 12 * r))).any (fun x => decide (x.1 = ls ∧ x.2.2 = cd)) = true
  rw [fx_anyM, hn]
  exact ⟨r, by omega, h⟩
theorem fxRule.newM {A : Nat → Int32} {td : Nat → Bool} {n : Nat} {ls cs : List Int} {cd : Int} (hn : (A 13200).toInt = (n : Int)) (h : ∀ r : Nat, r < n → ¬ (fxLsM A (13212 + 12 * r) = ls ∧ (A (13212 + 12 * r + 11)).toInt = cd)) : fxRule td (fxTM A 13200) (ls, cs, cd) = .inr (0, 0, td, ((fxTM A 13200).1, (fxTM A 13200).2 ++ [(ls, cs, cd)]), fxE) := by
  unfold fxRule
  rw [if_neg]
  show ¬ (((List.range (A 13200).toInt.toNat).map (fun r => fxRM A (13200 + 12 + 12 * r))).any (fun x => decide (x.1 = ls ∧ x.2.2 = cd)) = true)
  rw [fx_anyM, hn]
  intro q
  obtain ⟨r, hr, q⟩ := q
  exact h r (by omega) q
/-- the RULE under way is the table's last -/
theorem fxTM.add {A A' : Nat → Int32} {n : Int} {z : Int32} (hT : TS A 13200) (hn : (A 13200).toInt = n) (e : A' = upd A (13200 : Int32).toNatClampNeg z) (hz : z.toInt = n + 1) (h24 : n < 24) : fxTM A' 13200 = ((fxTM A 13200).1, (fxTM A 13200).2 ++ [fxRM A (13212 + 12 * n.toNat)]) := by
  have i : (13200 : Int32).toNatClampNeg = 13200 := rfl
  rw [i] at e
  have ne : ∀ j, j ≠ 13200 → A' j = A j := fun j hj => by rw [e, pk_un hj]
  have h0 := hT.1
  have er : ∀ r, r < 24 → fxRM A' (13200 + 12 + 12 * r) = fxRM A (13200 + 12 + 12 * r) := fun r hr => by
    have h4 := hT.2.2.2.2.1 r hr
    refine fxRM.congr ?_ ?_ (fun k hk => ne _ (by omega))
    · have := h4.1.2; rw [show 13200 + 12 + 12 * r = 13200 + (12 * r + 12) by omega]; exact this
    · have := h4.2.1.2; rw [show 13200 + 12 + 12 * r + 7 = 13200 + (12 * r + 19) by omega]; exact this
  refine Prod.ext ?_ ?_
  · show fxSgM A' 13200 = fxSgM A 13200
    funext k
    unfold fxSgM
    by_cases q : k < 5
    · rw [if_pos q, if_pos q, ne _ (by omega)]
    · rw [if_neg q, if_neg q]
  · show (List.range (A' 13200).toInt.toNat).map _ = (List.range (A 13200).toInt.toNat).map _ ++ [fxRM A (13212 + 12 * n.toNat)]
    rw [e, upd_at rfl, ← e, hz, hn, show (n + 1).toNat = n.toNat + 1 by omega, List.range_succ, List.map_append]
    refine _root_.congr (congrArg _ (List.map_congr_left (fun r hr => ?_))) ?_
    · rw [List.mem_range] at hr
      exact er r (by omega)
    · show [fxRM A' (13200 + 12 + 12 * n.toNat)] = _
      rw [er _ (by omega)]
theorem fxMo.zero {I I' : Nat → Nat → Int32} {r : Int32} {p : Int} {S S' S2 : fxS} (h : fxMo I I' r p S S') (hr : r = 0) : fxMo I I' 0 p S S2 := by
  rcases h with ⟨a, _⟩ | ⟨_, h⟩
  · exact absurd (a.symm.trans hr) (by decide)
  · exact Or.inr ⟨rfl, h⟩
theorem fxMo.one {I I' : Nat → Nat → Int32} {r : Int32} {p : Int} {S S' : fxS} (h : fxMo I I' r p S S') (hr : ¬ r = 0) : (I' 0 17).toInt = 0 ∧ ∃ q : Int, fxRe (fxBm (I 6)) (I 0 10).toInt (p, S) (q, S') ∧ fxLM I' q := by
  rcases h with ⟨_, a, b⟩ | ⟨a, _⟩
  · exact ⟨a, b⟩
  · exact absurd a hr
theorem fxMo.as {I I' : Nat → Nat → Int32} {r : Int32} {p : Int} {S S' S2 : fxS} (h : fxMo I I' r p S S') (e : S' = S2) : fxMo I I' r p S S2 := e ▸ h
theorem fx_s1 {I : Nat → Nat → Int32} {va : Int} (h : fxIs (fxKm (I 0 11).toInt) (fxWm I) 0) (hn : ¬ 24 ≤ (fxTM (I 1) 13200).2.length) : fxSt (fxKm (I 0 11).toInt) (fxWm I) va (fxS0M I) = .inr (1, 0, fxTdM (I 0 19), fxTM (I 1) 13200, fxE) := by
  show fxSt _ _ _ (0, 0, fxTdM (I 0 19), fxTM (I 1) 13200, fxE) = _
  rw [fx_st0 (by rw [h.1]; decide) (by rw [h.1]; decide), fxPart.rule h, if_neg hn]
theorem fx_s1f {I : Nat → Nat → Int32} {va : Int} (h : fxIs (fxKm (I 0 11).toInt) (fxWm I) 0) (hn : 24 ≤ (fxTM (I 1) 13200).2.length) : fxSt (fxKm (I 0 11).toInt) (fxWm I) va (fxS0M I) = .inl 6 := by
  show fxSt _ _ _ (0, 0, fxTdM (I 0 19), fxTM (I 1) 13200, fxE) = _
  rw [fx_st0 (by rw [h.1]; decide) (by rw [h.1]; decide), fxPart.rule h, if_pos hn]
theorem fx_s2 {I : Nat → Nat → Int32} {va : Int} {td : Nat → Bool} {T : fxT} {ls : List Int} (ht : (I 0 11).toInt = 2) (hl : (I 0 13).toInt - (I 0 12).toInt ≤ 6) (e : ls = (fxWm I).map (fun b => b - 96)) : fxSt (fxKm (I 0 11).toInt) (fxWm I) va (1, 0, td, T, fxE) = .inr (2, 0, td, T, (ls, [], 0)) := by
  rw [fx_st1 (by rw [fxKm_2 ht]; decide), if_pos ⟨fxKm_2 ht, by rw [fxWm.len]; omega⟩, e]
theorem fx_s2f {I : Nat → Nat → Int32} {va : Int} {td : Nat → Bool} {T : fxT} (l : 0 ≤ (I 0 11).toInt ∧ (I 0 11).toInt ≤ 4) (h1 : (I 0 11).toInt ≠ 1) (h : (I 0 11).toInt ≠ 2 ∨ 6 < (I 0 13).toInt - (I 0 12).toInt) : fxSt (fxKm (I 0 11).toInt) (fxWm I) va (1, 0, td, T, fxE) = .inl 2 := by
  have k := fxKm_all l
  rw [fx_st1 (fun z => h1 (k.2.1.mpr z)), if_neg]
  intro z
  have z2 := k.2.2.1.mpr z.1
  have z3 := z.2
  rw [fxWm.len] at z3
  omega
theorem fx_nc {I : Nat → Nat → Int32} {r : Int32} (h : (r.toInt = -1 ∧ ∀ k : Nat, k < 11 → ¬ fxIs (fxKm (I 0 11).toInt) (fxWm I) k) ∨ (0 ≤ r.toInt ∧ r.toInt ≤ 10 ∧ fxIs (fxKm (I 0 11).toInt) (fxWm I) r.toInt.toNat)) (hr : r.toInt < 7 ∨ 10 < r.toInt) : ∀ k : Nat, 7 ≤ k → k ≤ 10 → ¬ (fxKm (I 0 11).toInt = 0 ∧ fxWm I = fxK k) := fun k h1 h2 z => by
  rcases h with ⟨_, h⟩ | ⟨a, b, h⟩
  · exact h k (by omega) z
  · have w := fxK.inj r.toInt.toNat (by omega) k (by omega) (h.2.symm.trans z.2)
    omega
theorem fx_s5 {I : Nat → Nat → Int32} {r : Int32} {va aw c : Int} {td : Nat → Bool} {T : fxT} {ls cs : List Int} (ha : aw = 4) (h : (r.toInt = -1 ∧ ∀ k : Nat, k < 11 → ¬ fxIs (fxKm (I 0 11).toInt) (fxWm I) k) ∨ (0 ≤ r.toInt ∧ r.toInt ≤ 10 ∧ fxIs (fxKm (I 0 11).toInt) (fxWm I) r.toInt.toNat)) (hr : 7 ≤ r.toInt ∧ r.toInt ≤ 10) (hc : c = r.toInt - 6) : fxSt (fxKm (I 0 11).toInt) (fxWm I) va (aw, 0, td, T, (ls, cs, 0)) = .inr (5, 0, td, T, (ls, cs, c)) := by
  subst ha
  rcases h with ⟨a, _⟩ | ⟨a, b, h⟩
  · omega
  · rw [fx_st4 (by rw [h.1]; decide), if_neg (by rw [h.1]; decide), fxMore.cond (k := r.toInt.toNat - 6) (by omega) ⟨h.1, by rw [show r.toInt.toNat - 6 + 6 = r.toInt.toNat by omega]; exact h.2⟩]
    rw [show ((r.toInt.toNat - 6 : Nat) : Int) = c by omega]
theorem fx_w0 {I : Nat → Nat → Int32} {r : Int32} (h : (r.toInt = -1 ∧ ∀ k : Nat, k < 11 → ¬ fxIs (fxKm (I 0 11).toInt) (fxWm I) k) ∨ (0 ≤ r.toInt ∧ r.toInt ≤ 10 ∧ fxIs (fxKm (I 0 11).toInt) (fxWm I) r.toInt.toNat)) (hr : 0 ≤ r.toInt) : fxIs (fxKm (I 0 11).toInt) (fxWm I) r.toInt.toNat := by
  rcases h with h | h
  · omega
  · exact h.2.2
theorem fx_s0n {I : Nat → Nat → Int32} {r : Int32} {va : Int} (h : (r.toInt = -1 ∧ ∀ k : Nat, k < 11 → ¬ fxIs (fxKm (I 0 11).toInt) (fxWm I) k) ∨ (0 ≤ r.toInt ∧ r.toInt ≤ 10 ∧ fxIs (fxKm (I 0 11).toInt) (fxWm I) r.toInt.toNat)) (hr : r.toInt < 0 ∨ 5 < r.toInt) (l : 0 ≤ (I 0 11).toInt ∧ (I 0 11).toInt ≤ 4) (h0 : (I 0 11).toInt ≠ 0) (h1 : (I 0 11).toInt ≠ 1) : fxSt (fxKm (I 0 11).toInt) (fxWm I) va (fxS0M I) = .inl 2 := by
  have k := fxKm_all l
  show fxSt _ _ _ (0, 0, fxTdM (I 0 19), fxTM (I 1) 13200, fxE) = _
  rw [fx_st0 (fun z => h1 (k.2.1.mpr z)) (fun z => h0 (k.1.mpr z)), fxPart.none (fun j hj z => ?_)]
  rcases h with ⟨_, h⟩ | ⟨a, b, h⟩
  · exact h j (by omega) z
  · have w := fxK.inj r.toInt.toNat (by omega) j (by omega) (h.2.symm.trans z.2)
    omega
theorem fx_b1 (y : Int32) : (y &&& 1).toInt = 1 ↔ bt y 0 = true := by
  have e : y &&& 1 = if bt y 0 = true then 1 else 0 := by
    apply b_ext
    intro i hi
    rw [b_and, fx_bit1]
    by_cases q : i = 0
    · subst q
      by_cases w : bt y 0 = true
      · rw [if_pos w, w, fx_bit1]; rfl
      · rw [if_neg w, b_0, Bool.eq_false_iff.mpr w]; rfl
    · rw [decide_eq_false q, Bool.and_false]
      by_cases w : bt y 0 = true
      · rw [if_pos w, fx_bit1, decide_eq_false q]
      · rw [if_neg w, b_0]
  rw [e]
  by_cases w : bt y 0 = true
  · rw [if_pos w]
    exact ⟨fun _ => w, fun _ => by decide⟩
  · rw [if_neg w]
    exact ⟨fun z => absurd z (by decide), fun z => absurd z w⟩
theorem fx_toldM {x s y z : Int32} {k : Nat} (hs : s.toInt = (k : Int) + 1) (hk : k < 5) (hy : y = x >>> (s &&& 31)) (hz : z = y &&& 1) : fxTdM x k = true ↔ z.toInt = 1 := by
  have e : s = nI (k + 1) := by
    obtain ⟨e, _⟩ := t_nI (a := ((k + 1 : Nat) : Int)) (x := s) (by omega) (by omega)
    exact e
  rw [hz, fx_b1, hy, e, b_sshr (k + 1) (by omega) x (by omega), if_pos (by omega)]
  unfold fxTdM
  rw [decide_eq_true hk, Bool.true_and]
theorem fx_tellM {x s b z : Int32} {k : Nat} (hs : s.toInt = (k : Int) + 1) (hk : k < 5) (hb : b = 1 <<< (s &&& 31)) (hz : z = x ||| b) : fxTdM z = fxUp (fxTdM x) k true := by
  have e : s = nI (k + 1) := by
    obtain ⟨e, _⟩ := t_nI (a := ((k + 1 : Nat) : Int)) (x := s) (by omega) (by omega)
    exact e
  have hB : ∀ i, i < 32 → bt b i = decide (i = k + 1) := fun i hi => by
    rw [hb, e, b_shl (k + 1) (by omega) 1 hi, fx_bit1]
    by_cases q : i = k + 1
    · subst q; simp
    · by_cases w : k + 1 ≤ i
      · rw [decide_eq_true w, decide_eq_false q, decide_eq_false (by omega)]; rfl
      · rw [decide_eq_false w, decide_eq_false q]; rfl
  funext j
  unfold fxUp fxTdM
  by_cases q : j = k
  · subst q
    rw [if_pos rfl, decide_eq_true hk, hz, b_or, hB (j + 1) (by omega)]
    simp
  · rw [if_neg q]
    by_cases w : j < 5
    · rw [decide_eq_true w, hz, b_or, hB (j + 1) (by omega), decide_eq_false (show ¬ j + 1 = k + 1 by omega), Bool.or_false]
    · rw [decide_eq_false w]; rfl
theorem fx_s6 {I : Nat → Nat → Int32} {r : Int32} {va : Int} {td : Nat → Bool} {k : Nat} (h : fxIs (fxKm (I 0 11).toInt) (fxWm I) (k + 1)) (hk : k < 5) (ht : ¬ fxTdM (I 0 19) k = true) (e : td = fxUp (fxTdM (I 0 19)) k true) : fxSt (fxKm (I 0 11).toInt) (fxWm I) va (fxS0M I) = .inr (6, (k : Int), td, fxTM (I 1) 13200, fxE) := by
  show fxSt _ _ _ (0, 0, fxTdM (I 0 19), fxTM (I 1) 13200, fxE) = _
  rw [fx_st0 (by rw [h.1]; decide) (by rw [h.1]; decide), fxPart.sign hk h, fxSign, if_neg ht, e]
theorem fx_s6f {I : Nat → Nat → Int32} {va : Int} {k : Nat} (h : fxIs (fxKm (I 0 11).toInt) (fxWm I) (k + 1)) (hk : k < 5) (ht : fxTdM (I 0 19) k = true) : fxSt (fxKm (I 0 11).toInt) (fxWm I) va (fxS0M I) = .inl 5 := by
  show fxSt _ _ _ (0, 0, fxTdM (I 0 19), fxTM (I 1) 13200, fxE) = _
  rw [fx_st0 (by rw [h.1]; decide) (by rw [h.1]; decide), fxPart.sign hk h, fxSign, if_pos ht]
theorem fx_s7 {kd va : Int} {w : List Int} {td : Nat → Bool} {T : fxT} (hk : kd ≠ 2) (h4 : kd ≠ 4) : fxSt kd w va (7, 0, td, T, fxE) = .inl 2 := by rw [fx_st7 h4, if_neg hk]
theorem fxNx.congr {B B' : Nat → Int} {n : Int} {a b : Int × fxS} (h0 : 0 ≤ a.1) (e : ∀ j : Nat, (j : Int) < n → B j = B' j) (h : fxNx B n a b) : fxNx B' n a b := by
  obtain ⟨kd, fr, va, l, s⟩ := h
  have r := l.rng
  exact ⟨kd, fr, va, l.congr h0 e, by rw [← fxW.congr (n := n) (by omega) e]; exact s⟩
theorem fxVd.congr {B B' : Nat → Int} {n : Int} {a : Int × fxS} {f pl : Int} (h0 : 0 ≤ a.1) (e : ∀ j : Nat, (j : Int) < n → B j = B' j) (h : fxVd B n a f pl) : fxVd B' n a f pl := by
  obtain ⟨kd, en, va, l, s⟩ := h
  have r := l.rng
  exact ⟨kd, en, va, l.congr h0 e, by rw [← fxW.congr (n := n) (by omega) e]; exact s⟩
theorem fxGo.congr {B B' : Nat → Int} {n : Int} (e : ∀ j : Nat, (j : Int) < n → B j = B' j) : ∀ (k : Nat) {a b : Int × fxS}, 0 ≤ a.1 → fxGo B n k a b → fxGo B' n k a b
  | 0, a, b, _, h => h
  | k + 1, a, b, h0, h => by
    obtain ⟨c, h1, h2⟩ := h
    have := h1.fwd
    exact ⟨c, h1.congr h0 e, fxGo.congr e k (by omega) h2⟩
theorem fxRe.congr {B B' : Nat → Int} {n : Int} {a b : Int × fxS} (h0 : 0 ≤ a.1) (e : ∀ j : Nat, (j : Int) < n → B j = B' j) (h : fxRe B n a b) : fxRe B' n a b := by
  obtain ⟨k, g⟩ := h
  exact ⟨k, g.congr e k h0⟩
theorem fxGo.fwd {B : Nat → Int} {n : Int} : ∀ (k : Nat) {a b : Int × fxS}, fxGo B n k a b → a.1 ≤ b.1
  | 0, a, b, h => by
    have e : a = b := h
    rw [e]; exact Int.le_refl _
  | k + 1, a, b, h => by
    obtain ⟨c, h1, h2⟩ := h
    exact Int.le_trans h1.fwd (fxGo.fwd k h2)
theorem fxRe.fwd {B : Nat → Int} {n : Int} {a b : Int × fxS} (h : fxRe B n a b) : a.1 ≤ b.1 := by
  obtain ⟨k, g⟩ := h
  exact g.fwd k
/-- a new table of nothing -/
theorem fx_em {A F f1 f2 f3 : Nat → Int32} {s : Nat} {x1 x2 x3 : Int32} (h : ∀ j : Nat, F j = if (s : Int) ≤ (j : Int) ∧ (j : Int) < s + 3300 then 0 else A j) (e1 : f1 = upd F x1.toNatClampNeg 32) (e2 : f2 = upd f1 x2.toNatClampNeg 25) (e3 : f3 = upd f2 x3.toNatClampNeg (-1)) (h1 : x1.toInt = s + 4) (h2 : x2.toInt = s + 5) (h3 : x3.toInt = s + 7) : fxTM f3 s = fxT0 ∧ (f3 (s + 6)).toInt = 0 := by
  have i1 := t_cl (i := x1) h1 (by omega)
  have i2 := t_cl (i := x2) h2 (by omega)
  have i3 := t_cl (i := x3) h3 (by omega)
  have v4 : f3 (s + 4) = 32 := by rw [e3, pk_un (by omega), e2, pk_un (by omega), e1, upd_at (by omega)]
  have v5 : f3 (s + 5) = 25 := by rw [e3, pk_un (by omega), e2, upd_at (by omega)]
  have v : ∀ j, j < 3300 → j ≠ 4 → j ≠ 5 → j ≠ 7 → f3 (s + j) = 0 := fun j a b c d => by rw [e3, pk_un (by omega), e2, pk_un (by omega), e1, pk_un (by omega), h, if_pos (by omega)]
  have vs : f3 s = 0 := v 0 (by omega) (by omega) (by omega) (by omega)
  refine ⟨Prod.ext ?_ ?_, by rw [v 6 (by omega) (by omega) (by omega) (by omega)]; rfl⟩
  · show fxSgM f3 s = fun k => if k = 3 then 32 else if k = 4 then 25 else 0
    funext k
    unfold fxSgM
    by_cases q : k < 5
    · rw [if_pos q, Nat.add_assoc]
      rcases (show k = 0 ∨ k = 1 ∨ k = 2 ∨ k = 3 ∨ k = 4 by omega) with rfl | rfl | rfl | rfl | rfl
      · rw [v _ (by omega) (by omega) (by omega) (by omega)]; rfl
      · rw [v _ (by omega) (by omega) (by omega) (by omega)]; rfl
      · rw [v _ (by omega) (by omega) (by omega) (by omega)]; rfl
      · rw [show s + (1 + 3) = s + 4 by omega, v4]; rfl
      · rw [show s + (1 + 4) = s + 5 by omega, v5]; rfl
    · rw [if_neg q, if_neg (by omega), if_neg (by omega)]
  · show (List.range (f3 s).toInt.toNat).map _ = []
    rw [vs]
    rfl
/-- a slot's table, copied -/
theorem fxTM.cp {A A' : Nat → Int32} (hT : TS A 13200) (e : ∀ j, j < 3300 → A' j = A (13200 + j)) : fxTM A' 0 = fxTM A 13200 := by
  have h0 := hT.1
  have e0 : A' 0 = A 13200 := e 0 (by omega)
  refine Prod.ext ?_ ?_
  · show fxSgM A' 0 = fxSgM A 13200
    funext k
    unfold fxSgM
    by_cases q : k < 5
    · rw [if_pos q, if_pos q, e _ (by omega), show 13200 + (0 + 1 + k) = 13200 + 1 + k by omega]
    · rw [if_neg q, if_neg q]
  · show (List.range (A' 0).toInt.toNat).map _ = (List.range (A 13200).toInt.toNat).map _
    rw [e0]
    refine List.map_congr_left (fun r hr => ?_)
    rw [List.mem_range] at hr
    have h4 := hT.2.2.2.2.1 r (by omega)
    have hl : (A (13200 + 12 + 12 * r)).toInt ≤ 6 := by have := h4.1.2; rw [show 13200 + 12 + 12 * r = 13200 + (12 * r + 12) by omega]; exact this
    have hc : (A (13200 + 12 + 12 * r + 7)).toInt ≤ 3 := by have := h4.2.1.2; rw [show 13200 + 12 + 12 * r + 7 = 13200 + (12 * r + 19) by omega]; exact this
    have en : ∀ k, k < 12 → A' (0 + 12 + 12 * r + k) = A (13200 + 12 + 12 * r + k) := fun k hk => by rw [e _ (by omega), show 13200 + (0 + 12 + 12 * r + k) = 13200 + 12 + 12 * r + k by omega]
    have en0 : A' (0 + 12 + 12 * r) = A (13200 + 12 + 12 * r) := en 0 (by omega)
    unfold fxRM fxLsM fxCsM
    rw [en0, en 7 (by omega), en 11 (by omega)]
    refine Prod.ext ?_ (Prod.ext ?_ rfl)
    · exact List.map_congr_left (fun k hk => by rw [List.mem_range] at hk; rw [Nat.add_assoc (0 + 12 + 12 * r), en (1 + k) (by omega), Nat.add_assoc (13200 + 12 + 12 * r)])
    · exact List.map_congr_left (fun k hk => by rw [List.mem_range] at hk; rw [Nat.add_assoc (0 + 12 + 12 * r), en (8 + k) (by omega), Nat.add_assoc (13200 + 12 + 12 * r)])
theorem fxMo.r1 {I I' : Nat → Nat → Int32} {r : Int32} {p : Int} {S S' : fxS} (h : fxMo I I' r p S S') (hr : ¬ r = 0) (h01 : r = 0 ∨ r = 1) : fxMo I I' 1 p S S' := by
  rcases h01 with e | e
  · exact absurd e hr
  · rw [← e]; exact h
/-- below the new table, and its DROPPED RULES: nothing changes -/
def fxLow (I I' : Nat → Nat → Int32) : Prop := ∀ j : Nat, j < 13200 ∨ j = 13206 → I' 1 j = I 1 j
theorem fxLow.rf (I : Nat → Nat → Int32) : fxLow I I := fun _ _ => rfl
theorem fxLow.tr {I I' I2 : Nat → Nat → Int32} (h : fxLow I I') (h2 : fxLow I' I2) : fxLow I I2 := fun j hj => (h2 j hj).trans (h j hj)
theorem fxLow.kk {cs fs : List Nat} {I I' I2 : Nat → Nat → Int32} (h : fxLow I I') (k : KK cs fs I' I2) (h1 : 1 ∉ cs) : fxLow I I2 := fun j hj => by rw [k.1 1 (by decide) h1]; exact h j hj
theorem fxLow.put {I I' : Nat → Nat → Int32} {f : Nat → Int32} {x v : Int32} {a : Int} (h : fxLow I I') (e : f = upd (I' 1) x.toNatClampNeg v) (hx : x.toInt = a) (ha : 13200 ≤ a ∧ a ≠ 13206) : fxLow I (uR I' 1 f) := fun j hj => by
  have i := t_cl (i := x) hx (by omega)
  rw [uR_eq, e, pk_un (by omega)]
  exact h j hj
theorem fxRf.low {I0 I : Nat → Nat → Int32} {n : Int} (h : fxRf I0 I n) (hn : 0 ≤ n) : fxLow I0 I := fun j hj => h j (by omega)
theorem fxLM.at {I : Nat → Nat → Int32} {p q : Int} (h : fxLM I p) (e : p = q) : fxLM I q := e ▸ h
theorem fx_cpb {A A' T : Nat → Int32} {v v2 : Int} {i x : Int32} (h : ∀ j : Nat, (j : Int) < v → fxBm A j = fxBm T j) (e : A' = upd A i.toNatClampNeg (x.toInt8.toInt32)) (hx : x = T i.toNatClampNeg) (hi : i.toInt = v) (hv : 0 ≤ v) (h2 : v2 = v + 1) (j : Nat) (hj : (j : Int) < v2) : fxBm A' j = fxBm T j := by
  have ic := t_cl (i := i) hi hv
  by_cases q : j = i.toNatClampNeg
  · show (A' j &&& 255).toInt = (T j &&& 255).toInt
    rw [e, upd_at q, bp_b, hx, q]
  · show (A' j &&& 255).toInt = _
    rw [e, pk_un q]
    exact h j (by omega)
theorem fx_S00 {I : Nat → Nat → Int32} (h : I 0 19 = 0) (hT : fxTM (I 1) 13200 = fxT0) : fxS0M I = fxS0 := by
  unfold fxS0M
  rw [h, hT]
  have e : fxTdM 0 = fun _ => false := by
    funext k
    unfold fxTdM
    rw [b_0, Bool.and_false]
  rw [e]
  rfl
/-- the reading goes on, over the text's own bytes -/
theorem fxMo.go {I I' T : Nat → Nat → Int32} {n p : Int} {r : Int32} {S' : fxS} (h : fxMo I I' r p (fxS0M I) S') (hB : (∀ j : Nat, (j : Int) < n → fxBm (I 6) j = fxBm (T 5) j) ∧ (I 0 10).toInt = n) (g : fxRe (fxBm (T 5)) n (0, fxS0) (p, fxS0M I)) : (r = 1 ∧ (I' 0 17).toInt = 0 ∧ ∃ q : Int, fxLM I' q ∧ fxRe (fxBm (T 5)) n (0, fxS0) (q, S')) ∨ (r = 0 ∧ (I' 0 17).toInt ≠ 0 ∧ ∃ c : Int × fxS, fxRe (fxBm (T 5)) n (0, fxS0) c ∧ fxVd (fxBm (T 5)) n c (I' 0 17).toInt (I' 0 16).toInt) := by
  obtain ⟨hB, hn⟩ := hB
  have p0 : 0 ≤ p := g.fwd
  unfold fxMo at h
  rw [hn] at h
  rcases h with ⟨a, b, q, g2, l⟩ | ⟨a, b, c, g2, v⟩
  · exact Or.inl ⟨a, b, q, l, g.tr (g2.congr p0 hB)⟩
  · have c0 : p ≤ c.1 := g2.fwd
    exact Or.inr ⟨a, b, c, g.tr (g2.congr p0 hB), v.congr (by omega) hB⟩
/-- the end, where a part is awaited: taken -/
theorem fx_fin {I T : Nat → Nat → Int32} {n p : Int} (l : fxLM I p) (h0 : (I 0 11).toInt = 0) (hB : (∀ j : Nat, (j : Int) < n → fxBm (I 6) j = fxBm (T 5) j) ∧ (I 0 10).toInt = n) (p0 : 0 ≤ p) : fxVd (fxBm (T 5)) n (p, fxS0M I) 0 (I 0 12).toInt := by
  obtain ⟨hB, hn⟩ := hB
  have l1 := l.1
  rw [hn] at l1
  refine ⟨_, _, _, l1.congr p0 hB, ?_⟩
  rw [fxKm_0 h0]
  show fxStep 3 _ _ 0 0 _ _ _ = _
  unfold fxStep
  rw [if_neg (by decide), if_pos rfl, if_pos rfl]
def fxP (q : Sum Int fxS) : Prop := ∀ f, q = .inl f → 0 ≤ f
theorem fxP.l {k : Int} (h : 0 ≤ k) : fxP (.inl k) := fun f q => by cases q; exact h
theorem fxP.r {s : fxS} : fxP (.inr s) := fun f q => by cases q
theorem fxP.i {c : Prop} (i : Decidable c) {a b : Sum Int fxS} (ha : fxP a) (hb : fxP b) : fxP (@ite _ c i a b) := by
  cases i with
  | isTrue h => exact ha
  | isFalse h => exact hb
theorem fxStep.pos {kd : Int} {w : List Int} {va aw sg : Int} {td : Nat → Bool} {T : fxT} {cu : fxR} {f : Int} (h : fxStep kd w va aw sg td T cu = .inl f) : 0 ≤ f := by
  have P : fxP (fxStep kd w va aw sg td T cu) := by
    unfold fxStep fxPart fxLets fxMore fxSgv fxCell fxRule fxSign
    repeat' first | exact fxP.l (by decide) | exact fxP.r | refine fxP.i _ ?_ ?_
  exact P f h
theorem fxVd.pos {B : Nat → Int} {n : Int} {a : Int × fxS} {f pl : Int} (h : fxVd B n a f pl) : 0 ≤ f := by
  obtain ⟨kd, en, va, l, s⟩ := h
  exact fxStep.pos s
