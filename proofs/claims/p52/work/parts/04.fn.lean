/-! WHAT A TEXT MEANS: its TOKENS one by one, the table that it tells, as functions of its bytes -/
abbrev fxB (f : Nat → Int32) : Nat → Int := fun j => (f j).toInt
abbrev fxBm (f : Nat → Int32) : Nat → Int := fun j => (f j &&& 255).toInt
def fxDv (B : Nat → Int) (fr : Nat) : Nat → Int
  | 0 => 0
  | k + 1 => fxDv B fr k * 10 + B (fr + k) - 48
/-- the TOKEN at or behind p: its kind (0 a word, 1 a numeral, 2 a semicolon, 3 the end, 4 none), from, to, value -/
def fxLx (B : Nat → Int) (n p kd fr en va : Int) : Prop :=
  (p ≤ fr ∧ fr ≤ n ∧ (∀ j : Nat, p ≤ (j : Int) → (j : Int) < fr → B j = 10 ∨ B j = 32) ∧ (fr < n → ¬ (B fr.toNat = 10 ∨ B fr.toNat = 32))) ∧
  ((fr = n ∧ kd = 3 ∧ en = fr) ∨
   (fr < n ∧ (97 ≤ B fr.toNat ∧ B fr.toNat ≤ 122) ∧ kd = 0 ∧ fr < en ∧ en ≤ n ∧ (∀ j : Nat, fr ≤ (j : Int) → (j : Int) < en → 97 ≤ B j ∧ B j ≤ 122) ∧ (en < n → ¬ (97 ≤ B en.toNat ∧ B en.toNat ≤ 122))) ∨
   (fr < n ∧ (48 ≤ B fr.toNat ∧ B fr.toNat ≤ 57) ∧ fr < en ∧ en ≤ n ∧ (∀ j : Nat, fr ≤ (j : Int) → (j : Int) < en → 48 ≤ B j ∧ B j ≤ 57) ∧ (en < n → ¬ (48 ≤ B en.toNat ∧ B en.toNat ≤ 57)) ∧ ((4 < en - fr ∧ kd = 4) ∨ (en - fr ≤ 4 ∧ kd = 1 ∧ va = fxDv B fr.toNat (en - fr).toNat))) ∨
   (fr < n ∧ ¬ (97 ≤ B fr.toNat ∧ B fr.toNat ≤ 122) ∧ ¬ (48 ≤ B fr.toNat ∧ B fr.toNat ≤ 57) ∧ en = fr + 1 ∧ ((B fr.toNat = 59 ∧ kd = 2) ∨ (B fr.toNat ≠ 59 ∧ kd = 4))))
theorem fxLx.rng {B : Nat → Int} {n p kd fr en va : Int} (h : fxLx B n p kd fr en va) : p ≤ fr ∧ fr ≤ en ∧ en ≤ n ∧ (kd ≠ 3 → fr < en) ∧ (kd = 3 → fr = n ∧ en = n) := by
  obtain ⟨⟨a1, a2, _, _⟩, b⟩ := h
  rcases b with ⟨b1, b2, b3⟩ | ⟨b1, _, b2, b3, b4, _⟩ | ⟨b1, _, b3, b4, _, _, b5⟩ | ⟨b1, _, _, b3, b5⟩
  · omega
  · omega
  · omega
  · omega
theorem fxLx.fr_le {B : Nat → Int} {n p kd fr en va kd' fr' en' va' : Int} (hp : 0 ≤ p) (h : fxLx B n p kd fr en va) (h' : fxLx B n p kd' fr' en' va') : fr' ≤ fr := by
  rcases Int.lt_or_le fr fr' with q | q
  · exfalso
    obtain ⟨⟨a1, a2, _, a4⟩, _⟩ := h
    obtain ⟨⟨c1, c2, c3, _⟩, _⟩ := h'
    exact a4 (by omega) (c3 fr.toNat (by omega) (by omega))
  · exact q
theorem fxLx.det {B : Nat → Int} {n p kd fr en va kd' fr' en' va' : Int} (hp : 0 ≤ p) (h : fxLx B n p kd fr en va) (h' : fxLx B n p kd' fr' en' va') : fr = fr' ∧ en = en' ∧ kd = kd' ∧ (kd = 1 → va = va') := by
  have e : fr = fr' := Int.le_antisymm (fxLx.fr_le hp h' h) (fxLx.fr_le hp h h')
  subst e
  obtain ⟨⟨a1, a2, _, _⟩, b⟩ := h
  obtain ⟨_, d⟩ := h'
  refine ⟨rfl, ?_⟩
  rcases b with ⟨b1, b2, b3⟩ | ⟨b1, bs, b2, b3, b4, b5, b6⟩ | ⟨b1, bs, b3, b4, b5, b6, b7⟩ | ⟨b1, bs, bt, b3, b5⟩
  · rcases d with ⟨d1, d2, d3⟩ | ⟨d1, _⟩ | ⟨d1, _⟩ | ⟨d1, _⟩
    · omega
    all_goals omega
  · rcases d with ⟨d1, d2, d3⟩ | ⟨d1, ds, d2, d3, d4, d5, d6⟩ | ⟨d1, ds, _⟩ | ⟨d1, ds, _⟩
    · omega
    · have e : en = en' := by
        rcases Int.lt_trichotomy en en' with q | q | q
        · exact absurd (d5 en.toNat (by omega) (by omega)) (b6 (by omega))
        · exact q
        · exact absurd (b5 en'.toNat (by omega) (by omega)) (d6 (by omega))
      omega
    · omega
    · exact absurd bs ds
  · rcases d with ⟨d1, d2, d3⟩ | ⟨d1, ds, _⟩ | ⟨d1, ds, d3, d4, d5, d6, d7⟩ | ⟨d1, ds, dt, _⟩
    · omega
    · omega
    · have e : en = en' := by
        rcases Int.lt_trichotomy en en' with q | q | q
        · exact absurd (d5 en.toNat (by omega) (by omega)) (b6 (by omega))
        · exact q
        · exact absurd (b5 en'.toNat (by omega) (by omega)) (d6 (by omega))
      subst e
      rcases b7 with ⟨b8, b9⟩ | ⟨b8, b9, b10⟩
      · rcases d7 with ⟨d8, d9⟩ | ⟨d8, d9, d10⟩
        · omega
        · omega
      · rcases d7 with ⟨d8, d9⟩ | ⟨d8, d9, d10⟩
        · omega
        · exact ⟨rfl, by omega, fun _ => by rw [b10, d10]⟩
    · exact absurd bs dt
  · rcases d with ⟨d1, d2, d3⟩ | ⟨d1, ds, _⟩ | ⟨d1, ds, _⟩ | ⟨d1, ds, dt, d3, d5⟩
    · omega
    · exact absurd ds bs
    · exact absurd ds bt
    · rcases b5 with ⟨b8, b9⟩ | ⟨b8, b9⟩
      · rcases d5 with ⟨d8, d9⟩ | ⟨d8, d9⟩
        · omega
        · omega
      · rcases d5 with ⟨d8, d9⟩ | ⟨d8, d9⟩
        · omega
        · omega
theorem fxDv.congr {B B' : Nat → Int} {fr : Nat} : ∀ k : Nat, (∀ j, fr ≤ j → j < fr + k → B j = B' j) → fxDv B fr k = fxDv B' fr k
  | 0, _ => rfl
  | k + 1, h => by
    show fxDv B fr k * 10 + B (fr + k) - 48 = fxDv B' fr k * 10 + B' (fr + k) - 48
    rw [fxDv.congr k (fun j h1 h2 => h j h1 (by omega)), h (fr + k) (by omega) (by omega)]
/-- only the bytes ahead of n count -/
theorem fxLx.congr {B B' : Nat → Int} {n p kd fr en va : Int} (hp : 0 ≤ p) (e : ∀ j : Nat, (j : Int) < n → B j = B' j) (h : fxLx B n p kd fr en va) : fxLx B' n p kd fr en va := by
  obtain ⟨⟨a1, a2, a3, a4⟩, b⟩ := h
  refine ⟨⟨a1, a2, fun j h1 h2 => by rw [← e j (by omega)]; exact a3 j h1 h2, fun q => by rw [← e _ (by omega)]; exact a4 q⟩, ?_⟩
  rcases b with ⟨b1, b2, b3⟩ | ⟨b1, bs, b2, b3, b4, b5, b6⟩ | ⟨b1, bs, b3, b4, b5, b6, b7⟩ | ⟨b1, bs, bt, b3, b5⟩
  · exact Or.inl ⟨b1, b2, b3⟩
  · refine Or.inr (Or.inl ⟨b1, by rw [← e _ (by omega)]; exact bs, b2, b3, b4, fun j h1 h2 => by rw [← e j (by omega)]; exact b5 j h1 h2, fun q => by rw [← e _ (by omega)]; exact b6 q⟩)
  · refine Or.inr (Or.inr (Or.inl ⟨b1, by rw [← e _ (by omega)]; exact bs, b3, b4, fun j h1 h2 => by rw [← e j (by omega)]; exact b5 j h1 h2, fun q => by rw [← e _ (by omega)]; exact b6 q, ?_⟩))
    rcases b7 with b8 | ⟨b8, b9, b10⟩
    · exact Or.inl b8
    · exact Or.inr ⟨b8, b9, by rw [b10]; exact fxDv.congr _ (fun j h1 h2 => e j (by omega))⟩
  · refine Or.inr (Or.inr (Or.inr ⟨b1, by rw [← e _ (by omega)]; exact bs, by rw [← e _ (by omega)]; exact bt, b3, ?_⟩))
    rw [← e _ (by omega)]
    exact b5
/-- the bytes of a TOKEN -/
def fxW (B : Nat → Int) (fr en : Int) : List Int := (List.range (en - fr).toNat).map (fun i => B (fr.toNat + i))
theorem fxW.congr {B B' : Nat → Int} {fr en n : Int} (h0 : 0 ≤ fr ∧ en ≤ n) (e : ∀ j : Nat, (j : Int) < n → B j = B' j) : fxW B fr en = fxW B' fr en := by
  unfold fxW
  apply List.map_congr_left
  intro i hi
  rw [List.mem_range] at hi
  exact e _ (by omega)
theorem fxW.len {B : Nat → Int} {fr en : Int} : (fxW B fr en).length = (en - fr).toNat := by
  unfold fxW
  rw [List.length_map, List.length_range]
/-- a TOKEN's bytes are these -/
theorem fxW.eq {B : Nat → Int} {fr en : Int} {l : List Int} (h1 : (en - fr).toNat = l.length) (h2 : ∀ k : Nat, k < l.length → B (fr.toNat + k) = l.getD k 0) : fxW B fr en = l := by
  apply List.ext_getElem?
  intro k
  unfold fxW
  rw [List.getElem?_map]
  by_cases hk : k < l.length
  · rw [List.getElem?_range (by omega), List.getElem?_eq_getElem hk]
    show some (B (fr.toNat + k)) = _
    rw [h2 k hk, List.getD_eq_getElem?_getD, List.getElem?_eq_getElem hk]
    rfl
  · rw [List.getElem?_eq_none (by rw [List.length_range]; omega), List.getElem?_eq_none (by omega)]
    rfl
theorem fxW.ne {B : Nat → Int} {fr en : Int} {l : List Int} {k : Nat} (hk : k < l.length) (h : B (fr.toNat + k) ≠ l.getD k 0) (hl : (en - fr).toNat = l.length) : fxW B fr en ≠ l := fun q => by
  apply h
  have e : (fxW B fr en)[k]? = l[k]? := by rw [q]
  unfold fxW at e
  rw [List.getElem?_map, List.getElem?_range (by omega), List.getElem?_eq_getElem hk] at e
  rw [List.getD_eq_getElem?_getD, List.getElem?_eq_getElem hk]
  exact Option.some.inj e
theorem fxW.nl {B : Nat → Int} {fr en : Int} {l : List Int} (hl : (en - fr).toNat ≠ l.length) : fxW B fr en ≠ l := fun q => hl (by rw [← q, fxW.len])
/-- the words, in this order: rule capital number hyphen line page cells begin middle end alone -/
def fxKs : List (List Int) := [[114, 117, 108, 101], [99, 97, 112, 105, 116, 97, 108], [110, 117, 109, 98, 101, 114], [104, 121, 112, 104, 101, 110], [108, 105, 110, 101], [112, 97, 103, 101], [99, 101, 108, 108, 115], [98, 101, 103, 105, 110], [109, 105, 100, 100, 108, 101], [101, 110, 100], [97, 108, 111, 110, 101]]
def fxK (k : Nat) : List Int := fxKs.getD k []
/-- which word it is -/
abbrev fxIs (kd : Int) (w : List Int) (k : Nat) : Prop := kd = 0 ∧ w = fxK k
theorem fxK.inj : ∀ i, i < 11 → ∀ j, j < 11 → fxK i = fxK j → i = j := by decide +kernel
/-- a RULE: letters, CELLS, COND; a table: signs, RULES -/
abbrev fxR : Type := List Int × List Int × Int
abbrev fxT : Type := (Nat → Int) × List fxR
abbrev fxE : fxR := ([], [], 0)
def fxT0 : fxT := (fun k => if k = 3 then 32 else if k = 4 then 25 else 0, [])
/-- where the reading stands: awaited, sign, signs told, table, RULE under way -/
abbrev fxS : Type := Int × Int × (Nat → Bool) × fxT × fxR
def fxS0 : fxS := (0, 0, fun _ => false, fxT0, fxE)
def fxUp {α : Type} (f : Nat → α) (k : Nat) (x : α) : Nat → α := fun j => if j = k then x else f j
def fxCell (va : Int) (td : Nat → Bool) (T : fxT) (cu : fxR) : Sum Int fxS :=
  if va < 1 ∨ 63 < va then .inl 4 else if 3 ≤ cu.2.1.length then .inl 5 else .inr (4, 0, td, T, (cu.1, cu.2.1 ++ [va], cu.2.2))
def fxRule (td : Nat → Bool) (T : fxT) (cu : fxR) : Sum Int fxS :=
  if T.2.any (fun x => decide (x.1 = cu.1 ∧ x.2.2 = cu.2.2)) then .inl 3 else .inr (0, 0, td, (T.1, T.2 ++ [cu]), fxE)
def fxSign (k : Nat) (td : Nat → Bool) (T : fxT) : Sum Int fxS := if td k = true then .inl 5 else .inr (6, k, fxUp td k true, T, fxE)
def fxLo (sg : Int) : Int := if sg = 3 then 4 else if sg = 4 then 2 else 1
def fxHi (sg : Int) : Int := if sg = 3 then 40 else if sg = 4 then 30 else 63
def fxPart (kd : Int) (w : List Int) (td : Nat → Bool) (T : fxT) : Sum Int fxS :=
  if kd ≠ 0 then .inl 2
  else if w = fxK 0 then (if 24 ≤ T.2.length then .inl 6 else .inr (1, 0, td, T, fxE))
  else if w = fxK 1 then fxSign 0 td T else if w = fxK 2 then fxSign 1 td T else if w = fxK 3 then fxSign 2 td T else if w = fxK 4 then fxSign 3 td T else if w = fxK 5 then fxSign 4 td T
  else .inl 2
def fxLets (kd : Int) (w : List Int) (td : Nat → Bool) (T : fxT) : Sum Int fxS := if kd = 0 ∧ w.length ≤ 6 then .inr (2, 0, td, T, (w.map (fun b => b - 96), [], 0)) else .inl 2
def fxMore (kd : Int) (w : List Int) (va : Int) (td : Nat → Bool) (T : fxT) (cu : fxR) : Sum Int fxS :=
  if kd = 1 then fxCell va td T cu else if kd = 2 then fxRule td T cu else if kd ≠ 0 then .inl 2
  else if w = fxK 7 then .inr (5, 0, td, T, (cu.1, cu.2.1, 1)) else if w = fxK 8 then .inr (5, 0, td, T, (cu.1, cu.2.1, 2)) else if w = fxK 9 then .inr (5, 0, td, T, (cu.1, cu.2.1, 3)) else if w = fxK 10 then .inr (5, 0, td, T, (cu.1, cu.2.1, 4))
  else .inl 2
def fxSgv (va sg : Int) (td : Nat → Bool) (T : fxT) : Sum Int fxS := if va < fxLo sg ∨ fxHi sg < va then .inl 4 else .inr (7, 0, td, (fxUp T.1 sg.toNat va, T.2), fxE)
def fxStep (kd : Int) (w : List Int) (va aw sg : Int) (td : Nat → Bool) (T : fxT) (cu : fxR) : Sum Int fxS :=
  if kd = 4 then .inl 1
  else if kd = 3 then (if aw = 0 then .inl 0 else .inl 2)
  else if aw = 0 then fxPart kd w td T
  else if aw = 1 then fxLets kd w td T
  else if aw = 2 then (if kd = 0 ∧ w = fxK 6 then .inr (3, 0, td, T, cu) else .inl 2)
  else if aw = 3 then (if kd = 1 then fxCell va td T cu else .inl 2)
  else if aw = 4 then fxMore kd w va td T cu
  else if aw = 5 then (if kd = 2 then fxRule td T cu else .inl 2)
  else if aw = 6 then (if kd = 1 then fxSgv va sg td T else .inl 2)
  else (if kd = 2 then .inr (0, 0, td, T, fxE) else .inl 2)
section
variable {kd va sg : Int} {w : List Int} {td : Nat → Bool} {T : fxT} {cu : fxR}
theorem fxPart.rule (h : kd = 0 ∧ w = fxK 0) : fxPart kd w td T = if 24 ≤ T.2.length then .inl 6 else .inr (1, 0, td, T, fxE) := by
  unfold fxPart
  rw [if_neg (fun q => q h.1), if_pos h.2]
theorem fxPart.sign {k : Nat} (hk : k < 5) (h : kd = 0 ∧ w = fxK (k + 1)) : fxPart kd w td T = fxSign k td T := by
  have n : ∀ j, j < 11 → j ≠ k + 1 → w ≠ fxK j := fun j hj q e => q (fxK.inj j hj (k + 1) (by omega) (e.symm.trans h.2))
  unfold fxPart
  rw [if_neg (fun q => q h.1), if_neg (n 0 (by omega) (by omega))]
  rcases (show k = 0 ∨ k = 1 ∨ k = 2 ∨ k = 3 ∨ k = 4 by omega) with rfl | rfl | rfl | rfl | rfl
  · have e : w = fxK 1 := h.2
    rw [if_pos e]
  · have e : w = fxK 2 := h.2
    rw [if_neg (n 1 (by omega) (by omega)), if_pos e]
  · have e : w = fxK 3 := h.2
    rw [if_neg (n 1 (by omega) (by omega)), if_neg (n 2 (by omega) (by omega)), if_pos e]
  · have e : w = fxK 4 := h.2
    rw [if_neg (n 1 (by omega) (by omega)), if_neg (n 2 (by omega) (by omega)), if_neg (n 3 (by omega) (by omega)), if_pos e]
  · have e : w = fxK 5 := h.2
    rw [if_neg (n 1 (by omega) (by omega)), if_neg (n 2 (by omega) (by omega)), if_neg (n 3 (by omega) (by omega)), if_neg (n 4 (by omega) (by omega)), if_pos e]
theorem fxPart.none (h : ∀ k : Nat, k ≤ 5 → ¬ (kd = 0 ∧ w = fxK k)) : fxPart kd w td T = .inl 2 := by
  unfold fxPart
  by_cases q : kd = 0
  · rw [if_neg (fun w => w q), if_neg (fun e => h 0 (by omega) ⟨q, e⟩), if_neg (fun e => h 1 (by omega) ⟨q, e⟩), if_neg (fun e => h 2 (by omega) ⟨q, e⟩), if_neg (fun e => h 3 (by omega) ⟨q, e⟩), if_neg (fun e => h 4 (by omega) ⟨q, e⟩), if_neg (fun e => h 5 (by omega) ⟨q, e⟩)]
  · rw [if_pos q]
theorem fxMore.cond {k : Nat} (hk : 1 ≤ k ∧ k ≤ 4) (h : kd = 0 ∧ w = fxK (k + 6)) : fxMore kd w va td T cu = .inr (5, 0, td, T, (cu.1, cu.2.1, (k : Int))) := by
  have n : ∀ j, j < 11 → j ≠ k + 6 → w ≠ fxK j := fun j hj q e => q (fxK.inj j hj (k + 6) (by omega) (e.symm.trans h.2))
  unfold fxMore
  rw [if_neg (by omega), if_neg (by omega), if_neg (fun q => q h.1)]
  rcases (show k = 1 ∨ k = 2 ∨ k = 3 ∨ k = 4 by omega) with rfl | rfl | rfl | rfl
  · have e : w = fxK 7 := h.2
    rw [if_pos e]; rfl
  · have e : w = fxK 8 := h.2
    rw [if_neg (n 7 (by omega) (by omega)), if_pos e]; rfl
  · have e : w = fxK 9 := h.2
    rw [if_neg (n 7 (by omega) (by omega)), if_neg (n 8 (by omega) (by omega)), if_pos e]; rfl
  · have e : w = fxK 10 := h.2
    rw [if_neg (n 7 (by omega) (by omega)), if_neg (n 8 (by omega) (by omega)), if_neg (n 9 (by omega) (by omega)), if_pos e]; rfl
theorem fxMore.none (h1 : kd ≠ 1) (h2 : kd ≠ 2) (h : ∀ k : Nat, 7 ≤ k → k ≤ 10 → ¬ (kd = 0 ∧ w = fxK k)) : fxMore kd w va td T cu = .inl 2 := by
  unfold fxMore
  rw [if_neg h1, if_neg h2]
  by_cases q : kd = 0
  · rw [if_neg (fun w => w q), if_neg (fun e => h 7 (by omega) (by omega) ⟨q, e⟩), if_neg (fun e => h 8 (by omega) (by omega) ⟨q, e⟩), if_neg (fun e => h 9 (by omega) (by omega) ⟨q, e⟩), if_neg (fun e => h 10 (by omega) (by omega) ⟨q, e⟩)]
  · rw [if_pos q]
end
abbrev fxSt (kd : Int) (w : List Int) (va : Int) (s : fxS) : Sum Int fxS := fxStep kd w va s.1 s.2.1 s.2.2.1 s.2.2.2.1 s.2.2.2.2
theorem fxStep.va {kd : Int} {w : List Int} {va va' aw sg : Int} {td : Nat → Bool} {T : fxT} {cu : fxR} (h : kd = 1 → va = va') : fxStep kd w va aw sg td T cu = fxStep kd w va' aw sg td T cu := by
  by_cases q : kd = 1
  · rw [h q]
  · unfold fxStep fxMore
    simp only [if_neg q]
theorem fxSt.va {kd : Int} {w : List Int} {va va' : Int} {s : fxS} (h : kd = 1 → va = va') : fxSt kd w va s = fxSt kd w va' s := fxStep.va h
/-- from a place and a state to the next, over one TOKEN -/
def fxNx (B : Nat → Int) (n : Int) (a b : Int × fxS) : Prop := ∃ kd fr va : Int, fxLx B n a.1 kd fr b.1 va ∧ fxSt kd (fxW B fr b.1) va a.2 = .inr b.2
/-- where it ends: the fault (0: taken), its place -/
def fxVd (B : Nat → Int) (n : Int) (a : Int × fxS) (f pl : Int) : Prop := ∃ kd en va : Int, fxLx B n a.1 kd pl en va ∧ fxSt kd (fxW B pl en) va a.2 = .inl f
def fxGo (B : Nat → Int) (n : Int) : Nat → Int × fxS → Int × fxS → Prop
  | 0, a, b => a = b
  | k + 1, a, b => ∃ c, fxNx B n a c ∧ fxGo B n k c b
theorem fxNx.det {B : Nat → Int} {n : Int} {a b c : Int × fxS} (h0 : 0 ≤ a.1) (h : fxNx B n a b) (h' : fxNx B n a c) : b = c := by
  obtain ⟨kd, fr, va, l, s⟩ := h
  obtain ⟨kd', fr', va', l', s'⟩ := h'
  obtain ⟨e1, e2, e3, e4⟩ := l.det h0 l'
  subst e1; subst e3
  have q : b.2 = c.2 := by
    rw [e2, fxSt.va e4] at s
    exact Sum.inr.inj (s.symm.trans s')
  exact Prod.ext e2 q
theorem fxNx.vd {B : Nat → Int} {n : Int} {a b : Int × fxS} {f pl : Int} (h0 : 0 ≤ a.1) (h : fxNx B n a b) (h' : fxVd B n a f pl) : False := by
  obtain ⟨kd, fr, va, l, s⟩ := h
  obtain ⟨kd', en', va', l', s'⟩ := h'
  obtain ⟨e1, e2, e3, e4⟩ := l.det h0 l'
  subst e1; subst e3
  rw [e2, fxSt.va e4] at s
  exact Sum.inr_ne_inl (s.symm.trans s')
theorem fxVd.det {B : Nat → Int} {n : Int} {a : Int × fxS} {f pl f' pl' : Int} (h0 : 0 ≤ a.1) (h : fxVd B n a f pl) (h' : fxVd B n a f' pl') : f = f' ∧ pl = pl' := by
  obtain ⟨kd, en, va, l, s⟩ := h
  obtain ⟨kd', en', va', l', s'⟩ := h'
  obtain ⟨e1, e2, e3, e4⟩ := l.det h0 l'
  subst e1; subst e3
  rw [e2, fxSt.va e4] at s
  exact ⟨Sum.inl.inj (s.symm.trans s'), rfl⟩
theorem fxNx.fwd {B : Nat → Int} {n : Int} {a b : Int × fxS} (h : fxNx B n a b) : a.1 ≤ b.1 := by
  obtain ⟨kd, fr, va, l, _⟩ := h
  have := l.rng
  omega
theorem fxGo.det {B : Nat → Int} {n : Int} : ∀ (k k' : Nat) {a b c : Int × fxS} {f pl f' pl' : Int}, 0 ≤ a.1 → fxGo B n k a b → fxVd B n b f pl → fxGo B n k' a c → fxVd B n c f' pl' → b = c ∧ f = f' ∧ pl = pl'
  | 0, 0, a, b, c, f, pl, f', pl', h0, h, v, h', v' => by
    have e1 : a = b := h
    have e2 : a = c := h'
    subst e1; subst e2
    exact ⟨rfl, v.det h0 v'⟩
  | 0, k' + 1, a, b, c, f, pl, f', pl', h0, h, v, h', v' => by
    have e1 : a = b := h
    subst e1
    obtain ⟨d, hd, _⟩ := h'
    exact (hd.vd h0 v).elim
  | k + 1, 0, a, b, c, f, pl, f', pl', h0, h, v, h', v' => by
    have e1 : a = c := h'
    subst e1
    obtain ⟨d, hd, _⟩ := h
    exact (hd.vd h0 v').elim
  | k + 1, k' + 1, a, b, c, f, pl, f', pl', h0, h, v, h', v' => by
    obtain ⟨d, hd, g⟩ := h
    obtain ⟨d', hd', g'⟩ := h'
    have e := hd.det h0 hd'
    subst e
    have := hd.fwd
    exact fxGo.det k k' (by omega) g v g' v'
theorem fxGo.tr {B : Nat → Int} {n : Int} : ∀ (k k' : Nat) {a b c : Int × fxS}, fxGo B n k a b → fxGo B n k' b c → fxGo B n (k + k') a c
  | 0, k', a, b, c, h, h' => by
    have e : a = b := h
    subst e
    rw [Nat.zero_add]
    exact h'
  | k + 1, k', a, b, c, h, h' => by
    obtain ⟨d, hd, g⟩ := h
    rw [Nat.add_right_comm]
    exact ⟨d, hd, fxGo.tr k k' g h'⟩
/-- reached, over some TOKENS -/
def fxRe (B : Nat → Int) (n : Int) (a b : Int × fxS) : Prop := ∃ k, fxGo B n k a b
theorem fxRe.rf {B : Nat → Int} {n : Int} {a : Int × fxS} : fxRe B n a a := ⟨0, rfl⟩
theorem fxRe.st {B : Nat → Int} {n : Int} {a b c : Int × fxS} (h : fxRe B n a b) (h' : fxNx B n b c) : fxRe B n a c := by
  obtain ⟨k, g⟩ := h
  exact ⟨k + 1, fxGo.tr k 1 g ⟨c, h', rfl⟩⟩
theorem fxRe.tr {B : Nat → Int} {n : Int} {a b c : Int × fxS} (h : fxRe B n a b) (h' : fxRe B n b c) : fxRe B n a c := by
  obtain ⟨k, g⟩ := h
  obtain ⟨k', g'⟩ := h'
  exact ⟨k + k', fxGo.tr k k' g g'⟩
/-- two readings of one text end alike -/
theorem fxRe.one {B : Nat → Int} {n : Int} {a b c : Int × fxS} {f pl f' pl' : Int} (h0 : 0 ≤ a.1) (h : fxRe B n a b) (v : fxVd B n b f pl) (h' : fxRe B n a c) (v' : fxVd B n c f' pl') : b = c ∧ f = f' ∧ pl = pl' := by
  obtain ⟨k, g⟩ := h
  obtain ⟨k', g'⟩ := h'
  exact fxGo.det k k' h0 g v g' v'
