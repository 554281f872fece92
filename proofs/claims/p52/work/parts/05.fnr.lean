/-! readings of rows (behind 05.fnt) -/
def coP (c : Int) (B E : Prop) : Prop := c = 0 ∨ (B ∧ E ∧ c = 4) ∨ (B ∧ ¬ E ∧ c = 1) ∨ (¬ B ∧ E ∧ c = 3) ∨ (¬ B ∧ ¬ E ∧ c = 2)
/-- a RULE may stand in a READING of a row of m cells, from place p on -/
def rdP (D : Int32) (C CD : Nat → Int32) (L : Nat → Nat → Int32) (R Z : Nat → Int32) (m r p : Nat) : Prop :=
  outB D (nI r) = false ∧ p + (C r).toInt.toNat ≤ m ∧ (∀ k : Nat, (k : Int) < (C r).toInt → ((L r k ^^^ R (p + k)) &&& (Z (p + k) ^^^ -1)) = 0) ∧ coP (CD r).toInt (p = 0) (p + (C r).toInt.toNat = m)
/-- the sum, 999999 at most, of those that are so -/
def wsR (ok : Nat → Prop) (v : Nat → Int) : Nat → Int → Prop
  | 0, s => s = 0
  | n + 1, s => ∃ q, wsR ok v n q ∧ ((ok n ∧ s = min 999999 (q + v n)) ∨ (¬ ok n ∧ s = q))
def wyP (N m : Nat) (ok : Nat → Nat → Prop) (c : Nat → Nat) (F : Nat → Int) (lo : Nat) : Prop :=
  F m = 1 ∧ ∀ p, lo ≤ p → p < m → wsR (fun r => ok r p) (fun r => F (p + c r)) N (F p)
section Fnr
variable {ok ok' : Nat → Prop} {v v' : Nat → Int}
theorem wsR.one : ∀ {n : Nat} {s s' : Int}, wsR ok v n s → wsR ok' v' n s' → (∀ i, i < n → (ok i ↔ ok' i) ∧ (ok i → v i = v' i)) → s = s'
  | 0, s, s', h, h', _ => by
    have a : s = 0 := h
    have b : s' = 0 := h'
    rw [a, b]
  | n + 1, s, s', h, h', e => by
    obtain ⟨q, g, w⟩ := h
    obtain ⟨q', g', w'⟩ := h'
    have eq : q = q' := wsR.one g g' (fun i hi => e i (by omega))
    have en := e n (by omega)
    rcases w with ⟨a, b⟩ | ⟨a, b⟩
    · rcases w' with ⟨a', b'⟩ | ⟨a', b'⟩
      · rw [b, b', eq, en.2 a]
      · exact absurd (en.1.1 a) a'
    · rcases w' with ⟨a', b'⟩ | ⟨a', b'⟩
      · exact absurd (en.1.2 a') a
      · rw [b, b', eq]
theorem wsR.rng : ∀ {n : Nat} {s : Int}, wsR ok v n s → (∀ i, i < n → ok i → 0 ≤ v i) → 0 ≤ s ∧ s ≤ 999999
  | 0, s, h, _ => by
    have a : s = 0 := h
    omega
  | n + 1, s, h, e => by
    obtain ⟨q, g, w⟩ := h
    have r := wsR.rng g (fun i hi => e i (by omega))
    rcases w with ⟨a, b⟩ | ⟨a, b⟩
    · have := e n (by omega) a
      omega
    · omega
theorem wsR.yes {n : Nat} {q s : Int} (h : wsR ok v n q) (a : ok n) (b : s = min 999999 (q + v n)) : wsR ok v (n + 1) s := ⟨q, h, Or.inl ⟨a, b⟩⟩
theorem wsR.no {n : Nat} {q s : Int} (h : wsR ok v n q) (a : ¬ ok n) (b : s = q) : wsR ok v (n + 1) s := ⟨q, h, Or.inr ⟨a, b⟩⟩
/-- what adds nothing may be left out -/
theorem wsR.skip {n : Nat} {q s : Int} (h : wsR ok v n q) (hr : 0 ≤ q ∧ q ≤ 999999) (a : ¬ (ok n ∧ v n ≠ 0)) (b : s = q) : wsR ok v (n + 1) s := by
  by_cases o : ok n
  · have z : v n = 0 := by
      by_cases w : v n = 0
      · exact w
      · exact absurd ⟨o, w⟩ a
    exact ⟨q, h, Or.inl ⟨o, by rw [b, z]; omega⟩⟩
  · exact ⟨q, h, Or.inr ⟨o, b⟩⟩
theorem wsR.congr : ∀ {n : Nat} {s : Int}, wsR ok v n s → (∀ i, i < n → (ok i ↔ ok' i) ∧ (ok i → v i = v' i)) → wsR ok' v' n s
  | 0, _, h, _ => h
  | n + 1, s, h, e => by
    obtain ⟨q, g, w⟩ := h
    have en := e n (by omega)
    refine ⟨q, wsR.congr g (fun i hi => e i (by omega)), ?_⟩
    rcases w with ⟨a, b⟩ | ⟨a, b⟩
    · exact Or.inl ⟨en.1.1 a, by rw [b, en.2 a]⟩
    · exact Or.inr ⟨fun q9 => a (en.1.2 q9), b⟩
theorem wyP.one {N m : Nat} {ok ok' : Nat → Nat → Prop} {c c' : Nat → Nat} {F F' : Nat → Int} (h : wyP N m ok c F 0) (h' : wyP N m ok' c' F' 0) (e : ∀ r p, r < N → p < m → (ok r p ↔ ok' r p) ∧ (ok r p → c r = c' r ∧ 1 ≤ c r ∧ p + c r ≤ m)) : ∀ n p : Nat, p ≤ m → m - p ≤ n → F p = F' p
  | 0, p, hp, hn => by
    have : p = m := by omega
    rw [this, h.1, h'.1]
  | n + 1, p, hp, hn => by
    by_cases q : p = m
    · rw [q, h.1, h'.1]
    · refine wsR.one (h.2 p (Nat.zero_le _) (by omega)) (h'.2 p (Nat.zero_le _) (by omega)) (fun r hr => ?_)
      have w := e r p hr (by omega)
      refine ⟨w.1, fun o => ?_⟩
      obtain ⟨w1, w2, w3⟩ := w.2 o
      show F (p + c r) = F' (p + c' r)
      rw [← w1]
      exact wyP.one h h' e n (p + c r) w3 (by omega)
theorem rdP.im {D : Int32} {C C' CD CD' : Nat → Int32} {L L' : Nat → Nat → Int32} {R R' Z Z' : Nat → Int32} {m r p : Nat} (eC : C r = C' r) (eD : CD r = CD' r) (eL : ∀ k : Nat, (k : Int) < (C r).toInt → L r k = L' r k) (eR : ∀ k, k < m → R k = R' k) (eZ : ∀ k, k < m → Z k = Z' k) (h : rdP D C CD L R Z m r p) : rdP D C' CD' L' R' Z' m r p := by
  obtain ⟨a, b, c, d⟩ := h
  refine ⟨a, by rw [← eC]; exact b, fun k hk => ?_, by rw [← eC, ← eD]; exact d⟩
  rw [← eC] at hk
  rw [← eL k hk, ← eR (p + k) (by omega), ← eZ (p + k) (by omega)]
  exact c k hk
/-- the FIRST READING, from a place on -/
def fsR (G : Nat → Nat → Prop) (c : Nat → Nat) (m : Nat) : Nat → List Nat → Prop
  | p, [] => p = m
  | p, r :: l => p < m ∧ G r p ∧ (∀ i, i < r → ¬ G i p) ∧ fsR G c m (p + c r) l
theorem fsR.one {G G' : Nat → Nat → Prop} {c c' : Nat → Nat} {m N : Nat} (e : ∀ r p, r < N → p < m → (G r p ↔ G' r p) ∧ c r = c' r) : ∀ {l l' : List Nat} {p : Nat}, fsR G c m p l → fsR G' c' m p l' → (∀ r ∈ l, r < N) → (∀ r ∈ l', r < N) → l = l'
  | [], [], _, _, _, _, _ => rfl
  | [], r :: l', p, h, h', _, _ => by
    have a : p = m := h
    have b : p < m := h'.1
    omega
  | r :: l, [], p, h, h', _, _ => by
    have a : p = m := h'
    have b : p < m := h.1
    omega
  | r :: l, r' :: l', p, h, h', n, n' => by
    obtain ⟨a, b, g, w⟩ := h
    obtain ⟨a', b', g', w'⟩ := h'
    have nr := n r (List.mem_cons_self ..)
    have nr' := n' r' (List.mem_cons_self ..)
    have er : r = r' := by
      rcases Nat.lt_trichotomy r r' with q | q | q
      · exact absurd ((e r p nr a).1.1 b) (g' r q)
      · exact q
      · exact absurd ((e r' p nr' a).1.2 b') (g r' q)
    subst er
    rw [(e r p nr a).2] at w
    rw [fsR.one e w w' (fun x hx => n x (List.mem_cons_of_mem _ hx)) (fun x hx => n' x (List.mem_cons_of_mem _ hx))]
theorem coP.cg {x : Int} {B B' E E' : Prop} (h : coP x B E) (hB : B ↔ B') (hE : E ↔ E') : coP x B' E' := by
  have e1 := propext hB
  have e2 := propext hE
  subst e1
  subst e2
  exact h
def okC (t w : Nat → Nat → Int32) (m r p : Nat) : Prop := rdP (t 0 1) (cC t) (t 4) (cL t) (w 2) (w 3) m r p
def cN (t : Nat → Nat → Int32) (r : Nat) : Nat := (t 3 r).toInt.toNat
def HY (t : Nat → Nat → Int32) : Prop := ∀ r : Nat, (r : Int) < (t 0 0).toInt → 1 ≤ (t 3 r).toInt
def WB (w : Nat → Nat → Int32) : Prop := ∀ j : Nat, 0 ≤ (w 4 j).toInt ∧ (w 4 j).toInt ≤ 999999
def gC (t w : Nat → Nat → Int32) (r p : Nat) : Prop := okC t w (w 0 5).toInt.toNat r p ∧ (w 4 (p + cN t r)).toInt ≠ 0
theorem gC.of {t w w' : Nat → Nat → Int32} {r p : Nat} (h : gC t w r p) (e2 : w' 2 = w 2) (e3 : w' 3 = w 3) (e4 : w' 4 = w 4) (e5 : w' 0 5 = w 0 5) : gC t w' r p := by
  unfold gC okC at h ⊢
  rw [e2, e3, e4, e5]
  exact h
theorem upd_at_ {f : Nat → Int32} {k j : Nat} {x : Int32} (h : j = k) : upd f k x j = x := by subst h; simp [upd]
theorem WB.up {w w' : Nat → Nat → Int32} {i v : Int32} (h : WB w) (e : w' 4 = upd (w 4) i.toNatClampNeg v) (hv : 0 ≤ v.toInt ∧ v.toInt ≤ 999999) : WB w' := fun j => by
  rw [e]
  by_cases q : j = i.toNatClampNeg
  · rw [upd_at_ q]; exact hv
  · rw [pk_un q]; exact h j
/-- one place more -/
theorem wyP.st {t w : Nat → Nat → Int32} {N m : Nat} {ok : Nat → Nat → Prop} {f : Nat → Int32} {x s : Int32} {p q : Int} (h : wyP N m ok (cN t) (fun j => (w 4 j).toInt) (p + 1).toNat) (hc : ∀ r : Nat, r < N → 1 ≤ (t 3 r).toInt) (e : f = upd (w 4) x.toNatClampNeg s) (hx : x.toInt = p) (hp : 0 ≤ p ∧ p < m) (hq : q + 1 = p) (hs : wsR (fun r => ok r p.toNat) (fun r => (w 4 (p.toNat + cN t r)).toInt) N s.toInt) : wyP N m ok (cN t) (fun j => (uR w 4 f 4 j).toInt) (q + 1).toNat := by
  have ix : x.toNatClampNeg = p.toNat := by have := t_cl (i := x) hx hp.1; omega
  have ef : uR w 4 f 4 = f := by unfold uR; rw [if_pos rfl]
  have g : ∀ j : Nat, p.toNat < j → (uR w 4 f 4 j).toInt = (w 4 j).toInt := fun j hj => by rw [ef, e, ix, pk_un (by omega)]
  refine ⟨by show (uR w 4 f 4 m).toInt = 1; rw [g m (by omega)]; exact h.1, fun j h1 h2 => ?_⟩
  by_cases z : j = p.toNat
  · subst z
    show wsR _ _ N (uR w 4 f 4 p.toNat).toInt
    have ew : uR w 4 f 4 p.toNat = s := by rw [ef, e, ix, upd_at_ rfl]
    rw [ew]
    refine wsR.congr hs (fun r hr => ⟨Iff.rfl, fun _ => ?_⟩)
    have := hc r hr
    exact (g _ (by unfold cN; omega)).symm
  · show wsR _ _ N (uR w 4 f 4 j).toInt
    rw [g j (by omega)]
    refine wsR.congr (h.2 j (by omega) h2) (fun r hr => ⟨Iff.rfl, fun _ => ?_⟩)
    have := hc r hr
    exact (g _ (by unfold cN; omega)).symm
theorem wsR.ne : ∀ {n : Nat} {s : Int}, wsR ok v n s → (∀ i, i < n → ok i → 0 ≤ v i) → s ≠ 0 → ∃ i, i < n ∧ ok i ∧ v i ≠ 0
  | 0, s, h, _, h0 => absurd (show s = 0 from h) h0
  | n + 1, s, h, e, h0 => by
    obtain ⟨q, g, w⟩ := h
    rcases w with ⟨a, b⟩ | ⟨a, b⟩
    · by_cases z : v n = 0
      · have hq : q ≠ 0 := fun q0 => h0 (by rw [b, q0, z]; decide)
        obtain ⟨i, h1, h2, h3⟩ := wsR.ne g (fun i hi => e i (by omega)) hq
        exact ⟨i, by omega, h2, h3⟩
      · exact ⟨n, by omega, a, z⟩
    · obtain ⟨i, h1, h2, h3⟩ := wsR.ne g (fun i hi => e i (by omega)) (by rw [← b]; exact h0)
      exact ⟨i, by omega, h2, h3⟩
/-- where there are READINGS, a RULE goes on -/
theorem wyP.ex {N m : Nat} {ok : Nat → Nat → Prop} {c : Nat → Nat} {F : Nat → Int} {p : Nat} (h : wyP N m ok c F 0) (hF : ∀ j, 0 ≤ F j) (hp : p < m) (h0 : F p ≠ 0) : ∃ r, r < N ∧ ok r p ∧ F (p + c r) ≠ 0 :=
  wsR.ne (h.2 p (Nat.zero_le _) hp) (fun _ _ _ => hF _) h0
/-- the RULES found so far, from a place to another -/
def fpR (G : Nat → Nat → Prop) (c : Nat → Nat) (m : Nat) : Nat → List Nat → Nat → Prop
  | p, [], q => p = q
  | p, r :: l, q => p < m ∧ G r p ∧ (∀ i, i < r → ¬ G i p) ∧ fpR G c m (p + c r) l q
theorem fpR.fs {G : Nat → Nat → Prop} {c : Nat → Nat} {m : Nat} : ∀ {l : List Nat} {p : Nat}, fpR G c m p l m → fsR G c m p l
  | [], _, h => h
  | _ :: _, _, h => ⟨h.1, h.2.1, h.2.2.1, fpR.fs h.2.2.2⟩
theorem fpR.sn {G : Nat → Nat → Prop} {c : Nat → Nat} {m r : Nat} : ∀ {l : List Nat} {p q : Nat}, fpR G c m p l q → q < m → G r q → (∀ i, i < r → ¬ G i q) → fpR G c m p (l ++ [r]) (q + c r)
  | [], p, q, h, a, b, d => by
    have e : p = q := h
    subst e
    exact ⟨a, b, d, rfl⟩
  | _ :: _, _, _, h, a, b, d => ⟨h.1, h.2.1, h.2.2.1, fpR.sn h.2.2.2 a b d⟩
def lsm (f : Nat → Int) : List Nat → Int
  | [] => 0
  | r :: l => f r + lsm f l
theorem lsm.sn {f : Nat → Int} {r : Nat} : ∀ l : List Nat, lsm f (l ++ [r]) = lsm f l + f r
  | [] => by show f r + 0 = 0 + f r; omega
  | a :: l => by show f a + lsm f (l ++ [r]) = f a + lsm f l + f r; rw [lsm.sn l]; omega
theorem lsm.cg {f f' : Nat → Int} : ∀ l : List Nat, (∀ r ∈ l, f r = f' r) → lsm f l = lsm f' l
  | [], _ => rfl
  | a :: l, h => by show f a + lsm f l = f' a + lsm f' l; rw [h a (List.mem_cons_self ..), lsm.cg l (fun r hr => h r (List.mem_cons_of_mem _ hr))]
def fiP (G : Nat → Nat → Prop) (c : Nat → Nat) (f : Nat → Int) (m N : Nat) (W : Nat → Int32) (n s : Int32) (q : Nat) : Prop :=
  ∃ l : List Nat, fpR G c m 0 l q ∧ (∀ r ∈ l, r < N) ∧ n.toInt = (l.length : Int) ∧ (∀ k, k < l.length → (W k).toInt = ((l.getD k 0 : Nat) : Int)) ∧ s.toInt = lsm f l
theorem fiP.in {G : Nat → Nat → Prop} {c : Nat → Nat} {f : Nat → Int} {m N : Nat} {W : Nat → Int32} {n s : Int32} (hn : n.toInt = 0) (hs : s.toInt = 0) : fiP G c f m N W n s 0 :=
  ⟨[], rfl, fun _ h => absurd h (List.not_mem_nil), hn, fun k hk => absurd hk (Nat.not_lt_zero k), hs⟩
theorem fiP.st {G : Nat → Nat → Prop} {c : Nat → Nat} {f : Nat → Int} {m N q r q2 : Nat} {W W' : Nat → Int32} {n s n' s' i x : Int32} (h : fiP G c f m N W n s q) (hq : q < m) (hG : G r q) (hm : ∀ j, j < r → ¬ G j q) (hr : r < N) (e : W' = upd W i.toNatClampNeg x) (hi : i.toInt = n.toInt) (hx : x.toInt = (r : Int)) (hn : n'.toInt = n.toInt + 1) (hs : s'.toInt = s.toInt + f r) (h2 : q2 = q + c r) : fiP G c f m N W' n' s' q2 := by
  obtain ⟨l, a, b, d, g, z⟩ := h
  have ic := t_cl (i := i) hi (by omega)
  subst h2
  refine ⟨l ++ [r], a.sn hq hG hm, fun j hj => ?_, ?_, fun k hk => ?_, by rw [hs, lsm.sn, z]⟩
  · rcases List.mem_append.1 hj with w | w
    · exact b j w
    · rw [List.mem_singleton.1 w]; exact hr
  · rw [hn, d, List.length_append, List.length_singleton]; omega
  · rw [List.length_append, List.length_singleton] at hk
    rw [e, List.getD_eq_getElem?_getD]
    by_cases w : k < l.length
    · rw [pk_un (by omega), List.getElem?_append_left w, g k w, List.getD_eq_getElem?_getD]
    · rw [upd_at_ (by omega), List.getElem?_append_right (by omega), show k - l.length = 0 by omega, hx]
      rfl
theorem fiP.one {G G' : Nat → Nat → Prop} {c c' : Nat → Nat} {f f' : Nat → Int} {m N : Nat} {W W' : Nat → Int32} {n s n' s' : Int32} (h : fiP G c f m N W n s m) (h' : fiP G' c' f' m N W' n' s' m) (e : ∀ r p, r < N → p < m → (G r p ↔ G' r p) ∧ c r = c' r) (ef : ∀ r, r < N → f r = f' r) : n = n' ∧ s = s' ∧ ∀ k : Nat, (k : Int) < n.toInt → W k = W' k := by
  obtain ⟨l, a, b, d, g, z⟩ := h
  obtain ⟨l', a', b', d', g', z'⟩ := h'
  have q : l = l' := fsR.one e a.fs a'.fs b b'
  subst q
  refine ⟨Int32.toInt_inj.mp (by rw [d, d']), Int32.toInt_inj.mp (by rw [z, z']; exact lsm.cg l (fun r hr => ef r (b r hr))), fun k hk => Int32.toInt_inj.mp ?_⟩
  rw [g k (by omega), g' k (by omega)]
theorem fiP.pos {G : Nat → Nat → Prop} {c : Nat → Nat} {f : Nat → Int} {m N : Nat} {W : Nat → Int32} {n s : Int32} (h : fiP G c f m N W n s m) (hm : 0 < m) : 1 ≤ n.toInt := by
  obtain ⟨l, a, b, d, g, z⟩ := h
  cases l with
  | nil =>
    have w : 0 = m := a
    omega
  | cons r l => rw [d, List.length_cons]; omega
/-! numbers of a TRAY that are a ROW -/
def okRow (S : Nat → Int32) (J : Nat → Int64) (t n : Int32) (least : Int) : Prop := ((0 ≤ t.toInt ∧ t.toInt < 4) ∧ 1 ≤ n.toInt ∧ n.toInt ≤ 20) ∧ n.toInt ≤ (S t.toNatClampNeg).toInt ∧ ∀ k : Nat, (k : Int) < n.toInt → least ≤ (J (t.toInt * 60 + (k : Int)).toNat).toInt ∧ (J (t.toInt * 60 + (k : Int)).toNat).toInt ≤ 63
def rowP (J : Nat → Int64) (t d : Int) (R Z : Nat → Int32) (m : Int) : Prop := ∀ k : Nat, (k : Int) < m → R k = (J (t * 60 + (k : Int)).toNat).toInt32 ∧ Z k = if d = -1 then 0 else (J (d * 60 + (k : Int)).toNat).toInt32
theorem rowP.st {J : Nat → Int64} {t d v v2 : Int} {R Z R' Z' : Nat → Int32} {k cell failed : Int32} (h : rowP J t d R Z v) (e2 : R' = upd R k.toNatClampNeg cell) (e3 : Z' = upd Z k.toNatClampNeg failed) (hk : k.toInt = v) (hv : 0 ≤ v) (h2 : v2 = v + 1) (hc : cell = (J (t * 60 + v).toNat).toInt32) (hf : failed = if d = -1 then 0 else (J (d * 60 + v).toNat).toInt32) : rowP J t d R' Z' v2 := fun j hj => by
  have ic := t_cl (i := k) hk hv
  rw [e2, e3]
  by_cases w : j = k.toNatClampNeg
  · rw [upd_at_ w, upd_at_ w, hc, hf, show (j : Int) = v by omega]
    exact ⟨rfl, rfl⟩
  · rw [pk_un w, pk_un w]
    exact h j (by omega)
theorem rowP.zero {J : Nat → Int64} {t d v : Int} {R Z : Nat → Int32} (h : v ≤ 0) : rowP J t d R Z v := fun j hj => by
  exfalso
  omega
def frW (w w' : Nat → Nat → Int32) : Prop := w' 1 = w 1 ∧ w' 0 0 = w 0 0 ∧ w' 0 1 = w 0 1
theorem frW.rf (w : Nat → Nat → Int32) : frW w w := ⟨rfl, rfl, rfl⟩
theorem frW.tr {w w' w2 : Nat → Nat → Int32} (h : frW w w') (h2 : frW w' w2) : frW w w2 := ⟨h2.1.trans h.1, h2.2.1.trans h.2.1, h2.2.2.trans h.2.2⟩
def frT (w w' : Nat → Nat → Int32) : Prop := w' 1 = w 1 ∧ w' 2 = w 2 ∧ w' 3 = w 3 ∧ w' 4 = w 4
theorem frT.rf (w : Nat → Nat → Int32) : frT w w := ⟨rfl, rfl, rfl, rfl⟩
theorem frT.tr {w w' w2 : Nat → Nat → Int32} (h : frT w w') (h2 : frT w' w2) : frT w w2 := ⟨h2.1.trans h.1, h2.2.1.trans h.2.1, h2.2.2.1.trans h.2.2.1, h2.2.2.2.trans h.2.2.2⟩
def cntP (t w : Nat → Nat → Int32) (n : Int32) : Prop := w 0 5 = n ∧ wyP (t 0 0).toInt.toNat n.toInt.toNat (okC t w n.toInt.toNat) (cN t) (fun j => (w 4 j).toInt) 0
theorem okC.of {t w w' : Nat → Nat → Int32} {m : Nat} (e2 : w' 2 = w 2) (e3 : w' 3 = w 3) : okC t w' m = okC t w m := by
  funext r p
  unfold okC
  rw [e2, e3]
def fsC (t w w' : Nat → Nat → Int32) (n : Int32) : Prop := fiP (gC t w) (cN t) (fun r => (t 2 r).toInt) n.toInt.toNat (t 0 0).toInt.toNat (w' 1) (w' 0 0) (w' 0 1) n.toInt.toNat
theorem cntP.of {t w w' : Nat → Nat → Int32} {n : Int32} (h : cntP t w n) (e2 : w' 2 = w 2) (e3 : w' 3 = w 3) (e4 : w' 4 = w 4) (e5 : w' 0 5 = w 0 5) : cntP t w' n := by
  refine ⟨e5.trans h.1, ?_⟩
  rw [okC.of e2 e3, e4]
  exact h.2
theorem gC.eq {t w w' : Nat → Nat → Int32} (e2 : w' 2 = w 2) (e3 : w' 3 = w 3) (e4 : w' 4 = w 4) (e5 : w' 0 5 = w 0 5) : gC t w' = gC t w := by
  funext r p
  unfold gC okC
  rw [e2, e3, e4, e5]
theorem fsC.of {t w w' : Nat → Nat → Int32} {n : Int32} (h : fsC t w w' n) (e2 : w' 2 = w 2) (e3 : w' 3 = w 3) (e4 : w' 4 = w 4) (e5 : w' 0 5 = w 0 5) : fsC t w' w' n := by
  unfold fsC at h ⊢
  rw [gC.eq e2 e3 e4 e5]
  exact h
theorem cw_lt {x y : Int64} {l z : Int32} (ey : y = l.toInt64) (e : z = lg_cmp x y) (h : z.toInt < 0) : x.toInt < l.toInt := by
  have q : lg_cmp x y < 0 := by rw [← e]; exact Int32.lt_iff_toInt_lt.mpr h
  have w := Int64.lt_iff_toInt_lt.mp ((lg_cmp_lt x y).mp q)
  rw [ey, Int32.toInt_toInt64] at w
  exact w
theorem cw_nlt {x y : Int64} {l z : Int32} (ey : y = l.toInt64) (e : z = lg_cmp x y) (h : 0 ≤ z.toInt) : l.toInt ≤ x.toInt := by
  have q : 0 ≤ lg_cmp x y := by rw [← e]; exact Int32.le_iff_toInt_le.mpr h
  have w := Int64.le_iff_toInt_le.mp ((lg_cmp_ge x y).mp q)
  rw [ey, Int32.toInt_toInt64] at w
  exact w
theorem cw_gt {x : Int64} {z : Int32} (e : z = lg_cmp x 63) (h : 0 < z.toInt) : 63 < x.toInt := by
  have q : 0 < lg_cmp x 63 := by rw [← e]; exact Int32.lt_iff_toInt_lt.mpr h
  exact Int64.lt_iff_toInt_lt.mp ((lg_cmp_gt x 63).mp q)
theorem cw_ngt {x : Int64} {z : Int32} (e : z = lg_cmp x 63) (h : z.toInt ≤ 0) : x.toInt ≤ 63 := by
  have q : lg_cmp x 63 ≤ 0 := by rw [← e]; exact Int32.le_iff_toInt_le.mpr h
  exact Int64.le_iff_toInt_le.mp ((lg_cmp_le x 63).mp q)
end Fnr
