/-! answers from the table alone (behind 05.fnq) -/
def cC (t : Nat → Nat → Int32) (r : Nat) : Int32 := t 3 r
def cL (t : Nat → Nat → Int32) (r k : Nat) : Int32 := t 6 (3 * r + k)
def mC (A : Nat → Int32) (r : Nat) : Int32 := A (12 * r + 19)
def mL (A : Nat → Int32) (r k : Nat) : Int32 := A (12 * r + (20 + k))
def mirO (c : Int32) : Int32 := ((c &&& 7) <<< ((3 : Int32) &&& 31)) ||| (c >>> ((3 : Int32) &&& 31))
theorem mirO.m (c : Int32) : (c >>> ((3 : Int32) &&& 31)) ||| ((c &&& 7) <<< ((3 : Int32) &&& 31)) = mirO c := by
  apply b_ext
  intro i _
  unfold mirO
  rw [b_or, b_or, Bool.or_comm]
def tbMir (C : Nat → Int32) (L : Nat → Nat → Int32) (a b : Nat) : Prop := (C a).toInt = (C b).toInt ∧ ∀ k : Nat, (k : Int) < (C a).toInt → mirO (L a k) = L b k
def begB (C : Nat → Int32) (L : Nat → Nat → Int32) (a b : Nat) : Bool := decide ((C a).toInt ≤ (C b).toInt) && (List.range (C a).toInt.toNat).all (fun k => decide (L a k = L b k))
def outB (gone rule : Int32) : Bool := decide (((gone >>> (rule &&& 31)) &&& 1).toInt = 1)
def tbEq (n : Int) (C C' : Nat → Int32) (L L' : Nat → Nat → Int32) : Prop := ∀ r : Nat, (r : Int) < n → C r = C' r ∧ ∀ k : Nat, (k : Int) < (C r).toInt → L r k = L' r k
section Fnt
variable {C C' : Nat → Int32} {L L' : Nat → Nat → Int32} {a b : Nat} {n : Int} {I : Nat → Nat → Int32}
theorem tbEq.sy (h : tbEq n C C' L L') : tbEq n C' C L' L := fun r hr => ⟨(h r hr).1.symm, fun k hk => ((h r hr).2 k (by rw [(h r hr).1]; exact hk)).symm⟩
theorem tbMir.im (h : tbEq n C C' L L') (ha : (a : Int) < n) (hb : (b : Int) < n) (q : tbMir C L a b) : tbMir C' L' a b := by
  obtain ⟨ea, fa⟩ := h a ha
  obtain ⟨eb, fb⟩ := h b hb
  obtain ⟨p, q⟩ := q
  refine ⟨by rw [← ea, ← eb]; exact p, fun k hk => ?_⟩
  rw [← ea] at hk
  rw [← fa k hk, ← fb k (by omega)]
  exact q k hk
theorem tbMir.eq (h : tbEq n C C' L L') (ha : (a : Int) < n) (hb : (b : Int) < n) : tbMir C L a b ↔ tbMir C' L' a b := ⟨fun q => q.im h ha hb, fun q => q.im h.sy ha hb⟩
theorem begB.iff : begB C L a b = true ↔ (C a).toInt ≤ (C b).toInt ∧ ∀ k : Nat, (k : Int) < (C a).toInt → L a k = L b k := by
  unfold begB
  rw [Bool.and_eq_true, decide_eq_true_eq, List.all_eq_true]
  constructor
  · rintro ⟨p, q⟩
    exact ⟨p, fun k hk => of_decide_eq_true (q k (List.mem_range.2 (by omega)))⟩
  · rintro ⟨p, q⟩
    exact ⟨p, fun k hk => decide_eq_true (q k (by have := List.mem_range.1 hk; omega))⟩
theorem begB.t (h1 : (C a).toInt ≤ (C b).toInt) (h2 : ∀ k : Nat, (k : Int) < (C a).toInt → L a k = L b k) : begB C L a b = true := begB.iff.2 ⟨h1, h2⟩
theorem begB.f1 (h : ¬ (C a).toInt ≤ (C b).toInt) : begB C L a b = false := by
  cases w : begB C L a b with
  | false => rfl
  | true => exact absurd (begB.iff.1 w).1 h
theorem begB.f2 (k : Nat) (hk : (k : Int) < (C a).toInt) (h : ¬ L a k = L b k) : begB C L a b = false := by
  cases w : begB C L a b with
  | false => rfl
  | true => exact absurd ((begB.iff.1 w).2 k hk) h
theorem begB.im (h : tbEq n C C' L L') (ha : (a : Int) < n) (hb : (b : Int) < n) (q : begB C L a b = true) : begB C' L' a b = true := by
  obtain ⟨ea, fa⟩ := h a ha
  obtain ⟨eb, fb⟩ := h b hb
  obtain ⟨p, q⟩ := begB.iff.1 q
  refine begB.t (by rw [← ea, ← eb]; exact p) (fun k hk => ?_)
  rw [← ea] at hk
  rw [← fa k hk, ← fb k (by omega)]
  exact q k hk
theorem begB.eq (h : tbEq n C C' L L') (ha : (a : Int) < n) (hb : (b : Int) < n) : begB C L a b = begB C' L' a b := by
  cases w : begB C L a b with
  | true => exact (begB.im h ha hb w).symm
  | false =>
    cases w' : begB C' L' a b with
    | false => rfl
    | true => exact absurd ((begB.im h.sy ha hb w').symm.trans w) (by decide)
theorem tq_ext {P : Nat → Prop} {v v2 : Int} (h : ∀ k : Nat, (k : Int) < v → P k) (h0 : 0 ≤ v) (h2 : v2 = v + 1) (hp : P v.toNat) (k : Nat) (hk : (k : Int) < v2) : P k := by
  by_cases w : (k : Int) < v
  · exact h k w
  · rw [show k = v.toNat by omega]; exact hp
theorem tq_cl {ra k z : Int32} (h : z = I 6 (ra.toInt * 3 + k.toInt).toNat) (h0 : 0 ≤ ra.toInt) (h1 : 0 ≤ k.toInt) : cL I ra.toInt.toNat k.toInt.toNat = z := by
  rw [h]
  unfold cL
  congr 1
  omega
/-- the first that is so -/
def tbFst (P : Nat → Prop) (n : Int) (r : Int32) : Prop := (∃ j : Nat, (j : Int) < n ∧ P j ∧ (∀ i : Nat, i < j → ¬ P i) ∧ r.toInt = (j : Int)) ∨ ((∀ i : Nat, (i : Int) < n → ¬ P i) ∧ r = -1)
theorem tbFst.one {P P' : Nat → Prop} {r z : Int32} (h : tbFst P n r) (h' : tbFst P' n z) (e : ∀ j : Nat, (j : Int) < n → (P j ↔ P' j)) : r = z := by
  rcases h with ⟨j, a, b, c, d⟩ | ⟨a, b⟩
  · rcases h' with ⟨j', a', b', c', d'⟩ | ⟨a', b'⟩
    · rcases Nat.lt_trichotomy j j' with w | w | w
      · exact absurd ((e j a).1 b) (c' j w)
      · exact Int32.toInt_inj.mp (by rw [d, d', w])
      · exact absurd ((e j' a').2 b') (c j' w)
    · exact absurd ((e j a).1 b) (a' j a)
  · rcases h' with ⟨j', a', b', c', d'⟩ | ⟨a', b'⟩
    · exact absurd ((e j' a').2 b') (a j' a')
    · rw [b, b']
/-- sums -/
def bI (q : Bool) : Int := if q = true then 1 else 0
theorem bI.t {q : Bool} (h : q = true) : bI q = 1 := by rw [h]; rfl
theorem bI.f {q : Bool} (h : q = false) : bI q = 0 := by rw [h]; rfl
theorem bI.rng (q : Bool) : 0 ≤ bI q ∧ bI q ≤ 1 := by cases q <;> decide
def sumN (f : Nat → Int) : Nat → Int
  | 0 => 0
  | n + 1 => sumN f n + f n
theorem sumN.congr {f g : Nat → Int} : ∀ n, (∀ i, i < n → f i = g i) → sumN f n = sumN g n
  | 0, _ => rfl
  | n + 1, h => by rw [sumN, sumN, sumN.congr n (fun i hi => h i (by omega)), h n (by omega)]
theorem sumN.zero {f : Nat → Int} : ∀ n, (∀ i, i < n → f i = 0) → sumN f n = 0
  | 0, _ => rfl
  | n + 1, h => by rw [sumN, sumN.zero n (fun i hi => h i (by omega)), h n (by omega)]; rfl
theorem sumN.add {f g : Nat → Int} : ∀ n, sumN f n + sumN g n = sumN (fun i => f i + g i) n
  | 0 => rfl
  | n + 1 => by
    have q := sumN.add (f := f) (g := g) n
    rw [sumN, sumN, sumN, ← q]
    omega
theorem sumN.swap {f : Nat → Nat → Int} (m : Nat) : ∀ n, sumN (fun i => sumN (f i) m) n = sumN (fun j => sumN (fun i => f i j) n) m
  | 0 => (sumN.zero m (fun _ _ => rfl)).symm
  | n + 1 => by
    rw [sumN, sumN.swap m n, sumN.add]
    exact sumN.congr m (fun j _ => rfl)
theorem sumN.rng {f : Nat → Int} {B : Int} (h : ∀ i, 0 ≤ f i ∧ f i ≤ B) : ∀ n : Nat, 0 ≤ sumN f n ∧ sumN f n ≤ B * n
  | 0 => by rw [sumN]; exact ⟨Int.le_refl _, by simp⟩
  | n + 1 => by
    have q := sumN.rng h n
    have w := h n
    rw [sumN, Int.natCast_add, Int.mul_add]
    simp only [Int.natCast_one, Int.mul_one]
    omega
def tbQ (D : Int32) (C : Nat → Int32) (L : Nat → Nat → Int32) (i j : Nat) : Bool := ((!outB D (nI i)) && (!outB D (nI j))) && (begB C L i j && begB C L j i)
def twR (D : Int32) (C : Nat → Int32) (L : Nat → Nat → Int32) (n i : Nat) : Int := sumN (fun j => bI (decide (i < j) && tbQ D C L i j)) n
def tmR (D : Int32) (C : Nat → Int32) (L : Nat → Nat → Int32) (n i : Nat) : Int := sumN (fun j => bI (decide (j < i) && tbQ D C L i j)) n
theorem tbQ.sy {D : Int32} {i j : Nat} : tbQ D C L i j = tbQ D C L j i := by
  unfold tbQ
  rw [Bool.and_comm (!outB D (nI i)), Bool.and_comm (begB C L i j)]
theorem tbQ.eq {D : Int32} {i j : Nat} (h : tbEq n C C' L L') (hi : (i : Int) < n) (hj : (j : Int) < n) : tbQ D C L i j = tbQ D C' L' i j := by
  unfold tbQ
  rw [begB.eq h hi hj, begB.eq h hj hi]
theorem tw_eq {D : Int32} {N : Nat} (h : tbEq N C C' L L') : sumN (twR D C L N) N = sumN (tmR D C' L' N) N := by
  show sumN (fun i => sumN (fun j => bI (decide (i < j) && tbQ D C L i j)) N) N = _
  rw [sumN.swap N N]
  refine sumN.congr N (fun j hj => sumN.congr N (fun i hi => ?_))
  show bI (decide (i < j) && tbQ D C L i j) = bI (decide (i < j) && tbQ D C' L' j i)
  rw [tbQ.sy, tbQ.eq h (by omega) (by omega)]
theorem tw_lo {D : Int32} {i m : Nat} (h : m ≤ i + 1) : twR D C L m i = 0 := sumN.zero m (fun j hj => bI.f (by rw [decide_eq_false (by omega)]; rfl))
theorem tm_hi {D : Int32} {i : Nat} : ∀ m : Nat, i ≤ m → tmR D C L m i = tmR D C L i i
  | 0, h => by rw [show i = 0 by omega]
  | m + 1, h => by
    by_cases q : i = m + 1
    · rw [q]
    · show tmR D C L m i + bI (decide (m < i) && tbQ D C L i m) = _
      rw [bI.f (by rw [decide_eq_false (by omega)]; rfl), Int.add_zero]
      exact tm_hi m (by omega)
def clQ (D : Int32) (C : Nat → Int32) (L : Nat → Nat → Int32) (i j : Nat) : Bool := (!decide (i = j)) && (((!outB D (nI i)) && (!outB D (nI j))) && begB C L i j)
def clR (D : Int32) (C : Nat → Int32) (L : Nat → Nat → Int32) (n i : Nat) : Int := sumN (fun j => bI (clQ D C L i j)) n
theorem cl_eq {D : Int32} {N : Nat} (h : tbEq N C C' L L') : sumN (clR D C L N) N = sumN (clR D C' L' N) N := by
  refine sumN.congr N (fun i hi => sumN.congr N (fun j hj => ?_))
  show bI (clQ D C L i j) = bI (clQ D C' L' i j)
  unfold clQ
  rw [begB.eq h (by omega) (by omega)]
/-- dots -/
def popI (x : Int32) : Int := sumN (fun i => bI (bt x i)) 6
theorem popI.rng (x : Int32) : 0 ≤ popI x ∧ popI x ≤ 6 := by
  have q := sumN.rng (f := fun i => bI (bt x i)) (B := 1) (fun i => bI.rng _) 6
  unfold popI
  omega
def ush (x k : Int32) : Int32 := (x.toUInt32 >>> (k.toUInt32 &&& Int32.toUInt32 31)).toInt32
def bc1 (i : Int32) : Int32 := i - ((ush i 1) &&& 1431655765)
def bc2 (i : Int32) : Int32 := (i &&& 858993459) + ((ush i 2) &&& 858993459)
def bc3 (i : Int32) : Int32 := (i + ush i 4) &&& 252645135
def bcF (i : Int32) : Int32 := (fun x : Int32 => (x + ush x 16) &&& 63) ((fun x : Int32 => x + ush x 8) (bc3 (bc2 (bc1 i))))
theorem bc_tab : ∀ n : Nat, n < 64 → (bcF (nI n)).toInt = popI (nI n) := by decide +kernel
theorem bc_ok {x : Int32} (h : 0 ≤ x.toInt ∧ x.toInt ≤ 63) : (bcF x).toInt = popI x := by
  obtain ⟨e, l⟩ := t_nI (x := x) rfl h.1
  rw [e]
  exact bc_tab x.toInt.toNat (by omega)
theorem pop_tab : ∀ n : Nat, n < 64 → n = 0 ∨ (popI (nI n &&& nI (n - 1)) + 1 = popI (nI n) ∧ (nI n &&& nI (n - 1)).toInt < 64) := by decide +kernel
theorem pop_st {x y d : Int32} (h : 0 < x.toInt ∧ x.toInt < 64) (hd : d.toInt = x.toInt - 1) (hy : y = x &&& d) : popI y + 1 = popI x ∧ y.toInt < 64 := by
  obtain ⟨e, l⟩ := t_nI (x := x) rfl (by omega)
  obtain ⟨e2, l2⟩ := t_nI hd (by omega)
  have q := pop_tab x.toInt.toNat (by omega)
  rw [hy, e2, show (x.toInt - 1).toNat = x.toInt.toNat - 1 by omega]
  rw [← e] at q
  rcases q with q | q
  · omega
  · exact q
theorem pop_0 {x : Int32} (h : x.toInt = 0) : popI x = 0 := by
  have : x = 0 := Int32.toInt_inj.mp (by rw [h]; rfl)
  rw [this]
  decide +kernel
def nrR (L : Nat → Nat → Int32) (a b : Nat) (n : Nat) : Int := sumN (fun k => popI (L a k ^^^ L b k)) n
/-- which letters have no RULE -/
def jsB (N : Nat → Bool) : Nat → Int32
  | 0 => 0
  | k + 1 => if N (k + 1) = true then jsB N k ||| (1 <<< (nI k &&& 31)) else jsB N k
theorem jsB.congr {N N' : Nat → Bool} : ∀ n, (∀ k, 1 ≤ k → k ≤ n → N k = N' k) → jsB N n = jsB N' n
  | 0, _ => rfl
  | n + 1, h => by rw [jsB, jsB, jsB.congr n (fun k h1 h2 => h k h1 (by omega)), h (n + 1) (by omega) (by omega)]
def jsJ (D : Int32) (LC CD F : Nat → Int32) (w : Int32) (i : Nat) : Bool := (!outB D (nI i)) && (decide (LC i = 1) && (decide (F i = w) && decide (CD i = 0)))
def jsN (D : Int32) (LC CD F : Nat → Int32) (w : Int32) (n : Nat) : Bool := (List.range n).all (fun i => !jsJ D LC CD F w i)
theorem jsN.iff {D : Int32} {LC CD F : Nat → Int32} {w : Int32} {m : Nat} : jsN D LC CD F w m = true ↔ ∀ i : Nat, i < m → jsJ D LC CD F w i = false := by
  unfold jsN
  rw [List.all_eq_true]
  constructor
  · intro h i hi
    have q := h i (List.mem_range.2 hi)
    rw [Bool.not_eq_true'] at q
    exact q
  · intro h i hi
    rw [h i (List.mem_range.1 hi)]
    rfl
theorem and1 (x : Int32) : (x &&& 1).toInt = 0 ∨ (x &&& 1).toInt = 1 := by
  obtain ⟨j, hj, e⟩ := pk_andE x (m := 1) 1 (by decide)
  rw [e, nI_toInt (by omega)]
  omega
theorem outB.t {g r x z : Int32} (hz : z = x &&& 1) (hx : x = g >>> (r &&& 31)) (h : z.toInt ≠ 0) : outB g r = true := by
  have q := and1 x
  rw [← hz] at q
  apply decide_eq_true
  rw [← hx, ← hz]
  omega
theorem outB.f {g r x z : Int32} (hz : z = x &&& 1) (hx : x = g >>> (r &&& 31)) (h : z.toInt = 0) : outB g r = false := by
  apply decide_eq_false
  rw [← hx, ← hz]
  omega
theorem tq_cl2 {ra x z : Int32} {f v : Int} (h : z = I 6 (ra.toInt * 3 + x.toInt).toNat) (h0 : 0 ≤ ra.toInt) (hx : x.toInt = f + v) (hf : 0 ≤ f) (hv : 0 ≤ v) : cL I ra.toInt.toNat (f.toNat + v.toNat) = z := by
  rw [h]
  unfold cL
  congr 1
  omega
theorem tbQ.t {D x y : Int32} (hx : 0 ≤ x.toInt) (hy : 0 ≤ y.toInt) (h1 : outB D x = false) (h2 : outB D y = false) (h3 : begB C L x.toInt.toNat y.toInt.toNat = true) (h4 : begB C L y.toInt.toNat x.toInt.toNat = true) : tbQ D C L x.toInt.toNat y.toInt.toNat = true := by
  unfold tbQ
  rw [← (t_nI (x := x) rfl hx).1, ← (t_nI (x := y) rfl hy).1, h1, h2, h3, h4]
  rfl
theorem tbQ.f {D x y : Int32} (hx : 0 ≤ x.toInt) (hy : 0 ≤ y.toInt) (h : outB D x = true ∨ outB D y = true ∨ begB C L x.toInt.toNat y.toInt.toNat = false ∨ begB C L y.toInt.toNat x.toInt.toNat = false) : tbQ D C L x.toInt.toNat y.toInt.toNat = false := by
  unfold tbQ
  rw [← (t_nI (x := x) rfl hx).1, ← (t_nI (x := y) rfl hy).1]
  rcases h with h | h | h | h <;> rw [h] <;> simp
theorem tw_in {D : Int32} {i j : Nat} {q : Bool} (h : i < j) (e : tbQ D C L i j = q) : twR D C L (j + 1) i = twR D C L j i + bI q := by
  show twR D C L j i + bI (decide (i < j) && tbQ D C L i j) = _
  rw [decide_eq_true h, e]
  rfl
theorem tm_in {D : Int32} {i j : Nat} {q : Bool} (h : j < i) (e : tbQ D C L i j = q) : tmR D C L (j + 1) i = tmR D C L j i + bI q := by
  show tmR D C L j i + bI (decide (j < i) && tbQ D C L i j) = _
  rw [decide_eq_true h, e]
  rfl
theorem clQ.t {D x y : Int32} (hx : 0 ≤ x.toInt) (hy : 0 ≤ y.toInt) (h0 : x.toInt ≠ y.toInt) (h1 : outB D x = false) (h2 : outB D y = false) (h3 : begB C L x.toInt.toNat y.toInt.toNat = true) : clQ D C L x.toInt.toNat y.toInt.toNat = true := by
  unfold clQ
  rw [← (t_nI (x := x) rfl hx).1, ← (t_nI (x := y) rfl hy).1, h1, h2, h3, decide_eq_false (by omega)]
  rfl
theorem clQ.f {D x y : Int32} (hx : 0 ≤ x.toInt) (hy : 0 ≤ y.toInt) (h : x.toInt = y.toInt ∨ outB D x = true ∨ outB D y = true ∨ begB C L x.toInt.toNat y.toInt.toNat = false) : clQ D C L x.toInt.toNat y.toInt.toNat = false := by
  unfold clQ
  rw [← (t_nI (x := x) rfl hx).1, ← (t_nI (x := y) rfl hy).1]
  rcases h with h | h | h | h
  · rw [decide_eq_true (by omega : x.toInt.toNat = y.toInt.toNat)]; rfl
  · rw [h]; simp
  · rw [h]; simp
  · rw [h]; simp
theorem cl_in {D : Int32} {i j : Nat} {q : Bool} (e : clQ D C L i j = q) : clR D C L (j + 1) i = clR D C L j i + bI q := by
  show clR D C L j i + bI (clQ D C L i j) = _
  rw [e]
theorem jsJ.t {D x w : Int32} {LC CD F : Nat → Int32} (hx : 0 ≤ x.toInt) (h1 : outB D x = false) (h2 : LC x.toInt.toNat = 1) (h3 : F x.toInt.toNat = w) (h4 : CD x.toInt.toNat = 0) : jsJ D LC CD F w x.toInt.toNat = true := by
  unfold jsJ
  rw [← (t_nI (x := x) rfl hx).1, h1, h2, h3, h4]
  simp
theorem jsJ.f {D x w : Int32} {LC CD F : Nat → Int32} (hx : 0 ≤ x.toInt) (h : outB D x = true ∨ LC x.toInt.toNat ≠ 1 ∨ F x.toInt.toNat ≠ w ∨ CD x.toInt.toNat ≠ 0) : jsJ D LC CD F w x.toInt.toNat = false := by
  unfold jsJ
  rw [← (t_nI (x := x) rfl hx).1]
  rcases h with h | h | h | h
  · rw [h]; simp
  · rw [decide_eq_false h]; simp
  · rw [decide_eq_false h]; simp
  · rw [decide_eq_false h]; simp
theorem jsN.f {D w : Int32} {LC CD F : Nat → Int32} {m i : Nat} (hi : i < m) (h : jsJ D LC CD F w i = true) : jsN D LC CD F w m = false := by
  cases q : jsN D LC CD F w m with
  | false => rfl
  | true => exact absurd ((jsN.iff.1 q i hi).symm.trans h) (by decide)
theorem outB.f1 {g r x z : Int32} (hz : z = x &&& 1) (hx : x = g >>> (r &&& 31)) (h : z.toInt ≠ 1) : outB g r = false := by
  apply decide_eq_false
  rw [← hx, ← hz]
  exact h
theorem t_inj_ {x y : Int32} (h : x.toInt = y.toInt) : x = y := Int32.toInt_inj.mp h
theorem or_0 (x : Int32) : x ||| 0 = x := by
  apply b_ext
  intro i _
  rw [b_or, b_0, Bool.or_false]
theorem xor_nI (a b : Nat) : nI a ^^^ nI b = nI (a ^^^ b) := by
  apply Int32.toBitVec_inj.1
  show BitVec.ofNat 32 a ^^^ BitVec.ofNat 32 b = BitVec.ofNat 32 (a ^^^ b)
  apply BitVec.eq_of_getLsbD_eq
  intro i hi
  simp [hi]
theorem xor_63 {x y z : Int32} (h : z = x ^^^ y) (hx : 0 ≤ x.toInt ∧ x.toInt ≤ 63) (hy : 0 ≤ y.toInt ∧ y.toInt ≤ 63) : 0 ≤ z.toInt ∧ z.toInt ≤ 63 := by
  obtain ⟨e1, l1⟩ := t_nI (x := x) rfl hx.1
  obtain ⟨e2, l2⟩ := t_nI (x := y) rfl hy.1
  have q : x.toInt.toNat ^^^ y.toInt.toNat < 2 ^ 6 := Nat.xor_lt_two_pow (by omega) (by omega)
  have e := xor_nI x.toInt.toNat y.toInt.toNat
  rw [← e1, ← e2] at e
  rw [h, e, nI_toInt (by omega)]
  omega
theorem outB.tP {g r : Int32} (h : ((g >>> (r &&& 31)) &&& 1).toInt = 1) : outB g r = true := decide_eq_true h
theorem outB.fP {g r : Int32} (h : ¬ ((g >>> (r &&& 31)) &&& 1).toInt = 1) : outB g r = false := decide_eq_false h
end Fnt
