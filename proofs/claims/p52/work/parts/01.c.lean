abbrev kxR (α : Type) := Jvm.ClassFile.Reader Jvm.ClassFile.DecodeError α
def kxA (c d : ByteArray) (k : Nat) : Prop := ∀ i (hi : i < d.size), ∃ h2 : k + i < c.size, c[k + i] = d[i]
def kxE (c d : ByteArray) (k : Nat) {α : Type} (r r2 : kxR α) : Prop := ∀ p x q, r d p = .ok (x, q) → r2 c (k + p) = .ok (x, k + q)
theorem kx_u1 {c : ByteArray} {p : Nat} (h : p < c.size) : (Jvm.ClassFile.Reader.u1 : kxR Nat) c p = .ok (c[p].toNat, p + 1) := by
  have e : (Jvm.ClassFile.Reader.u1 : kxR Nat) c p = (if z : p < c.size then ((do set (p + 1); pure c[p].toNat) : kxR Nat) else throw (Jvm.ClassFile.HasTruncated.truncated p)) c p := rfl
  rw [e, dif_pos h]
  rfl
theorem kx_u1n {c : ByteArray} {p : Nat} (h : ¬ p < c.size) : (Jvm.ClassFile.Reader.u1 : kxR Nat) c p = .error (Jvm.ClassFile.HasTruncated.truncated p) := by
  have e : (Jvm.ClassFile.Reader.u1 : kxR Nat) c p = (if z : p < c.size then ((do set (p + 1); pure c[p].toNat) : kxR Nat) else throw (Jvm.ClassFile.HasTruncated.truncated p)) c p := rfl
  rw [e, dif_neg h]
  rfl
theorem kxA.of {c d : ByteArray} {k : Nat} (h : d.data.toList <+: c.data.toList.drop k) : kxA c d k := by
  obtain ⟨cb⟩ := c
  obtain ⟨db⟩ := d
  intro i hi
  obtain ⟨t, e⟩ := h
  have hi2 : i < db.toList.length := hi
  have e1 : (cb.toList.drop k)[i]? = some db.toList[i] := by
    have e0 : db.toList ++ t = cb.toList.drop k := e
    rw [← e0, List.getElem?_append_left hi2, List.getElem?_eq_getElem hi2]
  rw [List.getElem?_drop] at e1
  obtain ⟨h3, e3⟩ := List.getElem?_eq_some_iff.1 e1
  exact ⟨h3, e3⟩
section Kx
variable {c d : ByteArray} {k : Nat} {α β : Type}
theorem kxE.u1 (ag : kxA c d k) : kxE c d k (Jvm.ClassFile.Reader.u1 : kxR Nat) Jvm.ClassFile.Reader.u1 := fun p x q h => by
  by_cases z : p < d.size
  · rw [kx_u1 z] at h
    obtain ⟨h2, e⟩ := ag p z
    obtain ⟨a, b⟩ := Prod.mk.inj (Except.ok.inj h)
    subst a
    subst b
    have g := kx_u1 h2
    rw [e] at g
    exact g
  · rw [kx_u1n z] at h
    cases h
theorem kxE.pr (x : α) : kxE c d k (pure x : kxR α) (pure x) := fun p y q h => by
  have h2 : (Except.ok (x, p) : Except Jvm.ClassFile.DecodeError (α × Nat)) = .ok (y, q) := h
  obtain ⟨a, b⟩ := Prod.mk.inj (Except.ok.inj h2)
  subst a
  subst b
  exact rfl
theorem kxE.bd {r r2 : kxR α} {f f2 : α → kxR β} (a : kxE c d k r r2) (b : ∀ x, kxE c d k (f x) (f2 x)) : kxE c d k (r >>= f) (r2 >>= f2) := fun p y q h => by
  have h2 : Except.bind (r d p) (fun z => f z.1 d z.2) = .ok (y, q) := h
  show Except.bind (r2 c (k + p)) (fun z => f2 z.1 c z.2) = .ok (y, k + q)
  cases e : r d p with
  | error z =>
    rw [e] at h2
    have h3 : (Except.error z : Except Jvm.ClassFile.DecodeError (β × Nat)) = .ok (y, q) := h2
    cases h3
  | ok z =>
    rw [e] at h2
    rw [a p z.1 z.2 e]
    exact b z.1 z.2 y q h2
theorem kxE.mp {r r2 : kxR α} {g : α → β} (a : kxE c d k r r2) : kxE c d k (g <$> r) (g <$> r2) := fun p y q h => by
  have h2 : Except.bind (r d p) (fun z => (Except.ok (g z.1, z.2) : Except Jvm.ClassFile.DecodeError (β × Nat))) = .ok (y, q) := h
  show Except.bind (r2 c (k + p)) (fun z => (Except.ok (g z.1, z.2) : Except Jvm.ClassFile.DecodeError (β × Nat))) = .ok (y, k + q)
  cases e : r d p with
  | error z =>
    rw [e] at h2
    have h3 : (Except.error z : Except Jvm.ClassFile.DecodeError (β × Nat)) = .ok (y, q) := h2
    cases h3
  | ok z =>
    rw [e] at h2
    rw [a p z.1 z.2 e]
    have h3 : (Except.ok (g z.1, z.2) : Except Jvm.ClassFile.DecodeError (β × Nat)) = .ok (y, q) := h2
    obtain ⟨u, v⟩ := Prod.mk.inj (Except.ok.inj h3)
    subst u
    subst v
    exact rfl
theorem kxE.u2 (ag : kxA c d k) : kxE c d k (Jvm.ClassFile.Reader.u2 : kxR Nat) Jvm.ClassFile.Reader.u2 := (kxE.u1 ag).bd (fun hi => (kxE.u1 ag).bd (fun lo => kxE.pr (hi * 256 + lo)))
theorem kxE.s2 (ag : kxA c d k) : kxE c d k (Jvm.ClassFile.Reader.s2 : kxR Int) Jvm.ClassFile.Reader.s2 := (kxE.u2 ag).mp
theorem kxB {r : kxR α} {f : α → kxR β} {p p1 : Nat} {o : α} {z : Except Jvm.ClassFile.DecodeError (β × Nat)} (e : r d p = .ok (o, p1)) (h : (r >>= f) d p = z) : f o d p1 = z := by
  have h2 : Except.bind (r d p) (fun z => f z.1 d z.2) = z := h
  rw [e] at h2
  exact h2
theorem kxC {r : kxR α} {f : α → kxR β} {p p1 : Nat} {o : α} {z : Except Jvm.ClassFile.DecodeError (β × Nat)} (e : r d p = .ok (o, p1)) (h : f o d p1 = z) : (r >>= f) d p = z := by
  show Except.bind (r d p) (fun z => f z.1 d z.2) = z
  rw [e]
  exact h
end Kx
def kxO (op : Nat) : Prop := ∀ (c d : ByteArray) (k p pc pc2 : Nat) (x : Instr) (q : Nat), kxA c d k → (Jvm.ClassFile.Reader.u1 : kxR Nat) d p = .ok (op, p + 1) → Jvm.ClassFile.Decoder.instr pc d p = .ok (x, q) → Jvm.ClassFile.Decoder.instr pc2 c (k + p) = .ok (x, k + q)
theorem kxO_3 : kxO 3 := fun c d k p pc pc2 x q ag e h => by
  unfold Jvm.ClassFile.Decoder.instr at h ⊢
  have h1 := kxB e h
  have h2 : (pure (.iconst 0) : kxR Instr) d (p + 1) = .ok (x, q) := h1
  have g2 : (pure (.iconst 0) : kxR Instr) c (k + (p + 1)) = .ok (x, k + q) := (kxE.pr ((.iconst 0) : Instr)) _ _ _ h2
  exact kxC (kxE.u1 ag _ _ _ e) g2
theorem kxO_4 : kxO 4 := fun c d k p pc pc2 x q ag e h => by
  unfold Jvm.ClassFile.Decoder.instr at h ⊢
  have h1 := kxB e h
  have h2 : (pure (.iconst 1) : kxR Instr) d (p + 1) = .ok (x, q) := h1
  have g2 : (pure (.iconst 1) : kxR Instr) c (k + (p + 1)) = .ok (x, k + q) := (kxE.pr ((.iconst 1) : Instr)) _ _ _ h2
  exact kxC (kxE.u1 ag _ _ _ e) g2
theorem kxO_5 : kxO 5 := fun c d k p pc pc2 x q ag e h => by
  unfold Jvm.ClassFile.Decoder.instr at h ⊢
  have h1 := kxB e h
  have h2 : (pure (.iconst 2) : kxR Instr) d (p + 1) = .ok (x, q) := h1
  have g2 : (pure (.iconst 2) : kxR Instr) c (k + (p + 1)) = .ok (x, k + q) := (kxE.pr ((.iconst 2) : Instr)) _ _ _ h2
  exact kxC (kxE.u1 ag _ _ _ e) g2
theorem kxO_6 : kxO 6 := fun c d k p pc pc2 x q ag e h => by
  unfold Jvm.ClassFile.Decoder.instr at h ⊢
  have h1 := kxB e h
  have h2 : (pure (.iconst 3) : kxR Instr) d (p + 1) = .ok (x, q) := h1
  have g2 : (pure (.iconst 3) : kxR Instr) c (k + (p + 1)) = .ok (x, k + q) := (kxE.pr ((.iconst 3) : Instr)) _ _ _ h2
  exact kxC (kxE.u1 ag _ _ _ e) g2
theorem kxO_7 : kxO 7 := fun c d k p pc pc2 x q ag e h => by
  unfold Jvm.ClassFile.Decoder.instr at h ⊢
  have h1 := kxB e h
  have h2 : (pure (.iconst 4) : kxR Instr) d (p + 1) = .ok (x, q) := h1
  have g2 : (pure (.iconst 4) : kxR Instr) c (k + (p + 1)) = .ok (x, k + q) := (kxE.pr ((.iconst 4) : Instr)) _ _ _ h2
  exact kxC (kxE.u1 ag _ _ _ e) g2
theorem kxO_8 : kxO 8 := fun c d k p pc pc2 x q ag e h => by
  unfold Jvm.ClassFile.Decoder.instr at h ⊢
  have h1 := kxB e h
  have h2 : (pure (.iconst 5) : kxR Instr) d (p + 1) = .ok (x, q) := h1
  have g2 : (pure (.iconst 5) : kxR Instr) c (k + (p + 1)) = .ok (x, k + q) := (kxE.pr ((.iconst 5) : Instr)) _ _ _ h2
  exact kxC (kxE.u1 ag _ _ _ e) g2
theorem kxO_26 : kxO 26 := fun c d k p pc pc2 x q ag e h => by
  unfold Jvm.ClassFile.Decoder.instr at h ⊢
  have h1 := kxB e h
  have h2 : (pure (.iload_n 0) : kxR Instr) d (p + 1) = .ok (x, q) := h1
  have g2 : (pure (.iload_n 0) : kxR Instr) c (k + (p + 1)) = .ok (x, k + q) := (kxE.pr ((.iload_n 0) : Instr)) _ _ _ h2
  exact kxC (kxE.u1 ag _ _ _ e) g2
theorem kxO_27 : kxO 27 := fun c d k p pc pc2 x q ag e h => by
  unfold Jvm.ClassFile.Decoder.instr at h ⊢
  have h1 := kxB e h
  have h2 : (pure (.iload_n 1) : kxR Instr) d (p + 1) = .ok (x, q) := h1
  have g2 : (pure (.iload_n 1) : kxR Instr) c (k + (p + 1)) = .ok (x, k + q) := (kxE.pr ((.iload_n 1) : Instr)) _ _ _ h2
  exact kxC (kxE.u1 ag _ _ _ e) g2
theorem kxO_28 : kxO 28 := fun c d k p pc pc2 x q ag e h => by
  unfold Jvm.ClassFile.Decoder.instr at h ⊢
  have h1 := kxB e h
  have h2 : (pure (.iload_n 2) : kxR Instr) d (p + 1) = .ok (x, q) := h1
  have g2 : (pure (.iload_n 2) : kxR Instr) c (k + (p + 1)) = .ok (x, k + q) := (kxE.pr ((.iload_n 2) : Instr)) _ _ _ h2
  exact kxC (kxE.u1 ag _ _ _ e) g2
theorem kxO_29 : kxO 29 := fun c d k p pc pc2 x q ag e h => by
  unfold Jvm.ClassFile.Decoder.instr at h ⊢
  have h1 := kxB e h
  have h2 : (pure (.iload_n 3) : kxR Instr) d (p + 1) = .ok (x, q) := h1
  have g2 : (pure (.iload_n 3) : kxR Instr) c (k + (p + 1)) = .ok (x, k + q) := (kxE.pr ((.iload_n 3) : Instr)) _ _ _ h2
  exact kxC (kxE.u1 ag _ _ _ e) g2
theorem kxO_42 : kxO 42 := fun c d k p pc pc2 x q ag e h => by
  unfold Jvm.ClassFile.Decoder.instr at h ⊢
  have h1 := kxB e h
  have h2 : (pure (.aload_n 0) : kxR Instr) d (p + 1) = .ok (x, q) := h1
  have g2 : (pure (.aload_n 0) : kxR Instr) c (k + (p + 1)) = .ok (x, k + q) := (kxE.pr ((.aload_n 0) : Instr)) _ _ _ h2
  exact kxC (kxE.u1 ag _ _ _ e) g2
theorem kxO_43 : kxO 43 := fun c d k p pc pc2 x q ag e h => by
  unfold Jvm.ClassFile.Decoder.instr at h ⊢
  have h1 := kxB e h
  have h2 : (pure (.aload_n 1) : kxR Instr) d (p + 1) = .ok (x, q) := h1
  have g2 : (pure (.aload_n 1) : kxR Instr) c (k + (p + 1)) = .ok (x, k + q) := (kxE.pr ((.aload_n 1) : Instr)) _ _ _ h2
  exact kxC (kxE.u1 ag _ _ _ e) g2
theorem kxO_44 : kxO 44 := fun c d k p pc pc2 x q ag e h => by
  unfold Jvm.ClassFile.Decoder.instr at h ⊢
  have h1 := kxB e h
  have h2 : (pure (.aload_n 2) : kxR Instr) d (p + 1) = .ok (x, q) := h1
  have g2 : (pure (.aload_n 2) : kxR Instr) c (k + (p + 1)) = .ok (x, k + q) := (kxE.pr ((.aload_n 2) : Instr)) _ _ _ h2
  exact kxC (kxE.u1 ag _ _ _ e) g2
theorem kxO_45 : kxO 45 := fun c d k p pc pc2 x q ag e h => by
  unfold Jvm.ClassFile.Decoder.instr at h ⊢
  have h1 := kxB e h
  have h2 : (pure (.aload_n 3) : kxR Instr) d (p + 1) = .ok (x, q) := h1
  have g2 : (pure (.aload_n 3) : kxR Instr) c (k + (p + 1)) = .ok (x, k + q) := (kxE.pr ((.aload_n 3) : Instr)) _ _ _ h2
  exact kxC (kxE.u1 ag _ _ _ e) g2
theorem kxO_46 : kxO 46 := fun c d k p pc pc2 x q ag e h => by
  unfold Jvm.ClassFile.Decoder.instr at h ⊢
  have h1 := kxB e h
  have h2 : (pure .iaload : kxR Instr) d (p + 1) = .ok (x, q) := h1
  have g2 : (pure .iaload : kxR Instr) c (k + (p + 1)) = .ok (x, k + q) := (kxE.pr (.iaload : Instr)) _ _ _ h2
  exact kxC (kxE.u1 ag _ _ _ e) g2
theorem kxO_87 : kxO 87 := fun c d k p pc pc2 x q ag e h => by
  unfold Jvm.ClassFile.Decoder.instr at h ⊢
  have h1 := kxB e h
  have h2 : (pure .pop : kxR Instr) d (p + 1) = .ok (x, q) := h1
  have g2 : (pure .pop : kxR Instr) c (k + (p + 1)) = .ok (x, k + q) := (kxE.pr (.pop : Instr)) _ _ _ h2
  exact kxC (kxE.u1 ag _ _ _ e) g2
theorem kxO_96 : kxO 96 := fun c d k p pc pc2 x q ag e h => by
  unfold Jvm.ClassFile.Decoder.instr at h ⊢
  have h1 := kxB e h
  have h2 : (pure .iadd : kxR Instr) d (p + 1) = .ok (x, q) := h1
  have g2 : (pure .iadd : kxR Instr) c (k + (p + 1)) = .ok (x, k + q) := (kxE.pr (.iadd : Instr)) _ _ _ h2
  exact kxC (kxE.u1 ag _ _ _ e) g2
theorem kxO_167 : kxO 167 := fun c d k p pc pc2 x q ag e h => by
  unfold Jvm.ClassFile.Decoder.instr at h ⊢
  have h1 := kxB e h
  have h2 : (do let a ← Jvm.ClassFile.Reader.s2; pure (.goto a) : kxR Instr) d (p + 1) = .ok (x, q) := h1
  have g2 : (do let a ← Jvm.ClassFile.Reader.s2; pure (.goto a) : kxR Instr) c (k + (p + 1)) = .ok (x, k + q) := ((kxE.s2 ag).bd (fun a => kxE.pr (Instr.goto a))) _ _ _ h2
  exact kxC (kxE.u1 ag _ _ _ e) g2
theorem kxO_182 : kxO 182 := fun c d k p pc pc2 x q ag e h => by
  unfold Jvm.ClassFile.Decoder.instr at h ⊢
  have h1 := kxB e h
  have h2 : (do let a ← Jvm.ClassFile.Reader.u2; pure (.invokevirtual a) : kxR Instr) d (p + 1) = .ok (x, q) := h1
  have g2 : (do let a ← Jvm.ClassFile.Reader.u2; pure (.invokevirtual a) : kxR Instr) c (k + (p + 1)) = .ok (x, k + q) := ((kxE.u2 ag).bd (fun a => kxE.pr (Instr.invokevirtual a))) _ _ _ h2
  exact kxC (kxE.u1 ag _ _ _ e) g2
def kxL : List Nat := [3, 4, 5, 6, 7, 8, 26, 27, 28, 29, 42, 43, 44, 45, 46, 87, 96, 167, 182]
theorem kxO.of : ∀ op, op ∈ kxL → kxO op := fun op h => by
  simp only [kxL, List.mem_cons, List.not_mem_nil, or_false] at h
  rcases h with rfl | rfl | rfl | rfl | rfl | rfl | rfl | rfl | rfl | rfl | rfl | rfl | rfl | rfl | rfl | rfl | rfl | rfl | rfl
  · exact kxO_3
  · exact kxO_4
  · exact kxO_5
  · exact kxO_6
  · exact kxO_7
  · exact kxO_8
  · exact kxO_26
  · exact kxO_27
  · exact kxO_28
  · exact kxO_29
  · exact kxO_42
  · exact kxO_43
  · exact kxO_44
  · exact kxO_45
  · exact kxO_46
  · exact kxO_87
  · exact kxO_96
  · exact kxO_167
  · exact kxO_182
def kxop (d : ByteArray) (p : Nat) : Nat := if h : p < d.size then d[p].toNat else 999
theorem kx1 {c d : ByteArray} {k p : Nat} {x : Instr × Nat} (ag : kxA c d k) (ho : kxop d p ∈ kxL) (h : decode d p = .ok x) : decode c (k + p) = .ok x := by
  have hz : p < d.size := by
    by_cases z : p < d.size
    · exact z
    · unfold kxop at ho
      rw [dif_neg z] at ho
      exact absurd ho (by decide)
  have e := kx_u1 hz
  have ho2 : d[p].toNat ∈ kxL := by
    unfold kxop at ho
    rw [dif_pos hz] at ho
    exact ho
  have h2 : Except.bind (Jvm.ClassFile.Decoder.instr p d p) (fun z => (Except.ok (z.1, z.2 - p) : Except Jvm.ClassFile.DecodeError (Instr × Nat))) = .ok x := h
  show Except.bind (Jvm.ClassFile.Decoder.instr (k + p) c (k + p)) (fun z => (Except.ok (z.1, z.2 - (k + p)) : Except Jvm.ClassFile.DecodeError (Instr × Nat))) = .ok x
  cases e2 : Jvm.ClassFile.Decoder.instr p d p with
  | error z =>
    rw [e2] at h2
    have h3 : (Except.error z : Except Jvm.ClassFile.DecodeError (Instr × Nat)) = .ok x := h2
    cases h3
  | ok z =>
    rw [e2] at h2
    have h3 : (Except.ok (z.1, z.2 - p) : Except Jvm.ClassFile.DecodeError (Instr × Nat)) = .ok x := h2
    rw [kxO.of _ ho2 c d k p p (k + p) z.1 z.2 ag e e2]
    show (Except.ok (z.1, k + z.2 - (k + p)) : Except Jvm.ClassFile.DecodeError (Instr × Nat)) = .ok x
    rw [show k + z.2 - (k + p) = z.2 - p by omega]
    exact h3
def kqx (d : ByteArray) : List (Nat × Instr × Nat) → Bool
  | [] => true
  | (p, x) :: l => (decide (decode d p = .ok x) && decide (kxop d p ∈ kxL)) && kqx d l
theorem kqx.at {c d : ByteArray} {k : Nat} (ag : kxA c d k) : ∀ {l : List (Nat × Instr × Nat)}, kqx d l = true → ∀ (n : Nat) {p : Nat} {x : Instr × Nat} {P : Nat}, kqn l n = some (p, x) → k + p = P → decode c P = .ok x
  | [], _, n, p, x, P, e, _ => by
    have e2 : (none : Option (Nat × Instr × Nat)) = some (p, x) := e
    exact absurd e2 (by intro h; cases h)
  | (q, y) :: l, h, 0, p, x, P, e, hp => by
    have h1 : ((decide (decode d q = .ok y) && decide (kxop d q ∈ kxL)) && kqx d l) = true := h
    rw [Bool.and_eq_true, Bool.and_eq_true] at h1
    have e1 : (q, y) = (p, x) := Option.some.inj e
    obtain ⟨a, b⟩ := Prod.mk.inj e1
    subst a
    subst b
    rw [← hp]
    exact kx1 ag (of_decide_eq_true h1.1.2) (of_decide_eq_true h1.1.1)
  | (q, y) :: l, h, n + 1, p, x, P, e, hp => by
    have h1 : ((decide (decode d q = .ok y) && decide (kxop d q ∈ kxL)) && kqx d l) = true := h
    rw [Bool.and_eq_true] at h1
    exact kqx.at ag h1.2 n e hp
