def kqn {α : Type} : List α → Nat → Option α
  | [], _ => none
  | x :: _, 0 => some x
  | _ :: l, n + 1 => kqn l n
def kq (c : ByteArray) : List (Nat × Instr × Nat) → Bool
  | [] => true
  | (p, x) :: l => decide (decode c p = .ok x) && kq c l
theorem kq.at {c : ByteArray} : ∀ {l : List (Nat × Instr × Nat)}, kq c l = true → ∀ (n : Nat) {p : Nat} {x : Instr × Nat}, kqn l n = some (p, x) → decode c p = .ok x
  | [], _, n, p, x, e => by
    have e2 : (none : Option (Nat × Instr × Nat)) = some (p, x) := e
    exact absurd e2 (by intro h; cases h)
  | (q, y) :: l, h, 0, p, x, e => by
    have h1 : (decide (decode c q = .ok y) && kq c l) = true := h
    rw [Bool.and_eq_true] at h1
    have e1 : (q, y) = (p, x) := Option.some.inj e
    obtain ⟨a, b⟩ := Prod.mk.inj e1
    rw [← a, ← b]
    exact of_decide_eq_true h1.1
  | (q, y) :: l, h, n + 1, p, x, e => by
    have h1 : (decide (decode c q = .ok y) && kq c l) = true := h
    rw [Bool.and_eq_true] at h1
    exact kq.at h1.2 n e
