/-! THE READER'S SIDE: its table and its place as what is meant -/
def fxWs (w : Nat) : List Int := (byS.getD w []).map Int32.toInt
theorem fxWs_len : ∀ w, w < 12 → (fxWs w).length = lenS.getD w 0 := by decide +kernel
theorem fxWs_at : ∀ w, w < 12 → ∀ k, k < lenS.getD w 0 → (fxWs w).getD k 0 = ((byS.getD w []).getD k 0).toInt := by decide +kernel
theorem fxWs_1 : fxWs 1 = fxK 0 := by decide +kernel
theorem fxWs_2 : fxWs 2 = fxK 1 := by decide +kernel
theorem fxWs_3 : fxWs 3 = fxK 2 := by decide +kernel
theorem fxWs_4 : fxWs 4 = fxK 3 := by decide +kernel
theorem fxWs_5 : fxWs 5 = fxK 4 := by decide +kernel
theorem fxWs_6 : fxWs 6 = fxK 5 := by decide +kernel
theorem fxWs_7 : fxWs 7 = fxK 7 := by decide +kernel
theorem fxWs_8 : fxWs 8 = fxK 8 := by decide +kernel
theorem fxWs_9 : fxWs 9 = fxK 9 := by decide +kernel
theorem fxWs_10 : fxWs 10 = fxK 10 := by decide +kernel
theorem fxWs_11 : fxWs 11 = fxK 6 := by decide +kernel
theorem fx_nsg {kd : Int} {w : List Int} (a : ¬ (kd = 0 ∧ w = fxWs 2)) (b : ¬ (kd = 0 ∧ w = fxWs 3)) (c : ¬ (kd = 0 ∧ w = fxWs 4)) (d : ¬ (kd = 0 ∧ w = fxWs 5)) (e : ¬ (kd = 0 ∧ w = fxWs 6)) : ∀ k : Nat, 1 ≤ k → k ≤ 5 → ¬ fxIs kd w k := fun k h1 h2 => by
  rcases (show k = 1 ∨ k = 2 ∨ k = 3 ∨ k = 4 ∨ k = 5 by omega) with rfl | rfl | rfl | rfl | rfl
  · rw [fxWs_2] at a; exact a
  · rw [fxWs_3] at b; exact b
  · rw [fxWs_4] at c; exact c
  · rw [fxWs_5] at d; exact d
  · rw [fxWs_6] at e; exact e
theorem fx_nall {kd : Int} {w : List Int} (a : ¬ (kd = 0 ∧ w = fxWs 1)) (h : ∀ k : Nat, 1 ≤ k → k ≤ 5 → ¬ fxIs kd w k) : ∀ k : Nat, k ≤ 5 → ¬ (kd = 0 ∧ w = fxK k) := fun k hk => by
  by_cases q : k = 0
  · subst q; rw [fxWs_1] at a; exact a
  · exact h k (by omega) hk
theorem fx_ncd {kd : Int} {w : List Int} (a : ¬ (kd = 0 ∧ w = fxWs 7)) (b : ¬ (kd = 0 ∧ w = fxWs 8)) (c : ¬ (kd = 0 ∧ w = fxWs 9)) (d : ¬ (kd = 0 ∧ w = fxWs 10)) : ∀ k : Nat, 7 ≤ k → k ≤ 10 → ¬ fxIs kd w k := fun k h1 h2 => by
  rcases (show k = 7 ∨ k = 8 ∨ k = 9 ∨ k = 10 by omega) with rfl | rfl | rfl | rfl
  · rw [fxWs_7] at a; exact a
  · rw [fxWs_8] at b; exact b
  · rw [fxWs_9] at c; exact c
  · rw [fxWs_10] at d; exact d
