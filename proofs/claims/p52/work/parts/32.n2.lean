/-! the model's tables stay (behind 30.m0) -/
def FT (o o' : Nat → Nat → Int32) : Prop := ∀ j : Nat, (j < 7 ∨ (12 ≤ j ∧ j < 300) ∨ (3300 ≤ j ∧ j < 13200)) → o' 1 j = o 1 j
section
variable {o o' : Nat → Nat → Int32}
theorem FT.rf (o : Nat → Nat → Int32) : FT o o := fun _ _ => rfl
theorem FT.wk (h : WK o o') : FT o o' := fun j hj => h j (by omega)
theorem FT.tr {o2 : Nat → Nat → Int32} (h : FT o o') (h2 : FT o' o2) : FT o o2 := fun j hj => (h2 j hj).trans (h j hj)
theorem FT.kk {cs fs : List Nat} {o2 : Nat → Nat → Int32} (h : FT o o') (k : KK cs fs o' o2) (h1 : 1 ∉ cs) : FT o o2 := fun j hj => by rw [k.1 1 (by decide) h1]; exact h j hj
theorem FT.uf {k : Nat} {v : Int32} (h : FT o o') : FT o (uF o' 0 k v) := fun j hj => by rw [uF_nc (by decide)]; exact h j hj
theorem FT.st {k : Nat} {v : Int32} {o2 : Nat → Nat → Int32} (h : FT o o') (e : o2 = uF o' 0 k v) : FT o o2 := by subst e; exact h.uf
end
