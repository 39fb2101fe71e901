theorem fit01 {a : Nat} (h : a ≤ 1) : nI a = 0 ∨ nI a = 1 := by
  have : a = 0 ∨ a = 1 := by omega
  rcases this with h | h
  · left; rw [h]; rfl
  · right; rw [h]; rfl

