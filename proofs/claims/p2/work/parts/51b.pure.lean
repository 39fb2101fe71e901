section HAS
variable {PM : Nat → Nat} {s : St} {n : Nat} {ix : Int32}
theorem hB_l (hR : rI PM s) (h1 : 1 ≤ n) (h2 : n ≤ s_n s) (k : s_kd s n = 1) (ho : ¬ s_no s n = ix) : ∀ t, ¬ hB s ix t n
  | 0, h => h
  | t + 1, h => by
    rcases h with h | ⟨j, hj, _⟩
    · exact ho h.2
    · have := (nf_t hR h1 h2 (by rw [k]; decide)).1; omega
theorem hB_no (k : ¬ s_kd s n = 1) (h : ∀ i, i < s_ln s n → ∀ t, ¬ hB s ix t (s_ch s n i)) : ∀ t, ¬ hB s ix t n
  | 0, z => z
  | t + 1, z => by
    rcases z with z | ⟨j, hj, z⟩
    · exact k z.1
    · exact h j hj t z
theorem hB_yes {j : Nat} (hj : j < s_ln s n) (h : ∃ t, hB s ix t (s_ch s n j)) : ∃ t, hB s ix t n := by
  obtain ⟨t, h⟩ := h
  exact ⟨t + 1, Or.inr ⟨j, hj, h⟩⟩
end HAS

