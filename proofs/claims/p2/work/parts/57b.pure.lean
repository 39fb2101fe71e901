section LV9
variable {PM : Nat → Nat} {s s1 s2 s' : St} {x y f n dn dd S : Nat}
/-- a truth is a formula -/
theorem fm_truth {o : Int32} {z : Nat} (h : rI PM s' ∧ sExt s s' ∧ opP PM s 1 0 s' x ∧ s_kd s' x = 3 ∧ s_no s' x = o ∧ s_ln s' x = z ∧ s_sz s' x = 1) : fmP PM s 1 0 1 s' x := by
  obtain ⟨a1, a2, a3, a4, _, _, a7⟩ := h
  exact ⟨a1, a2, a3, ⟨a3.2.2.2.2, by rw [a4]; decide⟩, by omega⟩
theorem oz_pos (h : ozP PM s dn dd S s' x) (hx : ¬ nI x ≤ 0) : isF s' x ∧ s_sz s' x ≤ S := by
  rcases h.2.2.2.2 with h | h
  · exact absurd (by rw [h]; decide) hx
  · exact h
theorem fm_sub (hf : isF s n) (h : subP PM s n s' x) : isF s' x ∧ s_sz s' x = s_sz s n ∧ s_n s' ≤ s_n s + s_sz s n ∧ s_dt s' ≤ s_dt s + s_sz s n ∧ s_h s' = s_h s := by
  have q := sub_isF hf h
  exact ⟨q.1, q.2, h.2.2.1.1, by have := h.2.2.1.2.1; omega, h.2.2.1.2.2.1⟩
end LV9

