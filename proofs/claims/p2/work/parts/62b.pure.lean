/-! The notes of the reference. -/
abbrev tmN (s : St) (c : Nat) : Prop := (1 ≤ c ∧ c ≤ s_n s) ∧ s_kd s c < 3
def ntF (s : St) (w : Int32) : Prop := ∃ w9 : Nat, w = nI w9 ∧ isF s w9 ∧ s_sz s w9 ≤ 100
def ntC (s : St) (c : Int32) : Prop := ∃ c9 : Nat, c = nI c9 ∧ tmN s c9
def ntO (s : St) (r : Rt) : Prop := ∀ k, k < r.2.2.2 2 → (r.2.2.1 9 k = 0 ∧ ntC s (r.2.2.1 11 k)) ∨ ((r.2.2.1 9 k = 1 ∨ r.2.2.1 9 k = 2) ∧ ntF s (r.2.2.1 10 k)) ∨ (r.2.2.1 9 k = 4 ∧ ntF s (r.2.2.1 10 k) ∧ ntC s (r.2.2.1 11 k))
section SAYS
variable {PM : Nat → Nat} {s s1 : St} {r : Rt} {k : Nat}
theorem ntF_of (h : ntO s r) (hk : k < r.2.2.2 2) (h0 : ¬ r.2.2.1 9 k = 0) : ntF s (r.2.2.1 10 k) := by
  rcases h k hk with h | h | h
  · exact absurd h.1 h0
  · exact h.2
  · exact h.2.1
theorem ntC_of (h : ntO s r) (hk : k < r.2.2.2 2) (h0 : r.2.2.1 9 k = 0 ∨ r.2.2.1 9 k = 4) : ntC s (r.2.2.1 11 k) := by
  rcases h k hk with h | h | h
  · exact h.2
  · rcases h0 with h0 | h0 <;> rcases h.1 with h1 | h1 <;> rw [h0] at h1 <;> exact absurd h1 (by decide)
  · exact h.2.2
theorem nI_m1_lt {a : Nat} (h : a < 1000000) : nI a - 1 < nI a := by
  rcases Nat.eq_zero_or_pos a with q | q
  · subst q; decide
  · have e := nI_pred (a - 1)
    rw [Nat.sub_add_cancel q] at e
    rw [e]; exact nI_lt (by omega) (by omega)
theorem nI_m1 {a : Nat} (h : 1 ≤ a) : nI a - 1 = nI (a - 1) := by
  have e := nI_pred (a - 1)
  rwa [Nat.sub_add_cancel h] at e
theorem i_m1 (x : Int32) : x + (-1) = x - 1 := (Int32.sub_eq_add_neg x 1).symm
def syI (PM : Nat → Nat) (s s1 : St) (j : Nat) : Prop := rI PM s1 ∧ sExt s s1 ∧ s_n s1 ≤ s_n s + 1 + 210 * j ∧ s_dt s1 ≤ s_dt s + 420 * j ∧ s_h s1 = s_h s
end SAYS

