/-! The loci of a node. -/
def lB (s : St) (m : Nat) : Nat → Nat → Prop
  | 0, _ => True
  | t + 1, n => (s_kd s n = 1 → ∃ i, i < m ∧ s_no s n = nI i) ∧ ∀ j, j < s_ln s n → lB s m t (s_ch s n j)
def hB (s : St) (i : Int32) : Nat → Nat → Prop
  | 0, _ => False
  | t + 1, n => (s_kd s n = 1 ∧ s_no s n = i) ∨ ∃ j, j < s_ln s n ∧ hB s i t (s_ch s n j)
section LOC
variable {PM : Nat → Nat} {s s1 : St} {n m x : Nat}
theorem lB_ext (hR : rI PM s) (hE : sExt s s1) : ∀ {t n : Nat}, 1 ≤ n → n ≤ s_n s → lB s m t n → lB s1 m t n
  | 0, _, _, _, _ => trivial
  | t + 1, n, h1, h2, h => by
    refine ⟨fun k => ?_, fun j hj => ?_⟩
    · rw [e_kd hE h1 h2] at k
      rw [e_no hE h1 h2]; exact h.1 k
    · rw [e_ln hE h1 h2] at hj
      have hC := (ch_b hR h1 h2 hj).1
      rw [e_ch hE h1 h2 (rI_o hR h1 h2) hj]
      exact lB_ext hR hE hC.1 hC.2 (h.2 j hj)
theorem lB_ch (h : ∀ t, lB s m t n) {j : Nat} (hj : j < s_ln s n) : ∀ t, lB s m t (s_ch s n j) := fun t => (h (t + 1)).2 j hj
theorem lB_of (hR : rI PM s) (h0 : 1 ≤ m ∨ ∀ t, ¬ hB s 0 t x) (h1 : 2 ≤ m ∨ ∀ t, ¬ hB s 1 t x) (x1 : 1 ≤ x) (x2 : x ≤ s_n s) : ∀ t, lB s m t x := by
  intro t
  induction t generalizing x with
  | zero => trivial
  | succ t ih =>
    refine ⟨fun k => ?_, fun j hj => ?_⟩
    · have o : s_no s x = 0 ∨ s_no s x = 1 := by
        rcases (rI_o hR x1 x2).2.2.2.2.2.2 with ⟨h, _⟩ | ⟨_, _, h⟩ | ⟨h, _⟩ | ⟨h, _⟩ | ⟨h, _⟩ | ⟨h, _⟩ | ⟨h, _⟩
        · rw [k] at h; rcases h with h | h | h <;> exact absurd h (by decide)
        · exact h
        all_goals (rw [k] at h; exact absurd h (by decide))
      rcases o with o | o
      · rcases h0 with h0 | h0
        · exact ⟨0, by omega, o⟩
        · exact absurd (Or.inl ⟨k, o⟩) (h0 1)
      · rcases h1 with h1 | h1
        · exact ⟨1, by omega, o⟩
        · exact absurd (Or.inl ⟨k, o⟩) (h1 1)
    · have hC := (ch_b hR x1 x2 hj).1
      refine ih ?_ ?_ hC.1 hC.2
      · rcases h0 with h0 | h0
        · exact Or.inl h0
        · exact Or.inr (fun t' z => h0 (t' + 1) (Or.inr ⟨j, hj, z⟩))
      · rcases h1 with h1 | h1
        · exact Or.inl h1
        · exact Or.inr (fun t' z => h1 (t' + 1) (Or.inr ⟨j, hj, z⟩))
/-- a node of terms -/
abbrev tmC (s : St) (x : Nat) : Prop := (1 ≤ x ∧ x ≤ s_n s) ∧ ∀ j, j < s_ln s x → s_kd s (s_ch s x j) < 3
theorem tm_ext (hR : rI PM s) (hE : sExt s s1) (h : tmC s x) : tmC s1 x := by
  refine ⟨⟨h.1.1, Nat.le_trans h.1.2 hE.1⟩, fun j hj => ?_⟩
  rw [e_ln hE h.1.1 h.1.2] at hj
  have hC := (ch_b hR h.1.1 h.1.2 hj).1
  rw [e_ch hE h.1.1 h.1.2 (rI_o hR h.1.1 h.1.2) hj, e_kd hE hC.1 hC.2]
  exact h.2 j hj
end LOC

