/-! The definitions of predicates, as nodes. -/
def dfO (PM : Nat → Nat) (s : St) (PD : Nat → Int32) : Prop := ∀ p : Nat, p < 30 → PD p = 0 ∨ ∃ g : Nat, PD p = nI g ∧ isF s g ∧ s_sz s g ≤ 100 ∧ ∀ t, lB s (PM p) t g
section OPD
variable {PM : Nat → Nat} {s s1 s' : St} {x f n : Nat} {PD : Nat → Int32}
theorem df_ext (hR : rI PM s) (hE : sExt s s1) (h : dfO PM s PD) : dfO PM s1 PD := by
  intro p hp
  rcases h p hp with h | ⟨g, h1, h2, h3, h4⟩
  · exact Or.inl h
  · exact Or.inr ⟨g, h1, isF_ext h2 hE, by rw [e_sz hE h2.1.1 h2.1.2]; exact h3, fun t => lB_ext hR hE h2.1.1 h2.1.2 (h4 t)⟩
theorem nf_5 (hR : rI PM s) (h1 : 1 ≤ f) (h2 : f ≤ s_n s) (hk : s_kd s f = 5) : (∃ p : Nat, p < 30 ∧ s_no s f = nI p ∧ s_ln s f = PM p) ∧ tmC s f := by
  rcases (rI_o hR h1 h2).2.2.2.2.2.2 with ⟨h, _⟩ | ⟨h, _⟩ | ⟨h, _⟩ | ⟨_, ⟨p, p1, p2, p3, _⟩, h3⟩ | ⟨h, _⟩ | ⟨h, _⟩ | ⟨h, _⟩
  · rw [hk] at h; rcases h with h | h | h <;> exact absurd h (by decide)
  · rw [hk] at h; exact absurd h (by decide)
  · rw [hk] at h; exact absurd h (by decide)
  · exact ⟨⟨p, p1, p2, p3⟩, ⟨h1, h2⟩, h3⟩
  · rw [hk] at h; exact absurd h (by decide)
  · rw [hk] at h; exact absurd h (by decide)
  · rw [hk] at h; exact absurd h (by decide)
theorem sub_isF (hf : isF s n) (h : subP PM s n s' x) : isF s' x ∧ s_sz s' x = s_sz s n := by
  refine ⟨⟨h.2.2.2.2.1, ?_⟩, h.2.2.2.2.2.2⟩
  rw [sim_eq (sim_w h.2.2.2.2.2) hf.2]; exact hf.2
theorem oz_sub (hf : isF s n) (h : subP PM s n s' x) : ozP PM s (s_sz s n) (s_sz s n) (s_sz s n) s' x := by
  have q := sub_isF hf h
  obtain ⟨a1, a2, ⟨a3, a4, a5, a6⟩, ⟨a7, a8⟩, a9, _⟩ := h
  exact ⟨a1, a2, ⟨a3, by omega, a5⟩, a7, Or.inr ⟨q.1, by omega⟩⟩
theorem oz_n0 {dn dd S : Nat} (hR : rI PM s') (h : ozP PM s dn dd S s' x) (hx : ¬ nI x = 0) : isF s' x ∧ s_sz s' x ≤ S := by
  rcases h.2.2.2.2 with h | h
  · exact absurd (by rw [h]; rfl) hx
  · exact h
end OPD

