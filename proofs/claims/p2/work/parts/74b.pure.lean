/-! The ways: their negations in the hand. -/
def wyI (PM : Nat → Nat) (s s1 : St) (j m : Nat) : Prop := rI PM s1 ∧ sExt s s1 ∧ (s_n s1 ≤ s_n s + j ∧ s_dt s1 ≤ s_dt s + j ∧ s_h s1 = s_h s + j) ∧ (∀ i, i < j → s1.2.2.1 10 (s_h s + i) = nI (s_hd s1 (s_h s + i)) ∧ isF s1 (s_hd s1 (s_h s + i))) ∧ sumN (fun i => s_sz s1 (s_hd s1 (s_h s + i))) j ≤ m + j ∧ m ≤ 300
section WAYS
variable {PM : Nat → Nat} {s s1 s2 s3 : St} {j m m' x w : Nat}
theorem nI_n0 (h1 : 1 ≤ x) (h2 : x < 131072) : ¬ nI x = 0 := fun h => by
  have q : nI x = nI 0 := h
  have := (nI_eq (by omega) (by omega)).mp q
  omega
theorem sz_3 (hR : rI PM s) (hf : isF s x) (hk : s_kd s x = 3) : s_sz s x = 1 := by
  have o := rI_o hR hf.1.1 hf.1.2
  have el : s_ln s x = 0 := by
    rcases o.2.2.2.2.2.2 with ⟨_, h⟩ | ⟨_, h, _⟩ | ⟨h, _⟩ | ⟨h, _⟩ | ⟨h, _⟩ | ⟨h, _⟩ | ⟨h, _⟩
    · exact h
    · exact h
    all_goals (rw [h] at hk; exact absurd hk (by decide))
  rw [o.2.2.2.1, el]; rfl
theorem wy_0 (hR : rI PM s) : wyI PM s s 0 0 := ⟨hR, sExt_refl, ⟨Nat.le_refl _, Nat.le_refl _, rfl⟩, fun i h => absurd h (Nat.not_lt_zero i), Nat.le_refl _, Nat.zero_le _⟩
theorem wy_1 (h : wyI PM s s1 j m) (q1 : notP PM s1 w s2 x) (q2 : giveP PM s2 (nI x) s3) (h1 : s_sz s3 x ≤ (m' - m) + 1) (h2 : m ≤ m') (h3 : m' ≤ 300) : wyI PM s s3 (j + 1) m' := by
  obtain ⟨a1, a2, ⟨a3, a4, a5⟩, a6, a7, a8⟩ := h
  obtain ⟨b1, b2, ⟨_, _, ⟨b3, b4, b5, b6⟩, ⟨b7, b8⟩, b9⟩, b10, b11⟩ := fm_not q1
  obtain ⟨c1, c2, ⟨c3, c4, c5, c6⟩, c7, c8, c9⟩ := q2
  have hn := rI_n b1
  have hE := sExt_trans b2 c2
  have old : ∀ i, i < j → s_hd s3 (s_h s + i) = s_hd s1 (s_h s + i) ∧ s3.2.2.1 10 (s_h s + i) = s1.2.2.1 10 (s_h s + i) := fun i hi => by
    have e : s3.2.2.1 10 (s_h s + i) = s1.2.2.1 10 (s_h s + i) := by rw [c7 _ (by omega), b7 _ (by omega)]
    exact ⟨by unfold s_hd; rw [e], e⟩
  have new : s_hd s3 (s_h s + j) = x ∧ s3.2.2.1 10 (s_h s + j) = nI x := by
    have e : s3.2.2.1 10 (s_h s + j) = nI x := by rw [show s_h s + j = s_h s2 by omega, c8]
    exact ⟨by unfold s_hd; rw [e]; exact nI_clamp (by have := b10.1.2; omega), e⟩
  refine ⟨c1, sExt_trans a2 hE, ⟨by omega, by omega, by omega⟩, fun i hi => ?_, ?_, h3⟩
  · by_cases c : i = j
    · subst c
      rw [new.1, new.2]; exact ⟨rfl, isF_ext b10 c2⟩
    · obtain ⟨o1, o2⟩ := old i (by omega)
      rw [o1, o2]; exact ⟨(a6 i (by omega)).1, isF_ext (a6 i (by omega)).2 hE⟩
  · show sumN (fun i => s_sz s3 (s_hd s3 (s_h s + i))) j + s_sz s3 (s_hd s3 (s_h s + j)) ≤ m' + (j + 1)
    rw [new.1, sumN_eq (g' := fun i => s_sz s1 (s_hd s1 (s_h s + i))) (fun i hi => by
      show s_sz s3 (s_hd s3 (s_h s + i)) = s_sz s1 (s_hd s1 (s_h s + i))
      rw [(old i hi).1, e_sz hE (a6 i hi).2.1.1 (a6 i hi).2.1.2])]
    omega
theorem wy_hand (h : wyI PM s s1 j m) : s_h s1 - s_h s = j ∧ s_h s ≤ s_h s1 ∧ handOK s1 (s_h s) ∧ (∀ i, i < s_h s1 - s_h s → isF s1 (hdF s1 (s_h s) i)) ∧ sumN (fun i => s_sz s1 (hdF s1 (s_h s) i)) (s_h s1 - s_h s) ≤ m + j := by
  obtain ⟨a1, a2, ⟨a3, a4, a5⟩, a6, a7, a8⟩ := h
  have e : s_h s1 - s_h s = j := by omega
  refine ⟨e, by omega, fun i g1 g2 => ?_, fun i hi => (a6 i (by omega)).2, by rw [e]; exact a7⟩
  obtain ⟨q1, q2⟩ := a6 (i - s_h s) (by omega)
  rw [show s_h s + (i - s_h s) = i by omega] at q1 q2
  exact ⟨q1, q2.1⟩
end WAYS

