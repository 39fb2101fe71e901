/-! Makers of nodes that leave the hand as it was: how many nodes and how much data they may add. -/
def opP (PM : Nat → Nat) (s : St) (dn dd : Nat) (s' : St) (x : Nat) : Prop :=
  rI PM s' ∧ sExt s s' ∧ (s_n s' ≤ s_n s + dn ∧ s_dt s' ≤ s_dt s + dd ∧ s_h s' = s_h s ∧ s_p s' = s_p s) ∧ ((∀ i, i < s_h s → s'.2.2.1 10 i = s.2.2.1 10 i) ∧ s'.2.2.1 11 = s.2.2.1 11) ∧ (1 ≤ x ∧ x ≤ s_n s')
section OP9
variable {PM : Nat → Nat} {s s1 s2 s' : St} {k o : Int32} {x f : Nat}
theorem op_refl (hR : rI PM s) (h1 : 1 ≤ x) (h2 : x ≤ s_n s) : opP PM s 0 0 s x := ⟨hR, sExt_refl, ⟨Nat.le_refl _, Nat.le_refl _, rfl, rfl⟩, ⟨fun _ _ => rfl, rfl⟩, h1, h2⟩
theorem op_mono {dn dd dn' dd' : Nat} (h : opP PM s dn dd s' x) (h1 : dn ≤ dn') (h2 : dd ≤ dd') : opP PM s dn' dd' s' x :=
  ⟨h.1, h.2.1, ⟨by have := h.2.2.1.1; omega, by have := h.2.2.1.2.1; omega, h.2.2.1.2.2⟩, h.2.2.2.1, h.2.2.2.2⟩
/-- one after the other -/
theorem op_trans {dn dd dn' dd' y : Nat} (h : opP PM s dn dd s1 x) (h1 : opP PM s1 dn' dd' s2 y) : opP PM s (dn + dn') (dd + dd') s2 y := by
  obtain ⟨a1, a2, ⟨a3, a4, a5, a6⟩, ⟨a7, a8⟩, a9⟩ := h
  obtain ⟨b1, b2, ⟨b3, b4, b5, b6⟩, ⟨b7, b8⟩, b9⟩ := h1
  exact ⟨b1, sExt_trans a2 b2, ⟨by omega, by omega, by omega, by omega⟩, ⟨fun i hi => (b7 i (by omega)).trans (a7 i hi), b8.trans a8⟩, b9⟩
theorem leaf_ok (h : nodeP PM s k o (s_h s) s' x) : opP PM s 1 0 s' x ∧ s_kd s' x = k ∧ s_no s' x = o ∧ s_ln s' x = 0 ∧ s_sz s' x = 1 := by
  obtain ⟨a1, a2, ⟨a3, a4, a5, a6⟩, ⟨a7, a8⟩, a9, ⟨b1, b2, b3, b4⟩, b5⟩ := h
  rw [Nat.sub_self] at a4 b3 b5
  exact ⟨⟨a1, a2, ⟨a3, a4, a5, a6⟩, ⟨fun i _ => by rw [a7], a8⟩, a9⟩, b1, b2, b3, b5⟩
theorem with_hand (hR : rI PM s) (hf : 1 ≤ f ∧ f ≤ s_n s) (h : giveP PM s (nI f) s1) : s_h s1 - s_h s = 1 ∧ s_hd s1 (s_h s) = f ∧ handOK s1 (s_h s) := by
  obtain ⟨a1, a2, ⟨a3, a4, a5, a6⟩, a7, a8, a9⟩ := h
  have hn := rI_n hR
  have e : s_hd s1 (s_h s) = f := by unfold s_hd; rw [a8]; exact nI_clamp (by omega)
  refine ⟨by omega, e, fun j h1 h2 => ?_⟩
  have ej : j = s_h s := by omega
  subst ej
  rw [e, a8, a3]
  exact ⟨rfl, hf⟩
theorem with_ok (hR : rI PM s) (hf : 1 ≤ f ∧ f ≤ s_n s) (hg : giveP PM s (nI f) s1) (h : nodeP PM s1 k o (s_h s) s' x) : opP PM s 1 1 s' x ∧ s_kd s' x = k ∧ s_no s' x = o ∧ s_ln s' x = 1 ∧ s_ch s' x 0 = f ∧ s_sz s' x = 1 + s_sz s f := by
  obtain ⟨w1, w2, w3⟩ := with_hand hR hf hg
  obtain ⟨c1, c2, ⟨c3, c4, c5, c6⟩, c7, c8, c9⟩ := hg
  obtain ⟨a1, a2, ⟨a3, a4, a5, a6⟩, ⟨a7, a8⟩, a9, ⟨b1, b2, b3, b4⟩, b5⟩ := h
  rw [w1] at a4 b3 b4 b5
  refine ⟨⟨a1, sExt_trans c2 a2, ⟨by omega, by omega, a5, by omega⟩, ⟨fun i hi => by rw [a7]; exact c7 i hi, by rw [a8]; exact c9⟩, a9⟩, b1, b2, b3, ?_, ?_⟩
  · rw [b4 0 (by decide)]; exact w2
  · rw [b5]
    show 1 + (0 + s_sz s1 (s_hd s1 (s_h s + 0))) = _
    rw [Nat.zero_add, Nat.add_zero, w2, e_sz c2 hf.1 hf.2]
/-- the negation -/
abbrev isF (s : St) (x : Nat) : Prop := (1 ≤ x ∧ x ≤ s_n s) ∧ 3 ≤ s_kd s x
def notX (s s' : St) (f x : Nat) : Prop := (s_kd s f = 6 ∧ x = s_ch s f 0) ∨ (¬ s_kd s f = 6 ∧ s_kd s' x = 6 ∧ s_ln s' x = 1 ∧ s_ch s' x 0 = f ∧ s_sz s' x = 1 + s_sz s f)
theorem nf_6 (hR : rI PM s) (h1 : 1 ≤ x) (h2 : x ≤ s_n s) (hk : s_kd s x = 6) : s_ln s x = 1 ∧ isF s (s_ch s x 0) ∧ ¬ s_kd s (s_ch s x 0) = 6 ∧ s_ch s x 0 < x := by
  have o := rI_o hR h1 h2
  have el := nf_len o.2.2.2.2.2.2 (Or.inl hk)
  have q := o.2.2.1 0 (by omega)
  rcases o.2.2.2.2.2.2 with ⟨h, _⟩ | ⟨h, _⟩ | ⟨h, _⟩ | ⟨h, _⟩ | ⟨_, _, h3, h4⟩ | ⟨h, _⟩ | ⟨h, _⟩
  · rw [hk] at h; rcases h with h | h | h <;> exact absurd h (by decide)
  · rw [hk] at h; exact absurd h (by decide)
  · rw [hk] at h; exact absurd h (by decide)
  · rw [hk] at h; exact absurd h (by decide)
  · exact ⟨el, ⟨⟨q.2.1, by omega⟩, h3⟩, h4, q.2.2⟩
  · rw [hk] at h; exact absurd h (by decide)
  · rw [hk] at h; exact absurd h (by decide)
theorem nf_8 (hR : rI PM s) (h1 : 1 ≤ x) (h2 : x ≤ s_n s) (hk : s_kd s x = 8) : s_ln s x = 1 ∧ isF s (s_ch s x 0) ∧ 3 < s_kd s (s_ch s x 0) ∧ s_ch s x 0 < x := by
  have o := rI_o hR h1 h2
  have el := nf_len o.2.2.2.2.2.2 (Or.inr hk)
  have q := o.2.2.1 0 (by omega)
  rcases o.2.2.2.2.2.2 with ⟨h, _⟩ | ⟨h, _⟩ | ⟨h, _⟩ | ⟨h, _⟩ | ⟨h, _⟩ | ⟨h, _⟩ | ⟨_, _, h3⟩
  · rw [hk] at h; rcases h with h | h | h <;> exact absurd h (by decide)
  · rw [hk] at h; exact absurd h (by decide)
  · rw [hk] at h; exact absurd h (by decide)
  · rw [hk] at h; exact absurd h (by decide)
  · rw [hk] at h; exact absurd h (by decide)
  · rw [hk] at h; exact absurd h (by decide)
  · refine ⟨el, ⟨⟨q.2.1, by omega⟩, ?_⟩, h3, q.2.2⟩
    exact Int32.le_of_lt h3
/-- a part is smaller -/
theorem sz_ch (hR : rI PM s) (h1 : 1 ≤ x) (h2 : x ≤ s_n s) {j : Nat} (hj : j < s_ln s x) : s_sz s (s_ch s x j) + 1 ≤ s_sz s x := by
  have o := rI_o hR h1 h2
  rw [o.2.2.2.1]
  have := sumN_ge (g := fun j => s_sz s (s_ch s x j)) hj
  show s_sz s (s_ch s x j) + 1 ≤ _
  have e : (fun j => s_sz s (s_ch s x j)) j = s_sz s (s_ch s x j) := rfl
  omega
def notP (PM : Nat → Nat) (s : St) (f : Nat) (s' : St) (x : Nat) : Prop := rI PM s' ∧ sExt s s' ∧ opP PM s 1 1 s' x ∧ isF s' x ∧ s_sz s' x ≤ s_sz s f + 1 ∧ notX s s' f x
theorem not_a (hR : rI PM s) (hf : isF s f) (hk : s_kd s f = 6) : notP PM s f s (s_ch s f 0) := by
  obtain ⟨a1, a2, a3, a4⟩ := nf_6 hR hf.1.1 hf.1.2 hk
  have := sz_ch hR hf.1.1 hf.1.2 (j := 0) (by omega)
  exact ⟨hR, sExt_refl, op_mono (op_refl hR a2.1.1 a2.1.2) (by omega) (by omega), a2, by omega, Or.inl ⟨hk, rfl⟩⟩
theorem not_b (hk : ¬ s_kd s f = 6) (h : opP PM s 1 1 s' x ∧ s_kd s' x = 6 ∧ s_no s' x = o ∧ s_ln s' x = 1 ∧ s_ch s' x 0 = f ∧ s_sz s' x = 1 + s_sz s f) : notP PM s f s' x := by
  obtain ⟨h1, h2, h3, h4, h5, h6⟩ := h
  exact ⟨h1.1, h1.2.1, h1, ⟨h1.2.2.2.2, by rw [h2]; decide⟩, by omega, Or.inr ⟨hk, h2, h4, h5, h6⟩⟩
def allX (s s' : St) (f x : Nat) : Prop := (s_kd s f = 3 ∧ x = f) ∨ (¬ s_kd s f = 3 ∧ s_kd s' x = 8 ∧ s_ln s' x = 1 ∧ s_ch s' x 0 = f ∧ s_sz s' x = 1 + s_sz s f)
def allP (PM : Nat → Nat) (s : St) (f : Nat) (s' : St) (x : Nat) : Prop := rI PM s' ∧ sExt s s' ∧ opP PM s 1 1 s' x ∧ isF s' x ∧ s_sz s' x ≤ s_sz s f + 1 ∧ allX s s' f x
theorem all_a (hR : rI PM s) (hf : isF s f) (hk : s_kd s f = 3) : allP PM s f s f := ⟨hR, sExt_refl, op_mono (op_refl hR hf.1.1 hf.1.2) (by omega) (by omega), hf, by omega, Or.inl ⟨hk, rfl⟩⟩
theorem all_b (hk : ¬ s_kd s f = 3) (h : opP PM s 1 1 s' x ∧ s_kd s' x = 8 ∧ s_no s' x = o ∧ s_ln s' x = 1 ∧ s_ch s' x 0 = f ∧ s_sz s' x = 1 + s_sz s f) : allP PM s f s' x := by
  obtain ⟨h1, h2, h3, h4, h5, h6⟩ := h
  exact ⟨h1.1, h1.2.1, h1, ⟨h1.2.2.2.2, by rw [h2]; decide⟩, by omega, Or.inr ⟨hk, h2, h4, h5, h6⟩⟩
theorem nf_with (hk : (k = 6 ∧ 3 ≤ s_kd s f ∧ ¬ s_kd s f = 6) ∨ (k = 8 ∧ 3 < s_kd s f)) (hR : rI PM s) (hf : 1 ≤ f ∧ f ≤ s_n s) (hg : giveP PM s (nI f) s1) : nfR PM (s_kd s1) (s_c0 s1) k o (s_h s1 - s_h s) (fun j => s_hd s1 (s_h s + j)) := by
  obtain ⟨w1, w2, w3⟩ := with_hand hR hf hg
  have ek : s_kd s1 f = s_kd s f := e_kd hg.2.1 hf.1 hf.2
  rw [w1]
  rcases hk with ⟨h1, h2, h3⟩ | ⟨h1, h2⟩
  · refine Or.inr (Or.inr (Or.inr (Or.inr (Or.inl ⟨h1, rfl, ?_, ?_⟩))))
    · show 3 ≤ s_kd s1 (s_hd s1 (s_h s)); rw [w2, ek]; exact h2
    · show ¬ s_kd s1 (s_hd s1 (s_h s)) = 6; rw [w2, ek]; exact h3
  · refine Or.inr (Or.inr (Or.inr (Or.inr (Or.inr (Or.inr ⟨h1, rfl, ?_⟩)))))
    show 3 < s_kd s1 (s_hd s1 (s_h s)); rw [w2, ek]; exact h2
theorem lt3 {a : Int32} (h : 3 ≤ a) (h2 : ¬ a = 3) : 3 < a := by
  have q := i_le h
  refine i_ltm ?_
  rcases Int.lt_or_eq_of_le q with q | q
  · exact q
  · exact absurd (Int32.toInt_inj.mp q.symm) h2
end OP9

