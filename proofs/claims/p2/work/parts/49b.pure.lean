/-! Terms put for terms in a node: its parts one by one, then the node anew. -/
def subP (PM : Nat → Nat) (s : St) (n : Nat) (s' : St) (x : Nat) : Prop :=
  rI PM s' ∧ sExt s s' ∧ (s_n s' ≤ s_n s + s_sz s n ∧ s_dt s' + 1 ≤ s_dt s + s_sz s n ∧ s_h s' = s_h s ∧ s_p s' = s_p s) ∧ ((∀ i, i < s_h s → s'.2.2.1 10 i = s.2.2.1 10 i) ∧ s'.2.2.1 11 = s.2.2.1 11) ∧ (1 ≤ x ∧ x ≤ s_n s') ∧ simK s n s' x
section SUB
variable {PM : Nat → Nat} {s s1 s2 s3 s' : St} {n j r x c : Nat}
theorem sumN_lt {g : Nat → Nat} : ∀ {m j : Nat}, j < m → sumN g j + g j ≤ sumN g m
  | 0, j, h => absurd h (by omega)
  | m + 1, j, h => by
    show _ ≤ sumN g m + g m
    by_cases e : j = m
    · subst e; exact Nat.le_refl _
    · have := sumN_lt (g := g) (show j < m by omega); omega
theorem sumN_cnt {g : Nat → Nat} : ∀ {m : Nat}, (∀ j, j < m → 1 ≤ g j) → m ≤ sumN g m
  | 0, _ => Nat.le_refl _
  | m + 1, h => by
    show m + 1 ≤ sumN g m + g m
    have := sumN_cnt (g := g) (m := m) (fun j hj => h j (by omega))
    have := h m (by omega)
    omega
abbrev szC (s : St) (n : Nat) : Nat → Nat := fun j => s_sz s (s_ch s n j)
def lpI (PM : Nat → Nat) (s : St) (n j : Nat) (s1 : St) : Prop :=
  rI PM s1 ∧ sExt s s1 ∧ (s_n s1 ≤ s_n s + sumN (szC s n) j ∧ s_dt s1 + j ≤ s_dt s + sumN (szC s n) j ∧ s_h s1 = s_h s + j ∧ s_p s1 = s_p s) ∧ ((∀ i, i < s_h s → s1.2.2.1 10 i = s.2.2.1 10 i) ∧ s1.2.2.1 11 = s.2.2.1 11) ∧
  ∀ i, i < j → s1.2.2.1 10 (s_h s + i) = nI (s_hd s1 (s_h s + i)) ∧ (1 ≤ s_hd s1 (s_h s + i) ∧ s_hd s1 (s_h s + i) ≤ s_n s1) ∧ simK s (s_ch s n i) s1 (s_hd s1 (s_h s + i))
theorem lp_0 (hR : rI PM s) : lpI PM s n 0 s := ⟨hR, sExt_refl, ⟨Nat.le_add_right _ _, Nat.le_refl _, rfl, rfl⟩, ⟨fun _ _ => rfl, rfl⟩, fun i h => absurd h (Nat.not_lt_zero i)⟩
theorem ch_b (hR : rI PM s) (h1 : 1 ≤ n) (h2 : n ≤ s_n s) (hj : j < s_ln s n) : (1 ≤ s_ch s n j ∧ s_ch s n j ≤ s_n s) ∧ s_ch s n j < n := by
  have q := (rI_o hR h1 h2).2.2.1 j hj
  exact ⟨⟨q.2.1, by omega⟩, q.2.2⟩
theorem lp_1 (hR : rI PM s) (h1 : 1 ≤ n) (h2 : n ≤ s_n s) (hj : j < s_ln s n) (h : lpI PM s n j s1) (hs : subP PM s1 (s_ch s n j) s2 r) (hg : giveP PM s2 (nI r) s3) : lpI PM s n (j + 1) s3 := by
  have hC := (ch_b hR h1 h2 hj).1
  obtain ⟨a1, a2, ⟨a3, a4, a5, a6⟩, ⟨a7, a8⟩, a9⟩ := h
  obtain ⟨b1, b2, ⟨b3, b4, b5, b6⟩, ⟨b7, b8⟩, b9, b10⟩ := hs
  obtain ⟨c1, c2, ⟨c3, c4, c5, c6⟩, c7, c8, c9⟩ := hg
  rw [e_sz a2 hC.1 hC.2] at b3 b4
  have eS : sumN (szC s n) (j + 1) = sumN (szC s n) j + s_sz s (s_ch s n j) := rfl
  have hn := rI_n b1
  refine ⟨c1, sExt_trans (sExt_trans a2 b2) c2, ⟨by omega, by omega, by omega, by omega⟩, ⟨fun i hi => ?_, ?_⟩, fun i hi => ?_⟩
  · rw [c7 i (by omega), b7 i (by omega)]; exact a7 i hi
  · rw [c9, b8, a8]
  · by_cases ci : i = j
    · subst ci
      have e : s_hd s3 (s_h s + i) = r := by unfold s_hd; rw [show s_h s + i = s_h s2 by omega, c8]; exact nI_clamp (by have := b9.2; omega)
      rw [e]
      refine ⟨by rw [show s_h s + i = s_h s2 by omega, c8], ⟨b9.1, by have := b9.2; omega⟩, ?_⟩
      exact sim_ext b1 (sim_from hR hC.1 hC.2 a2 b10) b9.1 b9.2 c2
    · obtain ⟨p1, p2, p3⟩ := a9 i (by omega)
      have e0 : s3.2.2.1 10 (s_h s + i) = s1.2.2.1 10 (s_h s + i) := by rw [c7 _ (by omega), b7 _ (by omega)]
      have e : s_hd s3 (s_h s + i) = s_hd s1 (s_h s + i) := by unfold s_hd; rw [e0]
      rw [e, e0]
      have hE13 := sExt_trans b2 c2
      exact ⟨p1, ⟨p2.1, Nat.le_trans p2.2 hE13.1⟩, sim_ext a1 p3 p2.1 p2.2 hE13⟩
theorem sim_up (hR : rI PM s) (h1 : 1 ≤ c) (h2 : c ≤ s_n s) (hE : sExt s s1) (h : simK s c s2 r) : simK s1 c s2 r := by
  obtain ⟨h, hs⟩ := h
  refine ⟨?_, by rw [e_sz hE h1 h2]; exact hs⟩
  rw [e_kd hE h1 h2]
  rcases h with h | ⟨a, b, d⟩
  · exact Or.inl h
  · refine Or.inr ⟨a, b, fun q => ?_⟩
    obtain ⟨k1, k2, k3, k4⟩ := nf_6 hR h1 h2 q
    rw [e_ch hE h1 h2 (rI_o hR h1 h2) (by omega), e_kd hE k2.1.1 k2.1.2]
    exact d q
theorem lp_H (hR : rI PM s) (h1 : 1 ≤ n) (h2 : n ≤ s_n s) (h : lpI PM s n (s_ln s n) s1) : agH s1 n (s_h s) := by
  obtain ⟨a1, a2, ⟨a3, a4, a5, a6⟩, ⟨a7, a8⟩, a9⟩ := h
  have el : s_ln s1 n = s_ln s n := e_ln a2 h1 h2
  refine ⟨by omega, by omega, fun j g1 g2 => ?_, fun j hj => ?_⟩
  · obtain ⟨p1, p2, p3⟩ := a9 (j - s_h s) (by omega)
    rw [show s_h s + (j - s_h s) = j by omega] at p1 p2
    exact ⟨p1, p2⟩
  · rw [el] at hj
    have hC := (ch_b hR h1 h2 hj).1
    rw [e_ch a2 h1 h2 (rI_o hR h1 h2) hj]
    exact sim_up hR hC.1 hC.2 a2 (a9 j hj).2.2
theorem lp_end (hR : rI PM s) (h1 : 1 ≤ n) (h2 : n ≤ s_n s) (h : lpI PM s n (s_ln s n) s1) (ha : agP PM s1 n (s_h s) s2 x) : subP PM s n s2 x := by
  have ez := (rI_o hR h1 h2).2.2.2.1
  obtain ⟨a1, a2, ⟨a3, a4, a5, a6⟩, ⟨a7, a8⟩, a9⟩ := h
  obtain ⟨b1, b2, ⟨b3, b4, b5, b6⟩, ⟨b7, b8⟩, b9, b10⟩ := ha
  rw [e_ln a2 h1 h2] at b4
  have eS : sumN (szC s n) (s_ln s n) = sumN (fun j => s_sz s (s_ch s n j)) (s_ln s n) := rfl
  exact ⟨b1, sExt_trans a2 b2, ⟨by omega, by omega, b5, by omega⟩, ⟨fun i hi => (b7 i hi).trans (a7 i hi), b8.trans a8⟩, b9, sim_from hR h1 h2 a2 b10⟩
/-- a node that stays -/
theorem sub_refl (hR : rI PM s) (h1 : 1 ≤ n) (h2 : n ≤ s_n s) : subP PM s n s n := by
  have := sz_pos hR h1 h2
  exact ⟨hR, sExt_refl, ⟨by omega, by omega, rfl, rfl⟩, ⟨fun _ _ => rfl, rfl⟩, ⟨h1, h2⟩, sim_refl⟩
/-- terms are leaves -/
theorem nf_t (hR : rI PM s) (h1 : 1 ≤ n) (h2 : n ≤ s_n s) (hk : s_kd s n < 3) : s_ln s n = 0 ∧ s_sz s n = 1 := by
  have o := rI_o hR h1 h2
  have el : s_ln s n = 0 := by
    rcases o.2.2.2.2.2.2 with ⟨_, h⟩ | ⟨_, h, _⟩ | ⟨h, _⟩ | ⟨h, _⟩ | ⟨h, _⟩ | ⟨h, _⟩ | ⟨h, _⟩
    · exact h
    · exact h
    all_goals (rw [h] at hk; exact absurd hk (by decide))
  refine ⟨el, ?_⟩
  rw [o.2.2.2.1, el]; rfl
/-- a term for a term -/
theorem sub_leaf (hR : rI PM s) (h1 : 1 ≤ n) (h2 : n ≤ s_n s) (hk : s_kd s n < 3) {k o : Int32} {z : Nat} (hk2 : k < 3) (h : rI PM s' ∧ sExt s s' ∧ opP PM s 1 0 s' x ∧ s_kd s' x = k ∧ s_no s' x = o ∧ s_ln s' x = z ∧ s_sz s' x = 1) : subP PM s n s' x := by
  obtain ⟨a1, a2, ⟨_, _, ⟨b3, b4, b5, b6⟩, b7, b9⟩, c1, _, _, c4⟩ := h
  have t := nf_t hR h1 h2 hk
  exact ⟨a1, a2, ⟨by omega, by omega, b5, b6⟩, b7, b9, Or.inl ⟨hk, by rw [c1]; exact hk2⟩, by omega⟩
theorem sub_term (hR : rI PM s) (h1 : 1 ≤ n) (h2 : n ≤ s_n s) (hk : s_kd s n < 3) (x1 : 1 ≤ x) (x2 : x ≤ s_n s) (hk2 : s_kd s x < 3) : subP PM s n s x := by
  have t := nf_t hR h1 h2 hk
  have t2 := nf_t hR x1 x2 hk2
  exact ⟨hR, sExt_refl, ⟨by omega, by omega, rfl, rfl⟩, ⟨fun _ _ => rfl, rfl⟩, ⟨x1, x2⟩, Or.inl ⟨hk, hk2⟩, by omega⟩
/-- the room that the parts have -/
theorem lp_room (hR : rI PM s) (h1 : 1 ≤ n) (h2 : n ≤ s_n s) (h : lpI PM s n j s1) (hj : j < s_ln s n) (hb : s_n s + s_sz s n ≤ 131000 ∧ s_dt s + s_sz s n < 524000 ∧ s_h s + 2 * s_sz s n < 8000 ∧ s_sz s n ≤ 500) :
    (s_n s1 + s_sz s1 (s_ch s n j) ≤ 131000 ∧ s_dt s1 + s_sz s1 (s_ch s n j) < 524000 ∧ s_h s1 + 2 * s_sz s1 (s_ch s n j) < 8000 ∧ s_sz s1 (s_ch s n j) ≤ 500) ∧ s_sz s1 (s_ch s n j) + 1 ≤ s_sz s n := by
  have hC := (ch_b hR h1 h2 hj).1
  have ez := (rI_o hR h1 h2).2.2.2.1
  have l1 := sumN_lt (g := szC s n) hj
  have l2 := sumN_cnt (g := szC s n) (m := j) (fun i hi => sz_pos hR (ch_b hR h1 h2 (by omega)).1.1 (ch_b hR h1 h2 (by omega)).1.2)
  obtain ⟨a1, a2, ⟨a3, a4, a5, a6⟩, _⟩ := h
  rw [e_sz a2 hC.1 hC.2]
  have e1 : szC s n j = s_sz s (s_ch s n j) := rfl
  have e2 : sumN (szC s n) (s_ln s n) = sumN (fun j => s_sz s (s_ch s n j)) (s_ln s n) := rfl
  omega
theorem lp_roomE (hR : rI PM s) (h1 : 1 ≤ n) (h2 : n ≤ s_n s) (h : lpI PM s n (s_ln s n) s1) (hb : s_n s + s_sz s n ≤ 131000 ∧ s_dt s + s_sz s n < 524000 ∧ s_h s + 2 * s_sz s n < 8000 ∧ s_sz s n ≤ 500) : (1 ≤ n ∧ n ≤ s_n s1) ∧ s_n s1 < 131071 ∧ s_dt s1 + s_ln s1 n < 524288 ∧ s_h s1 + s_ln s1 n < 8191 ∧ s_ln s1 n ≤ 1000 := by
  have ez := (rI_o hR h1 h2).2.2.2.1
  have l2 := sumN_cnt (g := szC s n) (m := s_ln s n) (fun i hi => sz_pos hR (ch_b hR h1 h2 hi).1.1 (ch_b hR h1 h2 hi).1.2)
  obtain ⟨a1, a2, ⟨a3, a4, a5, a6⟩, _⟩ := h
  rw [e_ln a2 h1 h2]
  have e2 : sumN (szC s n) (s_ln s n) = sumN (fun j => s_sz s (s_ch s n j)) (s_ln s n) := rfl
  have := a2.1
  omega
end SUB

