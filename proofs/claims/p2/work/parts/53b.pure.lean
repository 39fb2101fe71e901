/-! A node read from the page: the store g is the one that it was written from. -/
def psS (s : St) (a : Nat) : St := (s.1, s.2.1, s.2.2.1, sUp s.2.2.2 3 a)
def rdP (PM : Nat → Nat) (s g : St) (n : Nat) (s' : St) (x : Nat) : Prop :=
  rI PM s' ∧ sExt s s' ∧ (s_n s' ≤ s_n s + s_sz g n ∧ s_dt s' + 1 ≤ s_dt s + s_sz g n ∧ s_h s' = s_h s ∧ s_p s' = s_p s + 3 * s_sz g n) ∧ ((∀ i, i < s_h s → s'.2.2.1 10 i = s.2.2.1 10 i) ∧ s'.2.2.1 11 = s.2.2.1 11) ∧ (1 ≤ x ∧ x ≤ s_n s') ∧ simK g n s' x ∧ s_kd s' x = s_kd g n
def rlI (PM : Nat → Nat) (s g : St) (n j : Nat) (s1 : St) : Prop :=
  rI PM s1 ∧ sExt s s1 ∧ (s_n s1 ≤ s_n s + sumN (szC g n) j ∧ s_dt s1 + j ≤ s_dt s + sumN (szC g n) j ∧ s_h s1 = s_h s + j ∧ s_p s1 = s_p s + 3 + 3 * sumN (szC g n) j) ∧ ((∀ i, i < s_h s → s1.2.2.1 10 i = s.2.2.1 10 i) ∧ s1.2.2.1 11 = s.2.2.1 11) ∧
  ∀ i, i < j → s1.2.2.1 10 (s_h s + i) = nI (s_hd s1 (s_h s + i)) ∧ (1 ≤ s_hd s1 (s_h s + i) ∧ s_hd s1 (s_h s + i) ≤ s_n s1) ∧ simK g (s_ch g n i) s1 (s_hd s1 (s_h s + i)) ∧ s_kd s1 (s_hd s1 (s_h s + i)) = s_kd g (s_ch g n i)
section READ
variable {PM : Nat → Nat} {s g s1 s2 s3 s' : St} {n j r x : Nat}
theorem rI_ps {a : Nat} (hR : rI PM s) : rI PM (psS s a) := ⟨hR.1, hR.2.1, hR.2.2.1, hR.2.2.2.1, hR.2.2.2.2.1, hR.2.2.2.2.2⟩
theorem sExt_ps {a : Nat} : sExt s (psS s a) := ⟨Nat.le_refl _, Nat.le_refl _, fun _ _ _ _ _ => rfl, fun _ _ => rfl, Nat.le_refl _, Nat.le_refl _⟩
theorem rl_0 (hR : rI PM s) : rlI PM s g n 0 (psS s (s_p s + 3)) := ⟨rI_ps hR, sExt_ps, ⟨Nat.le_add_right _ _, Nat.le_refl _, rfl, rfl⟩, ⟨fun _ _ => rfl, rfl⟩, fun i h => absurd h (Nat.not_lt_zero i)⟩
theorem rl_1 (h : rlI PM s g n j s1) (hs : rdP PM s1 g (s_ch g n j) s2 r) (hg : giveP PM s2 (nI r) s3) : rlI PM s g n (j + 1) s3 := by
  obtain ⟨a1, a2, ⟨a3, a4, a5, a6⟩, ⟨a7, a8⟩, a9⟩ := h
  obtain ⟨b1, b2, ⟨b3, b4, b5, b6⟩, ⟨b7, b8⟩, b9, b10, b11⟩ := hs
  obtain ⟨c1, c2, ⟨c3, c4, c5, c6⟩, c7, c8, c9⟩ := hg
  have eS : sumN (szC g n) (j + 1) = sumN (szC g n) j + s_sz g (s_ch g n j) := rfl
  have hn := rI_n b1
  refine ⟨c1, sExt_trans (sExt_trans a2 b2) c2, ⟨by omega, by omega, by omega, by omega⟩, ⟨fun i hi => ?_, ?_⟩, fun i hi => ?_⟩
  · rw [c7 i (by omega), b7 i (by omega)]; exact a7 i hi
  · rw [c9, b8, a8]
  · by_cases ci : i = j
    · subst ci
      have e : s_hd s3 (s_h s + i) = r := by unfold s_hd; rw [show s_h s + i = s_h s2 by omega, c8]; exact nI_clamp (by have := b9.2; omega)
      rw [e]
      exact ⟨by rw [show s_h s + i = s_h s2 by omega, c8], ⟨b9.1, by have := b9.2; omega⟩, sim_ext b1 b10 b9.1 b9.2 c2, by rw [e_kd c2 b9.1 b9.2]; exact b11⟩
    · obtain ⟨p1, p2, p3, p4⟩ := a9 i (by omega)
      have e0 : s3.2.2.1 10 (s_h s + i) = s1.2.2.1 10 (s_h s + i) := by rw [c7 _ (by omega), b7 _ (by omega)]
      have e : s_hd s3 (s_h s + i) = s_hd s1 (s_h s + i) := by unfold s_hd; rw [e0]
      rw [e, e0]
      have hE13 := sExt_trans b2 c2
      exact ⟨p1, ⟨p2.1, Nat.le_trans p2.2 hE13.1⟩, sim_ext a1 p3 p2.1 p2.2 hE13, by rw [e_kd hE13 p2.1 p2.2]; exact p4⟩
theorem rl_hand (h : rlI PM s g n (s_ln g n) s1) : handOK s1 (s_h s) ∧ s_h s1 - s_h s = s_ln g n ∧ s_h s ≤ s_h s1 := by
  obtain ⟨a1, a2, ⟨a3, a4, a5, a6⟩, _, a9⟩ := h
  refine ⟨fun j g1 g2 => ?_, by omega, by omega⟩
  obtain ⟨p1, p2, _⟩ := a9 (j - s_h s) (by omega)
  rw [show s_h s + (j - s_h s) = j by omega] at p1 p2
  exact ⟨p1, p2⟩
theorem rl_nf (hG : rI PM g) (h1 : 1 ≤ n) (h2 : n ≤ s_n g) (h : rlI PM s g n (s_ln g n) s1) : nfR PM (s_kd s1) (s_c0 s1) (s_kd g n) (s_no g n) (s_h s1 - s_h s) (fun j => s_hd s1 (s_h s + j)) := by
  rw [(rl_hand h).2.1]
  obtain ⟨_, _, _, _, a9⟩ := h
  rcases (rI_o hG h1 h2).2.2.2.2.2.2 with h | h | ⟨h, q1, q2⟩ | ⟨h, q1, q2⟩ | ⟨h, q1, q2, q3⟩ | ⟨h, q1, q2⟩ | ⟨h, q1, q2⟩
  · exact Or.inl h
  · exact Or.inr (Or.inl h)
  · exact Or.inr (Or.inr (Or.inl ⟨h, q1, fun j hj => by show s_kd s1 (s_hd s1 (s_h s + j)) < 3; rw [(a9 j hj).2.2.2]; exact q2 j hj⟩))
  · exact Or.inr (Or.inr (Or.inr (Or.inl ⟨h, q1, fun j hj => by show s_kd s1 (s_hd s1 (s_h s + j)) < 3; rw [(a9 j hj).2.2.2]; exact q2 j hj⟩)))
  · refine Or.inr (Or.inr (Or.inr (Or.inr (Or.inl ⟨h, q1, ?_, ?_⟩))))
    · show 3 ≤ s_kd s1 (s_hd s1 (s_h s + 0)); rw [(a9 0 (by omega)).2.2.2]; exact q2
    · show ¬ s_kd s1 (s_hd s1 (s_h s + 0)) = 6; rw [(a9 0 (by omega)).2.2.2]; exact q3
  · refine Or.inr (Or.inr (Or.inr (Or.inr (Or.inr (Or.inl ⟨h, q1, fun j hj => ?_⟩)))))
    obtain ⟨m1, m2, m3⟩ := q2 j hj
    obtain ⟨_, _, p3, p4⟩ := a9 j hj
    show 3 < s_kd s1 (s_hd s1 (s_h s + j)) ∧ ¬ s_kd s1 (s_hd s1 (s_h s + j)) = 7 ∧ ¬ (s_kd s1 (s_hd s1 (s_h s + j)) = 6 ∧ s_kd s1 (s_ch s1 (s_hd s1 (s_h s + j)) 0) = 3)
    rw [p4]
    refine ⟨m1, m2, fun z => m3 ⟨z.1, ?_⟩⟩
    rcases p3.1 with w | ⟨_, _, d⟩
    · have w1 := w.1; rw [z.1] at w1; exact absurd w1 (by decide)
    · show s_kd g (s_ch g (s_ch g n j) 0) = 3
      rw [← d z.1]; exact z.2
  · refine Or.inr (Or.inr (Or.inr (Or.inr (Or.inr (Or.inr ⟨h, q1, ?_⟩)))))
    show 3 < s_kd s1 (s_hd s1 (s_h s + 0)); rw [(a9 0 (by omega)).2.2.2]; exact q2
theorem rl_sum (hG : rI PM g) (h1 : 1 ≤ n) (h2 : n ≤ s_n g) (h : rlI PM s g n (s_ln g n) s1) : 1 + sumN (fun j => s_sz s1 (s_hd s1 (s_h s + j))) (s_h s1 - s_h s) = s_sz g n := by
  rw [(rl_hand h).2.1, (rI_o hG h1 h2).2.2.2.1]
  exact congrArg (fun z => 1 + z) (sumN_eq (fun j hj => (h.2.2.2.2 j hj).2.2.1.2))
theorem rl_end (hG : rI PM g) (h1 : 1 ≤ n) (h2 : n ≤ s_n g) (h : rlI PM s g n (s_ln g n) s1) (ha : nodeP PM s1 (s_kd g n) (s_no g n) (s_h s) s2 x) : rdP PM s g n s2 x := by
  have ez := (rI_o hG h1 h2).2.2.2.1
  have es := rl_sum hG h1 h2 h
  have hh := (rl_hand h).2.1
  obtain ⟨a1, a2, ⟨a3, a4, a5, a6⟩, ⟨a7, a8⟩, a9⟩ := h
  obtain ⟨b1, b2, ⟨b3, b4, b5, b6⟩, ⟨b7, b8⟩, b9, ⟨c1, c2, c3, c4⟩, c5⟩ := ha
  rw [hh] at b4 c3 c4
  rw [es] at c5
  have eS : sumN (szC g n) (s_ln g n) = sumN (fun j => s_sz g (s_ch g n j)) (s_ln g n) := rfl
  refine ⟨b1, sExt_trans a2 b2, ⟨by omega, by omega, b5, by omega⟩, ⟨fun i hi => by rw [b7]; exact a7 i hi, by rw [b8]; exact a8⟩, b9, ⟨?_, c5⟩, c1⟩
  rcases k3 (s_kd g n) with q | q
  · exact Or.inl ⟨q, by rw [c1]; exact q⟩
  · refine Or.inr ⟨q, c1, fun z => ?_⟩
    have el := nf_len (rI_o hG h1 h2).2.2.2.2.2.2 (Or.inl z)
    obtain ⟨_, p2, _, p4⟩ := a9 0 (by omega)
    rw [c4 0 (by omega), e_kd b2 p2.1 p2.2]; exact p4
theorem rl_room (hG : rI PM g) (h1 : 1 ≤ n) (h2 : n ≤ s_n g) (h : rlI PM s g n j s1) (hj : j < s_ln g n) (hb : s_n s + s_sz g n ≤ 131000 ∧ s_dt s + s_sz g n < 524000 ∧ s_h s + 2 * s_sz g n < 8000 ∧ s_p s + 3 * s_sz g n < 512) :
    (s_n s1 + s_sz g (s_ch g n j) ≤ 131000 ∧ s_dt s1 + s_sz g (s_ch g n j) < 524000 ∧ s_h s1 + 2 * s_sz g (s_ch g n j) < 8000 ∧ s_p s1 + 3 * s_sz g (s_ch g n j) < 512) ∧ s_sz g (s_ch g n j) + 1 ≤ s_sz g n := by
  have ez := (rI_o hG h1 h2).2.2.2.1
  have l1 := sumN_lt (g := szC g n) hj
  have l2 := sumN_cnt (g := szC g n) (m := j) (fun i hi => sz_pos hG (ch_b hG h1 h2 (by omega)).1.1 (ch_b hG h1 h2 (by omega)).1.2)
  obtain ⟨a1, a2, ⟨a3, a4, a5, a6⟩, _⟩ := h
  have e1 : szC g n j = s_sz g (s_ch g n j) := rfl
  have e2 : sumN (szC g n) (s_ln g n) = sumN (fun j => s_sz g (s_ch g n j)) (s_ln g n) := rfl
  omega
theorem rl_page (h : rlI PM s g n j s1) (hj : j < s_ln g n) (hp : ∀ t, pgT g t (s.2.2.1 11) (s_p s) n) : ∀ t, pgT g t (s1.2.2.1 11) (s_p s1) (s_ch g n j) := by
  intro t
  rw [h.2.2.2.1.2, h.2.2.1.2.2.2]
  exact (hp (t + 1)).2 j hj
end READ

