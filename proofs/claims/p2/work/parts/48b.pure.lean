/-! What becomes of a node when terms are put for terms in it: a term stays a term, a formula keeps its kind; the size stays. -/
def simK (s : St) (c : Nat) (s' : St) (r : Nat) : Prop := ((s_kd s c < 3 ∧ s_kd s' r < 3) ∨ (3 ≤ s_kd s c ∧ s_kd s' r = s_kd s c ∧ (s_kd s c = 6 → s_kd s' (s_ch s' r 0) = s_kd s (s_ch s c 0)))) ∧ s_sz s' r = s_sz s c
section SIM
variable {PM : Nat → Nat} {s s1 s2 s' : St} {c r x n fm : Nat}
theorem k3 (a : Int32) : a < 3 ∨ 3 ≤ a := by
  rcases Int.lt_or_le a.toInt 3 with q | q
  · exact Or.inl (i_ltm q)
  · exact Or.inr (i_lem q)
theorem sim_refl : simK s c s c := by
  rcases k3 (s_kd s c) with q | q
  · exact ⟨Or.inl ⟨q, q⟩, rfl⟩
  · exact ⟨Or.inr ⟨q, rfl, fun _ => rfl⟩, rfl⟩
theorem sim_ext (hR : rI PM s1) (h : simK s c s1 r) (h1 : 1 ≤ r) (h2 : r ≤ s_n s1) (hE : sExt s1 s2) : simK s c s2 r := by
  obtain ⟨h, hs⟩ := h
  refine ⟨?_, by rw [e_sz hE h1 h2]; exact hs⟩
  rw [e_kd hE h1 h2]
  rcases h with h | ⟨a, b, d⟩
  · exact Or.inl h
  · refine Or.inr ⟨a, b, fun q => ?_⟩
    rw [q] at b
    obtain ⟨k1, k2, k3, k4⟩ := nf_6 hR h1 h2 b
    rw [e_ch hE h1 h2 (rI_o hR h1 h2) (by omega), e_kd hE k2.1.1 k2.1.2]
    exact d q
/-- also where what was there before has grown -/
theorem sim_from (hR : rI PM s) (h1 : 1 ≤ c) (h2 : c ≤ s_n s) (hE : sExt s s1) (h : simK s1 c s2 r) : simK s c s2 r := by
  obtain ⟨h, hs⟩ := h
  rw [e_sz hE h1 h2] at hs
  refine ⟨?_, hs⟩
  rw [e_kd hE h1 h2] at h
  rcases h with h | ⟨a, b, d⟩
  · exact Or.inl h
  · refine Or.inr ⟨a, b, fun q => ?_⟩
    obtain ⟨k1, k2, k3, k4⟩ := nf_6 hR h1 h2 q
    have := d q
    rw [e_ch hE h1 h2 (rI_o hR h1 h2) (by omega), e_kd hE k2.1.1 k2.1.2] at this
    exact this
/-- a node made anew of parts like its own -/
def agP (PM : Nat → Nat) (s : St) (n fm : Nat) (s' : St) (x : Nat) : Prop :=
  rI PM s' ∧ sExt s s' ∧ (s_n s' ≤ s_n s + 1 ∧ s_dt s' ≤ s_dt s + s_ln s n ∧ s_h s' = fm ∧ s_p s' = s_p s) ∧ ((∀ i, i < fm → s'.2.2.1 10 i = s.2.2.1 10 i) ∧ s'.2.2.1 11 = s.2.2.1 11) ∧ (1 ≤ x ∧ x ≤ s_n s') ∧ simK s n s' x
/-- the parts lie in the hand -/
def agH (s : St) (n fm : Nat) : Prop := fm ≤ s_h s ∧ s_h s - fm = s_ln s n ∧ handOK s fm ∧ ∀ j, j < s_ln s n → simK s (s_ch s n j) s (s_hd s (fm + j))
theorem ag_sum (hR : rI PM s) (h1 : 1 ≤ n) (h2 : n ≤ s_n s) (hH : agH s n fm) : 1 + sumN (fun j => s_sz s (s_hd s (fm + j))) (s_h s - fm) = s_sz s n := by
  obtain ⟨a1, a2, a3, a4⟩ := hH
  rw [a2, (rI_o hR h1 h2).2.2.2.1]
  exact congrArg (fun z => 1 + z) (sumN_eq (fun j hj => (a4 j hj).2))
theorem sim_lt {a b : Int32} (h : (a < 3 ∧ b < 3) ∨ (3 ≤ a ∧ b = a)) (ha : a < 3) : b < 3 := by
  rcases h with h | h
  · exact h.2
  · rw [h.2]; exact ha
theorem sim_eq {a b : Int32} (h : (a < 3 ∧ b < 3) ∨ (3 ≤ a ∧ b = a)) (ha : 3 ≤ a) : b = a := by
  rcases h with h | h
  · have q1 := i_lt h.1; have q2 := i_le ha; omega
  · exact h.2
theorem sim_w (h : simK s c s' r) : (s_kd s c < 3 ∧ s_kd s' r < 3) ∨ (3 ≤ s_kd s c ∧ s_kd s' r = s_kd s c) := by
  rcases h.1 with h | ⟨a, b, _⟩
  · exact Or.inl h
  · exact Or.inr ⟨a, b⟩
/-- a node of no more than terms -/
theorem ag_nf (hR : rI PM s) (h1 : 1 ≤ n) (h2 : n ≤ s_n s) (hH : agH s n fm) (h6 : ¬ s_kd s n = 6) (h7 : ¬ s_kd s n = 7) (h8 : ¬ s_kd s n = 8) : nfR PM (s_kd s) (s_c0 s) (s_kd s n) (s_no s n) (s_h s - fm) (fun j => s_hd s (fm + j)) := by
  obtain ⟨a1, a2, a3, a4⟩ := hH
  rw [a2]
  rcases (rI_o hR h1 h2).2.2.2.2.2.2 with h | h | ⟨h, q1, q2⟩ | ⟨h, q1, q2⟩ | ⟨h, _⟩ | ⟨h, _⟩ | ⟨h, _⟩
  · exact Or.inl h
  · exact Or.inr (Or.inl h)
  · exact Or.inr (Or.inr (Or.inl ⟨h, q1, fun j hj => sim_lt (sim_w (a4 j hj)) (q2 j hj)⟩))
  · exact Or.inr (Or.inr (Or.inr (Or.inl ⟨h, q1, fun j hj => sim_lt (sim_w (a4 j hj)) (q2 j hj)⟩)))
  · exact absurd h h6
  · exact absurd h h7
  · exact absurd h h8
theorem ag_node (hR : rI PM s) (h1 : 1 ≤ n) (h2 : n ≤ s_n s) (hH : agH s n fm) (h6 : ¬ s_kd s n = 6) (h : nodeP PM s (s_kd s n) (s_no s n) fm s' x) : agP PM s n fm s' x := by
  have es := ag_sum hR h1 h2 hH
  obtain ⟨a1, a2, a3, a4⟩ := hH
  obtain ⟨b1, b2, ⟨b3, b4, b5, b6⟩, ⟨b7, b8⟩, b9, ⟨c1, c2, c3, c4⟩, c5⟩ := h
  rw [es] at c5
  refine ⟨b1, b2, ⟨b3, by omega, b5, b6⟩, ⟨fun i _ => by rw [b7], b8⟩, b9, ?_, c5⟩
  rw [c1]
  rcases k3 (s_kd s n) with q | q
  · exact Or.inl ⟨q, q⟩
  · exact Or.inr ⟨q, rfl, fun z => absurd z h6⟩
/-- an AND's parts are formulas, none of them to be left out -/
theorem ag_F (hR : rI PM s) (h1 : 1 ≤ n) (h2 : n ≤ s_n s) (hH : agH s n fm) (h7 : s_kd s n = 7) : ∀ j, j < s_h s - fm → isF s (hdF s fm j) ∧ ¬ s_kd s (hdF s fm j) = 3 ∧ ¬ s_kd s (hdF s fm j) = 7 ∧ ¬ nev s (hdF s fm j) := by
  obtain ⟨a1, a2, a3, a4⟩ := hH
  obtain ⟨n1, n2⟩ := nf_7 hR h1 h2 h7
  intro j hj
  obtain ⟨m1, m2, m3⟩ := n2 j (by omega)
  have q := a3 (fm + j) (by omega) (by omega)
  have hs := a4 j (by omega)
  have hk : s_kd s (hdF s fm j) = s_kd s (s_ch s n j) := sim_eq (sim_w hs) (Int32.le_of_lt m1)
  refine ⟨⟨q.2, by rw [hk]; exact Int32.le_of_lt m1⟩, ?_, ?_, fun z => ?_⟩
  · rw [hk]; intro z; rw [z] at m1; exact absurd m1 (by decide)
  · rw [hk]; exact m2
  · obtain ⟨z1, z2⟩ := z
    rw [hk] at z1
    rcases hs.1 with h | ⟨_, _, d⟩
    · have q1 := i_lt h.1; rw [z1] at q1; exact absurd q1 (by decide)
    · have := d z1
      exact m3 ⟨z1, by rw [← this]; exact z2⟩
theorem flA_plain {l : Nat → Nat} : ∀ {m : Nat}, (∀ j, j < m → ¬ s_kd s (l j) = 3 ∧ ¬ s_kd s (l j) = 7) → (flA s l m).length = m ∧ lsum (s_sz s) (flA s l m) = sumN (fun j => s_sz s (l j)) m
  | 0, _ => ⟨rfl, rfl⟩
  | m + 1, h => by
    obtain ⟨a, b⟩ := flA_plain (m := m) (fun j hj => h j (by omega))
    have e : fl1 s (l m) = [l m] := by unfold fl1; rw [if_neg (h m (by omega)).1, if_neg (h m (by omega)).2]
    show (flA s l m ++ fl1 s (l m)).length = m + 1 ∧ lsum (s_sz s) (flA s l m ++ fl1 s (l m)) = sumN (fun j => s_sz s (l j)) m + s_sz s (l m)
    rw [e, List.length_append, lsum_app, a, b]
    exact ⟨rfl, rfl⟩
theorem ag_and (hR : rI PM s) (h1 : 1 ≤ n) (h2 : n ≤ s_n s) (hH : agH s n fm) (h7 : s_kd s n = 7) (h : andP PM s fm s' x) : agP PM s n fm s' x := by
  have es := ag_sum hR h1 h2 hH
  have hF := ag_F hR h1 h2 hH h7
  obtain ⟨n1, n2⟩ := nf_7 hR h1 h2 h7
  obtain ⟨p1, p2⟩ := flA_plain (s := s) (l := hdF s fm) (m := s_h s - fm) (fun j hj => ⟨(hF j hj).2.1, (hF j hj).2.2.1⟩)
  obtain ⟨a1, a2, a3, a4⟩ := hH
  obtain ⟨b1, b2, ⟨b3, b4, b5, b6⟩, ⟨b7, b8⟩, b9, b10⟩ := h
  rw [p1] at b4
  have key : s_kd s' x = 7 ∧ s_sz s' x = s_sz s n := by
    rcases b10 with ⟨j, j1, j2, _⟩ | ⟨_, ⟨q, _⟩ | q | ⟨q1, q2, q3, q4, q5⟩⟩
    · exact absurd j2 (hF j j1).2.2.2
    · rw [q] at p1; have : ([] : List Nat).length = 0 := rfl; omega
    · rw [q] at p1; have : [x].length = 1 := rfl; omega
    · rw [p2] at q5
      exact ⟨q2, q5.trans es⟩
  exact ⟨b1, b2, ⟨b3, by omega, b5, b6⟩, ⟨b7, b8⟩, b9.1, Or.inr ⟨by rw [h7]; decide, by rw [key.1, h7], fun z => by rw [h7] at z; exact absurd z (by decide)⟩, key.2⟩
theorem ag_room (hR : rI PM s) (h1 : 1 ≤ n) (h2 : n ≤ s_n s) (hH : agH s n fm) (h7 : s_kd s n = 7) : (flA s (hdF s fm) (s_h s - fm)).length = s_ln s n ∧ 1 + lsum (s_sz s) (flA s (hdF s fm) (s_h s - fm)) = s_sz s n := by
  have es := ag_sum hR h1 h2 hH
  have hF := ag_F hR h1 h2 hH h7
  obtain ⟨p1, p2⟩ := flA_plain (s := s) (l := hdF s fm) (m := s_h s - fm) (fun j hj => ⟨(hF j hj).2.1, (hF j hj).2.2.1⟩)
  rw [p1, p2]
  exact ⟨hH.2.1, es⟩
/-- the one part of a NOT or an ALL -/
theorem ag_1 (hR : rI PM s) (h1 : 1 ≤ n) (h2 : n ≤ s_n s) (hH : agH s n fm) (hk : s_kd s n = 6 ∨ s_kd s n = 8) : s.2.2.1 10 fm = nI (s_hd s fm) ∧ isF s (s_hd s fm) ∧ s_ln s n = 1 ∧ s_kd s (s_hd s fm) = s_kd s (s_ch s n 0) ∧ s_sz s n = 1 + s_sz s (s_hd s fm) := by
  have es := ag_sum hR h1 h2 hH
  obtain ⟨a1, a2, a3, a4⟩ := hH
  have el := nf_len (rI_o hR h1 h2).2.2.2.2.2.2 hk
  have q := a3 fm (by omega) (by omega)
  have hs := a4 0 (by omega)
  have hf : 3 ≤ s_kd s (s_ch s n 0) := by
    rcases hk with hk | hk
    · exact (nf_6 hR h1 h2 hk).2.1.2
    · exact (nf_8 hR h1 h2 hk).2.1.2
  have e : s_kd s (s_hd s fm) = s_kd s (s_ch s n 0) := sim_eq (sim_w hs) hf
  rw [a2, el] at es
  have e2 : 1 + (0 + s_sz s (s_hd s (fm + 0))) = s_sz s n := es
  rw [Nat.add_zero] at e2
  exact ⟨q.1, ⟨q.2, by rw [e]; exact hf⟩, el, e, by omega⟩
theorem ag_not (hR : rI PM s) (h1 : 1 ≤ n) (h2 : n ≤ s_n s) (hH : agH s n fm) (hk : s_kd s n = 6) (h : notP PM (hsS s fm) (s_hd s fm) s' x) : agP PM s n fm s' x := by
  obtain ⟨q1, q2, q3, q4, q5⟩ := ag_1 hR h1 h2 hH (Or.inl hk)
  have n6 := nf_6 hR h1 h2 hk
  have hH1 := hH.1
  obtain ⟨b1, b2, b3, b4, b5, b6⟩ := h
  rcases b6 with ⟨c1, _⟩ | ⟨c1, c2, c3, c4, c5⟩
  · exact absurd (show s_kd s (s_hd s fm) = 6 from c1) (by rw [q4]; exact n6.2.2.1)
  · have c5' : s_sz s' x = 1 + s_sz s (s_hd s fm) := c5
    have hE : sExt s s' := sExt_trans sExt_hs b2
    obtain ⟨_, _, ⟨d1, d2, d3, d4⟩, ⟨d5, d6⟩, d7⟩ := b3
    refine ⟨b1, hE, ⟨d1, by rw [q3]; exact d2, d3, d4⟩, ⟨fun i hi => d5 i (by show i < fm; exact hi), d6⟩, d7, Or.inr ⟨by rw [hk]; decide, by rw [c2, hk], fun _ => ?_⟩, by omega⟩
    rw [c4, e_kd hE q2.1.1 q2.1.2]; exact q4
theorem ag_all (hR : rI PM s) (h1 : 1 ≤ n) (h2 : n ≤ s_n s) (hH : agH s n fm) (hk : s_kd s n = 8) (h : allP PM (hsS s fm) (s_hd s fm) s' x) : agP PM s n fm s' x := by
  obtain ⟨q1, q2, q3, q4, q5⟩ := ag_1 hR h1 h2 hH (Or.inr hk)
  have n8 := nf_8 hR h1 h2 hk
  obtain ⟨b1, b2, b3, b4, b5, b6⟩ := h
  rcases b6 with ⟨c1, _⟩ | ⟨c1, c2, c3, c4, c5⟩
  · have c1' : s_kd s (s_hd s fm) = 3 := c1
    have := n8.2.2.1
    rw [q4] at c1'
    rw [c1'] at this
    exact absurd this (by decide)
  · have c5' : s_sz s' x = 1 + s_sz s (s_hd s fm) := c5
    have hE : sExt s s' := sExt_trans sExt_hs b2
    obtain ⟨_, _, ⟨d1, d2, d3, d4⟩, ⟨d5, d6⟩, d7⟩ := b3
    exact ⟨b1, hE, ⟨d1, by rw [q3]; exact d2, d3, d4⟩, ⟨fun i hi => d5 i (by show i < fm; exact hi), d6⟩, d7, Or.inr ⟨by rw [hk]; decide, by rw [c2, hk], fun z => by rw [hk] at z; exact absurd z (by decide)⟩, by omega⟩
end SIM

