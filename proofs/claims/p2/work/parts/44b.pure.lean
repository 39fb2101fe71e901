section DH9
variable {PM : Nat → Nat} {s s2 : St} {fm n : Nat}
/-- what the loop over the new node's parts needs -/
def dH (s2 : St) (fm n : Nat) (g : Nat → Nat) : Prop := fm + n = s_h s2 ∧ (s_h s2 ≤ s2.2.1 10 ∧ s2.2.1 10 ≤ 524288) ∧ (∀ k, k < 8 → s_n s2 < s2.2.1 k ∧ s2.2.1 k ≤ 524288) ∧ (s_dt s2 + n < s2.2.1 9 ∧ s2.2.1 9 ≤ 524288) ∧
  ∀ j, j < n → s2.2.2.1 10 (fm + j) = nI (s_hd s2 (fm + j)) ∧ s_hd s2 (fm + j) < s_n s2 ∧ s2.2.2.1 4 (s_hd s2 (fm + j)) = nI (g j)
theorem dH_of (hR : rI PM s) (hf : fm ≤ s_h s) (hc : handOK s fm) (hb : s_n s < 131071) (hd : s_dt s + (s_h s - fm) < 524288) (hn : s_h s - fm ≤ 1000) (hm : moreP s s2 (s_h s - fm)) : dH s2 fm (s_h s - fm) (fun j => s_sz s (s_hd s (fm + j))) := by
  obtain ⟨m1, m2, m3, m4, m5, m6, m7, m8⟩ := hm
  obtain ⟨q1, q9⟩ := more_cap hR hb hd hn
  have hhd : ∀ j, s_hd s2 j = s_hd s j := fun j => by unfold s_hd; rw [m4.2.1]
  have c10 := capN_b (by decide) hR.2.2.2.1.1
  refine ⟨by rw [m7]; omega, ⟨by rw [m7, m3.2.1]; exact hR.2.2.2.1.2, by rw [m3.2.1]; exact c10.2⟩, fun k hk => ?_, ⟨by rw [m6, m2.1]; exact (mx_b (n := s_dt s + (s_h s - fm)) (N := s.2.1 9)).2, by rw [m2.1]; exact (capN_b (by decide) q9).2⟩, fun j hj => ?_⟩
  · rw [m5, (m1 k hk).1]
    exact ⟨(mx_b (n := s_n s + 1) (N := s.2.1 k)).2, (capN_b (by decide) (q1 k hk)).2⟩
  · have q := hc (fm + j) (by omega) (by omega)
    rw [hhd, m4.2.1, m5]
    refine ⟨q.1, by omega, ?_⟩
    rw [(m1 4 (by decide)).2 _ (by have := (hR.1 4 (by decide)).2; omega)]
    exact (rI_o hR q.2.1 q.2.2).1.2.2.1
theorem more_sum (hm : moreP s s2 n) :
    0 + (mx (s_n s + 1) (s.2.1 0) / 64 - s.2.1 0 / 64) + (mx (s_n s + 1) (s.2.1 1) / 64 - s.2.1 1 / 64) + (mx (s_n s + 1) (s.2.1 2) / 64 - s.2.1 2 / 64) + (mx (s_n s + 1) (s.2.1 3) / 64 - s.2.1 3 / 64) + (mx (s_n s + 1) (s.2.1 4) / 64 - s.2.1 4 / 64) + (mx (s_n s + 1) (s.2.1 5) / 64 - s.2.1 5 / 64) + (mx (s_n s + 1) (s.2.1 6) / 64 - s.2.1 6 / 64) + (mx (s_n s + 1) (s.2.1 7) / 64 - s.2.1 7 / 64) + (mx (s_dt s + n) (s.2.1 9) / 64 - s.2.1 9 / 64) ≤ gc s2 - gc s ∧
    0 + (2 * mx (s_n s + 1) (s.2.1 0) - 2 * s.2.1 0) + (2 * mx (s_n s + 1) (s.2.1 1) - 2 * s.2.1 1) + (2 * mx (s_n s + 1) (s.2.1 2) - 2 * s.2.1 2) + (2 * mx (s_n s + 1) (s.2.1 3) - 2 * s.2.1 3) + (2 * mx (s_n s + 1) (s.2.1 4) - 2 * s.2.1 4) + (2 * mx (s_n s + 1) (s.2.1 5) - 2 * s.2.1 5) + (2 * mx (s_n s + 1) (s.2.1 6) - 2 * s.2.1 6) + (2 * mx (s_n s + 1) (s.2.1 7) - 2 * s.2.1 7) + (2 * mx (s_dt s + n) (s.2.1 9) - 2 * s.2.1 9) ≤ gs s2 - gs s := by
  obtain ⟨e1, e2⟩ := more_use hm
  have c0 := (mx_b (n := s_n s + 1) (N := s.2.1 0)).1; have c1 := (mx_b (n := s_n s + 1) (N := s.2.1 1)).1; have c2 := (mx_b (n := s_n s + 1) (N := s.2.1 2)).1; have c3 := (mx_b (n := s_n s + 1) (N := s.2.1 3)).1
  have c4 := (mx_b (n := s_n s + 1) (N := s.2.1 4)).1; have c5 := (mx_b (n := s_n s + 1) (N := s.2.1 5)).1; have c6 := (mx_b (n := s_n s + 1) (N := s.2.1 6)).1; have c7 := (mx_b (n := s_n s + 1) (N := s.2.1 7)).1
  have c9 := (mx_b (n := s_dt s + n) (N := s.2.1 9)).1
  rw [e1, e2]
  unfold gc gs
  constructor <;> omega
end DH9

