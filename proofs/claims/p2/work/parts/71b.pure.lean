/-! What holds of the reference between two calls: s its store, r what else it holds, n how many calls there were, a and d bounds of what the store holds. -/
abbrev bfs (r : Rt) (b : Nat) : Nat := (r.2.2.1 5 b).toNatClampNeg
abbrev bwy (r : Rt) (b : Nat) : Nat := (r.2.2.1 6 b).toNatClampNeg
abbrev bcs (r : Rt) (b : Nat) : Nat := (r.2.2.1 4 b).toNatClampNeg
def cnO (PM : Nat → Nat) (s : St) (r : Rt) (a d : Nat) : Prop := rI PM s ∧ s_h s = 0 ∧ s_n s + 103 * r.2.2.2 2 ≤ a ∧ s_dt s + 820 * r.2.2.2 2 ≤ d
def prO (PM : Nat → Nat) (r : Rt) : Prop := r.2.2.2 0 ≤ 30 ∧ (∀ p, p < r.2.2.2 0 → r.2.2.1 0 p = nI (PM p) ∧ PM p ≤ 2) ∧ ∀ p, r.2.2.2 0 ≤ p → PM p = 3 ∧ r.2.2.1 1 p = 0
def ctO (r : Rt) (n : Nat) : Prop := r.2.2.2 1 ≤ 40 ∧ r.2.2.2 4 ≤ 1 ∧ r.2.2.2 2 ≤ n ∧ r.2.2.2 3 ≤ n
def lnO (r : Rt) : Prop := (64 ≤ r.2.1 9 ∧ r.2.1 9 ≤ 1024 ∧ r.2.2.2 2 ≤ r.2.1 9) ∧ (64 ≤ r.2.1 10 ∧ r.2.1 10 ≤ 1024 ∧ r.2.2.2 2 ≤ r.2.1 10) ∧ (64 ≤ r.2.1 11 ∧ r.2.1 11 ≤ 1024 ∧ r.2.2.2 2 ≤ r.2.1 11) ∧ (64 ≤ r.2.1 12 ∧ r.2.1 12 ≤ 1024 ∧ r.2.2.2 3 ≤ r.2.1 12)
def blO (s : St) (r : Rt) : Prop := ∀ b, b < r.2.2.2 1 → ntF s (r.2.2.1 3 b) ∧ (r.2.2.1 2 b = 3 → 1 ≤ b) ∧ r.2.2.1 5 b = nI (bfs r b) ∧ bfs r b ≤ r.2.2.2 2 ∧ ∀ b', b' < b → bfs r b' ≤ bfs r b
def wtO (r : Rt) : Prop := ∀ b, b < r.2.2.2 1 → ¬ r.2.2.1 7 b = 0 → r.2.2.1 6 b = nI (bwy r b) ∧ r.2.2.1 4 b = nI (bcs r b) ∧ bwy r b + bcs r b ≤ r.2.2.2 3 ∧ ∀ b', b' < b → ¬ r.2.2.1 7 b' = 0 → bwy r b' + bcs r b' ≤ bwy r b
def wyO (s : St) (r : Rt) : Prop := ∀ k, k < r.2.2.2 3 → ntF s (r.2.2.1 12 k)
def mI (PM : Nat → Nat) (s : St) (r : Rt) (n a d : Nat) : Prop := cnO PM s r a d ∧ fmO s (r.2.2.1 13) (r.2.2.2 7) ∧ prO PM r ∧ dfO PM s (r.2.2.1 1) ∧ ctO r n ∧ lnO r ∧ blO s r ∧ wtO r ∧ ntO s r ∧ wyO s r
section MI
variable {PM : Nat → Nat} {s s1 : St} {r : Rt} {n a d n' a' d' x y : Nat} {w : Int32}
theorem ntF_ext (h : ntF s w) (hE : sExt s s1) : ntF s1 w := by
  obtain ⟨t, h1, h2, h3⟩ := h
  exact ⟨t, h1, isF_ext h2 hE, by rw [e_sz hE h2.1.1 h2.1.2]; exact h3⟩
theorem ntC_ext (h : ntC s w) (hE : sExt s s1) : ntC s1 w := by
  obtain ⟨t, h1, h2⟩ := h
  exact ⟨t, h1, tm_x h2 hE⟩
theorem mI_le (h : mI PM s r n a d) (h1 : n ≤ n') (h2 : a ≤ a') (h3 : d ≤ d') : mI PM s r n' a' d' := by
  obtain ⟨⟨a1, a2, a3, a4⟩, b1, b2, b3, ⟨c1, c2, c3, c4⟩, b5⟩ := h
  exact ⟨⟨a1, a2, Nat.le_trans a3 h2, Nat.le_trans a4 h3⟩, b1, b2, b3, ⟨c1, c2, Nat.le_trans c3 h1, Nat.le_trans c4 h1⟩, b5⟩
theorem mI_ext (h : mI PM s r n a d) (hR : rI PM s1) (hE : sExt s s1) (hh : s_h s1 = s_h s) (hx : s_n s1 ≤ s_n s + x) (hy : s_dt s1 ≤ s_dt s + y) : mI PM s1 r n (a + x) (d + y) := by
  obtain ⟨⟨a1, a2, a3, a4⟩, b1, b2, b3, b4, b5, b6, b7, b8, b9⟩ := h
  refine ⟨⟨hR, by omega, by omega, by omega⟩, fmO_ext b1 hE, b2, df_ext a1 hE b3, b4, b5, fun b hb => ?_, b7, fun k hk => ?_, fun k hk => ntF_ext (b9 k hk) hE⟩
  · obtain ⟨q1, q2⟩ := b6 b hb
    exact ⟨ntF_ext q1 hE, q2⟩
  · rcases b8 k hk with ⟨g1, g2⟩ | ⟨g1, g2⟩ | ⟨g1, g2, g3⟩
    · exact Or.inl ⟨g1, ntC_ext g2 hE⟩
    · exact Or.inr (Or.inl ⟨g1, ntF_ext g2 hE⟩)
    · exact Or.inr (Or.inr ⟨g1, ntF_ext g2 hE, ntC_ext g3 hE⟩)
theorem mI_form {F : Nat → Int32} {g : Nat} (h : mI PM s r n a d) (hf : fmO s F g) : mI PM s (r.1, r.2.1, sUp r.2.2.1 13 F, sUp r.2.2.2 7 g) n a d := ⟨h.1, hf, h.2.2⟩
theorem mI_form6 {F : Nat → Int32} {g c : Nat} (h : mI PM s r n a d) (hf : fmO s F g) : mI PM s (r.1, r.2.1, sUp r.2.2.1 13 F, sUp (sUp r.2.2.2 6 c) 7 g) n a d := ⟨h.1, hf, h.2.2⟩
theorem mI_c6 {c : Nat} (h : mI PM s r n a d) : mI PM s (r.1, r.2.1, r.2.2.1, sUp r.2.2.2 6 c) n a d := h
theorem mI_th {T : Nat → Int32} {ft m : Nat} (h : mI PM s r n a d) (hb1 : 1 ≤ r.2.2.2 1) (q : rI PM s1 ∧ sExt s s1 ∧ (s_n s1 ≤ s_n s + 100 ∧ s_dt s1 ≤ s_dt s + 100 ∧ s_h s1 = s_h s) ∧ ft ≤ 1 ∧ (T = r.2.2.1 3 ∨ ∃ x, T = upd (r.2.2.1 3) (r.2.2.2 1 - 1) (nI x) ∧ isF s1 x ∧ s_sz s1 x ≤ 100)) : mI PM s1 (r.1, r.2.1, sUp r.2.2.1 3 T, sUp (sUp r.2.2.2 4 ft) 5 m) n (a + 100) (d + 100) := by
  obtain ⟨q1, q2, ⟨q3, q4, q5⟩, q6, q7⟩ := q
  obtain ⟨a1, b1, b2, b3, b4, b5, b6, b7, b8, b9⟩ := mI_ext h q1 q2 q5 q3 q4
  refine ⟨a1, b1, b2, b3, ⟨b4.1, q6, b4.2.2.1, b4.2.2.2⟩, b5, fun b hb => ?_, b7, b8, b9⟩
  obtain ⟨g1, g2⟩ := b6 b hb
  refine ⟨?_, g2⟩
  show ntF s1 (T b)
  rcases q7 with e | ⟨t, e, e1, e2⟩
  · rw [e]; exact g1
  · rw [e]
    by_cases c : b = r.2.2.2 1 - 1
    · rw [c, pk_us]; exact ⟨t, rfl, e1, e2⟩
    · rw [pk_un c]; exact g1
theorem mx_1024 {m N : Nat} (h : 64 ≤ N ∧ N ≤ 1024 ∧ m ≤ N) (hm : m ≤ 511) : 64 ≤ mx m N ∧ mx m N ≤ 1024 ∧ m + 1 ≤ mx m N ∧ mx m N / 64 - N / 64 ≤ 15 ∧ 2 * mx m N - 2 * N ≤ 1916 := by
  by_cases c : m < N
  · rw [mx_no c]; omega
  · rw [mx_up c]; omega
theorem mI_note {k : Int32} {q9 q10 q11 w9 cx : Nat} {K W C : Nat → Int32} (h : mI PM s r n a d) (hn : n ≤ 511)
    (q : (∀ i, i < r.2.2.2 2 → K i = r.2.2.1 9 i ∧ W i = r.2.2.1 10 i ∧ C i = r.2.2.1 11 i) ∧ K (r.2.2.2 2) = k ∧ W (r.2.2.2 2) = nI w9 ∧ C (r.2.2.2 2) = nI cx)
    (hk : (k = 0 ∧ ntC s (nI cx)) ∨ ((k = 1 ∨ k = 2) ∧ ntF s (nI w9)) ∨ (k = 4 ∧ ntF s (nI w9) ∧ ntC s (nI cx))) :
    mI PM s (sUp (sUp (sUp r.1 9 q9) 10 q10) 11 q11, sUp (sUp (sUp r.2.1 9 (mx (r.2.2.2 2) (r.2.1 9))) 10 (mx (r.2.2.2 2) (r.2.1 10))) 11 (mx (r.2.2.2 2) (r.2.1 11)), sUp (sUp (sUp r.2.2.1 9 K) 10 W) 11 C, sUp (sUp r.2.2.2 2 (r.2.2.2 2 + 1)) 4 1) (n + 1) (a + 103) (d + 820) := by
  obtain ⟨⟨a1, a2, a3, a4⟩, b1, b2, b3, ⟨c1, c2, c3, c4⟩, ⟨l1, l2, l3, l4⟩, b6, b7, b8, b9⟩ := h
  have m1 := mx_1024 l1 (by omega)
  have m2 := mx_1024 l2 (by omega)
  have m3 := mx_1024 l3 (by omega)
  refine ⟨⟨a1, a2, ?_, ?_⟩, b1, b2, b3, ⟨c1, Nat.le_refl 1, Nat.succ_le_succ c3, Nat.le_succ_of_le c4⟩, ⟨⟨m1.1, m1.2.1, m1.2.2.1⟩, ⟨m2.1, m2.2.1, m2.2.2.1⟩, ⟨m3.1, m3.2.1, m3.2.2.1⟩, l4⟩, fun b hb => ?_, b7, fun i hi => ?_, b9⟩
  · show s_n s + 103 * (r.2.2.2 2 + 1) ≤ a + 103; omega
  · show s_dt s + 820 * (r.2.2.2 2 + 1) ≤ d + 820; omega
  · obtain ⟨g1, g2, g3, g4, g5⟩ := b6 b hb
    exact ⟨g1, g2, g3, Nat.le_succ_of_le g4, g5⟩
  · show (K i = 0 ∧ ntC s (C i)) ∨ ((K i = 1 ∨ K i = 2) ∧ ntF s (W i)) ∨ (K i = 4 ∧ ntF s (W i) ∧ ntC s (C i))
    have hi2 : i < r.2.2.2 2 + 1 := hi
    by_cases c : i = r.2.2.2 2
    · rw [c, q.2.1, q.2.2.1, q.2.2.2]; exact hk
    · obtain ⟨e1, e2, e3⟩ := q.1 i (by omega)
      rw [e1, e2, e3]; exact b8 i (by omega)
end MI

