theorem prs_eq {PM : Nat → Nat} {s s1 : St} {r r1 : Rt} {n a d n1 a1 d1 : Nat} (h : mI PM s r n a d) (h1 : mI PM s1 r1 n1 a1 d1) : r.2.2.2 0 = r1.2.2.2 0 := by
  obtain ⟨_, _, ⟨_, p2, p3⟩, _⟩ := h
  obtain ⟨_, _, ⟨_, q2, q3⟩, _⟩ := h1
  rcases Nat.lt_trichotomy (r.2.2.2 0) (r1.2.2.2 0) with c | c | c
  · have e1 := (p3 _ (Nat.le_refl _)).1
    have e2 := (q2 _ c).2
    omega
  · exact c
  · have e1 := (q3 _ (Nat.le_refl _)).1
    have e2 := (p2 _ c).2
    omega
