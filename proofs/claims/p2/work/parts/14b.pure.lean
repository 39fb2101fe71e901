/-! Codes, and what a step does to a row. -/
def k_v (a : Int32) : Int32 := a >>> ((4 : Int32) &&& 31)
def k_pred (a : Int32) : Int32 := if a &&& 15 = 5 then k_v a / 3 else -1
def k_many (a : Int32) : Int32 := if a &&& 15 = 4 then 2 else if a &&& 15 = 5 then k_v a - k_v a / 3 * 3 else if a &&& 15 = 6 then 1 else if a &&& 15 = 7 then k_v a else if a &&& 15 = 8 then 1 else 0
def k_mark (a : Int32) : Int32 := if a &&& 15 = 1 then k_v a else if a &&& 15 = 2 then -1 - k_v a else if a &&& 15 = 3 then -1 else if a &&& 15 = 4 then -1 else if a &&& 15 = 5 then k_pred a else -1
def r_place (f : Nat → Int32) : Int32 := if f ((0 : Int32).toNatClampNeg) = 6 then 1 else 0
def r_isAll (f : Nat → Int32) : Int32 := if f ((0 : Int32).toNatClampNeg) = 8 then 1 else 0
def r_body (c : Int32) (f : Nat → Int32) (n z : Int32) : RS :=
  if f ((0 : Int32).toNatClampNeg) = 8 then (mapTo (b_body c) (r_drop 1 f n z).1 (r_drop 1 f n z).2.1.toNatClampNeg, (r_drop 1 f n z).2.1, (r_drop 1 f n z).2.2) else (f, n, z)
abbrev h_all (A B : Nat) (f g : Nat → Int32) (L : Nat) : Prop := ∀ i, i < L → f (A + i) = g (B + i)
def r_has (A B : Nat) (g : Nat → Int32) (k : Int32) (f : Nat → Int32) (n : Int32) : Int32 :=
  if k - nI B ≤ n - nI A then (if h_all A B f g (k.toNatClampNeg - B) then 1 else 0) else 0
def r_alike (g : Nat → Int32) (k y : Int32) (f : Nat → Int32) (n z : Int32) : Int32 :=
  if z = 0 then (if y = 0 then (if n = k then (if r_has 0 0 g k f n = 0 then 0 else 1) else 0) else 0) else 0
def r_cut (b : Int32) (g : Nat → Int32) (k : Int32) (f : Nat → Int32) (n z : Int32) : RS :=
  let d := r_drop (1 + k - b) f n z
  if r_parts (f ((0 : Int32).toNatClampNeg)) - r_parts (g ((0 : Int32).toNatClampNeg)) ≤ 1 then d
  else r_put ((r_parts (f ((0 : Int32).toNatClampNeg)) - r_parts (g ((0 : Int32).toNatClampNeg))) <<< ((4 : Int32) &&& 31) ||| 7) d.1 d.2.1 d.2.2
def r_others (g : Nat → Int32) (k y : Int32) (f : Nat → Int32) (n z : Int32) : Int32 × RS :=
  if r_alike g k y f n z = 0 then
    (if r_isAnd g = 0 then
      (if r_isAnd f = 0 then (0, f, n, z) else if r_has 1 0 g k f n = 0 then (0, f, n, z) else (1, r_cut 0 g k f n z))
     else (if r_isAnd f = 0 then (0, f, n, z) else if r_has 1 1 g k f n = 0 then (0, f, n, z) else (1, r_cut 1 g k f n z)))
  else (1, r_set 3 f)
/-- which steps are done to NOT of the thesis -/
def r_turn (k : Int32) : Int32 := if k = 3 then 1 else if k = 1 then 1 else if k = 4 then 1 else 0
def r_inner (k a : Int32) (g : Nat → Int32) (m y : Int32) (f : Nat → Int32) (n z : Int32) : Int32 × RS :=
  if k = 0 then (r_isAll f, r_body a f n z) else if k = 3 then (r_isAll f, r_body a f n z) else r_others g m y f n z
def r_step (k a : Int32) (g : Nat → Int32) (m y : Int32) (f : Nat → Int32) (n z : Int32) : Int32 × RS :=
  if r_turn k = 0 then r_inner k a g m y f n z else
    let b := r_neg f n z; let c := r_inner k a g m y b.1 b.2.1 b.2.2; (c.1, r_neg c.2.1 c.2.2.1 c.2.2.2)
theorem r_body_ok {c : Int32} {f : Nat → Int32} {n z : Int32} (h : r_ok n) : r_ok (r_body c f n z).2.1 := by
  unfold r_body
  by_cases c1 : f ((0 : Int32).toNatClampNeg) = 8
  · rw [if_pos c1]; exact r_drop_ok h
  · rw [if_neg c1]; exact h
theorem r_cut_ok {b : Int32} {g : Nat → Int32} {k : Int32} {f : Nat → Int32} {n z : Int32} (h : r_ok n) : r_ok (r_cut b g k f n z).2.1 := by
  unfold r_cut
  by_cases c1 : r_parts (f ((0 : Int32).toNatClampNeg)) - r_parts (g ((0 : Int32).toNatClampNeg)) ≤ 1
  · show r_ok (ite _ _ _ : RS).2.1; rw [if_pos c1]; exact r_drop_ok h
  · show r_ok (ite _ _ _ : RS).2.1; rw [if_neg c1]; exact r_put_ok (r_drop_ok h)
theorem r_others_ok {g : Nat → Int32} {k y : Int32} {f : Nat → Int32} {n z : Int32} (h : r_ok n) : r_ok (r_others g k y f n z).2.2.1 := by
  unfold r_others
  by_cases c1 : r_alike g k y f n z = 0
  · rw [if_pos c1]
    by_cases c2 : r_isAnd g = 0
    · rw [if_pos c2]
      by_cases c3 : r_isAnd f = 0
      · rw [if_pos c3]; exact h
      · rw [if_neg c3]
        by_cases c4 : r_has 1 0 g k f n = 0
        · rw [if_pos c4]; exact h
        · rw [if_neg c4]; exact r_cut_ok h
    · rw [if_neg c2]
      by_cases c3 : r_isAnd f = 0
      · rw [if_pos c3]; exact h
      · rw [if_neg c3]
        by_cases c4 : r_has 1 1 g k f n = 0
        · rw [if_pos c4]; exact h
        · rw [if_neg c4]; exact r_cut_ok h
  · rw [if_neg c1]; exact (by decide : r_ok 1)
theorem r_inner_ok {k a : Int32} {g : Nat → Int32} {m y : Int32} {f : Nat → Int32} {n z : Int32} (h : r_ok n) : r_ok (r_inner k a g m y f n z).2.2.1 := by
  unfold r_inner
  by_cases c1 : k = 0
  · rw [if_pos c1]; exact r_body_ok h
  · rw [if_neg c1]
    by_cases c2 : k = 3
    · rw [if_pos c2]; exact r_body_ok h
    · rw [if_neg c2]; exact r_others_ok h
theorem r_step_ok {k a : Int32} {g : Nat → Int32} {m y : Int32} {f : Nat → Int32} {n z : Int32} (h : r_ok n) : r_ok (r_step k a g m y f n z).2.2.1 := by
  unfold r_step
  by_cases c1 : r_turn k = 0
  · rw [if_pos c1]; exact r_inner_ok h
  · rw [if_neg c1]; exact r_neg_ok (r_inner_ok (r_neg_ok h))
/-- a row's length behind a place, as a number -/
theorem has_len {k n : Int32} {A B : Nat} (hk : r_ok k) (hn : r_ok n) (hA : A ≤ 1) (hB : B ≤ 1) : k - nI B = nI (k.toNatClampNeg - B) ∧ (k - nI B).toInt = k.toInt - B ∧ (n - nI A).toInt = n.toInt - A ∧ 1 ≤ k.toInt ∧ k.toInt ≤ 512 ∧ 1 ≤ n.toInt ∧ n.toInt ≤ 512 := by
  have a1 := i_le hk.1; have a2 := i_le hk.2; have a3 := i_le hn.1; have a4 := i_le hn.2
  rw [i1] at a1 a3; rw [i512] at a2 a4
  have eB : (nI B).toInt = B := nI_toInt (by omega)
  have eA : (nI A).toInt = A := nI_toInt (by omega)
  have e1 : (k - nI B).toInt = k.toInt - B := i_sub rfl eB (by omega) (by omega)
  have e2 : (n - nI A).toInt = n.toInt - A := i_sub rfl eA (by omega) (by omega)
  refine ⟨Int32.toInt_inj.mp ?_, e1, e2, a1, a2, a3, a4⟩
  rw [e1, i_clamp, nI_toInt (by omega)]; omega
theorem nI_one : (1 : Int32) = nI 1 := by decide +kernel
theorem has_L {k n : Int32} {A B : Nat} (hk : r_ok k) (hn : r_ok n) (hA : A ≤ 1) (hB : B ≤ 1) (c : nI (k.toNatClampNeg - B) ≤ n - nI A) : A + (k.toNatClampNeg - B) ≤ 512 ∧ B + (k.toNatClampNeg - B) ≤ 512 := by
  have q := i_le c
  obtain ⟨e0, e1, e2, a1, a2, a3, a4⟩ := has_len hk hn hA hB
  rw [← e0, e1, e2] at q
  rw [i_clamp]
  constructor <;> omega
theorem nb {x : Int32} (h : x = 0 ∨ x = 1) : narrow FieldType.boolean (.int x) = .int x := by
  rcases h with h | h <;> rw [h] <;> rfl
theorem r_isAll_01 {f : Nat → Int32} : r_isAll f = 0 ∨ r_isAll f = 1 := by
  unfold r_isAll
  by_cases c1 : f ((0 : Int32).toNatClampNeg) = 8
  · rw [if_pos c1]; exact Or.inr rfl
  · rw [if_neg c1]; exact Or.inl rfl
theorem r_others_01 {g : Nat → Int32} {k y : Int32} {f : Nat → Int32} {n z : Int32} : (r_others g k y f n z).1 = 0 ∨ (r_others g k y f n z).1 = 1 := by
  unfold r_others
  by_cases c1 : r_alike g k y f n z = 0
  · rw [if_pos c1]
    by_cases c2 : r_isAnd g = 0
    · rw [if_pos c2]
      by_cases c3 : r_isAnd f = 0
      · rw [if_pos c3]; exact Or.inl rfl
      · rw [if_neg c3]
        by_cases c4 : r_has 1 0 g k f n = 0
        · rw [if_pos c4]; exact Or.inl rfl
        · rw [if_neg c4]; exact Or.inr rfl
    · rw [if_neg c2]
      by_cases c3 : r_isAnd f = 0
      · rw [if_pos c3]; exact Or.inl rfl
      · rw [if_neg c3]
        by_cases c4 : r_has 1 1 g k f n = 0
        · rw [if_pos c4]; exact Or.inl rfl
        · rw [if_neg c4]; exact Or.inr rfl
  · rw [if_neg c1]; exact Or.inr rfl
theorem r_step_01 {k a : Int32} {g : Nat → Int32} {m y : Int32} {f : Nat → Int32} {n z : Int32} : (r_step k a g m y f n z).1 = 0 ∨ (r_step k a g m y f n z).1 = 1 := by
  have h : ∀ (f : Nat → Int32) (n z : Int32), (r_inner k a g m y f n z).1 = 0 ∨ (r_inner k a g m y f n z).1 = 1 := by
    intro f n z
    unfold r_inner
    by_cases c1 : k = 0
    · rw [if_pos c1]; exact r_isAll_01
    · rw [if_neg c1]
      by_cases c2 : k = 3
      · rw [if_pos c2]; exact r_isAll_01
      · rw [if_neg c2]; exact r_others_01
  unfold r_step
  by_cases c1 : r_turn k = 0
  · rw [if_pos c1]; exact h _ _ _
  · rw [if_neg c1]; exact h _ _ _

