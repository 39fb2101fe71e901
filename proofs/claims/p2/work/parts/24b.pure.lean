def q_addT (x fc : Int32) (FA : Nat → Option Nat) (FS : Nat → FR) (f : Nat → Int32) (n z : Int32) : RS := if (q_at p_term x fc FA FS).isSome then r_add ((FS x.toNatClampNeg).2 ((0 : Int32).toNatClampNeg)) f n z else (f, n, z)
theorem q_addT_ok {x fc : Int32} {FA : Nat → Option Nat} {FS : Nat → FR} {f : Nat → Int32} {n z : Int32} (h : r_ok n) : r_ok (q_addT x fc FA FS f n z).2.1 := by
  unfold q_addT
  by_cases c : (q_at p_term x fc FA FS).isSome = true
  · rw [if_pos c]; exact r_add_ok h
  · rw [if_neg c]; exact h
def a_many (x : Int32) (MA : Nat → Int32) : Int32 := if x = -1 then 2 else MA x.toNatClampNeg
def a_code (x : Int32) (MA : Nat → Int32) : Int32 := if x = -1 then 4 else (x * 3 + MA x.toNatClampNeg) <<< ((4 : Int32) &&& 31) ||| 5
def a_ok (x1 x2 x3 pr : Int32) (MA : Nat → Int32) (fc : Int32) (FA : Nat → Option Nat) (FS : Nat → FR) : Prop :=
  (x1 = -1 ∨ ¬ k_isPred x1 pr = 0) ∧ ¬ q_orNone p_term x2 (if a_many x1 MA ≤ 0 then 0 else 1) fc FA FS = 0 ∧ ¬ q_orNone p_term x3 (if a_many x1 MA ≤ 1 then 0 else 1) fc FA FS = 0
def a_row (x1 x2 x3 : Int32) (MA : Nat → Int32) (fc : Int32) (FA : Nat → Option Nat) (FS : Nat → FR) (f : Nat → Int32) : RS :=
  let a := q_addT x2 fc FA FS (upd f ((0 : Int32).toNatClampNeg) (a_code x1 MA)) 1 0
  q_addT x3 fc FA FS a.1 a.2.1 a.2.2
theorem isPred_in {x pr : Int32} (h : ¬ k_isPred x pr = 0) : vp_in x 30 := by
  unfold k_isPred at h
  by_cases c1 : x < 0
  · rw [if_pos c1] at h; exact absurd rfl h
  · rw [if_neg c1] at h
    by_cases c2 : pr ≤ x
    · rw [if_pos c2] at h; exact absurd rfl h
    · rw [if_neg c2] at h
      by_cases c3 : 30 ≤ x
      · rw [if_pos c3] at h; exact absurd rfl h
      · have q1 := i_nlt c1; have q2 := i_nle c3
        rw [i0] at q1; rw [show (30 : Int32).toInt = 30 from by decide] at q2
        exact vp_in_iff.mpr ⟨q1, q2⟩
theorem r_alike_01 {g : Nat → Int32} {k y : Int32} {f : Nat → Int32} {n z : Int32} : r_alike g k y f n z = 0 ∨ r_alike g k y f n z = 1 := by
  unfold r_alike
  by_cases c1 : z = 0
  · rw [if_pos c1]
    by_cases c2 : y = 0
    · rw [if_pos c2]
      by_cases c3 : n = k
      · rw [if_pos c3]
        by_cases c4 : r_has 0 0 g k f n = 0
        · rw [if_pos c4]; exact Or.inl rfl
        · rw [if_neg c4]; exact Or.inr rfl
      · rw [if_neg c3]; exact Or.inl rfl
    · rw [if_neg c2]; exact Or.inl rfl
  · rw [if_neg c1]; exact Or.inl rfl

