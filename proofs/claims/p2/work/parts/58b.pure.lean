/-! What else the reference holds. r.1: where its other arrays lie; r.2.1: how long they are; r.2.2.1: what they hold; r.2.2.2: its counts. Arrays: 0 predMany, 1 predMeans, 2 bKind, 3 bThesis, 4 bCases, 5 bFirst, 6 bWay, 7 bWaits, 8 bGood, 9 sKind, 10 sWhat, 11 sConst, 12 way, 13 forms. Counts: 0 preds, 1 blocks, 2 steps, 3 ways, 4 fit, 5 misses, 6 constants, 7 given. -/
abbrev Rt : Type := (Nat → Nat) × (Nat → Nat) × (Nat → Nat → Int32) × (Nat → Nat)
abbrev fv (r : Rt) (x : Nat) : Nat := (r.2.2.1 13 x).toNatClampNeg
/-- the forms that are there are nodes of a size up to 100 -/
def fmsO (s : St) (r : Rt) : Prop := r.2.2.2 7 ≤ 1000 ∧ ∀ x, x < r.2.2.2 7 → r.2.2.1 13 x = nI (fv r x) ∧ (1 ≤ fv r x ∧ fv r x ≤ s_n s) ∧ s_sz s (fv r x) ≤ 100
def q_isF (x : Int32) (g : Nat) : Int32 := if x < 0 then 0 else if nI g ≤ x then 0 else 1
theorem isF_in {x : Int32} {g : Nat} (hg : g ≤ 1000) (h : ¬ q_isF x g = 0) : ∃ i : Nat, i < g ∧ x = nI i := by
  unfold q_isF at h
  by_cases c1 : x < 0
  · rw [if_pos c1] at h; exact absurd rfl h
  · rw [if_neg c1] at h
    by_cases c2 : nI g ≤ x
    · rw [if_pos c2] at h; exact absurd rfl h
    · obtain ⟨i, hi, e⟩ := nI_of c1
      refine ⟨i, ?_, e⟩
      rw [e] at c2
      rcases Nat.lt_or_ge i g with q | q
      · exact q
      · exact absurd (nI_le q hi) c2
section MQ9
variable {PM : Nat → Nat} {s : St} {r : Rt} {i : Nat}
theorem gt2 {a : Int32} (h : ¬ a ≤ 2) : 3 ≤ a := by
  have q := i_nle h
  rw [show (2 : Int32).toInt = 2 from by decide] at q
  exact i_lem (by rw [show (3 : Int32).toInt = 3 from by decide]; omega)
theorem lt2 {a : Int32} (h : ¬ 2 ≤ a) : a < 3 := by
  have q := i_nle h
  rw [show (2 : Int32).toInt = 2 from by decide] at q
  exact i_ltm (by rw [show (3 : Int32).toInt = 3 from by decide]; omega)
end MQ9

