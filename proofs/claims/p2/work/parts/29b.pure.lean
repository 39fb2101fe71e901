/-! A block's fields: kind, thesis, waits, leftInCases, latest. -/
abbrev BC : Type := Int32 × Option Nat × Int32 × Int32 × Option Nat
def bIn (pl : va_W) (b : Nat) (B : BC) : Prop := ∃ i : Nat, pl[i]? = some (b, .inr (0, [.int B.1, va_rf B.2.1, .int B.2.2.1, .int B.2.2.2.1, va_rf B.2.2.2.2]))
def bAll (pl : va_W) (BA : Nat → Option Nat) (BS : Nat → BC) : Prop := ∀ i : Nat, i < 40 → ∃ b : Nat, BA i = some b ∧ bIn pl b (BS i)
/-- the open block's fields -/
abbrev bTop (bc : Int32) (BS : Nat → BC) : BC := BS (bc - 1).toNatClampNeg
theorem bOpen {pl : va_W} {BA : Nat → Option Nat} {BS : Nat → BC} {bc : Int32} {b : Nat} (h : bAll pl BA BS) (e : q_openB bc BA = some b) : bIn pl b (bTop bc BS) := by
  unfold q_openB at e
  by_cases c1 : bc ≤ 0
  · rw [if_pos c1] at e; cases e
  · rw [if_neg c1] at e
    by_cases c2 : 40 < bc
    · rw [if_pos c2] at e; cases e
    · rw [if_neg c2] at e
      have q := vp_in_iff.mp (bc_in c1 c2)
      obtain ⟨b', h1, h2⟩ := h (bc - 1).toNatClampNeg (by rw [i_clamp]; omega)
      rw [h1] at e
      cases e
      exact h2
def b_waits (bc : Int32) (BA : Nat → Option Nat) (BS : Nat → BC) : Prop := (q_openB bc BA).isSome = true ∧ ¬ (bTop bc BS).2.2.1 = 0
def b_step (bc nc : Int32) (BA : Nat → Option Nat) (BS : Nat → BC) : Prop := (q_openB bc BA).isSome = true ∧ (bTop bc BS).2.2.1 = 0 ∧ nc < 1000

