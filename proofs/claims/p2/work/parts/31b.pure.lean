/-! The definition that a row asks for. -/
def o_def (x pr : Int32) (DA : Nat → Option Nat) : Option Nat := if k_isPred x pr = 0 then none else DA x.toNatClampNeg
def dAll (cR : ClassId) (pl : va_W) (pr : Int32) (DA : Nat → Option Nat) (DS : Nat → FR) : Prop := ∀ (x : Int32) (a : Nat), o_def x pr DA = some a → fIn cR pl a (DS x.toNatClampNeg)
def o_row (x pr : Int32) (DA : Nat → Option Nat) (DS : Nat → FR) (f : Nat → Int32) (n z : Int32) : RS := if (o_def x pr DA).isSome then r_open (DS x.toNatClampNeg).2 (DS x.toNatClampNeg).1 f n z else (f, n, z)
theorem o_row_ok {x pr : Int32} {DA : Nat → Option Nat} {DS : Nat → FR} {f : Nat → Int32} {n z : Int32} (h : r_ok n) : r_ok (o_row x pr DA DS f n z).2.1 := by
  unfold o_row
  by_cases c : (o_def x pr DA).isSome = true
  · rw [if_pos c]; exact r_open_ok h
  · rw [if_neg c]; exact h
theorem o_def_a {x pr : Int32} {DA : Nat → Option Nat} (c : k_isPred x pr = 0) : o_def x pr DA = none := by unfold o_def; rw [if_pos c]
theorem o_def_b {x pr : Int32} {DA : Nat → Option Nat} {o : Option Nat} (c : ¬ k_isPred x pr = 0) (h : DA x.toNatClampNeg = o) : o_def x pr DA = o := by unfold o_def; rw [if_neg c]; exact h

