/-! What the desk's numbers stand for. A form's record: how many codes, and the codes. -/
abbrev FR : Type := Nat × (Nat → Int32)
def fIn (cR : ClassId) (pl : va_W) (a : Nat) (F : FR) : Prop := (1 ≤ F.1 ∧ F.1 ≤ 512) ∧ ∃ i j q : Nat, pl[i]? = some (a, .inr (1, [.ref q, .int (fm_whole F.2 F.1), .int (fm F.2 F.1).2])) ∧ pl[j]? = some (q, .inl (cR, F.1, .inl F.2))
def q_formAt (x fc : Int32) (FA : Nat → Option Nat) : Option Nat := if x < 0 then none else if fc ≤ x then none else if 1000 ≤ x then none else FA x.toNatClampNeg
/-- the forms that are there lie in the pool -/
def fAll (cR : ClassId) (pl : va_W) (fc : Int32) (FA : Nat → Option Nat) (FS : Nat → FR) : Prop := ∀ (x : Int32) (a : Nat), q_formAt x fc FA = some a → fIn cR pl a (FS x.toNatClampNeg)
def q_at (P : FR → Int32) (x fc : Int32) (FA : Nat → Option Nat) (FS : Nat → FR) : Option Nat := (q_formAt x fc FA).bind (fun a => if P (FS x.toNatClampNeg) = 0 then none else some a)
def p_whole (F : FR) : Int32 := fm_whole F.2 F.1
def p_term (F : FR) : Int32 := if p_whole F = 0 then 0 else k_term (F.2 ((0 : Int32).toNatClampNeg))
def p_form (F : FR) : Int32 := if p_whole F = 0 then 0 else if k_term (F.2 ((0 : Int32).toNatClampNeg)) = 0 then 1 else 0
def p_closed (F : FR) : Int32 := if p_form F = 0 then 0 else if (fm F.2 F.1).2 = 0 then 1 else 0
def q_const (x fc : Int32) (FA : Nat → Option Nat) (FS : Nat → FR) : Int32 :=
  (q_formAt x fc FA).elim (-1) (fun _ => if (FS x.toNatClampNeg).2 ((0 : Int32).toNatClampNeg) &&& 15 = 0 then (FS x.toNatClampNeg).2 ((0 : Int32).toNatClampNeg) else -1)
section QA
variable {P P' : FR → Int32} {x fc : Int32} {FA : Nat → Option Nat} {FS : Nat → FR} {a : Nat}
theorem q_at_form (h : q_at P x fc FA FS = some a) : q_formAt x fc FA = some a ∧ ¬ P (FS x.toNatClampNeg) = 0 := by
  unfold q_at at h
  cases e : q_formAt x fc FA with
  | none => rw [e] at h; cases h
  | some b =>
    rw [e] at h
    by_cases c : P (FS x.toNatClampNeg) = 0
    · simp only [Option.bind, if_pos c] at h; cases h
    · simp only [Option.bind, if_neg c] at h; exact ⟨h, c⟩
theorem q_at_yes (h : q_formAt x fc FA = some a) (c : ¬ P (FS x.toNatClampNeg) = 0) : q_at P x fc FA FS = some a := by
  unfold q_at; rw [h]; simp only [Option.bind, if_neg c]
theorem q_at_no (h : q_formAt x fc FA = some a) (c : P (FS x.toNatClampNeg) = 0) : q_at P x fc FA FS = none := by
  unfold q_at; rw [h]; simp only [Option.bind, if_pos c]
theorem q_at_none0 (h : q_formAt x fc FA = none) : q_at P x fc FA FS = none := by
  unfold q_at; rw [h]; rfl
theorem q_at_none (h : q_at P x fc FA FS = none) (hP : ∀ F, P F = 0 → P' F = 0) : q_at P' x fc FA FS = none := by
  cases e : q_formAt x fc FA with
  | none => exact q_at_none0 e
  | some b =>
    by_cases c : P (FS x.toNatClampNeg) = 0
    · exact q_at_no e (hP _ c)
    · rw [q_at_yes e c] at h; cases h
end QA
theorem p_form_0 (F : FR) (h : p_whole F = 0) : p_form F = 0 := by unfold p_form; rw [if_pos h]
theorem p_term_0 (F : FR) (h : p_whole F = 0) : p_term F = 0 := by unfold p_term; rw [if_pos h]
theorem p_closed_0 (F : FR) (h : p_form F = 0) : p_closed F = 0 := by unfold p_closed; rw [if_pos h]
theorem k_term_01 {x : Int32} : k_term x = 0 ∨ k_term x = 1 := by
  unfold k_term
  by_cases c : 2 < x &&& 15
  · rw [if_pos c]; exact Or.inl rfl
  · rw [if_neg c]; exact Or.inr rfl
def k_isPred (x pr : Int32) : Int32 := if x < 0 then 0 else if pr ≤ x then 0 else if 30 ≤ x then 0 else 1
def q_orNone (P : FR → Int32) (x b fc : Int32) (FA : Nat → Option Nat) (FS : Nat → FR) : Int32 := if b = 0 then (if x = -1 then 1 else 0) else (if (q_at P x fc FA FS).isSome then 1 else 0)

