/-! What is known of the desk lives on when its pool grows, or a block in it changes. -/
section SET
variable {cR : ClassId} {pl pl' : va_W} {i b : Nat} {vs : List Value} {c : Nat × va_E}
theorem get_grow {k : Nat} {q : Nat × va_E} (h : pl[k]? = some q) : (pl ++ pl')[k]? = some q := by
  rw [List.getElem?_append_left (List.getElem?_eq_some_iff.mp h).1]; exact h
theorem fAll_set {fc : Int32} {FA : Nat → Option Nat} {FS : Nat → FR} (hi : pl[i]? = some (b, .inr (0, vs))) (h : fAll cR pl fc FA FS) : fAll cR (pl.set i c) fc FA FS := fun x a e => fIn_set (by decide) hi (h x a e)
theorem dAll_set {pr : Int32} {DA : Nat → Option Nat} {DS : Nat → FR} (hi : pl[i]? = some (b, .inr (0, vs))) (h : dAll cR pl pr DA DS) : dAll cR (pl.set i c) pr DA DS := fun x a e => fIn_set (by decide) hi (h x a e)
theorem tAll_set {bc : Int32} {BS : Nat → BC} {TS : Nat → FR} (hi : pl[i]? = some (b, .inr (0, vs))) (h : tAll cR pl bc BS TS) : tAll cR (pl.set i c) bc BS TS := fun j h1 h2 => by
  obtain ⟨t, e, f⟩ := h j h1 h2
  exact ⟨t, e, fIn_set (by decide) hi f⟩
theorem nF_grow {o : Option Nat} {F : Option FR} (h : nF cR pl o F) : nF cR (pl ++ pl') o F := by
  cases o with
  | none => cases F with
    | none => trivial
    | some _ => exact h
  | some t => cases F with
    | none => exact h
    | some _ => exact fIn_grow h
theorem nF_set {o : Option Nat} {F : Option FR} (hi : pl[i]? = some (b, .inr (0, vs))) (h : nF cR pl o F) : nF cR (pl.set i c) o F := by
  cases o with
  | none => cases F with
    | none => trivial
    | some _ => exact h
  | some t => cases F with
    | none => exact h
    | some _ => exact fIn_set (by decide) hi h
theorem nCh_grow {L : List NR} : ∀ {a : Option Nat}, nCh cR pl L a → nCh cR (pl ++ pl') L a := by
  induction L with
  | nil => exact fun h => h
  | cons r rs ih =>
    intro a h
    obtain ⟨t, j, fo, be, h1, h2, h3, h4⟩ := h
    exact ⟨t, j, fo, be, h1, get_grow h2, nF_grow h3, ih h4⟩
theorem nCh_set {L : List NR} (hi : pl[i]? = some (b, .inr (0, vs))) : ∀ {a : Option Nat}, nCh cR pl L a → nCh cR (pl.set i c) L a := by
  induction L with
  | nil => exact fun h => h
  | cons r rs ih =>
    intro a h
    obtain ⟨t, j, fo, be, h1, h2, h3, h4⟩ := h
    refine ⟨t, j, fo, be, h1, ?_, nF_set hi h3, ih h4⟩
    rw [List.getElem?_set_ne]
    · exact h2
    · intro z
      rw [← z, hi] at h2
      injection h2 with h2
      injection h2 with h5 h6
      injection h6 with h6
      injection h6 with h6 h7
      exact absurd h6 (by decide)
theorem nAll_grow {bc : Int32} {BS : Nat → BC} {NS : Nat → List NR} (h : nAll cR pl bc BS NS) : nAll cR (pl ++ pl') bc BS NS := fun j h1 h2 => nCh_grow (h j h1 h2)
theorem nAll_set {bc : Int32} {BS : Nat → BC} {NS : Nat → List NR} (hi : pl[i]? = some (b, .inr (0, vs))) (h : nAll cR pl bc BS NS) : nAll cR (pl.set i c) bc BS NS := fun j h1 h2 => nCh_set hi (h j h1 h2)
abbrev bCell (b : Nat) (B : BC) : Nat × va_E := (b, .inr (0, [.int B.1, va_rf B.2.1, .int B.2.2.1, .int B.2.2.2.1, va_rf B.2.2.2.2]))
theorem bAll_set {BA : Nat → Option Nat} {BS : Nat → BC} {k : Nat} (hJ : bInj BA) (hB : bAll pl BA BS) (hk : k < 40) (hbk : BA k = some b) (hi : pl[i]? = some (b, .inr (0, vs))) (B : BC) : bAll (pl.set i (bCell b B)) BA (bsUp BS k B) := by
  intro j hj
  by_cases cj : j = k
  · refine ⟨b, by rw [cj]; exact hbk, i, ?_⟩
    have eB : bsUp BS k B j = B := by unfold bsUp; rw [if_pos cj]
    rw [eB, List.getElem?_set_self (List.getElem?_eq_some_iff.mp hi).1]
  · obtain ⟨b', e1, x, hx⟩ := hB j hj
    have eB : bsUp BS k B j = BS j := by unfold bsUp; rw [if_neg cj]
    refine ⟨b', e1, x, ?_⟩
    rw [eB, List.getElem?_set_ne]
    · exact hx
    · intro z
      rw [← z, hi] at hx
      injection hx with hx
      injection hx with h1 h2
      exact cj (hJ j k hj hk (by rw [e1, hbk, h1]))
/-- all but the blocks themselves -/
theorem tAll_up {bc : Int32} {BS : Nat → BC} {TS : Nat → FR} {k t : Nat} {B : BC} {F : FR} (h : tAll cR pl bc BS TS) (e : B.2.1 = some t) (hF : fIn cR pl t F) : tAll cR pl bc (bsUp BS k B) (fsUp TS k F) := by
  intro j h1 h2
  by_cases cj : j = k
  · refine ⟨t, ?_, ?_⟩
    · unfold bsUp; rw [if_pos cj]; exact e
    · unfold fsUp; rw [if_pos cj]; exact hF
  · obtain ⟨t', e1, e2⟩ := h j h1 h2
    refine ⟨t', ?_, ?_⟩
    · unfold bsUp; rw [if_neg cj]; exact e1
    · unfold fsUp; rw [if_neg cj]; exact e2
def nsUp (NS : Nat → List NR) (k : Nat) (L : List NR) : Nat → List NR := fun i => if i = k then L else NS i
theorem nAll_up {bc : Int32} {BS : Nat → BC} {NS : Nat → List NR} {k : Nat} {B : BC} {L : List NR} (h : nAll cR pl bc BS NS) (e : nCh cR pl L B.2.2.2.2) : nAll cR pl bc (bsUp BS k B) (nsUp NS k L) := by
  intro j h1 h2
  by_cases cj : j = k
  · unfold bsUp nsUp; rw [if_pos cj, if_pos cj]; exact e
  · unfold bsUp nsUp; rw [if_neg cj, if_neg cj]; exact h j h1 h2
/-- a block more is open: what stands at its place is known -/
theorem tAll_more {bc : Int32} {BS : Nat → BC} {TS : Nat → FR} {t : Nat} {B : BC} {F : FR} (h : tAll cR pl bc BS TS) (h0 : ¬ bc < 0) (h1 : bc < 40) (e : B.2.1 = some t) (hF : fIn cR pl t F) : tAll cR pl (bc + 1) (bsUp BS bc.toNatClampNeg B) (fsUp TS bc.toNatClampNeg F) := by
  have q1 := i_nlt h0; have q2 := i_lt h1
  rw [i0] at q1; rw [i40] at q2
  have ec : (bc + 1).toInt = bc.toInt + 1 := i_add rfl i1 (by omega) (by omega)
  intro j g1 g2
  by_cases cj : j = bc.toNatClampNeg
  · refine ⟨t, ?_, ?_⟩
    · unfold bsUp; rw [if_pos cj]; exact e
    · unfold fsUp; rw [if_pos cj]; exact hF
  · rw [i_clamp] at cj
    rw [i_clamp, ec] at g1
    obtain ⟨t', e1, e2⟩ := h j (by rw [i_clamp]; omega) g2
    refine ⟨t', ?_, ?_⟩
    · unfold bsUp; rw [if_neg (by rw [i_clamp]; exact cj)]; exact e1
    · unfold fsUp; rw [if_neg (by rw [i_clamp]; exact cj)]; exact e2
theorem nAll_more {bc : Int32} {BS : Nat → BC} {NS : Nat → List NR} {B : BC} {L : List NR} (h : nAll cR pl bc BS NS) (h0 : ¬ bc < 0) (h1 : bc < 40) (e : nCh cR pl L B.2.2.2.2) : nAll cR pl (bc + 1) (bsUp BS bc.toNatClampNeg B) (nsUp NS bc.toNatClampNeg L) := by
  have q1 := i_nlt h0; have q2 := i_lt h1
  rw [i0] at q1; rw [i40] at q2
  have ec : (bc + 1).toInt = bc.toInt + 1 := i_add rfl i1 (by omega) (by omega)
  intro j g1 g2
  by_cases cj : j = bc.toNatClampNeg
  · unfold bsUp nsUp; rw [if_pos cj, if_pos cj]; exact e
  · have cj' := cj
    rw [i_clamp] at cj
    rw [i_clamp, ec] at g1
    unfold bsUp nsUp; rw [if_neg cj', if_neg cj']
    exact h j (by rw [i_clamp]; omega) g2
/-- a block less is open -/
theorem less_ix {bc : Int32} (h0 : ¬ bc ≤ 0) {j : Nat} (h : j < (bc - 1).toNatClampNeg) : j < bc.toNatClampNeg := by
  have q1 := i_nle h0
  rw [i0] at q1
  have e : (bc - 1).toInt = bc.toInt - 1 := i_sub rfl i1 (by omega) (by have := bc.toInt_lt; omega)
  rw [i_clamp, e] at h
  rw [i_clamp]; omega
theorem tAll_less {bc : Int32} {BS : Nat → BC} {TS : Nat → FR} (h0 : ¬ bc ≤ 0) (h : tAll cR pl bc BS TS) : tAll cR pl (bc - 1) BS TS := fun j h1 h2 => h j (less_ix h0 h1) h2
theorem nAll_less {bc : Int32} {BS : Nat → BC} {NS : Nat → List NR} (h0 : ¬ bc ≤ 0) (h : nAll cR pl bc BS NS) : nAll cR pl (bc - 1) BS NS := fun j h1 h2 => h j (less_ix h0 h1) h2
/-- one part of what is known, of a block that keeps its thesis or its notes -/
theorem tAll_same {bc : Int32} {BS : Nat → BC} {TS : Nat → FR} {k : Nat} {B : BC} (h : tAll cR pl bc BS TS) (e : B.2.1 = (BS k).2.1) : tAll cR pl bc (bsUp BS k B) TS := by
  intro j h1 h2
  obtain ⟨t', e1, e2⟩ := h j h1 h2
  refine ⟨t', ?_, e2⟩
  by_cases cj : j = k
  · unfold bsUp; rw [if_pos cj, e, ← cj]; exact e1
  · unfold bsUp; rw [if_neg cj]; exact e1
theorem nAll_same {bc : Int32} {BS : Nat → BC} {NS : Nat → List NR} {k : Nat} {B : BC} (h : nAll cR pl bc BS NS) (e : B.2.2.2.2 = (BS k).2.2.2.2) : nAll cR pl bc (bsUp BS k B) NS := by
  intro j h1 h2
  by_cases cj : j = k
  · unfold bsUp; rw [if_pos cj, e, ← cj]; exact h j h1 h2
  · unfold bsUp; rw [if_neg cj]; exact h j h1 h2
end SET

