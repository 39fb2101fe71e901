/-! A cell of the pool that a method changes: it is taken out of the pool, and given back. -/
theorem er_get {po : va_W} {i j : Nat} {c : Nat × va_E} (h : po[j]? = some c) (hne : ¬ j = i) : (po.eraseIdx i)[if j < i then j else j - 1]? = some c := by
  rw [List.getElem?_eraseIdx]
  by_cases c1 : j < i
  · rw [if_pos c1, if_pos c1]; exact h
  · rw [if_neg c1, if_neg (by omega), show j - 1 + 1 = j by omega]; exact h
theorem br_at {X po : va_W} {i : Nat} {c : Nat × va_E} (hi : po[i]? = some c) (k : Nat) (q : Nat × va_E) (h : ((X ++ [c]) ++ po.eraseIdx i)[k]? = some q) : (X ++ po)[if k < X.length then k else if k = X.length then X.length + i else if k - X.length - 1 < i then k - 1 else k]? = some q := by
  by_cases c1 : k < X.length
  · rw [if_pos c1, List.getElem?_append_left c1]
    rw [List.getElem?_append_left (by rw [List.length_append]; omega), List.getElem?_append_left c1] at h
    exact h
  · rw [if_neg c1]
    by_cases c2 : k = X.length
    · rw [if_pos c2, List.getElem?_append_right (by omega), show X.length + i - X.length = i by omega]
      rw [List.getElem?_append_left (by rw [List.length_append]; show k < X.length + 1; omega), List.getElem?_append_right (by omega), c2, Nat.sub_self] at h
      rw [hi]; exact h
    · rw [if_neg c2]
      rw [List.getElem?_append_right (by rw [List.length_append]; show X.length + 1 ≤ k; omega), List.length_append, List.getElem?_eraseIdx] at h
      have e : k - (X.length + [c].length) = k - X.length - 1 := by show k - (X.length + 1) = _; omega
      rw [e] at h
      by_cases c3 : k - X.length - 1 < i
      · rw [if_pos c3] at h
        rw [if_pos c3, List.getElem?_append_right (by omega), show k - 1 - X.length = k - X.length - 1 by omega]; exact h
      · rw [if_neg c3] at h
        rw [if_neg c3, List.getElem?_append_right (by omega)]
        rw [show k - X.length - 1 + 1 = k - X.length by omega] at h
        exact h
theorem br_P {D : va_G} {cl : List vw_C} {X po : va_W} {H : Heap} {i : Nat} {c : Nat × va_E} (h : va_P D cl (X ++ po) H) (hi : po[i]? = some c) : va_P D cl ((X ++ [c]) ++ po.eraseIdx i) H := fun k q hk => h _ q (br_at hi k q hk)
theorem br_D {A : Nat → Prop} {X po : va_W} {i : Nat} {c : Nat × va_E} (h : va_D A (X ++ po)) (hi : po[i]? = some c) : va_D A ((X ++ [c]) ++ po.eraseIdx i) := by
  refine h.by _ (br_at hi) (fun a b _ _ e => ?_)
  have e2 : (if a < X.length then a else if a = X.length then X.length + i else if a - X.length - 1 < i then a - 1 else a) = (if b < X.length then b else if b = X.length then X.length + i else if b - X.length - 1 < i then b - 1 else b) := e
  revert e2
  (repeat' split) <;> intro e2 <;> omega
theorem gb_at {X po : va_W} {i : Nat} {c : Nat × va_E} (hi : i < po.length) (k : Nat) (q : Nat × va_E) (h : (X ++ po.set i c)[k]? = some q) : ((X ++ [c]) ++ po.eraseIdx i)[if k < X.length then k else if k - X.length = i then X.length else if k - X.length < i then k + 1 else k]? = some q := by
  have hl : (X ++ [c]).length = X.length + 1 := by rw [List.length_append]; rfl
  by_cases c1 : k < X.length
  · rw [if_pos c1]
    rw [List.getElem?_append_left c1] at h
    rw [List.getElem?_append_left (by rw [hl]; omega), List.getElem?_append_left c1]; exact h
  · rw [if_neg c1]
    rw [List.getElem?_append_right (by omega)] at h
    by_cases c2 : k - X.length = i
    · rw [if_pos c2, List.getElem?_append_left (by rw [hl]; omega), List.getElem?_append_right (Nat.le_refl _), Nat.sub_self]
      rw [c2, List.getElem?_set_self hi] at h
      exact h
    · rw [if_neg c2]
      rw [List.getElem?_set_ne (fun z => c2 z.symm)] at h
      by_cases c3 : k - X.length < i
      · rw [if_pos c3, List.getElem?_append_right (by rw [hl]; omega), hl, List.getElem?_eraseIdx, show k + 1 - (X.length + 1) = k - X.length by omega, if_pos c3]; exact h
      · rw [if_neg c3, List.getElem?_append_right (by rw [hl]; omega), hl, List.getElem?_eraseIdx, if_neg (by omega), show k - (X.length + 1) + 1 = k - X.length by omega]; exact h
theorem gb_P {D : va_G} {cl : List vw_C} {X po : va_W} {H : Heap} {i : Nat} {c : Nat × va_E} (hi : i < po.length) (h : va_P D cl ((X ++ [c]) ++ po.eraseIdx i) H) : va_P D cl (X ++ po.set i c) H := fun k q hk => h _ q (gb_at hi k q hk)
theorem gb_D {A : Nat → Prop} {X po : va_W} {i : Nat} {c : Nat × va_E} (hi : i < po.length) (h : va_D A ((X ++ [c]) ++ po.eraseIdx i)) : va_D A (X ++ po.set i c) := by
  refine h.by _ (gb_at hi) (fun a b _ _ e => ?_)
  by_cases a1 : a < X.length <;> by_cases a2 : a - X.length = i <;> by_cases a3 : a - X.length < i <;> by_cases b1 : b < X.length <;> by_cases b2 : b - X.length = i <;> by_cases b3 : b - X.length < i <;> simp only [a1, a2, a3, b1, b2, b3, if_true, if_false] at e <;> omega
/-- forms stay where they are when a cell of another class is taken out -/
theorem fIn_erase {cR : ClassId} {pl : va_W} {a : Nat} {F : FR} {i b ci : Nat} {vs : List Value} (hc : ¬ ci = 1) (hi : pl[i]? = some (b, .inr (ci, vs))) (h : fIn cR pl a F) : fIn cR (pl.eraseIdx i) a F := by
  obtain ⟨hN, x, y, q, h1, h2⟩ := h
  refine ⟨hN, _, _, q, er_get h1 (fun e => ?_), er_get h2 (fun e => ?_)⟩
  · rw [e, hi] at h1
    injection h1 with h1
    injection h1 with h3 h4
    injection h4 with h4
    injection h4 with h4 h5
    exact hc h4
  · rw [e, hi] at h2
    injection h2 with h2
    injection h2 with h3 h4
    cases h4
theorem fAll_erase {cR : ClassId} {pl : va_W} {fc : Int32} {FA : Nat → Option Nat} {FS : Nat → FR} {i b ci : Nat} {vs : List Value} (hc : ¬ ci = 1) (hi : pl[i]? = some (b, .inr (ci, vs))) (h : fAll cR pl fc FA FS) : fAll cR (pl.eraseIdx i) fc FA FS := fun x a e => fIn_erase hc hi (h x a e)
theorem fIn_set {cR : ClassId} {pl : va_W} {a : Nat} {F : FR} {i b ci : Nat} {vs : List Value} {c : Nat × va_E} (hc : ¬ ci = 1) (hi : pl[i]? = some (b, .inr (ci, vs))) (h : fIn cR pl a F) : fIn cR (pl.set i c) a F := by
  obtain ⟨hN, x, y, q, h1, h2⟩ := h
  have n1 : ¬ i = x := fun e => by
    rw [← e, hi] at h1
    injection h1 with h1
    injection h1 with h3 h4
    injection h4 with h4
    injection h4 with h4 h5
    exact hc h4
  have n2 : ¬ i = y := fun e => by
    rw [← e, hi] at h2
    injection h2 with h2
    injection h2 with h3 h4
    cases h4
  exact ⟨hN, x, y, q, by rw [List.getElem?_set_ne n1]; exact h1, by rw [List.getElem?_set_ne n2]; exact h2⟩
def q_openB (bc : Int32) (BA : Nat → Option Nat) : Option Nat := if bc ≤ 0 then none else if 40 < bc then none else BA (bc - 1).toNatClampNeg
theorem bc_in {x : Int32} (h0 : ¬ x ≤ 0) (h1 : ¬ 40 < x) : vp_in (x - 1) 40 := by
  have q1 := i_nle h0; have q2 := i_nlt h1
  rw [i0] at q1; rw [show (40 : Int32).toInt = 40 from by decide] at q2
  have e : (x - 1).toInt = x.toInt - 1 := i_sub rfl i1 (by omega) (by omega)
  exact vp_in_iff.mpr ⟨by rw [e]; omega, by rw [e]; omega⟩

