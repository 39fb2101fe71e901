theorem k_sameO {D : va_G} {cl : List vw_C} {tys : List (ClassId × FieldType)} {s : State} {a b : ClassId} {C : String} (hK : va_K D cl tys s) (i j : Nat) (hi : tys[i]? = some (a, .object C)) (hj : tys[j]? = some (b, .object C)) : a = b := by
  obtain ⟨_, _, _, _, _, h1⟩ := (hK.2 i _ hi).2
  obtain ⟨_, _, _, _, _, h2⟩ := (hK.2 j _ hj).2
  rw [h1] at h2
  exact Option.some.inj h2
/-- the desk's blocks as they are made: in the pool, in their order -/
def nB (i : Nat) (BA : Nat → Option Nat) (pl : va_W) : Prop := pl.length = i ∧ ∀ j : Nat, j < i → ∃ b : Nat, BA j = some b ∧ pl[j]? = some (b, .inr (0, [.int 0, .null, .int 0, .int 0, .null]))
theorem nB_1 {i : Nat} {BA : Nat → Option Nat} {pl : va_W} {b : Nat} {x : Nat} (h : nB i BA pl) (hx : x = i) : nB (i + 1) (va_up BA x (some b)) (pl ++ [(b, .inr (0, [.int 0, .null, .int 0, .int 0, .null]))]) := by
  subst hx
  refine ⟨by rw [List.length_append, h.1]; rfl, fun j hj => ?_⟩
  by_cases c : j = x
  · refine ⟨b, by unfold va_up; rw [if_pos c], ?_⟩
    rw [List.getElem?_append_right (by rw [h.1]; omega), h.1, c, Nat.sub_self]; rfl
  · obtain ⟨b', e1, e2⟩ := h.2 j (by omega)
    refine ⟨b', by unfold va_up; rw [if_neg c]; exact e1, ?_⟩
    rw [List.getElem?_append_left (List.getElem?_eq_some_iff.mp e2).1]; exact e2
theorem nB_inj {BA : Nat → Option Nat} {X pl : va_W} {A : Nat → Prop} (h : nB 40 BA pl) (hD : va_D A (X ++ pl)) : bInj BA := by
  intro i j hi hj e
  obtain ⟨b, e1, e2⟩ := h.2 i hi
  obtain ⟨b', f1, f2⟩ := h.2 j hj
  have eb : b = b' := Option.some.inj (by rw [← e1, ← f1, e])
  have := hD.1 (X.length + i) (X.length + j) _ _ (by rw [List.getElem?_append_right (by omega), show X.length + i - X.length = i by omega]; exact e2) (by rw [List.getElem?_append_right (by omega), show X.length + j - X.length = j by omega]; exact f2) eb
  omega
theorem nB_all {BA : Nat → Option Nat} {pl : va_W} (h : nB 40 BA pl) : bAll pl BA (fun _ => (0, none, 0, 0, none)) := fun i hi => by
  obtain ⟨b, e1, e2⟩ := h.2 i hi
  exact ⟨b, e1, i, e2⟩

