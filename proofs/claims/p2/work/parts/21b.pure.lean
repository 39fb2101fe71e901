theorem gr_P {D : va_G} {cl : List vw_C} {X Y po : va_W} {H : Heap} (h : va_P D cl ((X ++ Y) ++ po) H) : va_P D cl (X ++ (po ++ Y)) H := by
  have h2 := h.swap
  rw [List.append_assoc] at h2
  exact h2
theorem gr_D {A : Nat → Prop} {X Y po : va_W} (h : va_D A ((X ++ Y) ++ po)) : va_D A (X ++ (po ++ Y)) := by
  have h2 := h.swap
  rw [List.append_assoc] at h2
  exact h2
theorem large_no {n z : Int32} (hn : r_ok n) (h : r_tooLarge n z = 0) : k_ok1 n := by
  unfold r_tooLarge at h
  by_cases c1 : z = 0
  · rw [if_pos c1] at h
    by_cases c2 : n ≤ 100
    · exact ⟨hn.1, c2⟩
    · rw [if_neg c2] at h; exact absurd h (by decide)
  · rw [if_neg c1] at h; exact absurd h (by decide)
theorem i_pm (x : Int32) : x + 1 - 1 = x := Int32.add_sub_cancel x 1
theorem fc_in {x : Int32} (h0 : ¬ x < 0) (h1 : x < 1000) : vp_in x 1000 := vp_in_iff.mpr ⟨by have q := i_nlt h0; rw [i0] at q; exact q, by have q := i_lt h1; rw [show (1000 : Int32).toInt = 1000 from by decide] at q; exact q⟩
/-- a form made of the row's first n codes -/
abbrev newC (f : Nat → Int32) (n : Int32) : Nat → Int32 := va_cpy f (fun _ => 0) ((0 : Int32).toNatClampNeg) ((0 : Int32).toNatClampNeg) (n.toNatClampNeg)
theorem fIn_grow {cR : ClassId} {pl pl' : va_W} {a : Nat} {F : FR} (h : fIn cR pl a F) : fIn cR (pl ++ pl') a F := by
  obtain ⟨hN, i, j, q, h1, h2⟩ := h
  refine ⟨hN, i, j, q, ?_, ?_⟩
  · rw [List.getElem?_append_left (List.getElem?_eq_some_iff.mp h1).1]; exact h1
  · rw [List.getElem?_append_left (List.getElem?_eq_some_iff.mp h2).1]; exact h2

