/-! An operation that gives a formula or 0. -/
def ozP (PM : Nat → Nat) (s : St) (dn dd S : Nat) (s' : St) (x : Nat) : Prop :=
  rI PM s' ∧ sExt s s' ∧ (s_n s' ≤ s_n s + dn ∧ s_dt s' ≤ s_dt s + dd ∧ s_h s' = s_h s) ∧ (∀ i, i < s_h s → s'.2.2.1 10 i = s.2.2.1 10 i) ∧ (x = 0 ∨ (isF s' x ∧ s_sz s' x ≤ S))
def cdL (s : St) (c a : Nat) : Nat → List Nat
  | 0 => []
  | j + 1 => cdL s c a j ++ [s_ch s c (a + j)]
section OZ
variable {PM : Nat → Nat} {s s1 s2 s' : St} {x f a n dn dd S : Nat}
theorem oz_0 (hR : rI PM s) : ozP PM s 0 0 0 s 0 := ⟨hR, sExt_refl, ⟨Nat.le_refl _, Nat.le_refl _, rfl⟩, fun _ _ => rfl, Or.inl rfl⟩
theorem oz_mono {dn' dd' S' : Nat} (h : ozP PM s dn dd S s' x) (h1 : dn ≤ dn') (h2 : dd ≤ dd') (h3 : S ≤ S') : ozP PM s dn' dd' S' s' x := by
  obtain ⟨a1, a2, ⟨a3, a4, a5⟩, a6, a7⟩ := h
  refine ⟨a1, a2, ⟨by omega, by omega, a5⟩, a6, ?_⟩
  rcases a7 with a7 | a7
  · exact Or.inl a7
  · exact Or.inr ⟨a7.1, by omega⟩
theorem oz_fm (h : fmP PM s dn dd S s' x) : ozP PM s dn dd S s' x := ⟨h.1, h.2.1, ⟨h.2.2.1.2.2.1.1, h.2.2.1.2.2.1.2.1, h.2.2.1.2.2.1.2.2.1⟩, h.2.2.1.2.2.2.1.1, Or.inr h.2.2.2⟩
theorem oz_then {dn' dd' S' y : Nat} (h : ozP PM s dn dd S s1 x) (h1 : ozP PM s1 dn' dd' S' s2 y) : ozP PM s (dn + dn') (dd + dd') S' s2 y := by
  obtain ⟨a1, a2, ⟨a3, a4, a5⟩, a6, a7⟩ := h
  obtain ⟨b1, b2, ⟨b3, b4, b5⟩, b6, b7⟩ := h1
  exact ⟨b1, sExt_trans a2 b2, ⟨by omega, by omega, by omega⟩, fun i hi => (b6 i (by omega)).trans (a6 i hi), b7⟩
/-- 0 behind something else that was made -/
theorem oz_drop (h : ozP PM s dn dd S s1 x) : ozP PM s dn dd 0 s1 0 := ⟨h.1, h.2.1, h.2.2.1, h.2.2.2.1, Or.inl rfl⟩
theorem cdL_len : ∀ {n : Nat}, (cdL s f a n).length = n
  | 0 => rfl
  | n + 1 => by show (cdL s f a n ++ [s_ch s f (a + n)]).length = _; rw [List.length_append, cdL_len]; rfl
theorem cdL_get : ∀ {n j v : Nat}, (cdL s f a n)[j]? = some v → j < n ∧ s_ch s f (a + j) = v
  | 0, j, v, h => by simp [cdL] at h
  | n + 1, j, v, h => by
    have h2 : (cdL s f a n ++ [s_ch s f (a + n)])[j]? = some v := h
    by_cases q : j < n
    · rw [List.getElem?_append_left (by rw [cdL_len]; exact q)] at h2
      exact ⟨by omega, (cdL_get h2).2⟩
    · rw [List.getElem?_append_right (by rw [cdL_len]; omega), cdL_len] at h2
      have e : j - n = 0 := by
        rcases Nat.eq_zero_or_pos (j - n) with z | z
        · exact z
        · rw [List.getElem?_eq_none (by show 1 ≤ _; omega)] at h2; cases h2
      rw [e] at h2
      have ej : j = n := by omega
      subst ej
      exact ⟨by omega, Option.some.inj h2⟩
theorem sumN_off {g : Nat → Nat} {a : Nat} : ∀ {n : Nat}, sumN g (a + n) = sumN g a + sumN (fun j => g (a + j)) n
  | 0 => rfl
  | n + 1 => by
    show sumN g (a + n) + g (a + n) = sumN g a + (sumN (fun j => g (a + j)) n + g (a + n))
    rw [sumN_off]; omega
/-- the parts behind the first a of an AND, in the hand -/
theorem bh_hand (hR : rI PM s) (hf : isF s f) (h7 : s_kd s f = 7) (ha : a ≤ s_ln s f) (hg : gvP PM s s1 (cdL s f a (s_ln s f - a))) : handOK s1 (s_h s) ∧ s_h s1 - s_h s = s_ln s f - a ∧ s_h s ≤ s_h s1 ∧ (∀ j, j < s_h s1 - s_h s → isF s1 (hdF s1 (s_h s) j) ∧ ¬ s_kd s1 (hdF s1 (s_h s) j) = 3 ∧ ¬ s_kd s1 (hdF s1 (s_h s) j) = 7) ∧ 1 + sumN (fun j => s_sz s1 (hdF s1 (s_h s) j)) (s_h s1 - s_h s) ≤ s_sz s f := by
  have hn := rI_n hR
  have hl := hg.2.2.1.2.2.1
  rw [cdL_len] at hl
  obtain ⟨_, n2⟩ := nf_7 hR hf.1.1 hf.1.2 h7
  have key : ∀ j, j < s_ln s f - a → s1.2.2.1 10 (s_h s + j) = nI (s_ch s f (a + j)) ∧ s_hd s1 (s_h s + j) = s_ch s f (a + j) := by
    intro j hj
    obtain ⟨w, hw⟩ : ∃ w, (cdL s f a (s_ln s f - a))[j]? = some w := ⟨_, List.getElem?_eq_getElem (by rw [cdL_len]; exact hj)⟩
    have e := (cdL_get hw).2
    have q := hg.2.2.2.2.1 j w hw
    rw [← e] at q
    have hC := (ch_b hR hf.1.1 hf.1.2 (show a + j < s_ln s f by omega)).1
    refine ⟨q, ?_⟩
    unfold s_hd; rw [q]; exact nI_clamp (by omega)
  refine ⟨fun j g1 g2 => ?_, by omega, by omega, fun j hj => ?_, ?_⟩
  · obtain ⟨q1, q2⟩ := key (j - s_h s) (by omega)
    rw [show s_h s + (j - s_h s) = j by omega] at q1 q2
    have hC := (ch_b hR hf.1.1 hf.1.2 (show a + (j - s_h s) < s_ln s f by omega)).1
    rw [q1, q2, hg.2.2.1.1]
    exact ⟨rfl, hC⟩
  · obtain ⟨q1, q2⟩ := key j (by omega)
    have hC := (ch_b hR hf.1.1 hf.1.2 (show a + j < s_ln s f by omega)).1
    obtain ⟨m1, m2, m3⟩ := n2 (a + j) (by omega)
    show isF s1 (s_hd s1 (s_h s + j)) ∧ ¬ s_kd s1 (s_hd s1 (s_h s + j)) = 3 ∧ ¬ s_kd s1 (s_hd s1 (s_h s + j)) = 7
    rw [q2, e_kd hg.2.1 hC.1 hC.2]
    refine ⟨⟨⟨hC.1, by rw [hg.2.2.1.1]; exact hC.2⟩, by rw [e_kd hg.2.1 hC.1 hC.2]; exact Int32.le_of_lt m1⟩, fun z => ?_, m2⟩
    rw [z] at m1; exact absurd m1 (by decide)
  · rw [show s_h s1 - s_h s = s_ln s f - a by omega, (rI_o hR hf.1.1 hf.1.2).2.2.2.1]
    have e1 : sumN (fun j => s_sz s1 (hdF s1 (s_h s) j)) (s_ln s f - a) = sumN (fun j => szC s f (a + j)) (s_ln s f - a) := sumN_eq (fun j hj => by
      have hC := (ch_b hR hf.1.1 hf.1.2 (show a + j < s_ln s f by omega)).1
      show s_sz s1 (s_hd s1 (s_h s + j)) = s_sz s (s_ch s f (a + j))
      rw [(key j hj).2, e_sz hg.2.1 hC.1 hC.2])
    have e2 := sumN_off (g := szC s f) (a := a) (n := s_ln s f - a)
    rw [show a + (s_ln s f - a) = s_ln s f by omega] at e2
    have e3 : sumN (szC s f) (s_ln s f) = sumN (fun j => s_sz s (s_ch s f j)) (s_ln s f) := rfl
    omega
theorem bh_ok (hR : rI PM s) (hf : isF s f) (h7 : s_kd s f = 7) (ha : a ≤ s_ln s f) (hg : gvP PM s s1 (cdL s f a (s_ln s f - a))) (h : andP PM s1 (s_h s) s' x) : ozP PM s 1 (s_sz s f) (s_sz s f) s' x := by
  obtain ⟨w1, w2, w3, w4, w5⟩ := bh_hand hR hf h7 ha hg
  have hb := (flA_b hg.1 (fun j hj => (w4 j hj).1)).1
  have hs := and_szb hg.1 (fun j hj => (w4 j hj).1) h
  obtain ⟨b1, b2, ⟨b3, b4, b5, b6⟩, ⟨b7, b8⟩, b9, _⟩ := h
  refine ⟨b1, sExt_trans hg.2.1 b2, ⟨?_, ?_, b5⟩, fun i hi => (b7 i hi).trans (hg.2.2.2.1 i hi), Or.inr ⟨b9, by omega⟩⟩
  · rw [hg.2.2.1.1] at b3; exact b3
  · rw [hg.2.2.1.2.1] at b4; omega
end OZ

