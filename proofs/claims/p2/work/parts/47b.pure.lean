section SZB
variable {PM : Nat → Nat} {s s1 s2 s' : St} {x f g fm n mk tp : Nat}
theorem and_szb (hR : rI PM s) (hF : ∀ j, j < s_h s - fm → isF s (hdF s fm j)) (h : andP PM s fm s' x) : s_sz s' x ≤ 1 + sumN (fun j => s_sz s (hdF s fm j)) (s_h s - fm) := by
  obtain ⟨a1, a2, a3, a4, a5, a6⟩ := h
  have b := (flA_b hR hF).2
  rcases a6 with ⟨j, j1, j2, j3⟩ | ⟨_, ⟨_, _, h3⟩ | h3 | ⟨_, _, _, _, h3⟩⟩
  · have q := (hF j j1).1
    rw [j3, e_sz a2 q.1 q.2]
    have := sumN_ge (g := fun j => s_sz s (hdF s fm j)) j1
    have e : (fun j => s_sz s (hdF s fm j)) j = s_sz s (hdF s fm j) := rfl
    omega
  · omega
  · have q := (flA_mem (v := x) hR hF (by rw [h3]; exact List.mem_singleton.mpr rfl)).1
    rw [h3] at b
    rw [e_sz a2 q.1.1 q.1.2]
    have e : lsum (s_sz s) [x] = s_sz s x + 0 := rfl
    omega
  · omega
/-- two formulas in the hand -/
theorem two_hand (hR : rI PM s) (hf : isF s f) (hg : isF s g) (h1 : giveP PM s (nI f) s1) (h2 : giveP PM s1 (nI g) s2) : s_h s2 - s_h s = 2 ∧ s_hd s2 (s_h s) = f ∧ s_hd s2 (s_h s + 1) = g ∧ handOK s2 (s_h s) ∧ (∀ j, j < s_h s2 - s_h s → isF s2 (hdF s2 (s_h s) j)) ∧ s_n s2 = s_n s ∧ s_dt s2 = s_dt s ∧ s_h s2 = s_h s + 2 ∧ sumN (fun j => s_sz s2 (hdF s2 (s_h s) j)) (s_h s2 - s_h s) = s_sz s f + s_sz s g := by
  have hn := rI_n hR
  have hE := sExt_trans h1.2.1 h2.2.1
  obtain ⟨a1, a2, ⟨a3, a4, a5, a6⟩, a7, a8, a9⟩ := h1
  obtain ⟨b1, b2, ⟨b3, b4, b5, b6⟩, b7, b8, b9⟩ := h2
  have q0 : s2.2.2.1 10 (s_h s) = nI f := by rw [b7 _ (by omega)]; exact a8
  have q1 : s2.2.2.1 10 (s_h s + 1) = nI g := by rw [show s_h s + 1 = s_h s1 by omega]; exact b8
  have e0 : s_hd s2 (s_h s) = f := by unfold s_hd; rw [q0]; exact nI_clamp (by have := hf.1.2; omega)
  have e1 : s_hd s2 (s_h s + 1) = g := by unfold s_hd; rw [q1]; exact nI_clamp (by have := hg.1.2; omega)
  have eh : s_h s2 - s_h s = 2 := by omega
  refine ⟨eh, e0, e1, fun j h1 h2 => ?_, fun j hj => ?_, by omega, by omega, by omega, ?_⟩
  · have : j = s_h s ∨ j = s_h s + 1 := by omega
    rcases this with h | h
    · subst h; rw [e0, q0]; exact ⟨rfl, hf.1.1, by have := hf.1.2; omega⟩
    · subst h; rw [e1, q1]; exact ⟨rfl, hg.1.1, by have := hg.1.2; omega⟩
  · have : j = 0 ∨ j = 1 := by omega
    rcases this with h | h
    · subst h
      show isF s2 (s_hd s2 (s_h s))
      rw [e0]
      exact ⟨⟨hf.1.1, by have := hf.1.2; omega⟩, by rw [e_kd hE hf.1.1 hf.1.2]; exact hf.2⟩
    · subst h
      show isF s2 (s_hd s2 (s_h s + 1))
      rw [e1]
      exact ⟨⟨hg.1.1, by have := hg.1.2; omega⟩, by rw [e_kd hE hg.1.1 hg.1.2]; exact hg.2⟩
  · rw [eh]
    show 0 + s_sz s2 (s_hd s2 (s_h s)) + s_sz s2 (s_hd s2 (s_h s + 1)) = _
    rw [e0, e1, e_sz hE hf.1.1 hf.1.2, e_sz hE hg.1.1 hg.1.2]; omega
/-- what an operation gives that makes a formula -/
def fmP (PM : Nat → Nat) (s : St) (dn dd S : Nat) (s' : St) (x : Nat) : Prop := rI PM s' ∧ sExt s s' ∧ opP PM s dn dd s' x ∧ isF s' x ∧ s_sz s' x ≤ S
theorem and2_ok (hR : rI PM s) (hf : isF s f) (hg : isF s g) (h1 : giveP PM s (nI f) s1) (h2 : giveP PM s1 (nI g) s2) (h : andP PM s2 (s_h s) s' x) : fmP PM s 1 (s_sz s f + s_sz s g) (1 + s_sz s f + s_sz s g) s' x := by
  obtain ⟨w1, w2, w3, w4, w5, w6, w7, w8, w9⟩ := two_hand hR hf hg h1 h2
  have hb := (flA_b h2.1 w5).1
  have hs := and_szb h2.1 w5 h
  rw [w9] at hb hs
  obtain ⟨a1, a2, ⟨a3, a4, a5, a6⟩, ⟨a7, a8⟩, a9, _⟩ := h
  refine ⟨a1, sExt_trans (sExt_trans h1.2.1 h2.2.1) a2, ⟨a1, sExt_trans (sExt_trans h1.2.1 h2.2.1) a2, ⟨by omega, by omega, a5, ?_⟩, ⟨fun i hi => ?_, ?_⟩, a9.1⟩, a9, by omega⟩
  · rw [a6, h2.2.2.1.2.2.2, h1.2.2.1.2.2.2]
  · rw [a7 i hi, h2.2.2.2.1 i (by have := h1.2.2.1.2.2.1; omega)]; exact h1.2.2.2.1 i hi
  · rw [a8, h2.2.2.2.2.2, h1.2.2.2.2.2]
theorem fm_not (h : notP PM s f s' x) : fmP PM s 1 1 (s_sz s f + 1) s' x := ⟨h.1, h.2.1, h.2.2.1, h.2.2.2.1, h.2.2.2.2.1⟩
theorem fm_all (h : allP PM s f s' x) : fmP PM s 1 1 (s_sz s f + 1) s' x := ⟨h.1, h.2.1, h.2.2.1, h.2.2.2.1, h.2.2.2.2.1⟩
theorem fm_mono {dn dd S dn' dd' S' : Nat} (h : fmP PM s dn dd S s' x) (h1 : dn ≤ dn') (h2 : dd ≤ dd') (h3 : S ≤ S') : fmP PM s dn' dd' S' s' x := ⟨h.1, h.2.1, op_mono h.2.2.1 h1 h2, h.2.2.2.1, Nat.le_trans h.2.2.2.2 h3⟩
theorem fm_trans {dn dd S dn' dd' S' y : Nat} (h : fmP PM s dn dd S s1 x) (h1 : fmP PM s1 dn' dd' S' s2 y) : fmP PM s (dn + dn') (dd + dd') S' s2 y := ⟨h1.1, sExt_trans h.2.1 h1.2.1, op_trans h.2.2.1 h1.2.2.1, h1.2.2.2⟩
theorem isF_ext (h : isF s f) (hE : sExt s s') : isF s' f := ⟨⟨h.1.1, Nat.le_trans h.1.2 hE.1⟩, by rw [e_kd hE h.1.1 h.1.2]; exact h.2⟩
/-! Forgetting the last nodes. -/
def fgI (PM : Nat → Nat) (s s' : St) : Prop := rI PM s' ∧ (s'.1 = s.1 ∧ s'.2.1 = s.2.1) ∧ (∀ k, ¬ k = 8 → s'.2.2.1 k = s.2.2.1 k) ∧ s_n s' ≤ s_n s ∧ s_dt s' = s_dt s ∧ s_h s' = s_h s ∧ s_p s' = s_p s
def fgP (PM : Nat → Nat) (s : St) (mk tp : Nat) (s' : St) : Prop := rI PM s' ∧ (s'.1 = s.1 ∧ s'.2.1 = s.2.1) ∧ (∀ k, ¬ k = 8 → s'.2.2.1 k = s.2.2.1 k) ∧ s_n s' = mk ∧ s_dt s' = tp ∧ s_h s' = s_h s ∧ s_p s' = s_p s
def fgS (s : St) : St := (s.1, s.2.1, sUp s.2.2.1 8 (upd (s.2.2.1 8) (s_hs s (s_n s)) (s.2.2.1 6 (s_n s))), sUp s.2.2.2 0 (s_n s - 1))
theorem fg_1 (hR : rI PM s) (hn : 1 ≤ s_n s) : rI PM (fgS s) := by
  obtain ⟨r1, r2, r3, r4, r5, r6⟩ := hR
  obtain ⟨o1, o2, o3, o4, ⟨o5, o6⟩, o7, o8⟩ := r5 (s_n s) hn (Nat.le_refl _)
  refine ⟨fun k hk => ⟨(r1 k hk).1, by show s_n s - 1 < s.2.1 k; have := (r1 k hk).2; omega⟩, r2, r3, r4, fun x h1 h2 => r5 x h1 (by have h3 : x ≤ s_n s - 1 := h2; omega), fun h hlt => ?_⟩
  show upd (s.2.2.1 8) (s_hs s (s_n s)) (s.2.2.1 6 (s_n s)) h = nI (pv (s.2.2.1 7) (nI h) (s_n s - 1))
  by_cases c : h = s_hs s (s_n s)
  · rw [c, pk_us, o7, o5]
  · rw [pk_un c, r6 h hlt]
    obtain ⟨m, em⟩ : ∃ m, s_n s = m + 1 := ⟨s_n s - 1, by omega⟩
    rw [em, show m + 1 - 1 = m by omega]
    refine congrArg nI ?_
    show ite _ _ _ = _
    rw [if_neg]
    intro z
    rw [← em, o5] at z
    exact c ((nI_eq (by omega) (by omega)).mp z).symm
theorem fgI_1 (h : fgI PM s s1) (hn : 1 ≤ s_n s1) : fgI PM s (fgS s1) := by
  obtain ⟨a1, a2, a3, a4, a5, a6, a7⟩ := h
  refine ⟨fg_1 a1 hn, a2, fun k hk => ?_, by show s_n s1 - 1 ≤ _; omega, a5, a6, a7⟩
  show sUp s1.2.2.1 8 _ k = _
  rw [sUp_n hk]; exact a3 k hk
theorem fg_end (h : fgI PM s s1) (hm : s_n s1 = mk) (ht : tp ≤ s_dt s) (hA : ∀ x, 1 ≤ x → x ≤ mk → s_at s x + s_ln s x ≤ tp) : fgP PM s mk tp (s1.1, s1.2.1, s1.2.2.1, sUp s1.2.2.2 1 tp) := by
  obtain ⟨⟨r1, r2, r3, r4, r5, r6⟩, a2, a3, a4, a5, a6, a7⟩ := h
  refine ⟨⟨r1, r2, ⟨r3.1, by show tp < s1.2.1 9; have := r3.2; omega⟩, r4, fun x h1 h2 => ?_, r6⟩, a2, a3, hm, rfl, a6, a7⟩
  have h2' : x ≤ s_n s1 := h2
  obtain ⟨o1, o2, o3, o4, o5, o6, o7⟩ := r5 x h1 h2'
  refine ⟨o1, ?_, o3, o4, o5, o6, o7⟩
  show s_at s1 x + s_ln s1 x ≤ tp
  have e1 : s_at s1 x = s_at s x := by unfold s_at; rw [a3 2 (by decide)]
  have e2 : s_ln s1 x = s_ln s x := by unfold s_ln; rw [a3 3 (by decide)]
  rw [e1, e2]
  exact hA x h1 (by omega)
end SZB

