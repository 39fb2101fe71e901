/-! What a store keeps when it grows. -/
def sExt (s s' : St) : Prop := s_n s ≤ s_n s' ∧ s_dt s ≤ s_dt s' ∧ (∀ k, k < 8 → ∀ x, 1 ≤ x → x ≤ s_n s → s'.2.2.1 k x = s.2.2.1 k x) ∧ (∀ d, d < s_dt s → s'.2.2.1 9 d = s.2.2.1 9 d) ∧ gs s ≤ gs s' ∧ gc s ≤ gc s'
theorem sExt_refl {s : St} : sExt s s := ⟨Nat.le_refl _, Nat.le_refl _, fun _ _ _ _ _ => rfl, fun _ _ => rfl, Nat.le_refl _, Nat.le_refl _⟩
theorem sExt_trans {s s1 s2 : St} (h : sExt s s1) (h1 : sExt s1 s2) : sExt s s2 :=
  ⟨Nat.le_trans h.1 h1.1, Nat.le_trans h.2.1 h1.2.1, fun k hk x a b => (h1.2.2.1 k hk x a (Nat.le_trans b h.1)).trans (h.2.2.1 k hk x a b), fun d hd => (h1.2.2.2.1 d (Nat.lt_of_lt_of_le hd h.2.1)).trans (h.2.2.2.1 d hd), Nat.le_trans h.2.2.2.2.1 h1.2.2.2.2.1, Nat.le_trans h.2.2.2.2.2 h1.2.2.2.2.2⟩
section EXT
variable {PM : Nat → Nat} {s s' : St} {x j : Nat}
theorem e_kd (h : sExt s s') (h1 : 1 ≤ x) (h2 : x ≤ s_n s) : s_kd s' x = s_kd s x := h.2.2.1 0 (by decide) x h1 h2
theorem e_no (h : sExt s s') (h1 : 1 ≤ x) (h2 : x ≤ s_n s) : s_no s' x = s_no s x := h.2.2.1 1 (by decide) x h1 h2
theorem e_at (h : sExt s s') (h1 : 1 ≤ x) (h2 : x ≤ s_n s) : s_at s' x = s_at s x := congrArg Int32.toNatClampNeg (h.2.2.1 2 (by decide) x h1 h2)
theorem e_ln (h : sExt s s') (h1 : 1 ≤ x) (h2 : x ≤ s_n s) : s_ln s' x = s_ln s x := congrArg Int32.toNatClampNeg (h.2.2.1 3 (by decide) x h1 h2)
theorem e_sz (h : sExt s s') (h1 : 1 ≤ x) (h2 : x ≤ s_n s) : s_sz s' x = s_sz s x := congrArg Int32.toNatClampNeg (h.2.2.1 4 (by decide) x h1 h2)
theorem e_ch (h : sExt s s') (h1 : 1 ≤ x) (h2 : x ≤ s_n s) (ho : nodeOK PM s x) (hj : j < s_ln s x) : s_ch s' x j = s_ch s x j := by
  unfold s_ch
  rw [e_at h h1 h2, h.2.2.2.1 _ (by have := ho.2.1; omega)]
/-- a node stays what it is -/
theorem nfR_k {PM : Nat → Nat} {K K' : Nat → Int32} {c0 c0' : Nat → Nat} {k o : Int32} {n : Nat} {c c' : Nat → Nat} (h : nfR PM K c0 k o n c) (hc : ∀ i, i < n → c' i = c i) (hK : ∀ i, i < n → K' (c i) = K (c i)) (h0 : ∀ i, i < n → K (c i) = 6 → K' (c0' (c i)) = K (c0 (c i))) : nfR PM K' c0' k o n c' := by
  rcases h with h | h | ⟨h1, h2, h3⟩ | ⟨h1, h2, h3⟩ | ⟨h1, h2, h3, h4⟩ | ⟨h1, h2, h3⟩ | ⟨h1, h2, h3⟩
  · exact Or.inl h
  · exact Or.inr (Or.inl h)
  · exact Or.inr (Or.inr (Or.inl ⟨h1, h2, fun i hi => by rw [hc i hi, hK i hi]; exact h3 i hi⟩))
  · exact Or.inr (Or.inr (Or.inr (Or.inl ⟨h1, h2, fun i hi => by rw [hc i hi, hK i hi]; exact h3 i hi⟩)))
  · exact Or.inr (Or.inr (Or.inr (Or.inr (Or.inl ⟨h1, h2, by rw [hc 0 (by omega), hK 0 (by omega)]; exact h3, by rw [hc 0 (by omega), hK 0 (by omega)]; exact h4⟩))))
  · refine Or.inr (Or.inr (Or.inr (Or.inr (Or.inr (Or.inl ⟨h1, h2, fun i hi => ?_⟩)))))
    obtain ⟨a1, a2, a3⟩ := h3 i hi
    rw [hc i hi, hK i hi]
    exact ⟨a1, a2, fun q => a3 ⟨q.1, by rw [← h0 i hi q.1]; exact q.2⟩⟩
  · exact Or.inr (Or.inr (Or.inr (Or.inr (Or.inr (Or.inr ⟨h1, h2, by rw [hc 0 (by omega), hK 0 (by omega)]; exact h3⟩)))))
theorem nf_len {PM : Nat → Nat} {K : Nat → Int32} {c0 : Nat → Nat} {k o : Int32} {n : Nat} {c : Nat → Nat} (h : nfR PM K c0 k o n c) (hk : k = 6 ∨ k = 8) : n = 1 := by
  rcases h with ⟨h1, h2⟩ | ⟨h1, _⟩ | ⟨h1, _⟩ | ⟨h1, _⟩ | ⟨h1, h2, _⟩ | ⟨h1, _⟩ | ⟨h1, h2, _⟩
  · rcases h1 with h1 | h1 | h1 <;> rw [h1] at hk <;> exact absurd hk (by decide)
  · rw [h1] at hk; exact absurd hk (by decide)
  · rw [h1] at hk; exact absurd hk (by decide)
  · rw [h1] at hk; exact absurd hk (by decide)
  · exact h2
  · rw [h1] at hk; exact absurd hk (by decide)
  · exact h2
theorem nodeOK_ext (h : sExt s s') (hA : ∀ y, 1 ≤ y → y ≤ s_n s → nodeOK PM s y) (h1 : 1 ≤ x) (h2 : x ≤ s_n s) : nodeOK PM s' x := by
  have ho := hA x h1 h2
  have a7 : ∀ y, 1 ≤ y → y ≤ s_n s → s'.2.2.1 7 y = s.2.2.1 7 y := h.2.2.1 7 (by decide)
  obtain ⟨⟨b1, b2, b3, b4⟩, b5, b6, b7, ⟨b8, b9⟩, b10, b11⟩ := ho
  have hs7 : s_hs s' x = s_hs s x := congrArg Int32.toNatClampNeg (a7 x h1 h2)
  have hch : ∀ i, i < s_ln s x → s_ch s' x i = s_ch s x i := fun i hi => e_ch h h1 h2 (hA x h1 h2) hi
  refine ⟨⟨?_, ?_, ?_, ?_⟩, ?_, ?_, ?_, ⟨?_, ?_⟩, ?_, ?_⟩
  · rw [h.2.2.1 2 (by decide) x h1 h2, e_at h h1 h2]; exact b1
  · rw [h.2.2.1 3 (by decide) x h1 h2, e_ln h h1 h2]; exact b2
  · rw [h.2.2.1 4 (by decide) x h1 h2, e_sz h h1 h2]; exact b3
  · rw [e_sz h h1 h2]; exact b4
  · rw [e_at h h1 h2, e_ln h h1 h2]; exact Nat.le_trans b5 h.2.1
  · intro i hi
    rw [e_ln h h1 h2] at hi
    rw [hch i hi, e_at h h1 h2, h.2.2.2.1 _ (by omega)]
    exact b6 i hi
  · rw [e_sz h h1 h2, e_ln h h1 h2, b7]
    refine congrArg (fun z => 1 + z) (sumN_eq (fun i hi => ?_))
    have q := b6 i hi
    rw [hch i hi, e_sz h q.2.1 (by omega)]
  · rw [a7 x h1 h2, hs7]; exact b8
  · rw [hs7]; exact b9
  · rw [h.2.2.1 6 (by decide) x h1 h2, b10, a7 x h1 h2]
    exact congrArg nI (pv_eq (fun y q1 q2 => (a7 y q1 (by omega)).symm))
  · rw [e_kd h h1 h2, e_no h h1 h2, e_ln h h1 h2]
    refine nfR_k b11 hch (fun i hi => ?_) (fun i hi hk => ?_)
    · have q := b6 i hi
      exact e_kd h q.2.1 (by omega)
    · have q := b6 i hi
      have oy := hA _ q.2.1 (by omega)
      have el := nf_len oy.2.2.2.2.2.2 (Or.inl hk)
      have q2 := oy.2.2.1 0 (by omega)
      show s_kd s' (s_ch s' (s_ch s x i) 0) = s_kd s (s_ch s (s_ch s x i) 0)
      rw [e_ch h q.2.1 (by omega) oy (by omega)]
      exact e_kd h q2.2.1 (by omega)
end EXT
section RI9
variable {PM : Nat → Nat} {s : St} {x j : Nat}
theorem rI_n (hR : rI PM s) : s_n s < 131072 := by
  obtain ⟨⟨e, h1, h2⟩, h3⟩ := hR.1 0 (by decide)
  have : e = 0 ∨ e = 1 ∨ e = 2 ∨ e = 3 ∨ e = 4 ∨ e = 5 ∨ e = 6 ∨ e = 7 := by omega
  have h4 : s.2.1 0 ≤ 131072 := by rcases this with h | h | h | h | h | h | h | h <;> subst h <;> rw [h2] <;> decide
  omega
theorem rI_dt (hR : rI PM s) : s_dt s < 524288 := by
  have := capN_b (by decide) hR.2.2.1.1
  have := hR.2.2.1.2
  omega
theorem rI_h (hR : rI PM s) : s_h s ≤ 524288 := by
  have := capN_b (by decide) hR.2.2.2.1.1
  have := hR.2.2.2.1.2
  omega
theorem rI_in {k : Nat} (hR : rI PM s) (hk : k < 8) (h : x ≤ s_n s) : vp_in (nI x) (s.2.1 k) := by
  have a := hR.1 k hk
  have := capN_b (by decide) a.1
  exact vp_in_nI (by omega) (by omega)
theorem cl1 (hR : rI PM s) (h : x ≤ s_n s) : (nI x).toNatClampNeg = x := nI_clamp (by have := rI_n hR; omega)
theorem rI_o (hR : rI PM s) (h1 : 1 ≤ x) (h2 : x ≤ s_n s) : nodeOK PM s x := hR.2.2.2.2.1 x h1 h2
theorem get_in (hR : rI PM s) (h1 : 1 ≤ x) (h2 : x ≤ s_n s) (hj : j < s_ln s x) : vp_in (nI (s_at s x + j)) (s.2.1 9) ∧ (nI (s_at s x + j)).toNatClampNeg = s_at s x + j := by
  have a := (rI_o hR h1 h2).2.1
  have b := hR.2.2.1
  have := capN_b (by decide) b.1
  exact ⟨vp_in_nI (by omega) (by omega), nI_clamp (by omega)⟩
/-- the store with a number more in the hand -/
def giveP (PM : Nat → Nat) (s : St) (v : Int32) (s' : St) : Prop := rI PM s' ∧ sExt s s' ∧ (s_n s' = s_n s ∧ s_dt s' = s_dt s ∧ s_h s' = s_h s + 1 ∧ s_p s' = s_p s) ∧ (∀ i, i < s_h s → s'.2.2.1 10 i = s.2.2.1 10 i) ∧ s'.2.2.1 10 (s_h s) = v ∧ s'.2.2.1 11 = s.2.2.1 11
theorem give_ok {q : Nat} {f1 : Nat → Int32} {v : Int32} (hR : rI PM s) (hh : s_h s < 8191) (hf : ∀ i, i < s.2.1 10 → f1 i = s.2.2.1 10 i) : giveP PM s v (sUp s.1 10 q, sUp s.2.1 10 (mx (s_h s) (s.2.1 10)), sUp s.2.2.1 10 (upd f1 (s_h s) v), sUp s.2.2.2 2 (s_h s + 1)) := by
  obtain ⟨r1, r2, r3, r4, r5, r6⟩ := hR
  have rb := capN_b (by decide) r4.1
  have mb := mx_b (n := s_h s) (N := s.2.1 10)
  have hE : sExt s (sUp s.1 10 q, sUp s.2.1 10 (mx (s_h s) (s.2.1 10)), sUp s.2.2.1 10 (upd f1 (s_h s) v), sUp s.2.2.2 2 (s_h s + 1)) := by
    refine ⟨Nat.le_refl _, Nat.le_refl _, fun k hk x _ _ => ?_, fun d _ => rfl, ?_, ?_⟩
    · show sUp s.2.2.1 10 _ k x = _
      rw [sUp_n (by omega)]
    · show gs s ≤ 2 * (s.2.1 0 + s.2.1 1 + s.2.1 2 + s.2.1 3 + s.2.1 4 + s.2.1 5 + s.2.1 6 + s.2.1 7 + s.2.1 9 + mx (s_h s) (s.2.1 10))
      unfold gs; omega
    · show gc s ≤ s.2.1 0 / 64 + s.2.1 1 / 64 + s.2.1 2 / 64 + s.2.1 3 / 64 + s.2.1 4 / 64 + s.2.1 5 / 64 + s.2.1 6 / 64 + s.2.1 7 / 64 + s.2.1 9 / 64 + mx (s_h s) (s.2.1 10) / 64
      unfold gc; omega
  refine ⟨⟨fun k hk => ?_, ⟨r2.1, r2.2⟩, r3, ⟨?_, ?_⟩, fun x h1 h2 => nodeOK_ext hE r5 h1 h2, r6⟩, hE, ⟨rfl, rfl, rfl, rfl⟩, fun i hi => ?_, ?_, rfl⟩
  · show capN (sUp s.2.1 10 _ k) 7 ∧ s_n s < sUp s.2.1 10 _ k
    rw [sUp_n (by omega)]; exact r1 k hk
  · exact capN_mx (by decide) r4.1 (by show s_h s < 8192; omega) (by have := r4.2; omega)
  · show s_h s + 1 ≤ mx (s_h s) (s.2.1 10)
    omega
  · show upd f1 (s_h s) v i = _
    rw [pk_un (by omega)]; exact hf i (by have := r4.2; omega)
  · show upd f1 (s_h s) v (s_h s) = v
    rw [pk_us]
/-- what a give may take of the room -/
theorem give_room (hR : rI PM s) (hh : s_h s < 8191) : mx (s_h s) (s.2.1 10) / 64 - s.2.1 10 / 64 ≤ KC - gc s ∧ 2 * mx (s_h s) (s.2.1 10) - 2 * s.2.1 10 ≤ KS - gs s := by
  have c10 := capN_mx (n := s_h s) (by decide) hR.2.2.2.1.1 (by show s_h s < 8192; omega) (by have := hR.2.2.2.1.2; have := capN_b (by decide) hR.2.2.2.1.1; omega)
  have b10 : mx (s_h s) (s.2.1 10) ≤ 8192 := by
    obtain ⟨e, h1, h2⟩ := c10
    have : e = 0 ∨ e = 1 ∨ e = 2 ∨ e = 3 := by omega
    rcases this with h | h | h | h <;> subst h <;> rw [h2] <;> decide
  have bk : ∀ k, k < 8 → s.2.1 k ≤ 131072 := fun k hk => by
    obtain ⟨⟨e, h1, h2⟩, _⟩ := hR.1 k hk
    have : e = 0 ∨ e = 1 ∨ e = 2 ∨ e = 3 ∨ e = 4 ∨ e = 5 ∨ e = 6 ∨ e = 7 := by omega
    rcases this with h | h | h | h | h | h | h | h <;> subst h <;> rw [h2] <;> decide
  have b0 := bk 0 (by decide); have b1 := bk 1 (by decide); have b2 := bk 2 (by decide); have b3 := bk 3 (by decide)
  have b4 := bk 4 (by decide); have b5 := bk 5 (by decide); have b6 := bk 6 (by decide); have b7 := bk 7 (by decide)
  have b9 := (capN_b (by decide) hR.2.2.1.1).2
  have mb := mx_b (n := s_h s) (N := s.2.1 10)
  unfold gc gs KC KS
  omega
/-- what the store has taken never passes the room -/
theorem rI_room (hR : rI PM s) : gc s ≤ KC ∧ gs s ≤ KS := by
  have bk : ∀ k, k < 8 → s.2.1 k ≤ 131072 := fun k hk => by
    obtain ⟨⟨e, h1, h2⟩, _⟩ := hR.1 k hk
    have : e = 0 ∨ e = 1 ∨ e = 2 ∨ e = 3 ∨ e = 4 ∨ e = 5 ∨ e = 6 ∨ e = 7 := by omega
    rcases this with h | h | h | h | h | h | h | h <;> subst h <;> rw [h2] <;> decide
  have b0 := bk 0 (by decide); have b1 := bk 1 (by decide); have b2 := bk 2 (by decide); have b3 := bk 3 (by decide)
  have b4 := bk 4 (by decide); have b5 := bk 5 (by decide); have b6 := bk 6 (by decide); have b7 := bk 7 (by decide)
  have b9 := (capN_b (by decide) hR.2.2.1.1).2
  have b10 : s.2.1 10 ≤ 8192 := by
    obtain ⟨e, h1, h2⟩ := hR.2.2.2.1.1
    have : e = 0 ∨ e = 1 ∨ e = 2 ∨ e = 3 := by omega
    rcases this with h | h | h | h <;> subst h <;> rw [h2] <;> decide
  unfold gc gs KC KS
  omega
end RI9
section GV9
variable {PM : Nat → Nat} {s : St}
theorem give_cap (hR : rI PM s) (hh : s_h s < 8191) : mx (s_h s) (s.2.1 10) ≤ 524288 := (capN_b (by decide) (capN_mx (n := s_h s) (by decide) hR.2.2.2.1.1 (by show s_h s < 8192; omega) (by have := hR.2.2.2.1.2; have := capN_b (by decide) hR.2.2.2.1.1; omega))).2
theorem give_use {q : Nat} {g : Nat → Int32} {a : Nat} (hR : rI PM s) (hh : s_h s < 8191) : mx (s_h s) (s.2.1 10) / 64 - s.2.1 10 / 64 ≤ gc (sUp s.1 10 q, sUp s.2.1 10 (mx (s_h s) (s.2.1 10)), sUp s.2.2.1 10 g, sUp s.2.2.2 2 a) - gc s ∧ 2 * mx (s_h s) (s.2.1 10) - 2 * s.2.1 10 ≤ gs (sUp s.1 10 q, sUp s.2.1 10 (mx (s_h s) (s.2.1 10)), sUp s.2.2.1 10 g, sUp s.2.2.2 2 a) - gs s := by
  have mb := mx_b (n := s_h s) (N := s.2.1 10)
  have e1 : gs (sUp s.1 10 q, sUp s.2.1 10 (mx (s_h s) (s.2.1 10)), sUp s.2.2.1 10 g, sUp s.2.2.2 2 a) = 2 * (s.2.1 0 + s.2.1 1 + s.2.1 2 + s.2.1 3 + s.2.1 4 + s.2.1 5 + s.2.1 6 + s.2.1 7 + s.2.1 9 + mx (s_h s) (s.2.1 10)) := rfl
  have e2 : gc (sUp s.1 10 q, sUp s.2.1 10 (mx (s_h s) (s.2.1 10)), sUp s.2.2.1 10 g, sUp s.2.2.2 2 a) = s.2.1 0 / 64 + s.2.1 1 / 64 + s.2.1 2 / 64 + s.2.1 3 / 64 + s.2.1 4 / 64 + s.2.1 5 / 64 + s.2.1 6 / 64 + s.2.1 7 / 64 + s.2.1 9 / 64 + mx (s_h s) (s.2.1 10) / 64 := rfl
  rw [e1, e2]
  unfold gs gc
  omega
end GV9

