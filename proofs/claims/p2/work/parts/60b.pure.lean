/-! A step that changes a thesis: what is made on the way is forgotten. -/
def lvI (PM : Nat → Nat) (s s1 : St) (n : Nat) : Prop := rI PM s1 ∧ sExt s s1 ∧ s_n s1 ≤ s_n s + 211 * n ∧ s_dt s1 ≤ s_dt s + 431 * n ∧ s_h s1 = s_h s
section STEP9
variable {PM : Nat → Nat} {s sA s1 s2 s' : St} {x f n mk tp : Nat}
theorem lv_0 (hR : rI PM s) : lvI PM s s 0 := ⟨hR, sExt_refl, Nat.le_add_right _ _, Nat.le_add_right _ _, rfl⟩
set_option maxRecDepth 100000 in
theorem lv_a (h : lvI PM s s1 n) (h1 : ozP PM s1 110 330 110 s2 x) : lvI PM s s2 (n + 1) := by
  obtain ⟨a1, a2, a3, a4, a5⟩ := h
  obtain ⟨b1, b2, ⟨b3, b4, b5⟩, _⟩ := h1
  exact ⟨b1, sExt_trans a2 b2, by omega, by omega, by omega⟩
set_option maxRecDepth 100000 in
theorem lv_b (h : lvI PM s s1 n) (h1 : ozP PM s1 110 330 110 s2 x) {S : Nat} {s3 : St} {y : Nat} (h2 : ozP PM s2 101 101 S s3 y) : lvI PM s s3 (n + 1) := by
  obtain ⟨a1, a2, a3, a4, a5⟩ := h
  obtain ⟨b1, b2, ⟨b3, b4, b5⟩, _⟩ := h1
  obtain ⟨c1, c2, ⟨c3, c4, c5⟩, _⟩ := h2
  exact ⟨c1, sExt_trans (sExt_trans a2 b2) c2, by omega, by omega, by omega⟩
/-- what a mark keeps -/
theorem tr_ext (hE : sExt s s1) : sExt s (tr9 s1 (s_n s) (s_dt s)) := ⟨Nat.le_refl _, Nat.le_refl _, hE.2.2.1, hE.2.2.2.1, hE.2.2.2.2.1, hE.2.2.2.2.2⟩
theorem mk_at (hR : rI PM s) (hE : sExt s s1) : ∀ x, 1 ≤ x → x ≤ s_n s → s_at s1 x + s_ln s1 x ≤ s_dt s := fun x h1 h2 => by
  rw [e_at hE h1 h2, e_ln hE h1 h2]; exact (rI_o hR h1 h2).2.1
theorem tm_x (h : (1 ≤ x ∧ x ≤ s_n s) ∧ s_kd s x < 3) (hE : sExt s s1) : (1 ≤ x ∧ x ≤ s_n s1) ∧ s_kd s1 x < 3 := ⟨⟨h.1.1, Nat.le_trans h.1.2 hE.1⟩, by rw [e_kd hE h.1.1 h.1.2]; exact h.2⟩
end STEP9

