/-! The forms of the reference: a new one. -/
def fmO (s : St) (F : Nat → Int32) (g : Nat) : Prop := g ≤ 1000 ∧ ∀ x, x < g → F x = nI (F x).toNatClampNeg ∧ (1 ≤ (F x).toNatClampNeg ∧ (F x).toNatClampNeg ≤ s_n s) ∧ s_sz s (F x).toNatClampNeg ≤ 100
section FMO
variable {PM : Nat → Nat} {s s1 : St} {F F1 : Nat → Int32} {g g1 n v : Nat} {th th1 wy : Int32}
theorem fmO_ext (h : fmO s F g) (hE : sExt s s1) : fmO s1 F g := ⟨h.1, fun x hx => by
  obtain ⟨a, b, c⟩ := h.2 x hx
  exact ⟨a, ⟨b.1, Nat.le_trans b.2 hE.1⟩, by rw [e_sz hE b.1 b.2]; exact c⟩⟩
def gvO (s : St) (th wy : Int32) (n : Nat) (F : Nat → Int32) (g : Nat) (th1 : Int32) (F1 : Nat → Int32) (g1 v : Nat) : Prop :=
  (th1 = wy ∧ F1 = F ∧ g1 = g ∧ v = 0) ∨ (th1 = th ∧ s_sz s n ≤ 100 ∧ g < 1000 ∧ v = g ∧ F1 = upd F g (nI n) ∧ g1 = g + 1)
theorem gv_fm (hR : rI PM s) (h : fmO s F g) (hx : 1 ≤ n ∧ n ≤ s_n s) (q : gvO s th wy n F g th1 F1 g1 v) : fmO s F1 g1 := by
  rcases q with ⟨_, e1, e2, _⟩ | ⟨_, h2, h3, _, e1, e2⟩
  · rw [e1, e2]; exact h
  · subst e1 e2
    refine ⟨by omega, fun x hx2 => ?_⟩
    by_cases c : x = g
    · subst c
      rw [pk_us]
      have e : (nI n).toNatClampNeg = n := cl1 hR hx.2
      rw [e]
      exact ⟨rfl, hx, h2⟩
    · rw [pk_un c]; exact h.2 x (by omega)
theorem lo01 {x : Int32} (h0 : ¬ x < 0) (h1 : x ≤ 1) : x = 0 ∨ x = 1 := by
  have q0 := i_nlt h0; have q1 := i_le h1
  rw [i0] at q0; rw [i1] at q1
  rcases Int.lt_or_eq_of_le q0 with q | q
  · right; exact Int32.toInt_inj.mp (by rw [i1]; omega)
  · left; exact Int32.toInt_inj.mp (by rw [i0]; omega)
end FMO

