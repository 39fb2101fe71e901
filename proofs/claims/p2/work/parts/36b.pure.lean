theorem sup_ne {po : va_W} {BA : Nat → Option Nat} {bc : Int32} {b b2 i j : Nat} {E1 E2 : va_E} (hJ : bInj BA) (e : q_openB bc BA = some b) (h1 : bc < 40) (h2 : BA bc.toNatClampNeg = some b2) (h3 : po[i]? = some (b2, E2)) (h4 : po[j]? = some (b, E1)) : ¬ i = j := by
  intro z
  obtain ⟨k0, k1, k2⟩ := open_bnd e
  obtain ⟨g1, g2, g3⟩ := open_ix k0 k1
  rw [z, h4] at h3
  injection h3 with h3
  injection h3 with h3 h5
  have q2 := i_lt h1
  rw [i40] at q2
  have q1 := i_nle k0
  rw [i0] at q1
  have hb : bc.toNatClampNeg < 40 := by rw [i_clamp]; omega
  have := hJ _ _ hb g2 (by rw [h2, k2, h3])
  omega
theorem w_01 {x : Int32} (h : x = 0) : ¬ ¬ x = 0 := fun g => g h

