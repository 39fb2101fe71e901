theorem bc_lt {x : Int32} (h0 : ¬ x < 0) (h1 : x < 40) : vp_in x 40 ∧ x.toNatClampNeg < 40 := by
  have q1 := i_nlt h0; have q2 := i_lt h1
  rw [i0] at q1; rw [show (40 : Int32).toInt = 40 from by decide] at q2
  exact ⟨vp_in_iff.mpr ⟨q1, q2⟩, by rw [i_clamp]; omega⟩

