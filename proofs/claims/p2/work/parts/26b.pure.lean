theorem ok2_of {x : RS × RS} {a : Nat → Int32} {b c : Int32} {a' : Nat → Int32} {b' c' : Int32} (e : x = ((a, b, c), (a', b', c'))) (h : r_ok x.1.2.1 ∧ r_ok x.2.2.1) : r_ok b ∧ r_ok b' := by rw [e] at h; exact h
abbrev FR0 : FR := (1, fun _ => 0)

