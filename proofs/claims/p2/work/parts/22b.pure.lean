theorem setOk : r_ok 1 := by decide
theorem smallOk : r_tooLarge 1 0 = 0 := by decide

