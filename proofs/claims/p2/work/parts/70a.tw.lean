theorem tw_5_50 : Cond.methodLink RX6 246 yX6_step ∈ lw_G := G_in (in_5 (List.mem_of_getElem? (i := 50) rfl)) rfl
theorem tw_5_52 : Cond.instanceMethod yX6_step ∈ lw_G := G_in (in_5 (List.mem_of_getElem? (i := 52) rfl)) rfl
theorem tw_s67 : Cond.selects RX6 yX6_step yX6_step ∈ lw_G := G_in (in_s (List.mem_of_getElem? (i := 67) rfl)) rfl
theorem tw_5_53 : Cond.code yX6_step cX6_step 11 none ∈ lw_G := G_in (in_5 (List.mem_of_getElem? (i := 53) rfl)) rfl
