theorem tw_5_78 : Cond.methodLink RX6 137 yX6_forget ∈ lw_G := G_in (in_5 (List.mem_of_getElem? (i := 78) rfl)) rfl
theorem tw_5_80 : Cond.instanceMethod yX6_forget ∈ lw_G := G_in (in_5 (List.mem_of_getElem? (i := 80) rfl)) rfl
theorem tw_s74 : Cond.selects RX6 yX6_forget yX6_forget ∈ lw_G := G_in (in_s (List.mem_of_getElem? (i := 74) rfl)) rfl
theorem tw_5_81 : Cond.code yX6_forget cX6_forget 3 none ∈ lw_G := G_in (in_5 (List.mem_of_getElem? (i := 81) rfl)) rfl
