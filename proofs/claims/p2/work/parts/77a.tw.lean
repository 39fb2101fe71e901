theorem tw_4_22 : Cond.methodLink RX6 1 objectInit ∈ lw_G := G_in (in_4 (List.mem_of_getElem? (i := 22) rfl)) rfl
theorem tw_4_141 : Cond.arrayClass .boolean ∈ lw_G := G_in (in_4 (List.mem_of_getElem? (i := 141) rfl)) rfl
theorem tw_5_98 : Cond.methodLink RX6 250 yX6_stepOf ∈ lw_G := G_in (in_5 (List.mem_of_getElem? (i := 98) rfl)) rfl
theorem tw_5_100 : Cond.instanceMethod yX6_stepOf ∈ lw_G := G_in (in_5 (List.mem_of_getElem? (i := 100) rfl)) rfl
theorem tw_s77 : Cond.selects RX6 yX6_stepOf yX6_stepOf ∈ lw_G := G_in (in_s (List.mem_of_getElem? (i := 77) rfl)) rfl
theorem tw_5_101 : Cond.code yX6_stepOf cX6_stepOf 4 (some .boolean) ∈ lw_G := G_in (in_5 (List.mem_of_getElem? (i := 101) rfl)) rfl
