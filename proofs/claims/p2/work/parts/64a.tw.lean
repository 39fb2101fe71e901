theorem tw_5_2 : Cond.methodLink RX6 233 yX6_constantOf ∈ lw_G := G_in (in_5 (List.mem_of_getElem? (i := 2) rfl)) rfl
theorem tw_5_4 : Cond.instanceMethod yX6_constantOf ∈ lw_G := G_in (in_5 (List.mem_of_getElem? (i := 4) rfl)) rfl
theorem tw_s58 : Cond.selects RX6 yX6_constantOf yX6_constantOf ∈ lw_G := G_in (in_s (List.mem_of_getElem? (i := 58) rfl)) rfl
theorem tw_5_5 : Cond.code yX6_constantOf cX6_constantOf 2 (some .int) ∈ lw_G := G_in (in_5 (List.mem_of_getElem? (i := 5) rfl)) rfl
