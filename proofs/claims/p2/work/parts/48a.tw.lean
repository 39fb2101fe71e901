theorem tw_5_18 : Cond.methodLink RX6 159 yX6_all ∈ lw_G := G_in (in_5 (List.mem_of_getElem? (i := 18) rfl)) rfl
theorem tw_5_20 : Cond.instanceMethod yX6_all ∈ lw_G := G_in (in_5 (List.mem_of_getElem? (i := 20) rfl)) rfl
theorem tw_s62 : Cond.selects RX6 yX6_all yX6_all ∈ lw_G := G_in (in_s (List.mem_of_getElem? (i := 62) rfl)) rfl
theorem tw_5_21 : Cond.code yX6_all cX6_all 2 (some .int) ∈ lw_G := G_in (in_5 (List.mem_of_getElem? (i := 21) rfl)) rfl
