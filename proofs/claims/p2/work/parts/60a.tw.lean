theorem tw_5_54 : Cond.methodLink RX6 193 yX6_leaves ∈ lw_G := G_in (in_5 (List.mem_of_getElem? (i := 54) rfl)) rfl
theorem tw_5_56 : Cond.instanceMethod yX6_leaves ∈ lw_G := G_in (in_5 (List.mem_of_getElem? (i := 56) rfl)) rfl
theorem tw_s68 : Cond.selects RX6 yX6_leaves yX6_leaves ∈ lw_G := G_in (in_s (List.mem_of_getElem? (i := 68) rfl)) rfl
theorem tw_5_57 : Cond.code yX6_leaves cX6_leaves 7 (some .int) ∈ lw_G := G_in (in_5 (List.mem_of_getElem? (i := 57) rfl)) rfl
theorem tw_4_57 : Cond.fieldLink RX6 86 "ThesisDeskModel" "fit" "Z" ∈ lw_G := G_in (in_4 (List.mem_of_getElem? (i := 57) rfl)) rfl
theorem tw_4_58 : Cond.fieldLink RX6 199 "ThesisDeskModel" "misses" "I" ∈ lw_G := G_in (in_4 (List.mem_of_getElem? (i := 58) rfl)) rfl
theorem tw_5_74 : Cond.methodLink RX6 196 yX6_alone ∈ lw_G := G_in (in_5 (List.mem_of_getElem? (i := 74) rfl)) rfl
theorem tw_5_76 : Cond.instanceMethod yX6_alone ∈ lw_G := G_in (in_5 (List.mem_of_getElem? (i := 76) rfl)) rfl
theorem tw_s73 : Cond.selects RX6 yX6_alone yX6_alone ∈ lw_G := G_in (in_s (List.mem_of_getElem? (i := 73) rfl)) rfl
theorem tw_5_77 : Cond.code yX6_alone cX6_alone 4 (some .int) ∈ lw_G := G_in (in_5 (List.mem_of_getElem? (i := 77) rfl)) rfl
