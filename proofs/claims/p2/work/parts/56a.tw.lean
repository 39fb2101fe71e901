theorem tw_4_41 : Cond.fieldLink RX6 49 "ThesisDeskModel" "predMeans" "[I" ∈ lw_G := G_in (in_4 (List.mem_of_getElem? (i := 41) rfl)) rfl
theorem tw_5_66 : Cond.methodLink RX6 181 yX6_opened ∈ lw_G := G_in (in_5 (List.mem_of_getElem? (i := 66) rfl)) rfl
theorem tw_5_68 : Cond.instanceMethod yX6_opened ∈ lw_G := G_in (in_5 (List.mem_of_getElem? (i := 68) rfl)) rfl
theorem tw_s71 : Cond.selects RX6 yX6_opened yX6_opened ∈ lw_G := G_in (in_s (List.mem_of_getElem? (i := 71) rfl)) rfl
theorem tw_5_69 : Cond.code yX6_opened cX6_opened 3 (some .int) ∈ lw_G := G_in (in_5 (List.mem_of_getElem? (i := 69) rfl)) rfl
