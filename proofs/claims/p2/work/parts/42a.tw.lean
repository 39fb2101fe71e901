theorem tw_4_34 : Cond.fieldLink RX6 37 "ThesisDeskModel" "data" "[I" ∈ lw_G := G_in (in_4 (List.mem_of_getElem? (i := 34) rfl)) rfl
theorem tw_4_26 : Cond.fieldLink RX6 16 "ThesisDeskModel" "at" "[I" ∈ lw_G := G_in (in_4 (List.mem_of_getElem? (i := 26) rfl)) rfl
theorem tw_4_36 : Cond.fieldLink RX6 40 "ThesisDeskModel" "hand" "[I" ∈ lw_G := G_in (in_4 (List.mem_of_getElem? (i := 36) rfl)) rfl
theorem tw_4_37 : Cond.fieldLink RX6 103 "ThesisDeskModel" "hands" "I" ∈ lw_G := G_in (in_4 (List.mem_of_getElem? (i := 37) rfl)) rfl
theorem tw_4_186 : Cond.methodLink RX6 106 yX6_more ∈ lw_G := G_in (in_4 (List.mem_of_getElem? (i := 186) rfl)) rfl
theorem tw_4_187 : Cond.static yX6_more ∈ lw_G := G_in (in_4 (List.mem_of_getElem? (i := 187) rfl)) rfl
theorem tw_1_9 : Cond.initialized RX6 ∈ lw_G := G_in (in_1 (List.mem_of_getElem? (i := 9) rfl)) rfl
theorem tw_4_188 : Cond.code yX6_more cX6_more 4 (some (.array .int)) ∈ lw_G := G_in (in_4 (List.mem_of_getElem? (i := 188) rfl)) rfl
