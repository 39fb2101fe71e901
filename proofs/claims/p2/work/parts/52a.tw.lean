theorem tw_5_82 : Cond.methodLink RX6 122 yX6_write ∈ lw_G := G_in (in_5 (List.mem_of_getElem? (i := 82) rfl)) rfl
theorem tw_5_84 : Cond.instanceMethod yX6_write ∈ lw_G := G_in (in_5 (List.mem_of_getElem? (i := 84) rfl)) rfl
theorem tw_s75 : Cond.selects RX6 yX6_write yX6_write ∈ lw_G := G_in (in_s (List.mem_of_getElem? (i := 75) rfl)) rfl
theorem tw_5_85 : Cond.code yX6_write cX6_write 3 none ∈ lw_G := G_in (in_5 (List.mem_of_getElem? (i := 85) rfl)) rfl
theorem tw_4_38 : Cond.fieldLink RX6 43 "ThesisDeskModel" "page" "[I" ∈ lw_G := G_in (in_4 (List.mem_of_getElem? (i := 38) rfl)) rfl
theorem tw_4_39 : Cond.fieldLink RX6 119 "ThesisDeskModel" "pages" "I" ∈ lw_G := G_in (in_4 (List.mem_of_getElem? (i := 39) rfl)) rfl
