theorem tw_4_49 : Cond.fieldLink RX6 71 "ThesisDeskModel" "bGood" "[Z" ∈ lw_G := G_in (in_4 (List.mem_of_getElem? (i := 49) rfl)) rfl
theorem tw_4_45 : Cond.fieldLink RX6 58 "ThesisDeskModel" "bCases" "[I" ∈ lw_G := G_in (in_4 (List.mem_of_getElem? (i := 45) rfl)) rfl
theorem tw_4_47 : Cond.fieldLink RX6 64 "ThesisDeskModel" "bWay" "[I" ∈ lw_G := G_in (in_4 (List.mem_of_getElem? (i := 47) rfl)) rfl
theorem tw_4_56 : Cond.fieldLink RX6 253 "ThesisDeskModel" "ways" "I" ∈ lw_G := G_in (in_4 (List.mem_of_getElem? (i := 56) rfl)) rfl
