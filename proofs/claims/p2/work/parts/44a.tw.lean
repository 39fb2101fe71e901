theorem tw_4_29 : Cond.fieldLink RX6 25 "ThesisDeskModel" "loose" "[I" ∈ lw_G := G_in (in_4 (List.mem_of_getElem? (i := 29) rfl)) rfl
theorem tw_4_35 : Cond.fieldLink RX6 116 "ThesisDeskModel" "dataTop" "I" ∈ lw_G := G_in (in_4 (List.mem_of_getElem? (i := 35) rfl)) rfl
theorem tw_4_28 : Cond.fieldLink RX6 22 "ThesisDeskModel" "size" "[I" ∈ lw_G := G_in (in_4 (List.mem_of_getElem? (i := 28) rfl)) rfl
theorem tw_4_32 : Cond.fieldLink RX6 34 "ThesisDeskModel" "head" "[I" ∈ lw_G := G_in (in_4 (List.mem_of_getElem? (i := 32) rfl)) rfl
theorem tw_4_33 : Cond.fieldLink RX6 113 "ThesisDeskModel" "nodes" "I" ∈ lw_G := G_in (in_4 (List.mem_of_getElem? (i := 33) rfl)) rfl
theorem tw_4_31 : Cond.fieldLink RX6 31 "ThesisDeskModel" "hash" "[I" ∈ lw_G := G_in (in_4 (List.mem_of_getElem? (i := 31) rfl)) rfl
