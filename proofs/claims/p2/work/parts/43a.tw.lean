theorem tw_4_170 : Cond.methodLink RX6 110 yX6_get ∈ lw_G := G_in (in_4 (List.mem_of_getElem? (i := 170) rfl)) rfl
theorem tw_4_172 : Cond.instanceMethod yX6_get ∈ lw_G := G_in (in_4 (List.mem_of_getElem? (i := 172) rfl)) rfl
theorem tw_s46 : Cond.selects RX6 yX6_get yX6_get ∈ lw_G := G_in (in_s (List.mem_of_getElem? (i := 46) rfl)) rfl
theorem tw_4_173 : Cond.code yX6_get cX6_get 3 (some .int) ∈ lw_G := G_in (in_4 (List.mem_of_getElem? (i := 173) rfl)) rfl
theorem tw_4_24 : Cond.fieldLink RX6 7 "ThesisDeskModel" "kind" "[I" ∈ lw_G := G_in (in_4 (List.mem_of_getElem? (i := 24) rfl)) rfl
theorem tw_4_30 : Cond.fieldLink RX6 28 "ThesisDeskModel" "next" "[I" ∈ lw_G := G_in (in_4 (List.mem_of_getElem? (i := 30) rfl)) rfl
theorem tw_4_25 : Cond.fieldLink RX6 13 "ThesisDeskModel" "number" "[I" ∈ lw_G := G_in (in_4 (List.mem_of_getElem? (i := 25) rfl)) rfl
theorem tw_4_27 : Cond.fieldLink RX6 19 "ThesisDeskModel" "len" "[I" ∈ lw_G := G_in (in_4 (List.mem_of_getElem? (i := 27) rfl)) rfl
