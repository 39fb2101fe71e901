theorem tw_4_23 : Cond.fieldLink RX6 93 "ThesisDeskModel" "thrown" "I" ∈ lw_G := G_in (in_4 (List.mem_of_getElem? (i := 23) rfl)) rfl
theorem tw_4_61 : Cond.fieldLink RX6 205 "ThesisDeskModel" "given" "I" ∈ lw_G := G_in (in_4 (List.mem_of_getElem? (i := 61) rfl)) rfl
theorem tw_4_162 : Cond.methodLink RX6 211 yX6_isForm ∈ lw_G := G_in (in_4 (List.mem_of_getElem? (i := 162) rfl)) rfl
theorem tw_4_164 : Cond.instanceMethod yX6_isForm ∈ lw_G := G_in (in_4 (List.mem_of_getElem? (i := 164) rfl)) rfl
theorem tw_s44 : Cond.selects RX6 yX6_isForm yX6_isForm ∈ lw_G := G_in (in_s (List.mem_of_getElem? (i := 44) rfl)) rfl
theorem tw_4_165 : Cond.code yX6_isForm cX6_isForm 2 (some .boolean) ∈ lw_G := G_in (in_4 (List.mem_of_getElem? (i := 165) rfl)) rfl
theorem tw_4_60 : Cond.fieldLink RX6 90 "ThesisDeskModel" "forms" "[I" ∈ lw_G := G_in (in_4 (List.mem_of_getElem? (i := 60) rfl)) rfl
