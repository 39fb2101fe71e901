theorem tw_4_158 : Cond.methodLink RX6 215 yX6_formula ∈ lw_G := G_in (in_4 (List.mem_of_getElem? (i := 158) rfl)) rfl
theorem tw_4_160 : Cond.instanceMethod yX6_formula ∈ lw_G := G_in (in_4 (List.mem_of_getElem? (i := 160) rfl)) rfl
theorem tw_s43 : Cond.selects RX6 yX6_formula yX6_formula ∈ lw_G := G_in (in_s (List.mem_of_getElem? (i := 43) rfl)) rfl
theorem tw_4_161 : Cond.code yX6_formula cX6_formula 2 (some .int) ∈ lw_G := G_in (in_4 (List.mem_of_getElem? (i := 161) rfl)) rfl
theorem tw_5_30 : Cond.methodLink RX6 218 yX6_isClosed ∈ lw_G := G_in (in_5 (List.mem_of_getElem? (i := 30) rfl)) rfl
theorem tw_5_32 : Cond.instanceMethod yX6_isClosed ∈ lw_G := G_in (in_5 (List.mem_of_getElem? (i := 32) rfl)) rfl
theorem tw_s64 : Cond.selects RX6 yX6_isClosed yX6_isClosed ∈ lw_G := G_in (in_s (List.mem_of_getElem? (i := 64) rfl)) rfl
theorem tw_5_33 : Cond.code yX6_isClosed cX6_isClosed 2 (some .boolean) ∈ lw_G := G_in (in_5 (List.mem_of_getElem? (i := 33) rfl)) rfl
theorem tw_4_50 : Cond.fieldLink RX6 187 "ThesisDeskModel" "blocks" "I" ∈ lw_G := G_in (in_4 (List.mem_of_getElem? (i := 50) rfl)) rfl
theorem tw_4_48 : Cond.fieldLink RX6 67 "ThesisDeskModel" "bWaits" "[Z" ∈ lw_G := G_in (in_4 (List.mem_of_getElem? (i := 48) rfl)) rfl
theorem tw_4_150 : Cond.methodLink RX6 208 yX6_fails ∈ lw_G := G_in (in_4 (List.mem_of_getElem? (i := 150) rfl)) rfl
theorem tw_4_152 : Cond.instanceMethod yX6_fails ∈ lw_G := G_in (in_4 (List.mem_of_getElem? (i := 152) rfl)) rfl
theorem tw_s42 : Cond.selects RX6 yX6_fails yX6_fails ∈ lw_G := G_in (in_s (List.mem_of_getElem? (i := 42) rfl)) rfl
theorem tw_4_153 : Cond.code yX6_fails cX6_fails 2 (some .int) ∈ lw_G := G_in (in_4 (List.mem_of_getElem? (i := 153) rfl)) rfl
theorem tw_4_43 : Cond.fieldLink RX6 52 "ThesisDeskModel" "bKind" "[I" ∈ lw_G := G_in (in_4 (List.mem_of_getElem? (i := 43) rfl)) rfl
theorem tw_4_44 : Cond.fieldLink RX6 55 "ThesisDeskModel" "bThesis" "[I" ∈ lw_G := G_in (in_4 (List.mem_of_getElem? (i := 44) rfl)) rfl
theorem tw_4_46 : Cond.fieldLink RX6 61 "ThesisDeskModel" "bFirst" "[I" ∈ lw_G := G_in (in_4 (List.mem_of_getElem? (i := 46) rfl)) rfl
theorem tw_4_54 : Cond.fieldLink RX6 190 "ThesisDeskModel" "steps" "I" ∈ lw_G := G_in (in_4 (List.mem_of_getElem? (i := 54) rfl)) rfl
theorem tw_4_42 : Cond.fieldLink RX6 221 "ThesisDeskModel" "preds" "I" ∈ lw_G := G_in (in_4 (List.mem_of_getElem? (i := 42) rfl)) rfl
theorem tw_4_40 : Cond.fieldLink RX6 46 "ThesisDeskModel" "predMany" "[I" ∈ lw_G := G_in (in_4 (List.mem_of_getElem? (i := 40) rfl)) rfl
