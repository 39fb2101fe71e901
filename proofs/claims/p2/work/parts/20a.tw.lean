theorem tw_1_122 : Cond.fieldLink RX5 58 "ThesisDesk" "predicateCount" "I" ∈ lw_G := G_in (in_1 (List.mem_of_getElem? (i := 122) rfl)) rfl
theorem tw_1_118 : Cond.fieldLink RX5 254 "ThesisDesk" "formCount" "I" ∈ lw_G := G_in (in_1 (List.mem_of_getElem? (i := 118) rfl)) rfl
theorem tw_1_117 : Cond.fieldLink RX5 11 "ThesisDesk" "forms" "[LThesisDesk$Form;" ∈ lw_G := G_in (in_1 (List.mem_of_getElem? (i := 117) rfl)) rfl
theorem tw_2_31 : Cond.methodLink RX5 226 yX5_formAt ∈ lw_G := G_in (in_2 (List.mem_of_getElem? (i := 31) rfl)) rfl
theorem tw_2_33 : Cond.instanceMethod yX5_formAt ∈ lw_G := G_in (in_2 (List.mem_of_getElem? (i := 33) rfl)) rfl
theorem tw_s3 : Cond.selects RX5 yX5_formAt yX5_formAt ∈ lw_G := G_in (in_s (List.mem_of_getElem? (i := 3) rfl)) rfl
theorem tw_1_1 : Cond.initialized RX5 ∈ lw_G := G_in (in_1 (List.mem_of_getElem? (i := 1) rfl)) rfl
theorem tw_2_34 : Cond.code yX5_formAt cX5_formAt 2 (some (.object "ThesisDesk$Form")) ∈ lw_G := G_in (in_2 (List.mem_of_getElem? (i := 34) rfl)) rfl
theorem tw_2_27 : Cond.methodLink RX5 268 yX5_wholeAt ∈ lw_G := G_in (in_2 (List.mem_of_getElem? (i := 27) rfl)) rfl
theorem tw_2_29 : Cond.instanceMethod yX5_wholeAt ∈ lw_G := G_in (in_2 (List.mem_of_getElem? (i := 29) rfl)) rfl
theorem tw_s2 : Cond.selects RX5 yX5_wholeAt yX5_wholeAt ∈ lw_G := G_in (in_s (List.mem_of_getElem? (i := 2) rfl)) rfl
theorem tw_2_30 : Cond.code yX5_wholeAt cX5_wholeAt 3 (some (.object "ThesisDesk$Form")) ∈ lw_G := G_in (in_2 (List.mem_of_getElem? (i := 30) rfl)) rfl
theorem tw_2_35 : Cond.methodLink RX5 271 yX2_isTerm ∈ lw_G := G_in (in_2 (List.mem_of_getElem? (i := 35) rfl)) rfl
theorem tw_2_36 : Cond.instanceMethod yX2_isTerm ∈ lw_G := G_in (in_2 (List.mem_of_getElem? (i := 36) rfl)) rfl
theorem tw_2_37 : Cond.selects RX2 yX2_isTerm yX2_isTerm ∈ lw_G := G_in (in_2 (List.mem_of_getElem? (i := 37) rfl)) rfl
theorem tw_2_38 : Cond.code yX2_isTerm cX2_isTerm 1 (some .boolean) ∈ lw_G := G_in (in_2 (List.mem_of_getElem? (i := 38) rfl)) rfl
theorem tw_2_23 : Cond.methodLink RX5 67 yX5_formulaAt ∈ lw_G := G_in (in_2 (List.mem_of_getElem? (i := 23) rfl)) rfl
theorem tw_2_25 : Cond.instanceMethod yX5_formulaAt ∈ lw_G := G_in (in_2 (List.mem_of_getElem? (i := 25) rfl)) rfl
theorem tw_s1 : Cond.selects RX5 yX5_formulaAt yX5_formulaAt ∈ lw_G := G_in (in_s (List.mem_of_getElem? (i := 1) rfl)) rfl
theorem tw_2_26 : Cond.code yX5_formulaAt cX5_formulaAt 3 (some (.object "ThesisDesk$Form")) ∈ lw_G := G_in (in_2 (List.mem_of_getElem? (i := 26) rfl)) rfl
theorem tw_2_109 : Cond.methodLink RX5 231 yX2_head ∈ lw_G := G_in (in_2 (List.mem_of_getElem? (i := 109) rfl)) rfl
theorem tw_2_210 : Cond.methodLink RX5 234 yX1_kind ∈ lw_G := G_in (in_2 (List.mem_of_getElem? (i := 210) rfl)) rfl
theorem tw_2_96 : Cond.methodLink RX5 274 yX5_termAt ∈ lw_G := G_in (in_2 (List.mem_of_getElem? (i := 96) rfl)) rfl
theorem tw_2_98 : Cond.instanceMethod yX5_termAt ∈ lw_G := G_in (in_2 (List.mem_of_getElem? (i := 98) rfl)) rfl
theorem tw_s8 : Cond.selects RX5 yX5_termAt yX5_termAt ∈ lw_G := G_in (in_s (List.mem_of_getElem? (i := 8) rfl)) rfl
theorem tw_2_99 : Cond.code yX5_termAt cX5_termAt 3 (some (.object "ThesisDesk$Form")) ∈ lw_G := G_in (in_2 (List.mem_of_getElem? (i := 99) rfl)) rfl
theorem tn_1_107 : Cond.fieldLinkNest RX5 265 "ThesisDesk$Form" "whole" "Z" "ThesisDesk" ∈ lw_tbl := in_1 (List.mem_of_getElem? (i := 107) rfl)
theorem tn_1_109 : Cond.fieldLinkNest RX5 75 "ThesisDesk$Form" "loci" "I" "ThesisDesk" ∈ lw_tbl := in_1 (List.mem_of_getElem? (i := 109) rfl)
