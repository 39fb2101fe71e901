theorem tw_oi : Cond.instanceMethod objectInit ∈ lw_G := G_in (in_1 (List.mem_of_getElem? (i := 22) rfl)) rfl
theorem tw_oc : Cond.code objectInit ⟨#[0xb1]⟩ 1 none ∈ lw_G := G_in (by decide +kernel) rfl
theorem tw_mml : Cond.methodLink RJ7 304 Lib.Math.min.name ∈ lw_G := G_in (by decide +kernel) rfl
theorem tw_mms : Cond.static Lib.Math.min.name ∈ lw_G := G_in (by decide +kernel) rfl
theorem tw_mmi : Cond.initialized "java/lang/Math" ∈ lw_G := G_in (by decide +kernel) rfl
theorem tw_mmc : Cond.code Lib.Math.min.name Lib.Math.min.code 2 (some .int) ∈ lw_G := G_in (by decide +kernel) rfl
theorem tw_1_122 : Cond.fieldLink RX5 58 "ThesisDesk" "predicateCount" "I" ∈ lw_G := G_in (in_1 (List.mem_of_getElem? (i := 122) rfl)) rfl
theorem tw_1_118 : Cond.fieldLink RX5 254 "ThesisDesk" "formCount" "I" ∈ lw_G := G_in (in_1 (List.mem_of_getElem? (i := 118) rfl)) rfl
theorem tw_2_31 : Cond.methodLink RX5 226 yX5_formAt ∈ lw_G := G_in (in_2 (List.mem_of_getElem? (i := 31) rfl)) rfl
theorem tw_2_33 : Cond.instanceMethod yX5_formAt ∈ lw_G := G_in (in_2 (List.mem_of_getElem? (i := 33) rfl)) rfl
theorem tw_s3 : Cond.selects RX5 yX5_formAt yX5_formAt ∈ lw_G := G_in (in_s (List.mem_of_getElem? (i := 3) rfl)) rfl
theorem tw_1_1 : Cond.initialized RX5 ∈ lw_G := G_in (in_1 (List.mem_of_getElem? (i := 1) rfl)) rfl
theorem tw_2_34 : Cond.code yX5_formAt cX5_formAt 2 (some (.object "ThesisDesk$Form")) ∈ lw_G := G_in (in_2 (List.mem_of_getElem? (i := 34) rfl)) rfl
theorem tw_2_27 : Cond.methodLink RX5 268 yX5_wholeAt ∈ lw_G := G_in (in_2 (List.mem_of_getElem? (i := 27) rfl)) rfl
theorem tw_2_29 : Cond.instanceMethod yX5_wholeAt ∈ lw_G := G_in (in_2 (List.mem_of_getElem? (i := 29) rfl)) rfl
theorem tw_s2 : Cond.selects RX5 yX5_wholeAt yX5_wholeAt ∈ lw_G := G_in (in_s (List.mem_of_getElem? (i := 2) rfl)) rfl
theorem tw_2_30 : Cond.code yX5_wholeAt cX5_wholeAt 3 (some (.object "ThesisDesk$Form")) ∈ lw_G := G_in (in_2 (List.mem_of_getElem? (i := 30) rfl)) rfl
theorem tw_2_23 : Cond.methodLink RX5 67 yX5_formulaAt ∈ lw_G := G_in (in_2 (List.mem_of_getElem? (i := 23) rfl)) rfl
theorem tw_2_25 : Cond.instanceMethod yX5_formulaAt ∈ lw_G := G_in (in_2 (List.mem_of_getElem? (i := 25) rfl)) rfl
theorem tw_s1 : Cond.selects RX5 yX5_formulaAt yX5_formulaAt ∈ lw_G := G_in (in_s (List.mem_of_getElem? (i := 1) rfl)) rfl
theorem tw_2_26 : Cond.code yX5_formulaAt cX5_formulaAt 3 (some (.object "ThesisDesk$Form")) ∈ lw_G := G_in (in_2 (List.mem_of_getElem? (i := 26) rfl)) rfl
theorem tw_1_124 : Cond.fieldLink RX5 200 "ThesisDesk" "blockCount" "I" ∈ lw_G := G_in (in_1 (List.mem_of_getElem? (i := 124) rfl)) rfl
