theorem tw_3_187 : Cond.methodLink RX0 30 yX2_head ∈ lw_G := G_in (in_3 (List.mem_of_getElem? (i := 187) rfl)) rfl
theorem tw_3_48 : Cond.methodLink RX3 1 objectInit ∈ lw_G := G_in (in_3 (List.mem_of_getElem? (i := 48) rfl)) rfl
theorem tw_3_49 : Cond.fieldLink RX3 7 "ThesisDesk$Note" "kind" "I" ∈ lw_G := G_in (in_3 (List.mem_of_getElem? (i := 49) rfl)) rfl
theorem tw_3_51 : Cond.fieldLink RX3 13 "ThesisDesk$Note" "constant" "I" ∈ lw_G := G_in (in_3 (List.mem_of_getElem? (i := 51) rfl)) rfl
theorem tw_3_53 : Cond.fieldLink RX3 16 "ThesisDesk$Note" "form" "LThesisDesk$Form;" ∈ lw_G := G_in (in_3 (List.mem_of_getElem? (i := 53) rfl)) rfl
theorem tw_3_55 : Cond.fieldLink RX3 20 "ThesisDesk$Note" "before" "LThesisDesk$Note;" ∈ lw_G := G_in (in_3 (List.mem_of_getElem? (i := 55) rfl)) rfl
theorem tw_1_125 : Cond.fieldLink RX5 307 "ThesisDesk" "noteCount" "I" ∈ lw_G := G_in (in_1 (List.mem_of_getElem? (i := 125) rfl)) rfl
theorem tn_3_34 : Cond.stringRef RX5 310 "the object has had more than its 512 calls" ∈ lw_tbl := in_3 (List.mem_of_getElem? (i := 34) rfl)
theorem sx_310 : Cond.exactly (.string RX5 310) "java/lang/String" ∈ flatC (Jvm.Cond.and given_1 narrow_1) := by decide +kernel
