theorem tw_1_129 : Cond.fieldLink RX5 32 "ThesisDesk" "work" "LThesisDesk$Row;" ∈ lw_G := G_in (in_1 (List.mem_of_getElem? (i := 129) rfl)) rfl
theorem tw_2_71 : Cond.methodLink RX5 292 yX4_isTooLarge ∈ lw_G := G_in (in_2 (List.mem_of_getElem? (i := 71) rfl)) rfl
theorem tw_2_72 : Cond.instanceMethod yX4_isTooLarge ∈ lw_G := G_in (in_2 (List.mem_of_getElem? (i := 72) rfl)) rfl
theorem tw_2_73 : Cond.selects RX4 yX4_isTooLarge yX4_isTooLarge ∈ lw_G := G_in (in_2 (List.mem_of_getElem? (i := 73) rfl)) rfl
theorem tw_2_74 : Cond.code yX4_isTooLarge cX4_isTooLarge 1 (some .boolean) ∈ lw_G := G_in (in_2 (List.mem_of_getElem? (i := 74) rfl)) rfl
theorem tw_1_71 : Cond.methodLink RX5 39 yX4_toForm ∈ lw_G := G_in (in_1 (List.mem_of_getElem? (i := 71) rfl)) rfl
theorem tw_1_72 : Cond.instanceMethod yX4_toForm ∈ lw_G := G_in (in_1 (List.mem_of_getElem? (i := 72) rfl)) rfl
theorem tw_1_73 : Cond.selects RX4 yX4_toForm yX4_toForm ∈ lw_G := G_in (in_1 (List.mem_of_getElem? (i := 73) rfl)) rfl
theorem tw_1_74 : Cond.code yX4_toForm cX4_toForm 1 (some (.object "ThesisDesk$Form")) ∈ lw_G := G_in (in_1 (List.mem_of_getElem? (i := 74) rfl)) rfl
theorem tn_2_75 : Cond.stringRef RX5 295 "the form would have a size above 100" ∈ lw_tbl := in_2 (List.mem_of_getElem? (i := 75) rfl)
theorem tn_2_70 : Cond.stringRef RX5 290 "1000 forms are there" ∈ lw_tbl := in_2 (List.mem_of_getElem? (i := 70) rfl)
theorem sx_295 : Cond.exactly (.string RX5 295) "java/lang/String" ∈ flatC (Jvm.Cond.and given_1 narrow_1) := by decide +kernel
theorem sx_290 : Cond.exactly (.string RX5 290) "java/lang/String" ∈ flatC (Jvm.Cond.and given_1 narrow_1) := by decide +kernel
