theorem tw_3_43 : Cond.classLink RX5 212 RX3 ∈ lw_G := G_in (in_3 (List.mem_of_getElem? (i := 43) rfl)) rfl
theorem tw_3_44 : Cond.instantiable RX3 4 ∈ lw_G := G_in (in_3 (List.mem_of_getElem? (i := 44) rfl)) rfl
theorem tw_1_15 : Cond.initialized RX3 ∈ lw_G := G_in (in_1 (List.mem_of_getElem? (i := 15) rfl)) rfl
theorem tw_3_45 : Cond.methodLink RX5 312 yX3_init ∈ lw_G := G_in (in_3 (List.mem_of_getElem? (i := 45) rfl)) rfl
theorem tw_3_46 : Cond.instanceMethod yX3_init ∈ lw_G := G_in (in_3 (List.mem_of_getElem? (i := 46) rfl)) rfl
theorem tw_3_47 : Cond.code yX3_init cX3_init 5 none ∈ lw_G := G_in (in_3 (List.mem_of_getElem? (i := 47) rfl)) rfl
theorem tw_3_7 : Cond.methodLink RX5 303 yX0_begin ∈ lw_G := G_in (in_3 (List.mem_of_getElem? (i := 7) rfl)) rfl
theorem tw_3_8 : Cond.instanceMethod yX0_begin ∈ lw_G := G_in (in_3 (List.mem_of_getElem? (i := 8) rfl)) rfl
theorem tw_3_9 : Cond.selects RX0 yX0_begin yX0_begin ∈ lw_G := G_in (in_3 (List.mem_of_getElem? (i := 9) rfl)) rfl
theorem tw_1_2 : Cond.initialized RX0 ∈ lw_G := G_in (in_1 (List.mem_of_getElem? (i := 2) rfl)) rfl
theorem tw_3_10 : Cond.code yX0_begin cX0_begin 3 none ∈ lw_G := G_in (in_3 (List.mem_of_getElem? (i := 10) rfl)) rfl
theorem tn_1_42 : Cond.fieldLinkNest RX5 207 "ThesisDesk$Block" "latest" "LThesisDesk$Note;" "ThesisDesk" ∈ lw_tbl := in_1 (List.mem_of_getElem? (i := 42) rfl)
theorem tn_3_6 : Cond.stringRef RX5 301 "40 blocks are open" ∈ lw_tbl := in_3 (List.mem_of_getElem? (i := 6) rfl)
theorem sx_301 : Cond.exactly (.string RX5 301) "java/lang/String" ∈ flatC (Jvm.Cond.and given_1 narrow_1) := by decide +kernel
