theorem tw_2_110 : Cond.methodLink RX5 277 yX4_add ∈ lw_G := G_in (in_2 (List.mem_of_getElem? (i := 110) rfl)) rfl
theorem tw_2_111 : Cond.instanceMethod yX4_add ∈ lw_G := G_in (in_2 (List.mem_of_getElem? (i := 111) rfl)) rfl
theorem tw_2_112 : Cond.selects RX4 yX4_add yX4_add ∈ lw_G := G_in (in_2 (List.mem_of_getElem? (i := 112) rfl)) rfl
theorem tw_2_113 : Cond.code yX4_add cX4_add 2 none ∈ lw_G := G_in (in_2 (List.mem_of_getElem? (i := 113) rfl)) rfl
theorem tw_2_92 : Cond.methodLink RX5 101 yX5_isTermOrNone ∈ lw_G := G_in (in_2 (List.mem_of_getElem? (i := 92) rfl)) rfl
theorem tw_2_94 : Cond.instanceMethod yX5_isTermOrNone ∈ lw_G := G_in (in_2 (List.mem_of_getElem? (i := 94) rfl)) rfl
theorem tw_s7 : Cond.selects RX5 yX5_isTermOrNone yX5_isTermOrNone ∈ lw_G := G_in (in_s (List.mem_of_getElem? (i := 7) rfl)) rfl
theorem tw_2_95 : Cond.code yX5_isTermOrNone cX5_isTermOrNone 3 (some .boolean) ∈ lw_G := G_in (in_2 (List.mem_of_getElem? (i := 95) rfl)) rfl
theorem tw_2_105 : Cond.methodLink RX5 110 yX5_addTerm ∈ lw_G := G_in (in_2 (List.mem_of_getElem? (i := 105) rfl)) rfl
theorem tw_2_107 : Cond.instanceMethod yX5_addTerm ∈ lw_G := G_in (in_2 (List.mem_of_getElem? (i := 107) rfl)) rfl
theorem tw_s9 : Cond.selects RX5 yX5_addTerm yX5_addTerm ∈ lw_G := G_in (in_s (List.mem_of_getElem? (i := 9) rfl)) rfl
theorem tw_2_108 : Cond.code yX5_addTerm cX5_addTerm 3 none ∈ lw_G := G_in (in_2 (List.mem_of_getElem? (i := 108) rfl)) rfl
theorem tw_2_43 : Cond.methodLink RX5 71 yX5_isPredicate ∈ lw_G := G_in (in_2 (List.mem_of_getElem? (i := 43) rfl)) rfl
theorem tw_2_45 : Cond.instanceMethod yX5_isPredicate ∈ lw_G := G_in (in_2 (List.mem_of_getElem? (i := 45) rfl)) rfl
theorem tw_s4 : Cond.selects RX5 yX5_isPredicate yX5_isPredicate ∈ lw_G := G_in (in_s (List.mem_of_getElem? (i := 4) rfl)) rfl
theorem tw_2_46 : Cond.code yX5_isPredicate cX5_isPredicate 2 (some .boolean) ∈ lw_G := G_in (in_2 (List.mem_of_getElem? (i := 46) rfl)) rfl
theorem tw_2_101 : Cond.methodLink RX5 107 yX1_ofPredicate ∈ lw_G := G_in (in_2 (List.mem_of_getElem? (i := 101) rfl)) rfl
theorem tw_2_102 : Cond.static yX1_ofPredicate ∈ lw_G := G_in (in_2 (List.mem_of_getElem? (i := 102) rfl)) rfl
theorem tw_2_103 : Cond.code yX1_ofPredicate cX1_ofPredicate 2 (some .int) ∈ lw_G := G_in (in_2 (List.mem_of_getElem? (i := 103) rfl)) rfl
theorem tw_1_130 : Cond.fieldLink RX5 36 "ThesisDesk" "side" "LThesisDesk$Row;" ∈ lw_G := G_in (in_1 (List.mem_of_getElem? (i := 130) rfl)) rfl
theorem tw_4_8 : Cond.methodLink RX5 250 yX4_isAlike ∈ lw_G := G_in (in_4 (List.mem_of_getElem? (i := 8) rfl)) rfl
theorem tn_2_100 : Cond.stringRef RX5 105 "other terms are asked for" ∈ lw_tbl := in_2 (List.mem_of_getElem? (i := 100) rfl)
theorem tn_2_91 : Cond.stringRef RX5 99 "no such predicate" ∈ lw_tbl := in_2 (List.mem_of_getElem? (i := 91) rfl)
theorem sx_105 : Cond.exactly (.string RX5 105) "java/lang/String" ∈ flatC (Jvm.Cond.and given_1 narrow_1) := by decide +kernel
theorem sx_99 : Cond.exactly (.string RX5 99) "java/lang/String" ∈ flatC (Jvm.Cond.and given_1 narrow_1) := by decide +kernel
