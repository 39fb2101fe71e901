theorem tw_1_119 : Cond.fieldLink RX5 260 "ThesisDesk" "constantCount" "I" ∈ lw_G := G_in (in_1 (List.mem_of_getElem? (i := 119) rfl)) rfl
theorem tw_2_59 : Cond.methodLink RX5 86 yX1_of ∈ lw_G := G_in (in_2 (List.mem_of_getElem? (i := 59) rfl)) rfl
theorem tw_2_62 : Cond.methodLink RX5 92 yX4_setOnly ∈ lw_G := G_in (in_2 (List.mem_of_getElem? (i := 62) rfl)) rfl
theorem tw_2_66 : Cond.methodLink RX5 96 yX5_keepWork ∈ lw_G := G_in (in_2 (List.mem_of_getElem? (i := 66) rfl)) rfl
theorem tw_2_68 : Cond.instanceMethod yX5_keepWork ∈ lw_G := G_in (in_2 (List.mem_of_getElem? (i := 68) rfl)) rfl
theorem tw_s6 : Cond.selects RX5 yX5_keepWork yX5_keepWork ∈ lw_G := G_in (in_s (List.mem_of_getElem? (i := 6) rfl)) rfl
theorem tw_2_69 : Cond.code yX5_keepWork cX5_keepWork 1 (some .int) ∈ lw_G := G_in (in_2 (List.mem_of_getElem? (i := 69) rfl)) rfl
theorem tw_2_55 : Cond.methodLink RX5 80 yX5_keepNewConstant ∈ lw_G := G_in (in_2 (List.mem_of_getElem? (i := 55) rfl)) rfl
theorem tw_2_57 : Cond.instanceMethod yX5_keepNewConstant ∈ lw_G := G_in (in_2 (List.mem_of_getElem? (i := 57) rfl)) rfl
theorem tw_s5 : Cond.selects RX5 yX5_keepNewConstant yX5_keepNewConstant ∈ lw_G := G_in (in_s (List.mem_of_getElem? (i := 5) rfl)) rfl
theorem tw_2_58 : Cond.code yX5_keepNewConstant cX5_keepNewConstant 2 (some .int) ∈ lw_G := G_in (in_2 (List.mem_of_getElem? (i := 58) rfl)) rfl
theorem tn_2_83 : Cond.stringRef RX5 84 "the loci are 0 and 1" ∈ lw_tbl := in_2 (List.mem_of_getElem? (i := 83) rfl)
theorem sx_84 : Cond.exactly (.string RX5 84) "java/lang/String" ∈ flatC (Jvm.Cond.and given_1 narrow_1) := by decide +kernel
