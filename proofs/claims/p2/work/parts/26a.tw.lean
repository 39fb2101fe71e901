theorem tw_2_122 : Cond.methodLink RX5 115 yX5_isFormulaOrNone ∈ lw_G := G_in (in_2 (List.mem_of_getElem? (i := 122) rfl)) rfl
theorem tw_2_124 : Cond.instanceMethod yX5_isFormulaOrNone ∈ lw_G := G_in (in_2 (List.mem_of_getElem? (i := 124) rfl)) rfl
theorem tw_s10 : Cond.selects RX5 yX5_isFormulaOrNone yX5_isFormulaOrNone ∈ lw_G := G_in (in_s (List.mem_of_getElem? (i := 10) rfl)) rfl
theorem tw_2_125 : Cond.code yX5_isFormulaOrNone cX5_isFormulaOrNone 3 (some .boolean) ∈ lw_G := G_in (in_2 (List.mem_of_getElem? (i := 125) rfl)) rfl
theorem tw_2_127 : Cond.methodLink RX5 120 yX5_joinIntoWork ∈ lw_G := G_in (in_2 (List.mem_of_getElem? (i := 127) rfl)) rfl
theorem tw_2_129 : Cond.instanceMethod yX5_joinIntoWork ∈ lw_G := G_in (in_2 (List.mem_of_getElem? (i := 129) rfl)) rfl
theorem tw_s11 : Cond.selects RX5 yX5_joinIntoWork yX5_joinIntoWork ∈ lw_G := G_in (in_s (List.mem_of_getElem? (i := 11) rfl)) rfl
theorem tw_2_130 : Cond.code yX5_joinIntoWork cX5_joinIntoWork 4 none ∈ lw_G := G_in (in_2 (List.mem_of_getElem? (i := 130) rfl)) rfl
theorem tn_2_121 : Cond.stringRef RX5 113 "the kinds are 0 to 5" ∈ lw_tbl := in_2 (List.mem_of_getElem? (i := 121) rfl)
theorem tn_2_126 : Cond.stringRef RX5 118 "other formulas are asked for" ∈ lw_tbl := in_2 (List.mem_of_getElem? (i := 126) rfl)
theorem sx_113 : Cond.exactly (.string RX5 113) "java/lang/String" ∈ flatC (Jvm.Cond.and given_1 narrow_1) := by decide +kernel
theorem sx_118 : Cond.exactly (.string RX5 118) "java/lang/String" ∈ flatC (Jvm.Cond.and given_1 narrow_1) := by decide +kernel
