theorem tw_2_228 : Cond.methodLink RX5 140 yX5_closedAt ∈ lw_G := G_in (in_2 (List.mem_of_getElem? (i := 228) rfl)) rfl
theorem tw_2_230 : Cond.instanceMethod yX5_closedAt ∈ lw_G := G_in (in_2 (List.mem_of_getElem? (i := 230) rfl)) rfl
theorem tw_s22 : Cond.selects RX5 yX5_closedAt yX5_closedAt ∈ lw_G := G_in (in_s (List.mem_of_getElem? (i := 22) rfl)) rfl
theorem tw_2_231 : Cond.code yX5_closedAt cX5_closedAt 3 (some (.object "ThesisDesk$Form")) ∈ lw_G := G_in (in_2 (List.mem_of_getElem? (i := 231) rfl)) rfl
theorem tw_3_25 : Cond.methodLink RX5 152 yX5_blockForStep ∈ lw_G := G_in (in_3 (List.mem_of_getElem? (i := 25) rfl)) rfl
theorem tw_3_27 : Cond.instanceMethod yX5_blockForStep ∈ lw_G := G_in (in_3 (List.mem_of_getElem? (i := 27) rfl)) rfl
theorem tw_s26 : Cond.selects RX5 yX5_blockForStep yX5_blockForStep ∈ lw_G := G_in (in_s (List.mem_of_getElem? (i := 26) rfl)) rfl
theorem tw_3_28 : Cond.code yX5_blockForStep cX5_blockForStep 2 (some (.object "ThesisDesk$Block")) ∈ lw_G := G_in (in_3 (List.mem_of_getElem? (i := 28) rfl)) rfl
theorem tw_3_35 : Cond.methodLink RX5 156 yX5_step ∈ lw_G := G_in (in_3 (List.mem_of_getElem? (i := 35) rfl)) rfl
theorem tw_3_37 : Cond.instanceMethod yX5_step ∈ lw_G := G_in (in_3 (List.mem_of_getElem? (i := 37) rfl)) rfl
theorem tw_s28 : Cond.selects RX5 yX5_step yX5_step ∈ lw_G := G_in (in_s (List.mem_of_getElem? (i := 28) rfl)) rfl
theorem tw_3_38 : Cond.code yX5_step cX5_step 5 (some .boolean) ∈ lw_G := G_in (in_3 (List.mem_of_getElem? (i := 38) rfl)) rfl
theorem tn_2_232 : Cond.stringRef RX5 143 "a closed formula is asked for" ∈ lw_tbl := in_2 (List.mem_of_getElem? (i := 232) rfl)
theorem tn_3_138 : Cond.stringRef RX5 165 "a now has nothing to take a term for" ∈ lw_tbl := in_3 (List.mem_of_getElem? (i := 138) rfl)
theorem tn_3_137 : Cond.stringRef RX5 160 "a closed term is asked for" ∈ lw_tbl := in_3 (List.mem_of_getElem? (i := 137) rfl)
theorem tn_3_146 : Cond.stringRef RX5 167 "a constant and a closed formula are asked for" ∈ lw_tbl := in_3 (List.mem_of_getElem? (i := 146) rfl)
theorem sx_143 : Cond.exactly (.string RX5 143) "java/lang/String" ∈ flatC (Jvm.Cond.and given_1 narrow_1) := by decide +kernel
theorem sx_165 : Cond.exactly (.string RX5 165) "java/lang/String" ∈ flatC (Jvm.Cond.and given_1 narrow_1) := by decide +kernel
theorem sx_160 : Cond.exactly (.string RX5 160) "java/lang/String" ∈ flatC (Jvm.Cond.and given_1 narrow_1) := by decide +kernel
theorem sx_167 : Cond.exactly (.string RX5 167) "java/lang/String" ∈ flatC (Jvm.Cond.and given_1 narrow_1) := by decide +kernel
