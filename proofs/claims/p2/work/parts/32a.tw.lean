theorem tw_3_90 : Cond.methodLink RX5 335 yX5_openDefinition ∈ lw_G := G_in (in_3 (List.mem_of_getElem? (i := 90) rfl)) rfl
theorem tw_3_92 : Cond.instanceMethod yX5_openDefinition ∈ lw_G := G_in (in_3 (List.mem_of_getElem? (i := 92) rfl)) rfl
theorem tw_s34 : Cond.selects RX5 yX5_openDefinition yX5_openDefinition ∈ lw_G := G_in (in_s (List.mem_of_getElem? (i := 34) rfl)) rfl
theorem tw_3_93 : Cond.code yX5_openDefinition cX5_openDefinition 2 (some .boolean) ∈ lw_G := G_in (in_3 (List.mem_of_getElem? (i := 93) rfl)) rfl
theorem tw_3_70 : Cond.methodLink RX5 331 yX4_makeStep ∈ lw_G := G_in (in_3 (List.mem_of_getElem? (i := 70) rfl)) rfl
theorem tw_3_71 : Cond.instanceMethod yX4_makeStep ∈ lw_G := G_in (in_3 (List.mem_of_getElem? (i := 71) rfl)) rfl
theorem tw_3_72 : Cond.selects RX4 yX4_makeStep yX4_makeStep ∈ lw_G := G_in (in_3 (List.mem_of_getElem? (i := 72) rfl)) rfl
theorem tw_3_73 : Cond.code yX4_makeStep cX4_makeStep 6 (some .boolean) ∈ lw_G := G_in (in_3 (List.mem_of_getElem? (i := 73) rfl)) rfl
