theorem tw_3_86 : Cond.methodLink RX4 55 yX4_hasAt ∈ lw_G := G_in (in_3 (List.mem_of_getElem? (i := 86) rfl)) rfl
theorem tw_3_88 : Cond.instanceMethod yX4_hasAt ∈ lw_G := G_in (in_3 (List.mem_of_getElem? (i := 88) rfl)) rfl
theorem tw_s33 : Cond.selects RX4 yX4_hasAt yX4_hasAt ∈ lw_G := G_in (in_s (List.mem_of_getElem? (i := 33) rfl)) rfl
theorem tw_3_89 : Cond.code yX4_hasAt cX4_hasAt 6 (some .boolean) ∈ lw_G := G_in (in_3 (List.mem_of_getElem? (i := 89) rfl)) rfl
theorem tw_3_82 : Cond.methodLink RX4 122 yX4_isAlike ∈ lw_G := G_in (in_3 (List.mem_of_getElem? (i := 82) rfl)) rfl
theorem tw_3_83 : Cond.instanceMethod yX4_isAlike ∈ lw_G := G_in (in_3 (List.mem_of_getElem? (i := 83) rfl)) rfl
theorem tw_3_84 : Cond.selects RX4 yX4_isAlike yX4_isAlike ∈ lw_G := G_in (in_3 (List.mem_of_getElem? (i := 84) rfl)) rfl
theorem tw_3_85 : Cond.code yX4_isAlike cX4_isAlike 2 (some .boolean) ∈ lw_G := G_in (in_3 (List.mem_of_getElem? (i := 85) rfl)) rfl
theorem tw_3_74 : Cond.methodLink RX4 100 yX4_leaveBody ∈ lw_G := G_in (in_3 (List.mem_of_getElem? (i := 74) rfl)) rfl
theorem tw_3_76 : Cond.instanceMethod yX4_leaveBody ∈ lw_G := G_in (in_3 (List.mem_of_getElem? (i := 76) rfl)) rfl
theorem tw_s31 : Cond.selects RX4 yX4_leaveBody yX4_leaveBody ∈ lw_G := G_in (in_s (List.mem_of_getElem? (i := 31) rfl)) rfl
theorem tw_3_77 : Cond.code yX4_leaveBody cX4_leaveBody 3 (some .boolean) ∈ lw_G := G_in (in_3 (List.mem_of_getElem? (i := 77) rfl)) rfl
theorem tw_3_78 : Cond.methodLink RX4 118 yX4_leaveOthers ∈ lw_G := G_in (in_3 (List.mem_of_getElem? (i := 78) rfl)) rfl
theorem tw_3_80 : Cond.instanceMethod yX4_leaveOthers ∈ lw_G := G_in (in_3 (List.mem_of_getElem? (i := 80) rfl)) rfl
theorem tw_s32 : Cond.selects RX4 yX4_leaveOthers yX4_leaveOthers ∈ lw_G := G_in (in_s (List.mem_of_getElem? (i := 32) rfl)) rfl
theorem tw_3_81 : Cond.code yX4_leaveOthers cX4_leaveOthers 4 (some .boolean) ∈ lw_G := G_in (in_3 (List.mem_of_getElem? (i := 81) rfl)) rfl
