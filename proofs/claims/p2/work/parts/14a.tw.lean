theorem tw_3_109 : Cond.methodLink RX1 15 yX1_kind ∈ lw_G := G_in (in_3 (List.mem_of_getElem? (i := 109) rfl)) rfl
theorem tw_3_110 : Cond.methodLink RX1 19 yX1_value ∈ lw_G := G_in (in_3 (List.mem_of_getElem? (i := 110) rfl)) rfl
theorem tw_3_220 : Cond.methodLink RX1 22 yX1_predicateIn ∈ lw_G := G_in (in_3 (List.mem_of_getElem? (i := 220) rfl)) rfl
theorem tw_3_107 : Cond.static yX1_predicateIn ∈ lw_G := G_in (in_3 (List.mem_of_getElem? (i := 107) rfl)) rfl
theorem tw_3_108 : Cond.code yX1_predicateIn cX1_predicateIn 1 (some .int) ∈ lw_G := G_in (in_3 (List.mem_of_getElem? (i := 108) rfl)) rfl
theorem tw_2_104 : Cond.methodLink RX1 11 yX1_of ∈ lw_G := G_in (in_2 (List.mem_of_getElem? (i := 104) rfl)) rfl
theorem tw_3_98 : Cond.methodLink RX4 125 yX4_placeBehindNot ∈ lw_G := G_in (in_3 (List.mem_of_getElem? (i := 98) rfl)) rfl
theorem tw_3_100 : Cond.instanceMethod yX4_placeBehindNot ∈ lw_G := G_in (in_3 (List.mem_of_getElem? (i := 100) rfl)) rfl
theorem tw_s35 : Cond.selects RX4 yX4_placeBehindNot yX4_placeBehindNot ∈ lw_G := G_in (in_s (List.mem_of_getElem? (i := 35) rfl)) rfl
theorem tw_3_101 : Cond.code yX4_placeBehindNot cX4_placeBehindNot 1 (some .int) ∈ lw_G := G_in (in_3 (List.mem_of_getElem? (i := 101) rfl)) rfl
theorem tw_3_102 : Cond.methodLink RX4 112 yX4_codeAt ∈ lw_G := G_in (in_3 (List.mem_of_getElem? (i := 102) rfl)) rfl
theorem tw_3_104 : Cond.instanceMethod yX4_codeAt ∈ lw_G := G_in (in_3 (List.mem_of_getElem? (i := 104) rfl)) rfl
theorem tw_s36 : Cond.selects RX4 yX4_codeAt yX4_codeAt ∈ lw_G := G_in (in_s (List.mem_of_getElem? (i := 36) rfl)) rfl
theorem tw_3_105 : Cond.code yX4_codeAt cX4_codeAt 2 (some .int) ∈ lw_G := G_in (in_3 (List.mem_of_getElem? (i := 105) rfl)) rfl
theorem tw_3_106 : Cond.methodLink RX4 129 yX1_predicateIn ∈ lw_G := G_in (in_3 (List.mem_of_getElem? (i := 106) rfl)) rfl
