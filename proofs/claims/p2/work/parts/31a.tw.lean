theorem tw_3_94 : Cond.methodLink RX5 338 yX4_predicateToOpen ∈ lw_G := G_in (in_3 (List.mem_of_getElem? (i := 94) rfl)) rfl
theorem tw_3_95 : Cond.instanceMethod yX4_predicateToOpen ∈ lw_G := G_in (in_3 (List.mem_of_getElem? (i := 95) rfl)) rfl
theorem tw_3_96 : Cond.selects RX4 yX4_predicateToOpen yX4_predicateToOpen ∈ lw_G := G_in (in_3 (List.mem_of_getElem? (i := 96) rfl)) rfl
theorem tw_3_97 : Cond.code yX4_predicateToOpen cX4_predicateToOpen 1 (some .int) ∈ lw_G := G_in (in_3 (List.mem_of_getElem? (i := 97) rfl)) rfl
theorem tw_3_111 : Cond.methodLink RX5 341 yX4_open ∈ lw_G := G_in (in_3 (List.mem_of_getElem? (i := 111) rfl)) rfl
theorem tw_3_112 : Cond.instanceMethod yX4_open ∈ lw_G := G_in (in_3 (List.mem_of_getElem? (i := 112) rfl)) rfl
theorem tw_3_113 : Cond.selects RX4 yX4_open yX4_open ∈ lw_G := G_in (in_3 (List.mem_of_getElem? (i := 113) rfl)) rfl
theorem tw_3_114 : Cond.code yX4_open cX4_open 6 none ∈ lw_G := G_in (in_3 (List.mem_of_getElem? (i := 114) rfl)) rfl
