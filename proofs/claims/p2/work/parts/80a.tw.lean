theorem tw_1_17 : Cond.instantiable RX5 14 ∈ lw_G := G_in (in_1 (List.mem_of_getElem? (i := 17) rfl)) rfl
theorem tw_4_18 : Cond.instantiable RX6 39 ∈ lw_G := G_in (in_4 (List.mem_of_getElem? (i := 18) rfl)) rfl
theorem tw_1_16 : Cond.classLink RL 8 RX5 ∈ lw_G := G_in (in_1 (List.mem_of_getElem? (i := 16) rfl)) rfl
theorem tw_1_18 : Cond.methodLink RL 89 yX5_init ∈ lw_G := G_in (in_1 (List.mem_of_getElem? (i := 18) rfl)) rfl
theorem tw_1_19 : Cond.instanceMethod yX5_init ∈ lw_G := G_in (in_1 (List.mem_of_getElem? (i := 19) rfl)) rfl
theorem tw_1_20 : Cond.code yX5_init cX5_init 2 none ∈ lw_G := G_in (in_1 (List.mem_of_getElem? (i := 20) rfl)) rfl
theorem tw_4_17 : Cond.classLink RL 90 RX6 ∈ lw_G := G_in (in_4 (List.mem_of_getElem? (i := 17) rfl)) rfl
theorem tw_4_19 : Cond.methodLink RL 92 yX6_init ∈ lw_G := G_in (in_4 (List.mem_of_getElem? (i := 19) rfl)) rfl
theorem tw_4_20 : Cond.instanceMethod yX6_init ∈ lw_G := G_in (in_4 (List.mem_of_getElem? (i := 20) rfl)) rfl
theorem tw_4_21 : Cond.code yX6_init cX6_init 1 none ∈ lw_G := G_in (in_4 (List.mem_of_getElem? (i := 21) rfl)) rfl
theorem tw_5_154 : Cond.arrayClass .long ∈ lw_G := G_in (in_5 (List.mem_of_getElem? (i := 154) rfl)) rfl
