theorem tw_1_54 : Cond.arrayClass .int ∈ lw_G := G_in (in_1 (List.mem_of_getElem? (i := 54) rfl)) rfl
theorem tw_1_75 : Cond.classLink RX4 28 RX2 ∈ lw_G := G_in (in_1 (List.mem_of_getElem? (i := 75) rfl)) rfl
theorem tw_1_76 : Cond.instantiable RX2 3 ∈ lw_G := G_in (in_1 (List.mem_of_getElem? (i := 76) rfl)) rfl
theorem tw_1_77 : Cond.methodLink RX4 40 yJ7_copyOf_59c91 ∈ lw_G := G_in (in_1 (List.mem_of_getElem? (i := 77) rfl)) rfl
theorem tw_1_78 : Cond.static yJ7_copyOf_59c91 ∈ lw_G := G_in (in_1 (List.mem_of_getElem? (i := 78) rfl)) rfl
theorem tw_1_5 : Cond.initialized RJ7 ∈ lw_G := G_in (in_1 (List.mem_of_getElem? (i := 5) rfl)) rfl
theorem tw_1_79 : Cond.code yJ7_copyOf_59c91 cJ7_copyOf_59c91 3 (some (.array .int)) ∈ lw_G := G_in (in_1 (List.mem_of_getElem? (i := 79) rfl)) rfl
theorem tw_1_93 : Cond.methodLink RX4 46 yX2_init ∈ lw_G := G_in (in_1 (List.mem_of_getElem? (i := 93) rfl)) rfl
theorem tw_1_94 : Cond.instanceMethod yX2_init ∈ lw_G := G_in (in_1 (List.mem_of_getElem? (i := 94) rfl)) rfl
theorem tw_1_95 : Cond.code yX2_init cX2_init 6 none ∈ lw_G := G_in (in_1 (List.mem_of_getElem? (i := 95) rfl)) rfl
