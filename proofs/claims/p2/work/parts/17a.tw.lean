theorem tw_3_237 : Cond.methodLink RX4 115 yX1_many ∈ lw_G := G_in (in_3 (List.mem_of_getElem? (i := 237) rfl)) rfl
theorem tw_3_215 : Cond.static yX1_many ∈ lw_G := G_in (in_3 (List.mem_of_getElem? (i := 215) rfl)) rfl
theorem tw_3_216 : Cond.code yX1_many cX1_many 1 (some .int) ∈ lw_G := G_in (in_3 (List.mem_of_getElem? (i := 216) rfl)) rfl
theorem tw_3_233 : Cond.methodLink RX4 104 yX4_stopOf ∈ lw_G := G_in (in_3 (List.mem_of_getElem? (i := 233) rfl)) rfl
theorem tw_3_235 : Cond.instanceMethod yX4_stopOf ∈ lw_G := G_in (in_3 (List.mem_of_getElem? (i := 235) rfl)) rfl
theorem tw_s41 : Cond.selects RX4 yX4_stopOf yX4_stopOf ∈ lw_G := G_in (in_s (List.mem_of_getElem? (i := 41) rfl)) rfl
theorem tw_3_236 : Cond.code yX4_stopOf cX4_stopOf 4 (some .int) ∈ lw_G := G_in (in_3 (List.mem_of_getElem? (i := 236) rfl)) rfl
