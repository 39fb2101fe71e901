theorem tw_4_230 : Cond.methodLink RX6 150 yX6_and ∈ lw_G := G_in (in_4 (List.mem_of_getElem? (i := 230) rfl)) rfl
theorem tw_4_232 : Cond.instanceMethod yX6_and ∈ lw_G := G_in (in_4 (List.mem_of_getElem? (i := 232) rfl)) rfl
theorem tw_s56 : Cond.selects RX6 yX6_and yX6_and ∈ lw_G := G_in (in_s (List.mem_of_getElem? (i := 56) rfl)) rfl
theorem tw_4_233 : Cond.code yX6_and cX6_and 8 (some .int) ∈ lw_G := G_in (in_4 (List.mem_of_getElem? (i := 233) rfl)) rfl
theorem tw_4_218 : Cond.methodLink RX6 154 yX6_not ∈ lw_G := G_in (in_4 (List.mem_of_getElem? (i := 218) rfl)) rfl
theorem tw_4_220 : Cond.instanceMethod yX6_not ∈ lw_G := G_in (in_4 (List.mem_of_getElem? (i := 220) rfl)) rfl
theorem tw_s53 : Cond.selects RX6 yX6_not yX6_not ∈ lw_G := G_in (in_s (List.mem_of_getElem? (i := 53) rfl)) rfl
theorem tw_4_221 : Cond.code yX6_not cX6_not 2 (some .int) ∈ lw_G := G_in (in_4 (List.mem_of_getElem? (i := 221) rfl)) rfl
theorem tw_4_226 : Cond.methodLink RX6 157 yX6_and_ ∈ lw_G := G_in (in_4 (List.mem_of_getElem? (i := 226) rfl)) rfl
theorem tw_4_228 : Cond.instanceMethod yX6_and_ ∈ lw_G := G_in (in_4 (List.mem_of_getElem? (i := 228) rfl)) rfl
theorem tw_s55 : Cond.selects RX6 yX6_and_ yX6_and_ ∈ lw_G := G_in (in_s (List.mem_of_getElem? (i := 55) rfl)) rfl
theorem tw_4_229 : Cond.code yX6_and_ cX6_and_ 4 (some .int) ∈ lw_G := G_in (in_4 (List.mem_of_getElem? (i := 229) rfl)) rfl
