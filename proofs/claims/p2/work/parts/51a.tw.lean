theorem tw_4_166 : Cond.methodLink RX6 177 yX6_hasLocus ∈ lw_G := G_in (in_4 (List.mem_of_getElem? (i := 166) rfl)) rfl
theorem tw_4_168 : Cond.instanceMethod yX6_hasLocus ∈ lw_G := G_in (in_4 (List.mem_of_getElem? (i := 168) rfl)) rfl
theorem tw_s45 : Cond.selects RX6 yX6_hasLocus yX6_hasLocus ∈ lw_G := G_in (in_s (List.mem_of_getElem? (i := 45) rfl)) rfl
theorem tw_4_169 : Cond.code yX6_hasLocus cX6_hasLocus 4 (some .boolean) ∈ lw_G := G_in (in_4 (List.mem_of_getElem? (i := 169) rfl)) rfl
