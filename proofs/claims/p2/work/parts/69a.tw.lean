theorem tw_4_202 : Cond.methodLink RX6 230 yX6_term ∈ lw_G := G_in (in_4 (List.mem_of_getElem? (i := 202) rfl)) rfl
theorem tw_4_204 : Cond.instanceMethod yX6_term ∈ lw_G := G_in (in_4 (List.mem_of_getElem? (i := 204) rfl)) rfl
theorem tw_s50 : Cond.selects RX6 yX6_term yX6_term ∈ lw_G := G_in (in_s (List.mem_of_getElem? (i := 50) rfl)) rfl
theorem tw_4_205 : Cond.code yX6_term cX6_term 2 (some .int) ∈ lw_G := G_in (in_4 (List.mem_of_getElem? (i := 205) rfl)) rfl
