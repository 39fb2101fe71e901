theorem tw_4_234 : Cond.methodLink RX6 202 yX6_implies ∈ lw_G := G_in (in_4 (List.mem_of_getElem? (i := 234) rfl)) rfl
theorem tw_4_236 : Cond.instanceMethod yX6_implies ∈ lw_G := G_in (in_4 (List.mem_of_getElem? (i := 236) rfl)) rfl
theorem tw_s57 : Cond.selects RX6 yX6_implies yX6_implies ∈ lw_G := G_in (in_s (List.mem_of_getElem? (i := 57) rfl)) rfl
theorem tw_4_237 : Cond.code yX6_implies cX6_implies 3 (some .int) ∈ lw_G := G_in (in_4 (List.mem_of_getElem? (i := 237) rfl)) rfl
