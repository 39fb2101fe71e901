theorem tw_4_214 : Cond.methodLink RX6 147 yX6_truth ∈ lw_G := G_in (in_4 (List.mem_of_getElem? (i := 214) rfl)) rfl
theorem tw_4_216 : Cond.instanceMethod yX6_truth ∈ lw_G := G_in (in_4 (List.mem_of_getElem? (i := 216) rfl)) rfl
theorem tw_s52 : Cond.selects RX6 yX6_truth yX6_truth ∈ lw_G := G_in (in_s (List.mem_of_getElem? (i := 52) rfl)) rfl
theorem tw_4_217 : Cond.code yX6_truth cX6_truth 1 (some .int) ∈ lw_G := G_in (in_4 (List.mem_of_getElem? (i := 217) rfl)) rfl
