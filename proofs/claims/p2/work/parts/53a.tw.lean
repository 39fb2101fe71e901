theorem tw_5_86 : Cond.methodLink RX6 126 yX6_read ∈ lw_G := G_in (in_5 (List.mem_of_getElem? (i := 86) rfl)) rfl
theorem tw_5_88 : Cond.instanceMethod yX6_read ∈ lw_G := G_in (in_5 (List.mem_of_getElem? (i := 88) rfl)) rfl
theorem tw_s76 : Cond.selects RX6 yX6_read yX6_read ∈ lw_G := G_in (in_s (List.mem_of_getElem? (i := 76) rfl)) rfl
theorem tw_5_89 : Cond.code yX6_read cX6_read 7 (some .int) ∈ lw_G := G_in (in_5 (List.mem_of_getElem? (i := 89) rfl)) rfl
