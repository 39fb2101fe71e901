theorem tw_5_62 : Cond.methodLink RX6 184 yX6_behind ∈ lw_G := G_in (in_5 (List.mem_of_getElem? (i := 62) rfl)) rfl
theorem tw_5_64 : Cond.instanceMethod yX6_behind ∈ lw_G := G_in (in_5 (List.mem_of_getElem? (i := 64) rfl)) rfl
theorem tw_s70 : Cond.selects RX6 yX6_behind yX6_behind ∈ lw_G := G_in (in_s (List.mem_of_getElem? (i := 70) rfl)) rfl
theorem tw_5_65 : Cond.code yX6_behind cX6_behind 6 (some .int) ∈ lw_G := G_in (in_5 (List.mem_of_getElem? (i := 65) rfl)) rfl
