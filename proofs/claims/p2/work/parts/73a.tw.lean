theorem tw_5_126 : Cond.methodLink RX6 256 yX6_says ∈ lw_G := G_in (in_5 (List.mem_of_getElem? (i := 126) rfl)) rfl
theorem tw_5_128 : Cond.instanceMethod yX6_says ∈ lw_G := G_in (in_5 (List.mem_of_getElem? (i := 128) rfl)) rfl
theorem tw_s78 : Cond.selects RX6 yX6_says yX6_says ∈ lw_G := G_in (in_s (List.mem_of_getElem? (i := 78) rfl)) rfl
theorem tw_5_129 : Cond.code yX6_says cX6_says 6 (some .int) ∈ lw_G := G_in (in_5 (List.mem_of_getElem? (i := 129) rfl)) rfl
