theorem tw_4_59 : Cond.fieldLink RX6 224 "ThesisDeskModel" "constants" "I" ∈ lw_G := G_in (in_4 (List.mem_of_getElem? (i := 59) rfl)) rfl
theorem tw_4_190 : Cond.methodLink RX6 227 yX6_gives ∈ lw_G := G_in (in_4 (List.mem_of_getElem? (i := 190) rfl)) rfl
theorem tw_4_192 : Cond.instanceMethod yX6_gives ∈ lw_G := G_in (in_4 (List.mem_of_getElem? (i := 192) rfl)) rfl
theorem tw_s49 : Cond.selects RX6 yX6_gives yX6_gives ∈ lw_G := G_in (in_s (List.mem_of_getElem? (i := 49) rfl)) rfl
theorem tw_4_193 : Cond.code yX6_gives cX6_gives 3 (some .int) ∈ lw_G := G_in (in_4 (List.mem_of_getElem? (i := 193) rfl)) rfl
