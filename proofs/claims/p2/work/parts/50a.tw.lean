theorem tw_5_58 : Cond.methodLink RX6 165 yX6_put ∈ lw_G := G_in (in_5 (List.mem_of_getElem? (i := 58) rfl)) rfl
theorem tw_5_60 : Cond.instanceMethod yX6_put ∈ lw_G := G_in (in_5 (List.mem_of_getElem? (i := 60) rfl)) rfl
theorem tw_s69 : Cond.selects RX6 yX6_put yX6_put ∈ lw_G := G_in (in_s (List.mem_of_getElem? (i := 69) rfl)) rfl
theorem tw_5_61 : Cond.code yX6_put cX6_put 7 (some .int) ∈ lw_G := G_in (in_5 (List.mem_of_getElem? (i := 61) rfl)) rfl
theorem tw_5_70 : Cond.methodLink RX6 174 yX6_opens ∈ lw_G := G_in (in_5 (List.mem_of_getElem? (i := 70) rfl)) rfl
theorem tw_5_72 : Cond.instanceMethod yX6_opens ∈ lw_G := G_in (in_5 (List.mem_of_getElem? (i := 72) rfl)) rfl
theorem tw_s72 : Cond.selects RX6 yX6_opens yX6_opens ∈ lw_G := G_in (in_s (List.mem_of_getElem? (i := 72) rfl)) rfl
theorem tw_5_73 : Cond.code yX6_opens cX6_opens 6 (some .int) ∈ lw_G := G_in (in_5 (List.mem_of_getElem? (i := 73) rfl)) rfl
