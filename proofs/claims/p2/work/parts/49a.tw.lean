theorem tw_5_10 : Cond.methodLink RX6 162 yX6_inner ∈ lw_G := G_in (in_5 (List.mem_of_getElem? (i := 10) rfl)) rfl
theorem tw_5_12 : Cond.instanceMethod yX6_inner ∈ lw_G := G_in (in_5 (List.mem_of_getElem? (i := 12) rfl)) rfl
theorem tw_s60 : Cond.selects RX6 yX6_inner yX6_inner ∈ lw_G := G_in (in_s (List.mem_of_getElem? (i := 60) rfl)) rfl
theorem tw_5_13 : Cond.code yX6_inner cX6_inner 3 (some .int) ∈ lw_G := G_in (in_5 (List.mem_of_getElem? (i := 13) rfl)) rfl
theorem tw_5_6 : Cond.methodLink RX6 171 yX6_free ∈ lw_G := G_in (in_5 (List.mem_of_getElem? (i := 6) rfl)) rfl
theorem tw_5_8 : Cond.instanceMethod yX6_free ∈ lw_G := G_in (in_5 (List.mem_of_getElem? (i := 8) rfl)) rfl
theorem tw_s59 : Cond.selects RX6 yX6_free yX6_free ∈ lw_G := G_in (in_s (List.mem_of_getElem? (i := 59) rfl)) rfl
theorem tw_5_9 : Cond.code yX6_free cX6_free 7 (some .int) ∈ lw_G := G_in (in_5 (List.mem_of_getElem? (i := 9) rfl)) rfl
theorem tw_5_14 : Cond.methodLink RX6 168 yX6_again ∈ lw_G := G_in (in_5 (List.mem_of_getElem? (i := 14) rfl)) rfl
theorem tw_5_16 : Cond.instanceMethod yX6_again ∈ lw_G := G_in (in_5 (List.mem_of_getElem? (i := 16) rfl)) rfl
theorem tw_s61 : Cond.selects RX6 yX6_again yX6_again ∈ lw_G := G_in (in_s (List.mem_of_getElem? (i := 61) rfl)) rfl
theorem tw_5_17 : Cond.code yX6_again cX6_again 4 (some .int) ∈ lw_G := G_in (in_5 (List.mem_of_getElem? (i := 17) rfl)) rfl
