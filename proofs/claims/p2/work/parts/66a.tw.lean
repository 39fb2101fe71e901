theorem tw_5_38 : Cond.methodLink RX6 243 yX6_begins ∈ lw_G := G_in (in_5 (List.mem_of_getElem? (i := 38) rfl)) rfl
theorem tw_5_40 : Cond.instanceMethod yX6_begins ∈ lw_G := G_in (in_5 (List.mem_of_getElem? (i := 40) rfl)) rfl
theorem tw_s66 : Cond.selects RX6 yX6_begins yX6_begins ∈ lw_G := G_in (in_s (List.mem_of_getElem? (i := 66) rfl)) rfl
theorem tw_5_41 : Cond.code yX6_begins cX6_begins 3 (some .int) ∈ lw_G := G_in (in_5 (List.mem_of_getElem? (i := 41) rfl)) rfl
theorem tw_5_34 : Cond.methodLink RX6 239 yX6_isOpen ∈ lw_G := G_in (in_5 (List.mem_of_getElem? (i := 34) rfl)) rfl
theorem tw_5_36 : Cond.instanceMethod yX6_isOpen ∈ lw_G := G_in (in_5 (List.mem_of_getElem? (i := 36) rfl)) rfl
theorem tw_s65 : Cond.selects RX6 yX6_isOpen yX6_isOpen ∈ lw_G := G_in (in_s (List.mem_of_getElem? (i := 65) rfl)) rfl
theorem tw_5_37 : Cond.code yX6_isOpen cX6_isOpen 1 (some .boolean) ∈ lw_G := G_in (in_5 (List.mem_of_getElem? (i := 37) rfl)) rfl
theorem tw_5_26 : Cond.methodLink RX6 236 yX6_closed ∈ lw_G := G_in (in_5 (List.mem_of_getElem? (i := 26) rfl)) rfl
theorem tw_5_28 : Cond.instanceMethod yX6_closed ∈ lw_G := G_in (in_5 (List.mem_of_getElem? (i := 28) rfl)) rfl
theorem tw_s63 : Cond.selects RX6 yX6_closed yX6_closed ∈ lw_G := G_in (in_s (List.mem_of_getElem? (i := 63) rfl)) rfl
theorem tw_5_29 : Cond.code yX6_closed cX6_closed 3 (some .int) ∈ lw_G := G_in (in_5 (List.mem_of_getElem? (i := 29) rfl)) rfl
