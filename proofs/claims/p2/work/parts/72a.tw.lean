theorem tw_4_55 : Cond.fieldLink RX6 83 "ThesisDeskModel" "way" "[I" ∈ lw_G := G_in (in_4 (List.mem_of_getElem? (i := 55) rfl)) rfl
