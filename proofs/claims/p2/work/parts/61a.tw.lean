theorem tw_4_51 : Cond.fieldLink RX6 74 "ThesisDeskModel" "sKind" "[I" ∈ lw_G := G_in (in_4 (List.mem_of_getElem? (i := 51) rfl)) rfl
theorem tw_4_52 : Cond.fieldLink RX6 77 "ThesisDeskModel" "sWhat" "[I" ∈ lw_G := G_in (in_4 (List.mem_of_getElem? (i := 52) rfl)) rfl
theorem tw_4_53 : Cond.fieldLink RX6 80 "ThesisDeskModel" "sConst" "[I" ∈ lw_G := G_in (in_4 (List.mem_of_getElem? (i := 53) rfl)) rfl
