theorem tw_4_189 : Cond.methodLink RX6 97 yJ9_max_7cf53 ∈ lw_G := G_in (in_4 (List.mem_of_getElem? (i := 189) rfl)) rfl
