theorem tw_1_32 : Cond.methodLink RX0 3 objectInit ∈ lw_G := G_in (in_1 (List.mem_of_getElem? (i := 32) rfl)) rfl
theorem tw_1_60 : Cond.methodLink RX4 3 objectInit ∈ lw_G := G_in (in_1 (List.mem_of_getElem? (i := 60) rfl)) rfl
theorem tw_1_26 : Cond.classLink RX5 22 RX0 ∈ lw_G := G_in (in_1 (List.mem_of_getElem? (i := 26) rfl)) rfl
theorem tw_1_28 : Cond.instantiable RX0 5 ∈ lw_G := G_in (in_1 (List.mem_of_getElem? (i := 28) rfl)) rfl
theorem tw_1_30 : Cond.instanceMethod yX0_init ∈ lw_G := G_in (in_1 (List.mem_of_getElem? (i := 30) rfl)) rfl
theorem tw_1_31 : Cond.code yX0_init cX0_init 1 none ∈ lw_G := G_in (in_1 (List.mem_of_getElem? (i := 31) rfl)) rfl
theorem tw_1_21 : Cond.methodLink RX5 1 objectInit ∈ lw_G := G_in (in_1 (List.mem_of_getElem? (i := 21) rfl)) rfl
theorem tw_1_24 : Cond.classLink RX5 9 RX2 ∈ lw_G := G_in (in_1 (List.mem_of_getElem? (i := 24) rfl)) rfl
theorem tw_1_55 : Cond.classLink RX5 29 RX4 ∈ lw_G := G_in (in_1 (List.mem_of_getElem? (i := 55) rfl)) rfl
theorem tw_1_56 : Cond.instantiable RX4 3 ∈ lw_G := G_in (in_1 (List.mem_of_getElem? (i := 56) rfl)) rfl
theorem tw_1_57 : Cond.methodLink RX5 31 yX4_init ∈ lw_G := G_in (in_1 (List.mem_of_getElem? (i := 57) rfl)) rfl
theorem tw_1_58 : Cond.instanceMethod yX4_init ∈ lw_G := G_in (in_1 (List.mem_of_getElem? (i := 58) rfl)) rfl
theorem tw_1_59 : Cond.code yX4_init cX4_init 1 none ∈ lw_G := G_in (in_1 (List.mem_of_getElem? (i := 59) rfl)) rfl
theorem tn_1_29 : Cond.methodLinkNest RX5 28 yX0_init "ThesisDesk" ∈ lw_tbl := in_1 (List.mem_of_getElem? (i := 29) rfl)
theorem tn_1_25 : Cond.arrayOver (.object RX2) ∈ lw_tbl := in_1 (List.mem_of_getElem? (i := 25) rfl)
theorem tn_1_27 : Cond.arrayOver (.object RX0) ∈ lw_tbl := in_1 (List.mem_of_getElem? (i := 27) rfl)
