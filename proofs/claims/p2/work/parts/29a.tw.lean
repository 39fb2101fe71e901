theorem tw_2_237 : Cond.methodLink RX5 169 yX5_openBlock ∈ lw_G := G_in (in_2 (List.mem_of_getElem? (i := 237) rfl)) rfl
theorem tw_2_239 : Cond.instanceMethod yX5_openBlock ∈ lw_G := G_in (in_2 (List.mem_of_getElem? (i := 239) rfl)) rfl
theorem tw_s24 : Cond.selects RX5 yX5_openBlock yX5_openBlock ∈ lw_G := G_in (in_s (List.mem_of_getElem? (i := 24) rfl)) rfl
theorem tw_3_0 : Cond.code yX5_openBlock cX5_openBlock 1 (some (.object "ThesisDesk$Block")) ∈ lw_G := G_in (in_3 (List.mem_of_getElem? (i := 0) rfl)) rfl
theorem tw_3_30 : Cond.methodLink RX5 180 yX5_refuseWhenFull ∈ lw_G := G_in (in_3 (List.mem_of_getElem? (i := 30) rfl)) rfl
theorem tw_3_32 : Cond.instanceMethod yX5_refuseWhenFull ∈ lw_G := G_in (in_3 (List.mem_of_getElem? (i := 32) rfl)) rfl
theorem tw_s27 : Cond.selects RX5 yX5_refuseWhenFull yX5_refuseWhenFull ∈ lw_G := G_in (in_s (List.mem_of_getElem? (i := 27) rfl)) rfl
theorem tw_3_33 : Cond.code yX5_refuseWhenFull cX5_refuseWhenFull 1 none ∈ lw_G := G_in (in_3 (List.mem_of_getElem? (i := 33) rfl)) rfl
theorem tn_1_38 : Cond.fieldLinkNest RX5 172 "ThesisDesk$Block" "waits" "Z" "ThesisDesk" ∈ lw_tbl := in_1 (List.mem_of_getElem? (i := 38) rfl)
theorem tn_3_1 : Cond.stringRef RX5 297 "the open block waits for cases" ∈ lw_tbl := in_3 (List.mem_of_getElem? (i := 1) rfl)
theorem tn_3_29 : Cond.stringRef RX5 326 "no block is open for steps" ∈ lw_tbl := in_3 (List.mem_of_getElem? (i := 29) rfl)
theorem tn_3_166 : Cond.stringRef RX5 299 "no block that waits for cases is open" ∈ lw_tbl := in_3 (List.mem_of_getElem? (i := 166) rfl)
theorem sx_297 : Cond.exactly (.string RX5 297) "java/lang/String" ∈ flatC (Jvm.Cond.and given_1 narrow_1) := by decide +kernel
theorem sx_326 : Cond.exactly (.string RX5 326) "java/lang/String" ∈ flatC (Jvm.Cond.and given_1 narrow_1) := by decide +kernel
theorem sx_299 : Cond.exactly (.string RX5 299) "java/lang/String" ∈ flatC (Jvm.Cond.and given_1 narrow_1) := by decide +kernel
