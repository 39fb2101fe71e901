theorem tw_2_233 : Cond.methodLink RX5 145 yX5_refuseWhileWaiting ∈ lw_G := G_in (in_2 (List.mem_of_getElem? (i := 233) rfl)) rfl
theorem tw_2_235 : Cond.instanceMethod yX5_refuseWhileWaiting ∈ lw_G := G_in (in_2 (List.mem_of_getElem? (i := 235) rfl)) rfl
theorem tw_s23 : Cond.selects RX5 yX5_refuseWhileWaiting yX5_refuseWhileWaiting ∈ lw_G := G_in (in_s (List.mem_of_getElem? (i := 23) rfl)) rfl
theorem tw_2_236 : Cond.code yX5_refuseWhileWaiting cX5_refuseWhileWaiting 2 none ∈ lw_G := G_in (in_2 (List.mem_of_getElem? (i := 236) rfl)) rfl
theorem tw_3_2 : Cond.methodLink RX5 148 yX5_beginBlock ∈ lw_G := G_in (in_3 (List.mem_of_getElem? (i := 2) rfl)) rfl
theorem tw_3_4 : Cond.instanceMethod yX5_beginBlock ∈ lw_G := G_in (in_3 (List.mem_of_getElem? (i := 4) rfl)) rfl
theorem tw_s25 : Cond.selects RX5 yX5_beginBlock yX5_beginBlock ∈ lw_G := G_in (in_s (List.mem_of_getElem? (i := 25) rfl)) rfl
theorem tw_3_5 : Cond.code yX5_beginBlock cX5_beginBlock 3 (some .int) ∈ lw_G := G_in (in_3 (List.mem_of_getElem? (i := 5) rfl)) rfl
theorem tw_1_128 : Cond.fieldLink RX5 43 "ThesisDesk" "truth" "LThesisDesk$Form;" ∈ lw_G := G_in (in_1 (List.mem_of_getElem? (i := 128) rfl)) rfl
theorem tw_3_162 : Cond.methodLink RX5 177 yX5_waitingBlock ∈ lw_G := G_in (in_3 (List.mem_of_getElem? (i := 162) rfl)) rfl
theorem tw_3_164 : Cond.instanceMethod yX5_waitingBlock ∈ lw_G := G_in (in_3 (List.mem_of_getElem? (i := 164) rfl)) rfl
theorem tw_s37 : Cond.selects RX5 yX5_waitingBlock yX5_waitingBlock ∈ lw_G := G_in (in_s (List.mem_of_getElem? (i := 37) rfl)) rfl
theorem tw_3_165 : Cond.code yX5_waitingBlock cX5_waitingBlock 2 (some (.object "ThesisDesk$Block")) ∈ lw_G := G_in (in_3 (List.mem_of_getElem? (i := 165) rfl)) rfl
theorem tn_3_154 : Cond.stringRef RX5 175 "no proof or case is open that could begin to wait" ∈ lw_tbl := in_3 (List.mem_of_getElem? (i := 154) rfl)
theorem tn_3_174 : Cond.stringRef RX5 190 "no block is open" ∈ lw_tbl := in_3 (List.mem_of_getElem? (i := 174) rfl)
theorem sx_175 : Cond.exactly (.string RX5 175) "java/lang/String" ∈ flatC (Jvm.Cond.and given_1 narrow_1) := by decide +kernel
theorem sx_190 : Cond.exactly (.string RX5 190) "java/lang/String" ∈ flatC (Jvm.Cond.and given_1 narrow_1) := by decide +kernel
