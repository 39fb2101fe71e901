theorem tw_3_214 : Cond.methodLink RX5 236 yX1_many ∈ lw_G := G_in (in_3 (List.mem_of_getElem? (i := 214) rfl)) rfl
theorem tw_2_131 : Cond.methodLink RX5 130 yX4_load ∈ lw_G := G_in (in_2 (List.mem_of_getElem? (i := 131) rfl)) rfl
theorem tw_3_229 : Cond.methodLink RX5 247 yX4_leavePart ∈ lw_G := G_in (in_3 (List.mem_of_getElem? (i := 229) rfl)) rfl
theorem tw_3_230 : Cond.instanceMethod yX4_leavePart ∈ lw_G := G_in (in_3 (List.mem_of_getElem? (i := 230) rfl)) rfl
theorem tw_3_231 : Cond.selects RX4 yX4_leavePart yX4_leavePart ∈ lw_G := G_in (in_3 (List.mem_of_getElem? (i := 231) rfl)) rfl
theorem tw_3_232 : Cond.code yX4_leavePart cX4_leavePart 4 none ∈ lw_G := G_in (in_3 (List.mem_of_getElem? (i := 232) rfl)) rfl
theorem tw_2_206 : Cond.methodLink RX5 124 yX5_constantAt ∈ lw_G := G_in (in_2 (List.mem_of_getElem? (i := 206) rfl)) rfl
theorem tw_2_208 : Cond.instanceMethod yX5_constantAt ∈ lw_G := G_in (in_2 (List.mem_of_getElem? (i := 208) rfl)) rfl
theorem tw_s21 : Cond.selects RX5 yX5_constantAt yX5_constantAt ∈ lw_G := G_in (in_s (List.mem_of_getElem? (i := 21) rfl)) rfl
theorem tw_2_209 : Cond.code yX5_constantAt cX5_constantAt 3 (some .int) ∈ lw_G := G_in (in_2 (List.mem_of_getElem? (i := 209) rfl)) rfl
theorem tw_2_220 : Cond.methodLink RX5 137 yX4_bindAll ∈ lw_G := G_in (in_2 (List.mem_of_getElem? (i := 220) rfl)) rfl
theorem tw_2_212 : Cond.methodLink RX5 134 yX4_bindSome ∈ lw_G := G_in (in_2 (List.mem_of_getElem? (i := 212) rfl)) rfl
theorem tw_2_213 : Cond.instanceMethod yX4_bindSome ∈ lw_G := G_in (in_2 (List.mem_of_getElem? (i := 213) rfl)) rfl
theorem tw_2_214 : Cond.selects RX4 yX4_bindSome yX4_bindSome ∈ lw_G := G_in (in_2 (List.mem_of_getElem? (i := 214) rfl)) rfl
theorem tw_2_215 : Cond.code yX4_bindSome cX4_bindSome 2 none ∈ lw_G := G_in (in_2 (List.mem_of_getElem? (i := 215) rfl)) rfl
theorem tw_3_217 : Cond.methodLink RX5 242 yX1_mark ∈ lw_G := G_in (in_3 (List.mem_of_getElem? (i := 217) rfl)) rfl
theorem tw_3_218 : Cond.static yX1_mark ∈ lw_G := G_in (in_3 (List.mem_of_getElem? (i := 218) rfl)) rfl
theorem tw_3_219 : Cond.code yX1_mark cX1_mark 1 (some .int) ∈ lw_G := G_in (in_3 (List.mem_of_getElem? (i := 219) rfl)) rfl
theorem tw_1_124 : Cond.fieldLink RX5 200 "ThesisDesk" "blockCount" "I" ∈ lw_G := G_in (in_1 (List.mem_of_getElem? (i := 124) rfl)) rfl
theorem tw_1_127 : Cond.fieldLink RX5 257 "ThesisDesk" "misfitCount" "I" ∈ lw_G := G_in (in_1 (List.mem_of_getElem? (i := 127) rfl)) rfl
theorem tw_1_120 : Cond.fieldLink RX5 15 "ThesisDesk" "manies" "[I" ∈ lw_G := G_in (in_1 (List.mem_of_getElem? (i := 120) rfl)) rfl
theorem tn_3_228 : Cond.stringRef RX5 245 "no such part" ∈ lw_tbl := in_3 (List.mem_of_getElem? (i := 228) rfl)
theorem tn_2_211 : Cond.stringRef RX5 128 "a constant and a formula are asked for" ∈ lw_tbl := in_2 (List.mem_of_getElem? (i := 211) rfl)
theorem tn_3_213 : Cond.stringRef RX5 229 "no such form" ∈ lw_tbl := in_3 (List.mem_of_getElem? (i := 213) rfl)
theorem tn_1_105 : Cond.fieldLinkNest RX5 239 "ThesisDesk$Form" "codes" "[I" "ThesisDesk" ∈ lw_tbl := in_1 (List.mem_of_getElem? (i := 105) rfl)
theorem tn_4_16 : Cond.stringRef RX5 263 "0 to 4 can be counted" ∈ lw_tbl := in_4 (List.mem_of_getElem? (i := 16) rfl)
theorem tn_1_213 : Cond.stringRef RX5 53 "a predicate has 0 to 2 terms" ∈ lw_tbl := in_1 (List.mem_of_getElem? (i := 213) rfl)
theorem tn_2_9 : Cond.stringRef RX5 64 "30 predicates are there" ∈ lw_tbl := in_2 (List.mem_of_getElem? (i := 9) rfl)
theorem sx_245 : Cond.exactly (.string RX5 245) "java/lang/String" ∈ flatC (Jvm.Cond.and given_1 narrow_1) := by decide +kernel
theorem sx_128 : Cond.exactly (.string RX5 128) "java/lang/String" ∈ flatC (Jvm.Cond.and given_1 narrow_1) := by decide +kernel
theorem sx_229 : Cond.exactly (.string RX5 229) "java/lang/String" ∈ flatC (Jvm.Cond.and given_1 narrow_1) := by decide +kernel
theorem sx_263 : Cond.exactly (.string RX5 263) "java/lang/String" ∈ flatC (Jvm.Cond.and given_1 narrow_1) := by decide +kernel
theorem sx_53 : Cond.exactly (.string RX5 53) "java/lang/String" ∈ flatC (Jvm.Cond.and given_1 narrow_1) := by decide +kernel
theorem sx_64 : Cond.exactly (.string RX5 64) "java/lang/String" ∈ flatC (Jvm.Cond.and given_1 narrow_1) := by decide +kernel
