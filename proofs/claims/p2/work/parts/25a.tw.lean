theorem tw_1_121 : Cond.fieldLink RX5 19 "ThesisDesk" "definitions" "[LThesisDesk$Form;" ∈ lw_G := G_in (in_1 (List.mem_of_getElem? (i := 121) rfl)) rfl
theorem tw_2_194 : Cond.methodLink RX5 287 yX4_imply ∈ lw_G := G_in (in_2 (List.mem_of_getElem? (i := 194) rfl)) rfl
theorem tw_2_195 : Cond.instanceMethod yX4_imply ∈ lw_G := G_in (in_2 (List.mem_of_getElem? (i := 195) rfl)) rfl
theorem tw_2_196 : Cond.selects RX4 yX4_imply yX4_imply ∈ lw_G := G_in (in_2 (List.mem_of_getElem? (i := 196) rfl)) rfl
theorem tw_2_197 : Cond.code yX4_imply cX4_imply 2 none ∈ lw_G := G_in (in_2 (List.mem_of_getElem? (i := 197) rfl)) rfl
theorem tw_2_141 : Cond.methodLink RX5 216 yX4_negate ∈ lw_G := G_in (in_2 (List.mem_of_getElem? (i := 141) rfl)) rfl
theorem tw_2_153 : Cond.methodLink RX5 280 yX4_joinForm ∈ lw_G := G_in (in_2 (List.mem_of_getElem? (i := 153) rfl)) rfl
theorem tw_2_154 : Cond.instanceMethod yX4_joinForm ∈ lw_G := G_in (in_2 (List.mem_of_getElem? (i := 154) rfl)) rfl
theorem tw_2_155 : Cond.selects RX4 yX4_joinForm yX4_joinForm ∈ lw_G := G_in (in_2 (List.mem_of_getElem? (i := 155) rfl)) rfl
theorem tw_2_156 : Cond.code yX4_joinForm cX4_joinForm 2 none ∈ lw_G := G_in (in_2 (List.mem_of_getElem? (i := 156) rfl)) rfl
theorem tw_2_187 : Cond.methodLink RX5 219 yX4_joinRow ∈ lw_G := G_in (in_2 (List.mem_of_getElem? (i := 187) rfl)) rfl
theorem tw_2_188 : Cond.instanceMethod yX4_joinRow ∈ lw_G := G_in (in_2 (List.mem_of_getElem? (i := 188) rfl)) rfl
theorem tw_2_189 : Cond.selects RX4 yX4_joinRow yX4_joinRow ∈ lw_G := G_in (in_2 (List.mem_of_getElem? (i := 189) rfl)) rfl
theorem tw_2_190 : Cond.code yX4_joinRow cX4_joinRow 2 none ∈ lw_G := G_in (in_2 (List.mem_of_getElem? (i := 190) rfl)) rfl
theorem tw_2_191 : Cond.methodLink RX5 283 yX5_loadImplied ∈ lw_G := G_in (in_2 (List.mem_of_getElem? (i := 191) rfl)) rfl
theorem tw_2_192 : Cond.static yX5_loadImplied ∈ lw_G := G_in (in_2 (List.mem_of_getElem? (i := 192) rfl)) rfl
theorem tw_2_193 : Cond.code yX5_loadImplied cX5_loadImplied 3 none ∈ lw_G := G_in (in_2 (List.mem_of_getElem? (i := 193) rfl)) rfl
theorem tn_2_47 : Cond.stringRef RX5 78 "a predicate and a formula in its loci are asked for" ∈ lw_tbl := in_2 (List.mem_of_getElem? (i := 47) rfl)
theorem sx_78 : Cond.exactly (.string RX5 78) "java/lang/String" ∈ flatC (Jvm.Cond.and given_1 narrow_1) := by decide +kernel
