theorem tw_oi : Cond.instanceMethod objectInit ∈ lw_G := G_in (in_1 (List.mem_of_getElem? (i := 22) rfl)) rfl
theorem tw_oc : Cond.code objectInit ⟨#[0xb1]⟩ 1 none ∈ lw_G := G_in (by decide +kernel) rfl
theorem tw_acl : Cond.methodLink RJ7 150 arraycopyName ∈ lw_G := G_in (by decide +kernel) rfl
theorem tw_acn : Cond.native arraycopyName ∈ lw_G := G_in (by decide +kernel) rfl
theorem tw_acs : Cond.static arraycopyName ∈ lw_G := G_in (by decide +kernel) rfl
theorem tw_aci : Cond.initialized "java/lang/System" ∈ lw_G := G_in (by decide +kernel) rfl
theorem tw_mml : Cond.methodLink RJ7 304 Lib.Math.min.name ∈ lw_G := G_in (by decide +kernel) rfl
theorem tw_mms : Cond.static Lib.Math.min.name ∈ lw_G := G_in (by decide +kernel) rfl
theorem tw_mmi : Cond.initialized "java/lang/Math" ∈ lw_G := G_in (by decide +kernel) rfl
theorem tw_mmc : Cond.code Lib.Math.min.name Lib.Math.min.code 2 (some .int) ∈ lw_G := G_in (by decide +kernel) rfl
theorem tw_1_61 : Cond.fieldLink RX4 11 "ThesisDesk$Row" "codes" "[I" ∈ lw_G := G_in (in_1 (List.mem_of_getElem? (i := 61) rfl)) rfl
theorem tw_1_62 : Cond.fieldLink RX4 15 "ThesisDesk$Row" "size" "I" ∈ lw_G := G_in (in_1 (List.mem_of_getElem? (i := 62) rfl)) rfl
theorem tw_1_63 : Cond.fieldLink RX4 19 "ThesisDesk$Row" "far" "Z" ∈ lw_G := G_in (in_1 (List.mem_of_getElem? (i := 63) rfl)) rfl
theorem tw_2_140 : Cond.methodLink RX4 34 arraycopyName ∈ lw_G := G_in (in_2 (List.mem_of_getElem? (i := 140) rfl)) rfl
theorem tw_2_149 : Cond.methodLink RX4 62 yX4_putFirst ∈ lw_G := G_in (in_2 (List.mem_of_getElem? (i := 149) rfl)) rfl
theorem tw_2_151 : Cond.instanceMethod yX4_putFirst ∈ lw_G := G_in (in_2 (List.mem_of_getElem? (i := 151) rfl)) rfl
theorem tw_s14 : Cond.selects RX4 yX4_putFirst yX4_putFirst ∈ lw_G := G_in (in_s (List.mem_of_getElem? (i := 14) rfl)) rfl
theorem tw_1_3 : Cond.initialized RX4 ∈ lw_G := G_in (in_1 (List.mem_of_getElem? (i := 3) rfl)) rfl
theorem tw_2_152 : Cond.code yX4_putFirst cX4_putFirst 2 none ∈ lw_G := G_in (in_2 (List.mem_of_getElem? (i := 152) rfl)) rfl
theorem tw_2_145 : Cond.methodLink RX4 59 yX4_dropFirst ∈ lw_G := G_in (in_2 (List.mem_of_getElem? (i := 145) rfl)) rfl
theorem tw_2_147 : Cond.instanceMethod yX4_dropFirst ∈ lw_G := G_in (in_2 (List.mem_of_getElem? (i := 147) rfl)) rfl
theorem tw_s13 : Cond.selects RX4 yX4_dropFirst yX4_dropFirst ∈ lw_G := G_in (in_s (List.mem_of_getElem? (i := 13) rfl)) rfl
theorem tw_2_148 : Cond.code yX4_dropFirst cX4_dropFirst 2 none ∈ lw_G := G_in (in_2 (List.mem_of_getElem? (i := 148) rfl)) rfl
theorem tw_2_177 : Cond.methodLink RX4 49 yX1_kind ∈ lw_G := G_in (in_2 (List.mem_of_getElem? (i := 177) rfl)) rfl
theorem tw_1_101 : Cond.static yX1_kind ∈ lw_G := G_in (in_1 (List.mem_of_getElem? (i := 101) rfl)) rfl
theorem tw_1_8 : Cond.initialized RX1 ∈ lw_G := G_in (in_1 (List.mem_of_getElem? (i := 8) rfl)) rfl
theorem tw_1_102 : Cond.code yX1_kind cX1_kind 1 (some .int) ∈ lw_G := G_in (in_1 (List.mem_of_getElem? (i := 102) rfl)) rfl
theorem tw_2_185 : Cond.methodLink RX4 91 yX1_value ∈ lw_G := G_in (in_2 (List.mem_of_getElem? (i := 185) rfl)) rfl
theorem tw_1_98 : Cond.static yX1_value ∈ lw_G := G_in (in_1 (List.mem_of_getElem? (i := 98) rfl)) rfl
theorem tw_1_99 : Cond.code yX1_value cX1_value 1 (some .int) ∈ lw_G := G_in (in_1 (List.mem_of_getElem? (i := 99) rfl)) rfl
theorem tw_2_186 : Cond.methodLink RX4 87 yX1_of ∈ lw_G := G_in (in_2 (List.mem_of_getElem? (i := 186) rfl)) rfl
theorem tw_2_60 : Cond.static yX1_of ∈ lw_G := G_in (in_2 (List.mem_of_getElem? (i := 60) rfl)) rfl
theorem tw_2_61 : Cond.code yX1_of cX1_of 2 (some .int) ∈ lw_G := G_in (in_2 (List.mem_of_getElem? (i := 61) rfl)) rfl
theorem tw_2_169 : Cond.methodLink RX4 75 yX4_isTrue ∈ lw_G := G_in (in_2 (List.mem_of_getElem? (i := 169) rfl)) rfl
theorem tw_2_171 : Cond.instanceMethod yX4_isTrue ∈ lw_G := G_in (in_2 (List.mem_of_getElem? (i := 171) rfl)) rfl
theorem tw_s18 : Cond.selects RX4 yX4_isTrue yX4_isTrue ∈ lw_G := G_in (in_s (List.mem_of_getElem? (i := 18) rfl)) rfl
theorem tw_2_172 : Cond.code yX4_isTrue cX4_isTrue 1 (some .boolean) ∈ lw_G := G_in (in_2 (List.mem_of_getElem? (i := 172) rfl)) rfl
