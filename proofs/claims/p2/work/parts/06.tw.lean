theorem tw_oi : Cond.instanceMethod objectInit ∈ lw_G := G_in (in_1 (List.mem_of_getElem? (i := 22) rfl)) rfl
theorem tw_oc : Cond.code objectInit ⟨#[0xb1]⟩ 1 none ∈ lw_G := G_in (by decide +kernel) rfl
theorem tw_acl : Cond.methodLink RJ7 150 arraycopyName ∈ lw_G := G_in (by decide +kernel) rfl
theorem tw_acn : Cond.native arraycopyName ∈ lw_G := G_in (by decide +kernel) rfl
theorem tw_acs : Cond.static arraycopyName ∈ lw_G := G_in (by decide +kernel) rfl
theorem tw_aci : Cond.initialized "java/lang/System" ∈ lw_G := G_in (by decide +kernel) rfl
theorem tw_mml : Cond.methodLink RJ7 304 Lib.Math.min.name ∈ lw_G := G_in (by decide +kernel) rfl
theorem tw_mms : Cond.static Lib.Math.min.name ∈ lw_G := G_in (by decide +kernel) rfl
theorem tw_mmi : Cond.initialized "java/lang/Math" ∈ lw_G := G_in (by decide +kernel) rfl
theorem tw_mmc : Cond.code Lib.Math.min.name Lib.Math.min.code 2 (some .int) ∈ lw_G := G_in (by decide +kernel) rfl
theorem tw_1_61 : Cond.fieldLink RX4 11 "ThesisDesk$Row" "codes" "[I" ∈ lw_G := G_in (in_1 (List.mem_of_getElem? (i := 61) rfl)) rfl
theorem tw_1_62 : Cond.fieldLink RX4 15 "ThesisDesk$Row" "size" "I" ∈ lw_G := G_in (in_1 (List.mem_of_getElem? (i := 62) rfl)) rfl
theorem tw_1_63 : Cond.fieldLink RX4 19 "ThesisDesk$Row" "far" "Z" ∈ lw_G := G_in (in_1 (List.mem_of_getElem? (i := 63) rfl)) rfl
theorem tw_2_140 : Cond.methodLink RX4 34 arraycopyName ∈ lw_G := G_in (in_2 (List.mem_of_getElem? (i := 140) rfl)) rfl
theorem tw_2_149 : Cond.methodLink RX4 62 yX4_putFirst ∈ lw_G := G_in (in_2 (List.mem_of_getElem? (i := 149) rfl)) rfl
theorem tw_2_151 : Cond.instanceMethod yX4_putFirst ∈ lw_G := G_in (in_2 (List.mem_of_getElem? (i := 151) rfl)) rfl
theorem tw_s14 : Cond.selects RX4 yX4_putFirst yX4_putFirst ∈ lw_G := G_in (in_s (List.mem_of_getElem? (i := 14) rfl)) rfl
theorem tw_1_3 : Cond.initialized RX4 ∈ lw_G := G_in (in_1 (List.mem_of_getElem? (i := 3) rfl)) rfl
theorem tw_2_152 : Cond.code yX4_putFirst cX4_putFirst 2 none ∈ lw_G := G_in (in_2 (List.mem_of_getElem? (i := 152) rfl)) rfl
theorem tw_2_145 : Cond.methodLink RX4 59 yX4_dropFirst ∈ lw_G := G_in (in_2 (List.mem_of_getElem? (i := 145) rfl)) rfl
theorem tw_2_147 : Cond.instanceMethod yX4_dropFirst ∈ lw_G := G_in (in_2 (List.mem_of_getElem? (i := 147) rfl)) rfl
theorem tw_s13 : Cond.selects RX4 yX4_dropFirst yX4_dropFirst ∈ lw_G := G_in (in_s (List.mem_of_getElem? (i := 13) rfl)) rfl
theorem tw_2_148 : Cond.code yX4_dropFirst cX4_dropFirst 2 none ∈ lw_G := G_in (in_2 (List.mem_of_getElem? (i := 148) rfl)) rfl
theorem tw_2_177 : Cond.methodLink RX4 49 yX1_kind ∈ lw_G := G_in (in_2 (List.mem_of_getElem? (i := 177) rfl)) rfl
theorem tw_1_101 : Cond.static yX1_kind ∈ lw_G := G_in (in_1 (List.mem_of_getElem? (i := 101) rfl)) rfl
theorem tw_1_8 : Cond.initialized RX1 ∈ lw_G := G_in (in_1 (List.mem_of_getElem? (i := 8) rfl)) rfl
theorem tw_1_102 : Cond.code yX1_kind cX1_kind 1 (some .int) ∈ lw_G := G_in (in_1 (List.mem_of_getElem? (i := 102) rfl)) rfl
theorem tw_2_185 : Cond.methodLink RX4 91 yX1_value ∈ lw_G := G_in (in_2 (List.mem_of_getElem? (i := 185) rfl)) rfl
theorem tw_1_98 : Cond.static yX1_value ∈ lw_G := G_in (in_1 (List.mem_of_getElem? (i := 98) rfl)) rfl
theorem tw_1_99 : Cond.code yX1_value cX1_value 1 (some .int) ∈ lw_G := G_in (in_1 (List.mem_of_getElem? (i := 99) rfl)) rfl
theorem tw_2_186 : Cond.methodLink RX4 87 yX1_of ∈ lw_G := G_in (in_2 (List.mem_of_getElem? (i := 186) rfl)) rfl
theorem tw_2_60 : Cond.static yX1_of ∈ lw_G := G_in (in_2 (List.mem_of_getElem? (i := 60) rfl)) rfl
theorem tw_2_61 : Cond.code yX1_of cX1_of 2 (some .int) ∈ lw_G := G_in (in_2 (List.mem_of_getElem? (i := 61) rfl)) rfl
theorem tw_2_169 : Cond.methodLink RX4 75 yX4_isTrue ∈ lw_G := G_in (in_2 (List.mem_of_getElem? (i := 169) rfl)) rfl
theorem tw_2_171 : Cond.instanceMethod yX4_isTrue ∈ lw_G := G_in (in_2 (List.mem_of_getElem? (i := 171) rfl)) rfl
theorem tw_s18 : Cond.selects RX4 yX4_isTrue yX4_isTrue ∈ lw_G := G_in (in_s (List.mem_of_getElem? (i := 18) rfl)) rfl
theorem tw_2_172 : Cond.code yX4_isTrue cX4_isTrue 1 (some .boolean) ∈ lw_G := G_in (in_2 (List.mem_of_getElem? (i := 172) rfl)) rfl
theorem tw_2_178 : Cond.methodLink RX4 81 yX4_isAnd ∈ lw_G := G_in (in_2 (List.mem_of_getElem? (i := 178) rfl)) rfl
theorem tw_2_180 : Cond.instanceMethod yX4_isAnd ∈ lw_G := G_in (in_2 (List.mem_of_getElem? (i := 180) rfl)) rfl
theorem tw_s20 : Cond.selects RX4 yX4_isAnd yX4_isAnd ∈ lw_G := G_in (in_s (List.mem_of_getElem? (i := 20) rfl)) rfl
theorem tw_2_181 : Cond.code yX4_isAnd cX4_isAnd 1 (some .boolean) ∈ lw_G := G_in (in_2 (List.mem_of_getElem? (i := 181) rfl)) rfl
theorem tw_2_182 : Cond.methodLink RX4 84 yX4_partsIn ∈ lw_G := G_in (in_2 (List.mem_of_getElem? (i := 182) rfl)) rfl
theorem tw_2_183 : Cond.static yX4_partsIn ∈ lw_G := G_in (in_2 (List.mem_of_getElem? (i := 183) rfl)) rfl
theorem tw_2_184 : Cond.code yX4_partsIn cX4_partsIn 1 (some .int) ∈ lw_G := G_in (in_2 (List.mem_of_getElem? (i := 184) rfl)) rfl
theorem tw_2_161 : Cond.methodLink RX4 68 yX4_isNotTrue ∈ lw_G := G_in (in_2 (List.mem_of_getElem? (i := 161) rfl)) rfl
theorem tw_2_163 : Cond.instanceMethod yX4_isNotTrue ∈ lw_G := G_in (in_2 (List.mem_of_getElem? (i := 163) rfl)) rfl
theorem tw_s16 : Cond.selects RX4 yX4_isNotTrue yX4_isNotTrue ∈ lw_G := G_in (in_s (List.mem_of_getElem? (i := 16) rfl)) rfl
theorem tw_2_164 : Cond.code yX4_isNotTrue cX4_isNotTrue 1 (some .boolean) ∈ lw_G := G_in (in_2 (List.mem_of_getElem? (i := 164) rfl)) rfl
theorem tw_2_173 : Cond.methodLink RX4 78 yX4_putBefore ∈ lw_G := G_in (in_2 (List.mem_of_getElem? (i := 173) rfl)) rfl
theorem tw_2_175 : Cond.instanceMethod yX4_putBefore ∈ lw_G := G_in (in_2 (List.mem_of_getElem? (i := 175) rfl)) rfl
theorem tw_s19 : Cond.selects RX4 yX4_putBefore yX4_putBefore ∈ lw_G := G_in (in_s (List.mem_of_getElem? (i := 19) rfl)) rfl
theorem tw_2_176 : Cond.code yX4_putBefore cX4_putBefore 8 none ∈ lw_G := G_in (in_2 (List.mem_of_getElem? (i := 176) rfl)) rfl
theorem tw_2_136 : Cond.methodLink RX4 30 yX4_copy ∈ lw_G := G_in (in_2 (List.mem_of_getElem? (i := 136) rfl)) rfl
theorem tw_2_138 : Cond.instanceMethod yX4_copy ∈ lw_G := G_in (in_2 (List.mem_of_getElem? (i := 138) rfl)) rfl
theorem tw_s12 : Cond.selects RX4 yX4_copy yX4_copy ∈ lw_G := G_in (in_s (List.mem_of_getElem? (i := 12) rfl)) rfl
theorem tw_2_139 : Cond.code yX4_copy cX4_copy 3 none ∈ lw_G := G_in (in_2 (List.mem_of_getElem? (i := 139) rfl)) rfl
theorem tw_2_165 : Cond.methodLink RX4 72 yX4_setNotTrue ∈ lw_G := G_in (in_2 (List.mem_of_getElem? (i := 165) rfl)) rfl
theorem tw_2_167 : Cond.instanceMethod yX4_setNotTrue ∈ lw_G := G_in (in_2 (List.mem_of_getElem? (i := 167) rfl)) rfl
theorem tw_s17 : Cond.selects RX4 yX4_setNotTrue yX4_setNotTrue ∈ lw_G := G_in (in_s (List.mem_of_getElem? (i := 17) rfl)) rfl
theorem tw_2_168 : Cond.code yX4_setNotTrue cX4_setNotTrue 1 none ∈ lw_G := G_in (in_2 (List.mem_of_getElem? (i := 168) rfl)) rfl
theorem tw_2_135 : Cond.methodLink RX4 23 yX4_setOnly ∈ lw_G := G_in (in_2 (List.mem_of_getElem? (i := 135) rfl)) rfl
theorem tw_2_63 : Cond.instanceMethod yX4_setOnly ∈ lw_G := G_in (in_2 (List.mem_of_getElem? (i := 63) rfl)) rfl
theorem tw_2_64 : Cond.selects RX4 yX4_setOnly yX4_setOnly ∈ lw_G := G_in (in_2 (List.mem_of_getElem? (i := 64) rfl)) rfl
theorem tw_2_65 : Cond.code yX4_setOnly cX4_setOnly 2 none ∈ lw_G := G_in (in_2 (List.mem_of_getElem? (i := 65) rfl)) rfl
theorem tw_2_157 : Cond.methodLink RX4 65 yX4_joinCodes ∈ lw_G := G_in (in_2 (List.mem_of_getElem? (i := 157) rfl)) rfl
theorem tw_2_159 : Cond.instanceMethod yX4_joinCodes ∈ lw_G := G_in (in_2 (List.mem_of_getElem? (i := 159) rfl)) rfl
theorem tw_s15 : Cond.selects RX4 yX4_joinCodes yX4_joinCodes ∈ lw_G := G_in (in_s (List.mem_of_getElem? (i := 15) rfl)) rfl
theorem tw_2_160 : Cond.code yX4_joinCodes cX4_joinCodes 4 none ∈ lw_G := G_in (in_2 (List.mem_of_getElem? (i := 160) rfl)) rfl
theorem tw_2_198 : Cond.methodLink RX4 94 yX4_negate ∈ lw_G := G_in (in_2 (List.mem_of_getElem? (i := 198) rfl)) rfl
theorem tw_2_142 : Cond.instanceMethod yX4_negate ∈ lw_G := G_in (in_2 (List.mem_of_getElem? (i := 142) rfl)) rfl
theorem tw_2_143 : Cond.selects RX4 yX4_negate yX4_negate ∈ lw_G := G_in (in_2 (List.mem_of_getElem? (i := 143) rfl)) rfl
theorem tw_2_144 : Cond.code yX4_negate cX4_negate 1 none ∈ lw_G := G_in (in_2 (List.mem_of_getElem? (i := 144) rfl)) rfl
theorem tw_2_216 : Cond.methodLink RX4 97 yX4_bindAll ∈ lw_G := G_in (in_2 (List.mem_of_getElem? (i := 216) rfl)) rfl
theorem tw_2_217 : Cond.instanceMethod yX4_bindAll ∈ lw_G := G_in (in_2 (List.mem_of_getElem? (i := 217) rfl)) rfl
theorem tw_2_218 : Cond.selects RX4 yX4_bindAll yX4_bindAll ∈ lw_G := G_in (in_2 (List.mem_of_getElem? (i := 218) rfl)) rfl
theorem tw_2_219 : Cond.code yX4_bindAll cX4_bindAll 3 none ∈ lw_G := G_in (in_2 (List.mem_of_getElem? (i := 219) rfl)) rfl
theorem tn_1_104 : Cond.fieldLinkNest RX4 27 "ThesisDesk$Form" "codes" "[I" "ThesisDesk" ∈ lw_tbl := in_1 (List.mem_of_getElem? (i := 104) rfl)
