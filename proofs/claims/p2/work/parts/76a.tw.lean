theorem tw_2_19 : Cond.methodLink RL 17 yX5_define ∈ lw_G := G_in (in_2 (List.mem_of_getElem? (i := 19) rfl)) rfl
theorem tw_2_20 : Cond.instanceMethod yX5_define ∈ lw_G := G_in (in_2 (List.mem_of_getElem? (i := 20) rfl)) rfl
theorem tw_2_21 : Cond.selects RX5 yX5_define yX5_define ∈ lw_G := G_in (in_2 (List.mem_of_getElem? (i := 21) rfl)) rfl
theorem tw_2_22 : Cond.code yX5_define cX5_define 5 (some .boolean) ∈ lw_G := G_in (in_2 (List.mem_of_getElem? (i := 22) rfl)) rfl
theorem tw_1_167 : Cond.classLink RL 13 "java/lang/IllegalArgumentException" ∈ lw_G := G_in (in_1 (List.mem_of_getElem? (i := 167) rfl)) rfl
theorem tw_1_168 : Cond.classLink RL 15 "java/lang/IllegalStateException" ∈ lw_G := G_in (in_1 (List.mem_of_getElem? (i := 168) rfl)) rfl
theorem tw_2_51 : Cond.methodLink RL 21 yX5_constant ∈ lw_G := G_in (in_2 (List.mem_of_getElem? (i := 51) rfl)) rfl
theorem tw_2_52 : Cond.instanceMethod yX5_constant ∈ lw_G := G_in (in_2 (List.mem_of_getElem? (i := 52) rfl)) rfl
theorem tw_2_53 : Cond.selects RX5 yX5_constant yX5_constant ∈ lw_G := G_in (in_2 (List.mem_of_getElem? (i := 53) rfl)) rfl
theorem tw_2_54 : Cond.code yX5_constant cX5_constant 1 (some .int) ∈ lw_G := G_in (in_2 (List.mem_of_getElem? (i := 54) rfl)) rfl
theorem tw_2_79 : Cond.methodLink RL 25 yX5_locus ∈ lw_G := G_in (in_2 (List.mem_of_getElem? (i := 79) rfl)) rfl
theorem tw_2_80 : Cond.instanceMethod yX5_locus ∈ lw_G := G_in (in_2 (List.mem_of_getElem? (i := 80) rfl)) rfl
theorem tw_2_81 : Cond.selects RX5 yX5_locus yX5_locus ∈ lw_G := G_in (in_2 (List.mem_of_getElem? (i := 81) rfl)) rfl
theorem tw_2_82 : Cond.code yX5_locus cX5_locus 2 (some .int) ∈ lw_G := G_in (in_2 (List.mem_of_getElem? (i := 82) rfl)) rfl
theorem tw_2_87 : Cond.methodLink RL 28 yX5_atom ∈ lw_G := G_in (in_2 (List.mem_of_getElem? (i := 87) rfl)) rfl
theorem tw_2_88 : Cond.instanceMethod yX5_atom ∈ lw_G := G_in (in_2 (List.mem_of_getElem? (i := 88) rfl)) rfl
theorem tw_2_89 : Cond.selects RX5 yX5_atom yX5_atom ∈ lw_G := G_in (in_2 (List.mem_of_getElem? (i := 89) rfl)) rfl
theorem tw_2_90 : Cond.code yX5_atom cX5_atom 5 (some .int) ∈ lw_G := G_in (in_2 (List.mem_of_getElem? (i := 90) rfl)) rfl
theorem tw_2_117 : Cond.methodLink RL 32 yX5_join ∈ lw_G := G_in (in_2 (List.mem_of_getElem? (i := 117) rfl)) rfl
theorem tw_2_118 : Cond.instanceMethod yX5_join ∈ lw_G := G_in (in_2 (List.mem_of_getElem? (i := 118) rfl)) rfl
theorem tw_2_119 : Cond.selects RX5 yX5_join yX5_join ∈ lw_G := G_in (in_2 (List.mem_of_getElem? (i := 119) rfl)) rfl
theorem tw_2_120 : Cond.code yX5_join cX5_join 4 (some .int) ∈ lw_G := G_in (in_2 (List.mem_of_getElem? (i := 120) rfl)) rfl
theorem tw_2_202 : Cond.methodLink RL 35 yX5_bind ∈ lw_G := G_in (in_2 (List.mem_of_getElem? (i := 202) rfl)) rfl
theorem tw_2_203 : Cond.instanceMethod yX5_bind ∈ lw_G := G_in (in_2 (List.mem_of_getElem? (i := 203) rfl)) rfl
theorem tw_2_204 : Cond.selects RX5 yX5_bind yX5_bind ∈ lw_G := G_in (in_2 (List.mem_of_getElem? (i := 204) rfl)) rfl
theorem tw_2_205 : Cond.code yX5_bind cX5_bind 6 (some .int) ∈ lw_G := G_in (in_2 (List.mem_of_getElem? (i := 205) rfl)) rfl
theorem tw_2_224 : Cond.methodLink RL 39 yX5_proof ∈ lw_G := G_in (in_2 (List.mem_of_getElem? (i := 224) rfl)) rfl
theorem tw_2_225 : Cond.instanceMethod yX5_proof ∈ lw_G := G_in (in_2 (List.mem_of_getElem? (i := 225) rfl)) rfl
theorem tw_2_226 : Cond.selects RX5 yX5_proof yX5_proof ∈ lw_G := G_in (in_2 (List.mem_of_getElem? (i := 226) rfl)) rfl
theorem tw_2_227 : Cond.code yX5_proof cX5_proof 3 (some .int) ∈ lw_G := G_in (in_2 (List.mem_of_getElem? (i := 227) rfl)) rfl
theorem tw_3_14 : Cond.methodLink RL 42 yX5_now ∈ lw_G := G_in (in_3 (List.mem_of_getElem? (i := 14) rfl)) rfl
theorem tw_3_15 : Cond.instanceMethod yX5_now ∈ lw_G := G_in (in_3 (List.mem_of_getElem? (i := 15) rfl)) rfl
theorem tw_3_16 : Cond.selects RX5 yX5_now yX5_now ∈ lw_G := G_in (in_3 (List.mem_of_getElem? (i := 16) rfl)) rfl
theorem tw_3_17 : Cond.code yX5_now cX5_now 1 (some .int) ∈ lw_G := G_in (in_3 (List.mem_of_getElem? (i := 17) rfl)) rfl
theorem tw_3_21 : Cond.methodLink RL 45 yX5_let ∈ lw_G := G_in (in_3 (List.mem_of_getElem? (i := 21) rfl)) rfl
theorem tw_3_22 : Cond.instanceMethod yX5_let ∈ lw_G := G_in (in_3 (List.mem_of_getElem? (i := 22) rfl)) rfl
theorem tw_3_23 : Cond.selects RX5 yX5_let yX5_let ∈ lw_G := G_in (in_3 (List.mem_of_getElem? (i := 23) rfl)) rfl
theorem tw_3_24 : Cond.code yX5_let cX5_let 3 (some .int) ∈ lw_G := G_in (in_3 (List.mem_of_getElem? (i := 24) rfl)) rfl
theorem tw_3_119 : Cond.methodLink RL 48 yX5_assume ∈ lw_G := G_in (in_3 (List.mem_of_getElem? (i := 119) rfl)) rfl
theorem tw_3_120 : Cond.instanceMethod yX5_assume ∈ lw_G := G_in (in_3 (List.mem_of_getElem? (i := 120) rfl)) rfl
theorem tw_3_121 : Cond.selects RX5 yX5_assume yX5_assume ∈ lw_G := G_in (in_3 (List.mem_of_getElem? (i := 121) rfl)) rfl
theorem tw_3_122 : Cond.code yX5_assume cX5_assume 3 (some .boolean) ∈ lw_G := G_in (in_3 (List.mem_of_getElem? (i := 122) rfl)) rfl
theorem tw_3_126 : Cond.methodLink RL 52 yX5_thus ∈ lw_G := G_in (in_3 (List.mem_of_getElem? (i := 126) rfl)) rfl
theorem tw_3_127 : Cond.instanceMethod yX5_thus ∈ lw_G := G_in (in_3 (List.mem_of_getElem? (i := 127) rfl)) rfl
theorem tw_3_128 : Cond.selects RX5 yX5_thus yX5_thus ∈ lw_G := G_in (in_3 (List.mem_of_getElem? (i := 128) rfl)) rfl
theorem tw_3_129 : Cond.code yX5_thus cX5_thus 3 (some .boolean) ∈ lw_G := G_in (in_3 (List.mem_of_getElem? (i := 129) rfl)) rfl
theorem tw_3_133 : Cond.methodLink RL 55 yX5_take ∈ lw_G := G_in (in_3 (List.mem_of_getElem? (i := 133) rfl)) rfl
theorem tw_3_134 : Cond.instanceMethod yX5_take ∈ lw_G := G_in (in_3 (List.mem_of_getElem? (i := 134) rfl)) rfl
theorem tw_3_135 : Cond.selects RX5 yX5_take yX5_take ∈ lw_G := G_in (in_3 (List.mem_of_getElem? (i := 135) rfl)) rfl
theorem tw_3_136 : Cond.code yX5_take cX5_take 4 (some .boolean) ∈ lw_G := G_in (in_3 (List.mem_of_getElem? (i := 136) rfl)) rfl
theorem tw_3_142 : Cond.methodLink RL 58 yX5_given ∈ lw_G := G_in (in_3 (List.mem_of_getElem? (i := 142) rfl)) rfl
theorem tw_3_143 : Cond.instanceMethod yX5_given ∈ lw_G := G_in (in_3 (List.mem_of_getElem? (i := 143) rfl)) rfl
theorem tw_3_144 : Cond.selects RX5 yX5_given yX5_given ∈ lw_G := G_in (in_3 (List.mem_of_getElem? (i := 144) rfl)) rfl
theorem tw_3_145 : Cond.code yX5_given cX5_given 5 (some .boolean) ∈ lw_G := G_in (in_3 (List.mem_of_getElem? (i := 145) rfl)) rfl
theorem tw_3_158 : Cond.methodLink RL 64 yX5_suppose ∈ lw_G := G_in (in_3 (List.mem_of_getElem? (i := 158) rfl)) rfl
theorem tw_3_159 : Cond.instanceMethod yX5_suppose ∈ lw_G := G_in (in_3 (List.mem_of_getElem? (i := 159) rfl)) rfl
theorem tw_3_160 : Cond.selects RX5 yX5_suppose yX5_suppose ∈ lw_G := G_in (in_3 (List.mem_of_getElem? (i := 160) rfl)) rfl
theorem tw_3_161 : Cond.code yX5_suppose cX5_suppose 5 (some .int) ∈ lw_G := G_in (in_3 (List.mem_of_getElem? (i := 161) rfl)) rfl
theorem tw_3_170 : Cond.methodLink RL 67 yX5_end ∈ lw_G := G_in (in_3 (List.mem_of_getElem? (i := 170) rfl)) rfl
theorem tw_3_171 : Cond.instanceMethod yX5_end ∈ lw_G := G_in (in_3 (List.mem_of_getElem? (i := 171) rfl)) rfl
theorem tw_3_172 : Cond.selects RX5 yX5_end yX5_end ∈ lw_G := G_in (in_3 (List.mem_of_getElem? (i := 172) rfl)) rfl
theorem tw_3_173 : Cond.code yX5_end cX5_end 3 (some .int) ∈ lw_G := G_in (in_3 (List.mem_of_getElem? (i := 173) rfl)) rfl
theorem tw_3_195 : Cond.methodLink RL 70 yX5_thesis ∈ lw_G := G_in (in_3 (List.mem_of_getElem? (i := 195) rfl)) rfl
theorem tw_3_196 : Cond.instanceMethod yX5_thesis ∈ lw_G := G_in (in_3 (List.mem_of_getElem? (i := 196) rfl)) rfl
theorem tw_3_197 : Cond.selects RX5 yX5_thesis yX5_thesis ∈ lw_G := G_in (in_3 (List.mem_of_getElem? (i := 197) rfl)) rfl
theorem tw_3_198 : Cond.code yX5_thesis cX5_thesis 2 (some .int) ∈ lw_G := G_in (in_3 (List.mem_of_getElem? (i := 198) rfl)) rfl
theorem tw_3_202 : Cond.methodLink RL 73 yX5_ways ∈ lw_G := G_in (in_3 (List.mem_of_getElem? (i := 202) rfl)) rfl
theorem tw_3_203 : Cond.instanceMethod yX5_ways ∈ lw_G := G_in (in_3 (List.mem_of_getElem? (i := 203) rfl)) rfl
theorem tw_3_204 : Cond.selects RX5 yX5_ways yX5_ways ∈ lw_G := G_in (in_3 (List.mem_of_getElem? (i := 204) rfl)) rfl
theorem tw_3_205 : Cond.code yX5_ways cX5_ways 3 (some .int) ∈ lw_G := G_in (in_3 (List.mem_of_getElem? (i := 205) rfl)) rfl
theorem tw_3_209 : Cond.methodLink RL 76 yX5_about ∈ lw_G := G_in (in_3 (List.mem_of_getElem? (i := 209) rfl)) rfl
theorem tw_3_210 : Cond.instanceMethod yX5_about ∈ lw_G := G_in (in_3 (List.mem_of_getElem? (i := 210) rfl)) rfl
theorem tw_3_211 : Cond.selects RX5 yX5_about yX5_about ∈ lw_G := G_in (in_3 (List.mem_of_getElem? (i := 211) rfl)) rfl
theorem tw_3_212 : Cond.code yX5_about cX5_about 4 (some .int) ∈ lw_G := G_in (in_3 (List.mem_of_getElem? (i := 212) rfl)) rfl
theorem tw_3_224 : Cond.methodLink RL 80 yX5_part ∈ lw_G := G_in (in_3 (List.mem_of_getElem? (i := 224) rfl)) rfl
theorem tw_3_225 : Cond.instanceMethod yX5_part ∈ lw_G := G_in (in_3 (List.mem_of_getElem? (i := 225) rfl)) rfl
theorem tw_3_226 : Cond.selects RX5 yX5_part yX5_part ∈ lw_G := G_in (in_3 (List.mem_of_getElem? (i := 226) rfl)) rfl
theorem tw_3_227 : Cond.code yX5_part cX5_part 4 (some .int) ∈ lw_G := G_in (in_3 (List.mem_of_getElem? (i := 227) rfl)) rfl
theorem tw_4_4 : Cond.methodLink RL 83 yX5_alike ∈ lw_G := G_in (in_4 (List.mem_of_getElem? (i := 4) rfl)) rfl
theorem tw_4_5 : Cond.instanceMethod yX5_alike ∈ lw_G := G_in (in_4 (List.mem_of_getElem? (i := 5) rfl)) rfl
theorem tw_4_6 : Cond.selects RX5 yX5_alike yX5_alike ∈ lw_G := G_in (in_4 (List.mem_of_getElem? (i := 6) rfl)) rfl
theorem tw_4_7 : Cond.code yX5_alike cX5_alike 5 (some .boolean) ∈ lw_G := G_in (in_4 (List.mem_of_getElem? (i := 7) rfl)) rfl
theorem tw_4_12 : Cond.methodLink RL 86 yX5_count ∈ lw_G := G_in (in_4 (List.mem_of_getElem? (i := 12) rfl)) rfl
theorem tw_4_13 : Cond.instanceMethod yX5_count ∈ lw_G := G_in (in_4 (List.mem_of_getElem? (i := 13) rfl)) rfl
theorem tw_4_14 : Cond.selects RX5 yX5_count yX5_count ∈ lw_G := G_in (in_4 (List.mem_of_getElem? (i := 14) rfl)) rfl
theorem tw_4_15 : Cond.code yX5_count cX5_count 2 (some .int) ∈ lw_G := G_in (in_4 (List.mem_of_getElem? (i := 15) rfl)) rfl
theorem tw_3_150 : Cond.methodLink RL 61 yX5_cases ∈ lw_G := G_in (in_3 (List.mem_of_getElem? (i := 150) rfl)) rfl
theorem tw_3_151 : Cond.instanceMethod yX5_cases ∈ lw_G := G_in (in_3 (List.mem_of_getElem? (i := 151) rfl)) rfl
theorem tw_3_152 : Cond.selects RX5 yX5_cases yX5_cases ∈ lw_G := G_in (in_3 (List.mem_of_getElem? (i := 152) rfl)) rfl
theorem tw_3_153 : Cond.code yX5_cases cX5_cases 2 none ∈ lw_G := G_in (in_3 (List.mem_of_getElem? (i := 153) rfl)) rfl
theorem tw_1_169 : Cond.methodLink RL 7 yX5_predicate ∈ lw_G := G_in (in_1 (List.mem_of_getElem? (i := 169) rfl)) rfl
theorem tw_1_170 : Cond.instanceMethod yX5_predicate ∈ lw_G := G_in (in_1 (List.mem_of_getElem? (i := 170) rfl)) rfl
theorem tw_1_171 : Cond.selects RX5 yX5_predicate yX5_predicate ∈ lw_G := G_in (in_1 (List.mem_of_getElem? (i := 171) rfl)) rfl
theorem tw_1_172 : Cond.code yX5_predicate cX5_predicate 2 (some .int) ∈ lw_G := G_in (in_1 (List.mem_of_getElem? (i := 172) rfl)) rfl
theorem tn_1_175 : Cond.castable nIAE nIAE ∈ lw_tbl := in_1 (List.mem_of_getElem? (i := 175) rfl)
theorem tn_2_2 : Cond.castable nISE nISE ∈ lw_tbl := in_2 (List.mem_of_getElem? (i := 2) rfl)
