theorem tw_1_164 : Cond.methodLink RL 93 yL_predicate ∈ lw_G := G_in (in_1 (List.mem_of_getElem? (i := 164) rfl)) rfl
theorem tw_1_165 : Cond.static yL_predicate ∈ lw_G := G_in (in_1 (List.mem_of_getElem? (i := 165) rfl)) rfl
theorem tw_1_0 : Cond.initialized RL ∈ lw_G := G_in (in_1 (List.mem_of_getElem? (i := 0) rfl)) rfl
theorem tw_1_166 : Cond.codeWith yL_predicate cL_predicate 4 (some .int) [(0, 9, 12, 13), (0, 9, 15, 15)] ∈ lw_G := G_in (in_1 (List.mem_of_getElem? (i := 166) rfl)) rfl
theorem tw_4_146 : Cond.methodLink RL 98 yX6_predicate ∈ lw_G := G_in (in_4 (List.mem_of_getElem? (i := 146) rfl)) rfl
theorem tw_4_147 : Cond.instanceMethod yX6_predicate ∈ lw_G := G_in (in_4 (List.mem_of_getElem? (i := 147) rfl)) rfl
theorem tw_4_148 : Cond.selects RX6 yX6_predicate yX6_predicate ∈ lw_G := G_in (in_4 (List.mem_of_getElem? (i := 148) rfl)) rfl
theorem tw_4_149 : Cond.code yX6_predicate cX6_predicate 2 (some .int) ∈ lw_G := G_in (in_4 (List.mem_of_getElem? (i := 149) rfl)) rfl
theorem tw_4_142 : Cond.methodLink RL 99 yX6_thrown ∈ lw_G := G_in (in_4 (List.mem_of_getElem? (i := 142) rfl)) rfl
theorem tw_4_143 : Cond.instanceMethod yX6_thrown ∈ lw_G := G_in (in_4 (List.mem_of_getElem? (i := 143) rfl)) rfl
theorem tw_4_144 : Cond.selects RX6 yX6_thrown yX6_thrown ∈ lw_G := G_in (in_4 (List.mem_of_getElem? (i := 144) rfl)) rfl
theorem tw_4_145 : Cond.code yX6_thrown cX6_thrown 1 (some .int) ∈ lw_G := G_in (in_4 (List.mem_of_getElem? (i := 145) rfl)) rfl
theorem tw_2_16 : Cond.methodLink RL 102 yL_define ∈ lw_G := G_in (in_2 (List.mem_of_getElem? (i := 16) rfl)) rfl
theorem tw_2_17 : Cond.static yL_define ∈ lw_G := G_in (in_2 (List.mem_of_getElem? (i := 17) rfl)) rfl
theorem tw_2_18 : Cond.codeWith yL_define cL_define 5 (some .int) [(0, 17, 20, 13)] ∈ lw_G := G_in (in_2 (List.mem_of_getElem? (i := 18) rfl)) rfl
theorem tw_4_154 : Cond.methodLink RL 105 yX6_define ∈ lw_G := G_in (in_4 (List.mem_of_getElem? (i := 154) rfl)) rfl
theorem tw_4_155 : Cond.instanceMethod yX6_define ∈ lw_G := G_in (in_4 (List.mem_of_getElem? (i := 155) rfl)) rfl
theorem tw_4_156 : Cond.selects RX6 yX6_define yX6_define ∈ lw_G := G_in (in_4 (List.mem_of_getElem? (i := 156) rfl)) rfl
theorem tw_4_157 : Cond.code yX6_define cX6_define 5 (some .boolean) ∈ lw_G := G_in (in_4 (List.mem_of_getElem? (i := 157) rfl)) rfl
theorem tw_2_48 : Cond.methodLink RL 106 yL_constant ∈ lw_G := G_in (in_2 (List.mem_of_getElem? (i := 48) rfl)) rfl
theorem tw_2_49 : Cond.static yL_constant ∈ lw_G := G_in (in_2 (List.mem_of_getElem? (i := 49) rfl)) rfl
theorem tw_2_50 : Cond.codeWith yL_constant cL_constant 3 (some .int) [(0, 8, 11, 15)] ∈ lw_G := G_in (in_2 (List.mem_of_getElem? (i := 50) rfl)) rfl
theorem tw_4_174 : Cond.methodLink RL 109 yX6_constant ∈ lw_G := G_in (in_4 (List.mem_of_getElem? (i := 174) rfl)) rfl
theorem tw_4_175 : Cond.instanceMethod yX6_constant ∈ lw_G := G_in (in_4 (List.mem_of_getElem? (i := 175) rfl)) rfl
theorem tw_4_176 : Cond.selects RX6 yX6_constant yX6_constant ∈ lw_G := G_in (in_4 (List.mem_of_getElem? (i := 176) rfl)) rfl
theorem tw_4_177 : Cond.code yX6_constant cX6_constant 1 (some .int) ∈ lw_G := G_in (in_4 (List.mem_of_getElem? (i := 177) rfl)) rfl
theorem tw_2_76 : Cond.methodLink RL 110 yL_locus ∈ lw_G := G_in (in_2 (List.mem_of_getElem? (i := 76) rfl)) rfl
theorem tw_2_77 : Cond.static yL_locus ∈ lw_G := G_in (in_2 (List.mem_of_getElem? (i := 77) rfl)) rfl
theorem tw_2_78 : Cond.codeWith yL_locus cL_locus 4 (some .int) [(0, 9, 12, 13), (0, 9, 15, 15)] ∈ lw_G := G_in (in_2 (List.mem_of_getElem? (i := 78) rfl)) rfl
theorem tw_4_194 : Cond.methodLink RL 112 yX6_locus ∈ lw_G := G_in (in_4 (List.mem_of_getElem? (i := 194) rfl)) rfl
theorem tw_4_195 : Cond.instanceMethod yX6_locus ∈ lw_G := G_in (in_4 (List.mem_of_getElem? (i := 195) rfl)) rfl
theorem tw_4_196 : Cond.selects RX6 yX6_locus yX6_locus ∈ lw_G := G_in (in_4 (List.mem_of_getElem? (i := 196) rfl)) rfl
theorem tw_4_197 : Cond.code yX6_locus cX6_locus 2 (some .int) ∈ lw_G := G_in (in_4 (List.mem_of_getElem? (i := 197) rfl)) rfl
theorem tw_2_84 : Cond.methodLink RL 113 yL_atom ∈ lw_G := G_in (in_2 (List.mem_of_getElem? (i := 84) rfl)) rfl
theorem tw_2_85 : Cond.static yL_atom ∈ lw_G := G_in (in_2 (List.mem_of_getElem? (i := 85) rfl)) rfl
theorem tw_2_86 : Cond.codeWith yL_atom cL_atom 6 (some .int) [(0, 12, 15, 13), (0, 12, 19, 15)] ∈ lw_G := G_in (in_2 (List.mem_of_getElem? (i := 86) rfl)) rfl
theorem tw_4_198 : Cond.methodLink RL 116 yX6_atom ∈ lw_G := G_in (in_4 (List.mem_of_getElem? (i := 198) rfl)) rfl
theorem tw_4_199 : Cond.instanceMethod yX6_atom ∈ lw_G := G_in (in_4 (List.mem_of_getElem? (i := 199) rfl)) rfl
theorem tw_4_200 : Cond.selects RX6 yX6_atom yX6_atom ∈ lw_G := G_in (in_4 (List.mem_of_getElem? (i := 200) rfl)) rfl
theorem tw_4_201 : Cond.code yX6_atom cX6_atom 8 (some .int) ∈ lw_G := G_in (in_4 (List.mem_of_getElem? (i := 201) rfl)) rfl
theorem tw_2_114 : Cond.methodLink RL 117 yL_join ∈ lw_G := G_in (in_2 (List.mem_of_getElem? (i := 114) rfl)) rfl
theorem tw_2_115 : Cond.static yL_join ∈ lw_G := G_in (in_2 (List.mem_of_getElem? (i := 115) rfl)) rfl
theorem tw_2_116 : Cond.codeWith yL_join cL_join 6 (some .int) [(0, 12, 15, 13), (0, 12, 19, 15)] ∈ lw_G := G_in (in_2 (List.mem_of_getElem? (i := 116) rfl)) rfl
theorem tw_4_210 : Cond.methodLink RL 119 yX6_join ∈ lw_G := G_in (in_4 (List.mem_of_getElem? (i := 210) rfl)) rfl
theorem tw_4_211 : Cond.instanceMethod yX6_join ∈ lw_G := G_in (in_4 (List.mem_of_getElem? (i := 211) rfl)) rfl
theorem tw_4_212 : Cond.selects RX6 yX6_join yX6_join ∈ lw_G := G_in (in_4 (List.mem_of_getElem? (i := 212) rfl)) rfl
theorem tw_4_213 : Cond.code yX6_join cX6_join 6 (some .int) ∈ lw_G := G_in (in_4 (List.mem_of_getElem? (i := 213) rfl)) rfl
theorem tw_2_199 : Cond.methodLink RL 120 yL_bind ∈ lw_G := G_in (in_2 (List.mem_of_getElem? (i := 199) rfl)) rfl
theorem tw_2_200 : Cond.static yL_bind ∈ lw_G := G_in (in_2 (List.mem_of_getElem? (i := 200) rfl)) rfl
theorem tw_2_201 : Cond.codeWith yL_bind cL_bind 6 (some .int) [(0, 12, 15, 13), (0, 12, 19, 15)] ∈ lw_G := G_in (in_2 (List.mem_of_getElem? (i := 201) rfl)) rfl
theorem tw_4_238 : Cond.methodLink RL 123 yX6_bind ∈ lw_G := G_in (in_4 (List.mem_of_getElem? (i := 238) rfl)) rfl
theorem tw_4_239 : Cond.instanceMethod yX6_bind ∈ lw_G := G_in (in_4 (List.mem_of_getElem? (i := 239) rfl)) rfl
theorem tw_5_0 : Cond.selects RX6 yX6_bind yX6_bind ∈ lw_G := G_in (in_5 (List.mem_of_getElem? (i := 0) rfl)) rfl
theorem tw_5_1 : Cond.code yX6_bind cX6_bind 7 (some .int) ∈ lw_G := G_in (in_5 (List.mem_of_getElem? (i := 1) rfl)) rfl
theorem tw_2_221 : Cond.methodLink RL 124 yL_proof ∈ lw_G := G_in (in_2 (List.mem_of_getElem? (i := 221) rfl)) rfl
theorem tw_2_222 : Cond.static yL_proof ∈ lw_G := G_in (in_2 (List.mem_of_getElem? (i := 222) rfl)) rfl
theorem tw_2_223 : Cond.codeWith yL_proof cL_proof 4 (some .int) [(0, 9, 12, 13), (0, 9, 15, 15)] ∈ lw_G := G_in (in_2 (List.mem_of_getElem? (i := 223) rfl)) rfl
theorem tw_5_22 : Cond.methodLink RL 126 yX6_proof ∈ lw_G := G_in (in_5 (List.mem_of_getElem? (i := 22) rfl)) rfl
theorem tw_5_23 : Cond.instanceMethod yX6_proof ∈ lw_G := G_in (in_5 (List.mem_of_getElem? (i := 23) rfl)) rfl
theorem tw_5_24 : Cond.selects RX6 yX6_proof yX6_proof ∈ lw_G := G_in (in_5 (List.mem_of_getElem? (i := 24) rfl)) rfl
theorem tw_5_25 : Cond.code yX6_proof cX6_proof 3 (some .int) ∈ lw_G := G_in (in_5 (List.mem_of_getElem? (i := 25) rfl)) rfl
theorem tw_3_11 : Cond.methodLink RL 127 yL_now ∈ lw_G := G_in (in_3 (List.mem_of_getElem? (i := 11) rfl)) rfl
theorem tw_3_12 : Cond.static yL_now ∈ lw_G := G_in (in_3 (List.mem_of_getElem? (i := 12) rfl)) rfl
theorem tw_3_13 : Cond.codeWith yL_now cL_now 3 (some .int) [(0, 8, 11, 15)] ∈ lw_G := G_in (in_3 (List.mem_of_getElem? (i := 13) rfl)) rfl
theorem tw_5_42 : Cond.methodLink RL 129 yX6_now ∈ lw_G := G_in (in_5 (List.mem_of_getElem? (i := 42) rfl)) rfl
theorem tw_5_43 : Cond.instanceMethod yX6_now ∈ lw_G := G_in (in_5 (List.mem_of_getElem? (i := 43) rfl)) rfl
theorem tw_5_44 : Cond.selects RX6 yX6_now yX6_now ∈ lw_G := G_in (in_5 (List.mem_of_getElem? (i := 44) rfl)) rfl
theorem tw_5_45 : Cond.code yX6_now cX6_now 1 (some .int) ∈ lw_G := G_in (in_5 (List.mem_of_getElem? (i := 45) rfl)) rfl
theorem tw_3_18 : Cond.methodLink RL 130 yL_let ∈ lw_G := G_in (in_3 (List.mem_of_getElem? (i := 18) rfl)) rfl
theorem tw_3_19 : Cond.static yL_let ∈ lw_G := G_in (in_3 (List.mem_of_getElem? (i := 19) rfl)) rfl
theorem tw_3_20 : Cond.codeWith yL_let cL_let 3 (some .int) [(0, 8, 11, 15)] ∈ lw_G := G_in (in_3 (List.mem_of_getElem? (i := 20) rfl)) rfl
theorem tw_5_46 : Cond.methodLink RL 132 yX6_let ∈ lw_G := G_in (in_5 (List.mem_of_getElem? (i := 46) rfl)) rfl
theorem tw_5_47 : Cond.instanceMethod yX6_let ∈ lw_G := G_in (in_5 (List.mem_of_getElem? (i := 47) rfl)) rfl
theorem tw_5_48 : Cond.selects RX6 yX6_let yX6_let ∈ lw_G := G_in (in_5 (List.mem_of_getElem? (i := 48) rfl)) rfl
theorem tw_5_49 : Cond.code yX6_let cX6_let 2 (some .int) ∈ lw_G := G_in (in_5 (List.mem_of_getElem? (i := 49) rfl)) rfl
theorem tw_1_160 : Cond.methodLink RL 133 yX5_fit ∈ lw_G := G_in (in_1 (List.mem_of_getElem? (i := 160) rfl)) rfl
theorem tw_1_161 : Cond.instanceMethod yX5_fit ∈ lw_G := G_in (in_1 (List.mem_of_getElem? (i := 161) rfl)) rfl
theorem tw_1_162 : Cond.selects RX5 yX5_fit yX5_fit ∈ lw_G := G_in (in_1 (List.mem_of_getElem? (i := 162) rfl)) rfl
theorem tw_1_163 : Cond.code yX5_fit cX5_fit 1 (some .boolean) ∈ lw_G := G_in (in_1 (List.mem_of_getElem? (i := 163) rfl)) rfl
theorem tw_5_90 : Cond.methodLink RL 137 yX6_fit ∈ lw_G := G_in (in_5 (List.mem_of_getElem? (i := 90) rfl)) rfl
theorem tw_5_91 : Cond.instanceMethod yX6_fit ∈ lw_G := G_in (in_5 (List.mem_of_getElem? (i := 91) rfl)) rfl
theorem tw_5_92 : Cond.selects RX6 yX6_fit yX6_fit ∈ lw_G := G_in (in_5 (List.mem_of_getElem? (i := 92) rfl)) rfl
theorem tw_5_93 : Cond.code yX6_fit cX6_fit 1 (some .boolean) ∈ lw_G := G_in (in_5 (List.mem_of_getElem? (i := 93) rfl)) rfl
theorem tw_3_116 : Cond.methodLink RL 138 yL_assume ∈ lw_G := G_in (in_3 (List.mem_of_getElem? (i := 116) rfl)) rfl
theorem tw_3_117 : Cond.static yL_assume ∈ lw_G := G_in (in_3 (List.mem_of_getElem? (i := 117) rfl)) rfl
theorem tw_3_118 : Cond.codeWith yL_assume cL_assume 4 (some .int) [(0, 16, 19, 13), (0, 16, 22, 15)] ∈ lw_G := G_in (in_3 (List.mem_of_getElem? (i := 118) rfl)) rfl
theorem tw_5_94 : Cond.methodLink RL 140 yX6_assume ∈ lw_G := G_in (in_5 (List.mem_of_getElem? (i := 94) rfl)) rfl
theorem tw_5_95 : Cond.instanceMethod yX6_assume ∈ lw_G := G_in (in_5 (List.mem_of_getElem? (i := 95) rfl)) rfl
theorem tw_5_96 : Cond.selects RX6 yX6_assume yX6_assume ∈ lw_G := G_in (in_5 (List.mem_of_getElem? (i := 96) rfl)) rfl
theorem tw_5_97 : Cond.code yX6_assume cX6_assume 2 (some .boolean) ∈ lw_G := G_in (in_5 (List.mem_of_getElem? (i := 97) rfl)) rfl
theorem tw_3_123 : Cond.methodLink RL 141 yL_thus ∈ lw_G := G_in (in_3 (List.mem_of_getElem? (i := 123) rfl)) rfl
theorem tw_3_124 : Cond.static yL_thus ∈ lw_G := G_in (in_3 (List.mem_of_getElem? (i := 124) rfl)) rfl
theorem tw_3_125 : Cond.codeWith yL_thus cL_thus 4 (some .int) [(0, 16, 19, 13), (0, 16, 22, 15)] ∈ lw_G := G_in (in_3 (List.mem_of_getElem? (i := 125) rfl)) rfl
theorem tw_5_102 : Cond.methodLink RL 143 yX6_thus ∈ lw_G := G_in (in_5 (List.mem_of_getElem? (i := 102) rfl)) rfl
theorem tw_5_103 : Cond.instanceMethod yX6_thus ∈ lw_G := G_in (in_5 (List.mem_of_getElem? (i := 103) rfl)) rfl
theorem tw_5_104 : Cond.selects RX6 yX6_thus yX6_thus ∈ lw_G := G_in (in_5 (List.mem_of_getElem? (i := 104) rfl)) rfl
theorem tw_5_105 : Cond.code yX6_thus cX6_thus 2 (some .boolean) ∈ lw_G := G_in (in_5 (List.mem_of_getElem? (i := 105) rfl)) rfl
theorem tw_3_130 : Cond.methodLink RL 144 yL_take ∈ lw_G := G_in (in_3 (List.mem_of_getElem? (i := 130) rfl)) rfl
theorem tw_3_131 : Cond.static yL_take ∈ lw_G := G_in (in_3 (List.mem_of_getElem? (i := 131) rfl)) rfl
theorem tw_3_132 : Cond.codeWith yL_take cL_take 4 (some .int) [(0, 16, 19, 13), (0, 16, 22, 15)] ∈ lw_G := G_in (in_3 (List.mem_of_getElem? (i := 132) rfl)) rfl
theorem tw_5_106 : Cond.methodLink RL 146 yX6_take ∈ lw_G := G_in (in_5 (List.mem_of_getElem? (i := 106) rfl)) rfl
theorem tw_5_107 : Cond.instanceMethod yX6_take ∈ lw_G := G_in (in_5 (List.mem_of_getElem? (i := 107) rfl)) rfl
theorem tw_5_108 : Cond.selects RX6 yX6_take yX6_take ∈ lw_G := G_in (in_5 (List.mem_of_getElem? (i := 108) rfl)) rfl
theorem tw_5_109 : Cond.code yX6_take cX6_take 3 (some .boolean) ∈ lw_G := G_in (in_5 (List.mem_of_getElem? (i := 109) rfl)) rfl
theorem tw_3_139 : Cond.methodLink RL 147 yL_given ∈ lw_G := G_in (in_3 (List.mem_of_getElem? (i := 139) rfl)) rfl
theorem tw_3_140 : Cond.static yL_given ∈ lw_G := G_in (in_3 (List.mem_of_getElem? (i := 140) rfl)) rfl
theorem tw_3_141 : Cond.codeWith yL_given cL_given 5 (some .int) [(0, 17, 20, 13), (0, 17, 24, 15)] ∈ lw_G := G_in (in_3 (List.mem_of_getElem? (i := 141) rfl)) rfl
theorem tw_5_110 : Cond.methodLink RL 149 yX6_given ∈ lw_G := G_in (in_5 (List.mem_of_getElem? (i := 110) rfl)) rfl
theorem tw_5_111 : Cond.instanceMethod yX6_given ∈ lw_G := G_in (in_5 (List.mem_of_getElem? (i := 111) rfl)) rfl
theorem tw_5_112 : Cond.selects RX6 yX6_given yX6_given ∈ lw_G := G_in (in_5 (List.mem_of_getElem? (i := 112) rfl)) rfl
theorem tw_5_113 : Cond.code yX6_given cX6_given 5 (some .boolean) ∈ lw_G := G_in (in_5 (List.mem_of_getElem? (i := 113) rfl)) rfl
theorem tw_3_147 : Cond.methodLink RL 150 yL_cases ∈ lw_G := G_in (in_3 (List.mem_of_getElem? (i := 147) rfl)) rfl
theorem tw_3_148 : Cond.static yL_cases ∈ lw_G := G_in (in_3 (List.mem_of_getElem? (i := 148) rfl)) rfl
theorem tw_3_149 : Cond.codeWith yL_cases cL_cases 2 (some .int) [(0, 4, 7, 15)] ∈ lw_G := G_in (in_3 (List.mem_of_getElem? (i := 149) rfl)) rfl
theorem tw_5_114 : Cond.methodLink RL 153 yX6_cases ∈ lw_G := G_in (in_5 (List.mem_of_getElem? (i := 114) rfl)) rfl
theorem tw_5_115 : Cond.instanceMethod yX6_cases ∈ lw_G := G_in (in_5 (List.mem_of_getElem? (i := 115) rfl)) rfl
theorem tw_5_116 : Cond.selects RX6 yX6_cases yX6_cases ∈ lw_G := G_in (in_5 (List.mem_of_getElem? (i := 116) rfl)) rfl
theorem tw_5_117 : Cond.code yX6_cases cX6_cases 2 none ∈ lw_G := G_in (in_5 (List.mem_of_getElem? (i := 117) rfl)) rfl
theorem tw_3_155 : Cond.methodLink RL 154 yL_suppose ∈ lw_G := G_in (in_3 (List.mem_of_getElem? (i := 155) rfl)) rfl
theorem tw_3_156 : Cond.static yL_suppose ∈ lw_G := G_in (in_3 (List.mem_of_getElem? (i := 156) rfl)) rfl
theorem tw_3_157 : Cond.codeWith yL_suppose cL_suppose 4 (some .int) [(0, 9, 12, 13), (0, 9, 15, 15)] ∈ lw_G := G_in (in_3 (List.mem_of_getElem? (i := 157) rfl)) rfl
theorem tw_5_118 : Cond.methodLink RL 156 yX6_suppose ∈ lw_G := G_in (in_5 (List.mem_of_getElem? (i := 118) rfl)) rfl
theorem tw_5_119 : Cond.instanceMethod yX6_suppose ∈ lw_G := G_in (in_5 (List.mem_of_getElem? (i := 119) rfl)) rfl
theorem tw_5_120 : Cond.selects RX6 yX6_suppose yX6_suppose ∈ lw_G := G_in (in_5 (List.mem_of_getElem? (i := 120) rfl)) rfl
theorem tw_5_121 : Cond.code yX6_suppose cX6_suppose 4 (some .int) ∈ lw_G := G_in (in_5 (List.mem_of_getElem? (i := 121) rfl)) rfl
theorem tw_3_167 : Cond.methodLink RL 157 yL_end ∈ lw_G := G_in (in_3 (List.mem_of_getElem? (i := 167) rfl)) rfl
theorem tw_3_168 : Cond.static yL_end ∈ lw_G := G_in (in_3 (List.mem_of_getElem? (i := 168) rfl)) rfl
theorem tw_3_169 : Cond.codeWith yL_end cL_end 3 (some .int) [(0, 8, 11, 15)] ∈ lw_G := G_in (in_3 (List.mem_of_getElem? (i := 169) rfl)) rfl
theorem tw_5_122 : Cond.methodLink RL 159 yX6_end ∈ lw_G := G_in (in_5 (List.mem_of_getElem? (i := 122) rfl)) rfl
theorem tw_5_123 : Cond.instanceMethod yX6_end ∈ lw_G := G_in (in_5 (List.mem_of_getElem? (i := 123) rfl)) rfl
theorem tw_5_124 : Cond.selects RX6 yX6_end yX6_end ∈ lw_G := G_in (in_5 (List.mem_of_getElem? (i := 124) rfl)) rfl
theorem tw_5_125 : Cond.code yX6_end cX6_end 6 (some .int) ∈ lw_G := G_in (in_5 (List.mem_of_getElem? (i := 125) rfl)) rfl
theorem tw_3_192 : Cond.methodLink RL 160 yL_thesis ∈ lw_G := G_in (in_3 (List.mem_of_getElem? (i := 192) rfl)) rfl
theorem tw_3_193 : Cond.static yL_thesis ∈ lw_G := G_in (in_3 (List.mem_of_getElem? (i := 193) rfl)) rfl
theorem tw_3_194 : Cond.codeWith yL_thesis cL_thesis 3 (some .int) [(0, 8, 11, 15)] ∈ lw_G := G_in (in_3 (List.mem_of_getElem? (i := 194) rfl)) rfl
theorem tw_5_130 : Cond.methodLink RL 162 yX6_thesis ∈ lw_G := G_in (in_5 (List.mem_of_getElem? (i := 130) rfl)) rfl
theorem tw_5_131 : Cond.instanceMethod yX6_thesis ∈ lw_G := G_in (in_5 (List.mem_of_getElem? (i := 131) rfl)) rfl
theorem tw_5_132 : Cond.selects RX6 yX6_thesis yX6_thesis ∈ lw_G := G_in (in_5 (List.mem_of_getElem? (i := 132) rfl)) rfl
theorem tw_5_133 : Cond.code yX6_thesis cX6_thesis 1 (some .int) ∈ lw_G := G_in (in_5 (List.mem_of_getElem? (i := 133) rfl)) rfl
theorem tw_3_199 : Cond.methodLink RL 163 yL_ways ∈ lw_G := G_in (in_3 (List.mem_of_getElem? (i := 199) rfl)) rfl
theorem tw_3_200 : Cond.static yL_ways ∈ lw_G := G_in (in_3 (List.mem_of_getElem? (i := 200) rfl)) rfl
theorem tw_3_201 : Cond.codeWith yL_ways cL_ways 3 (some .int) [(0, 8, 11, 15)] ∈ lw_G := G_in (in_3 (List.mem_of_getElem? (i := 201) rfl)) rfl
theorem tw_5_134 : Cond.methodLink RL 165 yX6_ways ∈ lw_G := G_in (in_5 (List.mem_of_getElem? (i := 134) rfl)) rfl
theorem tw_5_135 : Cond.instanceMethod yX6_ways ∈ lw_G := G_in (in_5 (List.mem_of_getElem? (i := 135) rfl)) rfl
theorem tw_5_136 : Cond.selects RX6 yX6_ways yX6_ways ∈ lw_G := G_in (in_5 (List.mem_of_getElem? (i := 136) rfl)) rfl
theorem tw_5_137 : Cond.code yX6_ways cX6_ways 9 (some .int) ∈ lw_G := G_in (in_5 (List.mem_of_getElem? (i := 137) rfl)) rfl
theorem tw_3_206 : Cond.methodLink RL 166 yL_about ∈ lw_G := G_in (in_3 (List.mem_of_getElem? (i := 206) rfl)) rfl
theorem tw_3_207 : Cond.static yL_about ∈ lw_G := G_in (in_3 (List.mem_of_getElem? (i := 207) rfl)) rfl
theorem tw_3_208 : Cond.codeWith yL_about cL_about 5 (some .int) [(0, 10, 13, 13)] ∈ lw_G := G_in (in_3 (List.mem_of_getElem? (i := 208) rfl)) rfl
theorem tw_5_138 : Cond.methodLink RL 168 yX6_about ∈ lw_G := G_in (in_5 (List.mem_of_getElem? (i := 138) rfl)) rfl
theorem tw_5_139 : Cond.instanceMethod yX6_about ∈ lw_G := G_in (in_5 (List.mem_of_getElem? (i := 139) rfl)) rfl
theorem tw_5_140 : Cond.selects RX6 yX6_about yX6_about ∈ lw_G := G_in (in_5 (List.mem_of_getElem? (i := 140) rfl)) rfl
theorem tw_5_141 : Cond.code yX6_about cX6_about 4 (some .int) ∈ lw_G := G_in (in_5 (List.mem_of_getElem? (i := 141) rfl)) rfl
theorem tw_3_221 : Cond.methodLink RL 169 yL_part ∈ lw_G := G_in (in_3 (List.mem_of_getElem? (i := 221) rfl)) rfl
theorem tw_3_222 : Cond.static yL_part ∈ lw_G := G_in (in_3 (List.mem_of_getElem? (i := 222) rfl)) rfl
theorem tw_3_223 : Cond.codeWith yL_part cL_part 5 (some .int) [(0, 10, 13, 13), (0, 10, 17, 15)] ∈ lw_G := G_in (in_3 (List.mem_of_getElem? (i := 223) rfl)) rfl
theorem tw_5_142 : Cond.methodLink RL 171 yX6_part ∈ lw_G := G_in (in_5 (List.mem_of_getElem? (i := 142) rfl)) rfl
theorem tw_5_143 : Cond.instanceMethod yX6_part ∈ lw_G := G_in (in_5 (List.mem_of_getElem? (i := 143) rfl)) rfl
theorem tw_5_144 : Cond.selects RX6 yX6_part yX6_part ∈ lw_G := G_in (in_5 (List.mem_of_getElem? (i := 144) rfl)) rfl
theorem tw_5_145 : Cond.code yX6_part cX6_part 3 (some .int) ∈ lw_G := G_in (in_5 (List.mem_of_getElem? (i := 145) rfl)) rfl
theorem tw_4_1 : Cond.methodLink RL 172 yL_alike ∈ lw_G := G_in (in_4 (List.mem_of_getElem? (i := 1) rfl)) rfl
theorem tw_4_2 : Cond.static yL_alike ∈ lw_G := G_in (in_4 (List.mem_of_getElem? (i := 2) rfl)) rfl
theorem tw_4_3 : Cond.codeWith yL_alike cL_alike 5 (some .int) [(0, 17, 20, 13)] ∈ lw_G := G_in (in_4 (List.mem_of_getElem? (i := 3) rfl)) rfl
theorem tw_5_146 : Cond.methodLink RL 174 yX6_alike ∈ lw_G := G_in (in_5 (List.mem_of_getElem? (i := 146) rfl)) rfl
theorem tw_5_147 : Cond.instanceMethod yX6_alike ∈ lw_G := G_in (in_5 (List.mem_of_getElem? (i := 147) rfl)) rfl
theorem tw_5_148 : Cond.selects RX6 yX6_alike yX6_alike ∈ lw_G := G_in (in_5 (List.mem_of_getElem? (i := 148) rfl)) rfl
theorem tw_5_149 : Cond.code yX6_alike cX6_alike 3 (some .boolean) ∈ lw_G := G_in (in_5 (List.mem_of_getElem? (i := 149) rfl)) rfl
theorem tw_4_9 : Cond.methodLink RL 175 yL_count ∈ lw_G := G_in (in_4 (List.mem_of_getElem? (i := 9) rfl)) rfl
theorem tw_4_10 : Cond.static yL_count ∈ lw_G := G_in (in_4 (List.mem_of_getElem? (i := 10) rfl)) rfl
theorem tw_4_11 : Cond.codeWith yL_count cL_count 4 (some .int) [(0, 9, 12, 13)] ∈ lw_G := G_in (in_4 (List.mem_of_getElem? (i := 11) rfl)) rfl
theorem tw_5_150 : Cond.methodLink RL 177 yX6_count ∈ lw_G := G_in (in_5 (List.mem_of_getElem? (i := 150) rfl)) rfl
theorem tw_5_151 : Cond.instanceMethod yX6_count ∈ lw_G := G_in (in_5 (List.mem_of_getElem? (i := 151) rfl)) rfl
theorem tw_5_152 : Cond.selects RX6 yX6_count yX6_count ∈ lw_G := G_in (in_5 (List.mem_of_getElem? (i := 152) rfl)) rfl
theorem tw_5_153 : Cond.code yX6_count cX6_count 2 (some .int) ∈ lw_G := G_in (in_5 (List.mem_of_getElem? (i := 153) rfl)) rfl
