theorem tw_oi : Cond.instanceMethod objectInit ∈ lw_G := G_in (in_1 (List.mem_of_getElem? (i := 22) rfl)) rfl
theorem tw_oc : Cond.code objectInit ⟨#[0xb1]⟩ 1 none ∈ lw_G := G_in (by decide +kernel) rfl
theorem tw_acl : Cond.methodLink RJ7 150 arraycopyName ∈ lw_G := G_in (by decide +kernel) rfl
theorem tw_acn : Cond.native arraycopyName ∈ lw_G := G_in (by decide +kernel) rfl
theorem tw_acs : Cond.static arraycopyName ∈ lw_G := G_in (by decide +kernel) rfl
theorem tw_aci : Cond.initialized "java/lang/System" ∈ lw_G := G_in (by decide +kernel) rfl
theorem tw_mml : Cond.methodLink RJ7 304 Lib.Math.min.name ∈ lw_G := G_in (by decide +kernel) rfl
theorem tw_mms : Cond.static Lib.Math.min.name ∈ lw_G := G_in (by decide +kernel) rfl
theorem tw_mmi : Cond.initialized "java/lang/Math" ∈ lw_G := G_in (by decide +kernel) rfl
theorem tw_mmc : Cond.code Lib.Math.min.name Lib.Math.min.code 2 (some .int) ∈ lw_G := G_in (by decide +kernel) rfl
theorem tw_1_122 : Cond.fieldLink RX5 58 "ThesisDesk" "predicateCount" "I" ∈ lw_G := G_in (in_1 (List.mem_of_getElem? (i := 122) rfl)) rfl
theorem tw_1_118 : Cond.fieldLink RX5 254 "ThesisDesk" "formCount" "I" ∈ lw_G := G_in (in_1 (List.mem_of_getElem? (i := 118) rfl)) rfl
theorem tw_2_31 : Cond.methodLink RX5 226 yX5_formAt ∈ lw_G := G_in (in_2 (List.mem_of_getElem? (i := 31) rfl)) rfl
theorem tw_2_33 : Cond.instanceMethod yX5_formAt ∈ lw_G := G_in (in_2 (List.mem_of_getElem? (i := 33) rfl)) rfl
theorem tw_s3 : Cond.selects RX5 yX5_formAt yX5_formAt ∈ lw_G := G_in (in_s (List.mem_of_getElem? (i := 3) rfl)) rfl
theorem tw_1_1 : Cond.initialized RX5 ∈ lw_G := G_in (in_1 (List.mem_of_getElem? (i := 1) rfl)) rfl
theorem tw_2_34 : Cond.code yX5_formAt cX5_formAt 2 (some (.object "ThesisDesk$Form")) ∈ lw_G := G_in (in_2 (List.mem_of_getElem? (i := 34) rfl)) rfl
theorem tw_2_27 : Cond.methodLink RX5 268 yX5_wholeAt ∈ lw_G := G_in (in_2 (List.mem_of_getElem? (i := 27) rfl)) rfl
theorem tw_2_29 : Cond.instanceMethod yX5_wholeAt ∈ lw_G := G_in (in_2 (List.mem_of_getElem? (i := 29) rfl)) rfl
theorem tw_s2 : Cond.selects RX5 yX5_wholeAt yX5_wholeAt ∈ lw_G := G_in (in_s (List.mem_of_getElem? (i := 2) rfl)) rfl
theorem tw_2_30 : Cond.code yX5_wholeAt cX5_wholeAt 3 (some (.object "ThesisDesk$Form")) ∈ lw_G := G_in (in_2 (List.mem_of_getElem? (i := 30) rfl)) rfl
theorem tw_2_23 : Cond.methodLink RX5 67 yX5_formulaAt ∈ lw_G := G_in (in_2 (List.mem_of_getElem? (i := 23) rfl)) rfl
theorem tw_2_25 : Cond.instanceMethod yX5_formulaAt ∈ lw_G := G_in (in_2 (List.mem_of_getElem? (i := 25) rfl)) rfl
theorem tw_s1 : Cond.selects RX5 yX5_formulaAt yX5_formulaAt ∈ lw_G := G_in (in_s (List.mem_of_getElem? (i := 1) rfl)) rfl
theorem tw_2_26 : Cond.code yX5_formulaAt cX5_formulaAt 3 (some (.object "ThesisDesk$Form")) ∈ lw_G := G_in (in_2 (List.mem_of_getElem? (i := 26) rfl)) rfl
theorem tw_1_124 : Cond.fieldLink RX5 200 "ThesisDesk" "blockCount" "I" ∈ lw_G := G_in (in_1 (List.mem_of_getElem? (i := 124) rfl)) rfl
theorem tw_2_96 : Cond.methodLink RX5 274 yX5_termAt ∈ lw_G := G_in (in_2 (List.mem_of_getElem? (i := 96) rfl)) rfl
theorem tw_2_98 : Cond.instanceMethod yX5_termAt ∈ lw_G := G_in (in_2 (List.mem_of_getElem? (i := 98) rfl)) rfl
theorem tw_s8 : Cond.selects RX5 yX5_termAt yX5_termAt ∈ lw_G := G_in (in_s (List.mem_of_getElem? (i := 8) rfl)) rfl
theorem tw_2_99 : Cond.code yX5_termAt cX5_termAt 3 (some (.object "ThesisDesk$Form")) ∈ lw_G := G_in (in_2 (List.mem_of_getElem? (i := 99) rfl)) rfl
theorem tw_1_120 : Cond.fieldLink RX5 15 "ThesisDesk" "manies" "[I" ∈ lw_G := G_in (in_1 (List.mem_of_getElem? (i := 120) rfl)) rfl
theorem tw_2_43 : Cond.methodLink RX5 71 yX5_isPredicate ∈ lw_G := G_in (in_2 (List.mem_of_getElem? (i := 43) rfl)) rfl
theorem tw_2_45 : Cond.instanceMethod yX5_isPredicate ∈ lw_G := G_in (in_2 (List.mem_of_getElem? (i := 45) rfl)) rfl
theorem tw_s4 : Cond.selects RX5 yX5_isPredicate yX5_isPredicate ∈ lw_G := G_in (in_s (List.mem_of_getElem? (i := 4) rfl)) rfl
theorem tw_2_46 : Cond.code yX5_isPredicate cX5_isPredicate 2 (some .boolean) ∈ lw_G := G_in (in_2 (List.mem_of_getElem? (i := 46) rfl)) rfl
theorem tw_2_92 : Cond.methodLink RX5 101 yX5_isTermOrNone ∈ lw_G := G_in (in_2 (List.mem_of_getElem? (i := 92) rfl)) rfl
theorem tw_2_94 : Cond.instanceMethod yX5_isTermOrNone ∈ lw_G := G_in (in_2 (List.mem_of_getElem? (i := 94) rfl)) rfl
theorem tw_s7 : Cond.selects RX5 yX5_isTermOrNone yX5_isTermOrNone ∈ lw_G := G_in (in_s (List.mem_of_getElem? (i := 7) rfl)) rfl
theorem tw_2_95 : Cond.code yX5_isTermOrNone cX5_isTermOrNone 3 (some .boolean) ∈ lw_G := G_in (in_2 (List.mem_of_getElem? (i := 95) rfl)) rfl
theorem tw_2_206 : Cond.methodLink RX5 124 yX5_constantAt ∈ lw_G := G_in (in_2 (List.mem_of_getElem? (i := 206) rfl)) rfl
theorem tw_2_208 : Cond.instanceMethod yX5_constantAt ∈ lw_G := G_in (in_2 (List.mem_of_getElem? (i := 208) rfl)) rfl
theorem tw_s21 : Cond.selects RX5 yX5_constantAt yX5_constantAt ∈ lw_G := G_in (in_s (List.mem_of_getElem? (i := 21) rfl)) rfl
theorem tw_2_209 : Cond.code yX5_constantAt cX5_constantAt 3 (some .int) ∈ lw_G := G_in (in_2 (List.mem_of_getElem? (i := 209) rfl)) rfl
theorem tw_2_228 : Cond.methodLink RX5 140 yX5_closedAt ∈ lw_G := G_in (in_2 (List.mem_of_getElem? (i := 228) rfl)) rfl
theorem tw_2_230 : Cond.instanceMethod yX5_closedAt ∈ lw_G := G_in (in_2 (List.mem_of_getElem? (i := 230) rfl)) rfl
theorem tw_s22 : Cond.selects RX5 yX5_closedAt yX5_closedAt ∈ lw_G := G_in (in_s (List.mem_of_getElem? (i := 22) rfl)) rfl
theorem tw_2_231 : Cond.code yX5_closedAt cX5_closedAt 3 (some (.object "ThesisDesk$Form")) ∈ lw_G := G_in (in_2 (List.mem_of_getElem? (i := 231) rfl)) rfl
theorem tw_2_237 : Cond.methodLink RX5 169 yX5_openBlock ∈ lw_G := G_in (in_2 (List.mem_of_getElem? (i := 237) rfl)) rfl
theorem tw_2_239 : Cond.instanceMethod yX5_openBlock ∈ lw_G := G_in (in_2 (List.mem_of_getElem? (i := 239) rfl)) rfl
theorem tw_s24 : Cond.selects RX5 yX5_openBlock yX5_openBlock ∈ lw_G := G_in (in_s (List.mem_of_getElem? (i := 24) rfl)) rfl
theorem tw_3_0 : Cond.code yX5_openBlock cX5_openBlock 1 (some (.object "ThesisDesk$Block")) ∈ lw_G := G_in (in_3 (List.mem_of_getElem? (i := 0) rfl)) rfl
theorem tw_3_25 : Cond.methodLink RX5 152 yX5_blockForStep ∈ lw_G := G_in (in_3 (List.mem_of_getElem? (i := 25) rfl)) rfl
theorem tw_3_27 : Cond.instanceMethod yX5_blockForStep ∈ lw_G := G_in (in_3 (List.mem_of_getElem? (i := 27) rfl)) rfl
theorem tw_s26 : Cond.selects RX5 yX5_blockForStep yX5_blockForStep ∈ lw_G := G_in (in_s (List.mem_of_getElem? (i := 26) rfl)) rfl
theorem tw_3_28 : Cond.code yX5_blockForStep cX5_blockForStep 2 (some (.object "ThesisDesk$Block")) ∈ lw_G := G_in (in_3 (List.mem_of_getElem? (i := 28) rfl)) rfl
theorem tw_3_162 : Cond.methodLink RX5 177 yX5_waitingBlock ∈ lw_G := G_in (in_3 (List.mem_of_getElem? (i := 162) rfl)) rfl
theorem tw_3_164 : Cond.instanceMethod yX5_waitingBlock ∈ lw_G := G_in (in_3 (List.mem_of_getElem? (i := 164) rfl)) rfl
theorem tw_s37 : Cond.selects RX5 yX5_waitingBlock yX5_waitingBlock ∈ lw_G := G_in (in_s (List.mem_of_getElem? (i := 37) rfl)) rfl
theorem tw_3_165 : Cond.code yX5_waitingBlock cX5_waitingBlock 2 (some (.object "ThesisDesk$Block")) ∈ lw_G := G_in (in_3 (List.mem_of_getElem? (i := 165) rfl)) rfl
theorem tw_1_127 : Cond.fieldLink RX5 257 "ThesisDesk" "misfitCount" "I" ∈ lw_G := G_in (in_1 (List.mem_of_getElem? (i := 127) rfl)) rfl
theorem tw_1_119 : Cond.fieldLink RX5 260 "ThesisDesk" "constantCount" "I" ∈ lw_G := G_in (in_1 (List.mem_of_getElem? (i := 119) rfl)) rfl
theorem tw_1_126 : Cond.fieldLink RX5 47 "ThesisDesk" "lastFits" "Z" ∈ lw_G := G_in (in_1 (List.mem_of_getElem? (i := 126) rfl)) rfl
theorem tw_1_60 : Cond.methodLink RX4 3 objectInit ∈ lw_G := G_in (in_1 (List.mem_of_getElem? (i := 60) rfl)) rfl
theorem tw_1_54 : Cond.arrayClass .int ∈ lw_G := G_in (in_1 (List.mem_of_getElem? (i := 54) rfl)) rfl
theorem tw_1_61 : Cond.fieldLink RX4 11 "ThesisDesk$Row" "codes" "[I" ∈ lw_G := G_in (in_1 (List.mem_of_getElem? (i := 61) rfl)) rfl
theorem tw_1_62 : Cond.fieldLink RX4 15 "ThesisDesk$Row" "size" "I" ∈ lw_G := G_in (in_1 (List.mem_of_getElem? (i := 62) rfl)) rfl
theorem tw_1_63 : Cond.fieldLink RX4 19 "ThesisDesk$Row" "far" "Z" ∈ lw_G := G_in (in_1 (List.mem_of_getElem? (i := 63) rfl)) rfl
theorem tw_1_96 : Cond.methodLink RX2 3 objectInit ∈ lw_G := G_in (in_1 (List.mem_of_getElem? (i := 96) rfl)) rfl
theorem tw_1_97 : Cond.methodLink RX2 9 yX1_value ∈ lw_G := G_in (in_1 (List.mem_of_getElem? (i := 97) rfl)) rfl
theorem tw_1_98 : Cond.static yX1_value ∈ lw_G := G_in (in_1 (List.mem_of_getElem? (i := 98) rfl)) rfl
theorem tw_1_8 : Cond.initialized RX1 ∈ lw_G := G_in (in_1 (List.mem_of_getElem? (i := 8) rfl)) rfl
theorem tw_1_99 : Cond.code yX1_value cX1_value 1 (some .int) ∈ lw_G := G_in (in_1 (List.mem_of_getElem? (i := 99) rfl)) rfl
theorem tw_1_100 : Cond.methodLink RX2 15 yX1_kind ∈ lw_G := G_in (in_1 (List.mem_of_getElem? (i := 100) rfl)) rfl
theorem tw_1_101 : Cond.static yX1_kind ∈ lw_G := G_in (in_1 (List.mem_of_getElem? (i := 101) rfl)) rfl
theorem tw_1_102 : Cond.code yX1_kind cX1_kind 1 (some .int) ∈ lw_G := G_in (in_1 (List.mem_of_getElem? (i := 102) rfl)) rfl
theorem tw_1_103 : Cond.fieldLink RX2 18 "ThesisDesk$Form" "codes" "[I" ∈ lw_G := G_in (in_1 (List.mem_of_getElem? (i := 103) rfl)) rfl
theorem tw_1_106 : Cond.fieldLink RX2 24 "ThesisDesk$Form" "whole" "Z" ∈ lw_G := G_in (in_1 (List.mem_of_getElem? (i := 106) rfl)) rfl
theorem tw_1_108 : Cond.fieldLink RX2 28 "ThesisDesk$Form" "loci" "I" ∈ lw_G := G_in (in_1 (List.mem_of_getElem? (i := 108) rfl)) rfl
theorem tw_1_75 : Cond.classLink RX4 28 RX2 ∈ lw_G := G_in (in_1 (List.mem_of_getElem? (i := 75) rfl)) rfl
theorem tw_1_76 : Cond.instantiable RX2 3 ∈ lw_G := G_in (in_1 (List.mem_of_getElem? (i := 76) rfl)) rfl
theorem tw_1_4 : Cond.initialized RX2 ∈ lw_G := G_in (in_1 (List.mem_of_getElem? (i := 4) rfl)) rfl
theorem tw_1_77 : Cond.methodLink RX4 40 yJ7_copyOf_59c91 ∈ lw_G := G_in (in_1 (List.mem_of_getElem? (i := 77) rfl)) rfl
theorem tw_1_78 : Cond.static yJ7_copyOf_59c91 ∈ lw_G := G_in (in_1 (List.mem_of_getElem? (i := 78) rfl)) rfl
theorem tw_1_5 : Cond.initialized RJ7 ∈ lw_G := G_in (in_1 (List.mem_of_getElem? (i := 5) rfl)) rfl
theorem tw_1_79 : Cond.code yJ7_copyOf_59c91 cJ7_copyOf_59c91 3 (some (.array .int)) ∈ lw_G := G_in (in_1 (List.mem_of_getElem? (i := 79) rfl)) rfl
theorem tw_1_93 : Cond.methodLink RX4 46 yX2_init ∈ lw_G := G_in (in_1 (List.mem_of_getElem? (i := 93) rfl)) rfl
theorem tw_1_94 : Cond.instanceMethod yX2_init ∈ lw_G := G_in (in_1 (List.mem_of_getElem? (i := 94) rfl)) rfl
theorem tw_1_95 : Cond.code yX2_init cX2_init 6 none ∈ lw_G := G_in (in_1 (List.mem_of_getElem? (i := 95) rfl)) rfl
theorem tw_1_129 : Cond.fieldLink RX5 32 "ThesisDesk" "work" "LThesisDesk$Row;" ∈ lw_G := G_in (in_1 (List.mem_of_getElem? (i := 129) rfl)) rfl
theorem tw_2_71 : Cond.methodLink RX5 292 yX4_isTooLarge ∈ lw_G := G_in (in_2 (List.mem_of_getElem? (i := 71) rfl)) rfl
theorem tw_2_72 : Cond.instanceMethod yX4_isTooLarge ∈ lw_G := G_in (in_2 (List.mem_of_getElem? (i := 72) rfl)) rfl
theorem tw_2_73 : Cond.selects RX4 yX4_isTooLarge yX4_isTooLarge ∈ lw_G := G_in (in_2 (List.mem_of_getElem? (i := 73) rfl)) rfl
theorem tw_1_3 : Cond.initialized RX4 ∈ lw_G := G_in (in_1 (List.mem_of_getElem? (i := 3) rfl)) rfl
theorem tw_2_74 : Cond.code yX4_isTooLarge cX4_isTooLarge 1 (some .boolean) ∈ lw_G := G_in (in_2 (List.mem_of_getElem? (i := 74) rfl)) rfl
theorem tw_1_117 : Cond.fieldLink RX5 11 "ThesisDesk" "forms" "[LThesisDesk$Form;" ∈ lw_G := G_in (in_1 (List.mem_of_getElem? (i := 117) rfl)) rfl
theorem tw_1_71 : Cond.methodLink RX5 39 yX4_toForm ∈ lw_G := G_in (in_1 (List.mem_of_getElem? (i := 71) rfl)) rfl
theorem tw_1_72 : Cond.instanceMethod yX4_toForm ∈ lw_G := G_in (in_1 (List.mem_of_getElem? (i := 72) rfl)) rfl
theorem tw_1_73 : Cond.selects RX4 yX4_toForm yX4_toForm ∈ lw_G := G_in (in_1 (List.mem_of_getElem? (i := 73) rfl)) rfl
theorem tw_1_74 : Cond.code yX4_toForm cX4_toForm 1 (some (.object "ThesisDesk$Form")) ∈ lw_G := G_in (in_1 (List.mem_of_getElem? (i := 74) rfl)) rfl
theorem tw_2_59 : Cond.methodLink RX5 86 yX1_of ∈ lw_G := G_in (in_2 (List.mem_of_getElem? (i := 59) rfl)) rfl
theorem tw_2_60 : Cond.static yX1_of ∈ lw_G := G_in (in_2 (List.mem_of_getElem? (i := 60) rfl)) rfl
theorem tw_2_61 : Cond.code yX1_of cX1_of 2 (some .int) ∈ lw_G := G_in (in_2 (List.mem_of_getElem? (i := 61) rfl)) rfl
theorem tw_2_62 : Cond.methodLink RX5 92 yX4_setOnly ∈ lw_G := G_in (in_2 (List.mem_of_getElem? (i := 62) rfl)) rfl
theorem tw_2_63 : Cond.instanceMethod yX4_setOnly ∈ lw_G := G_in (in_2 (List.mem_of_getElem? (i := 63) rfl)) rfl
theorem tw_2_64 : Cond.selects RX4 yX4_setOnly yX4_setOnly ∈ lw_G := G_in (in_2 (List.mem_of_getElem? (i := 64) rfl)) rfl
theorem tw_2_65 : Cond.code yX4_setOnly cX4_setOnly 2 none ∈ lw_G := G_in (in_2 (List.mem_of_getElem? (i := 65) rfl)) rfl
theorem tw_2_66 : Cond.methodLink RX5 96 yX5_keepWork ∈ lw_G := G_in (in_2 (List.mem_of_getElem? (i := 66) rfl)) rfl
theorem tw_2_68 : Cond.instanceMethod yX5_keepWork ∈ lw_G := G_in (in_2 (List.mem_of_getElem? (i := 68) rfl)) rfl
theorem tw_s6 : Cond.selects RX5 yX5_keepWork yX5_keepWork ∈ lw_G := G_in (in_s (List.mem_of_getElem? (i := 6) rfl)) rfl
theorem tw_2_69 : Cond.code yX5_keepWork cX5_keepWork 1 (some .int) ∈ lw_G := G_in (in_2 (List.mem_of_getElem? (i := 69) rfl)) rfl
theorem tw_2_55 : Cond.methodLink RX5 80 yX5_keepNewConstant ∈ lw_G := G_in (in_2 (List.mem_of_getElem? (i := 55) rfl)) rfl
theorem tw_2_57 : Cond.instanceMethod yX5_keepNewConstant ∈ lw_G := G_in (in_2 (List.mem_of_getElem? (i := 57) rfl)) rfl
theorem tw_s5 : Cond.selects RX5 yX5_keepNewConstant yX5_keepNewConstant ∈ lw_G := G_in (in_s (List.mem_of_getElem? (i := 5) rfl)) rfl
theorem tw_2_58 : Cond.code yX5_keepNewConstant cX5_keepNewConstant 2 (some .int) ∈ lw_G := G_in (in_2 (List.mem_of_getElem? (i := 58) rfl)) rfl
theorem tw_2_122 : Cond.methodLink RX5 115 yX5_isFormulaOrNone ∈ lw_G := G_in (in_2 (List.mem_of_getElem? (i := 122) rfl)) rfl
theorem tw_2_124 : Cond.instanceMethod yX5_isFormulaOrNone ∈ lw_G := G_in (in_2 (List.mem_of_getElem? (i := 124) rfl)) rfl
theorem tw_s10 : Cond.selects RX5 yX5_isFormulaOrNone yX5_isFormulaOrNone ∈ lw_G := G_in (in_s (List.mem_of_getElem? (i := 10) rfl)) rfl
theorem tw_2_125 : Cond.code yX5_isFormulaOrNone cX5_isFormulaOrNone 3 (some .boolean) ∈ lw_G := G_in (in_2 (List.mem_of_getElem? (i := 125) rfl)) rfl
theorem tw_2_127 : Cond.methodLink RX5 120 yX5_joinIntoWork ∈ lw_G := G_in (in_2 (List.mem_of_getElem? (i := 127) rfl)) rfl
theorem tw_2_129 : Cond.instanceMethod yX5_joinIntoWork ∈ lw_G := G_in (in_2 (List.mem_of_getElem? (i := 129) rfl)) rfl
theorem tw_s11 : Cond.selects RX5 yX5_joinIntoWork yX5_joinIntoWork ∈ lw_G := G_in (in_s (List.mem_of_getElem? (i := 11) rfl)) rfl
theorem tw_2_130 : Cond.code yX5_joinIntoWork cX5_joinIntoWork 4 none ∈ lw_G := G_in (in_2 (List.mem_of_getElem? (i := 130) rfl)) rfl
theorem tw_1_33 : Cond.fieldLink RX0 9 "ThesisDesk$Block" "kind" "I" ∈ lw_G := G_in (in_1 (List.mem_of_getElem? (i := 33) rfl)) rfl
theorem tw_1_35 : Cond.fieldLink RX0 15 "ThesisDesk$Block" "thesis" "LThesisDesk$Form;" ∈ lw_G := G_in (in_1 (List.mem_of_getElem? (i := 35) rfl)) rfl
theorem tw_1_37 : Cond.fieldLink RX0 19 "ThesisDesk$Block" "waits" "Z" ∈ lw_G := G_in (in_1 (List.mem_of_getElem? (i := 37) rfl)) rfl
theorem tw_1_39 : Cond.fieldLink RX0 23 "ThesisDesk$Block" "leftInCases" "Z" ∈ lw_G := G_in (in_1 (List.mem_of_getElem? (i := 39) rfl)) rfl
theorem tw_1_41 : Cond.fieldLink RX0 26 "ThesisDesk$Block" "latest" "LThesisDesk$Note;" ∈ lw_G := G_in (in_1 (List.mem_of_getElem? (i := 41) rfl)) rfl
theorem tw_1_123 : Cond.fieldLink RX5 24 "ThesisDesk" "blocks" "[LThesisDesk$Block;" ∈ lw_G := G_in (in_1 (List.mem_of_getElem? (i := 123) rfl)) rfl
theorem tw_3_7 : Cond.methodLink RX5 303 yX0_begin ∈ lw_G := G_in (in_3 (List.mem_of_getElem? (i := 7) rfl)) rfl
theorem tw_3_8 : Cond.instanceMethod yX0_begin ∈ lw_G := G_in (in_3 (List.mem_of_getElem? (i := 8) rfl)) rfl
theorem tw_3_9 : Cond.selects RX0 yX0_begin yX0_begin ∈ lw_G := G_in (in_3 (List.mem_of_getElem? (i := 9) rfl)) rfl
theorem tw_1_2 : Cond.initialized RX0 ∈ lw_G := G_in (in_1 (List.mem_of_getElem? (i := 2) rfl)) rfl
theorem tw_3_10 : Cond.code yX0_begin cX0_begin 3 none ∈ lw_G := G_in (in_3 (List.mem_of_getElem? (i := 10) rfl)) rfl
theorem tw_2_233 : Cond.methodLink RX5 145 yX5_refuseWhileWaiting ∈ lw_G := G_in (in_2 (List.mem_of_getElem? (i := 233) rfl)) rfl
theorem tw_2_235 : Cond.instanceMethod yX5_refuseWhileWaiting ∈ lw_G := G_in (in_2 (List.mem_of_getElem? (i := 235) rfl)) rfl
theorem tw_s23 : Cond.selects RX5 yX5_refuseWhileWaiting yX5_refuseWhileWaiting ∈ lw_G := G_in (in_s (List.mem_of_getElem? (i := 23) rfl)) rfl
theorem tw_2_236 : Cond.code yX5_refuseWhileWaiting cX5_refuseWhileWaiting 2 none ∈ lw_G := G_in (in_2 (List.mem_of_getElem? (i := 236) rfl)) rfl
theorem tw_1_128 : Cond.fieldLink RX5 43 "ThesisDesk" "truth" "LThesisDesk$Form;" ∈ lw_G := G_in (in_1 (List.mem_of_getElem? (i := 128) rfl)) rfl
theorem tw_3_2 : Cond.methodLink RX5 148 yX5_beginBlock ∈ lw_G := G_in (in_3 (List.mem_of_getElem? (i := 2) rfl)) rfl
theorem tw_3_4 : Cond.instanceMethod yX5_beginBlock ∈ lw_G := G_in (in_3 (List.mem_of_getElem? (i := 4) rfl)) rfl
theorem tw_s25 : Cond.selects RX5 yX5_beginBlock yX5_beginBlock ∈ lw_G := G_in (in_s (List.mem_of_getElem? (i := 25) rfl)) rfl
theorem tw_3_5 : Cond.code yX5_beginBlock cX5_beginBlock 3 (some .int) ∈ lw_G := G_in (in_3 (List.mem_of_getElem? (i := 5) rfl)) rfl
theorem tw_1_32 : Cond.methodLink RX0 3 objectInit ∈ lw_G := G_in (in_1 (List.mem_of_getElem? (i := 32) rfl)) rfl
theorem tw_1_55 : Cond.classLink RX5 29 RX4 ∈ lw_G := G_in (in_1 (List.mem_of_getElem? (i := 55) rfl)) rfl
theorem tw_1_56 : Cond.instantiable RX4 3 ∈ lw_G := G_in (in_1 (List.mem_of_getElem? (i := 56) rfl)) rfl
theorem tw_1_57 : Cond.methodLink RX5 31 yX4_init ∈ lw_G := G_in (in_1 (List.mem_of_getElem? (i := 57) rfl)) rfl
theorem tw_1_58 : Cond.instanceMethod yX4_init ∈ lw_G := G_in (in_1 (List.mem_of_getElem? (i := 58) rfl)) rfl
theorem tw_1_59 : Cond.code yX4_init cX4_init 1 none ∈ lw_G := G_in (in_1 (List.mem_of_getElem? (i := 59) rfl)) rfl
theorem tw_1_130 : Cond.fieldLink RX5 36 "ThesisDesk" "side" "LThesisDesk$Row;" ∈ lw_G := G_in (in_1 (List.mem_of_getElem? (i := 130) rfl)) rfl
theorem tw_1_26 : Cond.classLink RX5 22 RX0 ∈ lw_G := G_in (in_1 (List.mem_of_getElem? (i := 26) rfl)) rfl
theorem tw_1_28 : Cond.instantiable RX0 5 ∈ lw_G := G_in (in_1 (List.mem_of_getElem? (i := 28) rfl)) rfl
theorem tw_1_30 : Cond.instanceMethod yX0_init ∈ lw_G := G_in (in_1 (List.mem_of_getElem? (i := 30) rfl)) rfl
theorem tw_1_31 : Cond.code yX0_init cX0_init 1 none ∈ lw_G := G_in (in_1 (List.mem_of_getElem? (i := 31) rfl)) rfl
theorem tw_1_21 : Cond.methodLink RX5 1 objectInit ∈ lw_G := G_in (in_1 (List.mem_of_getElem? (i := 21) rfl)) rfl
theorem tw_1_24 : Cond.classLink RX5 9 RX2 ∈ lw_G := G_in (in_1 (List.mem_of_getElem? (i := 24) rfl)) rfl
theorem tw_1_121 : Cond.fieldLink RX5 19 "ThesisDesk" "definitions" "[LThesisDesk$Form;" ∈ lw_G := G_in (in_1 (List.mem_of_getElem? (i := 121) rfl)) rfl
theorem tw_4_23 : Cond.fieldLink RX6 93 "ThesisDeskModel" "thrown" "I" ∈ lw_G := G_in (in_4 (List.mem_of_getElem? (i := 23) rfl)) rfl
theorem tw_4_61 : Cond.fieldLink RX6 205 "ThesisDeskModel" "given" "I" ∈ lw_G := G_in (in_4 (List.mem_of_getElem? (i := 61) rfl)) rfl
theorem tw_4_162 : Cond.methodLink RX6 211 yX6_isForm ∈ lw_G := G_in (in_4 (List.mem_of_getElem? (i := 162) rfl)) rfl
theorem tw_4_164 : Cond.instanceMethod yX6_isForm ∈ lw_G := G_in (in_4 (List.mem_of_getElem? (i := 164) rfl)) rfl
theorem tw_s44 : Cond.selects RX6 yX6_isForm yX6_isForm ∈ lw_G := G_in (in_s (List.mem_of_getElem? (i := 44) rfl)) rfl
theorem tw_1_9 : Cond.initialized RX6 ∈ lw_G := G_in (in_1 (List.mem_of_getElem? (i := 9) rfl)) rfl
theorem tw_4_165 : Cond.code yX6_isForm cX6_isForm 2 (some .boolean) ∈ lw_G := G_in (in_4 (List.mem_of_getElem? (i := 165) rfl)) rfl
theorem tw_4_158 : Cond.methodLink RX6 215 yX6_formula ∈ lw_G := G_in (in_4 (List.mem_of_getElem? (i := 158) rfl)) rfl
theorem tw_4_160 : Cond.instanceMethod yX6_formula ∈ lw_G := G_in (in_4 (List.mem_of_getElem? (i := 160) rfl)) rfl
theorem tw_s43 : Cond.selects RX6 yX6_formula yX6_formula ∈ lw_G := G_in (in_s (List.mem_of_getElem? (i := 43) rfl)) rfl
theorem tw_4_161 : Cond.code yX6_formula cX6_formula 2 (some .int) ∈ lw_G := G_in (in_4 (List.mem_of_getElem? (i := 161) rfl)) rfl
theorem tw_4_50 : Cond.fieldLink RX6 187 "ThesisDeskModel" "blocks" "I" ∈ lw_G := G_in (in_4 (List.mem_of_getElem? (i := 50) rfl)) rfl
theorem tw_4_150 : Cond.methodLink RX6 208 yX6_fails ∈ lw_G := G_in (in_4 (List.mem_of_getElem? (i := 150) rfl)) rfl
theorem tw_4_152 : Cond.instanceMethod yX6_fails ∈ lw_G := G_in (in_4 (List.mem_of_getElem? (i := 152) rfl)) rfl
theorem tw_s42 : Cond.selects RX6 yX6_fails yX6_fails ∈ lw_G := G_in (in_s (List.mem_of_getElem? (i := 42) rfl)) rfl
theorem tw_4_153 : Cond.code yX6_fails cX6_fails 2 (some .int) ∈ lw_G := G_in (in_4 (List.mem_of_getElem? (i := 153) rfl)) rfl
theorem tw_4_42 : Cond.fieldLink RX6 221 "ThesisDeskModel" "preds" "I" ∈ lw_G := G_in (in_4 (List.mem_of_getElem? (i := 42) rfl)) rfl
theorem tw_4_202 : Cond.methodLink RX6 230 yX6_term ∈ lw_G := G_in (in_4 (List.mem_of_getElem? (i := 202) rfl)) rfl
theorem tw_4_204 : Cond.instanceMethod yX6_term ∈ lw_G := G_in (in_4 (List.mem_of_getElem? (i := 204) rfl)) rfl
theorem tw_s50 : Cond.selects RX6 yX6_term yX6_term ∈ lw_G := G_in (in_s (List.mem_of_getElem? (i := 50) rfl)) rfl
theorem tw_4_205 : Cond.code yX6_term cX6_term 2 (some .int) ∈ lw_G := G_in (in_4 (List.mem_of_getElem? (i := 205) rfl)) rfl
theorem tw_5_2 : Cond.methodLink RX6 233 yX6_constantOf ∈ lw_G := G_in (in_5 (List.mem_of_getElem? (i := 2) rfl)) rfl
theorem tw_5_4 : Cond.instanceMethod yX6_constantOf ∈ lw_G := G_in (in_5 (List.mem_of_getElem? (i := 4) rfl)) rfl
theorem tw_s58 : Cond.selects RX6 yX6_constantOf yX6_constantOf ∈ lw_G := G_in (in_s (List.mem_of_getElem? (i := 58) rfl)) rfl
theorem tw_5_5 : Cond.code yX6_constantOf cX6_constantOf 2 (some .int) ∈ lw_G := G_in (in_5 (List.mem_of_getElem? (i := 5) rfl)) rfl
theorem tw_5_26 : Cond.methodLink RX6 236 yX6_closed ∈ lw_G := G_in (in_5 (List.mem_of_getElem? (i := 26) rfl)) rfl
theorem tw_5_28 : Cond.instanceMethod yX6_closed ∈ lw_G := G_in (in_5 (List.mem_of_getElem? (i := 28) rfl)) rfl
theorem tw_s63 : Cond.selects RX6 yX6_closed yX6_closed ∈ lw_G := G_in (in_s (List.mem_of_getElem? (i := 63) rfl)) rfl
theorem tw_5_29 : Cond.code yX6_closed cX6_closed 3 (some .int) ∈ lw_G := G_in (in_5 (List.mem_of_getElem? (i := 29) rfl)) rfl
theorem tw_5_34 : Cond.methodLink RX6 239 yX6_isOpen ∈ lw_G := G_in (in_5 (List.mem_of_getElem? (i := 34) rfl)) rfl
theorem tw_5_36 : Cond.instanceMethod yX6_isOpen ∈ lw_G := G_in (in_5 (List.mem_of_getElem? (i := 36) rfl)) rfl
theorem tw_s65 : Cond.selects RX6 yX6_isOpen yX6_isOpen ∈ lw_G := G_in (in_s (List.mem_of_getElem? (i := 65) rfl)) rfl
theorem tw_5_37 : Cond.code yX6_isOpen cX6_isOpen 1 (some .boolean) ∈ lw_G := G_in (in_5 (List.mem_of_getElem? (i := 37) rfl)) rfl
theorem tw_5_98 : Cond.methodLink RX6 250 yX6_stepOf ∈ lw_G := G_in (in_5 (List.mem_of_getElem? (i := 98) rfl)) rfl
theorem tw_5_100 : Cond.instanceMethod yX6_stepOf ∈ lw_G := G_in (in_5 (List.mem_of_getElem? (i := 100) rfl)) rfl
theorem tw_s77 : Cond.selects RX6 yX6_stepOf yX6_stepOf ∈ lw_G := G_in (in_s (List.mem_of_getElem? (i := 77) rfl)) rfl
theorem tw_5_101 : Cond.code yX6_stepOf cX6_stepOf 4 (some .boolean) ∈ lw_G := G_in (in_5 (List.mem_of_getElem? (i := 101) rfl)) rfl
theorem tw_4_57 : Cond.fieldLink RX6 86 "ThesisDeskModel" "fit" "Z" ∈ lw_G := G_in (in_4 (List.mem_of_getElem? (i := 57) rfl)) rfl
theorem tw_4_37 : Cond.fieldLink RX6 103 "ThesisDeskModel" "hands" "I" ∈ lw_G := G_in (in_4 (List.mem_of_getElem? (i := 37) rfl)) rfl
theorem tw_4_32 : Cond.fieldLink RX6 34 "ThesisDeskModel" "head" "[I" ∈ lw_G := G_in (in_4 (List.mem_of_getElem? (i := 32) rfl)) rfl
theorem tw_4_33 : Cond.fieldLink RX6 113 "ThesisDeskModel" "nodes" "I" ∈ lw_G := G_in (in_4 (List.mem_of_getElem? (i := 33) rfl)) rfl
theorem tw_4_24 : Cond.fieldLink RX6 7 "ThesisDeskModel" "kind" "[I" ∈ lw_G := G_in (in_4 (List.mem_of_getElem? (i := 24) rfl)) rfl
theorem tw_4_186 : Cond.methodLink RX6 106 yX6_more ∈ lw_G := G_in (in_4 (List.mem_of_getElem? (i := 186) rfl)) rfl
theorem tw_4_187 : Cond.static yX6_more ∈ lw_G := G_in (in_4 (List.mem_of_getElem? (i := 187) rfl)) rfl
theorem tw_4_188 : Cond.code yX6_more cX6_more 4 (some (.array .int)) ∈ lw_G := G_in (in_4 (List.mem_of_getElem? (i := 188) rfl)) rfl
theorem tw_4_25 : Cond.fieldLink RX6 13 "ThesisDeskModel" "number" "[I" ∈ lw_G := G_in (in_4 (List.mem_of_getElem? (i := 25) rfl)) rfl
theorem tw_4_26 : Cond.fieldLink RX6 16 "ThesisDeskModel" "at" "[I" ∈ lw_G := G_in (in_4 (List.mem_of_getElem? (i := 26) rfl)) rfl
theorem tw_4_27 : Cond.fieldLink RX6 19 "ThesisDeskModel" "len" "[I" ∈ lw_G := G_in (in_4 (List.mem_of_getElem? (i := 27) rfl)) rfl
theorem tw_4_28 : Cond.fieldLink RX6 22 "ThesisDeskModel" "size" "[I" ∈ lw_G := G_in (in_4 (List.mem_of_getElem? (i := 28) rfl)) rfl
theorem tw_4_29 : Cond.fieldLink RX6 25 "ThesisDeskModel" "loose" "[I" ∈ lw_G := G_in (in_4 (List.mem_of_getElem? (i := 29) rfl)) rfl
theorem tw_4_30 : Cond.fieldLink RX6 28 "ThesisDeskModel" "next" "[I" ∈ lw_G := G_in (in_4 (List.mem_of_getElem? (i := 30) rfl)) rfl
theorem tw_4_31 : Cond.fieldLink RX6 31 "ThesisDeskModel" "hash" "[I" ∈ lw_G := G_in (in_4 (List.mem_of_getElem? (i := 31) rfl)) rfl
theorem tw_4_34 : Cond.fieldLink RX6 37 "ThesisDeskModel" "data" "[I" ∈ lw_G := G_in (in_4 (List.mem_of_getElem? (i := 34) rfl)) rfl
theorem tw_4_35 : Cond.fieldLink RX6 116 "ThesisDeskModel" "dataTop" "I" ∈ lw_G := G_in (in_4 (List.mem_of_getElem? (i := 35) rfl)) rfl
theorem tw_4_182 : Cond.methodLink RX6 133 yX6_node ∈ lw_G := G_in (in_4 (List.mem_of_getElem? (i := 182) rfl)) rfl
theorem tw_4_184 : Cond.instanceMethod yX6_node ∈ lw_G := G_in (in_4 (List.mem_of_getElem? (i := 184) rfl)) rfl
theorem tw_s48 : Cond.selects RX6 yX6_node yX6_node ∈ lw_G := G_in (in_s (List.mem_of_getElem? (i := 48) rfl)) rfl
theorem tw_4_185 : Cond.code yX6_node cX6_node 11 (some .int) ∈ lw_G := G_in (in_4 (List.mem_of_getElem? (i := 185) rfl)) rfl
theorem tw_4_178 : Cond.methodLink RX6 141 yX6_leaf ∈ lw_G := G_in (in_4 (List.mem_of_getElem? (i := 178) rfl)) rfl
theorem tw_4_180 : Cond.instanceMethod yX6_leaf ∈ lw_G := G_in (in_4 (List.mem_of_getElem? (i := 180) rfl)) rfl
theorem tw_s47 : Cond.selects RX6 yX6_leaf yX6_leaf ∈ lw_G := G_in (in_s (List.mem_of_getElem? (i := 47) rfl)) rfl
theorem tw_4_181 : Cond.code yX6_leaf cX6_leaf 3 (some .int) ∈ lw_G := G_in (in_4 (List.mem_of_getElem? (i := 181) rfl)) rfl
theorem tw_4_60 : Cond.fieldLink RX6 90 "ThesisDeskModel" "forms" "[I" ∈ lw_G := G_in (in_4 (List.mem_of_getElem? (i := 60) rfl)) rfl
theorem tw_4_43 : Cond.fieldLink RX6 52 "ThesisDeskModel" "bKind" "[I" ∈ lw_G := G_in (in_4 (List.mem_of_getElem? (i := 43) rfl)) rfl
theorem tw_4_44 : Cond.fieldLink RX6 55 "ThesisDeskModel" "bThesis" "[I" ∈ lw_G := G_in (in_4 (List.mem_of_getElem? (i := 44) rfl)) rfl
theorem tw_4_48 : Cond.fieldLink RX6 67 "ThesisDeskModel" "bWaits" "[Z" ∈ lw_G := G_in (in_4 (List.mem_of_getElem? (i := 48) rfl)) rfl
theorem tw_4_46 : Cond.fieldLink RX6 61 "ThesisDeskModel" "bFirst" "[I" ∈ lw_G := G_in (in_4 (List.mem_of_getElem? (i := 46) rfl)) rfl
theorem tw_4_54 : Cond.fieldLink RX6 190 "ThesisDeskModel" "steps" "I" ∈ lw_G := G_in (in_4 (List.mem_of_getElem? (i := 54) rfl)) rfl
theorem tw_4_40 : Cond.fieldLink RX6 46 "ThesisDeskModel" "predMany" "[I" ∈ lw_G := G_in (in_4 (List.mem_of_getElem? (i := 40) rfl)) rfl
theorem tw_4_59 : Cond.fieldLink RX6 224 "ThesisDeskModel" "constants" "I" ∈ lw_G := G_in (in_4 (List.mem_of_getElem? (i := 59) rfl)) rfl
theorem tw_4_190 : Cond.methodLink RX6 227 yX6_gives ∈ lw_G := G_in (in_4 (List.mem_of_getElem? (i := 190) rfl)) rfl
theorem tw_4_192 : Cond.instanceMethod yX6_gives ∈ lw_G := G_in (in_4 (List.mem_of_getElem? (i := 192) rfl)) rfl
theorem tw_s49 : Cond.selects RX6 yX6_gives yX6_gives ∈ lw_G := G_in (in_s (List.mem_of_getElem? (i := 49) rfl)) rfl
theorem tw_4_193 : Cond.code yX6_gives cX6_gives 3 (some .int) ∈ lw_G := G_in (in_4 (List.mem_of_getElem? (i := 193) rfl)) rfl
theorem tw_4_214 : Cond.methodLink RX6 147 yX6_truth ∈ lw_G := G_in (in_4 (List.mem_of_getElem? (i := 214) rfl)) rfl
theorem tw_4_216 : Cond.instanceMethod yX6_truth ∈ lw_G := G_in (in_4 (List.mem_of_getElem? (i := 216) rfl)) rfl
theorem tw_s52 : Cond.selects RX6 yX6_truth yX6_truth ∈ lw_G := G_in (in_s (List.mem_of_getElem? (i := 52) rfl)) rfl
theorem tw_4_217 : Cond.code yX6_truth cX6_truth 1 (some .int) ∈ lw_G := G_in (in_4 (List.mem_of_getElem? (i := 217) rfl)) rfl
theorem tw_5_38 : Cond.methodLink RX6 243 yX6_begins ∈ lw_G := G_in (in_5 (List.mem_of_getElem? (i := 38) rfl)) rfl
theorem tw_5_40 : Cond.instanceMethod yX6_begins ∈ lw_G := G_in (in_5 (List.mem_of_getElem? (i := 40) rfl)) rfl
theorem tw_s66 : Cond.selects RX6 yX6_begins yX6_begins ∈ lw_G := G_in (in_s (List.mem_of_getElem? (i := 66) rfl)) rfl
theorem tw_5_41 : Cond.code yX6_begins cX6_begins 3 (some .int) ∈ lw_G := G_in (in_5 (List.mem_of_getElem? (i := 41) rfl)) rfl
theorem tw_4_58 : Cond.fieldLink RX6 199 "ThesisDeskModel" "misses" "I" ∈ lw_G := G_in (in_4 (List.mem_of_getElem? (i := 58) rfl)) rfl
theorem tn_1_213 : Cond.stringRef RX5 53 "a predicate has 0 to 2 terms" ∈ lw_tbl := in_1 (List.mem_of_getElem? (i := 213) rfl)
theorem tn_2_47 : Cond.stringRef RX5 78 "a predicate and a formula in its loci are asked for" ∈ lw_tbl := in_2 (List.mem_of_getElem? (i := 47) rfl)
theorem tn_2_100 : Cond.stringRef RX5 105 "other terms are asked for" ∈ lw_tbl := in_2 (List.mem_of_getElem? (i := 100) rfl)
theorem tn_2_91 : Cond.stringRef RX5 99 "no such predicate" ∈ lw_tbl := in_2 (List.mem_of_getElem? (i := 91) rfl)
theorem tn_2_211 : Cond.stringRef RX5 128 "a constant and a formula are asked for" ∈ lw_tbl := in_2 (List.mem_of_getElem? (i := 211) rfl)
theorem tn_2_232 : Cond.stringRef RX5 143 "a closed formula is asked for" ∈ lw_tbl := in_2 (List.mem_of_getElem? (i := 232) rfl)
theorem tn_3_137 : Cond.stringRef RX5 160 "a closed term is asked for" ∈ lw_tbl := in_3 (List.mem_of_getElem? (i := 137) rfl)
theorem tn_3_146 : Cond.stringRef RX5 167 "a constant and a closed formula are asked for" ∈ lw_tbl := in_3 (List.mem_of_getElem? (i := 146) rfl)
theorem tn_3_154 : Cond.stringRef RX5 175 "no proof or case is open that could begin to wait" ∈ lw_tbl := in_3 (List.mem_of_getElem? (i := 154) rfl)
theorem tn_3_174 : Cond.stringRef RX5 190 "no block is open" ∈ lw_tbl := in_3 (List.mem_of_getElem? (i := 174) rfl)
theorem tn_3_29 : Cond.stringRef RX5 326 "no block is open for steps" ∈ lw_tbl := in_3 (List.mem_of_getElem? (i := 29) rfl)
theorem tn_3_166 : Cond.stringRef RX5 299 "no block that waits for cases is open" ∈ lw_tbl := in_3 (List.mem_of_getElem? (i := 166) rfl)
theorem tn_3_213 : Cond.stringRef RX5 229 "no such form" ∈ lw_tbl := in_3 (List.mem_of_getElem? (i := 213) rfl)
theorem tn_3_228 : Cond.stringRef RX5 245 "no such part" ∈ lw_tbl := in_3 (List.mem_of_getElem? (i := 228) rfl)
theorem tn_4_16 : Cond.stringRef RX5 263 "0 to 4 can be counted" ∈ lw_tbl := in_4 (List.mem_of_getElem? (i := 16) rfl)
theorem tn_2_83 : Cond.stringRef RX5 84 "the loci are 0 and 1" ∈ lw_tbl := in_2 (List.mem_of_getElem? (i := 83) rfl)
theorem tn_2_126 : Cond.stringRef RX5 118 "other formulas are asked for" ∈ lw_tbl := in_2 (List.mem_of_getElem? (i := 126) rfl)
theorem tn_2_121 : Cond.stringRef RX5 113 "the kinds are 0 to 5" ∈ lw_tbl := in_2 (List.mem_of_getElem? (i := 121) rfl)
theorem tn_1_29 : Cond.methodLinkNest RX5 28 yX0_init "ThesisDesk" ∈ lw_tbl := in_1 (List.mem_of_getElem? (i := 29) rfl)
theorem tn_1_25 : Cond.arrayOver (.object RX2) ∈ lw_tbl := in_1 (List.mem_of_getElem? (i := 25) rfl)
theorem tn_1_27 : Cond.arrayOver (.object RX0) ∈ lw_tbl := in_1 (List.mem_of_getElem? (i := 27) rfl)
theorem sx_53 : Cond.exactly (.string RX5 53) "java/lang/String" ∈ flatC (Jvm.Cond.and given_1 narrow_1) := by decide +kernel
theorem sx_78 : Cond.exactly (.string RX5 78) "java/lang/String" ∈ flatC (Jvm.Cond.and given_1 narrow_1) := by decide +kernel
theorem sx_105 : Cond.exactly (.string RX5 105) "java/lang/String" ∈ flatC (Jvm.Cond.and given_1 narrow_1) := by decide +kernel
theorem sx_99 : Cond.exactly (.string RX5 99) "java/lang/String" ∈ flatC (Jvm.Cond.and given_1 narrow_1) := by decide +kernel
theorem sx_128 : Cond.exactly (.string RX5 128) "java/lang/String" ∈ flatC (Jvm.Cond.and given_1 narrow_1) := by decide +kernel
theorem sx_143 : Cond.exactly (.string RX5 143) "java/lang/String" ∈ flatC (Jvm.Cond.and given_1 narrow_1) := by decide +kernel
theorem sx_160 : Cond.exactly (.string RX5 160) "java/lang/String" ∈ flatC (Jvm.Cond.and given_1 narrow_1) := by decide +kernel
theorem sx_167 : Cond.exactly (.string RX5 167) "java/lang/String" ∈ flatC (Jvm.Cond.and given_1 narrow_1) := by decide +kernel
theorem sx_175 : Cond.exactly (.string RX5 175) "java/lang/String" ∈ flatC (Jvm.Cond.and given_1 narrow_1) := by decide +kernel
theorem sx_190 : Cond.exactly (.string RX5 190) "java/lang/String" ∈ flatC (Jvm.Cond.and given_1 narrow_1) := by decide +kernel
theorem sx_326 : Cond.exactly (.string RX5 326) "java/lang/String" ∈ flatC (Jvm.Cond.and given_1 narrow_1) := by decide +kernel
theorem sx_299 : Cond.exactly (.string RX5 299) "java/lang/String" ∈ flatC (Jvm.Cond.and given_1 narrow_1) := by decide +kernel
theorem sx_229 : Cond.exactly (.string RX5 229) "java/lang/String" ∈ flatC (Jvm.Cond.and given_1 narrow_1) := by decide +kernel
theorem sx_245 : Cond.exactly (.string RX5 245) "java/lang/String" ∈ flatC (Jvm.Cond.and given_1 narrow_1) := by decide +kernel
theorem sx_263 : Cond.exactly (.string RX5 263) "java/lang/String" ∈ flatC (Jvm.Cond.and given_1 narrow_1) := by decide +kernel
theorem sx_84 : Cond.exactly (.string RX5 84) "java/lang/String" ∈ flatC (Jvm.Cond.and given_1 narrow_1) := by decide +kernel
theorem sx_118 : Cond.exactly (.string RX5 118) "java/lang/String" ∈ flatC (Jvm.Cond.and given_1 narrow_1) := by decide +kernel
theorem sx_113 : Cond.exactly (.string RX5 113) "java/lang/String" ∈ flatC (Jvm.Cond.and given_1 narrow_1) := by decide +kernel
