theorem dX6_init_0 : decode cX6_init 0 = .ok (.aload_n 0, 1) := by decide +kernel
theorem dX6_init_1 : decode cX6_init 1 = .ok (.invokespecial 1, 3) := by decide +kernel
theorem dX6_init_4 : decode cX6_init 4 = .ok (.aload_n 0, 1) := by decide +kernel
theorem dX6_init_5 : decode cX6_init 5 = .ok (.sipush 1024, 3) := by decide +kernel
theorem dX6_init_8 : decode cX6_init 8 = .ok (.newarray .int, 2) := by decide +kernel
theorem dX6_init_10 : decode cX6_init 10 = .ok (.putfield 7, 3) := by decide +kernel
theorem dX6_init_13 : decode cX6_init 13 = .ok (.aload_n 0, 1) := by decide +kernel
theorem dX6_init_14 : decode cX6_init 14 = .ok (.sipush 1024, 3) := by decide +kernel
theorem dX6_init_17 : decode cX6_init 17 = .ok (.newarray .int, 2) := by decide +kernel
theorem dX6_init_19 : decode cX6_init 19 = .ok (.putfield 13, 3) := by decide +kernel
theorem dX6_init_22 : decode cX6_init 22 = .ok (.aload_n 0, 1) := by decide +kernel
theorem dX6_init_23 : decode cX6_init 23 = .ok (.sipush 1024, 3) := by decide +kernel
theorem dX6_init_26 : decode cX6_init 26 = .ok (.newarray .int, 2) := by decide +kernel
theorem dX6_init_28 : decode cX6_init 28 = .ok (.putfield 16, 3) := by decide +kernel
theorem dX6_init_31 : decode cX6_init 31 = .ok (.aload_n 0, 1) := by decide +kernel
theorem dX6_init_32 : decode cX6_init 32 = .ok (.sipush 1024, 3) := by decide +kernel
theorem dX6_init_35 : decode cX6_init 35 = .ok (.newarray .int, 2) := by decide +kernel
theorem dX6_init_37 : decode cX6_init 37 = .ok (.putfield 19, 3) := by decide +kernel
theorem dX6_init_40 : decode cX6_init 40 = .ok (.aload_n 0, 1) := by decide +kernel
theorem dX6_init_41 : decode cX6_init 41 = .ok (.sipush 1024, 3) := by decide +kernel
theorem dX6_init_44 : decode cX6_init 44 = .ok (.newarray .int, 2) := by decide +kernel
theorem dX6_init_46 : decode cX6_init 46 = .ok (.putfield 22, 3) := by decide +kernel
theorem dX6_init_49 : decode cX6_init 49 = .ok (.aload_n 0, 1) := by decide +kernel
theorem dX6_init_50 : decode cX6_init 50 = .ok (.sipush 1024, 3) := by decide +kernel
theorem dX6_init_53 : decode cX6_init 53 = .ok (.newarray .int, 2) := by decide +kernel
theorem dX6_init_55 : decode cX6_init 55 = .ok (.putfield 25, 3) := by decide +kernel
theorem dX6_init_58 : decode cX6_init 58 = .ok (.aload_n 0, 1) := by decide +kernel
theorem dX6_init_59 : decode cX6_init 59 = .ok (.sipush 1024, 3) := by decide +kernel
theorem dX6_init_62 : decode cX6_init 62 = .ok (.newarray .int, 2) := by decide +kernel
theorem dX6_init_64 : decode cX6_init 64 = .ok (.putfield 28, 3) := by decide +kernel
theorem dX6_init_67 : decode cX6_init 67 = .ok (.aload_n 0, 1) := by decide +kernel
theorem dX6_init_68 : decode cX6_init 68 = .ok (.sipush 1024, 3) := by decide +kernel
theorem dX6_init_71 : decode cX6_init 71 = .ok (.newarray .int, 2) := by decide +kernel
theorem dX6_init_73 : decode cX6_init 73 = .ok (.putfield 31, 3) := by decide +kernel
theorem dX6_init_76 : decode cX6_init 76 = .ok (.aload_n 0, 1) := by decide +kernel
theorem dX6_init_77 : decode cX6_init 77 = .ok (.sipush 4096, 3) := by decide +kernel
theorem dX6_init_80 : decode cX6_init 80 = .ok (.newarray .int, 2) := by decide +kernel
theorem dX6_init_82 : decode cX6_init 82 = .ok (.putfield 34, 3) := by decide +kernel
theorem dX6_init_85 : decode cX6_init 85 = .ok (.aload_n 0, 1) := by decide +kernel
theorem dX6_init_86 : decode cX6_init 86 = .ok (.sipush 4096, 3) := by decide +kernel
theorem dX6_init_89 : decode cX6_init 89 = .ok (.newarray .int, 2) := by decide +kernel
theorem dX6_init_91 : decode cX6_init 91 = .ok (.putfield 37, 3) := by decide +kernel
theorem dX6_init_94 : decode cX6_init 94 = .ok (.aload_n 0, 1) := by decide +kernel
theorem dX6_init_95 : decode cX6_init 95 = .ok (.sipush 1024, 3) := by decide +kernel
theorem dX6_init_98 : decode cX6_init 98 = .ok (.newarray .int, 2) := by decide +kernel
theorem dX6_init_100 : decode cX6_init 100 = .ok (.putfield 40, 3) := by decide +kernel
theorem dX6_init_103 : decode cX6_init 103 = .ok (.aload_n 0, 1) := by decide +kernel
theorem dX6_init_104 : decode cX6_init 104 = .ok (.sipush 512, 3) := by decide +kernel
theorem dX6_init_107 : decode cX6_init 107 = .ok (.newarray .int, 2) := by decide +kernel
theorem dX6_init_109 : decode cX6_init 109 = .ok (.putfield 43, 3) := by decide +kernel
theorem dX6_init_112 : decode cX6_init 112 = .ok (.aload_n 0, 1) := by decide +kernel
theorem dX6_init_113 : decode cX6_init 113 = .ok (.bipush 30, 2) := by decide +kernel
theorem dX6_init_115 : decode cX6_init 115 = .ok (.newarray .int, 2) := by decide +kernel
theorem dX6_init_117 : decode cX6_init 117 = .ok (.putfield 46, 3) := by decide +kernel
theorem dX6_init_120 : decode cX6_init 120 = .ok (.aload_n 0, 1) := by decide +kernel
theorem dX6_init_121 : decode cX6_init 121 = .ok (.bipush 30, 2) := by decide +kernel
theorem dX6_init_123 : decode cX6_init 123 = .ok (.newarray .int, 2) := by decide +kernel
theorem dX6_init_125 : decode cX6_init 125 = .ok (.putfield 49, 3) := by decide +kernel
theorem dX6_init_128 : decode cX6_init 128 = .ok (.aload_n 0, 1) := by decide +kernel
theorem dX6_init_129 : decode cX6_init 129 = .ok (.bipush 40, 2) := by decide +kernel
theorem dX6_init_131 : decode cX6_init 131 = .ok (.newarray .int, 2) := by decide +kernel
theorem dX6_init_133 : decode cX6_init 133 = .ok (.putfield 52, 3) := by decide +kernel
theorem dX6_init_136 : decode cX6_init 136 = .ok (.aload_n 0, 1) := by decide +kernel
theorem dX6_init_137 : decode cX6_init 137 = .ok (.bipush 40, 2) := by decide +kernel
theorem dX6_init_139 : decode cX6_init 139 = .ok (.newarray .int, 2) := by decide +kernel
theorem dX6_init_141 : decode cX6_init 141 = .ok (.putfield 55, 3) := by decide +kernel
theorem dX6_init_144 : decode cX6_init 144 = .ok (.aload_n 0, 1) := by decide +kernel
theorem dX6_init_145 : decode cX6_init 145 = .ok (.bipush 40, 2) := by decide +kernel
theorem dX6_init_147 : decode cX6_init 147 = .ok (.newarray .int, 2) := by decide +kernel
theorem dX6_init_149 : decode cX6_init 149 = .ok (.putfield 58, 3) := by decide +kernel
theorem dX6_init_152 : decode cX6_init 152 = .ok (.aload_n 0, 1) := by decide +kernel
theorem dX6_init_153 : decode cX6_init 153 = .ok (.bipush 40, 2) := by decide +kernel
theorem dX6_init_155 : decode cX6_init 155 = .ok (.newarray .int, 2) := by decide +kernel
theorem dX6_init_157 : decode cX6_init 157 = .ok (.putfield 61, 3) := by decide +kernel
theorem dX6_init_160 : decode cX6_init 160 = .ok (.aload_n 0, 1) := by decide +kernel
theorem dX6_init_161 : decode cX6_init 161 = .ok (.bipush 40, 2) := by decide +kernel
theorem dX6_init_163 : decode cX6_init 163 = .ok (.newarray .int, 2) := by decide +kernel
theorem dX6_init_165 : decode cX6_init 165 = .ok (.putfield 64, 3) := by decide +kernel
theorem dX6_init_168 : decode cX6_init 168 = .ok (.aload_n 0, 1) := by decide +kernel
theorem dX6_init_169 : decode cX6_init 169 = .ok (.bipush 40, 2) := by decide +kernel
theorem dX6_init_171 : decode cX6_init 171 = .ok (.newarray .boolean, 2) := by decide +kernel
theorem dX6_init_173 : decode cX6_init 173 = .ok (.putfield 67, 3) := by decide +kernel
theorem dX6_init_176 : decode cX6_init 176 = .ok (.aload_n 0, 1) := by decide +kernel
theorem dX6_init_177 : decode cX6_init 177 = .ok (.bipush 40, 2) := by decide +kernel
theorem dX6_init_179 : decode cX6_init 179 = .ok (.newarray .boolean, 2) := by decide +kernel
theorem dX6_init_181 : decode cX6_init 181 = .ok (.putfield 71, 3) := by decide +kernel
theorem dX6_init_184 : decode cX6_init 184 = .ok (.aload_n 0, 1) := by decide +kernel
theorem dX6_init_185 : decode cX6_init 185 = .ok (.bipush 64, 2) := by decide +kernel
theorem dX6_init_187 : decode cX6_init 187 = .ok (.newarray .int, 2) := by decide +kernel
theorem dX6_init_189 : decode cX6_init 189 = .ok (.putfield 74, 3) := by decide +kernel
theorem dX6_init_192 : decode cX6_init 192 = .ok (.aload_n 0, 1) := by decide +kernel
theorem dX6_init_193 : decode cX6_init 193 = .ok (.bipush 64, 2) := by decide +kernel
theorem dX6_init_195 : decode cX6_init 195 = .ok (.newarray .int, 2) := by decide +kernel
theorem dX6_init_197 : decode cX6_init 197 = .ok (.putfield 77, 3) := by decide +kernel
theorem dX6_init_200 : decode cX6_init 200 = .ok (.aload_n 0, 1) := by decide +kernel
theorem dX6_init_201 : decode cX6_init 201 = .ok (.bipush 64, 2) := by decide +kernel
theorem dX6_init_203 : decode cX6_init 203 = .ok (.newarray .int, 2) := by decide +kernel
theorem dX6_init_205 : decode cX6_init 205 = .ok (.putfield 80, 3) := by decide +kernel
theorem dX6_init_208 : decode cX6_init 208 = .ok (.aload_n 0, 1) := by decide +kernel
theorem dX6_init_209 : decode cX6_init 209 = .ok (.bipush 64, 2) := by decide +kernel
theorem dX6_init_211 : decode cX6_init 211 = .ok (.newarray .int, 2) := by decide +kernel
theorem dX6_init_213 : decode cX6_init 213 = .ok (.putfield 83, 3) := by decide +kernel
theorem dX6_init_216 : decode cX6_init 216 = .ok (.aload_n 0, 1) := by decide +kernel
theorem dX6_init_217 : decode cX6_init 217 = .ok (.iconst 1, 1) := by decide +kernel
theorem dX6_init_218 : decode cX6_init 218 = .ok (.putfield 86, 3) := by decide +kernel
theorem dX6_init_221 : decode cX6_init 221 = .ok (.aload_n 0, 1) := by decide +kernel
theorem dX6_init_222 : decode cX6_init 222 = .ok (.sipush 1000, 3) := by decide +kernel
theorem dX6_init_225 : decode cX6_init 225 = .ok (.newarray .int, 2) := by decide +kernel
theorem dX6_init_227 : decode cX6_init 227 = .ok (.putfield 90, 3) := by decide +kernel
theorem dX6_init_230 : decode cX6_init 230 = .ok (.return_, 1) := by decide +kernel
theorem dL_define_0 : decode cL_define 0 = .ok (.aload_n 3, 1) := by decide +kernel
theorem dL_define_1 : decode cL_define 1 = .ok (.iconst 0, 1) := by decide +kernel
theorem dL_define_2 : decode cL_define 2 = .ok (.aload_n 0, 1) := by decide +kernel
theorem dL_define_3 : decode cL_define 3 = .ok (.iload_n 1, 1) := by decide +kernel
theorem dL_define_4 : decode cL_define 4 = .ok (.iload_n 2, 1) := by decide +kernel
theorem dL_define_5 : decode cL_define 5 = .ok (.invokevirtual 17, 3) := by decide +kernel
theorem dL_define_8 : decode cL_define 8 = .ok (.ifCond .eq 7, 3) := by decide +kernel
theorem dL_define_11 : decode cL_define 11 = .ok (.lconst 1, 1) := by decide +kernel
theorem dL_define_12 : decode cL_define 12 = .ok (.goto 4, 3) := by decide +kernel
theorem dL_define_15 : decode cL_define 15 = .ok (.lconst 0, 1) := by decide +kernel
theorem dL_define_16 : decode cL_define 16 = .ok (.lastore, 1) := by decide +kernel
theorem dL_define_17 : decode cL_define 17 = .ok (.goto 7, 3) := by decide +kernel
theorem dL_define_20 : decode cL_define 20 = .ok (.astore 4, 2) := by decide +kernel
theorem dL_define_22 : decode cL_define 22 = .ok (.iconst 1, 1) := by decide +kernel
theorem dL_define_23 : decode cL_define 23 = .ok (.ireturn, 1) := by decide +kernel
theorem dL_define_24 : decode cL_define 24 = .ok (.iconst 0, 1) := by decide +kernel
theorem dL_define_25 : decode cL_define 25 = .ok (.ireturn, 1) := by decide +kernel
theorem dL_atom_0 : decode cL_atom 0 = .ok (.aload 4, 2) := by decide +kernel
theorem dL_atom_2 : decode cL_atom 2 = .ok (.iconst 0, 1) := by decide +kernel
theorem dL_atom_3 : decode cL_atom 3 = .ok (.aload_n 0, 1) := by decide +kernel
theorem dL_atom_4 : decode cL_atom 4 = .ok (.iload_n 1, 1) := by decide +kernel
theorem dL_atom_5 : decode cL_atom 5 = .ok (.iload_n 2, 1) := by decide +kernel
theorem dL_atom_6 : decode cL_atom 6 = .ok (.iload_n 3, 1) := by decide +kernel
theorem dL_atom_7 : decode cL_atom 7 = .ok (.invokevirtual 28, 3) := by decide +kernel
theorem dL_atom_10 : decode cL_atom 10 = .ok (.i2l, 1) := by decide +kernel
theorem dL_atom_11 : decode cL_atom 11 = .ok (.lastore, 1) := by decide +kernel
theorem dL_atom_12 : decode cL_atom 12 = .ok (.goto 11, 3) := by decide +kernel
theorem dL_atom_15 : decode cL_atom 15 = .ok (.astore 5, 2) := by decide +kernel
theorem dL_atom_17 : decode cL_atom 17 = .ok (.iconst 1, 1) := by decide +kernel
theorem dL_atom_18 : decode cL_atom 18 = .ok (.ireturn, 1) := by decide +kernel
theorem dL_atom_19 : decode cL_atom 19 = .ok (.astore 5, 2) := by decide +kernel
theorem dL_atom_21 : decode cL_atom 21 = .ok (.iconst 2, 1) := by decide +kernel
theorem dL_atom_22 : decode cL_atom 22 = .ok (.ireturn, 1) := by decide +kernel
theorem dL_atom_23 : decode cL_atom 23 = .ok (.iconst 0, 1) := by decide +kernel
theorem dL_atom_24 : decode cL_atom 24 = .ok (.ireturn, 1) := by decide +kernel
theorem dL_bind_0 : decode cL_bind 0 = .ok (.aload 4, 2) := by decide +kernel
theorem dL_bind_2 : decode cL_bind 2 = .ok (.iconst 0, 1) := by decide +kernel
theorem dL_bind_3 : decode cL_bind 3 = .ok (.aload_n 0, 1) := by decide +kernel
theorem dL_bind_4 : decode cL_bind 4 = .ok (.iload_n 1, 1) := by decide +kernel
theorem dL_bind_5 : decode cL_bind 5 = .ok (.iload_n 2, 1) := by decide +kernel
theorem dL_bind_6 : decode cL_bind 6 = .ok (.iload_n 3, 1) := by decide +kernel
theorem dL_bind_7 : decode cL_bind 7 = .ok (.invokevirtual 35, 3) := by decide +kernel
theorem dL_bind_10 : decode cL_bind 10 = .ok (.i2l, 1) := by decide +kernel
theorem dL_bind_11 : decode cL_bind 11 = .ok (.lastore, 1) := by decide +kernel
theorem dL_bind_12 : decode cL_bind 12 = .ok (.goto 11, 3) := by decide +kernel
theorem dL_bind_15 : decode cL_bind 15 = .ok (.astore 5, 2) := by decide +kernel
theorem dL_bind_17 : decode cL_bind 17 = .ok (.iconst 1, 1) := by decide +kernel
theorem dL_bind_18 : decode cL_bind 18 = .ok (.ireturn, 1) := by decide +kernel
theorem dL_bind_19 : decode cL_bind 19 = .ok (.astore 5, 2) := by decide +kernel
theorem dL_bind_21 : decode cL_bind 21 = .ok (.iconst 2, 1) := by decide +kernel
theorem dL_bind_22 : decode cL_bind 22 = .ok (.ireturn, 1) := by decide +kernel
theorem dL_bind_23 : decode cL_bind 23 = .ok (.iconst 0, 1) := by decide +kernel
theorem dL_bind_24 : decode cL_bind 24 = .ok (.ireturn, 1) := by decide +kernel
theorem dL_proof_0 : decode cL_proof 0 = .ok (.aload_n 2, 1) := by decide +kernel
theorem dL_proof_1 : decode cL_proof 1 = .ok (.iconst 0, 1) := by decide +kernel
theorem dL_proof_2 : decode cL_proof 2 = .ok (.aload_n 0, 1) := by decide +kernel
theorem dL_proof_3 : decode cL_proof 3 = .ok (.iload_n 1, 1) := by decide +kernel
theorem dL_proof_4 : decode cL_proof 4 = .ok (.invokevirtual 39, 3) := by decide +kernel
theorem dL_proof_7 : decode cL_proof 7 = .ok (.i2l, 1) := by decide +kernel
theorem dL_proof_8 : decode cL_proof 8 = .ok (.lastore, 1) := by decide +kernel
theorem dL_proof_9 : decode cL_proof 9 = .ok (.goto 9, 3) := by decide +kernel
theorem dL_proof_12 : decode cL_proof 12 = .ok (.astore_n 3, 1) := by decide +kernel
theorem dL_proof_13 : decode cL_proof 13 = .ok (.iconst 1, 1) := by decide +kernel
theorem dL_proof_14 : decode cL_proof 14 = .ok (.ireturn, 1) := by decide +kernel
theorem dL_proof_15 : decode cL_proof 15 = .ok (.astore_n 3, 1) := by decide +kernel
theorem dL_proof_16 : decode cL_proof 16 = .ok (.iconst 2, 1) := by decide +kernel
theorem dL_proof_17 : decode cL_proof 17 = .ok (.ireturn, 1) := by decide +kernel
theorem dL_proof_18 : decode cL_proof 18 = .ok (.iconst 0, 1) := by decide +kernel
theorem dL_proof_19 : decode cL_proof 19 = .ok (.ireturn, 1) := by decide +kernel
theorem dL_let_0 : decode cL_let 0 = .ok (.aload_n 1, 1) := by decide +kernel
theorem dL_let_1 : decode cL_let 1 = .ok (.iconst 0, 1) := by decide +kernel
theorem dL_let_2 : decode cL_let 2 = .ok (.aload_n 0, 1) := by decide +kernel
theorem dL_let_3 : decode cL_let 3 = .ok (.invokevirtual 45, 3) := by decide +kernel
theorem dL_let_6 : decode cL_let 6 = .ok (.i2l, 1) := by decide +kernel
theorem dL_let_7 : decode cL_let 7 = .ok (.lastore, 1) := by decide +kernel
theorem dL_let_8 : decode cL_let 8 = .ok (.goto 6, 3) := by decide +kernel
theorem dL_let_11 : decode cL_let 11 = .ok (.astore_n 2, 1) := by decide +kernel
theorem dL_let_12 : decode cL_let 12 = .ok (.iconst 1, 1) := by decide +kernel
theorem dL_let_13 : decode cL_let 13 = .ok (.ireturn, 1) := by decide +kernel
theorem dL_let_14 : decode cL_let 14 = .ok (.iconst 0, 1) := by decide +kernel
theorem dL_let_15 : decode cL_let 15 = .ok (.ireturn, 1) := by decide +kernel
theorem dL_assume_0 : decode cL_assume 0 = .ok (.aload_n 2, 1) := by decide +kernel
theorem dL_assume_1 : decode cL_assume 1 = .ok (.iconst 0, 1) := by decide +kernel
theorem dL_assume_2 : decode cL_assume 2 = .ok (.aload_n 0, 1) := by decide +kernel
theorem dL_assume_3 : decode cL_assume 3 = .ok (.iload_n 1, 1) := by decide +kernel
theorem dL_assume_4 : decode cL_assume 4 = .ok (.invokevirtual 48, 3) := by decide +kernel
theorem dL_assume_7 : decode cL_assume 7 = .ok (.ifCond .eq 7, 3) := by decide +kernel
theorem dL_assume_10 : decode cL_assume 10 = .ok (.lconst 1, 1) := by decide +kernel
theorem dL_assume_11 : decode cL_assume 11 = .ok (.goto 4, 3) := by decide +kernel
theorem dL_assume_14 : decode cL_assume 14 = .ok (.lconst 0, 1) := by decide +kernel
theorem dL_assume_15 : decode cL_assume 15 = .ok (.lastore, 1) := by decide +kernel
theorem dL_assume_16 : decode cL_assume 16 = .ok (.goto 9, 3) := by decide +kernel
theorem dL_assume_19 : decode cL_assume 19 = .ok (.astore_n 3, 1) := by decide +kernel
theorem dL_assume_20 : decode cL_assume 20 = .ok (.iconst 1, 1) := by decide +kernel
theorem dL_assume_21 : decode cL_assume 21 = .ok (.ireturn, 1) := by decide +kernel
theorem dL_assume_22 : decode cL_assume 22 = .ok (.astore_n 3, 1) := by decide +kernel
theorem dL_assume_23 : decode cL_assume 23 = .ok (.iconst 2, 1) := by decide +kernel
theorem dL_assume_24 : decode cL_assume 24 = .ok (.ireturn, 1) := by decide +kernel
theorem dL_assume_25 : decode cL_assume 25 = .ok (.iconst 0, 1) := by decide +kernel
theorem dL_assume_26 : decode cL_assume 26 = .ok (.ireturn, 1) := by decide +kernel
theorem dL_thus_0 : decode cL_thus 0 = .ok (.aload_n 2, 1) := by decide +kernel
theorem dL_thus_1 : decode cL_thus 1 = .ok (.iconst 0, 1) := by decide +kernel
theorem dL_thus_2 : decode cL_thus 2 = .ok (.aload_n 0, 1) := by decide +kernel
theorem dL_thus_3 : decode cL_thus 3 = .ok (.iload_n 1, 1) := by decide +kernel
theorem dL_thus_4 : decode cL_thus 4 = .ok (.invokevirtual 52, 3) := by decide +kernel
theorem dL_thus_7 : decode cL_thus 7 = .ok (.ifCond .eq 7, 3) := by decide +kernel
theorem dL_thus_10 : decode cL_thus 10 = .ok (.lconst 1, 1) := by decide +kernel
theorem dL_thus_11 : decode cL_thus 11 = .ok (.goto 4, 3) := by decide +kernel
theorem dL_thus_14 : decode cL_thus 14 = .ok (.lconst 0, 1) := by decide +kernel
theorem dL_thus_15 : decode cL_thus 15 = .ok (.lastore, 1) := by decide +kernel
theorem dL_thus_16 : decode cL_thus 16 = .ok (.goto 9, 3) := by decide +kernel
theorem dL_thus_19 : decode cL_thus 19 = .ok (.astore_n 3, 1) := by decide +kernel
theorem dL_thus_20 : decode cL_thus 20 = .ok (.iconst 1, 1) := by decide +kernel
theorem dL_thus_21 : decode cL_thus 21 = .ok (.ireturn, 1) := by decide +kernel
theorem dL_thus_22 : decode cL_thus 22 = .ok (.astore_n 3, 1) := by decide +kernel
theorem dL_thus_23 : decode cL_thus 23 = .ok (.iconst 2, 1) := by decide +kernel
theorem dL_thus_24 : decode cL_thus 24 = .ok (.ireturn, 1) := by decide +kernel
theorem dL_thus_25 : decode cL_thus 25 = .ok (.iconst 0, 1) := by decide +kernel
theorem dL_thus_26 : decode cL_thus 26 = .ok (.ireturn, 1) := by decide +kernel
theorem dL_take_0 : decode cL_take 0 = .ok (.aload_n 2, 1) := by decide +kernel
theorem dL_take_1 : decode cL_take 1 = .ok (.iconst 0, 1) := by decide +kernel
theorem dL_take_2 : decode cL_take 2 = .ok (.aload_n 0, 1) := by decide +kernel
theorem dL_take_3 : decode cL_take 3 = .ok (.iload_n 1, 1) := by decide +kernel
theorem dL_take_4 : decode cL_take 4 = .ok (.invokevirtual 55, 3) := by decide +kernel
theorem dL_take_7 : decode cL_take 7 = .ok (.ifCond .eq 7, 3) := by decide +kernel
theorem dL_take_10 : decode cL_take 10 = .ok (.lconst 1, 1) := by decide +kernel
theorem dL_take_11 : decode cL_take 11 = .ok (.goto 4, 3) := by decide +kernel
theorem dL_take_14 : decode cL_take 14 = .ok (.lconst 0, 1) := by decide +kernel
theorem dL_take_15 : decode cL_take 15 = .ok (.lastore, 1) := by decide +kernel
theorem dL_take_16 : decode cL_take 16 = .ok (.goto 9, 3) := by decide +kernel
theorem dL_take_19 : decode cL_take 19 = .ok (.astore_n 3, 1) := by decide +kernel
theorem dL_take_20 : decode cL_take 20 = .ok (.iconst 1, 1) := by decide +kernel
theorem dL_take_21 : decode cL_take 21 = .ok (.ireturn, 1) := by decide +kernel
theorem dL_take_22 : decode cL_take 22 = .ok (.astore_n 3, 1) := by decide +kernel
theorem dL_take_23 : decode cL_take 23 = .ok (.iconst 2, 1) := by decide +kernel
theorem dL_take_24 : decode cL_take 24 = .ok (.ireturn, 1) := by decide +kernel
theorem dL_take_25 : decode cL_take 25 = .ok (.iconst 0, 1) := by decide +kernel
theorem dL_take_26 : decode cL_take 26 = .ok (.ireturn, 1) := by decide +kernel
theorem dL_given_0 : decode cL_given 0 = .ok (.aload_n 3, 1) := by decide +kernel
theorem dL_given_1 : decode cL_given 1 = .ok (.iconst 0, 1) := by decide +kernel
theorem dL_given_2 : decode cL_given 2 = .ok (.aload_n 0, 1) := by decide +kernel
theorem dL_given_3 : decode cL_given 3 = .ok (.iload_n 1, 1) := by decide +kernel
theorem dL_given_4 : decode cL_given 4 = .ok (.iload_n 2, 1) := by decide +kernel
theorem dL_given_5 : decode cL_given 5 = .ok (.invokevirtual 58, 3) := by decide +kernel
theorem dL_given_8 : decode cL_given 8 = .ok (.ifCond .eq 7, 3) := by decide +kernel
theorem dL_given_11 : decode cL_given 11 = .ok (.lconst 1, 1) := by decide +kernel
theorem dL_given_12 : decode cL_given 12 = .ok (.goto 4, 3) := by decide +kernel
theorem dL_given_15 : decode cL_given 15 = .ok (.lconst 0, 1) := by decide +kernel
theorem dL_given_16 : decode cL_given 16 = .ok (.lastore, 1) := by decide +kernel
theorem dL_given_17 : decode cL_given 17 = .ok (.goto 11, 3) := by decide +kernel
theorem dL_given_20 : decode cL_given 20 = .ok (.astore 4, 2) := by decide +kernel
theorem dL_given_22 : decode cL_given 22 = .ok (.iconst 1, 1) := by decide +kernel
theorem dL_given_23 : decode cL_given 23 = .ok (.ireturn, 1) := by decide +kernel
theorem dL_given_24 : decode cL_given 24 = .ok (.astore 4, 2) := by decide +kernel
theorem dL_given_26 : decode cL_given 26 = .ok (.iconst 2, 1) := by decide +kernel
theorem dL_given_27 : decode cL_given 27 = .ok (.ireturn, 1) := by decide +kernel
theorem dL_given_28 : decode cL_given 28 = .ok (.iconst 0, 1) := by decide +kernel
theorem dL_given_29 : decode cL_given 29 = .ok (.ireturn, 1) := by decide +kernel
theorem dL_cases_0 : decode cL_cases 0 = .ok (.aload_n 0, 1) := by decide +kernel
theorem dL_cases_1 : decode cL_cases 1 = .ok (.invokevirtual 61, 3) := by decide +kernel
theorem dL_cases_4 : decode cL_cases 4 = .ok (.goto 6, 3) := by decide +kernel
theorem dL_cases_7 : decode cL_cases 7 = .ok (.astore_n 1, 1) := by decide +kernel
theorem dL_cases_8 : decode cL_cases 8 = .ok (.iconst 1, 1) := by decide +kernel
theorem dL_cases_9 : decode cL_cases 9 = .ok (.ireturn, 1) := by decide +kernel
theorem dL_cases_10 : decode cL_cases 10 = .ok (.iconst 0, 1) := by decide +kernel
theorem dL_cases_11 : decode cL_cases 11 = .ok (.ireturn, 1) := by decide +kernel
theorem dL_suppose_0 : decode cL_suppose 0 = .ok (.aload_n 2, 1) := by decide +kernel
theorem dL_suppose_1 : decode cL_suppose 1 = .ok (.iconst 0, 1) := by decide +kernel
theorem dL_suppose_2 : decode cL_suppose 2 = .ok (.aload_n 0, 1) := by decide +kernel
theorem dL_suppose_3 : decode cL_suppose 3 = .ok (.iload_n 1, 1) := by decide +kernel
theorem dL_suppose_4 : decode cL_suppose 4 = .ok (.invokevirtual 64, 3) := by decide +kernel
theorem dL_suppose_7 : decode cL_suppose 7 = .ok (.i2l, 1) := by decide +kernel
theorem dL_suppose_8 : decode cL_suppose 8 = .ok (.lastore, 1) := by decide +kernel
theorem dL_suppose_9 : decode cL_suppose 9 = .ok (.goto 9, 3) := by decide +kernel
theorem dL_suppose_12 : decode cL_suppose 12 = .ok (.astore_n 3, 1) := by decide +kernel
theorem dL_suppose_13 : decode cL_suppose 13 = .ok (.iconst 1, 1) := by decide +kernel
theorem dL_suppose_14 : decode cL_suppose 14 = .ok (.ireturn, 1) := by decide +kernel
theorem dL_suppose_15 : decode cL_suppose 15 = .ok (.astore_n 3, 1) := by decide +kernel
theorem dL_suppose_16 : decode cL_suppose 16 = .ok (.iconst 2, 1) := by decide +kernel
theorem dL_suppose_17 : decode cL_suppose 17 = .ok (.ireturn, 1) := by decide +kernel
theorem dL_suppose_18 : decode cL_suppose 18 = .ok (.iconst 0, 1) := by decide +kernel
theorem dL_suppose_19 : decode cL_suppose 19 = .ok (.ireturn, 1) := by decide +kernel
theorem dL_end_0 : decode cL_end 0 = .ok (.aload_n 1, 1) := by decide +kernel
theorem dL_end_1 : decode cL_end 1 = .ok (.iconst 0, 1) := by decide +kernel
theorem dL_end_2 : decode cL_end 2 = .ok (.aload_n 0, 1) := by decide +kernel
theorem dL_end_3 : decode cL_end 3 = .ok (.invokevirtual 67, 3) := by decide +kernel
theorem dL_end_6 : decode cL_end 6 = .ok (.i2l, 1) := by decide +kernel
theorem dL_end_7 : decode cL_end 7 = .ok (.lastore, 1) := by decide +kernel
theorem dL_end_8 : decode cL_end 8 = .ok (.goto 6, 3) := by decide +kernel
theorem dL_end_11 : decode cL_end 11 = .ok (.astore_n 2, 1) := by decide +kernel
theorem dL_end_12 : decode cL_end 12 = .ok (.iconst 1, 1) := by decide +kernel
theorem dL_end_13 : decode cL_end 13 = .ok (.ireturn, 1) := by decide +kernel
theorem dL_end_14 : decode cL_end 14 = .ok (.iconst 0, 1) := by decide +kernel
theorem dL_end_15 : decode cL_end 15 = .ok (.ireturn, 1) := by decide +kernel
theorem dL_thesis_0 : decode cL_thesis 0 = .ok (.aload_n 1, 1) := by decide +kernel
theorem dL_thesis_1 : decode cL_thesis 1 = .ok (.iconst 0, 1) := by decide +kernel
theorem dL_thesis_2 : decode cL_thesis 2 = .ok (.aload_n 0, 1) := by decide +kernel
theorem dL_thesis_3 : decode cL_thesis 3 = .ok (.invokevirtual 70, 3) := by decide +kernel
theorem dL_thesis_6 : decode cL_thesis 6 = .ok (.i2l, 1) := by decide +kernel
theorem dL_thesis_7 : decode cL_thesis 7 = .ok (.lastore, 1) := by decide +kernel
theorem dL_thesis_8 : decode cL_thesis 8 = .ok (.goto 6, 3) := by decide +kernel
theorem dL_thesis_11 : decode cL_thesis 11 = .ok (.astore_n 2, 1) := by decide +kernel
theorem dL_thesis_12 : decode cL_thesis 12 = .ok (.iconst 1, 1) := by decide +kernel
theorem dL_thesis_13 : decode cL_thesis 13 = .ok (.ireturn, 1) := by decide +kernel
theorem dL_thesis_14 : decode cL_thesis 14 = .ok (.iconst 0, 1) := by decide +kernel
theorem dL_thesis_15 : decode cL_thesis 15 = .ok (.ireturn, 1) := by decide +kernel
theorem dL_ways_0 : decode cL_ways 0 = .ok (.aload_n 1, 1) := by decide +kernel
theorem dL_ways_1 : decode cL_ways 1 = .ok (.iconst 0, 1) := by decide +kernel
theorem dL_ways_2 : decode cL_ways 2 = .ok (.aload_n 0, 1) := by decide +kernel
theorem dL_ways_3 : decode cL_ways 3 = .ok (.invokevirtual 73, 3) := by decide +kernel
theorem dL_ways_6 : decode cL_ways 6 = .ok (.i2l, 1) := by decide +kernel
theorem dL_ways_7 : decode cL_ways 7 = .ok (.lastore, 1) := by decide +kernel
theorem dL_ways_8 : decode cL_ways 8 = .ok (.goto 6, 3) := by decide +kernel
theorem dL_ways_11 : decode cL_ways 11 = .ok (.astore_n 2, 1) := by decide +kernel
theorem dL_ways_12 : decode cL_ways 12 = .ok (.iconst 1, 1) := by decide +kernel
theorem dL_ways_13 : decode cL_ways 13 = .ok (.ireturn, 1) := by decide +kernel
theorem dL_ways_14 : decode cL_ways 14 = .ok (.iconst 0, 1) := by decide +kernel
theorem dL_ways_15 : decode cL_ways 15 = .ok (.ireturn, 1) := by decide +kernel
theorem dL_about_0 : decode cL_about 0 = .ok (.aload_n 3, 1) := by decide +kernel
theorem dL_about_1 : decode cL_about 1 = .ok (.iconst 0, 1) := by decide +kernel
theorem dL_about_2 : decode cL_about 2 = .ok (.aload_n 0, 1) := by decide +kernel
theorem dL_about_3 : decode cL_about 3 = .ok (.iload_n 1, 1) := by decide +kernel
theorem dL_about_4 : decode cL_about 4 = .ok (.iload_n 2, 1) := by decide +kernel
theorem dL_about_5 : decode cL_about 5 = .ok (.invokevirtual 76, 3) := by decide +kernel
theorem dL_about_8 : decode cL_about 8 = .ok (.i2l, 1) := by decide +kernel
theorem dL_about_9 : decode cL_about 9 = .ok (.lastore, 1) := by decide +kernel
theorem dL_about_10 : decode cL_about 10 = .ok (.goto 7, 3) := by decide +kernel
theorem dL_about_13 : decode cL_about 13 = .ok (.astore 4, 2) := by decide +kernel
theorem dL_about_15 : decode cL_about 15 = .ok (.iconst 1, 1) := by decide +kernel
theorem dL_about_16 : decode cL_about 16 = .ok (.ireturn, 1) := by decide +kernel
theorem dL_about_17 : decode cL_about 17 = .ok (.iconst 0, 1) := by decide +kernel
theorem dL_about_18 : decode cL_about 18 = .ok (.ireturn, 1) := by decide +kernel
theorem dL_part_0 : decode cL_part 0 = .ok (.aload_n 3, 1) := by decide +kernel
theorem dL_part_1 : decode cL_part 1 = .ok (.iconst 0, 1) := by decide +kernel
theorem dL_part_2 : decode cL_part 2 = .ok (.aload_n 0, 1) := by decide +kernel
theorem dL_part_3 : decode cL_part 3 = .ok (.iload_n 1, 1) := by decide +kernel
theorem dL_part_4 : decode cL_part 4 = .ok (.iload_n 2, 1) := by decide +kernel
theorem dL_part_5 : decode cL_part 5 = .ok (.invokevirtual 80, 3) := by decide +kernel
theorem dL_part_8 : decode cL_part 8 = .ok (.i2l, 1) := by decide +kernel
theorem dL_part_9 : decode cL_part 9 = .ok (.lastore, 1) := by decide +kernel
theorem dL_part_10 : decode cL_part 10 = .ok (.goto 11, 3) := by decide +kernel
theorem dL_part_13 : decode cL_part 13 = .ok (.astore 4, 2) := by decide +kernel
theorem dL_part_15 : decode cL_part 15 = .ok (.iconst 1, 1) := by decide +kernel
theorem dL_part_16 : decode cL_part 16 = .ok (.ireturn, 1) := by decide +kernel
theorem dL_part_17 : decode cL_part 17 = .ok (.astore 4, 2) := by decide +kernel
theorem dL_part_19 : decode cL_part 19 = .ok (.iconst 2, 1) := by decide +kernel
theorem dL_part_20 : decode cL_part 20 = .ok (.ireturn, 1) := by decide +kernel
theorem dL_part_21 : decode cL_part 21 = .ok (.iconst 0, 1) := by decide +kernel
theorem dL_part_22 : decode cL_part 22 = .ok (.ireturn, 1) := by decide +kernel
theorem dL_alike_0 : decode cL_alike 0 = .ok (.aload_n 3, 1) := by decide +kernel
theorem dL_alike_1 : decode cL_alike 1 = .ok (.iconst 0, 1) := by decide +kernel
theorem dL_alike_2 : decode cL_alike 2 = .ok (.aload_n 0, 1) := by decide +kernel
theorem dL_alike_3 : decode cL_alike 3 = .ok (.iload_n 1, 1) := by decide +kernel
theorem dL_alike_4 : decode cL_alike 4 = .ok (.iload_n 2, 1) := by decide +kernel
theorem dL_alike_5 : decode cL_alike 5 = .ok (.invokevirtual 83, 3) := by decide +kernel
theorem dL_alike_8 : decode cL_alike 8 = .ok (.ifCond .eq 7, 3) := by decide +kernel
theorem dL_alike_11 : decode cL_alike 11 = .ok (.lconst 1, 1) := by decide +kernel
theorem dL_alike_12 : decode cL_alike 12 = .ok (.goto 4, 3) := by decide +kernel
theorem dL_alike_15 : decode cL_alike 15 = .ok (.lconst 0, 1) := by decide +kernel
theorem dL_alike_16 : decode cL_alike 16 = .ok (.lastore, 1) := by decide +kernel
theorem dL_alike_17 : decode cL_alike 17 = .ok (.goto 7, 3) := by decide +kernel
theorem dL_alike_20 : decode cL_alike 20 = .ok (.astore 4, 2) := by decide +kernel
theorem dL_alike_22 : decode cL_alike 22 = .ok (.iconst 1, 1) := by decide +kernel
theorem dL_alike_23 : decode cL_alike 23 = .ok (.ireturn, 1) := by decide +kernel
theorem dL_alike_24 : decode cL_alike 24 = .ok (.iconst 0, 1) := by decide +kernel
theorem dL_alike_25 : decode cL_alike 25 = .ok (.ireturn, 1) := by decide +kernel
theorem dL_predicate_0 : decode cL_predicate 0 = .ok (.aload_n 2, 1) := by decide +kernel
theorem dL_predicate_1 : decode cL_predicate 1 = .ok (.iconst 0, 1) := by decide +kernel
theorem dL_predicate_2 : decode cL_predicate 2 = .ok (.aload_n 0, 1) := by decide +kernel
theorem dL_predicate_3 : decode cL_predicate 3 = .ok (.iload_n 1, 1) := by decide +kernel
theorem dL_predicate_4 : decode cL_predicate 4 = .ok (.invokevirtual 7, 3) := by decide +kernel
theorem dL_predicate_7 : decode cL_predicate 7 = .ok (.i2l, 1) := by decide +kernel
theorem dL_predicate_8 : decode cL_predicate 8 = .ok (.lastore, 1) := by decide +kernel
theorem dL_predicate_9 : decode cL_predicate 9 = .ok (.goto 9, 3) := by decide +kernel
theorem dL_predicate_12 : decode cL_predicate 12 = .ok (.astore_n 3, 1) := by decide +kernel
theorem dL_predicate_13 : decode cL_predicate 13 = .ok (.iconst 1, 1) := by decide +kernel
theorem dL_predicate_14 : decode cL_predicate 14 = .ok (.ireturn, 1) := by decide +kernel
theorem dL_predicate_15 : decode cL_predicate 15 = .ok (.astore_n 3, 1) := by decide +kernel
theorem dL_predicate_16 : decode cL_predicate 16 = .ok (.iconst 2, 1) := by decide +kernel
theorem dL_predicate_17 : decode cL_predicate 17 = .ok (.ireturn, 1) := by decide +kernel
theorem dL_predicate_18 : decode cL_predicate 18 = .ok (.iconst 0, 1) := by decide +kernel
theorem dL_predicate_19 : decode cL_predicate 19 = .ok (.ireturn, 1) := by decide +kernel
theorem dL_locus_0 : decode cL_locus 0 = .ok (.aload_n 2, 1) := by decide +kernel
theorem dL_locus_1 : decode cL_locus 1 = .ok (.iconst 0, 1) := by decide +kernel
theorem dL_locus_2 : decode cL_locus 2 = .ok (.aload_n 0, 1) := by decide +kernel
theorem dL_locus_3 : decode cL_locus 3 = .ok (.iload_n 1, 1) := by decide +kernel
theorem dL_locus_4 : decode cL_locus 4 = .ok (.invokevirtual 25, 3) := by decide +kernel
theorem dL_locus_7 : decode cL_locus 7 = .ok (.i2l, 1) := by decide +kernel
theorem dL_locus_8 : decode cL_locus 8 = .ok (.lastore, 1) := by decide +kernel
theorem dL_locus_9 : decode cL_locus 9 = .ok (.goto 9, 3) := by decide +kernel
theorem dL_locus_12 : decode cL_locus 12 = .ok (.astore_n 3, 1) := by decide +kernel
theorem dL_locus_13 : decode cL_locus 13 = .ok (.iconst 1, 1) := by decide +kernel
theorem dL_locus_14 : decode cL_locus 14 = .ok (.ireturn, 1) := by decide +kernel
theorem dL_locus_15 : decode cL_locus 15 = .ok (.astore_n 3, 1) := by decide +kernel
theorem dL_locus_16 : decode cL_locus 16 = .ok (.iconst 2, 1) := by decide +kernel
theorem dL_locus_17 : decode cL_locus 17 = .ok (.ireturn, 1) := by decide +kernel
theorem dL_locus_18 : decode cL_locus 18 = .ok (.iconst 0, 1) := by decide +kernel
theorem dL_locus_19 : decode cL_locus 19 = .ok (.ireturn, 1) := by decide +kernel
theorem dL_join_0 : decode cL_join 0 = .ok (.aload 4, 2) := by decide +kernel
theorem dL_join_2 : decode cL_join 2 = .ok (.iconst 0, 1) := by decide +kernel
theorem dL_join_3 : decode cL_join 3 = .ok (.aload_n 0, 1) := by decide +kernel
theorem dL_join_4 : decode cL_join 4 = .ok (.iload_n 1, 1) := by decide +kernel
theorem dL_join_5 : decode cL_join 5 = .ok (.iload_n 2, 1) := by decide +kernel
theorem dL_join_6 : decode cL_join 6 = .ok (.iload_n 3, 1) := by decide +kernel
theorem dL_join_7 : decode cL_join 7 = .ok (.invokevirtual 32, 3) := by decide +kernel
theorem dL_join_10 : decode cL_join 10 = .ok (.i2l, 1) := by decide +kernel
theorem dL_join_11 : decode cL_join 11 = .ok (.lastore, 1) := by decide +kernel
theorem dL_join_12 : decode cL_join 12 = .ok (.goto 11, 3) := by decide +kernel
theorem dL_join_15 : decode cL_join 15 = .ok (.astore 5, 2) := by decide +kernel
theorem dL_join_17 : decode cL_join 17 = .ok (.iconst 1, 1) := by decide +kernel
theorem dL_join_18 : decode cL_join 18 = .ok (.ireturn, 1) := by decide +kernel
theorem dL_join_19 : decode cL_join 19 = .ok (.astore 5, 2) := by decide +kernel
theorem dL_join_21 : decode cL_join 21 = .ok (.iconst 2, 1) := by decide +kernel
theorem dL_join_22 : decode cL_join 22 = .ok (.ireturn, 1) := by decide +kernel
theorem dL_join_23 : decode cL_join 23 = .ok (.iconst 0, 1) := by decide +kernel
theorem dL_join_24 : decode cL_join 24 = .ok (.ireturn, 1) := by decide +kernel
theorem dL_count_0 : decode cL_count 0 = .ok (.aload_n 2, 1) := by decide +kernel
theorem dL_count_1 : decode cL_count 1 = .ok (.iconst 0, 1) := by decide +kernel
theorem dL_count_2 : decode cL_count 2 = .ok (.aload_n 0, 1) := by decide +kernel
theorem dL_count_3 : decode cL_count 3 = .ok (.iload_n 1, 1) := by decide +kernel
theorem dL_count_4 : decode cL_count 4 = .ok (.invokevirtual 86, 3) := by decide +kernel
theorem dL_count_7 : decode cL_count 7 = .ok (.i2l, 1) := by decide +kernel
theorem dL_count_8 : decode cL_count 8 = .ok (.lastore, 1) := by decide +kernel
theorem dL_count_9 : decode cL_count 9 = .ok (.goto 6, 3) := by decide +kernel
theorem dL_count_12 : decode cL_count 12 = .ok (.astore_n 3, 1) := by decide +kernel
theorem dL_count_13 : decode cL_count 13 = .ok (.iconst 1, 1) := by decide +kernel
theorem dL_count_14 : decode cL_count 14 = .ok (.ireturn, 1) := by decide +kernel
theorem dL_count_15 : decode cL_count 15 = .ok (.iconst 0, 1) := by decide +kernel
theorem dL_count_16 : decode cL_count 16 = .ok (.ireturn, 1) := by decide +kernel
theorem dL_constant_0 : decode cL_constant 0 = .ok (.aload_n 1, 1) := by decide +kernel
theorem dL_constant_1 : decode cL_constant 1 = .ok (.iconst 0, 1) := by decide +kernel
theorem dL_constant_2 : decode cL_constant 2 = .ok (.aload_n 0, 1) := by decide +kernel
theorem dL_constant_3 : decode cL_constant 3 = .ok (.invokevirtual 21, 3) := by decide +kernel
theorem dL_constant_6 : decode cL_constant 6 = .ok (.i2l, 1) := by decide +kernel
theorem dL_constant_7 : decode cL_constant 7 = .ok (.lastore, 1) := by decide +kernel
theorem dL_constant_8 : decode cL_constant 8 = .ok (.goto 6, 3) := by decide +kernel
theorem dL_constant_11 : decode cL_constant 11 = .ok (.astore_n 2, 1) := by decide +kernel
theorem dL_constant_12 : decode cL_constant 12 = .ok (.iconst 1, 1) := by decide +kernel
theorem dL_constant_13 : decode cL_constant 13 = .ok (.ireturn, 1) := by decide +kernel
theorem dL_constant_14 : decode cL_constant 14 = .ok (.iconst 0, 1) := by decide +kernel
theorem dL_constant_15 : decode cL_constant 15 = .ok (.ireturn, 1) := by decide +kernel
theorem dL_now_0 : decode cL_now 0 = .ok (.aload_n 1, 1) := by decide +kernel
theorem dL_now_1 : decode cL_now 1 = .ok (.iconst 0, 1) := by decide +kernel
theorem dL_now_2 : decode cL_now 2 = .ok (.aload_n 0, 1) := by decide +kernel
theorem dL_now_3 : decode cL_now 3 = .ok (.invokevirtual 42, 3) := by decide +kernel
theorem dL_now_6 : decode cL_now 6 = .ok (.i2l, 1) := by decide +kernel
theorem dL_now_7 : decode cL_now 7 = .ok (.lastore, 1) := by decide +kernel
theorem dL_now_8 : decode cL_now 8 = .ok (.goto 6, 3) := by decide +kernel
theorem dL_now_11 : decode cL_now 11 = .ok (.astore_n 2, 1) := by decide +kernel
theorem dL_now_12 : decode cL_now 12 = .ok (.iconst 1, 1) := by decide +kernel
theorem dL_now_13 : decode cL_now 13 = .ok (.ireturn, 1) := by decide +kernel
theorem dL_now_14 : decode cL_now 14 = .ok (.iconst 0, 1) := by decide +kernel
theorem dL_now_15 : decode cL_now 15 = .ok (.ireturn, 1) := by decide +kernel
theorem dX6_thrown_0 : decode cX6_thrown 0 = .ok (.aload_n 0, 1) := by decide +kernel
theorem dX6_thrown_1 : decode cX6_thrown 1 = .ok (.getfield 93, 3) := by decide +kernel
theorem dX6_thrown_4 : decode cX6_thrown 4 = .ok (.ireturn, 1) := by decide +kernel
theorem dL_law_0 : decode cL_law 0 = .ok (.new 8, 3) := by decide +kernel
theorem dL_law_3 : decode cL_law 3 = .ok (.dup, 1) := by decide +kernel
theorem dL_law_4 : decode cL_law 4 = .ok (.invokespecial 89, 3) := by decide +kernel
theorem dL_law_7 : decode cL_law 7 = .ok (.astore_n 1, 1) := by decide +kernel
theorem dL_law_8 : decode cL_law 8 = .ok (.new 90, 3) := by decide +kernel
theorem dL_law_11 : decode cL_law 11 = .ok (.dup, 1) := by decide +kernel
theorem dL_law_12 : decode cL_law 12 = .ok (.invokespecial 92, 3) := by decide +kernel
theorem dL_law_15 : decode cL_law 15 = .ok (.astore_n 2, 1) := by decide +kernel
theorem dL_law_16 : decode cL_law 16 = .ok (.iconst 1, 1) := by decide +kernel
theorem dL_law_17 : decode cL_law 17 = .ok (.newarray .long, 2) := by decide +kernel
theorem dL_law_19 : decode cL_law 19 = .ok (.astore_n 3, 1) := by decide +kernel
theorem dL_law_20 : decode cL_law 20 = .ok (.iconst 0, 1) := by decide +kernel
theorem dL_law_21 : decode cL_law 21 = .ok (.istore 4, 2) := by decide +kernel
theorem dL_law_23 : decode cL_law 23 = .ok (.iload 4, 2) := by decide +kernel
theorem dL_law_25 : decode cL_law 25 = .ok (.aload_n 0, 1) := by decide +kernel
theorem dL_law_26 : decode cL_law 26 = .ok (.arraylength, 1) := by decide +kernel
theorem dL_law_27 : decode cL_law 27 = .ok (.iconst 4, 1) := by decide +kernel
theorem dL_law_28 : decode cL_law 28 = .ok (.isub, 1) := by decide +kernel
theorem dL_law_29 : decode cL_law 29 = .ok (.if_icmp .gt 1512, 3) := by decide +kernel
theorem dL_law_32 : decode cL_law 32 = .ok (.aload_n 0, 1) := by decide +kernel
theorem dL_law_33 : decode cL_law 33 = .ok (.iload 4, 2) := by decide +kernel
theorem dL_law_35 : decode cL_law 35 = .ok (.iaload, 1) := by decide +kernel
theorem dL_law_36 : decode cL_law 36 = .ok (.bipush 31, 2) := by decide +kernel
theorem dL_law_38 : decode cL_law 38 = .ok (.iand, 1) := by decide +kernel
theorem dL_law_39 : decode cL_law 39 = .ok (.tableswitch 1496 0 23 #[109, 165, 240, 284, 340, 420, 500, 596, 652, 696, 740, 753, 816, 879, 942, 1017, 1041, 1097, 1141, 1185, 1229, 1297, 1365, 1440], 109) := by decide +kernel
theorem dL_law_148 : decode cL_law 148 = .ok (.aload_n 1, 1) := by decide +kernel
theorem dL_law_149 : decode cL_law 149 = .ok (.aload_n 0, 1) := by decide +kernel
theorem dL_law_150 : decode cL_law 150 = .ok (.iload 4, 2) := by decide +kernel
theorem dL_law_152 : decode cL_law 152 = .ok (.iconst 1, 1) := by decide +kernel
theorem dL_law_153 : decode cL_law 153 = .ok (.iadd, 1) := by decide +kernel
theorem dL_law_154 : decode cL_law 154 = .ok (.iaload, 1) := by decide +kernel
theorem dL_law_155 : decode cL_law 155 = .ok (.aload_n 3, 1) := by decide +kernel
theorem dL_law_156 : decode cL_law 156 = .ok (.invokestatic 93, 3) := by decide +kernel
theorem dL_law_159 : decode cL_law 159 = .ok (.istore 5, 2) := by decide +kernel
theorem dL_law_161 : decode cL_law 161 = .ok (.aload_n 2, 1) := by decide +kernel
theorem dL_law_162 : decode cL_law 162 = .ok (.aload_n 0, 1) := by decide +kernel
theorem dL_law_163 : decode cL_law 163 = .ok (.iload 4, 2) := by decide +kernel
theorem dL_law_165 : decode cL_law 165 = .ok (.iconst 1, 1) := by decide +kernel
theorem dL_law_166 : decode cL_law 166 = .ok (.iadd, 1) := by decide +kernel
theorem dL_law_167 : decode cL_law 167 = .ok (.iaload, 1) := by decide +kernel
theorem dL_law_168 : decode cL_law 168 = .ok (.invokevirtual 98, 3) := by decide +kernel
theorem dL_law_171 : decode cL_law 171 = .ok (.istore 6, 2) := by decide +kernel
theorem dL_law_173 : decode cL_law 173 = .ok (.aload_n 2, 1) := by decide +kernel
theorem dL_law_174 : decode cL_law 174 = .ok (.invokevirtual 99, 3) := by decide +kernel
theorem dL_law_177 : decode cL_law 177 = .ok (.iload 5, 2) := by decide +kernel
theorem dL_law_179 : decode cL_law 179 = .ok (.if_icmp .eq 5, 3) := by decide +kernel
theorem dL_law_182 : decode cL_law 182 = .ok (.iconst 0, 1) := by decide +kernel
theorem dL_law_183 : decode cL_law 183 = .ok (.ireturn, 1) := by decide +kernel
theorem dL_law_184 : decode cL_law 184 = .ok (.iload 5, 2) := by decide +kernel
theorem dL_law_186 : decode cL_law 186 = .ok (.ifCond .ne 15, 3) := by decide +kernel
theorem dL_law_189 : decode cL_law 189 = .ok (.aload_n 3, 1) := by decide +kernel
theorem dL_law_190 : decode cL_law 190 = .ok (.iconst 0, 1) := by decide +kernel
theorem dL_law_191 : decode cL_law 191 = .ok (.laload, 1) := by decide +kernel
theorem dL_law_192 : decode cL_law 192 = .ok (.iload 6, 2) := by decide +kernel
theorem dL_law_194 : decode cL_law 194 = .ok (.i2l, 1) := by decide +kernel
theorem dL_law_195 : decode cL_law 195 = .ok (.lcmp, 1) := by decide +kernel
theorem dL_law_196 : decode cL_law 196 = .ok (.ifCond .eq 5, 3) := by decide +kernel
theorem dL_law_199 : decode cL_law 199 = .ok (.iconst 0, 1) := by decide +kernel
theorem dL_law_200 : decode cL_law 200 = .ok (.ireturn, 1) := by decide +kernel
theorem dL_law_201 : decode cL_law 201 = .ok (.goto 1334, 3) := by decide +kernel
theorem dL_law_204 : decode cL_law 204 = .ok (.aload_n 1, 1) := by decide +kernel
theorem dL_law_205 : decode cL_law 205 = .ok (.aload_n 0, 1) := by decide +kernel
theorem dL_law_206 : decode cL_law 206 = .ok (.iload 4, 2) := by decide +kernel
theorem dL_law_208 : decode cL_law 208 = .ok (.iconst 1, 1) := by decide +kernel
theorem dL_law_209 : decode cL_law 209 = .ok (.iadd, 1) := by decide +kernel
theorem dL_law_210 : decode cL_law 210 = .ok (.iaload, 1) := by decide +kernel
theorem dL_law_211 : decode cL_law 211 = .ok (.aload_n 0, 1) := by decide +kernel
theorem dL_law_212 : decode cL_law 212 = .ok (.iload 4, 2) := by decide +kernel
theorem dL_law_214 : decode cL_law 214 = .ok (.iconst 2, 1) := by decide +kernel
theorem dL_law_215 : decode cL_law 215 = .ok (.iadd, 1) := by decide +kernel
theorem dL_law_216 : decode cL_law 216 = .ok (.iaload, 1) := by decide +kernel
theorem dL_law_217 : decode cL_law 217 = .ok (.aload_n 3, 1) := by decide +kernel
theorem dL_law_218 : decode cL_law 218 = .ok (.invokestatic 102, 3) := by decide +kernel
theorem dL_law_221 : decode cL_law 221 = .ok (.istore 5, 2) := by decide +kernel
theorem dL_law_223 : decode cL_law 223 = .ok (.aload_n 2, 1) := by decide +kernel
theorem dL_law_224 : decode cL_law 224 = .ok (.aload_n 0, 1) := by decide +kernel
theorem dL_law_225 : decode cL_law 225 = .ok (.iload 4, 2) := by decide +kernel
theorem dL_law_227 : decode cL_law 227 = .ok (.iconst 1, 1) := by decide +kernel
theorem dL_law_228 : decode cL_law 228 = .ok (.iadd, 1) := by decide +kernel
theorem dL_law_229 : decode cL_law 229 = .ok (.iaload, 1) := by decide +kernel
theorem dL_law_230 : decode cL_law 230 = .ok (.aload_n 0, 1) := by decide +kernel
theorem dL_law_231 : decode cL_law 231 = .ok (.iload 4, 2) := by decide +kernel
theorem dL_law_233 : decode cL_law 233 = .ok (.iconst 2, 1) := by decide +kernel
theorem dL_law_234 : decode cL_law 234 = .ok (.iadd, 1) := by decide +kernel
theorem dL_law_235 : decode cL_law 235 = .ok (.iaload, 1) := by decide +kernel
theorem dL_law_236 : decode cL_law 236 = .ok (.invokevirtual 105, 3) := by decide +kernel
theorem dL_law_239 : decode cL_law 239 = .ok (.istore 6, 2) := by decide +kernel
theorem dL_law_241 : decode cL_law 241 = .ok (.aload_n 2, 1) := by decide +kernel
theorem dL_law_242 : decode cL_law 242 = .ok (.invokevirtual 99, 3) := by decide +kernel
theorem dL_law_245 : decode cL_law 245 = .ok (.iload 5, 2) := by decide +kernel
theorem dL_law_247 : decode cL_law 247 = .ok (.if_icmp .eq 5, 3) := by decide +kernel
theorem dL_law_250 : decode cL_law 250 = .ok (.iconst 0, 1) := by decide +kernel
theorem dL_law_251 : decode cL_law 251 = .ok (.ireturn, 1) := by decide +kernel
theorem dL_law_252 : decode cL_law 252 = .ok (.iload 5, 2) := by decide +kernel
theorem dL_law_254 : decode cL_law 254 = .ok (.ifCond .ne 22, 3) := by decide +kernel
theorem dL_law_257 : decode cL_law 257 = .ok (.aload_n 3, 1) := by decide +kernel
theorem dL_law_258 : decode cL_law 258 = .ok (.iconst 0, 1) := by decide +kernel
theorem dL_law_259 : decode cL_law 259 = .ok (.laload, 1) := by decide +kernel
theorem dL_law_260 : decode cL_law 260 = .ok (.iload 6, 2) := by decide +kernel
theorem dL_law_262 : decode cL_law 262 = .ok (.ifCond .eq 7, 3) := by decide +kernel
theorem dL_law_265 : decode cL_law 265 = .ok (.lconst 1, 1) := by decide +kernel
theorem dL_law_266 : decode cL_law 266 = .ok (.goto 4, 3) := by decide +kernel
theorem dL_law_269 : decode cL_law 269 = .ok (.lconst 0, 1) := by decide +kernel
theorem dL_law_270 : decode cL_law 270 = .ok (.lcmp, 1) := by decide +kernel
theorem dL_law_271 : decode cL_law 271 = .ok (.ifCond .eq 5, 3) := by decide +kernel
theorem dL_law_274 : decode cL_law 274 = .ok (.iconst 0, 1) := by decide +kernel
theorem dL_law_275 : decode cL_law 275 = .ok (.ireturn, 1) := by decide +kernel
theorem dL_law_276 : decode cL_law 276 = .ok (.goto 1259, 3) := by decide +kernel
theorem dL_law_279 : decode cL_law 279 = .ok (.aload_n 1, 1) := by decide +kernel
theorem dL_law_280 : decode cL_law 280 = .ok (.aload_n 3, 1) := by decide +kernel
theorem dL_law_281 : decode cL_law 281 = .ok (.invokestatic 106, 3) := by decide +kernel
theorem dL_law_284 : decode cL_law 284 = .ok (.istore 5, 2) := by decide +kernel
theorem dL_law_286 : decode cL_law 286 = .ok (.aload_n 2, 1) := by decide +kernel
theorem dL_law_287 : decode cL_law 287 = .ok (.invokevirtual 109, 3) := by decide +kernel
theorem dL_law_290 : decode cL_law 290 = .ok (.istore 6, 2) := by decide +kernel
theorem dL_law_292 : decode cL_law 292 = .ok (.aload_n 2, 1) := by decide +kernel
theorem dL_law_293 : decode cL_law 293 = .ok (.invokevirtual 99, 3) := by decide +kernel
theorem dL_law_296 : decode cL_law 296 = .ok (.iload 5, 2) := by decide +kernel
theorem dL_law_298 : decode cL_law 298 = .ok (.if_icmp .eq 5, 3) := by decide +kernel
theorem dL_law_301 : decode cL_law 301 = .ok (.iconst 0, 1) := by decide +kernel
theorem dL_law_302 : decode cL_law 302 = .ok (.ireturn, 1) := by decide +kernel
theorem dL_law_303 : decode cL_law 303 = .ok (.iload 5, 2) := by decide +kernel
theorem dL_law_305 : decode cL_law 305 = .ok (.ifCond .ne 15, 3) := by decide +kernel
theorem dL_law_308 : decode cL_law 308 = .ok (.aload_n 3, 1) := by decide +kernel
theorem dL_law_309 : decode cL_law 309 = .ok (.iconst 0, 1) := by decide +kernel
theorem dL_law_310 : decode cL_law 310 = .ok (.laload, 1) := by decide +kernel
theorem dL_law_311 : decode cL_law 311 = .ok (.iload 6, 2) := by decide +kernel
theorem dL_law_313 : decode cL_law 313 = .ok (.i2l, 1) := by decide +kernel
theorem dL_law_314 : decode cL_law 314 = .ok (.lcmp, 1) := by decide +kernel
theorem dL_law_315 : decode cL_law 315 = .ok (.ifCond .eq 5, 3) := by decide +kernel
theorem dL_law_318 : decode cL_law 318 = .ok (.iconst 0, 1) := by decide +kernel
theorem dL_law_319 : decode cL_law 319 = .ok (.ireturn, 1) := by decide +kernel
theorem dL_law_320 : decode cL_law 320 = .ok (.goto 1215, 3) := by decide +kernel
theorem dL_law_323 : decode cL_law 323 = .ok (.aload_n 1, 1) := by decide +kernel
theorem dL_law_324 : decode cL_law 324 = .ok (.aload_n 0, 1) := by decide +kernel
theorem dL_law_325 : decode cL_law 325 = .ok (.iload 4, 2) := by decide +kernel
theorem dL_law_327 : decode cL_law 327 = .ok (.iconst 1, 1) := by decide +kernel
theorem dL_law_328 : decode cL_law 328 = .ok (.iadd, 1) := by decide +kernel
theorem dL_law_329 : decode cL_law 329 = .ok (.iaload, 1) := by decide +kernel
theorem dL_law_330 : decode cL_law 330 = .ok (.aload_n 3, 1) := by decide +kernel
theorem dL_law_331 : decode cL_law 331 = .ok (.invokestatic 110, 3) := by decide +kernel
theorem dL_law_334 : decode cL_law 334 = .ok (.istore 5, 2) := by decide +kernel
theorem dL_law_336 : decode cL_law 336 = .ok (.aload_n 2, 1) := by decide +kernel
theorem dL_law_337 : decode cL_law 337 = .ok (.aload_n 0, 1) := by decide +kernel
theorem dL_law_338 : decode cL_law 338 = .ok (.iload 4, 2) := by decide +kernel
theorem dL_law_340 : decode cL_law 340 = .ok (.iconst 1, 1) := by decide +kernel
theorem dL_law_341 : decode cL_law 341 = .ok (.iadd, 1) := by decide +kernel
theorem dL_law_342 : decode cL_law 342 = .ok (.iaload, 1) := by decide +kernel
theorem dL_law_343 : decode cL_law 343 = .ok (.invokevirtual 112, 3) := by decide +kernel
theorem dL_law_346 : decode cL_law 346 = .ok (.istore 6, 2) := by decide +kernel
theorem dL_law_348 : decode cL_law 348 = .ok (.aload_n 2, 1) := by decide +kernel
theorem dL_law_349 : decode cL_law 349 = .ok (.invokevirtual 99, 3) := by decide +kernel
theorem dL_law_352 : decode cL_law 352 = .ok (.iload 5, 2) := by decide +kernel
theorem dL_law_354 : decode cL_law 354 = .ok (.if_icmp .eq 5, 3) := by decide +kernel
theorem dL_law_357 : decode cL_law 357 = .ok (.iconst 0, 1) := by decide +kernel
theorem dL_law_358 : decode cL_law 358 = .ok (.ireturn, 1) := by decide +kernel
theorem dL_law_359 : decode cL_law 359 = .ok (.iload 5, 2) := by decide +kernel
theorem dL_law_361 : decode cL_law 361 = .ok (.ifCond .ne 15, 3) := by decide +kernel
theorem dL_law_364 : decode cL_law 364 = .ok (.aload_n 3, 1) := by decide +kernel
theorem dL_law_365 : decode cL_law 365 = .ok (.iconst 0, 1) := by decide +kernel
theorem dL_law_366 : decode cL_law 366 = .ok (.laload, 1) := by decide +kernel
theorem dL_law_367 : decode cL_law 367 = .ok (.iload 6, 2) := by decide +kernel
theorem dL_law_369 : decode cL_law 369 = .ok (.i2l, 1) := by decide +kernel
theorem dL_law_370 : decode cL_law 370 = .ok (.lcmp, 1) := by decide +kernel
theorem dL_law_371 : decode cL_law 371 = .ok (.ifCond .eq 5, 3) := by decide +kernel
theorem dL_law_374 : decode cL_law 374 = .ok (.iconst 0, 1) := by decide +kernel
theorem dL_law_375 : decode cL_law 375 = .ok (.ireturn, 1) := by decide +kernel
theorem dL_law_376 : decode cL_law 376 = .ok (.goto 1159, 3) := by decide +kernel
theorem dL_law_379 : decode cL_law 379 = .ok (.aload_n 1, 1) := by decide +kernel
theorem dL_law_380 : decode cL_law 380 = .ok (.aload_n 0, 1) := by decide +kernel
theorem dL_law_381 : decode cL_law 381 = .ok (.iload 4, 2) := by decide +kernel
theorem dL_law_383 : decode cL_law 383 = .ok (.iconst 1, 1) := by decide +kernel
theorem dL_law_384 : decode cL_law 384 = .ok (.iadd, 1) := by decide +kernel
theorem dL_law_385 : decode cL_law 385 = .ok (.iaload, 1) := by decide +kernel
theorem dL_law_386 : decode cL_law 386 = .ok (.aload_n 0, 1) := by decide +kernel
theorem dL_law_387 : decode cL_law 387 = .ok (.iload 4, 2) := by decide +kernel
theorem dL_law_389 : decode cL_law 389 = .ok (.iconst 2, 1) := by decide +kernel
theorem dL_law_390 : decode cL_law 390 = .ok (.iadd, 1) := by decide +kernel
theorem dL_law_391 : decode cL_law 391 = .ok (.iaload, 1) := by decide +kernel
theorem dL_law_392 : decode cL_law 392 = .ok (.aload_n 0, 1) := by decide +kernel
theorem dL_law_393 : decode cL_law 393 = .ok (.iload 4, 2) := by decide +kernel
theorem dL_law_395 : decode cL_law 395 = .ok (.iconst 3, 1) := by decide +kernel
theorem dL_law_396 : decode cL_law 396 = .ok (.iadd, 1) := by decide +kernel
theorem dL_law_397 : decode cL_law 397 = .ok (.iaload, 1) := by decide +kernel
theorem dL_law_398 : decode cL_law 398 = .ok (.aload_n 3, 1) := by decide +kernel
theorem dL_law_399 : decode cL_law 399 = .ok (.invokestatic 113, 3) := by decide +kernel
theorem dL_law_402 : decode cL_law 402 = .ok (.istore 5, 2) := by decide +kernel
theorem dL_law_404 : decode cL_law 404 = .ok (.aload_n 2, 1) := by decide +kernel
theorem dL_law_405 : decode cL_law 405 = .ok (.aload_n 0, 1) := by decide +kernel
theorem dL_law_406 : decode cL_law 406 = .ok (.iload 4, 2) := by decide +kernel
theorem dL_law_408 : decode cL_law 408 = .ok (.iconst 1, 1) := by decide +kernel
theorem dL_law_409 : decode cL_law 409 = .ok (.iadd, 1) := by decide +kernel
theorem dL_law_410 : decode cL_law 410 = .ok (.iaload, 1) := by decide +kernel
theorem dL_law_411 : decode cL_law 411 = .ok (.aload_n 0, 1) := by decide +kernel
theorem dL_law_412 : decode cL_law 412 = .ok (.iload 4, 2) := by decide +kernel
theorem dL_law_414 : decode cL_law 414 = .ok (.iconst 2, 1) := by decide +kernel
theorem dL_law_415 : decode cL_law 415 = .ok (.iadd, 1) := by decide +kernel
theorem dL_law_416 : decode cL_law 416 = .ok (.iaload, 1) := by decide +kernel
theorem dL_law_417 : decode cL_law 417 = .ok (.aload_n 0, 1) := by decide +kernel
theorem dL_law_418 : decode cL_law 418 = .ok (.iload 4, 2) := by decide +kernel
theorem dL_law_420 : decode cL_law 420 = .ok (.iconst 3, 1) := by decide +kernel
theorem dL_law_421 : decode cL_law 421 = .ok (.iadd, 1) := by decide +kernel
theorem dL_law_422 : decode cL_law 422 = .ok (.iaload, 1) := by decide +kernel
theorem dL_law_423 : decode cL_law 423 = .ok (.invokevirtual 116, 3) := by decide +kernel
theorem dL_law_426 : decode cL_law 426 = .ok (.istore 6, 2) := by decide +kernel
theorem dL_law_428 : decode cL_law 428 = .ok (.aload_n 2, 1) := by decide +kernel
theorem dL_law_429 : decode cL_law 429 = .ok (.invokevirtual 99, 3) := by decide +kernel
theorem dL_law_432 : decode cL_law 432 = .ok (.iload 5, 2) := by decide +kernel
theorem dL_law_434 : decode cL_law 434 = .ok (.if_icmp .eq 5, 3) := by decide +kernel
theorem dL_law_437 : decode cL_law 437 = .ok (.iconst 0, 1) := by decide +kernel
theorem dL_law_438 : decode cL_law 438 = .ok (.ireturn, 1) := by decide +kernel
theorem dL_law_439 : decode cL_law 439 = .ok (.iload 5, 2) := by decide +kernel
theorem dL_law_441 : decode cL_law 441 = .ok (.ifCond .ne 15, 3) := by decide +kernel
theorem dL_law_444 : decode cL_law 444 = .ok (.aload_n 3, 1) := by decide +kernel
theorem dL_law_445 : decode cL_law 445 = .ok (.iconst 0, 1) := by decide +kernel
theorem dL_law_446 : decode cL_law 446 = .ok (.laload, 1) := by decide +kernel
theorem dL_law_447 : decode cL_law 447 = .ok (.iload 6, 2) := by decide +kernel
theorem dL_law_449 : decode cL_law 449 = .ok (.i2l, 1) := by decide +kernel
theorem dL_law_450 : decode cL_law 450 = .ok (.lcmp, 1) := by decide +kernel
theorem dL_law_451 : decode cL_law 451 = .ok (.ifCond .eq 5, 3) := by decide +kernel
theorem dL_law_454 : decode cL_law 454 = .ok (.iconst 0, 1) := by decide +kernel
theorem dL_law_455 : decode cL_law 455 = .ok (.ireturn, 1) := by decide +kernel
theorem dL_law_456 : decode cL_law 456 = .ok (.goto 1079, 3) := by decide +kernel
theorem dL_law_459 : decode cL_law 459 = .ok (.aload_n 1, 1) := by decide +kernel
theorem dL_law_460 : decode cL_law 460 = .ok (.aload_n 0, 1) := by decide +kernel
theorem dL_law_461 : decode cL_law 461 = .ok (.iload 4, 2) := by decide +kernel
theorem dL_law_463 : decode cL_law 463 = .ok (.iconst 1, 1) := by decide +kernel
theorem dL_law_464 : decode cL_law 464 = .ok (.iadd, 1) := by decide +kernel
theorem dL_law_465 : decode cL_law 465 = .ok (.iaload, 1) := by decide +kernel
theorem dL_law_466 : decode cL_law 466 = .ok (.aload_n 0, 1) := by decide +kernel
theorem dL_law_467 : decode cL_law 467 = .ok (.iload 4, 2) := by decide +kernel
theorem dL_law_469 : decode cL_law 469 = .ok (.iconst 2, 1) := by decide +kernel
theorem dL_law_470 : decode cL_law 470 = .ok (.iadd, 1) := by decide +kernel
theorem dL_law_471 : decode cL_law 471 = .ok (.iaload, 1) := by decide +kernel
theorem dL_law_472 : decode cL_law 472 = .ok (.aload_n 0, 1) := by decide +kernel
theorem dL_law_473 : decode cL_law 473 = .ok (.iload 4, 2) := by decide +kernel
theorem dL_law_475 : decode cL_law 475 = .ok (.iconst 3, 1) := by decide +kernel
theorem dL_law_476 : decode cL_law 476 = .ok (.iadd, 1) := by decide +kernel
theorem dL_law_477 : decode cL_law 477 = .ok (.iaload, 1) := by decide +kernel
theorem dL_law_478 : decode cL_law 478 = .ok (.aload_n 3, 1) := by decide +kernel
theorem dL_law_479 : decode cL_law 479 = .ok (.invokestatic 117, 3) := by decide +kernel
theorem dL_law_482 : decode cL_law 482 = .ok (.istore 5, 2) := by decide +kernel
theorem dL_law_484 : decode cL_law 484 = .ok (.aload_n 2, 1) := by decide +kernel
theorem dL_law_485 : decode cL_law 485 = .ok (.aload_n 0, 1) := by decide +kernel
theorem dL_law_486 : decode cL_law 486 = .ok (.iload 4, 2) := by decide +kernel
theorem dL_law_488 : decode cL_law 488 = .ok (.iconst 1, 1) := by decide +kernel
theorem dL_law_489 : decode cL_law 489 = .ok (.iadd, 1) := by decide +kernel
theorem dL_law_490 : decode cL_law 490 = .ok (.iaload, 1) := by decide +kernel
theorem dL_law_491 : decode cL_law 491 = .ok (.aload_n 0, 1) := by decide +kernel
theorem dL_law_492 : decode cL_law 492 = .ok (.iload 4, 2) := by decide +kernel
theorem dL_law_494 : decode cL_law 494 = .ok (.iconst 2, 1) := by decide +kernel
theorem dL_law_495 : decode cL_law 495 = .ok (.iadd, 1) := by decide +kernel
theorem dL_law_496 : decode cL_law 496 = .ok (.iaload, 1) := by decide +kernel
theorem dL_law_497 : decode cL_law 497 = .ok (.aload_n 0, 1) := by decide +kernel
theorem dL_law_498 : decode cL_law 498 = .ok (.iload 4, 2) := by decide +kernel
theorem dL_law_500 : decode cL_law 500 = .ok (.iconst 3, 1) := by decide +kernel
theorem dL_law_501 : decode cL_law 501 = .ok (.iadd, 1) := by decide +kernel
theorem dL_law_502 : decode cL_law 502 = .ok (.iaload, 1) := by decide +kernel
theorem dL_law_503 : decode cL_law 503 = .ok (.invokevirtual 119, 3) := by decide +kernel
theorem dL_law_506 : decode cL_law 506 = .ok (.istore 6, 2) := by decide +kernel
theorem dL_law_508 : decode cL_law 508 = .ok (.aload_n 2, 1) := by decide +kernel
theorem dL_law_509 : decode cL_law 509 = .ok (.invokevirtual 99, 3) := by decide +kernel
theorem dL_law_512 : decode cL_law 512 = .ok (.iload 5, 2) := by decide +kernel
theorem dL_law_514 : decode cL_law 514 = .ok (.if_icmp .eq 5, 3) := by decide +kernel
theorem dL_law_517 : decode cL_law 517 = .ok (.iconst 0, 1) := by decide +kernel
theorem dL_law_518 : decode cL_law 518 = .ok (.ireturn, 1) := by decide +kernel
theorem dL_law_519 : decode cL_law 519 = .ok (.iload 5, 2) := by decide +kernel
theorem dL_law_521 : decode cL_law 521 = .ok (.ifCond .ne 15, 3) := by decide +kernel
theorem dL_law_524 : decode cL_law 524 = .ok (.aload_n 3, 1) := by decide +kernel
theorem dL_law_525 : decode cL_law 525 = .ok (.iconst 0, 1) := by decide +kernel
theorem dL_law_526 : decode cL_law 526 = .ok (.laload, 1) := by decide +kernel
theorem dL_law_527 : decode cL_law 527 = .ok (.iload 6, 2) := by decide +kernel
theorem dL_law_529 : decode cL_law 529 = .ok (.i2l, 1) := by decide +kernel
theorem dL_law_530 : decode cL_law 530 = .ok (.lcmp, 1) := by decide +kernel
theorem dL_law_531 : decode cL_law 531 = .ok (.ifCond .eq 5, 3) := by decide +kernel
theorem dL_law_534 : decode cL_law 534 = .ok (.iconst 0, 1) := by decide +kernel
theorem dL_law_535 : decode cL_law 535 = .ok (.ireturn, 1) := by decide +kernel
theorem dL_law_536 : decode cL_law 536 = .ok (.goto 999, 3) := by decide +kernel
theorem dL_law_539 : decode cL_law 539 = .ok (.aload_n 1, 1) := by decide +kernel
theorem dL_law_540 : decode cL_law 540 = .ok (.aload_n 0, 1) := by decide +kernel
theorem dL_law_541 : decode cL_law 541 = .ok (.iload 4, 2) := by decide +kernel
theorem dL_law_543 : decode cL_law 543 = .ok (.iconst 1, 1) := by decide +kernel
theorem dL_law_544 : decode cL_law 544 = .ok (.iadd, 1) := by decide +kernel
theorem dL_law_545 : decode cL_law 545 = .ok (.iaload, 1) := by decide +kernel
theorem dL_law_546 : decode cL_law 546 = .ok (.ifCond .eq 7, 3) := by decide +kernel
theorem dL_law_549 : decode cL_law 549 = .ok (.iconst 1, 1) := by decide +kernel
theorem dL_law_550 : decode cL_law 550 = .ok (.goto 4, 3) := by decide +kernel
theorem dL_law_553 : decode cL_law 553 = .ok (.iconst 0, 1) := by decide +kernel
theorem dL_law_554 : decode cL_law 554 = .ok (.aload_n 0, 1) := by decide +kernel
theorem dL_law_555 : decode cL_law 555 = .ok (.iload 4, 2) := by decide +kernel
theorem dL_law_557 : decode cL_law 557 = .ok (.iconst 2, 1) := by decide +kernel
theorem dL_law_558 : decode cL_law 558 = .ok (.iadd, 1) := by decide +kernel
theorem dL_law_559 : decode cL_law 559 = .ok (.iaload, 1) := by decide +kernel
theorem dL_law_560 : decode cL_law 560 = .ok (.aload_n 0, 1) := by decide +kernel
theorem dL_law_561 : decode cL_law 561 = .ok (.iload 4, 2) := by decide +kernel
theorem dL_law_563 : decode cL_law 563 = .ok (.iconst 3, 1) := by decide +kernel
theorem dL_law_564 : decode cL_law 564 = .ok (.iadd, 1) := by decide +kernel
theorem dL_law_565 : decode cL_law 565 = .ok (.iaload, 1) := by decide +kernel
theorem dL_law_566 : decode cL_law 566 = .ok (.aload_n 3, 1) := by decide +kernel
theorem dL_law_567 : decode cL_law 567 = .ok (.invokestatic 120, 3) := by decide +kernel
theorem dL_law_570 : decode cL_law 570 = .ok (.istore 5, 2) := by decide +kernel
theorem dL_law_572 : decode cL_law 572 = .ok (.aload_n 2, 1) := by decide +kernel
theorem dL_law_573 : decode cL_law 573 = .ok (.aload_n 0, 1) := by decide +kernel
theorem dL_law_574 : decode cL_law 574 = .ok (.iload 4, 2) := by decide +kernel
theorem dL_law_576 : decode cL_law 576 = .ok (.iconst 1, 1) := by decide +kernel
theorem dL_law_577 : decode cL_law 577 = .ok (.iadd, 1) := by decide +kernel
theorem dL_law_578 : decode cL_law 578 = .ok (.iaload, 1) := by decide +kernel
theorem dL_law_579 : decode cL_law 579 = .ok (.ifCond .eq 7, 3) := by decide +kernel
theorem dL_law_582 : decode cL_law 582 = .ok (.iconst 1, 1) := by decide +kernel
theorem dL_law_583 : decode cL_law 583 = .ok (.goto 4, 3) := by decide +kernel
theorem dL_law_586 : decode cL_law 586 = .ok (.iconst 0, 1) := by decide +kernel
theorem dL_law_587 : decode cL_law 587 = .ok (.aload_n 0, 1) := by decide +kernel
theorem dL_law_588 : decode cL_law 588 = .ok (.iload 4, 2) := by decide +kernel
theorem dL_law_590 : decode cL_law 590 = .ok (.iconst 2, 1) := by decide +kernel
theorem dL_law_591 : decode cL_law 591 = .ok (.iadd, 1) := by decide +kernel
theorem dL_law_592 : decode cL_law 592 = .ok (.iaload, 1) := by decide +kernel
theorem dL_law_593 : decode cL_law 593 = .ok (.aload_n 0, 1) := by decide +kernel
theorem dL_law_594 : decode cL_law 594 = .ok (.iload 4, 2) := by decide +kernel
theorem dL_law_596 : decode cL_law 596 = .ok (.iconst 3, 1) := by decide +kernel
theorem dL_law_597 : decode cL_law 597 = .ok (.iadd, 1) := by decide +kernel
theorem dL_law_598 : decode cL_law 598 = .ok (.iaload, 1) := by decide +kernel
theorem dL_law_599 : decode cL_law 599 = .ok (.invokevirtual 123, 3) := by decide +kernel
theorem dL_law_602 : decode cL_law 602 = .ok (.istore 6, 2) := by decide +kernel
theorem dL_law_604 : decode cL_law 604 = .ok (.aload_n 2, 1) := by decide +kernel
theorem dL_law_605 : decode cL_law 605 = .ok (.invokevirtual 99, 3) := by decide +kernel
theorem dL_law_608 : decode cL_law 608 = .ok (.iload 5, 2) := by decide +kernel
theorem dL_law_610 : decode cL_law 610 = .ok (.if_icmp .eq 5, 3) := by decide +kernel
theorem dL_law_613 : decode cL_law 613 = .ok (.iconst 0, 1) := by decide +kernel
theorem dL_law_614 : decode cL_law 614 = .ok (.ireturn, 1) := by decide +kernel
theorem dL_law_615 : decode cL_law 615 = .ok (.iload 5, 2) := by decide +kernel
theorem dL_law_617 : decode cL_law 617 = .ok (.ifCond .ne 15, 3) := by decide +kernel
theorem dL_law_620 : decode cL_law 620 = .ok (.aload_n 3, 1) := by decide +kernel
theorem dL_law_621 : decode cL_law 621 = .ok (.iconst 0, 1) := by decide +kernel
theorem dL_law_622 : decode cL_law 622 = .ok (.laload, 1) := by decide +kernel
theorem dL_law_623 : decode cL_law 623 = .ok (.iload 6, 2) := by decide +kernel
theorem dL_law_625 : decode cL_law 625 = .ok (.i2l, 1) := by decide +kernel
theorem dL_law_626 : decode cL_law 626 = .ok (.lcmp, 1) := by decide +kernel
theorem dL_law_627 : decode cL_law 627 = .ok (.ifCond .eq 5, 3) := by decide +kernel
theorem dL_law_630 : decode cL_law 630 = .ok (.iconst 0, 1) := by decide +kernel
theorem dL_law_631 : decode cL_law 631 = .ok (.ireturn, 1) := by decide +kernel
theorem dL_law_632 : decode cL_law 632 = .ok (.goto 903, 3) := by decide +kernel
theorem dL_law_635 : decode cL_law 635 = .ok (.aload_n 1, 1) := by decide +kernel
theorem dL_law_636 : decode cL_law 636 = .ok (.aload_n 0, 1) := by decide +kernel
theorem dL_law_637 : decode cL_law 637 = .ok (.iload 4, 2) := by decide +kernel
theorem dL_law_639 : decode cL_law 639 = .ok (.iconst 1, 1) := by decide +kernel
theorem dL_law_640 : decode cL_law 640 = .ok (.iadd, 1) := by decide +kernel
theorem dL_law_641 : decode cL_law 641 = .ok (.iaload, 1) := by decide +kernel
theorem dL_law_642 : decode cL_law 642 = .ok (.aload_n 3, 1) := by decide +kernel
theorem dL_law_643 : decode cL_law 643 = .ok (.invokestatic 124, 3) := by decide +kernel
theorem dL_law_646 : decode cL_law 646 = .ok (.istore 5, 2) := by decide +kernel
theorem dL_law_648 : decode cL_law 648 = .ok (.aload_n 2, 1) := by decide +kernel
theorem dL_law_649 : decode cL_law 649 = .ok (.aload_n 0, 1) := by decide +kernel
theorem dL_law_650 : decode cL_law 650 = .ok (.iload 4, 2) := by decide +kernel
theorem dL_law_652 : decode cL_law 652 = .ok (.iconst 1, 1) := by decide +kernel
theorem dL_law_653 : decode cL_law 653 = .ok (.iadd, 1) := by decide +kernel
theorem dL_law_654 : decode cL_law 654 = .ok (.iaload, 1) := by decide +kernel
theorem dL_law_655 : decode cL_law 655 = .ok (.invokevirtual 126, 3) := by decide +kernel
theorem dL_law_658 : decode cL_law 658 = .ok (.istore 6, 2) := by decide +kernel
theorem dL_law_660 : decode cL_law 660 = .ok (.aload_n 2, 1) := by decide +kernel
theorem dL_law_661 : decode cL_law 661 = .ok (.invokevirtual 99, 3) := by decide +kernel
theorem dL_law_664 : decode cL_law 664 = .ok (.iload 5, 2) := by decide +kernel
theorem dL_law_666 : decode cL_law 666 = .ok (.if_icmp .eq 5, 3) := by decide +kernel
theorem dL_law_669 : decode cL_law 669 = .ok (.iconst 0, 1) := by decide +kernel
theorem dL_law_670 : decode cL_law 670 = .ok (.ireturn, 1) := by decide +kernel
theorem dL_law_671 : decode cL_law 671 = .ok (.iload 5, 2) := by decide +kernel
theorem dL_law_673 : decode cL_law 673 = .ok (.ifCond .ne 15, 3) := by decide +kernel
theorem dL_law_676 : decode cL_law 676 = .ok (.aload_n 3, 1) := by decide +kernel
theorem dL_law_677 : decode cL_law 677 = .ok (.iconst 0, 1) := by decide +kernel
theorem dL_law_678 : decode cL_law 678 = .ok (.laload, 1) := by decide +kernel
theorem dL_law_679 : decode cL_law 679 = .ok (.iload 6, 2) := by decide +kernel
theorem dL_law_681 : decode cL_law 681 = .ok (.i2l, 1) := by decide +kernel
theorem dL_law_682 : decode cL_law 682 = .ok (.lcmp, 1) := by decide +kernel
theorem dL_law_683 : decode cL_law 683 = .ok (.ifCond .eq 5, 3) := by decide +kernel
theorem dL_law_686 : decode cL_law 686 = .ok (.iconst 0, 1) := by decide +kernel
theorem dL_law_687 : decode cL_law 687 = .ok (.ireturn, 1) := by decide +kernel
theorem dL_law_688 : decode cL_law 688 = .ok (.goto 847, 3) := by decide +kernel
theorem dL_law_691 : decode cL_law 691 = .ok (.aload_n 1, 1) := by decide +kernel
theorem dL_law_692 : decode cL_law 692 = .ok (.aload_n 3, 1) := by decide +kernel
theorem dL_law_693 : decode cL_law 693 = .ok (.invokestatic 127, 3) := by decide +kernel
theorem dL_law_696 : decode cL_law 696 = .ok (.istore 5, 2) := by decide +kernel
theorem dL_law_698 : decode cL_law 698 = .ok (.aload_n 2, 1) := by decide +kernel
theorem dL_law_699 : decode cL_law 699 = .ok (.invokevirtual 129, 3) := by decide +kernel
theorem dL_law_702 : decode cL_law 702 = .ok (.istore 6, 2) := by decide +kernel
theorem dL_law_704 : decode cL_law 704 = .ok (.aload_n 2, 1) := by decide +kernel
theorem dL_law_705 : decode cL_law 705 = .ok (.invokevirtual 99, 3) := by decide +kernel
theorem dL_law_708 : decode cL_law 708 = .ok (.iload 5, 2) := by decide +kernel
theorem dL_law_710 : decode cL_law 710 = .ok (.if_icmp .eq 5, 3) := by decide +kernel
theorem dL_law_713 : decode cL_law 713 = .ok (.iconst 0, 1) := by decide +kernel
theorem dL_law_714 : decode cL_law 714 = .ok (.ireturn, 1) := by decide +kernel
theorem dL_law_715 : decode cL_law 715 = .ok (.iload 5, 2) := by decide +kernel
theorem dL_law_717 : decode cL_law 717 = .ok (.ifCond .ne 15, 3) := by decide +kernel
theorem dL_law_720 : decode cL_law 720 = .ok (.aload_n 3, 1) := by decide +kernel
theorem dL_law_721 : decode cL_law 721 = .ok (.iconst 0, 1) := by decide +kernel
theorem dL_law_722 : decode cL_law 722 = .ok (.laload, 1) := by decide +kernel
theorem dL_law_723 : decode cL_law 723 = .ok (.iload 6, 2) := by decide +kernel
theorem dL_law_725 : decode cL_law 725 = .ok (.i2l, 1) := by decide +kernel
theorem dL_law_726 : decode cL_law 726 = .ok (.lcmp, 1) := by decide +kernel
theorem dL_law_727 : decode cL_law 727 = .ok (.ifCond .eq 5, 3) := by decide +kernel
theorem dL_law_730 : decode cL_law 730 = .ok (.iconst 0, 1) := by decide +kernel
theorem dL_law_731 : decode cL_law 731 = .ok (.ireturn, 1) := by decide +kernel
theorem dL_law_732 : decode cL_law 732 = .ok (.goto 803, 3) := by decide +kernel
theorem dL_law_735 : decode cL_law 735 = .ok (.aload_n 1, 1) := by decide +kernel
theorem dL_law_736 : decode cL_law 736 = .ok (.aload_n 3, 1) := by decide +kernel
theorem dL_law_737 : decode cL_law 737 = .ok (.invokestatic 130, 3) := by decide +kernel
theorem dL_law_740 : decode cL_law 740 = .ok (.istore 5, 2) := by decide +kernel
theorem dL_law_742 : decode cL_law 742 = .ok (.aload_n 2, 1) := by decide +kernel
theorem dL_law_743 : decode cL_law 743 = .ok (.invokevirtual 132, 3) := by decide +kernel
theorem dL_law_746 : decode cL_law 746 = .ok (.istore 6, 2) := by decide +kernel
theorem dL_law_748 : decode cL_law 748 = .ok (.aload_n 2, 1) := by decide +kernel
theorem dL_law_749 : decode cL_law 749 = .ok (.invokevirtual 99, 3) := by decide +kernel
theorem dL_law_752 : decode cL_law 752 = .ok (.iload 5, 2) := by decide +kernel
theorem dL_law_754 : decode cL_law 754 = .ok (.if_icmp .eq 5, 3) := by decide +kernel
theorem dL_law_757 : decode cL_law 757 = .ok (.iconst 0, 1) := by decide +kernel
theorem dL_law_758 : decode cL_law 758 = .ok (.ireturn, 1) := by decide +kernel
theorem dL_law_759 : decode cL_law 759 = .ok (.iload 5, 2) := by decide +kernel
theorem dL_law_761 : decode cL_law 761 = .ok (.ifCond .ne 15, 3) := by decide +kernel
theorem dL_law_764 : decode cL_law 764 = .ok (.aload_n 3, 1) := by decide +kernel
theorem dL_law_765 : decode cL_law 765 = .ok (.iconst 0, 1) := by decide +kernel
theorem dL_law_766 : decode cL_law 766 = .ok (.laload, 1) := by decide +kernel
theorem dL_law_767 : decode cL_law 767 = .ok (.iload 6, 2) := by decide +kernel
theorem dL_law_769 : decode cL_law 769 = .ok (.i2l, 1) := by decide +kernel
theorem dL_law_770 : decode cL_law 770 = .ok (.lcmp, 1) := by decide +kernel
theorem dL_law_771 : decode cL_law 771 = .ok (.ifCond .eq 5, 3) := by decide +kernel
theorem dL_law_774 : decode cL_law 774 = .ok (.iconst 0, 1) := by decide +kernel
theorem dL_law_775 : decode cL_law 775 = .ok (.ireturn, 1) := by decide +kernel
theorem dL_law_776 : decode cL_law 776 = .ok (.goto 759, 3) := by decide +kernel
theorem dL_law_779 : decode cL_law 779 = .ok (.aload_n 1, 1) := by decide +kernel
theorem dL_law_780 : decode cL_law 780 = .ok (.invokevirtual 133, 3) := by decide +kernel
theorem dL_law_783 : decode cL_law 783 = .ok (.aload_n 2, 1) := by decide +kernel
theorem dL_law_784 : decode cL_law 784 = .ok (.invokevirtual 137, 3) := by decide +kernel
theorem dL_law_787 : decode cL_law 787 = .ok (.if_icmp .eq 748, 3) := by decide +kernel
theorem dL_law_790 : decode cL_law 790 = .ok (.iconst 0, 1) := by decide +kernel
theorem dL_law_791 : decode cL_law 791 = .ok (.ireturn, 1) := by decide +kernel
theorem dL_law_792 : decode cL_law 792 = .ok (.aload_n 1, 1) := by decide +kernel
theorem dL_law_793 : decode cL_law 793 = .ok (.aload_n 0, 1) := by decide +kernel
theorem dL_law_794 : decode cL_law 794 = .ok (.iload 4, 2) := by decide +kernel
theorem dL_law_796 : decode cL_law 796 = .ok (.iconst 1, 1) := by decide +kernel
theorem dL_law_797 : decode cL_law 797 = .ok (.iadd, 1) := by decide +kernel
theorem dL_law_798 : decode cL_law 798 = .ok (.iaload, 1) := by decide +kernel
theorem dL_law_799 : decode cL_law 799 = .ok (.aload_n 3, 1) := by decide +kernel
theorem dL_law_800 : decode cL_law 800 = .ok (.invokestatic 138, 3) := by decide +kernel
theorem dL_law_803 : decode cL_law 803 = .ok (.istore 5, 2) := by decide +kernel
theorem dL_law_805 : decode cL_law 805 = .ok (.aload_n 2, 1) := by decide +kernel
theorem dL_law_806 : decode cL_law 806 = .ok (.aload_n 0, 1) := by decide +kernel
theorem dL_law_807 : decode cL_law 807 = .ok (.iload 4, 2) := by decide +kernel
theorem dL_law_809 : decode cL_law 809 = .ok (.iconst 1, 1) := by decide +kernel
theorem dL_law_810 : decode cL_law 810 = .ok (.iadd, 1) := by decide +kernel
theorem dL_law_811 : decode cL_law 811 = .ok (.iaload, 1) := by decide +kernel
theorem dL_law_812 : decode cL_law 812 = .ok (.invokevirtual 140, 3) := by decide +kernel
theorem dL_law_815 : decode cL_law 815 = .ok (.istore 6, 2) := by decide +kernel
theorem dL_law_817 : decode cL_law 817 = .ok (.aload_n 2, 1) := by decide +kernel
theorem dL_law_818 : decode cL_law 818 = .ok (.invokevirtual 99, 3) := by decide +kernel
theorem dL_law_821 : decode cL_law 821 = .ok (.iload 5, 2) := by decide +kernel
theorem dL_law_823 : decode cL_law 823 = .ok (.if_icmp .eq 5, 3) := by decide +kernel
theorem dL_law_826 : decode cL_law 826 = .ok (.iconst 0, 1) := by decide +kernel
theorem dL_law_827 : decode cL_law 827 = .ok (.ireturn, 1) := by decide +kernel
theorem dL_law_828 : decode cL_law 828 = .ok (.iload 5, 2) := by decide +kernel
theorem dL_law_830 : decode cL_law 830 = .ok (.ifCond .ne 22, 3) := by decide +kernel
theorem dL_law_833 : decode cL_law 833 = .ok (.aload_n 3, 1) := by decide +kernel
theorem dL_law_834 : decode cL_law 834 = .ok (.iconst 0, 1) := by decide +kernel
theorem dL_law_835 : decode cL_law 835 = .ok (.laload, 1) := by decide +kernel
theorem dL_law_836 : decode cL_law 836 = .ok (.iload 6, 2) := by decide +kernel
theorem dL_law_838 : decode cL_law 838 = .ok (.ifCond .eq 7, 3) := by decide +kernel
theorem dL_law_841 : decode cL_law 841 = .ok (.lconst 1, 1) := by decide +kernel
theorem dL_law_842 : decode cL_law 842 = .ok (.goto 4, 3) := by decide +kernel
theorem dL_law_845 : decode cL_law 845 = .ok (.lconst 0, 1) := by decide +kernel
theorem dL_law_846 : decode cL_law 846 = .ok (.lcmp, 1) := by decide +kernel
theorem dL_law_847 : decode cL_law 847 = .ok (.ifCond .eq 5, 3) := by decide +kernel
theorem dL_law_850 : decode cL_law 850 = .ok (.iconst 0, 1) := by decide +kernel
theorem dL_law_851 : decode cL_law 851 = .ok (.ireturn, 1) := by decide +kernel
theorem dL_law_852 : decode cL_law 852 = .ok (.goto 683, 3) := by decide +kernel
theorem dL_law_855 : decode cL_law 855 = .ok (.aload_n 1, 1) := by decide +kernel
theorem dL_law_856 : decode cL_law 856 = .ok (.aload_n 0, 1) := by decide +kernel
theorem dL_law_857 : decode cL_law 857 = .ok (.iload 4, 2) := by decide +kernel
theorem dL_law_859 : decode cL_law 859 = .ok (.iconst 1, 1) := by decide +kernel
theorem dL_law_860 : decode cL_law 860 = .ok (.iadd, 1) := by decide +kernel
theorem dL_law_861 : decode cL_law 861 = .ok (.iaload, 1) := by decide +kernel
theorem dL_law_862 : decode cL_law 862 = .ok (.aload_n 3, 1) := by decide +kernel
theorem dL_law_863 : decode cL_law 863 = .ok (.invokestatic 141, 3) := by decide +kernel
theorem dL_law_866 : decode cL_law 866 = .ok (.istore 5, 2) := by decide +kernel
theorem dL_law_868 : decode cL_law 868 = .ok (.aload_n 2, 1) := by decide +kernel
theorem dL_law_869 : decode cL_law 869 = .ok (.aload_n 0, 1) := by decide +kernel
theorem dL_law_870 : decode cL_law 870 = .ok (.iload 4, 2) := by decide +kernel
theorem dL_law_872 : decode cL_law 872 = .ok (.iconst 1, 1) := by decide +kernel
theorem dL_law_873 : decode cL_law 873 = .ok (.iadd, 1) := by decide +kernel
theorem dL_law_874 : decode cL_law 874 = .ok (.iaload, 1) := by decide +kernel
theorem dL_law_875 : decode cL_law 875 = .ok (.invokevirtual 143, 3) := by decide +kernel
theorem dL_law_878 : decode cL_law 878 = .ok (.istore 6, 2) := by decide +kernel
theorem dL_law_880 : decode cL_law 880 = .ok (.aload_n 2, 1) := by decide +kernel
theorem dL_law_881 : decode cL_law 881 = .ok (.invokevirtual 99, 3) := by decide +kernel
theorem dL_law_884 : decode cL_law 884 = .ok (.iload 5, 2) := by decide +kernel
theorem dL_law_886 : decode cL_law 886 = .ok (.if_icmp .eq 5, 3) := by decide +kernel
theorem dL_law_889 : decode cL_law 889 = .ok (.iconst 0, 1) := by decide +kernel
theorem dL_law_890 : decode cL_law 890 = .ok (.ireturn, 1) := by decide +kernel
theorem dL_law_891 : decode cL_law 891 = .ok (.iload 5, 2) := by decide +kernel
theorem dL_law_893 : decode cL_law 893 = .ok (.ifCond .ne 22, 3) := by decide +kernel
theorem dL_law_896 : decode cL_law 896 = .ok (.aload_n 3, 1) := by decide +kernel
theorem dL_law_897 : decode cL_law 897 = .ok (.iconst 0, 1) := by decide +kernel
theorem dL_law_898 : decode cL_law 898 = .ok (.laload, 1) := by decide +kernel
theorem dL_law_899 : decode cL_law 899 = .ok (.iload 6, 2) := by decide +kernel
theorem dL_law_901 : decode cL_law 901 = .ok (.ifCond .eq 7, 3) := by decide +kernel
theorem dL_law_904 : decode cL_law 904 = .ok (.lconst 1, 1) := by decide +kernel
theorem dL_law_905 : decode cL_law 905 = .ok (.goto 4, 3) := by decide +kernel
theorem dL_law_908 : decode cL_law 908 = .ok (.lconst 0, 1) := by decide +kernel
theorem dL_law_909 : decode cL_law 909 = .ok (.lcmp, 1) := by decide +kernel
theorem dL_law_910 : decode cL_law 910 = .ok (.ifCond .eq 5, 3) := by decide +kernel
theorem dL_law_913 : decode cL_law 913 = .ok (.iconst 0, 1) := by decide +kernel
theorem dL_law_914 : decode cL_law 914 = .ok (.ireturn, 1) := by decide +kernel
theorem dL_law_915 : decode cL_law 915 = .ok (.goto 620, 3) := by decide +kernel
theorem dL_law_918 : decode cL_law 918 = .ok (.aload_n 1, 1) := by decide +kernel
theorem dL_law_919 : decode cL_law 919 = .ok (.aload_n 0, 1) := by decide +kernel
theorem dL_law_920 : decode cL_law 920 = .ok (.iload 4, 2) := by decide +kernel
theorem dL_law_922 : decode cL_law 922 = .ok (.iconst 1, 1) := by decide +kernel
theorem dL_law_923 : decode cL_law 923 = .ok (.iadd, 1) := by decide +kernel
theorem dL_law_924 : decode cL_law 924 = .ok (.iaload, 1) := by decide +kernel
theorem dL_law_925 : decode cL_law 925 = .ok (.aload_n 3, 1) := by decide +kernel
theorem dL_law_926 : decode cL_law 926 = .ok (.invokestatic 144, 3) := by decide +kernel
theorem dL_law_929 : decode cL_law 929 = .ok (.istore 5, 2) := by decide +kernel
theorem dL_law_931 : decode cL_law 931 = .ok (.aload_n 2, 1) := by decide +kernel
theorem dL_law_932 : decode cL_law 932 = .ok (.aload_n 0, 1) := by decide +kernel
theorem dL_law_933 : decode cL_law 933 = .ok (.iload 4, 2) := by decide +kernel
theorem dL_law_935 : decode cL_law 935 = .ok (.iconst 1, 1) := by decide +kernel
theorem dL_law_936 : decode cL_law 936 = .ok (.iadd, 1) := by decide +kernel
theorem dL_law_937 : decode cL_law 937 = .ok (.iaload, 1) := by decide +kernel
theorem dL_law_938 : decode cL_law 938 = .ok (.invokevirtual 146, 3) := by decide +kernel
theorem dL_law_941 : decode cL_law 941 = .ok (.istore 6, 2) := by decide +kernel
theorem dL_law_943 : decode cL_law 943 = .ok (.aload_n 2, 1) := by decide +kernel
theorem dL_law_944 : decode cL_law 944 = .ok (.invokevirtual 99, 3) := by decide +kernel
theorem dL_law_947 : decode cL_law 947 = .ok (.iload 5, 2) := by decide +kernel
theorem dL_law_949 : decode cL_law 949 = .ok (.if_icmp .eq 5, 3) := by decide +kernel
theorem dL_law_952 : decode cL_law 952 = .ok (.iconst 0, 1) := by decide +kernel
theorem dL_law_953 : decode cL_law 953 = .ok (.ireturn, 1) := by decide +kernel
theorem dL_law_954 : decode cL_law 954 = .ok (.iload 5, 2) := by decide +kernel
theorem dL_law_956 : decode cL_law 956 = .ok (.ifCond .ne 22, 3) := by decide +kernel
theorem dL_law_959 : decode cL_law 959 = .ok (.aload_n 3, 1) := by decide +kernel
theorem dL_law_960 : decode cL_law 960 = .ok (.iconst 0, 1) := by decide +kernel
theorem dL_law_961 : decode cL_law 961 = .ok (.laload, 1) := by decide +kernel
theorem dL_law_962 : decode cL_law 962 = .ok (.iload 6, 2) := by decide +kernel
theorem dL_law_964 : decode cL_law 964 = .ok (.ifCond .eq 7, 3) := by decide +kernel
theorem dL_law_967 : decode cL_law 967 = .ok (.lconst 1, 1) := by decide +kernel
theorem dL_law_968 : decode cL_law 968 = .ok (.goto 4, 3) := by decide +kernel
theorem dL_law_971 : decode cL_law 971 = .ok (.lconst 0, 1) := by decide +kernel
theorem dL_law_972 : decode cL_law 972 = .ok (.lcmp, 1) := by decide +kernel
theorem dL_law_973 : decode cL_law 973 = .ok (.ifCond .eq 5, 3) := by decide +kernel
theorem dL_law_976 : decode cL_law 976 = .ok (.iconst 0, 1) := by decide +kernel
theorem dL_law_977 : decode cL_law 977 = .ok (.ireturn, 1) := by decide +kernel
theorem dL_law_978 : decode cL_law 978 = .ok (.goto 557, 3) := by decide +kernel
theorem dL_law_981 : decode cL_law 981 = .ok (.aload_n 1, 1) := by decide +kernel
theorem dL_law_982 : decode cL_law 982 = .ok (.aload_n 0, 1) := by decide +kernel
theorem dL_law_983 : decode cL_law 983 = .ok (.iload 4, 2) := by decide +kernel
theorem dL_law_985 : decode cL_law 985 = .ok (.iconst 1, 1) := by decide +kernel
theorem dL_law_986 : decode cL_law 986 = .ok (.iadd, 1) := by decide +kernel
theorem dL_law_987 : decode cL_law 987 = .ok (.iaload, 1) := by decide +kernel
theorem dL_law_988 : decode cL_law 988 = .ok (.aload_n 0, 1) := by decide +kernel
theorem dL_law_989 : decode cL_law 989 = .ok (.iload 4, 2) := by decide +kernel
theorem dL_law_991 : decode cL_law 991 = .ok (.iconst 2, 1) := by decide +kernel
theorem dL_law_992 : decode cL_law 992 = .ok (.iadd, 1) := by decide +kernel
theorem dL_law_993 : decode cL_law 993 = .ok (.iaload, 1) := by decide +kernel
theorem dL_law_994 : decode cL_law 994 = .ok (.aload_n 3, 1) := by decide +kernel
theorem dL_law_995 : decode cL_law 995 = .ok (.invokestatic 147, 3) := by decide +kernel
theorem dL_law_998 : decode cL_law 998 = .ok (.istore 5, 2) := by decide +kernel
theorem dL_law_1000 : decode cL_law 1000 = .ok (.aload_n 2, 1) := by decide +kernel
theorem dL_law_1001 : decode cL_law 1001 = .ok (.aload_n 0, 1) := by decide +kernel
theorem dL_law_1002 : decode cL_law 1002 = .ok (.iload 4, 2) := by decide +kernel
theorem dL_law_1004 : decode cL_law 1004 = .ok (.iconst 1, 1) := by decide +kernel
theorem dL_law_1005 : decode cL_law 1005 = .ok (.iadd, 1) := by decide +kernel
theorem dL_law_1006 : decode cL_law 1006 = .ok (.iaload, 1) := by decide +kernel
theorem dL_law_1007 : decode cL_law 1007 = .ok (.aload_n 0, 1) := by decide +kernel
theorem dL_law_1008 : decode cL_law 1008 = .ok (.iload 4, 2) := by decide +kernel
theorem dL_law_1010 : decode cL_law 1010 = .ok (.iconst 2, 1) := by decide +kernel
theorem dL_law_1011 : decode cL_law 1011 = .ok (.iadd, 1) := by decide +kernel
theorem dL_law_1012 : decode cL_law 1012 = .ok (.iaload, 1) := by decide +kernel
theorem dL_law_1013 : decode cL_law 1013 = .ok (.invokevirtual 149, 3) := by decide +kernel
theorem dL_law_1016 : decode cL_law 1016 = .ok (.istore 6, 2) := by decide +kernel
theorem dL_law_1018 : decode cL_law 1018 = .ok (.aload_n 2, 1) := by decide +kernel
theorem dL_law_1019 : decode cL_law 1019 = .ok (.invokevirtual 99, 3) := by decide +kernel
theorem dL_law_1022 : decode cL_law 1022 = .ok (.iload 5, 2) := by decide +kernel
theorem dL_law_1024 : decode cL_law 1024 = .ok (.if_icmp .eq 5, 3) := by decide +kernel
theorem dL_law_1027 : decode cL_law 1027 = .ok (.iconst 0, 1) := by decide +kernel
theorem dL_law_1028 : decode cL_law 1028 = .ok (.ireturn, 1) := by decide +kernel
theorem dL_law_1029 : decode cL_law 1029 = .ok (.iload 5, 2) := by decide +kernel
theorem dL_law_1031 : decode cL_law 1031 = .ok (.ifCond .ne 22, 3) := by decide +kernel
theorem dL_law_1034 : decode cL_law 1034 = .ok (.aload_n 3, 1) := by decide +kernel
theorem dL_law_1035 : decode cL_law 1035 = .ok (.iconst 0, 1) := by decide +kernel
theorem dL_law_1036 : decode cL_law 1036 = .ok (.laload, 1) := by decide +kernel
theorem dL_law_1037 : decode cL_law 1037 = .ok (.iload 6, 2) := by decide +kernel
theorem dL_law_1039 : decode cL_law 1039 = .ok (.ifCond .eq 7, 3) := by decide +kernel
theorem dL_law_1042 : decode cL_law 1042 = .ok (.lconst 1, 1) := by decide +kernel
theorem dL_law_1043 : decode cL_law 1043 = .ok (.goto 4, 3) := by decide +kernel
theorem dL_law_1046 : decode cL_law 1046 = .ok (.lconst 0, 1) := by decide +kernel
theorem dL_law_1047 : decode cL_law 1047 = .ok (.lcmp, 1) := by decide +kernel
theorem dL_law_1048 : decode cL_law 1048 = .ok (.ifCond .eq 5, 3) := by decide +kernel
theorem dL_law_1051 : decode cL_law 1051 = .ok (.iconst 0, 1) := by decide +kernel
theorem dL_law_1052 : decode cL_law 1052 = .ok (.ireturn, 1) := by decide +kernel
theorem dL_law_1053 : decode cL_law 1053 = .ok (.goto 482, 3) := by decide +kernel
theorem dL_law_1056 : decode cL_law 1056 = .ok (.aload_n 1, 1) := by decide +kernel
theorem dL_law_1057 : decode cL_law 1057 = .ok (.invokestatic 150, 3) := by decide +kernel
theorem dL_law_1060 : decode cL_law 1060 = .ok (.istore 5, 2) := by decide +kernel
theorem dL_law_1062 : decode cL_law 1062 = .ok (.aload_n 2, 1) := by decide +kernel
theorem dL_law_1063 : decode cL_law 1063 = .ok (.invokevirtual 153, 3) := by decide +kernel
theorem dL_law_1066 : decode cL_law 1066 = .ok (.aload_n 2, 1) := by decide +kernel
theorem dL_law_1067 : decode cL_law 1067 = .ok (.invokevirtual 99, 3) := by decide +kernel
theorem dL_law_1070 : decode cL_law 1070 = .ok (.iload 5, 2) := by decide +kernel
theorem dL_law_1072 : decode cL_law 1072 = .ok (.if_icmp .eq 5, 3) := by decide +kernel
theorem dL_law_1075 : decode cL_law 1075 = .ok (.iconst 0, 1) := by decide +kernel
theorem dL_law_1076 : decode cL_law 1076 = .ok (.ireturn, 1) := by decide +kernel
theorem dL_law_1077 : decode cL_law 1077 = .ok (.goto 458, 3) := by decide +kernel
theorem dL_law_1080 : decode cL_law 1080 = .ok (.aload_n 1, 1) := by decide +kernel
theorem dL_law_1081 : decode cL_law 1081 = .ok (.aload_n 0, 1) := by decide +kernel
theorem dL_law_1082 : decode cL_law 1082 = .ok (.iload 4, 2) := by decide +kernel
theorem dL_law_1084 : decode cL_law 1084 = .ok (.iconst 1, 1) := by decide +kernel
theorem dL_law_1085 : decode cL_law 1085 = .ok (.iadd, 1) := by decide +kernel
theorem dL_law_1086 : decode cL_law 1086 = .ok (.iaload, 1) := by decide +kernel
theorem dL_law_1087 : decode cL_law 1087 = .ok (.aload_n 3, 1) := by decide +kernel
theorem dL_law_1088 : decode cL_law 1088 = .ok (.invokestatic 154, 3) := by decide +kernel
theorem dL_law_1091 : decode cL_law 1091 = .ok (.istore 5, 2) := by decide +kernel
theorem dL_law_1093 : decode cL_law 1093 = .ok (.aload_n 2, 1) := by decide +kernel
theorem dL_law_1094 : decode cL_law 1094 = .ok (.aload_n 0, 1) := by decide +kernel
theorem dL_law_1095 : decode cL_law 1095 = .ok (.iload 4, 2) := by decide +kernel
theorem dL_law_1097 : decode cL_law 1097 = .ok (.iconst 1, 1) := by decide +kernel
theorem dL_law_1098 : decode cL_law 1098 = .ok (.iadd, 1) := by decide +kernel
theorem dL_law_1099 : decode cL_law 1099 = .ok (.iaload, 1) := by decide +kernel
theorem dL_law_1100 : decode cL_law 1100 = .ok (.invokevirtual 156, 3) := by decide +kernel
theorem dL_law_1103 : decode cL_law 1103 = .ok (.istore 6, 2) := by decide +kernel
theorem dL_law_1105 : decode cL_law 1105 = .ok (.aload_n 2, 1) := by decide +kernel
theorem dL_law_1106 : decode cL_law 1106 = .ok (.invokevirtual 99, 3) := by decide +kernel
theorem dL_law_1109 : decode cL_law 1109 = .ok (.iload 5, 2) := by decide +kernel
theorem dL_law_1111 : decode cL_law 1111 = .ok (.if_icmp .eq 5, 3) := by decide +kernel
theorem dL_law_1114 : decode cL_law 1114 = .ok (.iconst 0, 1) := by decide +kernel
theorem dL_law_1115 : decode cL_law 1115 = .ok (.ireturn, 1) := by decide +kernel
theorem dL_law_1116 : decode cL_law 1116 = .ok (.iload 5, 2) := by decide +kernel
theorem dL_law_1118 : decode cL_law 1118 = .ok (.ifCond .ne 15, 3) := by decide +kernel
theorem dL_law_1121 : decode cL_law 1121 = .ok (.aload_n 3, 1) := by decide +kernel
theorem dL_law_1122 : decode cL_law 1122 = .ok (.iconst 0, 1) := by decide +kernel
theorem dL_law_1123 : decode cL_law 1123 = .ok (.laload, 1) := by decide +kernel
theorem dL_law_1124 : decode cL_law 1124 = .ok (.iload 6, 2) := by decide +kernel
theorem dL_law_1126 : decode cL_law 1126 = .ok (.i2l, 1) := by decide +kernel
theorem dL_law_1127 : decode cL_law 1127 = .ok (.lcmp, 1) := by decide +kernel
theorem dL_law_1128 : decode cL_law 1128 = .ok (.ifCond .eq 5, 3) := by decide +kernel
theorem dL_law_1131 : decode cL_law 1131 = .ok (.iconst 0, 1) := by decide +kernel
theorem dL_law_1132 : decode cL_law 1132 = .ok (.ireturn, 1) := by decide +kernel
theorem dL_law_1133 : decode cL_law 1133 = .ok (.goto 402, 3) := by decide +kernel
theorem dL_law_1136 : decode cL_law 1136 = .ok (.aload_n 1, 1) := by decide +kernel
theorem dL_law_1137 : decode cL_law 1137 = .ok (.aload_n 3, 1) := by decide +kernel
theorem dL_law_1138 : decode cL_law 1138 = .ok (.invokestatic 157, 3) := by decide +kernel
theorem dL_law_1141 : decode cL_law 1141 = .ok (.istore 5, 2) := by decide +kernel
theorem dL_law_1143 : decode cL_law 1143 = .ok (.aload_n 2, 1) := by decide +kernel
theorem dL_law_1144 : decode cL_law 1144 = .ok (.invokevirtual 159, 3) := by decide +kernel
theorem dL_law_1147 : decode cL_law 1147 = .ok (.istore 6, 2) := by decide +kernel
theorem dL_law_1149 : decode cL_law 1149 = .ok (.aload_n 2, 1) := by decide +kernel
theorem dL_law_1150 : decode cL_law 1150 = .ok (.invokevirtual 99, 3) := by decide +kernel
theorem dL_law_1153 : decode cL_law 1153 = .ok (.iload 5, 2) := by decide +kernel
theorem dL_law_1155 : decode cL_law 1155 = .ok (.if_icmp .eq 5, 3) := by decide +kernel
theorem dL_law_1158 : decode cL_law 1158 = .ok (.iconst 0, 1) := by decide +kernel
theorem dL_law_1159 : decode cL_law 1159 = .ok (.ireturn, 1) := by decide +kernel
theorem dL_law_1160 : decode cL_law 1160 = .ok (.iload 5, 2) := by decide +kernel
theorem dL_law_1162 : decode cL_law 1162 = .ok (.ifCond .ne 15, 3) := by decide +kernel
theorem dL_law_1165 : decode cL_law 1165 = .ok (.aload_n 3, 1) := by decide +kernel
theorem dL_law_1166 : decode cL_law 1166 = .ok (.iconst 0, 1) := by decide +kernel
theorem dL_law_1167 : decode cL_law 1167 = .ok (.laload, 1) := by decide +kernel
theorem dL_law_1168 : decode cL_law 1168 = .ok (.iload 6, 2) := by decide +kernel
theorem dL_law_1170 : decode cL_law 1170 = .ok (.i2l, 1) := by decide +kernel
theorem dL_law_1171 : decode cL_law 1171 = .ok (.lcmp, 1) := by decide +kernel
theorem dL_law_1172 : decode cL_law 1172 = .ok (.ifCond .eq 5, 3) := by decide +kernel
theorem dL_law_1175 : decode cL_law 1175 = .ok (.iconst 0, 1) := by decide +kernel
theorem dL_law_1176 : decode cL_law 1176 = .ok (.ireturn, 1) := by decide +kernel
theorem dL_law_1177 : decode cL_law 1177 = .ok (.goto 358, 3) := by decide +kernel
theorem dL_law_1180 : decode cL_law 1180 = .ok (.aload_n 1, 1) := by decide +kernel
theorem dL_law_1181 : decode cL_law 1181 = .ok (.aload_n 3, 1) := by decide +kernel
theorem dL_law_1182 : decode cL_law 1182 = .ok (.invokestatic 160, 3) := by decide +kernel
theorem dL_law_1185 : decode cL_law 1185 = .ok (.istore 5, 2) := by decide +kernel
theorem dL_law_1187 : decode cL_law 1187 = .ok (.aload_n 2, 1) := by decide +kernel
theorem dL_law_1188 : decode cL_law 1188 = .ok (.invokevirtual 162, 3) := by decide +kernel
theorem dL_law_1191 : decode cL_law 1191 = .ok (.istore 6, 2) := by decide +kernel
theorem dL_law_1193 : decode cL_law 1193 = .ok (.aload_n 2, 1) := by decide +kernel
theorem dL_law_1194 : decode cL_law 1194 = .ok (.invokevirtual 99, 3) := by decide +kernel
theorem dL_law_1197 : decode cL_law 1197 = .ok (.iload 5, 2) := by decide +kernel
theorem dL_law_1199 : decode cL_law 1199 = .ok (.if_icmp .eq 5, 3) := by decide +kernel
theorem dL_law_1202 : decode cL_law 1202 = .ok (.iconst 0, 1) := by decide +kernel
theorem dL_law_1203 : decode cL_law 1203 = .ok (.ireturn, 1) := by decide +kernel
theorem dL_law_1204 : decode cL_law 1204 = .ok (.iload 5, 2) := by decide +kernel
theorem dL_law_1206 : decode cL_law 1206 = .ok (.ifCond .ne 15, 3) := by decide +kernel
theorem dL_law_1209 : decode cL_law 1209 = .ok (.aload_n 3, 1) := by decide +kernel
theorem dL_law_1210 : decode cL_law 1210 = .ok (.iconst 0, 1) := by decide +kernel
theorem dL_law_1211 : decode cL_law 1211 = .ok (.laload, 1) := by decide +kernel
theorem dL_law_1212 : decode cL_law 1212 = .ok (.iload 6, 2) := by decide +kernel
theorem dL_law_1214 : decode cL_law 1214 = .ok (.i2l, 1) := by decide +kernel
theorem dL_law_1215 : decode cL_law 1215 = .ok (.lcmp, 1) := by decide +kernel
theorem dL_law_1216 : decode cL_law 1216 = .ok (.ifCond .eq 5, 3) := by decide +kernel
theorem dL_law_1219 : decode cL_law 1219 = .ok (.iconst 0, 1) := by decide +kernel
theorem dL_law_1220 : decode cL_law 1220 = .ok (.ireturn, 1) := by decide +kernel
theorem dL_law_1221 : decode cL_law 1221 = .ok (.goto 314, 3) := by decide +kernel
theorem dL_law_1224 : decode cL_law 1224 = .ok (.aload_n 1, 1) := by decide +kernel
theorem dL_law_1225 : decode cL_law 1225 = .ok (.aload_n 3, 1) := by decide +kernel
theorem dL_law_1226 : decode cL_law 1226 = .ok (.invokestatic 163, 3) := by decide +kernel
theorem dL_law_1229 : decode cL_law 1229 = .ok (.istore 5, 2) := by decide +kernel
theorem dL_law_1231 : decode cL_law 1231 = .ok (.aload_n 2, 1) := by decide +kernel
theorem dL_law_1232 : decode cL_law 1232 = .ok (.invokevirtual 165, 3) := by decide +kernel
theorem dL_law_1235 : decode cL_law 1235 = .ok (.istore 6, 2) := by decide +kernel
theorem dL_law_1237 : decode cL_law 1237 = .ok (.aload_n 2, 1) := by decide +kernel
theorem dL_law_1238 : decode cL_law 1238 = .ok (.invokevirtual 99, 3) := by decide +kernel
theorem dL_law_1241 : decode cL_law 1241 = .ok (.iload 5, 2) := by decide +kernel
theorem dL_law_1243 : decode cL_law 1243 = .ok (.if_icmp .eq 5, 3) := by decide +kernel
theorem dL_law_1246 : decode cL_law 1246 = .ok (.iconst 0, 1) := by decide +kernel
theorem dL_law_1247 : decode cL_law 1247 = .ok (.ireturn, 1) := by decide +kernel
theorem dL_law_1248 : decode cL_law 1248 = .ok (.iload 5, 2) := by decide +kernel
theorem dL_law_1250 : decode cL_law 1250 = .ok (.ifCond .ne 15, 3) := by decide +kernel
theorem dL_law_1253 : decode cL_law 1253 = .ok (.aload_n 3, 1) := by decide +kernel
theorem dL_law_1254 : decode cL_law 1254 = .ok (.iconst 0, 1) := by decide +kernel
theorem dL_law_1255 : decode cL_law 1255 = .ok (.laload, 1) := by decide +kernel
theorem dL_law_1256 : decode cL_law 1256 = .ok (.iload 6, 2) := by decide +kernel
theorem dL_law_1258 : decode cL_law 1258 = .ok (.i2l, 1) := by decide +kernel
theorem dL_law_1259 : decode cL_law 1259 = .ok (.lcmp, 1) := by decide +kernel
theorem dL_law_1260 : decode cL_law 1260 = .ok (.ifCond .eq 5, 3) := by decide +kernel
theorem dL_law_1263 : decode cL_law 1263 = .ok (.iconst 0, 1) := by decide +kernel
theorem dL_law_1264 : decode cL_law 1264 = .ok (.ireturn, 1) := by decide +kernel
theorem dL_law_1265 : decode cL_law 1265 = .ok (.goto 270, 3) := by decide +kernel
theorem dL_law_1268 : decode cL_law 1268 = .ok (.aload_n 1, 1) := by decide +kernel
theorem dL_law_1269 : decode cL_law 1269 = .ok (.aload_n 0, 1) := by decide +kernel
theorem dL_law_1270 : decode cL_law 1270 = .ok (.iload 4, 2) := by decide +kernel
theorem dL_law_1272 : decode cL_law 1272 = .ok (.iconst 1, 1) := by decide +kernel
theorem dL_law_1273 : decode cL_law 1273 = .ok (.iadd, 1) := by decide +kernel
theorem dL_law_1274 : decode cL_law 1274 = .ok (.iaload, 1) := by decide +kernel
theorem dL_law_1275 : decode cL_law 1275 = .ok (.aload_n 0, 1) := by decide +kernel
theorem dL_law_1276 : decode cL_law 1276 = .ok (.iload 4, 2) := by decide +kernel
theorem dL_law_1278 : decode cL_law 1278 = .ok (.iconst 2, 1) := by decide +kernel
theorem dL_law_1279 : decode cL_law 1279 = .ok (.iadd, 1) := by decide +kernel
theorem dL_law_1280 : decode cL_law 1280 = .ok (.iaload, 1) := by decide +kernel
theorem dL_law_1281 : decode cL_law 1281 = .ok (.aload_n 3, 1) := by decide +kernel
theorem dL_law_1282 : decode cL_law 1282 = .ok (.invokestatic 166, 3) := by decide +kernel
theorem dL_law_1285 : decode cL_law 1285 = .ok (.istore 5, 2) := by decide +kernel
theorem dL_law_1287 : decode cL_law 1287 = .ok (.aload_n 2, 1) := by decide +kernel
theorem dL_law_1288 : decode cL_law 1288 = .ok (.aload_n 0, 1) := by decide +kernel
theorem dL_law_1289 : decode cL_law 1289 = .ok (.iload 4, 2) := by decide +kernel
theorem dL_law_1291 : decode cL_law 1291 = .ok (.iconst 1, 1) := by decide +kernel
theorem dL_law_1292 : decode cL_law 1292 = .ok (.iadd, 1) := by decide +kernel
theorem dL_law_1293 : decode cL_law 1293 = .ok (.iaload, 1) := by decide +kernel
theorem dL_law_1294 : decode cL_law 1294 = .ok (.aload_n 0, 1) := by decide +kernel
theorem dL_law_1295 : decode cL_law 1295 = .ok (.iload 4, 2) := by decide +kernel
theorem dL_law_1297 : decode cL_law 1297 = .ok (.iconst 2, 1) := by decide +kernel
theorem dL_law_1298 : decode cL_law 1298 = .ok (.iadd, 1) := by decide +kernel
theorem dL_law_1299 : decode cL_law 1299 = .ok (.iaload, 1) := by decide +kernel
theorem dL_law_1300 : decode cL_law 1300 = .ok (.invokevirtual 168, 3) := by decide +kernel
theorem dL_law_1303 : decode cL_law 1303 = .ok (.istore 6, 2) := by decide +kernel
theorem dL_law_1305 : decode cL_law 1305 = .ok (.aload_n 2, 1) := by decide +kernel
theorem dL_law_1306 : decode cL_law 1306 = .ok (.invokevirtual 99, 3) := by decide +kernel
theorem dL_law_1309 : decode cL_law 1309 = .ok (.iload 5, 2) := by decide +kernel
theorem dL_law_1311 : decode cL_law 1311 = .ok (.if_icmp .eq 5, 3) := by decide +kernel
theorem dL_law_1314 : decode cL_law 1314 = .ok (.iconst 0, 1) := by decide +kernel
theorem dL_law_1315 : decode cL_law 1315 = .ok (.ireturn, 1) := by decide +kernel
theorem dL_law_1316 : decode cL_law 1316 = .ok (.iload 5, 2) := by decide +kernel
theorem dL_law_1318 : decode cL_law 1318 = .ok (.ifCond .ne 15, 3) := by decide +kernel
theorem dL_law_1321 : decode cL_law 1321 = .ok (.aload_n 3, 1) := by decide +kernel
theorem dL_law_1322 : decode cL_law 1322 = .ok (.iconst 0, 1) := by decide +kernel
theorem dL_law_1323 : decode cL_law 1323 = .ok (.laload, 1) := by decide +kernel
theorem dL_law_1324 : decode cL_law 1324 = .ok (.iload 6, 2) := by decide +kernel
theorem dL_law_1326 : decode cL_law 1326 = .ok (.i2l, 1) := by decide +kernel
theorem dL_law_1327 : decode cL_law 1327 = .ok (.lcmp, 1) := by decide +kernel
theorem dL_law_1328 : decode cL_law 1328 = .ok (.ifCond .eq 5, 3) := by decide +kernel
theorem dL_law_1331 : decode cL_law 1331 = .ok (.iconst 0, 1) := by decide +kernel
theorem dL_law_1332 : decode cL_law 1332 = .ok (.ireturn, 1) := by decide +kernel
theorem dL_law_1333 : decode cL_law 1333 = .ok (.goto 202, 3) := by decide +kernel
theorem dL_law_1336 : decode cL_law 1336 = .ok (.aload_n 1, 1) := by decide +kernel
theorem dL_law_1337 : decode cL_law 1337 = .ok (.aload_n 0, 1) := by decide +kernel
theorem dL_law_1338 : decode cL_law 1338 = .ok (.iload 4, 2) := by decide +kernel
theorem dL_law_1340 : decode cL_law 1340 = .ok (.iconst 1, 1) := by decide +kernel
theorem dL_law_1341 : decode cL_law 1341 = .ok (.iadd, 1) := by decide +kernel
theorem dL_law_1342 : decode cL_law 1342 = .ok (.iaload, 1) := by decide +kernel
theorem dL_law_1343 : decode cL_law 1343 = .ok (.aload_n 0, 1) := by decide +kernel
theorem dL_law_1344 : decode cL_law 1344 = .ok (.iload 4, 2) := by decide +kernel
theorem dL_law_1346 : decode cL_law 1346 = .ok (.iconst 2, 1) := by decide +kernel
theorem dL_law_1347 : decode cL_law 1347 = .ok (.iadd, 1) := by decide +kernel
theorem dL_law_1348 : decode cL_law 1348 = .ok (.iaload, 1) := by decide +kernel
theorem dL_law_1349 : decode cL_law 1349 = .ok (.aload_n 3, 1) := by decide +kernel
theorem dL_law_1350 : decode cL_law 1350 = .ok (.invokestatic 169, 3) := by decide +kernel
theorem dL_law_1353 : decode cL_law 1353 = .ok (.istore 5, 2) := by decide +kernel
theorem dL_law_1355 : decode cL_law 1355 = .ok (.aload_n 2, 1) := by decide +kernel
theorem dL_law_1356 : decode cL_law 1356 = .ok (.aload_n 0, 1) := by decide +kernel
theorem dL_law_1357 : decode cL_law 1357 = .ok (.iload 4, 2) := by decide +kernel
theorem dL_law_1359 : decode cL_law 1359 = .ok (.iconst 1, 1) := by decide +kernel
theorem dL_law_1360 : decode cL_law 1360 = .ok (.iadd, 1) := by decide +kernel
theorem dL_law_1361 : decode cL_law 1361 = .ok (.iaload, 1) := by decide +kernel
theorem dL_law_1362 : decode cL_law 1362 = .ok (.aload_n 0, 1) := by decide +kernel
theorem dL_law_1363 : decode cL_law 1363 = .ok (.iload 4, 2) := by decide +kernel
theorem dL_law_1365 : decode cL_law 1365 = .ok (.iconst 2, 1) := by decide +kernel
theorem dL_law_1366 : decode cL_law 1366 = .ok (.iadd, 1) := by decide +kernel
theorem dL_law_1367 : decode cL_law 1367 = .ok (.iaload, 1) := by decide +kernel
theorem dL_law_1368 : decode cL_law 1368 = .ok (.invokevirtual 171, 3) := by decide +kernel
theorem dL_law_1371 : decode cL_law 1371 = .ok (.istore 6, 2) := by decide +kernel
theorem dL_law_1373 : decode cL_law 1373 = .ok (.aload_n 2, 1) := by decide +kernel
theorem dL_law_1374 : decode cL_law 1374 = .ok (.invokevirtual 99, 3) := by decide +kernel
theorem dL_law_1377 : decode cL_law 1377 = .ok (.iload 5, 2) := by decide +kernel
theorem dL_law_1379 : decode cL_law 1379 = .ok (.if_icmp .eq 5, 3) := by decide +kernel
theorem dL_law_1382 : decode cL_law 1382 = .ok (.iconst 0, 1) := by decide +kernel
theorem dL_law_1383 : decode cL_law 1383 = .ok (.ireturn, 1) := by decide +kernel
theorem dL_law_1384 : decode cL_law 1384 = .ok (.iload 5, 2) := by decide +kernel
theorem dL_law_1386 : decode cL_law 1386 = .ok (.ifCond .ne 15, 3) := by decide +kernel
theorem dL_law_1389 : decode cL_law 1389 = .ok (.aload_n 3, 1) := by decide +kernel
theorem dL_law_1390 : decode cL_law 1390 = .ok (.iconst 0, 1) := by decide +kernel
theorem dL_law_1391 : decode cL_law 1391 = .ok (.laload, 1) := by decide +kernel
theorem dL_law_1392 : decode cL_law 1392 = .ok (.iload 6, 2) := by decide +kernel
theorem dL_law_1394 : decode cL_law 1394 = .ok (.i2l, 1) := by decide +kernel
theorem dL_law_1395 : decode cL_law 1395 = .ok (.lcmp, 1) := by decide +kernel
theorem dL_law_1396 : decode cL_law 1396 = .ok (.ifCond .eq 5, 3) := by decide +kernel
theorem dL_law_1399 : decode cL_law 1399 = .ok (.iconst 0, 1) := by decide +kernel
theorem dL_law_1400 : decode cL_law 1400 = .ok (.ireturn, 1) := by decide +kernel
theorem dL_law_1401 : decode cL_law 1401 = .ok (.goto 134, 3) := by decide +kernel
theorem dL_law_1404 : decode cL_law 1404 = .ok (.aload_n 1, 1) := by decide +kernel
theorem dL_law_1405 : decode cL_law 1405 = .ok (.aload_n 0, 1) := by decide +kernel
theorem dL_law_1406 : decode cL_law 1406 = .ok (.iload 4, 2) := by decide +kernel
theorem dL_law_1408 : decode cL_law 1408 = .ok (.iconst 1, 1) := by decide +kernel
theorem dL_law_1409 : decode cL_law 1409 = .ok (.iadd, 1) := by decide +kernel
theorem dL_law_1410 : decode cL_law 1410 = .ok (.iaload, 1) := by decide +kernel
theorem dL_law_1411 : decode cL_law 1411 = .ok (.aload_n 0, 1) := by decide +kernel
theorem dL_law_1412 : decode cL_law 1412 = .ok (.iload 4, 2) := by decide +kernel
theorem dL_law_1414 : decode cL_law 1414 = .ok (.iconst 2, 1) := by decide +kernel
theorem dL_law_1415 : decode cL_law 1415 = .ok (.iadd, 1) := by decide +kernel
theorem dL_law_1416 : decode cL_law 1416 = .ok (.iaload, 1) := by decide +kernel
theorem dL_law_1417 : decode cL_law 1417 = .ok (.aload_n 3, 1) := by decide +kernel
theorem dL_law_1418 : decode cL_law 1418 = .ok (.invokestatic 172, 3) := by decide +kernel
theorem dL_law_1421 : decode cL_law 1421 = .ok (.istore 5, 2) := by decide +kernel
theorem dL_law_1423 : decode cL_law 1423 = .ok (.aload_n 2, 1) := by decide +kernel
theorem dL_law_1424 : decode cL_law 1424 = .ok (.aload_n 0, 1) := by decide +kernel
theorem dL_law_1425 : decode cL_law 1425 = .ok (.iload 4, 2) := by decide +kernel
theorem dL_law_1427 : decode cL_law 1427 = .ok (.iconst 1, 1) := by decide +kernel
theorem dL_law_1428 : decode cL_law 1428 = .ok (.iadd, 1) := by decide +kernel
theorem dL_law_1429 : decode cL_law 1429 = .ok (.iaload, 1) := by decide +kernel
theorem dL_law_1430 : decode cL_law 1430 = .ok (.aload_n 0, 1) := by decide +kernel
theorem dL_law_1431 : decode cL_law 1431 = .ok (.iload 4, 2) := by decide +kernel
theorem dL_law_1433 : decode cL_law 1433 = .ok (.iconst 2, 1) := by decide +kernel
theorem dL_law_1434 : decode cL_law 1434 = .ok (.iadd, 1) := by decide +kernel
theorem dL_law_1435 : decode cL_law 1435 = .ok (.iaload, 1) := by decide +kernel
theorem dL_law_1436 : decode cL_law 1436 = .ok (.invokevirtual 174, 3) := by decide +kernel
theorem dL_law_1439 : decode cL_law 1439 = .ok (.istore 6, 2) := by decide +kernel
theorem dL_law_1441 : decode cL_law 1441 = .ok (.aload_n 2, 1) := by decide +kernel
theorem dL_law_1442 : decode cL_law 1442 = .ok (.invokevirtual 99, 3) := by decide +kernel
theorem dL_law_1445 : decode cL_law 1445 = .ok (.iload 5, 2) := by decide +kernel
theorem dL_law_1447 : decode cL_law 1447 = .ok (.if_icmp .eq 5, 3) := by decide +kernel
theorem dL_law_1450 : decode cL_law 1450 = .ok (.iconst 0, 1) := by decide +kernel
theorem dL_law_1451 : decode cL_law 1451 = .ok (.ireturn, 1) := by decide +kernel
theorem dL_law_1452 : decode cL_law 1452 = .ok (.iload 5, 2) := by decide +kernel
theorem dL_law_1454 : decode cL_law 1454 = .ok (.ifCond .ne 22, 3) := by decide +kernel
theorem dL_law_1457 : decode cL_law 1457 = .ok (.aload_n 3, 1) := by decide +kernel
theorem dL_law_1458 : decode cL_law 1458 = .ok (.iconst 0, 1) := by decide +kernel
theorem dL_law_1459 : decode cL_law 1459 = .ok (.laload, 1) := by decide +kernel
theorem dL_law_1460 : decode cL_law 1460 = .ok (.iload 6, 2) := by decide +kernel
theorem dL_law_1462 : decode cL_law 1462 = .ok (.ifCond .eq 7, 3) := by decide +kernel
theorem dL_law_1465 : decode cL_law 1465 = .ok (.lconst 1, 1) := by decide +kernel
theorem dL_law_1466 : decode cL_law 1466 = .ok (.goto 4, 3) := by decide +kernel
theorem dL_law_1469 : decode cL_law 1469 = .ok (.lconst 0, 1) := by decide +kernel
theorem dL_law_1470 : decode cL_law 1470 = .ok (.lcmp, 1) := by decide +kernel
theorem dL_law_1471 : decode cL_law 1471 = .ok (.ifCond .eq 5, 3) := by decide +kernel
theorem dL_law_1474 : decode cL_law 1474 = .ok (.iconst 0, 1) := by decide +kernel
theorem dL_law_1475 : decode cL_law 1475 = .ok (.ireturn, 1) := by decide +kernel
theorem dL_law_1476 : decode cL_law 1476 = .ok (.goto 59, 3) := by decide +kernel
theorem dL_law_1479 : decode cL_law 1479 = .ok (.aload_n 1, 1) := by decide +kernel
theorem dL_law_1480 : decode cL_law 1480 = .ok (.aload_n 0, 1) := by decide +kernel
theorem dL_law_1481 : decode cL_law 1481 = .ok (.iload 4, 2) := by decide +kernel
theorem dL_law_1483 : decode cL_law 1483 = .ok (.iconst 1, 1) := by decide +kernel
theorem dL_law_1484 : decode cL_law 1484 = .ok (.iadd, 1) := by decide +kernel
theorem dL_law_1485 : decode cL_law 1485 = .ok (.iaload, 1) := by decide +kernel
theorem dL_law_1486 : decode cL_law 1486 = .ok (.aload_n 3, 1) := by decide +kernel
theorem dL_law_1487 : decode cL_law 1487 = .ok (.invokestatic 175, 3) := by decide +kernel
theorem dL_law_1490 : decode cL_law 1490 = .ok (.istore 5, 2) := by decide +kernel
theorem dL_law_1492 : decode cL_law 1492 = .ok (.aload_n 2, 1) := by decide +kernel
theorem dL_law_1493 : decode cL_law 1493 = .ok (.aload_n 0, 1) := by decide +kernel
theorem dL_law_1494 : decode cL_law 1494 = .ok (.iload 4, 2) := by decide +kernel
theorem dL_law_1496 : decode cL_law 1496 = .ok (.iconst 1, 1) := by decide +kernel
theorem dL_law_1497 : decode cL_law 1497 = .ok (.iadd, 1) := by decide +kernel
theorem dL_law_1498 : decode cL_law 1498 = .ok (.iaload, 1) := by decide +kernel
theorem dL_law_1499 : decode cL_law 1499 = .ok (.invokevirtual 177, 3) := by decide +kernel
theorem dL_law_1502 : decode cL_law 1502 = .ok (.istore 6, 2) := by decide +kernel
theorem dL_law_1504 : decode cL_law 1504 = .ok (.aload_n 2, 1) := by decide +kernel
theorem dL_law_1505 : decode cL_law 1505 = .ok (.invokevirtual 99, 3) := by decide +kernel
theorem dL_law_1508 : decode cL_law 1508 = .ok (.iload 5, 2) := by decide +kernel
theorem dL_law_1510 : decode cL_law 1510 = .ok (.if_icmp .eq 5, 3) := by decide +kernel
theorem dL_law_1513 : decode cL_law 1513 = .ok (.iconst 0, 1) := by decide +kernel
theorem dL_law_1514 : decode cL_law 1514 = .ok (.ireturn, 1) := by decide +kernel
theorem dL_law_1515 : decode cL_law 1515 = .ok (.iload 5, 2) := by decide +kernel
theorem dL_law_1517 : decode cL_law 1517 = .ok (.ifCond .ne 15, 3) := by decide +kernel
theorem dL_law_1520 : decode cL_law 1520 = .ok (.aload_n 3, 1) := by decide +kernel
theorem dL_law_1521 : decode cL_law 1521 = .ok (.iconst 0, 1) := by decide +kernel
theorem dL_law_1522 : decode cL_law 1522 = .ok (.laload, 1) := by decide +kernel
theorem dL_law_1523 : decode cL_law 1523 = .ok (.iload 6, 2) := by decide +kernel
theorem dL_law_1525 : decode cL_law 1525 = .ok (.i2l, 1) := by decide +kernel
theorem dL_law_1526 : decode cL_law 1526 = .ok (.lcmp, 1) := by decide +kernel
theorem dL_law_1527 : decode cL_law 1527 = .ok (.ifCond .eq 5, 3) := by decide +kernel
theorem dL_law_1530 : decode cL_law 1530 = .ok (.iconst 0, 1) := by decide +kernel
theorem dL_law_1531 : decode cL_law 1531 = .ok (.ireturn, 1) := by decide +kernel
theorem dL_law_1532 : decode cL_law 1532 = .ok (.goto 3, 3) := by decide +kernel
theorem dL_law_1535 : decode cL_law 1535 = .ok (.iinc 4 4, 3) := by decide +kernel
theorem dL_law_1538 : decode cL_law 1538 = .ok (.goto (-1515), 3) := by decide +kernel
theorem dL_law_1541 : decode cL_law 1541 = .ok (.iconst 1, 1) := by decide +kernel
theorem dL_law_1542 : decode cL_law 1542 = .ok (.ireturn, 1) := by decide +kernel
