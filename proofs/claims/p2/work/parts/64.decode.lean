theorem dX6_bind_0 : decode cX6_bind 0 = .ok (.aload_n 0, 1) := by decide +kernel
theorem dX6_bind_1 : decode cX6_bind 1 = .ok (.iconst 0, 1) := by decide +kernel
theorem dX6_bind_2 : decode cX6_bind 2 = .ok (.putfield 93, 3) := by decide +kernel
theorem dX6_bind_5 : decode cX6_bind 5 = .ok (.aload_n 0, 1) := by decide +kernel
theorem dX6_bind_6 : decode cX6_bind 6 = .ok (.iload_n 2, 1) := by decide +kernel
theorem dX6_bind_7 : decode cX6_bind 7 = .ok (.invokevirtual 233, 3) := by decide +kernel
theorem dX6_bind_10 : decode cX6_bind 10 = .ok (.istore 4, 2) := by decide +kernel
theorem dX6_bind_12 : decode cX6_bind 12 = .ok (.aload_n 0, 1) := by decide +kernel
theorem dX6_bind_13 : decode cX6_bind 13 = .ok (.iload_n 3, 1) := by decide +kernel
theorem dX6_bind_14 : decode cX6_bind 14 = .ok (.invokevirtual 215, 3) := by decide +kernel
theorem dX6_bind_17 : decode cX6_bind 17 = .ok (.istore 5, 2) := by decide +kernel
theorem dX6_bind_19 : decode cX6_bind 19 = .ok (.iload 4, 2) := by decide +kernel
theorem dX6_bind_21 : decode cX6_bind 21 = .ok (.ifCond .eq 8, 3) := by decide +kernel
theorem dX6_bind_24 : decode cX6_bind 24 = .ok (.iload 5, 2) := by decide +kernel
theorem dX6_bind_26 : decode cX6_bind 26 = .ok (.ifCond .ne 9, 3) := by decide +kernel
theorem dX6_bind_29 : decode cX6_bind 29 = .ok (.aload_n 0, 1) := by decide +kernel
theorem dX6_bind_30 : decode cX6_bind 30 = .ok (.iconst 1, 1) := by decide +kernel
theorem dX6_bind_31 : decode cX6_bind 31 = .ok (.invokevirtual 208, 3) := by decide +kernel
theorem dX6_bind_34 : decode cX6_bind 34 = .ok (.ireturn, 1) := by decide +kernel
theorem dX6_bind_35 : decode cX6_bind 35 = .ok (.aload_n 0, 1) := by decide +kernel
theorem dX6_bind_36 : decode cX6_bind 36 = .ok (.aload_n 0, 1) := by decide +kernel
theorem dX6_bind_37 : decode cX6_bind 37 = .ok (.iload_n 1, 1) := by decide +kernel
theorem dX6_bind_38 : decode cX6_bind 38 = .ok (.ifCond .eq 12, 3) := by decide +kernel
theorem dX6_bind_41 : decode cX6_bind 41 = .ok (.aload_n 0, 1) := by decide +kernel
theorem dX6_bind_42 : decode cX6_bind 42 = .ok (.iload 5, 2) := by decide +kernel
theorem dX6_bind_44 : decode cX6_bind 44 = .ok (.invokevirtual 154, 3) := by decide +kernel
theorem dX6_bind_47 : decode cX6_bind 47 = .ok (.goto 5, 3) := by decide +kernel
theorem dX6_bind_50 : decode cX6_bind 50 = .ok (.iload 5, 2) := by decide +kernel
theorem dX6_bind_52 : decode cX6_bind 52 = .ok (.iload 4, 2) := by decide +kernel
theorem dX6_bind_54 : decode cX6_bind 54 = .ok (.iconst 0, 1) := by decide +kernel
theorem dX6_bind_55 : decode cX6_bind 55 = .ok (.invokevirtual 171, 3) := by decide +kernel
theorem dX6_bind_58 : decode cX6_bind 58 = .ok (.invokevirtual 159, 3) := by decide +kernel
theorem dX6_bind_61 : decode cX6_bind 61 = .ok (.istore 6, 2) := by decide +kernel
theorem dX6_bind_63 : decode cX6_bind 63 = .ok (.aload_n 0, 1) := by decide +kernel
theorem dX6_bind_64 : decode cX6_bind 64 = .ok (.iload_n 1, 1) := by decide +kernel
theorem dX6_bind_65 : decode cX6_bind 65 = .ok (.ifCond .eq 12, 3) := by decide +kernel
theorem dX6_bind_68 : decode cX6_bind 68 = .ok (.aload_n 0, 1) := by decide +kernel
theorem dX6_bind_69 : decode cX6_bind 69 = .ok (.iload 6, 2) := by decide +kernel
theorem dX6_bind_71 : decode cX6_bind 71 = .ok (.invokevirtual 154, 3) := by decide +kernel
theorem dX6_bind_74 : decode cX6_bind 74 = .ok (.goto 5, 3) := by decide +kernel
theorem dX6_bind_77 : decode cX6_bind 77 = .ok (.iload 6, 2) := by decide +kernel
theorem dX6_bind_79 : decode cX6_bind 79 = .ok (.iconst 2, 1) := by decide +kernel
theorem dX6_bind_80 : decode cX6_bind 80 = .ok (.invokevirtual 227, 3) := by decide +kernel
theorem dX6_bind_83 : decode cX6_bind 83 = .ok (.ireturn, 1) := by decide +kernel
theorem dX6_join_0 : decode cX6_join 0 = .ok (.aload_n 0, 1) := by decide +kernel
theorem dX6_join_1 : decode cX6_join 1 = .ok (.iconst 0, 1) := by decide +kernel
theorem dX6_join_2 : decode cX6_join 2 = .ok (.putfield 93, 3) := by decide +kernel
theorem dX6_join_5 : decode cX6_join 5 = .ok (.iload_n 1, 1) := by decide +kernel
theorem dX6_join_6 : decode cX6_join 6 = .ok (.ifCond .lt 8, 3) := by decide +kernel
theorem dX6_join_9 : decode cX6_join 9 = .ok (.iload_n 1, 1) := by decide +kernel
theorem dX6_join_10 : decode cX6_join 10 = .ok (.iconst 5, 1) := by decide +kernel
theorem dX6_join_11 : decode cX6_join 11 = .ok (.if_icmp .le 9, 3) := by decide +kernel
theorem dX6_join_14 : decode cX6_join 14 = .ok (.aload_n 0, 1) := by decide +kernel
theorem dX6_join_15 : decode cX6_join 15 = .ok (.iconst 1, 1) := by decide +kernel
theorem dX6_join_16 : decode cX6_join 16 = .ok (.invokevirtual 208, 3) := by decide +kernel
theorem dX6_join_19 : decode cX6_join 19 = .ok (.ireturn, 1) := by decide +kernel
theorem dX6_join_20 : decode cX6_join 20 = .ok (.iload_n 1, 1) := by decide +kernel
theorem dX6_join_21 : decode cX6_join 21 = .ok (.iconst 5, 1) := by decide +kernel
theorem dX6_join_22 : decode cX6_join 22 = .ok (.if_icmp .ne 31, 3) := by decide +kernel
theorem dX6_join_25 : decode cX6_join 25 = .ok (.iload_n 2, 1) := by decide +kernel
theorem dX6_join_26 : decode cX6_join 26 = .ok (.iconst (-1), 1) := by decide +kernel
theorem dX6_join_27 : decode cX6_join 27 = .ok (.if_icmp .ne 8, 3) := by decide +kernel
theorem dX6_join_30 : decode cX6_join 30 = .ok (.iload_n 3, 1) := by decide +kernel
theorem dX6_join_31 : decode cX6_join 31 = .ok (.iconst (-1), 1) := by decide +kernel
theorem dX6_join_32 : decode cX6_join 32 = .ok (.if_icmp .eq 11, 3) := by decide +kernel
theorem dX6_join_35 : decode cX6_join 35 = .ok (.aload_n 0, 1) := by decide +kernel
theorem dX6_join_36 : decode cX6_join 36 = .ok (.iconst 1, 1) := by decide +kernel
theorem dX6_join_37 : decode cX6_join 37 = .ok (.invokevirtual 208, 3) := by decide +kernel
theorem dX6_join_40 : decode cX6_join 40 = .ok (.goto 12, 3) := by decide +kernel
theorem dX6_join_43 : decode cX6_join 43 = .ok (.aload_n 0, 1) := by decide +kernel
theorem dX6_join_44 : decode cX6_join 44 = .ok (.aload_n 0, 1) := by decide +kernel
theorem dX6_join_45 : decode cX6_join 45 = .ok (.invokevirtual 147, 3) := by decide +kernel
theorem dX6_join_48 : decode cX6_join 48 = .ok (.iconst 2, 1) := by decide +kernel
theorem dX6_join_49 : decode cX6_join 49 = .ok (.invokevirtual 227, 3) := by decide +kernel
theorem dX6_join_52 : decode cX6_join 52 = .ok (.ireturn, 1) := by decide +kernel
theorem dX6_join_53 : decode cX6_join 53 = .ok (.aload_n 0, 1) := by decide +kernel
theorem dX6_join_54 : decode cX6_join 54 = .ok (.iload_n 2, 1) := by decide +kernel
theorem dX6_join_55 : decode cX6_join 55 = .ok (.invokevirtual 215, 3) := by decide +kernel
theorem dX6_join_58 : decode cX6_join 58 = .ok (.istore 4, 2) := by decide +kernel
theorem dX6_join_60 : decode cX6_join 60 = .ok (.aload_n 0, 1) := by decide +kernel
theorem dX6_join_61 : decode cX6_join 61 = .ok (.iload_n 3, 1) := by decide +kernel
theorem dX6_join_62 : decode cX6_join 62 = .ok (.invokevirtual 215, 3) := by decide +kernel
theorem dX6_join_65 : decode cX6_join 65 = .ok (.istore 5, 2) := by decide +kernel
theorem dX6_join_67 : decode cX6_join 67 = .ok (.iload 4, 2) := by decide +kernel
theorem dX6_join_69 : decode cX6_join 69 = .ok (.ifCond .eq 20, 3) := by decide +kernel
theorem dX6_join_72 : decode cX6_join 72 = .ok (.iload_n 1, 1) := by decide +kernel
theorem dX6_join_73 : decode cX6_join 73 = .ok (.ifCond .ne 11, 3) := by decide +kernel
theorem dX6_join_76 : decode cX6_join 76 = .ok (.iload_n 3, 1) := by decide +kernel
theorem dX6_join_77 : decode cX6_join 77 = .ok (.iconst (-1), 1) := by decide +kernel
theorem dX6_join_78 : decode cX6_join 78 = .ok (.if_icmp .eq 17, 3) := by decide +kernel
theorem dX6_join_81 : decode cX6_join 81 = .ok (.goto 8, 3) := by decide +kernel
theorem dX6_join_84 : decode cX6_join 84 = .ok (.iload 5, 2) := by decide +kernel
theorem dX6_join_86 : decode cX6_join 86 = .ok (.ifCond .ne 9, 3) := by decide +kernel
theorem dX6_join_89 : decode cX6_join 89 = .ok (.aload_n 0, 1) := by decide +kernel
theorem dX6_join_90 : decode cX6_join 90 = .ok (.iconst 1, 1) := by decide +kernel
theorem dX6_join_91 : decode cX6_join 91 = .ok (.invokevirtual 208, 3) := by decide +kernel
theorem dX6_join_94 : decode cX6_join 94 = .ok (.ireturn, 1) := by decide +kernel
theorem dX6_join_95 : decode cX6_join 95 = .ok (.iload_n 1, 1) := by decide +kernel
theorem dX6_join_96 : decode cX6_join 96 = .ok (.tableswitch 98 0 3 #[32, 44, 58, 84], 32) := by decide +kernel
theorem dX6_join_128 : decode cX6_join 128 = .ok (.aload_n 0, 1) := by decide +kernel
theorem dX6_join_129 : decode cX6_join 129 = .ok (.aload_n 0, 1) := by decide +kernel
theorem dX6_join_130 : decode cX6_join 130 = .ok (.iload 4, 2) := by decide +kernel
theorem dX6_join_132 : decode cX6_join 132 = .ok (.invokevirtual 154, 3) := by decide +kernel
theorem dX6_join_135 : decode cX6_join 135 = .ok (.iconst 2, 1) := by decide +kernel
theorem dX6_join_136 : decode cX6_join 136 = .ok (.invokevirtual 227, 3) := by decide +kernel
theorem dX6_join_139 : decode cX6_join 139 = .ok (.ireturn, 1) := by decide +kernel
theorem dX6_join_140 : decode cX6_join 140 = .ok (.aload_n 0, 1) := by decide +kernel
theorem dX6_join_141 : decode cX6_join 141 = .ok (.aload_n 0, 1) := by decide +kernel
theorem dX6_join_142 : decode cX6_join 142 = .ok (.iload 4, 2) := by decide +kernel
theorem dX6_join_144 : decode cX6_join 144 = .ok (.iload 5, 2) := by decide +kernel
theorem dX6_join_146 : decode cX6_join 146 = .ok (.invokevirtual 157, 3) := by decide +kernel
theorem dX6_join_149 : decode cX6_join 149 = .ok (.iconst 2, 1) := by decide +kernel
theorem dX6_join_150 : decode cX6_join 150 = .ok (.invokevirtual 227, 3) := by decide +kernel
theorem dX6_join_153 : decode cX6_join 153 = .ok (.ireturn, 1) := by decide +kernel
theorem dX6_join_154 : decode cX6_join 154 = .ok (.aload_n 0, 1) := by decide +kernel
theorem dX6_join_155 : decode cX6_join 155 = .ok (.aload_n 0, 1) := by decide +kernel
theorem dX6_join_156 : decode cX6_join 156 = .ok (.aload_n 0, 1) := by decide +kernel
theorem dX6_join_157 : decode cX6_join 157 = .ok (.aload_n 0, 1) := by decide +kernel
theorem dX6_join_158 : decode cX6_join 158 = .ok (.iload 4, 2) := by decide +kernel
theorem dX6_join_160 : decode cX6_join 160 = .ok (.invokevirtual 154, 3) := by decide +kernel
theorem dX6_join_163 : decode cX6_join 163 = .ok (.aload_n 0, 1) := by decide +kernel
theorem dX6_join_164 : decode cX6_join 164 = .ok (.iload 5, 2) := by decide +kernel
theorem dX6_join_166 : decode cX6_join 166 = .ok (.invokevirtual 154, 3) := by decide +kernel
theorem dX6_join_169 : decode cX6_join 169 = .ok (.invokevirtual 157, 3) := by decide +kernel
theorem dX6_join_172 : decode cX6_join 172 = .ok (.invokevirtual 154, 3) := by decide +kernel
theorem dX6_join_175 : decode cX6_join 175 = .ok (.iconst 2, 1) := by decide +kernel
theorem dX6_join_176 : decode cX6_join 176 = .ok (.invokevirtual 227, 3) := by decide +kernel
theorem dX6_join_179 : decode cX6_join 179 = .ok (.ireturn, 1) := by decide +kernel
theorem dX6_join_180 : decode cX6_join 180 = .ok (.aload_n 0, 1) := by decide +kernel
theorem dX6_join_181 : decode cX6_join 181 = .ok (.aload_n 0, 1) := by decide +kernel
theorem dX6_join_182 : decode cX6_join 182 = .ok (.iload 4, 2) := by decide +kernel
theorem dX6_join_184 : decode cX6_join 184 = .ok (.iload 5, 2) := by decide +kernel
theorem dX6_join_186 : decode cX6_join 186 = .ok (.invokevirtual 202, 3) := by decide +kernel
theorem dX6_join_189 : decode cX6_join 189 = .ok (.iconst 2, 1) := by decide +kernel
theorem dX6_join_190 : decode cX6_join 190 = .ok (.invokevirtual 227, 3) := by decide +kernel
theorem dX6_join_193 : decode cX6_join 193 = .ok (.ireturn, 1) := by decide +kernel
theorem dX6_join_194 : decode cX6_join 194 = .ok (.aload_n 0, 1) := by decide +kernel
theorem dX6_join_195 : decode cX6_join 195 = .ok (.aload_n 0, 1) := by decide +kernel
theorem dX6_join_196 : decode cX6_join 196 = .ok (.aload_n 0, 1) := by decide +kernel
theorem dX6_join_197 : decode cX6_join 197 = .ok (.iload 4, 2) := by decide +kernel
theorem dX6_join_199 : decode cX6_join 199 = .ok (.iload 5, 2) := by decide +kernel
theorem dX6_join_201 : decode cX6_join 201 = .ok (.invokevirtual 202, 3) := by decide +kernel
theorem dX6_join_204 : decode cX6_join 204 = .ok (.aload_n 0, 1) := by decide +kernel
theorem dX6_join_205 : decode cX6_join 205 = .ok (.iload 5, 2) := by decide +kernel
theorem dX6_join_207 : decode cX6_join 207 = .ok (.iload 4, 2) := by decide +kernel
theorem dX6_join_209 : decode cX6_join 209 = .ok (.invokevirtual 202, 3) := by decide +kernel
theorem dX6_join_212 : decode cX6_join 212 = .ok (.invokevirtual 157, 3) := by decide +kernel
theorem dX6_join_215 : decode cX6_join 215 = .ok (.iconst 2, 1) := by decide +kernel
theorem dX6_join_216 : decode cX6_join 216 = .ok (.invokevirtual 227, 3) := by decide +kernel
theorem dX6_join_219 : decode cX6_join 219 = .ok (.ireturn, 1) := by decide +kernel
