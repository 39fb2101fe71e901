theorem dX5_define_0 : decode cX5_define 0 = .ok (.aload_n 0, 1) := by decide +kernel
theorem dX5_define_1 : decode cX5_define 1 = .ok (.iload_n 2, 1) := by decide +kernel
theorem dX5_define_2 : decode cX5_define 2 = .ok (.invokevirtual 67, 3) := by decide +kernel
theorem dX5_define_5 : decode cX5_define 5 = .ok (.astore_n 3, 1) := by decide +kernel
theorem dX5_define_6 : decode cX5_define 6 = .ok (.aload_n 0, 1) := by decide +kernel
theorem dX5_define_7 : decode cX5_define 7 = .ok (.iload_n 1, 1) := by decide +kernel
theorem dX5_define_8 : decode cX5_define 8 = .ok (.invokevirtual 71, 3) := by decide +kernel
theorem dX5_define_11 : decode cX5_define 11 = .ok (.ifCond .eq 20, 3) := by decide +kernel
theorem dX5_define_14 : decode cX5_define 14 = .ok (.aload_n 3, 1) := by decide +kernel
theorem dX5_define_15 : decode cX5_define 15 = .ok (.ifnull 16, 3) := by decide +kernel
theorem dX5_define_18 : decode cX5_define 18 = .ok (.aload_n 3, 1) := by decide +kernel
theorem dX5_define_19 : decode cX5_define 19 = .ok (.getfield 75, 3) := by decide +kernel
theorem dX5_define_22 : decode cX5_define 22 = .ok (.aload_n 0, 1) := by decide +kernel
theorem dX5_define_23 : decode cX5_define 23 = .ok (.getfield 15, 3) := by decide +kernel
theorem dX5_define_26 : decode cX5_define 26 = .ok (.iload_n 1, 1) := by decide +kernel
theorem dX5_define_27 : decode cX5_define 27 = .ok (.iaload, 1) := by decide +kernel
theorem dX5_define_28 : decode cX5_define 28 = .ok (.if_icmp .le 13, 3) := by decide +kernel
theorem dX5_define_31 : decode cX5_define 31 = .ok (.new 51, 3) := by decide +kernel
theorem dX5_define_34 : decode cX5_define 34 = .ok (.dup, 1) := by decide +kernel
theorem dX5_define_35 : decode cX5_define 35 = .ok (.ldc 78, 2) := by decide +kernel
theorem dX5_define_37 : decode cX5_define 37 = .ok (.invokespecial 55, 3) := by decide +kernel
theorem dX5_define_40 : decode cX5_define 40 = .ok (.athrow, 1) := by decide +kernel
theorem dX5_define_41 : decode cX5_define 41 = .ok (.aload_n 0, 1) := by decide +kernel
theorem dX5_define_42 : decode cX5_define 42 = .ok (.getfield 19, 3) := by decide +kernel
theorem dX5_define_45 : decode cX5_define 45 = .ok (.iload_n 1, 1) := by decide +kernel
theorem dX5_define_46 : decode cX5_define 46 = .ok (.aaload, 1) := by decide +kernel
theorem dX5_define_47 : decode cX5_define 47 = .ok (.ifnull 7, 3) := by decide +kernel
theorem dX5_define_50 : decode cX5_define 50 = .ok (.iconst 1, 1) := by decide +kernel
theorem dX5_define_51 : decode cX5_define 51 = .ok (.goto 4, 3) := by decide +kernel
theorem dX5_define_54 : decode cX5_define 54 = .ok (.iconst 0, 1) := by decide +kernel
theorem dX5_define_55 : decode cX5_define 55 = .ok (.istore 4, 2) := by decide +kernel
theorem dX5_define_57 : decode cX5_define 57 = .ok (.aload_n 0, 1) := by decide +kernel
theorem dX5_define_58 : decode cX5_define 58 = .ok (.getfield 19, 3) := by decide +kernel
theorem dX5_define_61 : decode cX5_define 61 = .ok (.iload_n 1, 1) := by decide +kernel
theorem dX5_define_62 : decode cX5_define 62 = .ok (.aload_n 3, 1) := by decide +kernel
theorem dX5_define_63 : decode cX5_define 63 = .ok (.aastore, 1) := by decide +kernel
theorem dX5_define_64 : decode cX5_define 64 = .ok (.iload 4, 2) := by decide +kernel
theorem dX5_define_66 : decode cX5_define 66 = .ok (.ireturn, 1) := by decide +kernel
theorem dX5_loadImplied_0 : decode cX5_loadImplied 0 = .ok (.aload_n 0, 1) := by decide +kernel
theorem dX5_loadImplied_1 : decode cX5_loadImplied 1 = .ok (.aload_n 2, 1) := by decide +kernel
theorem dX5_loadImplied_2 : decode cX5_loadImplied 2 = .ok (.invokevirtual 130, 3) := by decide +kernel
theorem dX5_loadImplied_5 : decode cX5_loadImplied 5 = .ok (.aload_n 0, 1) := by decide +kernel
theorem dX5_loadImplied_6 : decode cX5_loadImplied 6 = .ok (.aload_n 1, 1) := by decide +kernel
theorem dX5_loadImplied_7 : decode cX5_loadImplied 7 = .ok (.invokevirtual 287, 3) := by decide +kernel
theorem dX5_loadImplied_10 : decode cX5_loadImplied 10 = .ok (.return_, 1) := by decide +kernel
theorem dX5_joinIntoWork_0 : decode cX5_joinIntoWork 0 = .ok (.iload_n 1, 1) := by decide +kernel
theorem dX5_joinIntoWork_1 : decode cX5_joinIntoWork 1 = .ok (.tableswitch 167 0 4 #[35, 53, 72, 123, 135], 35) := by decide +kernel
theorem dX5_joinIntoWork_36 : decode cX5_joinIntoWork 36 = .ok (.aload_n 0, 1) := by decide +kernel
theorem dX5_joinIntoWork_37 : decode cX5_joinIntoWork 37 = .ok (.getfield 32, 3) := by decide +kernel
theorem dX5_joinIntoWork_40 : decode cX5_joinIntoWork 40 = .ok (.aload_n 2, 1) := by decide +kernel
theorem dX5_joinIntoWork_41 : decode cX5_joinIntoWork 41 = .ok (.invokevirtual 130, 3) := by decide +kernel
theorem dX5_joinIntoWork_44 : decode cX5_joinIntoWork 44 = .ok (.aload_n 0, 1) := by decide +kernel
theorem dX5_joinIntoWork_45 : decode cX5_joinIntoWork 45 = .ok (.getfield 32, 3) := by decide +kernel
theorem dX5_joinIntoWork_48 : decode cX5_joinIntoWork 48 = .ok (.invokevirtual 216, 3) := by decide +kernel
theorem dX5_joinIntoWork_51 : decode cX5_joinIntoWork 51 = .ok (.goto 125, 3) := by decide +kernel
theorem dX5_joinIntoWork_54 : decode cX5_joinIntoWork 54 = .ok (.aload_n 0, 1) := by decide +kernel
theorem dX5_joinIntoWork_55 : decode cX5_joinIntoWork 55 = .ok (.getfield 32, 3) := by decide +kernel
theorem dX5_joinIntoWork_58 : decode cX5_joinIntoWork 58 = .ok (.aload_n 3, 1) := by decide +kernel
theorem dX5_joinIntoWork_59 : decode cX5_joinIntoWork 59 = .ok (.invokevirtual 130, 3) := by decide +kernel
theorem dX5_joinIntoWork_62 : decode cX5_joinIntoWork 62 = .ok (.aload_n 0, 1) := by decide +kernel
theorem dX5_joinIntoWork_63 : decode cX5_joinIntoWork 63 = .ok (.getfield 32, 3) := by decide +kernel
theorem dX5_joinIntoWork_66 : decode cX5_joinIntoWork 66 = .ok (.aload_n 2, 1) := by decide +kernel
theorem dX5_joinIntoWork_67 : decode cX5_joinIntoWork 67 = .ok (.invokevirtual 280, 3) := by decide +kernel
theorem dX5_joinIntoWork_70 : decode cX5_joinIntoWork 70 = .ok (.goto 106, 3) := by decide +kernel
theorem dX5_joinIntoWork_73 : decode cX5_joinIntoWork 73 = .ok (.aload_n 0, 1) := by decide +kernel
theorem dX5_joinIntoWork_74 : decode cX5_joinIntoWork 74 = .ok (.getfield 36, 3) := by decide +kernel
theorem dX5_joinIntoWork_77 : decode cX5_joinIntoWork 77 = .ok (.aload_n 2, 1) := by decide +kernel
theorem dX5_joinIntoWork_78 : decode cX5_joinIntoWork 78 = .ok (.invokevirtual 130, 3) := by decide +kernel
theorem dX5_joinIntoWork_81 : decode cX5_joinIntoWork 81 = .ok (.aload_n 0, 1) := by decide +kernel
theorem dX5_joinIntoWork_82 : decode cX5_joinIntoWork 82 = .ok (.getfield 36, 3) := by decide +kernel
theorem dX5_joinIntoWork_85 : decode cX5_joinIntoWork 85 = .ok (.invokevirtual 216, 3) := by decide +kernel
theorem dX5_joinIntoWork_88 : decode cX5_joinIntoWork 88 = .ok (.aload_n 0, 1) := by decide +kernel
theorem dX5_joinIntoWork_89 : decode cX5_joinIntoWork 89 = .ok (.getfield 32, 3) := by decide +kernel
theorem dX5_joinIntoWork_92 : decode cX5_joinIntoWork 92 = .ok (.aload_n 3, 1) := by decide +kernel
theorem dX5_joinIntoWork_93 : decode cX5_joinIntoWork 93 = .ok (.invokevirtual 130, 3) := by decide +kernel
theorem dX5_joinIntoWork_96 : decode cX5_joinIntoWork 96 = .ok (.aload_n 0, 1) := by decide +kernel
theorem dX5_joinIntoWork_97 : decode cX5_joinIntoWork 97 = .ok (.getfield 32, 3) := by decide +kernel
theorem dX5_joinIntoWork_100 : decode cX5_joinIntoWork 100 = .ok (.invokevirtual 216, 3) := by decide +kernel
theorem dX5_joinIntoWork_103 : decode cX5_joinIntoWork 103 = .ok (.aload_n 0, 1) := by decide +kernel
theorem dX5_joinIntoWork_104 : decode cX5_joinIntoWork 104 = .ok (.getfield 32, 3) := by decide +kernel
theorem dX5_joinIntoWork_107 : decode cX5_joinIntoWork 107 = .ok (.aload_n 0, 1) := by decide +kernel
theorem dX5_joinIntoWork_108 : decode cX5_joinIntoWork 108 = .ok (.getfield 36, 3) := by decide +kernel
theorem dX5_joinIntoWork_111 : decode cX5_joinIntoWork 111 = .ok (.invokevirtual 219, 3) := by decide +kernel
theorem dX5_joinIntoWork_114 : decode cX5_joinIntoWork 114 = .ok (.aload_n 0, 1) := by decide +kernel
theorem dX5_joinIntoWork_115 : decode cX5_joinIntoWork 115 = .ok (.getfield 32, 3) := by decide +kernel
theorem dX5_joinIntoWork_118 : decode cX5_joinIntoWork 118 = .ok (.invokevirtual 216, 3) := by decide +kernel
theorem dX5_joinIntoWork_121 : decode cX5_joinIntoWork 121 = .ok (.goto 55, 3) := by decide +kernel
theorem dX5_joinIntoWork_124 : decode cX5_joinIntoWork 124 = .ok (.aload_n 0, 1) := by decide +kernel
theorem dX5_joinIntoWork_125 : decode cX5_joinIntoWork 125 = .ok (.getfield 32, 3) := by decide +kernel
theorem dX5_joinIntoWork_128 : decode cX5_joinIntoWork 128 = .ok (.aload_n 2, 1) := by decide +kernel
theorem dX5_joinIntoWork_129 : decode cX5_joinIntoWork 129 = .ok (.aload_n 3, 1) := by decide +kernel
theorem dX5_joinIntoWork_130 : decode cX5_joinIntoWork 130 = .ok (.invokestatic 283, 3) := by decide +kernel
theorem dX5_joinIntoWork_133 : decode cX5_joinIntoWork 133 = .ok (.goto 43, 3) := by decide +kernel
theorem dX5_joinIntoWork_136 : decode cX5_joinIntoWork 136 = .ok (.aload_n 0, 1) := by decide +kernel
theorem dX5_joinIntoWork_137 : decode cX5_joinIntoWork 137 = .ok (.getfield 36, 3) := by decide +kernel
theorem dX5_joinIntoWork_140 : decode cX5_joinIntoWork 140 = .ok (.aload_n 2, 1) := by decide +kernel
theorem dX5_joinIntoWork_141 : decode cX5_joinIntoWork 141 = .ok (.aload_n 3, 1) := by decide +kernel
theorem dX5_joinIntoWork_142 : decode cX5_joinIntoWork 142 = .ok (.invokestatic 283, 3) := by decide +kernel
theorem dX5_joinIntoWork_145 : decode cX5_joinIntoWork 145 = .ok (.aload_n 0, 1) := by decide +kernel
theorem dX5_joinIntoWork_146 : decode cX5_joinIntoWork 146 = .ok (.getfield 32, 3) := by decide +kernel
theorem dX5_joinIntoWork_149 : decode cX5_joinIntoWork 149 = .ok (.aload_n 3, 1) := by decide +kernel
theorem dX5_joinIntoWork_150 : decode cX5_joinIntoWork 150 = .ok (.aload_n 2, 1) := by decide +kernel
theorem dX5_joinIntoWork_151 : decode cX5_joinIntoWork 151 = .ok (.invokestatic 283, 3) := by decide +kernel
theorem dX5_joinIntoWork_154 : decode cX5_joinIntoWork 154 = .ok (.aload_n 0, 1) := by decide +kernel
theorem dX5_joinIntoWork_155 : decode cX5_joinIntoWork 155 = .ok (.getfield 32, 3) := by decide +kernel
theorem dX5_joinIntoWork_158 : decode cX5_joinIntoWork 158 = .ok (.aload_n 0, 1) := by decide +kernel
theorem dX5_joinIntoWork_159 : decode cX5_joinIntoWork 159 = .ok (.getfield 36, 3) := by decide +kernel
theorem dX5_joinIntoWork_162 : decode cX5_joinIntoWork 162 = .ok (.invokevirtual 219, 3) := by decide +kernel
theorem dX5_joinIntoWork_165 : decode cX5_joinIntoWork 165 = .ok (.goto 11, 3) := by decide +kernel
theorem dX5_joinIntoWork_168 : decode cX5_joinIntoWork 168 = .ok (.aload_n 0, 1) := by decide +kernel
theorem dX5_joinIntoWork_169 : decode cX5_joinIntoWork 169 = .ok (.getfield 32, 3) := by decide +kernel
theorem dX5_joinIntoWork_172 : decode cX5_joinIntoWork 172 = .ok (.iconst 3, 1) := by decide +kernel
theorem dX5_joinIntoWork_173 : decode cX5_joinIntoWork 173 = .ok (.invokevirtual 92, 3) := by decide +kernel
theorem dX5_joinIntoWork_176 : decode cX5_joinIntoWork 176 = .ok (.return_, 1) := by decide +kernel
