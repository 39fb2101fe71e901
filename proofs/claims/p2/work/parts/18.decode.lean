theorem dX4_open_0 : decode cX4_open 0 = .ok (.aload_n 0, 1) := by decide +kernel
theorem dX4_open_1 : decode cX4_open 1 = .ok (.invokevirtual 125, 3) := by decide +kernel
theorem dX4_open_4 : decode cX4_open 4 = .ok (.istore_n 2, 1) := by decide +kernel
theorem dX4_open_5 : decode cX4_open 5 = .ok (.aload_n 0, 1) := by decide +kernel
theorem dX4_open_6 : decode cX4_open 6 = .ok (.iload_n 2, 1) := by decide +kernel
theorem dX4_open_7 : decode cX4_open 7 = .ok (.iconst 1, 1) := by decide +kernel
theorem dX4_open_8 : decode cX4_open 8 = .ok (.iadd, 1) := by decide +kernel
theorem dX4_open_9 : decode cX4_open 9 = .ok (.invokevirtual 112, 3) := by decide +kernel
theorem dX4_open_12 : decode cX4_open 12 = .ok (.istore_n 3, 1) := by decide +kernel
theorem dX4_open_13 : decode cX4_open 13 = .ok (.aload_n 0, 1) := by decide +kernel
theorem dX4_open_14 : decode cX4_open 14 = .ok (.iload_n 2, 1) := by decide +kernel
theorem dX4_open_15 : decode cX4_open 15 = .ok (.iconst 2, 1) := by decide +kernel
theorem dX4_open_16 : decode cX4_open 16 = .ok (.iadd, 1) := by decide +kernel
theorem dX4_open_17 : decode cX4_open 17 = .ok (.invokevirtual 112, 3) := by decide +kernel
theorem dX4_open_20 : decode cX4_open 20 = .ok (.istore 4, 2) := by decide +kernel
theorem dX4_open_22 : decode cX4_open 22 = .ok (.aload_n 0, 1) := by decide +kernel
theorem dX4_open_23 : decode cX4_open 23 = .ok (.aload_n 1, 1) := by decide +kernel
theorem dX4_open_24 : decode cX4_open 24 = .ok (.invokevirtual 132, 3) := by decide +kernel
theorem dX4_open_27 : decode cX4_open 27 = .ok (.iconst 0, 1) := by decide +kernel
theorem dX4_open_28 : decode cX4_open 28 = .ok (.istore 5, 2) := by decide +kernel
theorem dX4_open_30 : decode cX4_open 30 = .ok (.iload 5, 2) := by decide +kernel
theorem dX4_open_32 : decode cX4_open 32 = .ok (.aload_n 0, 1) := by decide +kernel
theorem dX4_open_33 : decode cX4_open 33 = .ok (.getfield 15, 3) := by decide +kernel
theorem dX4_open_36 : decode cX4_open 36 = .ok (.if_icmp .ge 57, 3) := by decide +kernel
theorem dX4_open_39 : decode cX4_open 39 = .ok (.iload 5, 2) := by decide +kernel
theorem dX4_open_41 : decode cX4_open 41 = .ok (.sipush 512, 3) := by decide +kernel
theorem dX4_open_44 : decode cX4_open 44 = .ok (.if_icmp .ge 49, 3) := by decide +kernel
theorem dX4_open_47 : decode cX4_open 47 = .ok (.aload_n 0, 1) := by decide +kernel
theorem dX4_open_48 : decode cX4_open 48 = .ok (.getfield 11, 3) := by decide +kernel
theorem dX4_open_51 : decode cX4_open 51 = .ok (.iload 5, 2) := by decide +kernel
theorem dX4_open_53 : decode cX4_open 53 = .ok (.iaload, 1) := by decide +kernel
theorem dX4_open_54 : decode cX4_open 54 = .ok (.invokestatic 49, 3) := by decide +kernel
theorem dX4_open_57 : decode cX4_open 57 = .ok (.iconst 1, 1) := by decide +kernel
theorem dX4_open_58 : decode cX4_open 58 = .ok (.if_icmp .ne 29, 3) := by decide +kernel
theorem dX4_open_61 : decode cX4_open 61 = .ok (.aload_n 0, 1) := by decide +kernel
theorem dX4_open_62 : decode cX4_open 62 = .ok (.getfield 11, 3) := by decide +kernel
theorem dX4_open_65 : decode cX4_open 65 = .ok (.iload 5, 2) := by decide +kernel
theorem dX4_open_67 : decode cX4_open 67 = .ok (.aload_n 0, 1) := by decide +kernel
theorem dX4_open_68 : decode cX4_open 68 = .ok (.getfield 11, 3) := by decide +kernel
theorem dX4_open_71 : decode cX4_open 71 = .ok (.iload 5, 2) := by decide +kernel
theorem dX4_open_73 : decode cX4_open 73 = .ok (.iaload, 1) := by decide +kernel
theorem dX4_open_74 : decode cX4_open 74 = .ok (.invokestatic 91, 3) := by decide +kernel
theorem dX4_open_77 : decode cX4_open 77 = .ok (.ifCond .ne 7, 3) := by decide +kernel
theorem dX4_open_80 : decode cX4_open 80 = .ok (.iload_n 3, 1) := by decide +kernel
theorem dX4_open_81 : decode cX4_open 81 = .ok (.goto 5, 3) := by decide +kernel
theorem dX4_open_84 : decode cX4_open 84 = .ok (.iload 4, 2) := by decide +kernel
theorem dX4_open_86 : decode cX4_open 86 = .ok (.iastore, 1) := by decide +kernel
theorem dX4_open_87 : decode cX4_open 87 = .ok (.iinc 5 1, 3) := by decide +kernel
theorem dX4_open_90 : decode cX4_open 90 = .ok (.goto (-60), 3) := by decide +kernel
theorem dX4_open_93 : decode cX4_open 93 = .ok (.iload_n 2, 1) := by decide +kernel
theorem dX4_open_94 : decode cX4_open 94 = .ok (.iconst 1, 1) := by decide +kernel
theorem dX4_open_95 : decode cX4_open 95 = .ok (.if_icmp .ne 7, 3) := by decide +kernel
theorem dX4_open_98 : decode cX4_open 98 = .ok (.aload_n 0, 1) := by decide +kernel
theorem dX4_open_99 : decode cX4_open 99 = .ok (.invokevirtual 94, 3) := by decide +kernel
theorem dX4_open_102 : decode cX4_open 102 = .ok (.return_, 1) := by decide +kernel
theorem dX2_init_0 : decode cX2_init 0 = .ok (.aload_n 0, 1) := by decide +kernel
theorem dX2_init_1 : decode cX2_init 1 = .ok (.invokespecial 3, 3) := by decide +kernel
theorem dX2_init_4 : decode cX2_init 4 = .ok (.iconst 0, 1) := by decide +kernel
theorem dX2_init_5 : decode cX2_init 5 = .ok (.istore_n 2, 1) := by decide +kernel
theorem dX2_init_6 : decode cX2_init 6 = .ok (.iconst 0, 1) := by decide +kernel
theorem dX2_init_7 : decode cX2_init 7 = .ok (.istore_n 3, 1) := by decide +kernel
theorem dX2_init_8 : decode cX2_init 8 = .ok (.iconst 0, 1) := by decide +kernel
theorem dX2_init_9 : decode cX2_init 9 = .ok (.istore 4, 2) := by decide +kernel
theorem dX2_init_11 : decode cX2_init 11 = .ok (.iload 4, 2) := by decide +kernel
theorem dX2_init_13 : decode cX2_init 13 = .ok (.aload_n 1, 1) := by decide +kernel
theorem dX2_init_14 : decode cX2_init 14 = .ok (.arraylength, 1) := by decide +kernel
theorem dX2_init_15 : decode cX2_init 15 = .ok (.if_icmp .ge 58, 3) := by decide +kernel
theorem dX2_init_18 : decode cX2_init 18 = .ok (.aload_n 1, 1) := by decide +kernel
theorem dX2_init_19 : decode cX2_init 19 = .ok (.iload 4, 2) := by decide +kernel
theorem dX2_init_21 : decode cX2_init 21 = .ok (.iaload, 1) := by decide +kernel
theorem dX2_init_22 : decode cX2_init 22 = .ok (.invokestatic 9, 3) := by decide +kernel
theorem dX2_init_25 : decode cX2_init 25 = .ok (.istore 5, 2) := by decide +kernel
theorem dX2_init_27 : decode cX2_init 27 = .ok (.aload_n 1, 1) := by decide +kernel
theorem dX2_init_28 : decode cX2_init 28 = .ok (.iload 4, 2) := by decide +kernel
theorem dX2_init_30 : decode cX2_init 30 = .ok (.iaload, 1) := by decide +kernel
theorem dX2_init_31 : decode cX2_init 31 = .ok (.invokestatic 15, 3) := by decide +kernel
theorem dX2_init_34 : decode cX2_init 34 = .ok (.iconst 2, 1) := by decide +kernel
theorem dX2_init_35 : decode cX2_init 35 = .ok (.if_icmp .ne 10, 3) := by decide +kernel
theorem dX2_init_38 : decode cX2_init 38 = .ok (.iload 5, 2) := by decide +kernel
theorem dX2_init_40 : decode cX2_init 40 = .ok (.ifCond .ge 5, 3) := by decide +kernel
theorem dX2_init_43 : decode cX2_init 43 = .ok (.iconst 1, 1) := by decide +kernel
theorem dX2_init_44 : decode cX2_init 44 = .ok (.istore_n 2, 1) := by decide +kernel
theorem dX2_init_45 : decode cX2_init 45 = .ok (.aload_n 1, 1) := by decide +kernel
theorem dX2_init_46 : decode cX2_init 46 = .ok (.iload 4, 2) := by decide +kernel
theorem dX2_init_48 : decode cX2_init 48 = .ok (.iaload, 1) := by decide +kernel
theorem dX2_init_49 : decode cX2_init 49 = .ok (.invokestatic 15, 3) := by decide +kernel
theorem dX2_init_52 : decode cX2_init 52 = .ok (.iconst 1, 1) := by decide +kernel
theorem dX2_init_53 : decode cX2_init 53 = .ok (.if_icmp .ne 14, 3) := by decide +kernel
theorem dX2_init_56 : decode cX2_init 56 = .ok (.iload 5, 2) := by decide +kernel
theorem dX2_init_58 : decode cX2_init 58 = .ok (.iload_n 3, 1) := by decide +kernel
theorem dX2_init_59 : decode cX2_init 59 = .ok (.if_icmp .lt 8, 3) := by decide +kernel
theorem dX2_init_62 : decode cX2_init 62 = .ok (.iload 5, 2) := by decide +kernel
theorem dX2_init_64 : decode cX2_init 64 = .ok (.iconst 1, 1) := by decide +kernel
theorem dX2_init_65 : decode cX2_init 65 = .ok (.iadd, 1) := by decide +kernel
theorem dX2_init_66 : decode cX2_init 66 = .ok (.istore_n 3, 1) := by decide +kernel
theorem dX2_init_67 : decode cX2_init 67 = .ok (.iinc 4 1, 3) := by decide +kernel
theorem dX2_init_70 : decode cX2_init 70 = .ok (.goto (-59), 3) := by decide +kernel
theorem dX2_init_73 : decode cX2_init 73 = .ok (.aload_n 0, 1) := by decide +kernel
theorem dX2_init_74 : decode cX2_init 74 = .ok (.aload_n 1, 1) := by decide +kernel
theorem dX2_init_75 : decode cX2_init 75 = .ok (.putfield 18, 3) := by decide +kernel
theorem dX2_init_78 : decode cX2_init 78 = .ok (.aload_n 0, 1) := by decide +kernel
theorem dX2_init_79 : decode cX2_init 79 = .ok (.iload_n 2, 1) := by decide +kernel
theorem dX2_init_80 : decode cX2_init 80 = .ok (.ifCond .ne 7, 3) := by decide +kernel
theorem dX2_init_83 : decode cX2_init 83 = .ok (.iconst 1, 1) := by decide +kernel
theorem dX2_init_84 : decode cX2_init 84 = .ok (.goto 4, 3) := by decide +kernel
theorem dX2_init_87 : decode cX2_init 87 = .ok (.iconst 0, 1) := by decide +kernel
theorem dX2_init_88 : decode cX2_init 88 = .ok (.putfield 24, 3) := by decide +kernel
theorem dX2_init_91 : decode cX2_init 91 = .ok (.aload_n 0, 1) := by decide +kernel
theorem dX2_init_92 : decode cX2_init 92 = .ok (.iload_n 3, 1) := by decide +kernel
theorem dX2_init_93 : decode cX2_init 93 = .ok (.putfield 28, 3) := by decide +kernel
theorem dX2_init_96 : decode cX2_init 96 = .ok (.return_, 1) := by decide +kernel
theorem dX2_head_0 : decode cX2_head 0 = .ok (.aload_n 0, 1) := by decide +kernel
theorem dX2_head_1 : decode cX2_head 1 = .ok (.getfield 18, 3) := by decide +kernel
theorem dX2_head_4 : decode cX2_head 4 = .ok (.arraylength, 1) := by decide +kernel
theorem dX2_head_5 : decode cX2_head 5 = .ok (.ifCond .le 12, 3) := by decide +kernel
theorem dX2_head_8 : decode cX2_head 8 = .ok (.aload_n 0, 1) := by decide +kernel
theorem dX2_head_9 : decode cX2_head 9 = .ok (.getfield 18, 3) := by decide +kernel
theorem dX2_head_12 : decode cX2_head 12 = .ok (.iconst 0, 1) := by decide +kernel
theorem dX2_head_13 : decode cX2_head 13 = .ok (.iaload, 1) := by decide +kernel
theorem dX2_head_14 : decode cX2_head 14 = .ok (.goto 4, 3) := by decide +kernel
theorem dX2_head_17 : decode cX2_head 17 = .ok (.iconst 3, 1) := by decide +kernel
theorem dX2_head_18 : decode cX2_head 18 = .ok (.ireturn, 1) := by decide +kernel
theorem dX2_isTerm_0 : decode cX2_isTerm 0 = .ok (.aload_n 0, 1) := by decide +kernel
theorem dX2_isTerm_1 : decode cX2_isTerm 1 = .ok (.invokevirtual 32, 3) := by decide +kernel
theorem dX2_isTerm_4 : decode cX2_isTerm 4 = .ok (.invokestatic 15, 3) := by decide +kernel
theorem dX2_isTerm_7 : decode cX2_isTerm 7 = .ok (.iconst 2, 1) := by decide +kernel
theorem dX2_isTerm_8 : decode cX2_isTerm 8 = .ok (.if_icmp .gt 7, 3) := by decide +kernel
theorem dX2_isTerm_11 : decode cX2_isTerm 11 = .ok (.iconst 1, 1) := by decide +kernel
theorem dX2_isTerm_12 : decode cX2_isTerm 12 = .ok (.goto 4, 3) := by decide +kernel
theorem dX2_isTerm_15 : decode cX2_isTerm 15 = .ok (.iconst 0, 1) := by decide +kernel
theorem dX2_isTerm_16 : decode cX2_isTerm 16 = .ok (.ireturn, 1) := by decide +kernel
