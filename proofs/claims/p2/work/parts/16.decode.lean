theorem dX4_hasAt_0 : decode cX4_hasAt 0 = .ok (.aload_n 2, 1) := by decide +kernel
theorem dX4_hasAt_1 : decode cX4_hasAt 1 = .ok (.getfield 15, 3) := by decide +kernel
theorem dX4_hasAt_4 : decode cX4_hasAt 4 = .ok (.iload_n 3, 1) := by decide +kernel
theorem dX4_hasAt_5 : decode cX4_hasAt 5 = .ok (.isub, 1) := by decide +kernel
theorem dX4_hasAt_6 : decode cX4_hasAt 6 = .ok (.istore 4, 2) := by decide +kernel
theorem dX4_hasAt_8 : decode cX4_hasAt 8 = .ok (.iload_n 1, 1) := by decide +kernel
theorem dX4_hasAt_9 : decode cX4_hasAt 9 = .ok (.ifCond .lt 18, 3) := by decide +kernel
theorem dX4_hasAt_12 : decode cX4_hasAt 12 = .ok (.iload_n 3, 1) := by decide +kernel
theorem dX4_hasAt_13 : decode cX4_hasAt 13 = .ok (.ifCond .lt 14, 3) := by decide +kernel
theorem dX4_hasAt_16 : decode cX4_hasAt 16 = .ok (.iload 4, 2) := by decide +kernel
theorem dX4_hasAt_18 : decode cX4_hasAt 18 = .ok (.aload_n 0, 1) := by decide +kernel
theorem dX4_hasAt_19 : decode cX4_hasAt 19 = .ok (.getfield 15, 3) := by decide +kernel
theorem dX4_hasAt_22 : decode cX4_hasAt 22 = .ok (.iload_n 1, 1) := by decide +kernel
theorem dX4_hasAt_23 : decode cX4_hasAt 23 = .ok (.isub, 1) := by decide +kernel
theorem dX4_hasAt_24 : decode cX4_hasAt 24 = .ok (.if_icmp .le 5, 3) := by decide +kernel
theorem dX4_hasAt_27 : decode cX4_hasAt 27 = .ok (.iconst 0, 1) := by decide +kernel
theorem dX4_hasAt_28 : decode cX4_hasAt 28 = .ok (.ireturn, 1) := by decide +kernel
theorem dX4_hasAt_29 : decode cX4_hasAt 29 = .ok (.iconst 0, 1) := by decide +kernel
theorem dX4_hasAt_30 : decode cX4_hasAt 30 = .ok (.istore 5, 2) := by decide +kernel
theorem dX4_hasAt_32 : decode cX4_hasAt 32 = .ok (.iload 5, 2) := by decide +kernel
theorem dX4_hasAt_34 : decode cX4_hasAt 34 = .ok (.iload 4, 2) := by decide +kernel
theorem dX4_hasAt_36 : decode cX4_hasAt 36 = .ok (.if_icmp .ge 52, 3) := by decide +kernel
theorem dX4_hasAt_39 : decode cX4_hasAt 39 = .ok (.iload_n 1, 1) := by decide +kernel
theorem dX4_hasAt_40 : decode cX4_hasAt 40 = .ok (.iload 5, 2) := by decide +kernel
theorem dX4_hasAt_42 : decode cX4_hasAt 42 = .ok (.iadd, 1) := by decide +kernel
theorem dX4_hasAt_43 : decode cX4_hasAt 43 = .ok (.sipush 512, 3) := by decide +kernel
theorem dX4_hasAt_46 : decode cX4_hasAt 46 = .ok (.if_icmp .ge 42, 3) := by decide +kernel
theorem dX4_hasAt_49 : decode cX4_hasAt 49 = .ok (.iload_n 3, 1) := by decide +kernel
theorem dX4_hasAt_50 : decode cX4_hasAt 50 = .ok (.iload 5, 2) := by decide +kernel
theorem dX4_hasAt_52 : decode cX4_hasAt 52 = .ok (.iadd, 1) := by decide +kernel
theorem dX4_hasAt_53 : decode cX4_hasAt 53 = .ok (.sipush 512, 3) := by decide +kernel
theorem dX4_hasAt_56 : decode cX4_hasAt 56 = .ok (.if_icmp .ge 32, 3) := by decide +kernel
theorem dX4_hasAt_59 : decode cX4_hasAt 59 = .ok (.aload_n 0, 1) := by decide +kernel
theorem dX4_hasAt_60 : decode cX4_hasAt 60 = .ok (.getfield 11, 3) := by decide +kernel
theorem dX4_hasAt_63 : decode cX4_hasAt 63 = .ok (.iload_n 1, 1) := by decide +kernel
theorem dX4_hasAt_64 : decode cX4_hasAt 64 = .ok (.iload 5, 2) := by decide +kernel
theorem dX4_hasAt_66 : decode cX4_hasAt 66 = .ok (.iadd, 1) := by decide +kernel
theorem dX4_hasAt_67 : decode cX4_hasAt 67 = .ok (.iaload, 1) := by decide +kernel
theorem dX4_hasAt_68 : decode cX4_hasAt 68 = .ok (.aload_n 2, 1) := by decide +kernel
theorem dX4_hasAt_69 : decode cX4_hasAt 69 = .ok (.getfield 11, 3) := by decide +kernel
theorem dX4_hasAt_72 : decode cX4_hasAt 72 = .ok (.iload_n 3, 1) := by decide +kernel
theorem dX4_hasAt_73 : decode cX4_hasAt 73 = .ok (.iload 5, 2) := by decide +kernel
theorem dX4_hasAt_75 : decode cX4_hasAt 75 = .ok (.iadd, 1) := by decide +kernel
theorem dX4_hasAt_76 : decode cX4_hasAt 76 = .ok (.iaload, 1) := by decide +kernel
theorem dX4_hasAt_77 : decode cX4_hasAt 77 = .ok (.if_icmp .eq 5, 3) := by decide +kernel
theorem dX4_hasAt_80 : decode cX4_hasAt 80 = .ok (.iconst 0, 1) := by decide +kernel
theorem dX4_hasAt_81 : decode cX4_hasAt 81 = .ok (.ireturn, 1) := by decide +kernel
theorem dX4_hasAt_82 : decode cX4_hasAt 82 = .ok (.iinc 5 1, 3) := by decide +kernel
theorem dX4_hasAt_85 : decode cX4_hasAt 85 = .ok (.goto (-53), 3) := by decide +kernel
theorem dX4_hasAt_88 : decode cX4_hasAt 88 = .ok (.iconst 1, 1) := by decide +kernel
theorem dX4_hasAt_89 : decode cX4_hasAt 89 = .ok (.ireturn, 1) := by decide +kernel
theorem dX4_isAlike_0 : decode cX4_isAlike 0 = .ok (.aload_n 0, 1) := by decide +kernel
theorem dX4_isAlike_1 : decode cX4_isAlike 1 = .ok (.getfield 19, 3) := by decide +kernel
theorem dX4_isAlike_4 : decode cX4_isAlike 4 = .ok (.ifCond .ne 35, 3) := by decide +kernel
theorem dX4_isAlike_7 : decode cX4_isAlike 7 = .ok (.aload_n 1, 1) := by decide +kernel
theorem dX4_isAlike_8 : decode cX4_isAlike 8 = .ok (.getfield 19, 3) := by decide +kernel
theorem dX4_isAlike_11 : decode cX4_isAlike 11 = .ok (.ifCond .ne 28, 3) := by decide +kernel
theorem dX4_isAlike_14 : decode cX4_isAlike 14 = .ok (.aload_n 0, 1) := by decide +kernel
theorem dX4_isAlike_15 : decode cX4_isAlike 15 = .ok (.getfield 15, 3) := by decide +kernel
theorem dX4_isAlike_18 : decode cX4_isAlike 18 = .ok (.aload_n 1, 1) := by decide +kernel
theorem dX4_isAlike_19 : decode cX4_isAlike 19 = .ok (.getfield 15, 3) := by decide +kernel
theorem dX4_isAlike_22 : decode cX4_isAlike 22 = .ok (.if_icmp .ne 17, 3) := by decide +kernel
theorem dX4_isAlike_25 : decode cX4_isAlike 25 = .ok (.aload_n 0, 1) := by decide +kernel
theorem dX4_isAlike_26 : decode cX4_isAlike 26 = .ok (.iconst 0, 1) := by decide +kernel
theorem dX4_isAlike_27 : decode cX4_isAlike 27 = .ok (.aload_n 1, 1) := by decide +kernel
theorem dX4_isAlike_28 : decode cX4_isAlike 28 = .ok (.iconst 0, 1) := by decide +kernel
theorem dX4_isAlike_29 : decode cX4_isAlike 29 = .ok (.invokevirtual 55, 3) := by decide +kernel
theorem dX4_isAlike_32 : decode cX4_isAlike 32 = .ok (.ifCond .eq 7, 3) := by decide +kernel
theorem dX4_isAlike_35 : decode cX4_isAlike 35 = .ok (.iconst 1, 1) := by decide +kernel
theorem dX4_isAlike_36 : decode cX4_isAlike 36 = .ok (.goto 4, 3) := by decide +kernel
theorem dX4_isAlike_39 : decode cX4_isAlike 39 = .ok (.iconst 0, 1) := by decide +kernel
theorem dX4_isAlike_40 : decode cX4_isAlike 40 = .ok (.ireturn, 1) := by decide +kernel
theorem dX4_leaveOthers_0 : decode cX4_leaveOthers 0 = .ok (.aload_n 0, 1) := by decide +kernel
theorem dX4_leaveOthers_1 : decode cX4_leaveOthers 1 = .ok (.aload_n 1, 1) := by decide +kernel
theorem dX4_leaveOthers_2 : decode cX4_leaveOthers 2 = .ok (.invokevirtual 122, 3) := by decide +kernel
theorem dX4_leaveOthers_5 : decode cX4_leaveOthers 5 = .ok (.ifCond .eq 10, 3) := by decide +kernel
theorem dX4_leaveOthers_8 : decode cX4_leaveOthers 8 = .ok (.aload_n 0, 1) := by decide +kernel
theorem dX4_leaveOthers_9 : decode cX4_leaveOthers 9 = .ok (.iconst 3, 1) := by decide +kernel
theorem dX4_leaveOthers_10 : decode cX4_leaveOthers 10 = .ok (.invokevirtual 23, 3) := by decide +kernel
theorem dX4_leaveOthers_13 : decode cX4_leaveOthers 13 = .ok (.iconst 1, 1) := by decide +kernel
theorem dX4_leaveOthers_14 : decode cX4_leaveOthers 14 = .ok (.ireturn, 1) := by decide +kernel
theorem dX4_leaveOthers_15 : decode cX4_leaveOthers 15 = .ok (.aload_n 1, 1) := by decide +kernel
theorem dX4_leaveOthers_16 : decode cX4_leaveOthers 16 = .ok (.invokevirtual 81, 3) := by decide +kernel
theorem dX4_leaveOthers_19 : decode cX4_leaveOthers 19 = .ok (.ifCond .eq 7, 3) := by decide +kernel
theorem dX4_leaveOthers_22 : decode cX4_leaveOthers 22 = .ok (.iconst 1, 1) := by decide +kernel
theorem dX4_leaveOthers_23 : decode cX4_leaveOthers 23 = .ok (.goto 4, 3) := by decide +kernel
theorem dX4_leaveOthers_26 : decode cX4_leaveOthers 26 = .ok (.iconst 0, 1) := by decide +kernel
theorem dX4_leaveOthers_27 : decode cX4_leaveOthers 27 = .ok (.istore_n 2, 1) := by decide +kernel
theorem dX4_leaveOthers_28 : decode cX4_leaveOthers 28 = .ok (.aload_n 0, 1) := by decide +kernel
theorem dX4_leaveOthers_29 : decode cX4_leaveOthers 29 = .ok (.invokevirtual 81, 3) := by decide +kernel
theorem dX4_leaveOthers_32 : decode cX4_leaveOthers 32 = .ok (.ifCond .eq 13, 3) := by decide +kernel
theorem dX4_leaveOthers_35 : decode cX4_leaveOthers 35 = .ok (.aload_n 0, 1) := by decide +kernel
theorem dX4_leaveOthers_36 : decode cX4_leaveOthers 36 = .ok (.iconst 1, 1) := by decide +kernel
theorem dX4_leaveOthers_37 : decode cX4_leaveOthers 37 = .ok (.aload_n 1, 1) := by decide +kernel
theorem dX4_leaveOthers_38 : decode cX4_leaveOthers 38 = .ok (.iload_n 2, 1) := by decide +kernel
theorem dX4_leaveOthers_39 : decode cX4_leaveOthers 39 = .ok (.invokevirtual 55, 3) := by decide +kernel
theorem dX4_leaveOthers_42 : decode cX4_leaveOthers 42 = .ok (.ifCond .ne 5, 3) := by decide +kernel
theorem dX4_leaveOthers_45 : decode cX4_leaveOthers 45 = .ok (.iconst 0, 1) := by decide +kernel
theorem dX4_leaveOthers_46 : decode cX4_leaveOthers 46 = .ok (.ireturn, 1) := by decide +kernel
theorem dX4_leaveOthers_47 : decode cX4_leaveOthers 47 = .ok (.aload_n 0, 1) := by decide +kernel
theorem dX4_leaveOthers_48 : decode cX4_leaveOthers 48 = .ok (.getfield 11, 3) := by decide +kernel
theorem dX4_leaveOthers_51 : decode cX4_leaveOthers 51 = .ok (.iconst 0, 1) := by decide +kernel
theorem dX4_leaveOthers_52 : decode cX4_leaveOthers 52 = .ok (.iaload, 1) := by decide +kernel
theorem dX4_leaveOthers_53 : decode cX4_leaveOthers 53 = .ok (.invokestatic 84, 3) := by decide +kernel
theorem dX4_leaveOthers_56 : decode cX4_leaveOthers 56 = .ok (.aload_n 1, 1) := by decide +kernel
theorem dX4_leaveOthers_57 : decode cX4_leaveOthers 57 = .ok (.getfield 11, 3) := by decide +kernel
theorem dX4_leaveOthers_60 : decode cX4_leaveOthers 60 = .ok (.iconst 0, 1) := by decide +kernel
theorem dX4_leaveOthers_61 : decode cX4_leaveOthers 61 = .ok (.iaload, 1) := by decide +kernel
theorem dX4_leaveOthers_62 : decode cX4_leaveOthers 62 = .ok (.invokestatic 84, 3) := by decide +kernel
theorem dX4_leaveOthers_65 : decode cX4_leaveOthers 65 = .ok (.isub, 1) := by decide +kernel
theorem dX4_leaveOthers_66 : decode cX4_leaveOthers 66 = .ok (.istore_n 3, 1) := by decide +kernel
theorem dX4_leaveOthers_67 : decode cX4_leaveOthers 67 = .ok (.aload_n 0, 1) := by decide +kernel
theorem dX4_leaveOthers_68 : decode cX4_leaveOthers 68 = .ok (.iconst 1, 1) := by decide +kernel
theorem dX4_leaveOthers_69 : decode cX4_leaveOthers 69 = .ok (.aload_n 1, 1) := by decide +kernel
theorem dX4_leaveOthers_70 : decode cX4_leaveOthers 70 = .ok (.getfield 15, 3) := by decide +kernel
theorem dX4_leaveOthers_73 : decode cX4_leaveOthers 73 = .ok (.iadd, 1) := by decide +kernel
theorem dX4_leaveOthers_74 : decode cX4_leaveOthers 74 = .ok (.iload_n 2, 1) := by decide +kernel
theorem dX4_leaveOthers_75 : decode cX4_leaveOthers 75 = .ok (.isub, 1) := by decide +kernel
theorem dX4_leaveOthers_76 : decode cX4_leaveOthers 76 = .ok (.invokevirtual 59, 3) := by decide +kernel
theorem dX4_leaveOthers_79 : decode cX4_leaveOthers 79 = .ok (.iload_n 3, 1) := by decide +kernel
theorem dX4_leaveOthers_80 : decode cX4_leaveOthers 80 = .ok (.iconst 1, 1) := by decide +kernel
theorem dX4_leaveOthers_81 : decode cX4_leaveOthers 81 = .ok (.if_icmp .le 13, 3) := by decide +kernel
theorem dX4_leaveOthers_84 : decode cX4_leaveOthers 84 = .ok (.aload_n 0, 1) := by decide +kernel
theorem dX4_leaveOthers_85 : decode cX4_leaveOthers 85 = .ok (.bipush 7, 2) := by decide +kernel
theorem dX4_leaveOthers_87 : decode cX4_leaveOthers 87 = .ok (.iload_n 3, 1) := by decide +kernel
theorem dX4_leaveOthers_88 : decode cX4_leaveOthers 88 = .ok (.invokestatic 87, 3) := by decide +kernel
theorem dX4_leaveOthers_91 : decode cX4_leaveOthers 91 = .ok (.invokevirtual 62, 3) := by decide +kernel
theorem dX4_leaveOthers_94 : decode cX4_leaveOthers 94 = .ok (.iconst 1, 1) := by decide +kernel
theorem dX4_leaveOthers_95 : decode cX4_leaveOthers 95 = .ok (.ireturn, 1) := by decide +kernel
theorem dX4_makeStep_0 : decode cX4_makeStep 0 = .ok (.iload_n 1, 1) := by decide +kernel
theorem dX4_makeStep_1 : decode cX4_makeStep 1 = .ok (.iconst 3, 1) := by decide +kernel
theorem dX4_makeStep_2 : decode cX4_makeStep 2 = .ok (.if_icmp .eq 13, 3) := by decide +kernel
theorem dX4_makeStep_5 : decode cX4_makeStep 5 = .ok (.iload_n 1, 1) := by decide +kernel
theorem dX4_makeStep_6 : decode cX4_makeStep 6 = .ok (.iconst 1, 1) := by decide +kernel
theorem dX4_makeStep_7 : decode cX4_makeStep 7 = .ok (.if_icmp .eq 8, 3) := by decide +kernel
theorem dX4_makeStep_10 : decode cX4_makeStep 10 = .ok (.iload_n 1, 1) := by decide +kernel
theorem dX4_makeStep_11 : decode cX4_makeStep 11 = .ok (.iconst 4, 1) := by decide +kernel
theorem dX4_makeStep_12 : decode cX4_makeStep 12 = .ok (.if_icmp .ne 7, 3) := by decide +kernel
theorem dX4_makeStep_15 : decode cX4_makeStep 15 = .ok (.iconst 1, 1) := by decide +kernel
theorem dX4_makeStep_16 : decode cX4_makeStep 16 = .ok (.goto 4, 3) := by decide +kernel
theorem dX4_makeStep_19 : decode cX4_makeStep 19 = .ok (.iconst 0, 1) := by decide +kernel
theorem dX4_makeStep_20 : decode cX4_makeStep 20 = .ok (.istore 4, 2) := by decide +kernel
theorem dX4_makeStep_22 : decode cX4_makeStep 22 = .ok (.iload 4, 2) := by decide +kernel
theorem dX4_makeStep_24 : decode cX4_makeStep 24 = .ok (.ifCond .eq 7, 3) := by decide +kernel
theorem dX4_makeStep_27 : decode cX4_makeStep 27 = .ok (.aload_n 0, 1) := by decide +kernel
theorem dX4_makeStep_28 : decode cX4_makeStep 28 = .ok (.invokevirtual 94, 3) := by decide +kernel
theorem dX4_makeStep_31 : decode cX4_makeStep 31 = .ok (.iload_n 1, 1) := by decide +kernel
theorem dX4_makeStep_32 : decode cX4_makeStep 32 = .ok (.ifCond .eq 8, 3) := by decide +kernel
theorem dX4_makeStep_35 : decode cX4_makeStep 35 = .ok (.iload_n 1, 1) := by decide +kernel
theorem dX4_makeStep_36 : decode cX4_makeStep 36 = .ok (.iconst 3, 1) := by decide +kernel
theorem dX4_makeStep_37 : decode cX4_makeStep 37 = .ok (.if_icmp .ne 11, 3) := by decide +kernel
theorem dX4_makeStep_40 : decode cX4_makeStep 40 = .ok (.aload_n 0, 1) := by decide +kernel
theorem dX4_makeStep_41 : decode cX4_makeStep 41 = .ok (.iload_n 2, 1) := by decide +kernel
theorem dX4_makeStep_42 : decode cX4_makeStep 42 = .ok (.invokevirtual 100, 3) := by decide +kernel
theorem dX4_makeStep_45 : decode cX4_makeStep 45 = .ok (.goto 8, 3) := by decide +kernel
theorem dX4_makeStep_48 : decode cX4_makeStep 48 = .ok (.aload_n 0, 1) := by decide +kernel
theorem dX4_makeStep_49 : decode cX4_makeStep 49 = .ok (.aload_n 3, 1) := by decide +kernel
theorem dX4_makeStep_50 : decode cX4_makeStep 50 = .ok (.invokevirtual 118, 3) := by decide +kernel
theorem dX4_makeStep_53 : decode cX4_makeStep 53 = .ok (.istore 5, 2) := by decide +kernel
theorem dX4_makeStep_55 : decode cX4_makeStep 55 = .ok (.iload 4, 2) := by decide +kernel
theorem dX4_makeStep_57 : decode cX4_makeStep 57 = .ok (.ifCond .eq 7, 3) := by decide +kernel
theorem dX4_makeStep_60 : decode cX4_makeStep 60 = .ok (.aload_n 0, 1) := by decide +kernel
theorem dX4_makeStep_61 : decode cX4_makeStep 61 = .ok (.invokevirtual 94, 3) := by decide +kernel
theorem dX4_makeStep_64 : decode cX4_makeStep 64 = .ok (.iload 5, 2) := by decide +kernel
theorem dX4_makeStep_66 : decode cX4_makeStep 66 = .ok (.ireturn, 1) := by decide +kernel
