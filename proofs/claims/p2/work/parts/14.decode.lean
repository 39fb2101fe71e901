theorem dX1_predicateIn_0 : decode cX1_predicateIn 0 = .ok (.iload_n 0, 1) := by decide +kernel
theorem dX1_predicateIn_1 : decode cX1_predicateIn 1 = .ok (.invokestatic 15, 3) := by decide +kernel
theorem dX1_predicateIn_4 : decode cX1_predicateIn 4 = .ok (.iconst 5, 1) := by decide +kernel
theorem dX1_predicateIn_5 : decode cX1_predicateIn 5 = .ok (.if_icmp .ne 12, 3) := by decide +kernel
theorem dX1_predicateIn_8 : decode cX1_predicateIn 8 = .ok (.iload_n 0, 1) := by decide +kernel
theorem dX1_predicateIn_9 : decode cX1_predicateIn 9 = .ok (.invokestatic 19, 3) := by decide +kernel
theorem dX1_predicateIn_12 : decode cX1_predicateIn 12 = .ok (.iconst 3, 1) := by decide +kernel
theorem dX1_predicateIn_13 : decode cX1_predicateIn 13 = .ok (.idiv, 1) := by decide +kernel
theorem dX1_predicateIn_14 : decode cX1_predicateIn 14 = .ok (.goto 4, 3) := by decide +kernel
theorem dX1_predicateIn_17 : decode cX1_predicateIn 17 = .ok (.iconst (-1), 1) := by decide +kernel
theorem dX1_predicateIn_18 : decode cX1_predicateIn 18 = .ok (.ireturn, 1) := by decide +kernel
theorem dX1_many_0 : decode cX1_many 0 = .ok (.iload_n 0, 1) := by decide +kernel
theorem dX1_many_1 : decode cX1_many 1 = .ok (.invokestatic 15, 3) := by decide +kernel
theorem dX1_many_4 : decode cX1_many 4 = .ok (.tableswitch 52 4 8 #[36, 38, 45, 47, 45], 36) := by decide +kernel
theorem dX1_many_40 : decode cX1_many 40 = .ok (.iconst 2, 1) := by decide +kernel
theorem dX1_many_41 : decode cX1_many 41 = .ok (.ireturn, 1) := by decide +kernel
theorem dX1_many_42 : decode cX1_many 42 = .ok (.iload_n 0, 1) := by decide +kernel
theorem dX1_many_43 : decode cX1_many 43 = .ok (.invokestatic 19, 3) := by decide +kernel
theorem dX1_many_46 : decode cX1_many 46 = .ok (.iconst 3, 1) := by decide +kernel
theorem dX1_many_47 : decode cX1_many 47 = .ok (.irem, 1) := by decide +kernel
theorem dX1_many_48 : decode cX1_many 48 = .ok (.ireturn, 1) := by decide +kernel
theorem dX1_many_49 : decode cX1_many 49 = .ok (.iconst 1, 1) := by decide +kernel
theorem dX1_many_50 : decode cX1_many 50 = .ok (.ireturn, 1) := by decide +kernel
theorem dX1_many_51 : decode cX1_many 51 = .ok (.iload_n 0, 1) := by decide +kernel
theorem dX1_many_52 : decode cX1_many 52 = .ok (.invokestatic 19, 3) := by decide +kernel
theorem dX1_many_55 : decode cX1_many 55 = .ok (.ireturn, 1) := by decide +kernel
theorem dX1_many_56 : decode cX1_many 56 = .ok (.iconst 0, 1) := by decide +kernel
theorem dX1_many_57 : decode cX1_many 57 = .ok (.ireturn, 1) := by decide +kernel
theorem dX1_mark_0 : decode cX1_mark 0 = .ok (.iload_n 0, 1) := by decide +kernel
theorem dX1_mark_1 : decode cX1_mark 1 = .ok (.invokestatic 15, 3) := by decide +kernel
theorem dX1_mark_4 : decode cX1_mark 4 = .ok (.tableswitch 53 1 5 #[41, 46, 53, 53, 36], 36) := by decide +kernel
theorem dX1_mark_40 : decode cX1_mark 40 = .ok (.iload_n 0, 1) := by decide +kernel
theorem dX1_mark_41 : decode cX1_mark 41 = .ok (.invokestatic 22, 3) := by decide +kernel
theorem dX1_mark_44 : decode cX1_mark 44 = .ok (.ireturn, 1) := by decide +kernel
theorem dX1_mark_45 : decode cX1_mark 45 = .ok (.iload_n 0, 1) := by decide +kernel
theorem dX1_mark_46 : decode cX1_mark 46 = .ok (.invokestatic 19, 3) := by decide +kernel
theorem dX1_mark_49 : decode cX1_mark 49 = .ok (.ireturn, 1) := by decide +kernel
theorem dX1_mark_50 : decode cX1_mark 50 = .ok (.iconst (-1), 1) := by decide +kernel
theorem dX1_mark_51 : decode cX1_mark 51 = .ok (.iload_n 0, 1) := by decide +kernel
theorem dX1_mark_52 : decode cX1_mark 52 = .ok (.invokestatic 19, 3) := by decide +kernel
theorem dX1_mark_55 : decode cX1_mark 55 = .ok (.isub, 1) := by decide +kernel
theorem dX1_mark_56 : decode cX1_mark 56 = .ok (.ireturn, 1) := by decide +kernel
theorem dX1_mark_57 : decode cX1_mark 57 = .ok (.iconst (-1), 1) := by decide +kernel
theorem dX1_mark_58 : decode cX1_mark 58 = .ok (.ireturn, 1) := by decide +kernel
theorem dX1_ofPredicate_0 : decode cX1_ofPredicate 0 = .ok (.iconst 5, 1) := by decide +kernel
theorem dX1_ofPredicate_1 : decode cX1_ofPredicate 1 = .ok (.iload_n 0, 1) := by decide +kernel
theorem dX1_ofPredicate_2 : decode cX1_ofPredicate 2 = .ok (.iconst 3, 1) := by decide +kernel
theorem dX1_ofPredicate_3 : decode cX1_ofPredicate 3 = .ok (.imul, 1) := by decide +kernel
theorem dX1_ofPredicate_4 : decode cX1_ofPredicate 4 = .ok (.iload_n 1, 1) := by decide +kernel
theorem dX1_ofPredicate_5 : decode cX1_ofPredicate 5 = .ok (.iadd, 1) := by decide +kernel
theorem dX1_ofPredicate_6 : decode cX1_ofPredicate 6 = .ok (.invokestatic 11, 3) := by decide +kernel
theorem dX1_ofPredicate_9 : decode cX1_ofPredicate 9 = .ok (.ireturn, 1) := by decide +kernel
theorem dX4_placeBehindNot_0 : decode cX4_placeBehindNot 0 = .ok (.aload_n 0, 1) := by decide +kernel
theorem dX4_placeBehindNot_1 : decode cX4_placeBehindNot 1 = .ok (.getfield 11, 3) := by decide +kernel
theorem dX4_placeBehindNot_4 : decode cX4_placeBehindNot 4 = .ok (.iconst 0, 1) := by decide +kernel
theorem dX4_placeBehindNot_5 : decode cX4_placeBehindNot 5 = .ok (.iaload, 1) := by decide +kernel
theorem dX4_placeBehindNot_6 : decode cX4_placeBehindNot 6 = .ok (.bipush 6, 2) := by decide +kernel
theorem dX4_placeBehindNot_8 : decode cX4_placeBehindNot 8 = .ok (.if_icmp .ne 7, 3) := by decide +kernel
theorem dX4_placeBehindNot_11 : decode cX4_placeBehindNot 11 = .ok (.iconst 1, 1) := by decide +kernel
theorem dX4_placeBehindNot_12 : decode cX4_placeBehindNot 12 = .ok (.goto 4, 3) := by decide +kernel
theorem dX4_placeBehindNot_15 : decode cX4_placeBehindNot 15 = .ok (.iconst 0, 1) := by decide +kernel
theorem dX4_placeBehindNot_16 : decode cX4_placeBehindNot 16 = .ok (.ireturn, 1) := by decide +kernel
theorem dX4_predicateToOpen_0 : decode cX4_predicateToOpen 0 = .ok (.aload_n 0, 1) := by decide +kernel
theorem dX4_predicateToOpen_1 : decode cX4_predicateToOpen 1 = .ok (.aload_n 0, 1) := by decide +kernel
theorem dX4_predicateToOpen_2 : decode cX4_predicateToOpen 2 = .ok (.invokevirtual 125, 3) := by decide +kernel
theorem dX4_predicateToOpen_5 : decode cX4_predicateToOpen 5 = .ok (.invokevirtual 112, 3) := by decide +kernel
theorem dX4_predicateToOpen_8 : decode cX4_predicateToOpen 8 = .ok (.invokestatic 129, 3) := by decide +kernel
theorem dX4_predicateToOpen_11 : decode cX4_predicateToOpen 11 = .ok (.ireturn, 1) := by decide +kernel
theorem dX4_leaveBody_0 : decode cX4_leaveBody 0 = .ok (.aload_n 0, 1) := by decide +kernel
theorem dX4_leaveBody_1 : decode cX4_leaveBody 1 = .ok (.getfield 11, 3) := by decide +kernel
theorem dX4_leaveBody_4 : decode cX4_leaveBody 4 = .ok (.iconst 0, 1) := by decide +kernel
theorem dX4_leaveBody_5 : decode cX4_leaveBody 5 = .ok (.iaload, 1) := by decide +kernel
theorem dX4_leaveBody_6 : decode cX4_leaveBody 6 = .ok (.bipush 8, 2) := by decide +kernel
theorem dX4_leaveBody_8 : decode cX4_leaveBody 8 = .ok (.if_icmp .eq 5, 3) := by decide +kernel
theorem dX4_leaveBody_11 : decode cX4_leaveBody 11 = .ok (.iconst 0, 1) := by decide +kernel
theorem dX4_leaveBody_12 : decode cX4_leaveBody 12 = .ok (.ireturn, 1) := by decide +kernel
theorem dX4_leaveBody_13 : decode cX4_leaveBody 13 = .ok (.aload_n 0, 1) := by decide +kernel
theorem dX4_leaveBody_14 : decode cX4_leaveBody 14 = .ok (.iconst 1, 1) := by decide +kernel
theorem dX4_leaveBody_15 : decode cX4_leaveBody 15 = .ok (.invokevirtual 59, 3) := by decide +kernel
theorem dX4_leaveBody_18 : decode cX4_leaveBody 18 = .ok (.iconst 0, 1) := by decide +kernel
theorem dX4_leaveBody_19 : decode cX4_leaveBody 19 = .ok (.istore_n 2, 1) := by decide +kernel
theorem dX4_leaveBody_20 : decode cX4_leaveBody 20 = .ok (.iload_n 2, 1) := by decide +kernel
theorem dX4_leaveBody_21 : decode cX4_leaveBody 21 = .ok (.aload_n 0, 1) := by decide +kernel
theorem dX4_leaveBody_22 : decode cX4_leaveBody 22 = .ok (.getfield 15, 3) := by decide +kernel
theorem dX4_leaveBody_25 : decode cX4_leaveBody 25 = .ok (.if_icmp .ge 70, 3) := by decide +kernel
theorem dX4_leaveBody_28 : decode cX4_leaveBody 28 = .ok (.iload_n 2, 1) := by decide +kernel
theorem dX4_leaveBody_29 : decode cX4_leaveBody 29 = .ok (.sipush 512, 3) := by decide +kernel
theorem dX4_leaveBody_32 : decode cX4_leaveBody 32 = .ok (.if_icmp .ge 63, 3) := by decide +kernel
theorem dX4_leaveBody_35 : decode cX4_leaveBody 35 = .ok (.aload_n 0, 1) := by decide +kernel
theorem dX4_leaveBody_36 : decode cX4_leaveBody 36 = .ok (.getfield 11, 3) := by decide +kernel
theorem dX4_leaveBody_39 : decode cX4_leaveBody 39 = .ok (.iload_n 2, 1) := by decide +kernel
theorem dX4_leaveBody_40 : decode cX4_leaveBody 40 = .ok (.iaload, 1) := by decide +kernel
theorem dX4_leaveBody_41 : decode cX4_leaveBody 41 = .ok (.iconst 2, 1) := by decide +kernel
theorem dX4_leaveBody_42 : decode cX4_leaveBody 42 = .ok (.if_icmp .ne 13, 3) := by decide +kernel
theorem dX4_leaveBody_45 : decode cX4_leaveBody 45 = .ok (.aload_n 0, 1) := by decide +kernel
theorem dX4_leaveBody_46 : decode cX4_leaveBody 46 = .ok (.getfield 11, 3) := by decide +kernel
theorem dX4_leaveBody_49 : decode cX4_leaveBody 49 = .ok (.iload_n 2, 1) := by decide +kernel
theorem dX4_leaveBody_50 : decode cX4_leaveBody 50 = .ok (.iload_n 1, 1) := by decide +kernel
theorem dX4_leaveBody_51 : decode cX4_leaveBody 51 = .ok (.iastore, 1) := by decide +kernel
theorem dX4_leaveBody_52 : decode cX4_leaveBody 52 = .ok (.goto 37, 3) := by decide +kernel
theorem dX4_leaveBody_55 : decode cX4_leaveBody 55 = .ok (.aload_n 0, 1) := by decide +kernel
theorem dX4_leaveBody_56 : decode cX4_leaveBody 56 = .ok (.getfield 11, 3) := by decide +kernel
theorem dX4_leaveBody_59 : decode cX4_leaveBody 59 = .ok (.iload_n 2, 1) := by decide +kernel
theorem dX4_leaveBody_60 : decode cX4_leaveBody 60 = .ok (.iaload, 1) := by decide +kernel
theorem dX4_leaveBody_61 : decode cX4_leaveBody 61 = .ok (.invokestatic 49, 3) := by decide +kernel
theorem dX4_leaveBody_64 : decode cX4_leaveBody 64 = .ok (.iconst 2, 1) := by decide +kernel
theorem dX4_leaveBody_65 : decode cX4_leaveBody 65 = .ok (.if_icmp .ne 24, 3) := by decide +kernel
theorem dX4_leaveBody_68 : decode cX4_leaveBody 68 = .ok (.aload_n 0, 1) := by decide +kernel
theorem dX4_leaveBody_69 : decode cX4_leaveBody 69 = .ok (.getfield 11, 3) := by decide +kernel
theorem dX4_leaveBody_72 : decode cX4_leaveBody 72 = .ok (.iload_n 2, 1) := by decide +kernel
theorem dX4_leaveBody_73 : decode cX4_leaveBody 73 = .ok (.iconst 2, 1) := by decide +kernel
theorem dX4_leaveBody_74 : decode cX4_leaveBody 74 = .ok (.aload_n 0, 1) := by decide +kernel
theorem dX4_leaveBody_75 : decode cX4_leaveBody 75 = .ok (.getfield 11, 3) := by decide +kernel
theorem dX4_leaveBody_78 : decode cX4_leaveBody 78 = .ok (.iload_n 2, 1) := by decide +kernel
theorem dX4_leaveBody_79 : decode cX4_leaveBody 79 = .ok (.iaload, 1) := by decide +kernel
theorem dX4_leaveBody_80 : decode cX4_leaveBody 80 = .ok (.invokestatic 91, 3) := by decide +kernel
theorem dX4_leaveBody_83 : decode cX4_leaveBody 83 = .ok (.iconst 1, 1) := by decide +kernel
theorem dX4_leaveBody_84 : decode cX4_leaveBody 84 = .ok (.isub, 1) := by decide +kernel
theorem dX4_leaveBody_85 : decode cX4_leaveBody 85 = .ok (.invokestatic 87, 3) := by decide +kernel
theorem dX4_leaveBody_88 : decode cX4_leaveBody 88 = .ok (.iastore, 1) := by decide +kernel
theorem dX4_leaveBody_89 : decode cX4_leaveBody 89 = .ok (.iinc 2 1, 3) := by decide +kernel
theorem dX4_leaveBody_92 : decode cX4_leaveBody 92 = .ok (.goto (-72), 3) := by decide +kernel
theorem dX4_leaveBody_95 : decode cX4_leaveBody 95 = .ok (.iconst 1, 1) := by decide +kernel
theorem dX4_leaveBody_96 : decode cX4_leaveBody 96 = .ok (.ireturn, 1) := by decide +kernel
