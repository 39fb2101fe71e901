theorem dX5_part_0 : decode cX5_part 0 = .ok (.aload_n 0, 1) := by decide +kernel
theorem dX5_part_1 : decode cX5_part 1 = .ok (.iload_n 1, 1) := by decide +kernel
theorem dX5_part_2 : decode cX5_part 2 = .ok (.invokevirtual 226, 3) := by decide +kernel
theorem dX5_part_5 : decode cX5_part 5 = .ok (.astore_n 3, 1) := by decide +kernel
theorem dX5_part_6 : decode cX5_part 6 = .ok (.aload_n 3, 1) := by decide +kernel
theorem dX5_part_7 : decode cX5_part 7 = .ok (.ifnull 18, 3) := by decide +kernel
theorem dX5_part_10 : decode cX5_part 10 = .ok (.iload_n 2, 1) := by decide +kernel
theorem dX5_part_11 : decode cX5_part 11 = .ok (.ifCond .lt 14, 3) := by decide +kernel
theorem dX5_part_14 : decode cX5_part 14 = .ok (.iload_n 2, 1) := by decide +kernel
theorem dX5_part_15 : decode cX5_part 15 = .ok (.aload_n 3, 1) := by decide +kernel
theorem dX5_part_16 : decode cX5_part 16 = .ok (.invokevirtual 231, 3) := by decide +kernel
theorem dX5_part_19 : decode cX5_part 19 = .ok (.invokestatic 236, 3) := by decide +kernel
theorem dX5_part_22 : decode cX5_part 22 = .ok (.if_icmp .lt 13, 3) := by decide +kernel
theorem dX5_part_25 : decode cX5_part 25 = .ok (.new 51, 3) := by decide +kernel
theorem dX5_part_28 : decode cX5_part 28 = .ok (.dup, 1) := by decide +kernel
theorem dX5_part_29 : decode cX5_part 29 = .ok (.ldc 245, 2) := by decide +kernel
theorem dX5_part_31 : decode cX5_part 31 = .ok (.invokespecial 55, 3) := by decide +kernel
theorem dX5_part_34 : decode cX5_part 34 = .ok (.athrow, 1) := by decide +kernel
theorem dX5_part_35 : decode cX5_part 35 = .ok (.aload_n 0, 1) := by decide +kernel
theorem dX5_part_36 : decode cX5_part 36 = .ok (.getfield 32, 3) := by decide +kernel
theorem dX5_part_39 : decode cX5_part 39 = .ok (.aload_n 3, 1) := by decide +kernel
theorem dX5_part_40 : decode cX5_part 40 = .ok (.invokevirtual 130, 3) := by decide +kernel
theorem dX5_part_43 : decode cX5_part 43 = .ok (.aload_n 0, 1) := by decide +kernel
theorem dX5_part_44 : decode cX5_part 44 = .ok (.getfield 32, 3) := by decide +kernel
theorem dX5_part_47 : decode cX5_part 47 = .ok (.iload_n 2, 1) := by decide +kernel
theorem dX5_part_48 : decode cX5_part 48 = .ok (.invokevirtual 247, 3) := by decide +kernel
theorem dX5_part_51 : decode cX5_part 51 = .ok (.aload_n 0, 1) := by decide +kernel
theorem dX5_part_52 : decode cX5_part 52 = .ok (.invokevirtual 96, 3) := by decide +kernel
theorem dX5_part_55 : decode cX5_part 55 = .ok (.ireturn, 1) := by decide +kernel
theorem dX5_bind_0 : decode cX5_bind 0 = .ok (.aload_n 0, 1) := by decide +kernel
theorem dX5_bind_1 : decode cX5_bind 1 = .ok (.iload_n 2, 1) := by decide +kernel
theorem dX5_bind_2 : decode cX5_bind 2 = .ok (.invokevirtual 124, 3) := by decide +kernel
theorem dX5_bind_5 : decode cX5_bind 5 = .ok (.istore 4, 2) := by decide +kernel
theorem dX5_bind_7 : decode cX5_bind 7 = .ok (.aload_n 0, 1) := by decide +kernel
theorem dX5_bind_8 : decode cX5_bind 8 = .ok (.iload_n 3, 1) := by decide +kernel
theorem dX5_bind_9 : decode cX5_bind 9 = .ok (.invokevirtual 67, 3) := by decide +kernel
theorem dX5_bind_12 : decode cX5_bind 12 = .ok (.astore 5, 2) := by decide +kernel
theorem dX5_bind_14 : decode cX5_bind 14 = .ok (.iload 4, 2) := by decide +kernel
theorem dX5_bind_16 : decode cX5_bind 16 = .ok (.iconst (-1), 1) := by decide +kernel
theorem dX5_bind_17 : decode cX5_bind 17 = .ok (.if_icmp .eq 8, 3) := by decide +kernel
theorem dX5_bind_20 : decode cX5_bind 20 = .ok (.aload 5, 2) := by decide +kernel
theorem dX5_bind_22 : decode cX5_bind 22 = .ok (.ifnonnull 13, 3) := by decide +kernel
theorem dX5_bind_25 : decode cX5_bind 25 = .ok (.new 51, 3) := by decide +kernel
theorem dX5_bind_28 : decode cX5_bind 28 = .ok (.dup, 1) := by decide +kernel
theorem dX5_bind_29 : decode cX5_bind 29 = .ok (.ldc 128, 2) := by decide +kernel
theorem dX5_bind_31 : decode cX5_bind 31 = .ok (.invokespecial 55, 3) := by decide +kernel
theorem dX5_bind_34 : decode cX5_bind 34 = .ok (.athrow, 1) := by decide +kernel
theorem dX5_bind_35 : decode cX5_bind 35 = .ok (.aload_n 0, 1) := by decide +kernel
theorem dX5_bind_36 : decode cX5_bind 36 = .ok (.getfield 32, 3) := by decide +kernel
theorem dX5_bind_39 : decode cX5_bind 39 = .ok (.aload 5, 2) := by decide +kernel
theorem dX5_bind_41 : decode cX5_bind 41 = .ok (.invokevirtual 130, 3) := by decide +kernel
theorem dX5_bind_44 : decode cX5_bind 44 = .ok (.iload_n 1, 1) := by decide +kernel
theorem dX5_bind_45 : decode cX5_bind 45 = .ok (.ifCond .eq 15, 3) := by decide +kernel
theorem dX5_bind_48 : decode cX5_bind 48 = .ok (.aload_n 0, 1) := by decide +kernel
theorem dX5_bind_49 : decode cX5_bind 49 = .ok (.getfield 32, 3) := by decide +kernel
theorem dX5_bind_52 : decode cX5_bind 52 = .ok (.iload 4, 2) := by decide +kernel
theorem dX5_bind_54 : decode cX5_bind 54 = .ok (.invokevirtual 134, 3) := by decide +kernel
theorem dX5_bind_57 : decode cX5_bind 57 = .ok (.goto 12, 3) := by decide +kernel
theorem dX5_bind_60 : decode cX5_bind 60 = .ok (.aload_n 0, 1) := by decide +kernel
theorem dX5_bind_61 : decode cX5_bind 61 = .ok (.getfield 32, 3) := by decide +kernel
theorem dX5_bind_64 : decode cX5_bind 64 = .ok (.iload 4, 2) := by decide +kernel
theorem dX5_bind_66 : decode cX5_bind 66 = .ok (.invokevirtual 137, 3) := by decide +kernel
theorem dX5_bind_69 : decode cX5_bind 69 = .ok (.aload_n 0, 1) := by decide +kernel
theorem dX5_bind_70 : decode cX5_bind 70 = .ok (.invokevirtual 96, 3) := by decide +kernel
theorem dX5_bind_73 : decode cX5_bind 73 = .ok (.ireturn, 1) := by decide +kernel
theorem dX5_about_0 : decode cX5_about 0 = .ok (.aload_n 0, 1) := by decide +kernel
theorem dX5_about_1 : decode cX5_about 1 = .ok (.iload_n 1, 1) := by decide +kernel
theorem dX5_about_2 : decode cX5_about 2 = .ok (.invokevirtual 226, 3) := by decide +kernel
theorem dX5_about_5 : decode cX5_about 5 = .ok (.astore_n 3, 1) := by decide +kernel
theorem dX5_about_6 : decode cX5_about 6 = .ok (.aload_n 3, 1) := by decide +kernel
theorem dX5_about_7 : decode cX5_about 7 = .ok (.ifnonnull 13, 3) := by decide +kernel
theorem dX5_about_10 : decode cX5_about 10 = .ok (.new 51, 3) := by decide +kernel
theorem dX5_about_13 : decode cX5_about 13 = .ok (.dup, 1) := by decide +kernel
theorem dX5_about_14 : decode cX5_about 14 = .ok (.ldc 229, 2) := by decide +kernel
theorem dX5_about_16 : decode cX5_about 16 = .ok (.invokespecial 55, 3) := by decide +kernel
theorem dX5_about_19 : decode cX5_about 19 = .ok (.athrow, 1) := by decide +kernel
theorem dX5_about_20 : decode cX5_about 20 = .ok (.iload_n 2, 1) := by decide +kernel
theorem dX5_about_21 : decode cX5_about 21 = .ok (.tableswitch 61 0 3 #[31, 39, 47, 53], 31) := by decide +kernel
theorem dX5_about_52 : decode cX5_about 52 = .ok (.aload_n 3, 1) := by decide +kernel
theorem dX5_about_53 : decode cX5_about 53 = .ok (.invokevirtual 231, 3) := by decide +kernel
theorem dX5_about_56 : decode cX5_about 56 = .ok (.invokestatic 234, 3) := by decide +kernel
theorem dX5_about_59 : decode cX5_about 59 = .ok (.ireturn, 1) := by decide +kernel
theorem dX5_about_60 : decode cX5_about 60 = .ok (.aload_n 3, 1) := by decide +kernel
theorem dX5_about_61 : decode cX5_about 61 = .ok (.invokevirtual 231, 3) := by decide +kernel
theorem dX5_about_64 : decode cX5_about 64 = .ok (.invokestatic 236, 3) := by decide +kernel
theorem dX5_about_67 : decode cX5_about 67 = .ok (.ireturn, 1) := by decide +kernel
theorem dX5_about_68 : decode cX5_about 68 = .ok (.aload_n 3, 1) := by decide +kernel
theorem dX5_about_69 : decode cX5_about 69 = .ok (.getfield 239, 3) := by decide +kernel
theorem dX5_about_72 : decode cX5_about 72 = .ok (.arraylength, 1) := by decide +kernel
theorem dX5_about_73 : decode cX5_about 73 = .ok (.ireturn, 1) := by decide +kernel
theorem dX5_about_74 : decode cX5_about 74 = .ok (.aload_n 3, 1) := by decide +kernel
theorem dX5_about_75 : decode cX5_about 75 = .ok (.invokevirtual 231, 3) := by decide +kernel
theorem dX5_about_78 : decode cX5_about 78 = .ok (.invokestatic 242, 3) := by decide +kernel
theorem dX5_about_81 : decode cX5_about 81 = .ok (.ireturn, 1) := by decide +kernel
theorem dX5_about_82 : decode cX5_about 82 = .ok (.iconst (-1), 1) := by decide +kernel
theorem dX5_about_83 : decode cX5_about 83 = .ok (.ireturn, 1) := by decide +kernel
theorem dX5_count_0 : decode cX5_count 0 = .ok (.iload_n 1, 1) := by decide +kernel
theorem dX5_count_1 : decode cX5_count 1 = .ok (.tableswitch 60 0 4 #[35, 40, 45, 50, 55], 35) := by decide +kernel
theorem dX5_count_36 : decode cX5_count 36 = .ok (.aload_n 0, 1) := by decide +kernel
theorem dX5_count_37 : decode cX5_count 37 = .ok (.getfield 254, 3) := by decide +kernel
theorem dX5_count_40 : decode cX5_count 40 = .ok (.ireturn, 1) := by decide +kernel
theorem dX5_count_41 : decode cX5_count 41 = .ok (.aload_n 0, 1) := by decide +kernel
theorem dX5_count_42 : decode cX5_count 42 = .ok (.getfield 58, 3) := by decide +kernel
theorem dX5_count_45 : decode cX5_count 45 = .ok (.ireturn, 1) := by decide +kernel
theorem dX5_count_46 : decode cX5_count 46 = .ok (.aload_n 0, 1) := by decide +kernel
theorem dX5_count_47 : decode cX5_count 47 = .ok (.getfield 200, 3) := by decide +kernel
theorem dX5_count_50 : decode cX5_count 50 = .ok (.ireturn, 1) := by decide +kernel
theorem dX5_count_51 : decode cX5_count 51 = .ok (.aload_n 0, 1) := by decide +kernel
theorem dX5_count_52 : decode cX5_count 52 = .ok (.getfield 257, 3) := by decide +kernel
theorem dX5_count_55 : decode cX5_count 55 = .ok (.ireturn, 1) := by decide +kernel
theorem dX5_count_56 : decode cX5_count 56 = .ok (.aload_n 0, 1) := by decide +kernel
theorem dX5_count_57 : decode cX5_count 57 = .ok (.getfield 260, 3) := by decide +kernel
theorem dX5_count_60 : decode cX5_count 60 = .ok (.ireturn, 1) := by decide +kernel
theorem dX5_count_61 : decode cX5_count 61 = .ok (.new 51, 3) := by decide +kernel
theorem dX5_count_64 : decode cX5_count 64 = .ok (.dup, 1) := by decide +kernel
theorem dX5_count_65 : decode cX5_count 65 = .ok (.ldc_w 263, 3) := by decide +kernel
theorem dX5_count_68 : decode cX5_count 68 = .ok (.invokespecial 55, 3) := by decide +kernel
theorem dX5_count_71 : decode cX5_count 71 = .ok (.athrow, 1) := by decide +kernel
theorem dX5_predicate_0 : decode cX5_predicate 0 = .ok (.iload_n 1, 1) := by decide +kernel
theorem dX5_predicate_1 : decode cX5_predicate 1 = .ok (.ifCond .lt 8, 3) := by decide +kernel
theorem dX5_predicate_4 : decode cX5_predicate 4 = .ok (.iload_n 1, 1) := by decide +kernel
theorem dX5_predicate_5 : decode cX5_predicate 5 = .ok (.iconst 2, 1) := by decide +kernel
theorem dX5_predicate_6 : decode cX5_predicate 6 = .ok (.if_icmp .le 13, 3) := by decide +kernel
theorem dX5_predicate_9 : decode cX5_predicate 9 = .ok (.new 51, 3) := by decide +kernel
theorem dX5_predicate_12 : decode cX5_predicate 12 = .ok (.dup, 1) := by decide +kernel
theorem dX5_predicate_13 : decode cX5_predicate 13 = .ok (.ldc 53, 2) := by decide +kernel
theorem dX5_predicate_15 : decode cX5_predicate 15 = .ok (.invokespecial 55, 3) := by decide +kernel
theorem dX5_predicate_18 : decode cX5_predicate 18 = .ok (.athrow, 1) := by decide +kernel
theorem dX5_predicate_19 : decode cX5_predicate 19 = .ok (.aload_n 0, 1) := by decide +kernel
theorem dX5_predicate_20 : decode cX5_predicate 20 = .ok (.getfield 58, 3) := by decide +kernel
theorem dX5_predicate_23 : decode cX5_predicate 23 = .ok (.bipush 30, 2) := by decide +kernel
theorem dX5_predicate_25 : decode cX5_predicate 25 = .ok (.if_icmp .lt 13, 3) := by decide +kernel
theorem dX5_predicate_28 : decode cX5_predicate 28 = .ok (.new 62, 3) := by decide +kernel
theorem dX5_predicate_31 : decode cX5_predicate 31 = .ok (.dup, 1) := by decide +kernel
theorem dX5_predicate_32 : decode cX5_predicate 32 = .ok (.ldc 64, 2) := by decide +kernel
theorem dX5_predicate_34 : decode cX5_predicate 34 = .ok (.invokespecial 66, 3) := by decide +kernel
theorem dX5_predicate_37 : decode cX5_predicate 37 = .ok (.athrow, 1) := by decide +kernel
theorem dX5_predicate_38 : decode cX5_predicate 38 = .ok (.aload_n 0, 1) := by decide +kernel
theorem dX5_predicate_39 : decode cX5_predicate 39 = .ok (.getfield 15, 3) := by decide +kernel
theorem dX5_predicate_42 : decode cX5_predicate 42 = .ok (.aload_n 0, 1) := by decide +kernel
theorem dX5_predicate_43 : decode cX5_predicate 43 = .ok (.getfield 58, 3) := by decide +kernel
theorem dX5_predicate_46 : decode cX5_predicate 46 = .ok (.iload_n 1, 1) := by decide +kernel
theorem dX5_predicate_47 : decode cX5_predicate 47 = .ok (.iastore, 1) := by decide +kernel
theorem dX5_predicate_48 : decode cX5_predicate 48 = .ok (.aload_n 0, 1) := by decide +kernel
theorem dX5_predicate_49 : decode cX5_predicate 49 = .ok (.dup, 1) := by decide +kernel
theorem dX5_predicate_50 : decode cX5_predicate 50 = .ok (.getfield 58, 3) := by decide +kernel
theorem dX5_predicate_53 : decode cX5_predicate 53 = .ok (.iconst 1, 1) := by decide +kernel
theorem dX5_predicate_54 : decode cX5_predicate 54 = .ok (.iadd, 1) := by decide +kernel
theorem dX5_predicate_55 : decode cX5_predicate 55 = .ok (.putfield 58, 3) := by decide +kernel
theorem dX5_predicate_58 : decode cX5_predicate 58 = .ok (.aload_n 0, 1) := by decide +kernel
theorem dX5_predicate_59 : decode cX5_predicate 59 = .ok (.getfield 58, 3) := by decide +kernel
theorem dX5_predicate_62 : decode cX5_predicate 62 = .ok (.iconst 1, 1) := by decide +kernel
theorem dX5_predicate_63 : decode cX5_predicate 63 = .ok (.isub, 1) := by decide +kernel
theorem dX5_predicate_64 : decode cX5_predicate 64 = .ok (.ireturn, 1) := by decide +kernel
