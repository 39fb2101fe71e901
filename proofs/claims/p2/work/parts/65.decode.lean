theorem dX6_thrown_0 : decode cX6_thrown 0 = .ok (.aload_n 0, 1) := by decide +kernel
theorem dX6_thrown_1 : decode cX6_thrown 1 = .ok (.getfield 93, 3) := by decide +kernel
theorem dX6_thrown_4 : decode cX6_thrown 4 = .ok (.ireturn, 1) := by decide +kernel
theorem dX6_fit_0 : decode cX6_fit 0 = .ok (.aload_n 0, 1) := by decide +kernel
theorem dX6_fit_1 : decode cX6_fit 1 = .ok (.iconst 0, 1) := by decide +kernel
theorem dX6_fit_2 : decode cX6_fit 2 = .ok (.putfield 93, 3) := by decide +kernel
theorem dX6_fit_5 : decode cX6_fit 5 = .ok (.aload_n 0, 1) := by decide +kernel
theorem dX6_fit_6 : decode cX6_fit 6 = .ok (.getfield 86, 3) := by decide +kernel
theorem dX6_fit_9 : decode cX6_fit 9 = .ok (.ireturn, 1) := by decide +kernel
theorem dX6_count_0 : decode cX6_count 0 = .ok (.aload_n 0, 1) := by decide +kernel
theorem dX6_count_1 : decode cX6_count 1 = .ok (.iconst 0, 1) := by decide +kernel
theorem dX6_count_2 : decode cX6_count 2 = .ok (.putfield 93, 3) := by decide +kernel
theorem dX6_count_5 : decode cX6_count 5 = .ok (.iload_n 1, 1) := by decide +kernel
theorem dX6_count_6 : decode cX6_count 6 = .ok (.tableswitch 59 0 4 #[34, 39, 44, 49, 54], 34) := by decide +kernel
theorem dX6_count_40 : decode cX6_count 40 = .ok (.aload_n 0, 1) := by decide +kernel
theorem dX6_count_41 : decode cX6_count 41 = .ok (.getfield 205, 3) := by decide +kernel
theorem dX6_count_44 : decode cX6_count 44 = .ok (.ireturn, 1) := by decide +kernel
theorem dX6_count_45 : decode cX6_count 45 = .ok (.aload_n 0, 1) := by decide +kernel
theorem dX6_count_46 : decode cX6_count 46 = .ok (.getfield 221, 3) := by decide +kernel
theorem dX6_count_49 : decode cX6_count 49 = .ok (.ireturn, 1) := by decide +kernel
theorem dX6_count_50 : decode cX6_count 50 = .ok (.aload_n 0, 1) := by decide +kernel
theorem dX6_count_51 : decode cX6_count 51 = .ok (.getfield 187, 3) := by decide +kernel
theorem dX6_count_54 : decode cX6_count 54 = .ok (.ireturn, 1) := by decide +kernel
theorem dX6_count_55 : decode cX6_count 55 = .ok (.aload_n 0, 1) := by decide +kernel
theorem dX6_count_56 : decode cX6_count 56 = .ok (.getfield 199, 3) := by decide +kernel
theorem dX6_count_59 : decode cX6_count 59 = .ok (.ireturn, 1) := by decide +kernel
theorem dX6_count_60 : decode cX6_count 60 = .ok (.aload_n 0, 1) := by decide +kernel
theorem dX6_count_61 : decode cX6_count 61 = .ok (.getfield 224, 3) := by decide +kernel
theorem dX6_count_64 : decode cX6_count 64 = .ok (.ireturn, 1) := by decide +kernel
theorem dX6_count_65 : decode cX6_count 65 = .ok (.aload_n 0, 1) := by decide +kernel
theorem dX6_count_66 : decode cX6_count 66 = .ok (.iconst 1, 1) := by decide +kernel
theorem dX6_count_67 : decode cX6_count 67 = .ok (.invokevirtual 208, 3) := by decide +kernel
theorem dX6_count_70 : decode cX6_count 70 = .ok (.ireturn, 1) := by decide +kernel
theorem dX6_alike_0 : decode cX6_alike 0 = .ok (.aload_n 0, 1) := by decide +kernel
theorem dX6_alike_1 : decode cX6_alike 1 = .ok (.iconst 0, 1) := by decide +kernel
theorem dX6_alike_2 : decode cX6_alike 2 = .ok (.putfield 93, 3) := by decide +kernel
theorem dX6_alike_5 : decode cX6_alike 5 = .ok (.aload_n 0, 1) := by decide +kernel
theorem dX6_alike_6 : decode cX6_alike 6 = .ok (.iload_n 1, 1) := by decide +kernel
theorem dX6_alike_7 : decode cX6_alike 7 = .ok (.invokevirtual 211, 3) := by decide +kernel
theorem dX6_alike_10 : decode cX6_alike 10 = .ok (.ifCond .eq 11, 3) := by decide +kernel
theorem dX6_alike_13 : decode cX6_alike 13 = .ok (.aload_n 0, 1) := by decide +kernel
theorem dX6_alike_14 : decode cX6_alike 14 = .ok (.iload_n 2, 1) := by decide +kernel
theorem dX6_alike_15 : decode cX6_alike 15 = .ok (.invokevirtual 211, 3) := by decide +kernel
theorem dX6_alike_18 : decode cX6_alike 18 = .ok (.ifCond .ne 19, 3) := by decide +kernel
theorem dX6_alike_21 : decode cX6_alike 21 = .ok (.aload_n 0, 1) := by decide +kernel
theorem dX6_alike_22 : decode cX6_alike 22 = .ok (.iconst 1, 1) := by decide +kernel
theorem dX6_alike_23 : decode cX6_alike 23 = .ok (.invokevirtual 208, 3) := by decide +kernel
theorem dX6_alike_26 : decode cX6_alike 26 = .ok (.ifCond .le 7, 3) := by decide +kernel
theorem dX6_alike_29 : decode cX6_alike 29 = .ok (.iconst 1, 1) := by decide +kernel
theorem dX6_alike_30 : decode cX6_alike 30 = .ok (.goto 27, 3) := by decide +kernel
theorem dX6_alike_33 : decode cX6_alike 33 = .ok (.iconst 0, 1) := by decide +kernel
theorem dX6_alike_34 : decode cX6_alike 34 = .ok (.goto 23, 3) := by decide +kernel
theorem dX6_alike_37 : decode cX6_alike 37 = .ok (.aload_n 0, 1) := by decide +kernel
theorem dX6_alike_38 : decode cX6_alike 38 = .ok (.getfield 90, 3) := by decide +kernel
theorem dX6_alike_41 : decode cX6_alike 41 = .ok (.iload_n 1, 1) := by decide +kernel
theorem dX6_alike_42 : decode cX6_alike 42 = .ok (.iaload, 1) := by decide +kernel
theorem dX6_alike_43 : decode cX6_alike 43 = .ok (.aload_n 0, 1) := by decide +kernel
theorem dX6_alike_44 : decode cX6_alike 44 = .ok (.getfield 90, 3) := by decide +kernel
theorem dX6_alike_47 : decode cX6_alike 47 = .ok (.iload_n 2, 1) := by decide +kernel
theorem dX6_alike_48 : decode cX6_alike 48 = .ok (.iaload, 1) := by decide +kernel
theorem dX6_alike_49 : decode cX6_alike 49 = .ok (.if_icmp .ne 7, 3) := by decide +kernel
theorem dX6_alike_52 : decode cX6_alike 52 = .ok (.iconst 1, 1) := by decide +kernel
theorem dX6_alike_53 : decode cX6_alike 53 = .ok (.goto 4, 3) := by decide +kernel
theorem dX6_alike_56 : decode cX6_alike 56 = .ok (.iconst 0, 1) := by decide +kernel
theorem dX6_alike_57 : decode cX6_alike 57 = .ok (.ireturn, 1) := by decide +kernel
theorem dX6_about_0 : decode cX6_about 0 = .ok (.aload_n 0, 1) := by decide +kernel
theorem dX6_about_1 : decode cX6_about 1 = .ok (.iconst 0, 1) := by decide +kernel
theorem dX6_about_2 : decode cX6_about 2 = .ok (.putfield 93, 3) := by decide +kernel
theorem dX6_about_5 : decode cX6_about 5 = .ok (.aload_n 0, 1) := by decide +kernel
theorem dX6_about_6 : decode cX6_about 6 = .ok (.iload_n 1, 1) := by decide +kernel
theorem dX6_about_7 : decode cX6_about 7 = .ok (.invokevirtual 211, 3) := by decide +kernel
theorem dX6_about_10 : decode cX6_about 10 = .ok (.ifCond .eq 12, 3) := by decide +kernel
theorem dX6_about_13 : decode cX6_about 13 = .ok (.iload_n 2, 1) := by decide +kernel
theorem dX6_about_14 : decode cX6_about 14 = .ok (.ifCond .lt 8, 3) := by decide +kernel
theorem dX6_about_17 : decode cX6_about 17 = .ok (.iload_n 2, 1) := by decide +kernel
theorem dX6_about_18 : decode cX6_about 18 = .ok (.iconst 3, 1) := by decide +kernel
theorem dX6_about_19 : decode cX6_about 19 = .ok (.if_icmp .le 9, 3) := by decide +kernel
theorem dX6_about_22 : decode cX6_about 22 = .ok (.aload_n 0, 1) := by decide +kernel
theorem dX6_about_23 : decode cX6_about 23 = .ok (.iconst 1, 1) := by decide +kernel
theorem dX6_about_24 : decode cX6_about 24 = .ok (.invokevirtual 208, 3) := by decide +kernel
theorem dX6_about_27 : decode cX6_about 27 = .ok (.ireturn, 1) := by decide +kernel
theorem dX6_about_28 : decode cX6_about 28 = .ok (.aload_n 0, 1) := by decide +kernel
theorem dX6_about_29 : decode cX6_about 29 = .ok (.getfield 90, 3) := by decide +kernel
theorem dX6_about_32 : decode cX6_about 32 = .ok (.iload_n 1, 1) := by decide +kernel
theorem dX6_about_33 : decode cX6_about 33 = .ok (.iaload, 1) := by decide +kernel
theorem dX6_about_34 : decode cX6_about 34 = .ok (.istore_n 3, 1) := by decide +kernel
theorem dX6_about_35 : decode cX6_about 35 = .ok (.iload_n 2, 1) := by decide +kernel
theorem dX6_about_36 : decode cX6_about 36 = .ok (.tableswitch 49 0 2 #[28, 35, 42], 28) := by decide +kernel
theorem dX6_about_64 : decode cX6_about 64 = .ok (.aload_n 0, 1) := by decide +kernel
theorem dX6_about_65 : decode cX6_about 65 = .ok (.getfield 7, 3) := by decide +kernel
theorem dX6_about_68 : decode cX6_about 68 = .ok (.iload_n 3, 1) := by decide +kernel
theorem dX6_about_69 : decode cX6_about 69 = .ok (.iaload, 1) := by decide +kernel
theorem dX6_about_70 : decode cX6_about 70 = .ok (.ireturn, 1) := by decide +kernel
theorem dX6_about_71 : decode cX6_about 71 = .ok (.aload_n 0, 1) := by decide +kernel
theorem dX6_about_72 : decode cX6_about 72 = .ok (.getfield 19, 3) := by decide +kernel
theorem dX6_about_75 : decode cX6_about 75 = .ok (.iload_n 3, 1) := by decide +kernel
theorem dX6_about_76 : decode cX6_about 76 = .ok (.iaload, 1) := by decide +kernel
theorem dX6_about_77 : decode cX6_about 77 = .ok (.ireturn, 1) := by decide +kernel
theorem dX6_about_78 : decode cX6_about 78 = .ok (.aload_n 0, 1) := by decide +kernel
theorem dX6_about_79 : decode cX6_about 79 = .ok (.getfield 22, 3) := by decide +kernel
theorem dX6_about_82 : decode cX6_about 82 = .ok (.iload_n 3, 1) := by decide +kernel
theorem dX6_about_83 : decode cX6_about 83 = .ok (.iaload, 1) := by decide +kernel
theorem dX6_about_84 : decode cX6_about 84 = .ok (.ireturn, 1) := by decide +kernel
theorem dX6_about_85 : decode cX6_about 85 = .ok (.aload_n 0, 1) := by decide +kernel
theorem dX6_about_86 : decode cX6_about 86 = .ok (.getfield 7, 3) := by decide +kernel
theorem dX6_about_89 : decode cX6_about 89 = .ok (.iload_n 3, 1) := by decide +kernel
theorem dX6_about_90 : decode cX6_about 90 = .ok (.iaload, 1) := by decide +kernel
theorem dX6_about_91 : decode cX6_about 91 = .ok (.iconst 5, 1) := by decide +kernel
theorem dX6_about_92 : decode cX6_about 92 = .ok (.if_icmp .eq 23, 3) := by decide +kernel
theorem dX6_about_95 : decode cX6_about 95 = .ok (.aload_n 0, 1) := by decide +kernel
theorem dX6_about_96 : decode cX6_about 96 = .ok (.getfield 7, 3) := by decide +kernel
theorem dX6_about_99 : decode cX6_about 99 = .ok (.iload_n 3, 1) := by decide +kernel
theorem dX6_about_100 : decode cX6_about 100 = .ok (.iaload, 1) := by decide +kernel
theorem dX6_about_101 : decode cX6_about 101 = .ok (.iconst 1, 1) := by decide +kernel
theorem dX6_about_102 : decode cX6_about 102 = .ok (.if_icmp .eq 13, 3) := by decide +kernel
theorem dX6_about_105 : decode cX6_about 105 = .ok (.aload_n 0, 1) := by decide +kernel
theorem dX6_about_106 : decode cX6_about 106 = .ok (.getfield 7, 3) := by decide +kernel
theorem dX6_about_109 : decode cX6_about 109 = .ok (.iload_n 3, 1) := by decide +kernel
theorem dX6_about_110 : decode cX6_about 110 = .ok (.iaload, 1) := by decide +kernel
theorem dX6_about_111 : decode cX6_about 111 = .ok (.iconst 2, 1) := by decide +kernel
theorem dX6_about_112 : decode cX6_about 112 = .ok (.if_icmp .ne 12, 3) := by decide +kernel
theorem dX6_about_115 : decode cX6_about 115 = .ok (.aload_n 0, 1) := by decide +kernel
theorem dX6_about_116 : decode cX6_about 116 = .ok (.getfield 13, 3) := by decide +kernel
theorem dX6_about_119 : decode cX6_about 119 = .ok (.iload_n 3, 1) := by decide +kernel
theorem dX6_about_120 : decode cX6_about 120 = .ok (.iaload, 1) := by decide +kernel
theorem dX6_about_121 : decode cX6_about 121 = .ok (.goto 4, 3) := by decide +kernel
theorem dX6_about_124 : decode cX6_about 124 = .ok (.iconst (-1), 1) := by decide +kernel
theorem dX6_about_125 : decode cX6_about 125 = .ok (.ireturn, 1) := by decide +kernel
theorem dX6_part_0 : decode cX6_part 0 = .ok (.aload_n 0, 1) := by decide +kernel
theorem dX6_part_1 : decode cX6_part 1 = .ok (.iconst 0, 1) := by decide +kernel
theorem dX6_part_2 : decode cX6_part 2 = .ok (.putfield 93, 3) := by decide +kernel
theorem dX6_part_5 : decode cX6_part 5 = .ok (.aload_n 0, 1) := by decide +kernel
theorem dX6_part_6 : decode cX6_part 6 = .ok (.iload_n 1, 1) := by decide +kernel
theorem dX6_part_7 : decode cX6_part 7 = .ok (.invokevirtual 211, 3) := by decide +kernel
theorem dX6_part_10 : decode cX6_part 10 = .ok (.ifCond .eq 22, 3) := by decide +kernel
theorem dX6_part_13 : decode cX6_part 13 = .ok (.iload_n 2, 1) := by decide +kernel
theorem dX6_part_14 : decode cX6_part 14 = .ok (.ifCond .lt 18, 3) := by decide +kernel
theorem dX6_part_17 : decode cX6_part 17 = .ok (.iload_n 2, 1) := by decide +kernel
theorem dX6_part_18 : decode cX6_part 18 = .ok (.aload_n 0, 1) := by decide +kernel
theorem dX6_part_19 : decode cX6_part 19 = .ok (.getfield 19, 3) := by decide +kernel
theorem dX6_part_22 : decode cX6_part 22 = .ok (.aload_n 0, 1) := by decide +kernel
theorem dX6_part_23 : decode cX6_part 23 = .ok (.getfield 90, 3) := by decide +kernel
theorem dX6_part_26 : decode cX6_part 26 = .ok (.iload_n 1, 1) := by decide +kernel
theorem dX6_part_27 : decode cX6_part 27 = .ok (.iaload, 1) := by decide +kernel
theorem dX6_part_28 : decode cX6_part 28 = .ok (.iaload, 1) := by decide +kernel
theorem dX6_part_29 : decode cX6_part 29 = .ok (.if_icmp .lt 9, 3) := by decide +kernel
theorem dX6_part_32 : decode cX6_part 32 = .ok (.aload_n 0, 1) := by decide +kernel
theorem dX6_part_33 : decode cX6_part 33 = .ok (.iconst 1, 1) := by decide +kernel
theorem dX6_part_34 : decode cX6_part 34 = .ok (.invokevirtual 208, 3) := by decide +kernel
theorem dX6_part_37 : decode cX6_part 37 = .ok (.ireturn, 1) := by decide +kernel
theorem dX6_part_38 : decode cX6_part 38 = .ok (.aload_n 0, 1) := by decide +kernel
theorem dX6_part_39 : decode cX6_part 39 = .ok (.aload_n 0, 1) := by decide +kernel
theorem dX6_part_40 : decode cX6_part 40 = .ok (.aload_n 0, 1) := by decide +kernel
theorem dX6_part_41 : decode cX6_part 41 = .ok (.getfield 90, 3) := by decide +kernel
theorem dX6_part_44 : decode cX6_part 44 = .ok (.iload_n 1, 1) := by decide +kernel
theorem dX6_part_45 : decode cX6_part 45 = .ok (.iaload, 1) := by decide +kernel
theorem dX6_part_46 : decode cX6_part 46 = .ok (.iload_n 2, 1) := by decide +kernel
theorem dX6_part_47 : decode cX6_part 47 = .ok (.invokevirtual 110, 3) := by decide +kernel
theorem dX6_part_50 : decode cX6_part 50 = .ok (.iconst 2, 1) := by decide +kernel
theorem dX6_part_51 : decode cX6_part 51 = .ok (.invokevirtual 227, 3) := by decide +kernel
theorem dX6_part_54 : decode cX6_part 54 = .ok (.ireturn, 1) := by decide +kernel
