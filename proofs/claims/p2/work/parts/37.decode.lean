theorem dX5_tellStep_0 : decode cX5_tellStep 0 = .ok (.aload_n 1, 1) := by decide +kernel
theorem dX5_tellStep_1 : decode cX5_tellStep 1 = .ok (.getfield 319, 3) := by decide +kernel
theorem dX5_tellStep_4 : decode cX5_tellStep 4 = .ok (.iconst 2, 1) := by decide +kernel
theorem dX5_tellStep_5 : decode cX5_tellStep 5 = .ok (.if_icmp .ne 17, 3) := by decide +kernel
theorem dX5_tellStep_8 : decode cX5_tellStep 8 = .ok (.aload_n 0, 1) := by decide +kernel
theorem dX5_tellStep_9 : decode cX5_tellStep 9 = .ok (.getfield 32, 3) := by decide +kernel
theorem dX5_tellStep_12 : decode cX5_tellStep 12 = .ok (.aload_n 1, 1) := by decide +kernel
theorem dX5_tellStep_13 : decode cX5_tellStep 13 = .ok (.getfield 211, 3) := by decide +kernel
theorem dX5_tellStep_16 : decode cX5_tellStep 16 = .ok (.invokevirtual 280, 3) := by decide +kernel
theorem dX5_tellStep_19 : decode cX5_tellStep 19 = .ok (.goto 14, 3) := by decide +kernel
theorem dX5_tellStep_22 : decode cX5_tellStep 22 = .ok (.aload_n 0, 1) := by decide +kernel
theorem dX5_tellStep_23 : decode cX5_tellStep 23 = .ok (.getfield 32, 3) := by decide +kernel
theorem dX5_tellStep_26 : decode cX5_tellStep 26 = .ok (.aload_n 1, 1) := by decide +kernel
theorem dX5_tellStep_27 : decode cX5_tellStep 27 = .ok (.getfield 211, 3) := by decide +kernel
theorem dX5_tellStep_30 : decode cX5_tellStep 30 = .ok (.invokevirtual 287, 3) := by decide +kernel
theorem dX5_tellStep_33 : decode cX5_tellStep 33 = .ok (.aload_n 1, 1) := by decide +kernel
theorem dX5_tellStep_34 : decode cX5_tellStep 34 = .ok (.getfield 319, 3) := by decide +kernel
theorem dX5_tellStep_37 : decode cX5_tellStep 37 = .ok (.ifCond .eq 11, 3) := by decide +kernel
theorem dX5_tellStep_40 : decode cX5_tellStep 40 = .ok (.aload_n 1, 1) := by decide +kernel
theorem dX5_tellStep_41 : decode cX5_tellStep 41 = .ok (.getfield 319, 3) := by decide +kernel
theorem dX5_tellStep_44 : decode cX5_tellStep 44 = .ok (.iconst 4, 1) := by decide +kernel
theorem dX5_tellStep_45 : decode cX5_tellStep 45 = .ok (.if_icmp .ne 14, 3) := by decide +kernel
theorem dX5_tellStep_48 : decode cX5_tellStep 48 = .ok (.aload_n 0, 1) := by decide +kernel
theorem dX5_tellStep_49 : decode cX5_tellStep 49 = .ok (.getfield 32, 3) := by decide +kernel
theorem dX5_tellStep_52 : decode cX5_tellStep 52 = .ok (.aload_n 1, 1) := by decide +kernel
theorem dX5_tellStep_53 : decode cX5_tellStep 53 = .ok (.getfield 320, 3) := by decide +kernel
theorem dX5_tellStep_56 : decode cX5_tellStep 56 = .ok (.invokevirtual 137, 3) := by decide +kernel
theorem dX5_tellStep_59 : decode cX5_tellStep 59 = .ok (.return_, 1) := by decide +kernel
theorem dX5_endNow_0 : decode cX5_endNow 0 = .ok (.aload_n 0, 1) := by decide +kernel
theorem dX5_endNow_1 : decode cX5_endNow 1 = .ok (.getfield 32, 3) := by decide +kernel
theorem dX5_endNow_4 : decode cX5_endNow 4 = .ok (.iconst 3, 1) := by decide +kernel
theorem dX5_endNow_5 : decode cX5_endNow 5 = .ok (.invokevirtual 92, 3) := by decide +kernel
theorem dX5_endNow_8 : decode cX5_endNow 8 = .ok (.aload_n 1, 1) := by decide +kernel
theorem dX5_endNow_9 : decode cX5_endNow 9 = .ok (.getfield 207, 3) := by decide +kernel
theorem dX5_endNow_12 : decode cX5_endNow 12 = .ok (.astore_n 2, 1) := by decide +kernel
theorem dX5_endNow_13 : decode cX5_endNow 13 = .ok (.aload_n 2, 1) := by decide +kernel
theorem dX5_endNow_14 : decode cX5_endNow 14 = .ok (.ifnull 16, 3) := by decide +kernel
theorem dX5_endNow_17 : decode cX5_endNow 17 = .ok (.aload_n 0, 1) := by decide +kernel
theorem dX5_endNow_18 : decode cX5_endNow 18 = .ok (.aload_n 2, 1) := by decide +kernel
theorem dX5_endNow_19 : decode cX5_endNow 19 = .ok (.invokevirtual 315, 3) := by decide +kernel
theorem dX5_endNow_22 : decode cX5_endNow 22 = .ok (.aload_n 2, 1) := by decide +kernel
theorem dX5_endNow_23 : decode cX5_endNow 23 = .ok (.getfield 223, 3) := by decide +kernel
theorem dX5_endNow_26 : decode cX5_endNow 26 = .ok (.astore_n 2, 1) := by decide +kernel
theorem dX5_endNow_27 : decode cX5_endNow 27 = .ok (.goto (-14), 3) := by decide +kernel
theorem dX5_endNow_30 : decode cX5_endNow 30 = .ok (.aload_n 0, 1) := by decide +kernel
theorem dX5_endNow_31 : decode cX5_endNow 31 = .ok (.invokevirtual 96, 3) := by decide +kernel
theorem dX5_endNow_34 : decode cX5_endNow 34 = .ok (.istore_n 2, 1) := by decide +kernel
theorem dX5_endNow_35 : decode cX5_endNow 35 = .ok (.aload_n 0, 1) := by decide +kernel
theorem dX5_endNow_36 : decode cX5_endNow 36 = .ok (.dup, 1) := by decide +kernel
theorem dX5_endNow_37 : decode cX5_endNow 37 = .ok (.getfield 200, 3) := by decide +kernel
theorem dX5_endNow_40 : decode cX5_endNow 40 = .ok (.iconst 1, 1) := by decide +kernel
theorem dX5_endNow_41 : decode cX5_endNow 41 = .ok (.isub, 1) := by decide +kernel
theorem dX5_endNow_42 : decode cX5_endNow 42 = .ok (.putfield 200, 3) := by decide +kernel
theorem dX5_endNow_45 : decode cX5_endNow 45 = .ok (.bipush (-2), 2) := by decide +kernel
theorem dX5_endNow_47 : decode cX5_endNow 47 = .ok (.iload_n 2, 1) := by decide +kernel
theorem dX5_endNow_48 : decode cX5_endNow 48 = .ok (.isub, 1) := by decide +kernel
theorem dX5_endNow_49 : decode cX5_endNow 49 = .ok (.ireturn, 1) := by decide +kernel
theorem dX5_tellAround_0 : decode cX5_tellAround 0 = .ok (.aload_n 0, 1) := by decide +kernel
theorem dX5_tellAround_1 : decode cX5_tellAround 1 = .ok (.invokevirtual 169, 3) := by decide +kernel
theorem dX5_tellAround_4 : decode cX5_tellAround 4 = .ok (.astore_n 2, 1) := by decide +kernel
theorem dX5_tellAround_5 : decode cX5_tellAround 5 = .ok (.aload_n 2, 1) := by decide +kernel
theorem dX5_tellAround_6 : decode cX5_tellAround 6 = .ok (.ifnull 12, 3) := by decide +kernel
theorem dX5_tellAround_9 : decode cX5_tellAround 9 = .ok (.iload_n 1, 1) := by decide +kernel
theorem dX5_tellAround_10 : decode cX5_tellAround 10 = .ok (.ifCond .ne 8, 3) := by decide +kernel
theorem dX5_tellAround_13 : decode cX5_tellAround 13 = .ok (.aload_n 2, 1) := by decide +kernel
theorem dX5_tellAround_14 : decode cX5_tellAround 14 = .ok (.iconst 1, 1) := by decide +kernel
theorem dX5_tellAround_15 : decode cX5_tellAround 15 = .ok (.putfield 323, 3) := by decide +kernel
theorem dX5_tellAround_18 : decode cX5_tellAround 18 = .ok (.return_, 1) := by decide +kernel
theorem dX5_end_0 : decode cX5_end 0 = .ok (.aload_n 0, 1) := by decide +kernel
theorem dX5_end_1 : decode cX5_end 1 = .ok (.invokevirtual 169, 3) := by decide +kernel
theorem dX5_end_4 : decode cX5_end 4 = .ok (.astore_n 1, 1) := by decide +kernel
theorem dX5_end_5 : decode cX5_end 5 = .ok (.aload_n 1, 1) := by decide +kernel
theorem dX5_end_6 : decode cX5_end 6 = .ok (.ifnonnull 13, 3) := by decide +kernel
theorem dX5_end_9 : decode cX5_end 9 = .ok (.new 62, 3) := by decide +kernel
theorem dX5_end_12 : decode cX5_end 12 = .ok (.dup, 1) := by decide +kernel
theorem dX5_end_13 : decode cX5_end 13 = .ok (.ldc 190, 2) := by decide +kernel
theorem dX5_end_15 : decode cX5_end 15 = .ok (.invokespecial 66, 3) := by decide +kernel
theorem dX5_end_18 : decode cX5_end 18 = .ok (.athrow, 1) := by decide +kernel
theorem dX5_end_19 : decode cX5_end 19 = .ok (.aload_n 1, 1) := by decide +kernel
theorem dX5_end_20 : decode cX5_end 20 = .ok (.getfield 162, 3) := by decide +kernel
theorem dX5_end_23 : decode cX5_end 23 = .ok (.iconst 1, 1) := by decide +kernel
theorem dX5_end_24 : decode cX5_end 24 = .ok (.if_icmp .ne 9, 3) := by decide +kernel
theorem dX5_end_27 : decode cX5_end 27 = .ok (.aload_n 0, 1) := by decide +kernel
theorem dX5_end_28 : decode cX5_end 28 = .ok (.aload_n 1, 1) := by decide +kernel
theorem dX5_end_29 : decode cX5_end 29 = .ok (.invokevirtual 192, 3) := by decide +kernel
theorem dX5_end_32 : decode cX5_end 32 = .ok (.ireturn, 1) := by decide +kernel
theorem dX5_end_33 : decode cX5_end 33 = .ok (.aload_n 1, 1) := by decide +kernel
theorem dX5_end_34 : decode cX5_end 34 = .ok (.invokevirtual 196, 3) := by decide +kernel
theorem dX5_end_37 : decode cX5_end 37 = .ok (.istore_n 2, 1) := by decide +kernel
theorem dX5_end_38 : decode cX5_end 38 = .ok (.aload_n 0, 1) := by decide +kernel
theorem dX5_end_39 : decode cX5_end 39 = .ok (.dup, 1) := by decide +kernel
theorem dX5_end_40 : decode cX5_end 40 = .ok (.getfield 200, 3) := by decide +kernel
theorem dX5_end_43 : decode cX5_end 43 = .ok (.iconst 1, 1) := by decide +kernel
theorem dX5_end_44 : decode cX5_end 44 = .ok (.isub, 1) := by decide +kernel
theorem dX5_end_45 : decode cX5_end 45 = .ok (.putfield 200, 3) := by decide +kernel
theorem dX5_end_48 : decode cX5_end 48 = .ok (.aload_n 1, 1) := by decide +kernel
theorem dX5_end_49 : decode cX5_end 49 = .ok (.getfield 162, 3) := by decide +kernel
theorem dX5_end_52 : decode cX5_end 52 = .ok (.iconst 2, 1) := by decide +kernel
theorem dX5_end_53 : decode cX5_end 53 = .ok (.if_icmp .ne 8, 3) := by decide +kernel
theorem dX5_end_56 : decode cX5_end 56 = .ok (.aload_n 0, 1) := by decide +kernel
theorem dX5_end_57 : decode cX5_end 57 = .ok (.iload_n 2, 1) := by decide +kernel
theorem dX5_end_58 : decode cX5_end 58 = .ok (.invokevirtual 203, 3) := by decide +kernel
theorem dX5_end_61 : decode cX5_end 61 = .ok (.iload_n 2, 1) := by decide +kernel
theorem dX5_end_62 : decode cX5_end 62 = .ok (.ifCond .eq 7, 3) := by decide +kernel
theorem dX5_end_65 : decode cX5_end 65 = .ok (.iconst 1, 1) := by decide +kernel
theorem dX5_end_66 : decode cX5_end 66 = .ok (.goto 4, 3) := by decide +kernel
theorem dX5_end_69 : decode cX5_end 69 = .ok (.iconst 0, 1) := by decide +kernel
theorem dX5_end_70 : decode cX5_end 70 = .ok (.ireturn, 1) := by decide +kernel
theorem dX5_ways_0 : decode cX5_ways 0 = .ok (.aload_n 0, 1) := by decide +kernel
theorem dX5_ways_1 : decode cX5_ways 1 = .ok (.invokevirtual 177, 3) := by decide +kernel
theorem dX5_ways_4 : decode cX5_ways 4 = .ok (.astore_n 1, 1) := by decide +kernel
theorem dX5_ways_5 : decode cX5_ways 5 = .ok (.aload_n 0, 1) := by decide +kernel
theorem dX5_ways_6 : decode cX5_ways 6 = .ok (.getfield 32, 3) := by decide +kernel
theorem dX5_ways_9 : decode cX5_ways 9 = .ok (.iconst 3, 1) := by decide +kernel
theorem dX5_ways_10 : decode cX5_ways 10 = .ok (.invokevirtual 92, 3) := by decide +kernel
theorem dX5_ways_13 : decode cX5_ways 13 = .ok (.aload_n 1, 1) := by decide +kernel
theorem dX5_ways_14 : decode cX5_ways 14 = .ok (.getfield 207, 3) := by decide +kernel
theorem dX5_ways_17 : decode cX5_ways 17 = .ok (.astore_n 2, 1) := by decide +kernel
theorem dX5_ways_18 : decode cX5_ways 18 = .ok (.aload_n 2, 1) := by decide +kernel
theorem dX5_ways_19 : decode cX5_ways 19 = .ok (.ifnull 40, 3) := by decide +kernel
theorem dX5_ways_22 : decode cX5_ways 22 = .ok (.aload_n 0, 1) := by decide +kernel
theorem dX5_ways_23 : decode cX5_ways 23 = .ok (.getfield 36, 3) := by decide +kernel
theorem dX5_ways_26 : decode cX5_ways 26 = .ok (.aload_n 2, 1) := by decide +kernel
theorem dX5_ways_27 : decode cX5_ways 27 = .ok (.getfield 211, 3) := by decide +kernel
theorem dX5_ways_30 : decode cX5_ways 30 = .ok (.invokevirtual 130, 3) := by decide +kernel
theorem dX5_ways_33 : decode cX5_ways 33 = .ok (.aload_n 0, 1) := by decide +kernel
theorem dX5_ways_34 : decode cX5_ways 34 = .ok (.getfield 36, 3) := by decide +kernel
theorem dX5_ways_37 : decode cX5_ways 37 = .ok (.invokevirtual 216, 3) := by decide +kernel
theorem dX5_ways_40 : decode cX5_ways 40 = .ok (.aload_n 0, 1) := by decide +kernel
theorem dX5_ways_41 : decode cX5_ways 41 = .ok (.getfield 32, 3) := by decide +kernel
theorem dX5_ways_44 : decode cX5_ways 44 = .ok (.aload_n 0, 1) := by decide +kernel
theorem dX5_ways_45 : decode cX5_ways 45 = .ok (.getfield 36, 3) := by decide +kernel
theorem dX5_ways_48 : decode cX5_ways 48 = .ok (.invokevirtual 219, 3) := by decide +kernel
theorem dX5_ways_51 : decode cX5_ways 51 = .ok (.aload_n 2, 1) := by decide +kernel
theorem dX5_ways_52 : decode cX5_ways 52 = .ok (.getfield 223, 3) := by decide +kernel
theorem dX5_ways_55 : decode cX5_ways 55 = .ok (.astore_n 2, 1) := by decide +kernel
theorem dX5_ways_56 : decode cX5_ways 56 = .ok (.goto (-38), 3) := by decide +kernel
theorem dX5_ways_59 : decode cX5_ways 59 = .ok (.aload_n 0, 1) := by decide +kernel
theorem dX5_ways_60 : decode cX5_ways 60 = .ok (.getfield 32, 3) := by decide +kernel
theorem dX5_ways_63 : decode cX5_ways 63 = .ok (.invokevirtual 216, 3) := by decide +kernel
theorem dX5_ways_66 : decode cX5_ways 66 = .ok (.aload_n 0, 1) := by decide +kernel
theorem dX5_ways_67 : decode cX5_ways 67 = .ok (.invokevirtual 96, 3) := by decide +kernel
theorem dX5_ways_70 : decode cX5_ways 70 = .ok (.ireturn, 1) := by decide +kernel
