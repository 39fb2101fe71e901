theorem dX1_of_0 : decode cX1_of 0 = .ok (.iload_n 1, 1) := by decide +kernel
theorem dX1_of_1 : decode cX1_of 1 = .ok (.iconst 4, 1) := by decide +kernel
theorem dX1_of_2 : decode cX1_of 2 = .ok (.ishl, 1) := by decide +kernel
theorem dX1_of_3 : decode cX1_of 3 = .ok (.iload_n 0, 1) := by decide +kernel
theorem dX1_of_4 : decode cX1_of 4 = .ok (.ior, 1) := by decide +kernel
theorem dX1_of_5 : decode cX1_of 5 = .ok (.ireturn, 1) := by decide +kernel
theorem dX1_kind_0 : decode cX1_kind 0 = .ok (.iload_n 0, 1) := by decide +kernel
theorem dX1_kind_1 : decode cX1_kind 1 = .ok (.bipush 15, 2) := by decide +kernel
theorem dX1_kind_3 : decode cX1_kind 3 = .ok (.iand, 1) := by decide +kernel
theorem dX1_kind_4 : decode cX1_kind 4 = .ok (.ireturn, 1) := by decide +kernel
theorem dX1_value_0 : decode cX1_value 0 = .ok (.iload_n 0, 1) := by decide +kernel
theorem dX1_value_1 : decode cX1_value 1 = .ok (.iconst 4, 1) := by decide +kernel
theorem dX1_value_2 : decode cX1_value 2 = .ok (.ishr, 1) := by decide +kernel
theorem dX1_value_3 : decode cX1_value 3 = .ok (.ireturn, 1) := by decide +kernel
theorem dX4_setOnly_0 : decode cX4_setOnly 0 = .ok (.aload_n 0, 1) := by decide +kernel
theorem dX4_setOnly_1 : decode cX4_setOnly 1 = .ok (.getfield 11, 3) := by decide +kernel
theorem dX4_setOnly_4 : decode cX4_setOnly 4 = .ok (.iconst 0, 1) := by decide +kernel
theorem dX4_setOnly_5 : decode cX4_setOnly 5 = .ok (.iload_n 1, 1) := by decide +kernel
theorem dX4_setOnly_6 : decode cX4_setOnly 6 = .ok (.iastore, 1) := by decide +kernel
theorem dX4_setOnly_7 : decode cX4_setOnly 7 = .ok (.aload_n 0, 1) := by decide +kernel
theorem dX4_setOnly_8 : decode cX4_setOnly 8 = .ok (.iconst 1, 1) := by decide +kernel
theorem dX4_setOnly_9 : decode cX4_setOnly 9 = .ok (.putfield 15, 3) := by decide +kernel
theorem dX4_setOnly_12 : decode cX4_setOnly 12 = .ok (.aload_n 0, 1) := by decide +kernel
theorem dX4_setOnly_13 : decode cX4_setOnly 13 = .ok (.iconst 0, 1) := by decide +kernel
theorem dX4_setOnly_14 : decode cX4_setOnly 14 = .ok (.putfield 19, 3) := by decide +kernel
theorem dX4_setOnly_17 : decode cX4_setOnly 17 = .ok (.return_, 1) := by decide +kernel
theorem dX4_setNotTrue_0 : decode cX4_setNotTrue 0 = .ok (.aload_n 0, 1) := by decide +kernel
theorem dX4_setNotTrue_1 : decode cX4_setNotTrue 1 = .ok (.getfield 11, 3) := by decide +kernel
theorem dX4_setNotTrue_4 : decode cX4_setNotTrue 4 = .ok (.iconst 0, 1) := by decide +kernel
theorem dX4_setNotTrue_5 : decode cX4_setNotTrue 5 = .ok (.bipush 6, 2) := by decide +kernel
theorem dX4_setNotTrue_7 : decode cX4_setNotTrue 7 = .ok (.iastore, 1) := by decide +kernel
theorem dX4_setNotTrue_8 : decode cX4_setNotTrue 8 = .ok (.aload_n 0, 1) := by decide +kernel
theorem dX4_setNotTrue_9 : decode cX4_setNotTrue 9 = .ok (.getfield 11, 3) := by decide +kernel
theorem dX4_setNotTrue_12 : decode cX4_setNotTrue 12 = .ok (.iconst 1, 1) := by decide +kernel
theorem dX4_setNotTrue_13 : decode cX4_setNotTrue 13 = .ok (.iconst 3, 1) := by decide +kernel
theorem dX4_setNotTrue_14 : decode cX4_setNotTrue 14 = .ok (.iastore, 1) := by decide +kernel
theorem dX4_setNotTrue_15 : decode cX4_setNotTrue 15 = .ok (.aload_n 0, 1) := by decide +kernel
theorem dX4_setNotTrue_16 : decode cX4_setNotTrue 16 = .ok (.iconst 2, 1) := by decide +kernel
theorem dX4_setNotTrue_17 : decode cX4_setNotTrue 17 = .ok (.putfield 15, 3) := by decide +kernel
theorem dX4_setNotTrue_20 : decode cX4_setNotTrue 20 = .ok (.aload_n 0, 1) := by decide +kernel
theorem dX4_setNotTrue_21 : decode cX4_setNotTrue 21 = .ok (.iconst 0, 1) := by decide +kernel
theorem dX4_setNotTrue_22 : decode cX4_setNotTrue 22 = .ok (.putfield 19, 3) := by decide +kernel
theorem dX4_setNotTrue_25 : decode cX4_setNotTrue 25 = .ok (.return_, 1) := by decide +kernel
theorem dX4_add_0 : decode cX4_add 0 = .ok (.aload_n 0, 1) := by decide +kernel
theorem dX4_add_1 : decode cX4_add 1 = .ok (.getfield 15, 3) := by decide +kernel
theorem dX4_add_4 : decode cX4_add 4 = .ok (.sipush 512, 3) := by decide +kernel
theorem dX4_add_7 : decode cX4_add 7 = .ok (.if_icmp .ge 23, 3) := by decide +kernel
theorem dX4_add_10 : decode cX4_add 10 = .ok (.aload_n 0, 1) := by decide +kernel
theorem dX4_add_11 : decode cX4_add 11 = .ok (.getfield 11, 3) := by decide +kernel
theorem dX4_add_14 : decode cX4_add 14 = .ok (.aload_n 0, 1) := by decide +kernel
theorem dX4_add_15 : decode cX4_add 15 = .ok (.getfield 15, 3) := by decide +kernel
theorem dX4_add_18 : decode cX4_add 18 = .ok (.iload_n 1, 1) := by decide +kernel
theorem dX4_add_19 : decode cX4_add 19 = .ok (.iastore, 1) := by decide +kernel
theorem dX4_add_20 : decode cX4_add 20 = .ok (.aload_n 0, 1) := by decide +kernel
theorem dX4_add_21 : decode cX4_add 21 = .ok (.dup, 1) := by decide +kernel
theorem dX4_add_22 : decode cX4_add 22 = .ok (.getfield 15, 3) := by decide +kernel
theorem dX4_add_25 : decode cX4_add 25 = .ok (.iconst 1, 1) := by decide +kernel
theorem dX4_add_26 : decode cX4_add 26 = .ok (.iadd, 1) := by decide +kernel
theorem dX4_add_27 : decode cX4_add 27 = .ok (.putfield 15, 3) := by decide +kernel
theorem dX4_add_30 : decode cX4_add 30 = .ok (.return_, 1) := by decide +kernel
theorem dX4_putFirst_0 : decode cX4_putFirst 0 = .ok (.aload_n 0, 1) := by decide +kernel
theorem dX4_putFirst_1 : decode cX4_putFirst 1 = .ok (.getfield 15, 3) := by decide +kernel
theorem dX4_putFirst_4 : decode cX4_putFirst 4 = .ok (.sipush 240, 3) := by decide +kernel
theorem dX4_putFirst_7 : decode cX4_putFirst 7 = .ok (.if_icmp .lt 9, 3) := by decide +kernel
theorem dX4_putFirst_10 : decode cX4_putFirst 10 = .ok (.aload_n 0, 1) := by decide +kernel
theorem dX4_putFirst_11 : decode cX4_putFirst 11 = .ok (.iconst 1, 1) := by decide +kernel
theorem dX4_putFirst_12 : decode cX4_putFirst 12 = .ok (.putfield 19, 3) := by decide +kernel
theorem dX4_putFirst_15 : decode cX4_putFirst 15 = .ok (.return_, 1) := by decide +kernel
theorem dX4_putFirst_16 : decode cX4_putFirst 16 = .ok (.aload_n 0, 1) := by decide +kernel
theorem dX4_putFirst_17 : decode cX4_putFirst 17 = .ok (.getfield 11, 3) := by decide +kernel
theorem dX4_putFirst_20 : decode cX4_putFirst 20 = .ok (.iconst 0, 1) := by decide +kernel
theorem dX4_putFirst_21 : decode cX4_putFirst 21 = .ok (.aload_n 0, 1) := by decide +kernel
theorem dX4_putFirst_22 : decode cX4_putFirst 22 = .ok (.getfield 11, 3) := by decide +kernel
theorem dX4_putFirst_25 : decode cX4_putFirst 25 = .ok (.iconst 1, 1) := by decide +kernel
theorem dX4_putFirst_26 : decode cX4_putFirst 26 = .ok (.aload_n 0, 1) := by decide +kernel
theorem dX4_putFirst_27 : decode cX4_putFirst 27 = .ok (.getfield 15, 3) := by decide +kernel
theorem dX4_putFirst_30 : decode cX4_putFirst 30 = .ok (.invokestatic 34, 3) := by decide +kernel
theorem dX4_putFirst_33 : decode cX4_putFirst 33 = .ok (.aload_n 0, 1) := by decide +kernel
theorem dX4_putFirst_34 : decode cX4_putFirst 34 = .ok (.getfield 11, 3) := by decide +kernel
theorem dX4_putFirst_37 : decode cX4_putFirst 37 = .ok (.iconst 0, 1) := by decide +kernel
theorem dX4_putFirst_38 : decode cX4_putFirst 38 = .ok (.iload_n 1, 1) := by decide +kernel
theorem dX4_putFirst_39 : decode cX4_putFirst 39 = .ok (.iastore, 1) := by decide +kernel
theorem dX4_putFirst_40 : decode cX4_putFirst 40 = .ok (.aload_n 0, 1) := by decide +kernel
theorem dX4_putFirst_41 : decode cX4_putFirst 41 = .ok (.dup, 1) := by decide +kernel
theorem dX4_putFirst_42 : decode cX4_putFirst 42 = .ok (.getfield 15, 3) := by decide +kernel
theorem dX4_putFirst_45 : decode cX4_putFirst 45 = .ok (.iconst 1, 1) := by decide +kernel
theorem dX4_putFirst_46 : decode cX4_putFirst 46 = .ok (.iadd, 1) := by decide +kernel
theorem dX4_putFirst_47 : decode cX4_putFirst 47 = .ok (.putfield 15, 3) := by decide +kernel
theorem dX4_putFirst_50 : decode cX4_putFirst 50 = .ok (.return_, 1) := by decide +kernel
theorem dX4_dropFirst_0 : decode cX4_dropFirst 0 = .ok (.iload_n 1, 1) := by decide +kernel
theorem dX4_dropFirst_1 : decode cX4_dropFirst 1 = .ok (.ifCond .lt 11, 3) := by decide +kernel
theorem dX4_dropFirst_4 : decode cX4_dropFirst 4 = .ok (.iload_n 1, 1) := by decide +kernel
theorem dX4_dropFirst_5 : decode cX4_dropFirst 5 = .ok (.aload_n 0, 1) := by decide +kernel
theorem dX4_dropFirst_6 : decode cX4_dropFirst 6 = .ok (.getfield 15, 3) := by decide +kernel
theorem dX4_dropFirst_9 : decode cX4_dropFirst 9 = .ok (.if_icmp .lt 4, 3) := by decide +kernel
theorem dX4_dropFirst_12 : decode cX4_dropFirst 12 = .ok (.return_, 1) := by decide +kernel
theorem dX4_dropFirst_13 : decode cX4_dropFirst 13 = .ok (.aload_n 0, 1) := by decide +kernel
theorem dX4_dropFirst_14 : decode cX4_dropFirst 14 = .ok (.getfield 11, 3) := by decide +kernel
theorem dX4_dropFirst_17 : decode cX4_dropFirst 17 = .ok (.iload_n 1, 1) := by decide +kernel
theorem dX4_dropFirst_18 : decode cX4_dropFirst 18 = .ok (.aload_n 0, 1) := by decide +kernel
theorem dX4_dropFirst_19 : decode cX4_dropFirst 19 = .ok (.getfield 11, 3) := by decide +kernel
theorem dX4_dropFirst_22 : decode cX4_dropFirst 22 = .ok (.iconst 0, 1) := by decide +kernel
theorem dX4_dropFirst_23 : decode cX4_dropFirst 23 = .ok (.aload_n 0, 1) := by decide +kernel
theorem dX4_dropFirst_24 : decode cX4_dropFirst 24 = .ok (.getfield 15, 3) := by decide +kernel
theorem dX4_dropFirst_27 : decode cX4_dropFirst 27 = .ok (.iload_n 1, 1) := by decide +kernel
theorem dX4_dropFirst_28 : decode cX4_dropFirst 28 = .ok (.isub, 1) := by decide +kernel
theorem dX4_dropFirst_29 : decode cX4_dropFirst 29 = .ok (.invokestatic 34, 3) := by decide +kernel
theorem dX4_dropFirst_32 : decode cX4_dropFirst 32 = .ok (.aload_n 0, 1) := by decide +kernel
theorem dX4_dropFirst_33 : decode cX4_dropFirst 33 = .ok (.dup, 1) := by decide +kernel
theorem dX4_dropFirst_34 : decode cX4_dropFirst 34 = .ok (.getfield 15, 3) := by decide +kernel
theorem dX4_dropFirst_37 : decode cX4_dropFirst 37 = .ok (.iload_n 1, 1) := by decide +kernel
theorem dX4_dropFirst_38 : decode cX4_dropFirst 38 = .ok (.isub, 1) := by decide +kernel
theorem dX4_dropFirst_39 : decode cX4_dropFirst 39 = .ok (.putfield 15, 3) := by decide +kernel
theorem dX4_dropFirst_42 : decode cX4_dropFirst 42 = .ok (.return_, 1) := by decide +kernel
theorem dX4_negate_0 : decode cX4_negate 0 = .ok (.aload_n 0, 1) := by decide +kernel
theorem dX4_negate_1 : decode cX4_negate 1 = .ok (.getfield 19, 3) := by decide +kernel
theorem dX4_negate_4 : decode cX4_negate 4 = .ok (.ifCond .eq 4, 3) := by decide +kernel
theorem dX4_negate_7 : decode cX4_negate 7 = .ok (.return_, 1) := by decide +kernel
theorem dX4_negate_8 : decode cX4_negate 8 = .ok (.aload_n 0, 1) := by decide +kernel
theorem dX4_negate_9 : decode cX4_negate 9 = .ok (.getfield 11, 3) := by decide +kernel
theorem dX4_negate_12 : decode cX4_negate 12 = .ok (.iconst 0, 1) := by decide +kernel
theorem dX4_negate_13 : decode cX4_negate 13 = .ok (.iaload, 1) := by decide +kernel
theorem dX4_negate_14 : decode cX4_negate 14 = .ok (.bipush 6, 2) := by decide +kernel
theorem dX4_negate_16 : decode cX4_negate 16 = .ok (.if_icmp .ne 11, 3) := by decide +kernel
theorem dX4_negate_19 : decode cX4_negate 19 = .ok (.aload_n 0, 1) := by decide +kernel
theorem dX4_negate_20 : decode cX4_negate 20 = .ok (.iconst 1, 1) := by decide +kernel
theorem dX4_negate_21 : decode cX4_negate 21 = .ok (.invokevirtual 59, 3) := by decide +kernel
theorem dX4_negate_24 : decode cX4_negate 24 = .ok (.goto 9, 3) := by decide +kernel
theorem dX4_negate_27 : decode cX4_negate 27 = .ok (.aload_n 0, 1) := by decide +kernel
theorem dX4_negate_28 : decode cX4_negate 28 = .ok (.bipush 6, 2) := by decide +kernel
theorem dX4_negate_30 : decode cX4_negate 30 = .ok (.invokevirtual 62, 3) := by decide +kernel
theorem dX4_negate_33 : decode cX4_negate 33 = .ok (.return_, 1) := by decide +kernel
theorem dX4_codeAt_0 : decode cX4_codeAt 0 = .ok (.iload_n 1, 1) := by decide +kernel
theorem dX4_codeAt_1 : decode cX4_codeAt 1 = .ok (.ifCond .lt 27, 3) := by decide +kernel
theorem dX4_codeAt_4 : decode cX4_codeAt 4 = .ok (.iload_n 1, 1) := by decide +kernel
theorem dX4_codeAt_5 : decode cX4_codeAt 5 = .ok (.aload_n 0, 1) := by decide +kernel
theorem dX4_codeAt_6 : decode cX4_codeAt 6 = .ok (.getfield 15, 3) := by decide +kernel
theorem dX4_codeAt_9 : decode cX4_codeAt 9 = .ok (.if_icmp .ge 19, 3) := by decide +kernel
theorem dX4_codeAt_12 : decode cX4_codeAt 12 = .ok (.iload_n 1, 1) := by decide +kernel
theorem dX4_codeAt_13 : decode cX4_codeAt 13 = .ok (.sipush 512, 3) := by decide +kernel
theorem dX4_codeAt_16 : decode cX4_codeAt 16 = .ok (.if_icmp .ge 12, 3) := by decide +kernel
theorem dX4_codeAt_19 : decode cX4_codeAt 19 = .ok (.aload_n 0, 1) := by decide +kernel
theorem dX4_codeAt_20 : decode cX4_codeAt 20 = .ok (.getfield 11, 3) := by decide +kernel
theorem dX4_codeAt_23 : decode cX4_codeAt 23 = .ok (.iload_n 1, 1) := by decide +kernel
theorem dX4_codeAt_24 : decode cX4_codeAt 24 = .ok (.iaload, 1) := by decide +kernel
theorem dX4_codeAt_25 : decode cX4_codeAt 25 = .ok (.goto 4, 3) := by decide +kernel
theorem dX4_codeAt_28 : decode cX4_codeAt 28 = .ok (.iconst (-1), 1) := by decide +kernel
theorem dX4_codeAt_29 : decode cX4_codeAt 29 = .ok (.ireturn, 1) := by decide +kernel
theorem dX4_isAnd_0 : decode cX4_isAnd 0 = .ok (.aload_n 0, 1) := by decide +kernel
theorem dX4_isAnd_1 : decode cX4_isAnd 1 = .ok (.getfield 11, 3) := by decide +kernel
theorem dX4_isAnd_4 : decode cX4_isAnd 4 = .ok (.iconst 0, 1) := by decide +kernel
theorem dX4_isAnd_5 : decode cX4_isAnd 5 = .ok (.iaload, 1) := by decide +kernel
theorem dX4_isAnd_6 : decode cX4_isAnd 6 = .ok (.invokestatic 49, 3) := by decide +kernel
theorem dX4_isAnd_9 : decode cX4_isAnd 9 = .ok (.bipush 7, 2) := by decide +kernel
theorem dX4_isAnd_11 : decode cX4_isAnd 11 = .ok (.if_icmp .ne 7, 3) := by decide +kernel
theorem dX4_isAnd_14 : decode cX4_isAnd 14 = .ok (.iconst 1, 1) := by decide +kernel
theorem dX4_isAnd_15 : decode cX4_isAnd 15 = .ok (.goto 4, 3) := by decide +kernel
theorem dX4_isAnd_18 : decode cX4_isAnd 18 = .ok (.iconst 0, 1) := by decide +kernel
theorem dX4_isAnd_19 : decode cX4_isAnd 19 = .ok (.ireturn, 1) := by decide +kernel
theorem dX4_isTrue_0 : decode cX4_isTrue 0 = .ok (.aload_n 0, 1) := by decide +kernel
theorem dX4_isTrue_1 : decode cX4_isTrue 1 = .ok (.getfield 19, 3) := by decide +kernel
theorem dX4_isTrue_4 : decode cX4_isTrue 4 = .ok (.ifCond .ne 17, 3) := by decide +kernel
theorem dX4_isTrue_7 : decode cX4_isTrue 7 = .ok (.aload_n 0, 1) := by decide +kernel
theorem dX4_isTrue_8 : decode cX4_isTrue 8 = .ok (.getfield 11, 3) := by decide +kernel
theorem dX4_isTrue_11 : decode cX4_isTrue 11 = .ok (.iconst 0, 1) := by decide +kernel
theorem dX4_isTrue_12 : decode cX4_isTrue 12 = .ok (.iaload, 1) := by decide +kernel
theorem dX4_isTrue_13 : decode cX4_isTrue 13 = .ok (.iconst 3, 1) := by decide +kernel
theorem dX4_isTrue_14 : decode cX4_isTrue 14 = .ok (.if_icmp .ne 7, 3) := by decide +kernel
theorem dX4_isTrue_17 : decode cX4_isTrue 17 = .ok (.iconst 1, 1) := by decide +kernel
theorem dX4_isTrue_18 : decode cX4_isTrue 18 = .ok (.goto 4, 3) := by decide +kernel
theorem dX4_isTrue_21 : decode cX4_isTrue 21 = .ok (.iconst 0, 1) := by decide +kernel
theorem dX4_isTrue_22 : decode cX4_isTrue 22 = .ok (.ireturn, 1) := by decide +kernel
theorem dX4_isNotTrue_0 : decode cX4_isNotTrue 0 = .ok (.aload_n 0, 1) := by decide +kernel
theorem dX4_isNotTrue_1 : decode cX4_isNotTrue 1 = .ok (.getfield 19, 3) := by decide +kernel
theorem dX4_isNotTrue_4 : decode cX4_isNotTrue 4 = .ok (.ifCond .ne 28, 3) := by decide +kernel
theorem dX4_isNotTrue_7 : decode cX4_isNotTrue 7 = .ok (.aload_n 0, 1) := by decide +kernel
theorem dX4_isNotTrue_8 : decode cX4_isNotTrue 8 = .ok (.getfield 11, 3) := by decide +kernel
theorem dX4_isNotTrue_11 : decode cX4_isNotTrue 11 = .ok (.iconst 0, 1) := by decide +kernel
theorem dX4_isNotTrue_12 : decode cX4_isNotTrue 12 = .ok (.iaload, 1) := by decide +kernel
theorem dX4_isNotTrue_13 : decode cX4_isNotTrue 13 = .ok (.bipush 6, 2) := by decide +kernel
theorem dX4_isNotTrue_15 : decode cX4_isNotTrue 15 = .ok (.if_icmp .ne 17, 3) := by decide +kernel
theorem dX4_isNotTrue_18 : decode cX4_isNotTrue 18 = .ok (.aload_n 0, 1) := by decide +kernel
theorem dX4_isNotTrue_19 : decode cX4_isNotTrue 19 = .ok (.getfield 11, 3) := by decide +kernel
theorem dX4_isNotTrue_22 : decode cX4_isNotTrue 22 = .ok (.iconst 1, 1) := by decide +kernel
theorem dX4_isNotTrue_23 : decode cX4_isNotTrue 23 = .ok (.iaload, 1) := by decide +kernel
theorem dX4_isNotTrue_24 : decode cX4_isNotTrue 24 = .ok (.iconst 3, 1) := by decide +kernel
theorem dX4_isNotTrue_25 : decode cX4_isNotTrue 25 = .ok (.if_icmp .ne 7, 3) := by decide +kernel
theorem dX4_isNotTrue_28 : decode cX4_isNotTrue 28 = .ok (.iconst 1, 1) := by decide +kernel
theorem dX4_isNotTrue_29 : decode cX4_isNotTrue 29 = .ok (.goto 4, 3) := by decide +kernel
theorem dX4_isNotTrue_32 : decode cX4_isNotTrue 32 = .ok (.iconst 0, 1) := by decide +kernel
theorem dX4_isNotTrue_33 : decode cX4_isNotTrue 33 = .ok (.ireturn, 1) := by decide +kernel
theorem dX4_partsIn_0 : decode cX4_partsIn 0 = .ok (.iload_n 0, 1) := by decide +kernel
theorem dX4_partsIn_1 : decode cX4_partsIn 1 = .ok (.invokestatic 49, 3) := by decide +kernel
theorem dX4_partsIn_4 : decode cX4_partsIn 4 = .ok (.bipush 7, 2) := by decide +kernel
theorem dX4_partsIn_6 : decode cX4_partsIn 6 = .ok (.if_icmp .ne 10, 3) := by decide +kernel
theorem dX4_partsIn_9 : decode cX4_partsIn 9 = .ok (.iload_n 0, 1) := by decide +kernel
theorem dX4_partsIn_10 : decode cX4_partsIn 10 = .ok (.invokestatic 91, 3) := by decide +kernel
theorem dX4_partsIn_13 : decode cX4_partsIn 13 = .ok (.goto 4, 3) := by decide +kernel
theorem dX4_partsIn_16 : decode cX4_partsIn 16 = .ok (.iconst 1, 1) := by decide +kernel
theorem dX4_partsIn_17 : decode cX4_partsIn 17 = .ok (.ireturn, 1) := by decide +kernel
theorem dX4_isTooLarge_0 : decode cX4_isTooLarge 0 = .ok (.aload_n 0, 1) := by decide +kernel
theorem dX4_isTooLarge_1 : decode cX4_isTooLarge 1 = .ok (.getfield 19, 3) := by decide +kernel
theorem dX4_isTooLarge_4 : decode cX4_isTooLarge 4 = .ok (.ifCond .ne 12, 3) := by decide +kernel
theorem dX4_isTooLarge_7 : decode cX4_isTooLarge 7 = .ok (.aload_n 0, 1) := by decide +kernel
theorem dX4_isTooLarge_8 : decode cX4_isTooLarge 8 = .ok (.getfield 15, 3) := by decide +kernel
theorem dX4_isTooLarge_11 : decode cX4_isTooLarge 11 = .ok (.bipush 100, 2) := by decide +kernel
theorem dX4_isTooLarge_13 : decode cX4_isTooLarge 13 = .ok (.if_icmp .le 7, 3) := by decide +kernel
theorem dX4_isTooLarge_16 : decode cX4_isTooLarge 16 = .ok (.iconst 1, 1) := by decide +kernel
theorem dX4_isTooLarge_17 : decode cX4_isTooLarge 17 = .ok (.goto 4, 3) := by decide +kernel
theorem dX4_isTooLarge_20 : decode cX4_isTooLarge 20 = .ok (.iconst 0, 1) := by decide +kernel
theorem dX4_isTooLarge_21 : decode cX4_isTooLarge 21 = .ok (.ireturn, 1) := by decide +kernel
theorem dX4_bindAll_0 : decode cX4_bindAll 0 = .ok (.aload_n 0, 1) := by decide +kernel
theorem dX4_bindAll_1 : decode cX4_bindAll 1 = .ok (.getfield 19, 3) := by decide +kernel
theorem dX4_bindAll_4 : decode cX4_bindAll 4 = .ok (.ifCond .ne 10, 3) := by decide +kernel
theorem dX4_bindAll_7 : decode cX4_bindAll 7 = .ok (.aload_n 0, 1) := by decide +kernel
theorem dX4_bindAll_8 : decode cX4_bindAll 8 = .ok (.invokevirtual 75, 3) := by decide +kernel
theorem dX4_bindAll_11 : decode cX4_bindAll 11 = .ok (.ifCond .eq 4, 3) := by decide +kernel
theorem dX4_bindAll_14 : decode cX4_bindAll 14 = .ok (.return_, 1) := by decide +kernel
theorem dX4_bindAll_15 : decode cX4_bindAll 15 = .ok (.iconst 0, 1) := by decide +kernel
theorem dX4_bindAll_16 : decode cX4_bindAll 16 = .ok (.istore_n 2, 1) := by decide +kernel
theorem dX4_bindAll_17 : decode cX4_bindAll 17 = .ok (.iload_n 2, 1) := by decide +kernel
theorem dX4_bindAll_18 : decode cX4_bindAll 18 = .ok (.aload_n 0, 1) := by decide +kernel
theorem dX4_bindAll_19 : decode cX4_bindAll 19 = .ok (.getfield 15, 3) := by decide +kernel
theorem dX4_bindAll_22 : decode cX4_bindAll 22 = .ok (.if_icmp .ge 70, 3) := by decide +kernel
theorem dX4_bindAll_25 : decode cX4_bindAll 25 = .ok (.iload_n 2, 1) := by decide +kernel
theorem dX4_bindAll_26 : decode cX4_bindAll 26 = .ok (.sipush 512, 3) := by decide +kernel
theorem dX4_bindAll_29 : decode cX4_bindAll 29 = .ok (.if_icmp .ge 63, 3) := by decide +kernel
theorem dX4_bindAll_32 : decode cX4_bindAll 32 = .ok (.aload_n 0, 1) := by decide +kernel
theorem dX4_bindAll_33 : decode cX4_bindAll 33 = .ok (.getfield 11, 3) := by decide +kernel
theorem dX4_bindAll_36 : decode cX4_bindAll 36 = .ok (.iload_n 2, 1) := by decide +kernel
theorem dX4_bindAll_37 : decode cX4_bindAll 37 = .ok (.iaload, 1) := by decide +kernel
theorem dX4_bindAll_38 : decode cX4_bindAll 38 = .ok (.iload_n 1, 1) := by decide +kernel
theorem dX4_bindAll_39 : decode cX4_bindAll 39 = .ok (.if_icmp .ne 13, 3) := by decide +kernel
theorem dX4_bindAll_42 : decode cX4_bindAll 42 = .ok (.aload_n 0, 1) := by decide +kernel
theorem dX4_bindAll_43 : decode cX4_bindAll 43 = .ok (.getfield 11, 3) := by decide +kernel
theorem dX4_bindAll_46 : decode cX4_bindAll 46 = .ok (.iload_n 2, 1) := by decide +kernel
theorem dX4_bindAll_47 : decode cX4_bindAll 47 = .ok (.iconst 2, 1) := by decide +kernel
theorem dX4_bindAll_48 : decode cX4_bindAll 48 = .ok (.iastore, 1) := by decide +kernel
theorem dX4_bindAll_49 : decode cX4_bindAll 49 = .ok (.goto 37, 3) := by decide +kernel
theorem dX4_bindAll_52 : decode cX4_bindAll 52 = .ok (.aload_n 0, 1) := by decide +kernel
theorem dX4_bindAll_53 : decode cX4_bindAll 53 = .ok (.getfield 11, 3) := by decide +kernel
theorem dX4_bindAll_56 : decode cX4_bindAll 56 = .ok (.iload_n 2, 1) := by decide +kernel
theorem dX4_bindAll_57 : decode cX4_bindAll 57 = .ok (.iaload, 1) := by decide +kernel
theorem dX4_bindAll_58 : decode cX4_bindAll 58 = .ok (.invokestatic 49, 3) := by decide +kernel
theorem dX4_bindAll_61 : decode cX4_bindAll 61 = .ok (.iconst 2, 1) := by decide +kernel
theorem dX4_bindAll_62 : decode cX4_bindAll 62 = .ok (.if_icmp .ne 24, 3) := by decide +kernel
theorem dX4_bindAll_65 : decode cX4_bindAll 65 = .ok (.aload_n 0, 1) := by decide +kernel
theorem dX4_bindAll_66 : decode cX4_bindAll 66 = .ok (.getfield 11, 3) := by decide +kernel
theorem dX4_bindAll_69 : decode cX4_bindAll 69 = .ok (.iload_n 2, 1) := by decide +kernel
theorem dX4_bindAll_70 : decode cX4_bindAll 70 = .ok (.iconst 2, 1) := by decide +kernel
theorem dX4_bindAll_71 : decode cX4_bindAll 71 = .ok (.aload_n 0, 1) := by decide +kernel
theorem dX4_bindAll_72 : decode cX4_bindAll 72 = .ok (.getfield 11, 3) := by decide +kernel
theorem dX4_bindAll_75 : decode cX4_bindAll 75 = .ok (.iload_n 2, 1) := by decide +kernel
theorem dX4_bindAll_76 : decode cX4_bindAll 76 = .ok (.iaload, 1) := by decide +kernel
theorem dX4_bindAll_77 : decode cX4_bindAll 77 = .ok (.invokestatic 91, 3) := by decide +kernel
theorem dX4_bindAll_80 : decode cX4_bindAll 80 = .ok (.iconst 1, 1) := by decide +kernel
theorem dX4_bindAll_81 : decode cX4_bindAll 81 = .ok (.iadd, 1) := by decide +kernel
theorem dX4_bindAll_82 : decode cX4_bindAll 82 = .ok (.invokestatic 87, 3) := by decide +kernel
theorem dX4_bindAll_85 : decode cX4_bindAll 85 = .ok (.iastore, 1) := by decide +kernel
theorem dX4_bindAll_86 : decode cX4_bindAll 86 = .ok (.iinc 2 1, 3) := by decide +kernel
theorem dX4_bindAll_89 : decode cX4_bindAll 89 = .ok (.goto (-72), 3) := by decide +kernel
theorem dX4_bindAll_92 : decode cX4_bindAll 92 = .ok (.aload_n 0, 1) := by decide +kernel
theorem dX4_bindAll_93 : decode cX4_bindAll 93 = .ok (.bipush 8, 2) := by decide +kernel
theorem dX4_bindAll_95 : decode cX4_bindAll 95 = .ok (.invokevirtual 62, 3) := by decide +kernel
theorem dX4_bindAll_98 : decode cX4_bindAll 98 = .ok (.return_, 1) := by decide +kernel
