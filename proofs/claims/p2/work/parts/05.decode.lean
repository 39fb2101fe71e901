theorem dX1_of_0 : decode cX1_of 0 = .ok (.iload_n 1, 1) := by decide +kernel
theorem dX1_of_1 : decode cX1_of 1 = .ok (.iconst 4, 1) := by decide +kernel
theorem dX1_of_2 : decode cX1_of 2 = .ok (.ishl, 1) := by decide +kernel
theorem dX1_of_3 : decode cX1_of 3 = .ok (.iload_n 0, 1) := by decide +kernel
theorem dX1_of_4 : decode cX1_of 4 = .ok (.ior, 1) := by decide +kernel
theorem dX1_of_5 : decode cX1_of 5 = .ok (.ireturn, 1) := by decide +kernel
theorem dX1_kind_0 : decode cX1_kind 0 = .ok (.iload_n 0, 1) := by decide +kernel
theorem dX1_kind_1 : decode cX1_kind 1 = .ok (.bipush 15, 2) := by decide +kernel
theorem dX1_kind_3 : decode cX1_kind 3 = .ok (.iand, 1) := by decide +kernel
theorem dX1_kind_4 : decode cX1_kind 4 = .ok (.ireturn, 1) := by decide +kernel
theorem dX1_value_0 : decode cX1_value 0 = .ok (.iload_n 0, 1) := by decide +kernel
theorem dX1_value_1 : decode cX1_value 1 = .ok (.iconst 4, 1) := by decide +kernel
theorem dX1_value_2 : decode cX1_value 2 = .ok (.ishr, 1) := by decide +kernel
theorem dX1_value_3 : decode cX1_value 3 = .ok (.ireturn, 1) := by decide +kernel
theorem dX4_setOnly_0 : decode cX4_setOnly 0 = .ok (.aload_n 0, 1) := by decide +kernel
theorem dX4_setOnly_1 : decode cX4_setOnly 1 = .ok (.getfield 11, 3) := by decide +kernel
theorem dX4_setOnly_4 : decode cX4_setOnly 4 = .ok (.iconst 0, 1) := by decide +kernel
theorem dX4_setOnly_5 : decode cX4_setOnly 5 = .ok (.iload_n 1, 1) := by decide +kernel
theorem dX4_setOnly_6 : decode cX4_setOnly 6 = .ok (.iastore, 1) := by decide +kernel
theorem dX4_setOnly_7 : decode cX4_setOnly 7 = .ok (.aload_n 0, 1) := by decide +kernel
theorem dX4_setOnly_8 : decode cX4_setOnly 8 = .ok (.iconst 1, 1) := by decide +kernel
theorem dX4_setOnly_9 : decode cX4_setOnly 9 = .ok (.putfield 15, 3) := by decide +kernel
theorem dX4_setOnly_12 : decode cX4_setOnly 12 = .ok (.aload_n 0, 1) := by decide +kernel
theorem dX4_setOnly_13 : decode cX4_setOnly 13 = .ok (.iconst 0, 1) := by decide +kernel
theorem dX4_setOnly_14 : decode cX4_setOnly 14 = .ok (.putfield 19, 3) := by decide +kernel
theorem dX4_setOnly_17 : decode cX4_setOnly 17 = .ok (.return_, 1) := by decide +kernel
theorem dX4_setNotTrue_0 : decode cX4_setNotTrue 0 = .ok (.aload_n 0, 1) := by decide +kernel
theorem dX4_setNotTrue_1 : decode cX4_setNotTrue 1 = .ok (.getfield 11, 3) := by decide +kernel
theorem dX4_setNotTrue_4 : decode cX4_setNotTrue 4 = .ok (.iconst 0, 1) := by decide +kernel
theorem dX4_setNotTrue_5 : decode cX4_setNotTrue 5 = .ok (.bipush 6, 2) := by decide +kernel
theorem dX4_setNotTrue_7 : decode cX4_setNotTrue 7 = .ok (.iastore, 1) := by decide +kernel
theorem dX4_setNotTrue_8 : decode cX4_setNotTrue 8 = .ok (.aload_n 0, 1) := by decide +kernel
theorem dX4_setNotTrue_9 : decode cX4_setNotTrue 9 = .ok (.getfield 11, 3) := by decide +kernel
theorem dX4_setNotTrue_12 : decode cX4_setNotTrue 12 = .ok (.iconst 1, 1) := by decide +kernel
theorem dX4_setNotTrue_13 : decode cX4_setNotTrue 13 = .ok (.iconst 3, 1) := by decide +kernel
theorem dX4_setNotTrue_14 : decode cX4_setNotTrue 14 = .ok (.iastore, 1) := by decide +kernel
theorem dX4_setNotTrue_15 : decode cX4_setNotTrue 15 = .ok (.aload_n 0, 1) := by decide +kernel
theorem dX4_setNotTrue_16 : decode cX4_setNotTrue 16 = .ok (.iconst 2, 1) := by decide +kernel
theorem dX4_setNotTrue_17 : decode cX4_setNotTrue 17 = .ok (.putfield 15, 3) := by decide +kernel
theorem dX4_setNotTrue_20 : decode cX4_setNotTrue 20 = .ok (.aload_n 0, 1) := by decide +kernel
theorem dX4_setNotTrue_21 : decode cX4_setNotTrue 21 = .ok (.iconst 0, 1) := by decide +kernel
theorem dX4_setNotTrue_22 : decode cX4_setNotTrue 22 = .ok (.putfield 19, 3) := by decide +kernel
theorem dX4_setNotTrue_25 : decode cX4_setNotTrue 25 = .ok (.return_, 1) := by decide +kernel
theorem dX4_add_0 : decode cX4_add 0 = .ok (.aload_n 0, 1) := by decide +kernel
theorem dX4_add_1 : decode cX4_add 1 = .ok (.getfield 15, 3) := by decide +kernel
theorem dX4_add_4 : decode cX4_add 4 = .ok (.sipush 512, 3) := by decide +kernel
theorem dX4_add_7 : decode cX4_add 7 = .ok (.if_icmp .ge 23, 3) := by decide +kernel
theorem dX4_add_10 : decode cX4_add 10 = .ok (.aload_n 0, 1) := by decide +kernel
theorem dX4_add_11 : decode cX4_add 11 = .ok (.getfield 11, 3) := by decide +kernel
theorem dX4_add_14 : decode cX4_add 14 = .ok (.aload_n 0, 1) := by decide +kernel
theorem dX4_add_15 : decode cX4_add 15 = .ok (.getfield 15, 3) := by decide +kernel
theorem dX4_add_18 : decode cX4_add 18 = .ok (.iload_n 1, 1) := by decide +kernel
theorem dX4_add_19 : decode cX4_add 19 = .ok (.iastore, 1) := by decide +kernel
theorem dX4_add_20 : decode cX4_add 20 = .ok (.aload_n 0, 1) := by decide +kernel
theorem dX4_add_21 : decode cX4_add 21 = .ok (.dup, 1) := by decide +kernel
theorem dX4_add_22 : decode cX4_add 22 = .ok (.getfield 15, 3) := by decide +kernel
theorem dX4_add_25 : decode cX4_add 25 = .ok (.iconst 1, 1) := by decide +kernel
theorem dX4_add_26 : decode cX4_add 26 = .ok (.iadd, 1) := by decide +kernel
theorem dX4_add_27 : decode cX4_add 27 = .ok (.putfield 15, 3) := by decide +kernel
theorem dX4_add_30 : decode cX4_add 30 = .ok (.return_, 1) := by decide +kernel
theorem dX4_putFirst_0 : decode cX4_putFirst 0 = .ok (.aload_n 0, 1) := by decide +kernel
theorem dX4_putFirst_1 : decode cX4_putFirst 1 = .ok (.getfield 15, 3) := by decide +kernel
theorem dX4_putFirst_4 : decode cX4_putFirst 4 = .ok (.sipush 240, 3) := by decide +kernel
theorem dX4_putFirst_7 : decode cX4_putFirst 7 = .ok (.if_icmp .lt 9, 3) := by decide +kernel
theorem dX4_putFirst_10 : decode cX4_putFirst 10 = .ok (.aload_n 0, 1) := by decide +kernel
theorem dX4_putFirst_11 : decode cX4_putFirst 11 = .ok (.iconst 1, 1) := by decide +kernel
theorem dX4_putFirst_12 : decode cX4_putFirst 12 = .ok (.putfield 19, 3) := by decide +kernel
theorem dX4_putFirst_15 : decode cX4_putFirst 15 = .ok (.return_, 1) := by decide +kernel
theorem dX4_putFirst_16 : decode cX4_putFirst 16 = .ok (.aload_n 0, 1) := by decide +kernel
theorem dX4_putFirst_17 : decode cX4_putFirst 17 = .ok (.getfield 11, 3) := by decide +kernel
theorem dX4_putFirst_20 : decode cX4_putFirst 20 = .ok (.iconst 0, 1) := by decide +kernel
theorem dX4_putFirst_21 : decode cX4_putFirst 21 = .ok (.aload_n 0, 1) := by decide +kernel
theorem dX4_putFirst_22 : decode cX4_putFirst 22 = .ok (.getfield 11, 3) := by decide +kernel
theorem dX4_putFirst_25 : decode cX4_putFirst 25 = .ok (.iconst 1, 1) := by decide +kernel
theorem dX4_putFirst_26 : decode cX4_putFirst 26 = .ok (.aload_n 0, 1) := by decide +kernel
theorem dX4_putFirst_27 : decode cX4_putFirst 27 = .ok (.getfield 15, 3) := by decide +kernel
theorem dX4_putFirst_30 : decode cX4_putFirst 30 = .ok (.invokestatic 34, 3) := by decide +kernel
theorem dX4_putFirst_33 : decode cX4_putFirst 33 = .ok (.aload_n 0, 1) := by decide +kernel
theorem dX4_putFirst_34 : decode cX4_putFirst 34 = .ok (.getfield 11, 3) := by decide +kernel
theorem dX4_putFirst_37 : decode cX4_putFirst 37 = .ok (.iconst 0, 1) := by decide +kernel
theorem dX4_putFirst_38 : decode cX4_putFirst 38 = .ok (.iload_n 1, 1) := by decide +kernel
theorem dX4_putFirst_39 : decode cX4_putFirst 39 = .ok (.iastore, 1) := by decide +kernel
theorem dX4_putFirst_40 : decode cX4_putFirst 40 = .ok (.aload_n 0, 1) := by decide +kernel
theorem dX4_putFirst_41 : decode cX4_putFirst 41 = .ok (.dup, 1) := by decide +kernel
theorem dX4_putFirst_42 : decode cX4_putFirst 42 = .ok (.getfield 15, 3) := by decide +kernel
theorem dX4_putFirst_45 : decode cX4_putFirst 45 = .ok (.iconst 1, 1) := by decide +kernel
theorem dX4_putFirst_46 : decode cX4_putFirst 46 = .ok (.iadd, 1) := by decide +kernel
theorem dX4_putFirst_47 : decode cX4_putFirst 47 = .ok (.putfield 15, 3) := by decide +kernel
theorem dX4_putFirst_50 : decode cX4_putFirst 50 = .ok (.return_, 1) := by decide +kernel
theorem dX4_dropFirst_0 : decode cX4_dropFirst 0 = .ok (.iload_n 1, 1) := by decide +kernel
theorem dX4_dropFirst_1 : decode cX4_dropFirst 1 = .ok (.ifCond .lt 11, 3) := by decide +kernel
theorem dX4_dropFirst_4 : decode cX4_dropFirst 4 = .ok (.iload_n 1, 1) := by decide +kernel
theorem dX4_dropFirst_5 : decode cX4_dropFirst 5 = .ok (.aload_n 0, 1) := by decide +kernel
theorem dX4_dropFirst_6 : decode cX4_dropFirst 6 = .ok (.getfield 15, 3) := by decide +kernel
theorem dX4_dropFirst_9 : decode cX4_dropFirst 9 = .ok (.if_icmp .lt 4, 3) := by decide +kernel
theorem dX4_dropFirst_12 : decode cX4_dropFirst 12 = .ok (.return_, 1) := by decide +kernel
theorem dX4_dropFirst_13 : decode cX4_dropFirst 13 = .ok (.aload_n 0, 1) := by decide +kernel
theorem dX4_dropFirst_14 : decode cX4_dropFirst 14 = .ok (.getfield 11, 3) := by decide +kernel
theorem dX4_dropFirst_17 : decode cX4_dropFirst 17 = .ok (.iload_n 1, 1) := by decide +kernel
theorem dX4_dropFirst_18 : decode cX4_dropFirst 18 = .ok (.aload_n 0, 1) := by decide +kernel
theorem dX4_dropFirst_19 : decode cX4_dropFirst 19 = .ok (.getfield 11, 3) := by decide +kernel
theorem dX4_dropFirst_22 : decode cX4_dropFirst 22 = .ok (.iconst 0, 1) := by decide +kernel
theorem dX4_dropFirst_23 : decode cX4_dropFirst 23 = .ok (.aload_n 0, 1) := by decide +kernel
theorem dX4_dropFirst_24 : decode cX4_dropFirst 24 = .ok (.getfield 15, 3) := by decide +kernel
theorem dX4_dropFirst_27 : decode cX4_dropFirst 27 = .ok (.iload_n 1, 1) := by decide +kernel
theorem dX4_dropFirst_28 : decode cX4_dropFirst 28 = .ok (.isub, 1) := by decide +kernel
theorem dX4_dropFirst_29 : decode cX4_dropFirst 29 = .ok (.invokestatic 34, 3) := by decide +kernel
theorem dX4_dropFirst_32 : decode cX4_dropFirst 32 = .ok (.aload_n 0, 1) := by decide +kernel
theorem dX4_dropFirst_33 : decode cX4_dropFirst 33 = .ok (.dup, 1) := by decide +kernel
theorem dX4_dropFirst_34 : decode cX4_dropFirst 34 = .ok (.getfield 15, 3) := by decide +kernel
theorem dX4_dropFirst_37 : decode cX4_dropFirst 37 = .ok (.iload_n 1, 1) := by decide +kernel
theorem dX4_dropFirst_38 : decode cX4_dropFirst 38 = .ok (.isub, 1) := by decide +kernel
theorem dX4_dropFirst_39 : decode cX4_dropFirst 39 = .ok (.putfield 15, 3) := by decide +kernel
theorem dX4_dropFirst_42 : decode cX4_dropFirst 42 = .ok (.return_, 1) := by decide +kernel
theorem dX4_negate_0 : decode cX4_negate 0 = .ok (.aload_n 0, 1) := by decide +kernel
theorem dX4_negate_1 : decode cX4_negate 1 = .ok (.getfield 19, 3) := by decide +kernel
theorem dX4_negate_4 : decode cX4_negate 4 = .ok (.ifCond .eq 4, 3) := by decide +kernel
theorem dX4_negate_7 : decode cX4_negate 7 = .ok (.return_, 1) := by decide +kernel
theorem dX4_negate_8 : decode cX4_negate 8 = .ok (.aload_n 0, 1) := by decide +kernel
theorem dX4_negate_9 : decode cX4_negate 9 = .ok (.getfield 11, 3) := by decide +kernel
theorem dX4_negate_12 : decode cX4_negate 12 = .ok (.iconst 0, 1) := by decide +kernel
theorem dX4_negate_13 : decode cX4_negate 13 = .ok (.iaload, 1) := by decide +kernel
theorem dX4_negate_14 : decode cX4_negate 14 = .ok (.bipush 6, 2) := by decide +kernel
theorem dX4_negate_16 : decode cX4_negate 16 = .ok (.if_icmp .ne 11, 3) := by decide +kernel
theorem dX4_negate_19 : decode cX4_negate 19 = .ok (.aload_n 0, 1) := by decide +kernel
theorem dX4_negate_20 : decode cX4_negate 20 = .ok (.iconst 1, 1) := by decide +kernel
theorem dX4_negate_21 : decode cX4_negate 21 = .ok (.invokevirtual 59, 3) := by decide +kernel
theorem dX4_negate_24 : decode cX4_negate 24 = .ok (.goto 9, 3) := by decide +kernel
theorem dX4_negate_27 : decode cX4_negate 27 = .ok (.aload_n 0, 1) := by decide +kernel
theorem dX4_negate_28 : decode cX4_negate 28 = .ok (.bipush 6, 2) := by decide +kernel
theorem dX4_negate_30 : decode cX4_negate 30 = .ok (.invokevirtual 62, 3) := by decide +kernel
theorem dX4_negate_33 : decode cX4_negate 33 = .ok (.return_, 1) := by decide +kernel
theorem dX4_codeAt_0 : decode cX4_codeAt 0 = .ok (.iload_n 1, 1) := by decide +kernel
theorem dX4_codeAt_1 : decode cX4_codeAt 1 = .ok (.ifCond .lt 27, 3) := by decide +kernel
theorem dX4_codeAt_4 : decode cX4_codeAt 4 = .ok (.iload_n 1, 1) := by decide +kernel
theorem dX4_codeAt_5 : decode cX4_codeAt 5 = .ok (.aload_n 0, 1) := by decide +kernel
theorem dX4_codeAt_6 : decode cX4_codeAt 6 = .ok (.getfield 15, 3) := by decide +kernel
theorem dX4_codeAt_9 : decode cX4_codeAt 9 = .ok (.if_icmp .ge 19, 3) := by decide +kernel
theorem dX4_codeAt_12 : decode cX4_codeAt 12 = .ok (.iload_n 1, 1) := by decide +kernel
theorem dX4_codeAt_13 : decode cX4_codeAt 13 = .ok (.sipush 512, 3) := by decide +kernel
theorem dX4_codeAt_16 : decode cX4_codeAt 16 = .ok (.if_icmp .ge 12, 3) := by decide +kernel
theorem dX4_codeAt_19 : decode cX4_codeAt 19 = .ok (.aload_n 0, 1) := by decide +kernel
theorem dX4_codeAt_20 : decode cX4_codeAt 20 = .ok (.getfield 11, 3) := by decide +kernel
theorem dX4_codeAt_23 : decode cX4_codeAt 23 = .ok (.iload_n 1, 1) := by decide +kernel
theorem dX4_codeAt_24 : decode cX4_codeAt 24 = .ok (.iaload, 1) := by decide +kernel
theorem dX4_codeAt_25 : decode cX4_codeAt 25 = .ok (.goto 4, 3) := by decide +kernel
theorem dX4_codeAt_28 : decode cX4_codeAt 28 = .ok (.iconst (-1), 1) := by decide +kernel
theorem dX4_codeAt_29 : decode cX4_codeAt 29 = .ok (.ireturn, 1) := by decide +kernel
theorem dX4_isAnd_0 : decode cX4_isAnd 0 = .ok (.aload_n 0, 1) := by decide +kernel
theorem dX4_isAnd_1 : decode cX4_isAnd 1 = .ok (.getfield 11, 3) := by decide +kernel
theorem dX4_isAnd_4 : decode cX4_isAnd 4 = .ok (.iconst 0, 1) := by decide +kernel
theorem dX4_isAnd_5 : decode cX4_isAnd 5 = .ok (.iaload, 1) := by decide +kernel
theorem dX4_isAnd_6 : decode cX4_isAnd 6 = .ok (.invokestatic 49, 3) := by decide +kernel
theorem dX4_isAnd_9 : decode cX4_isAnd 9 = .ok (.bipush 7, 2) := by decide +kernel
theorem dX4_isAnd_11 : decode cX4_isAnd 11 = .ok (.if_icmp .ne 7, 3) := by decide +kernel
theorem dX4_isAnd_14 : decode cX4_isAnd 14 = .ok (.iconst 1, 1) := by decide +kernel
theorem dX4_isAnd_15 : decode cX4_isAnd 15 = .ok (.goto 4, 3) := by decide +kernel
theorem dX4_isAnd_18 : decode cX4_isAnd 18 = .ok (.iconst 0, 1) := by decide +kernel
theorem dX4_isAnd_19 : decode cX4_isAnd 19 = .ok (.ireturn, 1) := by decide +kernel
theorem dX4_isTrue_0 : decode cX4_isTrue 0 = .ok (.aload_n 0, 1) := by decide +kernel
theorem dX4_isTrue_1 : decode cX4_isTrue 1 = .ok (.getfield 19, 3) := by decide +kernel
theorem dX4_isTrue_4 : decode cX4_isTrue 4 = .ok (.ifCond .ne 17, 3) := by decide +kernel
theorem dX4_isTrue_7 : decode cX4_isTrue 7 = .ok (.aload_n 0, 1) := by decide +kernel
theorem dX4_isTrue_8 : decode cX4_isTrue 8 = .ok (.getfield 11, 3) := by decide +kernel
theorem dX4_isTrue_11 : decode cX4_isTrue 11 = .ok (.iconst 0, 1) := by decide +kernel
theorem dX4_isTrue_12 : decode cX4_isTrue 12 = .ok (.iaload, 1) := by decide +kernel
theorem dX4_isTrue_13 : decode cX4_isTrue 13 = .ok (.iconst 3, 1) := by decide +kernel
theorem dX4_isTrue_14 : decode cX4_isTrue 14 = .ok (.if_icmp .ne 7, 3) := by decide +kernel
theorem dX4_isTrue_17 : decode cX4_isTrue 17 = .ok (.iconst 1, 1) := by decide +kernel
theorem dX4_isTrue_18 : decode cX4_isTrue 18 = .ok (.goto 4, 3) := by decide +kernel
theorem dX4_isTrue_21 : decode cX4_isTrue 21 = .ok (.iconst 0, 1) := by decide +kernel
theorem dX4_isTrue_22 : decode cX4_isTrue 22 = .ok (.ireturn, 1) := by decide +kernel
theorem dX4_isNotTrue_0 : decode cX4_isNotTrue 0 = .ok (.aload_n 0, 1) := by decide +kernel
theorem dX4_isNotTrue_1 : decode cX4_isNotTrue 1 = .ok (.getfield 19, 3) := by decide +kernel
theorem dX4_isNotTrue_4 : decode cX4_isNotTrue 4 = .ok (.ifCond .ne 28, 3) := by decide +kernel
theorem dX4_isNotTrue_7 : decode cX4_isNotTrue 7 = .ok (.aload_n 0, 1) := by decide +kernel
theorem dX4_isNotTrue_8 : decode cX4_isNotTrue 8 = .ok (.getfield 11, 3) := by decide +kernel
theorem dX4_isNotTrue_11 : decode cX4_isNotTrue 11 = .ok (.iconst 0, 1) := by decide +kernel
theorem dX4_isNotTrue_12 : decode cX4_isNotTrue 12 = .ok (.iaload, 1) := by decide +kernel
theorem dX4_isNotTrue_13 : decode cX4_isNotTrue 13 = .ok (.bipush 6, 2) := by decide +kernel
theorem dX4_isNotTrue_15 : decode cX4_isNotTrue 15 = .ok (.if_icmp .ne 17, 3) := by decide +kernel
theorem dX4_isNotTrue_18 : decode cX4_isNotTrue 18 = .ok (.aload_n 0, 1) := by decide +kernel
theorem dX4_isNotTrue_19 : decode cX4_isNotTrue 19 = .ok (.getfield 11, 3) := by decide +kernel
theorem dX4_isNotTrue_22 : decode cX4_isNotTrue 22 = .ok (.iconst 1, 1) := by decide +kernel
theorem dX4_isNotTrue_23 : decode cX4_isNotTrue 23 = .ok (.iaload, 1) := by decide +kernel
theorem dX4_isNotTrue_24 : decode cX4_isNotTrue 24 = .ok (.iconst 3, 1) := by decide +kernel
theorem dX4_isNotTrue_25 : decode cX4_isNotTrue 25 = .ok (.if_icmp .ne 7, 3) := by decide +kernel
theorem dX4_isNotTrue_28 : decode cX4_isNotTrue 28 = .ok (.iconst 1, 1) := by decide +kernel
theorem dX4_isNotTrue_29 : decode cX4_isNotTrue 29 = .ok (.goto 4, 3) := by decide +kernel
theorem dX4_isNotTrue_32 : decode cX4_isNotTrue 32 = .ok (.iconst 0, 1) := by decide +kernel
theorem dX4_isNotTrue_33 : decode cX4_isNotTrue 33 = .ok (.ireturn, 1) := by decide +kernel
theorem dX4_partsIn_0 : decode cX4_partsIn 0 = .ok (.iload_n 0, 1) := by decide +kernel
theorem dX4_partsIn_1 : decode cX4_partsIn 1 = .ok (.invokestatic 49, 3) := by decide +kernel
theorem dX4_partsIn_4 : decode cX4_partsIn 4 = .ok (.bipush 7, 2) := by decide +kernel
theorem dX4_partsIn_6 : decode cX4_partsIn 6 = .ok (.if_icmp .ne 10, 3) := by decide +kernel
theorem dX4_partsIn_9 : decode cX4_partsIn 9 = .ok (.iload_n 0, 1) := by decide +kernel
theorem dX4_partsIn_10 : decode cX4_partsIn 10 = .ok (.invokestatic 91, 3) := by decide +kernel
theorem dX4_partsIn_13 : decode cX4_partsIn 13 = .ok (.goto 4, 3) := by decide +kernel
theorem dX4_partsIn_16 : decode cX4_partsIn 16 = .ok (.iconst 1, 1) := by decide +kernel
theorem dX4_partsIn_17 : decode cX4_partsIn 17 = .ok (.ireturn, 1) := by decide +kernel
theorem dX4_isTooLarge_0 : decode cX4_isTooLarge 0 = .ok (.aload_n 0, 1) := by decide +kernel
theorem dX4_isTooLarge_1 : decode cX4_isTooLarge 1 = .ok (.getfield 19, 3) := by decide +kernel
theorem dX4_isTooLarge_4 : decode cX4_isTooLarge 4 = .ok (.ifCond .ne 12, 3) := by decide +kernel
theorem dX4_isTooLarge_7 : decode cX4_isTooLarge 7 = .ok (.aload_n 0, 1) := by decide +kernel
theorem dX4_isTooLarge_8 : decode cX4_isTooLarge 8 = .ok (.getfield 15, 3) := by decide +kernel
theorem dX4_isTooLarge_11 : decode cX4_isTooLarge 11 = .ok (.bipush 100, 2) := by decide +kernel
theorem dX4_isTooLarge_13 : decode cX4_isTooLarge 13 = .ok (.if_icmp .le 7, 3) := by decide +kernel
theorem dX4_isTooLarge_16 : decode cX4_isTooLarge 16 = .ok (.iconst 1, 1) := by decide +kernel
theorem dX4_isTooLarge_17 : decode cX4_isTooLarge 17 = .ok (.goto 4, 3) := by decide +kernel
theorem dX4_isTooLarge_20 : decode cX4_isTooLarge 20 = .ok (.iconst 0, 1) := by decide +kernel
theorem dX4_isTooLarge_21 : decode cX4_isTooLarge 21 = .ok (.ireturn, 1) := by decide +kernel
theorem dX4_bindAll_0 : decode cX4_bindAll 0 = .ok (.aload_n 0, 1) := by decide +kernel
theorem dX4_bindAll_1 : decode cX4_bindAll 1 = .ok (.getfield 19, 3) := by decide +kernel
theorem dX4_bindAll_4 : decode cX4_bindAll 4 = .ok (.ifCond .ne 10, 3) := by decide +kernel
theorem dX4_bindAll_7 : decode cX4_bindAll 7 = .ok (.aload_n 0, 1) := by decide +kernel
theorem dX4_bindAll_8 : decode cX4_bindAll 8 = .ok (.invokevirtual 75, 3) := by decide +kernel
theorem dX4_bindAll_11 : decode cX4_bindAll 11 = .ok (.ifCond .eq 4, 3) := by decide +kernel
theorem dX4_bindAll_14 : decode cX4_bindAll 14 = .ok (.return_, 1) := by decide +kernel
theorem dX4_bindAll_15 : decode cX4_bindAll 15 = .ok (.iconst 0, 1) := by decide +kernel
theorem dX4_bindAll_16 : decode cX4_bindAll 16 = .ok (.istore_n 2, 1) := by decide +kernel
theorem dX4_bindAll_17 : decode cX4_bindAll 17 = .ok (.iload_n 2, 1) := by decide +kernel
theorem dX4_bindAll_18 : decode cX4_bindAll 18 = .ok (.aload_n 0, 1) := by decide +kernel
theorem dX4_bindAll_19 : decode cX4_bindAll 19 = .ok (.getfield 15, 3) := by decide +kernel
theorem dX4_bindAll_22 : decode cX4_bindAll 22 = .ok (.if_icmp .ge 70, 3) := by decide +kernel
theorem dX4_bindAll_25 : decode cX4_bindAll 25 = .ok (.iload_n 2, 1) := by decide +kernel
theorem dX4_bindAll_26 : decode cX4_bindAll 26 = .ok (.sipush 512, 3) := by decide +kernel
theorem dX4_bindAll_29 : decode cX4_bindAll 29 = .ok (.if_icmp .ge 63, 3) := by decide +kernel
theorem dX4_bindAll_32 : decode cX4_bindAll 32 = .ok (.aload_n 0, 1) := by decide +kernel
theorem dX4_bindAll_33 : decode cX4_bindAll 33 = .ok (.getfield 11, 3) := by decide +kernel
theorem dX4_bindAll_36 : decode cX4_bindAll 36 = .ok (.iload_n 2, 1) := by decide +kernel
theorem dX4_bindAll_37 : decode cX4_bindAll 37 = .ok (.iaload, 1) := by decide +kernel
theorem dX4_bindAll_38 : decode cX4_bindAll 38 = .ok (.iload_n 1, 1) := by decide +kernel
theorem dX4_bindAll_39 : decode cX4_bindAll 39 = .ok (.if_icmp .ne 13, 3) := by decide +kernel
theorem dX4_bindAll_42 : decode cX4_bindAll 42 = .ok (.aload_n 0, 1) := by decide +kernel
theorem dX4_bindAll_43 : decode cX4_bindAll 43 = .ok (.getfield 11, 3) := by decide +kernel
theorem dX4_bindAll_46 : decode cX4_bindAll 46 = .ok (.iload_n 2, 1) := by decide +kernel
theorem dX4_bindAll_47 : decode cX4_bindAll 47 = .ok (.iconst 2, 1) := by decide +kernel
theorem dX4_bindAll_48 : decode cX4_bindAll 48 = .ok (.iastore, 1) := by decide +kernel
theorem dX4_bindAll_49 : decode cX4_bindAll 49 = .ok (.goto 37, 3) := by decide +kernel
theorem dX4_bindAll_52 : decode cX4_bindAll 52 = .ok (.aload_n 0, 1) := by decide +kernel
theorem dX4_bindAll_53 : decode cX4_bindAll 53 = .ok (.getfield 11, 3) := by decide +kernel
theorem dX4_bindAll_56 : decode cX4_bindAll 56 = .ok (.iload_n 2, 1) := by decide +kernel
theorem dX4_bindAll_57 : decode cX4_bindAll 57 = .ok (.iaload, 1) := by decide +kernel
theorem dX4_bindAll_58 : decode cX4_bindAll 58 = .ok (.invokestatic 49, 3) := by decide +kernel
theorem dX4_bindAll_61 : decode cX4_bindAll 61 = .ok (.iconst 2, 1) := by decide +kernel
theorem dX4_bindAll_62 : decode cX4_bindAll 62 = .ok (.if_icmp .ne 24, 3) := by decide +kernel
theorem dX4_bindAll_65 : decode cX4_bindAll 65 = .ok (.aload_n 0, 1) := by decide +kernel
theorem dX4_bindAll_66 : decode cX4_bindAll 66 = .ok (.getfield 11, 3) := by decide +kernel
theorem dX4_bindAll_69 : decode cX4_bindAll 69 = .ok (.iload_n 2, 1) := by decide +kernel
theorem dX4_bindAll_70 : decode cX4_bindAll 70 = .ok (.iconst 2, 1) := by decide +kernel
theorem dX4_bindAll_71 : decode cX4_bindAll 71 = .ok (.aload_n 0, 1) := by decide +kernel
theorem dX4_bindAll_72 : decode cX4_bindAll 72 = .ok (.getfield 11, 3) := by decide +kernel
theorem dX4_bindAll_75 : decode cX4_bindAll 75 = .ok (.iload_n 2, 1) := by decide +kernel
theorem dX4_bindAll_76 : decode cX4_bindAll 76 = .ok (.iaload, 1) := by decide +kernel
theorem dX4_bindAll_77 : decode cX4_bindAll 77 = .ok (.invokestatic 91, 3) := by decide +kernel
theorem dX4_bindAll_80 : decode cX4_bindAll 80 = .ok (.iconst 1, 1) := by decide +kernel
theorem dX4_bindAll_81 : decode cX4_bindAll 81 = .ok (.iadd, 1) := by decide +kernel
theorem dX4_bindAll_82 : decode cX4_bindAll 82 = .ok (.invokestatic 87, 3) := by decide +kernel
theorem dX4_bindAll_85 : decode cX4_bindAll 85 = .ok (.iastore, 1) := by decide +kernel
theorem dX4_bindAll_86 : decode cX4_bindAll 86 = .ok (.iinc 2 1, 3) := by decide +kernel
theorem dX4_bindAll_89 : decode cX4_bindAll 89 = .ok (.goto (-72), 3) := by decide +kernel
theorem dX4_bindAll_92 : decode cX4_bindAll 92 = .ok (.aload_n 0, 1) := by decide +kernel
theorem dX4_bindAll_93 : decode cX4_bindAll 93 = .ok (.bipush 8, 2) := by decide +kernel
theorem dX4_bindAll_95 : decode cX4_bindAll 95 = .ok (.invokevirtual 62, 3) := by decide +kernel
theorem dX4_bindAll_98 : decode cX4_bindAll 98 = .ok (.return_, 1) := by decide +kernel
theorem dX4_copy_0 : decode cX4_copy 0 = .ok (.iload_n 2, 1) := by decide +kernel
theorem dX4_copy_1 : decode cX4_copy 1 = .ok (.iconst 1, 1) := by decide +kernel
theorem dX4_copy_2 : decode cX4_copy 2 = .ok (.if_icmp .lt 16, 3) := by decide +kernel
theorem dX4_copy_5 : decode cX4_copy 5 = .ok (.iload_n 2, 1) := by decide +kernel
theorem dX4_copy_6 : decode cX4_copy 6 = .ok (.aload_n 1, 1) := by decide +kernel
theorem dX4_copy_7 : decode cX4_copy 7 = .ok (.arraylength, 1) := by decide +kernel
theorem dX4_copy_8 : decode cX4_copy 8 = .ok (.if_icmp .gt 10, 3) := by decide +kernel
theorem dX4_copy_11 : decode cX4_copy 11 = .ok (.iload_n 2, 1) := by decide +kernel
theorem dX4_copy_12 : decode cX4_copy 12 = .ok (.sipush 512, 3) := by decide +kernel
theorem dX4_copy_15 : decode cX4_copy 15 = .ok (.if_icmp .le 4, 3) := by decide +kernel
theorem dX4_copy_18 : decode cX4_copy 18 = .ok (.return_, 1) := by decide +kernel
theorem dX4_copy_19 : decode cX4_copy 19 = .ok (.aload_n 1, 1) := by decide +kernel
theorem dX4_copy_20 : decode cX4_copy 20 = .ok (.iconst 0, 1) := by decide +kernel
theorem dX4_copy_21 : decode cX4_copy 21 = .ok (.aload_n 0, 1) := by decide +kernel
theorem dX4_copy_22 : decode cX4_copy 22 = .ok (.getfield 11, 3) := by decide +kernel
theorem dX4_copy_25 : decode cX4_copy 25 = .ok (.iconst 0, 1) := by decide +kernel
theorem dX4_copy_26 : decode cX4_copy 26 = .ok (.iload_n 2, 1) := by decide +kernel
theorem dX4_copy_27 : decode cX4_copy 27 = .ok (.invokestatic 34, 3) := by decide +kernel
theorem dX4_copy_30 : decode cX4_copy 30 = .ok (.aload_n 0, 1) := by decide +kernel
theorem dX4_copy_31 : decode cX4_copy 31 = .ok (.iload_n 2, 1) := by decide +kernel
theorem dX4_copy_32 : decode cX4_copy 32 = .ok (.putfield 15, 3) := by decide +kernel
theorem dX4_copy_35 : decode cX4_copy 35 = .ok (.aload_n 0, 1) := by decide +kernel
theorem dX4_copy_36 : decode cX4_copy 36 = .ok (.iconst 0, 1) := by decide +kernel
theorem dX4_copy_37 : decode cX4_copy 37 = .ok (.putfield 19, 3) := by decide +kernel
theorem dX4_copy_40 : decode cX4_copy 40 = .ok (.return_, 1) := by decide +kernel
theorem dX4_putBefore_0 : decode cX4_putBefore 0 = .ok (.aload_n 1, 1) := by decide +kernel
theorem dX4_putBefore_1 : decode cX4_putBefore 1 = .ok (.iconst 0, 1) := by decide +kernel
theorem dX4_putBefore_2 : decode cX4_putBefore 2 = .ok (.iaload, 1) := by decide +kernel
theorem dX4_putBefore_3 : decode cX4_putBefore 3 = .ok (.invokestatic 49, 3) := by decide +kernel
theorem dX4_putBefore_6 : decode cX4_putBefore 6 = .ok (.bipush 7, 2) := by decide +kernel
theorem dX4_putBefore_8 : decode cX4_putBefore 8 = .ok (.if_icmp .ne 7, 3) := by decide +kernel
theorem dX4_putBefore_11 : decode cX4_putBefore 11 = .ok (.iconst 1, 1) := by decide +kernel
theorem dX4_putBefore_12 : decode cX4_putBefore 12 = .ok (.goto 4, 3) := by decide +kernel
theorem dX4_putBefore_15 : decode cX4_putBefore 15 = .ok (.iconst 0, 1) := by decide +kernel
theorem dX4_putBefore_16 : decode cX4_putBefore 16 = .ok (.istore_n 3, 1) := by decide +kernel
theorem dX4_putBefore_17 : decode cX4_putBefore 17 = .ok (.aload_n 0, 1) := by decide +kernel
theorem dX4_putBefore_18 : decode cX4_putBefore 18 = .ok (.invokevirtual 81, 3) := by decide +kernel
theorem dX4_putBefore_21 : decode cX4_putBefore 21 = .ok (.ifCond .eq 7, 3) := by decide +kernel
theorem dX4_putBefore_24 : decode cX4_putBefore 24 = .ok (.iconst 1, 1) := by decide +kernel
theorem dX4_putBefore_25 : decode cX4_putBefore 25 = .ok (.goto 4, 3) := by decide +kernel
theorem dX4_putBefore_28 : decode cX4_putBefore 28 = .ok (.iconst 0, 1) := by decide +kernel
theorem dX4_putBefore_29 : decode cX4_putBefore 29 = .ok (.istore 4, 2) := by decide +kernel
theorem dX4_putBefore_31 : decode cX4_putBefore 31 = .ok (.aload_n 1, 1) := by decide +kernel
theorem dX4_putBefore_32 : decode cX4_putBefore 32 = .ok (.iconst 0, 1) := by decide +kernel
theorem dX4_putBefore_33 : decode cX4_putBefore 33 = .ok (.iaload, 1) := by decide +kernel
theorem dX4_putBefore_34 : decode cX4_putBefore 34 = .ok (.invokestatic 84, 3) := by decide +kernel
theorem dX4_putBefore_37 : decode cX4_putBefore 37 = .ok (.aload_n 0, 1) := by decide +kernel
theorem dX4_putBefore_38 : decode cX4_putBefore 38 = .ok (.getfield 11, 3) := by decide +kernel
theorem dX4_putBefore_41 : decode cX4_putBefore 41 = .ok (.iconst 0, 1) := by decide +kernel
theorem dX4_putBefore_42 : decode cX4_putBefore 42 = .ok (.iaload, 1) := by decide +kernel
theorem dX4_putBefore_43 : decode cX4_putBefore 43 = .ok (.invokestatic 84, 3) := by decide +kernel
theorem dX4_putBefore_46 : decode cX4_putBefore 46 = .ok (.iadd, 1) := by decide +kernel
theorem dX4_putBefore_47 : decode cX4_putBefore 47 = .ok (.istore 5, 2) := by decide +kernel
theorem dX4_putBefore_49 : decode cX4_putBefore 49 = .ok (.iload_n 2, 1) := by decide +kernel
theorem dX4_putBefore_50 : decode cX4_putBefore 50 = .ok (.iload_n 3, 1) := by decide +kernel
theorem dX4_putBefore_51 : decode cX4_putBefore 51 = .ok (.isub, 1) := by decide +kernel
theorem dX4_putBefore_52 : decode cX4_putBefore 52 = .ok (.istore 6, 2) := by decide +kernel
theorem dX4_putBefore_54 : decode cX4_putBefore 54 = .ok (.aload_n 0, 1) := by decide +kernel
theorem dX4_putBefore_55 : decode cX4_putBefore 55 = .ok (.getfield 15, 3) := by decide +kernel
theorem dX4_putBefore_58 : decode cX4_putBefore 58 = .ok (.iload 4, 2) := by decide +kernel
theorem dX4_putBefore_60 : decode cX4_putBefore 60 = .ok (.isub, 1) := by decide +kernel
theorem dX4_putBefore_61 : decode cX4_putBefore 61 = .ok (.istore 7, 2) := by decide +kernel
theorem dX4_putBefore_63 : decode cX4_putBefore 63 = .ok (.iload 6, 2) := by decide +kernel
theorem dX4_putBefore_65 : decode cX4_putBefore 65 = .ok (.ifCond .lt 21, 3) := by decide +kernel
theorem dX4_putBefore_68 : decode cX4_putBefore 68 = .ok (.iload 7, 2) := by decide +kernel
theorem dX4_putBefore_70 : decode cX4_putBefore 70 = .ok (.ifCond .lt 16, 3) := by decide +kernel
theorem dX4_putBefore_73 : decode cX4_putBefore 73 = .ok (.iconst 1, 1) := by decide +kernel
theorem dX4_putBefore_74 : decode cX4_putBefore 74 = .ok (.iload 6, 2) := by decide +kernel
theorem dX4_putBefore_76 : decode cX4_putBefore 76 = .ok (.iadd, 1) := by decide +kernel
theorem dX4_putBefore_77 : decode cX4_putBefore 77 = .ok (.iload 7, 2) := by decide +kernel
theorem dX4_putBefore_79 : decode cX4_putBefore 79 = .ok (.iadd, 1) := by decide +kernel
theorem dX4_putBefore_80 : decode cX4_putBefore 80 = .ok (.sipush 240, 3) := by decide +kernel
theorem dX4_putBefore_83 : decode cX4_putBefore 83 = .ok (.if_icmp .le 9, 3) := by decide +kernel
theorem dX4_putBefore_86 : decode cX4_putBefore 86 = .ok (.aload_n 0, 1) := by decide +kernel
theorem dX4_putBefore_87 : decode cX4_putBefore 87 = .ok (.iconst 1, 1) := by decide +kernel
theorem dX4_putBefore_88 : decode cX4_putBefore 88 = .ok (.putfield 19, 3) := by decide +kernel
theorem dX4_putBefore_91 : decode cX4_putBefore 91 = .ok (.return_, 1) := by decide +kernel
theorem dX4_putBefore_92 : decode cX4_putBefore 92 = .ok (.aload_n 0, 1) := by decide +kernel
theorem dX4_putBefore_93 : decode cX4_putBefore 93 = .ok (.getfield 11, 3) := by decide +kernel
theorem dX4_putBefore_96 : decode cX4_putBefore 96 = .ok (.iload 4, 2) := by decide +kernel
theorem dX4_putBefore_98 : decode cX4_putBefore 98 = .ok (.aload_n 0, 1) := by decide +kernel
theorem dX4_putBefore_99 : decode cX4_putBefore 99 = .ok (.getfield 11, 3) := by decide +kernel
theorem dX4_putBefore_102 : decode cX4_putBefore 102 = .ok (.iconst 1, 1) := by decide +kernel
theorem dX4_putBefore_103 : decode cX4_putBefore 103 = .ok (.iload 6, 2) := by decide +kernel
theorem dX4_putBefore_105 : decode cX4_putBefore 105 = .ok (.iadd, 1) := by decide +kernel
theorem dX4_putBefore_106 : decode cX4_putBefore 106 = .ok (.iload 7, 2) := by decide +kernel
theorem dX4_putBefore_108 : decode cX4_putBefore 108 = .ok (.invokestatic 34, 3) := by decide +kernel
theorem dX4_putBefore_111 : decode cX4_putBefore 111 = .ok (.aload_n 1, 1) := by decide +kernel
theorem dX4_putBefore_112 : decode cX4_putBefore 112 = .ok (.iload_n 3, 1) := by decide +kernel
theorem dX4_putBefore_113 : decode cX4_putBefore 113 = .ok (.aload_n 0, 1) := by decide +kernel
theorem dX4_putBefore_114 : decode cX4_putBefore 114 = .ok (.getfield 11, 3) := by decide +kernel
theorem dX4_putBefore_117 : decode cX4_putBefore 117 = .ok (.iconst 1, 1) := by decide +kernel
theorem dX4_putBefore_118 : decode cX4_putBefore 118 = .ok (.iload 6, 2) := by decide +kernel
theorem dX4_putBefore_120 : decode cX4_putBefore 120 = .ok (.invokestatic 34, 3) := by decide +kernel
theorem dX4_putBefore_123 : decode cX4_putBefore 123 = .ok (.aload_n 0, 1) := by decide +kernel
theorem dX4_putBefore_124 : decode cX4_putBefore 124 = .ok (.getfield 11, 3) := by decide +kernel
theorem dX4_putBefore_127 : decode cX4_putBefore 127 = .ok (.iconst 0, 1) := by decide +kernel
theorem dX4_putBefore_128 : decode cX4_putBefore 128 = .ok (.bipush 7, 2) := by decide +kernel
theorem dX4_putBefore_130 : decode cX4_putBefore 130 = .ok (.iload 5, 2) := by decide +kernel
theorem dX4_putBefore_132 : decode cX4_putBefore 132 = .ok (.invokestatic 87, 3) := by decide +kernel
theorem dX4_putBefore_135 : decode cX4_putBefore 135 = .ok (.iastore, 1) := by decide +kernel
theorem dX4_putBefore_136 : decode cX4_putBefore 136 = .ok (.aload_n 0, 1) := by decide +kernel
theorem dX4_putBefore_137 : decode cX4_putBefore 137 = .ok (.iconst 1, 1) := by decide +kernel
theorem dX4_putBefore_138 : decode cX4_putBefore 138 = .ok (.iload 6, 2) := by decide +kernel
theorem dX4_putBefore_140 : decode cX4_putBefore 140 = .ok (.iadd, 1) := by decide +kernel
theorem dX4_putBefore_141 : decode cX4_putBefore 141 = .ok (.iload 7, 2) := by decide +kernel
theorem dX4_putBefore_143 : decode cX4_putBefore 143 = .ok (.iadd, 1) := by decide +kernel
theorem dX4_putBefore_144 : decode cX4_putBefore 144 = .ok (.putfield 15, 3) := by decide +kernel
theorem dX4_putBefore_147 : decode cX4_putBefore 147 = .ok (.return_, 1) := by decide +kernel
theorem dX4_joinCodes_0 : decode cX4_joinCodes 0 = .ok (.iload_n 2, 1) := by decide +kernel
theorem dX4_joinCodes_1 : decode cX4_joinCodes 1 = .ok (.iconst 1, 1) := by decide +kernel
theorem dX4_joinCodes_2 : decode cX4_joinCodes 2 = .ok (.if_icmp .lt 16, 3) := by decide +kernel
theorem dX4_joinCodes_5 : decode cX4_joinCodes 5 = .ok (.iload_n 2, 1) := by decide +kernel
theorem dX4_joinCodes_6 : decode cX4_joinCodes 6 = .ok (.aload_n 1, 1) := by decide +kernel
theorem dX4_joinCodes_7 : decode cX4_joinCodes 7 = .ok (.arraylength, 1) := by decide +kernel
theorem dX4_joinCodes_8 : decode cX4_joinCodes 8 = .ok (.if_icmp .gt 10, 3) := by decide +kernel
theorem dX4_joinCodes_11 : decode cX4_joinCodes 11 = .ok (.aload_n 1, 1) := by decide +kernel
theorem dX4_joinCodes_12 : decode cX4_joinCodes 12 = .ok (.iconst 0, 1) := by decide +kernel
theorem dX4_joinCodes_13 : decode cX4_joinCodes 13 = .ok (.iaload, 1) := by decide +kernel
theorem dX4_joinCodes_14 : decode cX4_joinCodes 14 = .ok (.iconst 3, 1) := by decide +kernel
theorem dX4_joinCodes_15 : decode cX4_joinCodes 15 = .ok (.if_icmp .ne 4, 3) := by decide +kernel
theorem dX4_joinCodes_18 : decode cX4_joinCodes 18 = .ok (.return_, 1) := by decide +kernel
theorem dX4_joinCodes_19 : decode cX4_joinCodes 19 = .ok (.iload_n 2, 1) := by decide +kernel
theorem dX4_joinCodes_20 : decode cX4_joinCodes 20 = .ok (.iconst 2, 1) := by decide +kernel
theorem dX4_joinCodes_21 : decode cX4_joinCodes 21 = .ok (.if_icmp .ne 22, 3) := by decide +kernel
theorem dX4_joinCodes_24 : decode cX4_joinCodes 24 = .ok (.aload_n 1, 1) := by decide +kernel
theorem dX4_joinCodes_25 : decode cX4_joinCodes 25 = .ok (.iconst 0, 1) := by decide +kernel
theorem dX4_joinCodes_26 : decode cX4_joinCodes 26 = .ok (.iaload, 1) := by decide +kernel
theorem dX4_joinCodes_27 : decode cX4_joinCodes 27 = .ok (.bipush 6, 2) := by decide +kernel
theorem dX4_joinCodes_29 : decode cX4_joinCodes 29 = .ok (.if_icmp .ne 14, 3) := by decide +kernel
theorem dX4_joinCodes_32 : decode cX4_joinCodes 32 = .ok (.aload_n 1, 1) := by decide +kernel
theorem dX4_joinCodes_33 : decode cX4_joinCodes 33 = .ok (.iconst 1, 1) := by decide +kernel
theorem dX4_joinCodes_34 : decode cX4_joinCodes 34 = .ok (.iaload, 1) := by decide +kernel
theorem dX4_joinCodes_35 : decode cX4_joinCodes 35 = .ok (.iconst 3, 1) := by decide +kernel
theorem dX4_joinCodes_36 : decode cX4_joinCodes 36 = .ok (.if_icmp .ne 7, 3) := by decide +kernel
theorem dX4_joinCodes_39 : decode cX4_joinCodes 39 = .ok (.iconst 1, 1) := by decide +kernel
theorem dX4_joinCodes_40 : decode cX4_joinCodes 40 = .ok (.goto 4, 3) := by decide +kernel
theorem dX4_joinCodes_43 : decode cX4_joinCodes 43 = .ok (.iconst 0, 1) := by decide +kernel
theorem dX4_joinCodes_44 : decode cX4_joinCodes 44 = .ok (.istore_n 3, 1) := by decide +kernel
theorem dX4_joinCodes_45 : decode cX4_joinCodes 45 = .ok (.iload_n 3, 1) := by decide +kernel
theorem dX4_joinCodes_46 : decode cX4_joinCodes 46 = .ok (.ifCond .ne 10, 3) := by decide +kernel
theorem dX4_joinCodes_49 : decode cX4_joinCodes 49 = .ok (.aload_n 0, 1) := by decide +kernel
theorem dX4_joinCodes_50 : decode cX4_joinCodes 50 = .ok (.invokevirtual 68, 3) := by decide +kernel
theorem dX4_joinCodes_53 : decode cX4_joinCodes 53 = .ok (.ifCond .eq 10, 3) := by decide +kernel
theorem dX4_joinCodes_56 : decode cX4_joinCodes 56 = .ok (.aload_n 0, 1) := by decide +kernel
theorem dX4_joinCodes_57 : decode cX4_joinCodes 57 = .ok (.invokevirtual 72, 3) := by decide +kernel
theorem dX4_joinCodes_60 : decode cX4_joinCodes 60 = .ok (.goto 32, 3) := by decide +kernel
theorem dX4_joinCodes_63 : decode cX4_joinCodes 63 = .ok (.aload_n 0, 1) := by decide +kernel
theorem dX4_joinCodes_64 : decode cX4_joinCodes 64 = .ok (.invokevirtual 75, 3) := by decide +kernel
theorem dX4_joinCodes_67 : decode cX4_joinCodes 67 = .ok (.ifCond .eq 12, 3) := by decide +kernel
theorem dX4_joinCodes_70 : decode cX4_joinCodes 70 = .ok (.aload_n 0, 1) := by decide +kernel
theorem dX4_joinCodes_71 : decode cX4_joinCodes 71 = .ok (.aload_n 1, 1) := by decide +kernel
theorem dX4_joinCodes_72 : decode cX4_joinCodes 72 = .ok (.iload_n 2, 1) := by decide +kernel
theorem dX4_joinCodes_73 : decode cX4_joinCodes 73 = .ok (.invokevirtual 30, 3) := by decide +kernel
theorem dX4_joinCodes_76 : decode cX4_joinCodes 76 = .ok (.goto 16, 3) := by decide +kernel
theorem dX4_joinCodes_79 : decode cX4_joinCodes 79 = .ok (.aload_n 0, 1) := by decide +kernel
theorem dX4_joinCodes_80 : decode cX4_joinCodes 80 = .ok (.getfield 19, 3) := by decide +kernel
theorem dX4_joinCodes_83 : decode cX4_joinCodes 83 = .ok (.ifCond .ne 9, 3) := by decide +kernel
theorem dX4_joinCodes_86 : decode cX4_joinCodes 86 = .ok (.aload_n 0, 1) := by decide +kernel
theorem dX4_joinCodes_87 : decode cX4_joinCodes 87 = .ok (.aload_n 1, 1) := by decide +kernel
theorem dX4_joinCodes_88 : decode cX4_joinCodes 88 = .ok (.iload_n 2, 1) := by decide +kernel
theorem dX4_joinCodes_89 : decode cX4_joinCodes 89 = .ok (.invokevirtual 78, 3) := by decide +kernel
theorem dX4_joinCodes_92 : decode cX4_joinCodes 92 = .ok (.return_, 1) := by decide +kernel
theorem dX4_load_0 : decode cX4_load 0 = .ok (.aload_n 1, 1) := by decide +kernel
theorem dX4_load_1 : decode cX4_load 1 = .ok (.ifnonnull 11, 3) := by decide +kernel
theorem dX4_load_4 : decode cX4_load 4 = .ok (.aload_n 0, 1) := by decide +kernel
theorem dX4_load_5 : decode cX4_load 5 = .ok (.iconst 3, 1) := by decide +kernel
theorem dX4_load_6 : decode cX4_load 6 = .ok (.invokevirtual 23, 3) := by decide +kernel
theorem dX4_load_9 : decode cX4_load 9 = .ok (.goto 16, 3) := by decide +kernel
theorem dX4_load_12 : decode cX4_load 12 = .ok (.aload_n 0, 1) := by decide +kernel
theorem dX4_load_13 : decode cX4_load 13 = .ok (.aload_n 1, 1) := by decide +kernel
theorem dX4_load_14 : decode cX4_load 14 = .ok (.getfield 27, 3) := by decide +kernel
theorem dX4_load_17 : decode cX4_load 17 = .ok (.aload_n 1, 1) := by decide +kernel
theorem dX4_load_18 : decode cX4_load 18 = .ok (.getfield 27, 3) := by decide +kernel
theorem dX4_load_21 : decode cX4_load 21 = .ok (.arraylength, 1) := by decide +kernel
theorem dX4_load_22 : decode cX4_load 22 = .ok (.invokevirtual 30, 3) := by decide +kernel
theorem dX4_load_25 : decode cX4_load 25 = .ok (.return_, 1) := by decide +kernel
theorem dX4_joinForm_0 : decode cX4_joinForm 0 = .ok (.aload_n 1, 1) := by decide +kernel
theorem dX4_joinForm_1 : decode cX4_joinForm 1 = .ok (.ifnull 16, 3) := by decide +kernel
theorem dX4_joinForm_4 : decode cX4_joinForm 4 = .ok (.aload_n 0, 1) := by decide +kernel
theorem dX4_joinForm_5 : decode cX4_joinForm 5 = .ok (.aload_n 1, 1) := by decide +kernel
theorem dX4_joinForm_6 : decode cX4_joinForm 6 = .ok (.getfield 27, 3) := by decide +kernel
theorem dX4_joinForm_9 : decode cX4_joinForm 9 = .ok (.aload_n 1, 1) := by decide +kernel
theorem dX4_joinForm_10 : decode cX4_joinForm 10 = .ok (.getfield 27, 3) := by decide +kernel
theorem dX4_joinForm_13 : decode cX4_joinForm 13 = .ok (.arraylength, 1) := by decide +kernel
theorem dX4_joinForm_14 : decode cX4_joinForm 14 = .ok (.invokevirtual 65, 3) := by decide +kernel
theorem dX4_joinForm_17 : decode cX4_joinForm 17 = .ok (.return_, 1) := by decide +kernel
theorem dX4_imply_0 : decode cX4_imply 0 = .ok (.aload_n 1, 1) := by decide +kernel
theorem dX4_imply_1 : decode cX4_imply 1 = .ok (.ifnonnull 4, 3) := by decide +kernel
theorem dX4_imply_4 : decode cX4_imply 4 = .ok (.return_, 1) := by decide +kernel
theorem dX4_imply_5 : decode cX4_imply 5 = .ok (.aload_n 0, 1) := by decide +kernel
theorem dX4_imply_6 : decode cX4_imply 6 = .ok (.invokevirtual 94, 3) := by decide +kernel
theorem dX4_imply_9 : decode cX4_imply 9 = .ok (.aload_n 0, 1) := by decide +kernel
theorem dX4_imply_10 : decode cX4_imply 10 = .ok (.aload_n 1, 1) := by decide +kernel
theorem dX4_imply_11 : decode cX4_imply 11 = .ok (.getfield 27, 3) := by decide +kernel
theorem dX4_imply_14 : decode cX4_imply 14 = .ok (.aload_n 1, 1) := by decide +kernel
theorem dX4_imply_15 : decode cX4_imply 15 = .ok (.getfield 27, 3) := by decide +kernel
theorem dX4_imply_18 : decode cX4_imply 18 = .ok (.arraylength, 1) := by decide +kernel
theorem dX4_imply_19 : decode cX4_imply 19 = .ok (.invokevirtual 65, 3) := by decide +kernel
theorem dX4_imply_22 : decode cX4_imply 22 = .ok (.aload_n 0, 1) := by decide +kernel
theorem dX4_imply_23 : decode cX4_imply 23 = .ok (.invokevirtual 94, 3) := by decide +kernel
theorem dX4_imply_26 : decode cX4_imply 26 = .ok (.return_, 1) := by decide +kernel
theorem dX4_joinRow_0 : decode cX4_joinRow 0 = .ok (.aload_n 1, 1) := by decide +kernel
theorem dX4_joinRow_1 : decode cX4_joinRow 1 = .ok (.getfield 19, 3) := by decide +kernel
theorem dX4_joinRow_4 : decode cX4_joinRow 4 = .ok (.ifCond .ne 18, 3) := by decide +kernel
theorem dX4_joinRow_7 : decode cX4_joinRow 7 = .ok (.aload_n 0, 1) := by decide +kernel
theorem dX4_joinRow_8 : decode cX4_joinRow 8 = .ok (.aload_n 1, 1) := by decide +kernel
theorem dX4_joinRow_9 : decode cX4_joinRow 9 = .ok (.getfield 11, 3) := by decide +kernel
theorem dX4_joinRow_12 : decode cX4_joinRow 12 = .ok (.aload_n 1, 1) := by decide +kernel
theorem dX4_joinRow_13 : decode cX4_joinRow 13 = .ok (.getfield 15, 3) := by decide +kernel
theorem dX4_joinRow_16 : decode cX4_joinRow 16 = .ok (.invokevirtual 65, 3) := by decide +kernel
theorem dX4_joinRow_19 : decode cX4_joinRow 19 = .ok (.goto 15, 3) := by decide +kernel
theorem dX4_joinRow_22 : decode cX4_joinRow 22 = .ok (.aload_n 0, 1) := by decide +kernel
theorem dX4_joinRow_23 : decode cX4_joinRow 23 = .ok (.invokevirtual 68, 3) := by decide +kernel
theorem dX4_joinRow_26 : decode cX4_joinRow 26 = .ok (.ifCond .ne 8, 3) := by decide +kernel
theorem dX4_joinRow_29 : decode cX4_joinRow 29 = .ok (.aload_n 0, 1) := by decide +kernel
theorem dX4_joinRow_30 : decode cX4_joinRow 30 = .ok (.iconst 1, 1) := by decide +kernel
theorem dX4_joinRow_31 : decode cX4_joinRow 31 = .ok (.putfield 19, 3) := by decide +kernel
theorem dX4_joinRow_34 : decode cX4_joinRow 34 = .ok (.return_, 1) := by decide +kernel
theorem dX4_bindSome_0 : decode cX4_bindSome 0 = .ok (.aload_n 0, 1) := by decide +kernel
theorem dX4_bindSome_1 : decode cX4_bindSome 1 = .ok (.invokevirtual 94, 3) := by decide +kernel
theorem dX4_bindSome_4 : decode cX4_bindSome 4 = .ok (.aload_n 0, 1) := by decide +kernel
theorem dX4_bindSome_5 : decode cX4_bindSome 5 = .ok (.iload_n 1, 1) := by decide +kernel
theorem dX4_bindSome_6 : decode cX4_bindSome 6 = .ok (.invokevirtual 97, 3) := by decide +kernel
theorem dX4_bindSome_9 : decode cX4_bindSome 9 = .ok (.aload_n 0, 1) := by decide +kernel
theorem dX4_bindSome_10 : decode cX4_bindSome 10 = .ok (.invokevirtual 94, 3) := by decide +kernel
theorem dX4_bindSome_13 : decode cX4_bindSome 13 = .ok (.return_, 1) := by decide +kernel
