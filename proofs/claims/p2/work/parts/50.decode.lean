theorem dX6_put_0 : decode cX6_put 0 = .ok (.aload_n 0, 1) := by decide +kernel
theorem dX6_put_1 : decode cX6_put 1 = .ok (.getfield 25, 3) := by decide +kernel
theorem dX6_put_4 : decode cX6_put 4 = .ok (.iload_n 1, 1) := by decide +kernel
theorem dX6_put_5 : decode cX6_put 5 = .ok (.iaload, 1) := by decide +kernel
theorem dX6_put_6 : decode cX6_put 6 = .ok (.iload_n 2, 1) := by decide +kernel
theorem dX6_put_7 : decode cX6_put 7 = .ok (.if_icmp .gt 5, 3) := by decide +kernel
theorem dX6_put_10 : decode cX6_put 10 = .ok (.iload_n 1, 1) := by decide +kernel
theorem dX6_put_11 : decode cX6_put 11 = .ok (.ireturn, 1) := by decide +kernel
theorem dX6_put_12 : decode cX6_put 12 = .ok (.aload_n 0, 1) := by decide +kernel
theorem dX6_put_13 : decode cX6_put 13 = .ok (.getfield 7, 3) := by decide +kernel
theorem dX6_put_16 : decode cX6_put 16 = .ok (.iload_n 1, 1) := by decide +kernel
theorem dX6_put_17 : decode cX6_put 17 = .ok (.iaload, 1) := by decide +kernel
theorem dX6_put_18 : decode cX6_put 18 = .ok (.iconst 2, 1) := by decide +kernel
theorem dX6_put_19 : decode cX6_put 19 = .ok (.if_icmp .ne 31, 3) := by decide +kernel
theorem dX6_put_22 : decode cX6_put 22 = .ok (.aload_n 0, 1) := by decide +kernel
theorem dX6_put_23 : decode cX6_put 23 = .ok (.getfield 13, 3) := by decide +kernel
theorem dX6_put_26 : decode cX6_put 26 = .ok (.iload_n 1, 1) := by decide +kernel
theorem dX6_put_27 : decode cX6_put 27 = .ok (.iaload, 1) := by decide +kernel
theorem dX6_put_28 : decode cX6_put 28 = .ok (.iload_n 2, 1) := by decide +kernel
theorem dX6_put_29 : decode cX6_put 29 = .ok (.if_icmp .ne 7, 3) := by decide +kernel
theorem dX6_put_32 : decode cX6_put 32 = .ok (.iload_n 3, 1) := by decide +kernel
theorem dX6_put_33 : decode cX6_put 33 = .ok (.goto 16, 3) := by decide +kernel
theorem dX6_put_36 : decode cX6_put 36 = .ok (.aload_n 0, 1) := by decide +kernel
theorem dX6_put_37 : decode cX6_put 37 = .ok (.iconst 2, 1) := by decide +kernel
theorem dX6_put_38 : decode cX6_put 38 = .ok (.aload_n 0, 1) := by decide +kernel
theorem dX6_put_39 : decode cX6_put 39 = .ok (.getfield 13, 3) := by decide +kernel
theorem dX6_put_42 : decode cX6_put 42 = .ok (.iload_n 1, 1) := by decide +kernel
theorem dX6_put_43 : decode cX6_put 43 = .ok (.iaload, 1) := by decide +kernel
theorem dX6_put_44 : decode cX6_put 44 = .ok (.iconst 1, 1) := by decide +kernel
theorem dX6_put_45 : decode cX6_put 45 = .ok (.isub, 1) := by decide +kernel
theorem dX6_put_46 : decode cX6_put 46 = .ok (.invokevirtual 141, 3) := by decide +kernel
theorem dX6_put_49 : decode cX6_put 49 = .ok (.ireturn, 1) := by decide +kernel
theorem dX6_put_50 : decode cX6_put 50 = .ok (.aload_n 0, 1) := by decide +kernel
theorem dX6_put_51 : decode cX6_put 51 = .ok (.getfield 103, 3) := by decide +kernel
theorem dX6_put_54 : decode cX6_put 54 = .ok (.istore 4, 2) := by decide +kernel
theorem dX6_put_56 : decode cX6_put 56 = .ok (.iconst 0, 1) := by decide +kernel
theorem dX6_put_57 : decode cX6_put 57 = .ok (.istore 5, 2) := by decide +kernel
theorem dX6_put_59 : decode cX6_put 59 = .ok (.iload 5, 2) := by decide +kernel
theorem dX6_put_61 : decode cX6_put 61 = .ok (.aload_n 0, 1) := by decide +kernel
theorem dX6_put_62 : decode cX6_put 62 = .ok (.getfield 19, 3) := by decide +kernel
theorem dX6_put_65 : decode cX6_put 65 = .ok (.iload_n 1, 1) := by decide +kernel
theorem dX6_put_66 : decode cX6_put 66 = .ok (.iaload, 1) := by decide +kernel
theorem dX6_put_67 : decode cX6_put 67 = .ok (.if_icmp .ge 35, 3) := by decide +kernel
theorem dX6_put_70 : decode cX6_put 70 = .ok (.aload_n 0, 1) := by decide +kernel
theorem dX6_put_71 : decode cX6_put 71 = .ok (.aload_n 0, 1) := by decide +kernel
theorem dX6_put_72 : decode cX6_put 72 = .ok (.iload_n 1, 1) := by decide +kernel
theorem dX6_put_73 : decode cX6_put 73 = .ok (.iload 5, 2) := by decide +kernel
theorem dX6_put_75 : decode cX6_put 75 = .ok (.invokevirtual 110, 3) := by decide +kernel
theorem dX6_put_78 : decode cX6_put 78 = .ok (.aload_n 0, 1) := by decide +kernel
theorem dX6_put_79 : decode cX6_put 79 = .ok (.iload_n 1, 1) := by decide +kernel
theorem dX6_put_80 : decode cX6_put 80 = .ok (.iload_n 2, 1) := by decide +kernel
theorem dX6_put_81 : decode cX6_put 81 = .ok (.invokevirtual 162, 3) := by decide +kernel
theorem dX6_put_84 : decode cX6_put 84 = .ok (.iload_n 3, 1) := by decide +kernel
theorem dX6_put_85 : decode cX6_put 85 = .ok (.invokevirtual 165, 3) := by decide +kernel
theorem dX6_put_88 : decode cX6_put 88 = .ok (.istore 6, 2) := by decide +kernel
theorem dX6_put_90 : decode cX6_put 90 = .ok (.aload_n 0, 1) := by decide +kernel
theorem dX6_put_91 : decode cX6_put 91 = .ok (.iload 6, 2) := by decide +kernel
theorem dX6_put_93 : decode cX6_put 93 = .ok (.invokevirtual 130, 3) := by decide +kernel
theorem dX6_put_96 : decode cX6_put 96 = .ok (.iinc 5 1, 3) := by decide +kernel
theorem dX6_put_99 : decode cX6_put 99 = .ok (.goto (-40), 3) := by decide +kernel
theorem dX6_put_102 : decode cX6_put 102 = .ok (.aload_n 0, 1) := by decide +kernel
theorem dX6_put_103 : decode cX6_put 103 = .ok (.iload_n 1, 1) := by decide +kernel
theorem dX6_put_104 : decode cX6_put 104 = .ok (.iload 4, 2) := by decide +kernel
theorem dX6_put_106 : decode cX6_put 106 = .ok (.invokevirtual 168, 3) := by decide +kernel
theorem dX6_put_109 : decode cX6_put 109 = .ok (.ireturn, 1) := by decide +kernel
theorem dX6_opens_0 : decode cX6_opens 0 = .ok (.aload_n 0, 1) := by decide +kernel
theorem dX6_opens_1 : decode cX6_opens 1 = .ok (.getfield 7, 3) := by decide +kernel
theorem dX6_opens_4 : decode cX6_opens 4 = .ok (.iload_n 1, 1) := by decide +kernel
theorem dX6_opens_5 : decode cX6_opens 5 = .ok (.iaload, 1) := by decide +kernel
theorem dX6_opens_6 : decode cX6_opens 6 = .ok (.iconst 1, 1) := by decide +kernel
theorem dX6_opens_7 : decode cX6_opens 7 = .ok (.if_icmp .ne 15, 3) := by decide +kernel
theorem dX6_opens_10 : decode cX6_opens 10 = .ok (.aload_n 0, 1) := by decide +kernel
theorem dX6_opens_11 : decode cX6_opens 11 = .ok (.iload_n 2, 1) := by decide +kernel
theorem dX6_opens_12 : decode cX6_opens 12 = .ok (.aload_n 0, 1) := by decide +kernel
theorem dX6_opens_13 : decode cX6_opens 13 = .ok (.getfield 13, 3) := by decide +kernel
theorem dX6_opens_16 : decode cX6_opens 16 = .ok (.iload_n 1, 1) := by decide +kernel
theorem dX6_opens_17 : decode cX6_opens 17 = .ok (.iaload, 1) := by decide +kernel
theorem dX6_opens_18 : decode cX6_opens 18 = .ok (.invokevirtual 110, 3) := by decide +kernel
theorem dX6_opens_21 : decode cX6_opens 21 = .ok (.ireturn, 1) := by decide +kernel
theorem dX6_opens_22 : decode cX6_opens 22 = .ok (.aload_n 0, 1) := by decide +kernel
theorem dX6_opens_23 : decode cX6_opens 23 = .ok (.getfield 19, 3) := by decide +kernel
theorem dX6_opens_26 : decode cX6_opens 26 = .ok (.iload_n 1, 1) := by decide +kernel
theorem dX6_opens_27 : decode cX6_opens 27 = .ok (.iaload, 1) := by decide +kernel
theorem dX6_opens_28 : decode cX6_opens 28 = .ok (.ifCond .ne 5, 3) := by decide +kernel
theorem dX6_opens_31 : decode cX6_opens 31 = .ok (.iload_n 1, 1) := by decide +kernel
theorem dX6_opens_32 : decode cX6_opens 32 = .ok (.ireturn, 1) := by decide +kernel
theorem dX6_opens_33 : decode cX6_opens 33 = .ok (.aload_n 0, 1) := by decide +kernel
theorem dX6_opens_34 : decode cX6_opens 34 = .ok (.getfield 103, 3) := by decide +kernel
theorem dX6_opens_37 : decode cX6_opens 37 = .ok (.istore_n 3, 1) := by decide +kernel
theorem dX6_opens_38 : decode cX6_opens 38 = .ok (.iconst 0, 1) := by decide +kernel
theorem dX6_opens_39 : decode cX6_opens 39 = .ok (.istore 4, 2) := by decide +kernel
theorem dX6_opens_41 : decode cX6_opens 41 = .ok (.iload 4, 2) := by decide +kernel
theorem dX6_opens_43 : decode cX6_opens 43 = .ok (.aload_n 0, 1) := by decide +kernel
theorem dX6_opens_44 : decode cX6_opens 44 = .ok (.getfield 19, 3) := by decide +kernel
theorem dX6_opens_47 : decode cX6_opens 47 = .ok (.iload_n 1, 1) := by decide +kernel
theorem dX6_opens_48 : decode cX6_opens 48 = .ok (.iaload, 1) := by decide +kernel
theorem dX6_opens_49 : decode cX6_opens 49 = .ok (.if_icmp .ge 29, 3) := by decide +kernel
theorem dX6_opens_52 : decode cX6_opens 52 = .ok (.aload_n 0, 1) := by decide +kernel
theorem dX6_opens_53 : decode cX6_opens 53 = .ok (.aload_n 0, 1) := by decide +kernel
theorem dX6_opens_54 : decode cX6_opens 54 = .ok (.iload_n 1, 1) := by decide +kernel
theorem dX6_opens_55 : decode cX6_opens 55 = .ok (.iload 4, 2) := by decide +kernel
theorem dX6_opens_57 : decode cX6_opens 57 = .ok (.invokevirtual 110, 3) := by decide +kernel
theorem dX6_opens_60 : decode cX6_opens 60 = .ok (.iload_n 2, 1) := by decide +kernel
theorem dX6_opens_61 : decode cX6_opens 61 = .ok (.invokevirtual 174, 3) := by decide +kernel
theorem dX6_opens_64 : decode cX6_opens 64 = .ok (.istore 5, 2) := by decide +kernel
theorem dX6_opens_66 : decode cX6_opens 66 = .ok (.aload_n 0, 1) := by decide +kernel
theorem dX6_opens_67 : decode cX6_opens 67 = .ok (.iload 5, 2) := by decide +kernel
theorem dX6_opens_69 : decode cX6_opens 69 = .ok (.invokevirtual 130, 3) := by decide +kernel
theorem dX6_opens_72 : decode cX6_opens 72 = .ok (.iinc 4 1, 3) := by decide +kernel
theorem dX6_opens_75 : decode cX6_opens 75 = .ok (.goto (-34), 3) := by decide +kernel
theorem dX6_opens_78 : decode cX6_opens 78 = .ok (.aload_n 0, 1) := by decide +kernel
theorem dX6_opens_79 : decode cX6_opens 79 = .ok (.iload_n 1, 1) := by decide +kernel
theorem dX6_opens_80 : decode cX6_opens 80 = .ok (.iload_n 3, 1) := by decide +kernel
theorem dX6_opens_81 : decode cX6_opens 81 = .ok (.invokevirtual 168, 3) := by decide +kernel
theorem dX6_opens_84 : decode cX6_opens 84 = .ok (.ireturn, 1) := by decide +kernel
