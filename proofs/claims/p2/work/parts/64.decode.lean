theorem dX6_bind_0 : decode cX6_bind 0 = .ok (.aload_n 0, 1) := by decide +kernel
theorem dX6_bind_1 : decode cX6_bind 1 = .ok (.iconst 0, 1) := by decide +kernel
theorem dX6_bind_2 : decode cX6_bind 2 = .ok (.putfield 93, 3) := by decide +kernel
theorem dX6_bind_5 : decode cX6_bind 5 = .ok (.aload_n 0, 1) := by decide +kernel
theorem dX6_bind_6 : decode cX6_bind 6 = .ok (.iload_n 2, 1) := by decide +kernel
theorem dX6_bind_7 : decode cX6_bind 7 = .ok (.invokevirtual 233, 3) := by decide +kernel
theorem dX6_bind_10 : decode cX6_bind 10 = .ok (.istore 4, 2) := by decide +kernel
theorem dX6_bind_12 : decode cX6_bind 12 = .ok (.aload_n 0, 1) := by decide +kernel
theorem dX6_bind_13 : decode cX6_bind 13 = .ok (.iload_n 3, 1) := by decide +kernel
theorem dX6_bind_14 : decode cX6_bind 14 = .ok (.invokevirtual 215, 3) := by decide +kernel
theorem dX6_bind_17 : decode cX6_bind 17 = .ok (.istore 5, 2) := by decide +kernel
theorem dX6_bind_19 : decode cX6_bind 19 = .ok (.iload 4, 2) := by decide +kernel
theorem dX6_bind_21 : decode cX6_bind 21 = .ok (.ifCond .eq 8, 3) := by decide +kernel
theorem dX6_bind_24 : decode cX6_bind 24 = .ok (.iload 5, 2) := by decide +kernel
theorem dX6_bind_26 : decode cX6_bind 26 = .ok (.ifCond .ne 9, 3) := by decide +kernel
theorem dX6_bind_29 : decode cX6_bind 29 = .ok (.aload_n 0, 1) := by decide +kernel
theorem dX6_bind_30 : decode cX6_bind 30 = .ok (.iconst 1, 1) := by decide +kernel
theorem dX6_bind_31 : decode cX6_bind 31 = .ok (.invokevirtual 208, 3) := by decide +kernel
theorem dX6_bind_34 : decode cX6_bind 34 = .ok (.ireturn, 1) := by decide +kernel
theorem dX6_bind_35 : decode cX6_bind 35 = .ok (.aload_n 0, 1) := by decide +kernel
theorem dX6_bind_36 : decode cX6_bind 36 = .ok (.aload_n 0, 1) := by decide +kernel
theorem dX6_bind_37 : decode cX6_bind 37 = .ok (.iload_n 1, 1) := by decide +kernel
theorem dX6_bind_38 : decode cX6_bind 38 = .ok (.ifCond .eq 12, 3) := by decide +kernel
theorem dX6_bind_41 : decode cX6_bind 41 = .ok (.aload_n 0, 1) := by decide +kernel
theorem dX6_bind_42 : decode cX6_bind 42 = .ok (.iload 5, 2) := by decide +kernel
theorem dX6_bind_44 : decode cX6_bind 44 = .ok (.invokevirtual 154, 3) := by decide +kernel
theorem dX6_bind_47 : decode cX6_bind 47 = .ok (.goto 5, 3) := by decide +kernel
theorem dX6_bind_50 : decode cX6_bind 50 = .ok (.iload 5, 2) := by decide +kernel
theorem dX6_bind_52 : decode cX6_bind 52 = .ok (.iload 4, 2) := by decide +kernel
theorem dX6_bind_54 : decode cX6_bind 54 = .ok (.iconst 0, 1) := by decide +kernel
theorem dX6_bind_55 : decode cX6_bind 55 = .ok (.invokevirtual 171, 3) := by decide +kernel
theorem dX6_bind_58 : decode cX6_bind 58 = .ok (.invokevirtual 159, 3) := by decide +kernel
theorem dX6_bind_61 : decode cX6_bind 61 = .ok (.istore 6, 2) := by decide +kernel
theorem dX6_bind_63 : decode cX6_bind 63 = .ok (.aload_n 0, 1) := by decide +kernel
theorem dX6_bind_64 : decode cX6_bind 64 = .ok (.iload_n 1, 1) := by decide +kernel
theorem dX6_bind_65 : decode cX6_bind 65 = .ok (.ifCond .eq 12, 3) := by decide +kernel
theorem dX6_bind_68 : decode cX6_bind 68 = .ok (.aload_n 0, 1) := by decide +kernel
theorem dX6_bind_69 : decode cX6_bind 69 = .ok (.iload 6, 2) := by decide +kernel
theorem dX6_bind_71 : decode cX6_bind 71 = .ok (.invokevirtual 154, 3) := by decide +kernel
theorem dX6_bind_74 : decode cX6_bind 74 = .ok (.goto 5, 3) := by decide +kernel
theorem dX6_bind_77 : decode cX6_bind 77 = .ok (.iload 6, 2) := by decide +kernel
theorem dX6_bind_79 : decode cX6_bind 79 = .ok (.iconst 2, 1) := by decide +kernel
theorem dX6_bind_80 : decode cX6_bind 80 = .ok (.invokevirtual 227, 3) := by decide +kernel
theorem dX6_bind_83 : decode cX6_bind 83 = .ok (.ireturn, 1) := by decide +kernel
