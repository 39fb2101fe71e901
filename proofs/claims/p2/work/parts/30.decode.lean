theorem dX5_note_0 : decode cX5_note 0 = .ok (.aload_n 1, 1) := by decide +kernel
theorem dX5_note_1 : decode cX5_note 1 = .ok (.new 212, 3) := by decide +kernel
theorem dX5_note_4 : decode cX5_note 4 = .ok (.dup, 1) := by decide +kernel
theorem dX5_note_5 : decode cX5_note 5 = .ok (.iload_n 2, 1) := by decide +kernel
theorem dX5_note_6 : decode cX5_note 6 = .ok (.iload_n 3, 1) := by decide +kernel
theorem dX5_note_7 : decode cX5_note 7 = .ok (.aload 4, 2) := by decide +kernel
theorem dX5_note_9 : decode cX5_note 9 = .ok (.aload_n 1, 1) := by decide +kernel
theorem dX5_note_10 : decode cX5_note 10 = .ok (.getfield 207, 3) := by decide +kernel
theorem dX5_note_13 : decode cX5_note 13 = .ok (.invokespecial 312, 3) := by decide +kernel
theorem dX5_note_16 : decode cX5_note 16 = .ok (.putfield 207, 3) := by decide +kernel
theorem dX5_note_19 : decode cX5_note 19 = .ok (.aload_n 0, 1) := by decide +kernel
theorem dX5_note_20 : decode cX5_note 20 = .ok (.dup, 1) := by decide +kernel
theorem dX5_note_21 : decode cX5_note 21 = .ok (.getfield 307, 3) := by decide +kernel
theorem dX5_note_24 : decode cX5_note 24 = .ok (.iconst 1, 1) := by decide +kernel
theorem dX5_note_25 : decode cX5_note 25 = .ok (.iadd, 1) := by decide +kernel
theorem dX5_note_26 : decode cX5_note 26 = .ok (.putfield 307, 3) := by decide +kernel
theorem dX5_note_29 : decode cX5_note 29 = .ok (.return_, 1) := by decide +kernel
theorem dX5_beginBlock_0 : decode cX5_beginBlock 0 = .ok (.aload_n 0, 1) := by decide +kernel
theorem dX5_beginBlock_1 : decode cX5_beginBlock 1 = .ok (.getfield 200, 3) := by decide +kernel
theorem dX5_beginBlock_4 : decode cX5_beginBlock 4 = .ok (.bipush 40, 2) := by decide +kernel
theorem dX5_beginBlock_6 : decode cX5_beginBlock 6 = .ok (.if_icmp .lt 14, 3) := by decide +kernel
theorem dX5_beginBlock_9 : decode cX5_beginBlock 9 = .ok (.new 62, 3) := by decide +kernel
theorem dX5_beginBlock_12 : decode cX5_beginBlock 12 = .ok (.dup, 1) := by decide +kernel
theorem dX5_beginBlock_13 : decode cX5_beginBlock 13 = .ok (.ldc_w 301, 3) := by decide +kernel
theorem dX5_beginBlock_16 : decode cX5_beginBlock 16 = .ok (.invokespecial 66, 3) := by decide +kernel
theorem dX5_beginBlock_19 : decode cX5_beginBlock 19 = .ok (.athrow, 1) := by decide +kernel
theorem dX5_beginBlock_20 : decode cX5_beginBlock 20 = .ok (.aload_n 0, 1) := by decide +kernel
theorem dX5_beginBlock_21 : decode cX5_beginBlock 21 = .ok (.getfield 24, 3) := by decide +kernel
theorem dX5_beginBlock_24 : decode cX5_beginBlock 24 = .ok (.aload_n 0, 1) := by decide +kernel
theorem dX5_beginBlock_25 : decode cX5_beginBlock 25 = .ok (.getfield 200, 3) := by decide +kernel
theorem dX5_beginBlock_28 : decode cX5_beginBlock 28 = .ok (.aaload, 1) := by decide +kernel
theorem dX5_beginBlock_29 : decode cX5_beginBlock 29 = .ok (.iload_n 1, 1) := by decide +kernel
theorem dX5_beginBlock_30 : decode cX5_beginBlock 30 = .ok (.aload_n 2, 1) := by decide +kernel
theorem dX5_beginBlock_31 : decode cX5_beginBlock 31 = .ok (.invokevirtual 303, 3) := by decide +kernel
theorem dX5_beginBlock_34 : decode cX5_beginBlock 34 = .ok (.aload_n 0, 1) := by decide +kernel
theorem dX5_beginBlock_35 : decode cX5_beginBlock 35 = .ok (.dup, 1) := by decide +kernel
theorem dX5_beginBlock_36 : decode cX5_beginBlock 36 = .ok (.getfield 200, 3) := by decide +kernel
theorem dX5_beginBlock_39 : decode cX5_beginBlock 39 = .ok (.iconst 1, 1) := by decide +kernel
theorem dX5_beginBlock_40 : decode cX5_beginBlock 40 = .ok (.iadd, 1) := by decide +kernel
theorem dX5_beginBlock_41 : decode cX5_beginBlock 41 = .ok (.putfield 200, 3) := by decide +kernel
theorem dX5_beginBlock_44 : decode cX5_beginBlock 44 = .ok (.aload_n 0, 1) := by decide +kernel
theorem dX5_beginBlock_45 : decode cX5_beginBlock 45 = .ok (.getfield 200, 3) := by decide +kernel
theorem dX5_beginBlock_48 : decode cX5_beginBlock 48 = .ok (.ireturn, 1) := by decide +kernel
