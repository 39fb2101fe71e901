theorem dX5_refuseWhileWaiting_0 : decode cX5_refuseWhileWaiting 0 = .ok (.aload_n 0, 1) := by decide +kernel
theorem dX5_refuseWhileWaiting_1 : decode cX5_refuseWhileWaiting 1 = .ok (.invokevirtual 169, 3) := by decide +kernel
theorem dX5_refuseWhileWaiting_4 : decode cX5_refuseWhileWaiting 4 = .ok (.astore_n 1, 1) := by decide +kernel
theorem dX5_refuseWhileWaiting_5 : decode cX5_refuseWhileWaiting 5 = .ok (.aload_n 1, 1) := by decide +kernel
theorem dX5_refuseWhileWaiting_6 : decode cX5_refuseWhileWaiting 6 = .ok (.ifnull 21, 3) := by decide +kernel
theorem dX5_refuseWhileWaiting_9 : decode cX5_refuseWhileWaiting 9 = .ok (.aload_n 1, 1) := by decide +kernel
theorem dX5_refuseWhileWaiting_10 : decode cX5_refuseWhileWaiting 10 = .ok (.getfield 172, 3) := by decide +kernel
theorem dX5_refuseWhileWaiting_13 : decode cX5_refuseWhileWaiting 13 = .ok (.ifCond .eq 14, 3) := by decide +kernel
theorem dX5_refuseWhileWaiting_16 : decode cX5_refuseWhileWaiting 16 = .ok (.new 62, 3) := by decide +kernel
theorem dX5_refuseWhileWaiting_19 : decode cX5_refuseWhileWaiting 19 = .ok (.dup, 1) := by decide +kernel
theorem dX5_refuseWhileWaiting_20 : decode cX5_refuseWhileWaiting 20 = .ok (.ldc_w 297, 3) := by decide +kernel
theorem dX5_refuseWhileWaiting_23 : decode cX5_refuseWhileWaiting 23 = .ok (.invokespecial 66, 3) := by decide +kernel
theorem dX5_refuseWhileWaiting_26 : decode cX5_refuseWhileWaiting 26 = .ok (.athrow, 1) := by decide +kernel
theorem dX5_refuseWhileWaiting_27 : decode cX5_refuseWhileWaiting 27 = .ok (.return_, 1) := by decide +kernel
theorem dX5_blockForStep_0 : decode cX5_blockForStep 0 = .ok (.aload_n 0, 1) := by decide +kernel
theorem dX5_blockForStep_1 : decode cX5_blockForStep 1 = .ok (.invokevirtual 169, 3) := by decide +kernel
theorem dX5_blockForStep_4 : decode cX5_blockForStep 4 = .ok (.astore_n 1, 1) := by decide +kernel
theorem dX5_blockForStep_5 : decode cX5_blockForStep 5 = .ok (.aload_n 1, 1) := by decide +kernel
theorem dX5_blockForStep_6 : decode cX5_blockForStep 6 = .ok (.ifnull 10, 3) := by decide +kernel
theorem dX5_blockForStep_9 : decode cX5_blockForStep 9 = .ok (.aload_n 1, 1) := by decide +kernel
theorem dX5_blockForStep_10 : decode cX5_blockForStep 10 = .ok (.getfield 172, 3) := by decide +kernel
theorem dX5_blockForStep_13 : decode cX5_blockForStep 13 = .ok (.ifCond .eq 14, 3) := by decide +kernel
theorem dX5_blockForStep_16 : decode cX5_blockForStep 16 = .ok (.new 62, 3) := by decide +kernel
theorem dX5_blockForStep_19 : decode cX5_blockForStep 19 = .ok (.dup, 1) := by decide +kernel
theorem dX5_blockForStep_20 : decode cX5_blockForStep 20 = .ok (.ldc_w 326, 3) := by decide +kernel
theorem dX5_blockForStep_23 : decode cX5_blockForStep 23 = .ok (.invokespecial 66, 3) := by decide +kernel
theorem dX5_blockForStep_26 : decode cX5_blockForStep 26 = .ok (.athrow, 1) := by decide +kernel
theorem dX5_blockForStep_27 : decode cX5_blockForStep 27 = .ok (.aload_n 0, 1) := by decide +kernel
theorem dX5_blockForStep_28 : decode cX5_blockForStep 28 = .ok (.invokevirtual 180, 3) := by decide +kernel
theorem dX5_blockForStep_31 : decode cX5_blockForStep 31 = .ok (.aload_n 1, 1) := by decide +kernel
theorem dX5_blockForStep_32 : decode cX5_blockForStep 32 = .ok (.areturn, 1) := by decide +kernel
theorem dX5_waitingBlock_0 : decode cX5_waitingBlock 0 = .ok (.aload_n 0, 1) := by decide +kernel
theorem dX5_waitingBlock_1 : decode cX5_waitingBlock 1 = .ok (.invokevirtual 169, 3) := by decide +kernel
theorem dX5_waitingBlock_4 : decode cX5_waitingBlock 4 = .ok (.astore_n 1, 1) := by decide +kernel
theorem dX5_waitingBlock_5 : decode cX5_waitingBlock 5 = .ok (.aload_n 1, 1) := by decide +kernel
theorem dX5_waitingBlock_6 : decode cX5_waitingBlock 6 = .ok (.ifnull 10, 3) := by decide +kernel
theorem dX5_waitingBlock_9 : decode cX5_waitingBlock 9 = .ok (.aload_n 1, 1) := by decide +kernel
theorem dX5_waitingBlock_10 : decode cX5_waitingBlock 10 = .ok (.getfield 172, 3) := by decide +kernel
theorem dX5_waitingBlock_13 : decode cX5_waitingBlock 13 = .ok (.ifCond .ne 14, 3) := by decide +kernel
theorem dX5_waitingBlock_16 : decode cX5_waitingBlock 16 = .ok (.new 62, 3) := by decide +kernel
theorem dX5_waitingBlock_19 : decode cX5_waitingBlock 19 = .ok (.dup, 1) := by decide +kernel
theorem dX5_waitingBlock_20 : decode cX5_waitingBlock 20 = .ok (.ldc_w 299, 3) := by decide +kernel
theorem dX5_waitingBlock_23 : decode cX5_waitingBlock 23 = .ok (.invokespecial 66, 3) := by decide +kernel
theorem dX5_waitingBlock_26 : decode cX5_waitingBlock 26 = .ok (.athrow, 1) := by decide +kernel
theorem dX5_waitingBlock_27 : decode cX5_waitingBlock 27 = .ok (.aload_n 1, 1) := by decide +kernel
theorem dX5_waitingBlock_28 : decode cX5_waitingBlock 28 = .ok (.areturn, 1) := by decide +kernel
