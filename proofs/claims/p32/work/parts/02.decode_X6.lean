theorem dX6_init_0 : decode cX6_init 0 = .ok (.aload_n 0, 1) := by decide +kernel
theorem dX6_init_1 : decode cX6_init 1 = .ok (.invokespecial 3, 3) := by decide +kernel
theorem dX6_init_4 : decode cX6_init 4 = .ok (.aload_n 0, 1) := by decide +kernel
theorem dX6_init_5 : decode cX6_init 5 = .ok (.bipush 12, 2) := by decide +kernel
theorem dX6_init_7 : decode cX6_init 7 = .ok (.newarray .int, 2) := by decide +kernel
theorem dX6_init_9 : decode cX6_init 9 = .ok (.putfield 9, 3) := by decide +kernel
theorem dX6_init_12 : decode cX6_init 12 = .ok (.aload_n 0, 1) := by decide +kernel
theorem dX6_init_13 : decode cX6_init 13 = .ok (.bipush 12, 2) := by decide +kernel
theorem dX6_init_15 : decode cX6_init 15 = .ok (.newarray .int, 2) := by decide +kernel
theorem dX6_init_17 : decode cX6_init 17 = .ok (.putfield 15, 3) := by decide +kernel
theorem dX6_init_20 : decode cX6_init 20 = .ok (.iconst 0, 1) := by decide +kernel
theorem dX6_init_21 : decode cX6_init 21 = .ok (.istore_n 1, 1) := by decide +kernel
theorem dX6_init_22 : decode cX6_init 22 = .ok (.iload_n 1, 1) := by decide +kernel
theorem dX6_init_23 : decode cX6_init 23 = .ok (.bipush 12, 2) := by decide +kernel
theorem dX6_init_25 : decode cX6_init 25 = .ok (.if_icmp .ge 27, 3) := by decide +kernel
theorem dX6_init_28 : decode cX6_init 28 = .ok (.aload_n 0, 1) := by decide +kernel
theorem dX6_init_29 : decode cX6_init 29 = .ok (.getfield 9, 3) := by decide +kernel
theorem dX6_init_32 : decode cX6_init 32 = .ok (.iload_n 1, 1) := by decide +kernel
theorem dX6_init_33 : decode cX6_init 33 = .ok (.iload_n 1, 1) := by decide +kernel
theorem dX6_init_34 : decode cX6_init 34 = .ok (.bipush 6, 2) := by decide +kernel
theorem dX6_init_36 : decode cX6_init 36 = .ok (.irem, 1) := by decide +kernel
theorem dX6_init_37 : decode cX6_init 37 = .ok (.iastore, 1) := by decide +kernel
theorem dX6_init_38 : decode cX6_init 38 = .ok (.aload_n 0, 1) := by decide +kernel
theorem dX6_init_39 : decode cX6_init 39 = .ok (.getfield 15, 3) := by decide +kernel
theorem dX6_init_42 : decode cX6_init 42 = .ok (.iload_n 1, 1) := by decide +kernel
theorem dX6_init_43 : decode cX6_init 43 = .ok (.bipush 60, 2) := by decide +kernel
theorem dX6_init_45 : decode cX6_init 45 = .ok (.iastore, 1) := by decide +kernel
theorem dX6_init_46 : decode cX6_init 46 = .ok (.iinc 1 1, 3) := by decide +kernel
theorem dX6_init_49 : decode cX6_init 49 = .ok (.goto (-27), 3) := by decide +kernel
theorem dX6_init_52 : decode cX6_init 52 = .ok (.return_, 1) := by decide +kernel
theorem dX6_copyFrom_0 : decode cX6_copyFrom 0 = .ok (.aload_n 1, 1) := by decide +kernel
theorem dX6_copyFrom_1 : decode cX6_copyFrom 1 = .ok (.getfield 9, 3) := by decide +kernel
theorem dX6_copyFrom_4 : decode cX6_copyFrom 4 = .ok (.iconst 0, 1) := by decide +kernel
theorem dX6_copyFrom_5 : decode cX6_copyFrom 5 = .ok (.aload_n 0, 1) := by decide +kernel
theorem dX6_copyFrom_6 : decode cX6_copyFrom 6 = .ok (.getfield 9, 3) := by decide +kernel
theorem dX6_copyFrom_9 : decode cX6_copyFrom 9 = .ok (.iconst 0, 1) := by decide +kernel
theorem dX6_copyFrom_10 : decode cX6_copyFrom 10 = .ok (.bipush 12, 2) := by decide +kernel
theorem dX6_copyFrom_12 : decode cX6_copyFrom 12 = .ok (.invokestatic 18, 3) := by decide +kernel
theorem dX6_copyFrom_15 : decode cX6_copyFrom 15 = .ok (.aload_n 1, 1) := by decide +kernel
theorem dX6_copyFrom_16 : decode cX6_copyFrom 16 = .ok (.getfield 15, 3) := by decide +kernel
theorem dX6_copyFrom_19 : decode cX6_copyFrom 19 = .ok (.iconst 0, 1) := by decide +kernel
theorem dX6_copyFrom_20 : decode cX6_copyFrom 20 = .ok (.aload_n 0, 1) := by decide +kernel
theorem dX6_copyFrom_21 : decode cX6_copyFrom 21 = .ok (.getfield 15, 3) := by decide +kernel
theorem dX6_copyFrom_24 : decode cX6_copyFrom 24 = .ok (.iconst 0, 1) := by decide +kernel
theorem dX6_copyFrom_25 : decode cX6_copyFrom 25 = .ok (.bipush 12, 2) := by decide +kernel
theorem dX6_copyFrom_27 : decode cX6_copyFrom 27 = .ok (.invokestatic 18, 3) := by decide +kernel
theorem dX6_copyFrom_30 : decode cX6_copyFrom 30 = .ok (.return_, 1) := by decide +kernel
theorem dX6_firstBroken_0 : decode cX6_firstBroken 0 = .ok (.iconst 0, 1) := by decide +kernel
theorem dX6_firstBroken_1 : decode cX6_firstBroken 1 = .ok (.istore_n 1, 1) := by decide +kernel
theorem dX6_firstBroken_2 : decode cX6_firstBroken 2 = .ok (.iload_n 1, 1) := by decide +kernel
theorem dX6_firstBroken_3 : decode cX6_firstBroken 3 = .ok (.bipush 12, 2) := by decide +kernel
theorem dX6_firstBroken_5 : decode cX6_firstBroken 5 = .ok (.if_icmp .ge 20, 3) := by decide +kernel
theorem dX6_firstBroken_8 : decode cX6_firstBroken 8 = .ok (.aload_n 0, 1) := by decide +kernel
theorem dX6_firstBroken_9 : decode cX6_firstBroken 9 = .ok (.getfield 15, 3) := by decide +kernel
theorem dX6_firstBroken_12 : decode cX6_firstBroken 12 = .ok (.iload_n 1, 1) := by decide +kernel
theorem dX6_firstBroken_13 : decode cX6_firstBroken 13 = .ok (.iaload, 1) := by decide +kernel
theorem dX6_firstBroken_14 : decode cX6_firstBroken 14 = .ok (.ifCond .ne 5, 3) := by decide +kernel
theorem dX6_firstBroken_17 : decode cX6_firstBroken 17 = .ok (.iload_n 1, 1) := by decide +kernel
theorem dX6_firstBroken_18 : decode cX6_firstBroken 18 = .ok (.ireturn, 1) := by decide +kernel
theorem dX6_firstBroken_19 : decode cX6_firstBroken 19 = .ok (.iinc 1 1, 3) := by decide +kernel
theorem dX6_firstBroken_22 : decode cX6_firstBroken 22 = .ok (.goto (-20), 3) := by decide +kernel
theorem dX6_firstBroken_25 : decode cX6_firstBroken 25 = .ok (.bipush (-6), 2) := by decide +kernel
theorem dX6_firstBroken_27 : decode cX6_firstBroken 27 = .ok (.ireturn, 1) := by decide +kernel
theorem dX6_inFrames_0 : decode cX6_inFrames 0 = .ok (.iconst 0, 1) := by decide +kernel
theorem dX6_inFrames_1 : decode cX6_inFrames 1 = .ok (.istore_n 2, 1) := by decide +kernel
theorem dX6_inFrames_2 : decode cX6_inFrames 2 = .ok (.iconst 0, 1) := by decide +kernel
theorem dX6_inFrames_3 : decode cX6_inFrames 3 = .ok (.istore_n 3, 1) := by decide +kernel
theorem dX6_inFrames_4 : decode cX6_inFrames 4 = .ok (.iload_n 3, 1) := by decide +kernel
theorem dX6_inFrames_5 : decode cX6_inFrames 5 = .ok (.bipush 12, 2) := by decide +kernel
theorem dX6_inFrames_7 : decode cX6_inFrames 7 = .ok (.if_icmp .ge 28, 3) := by decide +kernel
theorem dX6_inFrames_10 : decode cX6_inFrames 10 = .ok (.iload_n 1, 1) := by decide +kernel
theorem dX6_inFrames_11 : decode cX6_inFrames 11 = .ok (.aload_n 0, 1) := by decide +kernel
theorem dX6_inFrames_12 : decode cX6_inFrames 12 = .ok (.getfield 9, 3) := by decide +kernel
theorem dX6_inFrames_15 : decode cX6_inFrames 15 = .ok (.iload_n 3, 1) := by decide +kernel
theorem dX6_inFrames_16 : decode cX6_inFrames 16 = .ok (.iaload, 1) := by decide +kernel
theorem dX6_inFrames_17 : decode cX6_inFrames 17 = .ok (.invokestatic 24, 3) := by decide +kernel
theorem dX6_inFrames_20 : decode cX6_inFrames 20 = .ok (.ifCond .eq 9, 3) := by decide +kernel
theorem dX6_inFrames_23 : decode cX6_inFrames 23 = .ok (.iload_n 2, 1) := by decide +kernel
theorem dX6_inFrames_24 : decode cX6_inFrames 24 = .ok (.iconst 1, 1) := by decide +kernel
theorem dX6_inFrames_25 : decode cX6_inFrames 25 = .ok (.iload_n 3, 1) := by decide +kernel
theorem dX6_inFrames_26 : decode cX6_inFrames 26 = .ok (.ishl, 1) := by decide +kernel
theorem dX6_inFrames_27 : decode cX6_inFrames 27 = .ok (.ior, 1) := by decide +kernel
theorem dX6_inFrames_28 : decode cX6_inFrames 28 = .ok (.istore_n 2, 1) := by decide +kernel
theorem dX6_inFrames_29 : decode cX6_inFrames 29 = .ok (.iinc 3 1, 3) := by decide +kernel
theorem dX6_inFrames_32 : decode cX6_inFrames 32 = .ok (.goto (-28), 3) := by decide +kernel
theorem dX6_inFrames_35 : decode cX6_inFrames 35 = .ok (.iload_n 2, 1) := by decide +kernel
theorem dX6_inFrames_36 : decode cX6_inFrames 36 = .ok (.ireturn, 1) := by decide +kernel
theorem dX6_wearOut_0 : decode cX6_wearOut 0 = .ok (.iconst 0, 1) := by decide +kernel
theorem dX6_wearOut_1 : decode cX6_wearOut 1 = .ok (.istore_n 2, 1) := by decide +kernel
theorem dX6_wearOut_2 : decode cX6_wearOut 2 = .ok (.iload_n 2, 1) := by decide +kernel
theorem dX6_wearOut_3 : decode cX6_wearOut 3 = .ok (.bipush 12, 2) := by decide +kernel
theorem dX6_wearOut_5 : decode cX6_wearOut 5 = .ok (.if_icmp .ge 32, 3) := by decide +kernel
theorem dX6_wearOut_8 : decode cX6_wearOut 8 = .ok (.iload_n 1, 1) := by decide +kernel
theorem dX6_wearOut_9 : decode cX6_wearOut 9 = .ok (.aload_n 0, 1) := by decide +kernel
theorem dX6_wearOut_10 : decode cX6_wearOut 10 = .ok (.getfield 9, 3) := by decide +kernel
theorem dX6_wearOut_13 : decode cX6_wearOut 13 = .ok (.iload_n 2, 1) := by decide +kernel
theorem dX6_wearOut_14 : decode cX6_wearOut 14 = .ok (.iaload, 1) := by decide +kernel
theorem dX6_wearOut_15 : decode cX6_wearOut 15 = .ok (.invokestatic 24, 3) := by decide +kernel
theorem dX6_wearOut_18 : decode cX6_wearOut 18 = .ok (.ifCond .eq 13, 3) := by decide +kernel
theorem dX6_wearOut_21 : decode cX6_wearOut 21 = .ok (.aload_n 0, 1) := by decide +kernel
theorem dX6_wearOut_22 : decode cX6_wearOut 22 = .ok (.getfield 15, 3) := by decide +kernel
theorem dX6_wearOut_25 : decode cX6_wearOut 25 = .ok (.iload_n 2, 1) := by decide +kernel
theorem dX6_wearOut_26 : decode cX6_wearOut 26 = .ok (.dup2, 1) := by decide +kernel
theorem dX6_wearOut_27 : decode cX6_wearOut 27 = .ok (.iaload, 1) := by decide +kernel
theorem dX6_wearOut_28 : decode cX6_wearOut 28 = .ok (.iconst 1, 1) := by decide +kernel
theorem dX6_wearOut_29 : decode cX6_wearOut 29 = .ok (.isub, 1) := by decide +kernel
theorem dX6_wearOut_30 : decode cX6_wearOut 30 = .ok (.iastore, 1) := by decide +kernel
theorem dX6_wearOut_31 : decode cX6_wearOut 31 = .ok (.iinc 2 1, 3) := by decide +kernel
theorem dX6_wearOut_34 : decode cX6_wearOut 34 = .ok (.goto (-32), 3) := by decide +kernel
theorem dX6_wearOut_37 : decode cX6_wearOut 37 = .ok (.return_, 1) := by decide +kernel
