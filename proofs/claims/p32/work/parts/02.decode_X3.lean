theorem dX3_init_0 : decode cX3_init 0 = .ok (.aload_n 0, 1) := by decide +kernel
theorem dX3_init_1 : decode cX3_init 1 = .ok (.invokespecial 3, 3) := by decide +kernel
theorem dX3_init_4 : decode cX3_init 4 = .ok (.aload_n 0, 1) := by decide +kernel
theorem dX3_init_5 : decode cX3_init 5 = .ok (.new 9, 3) := by decide +kernel
theorem dX3_init_8 : decode cX3_init 8 = .ok (.dup, 1) := by decide +kernel
theorem dX3_init_9 : decode cX3_init 9 = .ok (.invokespecial 11, 3) := by decide +kernel
theorem dX3_init_12 : decode cX3_init 12 = .ok (.putfield 12, 3) := by decide +kernel
theorem dX3_init_15 : decode cX3_init 15 = .ok (.aload_n 0, 1) := by decide +kernel
theorem dX3_init_16 : decode cX3_init 16 = .ok (.new 18, 3) := by decide +kernel
theorem dX3_init_19 : decode cX3_init 19 = .ok (.dup, 1) := by decide +kernel
theorem dX3_init_20 : decode cX3_init 20 = .ok (.invokespecial 20, 3) := by decide +kernel
theorem dX3_init_23 : decode cX3_init 23 = .ok (.putfield 21, 3) := by decide +kernel
theorem dX3_init_26 : decode cX3_init 26 = .ok (.aload_n 0, 1) := by decide +kernel
theorem dX3_init_27 : decode cX3_init 27 = .ok (.new 25, 3) := by decide +kernel
theorem dX3_init_30 : decode cX3_init 30 = .ok (.dup, 1) := by decide +kernel
theorem dX3_init_31 : decode cX3_init 31 = .ok (.invokespecial 27, 3) := by decide +kernel
theorem dX3_init_34 : decode cX3_init 34 = .ok (.putfield 28, 3) := by decide +kernel
theorem dX3_init_37 : decode cX3_init 37 = .ok (.aload_n 0, 1) := by decide +kernel
theorem dX3_init_38 : decode cX3_init 38 = .ok (.iconst 2, 1) := by decide +kernel
theorem dX3_init_39 : decode cX3_init 39 = .ok (.newarray .int, 2) := by decide +kernel
theorem dX3_init_41 : decode cX3_init 41 = .ok (.putfield 32, 3) := by decide +kernel
theorem dX3_init_44 : decode cX3_init 44 = .ok (.aload_n 0, 1) := by decide +kernel
theorem dX3_init_45 : decode cX3_init 45 = .ok (.iconst 1, 1) := by decide +kernel
theorem dX3_init_46 : decode cX3_init 46 = .ok (.putfield 36, 3) := by decide +kernel
theorem dX3_init_49 : decode cX3_init 49 = .ok (.aload_n 0, 1) := by decide +kernel
theorem dX3_init_50 : decode cX3_init 50 = .ok (.iconst 0, 1) := by decide +kernel
theorem dX3_init_51 : decode cX3_init 51 = .ok (.putfield 40, 3) := by decide +kernel
theorem dX3_init_54 : decode cX3_init 54 = .ok (.return_, 1) := by decide +kernel
theorem dX3_copyFrom_0 : decode cX3_copyFrom 0 = .ok (.aload_n 0, 1) := by decide +kernel
theorem dX3_copyFrom_1 : decode cX3_copyFrom 1 = .ok (.getfield 12, 3) := by decide +kernel
theorem dX3_copyFrom_4 : decode cX3_copyFrom 4 = .ok (.aload_n 1, 1) := by decide +kernel
theorem dX3_copyFrom_5 : decode cX3_copyFrom 5 = .ok (.getfield 12, 3) := by decide +kernel
theorem dX3_copyFrom_8 : decode cX3_copyFrom 8 = .ok (.invokevirtual 43, 3) := by decide +kernel
theorem dX3_copyFrom_11 : decode cX3_copyFrom 11 = .ok (.aload_n 0, 1) := by decide +kernel
theorem dX3_copyFrom_12 : decode cX3_copyFrom 12 = .ok (.getfield 21, 3) := by decide +kernel
theorem dX3_copyFrom_15 : decode cX3_copyFrom 15 = .ok (.aload_n 1, 1) := by decide +kernel
theorem dX3_copyFrom_16 : decode cX3_copyFrom 16 = .ok (.getfield 21, 3) := by decide +kernel
theorem dX3_copyFrom_19 : decode cX3_copyFrom 19 = .ok (.invokevirtual 47, 3) := by decide +kernel
theorem dX3_copyFrom_22 : decode cX3_copyFrom 22 = .ok (.aload_n 0, 1) := by decide +kernel
theorem dX3_copyFrom_23 : decode cX3_copyFrom 23 = .ok (.getfield 28, 3) := by decide +kernel
theorem dX3_copyFrom_26 : decode cX3_copyFrom 26 = .ok (.aload_n 1, 1) := by decide +kernel
theorem dX3_copyFrom_27 : decode cX3_copyFrom 27 = .ok (.getfield 28, 3) := by decide +kernel
theorem dX3_copyFrom_30 : decode cX3_copyFrom 30 = .ok (.invokevirtual 50, 3) := by decide +kernel
theorem dX3_copyFrom_33 : decode cX3_copyFrom 33 = .ok (.aload_n 1, 1) := by decide +kernel
theorem dX3_copyFrom_34 : decode cX3_copyFrom 34 = .ok (.getfield 32, 3) := by decide +kernel
theorem dX3_copyFrom_37 : decode cX3_copyFrom 37 = .ok (.iconst 0, 1) := by decide +kernel
theorem dX3_copyFrom_38 : decode cX3_copyFrom 38 = .ok (.aload_n 0, 1) := by decide +kernel
theorem dX3_copyFrom_39 : decode cX3_copyFrom 39 = .ok (.getfield 32, 3) := by decide +kernel
theorem dX3_copyFrom_42 : decode cX3_copyFrom 42 = .ok (.iconst 0, 1) := by decide +kernel
theorem dX3_copyFrom_43 : decode cX3_copyFrom 43 = .ok (.iconst 2, 1) := by decide +kernel
theorem dX3_copyFrom_44 : decode cX3_copyFrom 44 = .ok (.invokestatic 53, 3) := by decide +kernel
theorem dX3_copyFrom_47 : decode cX3_copyFrom 47 = .ok (.aload_n 0, 1) := by decide +kernel
theorem dX3_copyFrom_48 : decode cX3_copyFrom 48 = .ok (.aload_n 1, 1) := by decide +kernel
theorem dX3_copyFrom_49 : decode cX3_copyFrom 49 = .ok (.getfield 36, 3) := by decide +kernel
theorem dX3_copyFrom_52 : decode cX3_copyFrom 52 = .ok (.putfield 36, 3) := by decide +kernel
theorem dX3_copyFrom_55 : decode cX3_copyFrom 55 = .ok (.aload_n 0, 1) := by decide +kernel
theorem dX3_copyFrom_56 : decode cX3_copyFrom 56 = .ok (.aload_n 1, 1) := by decide +kernel
theorem dX3_copyFrom_57 : decode cX3_copyFrom 57 = .ok (.getfield 40, 3) := by decide +kernel
theorem dX3_copyFrom_60 : decode cX3_copyFrom 60 = .ok (.putfield 40, 3) := by decide +kernel
theorem dX3_copyFrom_63 : decode cX3_copyFrom 63 = .ok (.return_, 1) := by decide +kernel
theorem dX3_reasonToStop_0 : decode cX3_reasonToStop 0 = .ok (.aload_n 0, 1) := by decide +kernel
theorem dX3_reasonToStop_1 : decode cX3_reasonToStop 1 = .ok (.getfield 28, 3) := by decide +kernel
theorem dX3_reasonToStop_4 : decode cX3_reasonToStop 4 = .ok (.aload_n 0, 1) := by decide +kernel
theorem dX3_reasonToStop_5 : decode cX3_reasonToStop 5 = .ok (.getfield 28, 3) := by decide +kernel
theorem dX3_reasonToStop_8 : decode cX3_reasonToStop 8 = .ok (.getfield 59, 3) := by decide +kernel
theorem dX3_reasonToStop_11 : decode cX3_reasonToStop 11 = .ok (.invokevirtual 62, 3) := by decide +kernel
theorem dX3_reasonToStop_14 : decode cX3_reasonToStop 14 = .ok (.ifCond .ne 5, 3) := by decide +kernel
theorem dX3_reasonToStop_17 : decode cX3_reasonToStop 17 = .ok (.iconst 1, 1) := by decide +kernel
theorem dX3_reasonToStop_18 : decode cX3_reasonToStop 18 = .ok (.ireturn, 1) := by decide +kernel
theorem dX3_reasonToStop_19 : decode cX3_reasonToStop 19 = .ok (.aload_n 0, 1) := by decide +kernel
theorem dX3_reasonToStop_20 : decode cX3_reasonToStop 20 = .ok (.getfield 21, 3) := by decide +kernel
theorem dX3_reasonToStop_23 : decode cX3_reasonToStop 23 = .ok (.invokevirtual 66, 3) := by decide +kernel
theorem dX3_reasonToStop_26 : decode cX3_reasonToStop 26 = .ok (.bipush (-6), 2) := by decide +kernel
theorem dX3_reasonToStop_28 : decode cX3_reasonToStop 28 = .ok (.if_icmp .eq 5, 3) := by decide +kernel
theorem dX3_reasonToStop_31 : decode cX3_reasonToStop 31 = .ok (.iconst 2, 1) := by decide +kernel
theorem dX3_reasonToStop_32 : decode cX3_reasonToStop 32 = .ok (.ireturn, 1) := by decide +kernel
theorem dX3_reasonToStop_33 : decode cX3_reasonToStop 33 = .ok (.aload_n 0, 1) := by decide +kernel
theorem dX3_reasonToStop_34 : decode cX3_reasonToStop 34 = .ok (.invokevirtual 70, 3) := by decide +kernel
theorem dX3_reasonToStop_37 : decode cX3_reasonToStop 37 = .ok (.bipush (-6), 2) := by decide +kernel
theorem dX3_reasonToStop_39 : decode cX3_reasonToStop 39 = .ok (.if_icmp .eq 5, 3) := by decide +kernel
theorem dX3_reasonToStop_42 : decode cX3_reasonToStop 42 = .ok (.iconst 3, 1) := by decide +kernel
theorem dX3_reasonToStop_43 : decode cX3_reasonToStop 43 = .ok (.ireturn, 1) := by decide +kernel
theorem dX3_reasonToStop_44 : decode cX3_reasonToStop 44 = .ok (.aload_n 0, 1) := by decide +kernel
theorem dX3_reasonToStop_45 : decode cX3_reasonToStop 45 = .ok (.invokevirtual 73, 3) := by decide +kernel
theorem dX3_reasonToStop_48 : decode cX3_reasonToStop 48 = .ok (.ireturn, 1) := by decide +kernel
theorem dX3_reasonOfCardOrShuttle_0 : decode cX3_reasonOfCardOrShuttle 0 = .ok (.aload_n 0, 1) := by decide +kernel
theorem dX3_reasonOfCardOrShuttle_1 : decode cX3_reasonOfCardOrShuttle 1 = .ok (.getfield 28, 3) := by decide +kernel
theorem dX3_reasonOfCardOrShuttle_4 : decode cX3_reasonOfCardOrShuttle 4 = .ok (.aload_n 0, 1) := by decide +kernel
theorem dX3_reasonOfCardOrShuttle_5 : decode cX3_reasonOfCardOrShuttle 5 = .ok (.getfield 28, 3) := by decide +kernel
theorem dX3_reasonOfCardOrShuttle_8 : decode cX3_reasonOfCardOrShuttle 8 = .ok (.getfield 59, 3) := by decide +kernel
theorem dX3_reasonOfCardOrShuttle_11 : decode cX3_reasonOfCardOrShuttle 11 = .ok (.invokevirtual 62, 3) := by decide +kernel
theorem dX3_reasonOfCardOrShuttle_14 : decode cX3_reasonOfCardOrShuttle 14 = .ok (.ifCond .ne 5, 3) := by decide +kernel
theorem dX3_reasonOfCardOrShuttle_17 : decode cX3_reasonOfCardOrShuttle 17 = .ok (.iconst 1, 1) := by decide +kernel
theorem dX3_reasonOfCardOrShuttle_18 : decode cX3_reasonOfCardOrShuttle 18 = .ok (.ireturn, 1) := by decide +kernel
theorem dX3_reasonOfCardOrShuttle_19 : decode cX3_reasonOfCardOrShuttle 19 = .ok (.aload_n 0, 1) := by decide +kernel
theorem dX3_reasonOfCardOrShuttle_20 : decode cX3_reasonOfCardOrShuttle 20 = .ok (.iconst 0, 1) := by decide +kernel
theorem dX3_reasonOfCardOrShuttle_21 : decode cX3_reasonOfCardOrShuttle 21 = .ok (.invokevirtual 76, 3) := by decide +kernel
theorem dX3_reasonOfCardOrShuttle_24 : decode cX3_reasonOfCardOrShuttle 24 = .ok (.istore_n 1, 1) := by decide +kernel
theorem dX3_reasonOfCardOrShuttle_25 : decode cX3_reasonOfCardOrShuttle 25 = .ok (.aload_n 0, 1) := by decide +kernel
theorem dX3_reasonOfCardOrShuttle_26 : decode cX3_reasonOfCardOrShuttle 26 = .ok (.iconst 1, 1) := by decide +kernel
theorem dX3_reasonOfCardOrShuttle_27 : decode cX3_reasonOfCardOrShuttle 27 = .ok (.invokevirtual 76, 3) := by decide +kernel
theorem dX3_reasonOfCardOrShuttle_30 : decode cX3_reasonOfCardOrShuttle 30 = .ok (.istore_n 2, 1) := by decide +kernel
theorem dX3_reasonOfCardOrShuttle_31 : decode cX3_reasonOfCardOrShuttle 31 = .ok (.iload_n 1, 1) := by decide +kernel
theorem dX3_reasonOfCardOrShuttle_32 : decode cX3_reasonOfCardOrShuttle 32 = .ok (.bipush (-6), 2) := by decide +kernel
theorem dX3_reasonOfCardOrShuttle_34 : decode cX3_reasonOfCardOrShuttle 34 = .ok (.if_icmp .eq 11, 3) := by decide +kernel
theorem dX3_reasonOfCardOrShuttle_37 : decode cX3_reasonOfCardOrShuttle 37 = .ok (.iload_n 2, 1) := by decide +kernel
theorem dX3_reasonOfCardOrShuttle_38 : decode cX3_reasonOfCardOrShuttle 38 = .ok (.bipush (-6), 2) := by decide +kernel
theorem dX3_reasonOfCardOrShuttle_40 : decode cX3_reasonOfCardOrShuttle 40 = .ok (.if_icmp .eq 5, 3) := by decide +kernel
theorem dX3_reasonOfCardOrShuttle_43 : decode cX3_reasonOfCardOrShuttle 43 = .ok (.iconst 4, 1) := by decide +kernel
theorem dX3_reasonOfCardOrShuttle_44 : decode cX3_reasonOfCardOrShuttle 44 = .ok (.ireturn, 1) := by decide +kernel
theorem dX3_reasonOfCardOrShuttle_45 : decode cX3_reasonOfCardOrShuttle 45 = .ok (.iload_n 1, 1) := by decide +kernel
theorem dX3_reasonOfCardOrShuttle_46 : decode cX3_reasonOfCardOrShuttle 46 = .ok (.bipush (-6), 2) := by decide +kernel
theorem dX3_reasonOfCardOrShuttle_48 : decode cX3_reasonOfCardOrShuttle 48 = .ok (.if_icmp .ne 11, 3) := by decide +kernel
theorem dX3_reasonOfCardOrShuttle_51 : decode cX3_reasonOfCardOrShuttle 51 = .ok (.iload_n 2, 1) := by decide +kernel
theorem dX3_reasonOfCardOrShuttle_52 : decode cX3_reasonOfCardOrShuttle 52 = .ok (.bipush (-6), 2) := by decide +kernel
theorem dX3_reasonOfCardOrShuttle_54 : decode cX3_reasonOfCardOrShuttle 54 = .ok (.if_icmp .ne 5, 3) := by decide +kernel
theorem dX3_reasonOfCardOrShuttle_57 : decode cX3_reasonOfCardOrShuttle 57 = .ok (.iconst 5, 1) := by decide +kernel
theorem dX3_reasonOfCardOrShuttle_58 : decode cX3_reasonOfCardOrShuttle 58 = .ok (.ireturn, 1) := by decide +kernel
theorem dX3_reasonOfCardOrShuttle_59 : decode cX3_reasonOfCardOrShuttle 59 = .ok (.aload_n 0, 1) := by decide +kernel
theorem dX3_reasonOfCardOrShuttle_60 : decode cX3_reasonOfCardOrShuttle 60 = .ok (.getfield 12, 3) := by decide +kernel
theorem dX3_reasonOfCardOrShuttle_63 : decode cX3_reasonOfCardOrShuttle 63 = .ok (.iload_n 1, 1) := by decide +kernel
theorem dX3_reasonOfCardOrShuttle_64 : decode cX3_reasonOfCardOrShuttle 64 = .ok (.bipush (-6), 2) := by decide +kernel
theorem dX3_reasonOfCardOrShuttle_66 : decode cX3_reasonOfCardOrShuttle 66 = .ok (.if_icmp .eq 7, 3) := by decide +kernel
theorem dX3_reasonOfCardOrShuttle_69 : decode cX3_reasonOfCardOrShuttle 69 = .ok (.iload_n 1, 1) := by decide +kernel
theorem dX3_reasonOfCardOrShuttle_70 : decode cX3_reasonOfCardOrShuttle 70 = .ok (.goto 4, 3) := by decide +kernel
theorem dX3_reasonOfCardOrShuttle_73 : decode cX3_reasonOfCardOrShuttle 73 = .ok (.iload_n 2, 1) := by decide +kernel
theorem dX3_reasonOfCardOrShuttle_74 : decode cX3_reasonOfCardOrShuttle 74 = .ok (.invokevirtual 80, 3) := by decide +kernel
theorem dX3_reasonOfCardOrShuttle_77 : decode cX3_reasonOfCardOrShuttle 77 = .ok (.ifCond .eq 7, 3) := by decide +kernel
theorem dX3_reasonOfCardOrShuttle_80 : decode cX3_reasonOfCardOrShuttle 80 = .ok (.iconst 0, 1) := by decide +kernel
theorem dX3_reasonOfCardOrShuttle_81 : decode cX3_reasonOfCardOrShuttle 81 = .ok (.goto 5, 3) := by decide +kernel
theorem dX3_reasonOfCardOrShuttle_84 : decode cX3_reasonOfCardOrShuttle 84 = .ok (.bipush 6, 2) := by decide +kernel
theorem dX3_reasonOfCardOrShuttle_86 : decode cX3_reasonOfCardOrShuttle 86 = .ok (.ireturn, 1) := by decide +kernel
theorem dX3_numberTold_0 : decode cX3_numberTold 0 = .ok (.iload_n 1, 1) := by decide +kernel
theorem dX3_numberTold_1 : decode cX3_numberTold 1 = .ok (.tableswitch 59 2 6 #[35, 43, 48, 59, 54], 35) := by decide +kernel
theorem dX3_numberTold_36 : decode cX3_numberTold 36 = .ok (.aload_n 0, 1) := by decide +kernel
theorem dX3_numberTold_37 : decode cX3_numberTold 37 = .ok (.getfield 21, 3) := by decide +kernel
theorem dX3_numberTold_40 : decode cX3_numberTold 40 = .ok (.invokevirtual 66, 3) := by decide +kernel
theorem dX3_numberTold_43 : decode cX3_numberTold 43 = .ok (.ireturn, 1) := by decide +kernel
theorem dX3_numberTold_44 : decode cX3_numberTold 44 = .ok (.aload_n 0, 1) := by decide +kernel
theorem dX3_numberTold_45 : decode cX3_numberTold 45 = .ok (.invokevirtual 70, 3) := by decide +kernel
theorem dX3_numberTold_48 : decode cX3_numberTold 48 = .ok (.ireturn, 1) := by decide +kernel
theorem dX3_numberTold_49 : decode cX3_numberTold 49 = .ok (.aload_n 0, 1) := by decide +kernel
theorem dX3_numberTold_50 : decode cX3_numberTold 50 = .ok (.iconst 0, 1) := by decide +kernel
theorem dX3_numberTold_51 : decode cX3_numberTold 51 = .ok (.invokevirtual 76, 3) := by decide +kernel
theorem dX3_numberTold_54 : decode cX3_numberTold 54 = .ok (.ireturn, 1) := by decide +kernel
theorem dX3_numberTold_55 : decode cX3_numberTold 55 = .ok (.aload_n 0, 1) := by decide +kernel
theorem dX3_numberTold_56 : decode cX3_numberTold 56 = .ok (.invokevirtual 83, 3) := by decide +kernel
theorem dX3_numberTold_59 : decode cX3_numberTold 59 = .ok (.ireturn, 1) := by decide +kernel
theorem dX3_numberTold_60 : decode cX3_numberTold 60 = .ok (.bipush (-6), 2) := by decide +kernel
theorem dX3_numberTold_62 : decode cX3_numberTold 62 = .ok (.ireturn, 1) := by decide +kernel
theorem dX3_flyingShuttle_0 : decode cX3_flyingShuttle 0 = .ok (.aload_n 0, 1) := by decide +kernel
theorem dX3_flyingShuttle_1 : decode cX3_flyingShuttle 1 = .ok (.iconst 0, 1) := by decide +kernel
theorem dX3_flyingShuttle_2 : decode cX3_flyingShuttle 2 = .ok (.invokevirtual 76, 3) := by decide +kernel
theorem dX3_flyingShuttle_5 : decode cX3_flyingShuttle 5 = .ok (.istore_n 1, 1) := by decide +kernel
theorem dX3_flyingShuttle_6 : decode cX3_flyingShuttle 6 = .ok (.iload_n 1, 1) := by decide +kernel
theorem dX3_flyingShuttle_7 : decode cX3_flyingShuttle 7 = .ok (.bipush (-6), 2) := by decide +kernel
theorem dX3_flyingShuttle_9 : decode cX3_flyingShuttle 9 = .ok (.if_icmp .eq 7, 3) := by decide +kernel
theorem dX3_flyingShuttle_12 : decode cX3_flyingShuttle 12 = .ok (.iload_n 1, 1) := by decide +kernel
theorem dX3_flyingShuttle_13 : decode cX3_flyingShuttle 13 = .ok (.goto 8, 3) := by decide +kernel
theorem dX3_flyingShuttle_16 : decode cX3_flyingShuttle 16 = .ok (.aload_n 0, 1) := by decide +kernel
theorem dX3_flyingShuttle_17 : decode cX3_flyingShuttle 17 = .ok (.iconst 1, 1) := by decide +kernel
theorem dX3_flyingShuttle_18 : decode cX3_flyingShuttle 18 = .ok (.invokevirtual 76, 3) := by decide +kernel
theorem dX3_flyingShuttle_21 : decode cX3_flyingShuttle 21 = .ok (.ireturn, 1) := by decide +kernel
theorem dX3_frames_0 : decode cX3_frames 0 = .ok (.aload_n 0, 1) := by decide +kernel
theorem dX3_frames_1 : decode cX3_frames 1 = .ok (.getfield 28, 3) := by decide +kernel
theorem dX3_frames_4 : decode cX3_frames 4 = .ok (.aload_n 0, 1) := by decide +kernel
theorem dX3_frames_5 : decode cX3_frames 5 = .ok (.getfield 28, 3) := by decide +kernel
theorem dX3_frames_8 : decode cX3_frames 8 = .ok (.getfield 59, 3) := by decide +kernel
theorem dX3_frames_11 : decode cX3_frames 11 = .ok (.invokevirtual 86, 3) := by decide +kernel
theorem dX3_frames_14 : decode cX3_frames 14 = .ok (.ireturn, 1) := by decide +kernel
theorem dX3_makePick_0 : decode cX3_makePick 0 = .ok (.aload_n 0, 1) := by decide +kernel
theorem dX3_makePick_1 : decode cX3_makePick 1 = .ok (.invokevirtual 83, 3) := by decide +kernel
theorem dX3_makePick_4 : decode cX3_makePick 4 = .ok (.istore_n 1, 1) := by decide +kernel
theorem dX3_makePick_5 : decode cX3_makePick 5 = .ok (.aload_n 0, 1) := by decide +kernel
theorem dX3_makePick_6 : decode cX3_makePick 6 = .ok (.aload_n 0, 1) := by decide +kernel
theorem dX3_makePick_7 : decode cX3_makePick 7 = .ok (.getfield 28, 3) := by decide +kernel
theorem dX3_makePick_10 : decode cX3_makePick 10 = .ok (.aload_n 0, 1) := by decide +kernel
theorem dX3_makePick_11 : decode cX3_makePick 11 = .ok (.getfield 28, 3) := by decide +kernel
theorem dX3_makePick_14 : decode cX3_makePick 14 = .ok (.getfield 59, 3) := by decide +kernel
theorem dX3_makePick_17 : decode cX3_makePick 17 = .ok (.iconst 0, 1) := by decide +kernel
theorem dX3_makePick_18 : decode cX3_makePick 18 = .ok (.invokevirtual 89, 3) := by decide +kernel
theorem dX3_makePick_21 : decode cX3_makePick 21 = .ok (.aload_n 0, 1) := by decide +kernel
theorem dX3_makePick_22 : decode cX3_makePick 22 = .ok (.getfield 28, 3) := by decide +kernel
theorem dX3_makePick_25 : decode cX3_makePick 25 = .ok (.aload_n 0, 1) := by decide +kernel
theorem dX3_makePick_26 : decode cX3_makePick 26 = .ok (.getfield 28, 3) := by decide +kernel
theorem dX3_makePick_29 : decode cX3_makePick 29 = .ok (.getfield 59, 3) := by decide +kernel
theorem dX3_makePick_32 : decode cX3_makePick 32 = .ok (.iconst 1, 1) := by decide +kernel
theorem dX3_makePick_33 : decode cX3_makePick 33 = .ok (.invokevirtual 89, 3) := by decide +kernel
theorem dX3_makePick_36 : decode cX3_makePick 36 = .ok (.invokevirtual 93, 3) := by decide +kernel
theorem dX3_makePick_39 : decode cX3_makePick 39 = .ok (.aload_n 0, 1) := by decide +kernel
theorem dX3_makePick_40 : decode cX3_makePick 40 = .ok (.getfield 21, 3) := by decide +kernel
theorem dX3_makePick_43 : decode cX3_makePick 43 = .ok (.aload_n 0, 1) := by decide +kernel
theorem dX3_makePick_44 : decode cX3_makePick 44 = .ok (.getfield 40, 3) := by decide +kernel
theorem dX3_makePick_47 : decode cX3_makePick 47 = .ok (.aload_n 0, 1) := by decide +kernel
theorem dX3_makePick_48 : decode cX3_makePick 48 = .ok (.invokevirtual 97, 3) := by decide +kernel
theorem dX3_makePick_51 : decode cX3_makePick 51 = .ok (.ixor, 1) := by decide +kernel
theorem dX3_makePick_52 : decode cX3_makePick 52 = .ok (.invokevirtual 100, 3) := by decide +kernel
theorem dX3_makePick_55 : decode cX3_makePick 55 = .ok (.aload_n 0, 1) := by decide +kernel
theorem dX3_makePick_56 : decode cX3_makePick 56 = .ok (.aload_n 0, 1) := by decide +kernel
theorem dX3_makePick_57 : decode cX3_makePick 57 = .ok (.invokevirtual 97, 3) := by decide +kernel
theorem dX3_makePick_60 : decode cX3_makePick 60 = .ok (.putfield 40, 3) := by decide +kernel
theorem dX3_makePick_63 : decode cX3_makePick 63 = .ok (.aload_n 0, 1) := by decide +kernel
theorem dX3_makePick_64 : decode cX3_makePick 64 = .ok (.iload_n 1, 1) := by decide +kernel
theorem dX3_makePick_65 : decode cX3_makePick 65 = .ok (.iconst (-1), 1) := by decide +kernel
theorem dX3_makePick_66 : decode cX3_makePick 66 = .ok (.invokevirtual 104, 3) := by decide +kernel
theorem dX3_makePick_69 : decode cX3_makePick 69 = .ok (.aload_n 0, 1) := by decide +kernel
theorem dX3_makePick_70 : decode cX3_makePick 70 = .ok (.getfield 28, 3) := by decide +kernel
theorem dX3_makePick_73 : decode cX3_makePick 73 = .ok (.invokevirtual 107, 3) := by decide +kernel
theorem dX3_makePick_76 : decode cX3_makePick 76 = .ok (.return_, 1) := by decide +kernel
theorem dX3_fly_0 : decode cX3_fly 0 = .ok (.aload_n 0, 1) := by decide +kernel
theorem dX3_fly_1 : decode cX3_fly 1 = .ok (.getfield 12, 3) := by decide +kernel
theorem dX3_fly_4 : decode cX3_fly 4 = .ok (.iload_n 1, 1) := by decide +kernel
theorem dX3_fly_5 : decode cX3_fly 5 = .ok (.invokevirtual 110, 3) := by decide +kernel
theorem dX3_fly_8 : decode cX3_fly 8 = .ok (.ifCond .eq 7, 3) := by decide +kernel
theorem dX3_fly_11 : decode cX3_fly 11 = .ok (.iconst 1, 1) := by decide +kernel
theorem dX3_fly_12 : decode cX3_fly 12 = .ok (.goto 4, 3) := by decide +kernel
theorem dX3_fly_15 : decode cX3_fly 15 = .ok (.iconst 0, 1) := by decide +kernel
theorem dX3_fly_16 : decode cX3_fly 16 = .ok (.istore_n 3, 1) := by decide +kernel
theorem dX3_fly_17 : decode cX3_fly 17 = .ok (.aload_n 0, 1) := by decide +kernel
theorem dX3_fly_18 : decode cX3_fly 18 = .ok (.getfield 12, 3) := by decide +kernel
theorem dX3_fly_21 : decode cX3_fly 21 = .ok (.iload_n 1, 1) := by decide +kernel
theorem dX3_fly_22 : decode cX3_fly 22 = .ok (.iload_n 3, 1) := by decide +kernel
theorem dX3_fly_23 : decode cX3_fly 23 = .ok (.aload_n 0, 1) := by decide +kernel
theorem dX3_fly_24 : decode cX3_fly 24 = .ok (.getfield 32, 3) := by decide +kernel
theorem dX3_fly_27 : decode cX3_fly 27 = .ok (.iload_n 3, 1) := by decide +kernel
theorem dX3_fly_28 : decode cX3_fly 28 = .ok (.iaload, 1) := by decide +kernel
theorem dX3_fly_29 : decode cX3_fly 29 = .ok (.invokevirtual 113, 3) := by decide +kernel
theorem dX3_fly_32 : decode cX3_fly 32 = .ok (.aload_n 0, 1) := by decide +kernel
theorem dX3_fly_33 : decode cX3_fly 33 = .ok (.getfield 12, 3) := by decide +kernel
theorem dX3_fly_36 : decode cX3_fly 36 = .ok (.iload_n 1, 1) := by decide +kernel
theorem dX3_fly_37 : decode cX3_fly 37 = .ok (.iload_n 2, 1) := by decide +kernel
theorem dX3_fly_38 : decode cX3_fly 38 = .ok (.invokevirtual 116, 3) := by decide +kernel
theorem dX3_fly_41 : decode cX3_fly 41 = .ok (.return_, 1) := by decide +kernel
theorem dX3_moveRaces_0 : decode cX3_moveRaces 0 = .ok (.aload_n 0, 1) := by decide +kernel
theorem dX3_moveRaces_1 : decode cX3_moveRaces 1 = .ok (.getfield 32, 3) := by decide +kernel
theorem dX3_moveRaces_4 : decode cX3_moveRaces 4 = .ok (.iconst 0, 1) := by decide +kernel
theorem dX3_moveRaces_5 : decode cX3_moveRaces 5 = .ok (.iload_n 1, 1) := by decide +kernel
theorem dX3_moveRaces_6 : decode cX3_moveRaces 6 = .ok (.iastore, 1) := by decide +kernel
theorem dX3_moveRaces_7 : decode cX3_moveRaces 7 = .ok (.aload_n 0, 1) := by decide +kernel
theorem dX3_moveRaces_8 : decode cX3_moveRaces 8 = .ok (.getfield 32, 3) := by decide +kernel
theorem dX3_moveRaces_11 : decode cX3_moveRaces 11 = .ok (.iconst 1, 1) := by decide +kernel
theorem dX3_moveRaces_12 : decode cX3_moveRaces 12 = .ok (.iload_n 2, 1) := by decide +kernel
theorem dX3_moveRaces_13 : decode cX3_moveRaces 13 = .ok (.iastore, 1) := by decide +kernel
theorem dX3_moveRaces_14 : decode cX3_moveRaces 14 = .ok (.return_, 1) := by decide +kernel
theorem dX3_shuttleOn_0 : decode cX3_shuttleOn 0 = .ok (.aload_n 0, 1) := by decide +kernel
theorem dX3_shuttleOn_1 : decode cX3_shuttleOn 1 = .ok (.getfield 12, 3) := by decide +kernel
theorem dX3_shuttleOn_4 : decode cX3_shuttleOn 4 = .ok (.iload_n 1, 1) := by decide +kernel
theorem dX3_shuttleOn_5 : decode cX3_shuttleOn 5 = .ok (.aload_n 0, 1) := by decide +kernel
theorem dX3_shuttleOn_6 : decode cX3_shuttleOn 6 = .ok (.getfield 28, 3) := by decide +kernel
theorem dX3_shuttleOn_9 : decode cX3_shuttleOn 9 = .ok (.aload_n 0, 1) := by decide +kernel
theorem dX3_shuttleOn_10 : decode cX3_shuttleOn 10 = .ok (.getfield 28, 3) := by decide +kernel
theorem dX3_shuttleOn_13 : decode cX3_shuttleOn 13 = .ok (.getfield 59, 3) := by decide +kernel
theorem dX3_shuttleOn_16 : decode cX3_shuttleOn 16 = .ok (.iload_n 1, 1) := by decide +kernel
theorem dX3_shuttleOn_17 : decode cX3_shuttleOn 17 = .ok (.invokevirtual 89, 3) := by decide +kernel
theorem dX3_shuttleOn_20 : decode cX3_shuttleOn 20 = .ok (.invokevirtual 119, 3) := by decide +kernel
theorem dX3_shuttleOn_23 : decode cX3_shuttleOn 23 = .ok (.ireturn, 1) := by decide +kernel
theorem dX3_sideTooFar_0 : decode cX3_sideTooFar 0 = .ok (.iconst 0, 1) := by decide +kernel
theorem dX3_sideTooFar_1 : decode cX3_sideTooFar 1 = .ok (.istore_n 1, 1) := by decide +kernel
theorem dX3_sideTooFar_2 : decode cX3_sideTooFar 2 = .ok (.iload_n 1, 1) := by decide +kernel
theorem dX3_sideTooFar_3 : decode cX3_sideTooFar 3 = .ok (.iconst 2, 1) := by decide +kernel
theorem dX3_sideTooFar_4 : decode cX3_sideTooFar 4 = .ok (.if_icmp .ge 47, 3) := by decide +kernel
theorem dX3_sideTooFar_7 : decode cX3_sideTooFar 7 = .ok (.aload_n 0, 1) := by decide +kernel
theorem dX3_sideTooFar_8 : decode cX3_sideTooFar 8 = .ok (.getfield 32, 3) := by decide +kernel
theorem dX3_sideTooFar_11 : decode cX3_sideTooFar 11 = .ok (.iload_n 1, 1) := by decide +kernel
theorem dX3_sideTooFar_12 : decode cX3_sideTooFar 12 = .ok (.iaload, 1) := by decide +kernel
theorem dX3_sideTooFar_13 : decode cX3_sideTooFar 13 = .ok (.aload_n 0, 1) := by decide +kernel
theorem dX3_sideTooFar_14 : decode cX3_sideTooFar 14 = .ok (.getfield 28, 3) := by decide +kernel
theorem dX3_sideTooFar_17 : decode cX3_sideTooFar 17 = .ok (.aload_n 0, 1) := by decide +kernel
theorem dX3_sideTooFar_18 : decode cX3_sideTooFar 18 = .ok (.getfield 28, 3) := by decide +kernel
theorem dX3_sideTooFar_21 : decode cX3_sideTooFar 21 = .ok (.getfield 59, 3) := by decide +kernel
theorem dX3_sideTooFar_24 : decode cX3_sideTooFar 24 = .ok (.iload_n 1, 1) := by decide +kernel
theorem dX3_sideTooFar_25 : decode cX3_sideTooFar 25 = .ok (.invokevirtual 89, 3) := by decide +kernel
theorem dX3_sideTooFar_28 : decode cX3_sideTooFar 28 = .ok (.isub, 1) := by decide +kernel
theorem dX3_sideTooFar_29 : decode cX3_sideTooFar 29 = .ok (.invokestatic 122, 3) := by decide +kernel
theorem dX3_sideTooFar_32 : decode cX3_sideTooFar 32 = .ok (.istore_n 2, 1) := by decide +kernel
theorem dX3_sideTooFar_33 : decode cX3_sideTooFar 33 = .ok (.iload_n 2, 1) := by decide +kernel
theorem dX3_sideTooFar_34 : decode cX3_sideTooFar 34 = .ok (.iconst 4, 1) := by decide +kernel
theorem dX3_sideTooFar_35 : decode cX3_sideTooFar 35 = .ok (.aload_n 0, 1) := by decide +kernel
theorem dX3_sideTooFar_36 : decode cX3_sideTooFar 36 = .ok (.getfield 36, 3) := by decide +kernel
theorem dX3_sideTooFar_39 : decode cX3_sideTooFar 39 = .ok (.isub, 1) := by decide +kernel
theorem dX3_sideTooFar_40 : decode cX3_sideTooFar 40 = .ok (.if_icmp .le 5, 3) := by decide +kernel
theorem dX3_sideTooFar_43 : decode cX3_sideTooFar 43 = .ok (.iload_n 1, 1) := by decide +kernel
theorem dX3_sideTooFar_44 : decode cX3_sideTooFar 44 = .ok (.ireturn, 1) := by decide +kernel
theorem dX3_sideTooFar_45 : decode cX3_sideTooFar 45 = .ok (.iinc 1 1, 3) := by decide +kernel
theorem dX3_sideTooFar_48 : decode cX3_sideTooFar 48 = .ok (.goto (-46), 3) := by decide +kernel
theorem dX3_sideTooFar_51 : decode cX3_sideTooFar 51 = .ok (.bipush (-6), 2) := by decide +kernel
theorem dX3_sideTooFar_53 : decode cX3_sideTooFar 53 = .ok (.ireturn, 1) := by decide +kernel
