theorem dX0_init_0 : decode cX0_init 0 = .ok (.aload_n 0, 1) := by decide +kernel
theorem dX0_init_1 : decode cX0_init 1 = .ok (.invokespecial 3, 3) := by decide +kernel
theorem dX0_init_4 : decode cX0_init 4 = .ok (.aload_n 0, 1) := by decide +kernel
theorem dX0_init_5 : decode cX0_init 5 = .ok (.iconst 0, 1) := by decide +kernel
theorem dX0_init_6 : decode cX0_init 6 = .ok (.putfield 9, 3) := by decide +kernel
theorem dX0_init_9 : decode cX0_init 9 = .ok (.aload_n 0, 1) := by decide +kernel
theorem dX0_init_10 : decode cX0_init 10 = .ok (.iconst 0, 1) := by decide +kernel
theorem dX0_init_11 : decode cX0_init 11 = .ok (.putfield 15, 3) := by decide +kernel
theorem dX0_init_14 : decode cX0_init 14 = .ok (.aload_n 0, 1) := by decide +kernel
theorem dX0_init_15 : decode cX0_init 15 = .ok (.iconst 0, 1) := by decide +kernel
theorem dX0_init_16 : decode cX0_init 16 = .ok (.putfield 18, 3) := by decide +kernel
theorem dX0_init_19 : decode cX0_init 19 = .ok (.aload_n 0, 1) := by decide +kernel
theorem dX0_init_20 : decode cX0_init 20 = .ok (.iconst 0, 1) := by decide +kernel
theorem dX0_init_21 : decode cX0_init 21 = .ok (.putfield 21, 3) := by decide +kernel
theorem dX0_init_24 : decode cX0_init 24 = .ok (.aload_n 0, 1) := by decide +kernel
theorem dX0_init_25 : decode cX0_init 25 = .ok (.iconst 0, 1) := by decide +kernel
theorem dX0_init_26 : decode cX0_init 26 = .ok (.putfield 24, 3) := by decide +kernel
theorem dX0_init_29 : decode cX0_init 29 = .ok (.return_, 1) := by decide +kernel
theorem dX0_start_0 : decode cX0_start 0 = .ok (.aload_n 0, 1) := by decide +kernel
theorem dX0_start_1 : decode cX0_start 1 = .ok (.iconst 0, 1) := by decide +kernel
theorem dX0_start_2 : decode cX0_start 2 = .ok (.putfield 21, 3) := by decide +kernel
theorem dX0_start_5 : decode cX0_start 5 = .ok (.aload_n 0, 1) := by decide +kernel
theorem dX0_start_6 : decode cX0_start 6 = .ok (.iconst 0, 1) := by decide +kernel
theorem dX0_start_7 : decode cX0_start 7 = .ok (.putfield 9, 3) := by decide +kernel
theorem dX0_start_10 : decode cX0_start 10 = .ok (.aload_n 0, 1) := by decide +kernel
theorem dX0_start_11 : decode cX0_start 11 = .ok (.iconst 0, 1) := by decide +kernel
theorem dX0_start_12 : decode cX0_start 12 = .ok (.putfield 24, 3) := by decide +kernel
theorem dX0_start_15 : decode cX0_start 15 = .ok (.return_, 1) := by decide +kernel
theorem dX0_isBehindCard_0 : decode cX0_isBehindCard 0 = .ok (.aload_n 0, 1) := by decide +kernel
theorem dX0_isBehindCard_1 : decode cX0_isBehindCard 1 = .ok (.getfield 21, 3) := by decide +kernel
theorem dX0_isBehindCard_4 : decode cX0_isBehindCard 4 = .ok (.iconst 4, 1) := by decide +kernel
theorem dX0_isBehindCard_5 : decode cX0_isBehindCard 5 = .ok (.if_icmp .ne 7, 3) := by decide +kernel
theorem dX0_isBehindCard_8 : decode cX0_isBehindCard 8 = .ok (.iconst 1, 1) := by decide +kernel
theorem dX0_isBehindCard_9 : decode cX0_isBehindCard 9 = .ok (.goto 4, 3) := by decide +kernel
theorem dX0_isBehindCard_12 : decode cX0_isBehindCard 12 = .ok (.iconst 0, 1) := by decide +kernel
theorem dX0_isBehindCard_13 : decode cX0_isBehindCard 13 = .ok (.ireturn, 1) := by decide +kernel
theorem dX0_accepts_0 : decode cX0_accepts 0 = .ok (.aload_n 0, 1) := by decide +kernel
theorem dX0_accepts_1 : decode cX0_accepts 1 = .ok (.getfield 21, 3) := by decide +kernel
theorem dX0_accepts_4 : decode cX0_accepts 4 = .ok (.tableswitch 93 0 3 #[32, 55, 64, 84], 32) := by decide +kernel
theorem dX0_accepts_36 : decode cX0_accepts 36 = .ok (.iload_n 1, 1) := by decide +kernel
theorem dX0_accepts_37 : decode cX0_accepts 37 = .ok (.bipush 76, 2) := by decide +kernel
theorem dX0_accepts_39 : decode cX0_accepts 39 = .ok (.if_icmp .ne 11, 3) := by decide +kernel
theorem dX0_accepts_42 : decode cX0_accepts 42 = .ok (.aload_n 0, 1) := by decide +kernel
theorem dX0_accepts_43 : decode cX0_accepts 43 = .ok (.iconst 1, 1) := by decide +kernel
theorem dX0_accepts_44 : decode cX0_accepts 44 = .ok (.invokevirtual 27, 3) := by decide +kernel
theorem dX0_accepts_47 : decode cX0_accepts 47 = .ok (.goto 11, 3) := by decide +kernel
theorem dX0_accepts_50 : decode cX0_accepts 50 = .ok (.aload_n 0, 1) := by decide +kernel
theorem dX0_accepts_51 : decode cX0_accepts 51 = .ok (.iload_n 1, 1) := by decide +kernel
theorem dX0_accepts_52 : decode cX0_accepts 52 = .ok (.bipush 48, 2) := by decide +kernel
theorem dX0_accepts_54 : decode cX0_accepts 54 = .ok (.isub, 1) := by decide +kernel
theorem dX0_accepts_55 : decode cX0_accepts 55 = .ok (.invokevirtual 31, 3) := by decide +kernel
theorem dX0_accepts_58 : decode cX0_accepts 58 = .ok (.ireturn, 1) := by decide +kernel
theorem dX0_accepts_59 : decode cX0_accepts 59 = .ok (.aload_n 0, 1) := by decide +kernel
theorem dX0_accepts_60 : decode cX0_accepts 60 = .ok (.iload_n 1, 1) := by decide +kernel
theorem dX0_accepts_61 : decode cX0_accepts 61 = .ok (.bipush 48, 2) := by decide +kernel
theorem dX0_accepts_63 : decode cX0_accepts 63 = .ok (.isub, 1) := by decide +kernel
theorem dX0_accepts_64 : decode cX0_accepts 64 = .ok (.invokevirtual 34, 3) := by decide +kernel
theorem dX0_accepts_67 : decode cX0_accepts 67 = .ok (.ireturn, 1) := by decide +kernel
theorem dX0_accepts_68 : decode cX0_accepts 68 = .ok (.iload_n 1, 1) := by decide +kernel
theorem dX0_accepts_69 : decode cX0_accepts 69 = .ok (.bipush 82, 2) := by decide +kernel
theorem dX0_accepts_71 : decode cX0_accepts 71 = .ok (.if_icmp .ne 15, 3) := by decide +kernel
theorem dX0_accepts_74 : decode cX0_accepts 74 = .ok (.aload_n 0, 1) := by decide +kernel
theorem dX0_accepts_75 : decode cX0_accepts 75 = .ok (.iconst 3, 1) := by decide +kernel
theorem dX0_accepts_76 : decode cX0_accepts 76 = .ok (.invokevirtual 27, 3) := by decide +kernel
theorem dX0_accepts_79 : decode cX0_accepts 79 = .ok (.ifCond .eq 7, 3) := by decide +kernel
theorem dX0_accepts_82 : decode cX0_accepts 82 = .ok (.iconst 1, 1) := by decide +kernel
theorem dX0_accepts_83 : decode cX0_accepts 83 = .ok (.goto 4, 3) := by decide +kernel
theorem dX0_accepts_86 : decode cX0_accepts 86 = .ok (.iconst 0, 1) := by decide +kernel
theorem dX0_accepts_87 : decode cX0_accepts 87 = .ok (.ireturn, 1) := by decide +kernel
theorem dX0_accepts_88 : decode cX0_accepts 88 = .ok (.aload_n 0, 1) := by decide +kernel
theorem dX0_accepts_89 : decode cX0_accepts 89 = .ok (.iload_n 1, 1) := by decide +kernel
theorem dX0_accepts_90 : decode cX0_accepts 90 = .ok (.bipush 48, 2) := by decide +kernel
theorem dX0_accepts_92 : decode cX0_accepts 92 = .ok (.isub, 1) := by decide +kernel
theorem dX0_accepts_93 : decode cX0_accepts 93 = .ok (.invokevirtual 37, 3) := by decide +kernel
theorem dX0_accepts_96 : decode cX0_accepts 96 = .ok (.ireturn, 1) := by decide +kernel
theorem dX0_accepts_97 : decode cX0_accepts 97 = .ok (.iload_n 1, 1) := by decide +kernel
theorem dX0_accepts_98 : decode cX0_accepts 98 = .ok (.bipush 59, 2) := by decide +kernel
theorem dX0_accepts_100 : decode cX0_accepts 100 = .ok (.if_icmp .ne 14, 3) := by decide +kernel
theorem dX0_accepts_103 : decode cX0_accepts 103 = .ok (.aload_n 0, 1) := by decide +kernel
theorem dX0_accepts_104 : decode cX0_accepts 104 = .ok (.invokevirtual 40, 3) := by decide +kernel
theorem dX0_accepts_107 : decode cX0_accepts 107 = .ok (.ifCond .eq 7, 3) := by decide +kernel
theorem dX0_accepts_110 : decode cX0_accepts 110 = .ok (.iconst 1, 1) := by decide +kernel
theorem dX0_accepts_111 : decode cX0_accepts 111 = .ok (.goto 4, 3) := by decide +kernel
theorem dX0_accepts_114 : decode cX0_accepts 114 = .ok (.iconst 0, 1) := by decide +kernel
theorem dX0_accepts_115 : decode cX0_accepts 115 = .ok (.ireturn, 1) := by decide +kernel
theorem dX0_acceptsFrame_0 : decode cX0_acceptsFrame 0 = .ok (.iload_n 1, 1) := by decide +kernel
theorem dX0_acceptsFrame_1 : decode cX0_acceptsFrame 1 = .ok (.aload_n 0, 1) := by decide +kernel
theorem dX0_acceptsFrame_2 : decode cX0_acceptsFrame 2 = .ok (.getfield 24, 3) := by decide +kernel
theorem dX0_acceptsFrame_5 : decode cX0_acceptsFrame 5 = .ok (.iconst 5, 1) := by decide +kernel
theorem dX0_acceptsFrame_6 : decode cX0_acceptsFrame 6 = .ok (.invokestatic 44, 3) := by decide +kernel
theorem dX0_acceptsFrame_9 : decode cX0_acceptsFrame 9 = .ok (.ifCond .ne 5, 3) := by decide +kernel
theorem dX0_acceptsFrame_12 : decode cX0_acceptsFrame 12 = .ok (.iconst 0, 1) := by decide +kernel
theorem dX0_acceptsFrame_13 : decode cX0_acceptsFrame 13 = .ok (.ireturn, 1) := by decide +kernel
theorem dX0_acceptsFrame_14 : decode cX0_acceptsFrame 14 = .ok (.aload_n 0, 1) := by decide +kernel
theorem dX0_acceptsFrame_15 : decode cX0_acceptsFrame 15 = .ok (.dup, 1) := by decide +kernel
theorem dX0_acceptsFrame_16 : decode cX0_acceptsFrame 16 = .ok (.getfield 9, 3) := by decide +kernel
theorem dX0_acceptsFrame_19 : decode cX0_acceptsFrame 19 = .ok (.iconst 1, 1) := by decide +kernel
theorem dX0_acceptsFrame_20 : decode cX0_acceptsFrame 20 = .ok (.iload_n 1, 1) := by decide +kernel
theorem dX0_acceptsFrame_21 : decode cX0_acceptsFrame 21 = .ok (.ishl, 1) := by decide +kernel
theorem dX0_acceptsFrame_22 : decode cX0_acceptsFrame 22 = .ok (.ior, 1) := by decide +kernel
theorem dX0_acceptsFrame_23 : decode cX0_acceptsFrame 23 = .ok (.putfield 9, 3) := by decide +kernel
theorem dX0_acceptsFrame_26 : decode cX0_acceptsFrame 26 = .ok (.aload_n 0, 1) := by decide +kernel
theorem dX0_acceptsFrame_27 : decode cX0_acceptsFrame 27 = .ok (.iload_n 1, 1) := by decide +kernel
theorem dX0_acceptsFrame_28 : decode cX0_acceptsFrame 28 = .ok (.iconst 1, 1) := by decide +kernel
theorem dX0_acceptsFrame_29 : decode cX0_acceptsFrame 29 = .ok (.iadd, 1) := by decide +kernel
theorem dX0_acceptsFrame_30 : decode cX0_acceptsFrame 30 = .ok (.putfield 24, 3) := by decide +kernel
theorem dX0_acceptsFrame_33 : decode cX0_acceptsFrame 33 = .ok (.iconst 1, 1) := by decide +kernel
theorem dX0_acceptsFrame_34 : decode cX0_acceptsFrame 34 = .ok (.ireturn, 1) := by decide +kernel
theorem dX0_acceptsLeft_0 : decode cX0_acceptsLeft 0 = .ok (.aload_n 0, 1) := by decide +kernel
theorem dX0_acceptsLeft_1 : decode cX0_acceptsLeft 1 = .ok (.iload_n 1, 1) := by decide +kernel
theorem dX0_acceptsLeft_2 : decode cX0_acceptsLeft 2 = .ok (.putfield 15, 3) := by decide +kernel
theorem dX0_acceptsLeft_5 : decode cX0_acceptsLeft 5 = .ok (.iconst 0, 1) := by decide +kernel
theorem dX0_acceptsLeft_6 : decode cX0_acceptsLeft 6 = .ok (.iload_n 1, 1) := by decide +kernel
theorem dX0_acceptsLeft_7 : decode cX0_acceptsLeft 7 = .ok (.invokestatic 48, 3) := by decide +kernel
theorem dX0_acceptsLeft_10 : decode cX0_acceptsLeft 10 = .ok (.ifCond .eq 15, 3) := by decide +kernel
theorem dX0_acceptsLeft_13 : decode cX0_acceptsLeft 13 = .ok (.aload_n 0, 1) := by decide +kernel
theorem dX0_acceptsLeft_14 : decode cX0_acceptsLeft 14 = .ok (.iconst 2, 1) := by decide +kernel
theorem dX0_acceptsLeft_15 : decode cX0_acceptsLeft 15 = .ok (.invokevirtual 27, 3) := by decide +kernel
theorem dX0_acceptsLeft_18 : decode cX0_acceptsLeft 18 = .ok (.ifCond .eq 7, 3) := by decide +kernel
theorem dX0_acceptsLeft_21 : decode cX0_acceptsLeft 21 = .ok (.iconst 1, 1) := by decide +kernel
theorem dX0_acceptsLeft_22 : decode cX0_acceptsLeft 22 = .ok (.goto 4, 3) := by decide +kernel
theorem dX0_acceptsLeft_25 : decode cX0_acceptsLeft 25 = .ok (.iconst 0, 1) := by decide +kernel
theorem dX0_acceptsLeft_26 : decode cX0_acceptsLeft 26 = .ok (.ireturn, 1) := by decide +kernel
theorem dX0_acceptsRight_0 : decode cX0_acceptsRight 0 = .ok (.aload_n 0, 1) := by decide +kernel
theorem dX0_acceptsRight_1 : decode cX0_acceptsRight 1 = .ok (.iload_n 1, 1) := by decide +kernel
theorem dX0_acceptsRight_2 : decode cX0_acceptsRight 2 = .ok (.putfield 18, 3) := by decide +kernel
theorem dX0_acceptsRight_5 : decode cX0_acceptsRight 5 = .ok (.iconst 1, 1) := by decide +kernel
theorem dX0_acceptsRight_6 : decode cX0_acceptsRight 6 = .ok (.iload_n 1, 1) := by decide +kernel
theorem dX0_acceptsRight_7 : decode cX0_acceptsRight 7 = .ok (.invokestatic 48, 3) := by decide +kernel
theorem dX0_acceptsRight_10 : decode cX0_acceptsRight 10 = .ok (.ifCond .eq 15, 3) := by decide +kernel
theorem dX0_acceptsRight_13 : decode cX0_acceptsRight 13 = .ok (.aload_n 0, 1) := by decide +kernel
theorem dX0_acceptsRight_14 : decode cX0_acceptsRight 14 = .ok (.iconst 4, 1) := by decide +kernel
theorem dX0_acceptsRight_15 : decode cX0_acceptsRight 15 = .ok (.invokevirtual 27, 3) := by decide +kernel
theorem dX0_acceptsRight_18 : decode cX0_acceptsRight 18 = .ok (.ifCond .eq 7, 3) := by decide +kernel
theorem dX0_acceptsRight_21 : decode cX0_acceptsRight 21 = .ok (.iconst 1, 1) := by decide +kernel
theorem dX0_acceptsRight_22 : decode cX0_acceptsRight 22 = .ok (.goto 4, 3) := by decide +kernel
theorem dX0_acceptsRight_25 : decode cX0_acceptsRight 25 = .ok (.iconst 0, 1) := by decide +kernel
theorem dX0_acceptsRight_26 : decode cX0_acceptsRight 26 = .ok (.ireturn, 1) := by decide +kernel
theorem dX0_startNext_0 : decode cX0_startNext 0 = .ok (.aload_n 0, 1) := by decide +kernel
theorem dX0_startNext_1 : decode cX0_startNext 1 = .ok (.invokevirtual 52, 3) := by decide +kernel
theorem dX0_startNext_4 : decode cX0_startNext 4 = .ok (.iconst 1, 1) := by decide +kernel
theorem dX0_startNext_5 : decode cX0_startNext 5 = .ok (.ireturn, 1) := by decide +kernel
theorem dX0_goTo_0 : decode cX0_goTo 0 = .ok (.aload_n 0, 1) := by decide +kernel
theorem dX0_goTo_1 : decode cX0_goTo 1 = .ok (.iload_n 1, 1) := by decide +kernel
theorem dX0_goTo_2 : decode cX0_goTo 2 = .ok (.putfield 21, 3) := by decide +kernel
theorem dX0_goTo_5 : decode cX0_goTo 5 = .ok (.iconst 1, 1) := by decide +kernel
theorem dX0_goTo_6 : decode cX0_goTo 6 = .ok (.ireturn, 1) := by decide +kernel
