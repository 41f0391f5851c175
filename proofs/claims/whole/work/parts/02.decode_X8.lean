theorem dX8_init_0 : decode cX8_init 0 = .ok (.aload_n 0, 1) := by decide +kernel
theorem dX8_init_1 : decode cX8_init 1 = .ok (.invokespecial 1, 3) := by decide +kernel
theorem dX8_init_4 : decode cX8_init 4 = .ok (.aload_n 0, 1) := by decide +kernel
theorem dX8_init_5 : decode cX8_init 5 = .ok (.sipush 284, 3) := by decide +kernel
theorem dX8_init_8 : decode cX8_init 8 = .ok (.newarray .int, 2) := by decide +kernel
theorem dX8_init_10 : decode cX8_init 10 = .ok (.putfield 7, 3) := by decide +kernel
theorem dX8_init_13 : decode cX8_init 13 = .ok (.aload_n 0, 1) := by decide +kernel
theorem dX8_init_14 : decode cX8_init 14 = .ok (.sipush 284, 3) := by decide +kernel
theorem dX8_init_17 : decode cX8_init 17 = .ok (.newarray .int, 2) := by decide +kernel
theorem dX8_init_19 : decode cX8_init 19 = .ok (.putfield 13, 3) := by decide +kernel
theorem dX8_init_22 : decode cX8_init 22 = .ok (.aload_n 0, 1) := by decide +kernel
theorem dX8_init_23 : decode cX8_init 23 = .ok (.sipush 1704, 3) := by decide +kernel
theorem dX8_init_26 : decode cX8_init 26 = .ok (.newarray .int, 2) := by decide +kernel
theorem dX8_init_28 : decode cX8_init 28 = .ok (.putfield 16, 3) := by decide +kernel
theorem dX8_init_31 : decode cX8_init 31 = .ok (.aload_n 0, 1) := by decide +kernel
theorem dX8_init_32 : decode cX8_init 32 = .ok (.bipush 80, 2) := by decide +kernel
theorem dX8_init_34 : decode cX8_init 34 = .ok (.newarray .int, 2) := by decide +kernel
theorem dX8_init_36 : decode cX8_init 36 = .ok (.putfield 19, 3) := by decide +kernel
theorem dX8_init_39 : decode cX8_init 39 = .ok (.aload_n 0, 1) := by decide +kernel
theorem dX8_init_40 : decode cX8_init 40 = .ok (.getfield 7, 3) := by decide +kernel
theorem dX8_init_43 : decode cX8_init 43 = .ok (.iconst 2, 1) := by decide +kernel
theorem dX8_init_44 : decode cX8_init 44 = .ok (.iconst 1, 1) := by decide +kernel
theorem dX8_init_45 : decode cX8_init 45 = .ok (.iastore, 1) := by decide +kernel
theorem dX8_init_46 : decode cX8_init 46 = .ok (.aload_n 0, 1) := by decide +kernel
theorem dX8_init_47 : decode cX8_init 47 = .ok (.getfield 7, 3) := by decide +kernel
theorem dX8_init_50 : decode cX8_init 50 = .ok (.bipush 10, 2) := by decide +kernel
theorem dX8_init_52 : decode cX8_init 52 = .ok (.bipush (-6), 2) := by decide +kernel
theorem dX8_init_54 : decode cX8_init 54 = .ok (.iastore, 1) := by decide +kernel
theorem dX8_init_55 : decode cX8_init 55 = .ok (.iconst 0, 1) := by decide +kernel
theorem dX8_init_56 : decode cX8_init 56 = .ok (.istore_n 1, 1) := by decide +kernel
theorem dX8_init_57 : decode cX8_init 57 = .ok (.iload_n 1, 1) := by decide +kernel
theorem dX8_init_58 : decode cX8_init 58 = .ok (.iconst 5, 1) := by decide +kernel
theorem dX8_init_59 : decode cX8_init 59 = .ok (.if_icmp .ge 40, 3) := by decide +kernel
theorem dX8_init_62 : decode cX8_init 62 = .ok (.aload_n 0, 1) := by decide +kernel
theorem dX8_init_63 : decode cX8_init 63 = .ok (.iload_n 1, 1) := by decide +kernel
theorem dX8_init_64 : decode cX8_init 64 = .ok (.iconst 0, 1) := by decide +kernel
theorem dX8_init_65 : decode cX8_init 65 = .ok (.iload_n 1, 1) := by decide +kernel
theorem dX8_init_66 : decode cX8_init 66 = .ok (.invokevirtual 22, 3) := by decide +kernel
theorem dX8_init_69 : decode cX8_init 69 = .ok (.aload_n 0, 1) := by decide +kernel
theorem dX8_init_70 : decode cX8_init 70 = .ok (.iload_n 1, 1) := by decide +kernel
theorem dX8_init_71 : decode cX8_init 71 = .ok (.iconst 1, 1) := by decide +kernel
theorem dX8_init_72 : decode cX8_init 72 = .ok (.bipush 20, 2) := by decide +kernel
theorem dX8_init_74 : decode cX8_init 74 = .ok (.invokevirtual 22, 3) := by decide +kernel
theorem dX8_init_77 : decode cX8_init 77 = .ok (.aload_n 0, 1) := by decide +kernel
theorem dX8_init_78 : decode cX8_init 78 = .ok (.iload_n 1, 1) := by decide +kernel
theorem dX8_init_79 : decode cX8_init 79 = .ok (.iconst 2, 1) := by decide +kernel
theorem dX8_init_80 : decode cX8_init 80 = .ok (.bipush (-6), 2) := by decide +kernel
theorem dX8_init_82 : decode cX8_init 82 = .ok (.invokevirtual 22, 3) := by decide +kernel
theorem dX8_init_85 : decode cX8_init 85 = .ok (.aload_n 0, 1) := by decide +kernel
theorem dX8_init_86 : decode cX8_init 86 = .ok (.iload_n 1, 1) := by decide +kernel
theorem dX8_init_87 : decode cX8_init 87 = .ok (.iconst 3, 1) := by decide +kernel
theorem dX8_init_88 : decode cX8_init 88 = .ok (.bipush (-6), 2) := by decide +kernel
theorem dX8_init_90 : decode cX8_init 90 = .ok (.invokevirtual 22, 3) := by decide +kernel
theorem dX8_init_93 : decode cX8_init 93 = .ok (.iinc 1 1, 3) := by decide +kernel
theorem dX8_init_96 : decode cX8_init 96 = .ok (.goto (-39), 3) := by decide +kernel
theorem dX8_init_99 : decode cX8_init 99 = .ok (.iconst 0, 1) := by decide +kernel
theorem dX8_init_100 : decode cX8_init 100 = .ok (.istore_n 1, 1) := by decide +kernel
theorem dX8_init_101 : decode cX8_init 101 = .ok (.iload_n 1, 1) := by decide +kernel
theorem dX8_init_102 : decode cX8_init 102 = .ok (.bipush 12, 2) := by decide +kernel
theorem dX8_init_104 : decode cX8_init 104 = .ok (.if_icmp .ge 27, 3) := by decide +kernel
theorem dX8_init_107 : decode cX8_init 107 = .ok (.aload_n 0, 1) := by decide +kernel
theorem dX8_init_108 : decode cX8_init 108 = .ok (.iload_n 1, 1) := by decide +kernel
theorem dX8_init_109 : decode cX8_init 109 = .ok (.iconst 0, 1) := by decide +kernel
theorem dX8_init_110 : decode cX8_init 110 = .ok (.iload_n 1, 1) := by decide +kernel
theorem dX8_init_111 : decode cX8_init 111 = .ok (.bipush 6, 2) := by decide +kernel
theorem dX8_init_113 : decode cX8_init 113 = .ok (.irem, 1) := by decide +kernel
theorem dX8_init_114 : decode cX8_init 114 = .ok (.invokevirtual 26, 3) := by decide +kernel
theorem dX8_init_117 : decode cX8_init 117 = .ok (.aload_n 0, 1) := by decide +kernel
theorem dX8_init_118 : decode cX8_init 118 = .ok (.iload_n 1, 1) := by decide +kernel
theorem dX8_init_119 : decode cX8_init 119 = .ok (.iconst 1, 1) := by decide +kernel
theorem dX8_init_120 : decode cX8_init 120 = .ok (.bipush 60, 2) := by decide +kernel
theorem dX8_init_122 : decode cX8_init 122 = .ok (.invokevirtual 26, 3) := by decide +kernel
theorem dX8_init_125 : decode cX8_init 125 = .ok (.iinc 1 1, 3) := by decide +kernel
theorem dX8_init_128 : decode cX8_init 128 = .ok (.goto (-27), 3) := by decide +kernel
theorem dX8_init_131 : decode cX8_init 131 = .ok (.return_, 1) := by decide +kernel
theorem dX8_within_0 : decode cX8_within 0 = .ok (.iload_n 0, 1) := by decide +kernel
theorem dX8_within_1 : decode cX8_within 1 = .ok (.iload_n 1, 1) := by decide +kernel
theorem dX8_within_2 : decode cX8_within 2 = .ok (.if_icmp .lt 12, 3) := by decide +kernel
theorem dX8_within_5 : decode cX8_within 5 = .ok (.iload_n 0, 1) := by decide +kernel
theorem dX8_within_6 : decode cX8_within 6 = .ok (.iload_n 2, 1) := by decide +kernel
theorem dX8_within_7 : decode cX8_within 7 = .ok (.if_icmp .gt 7, 3) := by decide +kernel
theorem dX8_within_10 : decode cX8_within 10 = .ok (.iconst 1, 1) := by decide +kernel
theorem dX8_within_11 : decode cX8_within 11 = .ok (.goto 4, 3) := by decide +kernel
theorem dX8_within_14 : decode cX8_within 14 = .ok (.iconst 0, 1) := by decide +kernel
theorem dX8_within_15 : decode cX8_within 15 = .ok (.ireturn, 1) := by decide +kernel
theorem dX8_copies_0 : decode cX8_copies 0 = .ok (.iconst 0, 1) := by decide +kernel
theorem dX8_copies_1 : decode cX8_copies 1 = .ok (.istore 4, 2) := by decide +kernel
theorem dX8_copies_3 : decode cX8_copies 3 = .ok (.iload 4, 2) := by decide +kernel
theorem dX8_copies_5 : decode cX8_copies 5 = .ok (.sipush 284, 3) := by decide +kernel
theorem dX8_copies_8 : decode cX8_copies 8 = .ok (.if_icmp .ge 21, 3) := by decide +kernel
theorem dX8_copies_11 : decode cX8_copies 11 = .ok (.aload_n 2, 1) := by decide +kernel
theorem dX8_copies_12 : decode cX8_copies 12 = .ok (.iload_n 3, 1) := by decide +kernel
theorem dX8_copies_13 : decode cX8_copies 13 = .ok (.iload 4, 2) := by decide +kernel
theorem dX8_copies_15 : decode cX8_copies 15 = .ok (.iadd, 1) := by decide +kernel
theorem dX8_copies_16 : decode cX8_copies 16 = .ok (.aload_n 0, 1) := by decide +kernel
theorem dX8_copies_17 : decode cX8_copies 17 = .ok (.iload_n 1, 1) := by decide +kernel
theorem dX8_copies_18 : decode cX8_copies 18 = .ok (.iload 4, 2) := by decide +kernel
theorem dX8_copies_20 : decode cX8_copies 20 = .ok (.iadd, 1) := by decide +kernel
theorem dX8_copies_21 : decode cX8_copies 21 = .ok (.iaload, 1) := by decide +kernel
theorem dX8_copies_22 : decode cX8_copies 22 = .ok (.iastore, 1) := by decide +kernel
theorem dX8_copies_23 : decode cX8_copies 23 = .ok (.iinc 4 1, 3) := by decide +kernel
theorem dX8_copies_26 : decode cX8_copies 26 = .ok (.goto (-23), 3) := by decide +kernel
theorem dX8_copies_29 : decode cX8_copies 29 = .ok (.return_, 1) := by decide +kernel
theorem dX8_record_0 : decode cX8_record 0 = .ok (.aload_n 0, 1) := by decide +kernel
theorem dX8_record_1 : decode cX8_record 1 = .ok (.getfield 29, 3) := by decide +kernel
theorem dX8_record_4 : decode cX8_record 4 = .ok (.bipush 6, 2) := by decide +kernel
theorem dX8_record_6 : decode cX8_record 6 = .ok (.if_icmp .ne 44, 3) := by decide +kernel
theorem dX8_record_9 : decode cX8_record 9 = .ok (.iconst 0, 1) := by decide +kernel
theorem dX8_record_10 : decode cX8_record 10 = .ok (.istore_n 1, 1) := by decide +kernel
theorem dX8_record_11 : decode cX8_record 11 = .ok (.iload_n 1, 1) := by decide +kernel
theorem dX8_record_12 : decode cX8_record 12 = .ok (.sipush 1420, 3) := by decide +kernel
theorem dX8_record_15 : decode cX8_record 15 = .ok (.if_icmp .ge 25, 3) := by decide +kernel
theorem dX8_record_18 : decode cX8_record 18 = .ok (.aload_n 0, 1) := by decide +kernel
theorem dX8_record_19 : decode cX8_record 19 = .ok (.getfield 16, 3) := by decide +kernel
theorem dX8_record_22 : decode cX8_record 22 = .ok (.iload_n 1, 1) := by decide +kernel
theorem dX8_record_23 : decode cX8_record 23 = .ok (.aload_n 0, 1) := by decide +kernel
theorem dX8_record_24 : decode cX8_record 24 = .ok (.getfield 16, 3) := by decide +kernel
theorem dX8_record_27 : decode cX8_record 27 = .ok (.iload_n 1, 1) := by decide +kernel
theorem dX8_record_28 : decode cX8_record 28 = .ok (.sipush 284, 3) := by decide +kernel
theorem dX8_record_31 : decode cX8_record 31 = .ok (.iadd, 1) := by decide +kernel
theorem dX8_record_32 : decode cX8_record 32 = .ok (.iaload, 1) := by decide +kernel
theorem dX8_record_33 : decode cX8_record 33 = .ok (.iastore, 1) := by decide +kernel
theorem dX8_record_34 : decode cX8_record 34 = .ok (.iinc 1 1, 3) := by decide +kernel
theorem dX8_record_37 : decode cX8_record 37 = .ok (.goto (-26), 3) := by decide +kernel
theorem dX8_record_40 : decode cX8_record 40 = .ok (.aload_n 0, 1) := by decide +kernel
theorem dX8_record_41 : decode cX8_record 41 = .ok (.dup, 1) := by decide +kernel
theorem dX8_record_42 : decode cX8_record 42 = .ok (.getfield 29, 3) := by decide +kernel
theorem dX8_record_45 : decode cX8_record 45 = .ok (.iconst 1, 1) := by decide +kernel
theorem dX8_record_46 : decode cX8_record 46 = .ok (.isub, 1) := by decide +kernel
theorem dX8_record_47 : decode cX8_record 47 = .ok (.putfield 29, 3) := by decide +kernel
theorem dX8_record_50 : decode cX8_record 50 = .ok (.aload_n 0, 1) := by decide +kernel
theorem dX8_record_51 : decode cX8_record 51 = .ok (.getfield 7, 3) := by decide +kernel
theorem dX8_record_54 : decode cX8_record 54 = .ok (.iconst 0, 1) := by decide +kernel
theorem dX8_record_55 : decode cX8_record 55 = .ok (.aload_n 0, 1) := by decide +kernel
theorem dX8_record_56 : decode cX8_record 56 = .ok (.getfield 16, 3) := by decide +kernel
theorem dX8_record_59 : decode cX8_record 59 = .ok (.aload_n 0, 1) := by decide +kernel
theorem dX8_record_60 : decode cX8_record 60 = .ok (.getfield 29, 3) := by decide +kernel
theorem dX8_record_63 : decode cX8_record 63 = .ok (.sipush 284, 3) := by decide +kernel
theorem dX8_record_66 : decode cX8_record 66 = .ok (.imul, 1) := by decide +kernel
theorem dX8_record_67 : decode cX8_record 67 = .ok (.invokestatic 33, 3) := by decide +kernel
theorem dX8_record_70 : decode cX8_record 70 = .ok (.aload_n 0, 1) := by decide +kernel
theorem dX8_record_71 : decode cX8_record 71 = .ok (.dup, 1) := by decide +kernel
theorem dX8_record_72 : decode cX8_record 72 = .ok (.getfield 29, 3) := by decide +kernel
theorem dX8_record_75 : decode cX8_record 75 = .ok (.iconst 1, 1) := by decide +kernel
theorem dX8_record_76 : decode cX8_record 76 = .ok (.iadd, 1) := by decide +kernel
theorem dX8_record_77 : decode cX8_record 77 = .ok (.putfield 29, 3) := by decide +kernel
theorem dX8_record_80 : decode cX8_record 80 = .ok (.return_, 1) := by decide +kernel
theorem dX8_recordOther_0 : decode cX8_recordOther 0 = .ok (.aload_n 0, 1) := by decide +kernel
theorem dX8_recordOther_1 : decode cX8_recordOther 1 = .ok (.invokevirtual 37, 3) := by decide +kernel
theorem dX8_recordOther_4 : decode cX8_recordOther 4 = .ok (.aload_n 0, 1) := by decide +kernel
theorem dX8_recordOther_5 : decode cX8_recordOther 5 = .ok (.getfield 7, 3) := by decide +kernel
theorem dX8_recordOther_8 : decode cX8_recordOther 8 = .ok (.bipush 8, 2) := by decide +kernel
theorem dX8_recordOther_10 : decode cX8_recordOther 10 = .ok (.iconst 0, 1) := by decide +kernel
theorem dX8_recordOther_11 : decode cX8_recordOther 11 = .ok (.iastore, 1) := by decide +kernel
theorem dX8_recordOther_12 : decode cX8_recordOther 12 = .ok (.return_, 1) := by decide +kernel
theorem dX8_shuttlePart_0 : decode cX8_shuttlePart 0 = .ok (.aload_n 0, 1) := by decide +kernel
theorem dX8_shuttlePart_1 : decode cX8_shuttlePart 1 = .ok (.getfield 7, 3) := by decide +kernel
theorem dX8_shuttlePart_4 : decode cX8_shuttlePart 4 = .ok (.bipush 12, 2) := by decide +kernel
theorem dX8_shuttlePart_6 : decode cX8_shuttlePart 6 = .ok (.iconst 4, 1) := by decide +kernel
theorem dX8_shuttlePart_7 : decode cX8_shuttlePart 7 = .ok (.iload_n 1, 1) := by decide +kernel
theorem dX8_shuttlePart_8 : decode cX8_shuttlePart 8 = .ok (.imul, 1) := by decide +kernel
theorem dX8_shuttlePart_9 : decode cX8_shuttlePart 9 = .ok (.iadd, 1) := by decide +kernel
theorem dX8_shuttlePart_10 : decode cX8_shuttlePart 10 = .ok (.iload_n 2, 1) := by decide +kernel
theorem dX8_shuttlePart_11 : decode cX8_shuttlePart 11 = .ok (.iadd, 1) := by decide +kernel
theorem dX8_shuttlePart_12 : decode cX8_shuttlePart 12 = .ok (.iaload, 1) := by decide +kernel
theorem dX8_shuttlePart_13 : decode cX8_shuttlePart 13 = .ok (.ireturn, 1) := by decide +kernel
theorem dX8_setShuttle_0 : decode cX8_setShuttle 0 = .ok (.aload_n 0, 1) := by decide +kernel
theorem dX8_setShuttle_1 : decode cX8_setShuttle 1 = .ok (.getfield 7, 3) := by decide +kernel
theorem dX8_setShuttle_4 : decode cX8_setShuttle 4 = .ok (.bipush 12, 2) := by decide +kernel
theorem dX8_setShuttle_6 : decode cX8_setShuttle 6 = .ok (.iconst 4, 1) := by decide +kernel
theorem dX8_setShuttle_7 : decode cX8_setShuttle 7 = .ok (.iload_n 1, 1) := by decide +kernel
theorem dX8_setShuttle_8 : decode cX8_setShuttle 8 = .ok (.imul, 1) := by decide +kernel
theorem dX8_setShuttle_9 : decode cX8_setShuttle 9 = .ok (.iadd, 1) := by decide +kernel
theorem dX8_setShuttle_10 : decode cX8_setShuttle 10 = .ok (.iload_n 2, 1) := by decide +kernel
theorem dX8_setShuttle_11 : decode cX8_setShuttle 11 = .ok (.iadd, 1) := by decide +kernel
theorem dX8_setShuttle_12 : decode cX8_setShuttle 12 = .ok (.iload_n 3, 1) := by decide +kernel
theorem dX8_setShuttle_13 : decode cX8_setShuttle 13 = .ok (.iastore, 1) := by decide +kernel
theorem dX8_setShuttle_14 : decode cX8_setShuttle 14 = .ok (.return_, 1) := by decide +kernel
theorem dX8_threadPart_0 : decode cX8_threadPart 0 = .ok (.aload_n 0, 1) := by decide +kernel
theorem dX8_threadPart_1 : decode cX8_threadPart 1 = .ok (.getfield 7, 3) := by decide +kernel
theorem dX8_threadPart_4 : decode cX8_threadPart 4 = .ok (.bipush 32, 2) := by decide +kernel
theorem dX8_threadPart_6 : decode cX8_threadPart 6 = .ok (.iconst 2, 1) := by decide +kernel
theorem dX8_threadPart_7 : decode cX8_threadPart 7 = .ok (.iload_n 1, 1) := by decide +kernel
theorem dX8_threadPart_8 : decode cX8_threadPart 8 = .ok (.imul, 1) := by decide +kernel
theorem dX8_threadPart_9 : decode cX8_threadPart 9 = .ok (.iadd, 1) := by decide +kernel
theorem dX8_threadPart_10 : decode cX8_threadPart 10 = .ok (.iload_n 2, 1) := by decide +kernel
theorem dX8_threadPart_11 : decode cX8_threadPart 11 = .ok (.iadd, 1) := by decide +kernel
theorem dX8_threadPart_12 : decode cX8_threadPart 12 = .ok (.iaload, 1) := by decide +kernel
theorem dX8_threadPart_13 : decode cX8_threadPart 13 = .ok (.ireturn, 1) := by decide +kernel
theorem dX8_setThread_0 : decode cX8_setThread 0 = .ok (.aload_n 0, 1) := by decide +kernel
theorem dX8_setThread_1 : decode cX8_setThread 1 = .ok (.getfield 7, 3) := by decide +kernel
theorem dX8_setThread_4 : decode cX8_setThread 4 = .ok (.bipush 32, 2) := by decide +kernel
theorem dX8_setThread_6 : decode cX8_setThread 6 = .ok (.iconst 2, 1) := by decide +kernel
theorem dX8_setThread_7 : decode cX8_setThread 7 = .ok (.iload_n 1, 1) := by decide +kernel
theorem dX8_setThread_8 : decode cX8_setThread 8 = .ok (.imul, 1) := by decide +kernel
theorem dX8_setThread_9 : decode cX8_setThread 9 = .ok (.iadd, 1) := by decide +kernel
theorem dX8_setThread_10 : decode cX8_setThread 10 = .ok (.iload_n 2, 1) := by decide +kernel
theorem dX8_setThread_11 : decode cX8_setThread 11 = .ok (.iadd, 1) := by decide +kernel
theorem dX8_setThread_12 : decode cX8_setThread 12 = .ok (.iload_n 3, 1) := by decide +kernel
theorem dX8_setThread_13 : decode cX8_setThread 13 = .ok (.iastore, 1) := by decide +kernel
theorem dX8_setThread_14 : decode cX8_setThread 14 = .ok (.return_, 1) := by decide +kernel
theorem dX8_cardPart_0 : decode cX8_cardPart 0 = .ok (.aload_n 0, 1) := by decide +kernel
theorem dX8_cardPart_1 : decode cX8_cardPart 1 = .ok (.getfield 7, 3) := by decide +kernel
theorem dX8_cardPart_4 : decode cX8_cardPart 4 = .ok (.bipush 56, 2) := by decide +kernel
theorem dX8_cardPart_6 : decode cX8_cardPart 6 = .ok (.iconst 3, 1) := by decide +kernel
theorem dX8_cardPart_7 : decode cX8_cardPart 7 = .ok (.iload_n 1, 1) := by decide +kernel
theorem dX8_cardPart_8 : decode cX8_cardPart 8 = .ok (.imul, 1) := by decide +kernel
theorem dX8_cardPart_9 : decode cX8_cardPart 9 = .ok (.iadd, 1) := by decide +kernel
theorem dX8_cardPart_10 : decode cX8_cardPart 10 = .ok (.iload_n 2, 1) := by decide +kernel
theorem dX8_cardPart_11 : decode cX8_cardPart 11 = .ok (.iadd, 1) := by decide +kernel
theorem dX8_cardPart_12 : decode cX8_cardPart 12 = .ok (.iaload, 1) := by decide +kernel
theorem dX8_cardPart_13 : decode cX8_cardPart 13 = .ok (.ireturn, 1) := by decide +kernel
theorem dX8_rowPart_0 : decode cX8_rowPart 0 = .ok (.aload_n 0, 1) := by decide +kernel
theorem dX8_rowPart_1 : decode cX8_rowPart 1 = .ok (.getfield 7, 3) := by decide +kernel
theorem dX8_rowPart_4 : decode cX8_rowPart 4 = .ok (.bipush 104, 2) := by decide +kernel
theorem dX8_rowPart_6 : decode cX8_rowPart 6 = .ok (.bipush 9, 2) := by decide +kernel
theorem dX8_rowPart_8 : decode cX8_rowPart 8 = .ok (.iload_n 1, 1) := by decide +kernel
theorem dX8_rowPart_9 : decode cX8_rowPart 9 = .ok (.imul, 1) := by decide +kernel
theorem dX8_rowPart_10 : decode cX8_rowPart 10 = .ok (.iadd, 1) := by decide +kernel
theorem dX8_rowPart_11 : decode cX8_rowPart 11 = .ok (.iload_n 2, 1) := by decide +kernel
theorem dX8_rowPart_12 : decode cX8_rowPart 12 = .ok (.iadd, 1) := by decide +kernel
theorem dX8_rowPart_13 : decode cX8_rowPart 13 = .ok (.iaload, 1) := by decide +kernel
theorem dX8_rowPart_14 : decode cX8_rowPart 14 = .ok (.ireturn, 1) := by decide +kernel
theorem dX8_isShuttle_0 : decode cX8_isShuttle 0 = .ok (.iload_n 0, 1) := by decide +kernel
theorem dX8_isShuttle_1 : decode cX8_isShuttle 1 = .ok (.iconst 0, 1) := by decide +kernel
theorem dX8_isShuttle_2 : decode cX8_isShuttle 2 = .ok (.iconst 4, 1) := by decide +kernel
theorem dX8_isShuttle_3 : decode cX8_isShuttle 3 = .ok (.invokestatic 40, 3) := by decide +kernel
theorem dX8_isShuttle_6 : decode cX8_isShuttle 6 = .ok (.ireturn, 1) := by decide +kernel
theorem dX8_isThread_0 : decode cX8_isThread 0 = .ok (.iload_n 0, 1) := by decide +kernel
theorem dX8_isThread_1 : decode cX8_isThread 1 = .ok (.iconst 0, 1) := by decide +kernel
theorem dX8_isThread_2 : decode cX8_isThread 2 = .ok (.bipush 11, 2) := by decide +kernel
theorem dX8_isThread_4 : decode cX8_isThread 4 = .ok (.invokestatic 40, 3) := by decide +kernel
theorem dX8_isThread_7 : decode cX8_isThread 7 = .ok (.ireturn, 1) := by decide +kernel
theorem dX8_isBox_0 : decode cX8_isBox 0 = .ok (.iload_n 0, 1) := by decide +kernel
theorem dX8_isBox_1 : decode cX8_isBox 1 = .ok (.iconst 0, 1) := by decide +kernel
theorem dX8_isBox_2 : decode cX8_isBox 2 = .ok (.iconst 1, 1) := by decide +kernel
theorem dX8_isBox_3 : decode cX8_isBox 3 = .ok (.invokestatic 40, 3) := by decide +kernel
theorem dX8_isBox_6 : decode cX8_isBox 6 = .ok (.ifCond .eq 24, 3) := by decide +kernel
theorem dX8_isBox_9 : decode cX8_isBox 9 = .ok (.iload_n 1, 1) := by decide +kernel
theorem dX8_isBox_10 : decode cX8_isBox 10 = .ok (.iconst 0, 1) := by decide +kernel
theorem dX8_isBox_11 : decode cX8_isBox 11 = .ok (.iload_n 0, 1) := by decide +kernel
theorem dX8_isBox_12 : decode cX8_isBox 12 = .ok (.ifCond .ne 7, 3) := by decide +kernel
theorem dX8_isBox_15 : decode cX8_isBox 15 = .ok (.iconst 3, 1) := by decide +kernel
theorem dX8_isBox_16 : decode cX8_isBox 16 = .ok (.goto 4, 3) := by decide +kernel
theorem dX8_isBox_19 : decode cX8_isBox 19 = .ok (.iconst 1, 1) := by decide +kernel
theorem dX8_isBox_20 : decode cX8_isBox 20 = .ok (.invokestatic 40, 3) := by decide +kernel
theorem dX8_isBox_23 : decode cX8_isBox 23 = .ok (.ifCond .eq 7, 3) := by decide +kernel
theorem dX8_isBox_26 : decode cX8_isBox 26 = .ok (.iconst 1, 1) := by decide +kernel
theorem dX8_isBox_27 : decode cX8_isBox 27 = .ok (.goto 4, 3) := by decide +kernel
theorem dX8_isBox_30 : decode cX8_isBox 30 = .ok (.iconst 0, 1) := by decide +kernel
theorem dX8_isBox_31 : decode cX8_isBox 31 = .ok (.ireturn, 1) := by decide +kernel
theorem dX8_isCard_0 : decode cX8_isCard 0 = .ok (.iload_n 1, 1) := by decide +kernel
theorem dX8_isCard_1 : decode cX8_isCard 1 = .ok (.iconst 0, 1) := by decide +kernel
theorem dX8_isCard_2 : decode cX8_isCard 2 = .ok (.aload_n 0, 1) := by decide +kernel
theorem dX8_isCard_3 : decode cX8_isCard 3 = .ok (.getfield 7, 3) := by decide +kernel
theorem dX8_isCard_6 : decode cX8_isCard 6 = .ok (.iconst 0, 1) := by decide +kernel
theorem dX8_isCard_7 : decode cX8_isCard 7 = .ok (.iaload, 1) := by decide +kernel
theorem dX8_isCard_8 : decode cX8_isCard 8 = .ok (.iconst 1, 1) := by decide +kernel
theorem dX8_isCard_9 : decode cX8_isCard 9 = .ok (.isub, 1) := by decide +kernel
theorem dX8_isCard_10 : decode cX8_isCard 10 = .ok (.invokestatic 40, 3) := by decide +kernel
theorem dX8_isCard_13 : decode cX8_isCard 13 = .ok (.ireturn, 1) := by decide +kernel
theorem dX8_shuttleIn_0 : decode cX8_shuttleIn 0 = .ok (.bipush (-6), 2) := by decide +kernel
theorem dX8_shuttleIn_2 : decode cX8_shuttleIn 2 = .ok (.istore_n 3, 1) := by decide +kernel
theorem dX8_shuttleIn_3 : decode cX8_shuttleIn 3 = .ok (.iconst 0, 1) := by decide +kernel
theorem dX8_shuttleIn_4 : decode cX8_shuttleIn 4 = .ok (.istore 4, 2) := by decide +kernel
theorem dX8_shuttleIn_6 : decode cX8_shuttleIn 6 = .ok (.iload 4, 2) := by decide +kernel
theorem dX8_shuttleIn_8 : decode cX8_shuttleIn 8 = .ok (.iconst 5, 1) := by decide +kernel
theorem dX8_shuttleIn_9 : decode cX8_shuttleIn 9 = .ok (.if_icmp .ge 38, 3) := by decide +kernel
theorem dX8_shuttleIn_12 : decode cX8_shuttleIn 12 = .ok (.aload_n 0, 1) := by decide +kernel
theorem dX8_shuttleIn_13 : decode cX8_shuttleIn 13 = .ok (.iload 4, 2) := by decide +kernel
theorem dX8_shuttleIn_15 : decode cX8_shuttleIn 15 = .ok (.iconst 2, 1) := by decide +kernel
theorem dX8_shuttleIn_16 : decode cX8_shuttleIn 16 = .ok (.invokevirtual 44, 3) := by decide +kernel
theorem dX8_shuttleIn_19 : decode cX8_shuttleIn 19 = .ok (.iload_n 1, 1) := by decide +kernel
theorem dX8_shuttleIn_20 : decode cX8_shuttleIn 20 = .ok (.if_icmp .ne 19, 3) := by decide +kernel
theorem dX8_shuttleIn_23 : decode cX8_shuttleIn 23 = .ok (.aload_n 0, 1) := by decide +kernel
theorem dX8_shuttleIn_24 : decode cX8_shuttleIn 24 = .ok (.iload 4, 2) := by decide +kernel
theorem dX8_shuttleIn_26 : decode cX8_shuttleIn 26 = .ok (.iconst 3, 1) := by decide +kernel
theorem dX8_shuttleIn_27 : decode cX8_shuttleIn 27 = .ok (.invokevirtual 44, 3) := by decide +kernel
theorem dX8_shuttleIn_30 : decode cX8_shuttleIn 30 = .ok (.iload_n 2, 1) := by decide +kernel
theorem dX8_shuttleIn_31 : decode cX8_shuttleIn 31 = .ok (.if_icmp .ne 8, 3) := by decide +kernel
theorem dX8_shuttleIn_34 : decode cX8_shuttleIn 34 = .ok (.iload 4, 2) := by decide +kernel
theorem dX8_shuttleIn_36 : decode cX8_shuttleIn 36 = .ok (.goto 4, 3) := by decide +kernel
theorem dX8_shuttleIn_39 : decode cX8_shuttleIn 39 = .ok (.iload_n 3, 1) := by decide +kernel
theorem dX8_shuttleIn_40 : decode cX8_shuttleIn 40 = .ok (.istore_n 3, 1) := by decide +kernel
theorem dX8_shuttleIn_41 : decode cX8_shuttleIn 41 = .ok (.iinc 4 1, 3) := by decide +kernel
theorem dX8_shuttleIn_44 : decode cX8_shuttleIn 44 = .ok (.goto (-38), 3) := by decide +kernel
theorem dX8_shuttleIn_47 : decode cX8_shuttleIn 47 = .ok (.iload_n 3, 1) := by decide +kernel
theorem dX8_shuttleIn_48 : decode cX8_shuttleIn 48 = .ok (.ireturn, 1) := by decide +kernel
theorem dX8_threadsOf_0 : decode cX8_threadsOf 0 = .ok (.iconst 0, 1) := by decide +kernel
theorem dX8_threadsOf_1 : decode cX8_threadsOf 1 = .ok (.istore_n 2, 1) := by decide +kernel
theorem dX8_threadsOf_2 : decode cX8_threadsOf 2 = .ok (.iconst 0, 1) := by decide +kernel
theorem dX8_threadsOf_3 : decode cX8_threadsOf 3 = .ok (.istore_n 3, 1) := by decide +kernel
theorem dX8_threadsOf_4 : decode cX8_threadsOf 4 = .ok (.iload_n 3, 1) := by decide +kernel
theorem dX8_threadsOf_5 : decode cX8_threadsOf 5 = .ok (.bipush 12, 2) := by decide +kernel
theorem dX8_threadsOf_7 : decode cX8_threadsOf 7 = .ok (.if_icmp .ge 24, 3) := by decide +kernel
theorem dX8_threadsOf_10 : decode cX8_threadsOf 10 = .ok (.iload_n 2, 1) := by decide +kernel
theorem dX8_threadsOf_11 : decode cX8_threadsOf 11 = .ok (.iload_n 1, 1) := by decide +kernel
theorem dX8_threadsOf_12 : decode cX8_threadsOf 12 = .ok (.aload_n 0, 1) := by decide +kernel
theorem dX8_threadsOf_13 : decode cX8_threadsOf 13 = .ok (.iload_n 3, 1) := by decide +kernel
theorem dX8_threadsOf_14 : decode cX8_threadsOf 14 = .ok (.iconst 0, 1) := by decide +kernel
theorem dX8_threadsOf_15 : decode cX8_threadsOf 15 = .ok (.invokevirtual 48, 3) := by decide +kernel
theorem dX8_threadsOf_18 : decode cX8_threadsOf 18 = .ok (.ishr, 1) := by decide +kernel
theorem dX8_threadsOf_19 : decode cX8_threadsOf 19 = .ok (.iconst 1, 1) := by decide +kernel
theorem dX8_threadsOf_20 : decode cX8_threadsOf 20 = .ok (.iand, 1) := by decide +kernel
theorem dX8_threadsOf_21 : decode cX8_threadsOf 21 = .ok (.iload_n 3, 1) := by decide +kernel
theorem dX8_threadsOf_22 : decode cX8_threadsOf 22 = .ok (.ishl, 1) := by decide +kernel
theorem dX8_threadsOf_23 : decode cX8_threadsOf 23 = .ok (.ior, 1) := by decide +kernel
theorem dX8_threadsOf_24 : decode cX8_threadsOf 24 = .ok (.istore_n 2, 1) := by decide +kernel
theorem dX8_threadsOf_25 : decode cX8_threadsOf 25 = .ok (.iinc 3 1, 3) := by decide +kernel
theorem dX8_threadsOf_28 : decode cX8_threadsOf 28 = .ok (.goto (-24), 3) := by decide +kernel
theorem dX8_threadsOf_31 : decode cX8_threadsOf 31 = .ok (.iload_n 2, 1) := by decide +kernel
theorem dX8_threadsOf_32 : decode cX8_threadsOf 32 = .ok (.ireturn, 1) := by decide +kernel
theorem dX8_firstBroken_0 : decode cX8_firstBroken 0 = .ok (.bipush (-6), 2) := by decide +kernel
theorem dX8_firstBroken_2 : decode cX8_firstBroken 2 = .ok (.istore_n 1, 1) := by decide +kernel
theorem dX8_firstBroken_3 : decode cX8_firstBroken 3 = .ok (.bipush 11, 2) := by decide +kernel
theorem dX8_firstBroken_5 : decode cX8_firstBroken 5 = .ok (.istore_n 2, 1) := by decide +kernel
theorem dX8_firstBroken_6 : decode cX8_firstBroken 6 = .ok (.iload_n 2, 1) := by decide +kernel
theorem dX8_firstBroken_7 : decode cX8_firstBroken 7 = .ok (.ifCond .lt 24, 3) := by decide +kernel
theorem dX8_firstBroken_10 : decode cX8_firstBroken 10 = .ok (.aload_n 0, 1) := by decide +kernel
theorem dX8_firstBroken_11 : decode cX8_firstBroken 11 = .ok (.iload_n 2, 1) := by decide +kernel
theorem dX8_firstBroken_12 : decode cX8_firstBroken 12 = .ok (.iconst 1, 1) := by decide +kernel
theorem dX8_firstBroken_13 : decode cX8_firstBroken 13 = .ok (.invokevirtual 48, 3) := by decide +kernel
theorem dX8_firstBroken_16 : decode cX8_firstBroken 16 = .ok (.ifCond .ne 7, 3) := by decide +kernel
theorem dX8_firstBroken_19 : decode cX8_firstBroken 19 = .ok (.iload_n 2, 1) := by decide +kernel
theorem dX8_firstBroken_20 : decode cX8_firstBroken 20 = .ok (.goto 4, 3) := by decide +kernel
theorem dX8_firstBroken_23 : decode cX8_firstBroken 23 = .ok (.iload_n 1, 1) := by decide +kernel
theorem dX8_firstBroken_24 : decode cX8_firstBroken 24 = .ok (.istore_n 1, 1) := by decide +kernel
theorem dX8_firstBroken_25 : decode cX8_firstBroken 25 = .ok (.iinc 2 (-1), 3) := by decide +kernel
theorem dX8_firstBroken_28 : decode cX8_firstBroken 28 = .ok (.goto (-22), 3) := by decide +kernel
theorem dX8_firstBroken_31 : decode cX8_firstBroken 31 = .ok (.iload_n 1, 1) := by decide +kernel
theorem dX8_firstBroken_32 : decode cX8_firstBroken 32 = .ok (.ireturn, 1) := by decide +kernel
theorem dX8_isTooFar_0 : decode cX8_isTooFar 0 = .ok (.aload_n 0, 1) := by decide +kernel
theorem dX8_isTooFar_1 : decode cX8_isTooFar 1 = .ok (.getfield 7, 3) := by decide +kernel
theorem dX8_isTooFar_4 : decode cX8_isTooFar 4 = .ok (.iconst 3, 1) := by decide +kernel
theorem dX8_isTooFar_5 : decode cX8_isTooFar 5 = .ok (.iload_n 1, 1) := by decide +kernel
theorem dX8_isTooFar_6 : decode cX8_isTooFar 6 = .ok (.iadd, 1) := by decide +kernel
theorem dX8_isTooFar_7 : decode cX8_isTooFar 7 = .ok (.iaload, 1) := by decide +kernel
theorem dX8_isTooFar_8 : decode cX8_isTooFar 8 = .ok (.aload_n 0, 1) := by decide +kernel
theorem dX8_isTooFar_9 : decode cX8_isTooFar 9 = .ok (.aload_n 0, 1) := by decide +kernel
theorem dX8_isTooFar_10 : decode cX8_isTooFar 10 = .ok (.getfield 7, 3) := by decide +kernel
theorem dX8_isTooFar_13 : decode cX8_isTooFar 13 = .ok (.iconst 1, 1) := by decide +kernel
theorem dX8_isTooFar_14 : decode cX8_isTooFar 14 = .ok (.iaload, 1) := by decide +kernel
theorem dX8_isTooFar_15 : decode cX8_isTooFar 15 = .ok (.iconst 1, 1) := by decide +kernel
theorem dX8_isTooFar_16 : decode cX8_isTooFar 16 = .ok (.iload_n 1, 1) := by decide +kernel
theorem dX8_isTooFar_17 : decode cX8_isTooFar 17 = .ok (.iadd, 1) := by decide +kernel
theorem dX8_isTooFar_18 : decode cX8_isTooFar 18 = .ok (.invokevirtual 51, 3) := by decide +kernel
theorem dX8_isTooFar_21 : decode cX8_isTooFar 21 = .ok (.isub, 1) := by decide +kernel
theorem dX8_isTooFar_22 : decode cX8_isTooFar 22 = .ok (.istore_n 2, 1) := by decide +kernel
theorem dX8_isTooFar_23 : decode cX8_isTooFar 23 = .ok (.iload_n 2, 1) := by decide +kernel
theorem dX8_isTooFar_24 : decode cX8_isTooFar 24 = .ok (.ifCond .ge 8, 3) := by decide +kernel
theorem dX8_isTooFar_27 : decode cX8_isTooFar 27 = .ok (.iload_n 2, 1) := by decide +kernel
theorem dX8_isTooFar_28 : decode cX8_isTooFar 28 = .ok (.ineg, 1) := by decide +kernel
theorem dX8_isTooFar_29 : decode cX8_isTooFar 29 = .ok (.goto 4, 3) := by decide +kernel
theorem dX8_isTooFar_32 : decode cX8_isTooFar 32 = .ok (.iload_n 2, 1) := by decide +kernel
theorem dX8_isTooFar_33 : decode cX8_isTooFar 33 = .ok (.iconst 4, 1) := by decide +kernel
theorem dX8_isTooFar_34 : decode cX8_isTooFar 34 = .ok (.aload_n 0, 1) := by decide +kernel
theorem dX8_isTooFar_35 : decode cX8_isTooFar 35 = .ok (.getfield 7, 3) := by decide +kernel
theorem dX8_isTooFar_38 : decode cX8_isTooFar 38 = .ok (.iconst 2, 1) := by decide +kernel
theorem dX8_isTooFar_39 : decode cX8_isTooFar 39 = .ok (.iaload, 1) := by decide +kernel
theorem dX8_isTooFar_40 : decode cX8_isTooFar 40 = .ok (.isub, 1) := by decide +kernel
theorem dX8_isTooFar_41 : decode cX8_isTooFar 41 = .ok (.if_icmp .le 7, 3) := by decide +kernel
theorem dX8_isTooFar_44 : decode cX8_isTooFar 44 = .ok (.iconst 1, 1) := by decide +kernel
theorem dX8_isTooFar_45 : decode cX8_isTooFar 45 = .ok (.goto 4, 3) := by decide +kernel
theorem dX8_isTooFar_48 : decode cX8_isTooFar 48 = .ok (.iconst 0, 1) := by decide +kernel
theorem dX8_isTooFar_49 : decode cX8_isTooFar 49 = .ok (.ireturn, 1) := by decide +kernel
theorem dX8_says_0 : decode cX8_says 0 = .ok (.aload_n 0, 1) := by decide +kernel
theorem dX8_says_1 : decode cX8_says 1 = .ok (.iload_n 1, 1) := by decide +kernel
theorem dX8_says_2 : decode cX8_says 2 = .ok (.putfield 54, 3) := by decide +kernel
theorem dX8_says_5 : decode cX8_says 5 = .ok (.aload_n 0, 1) := by decide +kernel
theorem dX8_says_6 : decode cX8_says 6 = .ok (.iload_n 2, 1) := by decide +kernel
theorem dX8_says_7 : decode cX8_says 7 = .ok (.putfield 57, 3) := by decide +kernel
theorem dX8_says_10 : decode cX8_says 10 = .ok (.return_, 1) := by decide +kernel
theorem dX8_findReason_0 : decode cX8_findReason 0 = .ok (.aload_n 0, 1) := by decide +kernel
theorem dX8_findReason_1 : decode cX8_findReason 1 = .ok (.getfield 7, 3) := by decide +kernel
theorem dX8_findReason_4 : decode cX8_findReason 4 = .ok (.iconst 1, 1) := by decide +kernel
theorem dX8_findReason_5 : decode cX8_findReason 5 = .ok (.iaload, 1) := by decide +kernel
theorem dX8_findReason_6 : decode cX8_findReason 6 = .ok (.istore_n 2, 1) := by decide +kernel
theorem dX8_findReason_7 : decode cX8_findReason 7 = .ok (.aload_n 0, 1) := by decide +kernel
theorem dX8_findReason_8 : decode cX8_findReason 8 = .ok (.getfield 7, 3) := by decide +kernel
theorem dX8_findReason_11 : decode cX8_findReason 11 = .ok (.iconst 0, 1) := by decide +kernel
theorem dX8_findReason_12 : decode cX8_findReason 12 = .ok (.iaload, 1) := by decide +kernel
theorem dX8_findReason_13 : decode cX8_findReason 13 = .ok (.ifCond .ne 8, 3) := by decide +kernel
theorem dX8_findReason_16 : decode cX8_findReason 16 = .ok (.bipush (-6), 2) := by decide +kernel
theorem dX8_findReason_18 : decode cX8_findReason 18 = .ok (.goto 14, 3) := by decide +kernel
theorem dX8_findReason_21 : decode cX8_findReason 21 = .ok (.aload_n 0, 1) := by decide +kernel
theorem dX8_findReason_22 : decode cX8_findReason 22 = .ok (.iconst 0, 1) := by decide +kernel
theorem dX8_findReason_23 : decode cX8_findReason 23 = .ok (.aload_n 0, 1) := by decide +kernel
theorem dX8_findReason_24 : decode cX8_findReason 24 = .ok (.iload_n 2, 1) := by decide +kernel
theorem dX8_findReason_25 : decode cX8_findReason 25 = .ok (.iconst 1, 1) := by decide +kernel
theorem dX8_findReason_26 : decode cX8_findReason 26 = .ok (.invokevirtual 51, 3) := by decide +kernel
theorem dX8_findReason_29 : decode cX8_findReason 29 = .ok (.invokevirtual 60, 3) := by decide +kernel
theorem dX8_findReason_32 : decode cX8_findReason 32 = .ok (.istore_n 3, 1) := by decide +kernel
theorem dX8_findReason_33 : decode cX8_findReason 33 = .ok (.aload_n 0, 1) := by decide +kernel
theorem dX8_findReason_34 : decode cX8_findReason 34 = .ok (.getfield 7, 3) := by decide +kernel
theorem dX8_findReason_37 : decode cX8_findReason 37 = .ok (.iconst 0, 1) := by decide +kernel
theorem dX8_findReason_38 : decode cX8_findReason 38 = .ok (.iaload, 1) := by decide +kernel
theorem dX8_findReason_39 : decode cX8_findReason 39 = .ok (.ifCond .ne 8, 3) := by decide +kernel
theorem dX8_findReason_42 : decode cX8_findReason 42 = .ok (.bipush (-6), 2) := by decide +kernel
theorem dX8_findReason_44 : decode cX8_findReason 44 = .ok (.goto 14, 3) := by decide +kernel
theorem dX8_findReason_47 : decode cX8_findReason 47 = .ok (.aload_n 0, 1) := by decide +kernel
theorem dX8_findReason_48 : decode cX8_findReason 48 = .ok (.iconst 1, 1) := by decide +kernel
theorem dX8_findReason_49 : decode cX8_findReason 49 = .ok (.aload_n 0, 1) := by decide +kernel
theorem dX8_findReason_50 : decode cX8_findReason 50 = .ok (.iload_n 2, 1) := by decide +kernel
theorem dX8_findReason_51 : decode cX8_findReason 51 = .ok (.iconst 2, 1) := by decide +kernel
theorem dX8_findReason_52 : decode cX8_findReason 52 = .ok (.invokevirtual 51, 3) := by decide +kernel
theorem dX8_findReason_55 : decode cX8_findReason 55 = .ok (.invokevirtual 60, 3) := by decide +kernel
theorem dX8_findReason_58 : decode cX8_findReason 58 = .ok (.istore 4, 2) := by decide +kernel
theorem dX8_findReason_60 : decode cX8_findReason 60 = .ok (.iload_n 3, 1) := by decide +kernel
theorem dX8_findReason_61 : decode cX8_findReason 61 = .ok (.bipush (-6), 2) := by decide +kernel
theorem dX8_findReason_63 : decode cX8_findReason 63 = .ok (.if_icmp .ne 8, 3) := by decide +kernel
theorem dX8_findReason_66 : decode cX8_findReason 66 = .ok (.iload 4, 2) := by decide +kernel
theorem dX8_findReason_68 : decode cX8_findReason 68 = .ok (.goto 4, 3) := by decide +kernel
theorem dX8_findReason_71 : decode cX8_findReason 71 = .ok (.iload_n 3, 1) := by decide +kernel
theorem dX8_findReason_72 : decode cX8_findReason 72 = .ok (.istore 5, 2) := by decide +kernel
theorem dX8_findReason_74 : decode cX8_findReason 74 = .ok (.aload_n 0, 1) := by decide +kernel
theorem dX8_findReason_75 : decode cX8_findReason 75 = .ok (.getfield 7, 3) := by decide +kernel
theorem dX8_findReason_78 : decode cX8_findReason 78 = .ok (.iconst 0, 1) := by decide +kernel
theorem dX8_findReason_79 : decode cX8_findReason 79 = .ok (.iaload, 1) := by decide +kernel
theorem dX8_findReason_80 : decode cX8_findReason 80 = .ok (.ifCond .ne 13, 3) := by decide +kernel
theorem dX8_findReason_83 : decode cX8_findReason 83 = .ok (.aload_n 0, 1) := by decide +kernel
theorem dX8_findReason_84 : decode cX8_findReason 84 = .ok (.iconst 1, 1) := by decide +kernel
theorem dX8_findReason_85 : decode cX8_findReason 85 = .ok (.bipush (-6), 2) := by decide +kernel
theorem dX8_findReason_87 : decode cX8_findReason 87 = .ok (.invokevirtual 63, 3) := by decide +kernel
theorem dX8_findReason_90 : decode cX8_findReason 90 = .ok (.goto 137, 3) := by decide +kernel
theorem dX8_findReason_93 : decode cX8_findReason 93 = .ok (.iload_n 1, 1) := by decide +kernel
theorem dX8_findReason_94 : decode cX8_findReason 94 = .ok (.ifCond .eq 24, 3) := by decide +kernel
theorem dX8_findReason_97 : decode cX8_findReason 97 = .ok (.aload_n 0, 1) := by decide +kernel
theorem dX8_findReason_98 : decode cX8_findReason 98 = .ok (.invokevirtual 67, 3) := by decide +kernel
theorem dX8_findReason_101 : decode cX8_findReason 101 = .ok (.bipush (-6), 2) := by decide +kernel
theorem dX8_findReason_103 : decode cX8_findReason 103 = .ok (.if_icmp .eq 15, 3) := by decide +kernel
theorem dX8_findReason_106 : decode cX8_findReason 106 = .ok (.aload_n 0, 1) := by decide +kernel
theorem dX8_findReason_107 : decode cX8_findReason 107 = .ok (.iconst 2, 1) := by decide +kernel
theorem dX8_findReason_108 : decode cX8_findReason 108 = .ok (.aload_n 0, 1) := by decide +kernel
theorem dX8_findReason_109 : decode cX8_findReason 109 = .ok (.invokevirtual 67, 3) := by decide +kernel
theorem dX8_findReason_112 : decode cX8_findReason 112 = .ok (.invokevirtual 63, 3) := by decide +kernel
theorem dX8_findReason_115 : decode cX8_findReason 115 = .ok (.goto 112, 3) := by decide +kernel
theorem dX8_findReason_118 : decode cX8_findReason 118 = .ok (.iload_n 1, 1) := by decide +kernel
theorem dX8_findReason_119 : decode cX8_findReason 119 = .ok (.ifCond .eq 20, 3) := by decide +kernel
theorem dX8_findReason_122 : decode cX8_findReason 122 = .ok (.aload_n 0, 1) := by decide +kernel
theorem dX8_findReason_123 : decode cX8_findReason 123 = .ok (.iconst 0, 1) := by decide +kernel
theorem dX8_findReason_124 : decode cX8_findReason 124 = .ok (.invokevirtual 71, 3) := by decide +kernel
theorem dX8_findReason_127 : decode cX8_findReason 127 = .ok (.ifCond .eq 12, 3) := by decide +kernel
theorem dX8_findReason_130 : decode cX8_findReason 130 = .ok (.aload_n 0, 1) := by decide +kernel
theorem dX8_findReason_131 : decode cX8_findReason 131 = .ok (.iconst 3, 1) := by decide +kernel
theorem dX8_findReason_132 : decode cX8_findReason 132 = .ok (.iconst 0, 1) := by decide +kernel
theorem dX8_findReason_133 : decode cX8_findReason 133 = .ok (.invokevirtual 63, 3) := by decide +kernel
theorem dX8_findReason_136 : decode cX8_findReason 136 = .ok (.goto 91, 3) := by decide +kernel
theorem dX8_findReason_139 : decode cX8_findReason 139 = .ok (.iload_n 1, 1) := by decide +kernel
theorem dX8_findReason_140 : decode cX8_findReason 140 = .ok (.ifCond .eq 20, 3) := by decide +kernel
theorem dX8_findReason_143 : decode cX8_findReason 143 = .ok (.aload_n 0, 1) := by decide +kernel
theorem dX8_findReason_144 : decode cX8_findReason 144 = .ok (.iconst 1, 1) := by decide +kernel
theorem dX8_findReason_145 : decode cX8_findReason 145 = .ok (.invokevirtual 71, 3) := by decide +kernel
theorem dX8_findReason_148 : decode cX8_findReason 148 = .ok (.ifCond .eq 12, 3) := by decide +kernel
theorem dX8_findReason_151 : decode cX8_findReason 151 = .ok (.aload_n 0, 1) := by decide +kernel
theorem dX8_findReason_152 : decode cX8_findReason 152 = .ok (.iconst 3, 1) := by decide +kernel
theorem dX8_findReason_153 : decode cX8_findReason 153 = .ok (.iconst 1, 1) := by decide +kernel
theorem dX8_findReason_154 : decode cX8_findReason 154 = .ok (.invokevirtual 63, 3) := by decide +kernel
theorem dX8_findReason_157 : decode cX8_findReason 157 = .ok (.goto 70, 3) := by decide +kernel
theorem dX8_findReason_160 : decode cX8_findReason 160 = .ok (.iload_n 3, 1) := by decide +kernel
theorem dX8_findReason_161 : decode cX8_findReason 161 = .ok (.bipush (-6), 2) := by decide +kernel
theorem dX8_findReason_163 : decode cX8_findReason 163 = .ok (.if_icmp .eq 19, 3) := by decide +kernel
theorem dX8_findReason_166 : decode cX8_findReason 166 = .ok (.iload 4, 2) := by decide +kernel
theorem dX8_findReason_168 : decode cX8_findReason 168 = .ok (.bipush (-6), 2) := by decide +kernel
theorem dX8_findReason_170 : decode cX8_findReason 170 = .ok (.if_icmp .eq 12, 3) := by decide +kernel
theorem dX8_findReason_173 : decode cX8_findReason 173 = .ok (.aload_n 0, 1) := by decide +kernel
theorem dX8_findReason_174 : decode cX8_findReason 174 = .ok (.iconst 4, 1) := by decide +kernel
theorem dX8_findReason_175 : decode cX8_findReason 175 = .ok (.iload_n 3, 1) := by decide +kernel
theorem dX8_findReason_176 : decode cX8_findReason 176 = .ok (.invokevirtual 63, 3) := by decide +kernel
theorem dX8_findReason_179 : decode cX8_findReason 179 = .ok (.goto 48, 3) := by decide +kernel
theorem dX8_findReason_182 : decode cX8_findReason 182 = .ok (.iload 5, 2) := by decide +kernel
theorem dX8_findReason_184 : decode cX8_findReason 184 = .ok (.bipush (-6), 2) := by decide +kernel
theorem dX8_findReason_186 : decode cX8_findReason 186 = .ok (.if_icmp .ne 13, 3) := by decide +kernel
theorem dX8_findReason_189 : decode cX8_findReason 189 = .ok (.aload_n 0, 1) := by decide +kernel
theorem dX8_findReason_190 : decode cX8_findReason 190 = .ok (.iconst 5, 1) := by decide +kernel
theorem dX8_findReason_191 : decode cX8_findReason 191 = .ok (.bipush (-6), 2) := by decide +kernel
theorem dX8_findReason_193 : decode cX8_findReason 193 = .ok (.invokevirtual 63, 3) := by decide +kernel
theorem dX8_findReason_196 : decode cX8_findReason 196 = .ok (.goto 31, 3) := by decide +kernel
theorem dX8_findReason_199 : decode cX8_findReason 199 = .ok (.aload_n 0, 1) := by decide +kernel
theorem dX8_findReason_200 : decode cX8_findReason 200 = .ok (.iload 5, 2) := by decide +kernel
theorem dX8_findReason_202 : decode cX8_findReason 202 = .ok (.iconst 1, 1) := by decide +kernel
theorem dX8_findReason_203 : decode cX8_findReason 203 = .ok (.invokevirtual 44, 3) := by decide +kernel
theorem dX8_findReason_206 : decode cX8_findReason 206 = .ok (.ifCond .ne 14, 3) := by decide +kernel
theorem dX8_findReason_209 : decode cX8_findReason 209 = .ok (.aload_n 0, 1) := by decide +kernel
theorem dX8_findReason_210 : decode cX8_findReason 210 = .ok (.bipush 6, 2) := by decide +kernel
theorem dX8_findReason_212 : decode cX8_findReason 212 = .ok (.iload 5, 2) := by decide +kernel
theorem dX8_findReason_214 : decode cX8_findReason 214 = .ok (.invokevirtual 63, 3) := by decide +kernel
theorem dX8_findReason_217 : decode cX8_findReason 217 = .ok (.goto 10, 3) := by decide +kernel
theorem dX8_findReason_220 : decode cX8_findReason 220 = .ok (.aload_n 0, 1) := by decide +kernel
theorem dX8_findReason_221 : decode cX8_findReason 221 = .ok (.iconst 0, 1) := by decide +kernel
theorem dX8_findReason_222 : decode cX8_findReason 222 = .ok (.iload 5, 2) := by decide +kernel
theorem dX8_findReason_224 : decode cX8_findReason 224 = .ok (.invokevirtual 63, 3) := by decide +kernel
theorem dX8_findReason_227 : decode cX8_findReason 227 = .ok (.return_, 1) := by decide +kernel
theorem dX8_moves_0 : decode cX8_moves 0 = .ok (.aload_n 0, 1) := by decide +kernel
theorem dX8_moves_1 : decode cX8_moves 1 = .ok (.getfield 7, 3) := by decide +kernel
theorem dX8_moves_4 : decode cX8_moves 4 = .ok (.iconst 1, 1) := by decide +kernel
theorem dX8_moves_5 : decode cX8_moves 5 = .ok (.iaload, 1) := by decide +kernel
theorem dX8_moves_6 : decode cX8_moves 6 = .ok (.istore_n 1, 1) := by decide +kernel
theorem dX8_moves_7 : decode cX8_moves 7 = .ok (.aload_n 0, 1) := by decide +kernel
theorem dX8_moves_8 : decode cX8_moves 8 = .ok (.getfield 57, 3) := by decide +kernel
theorem dX8_moves_11 : decode cX8_moves 11 = .ok (.istore_n 2, 1) := by decide +kernel
theorem dX8_moves_12 : decode cX8_moves 12 = .ok (.iconst 1, 1) := by decide +kernel
theorem dX8_moves_13 : decode cX8_moves 13 = .ok (.aload_n 0, 1) := by decide +kernel
theorem dX8_moves_14 : decode cX8_moves 14 = .ok (.iload_n 2, 1) := by decide +kernel
theorem dX8_moves_15 : decode cX8_moves 15 = .ok (.iconst 2, 1) := by decide +kernel
theorem dX8_moves_16 : decode cX8_moves 16 = .ok (.invokevirtual 44, 3) := by decide +kernel
theorem dX8_moves_19 : decode cX8_moves 19 = .ok (.isub, 1) := by decide +kernel
theorem dX8_moves_20 : decode cX8_moves 20 = .ok (.istore_n 3, 1) := by decide +kernel
theorem dX8_moves_21 : decode cX8_moves 21 = .ok (.aload_n 0, 1) := by decide +kernel
theorem dX8_moves_22 : decode cX8_moves 22 = .ok (.getfield 7, 3) := by decide +kernel
theorem dX8_moves_25 : decode cX8_moves 25 = .ok (.iconst 3, 1) := by decide +kernel
theorem dX8_moves_26 : decode cX8_moves 26 = .ok (.aload_n 0, 1) := by decide +kernel
theorem dX8_moves_27 : decode cX8_moves 27 = .ok (.iload_n 1, 1) := by decide +kernel
theorem dX8_moves_28 : decode cX8_moves 28 = .ok (.iconst 1, 1) := by decide +kernel
theorem dX8_moves_29 : decode cX8_moves 29 = .ok (.invokevirtual 51, 3) := by decide +kernel
theorem dX8_moves_32 : decode cX8_moves 32 = .ok (.iastore, 1) := by decide +kernel
theorem dX8_moves_33 : decode cX8_moves 33 = .ok (.aload_n 0, 1) := by decide +kernel
theorem dX8_moves_34 : decode cX8_moves 34 = .ok (.getfield 7, 3) := by decide +kernel
theorem dX8_moves_37 : decode cX8_moves 37 = .ok (.iconst 4, 1) := by decide +kernel
theorem dX8_moves_38 : decode cX8_moves 38 = .ok (.aload_n 0, 1) := by decide +kernel
theorem dX8_moves_39 : decode cX8_moves 39 = .ok (.iload_n 1, 1) := by decide +kernel
theorem dX8_moves_40 : decode cX8_moves 40 = .ok (.iconst 2, 1) := by decide +kernel
theorem dX8_moves_41 : decode cX8_moves 41 = .ok (.invokevirtual 51, 3) := by decide +kernel
theorem dX8_moves_44 : decode cX8_moves 44 = .ok (.iastore, 1) := by decide +kernel
theorem dX8_moves_45 : decode cX8_moves 45 = .ok (.aload_n 0, 1) := by decide +kernel
theorem dX8_moves_46 : decode cX8_moves 46 = .ok (.getfield 7, 3) := by decide +kernel
theorem dX8_moves_49 : decode cX8_moves 49 = .ok (.iconst 5, 1) := by decide +kernel
theorem dX8_moves_50 : decode cX8_moves 50 = .ok (.iaload, 1) := by decide +kernel
theorem dX8_moves_51 : decode cX8_moves 51 = .ok (.aload_n 0, 1) := by decide +kernel
theorem dX8_moves_52 : decode cX8_moves 52 = .ok (.iload_n 1, 1) := by decide +kernel
theorem dX8_moves_53 : decode cX8_moves 53 = .ok (.iconst 0, 1) := by decide +kernel
theorem dX8_moves_54 : decode cX8_moves 54 = .ok (.invokevirtual 51, 3) := by decide +kernel
theorem dX8_moves_57 : decode cX8_moves 57 = .ok (.ixor, 1) := by decide +kernel
theorem dX8_moves_58 : decode cX8_moves 58 = .ok (.istore 4, 2) := by decide +kernel
theorem dX8_moves_60 : decode cX8_moves 60 = .ok (.iconst 0, 1) := by decide +kernel
theorem dX8_moves_61 : decode cX8_moves 61 = .ok (.istore 5, 2) := by decide +kernel
theorem dX8_moves_63 : decode cX8_moves 63 = .ok (.iload 5, 2) := by decide +kernel
theorem dX8_moves_65 : decode cX8_moves 65 = .ok (.bipush 12, 2) := by decide +kernel
theorem dX8_moves_67 : decode cX8_moves 67 = .ok (.if_icmp .ge 36, 3) := by decide +kernel
theorem dX8_moves_70 : decode cX8_moves 70 = .ok (.aload_n 0, 1) := by decide +kernel
theorem dX8_moves_71 : decode cX8_moves 71 = .ok (.iload 5, 2) := by decide +kernel
theorem dX8_moves_73 : decode cX8_moves 73 = .ok (.iconst 1, 1) := by decide +kernel
theorem dX8_moves_74 : decode cX8_moves 74 = .ok (.aload_n 0, 1) := by decide +kernel
theorem dX8_moves_75 : decode cX8_moves 75 = .ok (.iload 5, 2) := by decide +kernel
theorem dX8_moves_77 : decode cX8_moves 77 = .ok (.iconst 1, 1) := by decide +kernel
theorem dX8_moves_78 : decode cX8_moves 78 = .ok (.invokevirtual 48, 3) := by decide +kernel
theorem dX8_moves_81 : decode cX8_moves 81 = .ok (.iload 4, 2) := by decide +kernel
theorem dX8_moves_83 : decode cX8_moves 83 = .ok (.aload_n 0, 1) := by decide +kernel
theorem dX8_moves_84 : decode cX8_moves 84 = .ok (.iload 5, 2) := by decide +kernel
theorem dX8_moves_86 : decode cX8_moves 86 = .ok (.iconst 0, 1) := by decide +kernel
theorem dX8_moves_87 : decode cX8_moves 87 = .ok (.invokevirtual 48, 3) := by decide +kernel
theorem dX8_moves_90 : decode cX8_moves 90 = .ok (.ishr, 1) := by decide +kernel
theorem dX8_moves_91 : decode cX8_moves 91 = .ok (.iconst 1, 1) := by decide +kernel
theorem dX8_moves_92 : decode cX8_moves 92 = .ok (.iand, 1) := by decide +kernel
theorem dX8_moves_93 : decode cX8_moves 93 = .ok (.isub, 1) := by decide +kernel
theorem dX8_moves_94 : decode cX8_moves 94 = .ok (.invokevirtual 26, 3) := by decide +kernel
theorem dX8_moves_97 : decode cX8_moves 97 = .ok (.iinc 5 1, 3) := by decide +kernel
theorem dX8_moves_100 : decode cX8_moves 100 = .ok (.goto (-37), 3) := by decide +kernel
theorem dX8_moves_103 : decode cX8_moves 103 = .ok (.aload_n 0, 1) := by decide +kernel
theorem dX8_moves_104 : decode cX8_moves 104 = .ok (.getfield 7, 3) := by decide +kernel
theorem dX8_moves_107 : decode cX8_moves 107 = .ok (.iconst 5, 1) := by decide +kernel
theorem dX8_moves_108 : decode cX8_moves 108 = .ok (.aload_n 0, 1) := by decide +kernel
theorem dX8_moves_109 : decode cX8_moves 109 = .ok (.iload_n 1, 1) := by decide +kernel
theorem dX8_moves_110 : decode cX8_moves 110 = .ok (.iconst 0, 1) := by decide +kernel
theorem dX8_moves_111 : decode cX8_moves 111 = .ok (.invokevirtual 51, 3) := by decide +kernel
theorem dX8_moves_114 : decode cX8_moves 114 = .ok (.iastore, 1) := by decide +kernel
theorem dX8_moves_115 : decode cX8_moves 115 = .ok (.aload_n 0, 1) := by decide +kernel
theorem dX8_moves_116 : decode cX8_moves 116 = .ok (.iload_n 2, 1) := by decide +kernel
theorem dX8_moves_117 : decode cX8_moves 117 = .ok (.iconst 2, 1) := by decide +kernel
theorem dX8_moves_118 : decode cX8_moves 118 = .ok (.iload_n 3, 1) := by decide +kernel
theorem dX8_moves_119 : decode cX8_moves 119 = .ok (.invokevirtual 22, 3) := by decide +kernel
theorem dX8_moves_122 : decode cX8_moves 122 = .ok (.aload_n 0, 1) := by decide +kernel
theorem dX8_moves_123 : decode cX8_moves 123 = .ok (.iload_n 2, 1) := by decide +kernel
theorem dX8_moves_124 : decode cX8_moves 124 = .ok (.iconst 3, 1) := by decide +kernel
theorem dX8_moves_125 : decode cX8_moves 125 = .ok (.aload_n 0, 1) := by decide +kernel
theorem dX8_moves_126 : decode cX8_moves 126 = .ok (.getfield 7, 3) := by decide +kernel
theorem dX8_moves_129 : decode cX8_moves 129 = .ok (.iconst 3, 1) := by decide +kernel
theorem dX8_moves_130 : decode cX8_moves 130 = .ok (.iload_n 3, 1) := by decide +kernel
theorem dX8_moves_131 : decode cX8_moves 131 = .ok (.iadd, 1) := by decide +kernel
theorem dX8_moves_132 : decode cX8_moves 132 = .ok (.iaload, 1) := by decide +kernel
theorem dX8_moves_133 : decode cX8_moves 133 = .ok (.invokevirtual 22, 3) := by decide +kernel
theorem dX8_moves_136 : decode cX8_moves 136 = .ok (.aload_n 0, 1) := by decide +kernel
theorem dX8_moves_137 : decode cX8_moves 137 = .ok (.iload_n 2, 1) := by decide +kernel
theorem dX8_moves_138 : decode cX8_moves 138 = .ok (.iconst 1, 1) := by decide +kernel
theorem dX8_moves_139 : decode cX8_moves 139 = .ok (.aload_n 0, 1) := by decide +kernel
theorem dX8_moves_140 : decode cX8_moves 140 = .ok (.iload_n 2, 1) := by decide +kernel
theorem dX8_moves_141 : decode cX8_moves 141 = .ok (.iconst 1, 1) := by decide +kernel
theorem dX8_moves_142 : decode cX8_moves 142 = .ok (.invokevirtual 44, 3) := by decide +kernel
theorem dX8_moves_145 : decode cX8_moves 145 = .ok (.iconst 1, 1) := by decide +kernel
theorem dX8_moves_146 : decode cX8_moves 146 = .ok (.isub, 1) := by decide +kernel
theorem dX8_moves_147 : decode cX8_moves 147 = .ok (.invokevirtual 22, 3) := by decide +kernel
theorem dX8_moves_150 : decode cX8_moves 150 = .ok (.aload_n 0, 1) := by decide +kernel
theorem dX8_moves_151 : decode cX8_moves 151 = .ok (.getfield 7, 3) := by decide +kernel
theorem dX8_moves_154 : decode cX8_moves 154 = .ok (.iconst 1, 1) := by decide +kernel
theorem dX8_moves_155 : decode cX8_moves 155 = .ok (.iload_n 1, 1) := by decide +kernel
theorem dX8_moves_156 : decode cX8_moves 156 = .ok (.iconst 1, 1) := by decide +kernel
theorem dX8_moves_157 : decode cX8_moves 157 = .ok (.iadd, 1) := by decide +kernel
theorem dX8_moves_158 : decode cX8_moves 158 = .ok (.aload_n 0, 1) := by decide +kernel
theorem dX8_moves_159 : decode cX8_moves 159 = .ok (.getfield 7, 3) := by decide +kernel
theorem dX8_moves_162 : decode cX8_moves 162 = .ok (.iconst 0, 1) := by decide +kernel
theorem dX8_moves_163 : decode cX8_moves 163 = .ok (.iaload, 1) := by decide +kernel
theorem dX8_moves_164 : decode cX8_moves 164 = .ok (.if_icmp .ne 7, 3) := by decide +kernel
theorem dX8_moves_167 : decode cX8_moves 167 = .ok (.iconst 0, 1) := by decide +kernel
theorem dX8_moves_168 : decode cX8_moves 168 = .ok (.goto 6, 3) := by decide +kernel
theorem dX8_moves_171 : decode cX8_moves 171 = .ok (.iload_n 1, 1) := by decide +kernel
theorem dX8_moves_172 : decode cX8_moves 172 = .ok (.iconst 1, 1) := by decide +kernel
theorem dX8_moves_173 : decode cX8_moves 173 = .ok (.iadd, 1) := by decide +kernel
theorem dX8_moves_174 : decode cX8_moves 174 = .ok (.iastore, 1) := by decide +kernel
theorem dX8_moves_175 : decode cX8_moves 175 = .ok (.return_, 1) := by decide +kernel
theorem dX8_addsRow_0 : decode cX8_addsRow 0 = .ok (.sipush 179, 3) := by decide +kernel
theorem dX8_addsRow_3 : decode cX8_addsRow 3 = .ok (.istore_n 1, 1) := by decide +kernel
theorem dX8_addsRow_4 : decode cX8_addsRow 4 = .ok (.iload_n 1, 1) := by decide +kernel
theorem dX8_addsRow_5 : decode cX8_addsRow 5 = .ok (.bipush 9, 2) := by decide +kernel
theorem dX8_addsRow_7 : decode cX8_addsRow 7 = .ok (.if_icmp .lt 30, 3) := by decide +kernel
theorem dX8_addsRow_10 : decode cX8_addsRow 10 = .ok (.aload_n 0, 1) := by decide +kernel
theorem dX8_addsRow_11 : decode cX8_addsRow 11 = .ok (.getfield 7, 3) := by decide +kernel
theorem dX8_addsRow_14 : decode cX8_addsRow 14 = .ok (.bipush 104, 2) := by decide +kernel
theorem dX8_addsRow_16 : decode cX8_addsRow 16 = .ok (.iload_n 1, 1) := by decide +kernel
theorem dX8_addsRow_17 : decode cX8_addsRow 17 = .ok (.iadd, 1) := by decide +kernel
theorem dX8_addsRow_18 : decode cX8_addsRow 18 = .ok (.aload_n 0, 1) := by decide +kernel
theorem dX8_addsRow_19 : decode cX8_addsRow 19 = .ok (.getfield 7, 3) := by decide +kernel
theorem dX8_addsRow_22 : decode cX8_addsRow 22 = .ok (.bipush 104, 2) := by decide +kernel
theorem dX8_addsRow_24 : decode cX8_addsRow 24 = .ok (.iload_n 1, 1) := by decide +kernel
theorem dX8_addsRow_25 : decode cX8_addsRow 25 = .ok (.iadd, 1) := by decide +kernel
theorem dX8_addsRow_26 : decode cX8_addsRow 26 = .ok (.bipush 9, 2) := by decide +kernel
theorem dX8_addsRow_28 : decode cX8_addsRow 28 = .ok (.isub, 1) := by decide +kernel
theorem dX8_addsRow_29 : decode cX8_addsRow 29 = .ok (.iaload, 1) := by decide +kernel
theorem dX8_addsRow_30 : decode cX8_addsRow 30 = .ok (.iastore, 1) := by decide +kernel
theorem dX8_addsRow_31 : decode cX8_addsRow 31 = .ok (.iinc 1 (-1), 3) := by decide +kernel
theorem dX8_addsRow_34 : decode cX8_addsRow 34 = .ok (.goto (-30), 3) := by decide +kernel
theorem dX8_addsRow_37 : decode cX8_addsRow 37 = .ok (.aload_n 0, 1) := by decide +kernel
theorem dX8_addsRow_38 : decode cX8_addsRow 38 = .ok (.getfield 57, 3) := by decide +kernel
theorem dX8_addsRow_41 : decode cX8_addsRow 41 = .ok (.istore_n 1, 1) := by decide +kernel
theorem dX8_addsRow_42 : decode cX8_addsRow 42 = .ok (.aload_n 0, 1) := by decide +kernel
theorem dX8_addsRow_43 : decode cX8_addsRow 43 = .ok (.getfield 7, 3) := by decide +kernel
theorem dX8_addsRow_46 : decode cX8_addsRow 46 = .ok (.bipush 104, 2) := by decide +kernel
theorem dX8_addsRow_48 : decode cX8_addsRow 48 = .ok (.aload_n 0, 1) := by decide +kernel
theorem dX8_addsRow_49 : decode cX8_addsRow 49 = .ok (.iload_n 1, 1) := by decide +kernel
theorem dX8_addsRow_50 : decode cX8_addsRow 50 = .ok (.iconst 0, 1) := by decide +kernel
theorem dX8_addsRow_51 : decode cX8_addsRow 51 = .ok (.invokevirtual 44, 3) := by decide +kernel
theorem dX8_addsRow_54 : decode cX8_addsRow 54 = .ok (.iastore, 1) := by decide +kernel
theorem dX8_addsRow_55 : decode cX8_addsRow 55 = .ok (.aload_n 0, 1) := by decide +kernel
theorem dX8_addsRow_56 : decode cX8_addsRow 56 = .ok (.getfield 7, 3) := by decide +kernel
theorem dX8_addsRow_59 : decode cX8_addsRow 59 = .ok (.bipush 105, 2) := by decide +kernel
theorem dX8_addsRow_61 : decode cX8_addsRow 61 = .ok (.aload_n 0, 1) := by decide +kernel
theorem dX8_addsRow_62 : decode cX8_addsRow 62 = .ok (.aload_n 0, 1) := by decide +kernel
theorem dX8_addsRow_63 : decode cX8_addsRow 63 = .ok (.aload_n 0, 1) := by decide +kernel
theorem dX8_addsRow_64 : decode cX8_addsRow 64 = .ok (.getfield 7, 3) := by decide +kernel
theorem dX8_addsRow_67 : decode cX8_addsRow 67 = .ok (.iconst 1, 1) := by decide +kernel
theorem dX8_addsRow_68 : decode cX8_addsRow 68 = .ok (.iaload, 1) := by decide +kernel
theorem dX8_addsRow_69 : decode cX8_addsRow 69 = .ok (.iconst 0, 1) := by decide +kernel
theorem dX8_addsRow_70 : decode cX8_addsRow 70 = .ok (.invokevirtual 51, 3) := by decide +kernel
theorem dX8_addsRow_73 : decode cX8_addsRow 73 = .ok (.invokevirtual 75, 3) := by decide +kernel
theorem dX8_addsRow_76 : decode cX8_addsRow 76 = .ok (.iastore, 1) := by decide +kernel
theorem dX8_addsRow_77 : decode cX8_addsRow 77 = .ok (.aload_n 0, 1) := by decide +kernel
theorem dX8_addsRow_78 : decode cX8_addsRow 78 = .ok (.getfield 7, 3) := by decide +kernel
theorem dX8_addsRow_81 : decode cX8_addsRow 81 = .ok (.bipush 106, 2) := by decide +kernel
theorem dX8_addsRow_83 : decode cX8_addsRow 83 = .ok (.aload_n 0, 1) := by decide +kernel
theorem dX8_addsRow_84 : decode cX8_addsRow 84 = .ok (.getfield 7, 3) := by decide +kernel
theorem dX8_addsRow_87 : decode cX8_addsRow 87 = .ok (.iconst 1, 1) := by decide +kernel
theorem dX8_addsRow_88 : decode cX8_addsRow 88 = .ok (.iaload, 1) := by decide +kernel
theorem dX8_addsRow_89 : decode cX8_addsRow 89 = .ok (.iastore, 1) := by decide +kernel
theorem dX8_addsRow_90 : decode cX8_addsRow 90 = .ok (.aload_n 0, 1) := by decide +kernel
theorem dX8_addsRow_91 : decode cX8_addsRow 91 = .ok (.getfield 7, 3) := by decide +kernel
theorem dX8_addsRow_94 : decode cX8_addsRow 94 = .ok (.bipush 107, 2) := by decide +kernel
theorem dX8_addsRow_96 : decode cX8_addsRow 96 = .ok (.aload_n 0, 1) := by decide +kernel
theorem dX8_addsRow_97 : decode cX8_addsRow 97 = .ok (.getfield 7, 3) := by decide +kernel
theorem dX8_addsRow_100 : decode cX8_addsRow 100 = .ok (.iconst 3, 1) := by decide +kernel
theorem dX8_addsRow_101 : decode cX8_addsRow 101 = .ok (.iaload, 1) := by decide +kernel
theorem dX8_addsRow_102 : decode cX8_addsRow 102 = .ok (.iastore, 1) := by decide +kernel
theorem dX8_addsRow_103 : decode cX8_addsRow 103 = .ok (.aload_n 0, 1) := by decide +kernel
theorem dX8_addsRow_104 : decode cX8_addsRow 104 = .ok (.getfield 7, 3) := by decide +kernel
theorem dX8_addsRow_107 : decode cX8_addsRow 107 = .ok (.bipush 108, 2) := by decide +kernel
theorem dX8_addsRow_109 : decode cX8_addsRow 109 = .ok (.aload_n 0, 1) := by decide +kernel
theorem dX8_addsRow_110 : decode cX8_addsRow 110 = .ok (.getfield 7, 3) := by decide +kernel
theorem dX8_addsRow_113 : decode cX8_addsRow 113 = .ok (.iconst 4, 1) := by decide +kernel
theorem dX8_addsRow_114 : decode cX8_addsRow 114 = .ok (.iaload, 1) := by decide +kernel
theorem dX8_addsRow_115 : decode cX8_addsRow 115 = .ok (.iastore, 1) := by decide +kernel
theorem dX8_addsRow_116 : decode cX8_addsRow 116 = .ok (.aload_n 0, 1) := by decide +kernel
theorem dX8_addsRow_117 : decode cX8_addsRow 117 = .ok (.getfield 7, 3) := by decide +kernel
theorem dX8_addsRow_120 : decode cX8_addsRow 120 = .ok (.bipush 109, 2) := by decide +kernel
theorem dX8_addsRow_122 : decode cX8_addsRow 122 = .ok (.aload_n 0, 1) := by decide +kernel
theorem dX8_addsRow_123 : decode cX8_addsRow 123 = .ok (.getfield 7, 3) := by decide +kernel
theorem dX8_addsRow_126 : decode cX8_addsRow 126 = .ok (.iconst 5, 1) := by decide +kernel
theorem dX8_addsRow_127 : decode cX8_addsRow 127 = .ok (.iaload, 1) := by decide +kernel
theorem dX8_addsRow_128 : decode cX8_addsRow 128 = .ok (.iastore, 1) := by decide +kernel
theorem dX8_addsRow_129 : decode cX8_addsRow 129 = .ok (.aload_n 0, 1) := by decide +kernel
theorem dX8_addsRow_130 : decode cX8_addsRow 130 = .ok (.getfield 7, 3) := by decide +kernel
theorem dX8_addsRow_133 : decode cX8_addsRow 133 = .ok (.bipush 110, 2) := by decide +kernel
theorem dX8_addsRow_135 : decode cX8_addsRow 135 = .ok (.iload_n 1, 1) := by decide +kernel
theorem dX8_addsRow_136 : decode cX8_addsRow 136 = .ok (.iastore, 1) := by decide +kernel
theorem dX8_addsRow_137 : decode cX8_addsRow 137 = .ok (.aload_n 0, 1) := by decide +kernel
theorem dX8_addsRow_138 : decode cX8_addsRow 138 = .ok (.getfield 7, 3) := by decide +kernel
theorem dX8_addsRow_141 : decode cX8_addsRow 141 = .ok (.bipush 111, 2) := by decide +kernel
theorem dX8_addsRow_143 : decode cX8_addsRow 143 = .ok (.aload_n 0, 1) := by decide +kernel
theorem dX8_addsRow_144 : decode cX8_addsRow 144 = .ok (.iload_n 1, 1) := by decide +kernel
theorem dX8_addsRow_145 : decode cX8_addsRow 145 = .ok (.iconst 2, 1) := by decide +kernel
theorem dX8_addsRow_146 : decode cX8_addsRow 146 = .ok (.invokevirtual 44, 3) := by decide +kernel
theorem dX8_addsRow_149 : decode cX8_addsRow 149 = .ok (.iastore, 1) := by decide +kernel
theorem dX8_addsRow_150 : decode cX8_addsRow 150 = .ok (.aload_n 0, 1) := by decide +kernel
theorem dX8_addsRow_151 : decode cX8_addsRow 151 = .ok (.getfield 7, 3) := by decide +kernel
theorem dX8_addsRow_154 : decode cX8_addsRow 154 = .ok (.bipush 112, 2) := by decide +kernel
theorem dX8_addsRow_156 : decode cX8_addsRow 156 = .ok (.aload_n 0, 1) := by decide +kernel
theorem dX8_addsRow_157 : decode cX8_addsRow 157 = .ok (.iload_n 1, 1) := by decide +kernel
theorem dX8_addsRow_158 : decode cX8_addsRow 158 = .ok (.iconst 3, 1) := by decide +kernel
theorem dX8_addsRow_159 : decode cX8_addsRow 159 = .ok (.invokevirtual 44, 3) := by decide +kernel
theorem dX8_addsRow_162 : decode cX8_addsRow 162 = .ok (.iastore, 1) := by decide +kernel
theorem dX8_addsRow_163 : decode cX8_addsRow 163 = .ok (.aload_n 0, 1) := by decide +kernel
theorem dX8_addsRow_164 : decode cX8_addsRow 164 = .ok (.getfield 7, 3) := by decide +kernel
theorem dX8_addsRow_167 : decode cX8_addsRow 167 = .ok (.bipush 7, 2) := by decide +kernel
theorem dX8_addsRow_169 : decode cX8_addsRow 169 = .ok (.dup2, 1) := by decide +kernel
theorem dX8_addsRow_170 : decode cX8_addsRow 170 = .ok (.iaload, 1) := by decide +kernel
theorem dX8_addsRow_171 : decode cX8_addsRow 171 = .ok (.aload_n 0, 1) := by decide +kernel
theorem dX8_addsRow_172 : decode cX8_addsRow 172 = .ok (.getfield 7, 3) := by decide +kernel
theorem dX8_addsRow_175 : decode cX8_addsRow 175 = .ok (.bipush 7, 2) := by decide +kernel
theorem dX8_addsRow_177 : decode cX8_addsRow 177 = .ok (.iaload, 1) := by decide +kernel
theorem dX8_addsRow_178 : decode cX8_addsRow 178 = .ok (.bipush 20, 2) := by decide +kernel
theorem dX8_addsRow_180 : decode cX8_addsRow 180 = .ok (.if_icmp .ge 7, 3) := by decide +kernel
theorem dX8_addsRow_183 : decode cX8_addsRow 183 = .ok (.iconst 1, 1) := by decide +kernel
theorem dX8_addsRow_184 : decode cX8_addsRow 184 = .ok (.goto 4, 3) := by decide +kernel
theorem dX8_addsRow_187 : decode cX8_addsRow 187 = .ok (.iconst 0, 1) := by decide +kernel
theorem dX8_addsRow_188 : decode cX8_addsRow 188 = .ok (.iadd, 1) := by decide +kernel
theorem dX8_addsRow_189 : decode cX8_addsRow 189 = .ok (.iastore, 1) := by decide +kernel
theorem dX8_addsRow_190 : decode cX8_addsRow 190 = .ok (.aload_n 0, 1) := by decide +kernel
theorem dX8_addsRow_191 : decode cX8_addsRow 191 = .ok (.getfield 7, 3) := by decide +kernel
theorem dX8_addsRow_194 : decode cX8_addsRow 194 = .ok (.bipush 8, 2) := by decide +kernel
theorem dX8_addsRow_196 : decode cX8_addsRow 196 = .ok (.dup2, 1) := by decide +kernel
theorem dX8_addsRow_197 : decode cX8_addsRow 197 = .ok (.iaload, 1) := by decide +kernel
theorem dX8_addsRow_198 : decode cX8_addsRow 198 = .ok (.aload_n 0, 1) := by decide +kernel
theorem dX8_addsRow_199 : decode cX8_addsRow 199 = .ok (.getfield 7, 3) := by decide +kernel
theorem dX8_addsRow_202 : decode cX8_addsRow 202 = .ok (.bipush 8, 2) := by decide +kernel
theorem dX8_addsRow_204 : decode cX8_addsRow 204 = .ok (.iaload, 1) := by decide +kernel
theorem dX8_addsRow_205 : decode cX8_addsRow 205 = .ok (.bipush 20, 2) := by decide +kernel
theorem dX8_addsRow_207 : decode cX8_addsRow 207 = .ok (.if_icmp .ge 7, 3) := by decide +kernel
theorem dX8_addsRow_210 : decode cX8_addsRow 210 = .ok (.iconst 1, 1) := by decide +kernel
theorem dX8_addsRow_211 : decode cX8_addsRow 211 = .ok (.goto 4, 3) := by decide +kernel
theorem dX8_addsRow_214 : decode cX8_addsRow 214 = .ok (.iconst 0, 1) := by decide +kernel
theorem dX8_addsRow_215 : decode cX8_addsRow 215 = .ok (.iadd, 1) := by decide +kernel
theorem dX8_addsRow_216 : decode cX8_addsRow 216 = .ok (.iastore, 1) := by decide +kernel
theorem dX8_addsRow_217 : decode cX8_addsRow 217 = .ok (.aload_n 0, 1) := by decide +kernel
theorem dX8_addsRow_218 : decode cX8_addsRow 218 = .ok (.getfield 7, 3) := by decide +kernel
theorem dX8_addsRow_221 : decode cX8_addsRow 221 = .ok (.bipush 6, 2) := by decide +kernel
theorem dX8_addsRow_223 : decode cX8_addsRow 223 = .ok (.dup2, 1) := by decide +kernel
theorem dX8_addsRow_224 : decode cX8_addsRow 224 = .ok (.iaload, 1) := by decide +kernel
theorem dX8_addsRow_225 : decode cX8_addsRow 225 = .ok (.iconst 1, 1) := by decide +kernel
theorem dX8_addsRow_226 : decode cX8_addsRow 226 = .ok (.iadd, 1) := by decide +kernel
theorem dX8_addsRow_227 : decode cX8_addsRow 227 = .ok (.iastore, 1) := by decide +kernel
theorem dX8_addsRow_228 : decode cX8_addsRow 228 = .ok (.return_, 1) := by decide +kernel
theorem dX8_weave_0 : decode cX8_weave 0 = .ok (.iload_n 1, 1) := by decide +kernel
theorem dX8_weave_1 : decode cX8_weave 1 = .ok (.iconst 1, 1) := by decide +kernel
theorem dX8_weave_2 : decode cX8_weave 2 = .ok (.bipush 99, 2) := by decide +kernel
theorem dX8_weave_4 : decode cX8_weave 4 = .ok (.invokestatic 40, 3) := by decide +kernel
theorem dX8_weave_7 : decode cX8_weave 7 = .ok (.ifCond .ne 6, 3) := by decide +kernel
theorem dX8_weave_10 : decode cX8_weave 10 = .ok (.bipush (-2), 2) := by decide +kernel
theorem dX8_weave_12 : decode cX8_weave 12 = .ok (.ireturn, 1) := by decide +kernel
theorem dX8_weave_13 : decode cX8_weave 13 = .ok (.aload_n 0, 1) := by decide +kernel
theorem dX8_weave_14 : decode cX8_weave 14 = .ok (.invokevirtual 37, 3) := by decide +kernel
theorem dX8_weave_17 : decode cX8_weave 17 = .ok (.iconst 0, 1) := by decide +kernel
theorem dX8_weave_18 : decode cX8_weave 18 = .ok (.istore_n 2, 1) := by decide +kernel
theorem dX8_weave_19 : decode cX8_weave 19 = .ok (.aload_n 0, 1) := by decide +kernel
theorem dX8_weave_20 : decode cX8_weave 20 = .ok (.iconst 1, 1) := by decide +kernel
theorem dX8_weave_21 : decode cX8_weave 21 = .ok (.invokevirtual 79, 3) := by decide +kernel
theorem dX8_weave_24 : decode cX8_weave 24 = .ok (.iload_n 2, 1) := by decide +kernel
theorem dX8_weave_25 : decode cX8_weave 25 = .ok (.iload_n 1, 1) := by decide +kernel
theorem dX8_weave_26 : decode cX8_weave 26 = .ok (.if_icmp .ge 29, 3) := by decide +kernel
theorem dX8_weave_29 : decode cX8_weave 29 = .ok (.aload_n 0, 1) := by decide +kernel
theorem dX8_weave_30 : decode cX8_weave 30 = .ok (.getfield 54, 3) := by decide +kernel
theorem dX8_weave_33 : decode cX8_weave 33 = .ok (.ifCond .ne 22, 3) := by decide +kernel
theorem dX8_weave_36 : decode cX8_weave 36 = .ok (.aload_n 0, 1) := by decide +kernel
theorem dX8_weave_37 : decode cX8_weave 37 = .ok (.invokevirtual 83, 3) := by decide +kernel
theorem dX8_weave_40 : decode cX8_weave 40 = .ok (.aload_n 0, 1) := by decide +kernel
theorem dX8_weave_41 : decode cX8_weave 41 = .ok (.invokevirtual 86, 3) := by decide +kernel
theorem dX8_weave_44 : decode cX8_weave 44 = .ok (.iinc 2 1, 3) := by decide +kernel
theorem dX8_weave_47 : decode cX8_weave 47 = .ok (.aload_n 0, 1) := by decide +kernel
theorem dX8_weave_48 : decode cX8_weave 48 = .ok (.iconst 1, 1) := by decide +kernel
theorem dX8_weave_49 : decode cX8_weave 49 = .ok (.invokevirtual 79, 3) := by decide +kernel
theorem dX8_weave_52 : decode cX8_weave 52 = .ok (.goto (-28), 3) := by decide +kernel
theorem dX8_weave_55 : decode cX8_weave 55 = .ok (.iload_n 2, 1) := by decide +kernel
theorem dX8_weave_56 : decode cX8_weave 56 = .ok (.iload_n 1, 1) := by decide +kernel
theorem dX8_weave_57 : decode cX8_weave 57 = .ok (.if_icmp .ge 36, 3) := by decide +kernel
theorem dX8_weave_60 : decode cX8_weave 60 = .ok (.aload_n 0, 1) := by decide +kernel
theorem dX8_weave_61 : decode cX8_weave 61 = .ok (.getfield 7, 3) := by decide +kernel
theorem dX8_weave_64 : decode cX8_weave 64 = .ok (.bipush 9, 2) := by decide +kernel
theorem dX8_weave_66 : decode cX8_weave 66 = .ok (.aload_n 0, 1) := by decide +kernel
theorem dX8_weave_67 : decode cX8_weave 67 = .ok (.getfield 54, 3) := by decide +kernel
theorem dX8_weave_70 : decode cX8_weave 70 = .ok (.iastore, 1) := by decide +kernel
theorem dX8_weave_71 : decode cX8_weave 71 = .ok (.aload_n 0, 1) := by decide +kernel
theorem dX8_weave_72 : decode cX8_weave 72 = .ok (.getfield 7, 3) := by decide +kernel
theorem dX8_weave_75 : decode cX8_weave 75 = .ok (.bipush 10, 2) := by decide +kernel
theorem dX8_weave_77 : decode cX8_weave 77 = .ok (.aload_n 0, 1) := by decide +kernel
theorem dX8_weave_78 : decode cX8_weave 78 = .ok (.getfield 57, 3) := by decide +kernel
theorem dX8_weave_81 : decode cX8_weave 81 = .ok (.iastore, 1) := by decide +kernel
theorem dX8_weave_82 : decode cX8_weave 82 = .ok (.aload_n 0, 1) := by decide +kernel
theorem dX8_weave_83 : decode cX8_weave 83 = .ok (.getfield 7, 3) := by decide +kernel
theorem dX8_weave_86 : decode cX8_weave 86 = .ok (.bipush 11, 2) := by decide +kernel
theorem dX8_weave_88 : decode cX8_weave 88 = .ok (.dup2, 1) := by decide +kernel
theorem dX8_weave_89 : decode cX8_weave 89 = .ok (.iaload, 1) := by decide +kernel
theorem dX8_weave_90 : decode cX8_weave 90 = .ok (.iconst 1, 1) := by decide +kernel
theorem dX8_weave_91 : decode cX8_weave 91 = .ok (.iadd, 1) := by decide +kernel
theorem dX8_weave_92 : decode cX8_weave 92 = .ok (.iastore, 1) := by decide +kernel
theorem dX8_weave_93 : decode cX8_weave 93 = .ok (.iload_n 2, 1) := by decide +kernel
theorem dX8_weave_94 : decode cX8_weave 94 = .ok (.ireturn, 1) := by decide +kernel
theorem dX8_takeBack_0 : decode cX8_takeBack 0 = .ok (.aload_n 0, 1) := by decide +kernel
theorem dX8_takeBack_1 : decode cX8_takeBack 1 = .ok (.getfield 7, 3) := by decide +kernel
theorem dX8_takeBack_4 : decode cX8_takeBack 4 = .ok (.bipush 8, 2) := by decide +kernel
theorem dX8_takeBack_6 : decode cX8_takeBack 6 = .ok (.iaload, 1) := by decide +kernel
theorem dX8_takeBack_7 : decode cX8_takeBack 7 = .ok (.ifCond .ne 6, 3) := by decide +kernel
theorem dX8_takeBack_10 : decode cX8_takeBack 10 = .ok (.bipush (-3), 2) := by decide +kernel
theorem dX8_takeBack_12 : decode cX8_takeBack 12 = .ok (.ireturn, 1) := by decide +kernel
theorem dX8_takeBack_13 : decode cX8_takeBack 13 = .ok (.aload_n 0, 1) := by decide +kernel
theorem dX8_takeBack_14 : decode cX8_takeBack 14 = .ok (.invokevirtual 37, 3) := by decide +kernel
theorem dX8_takeBack_17 : decode cX8_takeBack 17 = .ok (.aload_n 0, 1) := by decide +kernel
theorem dX8_takeBack_18 : decode cX8_takeBack 18 = .ok (.iconst 0, 1) := by decide +kernel
theorem dX8_takeBack_19 : decode cX8_takeBack 19 = .ok (.bipush 6, 2) := by decide +kernel
theorem dX8_takeBack_21 : decode cX8_takeBack 21 = .ok (.invokevirtual 89, 3) := by decide +kernel
theorem dX8_takeBack_24 : decode cX8_takeBack 24 = .ok (.istore_n 1, 1) := by decide +kernel
theorem dX8_takeBack_25 : decode cX8_takeBack 25 = .ok (.aload_n 0, 1) := by decide +kernel
theorem dX8_takeBack_26 : decode cX8_takeBack 26 = .ok (.getfield 7, 3) := by decide +kernel
theorem dX8_takeBack_29 : decode cX8_takeBack 29 = .ok (.iconst 1, 1) := by decide +kernel
theorem dX8_takeBack_30 : decode cX8_takeBack 30 = .ok (.aload_n 0, 1) := by decide +kernel
theorem dX8_takeBack_31 : decode cX8_takeBack 31 = .ok (.iconst 0, 1) := by decide +kernel
theorem dX8_takeBack_32 : decode cX8_takeBack 32 = .ok (.iconst 2, 1) := by decide +kernel
theorem dX8_takeBack_33 : decode cX8_takeBack 33 = .ok (.invokevirtual 89, 3) := by decide +kernel
theorem dX8_takeBack_36 : decode cX8_takeBack 36 = .ok (.iastore, 1) := by decide +kernel
theorem dX8_takeBack_37 : decode cX8_takeBack 37 = .ok (.aload_n 0, 1) := by decide +kernel
theorem dX8_takeBack_38 : decode cX8_takeBack 38 = .ok (.getfield 7, 3) := by decide +kernel
theorem dX8_takeBack_41 : decode cX8_takeBack 41 = .ok (.iconst 3, 1) := by decide +kernel
theorem dX8_takeBack_42 : decode cX8_takeBack 42 = .ok (.aload_n 0, 1) := by decide +kernel
theorem dX8_takeBack_43 : decode cX8_takeBack 43 = .ok (.iconst 0, 1) := by decide +kernel
theorem dX8_takeBack_44 : decode cX8_takeBack 44 = .ok (.iconst 3, 1) := by decide +kernel
theorem dX8_takeBack_45 : decode cX8_takeBack 45 = .ok (.invokevirtual 89, 3) := by decide +kernel
theorem dX8_takeBack_48 : decode cX8_takeBack 48 = .ok (.iastore, 1) := by decide +kernel
theorem dX8_takeBack_49 : decode cX8_takeBack 49 = .ok (.aload_n 0, 1) := by decide +kernel
theorem dX8_takeBack_50 : decode cX8_takeBack 50 = .ok (.getfield 7, 3) := by decide +kernel
theorem dX8_takeBack_53 : decode cX8_takeBack 53 = .ok (.iconst 4, 1) := by decide +kernel
theorem dX8_takeBack_54 : decode cX8_takeBack 54 = .ok (.aload_n 0, 1) := by decide +kernel
theorem dX8_takeBack_55 : decode cX8_takeBack 55 = .ok (.iconst 0, 1) := by decide +kernel
theorem dX8_takeBack_56 : decode cX8_takeBack 56 = .ok (.iconst 4, 1) := by decide +kernel
theorem dX8_takeBack_57 : decode cX8_takeBack 57 = .ok (.invokevirtual 89, 3) := by decide +kernel
theorem dX8_takeBack_60 : decode cX8_takeBack 60 = .ok (.iastore, 1) := by decide +kernel
theorem dX8_takeBack_61 : decode cX8_takeBack 61 = .ok (.aload_n 0, 1) := by decide +kernel
theorem dX8_takeBack_62 : decode cX8_takeBack 62 = .ok (.getfield 7, 3) := by decide +kernel
theorem dX8_takeBack_65 : decode cX8_takeBack 65 = .ok (.iconst 5, 1) := by decide +kernel
theorem dX8_takeBack_66 : decode cX8_takeBack 66 = .ok (.aload_n 0, 1) := by decide +kernel
theorem dX8_takeBack_67 : decode cX8_takeBack 67 = .ok (.iconst 0, 1) := by decide +kernel
theorem dX8_takeBack_68 : decode cX8_takeBack 68 = .ok (.iconst 5, 1) := by decide +kernel
theorem dX8_takeBack_69 : decode cX8_takeBack 69 = .ok (.invokevirtual 89, 3) := by decide +kernel
theorem dX8_takeBack_72 : decode cX8_takeBack 72 = .ok (.iastore, 1) := by decide +kernel
theorem dX8_takeBack_73 : decode cX8_takeBack 73 = .ok (.aload_n 0, 1) := by decide +kernel
theorem dX8_takeBack_74 : decode cX8_takeBack 74 = .ok (.iload_n 1, 1) := by decide +kernel
theorem dX8_takeBack_75 : decode cX8_takeBack 75 = .ok (.iconst 2, 1) := by decide +kernel
theorem dX8_takeBack_76 : decode cX8_takeBack 76 = .ok (.aload_n 0, 1) := by decide +kernel
theorem dX8_takeBack_77 : decode cX8_takeBack 77 = .ok (.iconst 0, 1) := by decide +kernel
theorem dX8_takeBack_78 : decode cX8_takeBack 78 = .ok (.bipush 7, 2) := by decide +kernel
theorem dX8_takeBack_80 : decode cX8_takeBack 80 = .ok (.invokevirtual 89, 3) := by decide +kernel
theorem dX8_takeBack_83 : decode cX8_takeBack 83 = .ok (.invokevirtual 22, 3) := by decide +kernel
theorem dX8_takeBack_86 : decode cX8_takeBack 86 = .ok (.aload_n 0, 1) := by decide +kernel
theorem dX8_takeBack_87 : decode cX8_takeBack 87 = .ok (.iload_n 1, 1) := by decide +kernel
theorem dX8_takeBack_88 : decode cX8_takeBack 88 = .ok (.iconst 3, 1) := by decide +kernel
theorem dX8_takeBack_89 : decode cX8_takeBack 89 = .ok (.aload_n 0, 1) := by decide +kernel
theorem dX8_takeBack_90 : decode cX8_takeBack 90 = .ok (.iconst 0, 1) := by decide +kernel
theorem dX8_takeBack_91 : decode cX8_takeBack 91 = .ok (.bipush 8, 2) := by decide +kernel
theorem dX8_takeBack_93 : decode cX8_takeBack 93 = .ok (.invokevirtual 89, 3) := by decide +kernel
theorem dX8_takeBack_96 : decode cX8_takeBack 96 = .ok (.invokevirtual 22, 3) := by decide +kernel
theorem dX8_takeBack_99 : decode cX8_takeBack 99 = .ok (.aload_n 0, 1) := by decide +kernel
theorem dX8_takeBack_100 : decode cX8_takeBack 100 = .ok (.iload_n 1, 1) := by decide +kernel
theorem dX8_takeBack_101 : decode cX8_takeBack 101 = .ok (.iconst 1, 1) := by decide +kernel
theorem dX8_takeBack_102 : decode cX8_takeBack 102 = .ok (.aload_n 0, 1) := by decide +kernel
theorem dX8_takeBack_103 : decode cX8_takeBack 103 = .ok (.iload_n 1, 1) := by decide +kernel
theorem dX8_takeBack_104 : decode cX8_takeBack 104 = .ok (.iconst 1, 1) := by decide +kernel
theorem dX8_takeBack_105 : decode cX8_takeBack 105 = .ok (.invokevirtual 44, 3) := by decide +kernel
theorem dX8_takeBack_108 : decode cX8_takeBack 108 = .ok (.iconst 1, 1) := by decide +kernel
theorem dX8_takeBack_109 : decode cX8_takeBack 109 = .ok (.iadd, 1) := by decide +kernel
theorem dX8_takeBack_110 : decode cX8_takeBack 110 = .ok (.invokevirtual 22, 3) := by decide +kernel
theorem dX8_takeBack_113 : decode cX8_takeBack 113 = .ok (.iconst 0, 1) := by decide +kernel
theorem dX8_takeBack_114 : decode cX8_takeBack 114 = .ok (.istore_n 2, 1) := by decide +kernel
theorem dX8_takeBack_115 : decode cX8_takeBack 115 = .ok (.iload_n 2, 1) := by decide +kernel
theorem dX8_takeBack_116 : decode cX8_takeBack 116 = .ok (.sipush 171, 3) := by decide +kernel
theorem dX8_takeBack_119 : decode cX8_takeBack 119 = .ok (.if_icmp .ge 30, 3) := by decide +kernel
theorem dX8_takeBack_122 : decode cX8_takeBack 122 = .ok (.aload_n 0, 1) := by decide +kernel
theorem dX8_takeBack_123 : decode cX8_takeBack 123 = .ok (.getfield 7, 3) := by decide +kernel
theorem dX8_takeBack_126 : decode cX8_takeBack 126 = .ok (.bipush 104, 2) := by decide +kernel
theorem dX8_takeBack_128 : decode cX8_takeBack 128 = .ok (.iload_n 2, 1) := by decide +kernel
theorem dX8_takeBack_129 : decode cX8_takeBack 129 = .ok (.iadd, 1) := by decide +kernel
theorem dX8_takeBack_130 : decode cX8_takeBack 130 = .ok (.aload_n 0, 1) := by decide +kernel
theorem dX8_takeBack_131 : decode cX8_takeBack 131 = .ok (.getfield 7, 3) := by decide +kernel
theorem dX8_takeBack_134 : decode cX8_takeBack 134 = .ok (.bipush 104, 2) := by decide +kernel
theorem dX8_takeBack_136 : decode cX8_takeBack 136 = .ok (.iload_n 2, 1) := by decide +kernel
theorem dX8_takeBack_137 : decode cX8_takeBack 137 = .ok (.iadd, 1) := by decide +kernel
theorem dX8_takeBack_138 : decode cX8_takeBack 138 = .ok (.bipush 9, 2) := by decide +kernel
theorem dX8_takeBack_140 : decode cX8_takeBack 140 = .ok (.iadd, 1) := by decide +kernel
theorem dX8_takeBack_141 : decode cX8_takeBack 141 = .ok (.iaload, 1) := by decide +kernel
theorem dX8_takeBack_142 : decode cX8_takeBack 142 = .ok (.iastore, 1) := by decide +kernel
theorem dX8_takeBack_143 : decode cX8_takeBack 143 = .ok (.iinc 2 1, 3) := by decide +kernel
theorem dX8_takeBack_146 : decode cX8_takeBack 146 = .ok (.goto (-31), 3) := by decide +kernel
theorem dX8_takeBack_149 : decode cX8_takeBack 149 = .ok (.iconst 0, 1) := by decide +kernel
theorem dX8_takeBack_150 : decode cX8_takeBack 150 = .ok (.istore_n 2, 1) := by decide +kernel
theorem dX8_takeBack_151 : decode cX8_takeBack 151 = .ok (.iload_n 2, 1) := by decide +kernel
theorem dX8_takeBack_152 : decode cX8_takeBack 152 = .ok (.bipush 9, 2) := by decide +kernel
theorem dX8_takeBack_154 : decode cX8_takeBack 154 = .ok (.if_icmp .ge 20, 3) := by decide +kernel
theorem dX8_takeBack_157 : decode cX8_takeBack 157 = .ok (.aload_n 0, 1) := by decide +kernel
theorem dX8_takeBack_158 : decode cX8_takeBack 158 = .ok (.getfield 7, 3) := by decide +kernel
theorem dX8_takeBack_161 : decode cX8_takeBack 161 = .ok (.sipush 275, 3) := by decide +kernel
theorem dX8_takeBack_164 : decode cX8_takeBack 164 = .ok (.iload_n 2, 1) := by decide +kernel
theorem dX8_takeBack_165 : decode cX8_takeBack 165 = .ok (.iadd, 1) := by decide +kernel
theorem dX8_takeBack_166 : decode cX8_takeBack 166 = .ok (.iconst 0, 1) := by decide +kernel
theorem dX8_takeBack_167 : decode cX8_takeBack 167 = .ok (.iastore, 1) := by decide +kernel
theorem dX8_takeBack_168 : decode cX8_takeBack 168 = .ok (.iinc 2 1, 3) := by decide +kernel
theorem dX8_takeBack_171 : decode cX8_takeBack 171 = .ok (.goto (-20), 3) := by decide +kernel
theorem dX8_takeBack_174 : decode cX8_takeBack 174 = .ok (.aload_n 0, 1) := by decide +kernel
theorem dX8_takeBack_175 : decode cX8_takeBack 175 = .ok (.getfield 7, 3) := by decide +kernel
theorem dX8_takeBack_178 : decode cX8_takeBack 178 = .ok (.bipush 7, 2) := by decide +kernel
theorem dX8_takeBack_180 : decode cX8_takeBack 180 = .ok (.dup2, 1) := by decide +kernel
theorem dX8_takeBack_181 : decode cX8_takeBack 181 = .ok (.iaload, 1) := by decide +kernel
theorem dX8_takeBack_182 : decode cX8_takeBack 182 = .ok (.iconst 1, 1) := by decide +kernel
theorem dX8_takeBack_183 : decode cX8_takeBack 183 = .ok (.isub, 1) := by decide +kernel
theorem dX8_takeBack_184 : decode cX8_takeBack 184 = .ok (.iastore, 1) := by decide +kernel
theorem dX8_takeBack_185 : decode cX8_takeBack 185 = .ok (.aload_n 0, 1) := by decide +kernel
theorem dX8_takeBack_186 : decode cX8_takeBack 186 = .ok (.getfield 7, 3) := by decide +kernel
theorem dX8_takeBack_189 : decode cX8_takeBack 189 = .ok (.bipush 8, 2) := by decide +kernel
theorem dX8_takeBack_191 : decode cX8_takeBack 191 = .ok (.dup2, 1) := by decide +kernel
theorem dX8_takeBack_192 : decode cX8_takeBack 192 = .ok (.iaload, 1) := by decide +kernel
theorem dX8_takeBack_193 : decode cX8_takeBack 193 = .ok (.iconst 1, 1) := by decide +kernel
theorem dX8_takeBack_194 : decode cX8_takeBack 194 = .ok (.isub, 1) := by decide +kernel
theorem dX8_takeBack_195 : decode cX8_takeBack 195 = .ok (.iastore, 1) := by decide +kernel
theorem dX8_takeBack_196 : decode cX8_takeBack 196 = .ok (.aload_n 0, 1) := by decide +kernel
theorem dX8_takeBack_197 : decode cX8_takeBack 197 = .ok (.getfield 7, 3) := by decide +kernel
theorem dX8_takeBack_200 : decode cX8_takeBack 200 = .ok (.bipush 6, 2) := by decide +kernel
theorem dX8_takeBack_202 : decode cX8_takeBack 202 = .ok (.dup2, 1) := by decide +kernel
theorem dX8_takeBack_203 : decode cX8_takeBack 203 = .ok (.iaload, 1) := by decide +kernel
theorem dX8_takeBack_204 : decode cX8_takeBack 204 = .ok (.iconst 1, 1) := by decide +kernel
theorem dX8_takeBack_205 : decode cX8_takeBack 205 = .ok (.isub, 1) := by decide +kernel
theorem dX8_takeBack_206 : decode cX8_takeBack 206 = .ok (.iastore, 1) := by decide +kernel
theorem dX8_takeBack_207 : decode cX8_takeBack 207 = .ok (.aload_n 0, 1) := by decide +kernel
theorem dX8_takeBack_208 : decode cX8_takeBack 208 = .ok (.getfield 7, 3) := by decide +kernel
theorem dX8_takeBack_211 : decode cX8_takeBack 211 = .ok (.iconst 1, 1) := by decide +kernel
theorem dX8_takeBack_212 : decode cX8_takeBack 212 = .ok (.iaload, 1) := by decide +kernel
theorem dX8_takeBack_213 : decode cX8_takeBack 213 = .ok (.ireturn, 1) := by decide +kernel
theorem dX8_inBoxes_0 : decode cX8_inBoxes 0 = .ok (.iconst 0, 1) := by decide +kernel
theorem dX8_inBoxes_1 : decode cX8_inBoxes 1 = .ok (.istore_n 1, 1) := by decide +kernel
theorem dX8_inBoxes_2 : decode cX8_inBoxes 2 = .ok (.iconst 0, 1) := by decide +kernel
theorem dX8_inBoxes_3 : decode cX8_inBoxes 3 = .ok (.istore_n 2, 1) := by decide +kernel
theorem dX8_inBoxes_4 : decode cX8_inBoxes 4 = .ok (.iload_n 2, 1) := by decide +kernel
theorem dX8_inBoxes_5 : decode cX8_inBoxes 5 = .ok (.iconst 5, 1) := by decide +kernel
theorem dX8_inBoxes_6 : decode cX8_inBoxes 6 = .ok (.if_icmp .ge 28, 3) := by decide +kernel
theorem dX8_inBoxes_9 : decode cX8_inBoxes 9 = .ok (.iload_n 1, 1) := by decide +kernel
theorem dX8_inBoxes_10 : decode cX8_inBoxes 10 = .ok (.aload_n 0, 1) := by decide +kernel
theorem dX8_inBoxes_11 : decode cX8_inBoxes 11 = .ok (.iload_n 2, 1) := by decide +kernel
theorem dX8_inBoxes_12 : decode cX8_inBoxes 12 = .ok (.iconst 2, 1) := by decide +kernel
theorem dX8_inBoxes_13 : decode cX8_inBoxes 13 = .ok (.invokevirtual 44, 3) := by decide +kernel
theorem dX8_inBoxes_16 : decode cX8_inBoxes 16 = .ok (.bipush (-6), 2) := by decide +kernel
theorem dX8_inBoxes_18 : decode cX8_inBoxes 18 = .ok (.if_icmp .ne 7, 3) := by decide +kernel
theorem dX8_inBoxes_21 : decode cX8_inBoxes 21 = .ok (.iconst 0, 1) := by decide +kernel
theorem dX8_inBoxes_22 : decode cX8_inBoxes 22 = .ok (.goto 4, 3) := by decide +kernel
theorem dX8_inBoxes_25 : decode cX8_inBoxes 25 = .ok (.iconst 1, 1) := by decide +kernel
theorem dX8_inBoxes_26 : decode cX8_inBoxes 26 = .ok (.iadd, 1) := by decide +kernel
theorem dX8_inBoxes_27 : decode cX8_inBoxes 27 = .ok (.istore_n 1, 1) := by decide +kernel
theorem dX8_inBoxes_28 : decode cX8_inBoxes 28 = .ok (.iinc 2 1, 3) := by decide +kernel
theorem dX8_inBoxes_31 : decode cX8_inBoxes 31 = .ok (.goto (-27), 3) := by decide +kernel
theorem dX8_inBoxes_34 : decode cX8_inBoxes 34 = .ok (.iload_n 1, 1) := by decide +kernel
theorem dX8_inBoxes_35 : decode cX8_inBoxes 35 = .ok (.ireturn, 1) := by decide +kernel
theorem dX8_putIn_0 : decode cX8_putIn 0 = .ok (.iload_n 1, 1) := by decide +kernel
theorem dX8_putIn_1 : decode cX8_putIn 1 = .ok (.invokestatic 92, 3) := by decide +kernel
theorem dX8_putIn_4 : decode cX8_putIn 4 = .ok (.ifCond .eq 11, 3) := by decide +kernel
theorem dX8_putIn_7 : decode cX8_putIn 7 = .ok (.iload_n 2, 1) := by decide +kernel
theorem dX8_putIn_8 : decode cX8_putIn 8 = .ok (.iload_n 3, 1) := by decide +kernel
theorem dX8_putIn_9 : decode cX8_putIn 9 = .ok (.invokestatic 95, 3) := by decide +kernel
theorem dX8_putIn_12 : decode cX8_putIn 12 = .ok (.ifCond .ne 5, 3) := by decide +kernel
theorem dX8_putIn_15 : decode cX8_putIn 15 = .ok (.iconst (-1), 1) := by decide +kernel
theorem dX8_putIn_16 : decode cX8_putIn 16 = .ok (.ireturn, 1) := by decide +kernel
theorem dX8_putIn_17 : decode cX8_putIn 17 = .ok (.aload_n 0, 1) := by decide +kernel
theorem dX8_putIn_18 : decode cX8_putIn 18 = .ok (.iload_n 1, 1) := by decide +kernel
theorem dX8_putIn_19 : decode cX8_putIn 19 = .ok (.iconst 2, 1) := by decide +kernel
theorem dX8_putIn_20 : decode cX8_putIn 20 = .ok (.invokevirtual 44, 3) := by decide +kernel
theorem dX8_putIn_23 : decode cX8_putIn 23 = .ok (.bipush (-6), 2) := by decide +kernel
theorem dX8_putIn_25 : decode cX8_putIn 25 = .ok (.if_icmp .ne 14, 3) := by decide +kernel
theorem dX8_putIn_28 : decode cX8_putIn 28 = .ok (.aload_n 0, 1) := by decide +kernel
theorem dX8_putIn_29 : decode cX8_putIn 29 = .ok (.iload_n 2, 1) := by decide +kernel
theorem dX8_putIn_30 : decode cX8_putIn 30 = .ok (.iload_n 3, 1) := by decide +kernel
theorem dX8_putIn_31 : decode cX8_putIn 31 = .ok (.invokevirtual 60, 3) := by decide +kernel
theorem dX8_putIn_34 : decode cX8_putIn 34 = .ok (.bipush (-6), 2) := by decide +kernel
theorem dX8_putIn_36 : decode cX8_putIn 36 = .ok (.if_icmp .eq 6, 3) := by decide +kernel
theorem dX8_putIn_39 : decode cX8_putIn 39 = .ok (.bipush (-3), 2) := by decide +kernel
theorem dX8_putIn_41 : decode cX8_putIn 41 = .ok (.ireturn, 1) := by decide +kernel
theorem dX8_putIn_42 : decode cX8_putIn 42 = .ok (.aload_n 0, 1) := by decide +kernel
theorem dX8_putIn_43 : decode cX8_putIn 43 = .ok (.invokevirtual 99, 3) := by decide +kernel
theorem dX8_putIn_46 : decode cX8_putIn 46 = .ok (.aload_n 0, 1) := by decide +kernel
theorem dX8_putIn_47 : decode cX8_putIn 47 = .ok (.iload_n 1, 1) := by decide +kernel
theorem dX8_putIn_48 : decode cX8_putIn 48 = .ok (.iconst 2, 1) := by decide +kernel
theorem dX8_putIn_49 : decode cX8_putIn 49 = .ok (.iload_n 2, 1) := by decide +kernel
theorem dX8_putIn_50 : decode cX8_putIn 50 = .ok (.invokevirtual 22, 3) := by decide +kernel
theorem dX8_putIn_53 : decode cX8_putIn 53 = .ok (.aload_n 0, 1) := by decide +kernel
theorem dX8_putIn_54 : decode cX8_putIn 54 = .ok (.iload_n 1, 1) := by decide +kernel
theorem dX8_putIn_55 : decode cX8_putIn 55 = .ok (.iconst 3, 1) := by decide +kernel
theorem dX8_putIn_56 : decode cX8_putIn 56 = .ok (.iload_n 3, 1) := by decide +kernel
theorem dX8_putIn_57 : decode cX8_putIn 57 = .ok (.invokevirtual 22, 3) := by decide +kernel
theorem dX8_putIn_60 : decode cX8_putIn 60 = .ok (.aload_n 0, 1) := by decide +kernel
theorem dX8_putIn_61 : decode cX8_putIn 61 = .ok (.invokevirtual 102, 3) := by decide +kernel
theorem dX8_putIn_64 : decode cX8_putIn 64 = .ok (.ireturn, 1) := by decide +kernel
theorem dX8_takeOut_0 : decode cX8_takeOut 0 = .ok (.iload_n 1, 1) := by decide +kernel
theorem dX8_takeOut_1 : decode cX8_takeOut 1 = .ok (.invokestatic 92, 3) := by decide +kernel
theorem dX8_takeOut_4 : decode cX8_takeOut 4 = .ok (.ifCond .ne 5, 3) := by decide +kernel
theorem dX8_takeOut_7 : decode cX8_takeOut 7 = .ok (.iconst (-1), 1) := by decide +kernel
theorem dX8_takeOut_8 : decode cX8_takeOut 8 = .ok (.ireturn, 1) := by decide +kernel
theorem dX8_takeOut_9 : decode cX8_takeOut 9 = .ok (.aload_n 0, 1) := by decide +kernel
theorem dX8_takeOut_10 : decode cX8_takeOut 10 = .ok (.iload_n 1, 1) := by decide +kernel
theorem dX8_takeOut_11 : decode cX8_takeOut 11 = .ok (.iconst 2, 1) := by decide +kernel
theorem dX8_takeOut_12 : decode cX8_takeOut 12 = .ok (.invokevirtual 44, 3) := by decide +kernel
theorem dX8_takeOut_15 : decode cX8_takeOut 15 = .ok (.bipush (-6), 2) := by decide +kernel
theorem dX8_takeOut_17 : decode cX8_takeOut 17 = .ok (.if_icmp .ne 6, 3) := by decide +kernel
theorem dX8_takeOut_20 : decode cX8_takeOut 20 = .ok (.bipush (-3), 2) := by decide +kernel
theorem dX8_takeOut_22 : decode cX8_takeOut 22 = .ok (.ireturn, 1) := by decide +kernel
theorem dX8_takeOut_23 : decode cX8_takeOut 23 = .ok (.aload_n 0, 1) := by decide +kernel
theorem dX8_takeOut_24 : decode cX8_takeOut 24 = .ok (.invokevirtual 99, 3) := by decide +kernel
theorem dX8_takeOut_27 : decode cX8_takeOut 27 = .ok (.bipush 10, 2) := by decide +kernel
theorem dX8_takeOut_29 : decode cX8_takeOut 29 = .ok (.aload_n 0, 1) := by decide +kernel
theorem dX8_takeOut_30 : decode cX8_takeOut 30 = .ok (.iload_n 1, 1) := by decide +kernel
theorem dX8_takeOut_31 : decode cX8_takeOut 31 = .ok (.iconst 2, 1) := by decide +kernel
theorem dX8_takeOut_32 : decode cX8_takeOut 32 = .ok (.invokevirtual 44, 3) := by decide +kernel
theorem dX8_takeOut_35 : decode cX8_takeOut 35 = .ok (.imul, 1) := by decide +kernel
theorem dX8_takeOut_36 : decode cX8_takeOut 36 = .ok (.aload_n 0, 1) := by decide +kernel
theorem dX8_takeOut_37 : decode cX8_takeOut 37 = .ok (.iload_n 1, 1) := by decide +kernel
theorem dX8_takeOut_38 : decode cX8_takeOut 38 = .ok (.iconst 3, 1) := by decide +kernel
theorem dX8_takeOut_39 : decode cX8_takeOut 39 = .ok (.invokevirtual 44, 3) := by decide +kernel
theorem dX8_takeOut_42 : decode cX8_takeOut 42 = .ok (.iadd, 1) := by decide +kernel
theorem dX8_takeOut_43 : decode cX8_takeOut 43 = .ok (.istore_n 2, 1) := by decide +kernel
theorem dX8_takeOut_44 : decode cX8_takeOut 44 = .ok (.aload_n 0, 1) := by decide +kernel
theorem dX8_takeOut_45 : decode cX8_takeOut 45 = .ok (.iload_n 1, 1) := by decide +kernel
theorem dX8_takeOut_46 : decode cX8_takeOut 46 = .ok (.iconst 2, 1) := by decide +kernel
theorem dX8_takeOut_47 : decode cX8_takeOut 47 = .ok (.bipush (-6), 2) := by decide +kernel
theorem dX8_takeOut_49 : decode cX8_takeOut 49 = .ok (.invokevirtual 22, 3) := by decide +kernel
theorem dX8_takeOut_52 : decode cX8_takeOut 52 = .ok (.aload_n 0, 1) := by decide +kernel
theorem dX8_takeOut_53 : decode cX8_takeOut 53 = .ok (.iload_n 1, 1) := by decide +kernel
theorem dX8_takeOut_54 : decode cX8_takeOut 54 = .ok (.iconst 3, 1) := by decide +kernel
theorem dX8_takeOut_55 : decode cX8_takeOut 55 = .ok (.bipush (-6), 2) := by decide +kernel
theorem dX8_takeOut_57 : decode cX8_takeOut 57 = .ok (.invokevirtual 22, 3) := by decide +kernel
theorem dX8_takeOut_60 : decode cX8_takeOut 60 = .ok (.iload_n 2, 1) := by decide +kernel
theorem dX8_takeOut_61 : decode cX8_takeOut 61 = .ok (.ireturn, 1) := by decide +kernel
theorem dX8_wind_0 : decode cX8_wind 0 = .ok (.iload_n 1, 1) := by decide +kernel
theorem dX8_wind_1 : decode cX8_wind 1 = .ok (.invokestatic 92, 3) := by decide +kernel
theorem dX8_wind_4 : decode cX8_wind 4 = .ok (.ifCond .ne 5, 3) := by decide +kernel
theorem dX8_wind_7 : decode cX8_wind 7 = .ok (.iconst (-1), 1) := by decide +kernel
theorem dX8_wind_8 : decode cX8_wind 8 = .ok (.ireturn, 1) := by decide +kernel
theorem dX8_wind_9 : decode cX8_wind 9 = .ok (.iload_n 2, 1) := by decide +kernel
theorem dX8_wind_10 : decode cX8_wind 10 = .ok (.iconst 0, 1) := by decide +kernel
theorem dX8_wind_11 : decode cX8_wind 11 = .ok (.bipush 9, 2) := by decide +kernel
theorem dX8_wind_13 : decode cX8_wind 13 = .ok (.invokestatic 40, 3) := by decide +kernel
theorem dX8_wind_16 : decode cX8_wind 16 = .ok (.ifCond .eq 13, 3) := by decide +kernel
theorem dX8_wind_19 : decode cX8_wind 19 = .ok (.iload_n 3, 1) := by decide +kernel
theorem dX8_wind_20 : decode cX8_wind 20 = .ok (.iconst 0, 1) := by decide +kernel
theorem dX8_wind_21 : decode cX8_wind 21 = .ok (.bipush 99, 2) := by decide +kernel
theorem dX8_wind_23 : decode cX8_wind 23 = .ok (.invokestatic 40, 3) := by decide +kernel
theorem dX8_wind_26 : decode cX8_wind 26 = .ok (.ifCond .ne 6, 3) := by decide +kernel
theorem dX8_wind_29 : decode cX8_wind 29 = .ok (.bipush (-2), 2) := by decide +kernel
theorem dX8_wind_31 : decode cX8_wind 31 = .ok (.ireturn, 1) := by decide +kernel
theorem dX8_wind_32 : decode cX8_wind 32 = .ok (.aload_n 0, 1) := by decide +kernel
theorem dX8_wind_33 : decode cX8_wind 33 = .ok (.iload_n 1, 1) := by decide +kernel
theorem dX8_wind_34 : decode cX8_wind 34 = .ok (.iconst 2, 1) := by decide +kernel
theorem dX8_wind_35 : decode cX8_wind 35 = .ok (.invokevirtual 44, 3) := by decide +kernel
theorem dX8_wind_38 : decode cX8_wind 38 = .ok (.bipush (-6), 2) := by decide +kernel
theorem dX8_wind_40 : decode cX8_wind 40 = .ok (.if_icmp .eq 6, 3) := by decide +kernel
theorem dX8_wind_43 : decode cX8_wind 43 = .ok (.bipush (-3), 2) := by decide +kernel
theorem dX8_wind_45 : decode cX8_wind 45 = .ok (.ireturn, 1) := by decide +kernel
theorem dX8_wind_46 : decode cX8_wind 46 = .ok (.aload_n 0, 1) := by decide +kernel
theorem dX8_wind_47 : decode cX8_wind 47 = .ok (.invokevirtual 99, 3) := by decide +kernel
theorem dX8_wind_50 : decode cX8_wind 50 = .ok (.aload_n 0, 1) := by decide +kernel
theorem dX8_wind_51 : decode cX8_wind 51 = .ok (.iload_n 1, 1) := by decide +kernel
theorem dX8_wind_52 : decode cX8_wind 52 = .ok (.iconst 1, 1) := by decide +kernel
theorem dX8_wind_53 : decode cX8_wind 53 = .ok (.invokevirtual 44, 3) := by decide +kernel
theorem dX8_wind_56 : decode cX8_wind 56 = .ok (.istore 4, 2) := by decide +kernel
theorem dX8_wind_58 : decode cX8_wind 58 = .ok (.aload_n 0, 1) := by decide +kernel
theorem dX8_wind_59 : decode cX8_wind 59 = .ok (.iload_n 1, 1) := by decide +kernel
theorem dX8_wind_60 : decode cX8_wind 60 = .ok (.iconst 0, 1) := by decide +kernel
theorem dX8_wind_61 : decode cX8_wind 61 = .ok (.iload_n 2, 1) := by decide +kernel
theorem dX8_wind_62 : decode cX8_wind 62 = .ok (.invokevirtual 22, 3) := by decide +kernel
theorem dX8_wind_65 : decode cX8_wind 65 = .ok (.aload_n 0, 1) := by decide +kernel
theorem dX8_wind_66 : decode cX8_wind 66 = .ok (.iload_n 1, 1) := by decide +kernel
theorem dX8_wind_67 : decode cX8_wind 67 = .ok (.iconst 1, 1) := by decide +kernel
theorem dX8_wind_68 : decode cX8_wind 68 = .ok (.iload_n 3, 1) := by decide +kernel
theorem dX8_wind_69 : decode cX8_wind 69 = .ok (.invokevirtual 22, 3) := by decide +kernel
theorem dX8_wind_72 : decode cX8_wind 72 = .ok (.iload 4, 2) := by decide +kernel
theorem dX8_wind_74 : decode cX8_wind 74 = .ok (.ireturn, 1) := by decide +kernel
theorem dX8_sets_0 : decode cX8_sets 0 = .ok (.aload_n 0, 1) := by decide +kernel
theorem dX8_sets_1 : decode cX8_sets 1 = .ok (.invokevirtual 99, 3) := by decide +kernel
theorem dX8_sets_4 : decode cX8_sets 4 = .ok (.aload_n 0, 1) := by decide +kernel
theorem dX8_sets_5 : decode cX8_sets 5 = .ok (.getfield 7, 3) := by decide +kernel
theorem dX8_sets_8 : decode cX8_sets 8 = .ok (.iload_n 1, 1) := by decide +kernel
theorem dX8_sets_9 : decode cX8_sets 9 = .ok (.iaload, 1) := by decide +kernel
theorem dX8_sets_10 : decode cX8_sets 10 = .ok (.istore_n 3, 1) := by decide +kernel
theorem dX8_sets_11 : decode cX8_sets 11 = .ok (.aload_n 0, 1) := by decide +kernel
theorem dX8_sets_12 : decode cX8_sets 12 = .ok (.getfield 7, 3) := by decide +kernel
theorem dX8_sets_15 : decode cX8_sets 15 = .ok (.iload_n 1, 1) := by decide +kernel
theorem dX8_sets_16 : decode cX8_sets 16 = .ok (.iload_n 2, 1) := by decide +kernel
theorem dX8_sets_17 : decode cX8_sets 17 = .ok (.iastore, 1) := by decide +kernel
theorem dX8_sets_18 : decode cX8_sets 18 = .ok (.iload_n 3, 1) := by decide +kernel
theorem dX8_sets_19 : decode cX8_sets 19 = .ok (.ireturn, 1) := by decide +kernel
theorem dX8_moveBoxes_0 : decode cX8_moveBoxes 0 = .ok (.iload_n 1, 1) := by decide +kernel
theorem dX8_moveBoxes_1 : decode cX8_moveBoxes 1 = .ok (.iload_n 2, 1) := by decide +kernel
theorem dX8_moveBoxes_2 : decode cX8_moveBoxes 2 = .ok (.invokestatic 95, 3) := by decide +kernel
theorem dX8_moveBoxes_5 : decode cX8_moveBoxes 5 = .ok (.ifCond .eq 14, 3) := by decide +kernel
theorem dX8_moveBoxes_8 : decode cX8_moveBoxes 8 = .ok (.aload_n 0, 1) := by decide +kernel
theorem dX8_moveBoxes_9 : decode cX8_moveBoxes 9 = .ok (.iconst 3, 1) := by decide +kernel
theorem dX8_moveBoxes_10 : decode cX8_moveBoxes 10 = .ok (.iload_n 1, 1) := by decide +kernel
theorem dX8_moveBoxes_11 : decode cX8_moveBoxes 11 = .ok (.iadd, 1) := by decide +kernel
theorem dX8_moveBoxes_12 : decode cX8_moveBoxes 12 = .ok (.iload_n 2, 1) := by decide +kernel
theorem dX8_moveBoxes_13 : decode cX8_moveBoxes 13 = .ok (.invokevirtual 105, 3) := by decide +kernel
theorem dX8_moveBoxes_16 : decode cX8_moveBoxes 16 = .ok (.goto 4, 3) := by decide +kernel
theorem dX8_moveBoxes_19 : decode cX8_moveBoxes 19 = .ok (.iconst (-1), 1) := by decide +kernel
theorem dX8_moveBoxes_20 : decode cX8_moveBoxes 20 = .ok (.ireturn, 1) := by decide +kernel
theorem dX8_draw_0 : decode cX8_draw 0 = .ok (.iload_n 1, 1) := by decide +kernel
theorem dX8_draw_1 : decode cX8_draw 1 = .ok (.invokestatic 108, 3) := by decide +kernel
theorem dX8_draw_4 : decode cX8_draw 4 = .ok (.ifCond .eq 28, 3) := by decide +kernel
theorem dX8_draw_7 : decode cX8_draw 7 = .ok (.iload_n 2, 1) := by decide +kernel
theorem dX8_draw_8 : decode cX8_draw 8 = .ok (.iconst 0, 1) := by decide +kernel
theorem dX8_draw_9 : decode cX8_draw 9 = .ok (.iconst 5, 1) := by decide +kernel
theorem dX8_draw_10 : decode cX8_draw 10 = .ok (.invokestatic 40, 3) := by decide +kernel
theorem dX8_draw_13 : decode cX8_draw 13 = .ok (.ifCond .eq 19, 3) := by decide +kernel
theorem dX8_draw_16 : decode cX8_draw 16 = .ok (.aload_n 0, 1) := by decide +kernel
theorem dX8_draw_17 : decode cX8_draw 17 = .ok (.bipush 32, 2) := by decide +kernel
theorem dX8_draw_19 : decode cX8_draw 19 = .ok (.iconst 2, 1) := by decide +kernel
theorem dX8_draw_20 : decode cX8_draw 20 = .ok (.iload_n 1, 1) := by decide +kernel
theorem dX8_draw_21 : decode cX8_draw 21 = .ok (.imul, 1) := by decide +kernel
theorem dX8_draw_22 : decode cX8_draw 22 = .ok (.iadd, 1) := by decide +kernel
theorem dX8_draw_23 : decode cX8_draw 23 = .ok (.iconst 0, 1) := by decide +kernel
theorem dX8_draw_24 : decode cX8_draw 24 = .ok (.iadd, 1) := by decide +kernel
theorem dX8_draw_25 : decode cX8_draw 25 = .ok (.iload_n 2, 1) := by decide +kernel
theorem dX8_draw_26 : decode cX8_draw 26 = .ok (.invokevirtual 105, 3) := by decide +kernel
theorem dX8_draw_29 : decode cX8_draw 29 = .ok (.goto 4, 3) := by decide +kernel
theorem dX8_draw_32 : decode cX8_draw 32 = .ok (.iconst (-1), 1) := by decide +kernel
theorem dX8_draw_33 : decode cX8_draw 33 = .ok (.ireturn, 1) := by decide +kernel
theorem dX8_mend_0 : decode cX8_mend 0 = .ok (.iload_n 1, 1) := by decide +kernel
theorem dX8_mend_1 : decode cX8_mend 1 = .ok (.invokestatic 108, 3) := by decide +kernel
theorem dX8_mend_4 : decode cX8_mend 4 = .ok (.ifCond .ne 5, 3) := by decide +kernel
theorem dX8_mend_7 : decode cX8_mend 7 = .ok (.iconst (-1), 1) := by decide +kernel
theorem dX8_mend_8 : decode cX8_mend 8 = .ok (.ireturn, 1) := by decide +kernel
theorem dX8_mend_9 : decode cX8_mend 9 = .ok (.iload_n 2, 1) := by decide +kernel
theorem dX8_mend_10 : decode cX8_mend 10 = .ok (.iconst 0, 1) := by decide +kernel
theorem dX8_mend_11 : decode cX8_mend 11 = .ok (.bipush 99, 2) := by decide +kernel
theorem dX8_mend_13 : decode cX8_mend 13 = .ok (.invokestatic 40, 3) := by decide +kernel
theorem dX8_mend_16 : decode cX8_mend 16 = .ok (.ifCond .eq 19, 3) := by decide +kernel
theorem dX8_mend_19 : decode cX8_mend 19 = .ok (.aload_n 0, 1) := by decide +kernel
theorem dX8_mend_20 : decode cX8_mend 20 = .ok (.bipush 32, 2) := by decide +kernel
theorem dX8_mend_22 : decode cX8_mend 22 = .ok (.iconst 2, 1) := by decide +kernel
theorem dX8_mend_23 : decode cX8_mend 23 = .ok (.iload_n 1, 1) := by decide +kernel
theorem dX8_mend_24 : decode cX8_mend 24 = .ok (.imul, 1) := by decide +kernel
theorem dX8_mend_25 : decode cX8_mend 25 = .ok (.iadd, 1) := by decide +kernel
theorem dX8_mend_26 : decode cX8_mend 26 = .ok (.iconst 1, 1) := by decide +kernel
theorem dX8_mend_27 : decode cX8_mend 27 = .ok (.iadd, 1) := by decide +kernel
theorem dX8_mend_28 : decode cX8_mend 28 = .ok (.iload_n 2, 1) := by decide +kernel
theorem dX8_mend_29 : decode cX8_mend 29 = .ok (.invokevirtual 105, 3) := by decide +kernel
theorem dX8_mend_32 : decode cX8_mend 32 = .ok (.goto 5, 3) := by decide +kernel
theorem dX8_mend_35 : decode cX8_mend 35 = .ok (.bipush (-2), 2) := by decide +kernel
theorem dX8_mend_37 : decode cX8_mend 37 = .ok (.ireturn, 1) := by decide +kernel
theorem dX8_setSpeed_0 : decode cX8_setSpeed 0 = .ok (.iload_n 1, 1) := by decide +kernel
theorem dX8_setSpeed_1 : decode cX8_setSpeed 1 = .ok (.iconst 1, 1) := by decide +kernel
theorem dX8_setSpeed_2 : decode cX8_setSpeed 2 = .ok (.iconst 3, 1) := by decide +kernel
theorem dX8_setSpeed_3 : decode cX8_setSpeed 3 = .ok (.invokestatic 40, 3) := by decide +kernel
theorem dX8_setSpeed_6 : decode cX8_setSpeed 6 = .ok (.ifCond .eq 12, 3) := by decide +kernel
theorem dX8_setSpeed_9 : decode cX8_setSpeed 9 = .ok (.aload_n 0, 1) := by decide +kernel
theorem dX8_setSpeed_10 : decode cX8_setSpeed 10 = .ok (.iconst 2, 1) := by decide +kernel
theorem dX8_setSpeed_11 : decode cX8_setSpeed 11 = .ok (.iload_n 1, 1) := by decide +kernel
theorem dX8_setSpeed_12 : decode cX8_setSpeed 12 = .ok (.invokevirtual 105, 3) := by decide +kernel
theorem dX8_setSpeed_15 : decode cX8_setSpeed 15 = .ok (.goto 5, 3) := by decide +kernel
theorem dX8_setSpeed_18 : decode cX8_setSpeed 18 = .ok (.bipush (-2), 2) := by decide +kernel
theorem dX8_setSpeed_20 : decode cX8_setSpeed 20 = .ok (.ireturn, 1) := by decide +kernel
theorem dX8_addsCard_0 : decode cX8_addsCard 0 = .ok (.bipush 56, 2) := by decide +kernel
theorem dX8_addsCard_2 : decode cX8_addsCard 2 = .ok (.iconst 3, 1) := by decide +kernel
theorem dX8_addsCard_3 : decode cX8_addsCard 3 = .ok (.aload_n 0, 1) := by decide +kernel
theorem dX8_addsCard_4 : decode cX8_addsCard 4 = .ok (.getfield 7, 3) := by decide +kernel
theorem dX8_addsCard_7 : decode cX8_addsCard 7 = .ok (.iconst 0, 1) := by decide +kernel
theorem dX8_addsCard_8 : decode cX8_addsCard 8 = .ok (.iaload, 1) := by decide +kernel
theorem dX8_addsCard_9 : decode cX8_addsCard 9 = .ok (.imul, 1) := by decide +kernel
theorem dX8_addsCard_10 : decode cX8_addsCard 10 = .ok (.iadd, 1) := by decide +kernel
theorem dX8_addsCard_11 : decode cX8_addsCard 11 = .ok (.istore 4, 2) := by decide +kernel
theorem dX8_addsCard_13 : decode cX8_addsCard 13 = .ok (.aload_n 0, 1) := by decide +kernel
theorem dX8_addsCard_14 : decode cX8_addsCard 14 = .ok (.getfield 7, 3) := by decide +kernel
theorem dX8_addsCard_17 : decode cX8_addsCard 17 = .ok (.iload 4, 2) := by decide +kernel
theorem dX8_addsCard_19 : decode cX8_addsCard 19 = .ok (.iconst 0, 1) := by decide +kernel
theorem dX8_addsCard_20 : decode cX8_addsCard 20 = .ok (.iadd, 1) := by decide +kernel
theorem dX8_addsCard_21 : decode cX8_addsCard 21 = .ok (.iload_n 1, 1) := by decide +kernel
theorem dX8_addsCard_22 : decode cX8_addsCard 22 = .ok (.iastore, 1) := by decide +kernel
theorem dX8_addsCard_23 : decode cX8_addsCard 23 = .ok (.aload_n 0, 1) := by decide +kernel
theorem dX8_addsCard_24 : decode cX8_addsCard 24 = .ok (.getfield 7, 3) := by decide +kernel
theorem dX8_addsCard_27 : decode cX8_addsCard 27 = .ok (.iload 4, 2) := by decide +kernel
theorem dX8_addsCard_29 : decode cX8_addsCard 29 = .ok (.iconst 1, 1) := by decide +kernel
theorem dX8_addsCard_30 : decode cX8_addsCard 30 = .ok (.iadd, 1) := by decide +kernel
theorem dX8_addsCard_31 : decode cX8_addsCard 31 = .ok (.iload_n 2, 1) := by decide +kernel
theorem dX8_addsCard_32 : decode cX8_addsCard 32 = .ok (.iastore, 1) := by decide +kernel
theorem dX8_addsCard_33 : decode cX8_addsCard 33 = .ok (.aload_n 0, 1) := by decide +kernel
theorem dX8_addsCard_34 : decode cX8_addsCard 34 = .ok (.getfield 7, 3) := by decide +kernel
theorem dX8_addsCard_37 : decode cX8_addsCard 37 = .ok (.iload 4, 2) := by decide +kernel
theorem dX8_addsCard_39 : decode cX8_addsCard 39 = .ok (.iconst 1, 1) := by decide +kernel
theorem dX8_addsCard_40 : decode cX8_addsCard 40 = .ok (.iadd, 1) := by decide +kernel
theorem dX8_addsCard_41 : decode cX8_addsCard 41 = .ok (.iconst 1, 1) := by decide +kernel
theorem dX8_addsCard_42 : decode cX8_addsCard 42 = .ok (.iadd, 1) := by decide +kernel
theorem dX8_addsCard_43 : decode cX8_addsCard 43 = .ok (.iload_n 3, 1) := by decide +kernel
theorem dX8_addsCard_44 : decode cX8_addsCard 44 = .ok (.iastore, 1) := by decide +kernel
theorem dX8_addsCard_45 : decode cX8_addsCard 45 = .ok (.aload_n 0, 1) := by decide +kernel
theorem dX8_addsCard_46 : decode cX8_addsCard 46 = .ok (.getfield 7, 3) := by decide +kernel
theorem dX8_addsCard_49 : decode cX8_addsCard 49 = .ok (.iconst 0, 1) := by decide +kernel
theorem dX8_addsCard_50 : decode cX8_addsCard 50 = .ok (.dup2, 1) := by decide +kernel
theorem dX8_addsCard_51 : decode cX8_addsCard 51 = .ok (.iaload, 1) := by decide +kernel
theorem dX8_addsCard_52 : decode cX8_addsCard 52 = .ok (.iconst 1, 1) := by decide +kernel
theorem dX8_addsCard_53 : decode cX8_addsCard 53 = .ok (.iadd, 1) := by decide +kernel
theorem dX8_addsCard_54 : decode cX8_addsCard 54 = .ok (.iastore, 1) := by decide +kernel
theorem dX8_addsCard_55 : decode cX8_addsCard 55 = .ok (.return_, 1) := by decide +kernel
theorem dX8_addCard_0 : decode cX8_addCard 0 = .ok (.iload_n 1, 1) := by decide +kernel
theorem dX8_addCard_1 : decode cX8_addCard 1 = .ok (.iconst 0, 1) := by decide +kernel
theorem dX8_addCard_2 : decode cX8_addCard 2 = .ok (.bipush 63, 2) := by decide +kernel
theorem dX8_addCard_4 : decode cX8_addCard 4 = .ok (.invokestatic 40, 3) := by decide +kernel
theorem dX8_addCard_7 : decode cX8_addCard 7 = .ok (.ifCond .ne 6, 3) := by decide +kernel
theorem dX8_addCard_10 : decode cX8_addCard 10 = .ok (.bipush (-2), 2) := by decide +kernel
theorem dX8_addCard_12 : decode cX8_addCard 12 = .ok (.ireturn, 1) := by decide +kernel
theorem dX8_addCard_13 : decode cX8_addCard 13 = .ok (.iconst 0, 1) := by decide +kernel
theorem dX8_addCard_14 : decode cX8_addCard 14 = .ok (.iload_n 2, 1) := by decide +kernel
theorem dX8_addCard_15 : decode cX8_addCard 15 = .ok (.invokestatic 95, 3) := by decide +kernel
theorem dX8_addCard_18 : decode cX8_addCard 18 = .ok (.ifCond .eq 11, 3) := by decide +kernel
theorem dX8_addCard_21 : decode cX8_addCard 21 = .ok (.iconst 1, 1) := by decide +kernel
theorem dX8_addCard_22 : decode cX8_addCard 22 = .ok (.iload_n 3, 1) := by decide +kernel
theorem dX8_addCard_23 : decode cX8_addCard 23 = .ok (.invokestatic 95, 3) := by decide +kernel
theorem dX8_addCard_26 : decode cX8_addCard 26 = .ok (.ifCond .ne 5, 3) := by decide +kernel
theorem dX8_addCard_29 : decode cX8_addCard 29 = .ok (.iconst (-1), 1) := by decide +kernel
theorem dX8_addCard_30 : decode cX8_addCard 30 = .ok (.ireturn, 1) := by decide +kernel
theorem dX8_addCard_31 : decode cX8_addCard 31 = .ok (.aload_n 0, 1) := by decide +kernel
theorem dX8_addCard_32 : decode cX8_addCard 32 = .ok (.getfield 7, 3) := by decide +kernel
theorem dX8_addCard_35 : decode cX8_addCard 35 = .ok (.iconst 0, 1) := by decide +kernel
theorem dX8_addCard_36 : decode cX8_addCard 36 = .ok (.iaload, 1) := by decide +kernel
theorem dX8_addCard_37 : decode cX8_addCard 37 = .ok (.bipush 16, 2) := by decide +kernel
theorem dX8_addCard_39 : decode cX8_addCard 39 = .ok (.if_icmp .ne 6, 3) := by decide +kernel
theorem dX8_addCard_42 : decode cX8_addCard 42 = .ok (.bipush (-4), 2) := by decide +kernel
theorem dX8_addCard_44 : decode cX8_addCard 44 = .ok (.ireturn, 1) := by decide +kernel
theorem dX8_addCard_45 : decode cX8_addCard 45 = .ok (.aload_n 0, 1) := by decide +kernel
theorem dX8_addCard_46 : decode cX8_addCard 46 = .ok (.invokevirtual 99, 3) := by decide +kernel
theorem dX8_addCard_49 : decode cX8_addCard 49 = .ok (.aload_n 0, 1) := by decide +kernel
theorem dX8_addCard_50 : decode cX8_addCard 50 = .ok (.iload_n 1, 1) := by decide +kernel
theorem dX8_addCard_51 : decode cX8_addCard 51 = .ok (.iload_n 2, 1) := by decide +kernel
theorem dX8_addCard_52 : decode cX8_addCard 52 = .ok (.iload_n 3, 1) := by decide +kernel
theorem dX8_addCard_53 : decode cX8_addCard 53 = .ok (.invokevirtual 111, 3) := by decide +kernel
theorem dX8_addCard_56 : decode cX8_addCard 56 = .ok (.aload_n 0, 1) := by decide +kernel
theorem dX8_addCard_57 : decode cX8_addCard 57 = .ok (.getfield 7, 3) := by decide +kernel
theorem dX8_addCard_60 : decode cX8_addCard 60 = .ok (.iconst 0, 1) := by decide +kernel
theorem dX8_addCard_61 : decode cX8_addCard 61 = .ok (.iaload, 1) := by decide +kernel
theorem dX8_addCard_62 : decode cX8_addCard 62 = .ok (.iconst 1, 1) := by decide +kernel
theorem dX8_addCard_63 : decode cX8_addCard 63 = .ok (.isub, 1) := by decide +kernel
theorem dX8_addCard_64 : decode cX8_addCard 64 = .ok (.ireturn, 1) := by decide +kernel
theorem dX8_removeCard_0 : decode cX8_removeCard 0 = .ok (.aload_n 0, 1) := by decide +kernel
theorem dX8_removeCard_1 : decode cX8_removeCard 1 = .ok (.iload_n 1, 1) := by decide +kernel
theorem dX8_removeCard_2 : decode cX8_removeCard 2 = .ok (.invokevirtual 114, 3) := by decide +kernel
theorem dX8_removeCard_5 : decode cX8_removeCard 5 = .ok (.ifCond .ne 5, 3) := by decide +kernel
theorem dX8_removeCard_8 : decode cX8_removeCard 8 = .ok (.iconst (-1), 1) := by decide +kernel
theorem dX8_removeCard_9 : decode cX8_removeCard 9 = .ok (.ireturn, 1) := by decide +kernel
theorem dX8_removeCard_10 : decode cX8_removeCard 10 = .ok (.aload_n 0, 1) := by decide +kernel
theorem dX8_removeCard_11 : decode cX8_removeCard 11 = .ok (.invokevirtual 99, 3) := by decide +kernel
theorem dX8_removeCard_14 : decode cX8_removeCard 14 = .ok (.aload_n 0, 1) := by decide +kernel
theorem dX8_removeCard_15 : decode cX8_removeCard 15 = .ok (.getfield 7, 3) := by decide +kernel
theorem dX8_removeCard_18 : decode cX8_removeCard 18 = .ok (.iconst 0, 1) := by decide +kernel
theorem dX8_removeCard_19 : decode cX8_removeCard 19 = .ok (.dup2, 1) := by decide +kernel
theorem dX8_removeCard_20 : decode cX8_removeCard 20 = .ok (.iaload, 1) := by decide +kernel
theorem dX8_removeCard_21 : decode cX8_removeCard 21 = .ok (.iconst 1, 1) := by decide +kernel
theorem dX8_removeCard_22 : decode cX8_removeCard 22 = .ok (.isub, 1) := by decide +kernel
theorem dX8_removeCard_23 : decode cX8_removeCard 23 = .ok (.iastore, 1) := by decide +kernel
theorem dX8_removeCard_24 : decode cX8_removeCard 24 = .ok (.bipush 56, 2) := by decide +kernel
theorem dX8_removeCard_26 : decode cX8_removeCard 26 = .ok (.iconst 3, 1) := by decide +kernel
theorem dX8_removeCard_27 : decode cX8_removeCard 27 = .ok (.iload_n 1, 1) := by decide +kernel
theorem dX8_removeCard_28 : decode cX8_removeCard 28 = .ok (.imul, 1) := by decide +kernel
theorem dX8_removeCard_29 : decode cX8_removeCard 29 = .ok (.iadd, 1) := by decide +kernel
theorem dX8_removeCard_30 : decode cX8_removeCard 30 = .ok (.istore_n 2, 1) := by decide +kernel
theorem dX8_removeCard_31 : decode cX8_removeCard 31 = .ok (.iload_n 2, 1) := by decide +kernel
theorem dX8_removeCard_32 : decode cX8_removeCard 32 = .ok (.bipush 56, 2) := by decide +kernel
theorem dX8_removeCard_34 : decode cX8_removeCard 34 = .ok (.iconst 3, 1) := by decide +kernel
theorem dX8_removeCard_35 : decode cX8_removeCard 35 = .ok (.aload_n 0, 1) := by decide +kernel
theorem dX8_removeCard_36 : decode cX8_removeCard 36 = .ok (.getfield 7, 3) := by decide +kernel
theorem dX8_removeCard_39 : decode cX8_removeCard 39 = .ok (.iconst 0, 1) := by decide +kernel
theorem dX8_removeCard_40 : decode cX8_removeCard 40 = .ok (.iaload, 1) := by decide +kernel
theorem dX8_removeCard_41 : decode cX8_removeCard 41 = .ok (.imul, 1) := by decide +kernel
theorem dX8_removeCard_42 : decode cX8_removeCard 42 = .ok (.iadd, 1) := by decide +kernel
theorem dX8_removeCard_43 : decode cX8_removeCard 43 = .ok (.if_icmp .ge 23, 3) := by decide +kernel
theorem dX8_removeCard_46 : decode cX8_removeCard 46 = .ok (.aload_n 0, 1) := by decide +kernel
theorem dX8_removeCard_47 : decode cX8_removeCard 47 = .ok (.getfield 7, 3) := by decide +kernel
theorem dX8_removeCard_50 : decode cX8_removeCard 50 = .ok (.iload_n 2, 1) := by decide +kernel
theorem dX8_removeCard_51 : decode cX8_removeCard 51 = .ok (.aload_n 0, 1) := by decide +kernel
theorem dX8_removeCard_52 : decode cX8_removeCard 52 = .ok (.getfield 7, 3) := by decide +kernel
theorem dX8_removeCard_55 : decode cX8_removeCard 55 = .ok (.iload_n 2, 1) := by decide +kernel
theorem dX8_removeCard_56 : decode cX8_removeCard 56 = .ok (.iconst 3, 1) := by decide +kernel
theorem dX8_removeCard_57 : decode cX8_removeCard 57 = .ok (.iadd, 1) := by decide +kernel
theorem dX8_removeCard_58 : decode cX8_removeCard 58 = .ok (.iaload, 1) := by decide +kernel
theorem dX8_removeCard_59 : decode cX8_removeCard 59 = .ok (.iastore, 1) := by decide +kernel
theorem dX8_removeCard_60 : decode cX8_removeCard 60 = .ok (.iinc 2 1, 3) := by decide +kernel
theorem dX8_removeCard_63 : decode cX8_removeCard 63 = .ok (.goto (-32), 3) := by decide +kernel
theorem dX8_removeCard_66 : decode cX8_removeCard 66 = .ok (.iconst 0, 1) := by decide +kernel
theorem dX8_removeCard_67 : decode cX8_removeCard 67 = .ok (.istore_n 2, 1) := by decide +kernel
theorem dX8_removeCard_68 : decode cX8_removeCard 68 = .ok (.iload_n 2, 1) := by decide +kernel
theorem dX8_removeCard_69 : decode cX8_removeCard 69 = .ok (.iconst 3, 1) := by decide +kernel
theorem dX8_removeCard_70 : decode cX8_removeCard 70 = .ok (.if_icmp .ge 28, 3) := by decide +kernel
theorem dX8_removeCard_73 : decode cX8_removeCard 73 = .ok (.aload_n 0, 1) := by decide +kernel
theorem dX8_removeCard_74 : decode cX8_removeCard 74 = .ok (.getfield 7, 3) := by decide +kernel
theorem dX8_removeCard_77 : decode cX8_removeCard 77 = .ok (.bipush 56, 2) := by decide +kernel
theorem dX8_removeCard_79 : decode cX8_removeCard 79 = .ok (.iconst 3, 1) := by decide +kernel
theorem dX8_removeCard_80 : decode cX8_removeCard 80 = .ok (.aload_n 0, 1) := by decide +kernel
theorem dX8_removeCard_81 : decode cX8_removeCard 81 = .ok (.getfield 7, 3) := by decide +kernel
theorem dX8_removeCard_84 : decode cX8_removeCard 84 = .ok (.iconst 0, 1) := by decide +kernel
theorem dX8_removeCard_85 : decode cX8_removeCard 85 = .ok (.iaload, 1) := by decide +kernel
theorem dX8_removeCard_86 : decode cX8_removeCard 86 = .ok (.imul, 1) := by decide +kernel
theorem dX8_removeCard_87 : decode cX8_removeCard 87 = .ok (.iadd, 1) := by decide +kernel
theorem dX8_removeCard_88 : decode cX8_removeCard 88 = .ok (.iload_n 2, 1) := by decide +kernel
theorem dX8_removeCard_89 : decode cX8_removeCard 89 = .ok (.iadd, 1) := by decide +kernel
theorem dX8_removeCard_90 : decode cX8_removeCard 90 = .ok (.iconst 0, 1) := by decide +kernel
theorem dX8_removeCard_91 : decode cX8_removeCard 91 = .ok (.iastore, 1) := by decide +kernel
theorem dX8_removeCard_92 : decode cX8_removeCard 92 = .ok (.iinc 2 1, 3) := by decide +kernel
theorem dX8_removeCard_95 : decode cX8_removeCard 95 = .ok (.goto (-27), 3) := by decide +kernel
theorem dX8_removeCard_98 : decode cX8_removeCard 98 = .ok (.aload_n 0, 1) := by decide +kernel
theorem dX8_removeCard_99 : decode cX8_removeCard 99 = .ok (.getfield 7, 3) := by decide +kernel
theorem dX8_removeCard_102 : decode cX8_removeCard 102 = .ok (.iconst 1, 1) := by decide +kernel
theorem dX8_removeCard_103 : decode cX8_removeCard 103 = .ok (.dup2, 1) := by decide +kernel
theorem dX8_removeCard_104 : decode cX8_removeCard 104 = .ok (.iaload, 1) := by decide +kernel
theorem dX8_removeCard_105 : decode cX8_removeCard 105 = .ok (.iload_n 1, 1) := by decide +kernel
theorem dX8_removeCard_106 : decode cX8_removeCard 106 = .ok (.aload_n 0, 1) := by decide +kernel
theorem dX8_removeCard_107 : decode cX8_removeCard 107 = .ok (.getfield 7, 3) := by decide +kernel
theorem dX8_removeCard_110 : decode cX8_removeCard 110 = .ok (.iconst 1, 1) := by decide +kernel
theorem dX8_removeCard_111 : decode cX8_removeCard 111 = .ok (.iaload, 1) := by decide +kernel
theorem dX8_removeCard_112 : decode cX8_removeCard 112 = .ok (.if_icmp .ge 7, 3) := by decide +kernel
theorem dX8_removeCard_115 : decode cX8_removeCard 115 = .ok (.iconst 1, 1) := by decide +kernel
theorem dX8_removeCard_116 : decode cX8_removeCard 116 = .ok (.goto 4, 3) := by decide +kernel
theorem dX8_removeCard_119 : decode cX8_removeCard 119 = .ok (.iconst 0, 1) := by decide +kernel
theorem dX8_removeCard_120 : decode cX8_removeCard 120 = .ok (.isub, 1) := by decide +kernel
theorem dX8_removeCard_121 : decode cX8_removeCard 121 = .ok (.iastore, 1) := by decide +kernel
theorem dX8_removeCard_122 : decode cX8_removeCard 122 = .ok (.aload_n 0, 1) := by decide +kernel
theorem dX8_removeCard_123 : decode cX8_removeCard 123 = .ok (.getfield 7, 3) := by decide +kernel
theorem dX8_removeCard_126 : decode cX8_removeCard 126 = .ok (.iconst 1, 1) := by decide +kernel
theorem dX8_removeCard_127 : decode cX8_removeCard 127 = .ok (.aload_n 0, 1) := by decide +kernel
theorem dX8_removeCard_128 : decode cX8_removeCard 128 = .ok (.getfield 7, 3) := by decide +kernel
theorem dX8_removeCard_131 : decode cX8_removeCard 131 = .ok (.iconst 1, 1) := by decide +kernel
theorem dX8_removeCard_132 : decode cX8_removeCard 132 = .ok (.iaload, 1) := by decide +kernel
theorem dX8_removeCard_133 : decode cX8_removeCard 133 = .ok (.aload_n 0, 1) := by decide +kernel
theorem dX8_removeCard_134 : decode cX8_removeCard 134 = .ok (.getfield 7, 3) := by decide +kernel
theorem dX8_removeCard_137 : decode cX8_removeCard 137 = .ok (.iconst 0, 1) := by decide +kernel
theorem dX8_removeCard_138 : decode cX8_removeCard 138 = .ok (.iaload, 1) := by decide +kernel
theorem dX8_removeCard_139 : decode cX8_removeCard 139 = .ok (.if_icmp .lt 7, 3) := by decide +kernel
theorem dX8_removeCard_142 : decode cX8_removeCard 142 = .ok (.iconst 0, 1) := by decide +kernel
theorem dX8_removeCard_143 : decode cX8_removeCard 143 = .ok (.goto 9, 3) := by decide +kernel
theorem dX8_removeCard_146 : decode cX8_removeCard 146 = .ok (.aload_n 0, 1) := by decide +kernel
theorem dX8_removeCard_147 : decode cX8_removeCard 147 = .ok (.getfield 7, 3) := by decide +kernel
theorem dX8_removeCard_150 : decode cX8_removeCard 150 = .ok (.iconst 1, 1) := by decide +kernel
theorem dX8_removeCard_151 : decode cX8_removeCard 151 = .ok (.iaload, 1) := by decide +kernel
theorem dX8_removeCard_152 : decode cX8_removeCard 152 = .ok (.iastore, 1) := by decide +kernel
theorem dX8_removeCard_153 : decode cX8_removeCard 153 = .ok (.aload_n 0, 1) := by decide +kernel
theorem dX8_removeCard_154 : decode cX8_removeCard 154 = .ok (.getfield 7, 3) := by decide +kernel
theorem dX8_removeCard_157 : decode cX8_removeCard 157 = .ok (.iconst 0, 1) := by decide +kernel
theorem dX8_removeCard_158 : decode cX8_removeCard 158 = .ok (.iaload, 1) := by decide +kernel
theorem dX8_removeCard_159 : decode cX8_removeCard 159 = .ok (.ireturn, 1) := by decide +kernel
theorem dX8_turnTo_0 : decode cX8_turnTo 0 = .ok (.aload_n 0, 1) := by decide +kernel
theorem dX8_turnTo_1 : decode cX8_turnTo 1 = .ok (.iload_n 1, 1) := by decide +kernel
theorem dX8_turnTo_2 : decode cX8_turnTo 2 = .ok (.invokevirtual 114, 3) := by decide +kernel
theorem dX8_turnTo_5 : decode cX8_turnTo 5 = .ok (.ifCond .eq 12, 3) := by decide +kernel
theorem dX8_turnTo_8 : decode cX8_turnTo 8 = .ok (.aload_n 0, 1) := by decide +kernel
theorem dX8_turnTo_9 : decode cX8_turnTo 9 = .ok (.iconst 1, 1) := by decide +kernel
theorem dX8_turnTo_10 : decode cX8_turnTo 10 = .ok (.iload_n 1, 1) := by decide +kernel
theorem dX8_turnTo_11 : decode cX8_turnTo 11 = .ok (.invokevirtual 105, 3) := by decide +kernel
theorem dX8_turnTo_14 : decode cX8_turnTo 14 = .ok (.goto 4, 3) := by decide +kernel
theorem dX8_turnTo_17 : decode cX8_turnTo 17 = .ok (.iconst (-1), 1) := by decide +kernel
theorem dX8_turnTo_18 : decode cX8_turnTo 18 = .ok (.ireturn, 1) := by decide +kernel
theorem dX8_count_0 : decode cX8_count 0 = .ok (.iload_n 1, 1) := by decide +kernel
theorem dX8_count_1 : decode cX8_count 1 = .ok (.iconst 0, 1) := by decide +kernel
theorem dX8_count_2 : decode cX8_count 2 = .ok (.bipush 11, 2) := by decide +kernel
theorem dX8_count_4 : decode cX8_count 4 = .ok (.invokestatic 40, 3) := by decide +kernel
theorem dX8_count_7 : decode cX8_count 7 = .ok (.ifCond .eq 12, 3) := by decide +kernel
theorem dX8_count_10 : decode cX8_count 10 = .ok (.aload_n 0, 1) := by decide +kernel
theorem dX8_count_11 : decode cX8_count 11 = .ok (.getfield 7, 3) := by decide +kernel
theorem dX8_count_14 : decode cX8_count 14 = .ok (.iload_n 1, 1) := by decide +kernel
theorem dX8_count_15 : decode cX8_count 15 = .ok (.iaload, 1) := by decide +kernel
theorem dX8_count_16 : decode cX8_count 16 = .ok (.goto 5, 3) := by decide +kernel
theorem dX8_count_19 : decode cX8_count 19 = .ok (.bipush (-2), 2) := by decide +kernel
theorem dX8_count_21 : decode cX8_count 21 = .ok (.ireturn, 1) := by decide +kernel
theorem dX8_shuttle_0 : decode cX8_shuttle 0 = .ok (.iload_n 1, 1) := by decide +kernel
theorem dX8_shuttle_1 : decode cX8_shuttle 1 = .ok (.invokestatic 92, 3) := by decide +kernel
theorem dX8_shuttle_4 : decode cX8_shuttle 4 = .ok (.ifCond .ne 5, 3) := by decide +kernel
theorem dX8_shuttle_7 : decode cX8_shuttle 7 = .ok (.iconst (-1), 1) := by decide +kernel
theorem dX8_shuttle_8 : decode cX8_shuttle 8 = .ok (.ireturn, 1) := by decide +kernel
theorem dX8_shuttle_9 : decode cX8_shuttle 9 = .ok (.iload_n 2, 1) := by decide +kernel
theorem dX8_shuttle_10 : decode cX8_shuttle 10 = .ok (.iconst 0, 1) := by decide +kernel
theorem dX8_shuttle_11 : decode cX8_shuttle 11 = .ok (.iconst 3, 1) := by decide +kernel
theorem dX8_shuttle_12 : decode cX8_shuttle 12 = .ok (.invokestatic 40, 3) := by decide +kernel
theorem dX8_shuttle_15 : decode cX8_shuttle 15 = .ok (.ifCond .eq 12, 3) := by decide +kernel
theorem dX8_shuttle_18 : decode cX8_shuttle 18 = .ok (.aload_n 0, 1) := by decide +kernel
theorem dX8_shuttle_19 : decode cX8_shuttle 19 = .ok (.iload_n 1, 1) := by decide +kernel
theorem dX8_shuttle_20 : decode cX8_shuttle 20 = .ok (.iload_n 2, 1) := by decide +kernel
theorem dX8_shuttle_21 : decode cX8_shuttle 21 = .ok (.invokevirtual 44, 3) := by decide +kernel
theorem dX8_shuttle_24 : decode cX8_shuttle 24 = .ok (.goto 5, 3) := by decide +kernel
theorem dX8_shuttle_27 : decode cX8_shuttle 27 = .ok (.bipush (-2), 2) := by decide +kernel
theorem dX8_shuttle_29 : decode cX8_shuttle 29 = .ok (.ireturn, 1) := by decide +kernel
theorem dX8_inBox_0 : decode cX8_inBox 0 = .ok (.iload_n 1, 1) := by decide +kernel
theorem dX8_inBox_1 : decode cX8_inBox 1 = .ok (.iload_n 2, 1) := by decide +kernel
theorem dX8_inBox_2 : decode cX8_inBox 2 = .ok (.invokestatic 95, 3) := by decide +kernel
theorem dX8_inBox_5 : decode cX8_inBox 5 = .ok (.ifCond .eq 12, 3) := by decide +kernel
theorem dX8_inBox_8 : decode cX8_inBox 8 = .ok (.aload_n 0, 1) := by decide +kernel
theorem dX8_inBox_9 : decode cX8_inBox 9 = .ok (.iload_n 1, 1) := by decide +kernel
theorem dX8_inBox_10 : decode cX8_inBox 10 = .ok (.iload_n 2, 1) := by decide +kernel
theorem dX8_inBox_11 : decode cX8_inBox 11 = .ok (.invokevirtual 60, 3) := by decide +kernel
theorem dX8_inBox_14 : decode cX8_inBox 14 = .ok (.goto 4, 3) := by decide +kernel
theorem dX8_inBox_17 : decode cX8_inBox 17 = .ok (.iconst (-1), 1) := by decide +kernel
theorem dX8_inBox_18 : decode cX8_inBox 18 = .ok (.ireturn, 1) := by decide +kernel
theorem dX8_ofThread_0 : decode cX8_ofThread 0 = .ok (.iload_n 2, 1) := by decide +kernel
theorem dX8_ofThread_1 : decode cX8_ofThread 1 = .ok (.iconst 2, 1) := by decide +kernel
theorem dX8_ofThread_2 : decode cX8_ofThread 2 = .ok (.if_icmp .ge 12, 3) := by decide +kernel
theorem dX8_ofThread_5 : decode cX8_ofThread 5 = .ok (.aload_n 0, 1) := by decide +kernel
theorem dX8_ofThread_6 : decode cX8_ofThread 6 = .ok (.iload_n 1, 1) := by decide +kernel
theorem dX8_ofThread_7 : decode cX8_ofThread 7 = .ok (.iload_n 2, 1) := by decide +kernel
theorem dX8_ofThread_8 : decode cX8_ofThread 8 = .ok (.invokevirtual 48, 3) := by decide +kernel
theorem dX8_ofThread_11 : decode cX8_ofThread 11 = .ok (.goto 18, 3) := by decide +kernel
theorem dX8_ofThread_14 : decode cX8_ofThread 14 = .ok (.aload_n 0, 1) := by decide +kernel
theorem dX8_ofThread_15 : decode cX8_ofThread 15 = .ok (.getfield 7, 3) := by decide +kernel
theorem dX8_ofThread_18 : decode cX8_ofThread 18 = .ok (.iconst 5, 1) := by decide +kernel
theorem dX8_ofThread_19 : decode cX8_ofThread 19 = .ok (.iaload, 1) := by decide +kernel
theorem dX8_ofThread_20 : decode cX8_ofThread 20 = .ok (.aload_n 0, 1) := by decide +kernel
theorem dX8_ofThread_21 : decode cX8_ofThread 21 = .ok (.iload_n 1, 1) := by decide +kernel
theorem dX8_ofThread_22 : decode cX8_ofThread 22 = .ok (.iconst 0, 1) := by decide +kernel
theorem dX8_ofThread_23 : decode cX8_ofThread 23 = .ok (.invokevirtual 48, 3) := by decide +kernel
theorem dX8_ofThread_26 : decode cX8_ofThread 26 = .ok (.ishr, 1) := by decide +kernel
theorem dX8_ofThread_27 : decode cX8_ofThread 27 = .ok (.iconst 1, 1) := by decide +kernel
theorem dX8_ofThread_28 : decode cX8_ofThread 28 = .ok (.iand, 1) := by decide +kernel
theorem dX8_ofThread_29 : decode cX8_ofThread 29 = .ok (.ireturn, 1) := by decide +kernel
theorem dX8_thread_0 : decode cX8_thread 0 = .ok (.iload_n 1, 1) := by decide +kernel
theorem dX8_thread_1 : decode cX8_thread 1 = .ok (.invokestatic 108, 3) := by decide +kernel
theorem dX8_thread_4 : decode cX8_thread 4 = .ok (.ifCond .ne 5, 3) := by decide +kernel
theorem dX8_thread_7 : decode cX8_thread 7 = .ok (.iconst (-1), 1) := by decide +kernel
theorem dX8_thread_8 : decode cX8_thread 8 = .ok (.ireturn, 1) := by decide +kernel
theorem dX8_thread_9 : decode cX8_thread 9 = .ok (.iload_n 2, 1) := by decide +kernel
theorem dX8_thread_10 : decode cX8_thread 10 = .ok (.iconst 0, 1) := by decide +kernel
theorem dX8_thread_11 : decode cX8_thread 11 = .ok (.iconst 2, 1) := by decide +kernel
theorem dX8_thread_12 : decode cX8_thread 12 = .ok (.invokestatic 40, 3) := by decide +kernel
theorem dX8_thread_15 : decode cX8_thread 15 = .ok (.ifCond .eq 12, 3) := by decide +kernel
theorem dX8_thread_18 : decode cX8_thread 18 = .ok (.aload_n 0, 1) := by decide +kernel
theorem dX8_thread_19 : decode cX8_thread 19 = .ok (.iload_n 1, 1) := by decide +kernel
theorem dX8_thread_20 : decode cX8_thread 20 = .ok (.iload_n 2, 1) := by decide +kernel
theorem dX8_thread_21 : decode cX8_thread 21 = .ok (.invokevirtual 117, 3) := by decide +kernel
theorem dX8_thread_24 : decode cX8_thread 24 = .ok (.goto 5, 3) := by decide +kernel
theorem dX8_thread_27 : decode cX8_thread 27 = .ok (.bipush (-2), 2) := by decide +kernel
theorem dX8_thread_29 : decode cX8_thread 29 = .ok (.ireturn, 1) := by decide +kernel
theorem dX8_ofCard_0 : decode cX8_ofCard 0 = .ok (.iload_n 2, 1) := by decide +kernel
theorem dX8_ofCard_1 : decode cX8_ofCard 1 = .ok (.iconst 3, 1) := by decide +kernel
theorem dX8_ofCard_2 : decode cX8_ofCard 2 = .ok (.if_icmp .ge 12, 3) := by decide +kernel
theorem dX8_ofCard_5 : decode cX8_ofCard 5 = .ok (.aload_n 0, 1) := by decide +kernel
theorem dX8_ofCard_6 : decode cX8_ofCard 6 = .ok (.iload_n 1, 1) := by decide +kernel
theorem dX8_ofCard_7 : decode cX8_ofCard 7 = .ok (.iload_n 2, 1) := by decide +kernel
theorem dX8_ofCard_8 : decode cX8_ofCard 8 = .ok (.invokevirtual 51, 3) := by decide +kernel
theorem dX8_ofCard_11 : decode cX8_ofCard 11 = .ok (.goto 13, 3) := by decide +kernel
theorem dX8_ofCard_14 : decode cX8_ofCard 14 = .ok (.aload_n 0, 1) := by decide +kernel
theorem dX8_ofCard_15 : decode cX8_ofCard 15 = .ok (.aload_n 0, 1) := by decide +kernel
theorem dX8_ofCard_16 : decode cX8_ofCard 16 = .ok (.iload_n 1, 1) := by decide +kernel
theorem dX8_ofCard_17 : decode cX8_ofCard 17 = .ok (.iconst 0, 1) := by decide +kernel
theorem dX8_ofCard_18 : decode cX8_ofCard 18 = .ok (.invokevirtual 51, 3) := by decide +kernel
theorem dX8_ofCard_21 : decode cX8_ofCard 21 = .ok (.invokevirtual 75, 3) := by decide +kernel
theorem dX8_ofCard_24 : decode cX8_ofCard 24 = .ok (.ireturn, 1) := by decide +kernel
theorem dX8_card_0 : decode cX8_card 0 = .ok (.aload_n 0, 1) := by decide +kernel
theorem dX8_card_1 : decode cX8_card 1 = .ok (.iload_n 1, 1) := by decide +kernel
theorem dX8_card_2 : decode cX8_card 2 = .ok (.invokevirtual 114, 3) := by decide +kernel
theorem dX8_card_5 : decode cX8_card 5 = .ok (.ifCond .ne 5, 3) := by decide +kernel
theorem dX8_card_8 : decode cX8_card 8 = .ok (.iconst (-1), 1) := by decide +kernel
theorem dX8_card_9 : decode cX8_card 9 = .ok (.ireturn, 1) := by decide +kernel
theorem dX8_card_10 : decode cX8_card 10 = .ok (.iload_n 2, 1) := by decide +kernel
theorem dX8_card_11 : decode cX8_card 11 = .ok (.iconst 0, 1) := by decide +kernel
theorem dX8_card_12 : decode cX8_card 12 = .ok (.iconst 3, 1) := by decide +kernel
theorem dX8_card_13 : decode cX8_card 13 = .ok (.invokestatic 40, 3) := by decide +kernel
theorem dX8_card_16 : decode cX8_card 16 = .ok (.ifCond .eq 12, 3) := by decide +kernel
theorem dX8_card_19 : decode cX8_card 19 = .ok (.aload_n 0, 1) := by decide +kernel
theorem dX8_card_20 : decode cX8_card 20 = .ok (.iload_n 1, 1) := by decide +kernel
theorem dX8_card_21 : decode cX8_card 21 = .ok (.iload_n 2, 1) := by decide +kernel
theorem dX8_card_22 : decode cX8_card 22 = .ok (.invokevirtual 120, 3) := by decide +kernel
theorem dX8_card_25 : decode cX8_card 25 = .ok (.goto 5, 3) := by decide +kernel
theorem dX8_card_28 : decode cX8_card 28 = .ok (.bipush (-2), 2) := by decide +kernel
theorem dX8_card_30 : decode cX8_card 30 = .ok (.ireturn, 1) := by decide +kernel
theorem dX8_shown_0 : decode cX8_shown 0 = .ok (.aload_n 0, 1) := by decide +kernel
theorem dX8_shown_1 : decode cX8_shown 1 = .ok (.iload_n 1, 1) := by decide +kernel
theorem dX8_shown_2 : decode cX8_shown 2 = .ok (.iconst 1, 1) := by decide +kernel
theorem dX8_shown_3 : decode cX8_shown 3 = .ok (.invokevirtual 89, 3) := by decide +kernel
theorem dX8_shown_6 : decode cX8_shown 6 = .ok (.iload_n 2, 1) := by decide +kernel
theorem dX8_shown_7 : decode cX8_shown 7 = .ok (.ishr, 1) := by decide +kernel
theorem dX8_shown_8 : decode cX8_shown 8 = .ok (.iconst 1, 1) := by decide +kernel
theorem dX8_shown_9 : decode cX8_shown 9 = .ok (.iand, 1) := by decide +kernel
theorem dX8_shown_10 : decode cX8_shown 10 = .ok (.iconst 1, 1) := by decide +kernel
theorem dX8_shown_11 : decode cX8_shown 11 = .ok (.if_icmp .ne 10, 3) := by decide +kernel
theorem dX8_shown_14 : decode cX8_shown 14 = .ok (.bipush 100, 2) := by decide +kernel
theorem dX8_shown_16 : decode cX8_shown 16 = .ok (.iload_n 2, 1) := by decide +kernel
theorem dX8_shown_17 : decode cX8_shown 17 = .ok (.iadd, 1) := by decide +kernel
theorem dX8_shown_18 : decode cX8_shown 18 = .ok (.goto 9, 3) := by decide +kernel
theorem dX8_shown_21 : decode cX8_shown 21 = .ok (.aload_n 0, 1) := by decide +kernel
theorem dX8_shown_22 : decode cX8_shown 22 = .ok (.iload_n 1, 1) := by decide +kernel
theorem dX8_shown_23 : decode cX8_shown 23 = .ok (.iconst 0, 1) := by decide +kernel
theorem dX8_shown_24 : decode cX8_shown 24 = .ok (.invokevirtual 89, 3) := by decide +kernel
theorem dX8_shown_27 : decode cX8_shown 27 = .ok (.ireturn, 1) := by decide +kernel
theorem dX8_cloth_0 : decode cX8_cloth 0 = .ok (.iload_n 1, 1) := by decide +kernel
theorem dX8_cloth_1 : decode cX8_cloth 1 = .ok (.iconst 0, 1) := by decide +kernel
theorem dX8_cloth_2 : decode cX8_cloth 2 = .ok (.aload_n 0, 1) := by decide +kernel
theorem dX8_cloth_3 : decode cX8_cloth 3 = .ok (.getfield 7, 3) := by decide +kernel
theorem dX8_cloth_6 : decode cX8_cloth 6 = .ok (.bipush 7, 2) := by decide +kernel
theorem dX8_cloth_8 : decode cX8_cloth 8 = .ok (.iaload, 1) := by decide +kernel
theorem dX8_cloth_9 : decode cX8_cloth 9 = .ok (.iconst 1, 1) := by decide +kernel
theorem dX8_cloth_10 : decode cX8_cloth 10 = .ok (.isub, 1) := by decide +kernel
theorem dX8_cloth_11 : decode cX8_cloth 11 = .ok (.invokestatic 40, 3) := by decide +kernel
theorem dX8_cloth_14 : decode cX8_cloth 14 = .ok (.ifCond .eq 19, 3) := by decide +kernel
theorem dX8_cloth_17 : decode cX8_cloth 17 = .ok (.iload_n 2, 1) := by decide +kernel
theorem dX8_cloth_18 : decode cX8_cloth 18 = .ok (.invokestatic 108, 3) := by decide +kernel
theorem dX8_cloth_21 : decode cX8_cloth 21 = .ok (.ifCond .eq 12, 3) := by decide +kernel
theorem dX8_cloth_24 : decode cX8_cloth 24 = .ok (.aload_n 0, 1) := by decide +kernel
theorem dX8_cloth_25 : decode cX8_cloth 25 = .ok (.iload_n 1, 1) := by decide +kernel
theorem dX8_cloth_26 : decode cX8_cloth 26 = .ok (.iload_n 2, 1) := by decide +kernel
theorem dX8_cloth_27 : decode cX8_cloth 27 = .ok (.invokevirtual 123, 3) := by decide +kernel
theorem dX8_cloth_30 : decode cX8_cloth 30 = .ok (.goto 4, 3) := by decide +kernel
theorem dX8_cloth_33 : decode cX8_cloth 33 = .ok (.iconst (-1), 1) := by decide +kernel
theorem dX8_cloth_34 : decode cX8_cloth 34 = .ok (.ireturn, 1) := by decide +kernel
theorem dX8_floatOf_0 : decode cX8_floatOf 0 = .ok (.iconst 0, 1) := by decide +kernel
theorem dX8_floatOf_1 : decode cX8_floatOf 1 = .ok (.istore_n 2, 1) := by decide +kernel
theorem dX8_floatOf_2 : decode cX8_floatOf 2 = .ok (.iconst 0, 1) := by decide +kernel
theorem dX8_floatOf_3 : decode cX8_floatOf 3 = .ok (.istore_n 3, 1) := by decide +kernel
theorem dX8_floatOf_4 : decode cX8_floatOf 4 = .ok (.iconst 0, 1) := by decide +kernel
theorem dX8_floatOf_5 : decode cX8_floatOf 5 = .ok (.istore 4, 2) := by decide +kernel
theorem dX8_floatOf_7 : decode cX8_floatOf 7 = .ok (.iload 4, 2) := by decide +kernel
theorem dX8_floatOf_9 : decode cX8_floatOf 9 = .ok (.aload_n 0, 1) := by decide +kernel
theorem dX8_floatOf_10 : decode cX8_floatOf 10 = .ok (.getfield 7, 3) := by decide +kernel
theorem dX8_floatOf_13 : decode cX8_floatOf 13 = .ok (.bipush 7, 2) := by decide +kernel
theorem dX8_floatOf_15 : decode cX8_floatOf 15 = .ok (.iaload, 1) := by decide +kernel
theorem dX8_floatOf_16 : decode cX8_floatOf 16 = .ok (.if_icmp .ge 72, 3) := by decide +kernel
theorem dX8_floatOf_19 : decode cX8_floatOf 19 = .ok (.iload 4, 2) := by decide +kernel
theorem dX8_floatOf_21 : decode cX8_floatOf 21 = .ok (.ifCond .le 34, 3) := by decide +kernel
theorem dX8_floatOf_24 : decode cX8_floatOf 24 = .ok (.aload_n 0, 1) := by decide +kernel
theorem dX8_floatOf_25 : decode cX8_floatOf 25 = .ok (.iload 4, 2) := by decide +kernel
theorem dX8_floatOf_27 : decode cX8_floatOf 27 = .ok (.iconst 1, 1) := by decide +kernel
theorem dX8_floatOf_28 : decode cX8_floatOf 28 = .ok (.invokevirtual 89, 3) := by decide +kernel
theorem dX8_floatOf_31 : decode cX8_floatOf 31 = .ok (.iload_n 1, 1) := by decide +kernel
theorem dX8_floatOf_32 : decode cX8_floatOf 32 = .ok (.ishr, 1) := by decide +kernel
theorem dX8_floatOf_33 : decode cX8_floatOf 33 = .ok (.iconst 1, 1) := by decide +kernel
theorem dX8_floatOf_34 : decode cX8_floatOf 34 = .ok (.iand, 1) := by decide +kernel
theorem dX8_floatOf_35 : decode cX8_floatOf 35 = .ok (.aload_n 0, 1) := by decide +kernel
theorem dX8_floatOf_36 : decode cX8_floatOf 36 = .ok (.iload 4, 2) := by decide +kernel
theorem dX8_floatOf_38 : decode cX8_floatOf 38 = .ok (.iconst 1, 1) := by decide +kernel
theorem dX8_floatOf_39 : decode cX8_floatOf 39 = .ok (.isub, 1) := by decide +kernel
theorem dX8_floatOf_40 : decode cX8_floatOf 40 = .ok (.iconst 1, 1) := by decide +kernel
theorem dX8_floatOf_41 : decode cX8_floatOf 41 = .ok (.invokevirtual 89, 3) := by decide +kernel
theorem dX8_floatOf_44 : decode cX8_floatOf 44 = .ok (.iload_n 1, 1) := by decide +kernel
theorem dX8_floatOf_45 : decode cX8_floatOf 45 = .ok (.ishr, 1) := by decide +kernel
theorem dX8_floatOf_46 : decode cX8_floatOf 46 = .ok (.iconst 1, 1) := by decide +kernel
theorem dX8_floatOf_47 : decode cX8_floatOf 47 = .ok (.iand, 1) := by decide +kernel
theorem dX8_floatOf_48 : decode cX8_floatOf 48 = .ok (.if_icmp .ne 7, 3) := by decide +kernel
theorem dX8_floatOf_51 : decode cX8_floatOf 51 = .ok (.iconst 1, 1) := by decide +kernel
theorem dX8_floatOf_52 : decode cX8_floatOf 52 = .ok (.goto 4, 3) := by decide +kernel
theorem dX8_floatOf_55 : decode cX8_floatOf 55 = .ok (.iconst 0, 1) := by decide +kernel
theorem dX8_floatOf_56 : decode cX8_floatOf 56 = .ok (.istore 5, 2) := by decide +kernel
theorem dX8_floatOf_58 : decode cX8_floatOf 58 = .ok (.iload 5, 2) := by decide +kernel
theorem dX8_floatOf_60 : decode cX8_floatOf 60 = .ok (.ifCond .eq 9, 3) := by decide +kernel
theorem dX8_floatOf_63 : decode cX8_floatOf 63 = .ok (.iload_n 3, 1) := by decide +kernel
theorem dX8_floatOf_64 : decode cX8_floatOf 64 = .ok (.iconst 1, 1) := by decide +kernel
theorem dX8_floatOf_65 : decode cX8_floatOf 65 = .ok (.iadd, 1) := by decide +kernel
theorem dX8_floatOf_66 : decode cX8_floatOf 66 = .ok (.goto 4, 3) := by decide +kernel
theorem dX8_floatOf_69 : decode cX8_floatOf 69 = .ok (.iconst 1, 1) := by decide +kernel
theorem dX8_floatOf_70 : decode cX8_floatOf 70 = .ok (.istore_n 3, 1) := by decide +kernel
theorem dX8_floatOf_71 : decode cX8_floatOf 71 = .ok (.iload_n 3, 1) := by decide +kernel
theorem dX8_floatOf_72 : decode cX8_floatOf 72 = .ok (.iload_n 2, 1) := by decide +kernel
theorem dX8_floatOf_73 : decode cX8_floatOf 73 = .ok (.if_icmp .le 7, 3) := by decide +kernel
theorem dX8_floatOf_76 : decode cX8_floatOf 76 = .ok (.iload_n 3, 1) := by decide +kernel
theorem dX8_floatOf_77 : decode cX8_floatOf 77 = .ok (.goto 4, 3) := by decide +kernel
theorem dX8_floatOf_80 : decode cX8_floatOf 80 = .ok (.iload_n 2, 1) := by decide +kernel
theorem dX8_floatOf_81 : decode cX8_floatOf 81 = .ok (.istore_n 2, 1) := by decide +kernel
theorem dX8_floatOf_82 : decode cX8_floatOf 82 = .ok (.iinc 4 1, 3) := by decide +kernel
theorem dX8_floatOf_85 : decode cX8_floatOf 85 = .ok (.goto (-78), 3) := by decide +kernel
theorem dX8_floatOf_88 : decode cX8_floatOf 88 = .ok (.iload_n 2, 1) := by decide +kernel
theorem dX8_floatOf_89 : decode cX8_floatOf 89 = .ok (.ireturn, 1) := by decide +kernel
theorem dX8_longestFloat_0 : decode cX8_longestFloat 0 = .ok (.iload_n 1, 1) := by decide +kernel
theorem dX8_longestFloat_1 : decode cX8_longestFloat 1 = .ok (.invokestatic 108, 3) := by decide +kernel
theorem dX8_longestFloat_4 : decode cX8_longestFloat 4 = .ok (.ifCond .eq 11, 3) := by decide +kernel
theorem dX8_longestFloat_7 : decode cX8_longestFloat 7 = .ok (.aload_n 0, 1) := by decide +kernel
theorem dX8_longestFloat_8 : decode cX8_longestFloat 8 = .ok (.iload_n 1, 1) := by decide +kernel
theorem dX8_longestFloat_9 : decode cX8_longestFloat 9 = .ok (.invokevirtual 126, 3) := by decide +kernel
theorem dX8_longestFloat_12 : decode cX8_longestFloat 12 = .ok (.goto 4, 3) := by decide +kernel
theorem dX8_longestFloat_15 : decode cX8_longestFloat 15 = .ok (.iconst (-1), 1) := by decide +kernel
theorem dX8_longestFloat_16 : decode cX8_longestFloat 16 = .ok (.ireturn, 1) := by decide +kernel
theorem dX8_nextReason_0 : decode cX8_nextReason 0 = .ok (.aload_n 0, 1) := by decide +kernel
theorem dX8_nextReason_1 : decode cX8_nextReason 1 = .ok (.iconst 1, 1) := by decide +kernel
theorem dX8_nextReason_2 : decode cX8_nextReason 2 = .ok (.invokevirtual 79, 3) := by decide +kernel
theorem dX8_nextReason_5 : decode cX8_nextReason 5 = .ok (.aload_n 0, 1) := by decide +kernel
theorem dX8_nextReason_6 : decode cX8_nextReason 6 = .ok (.getfield 54, 3) := by decide +kernel
theorem dX8_nextReason_9 : decode cX8_nextReason 9 = .ok (.ireturn, 1) := by decide +kernel
theorem dX8_whyNot_0 : decode cX8_whyNot 0 = .ok (.aload_n 0, 1) := by decide +kernel
theorem dX8_whyNot_1 : decode cX8_whyNot 1 = .ok (.invokevirtual 129, 3) := by decide +kernel
theorem dX8_whyNot_4 : decode cX8_whyNot 4 = .ok (.ireturn, 1) := by decide +kernel
theorem dX8_left_0 : decode cX8_left 0 = .ok (.aload_n 0, 1) := by decide +kernel
theorem dX8_left_1 : decode cX8_left 1 = .ok (.getfield 7, 3) := by decide +kernel
theorem dX8_left_4 : decode cX8_left 4 = .ok (.iconst 0, 1) := by decide +kernel
theorem dX8_left_5 : decode cX8_left 5 = .ok (.aload_n 0, 1) := by decide +kernel
theorem dX8_left_6 : decode cX8_left 6 = .ok (.getfield 13, 3) := by decide +kernel
theorem dX8_left_9 : decode cX8_left 9 = .ok (.iconst 0, 1) := by decide +kernel
theorem dX8_left_10 : decode cX8_left 10 = .ok (.invokestatic 33, 3) := by decide +kernel
theorem dX8_left_13 : decode cX8_left 13 = .ok (.iconst 0, 1) := by decide +kernel
theorem dX8_left_14 : decode cX8_left 14 = .ok (.istore_n 1, 1) := by decide +kernel
theorem dX8_left_15 : decode cX8_left 15 = .ok (.aload_n 0, 1) := by decide +kernel
theorem dX8_left_16 : decode cX8_left 16 = .ok (.iconst 1, 1) := by decide +kernel
theorem dX8_left_17 : decode cX8_left 17 = .ok (.invokevirtual 79, 3) := by decide +kernel
theorem dX8_left_20 : decode cX8_left 20 = .ok (.iload_n 1, 1) := by decide +kernel
theorem dX8_left_21 : decode cX8_left 21 = .ok (.sipush 200, 3) := by decide +kernel
theorem dX8_left_24 : decode cX8_left 24 = .ok (.if_icmp .ge 25, 3) := by decide +kernel
theorem dX8_left_27 : decode cX8_left 27 = .ok (.aload_n 0, 1) := by decide +kernel
theorem dX8_left_28 : decode cX8_left 28 = .ok (.getfield 54, 3) := by decide +kernel
theorem dX8_left_31 : decode cX8_left 31 = .ok (.ifCond .ne 18, 3) := by decide +kernel
theorem dX8_left_34 : decode cX8_left 34 = .ok (.aload_n 0, 1) := by decide +kernel
theorem dX8_left_35 : decode cX8_left 35 = .ok (.invokevirtual 86, 3) := by decide +kernel
theorem dX8_left_38 : decode cX8_left 38 = .ok (.iinc 1 1, 3) := by decide +kernel
theorem dX8_left_41 : decode cX8_left 41 = .ok (.aload_n 0, 1) := by decide +kernel
theorem dX8_left_42 : decode cX8_left 42 = .ok (.iconst 1, 1) := by decide +kernel
theorem dX8_left_43 : decode cX8_left 43 = .ok (.invokevirtual 79, 3) := by decide +kernel
theorem dX8_left_46 : decode cX8_left 46 = .ok (.goto (-26), 3) := by decide +kernel
theorem dX8_left_49 : decode cX8_left 49 = .ok (.aload_n 0, 1) := by decide +kernel
theorem dX8_left_50 : decode cX8_left 50 = .ok (.getfield 13, 3) := by decide +kernel
theorem dX8_left_53 : decode cX8_left 53 = .ok (.iconst 0, 1) := by decide +kernel
theorem dX8_left_54 : decode cX8_left 54 = .ok (.aload_n 0, 1) := by decide +kernel
theorem dX8_left_55 : decode cX8_left 55 = .ok (.getfield 7, 3) := by decide +kernel
theorem dX8_left_58 : decode cX8_left 58 = .ok (.iconst 0, 1) := by decide +kernel
theorem dX8_left_59 : decode cX8_left 59 = .ok (.invokestatic 33, 3) := by decide +kernel
theorem dX8_left_62 : decode cX8_left 62 = .ok (.iload_n 1, 1) := by decide +kernel
theorem dX8_left_63 : decode cX8_left 63 = .ok (.ireturn, 1) := by decide +kernel
theorem dX8_picksLeft_0 : decode cX8_picksLeft 0 = .ok (.aload_n 0, 1) := by decide +kernel
theorem dX8_picksLeft_1 : decode cX8_picksLeft 1 = .ok (.invokevirtual 132, 3) := by decide +kernel
theorem dX8_picksLeft_4 : decode cX8_picksLeft 4 = .ok (.ireturn, 1) := by decide +kernel
theorem dX8_emptyOne_0 : decode cX8_emptyOne 0 = .ok (.aload_n 0, 1) := by decide +kernel
theorem dX8_emptyOne_1 : decode cX8_emptyOne 1 = .ok (.getfield 7, 3) := by decide +kernel
theorem dX8_emptyOne_4 : decode cX8_emptyOne 4 = .ok (.iconst 0, 1) := by decide +kernel
theorem dX8_emptyOne_5 : decode cX8_emptyOne 5 = .ok (.aload_n 0, 1) := by decide +kernel
theorem dX8_emptyOne_6 : decode cX8_emptyOne 6 = .ok (.getfield 13, 3) := by decide +kernel
theorem dX8_emptyOne_9 : decode cX8_emptyOne 9 = .ok (.iconst 0, 1) := by decide +kernel
theorem dX8_emptyOne_10 : decode cX8_emptyOne 10 = .ok (.invokestatic 33, 3) := by decide +kernel
theorem dX8_emptyOne_13 : decode cX8_emptyOne 13 = .ok (.iconst 0, 1) := by decide +kernel
theorem dX8_emptyOne_14 : decode cX8_emptyOne 14 = .ok (.istore_n 1, 1) := by decide +kernel
theorem dX8_emptyOne_15 : decode cX8_emptyOne 15 = .ok (.aload_n 0, 1) := by decide +kernel
theorem dX8_emptyOne_16 : decode cX8_emptyOne 16 = .ok (.iconst 0, 1) := by decide +kernel
theorem dX8_emptyOne_17 : decode cX8_emptyOne 17 = .ok (.invokevirtual 79, 3) := by decide +kernel
theorem dX8_emptyOne_20 : decode cX8_emptyOne 20 = .ok (.iload_n 1, 1) := by decide +kernel
theorem dX8_emptyOne_21 : decode cX8_emptyOne 21 = .ok (.sipush 999, 3) := by decide +kernel
theorem dX8_emptyOne_24 : decode cX8_emptyOne 24 = .ok (.if_icmp .ge 25, 3) := by decide +kernel
theorem dX8_emptyOne_27 : decode cX8_emptyOne 27 = .ok (.aload_n 0, 1) := by decide +kernel
theorem dX8_emptyOne_28 : decode cX8_emptyOne 28 = .ok (.getfield 54, 3) := by decide +kernel
theorem dX8_emptyOne_31 : decode cX8_emptyOne 31 = .ok (.ifCond .ne 18, 3) := by decide +kernel
theorem dX8_emptyOne_34 : decode cX8_emptyOne 34 = .ok (.aload_n 0, 1) := by decide +kernel
theorem dX8_emptyOne_35 : decode cX8_emptyOne 35 = .ok (.invokevirtual 86, 3) := by decide +kernel
theorem dX8_emptyOne_38 : decode cX8_emptyOne 38 = .ok (.iinc 1 1, 3) := by decide +kernel
theorem dX8_emptyOne_41 : decode cX8_emptyOne 41 = .ok (.aload_n 0, 1) := by decide +kernel
theorem dX8_emptyOne_42 : decode cX8_emptyOne 42 = .ok (.iconst 0, 1) := by decide +kernel
theorem dX8_emptyOne_43 : decode cX8_emptyOne 43 = .ok (.invokevirtual 79, 3) := by decide +kernel
theorem dX8_emptyOne_46 : decode cX8_emptyOne 46 = .ok (.goto (-26), 3) := by decide +kernel
theorem dX8_emptyOne_49 : decode cX8_emptyOne 49 = .ok (.aload_n 0, 1) := by decide +kernel
theorem dX8_emptyOne_50 : decode cX8_emptyOne 50 = .ok (.getfield 13, 3) := by decide +kernel
theorem dX8_emptyOne_53 : decode cX8_emptyOne 53 = .ok (.iconst 0, 1) := by decide +kernel
theorem dX8_emptyOne_54 : decode cX8_emptyOne 54 = .ok (.aload_n 0, 1) := by decide +kernel
theorem dX8_emptyOne_55 : decode cX8_emptyOne 55 = .ok (.getfield 7, 3) := by decide +kernel
theorem dX8_emptyOne_58 : decode cX8_emptyOne 58 = .ok (.iconst 0, 1) := by decide +kernel
theorem dX8_emptyOne_59 : decode cX8_emptyOne 59 = .ok (.invokestatic 33, 3) := by decide +kernel
theorem dX8_emptyOne_62 : decode cX8_emptyOne 62 = .ok (.iload_n 1, 1) := by decide +kernel
theorem dX8_emptyOne_63 : decode cX8_emptyOne 63 = .ok (.sipush 999, 3) := by decide +kernel
theorem dX8_emptyOne_66 : decode cX8_emptyOne 66 = .ok (.if_icmp .ge 19, 3) := by decide +kernel
theorem dX8_emptyOne_69 : decode cX8_emptyOne 69 = .ok (.aload_n 0, 1) := by decide +kernel
theorem dX8_emptyOne_70 : decode cX8_emptyOne 70 = .ok (.getfield 54, 3) := by decide +kernel
theorem dX8_emptyOne_73 : decode cX8_emptyOne 73 = .ok (.bipush 6, 2) := by decide +kernel
theorem dX8_emptyOne_75 : decode cX8_emptyOne 75 = .ok (.if_icmp .ne 10, 3) := by decide +kernel
theorem dX8_emptyOne_78 : decode cX8_emptyOne 78 = .ok (.aload_n 0, 1) := by decide +kernel
theorem dX8_emptyOne_79 : decode cX8_emptyOne 79 = .ok (.getfield 57, 3) := by decide +kernel
theorem dX8_emptyOne_82 : decode cX8_emptyOne 82 = .ok (.goto 5, 3) := by decide +kernel
theorem dX8_emptyOne_85 : decode cX8_emptyOne 85 = .ok (.bipush (-6), 2) := by decide +kernel
theorem dX8_emptyOne_87 : decode cX8_emptyOne 87 = .ok (.ireturn, 1) := by decide +kernel
theorem dX8_firstEmpty_0 : decode cX8_firstEmpty 0 = .ok (.aload_n 0, 1) := by decide +kernel
theorem dX8_firstEmpty_1 : decode cX8_firstEmpty 1 = .ok (.invokevirtual 135, 3) := by decide +kernel
theorem dX8_firstEmpty_4 : decode cX8_firstEmpty 4 = .ok (.ireturn, 1) := by decide +kernel
theorem dX8_isRepeating_0 : decode cX8_isRepeating 0 = .ok (.aload_n 0, 1) := by decide +kernel
theorem dX8_isRepeating_1 : decode cX8_isRepeating 1 = .ok (.getfield 7, 3) := by decide +kernel
theorem dX8_isRepeating_4 : decode cX8_isRepeating 4 = .ok (.iconst 0, 1) := by decide +kernel
theorem dX8_isRepeating_5 : decode cX8_isRepeating 5 = .ok (.aload_n 0, 1) := by decide +kernel
theorem dX8_isRepeating_6 : decode cX8_isRepeating 6 = .ok (.getfield 13, 3) := by decide +kernel
theorem dX8_isRepeating_9 : decode cX8_isRepeating 9 = .ok (.iconst 0, 1) := by decide +kernel
theorem dX8_isRepeating_10 : decode cX8_isRepeating 10 = .ok (.invokestatic 33, 3) := by decide +kernel
theorem dX8_isRepeating_13 : decode cX8_isRepeating 13 = .ok (.aload_n 0, 1) := by decide +kernel
theorem dX8_isRepeating_14 : decode cX8_isRepeating 14 = .ok (.getfield 7, 3) := by decide +kernel
theorem dX8_isRepeating_17 : decode cX8_isRepeating 17 = .ok (.iconst 1, 1) := by decide +kernel
theorem dX8_isRepeating_18 : decode cX8_isRepeating 18 = .ok (.iconst 0, 1) := by decide +kernel
theorem dX8_isRepeating_19 : decode cX8_isRepeating 19 = .ok (.iastore, 1) := by decide +kernel
theorem dX8_isRepeating_20 : decode cX8_isRepeating 20 = .ok (.aload_n 0, 1) := by decide +kernel
theorem dX8_isRepeating_21 : decode cX8_isRepeating 21 = .ok (.getfield 7, 3) := by decide +kernel
theorem dX8_isRepeating_24 : decode cX8_isRepeating 24 = .ok (.iconst 0, 1) := by decide +kernel
theorem dX8_isRepeating_25 : decode cX8_isRepeating 25 = .ok (.iaload, 1) := by decide +kernel
theorem dX8_isRepeating_26 : decode cX8_isRepeating 26 = .ok (.ifCond .le 7, 3) := by decide +kernel
theorem dX8_isRepeating_29 : decode cX8_isRepeating 29 = .ok (.iconst 1, 1) := by decide +kernel
theorem dX8_isRepeating_30 : decode cX8_isRepeating 30 = .ok (.goto 4, 3) := by decide +kernel
theorem dX8_isRepeating_33 : decode cX8_isRepeating 33 = .ok (.iconst 0, 1) := by decide +kernel
theorem dX8_isRepeating_34 : decode cX8_isRepeating 34 = .ok (.istore_n 1, 1) := by decide +kernel
theorem dX8_isRepeating_35 : decode cX8_isRepeating 35 = .ok (.iconst 0, 1) := by decide +kernel
theorem dX8_isRepeating_36 : decode cX8_isRepeating 36 = .ok (.istore_n 2, 1) := by decide +kernel
theorem dX8_isRepeating_37 : decode cX8_isRepeating 37 = .ok (.iload_n 2, 1) := by decide +kernel
theorem dX8_isRepeating_38 : decode cX8_isRepeating 38 = .ok (.aload_n 0, 1) := by decide +kernel
theorem dX8_isRepeating_39 : decode cX8_isRepeating 39 = .ok (.getfield 7, 3) := by decide +kernel
theorem dX8_isRepeating_42 : decode cX8_isRepeating 42 = .ok (.iconst 0, 1) := by decide +kernel
theorem dX8_isRepeating_43 : decode cX8_isRepeating 43 = .ok (.iaload, 1) := by decide +kernel
theorem dX8_isRepeating_44 : decode cX8_isRepeating 44 = .ok (.if_icmp .ge 39, 3) := by decide +kernel
theorem dX8_isRepeating_47 : decode cX8_isRepeating 47 = .ok (.iload_n 1, 1) := by decide +kernel
theorem dX8_isRepeating_48 : decode cX8_isRepeating 48 = .ok (.ifCond .eq 35, 3) := by decide +kernel
theorem dX8_isRepeating_51 : decode cX8_isRepeating 51 = .ok (.aload_n 0, 1) := by decide +kernel
theorem dX8_isRepeating_52 : decode cX8_isRepeating 52 = .ok (.iconst 1, 1) := by decide +kernel
theorem dX8_isRepeating_53 : decode cX8_isRepeating 53 = .ok (.invokevirtual 79, 3) := by decide +kernel
theorem dX8_isRepeating_56 : decode cX8_isRepeating 56 = .ok (.aload_n 0, 1) := by decide +kernel
theorem dX8_isRepeating_57 : decode cX8_isRepeating 57 = .ok (.getfield 54, 3) := by decide +kernel
theorem dX8_isRepeating_60 : decode cX8_isRepeating 60 = .ok (.ifCond .ne 7, 3) := by decide +kernel
theorem dX8_isRepeating_63 : decode cX8_isRepeating 63 = .ok (.iconst 1, 1) := by decide +kernel
theorem dX8_isRepeating_64 : decode cX8_isRepeating 64 = .ok (.goto 4, 3) := by decide +kernel
theorem dX8_isRepeating_67 : decode cX8_isRepeating 67 = .ok (.iconst 0, 1) := by decide +kernel
theorem dX8_isRepeating_68 : decode cX8_isRepeating 68 = .ok (.istore_n 1, 1) := by decide +kernel
theorem dX8_isRepeating_69 : decode cX8_isRepeating 69 = .ok (.iload_n 1, 1) := by decide +kernel
theorem dX8_isRepeating_70 : decode cX8_isRepeating 70 = .ok (.ifCond .eq 7, 3) := by decide +kernel
theorem dX8_isRepeating_73 : decode cX8_isRepeating 73 = .ok (.aload_n 0, 1) := by decide +kernel
theorem dX8_isRepeating_74 : decode cX8_isRepeating 74 = .ok (.invokevirtual 86, 3) := by decide +kernel
theorem dX8_isRepeating_77 : decode cX8_isRepeating 77 = .ok (.iinc 2 1, 3) := by decide +kernel
theorem dX8_isRepeating_80 : decode cX8_isRepeating 80 = .ok (.goto (-43), 3) := by decide +kernel
theorem dX8_isRepeating_83 : decode cX8_isRepeating 83 = .ok (.iconst 0, 1) := by decide +kernel
theorem dX8_isRepeating_84 : decode cX8_isRepeating 84 = .ok (.istore_n 2, 1) := by decide +kernel
theorem dX8_isRepeating_85 : decode cX8_isRepeating 85 = .ok (.iload_n 2, 1) := by decide +kernel
theorem dX8_isRepeating_86 : decode cX8_isRepeating 86 = .ok (.iconst 5, 1) := by decide +kernel
theorem dX8_isRepeating_87 : decode cX8_isRepeating 87 = .ok (.if_icmp .ge 63, 3) := by decide +kernel
theorem dX8_isRepeating_90 : decode cX8_isRepeating 90 = .ok (.iload_n 1, 1) := by decide +kernel
theorem dX8_isRepeating_91 : decode cX8_isRepeating 91 = .ok (.ifCond .eq 51, 3) := by decide +kernel
theorem dX8_isRepeating_94 : decode cX8_isRepeating 94 = .ok (.aload_n 0, 1) := by decide +kernel
theorem dX8_isRepeating_95 : decode cX8_isRepeating 95 = .ok (.iload_n 2, 1) := by decide +kernel
theorem dX8_isRepeating_96 : decode cX8_isRepeating 96 = .ok (.iconst 2, 1) := by decide +kernel
theorem dX8_isRepeating_97 : decode cX8_isRepeating 97 = .ok (.invokevirtual 44, 3) := by decide +kernel
theorem dX8_isRepeating_100 : decode cX8_isRepeating 100 = .ok (.aload_n 0, 1) := by decide +kernel
theorem dX8_isRepeating_101 : decode cX8_isRepeating 101 = .ok (.getfield 13, 3) := by decide +kernel
theorem dX8_isRepeating_104 : decode cX8_isRepeating 104 = .ok (.bipush 12, 2) := by decide +kernel
theorem dX8_isRepeating_106 : decode cX8_isRepeating 106 = .ok (.iconst 4, 1) := by decide +kernel
theorem dX8_isRepeating_107 : decode cX8_isRepeating 107 = .ok (.iload_n 2, 1) := by decide +kernel
theorem dX8_isRepeating_108 : decode cX8_isRepeating 108 = .ok (.imul, 1) := by decide +kernel
theorem dX8_isRepeating_109 : decode cX8_isRepeating 109 = .ok (.iadd, 1) := by decide +kernel
theorem dX8_isRepeating_110 : decode cX8_isRepeating 110 = .ok (.iconst 2, 1) := by decide +kernel
theorem dX8_isRepeating_111 : decode cX8_isRepeating 111 = .ok (.iadd, 1) := by decide +kernel
theorem dX8_isRepeating_112 : decode cX8_isRepeating 112 = .ok (.iaload, 1) := by decide +kernel
theorem dX8_isRepeating_113 : decode cX8_isRepeating 113 = .ok (.if_icmp .ne 29, 3) := by decide +kernel
theorem dX8_isRepeating_116 : decode cX8_isRepeating 116 = .ok (.aload_n 0, 1) := by decide +kernel
theorem dX8_isRepeating_117 : decode cX8_isRepeating 117 = .ok (.iload_n 2, 1) := by decide +kernel
theorem dX8_isRepeating_118 : decode cX8_isRepeating 118 = .ok (.iconst 3, 1) := by decide +kernel
theorem dX8_isRepeating_119 : decode cX8_isRepeating 119 = .ok (.invokevirtual 44, 3) := by decide +kernel
theorem dX8_isRepeating_122 : decode cX8_isRepeating 122 = .ok (.aload_n 0, 1) := by decide +kernel
theorem dX8_isRepeating_123 : decode cX8_isRepeating 123 = .ok (.getfield 13, 3) := by decide +kernel
theorem dX8_isRepeating_126 : decode cX8_isRepeating 126 = .ok (.bipush 12, 2) := by decide +kernel
theorem dX8_isRepeating_128 : decode cX8_isRepeating 128 = .ok (.iconst 4, 1) := by decide +kernel
theorem dX8_isRepeating_129 : decode cX8_isRepeating 129 = .ok (.iload_n 2, 1) := by decide +kernel
theorem dX8_isRepeating_130 : decode cX8_isRepeating 130 = .ok (.imul, 1) := by decide +kernel
theorem dX8_isRepeating_131 : decode cX8_isRepeating 131 = .ok (.iadd, 1) := by decide +kernel
theorem dX8_isRepeating_132 : decode cX8_isRepeating 132 = .ok (.iconst 3, 1) := by decide +kernel
theorem dX8_isRepeating_133 : decode cX8_isRepeating 133 = .ok (.iadd, 1) := by decide +kernel
theorem dX8_isRepeating_134 : decode cX8_isRepeating 134 = .ok (.iaload, 1) := by decide +kernel
theorem dX8_isRepeating_135 : decode cX8_isRepeating 135 = .ok (.if_icmp .ne 7, 3) := by decide +kernel
theorem dX8_isRepeating_138 : decode cX8_isRepeating 138 = .ok (.iconst 1, 1) := by decide +kernel
theorem dX8_isRepeating_139 : decode cX8_isRepeating 139 = .ok (.goto 4, 3) := by decide +kernel
theorem dX8_isRepeating_142 : decode cX8_isRepeating 142 = .ok (.iconst 0, 1) := by decide +kernel
theorem dX8_isRepeating_143 : decode cX8_isRepeating 143 = .ok (.istore_n 1, 1) := by decide +kernel
theorem dX8_isRepeating_144 : decode cX8_isRepeating 144 = .ok (.iinc 2 1, 3) := by decide +kernel
theorem dX8_isRepeating_147 : decode cX8_isRepeating 147 = .ok (.goto (-62), 3) := by decide +kernel
theorem dX8_isRepeating_150 : decode cX8_isRepeating 150 = .ok (.aload_n 0, 1) := by decide +kernel
theorem dX8_isRepeating_151 : decode cX8_isRepeating 151 = .ok (.getfield 13, 3) := by decide +kernel
theorem dX8_isRepeating_154 : decode cX8_isRepeating 154 = .ok (.iconst 0, 1) := by decide +kernel
theorem dX8_isRepeating_155 : decode cX8_isRepeating 155 = .ok (.aload_n 0, 1) := by decide +kernel
theorem dX8_isRepeating_156 : decode cX8_isRepeating 156 = .ok (.getfield 7, 3) := by decide +kernel
theorem dX8_isRepeating_159 : decode cX8_isRepeating 159 = .ok (.iconst 0, 1) := by decide +kernel
theorem dX8_isRepeating_160 : decode cX8_isRepeating 160 = .ok (.invokestatic 33, 3) := by decide +kernel
theorem dX8_isRepeating_163 : decode cX8_isRepeating 163 = .ok (.iload_n 1, 1) := by decide +kernel
theorem dX8_isRepeating_164 : decode cX8_isRepeating 164 = .ok (.ifCond .eq 7, 3) := by decide +kernel
theorem dX8_isRepeating_167 : decode cX8_isRepeating 167 = .ok (.iconst 1, 1) := by decide +kernel
theorem dX8_isRepeating_168 : decode cX8_isRepeating 168 = .ok (.goto 4, 3) := by decide +kernel
theorem dX8_isRepeating_171 : decode cX8_isRepeating 171 = .ok (.iconst 0, 1) := by decide +kernel
theorem dX8_isRepeating_172 : decode cX8_isRepeating 172 = .ok (.ireturn, 1) := by decide +kernel
theorem dX8_repeats_0 : decode cX8_repeats 0 = .ok (.aload_n 0, 1) := by decide +kernel
theorem dX8_repeats_1 : decode cX8_repeats 1 = .ok (.invokevirtual 138, 3) := by decide +kernel
theorem dX8_repeats_4 : decode cX8_repeats 4 = .ok (.ireturn, 1) := by decide +kernel
theorem dX8_type_0 : decode cX8_type 0 = .ok (.iload_n 1, 1) := by decide +kernel
theorem dX8_type_1 : decode cX8_type 1 = .ok (.bipush 33, 2) := by decide +kernel
theorem dX8_type_3 : decode cX8_type 3 = .ok (.bipush 126, 2) := by decide +kernel
theorem dX8_type_5 : decode cX8_type 5 = .ok (.invokestatic 40, 3) := by decide +kernel
theorem dX8_type_8 : decode cX8_type 8 = .ok (.ifCond .ne 6, 3) := by decide +kernel
theorem dX8_type_11 : decode cX8_type 11 = .ok (.bipush (-2), 2) := by decide +kernel
theorem dX8_type_13 : decode cX8_type 13 = .ok (.ireturn, 1) := by decide +kernel
theorem dX8_type_14 : decode cX8_type 14 = .ok (.aload_n 0, 1) := by decide +kernel
theorem dX8_type_15 : decode cX8_type 15 = .ok (.getfield 141, 3) := by decide +kernel
theorem dX8_type_18 : decode cX8_type 18 = .ok (.bipush 80, 2) := by decide +kernel
theorem dX8_type_20 : decode cX8_type 20 = .ok (.if_icmp .ne 6, 3) := by decide +kernel
theorem dX8_type_23 : decode cX8_type 23 = .ok (.bipush (-4), 2) := by decide +kernel
theorem dX8_type_25 : decode cX8_type 25 = .ok (.ireturn, 1) := by decide +kernel
theorem dX8_type_26 : decode cX8_type 26 = .ok (.aload_n 0, 1) := by decide +kernel
theorem dX8_type_27 : decode cX8_type 27 = .ok (.getfield 19, 3) := by decide +kernel
theorem dX8_type_30 : decode cX8_type 30 = .ok (.aload_n 0, 1) := by decide +kernel
theorem dX8_type_31 : decode cX8_type 31 = .ok (.getfield 141, 3) := by decide +kernel
theorem dX8_type_34 : decode cX8_type 34 = .ok (.iload_n 1, 1) := by decide +kernel
theorem dX8_type_35 : decode cX8_type 35 = .ok (.iastore, 1) := by decide +kernel
theorem dX8_type_36 : decode cX8_type 36 = .ok (.aload_n 0, 1) := by decide +kernel
theorem dX8_type_37 : decode cX8_type 37 = .ok (.dup, 1) := by decide +kernel
theorem dX8_type_38 : decode cX8_type 38 = .ok (.getfield 141, 3) := by decide +kernel
theorem dX8_type_41 : decode cX8_type 41 = .ok (.iconst 1, 1) := by decide +kernel
theorem dX8_type_42 : decode cX8_type 42 = .ok (.iadd, 1) := by decide +kernel
theorem dX8_type_43 : decode cX8_type 43 = .ok (.putfield 141, 3) := by decide +kernel
theorem dX8_type_46 : decode cX8_type 46 = .ok (.aload_n 0, 1) := by decide +kernel
theorem dX8_type_47 : decode cX8_type 47 = .ok (.getfield 141, 3) := by decide +kernel
theorem dX8_type_50 : decode cX8_type 50 = .ok (.ireturn, 1) := by decide +kernel
theorem dX8_clearText_0 : decode cX8_clearText 0 = .ok (.aload_n 0, 1) := by decide +kernel
theorem dX8_clearText_1 : decode cX8_clearText 1 = .ok (.getfield 141, 3) := by decide +kernel
theorem dX8_clearText_4 : decode cX8_clearText 4 = .ok (.istore_n 1, 1) := by decide +kernel
theorem dX8_clearText_5 : decode cX8_clearText 5 = .ok (.aload_n 0, 1) := by decide +kernel
theorem dX8_clearText_6 : decode cX8_clearText 6 = .ok (.iconst 0, 1) := by decide +kernel
theorem dX8_clearText_7 : decode cX8_clearText 7 = .ok (.putfield 141, 3) := by decide +kernel
theorem dX8_clearText_10 : decode cX8_clearText 10 = .ok (.iload_n 1, 1) := by decide +kernel
theorem dX8_clearText_11 : decode cX8_clearText 11 = .ok (.ireturn, 1) := by decide +kernel
theorem dX8_character_0 : decode cX8_character 0 = .ok (.iload_n 1, 1) := by decide +kernel
theorem dX8_character_1 : decode cX8_character 1 = .ok (.aload_n 0, 1) := by decide +kernel
theorem dX8_character_2 : decode cX8_character 2 = .ok (.getfield 141, 3) := by decide +kernel
theorem dX8_character_5 : decode cX8_character 5 = .ok (.if_icmp .ge 12, 3) := by decide +kernel
theorem dX8_character_8 : decode cX8_character 8 = .ok (.aload_n 0, 1) := by decide +kernel
theorem dX8_character_9 : decode cX8_character 9 = .ok (.getfield 19, 3) := by decide +kernel
theorem dX8_character_12 : decode cX8_character 12 = .ok (.iload_n 1, 1) := by decide +kernel
theorem dX8_character_13 : decode cX8_character 13 = .ok (.iaload, 1) := by decide +kernel
theorem dX8_character_14 : decode cX8_character 14 = .ok (.goto 4, 3) := by decide +kernel
theorem dX8_character_17 : decode cX8_character 17 = .ok (.iconst (-1), 1) := by decide +kernel
theorem dX8_character_18 : decode cX8_character 18 = .ok (.ireturn, 1) := by decide +kernel
theorem dX8_isNext_0 : decode cX8_isNext 0 = .ok (.aload_n 0, 1) := by decide +kernel
theorem dX8_isNext_1 : decode cX8_isNext 1 = .ok (.aload_n 0, 1) := by decide +kernel
theorem dX8_isNext_2 : decode cX8_isNext 2 = .ok (.getfield 144, 3) := by decide +kernel
theorem dX8_isNext_5 : decode cX8_isNext 5 = .ok (.invokevirtual 147, 3) := by decide +kernel
theorem dX8_isNext_8 : decode cX8_isNext 8 = .ok (.iload_n 1, 1) := by decide +kernel
theorem dX8_isNext_9 : decode cX8_isNext 9 = .ok (.if_icmp .ne 7, 3) := by decide +kernel
theorem dX8_isNext_12 : decode cX8_isNext 12 = .ok (.iconst 1, 1) := by decide +kernel
theorem dX8_isNext_13 : decode cX8_isNext 13 = .ok (.goto 4, 3) := by decide +kernel
theorem dX8_isNext_16 : decode cX8_isNext 16 = .ok (.iconst 0, 1) := by decide +kernel
theorem dX8_isNext_17 : decode cX8_isNext 17 = .ok (.istore_n 2, 1) := by decide +kernel
theorem dX8_isNext_18 : decode cX8_isNext 18 = .ok (.aload_n 0, 1) := by decide +kernel
theorem dX8_isNext_19 : decode cX8_isNext 19 = .ok (.dup, 1) := by decide +kernel
theorem dX8_isNext_20 : decode cX8_isNext 20 = .ok (.getfield 144, 3) := by decide +kernel
theorem dX8_isNext_23 : decode cX8_isNext 23 = .ok (.iload_n 2, 1) := by decide +kernel
theorem dX8_isNext_24 : decode cX8_isNext 24 = .ok (.ifCond .eq 7, 3) := by decide +kernel
theorem dX8_isNext_27 : decode cX8_isNext 27 = .ok (.iconst 1, 1) := by decide +kernel
theorem dX8_isNext_28 : decode cX8_isNext 28 = .ok (.goto 4, 3) := by decide +kernel
theorem dX8_isNext_31 : decode cX8_isNext 31 = .ok (.iconst 0, 1) := by decide +kernel
theorem dX8_isNext_32 : decode cX8_isNext 32 = .ok (.iadd, 1) := by decide +kernel
theorem dX8_isNext_33 : decode cX8_isNext 33 = .ok (.putfield 144, 3) := by decide +kernel
theorem dX8_isNext_36 : decode cX8_isNext 36 = .ok (.iload_n 2, 1) := by decide +kernel
theorem dX8_isNext_37 : decode cX8_isNext 37 = .ok (.ireturn, 1) := by decide +kernel
theorem dX8_readsCard_0 : decode cX8_readsCard 0 = .ok (.aload_n 0, 1) := by decide +kernel
theorem dX8_readsCard_1 : decode cX8_readsCard 1 = .ok (.iconst 0, 1) := by decide +kernel
theorem dX8_readsCard_2 : decode cX8_readsCard 2 = .ok (.putfield 150, 3) := by decide +kernel
theorem dX8_readsCard_5 : decode cX8_readsCard 5 = .ok (.iconst (-1), 1) := by decide +kernel
theorem dX8_readsCard_6 : decode cX8_readsCard 6 = .ok (.istore_n 1, 1) := by decide +kernel
theorem dX8_readsCard_7 : decode cX8_readsCard 7 = .ok (.aload_n 0, 1) := by decide +kernel
theorem dX8_readsCard_8 : decode cX8_readsCard 8 = .ok (.aload_n 0, 1) := by decide +kernel
theorem dX8_readsCard_9 : decode cX8_readsCard 9 = .ok (.getfield 144, 3) := by decide +kernel
theorem dX8_readsCard_12 : decode cX8_readsCard 12 = .ok (.invokevirtual 147, 3) := by decide +kernel
theorem dX8_readsCard_15 : decode cX8_readsCard 15 = .ok (.bipush 48, 2) := by decide +kernel
theorem dX8_readsCard_17 : decode cX8_readsCard 17 = .ok (.iload_n 1, 1) := by decide +kernel
theorem dX8_readsCard_18 : decode cX8_readsCard 18 = .ok (.iadd, 1) := by decide +kernel
theorem dX8_readsCard_19 : decode cX8_readsCard 19 = .ok (.iconst 1, 1) := by decide +kernel
theorem dX8_readsCard_20 : decode cX8_readsCard 20 = .ok (.iadd, 1) := by decide +kernel
theorem dX8_readsCard_21 : decode cX8_readsCard 21 = .ok (.bipush 53, 2) := by decide +kernel
theorem dX8_readsCard_23 : decode cX8_readsCard 23 = .ok (.invokestatic 40, 3) := by decide +kernel
theorem dX8_readsCard_26 : decode cX8_readsCard 26 = .ok (.ifCond .eq 40, 3) := by decide +kernel
theorem dX8_readsCard_29 : decode cX8_readsCard 29 = .ok (.aload_n 0, 1) := by decide +kernel
theorem dX8_readsCard_30 : decode cX8_readsCard 30 = .ok (.aload_n 0, 1) := by decide +kernel
theorem dX8_readsCard_31 : decode cX8_readsCard 31 = .ok (.getfield 144, 3) := by decide +kernel
theorem dX8_readsCard_34 : decode cX8_readsCard 34 = .ok (.invokevirtual 147, 3) := by decide +kernel
theorem dX8_readsCard_37 : decode cX8_readsCard 37 = .ok (.bipush 48, 2) := by decide +kernel
theorem dX8_readsCard_39 : decode cX8_readsCard 39 = .ok (.isub, 1) := by decide +kernel
theorem dX8_readsCard_40 : decode cX8_readsCard 40 = .ok (.istore_n 1, 1) := by decide +kernel
theorem dX8_readsCard_41 : decode cX8_readsCard 41 = .ok (.aload_n 0, 1) := by decide +kernel
theorem dX8_readsCard_42 : decode cX8_readsCard 42 = .ok (.dup, 1) := by decide +kernel
theorem dX8_readsCard_43 : decode cX8_readsCard 43 = .ok (.getfield 150, 3) := by decide +kernel
theorem dX8_readsCard_46 : decode cX8_readsCard 46 = .ok (.iconst 1, 1) := by decide +kernel
theorem dX8_readsCard_47 : decode cX8_readsCard 47 = .ok (.iload_n 1, 1) := by decide +kernel
theorem dX8_readsCard_48 : decode cX8_readsCard 48 = .ok (.ishl, 1) := by decide +kernel
theorem dX8_readsCard_49 : decode cX8_readsCard 49 = .ok (.ior, 1) := by decide +kernel
theorem dX8_readsCard_50 : decode cX8_readsCard 50 = .ok (.putfield 150, 3) := by decide +kernel
theorem dX8_readsCard_53 : decode cX8_readsCard 53 = .ok (.aload_n 0, 1) := by decide +kernel
theorem dX8_readsCard_54 : decode cX8_readsCard 54 = .ok (.dup, 1) := by decide +kernel
theorem dX8_readsCard_55 : decode cX8_readsCard 55 = .ok (.getfield 144, 3) := by decide +kernel
theorem dX8_readsCard_58 : decode cX8_readsCard 58 = .ok (.iconst 1, 1) := by decide +kernel
theorem dX8_readsCard_59 : decode cX8_readsCard 59 = .ok (.iadd, 1) := by decide +kernel
theorem dX8_readsCard_60 : decode cX8_readsCard 60 = .ok (.putfield 144, 3) := by decide +kernel
theorem dX8_readsCard_63 : decode cX8_readsCard 63 = .ok (.goto (-56), 3) := by decide +kernel
theorem dX8_readsCard_66 : decode cX8_readsCard 66 = .ok (.aload_n 0, 1) := by decide +kernel
theorem dX8_readsCard_67 : decode cX8_readsCard 67 = .ok (.bipush 76, 2) := by decide +kernel
theorem dX8_readsCard_69 : decode cX8_readsCard 69 = .ok (.invokevirtual 153, 3) := by decide +kernel
theorem dX8_readsCard_72 : decode cX8_readsCard 72 = .ok (.ifCond .eq 21, 3) := by decide +kernel
theorem dX8_readsCard_75 : decode cX8_readsCard 75 = .ok (.aload_n 0, 1) := by decide +kernel
theorem dX8_readsCard_76 : decode cX8_readsCard 76 = .ok (.aload_n 0, 1) := by decide +kernel
theorem dX8_readsCard_77 : decode cX8_readsCard 77 = .ok (.getfield 144, 3) := by decide +kernel
theorem dX8_readsCard_80 : decode cX8_readsCard 80 = .ok (.invokevirtual 147, 3) := by decide +kernel
theorem dX8_readsCard_83 : decode cX8_readsCard 83 = .ok (.bipush 48, 2) := by decide +kernel
theorem dX8_readsCard_85 : decode cX8_readsCard 85 = .ok (.bipush 51, 2) := by decide +kernel
theorem dX8_readsCard_87 : decode cX8_readsCard 87 = .ok (.invokestatic 40, 3) := by decide +kernel
theorem dX8_readsCard_90 : decode cX8_readsCard 90 = .ok (.ifCond .ne 5, 3) := by decide +kernel
theorem dX8_readsCard_93 : decode cX8_readsCard 93 = .ok (.iconst 0, 1) := by decide +kernel
theorem dX8_readsCard_94 : decode cX8_readsCard 94 = .ok (.ireturn, 1) := by decide +kernel
theorem dX8_readsCard_95 : decode cX8_readsCard 95 = .ok (.aload_n 0, 1) := by decide +kernel
theorem dX8_readsCard_96 : decode cX8_readsCard 96 = .ok (.aload_n 0, 1) := by decide +kernel
theorem dX8_readsCard_97 : decode cX8_readsCard 97 = .ok (.aload_n 0, 1) := by decide +kernel
theorem dX8_readsCard_98 : decode cX8_readsCard 98 = .ok (.getfield 144, 3) := by decide +kernel
theorem dX8_readsCard_101 : decode cX8_readsCard 101 = .ok (.invokevirtual 147, 3) := by decide +kernel
theorem dX8_readsCard_104 : decode cX8_readsCard 104 = .ok (.bipush 48, 2) := by decide +kernel
theorem dX8_readsCard_106 : decode cX8_readsCard 106 = .ok (.isub, 1) := by decide +kernel
theorem dX8_readsCard_107 : decode cX8_readsCard 107 = .ok (.putfield 156, 3) := by decide +kernel
theorem dX8_readsCard_110 : decode cX8_readsCard 110 = .ok (.aload_n 0, 1) := by decide +kernel
theorem dX8_readsCard_111 : decode cX8_readsCard 111 = .ok (.dup, 1) := by decide +kernel
theorem dX8_readsCard_112 : decode cX8_readsCard 112 = .ok (.getfield 144, 3) := by decide +kernel
theorem dX8_readsCard_115 : decode cX8_readsCard 115 = .ok (.iconst 1, 1) := by decide +kernel
theorem dX8_readsCard_116 : decode cX8_readsCard 116 = .ok (.iadd, 1) := by decide +kernel
theorem dX8_readsCard_117 : decode cX8_readsCard 117 = .ok (.putfield 144, 3) := by decide +kernel
theorem dX8_readsCard_120 : decode cX8_readsCard 120 = .ok (.aload_n 0, 1) := by decide +kernel
theorem dX8_readsCard_121 : decode cX8_readsCard 121 = .ok (.bipush 82, 2) := by decide +kernel
theorem dX8_readsCard_123 : decode cX8_readsCard 123 = .ok (.invokevirtual 153, 3) := by decide +kernel
theorem dX8_readsCard_126 : decode cX8_readsCard 126 = .ok (.ifCond .eq 21, 3) := by decide +kernel
theorem dX8_readsCard_129 : decode cX8_readsCard 129 = .ok (.aload_n 0, 1) := by decide +kernel
theorem dX8_readsCard_130 : decode cX8_readsCard 130 = .ok (.aload_n 0, 1) := by decide +kernel
theorem dX8_readsCard_131 : decode cX8_readsCard 131 = .ok (.getfield 144, 3) := by decide +kernel
theorem dX8_readsCard_134 : decode cX8_readsCard 134 = .ok (.invokevirtual 147, 3) := by decide +kernel
theorem dX8_readsCard_137 : decode cX8_readsCard 137 = .ok (.bipush 48, 2) := by decide +kernel
theorem dX8_readsCard_139 : decode cX8_readsCard 139 = .ok (.bipush 49, 2) := by decide +kernel
theorem dX8_readsCard_141 : decode cX8_readsCard 141 = .ok (.invokestatic 40, 3) := by decide +kernel
theorem dX8_readsCard_144 : decode cX8_readsCard 144 = .ok (.ifCond .ne 5, 3) := by decide +kernel
theorem dX8_readsCard_147 : decode cX8_readsCard 147 = .ok (.iconst 0, 1) := by decide +kernel
theorem dX8_readsCard_148 : decode cX8_readsCard 148 = .ok (.ireturn, 1) := by decide +kernel
theorem dX8_readsCard_149 : decode cX8_readsCard 149 = .ok (.aload_n 0, 1) := by decide +kernel
theorem dX8_readsCard_150 : decode cX8_readsCard 150 = .ok (.aload_n 0, 1) := by decide +kernel
theorem dX8_readsCard_151 : decode cX8_readsCard 151 = .ok (.aload_n 0, 1) := by decide +kernel
theorem dX8_readsCard_152 : decode cX8_readsCard 152 = .ok (.getfield 144, 3) := by decide +kernel
theorem dX8_readsCard_155 : decode cX8_readsCard 155 = .ok (.invokevirtual 147, 3) := by decide +kernel
theorem dX8_readsCard_158 : decode cX8_readsCard 158 = .ok (.bipush 48, 2) := by decide +kernel
theorem dX8_readsCard_160 : decode cX8_readsCard 160 = .ok (.isub, 1) := by decide +kernel
theorem dX8_readsCard_161 : decode cX8_readsCard 161 = .ok (.putfield 159, 3) := by decide +kernel
theorem dX8_readsCard_164 : decode cX8_readsCard 164 = .ok (.aload_n 0, 1) := by decide +kernel
theorem dX8_readsCard_165 : decode cX8_readsCard 165 = .ok (.dup, 1) := by decide +kernel
theorem dX8_readsCard_166 : decode cX8_readsCard 166 = .ok (.getfield 144, 3) := by decide +kernel
theorem dX8_readsCard_169 : decode cX8_readsCard 169 = .ok (.iconst 1, 1) := by decide +kernel
theorem dX8_readsCard_170 : decode cX8_readsCard 170 = .ok (.iadd, 1) := by decide +kernel
theorem dX8_readsCard_171 : decode cX8_readsCard 171 = .ok (.putfield 144, 3) := by decide +kernel
theorem dX8_readsCard_174 : decode cX8_readsCard 174 = .ok (.iconst 1, 1) := by decide +kernel
theorem dX8_readsCard_175 : decode cX8_readsCard 175 = .ok (.ireturn, 1) := by decide +kernel
theorem dX8_findError_0 : decode cX8_findError 0 = .ok (.aload_n 0, 1) := by decide +kernel
theorem dX8_findError_1 : decode cX8_findError 1 = .ok (.iconst 0, 1) := by decide +kernel
theorem dX8_findError_2 : decode cX8_findError 2 = .ok (.putfield 144, 3) := by decide +kernel
theorem dX8_findError_5 : decode cX8_findError 5 = .ok (.aload_n 0, 1) := by decide +kernel
theorem dX8_findError_6 : decode cX8_findError 6 = .ok (.invokevirtual 162, 3) := by decide +kernel
theorem dX8_findError_9 : decode cX8_findError 9 = .ok (.ifCond .ne 8, 3) := by decide +kernel
theorem dX8_findError_12 : decode cX8_findError 12 = .ok (.aload_n 0, 1) := by decide +kernel
theorem dX8_findError_13 : decode cX8_findError 13 = .ok (.getfield 144, 3) := by decide +kernel
theorem dX8_findError_16 : decode cX8_findError 16 = .ok (.ireturn, 1) := by decide +kernel
theorem dX8_findError_17 : decode cX8_findError 17 = .ok (.aload_n 0, 1) := by decide +kernel
theorem dX8_findError_18 : decode cX8_findError 18 = .ok (.getfield 144, 3) := by decide +kernel
theorem dX8_findError_21 : decode cX8_findError 21 = .ok (.aload_n 0, 1) := by decide +kernel
theorem dX8_findError_22 : decode cX8_findError 22 = .ok (.getfield 141, 3) := by decide +kernel
theorem dX8_findError_25 : decode cX8_findError 25 = .ok (.if_icmp .ne 6, 3) := by decide +kernel
theorem dX8_findError_28 : decode cX8_findError 28 = .ok (.bipush (-6), 2) := by decide +kernel
theorem dX8_findError_30 : decode cX8_findError 30 = .ok (.ireturn, 1) := by decide +kernel
theorem dX8_findError_31 : decode cX8_findError 31 = .ok (.aload_n 0, 1) := by decide +kernel
theorem dX8_findError_32 : decode cX8_findError 32 = .ok (.bipush 59, 2) := by decide +kernel
theorem dX8_findError_34 : decode cX8_findError 34 = .ok (.invokevirtual 153, 3) := by decide +kernel
theorem dX8_findError_37 : decode cX8_findError 37 = .ok (.ifCond .ne (-32), 3) := by decide +kernel
theorem dX8_findError_40 : decode cX8_findError 40 = .ok (.aload_n 0, 1) := by decide +kernel
theorem dX8_findError_41 : decode cX8_findError 41 = .ok (.getfield 144, 3) := by decide +kernel
theorem dX8_findError_44 : decode cX8_findError 44 = .ok (.ireturn, 1) := by decide +kernel
theorem dX8_syntaxError_0 : decode cX8_syntaxError 0 = .ok (.aload_n 0, 1) := by decide +kernel
theorem dX8_syntaxError_1 : decode cX8_syntaxError 1 = .ok (.invokevirtual 166, 3) := by decide +kernel
theorem dX8_syntaxError_4 : decode cX8_syntaxError 4 = .ok (.ireturn, 1) := by decide +kernel
theorem dX8_readCards_0 : decode cX8_readCards 0 = .ok (.aload_n 0, 1) := by decide +kernel
theorem dX8_readCards_1 : decode cX8_readCards 1 = .ok (.invokevirtual 166, 3) := by decide +kernel
theorem dX8_readCards_4 : decode cX8_readCards 4 = .ok (.bipush (-6), 2) := by decide +kernel
theorem dX8_readCards_6 : decode cX8_readCards 6 = .ok (.if_icmp .eq 6, 3) := by decide +kernel
theorem dX8_readCards_9 : decode cX8_readCards 9 = .ok (.bipush (-5), 2) := by decide +kernel
theorem dX8_readCards_11 : decode cX8_readCards 11 = .ok (.ireturn, 1) := by decide +kernel
theorem dX8_readCards_12 : decode cX8_readCards 12 = .ok (.iconst 1, 1) := by decide +kernel
theorem dX8_readCards_13 : decode cX8_readCards 13 = .ok (.istore_n 1, 1) := by decide +kernel
theorem dX8_readCards_14 : decode cX8_readCards 14 = .ok (.iconst 0, 1) := by decide +kernel
theorem dX8_readCards_15 : decode cX8_readCards 15 = .ok (.istore_n 2, 1) := by decide +kernel
theorem dX8_readCards_16 : decode cX8_readCards 16 = .ok (.iload_n 2, 1) := by decide +kernel
theorem dX8_readCards_17 : decode cX8_readCards 17 = .ok (.aload_n 0, 1) := by decide +kernel
theorem dX8_readCards_18 : decode cX8_readCards 18 = .ok (.getfield 141, 3) := by decide +kernel
theorem dX8_readCards_21 : decode cX8_readCards 21 = .ok (.if_icmp .ge 28, 3) := by decide +kernel
theorem dX8_readCards_24 : decode cX8_readCards 24 = .ok (.iload_n 1, 1) := by decide +kernel
theorem dX8_readCards_25 : decode cX8_readCards 25 = .ok (.aload_n 0, 1) := by decide +kernel
theorem dX8_readCards_26 : decode cX8_readCards 26 = .ok (.getfield 19, 3) := by decide +kernel
theorem dX8_readCards_29 : decode cX8_readCards 29 = .ok (.iload_n 2, 1) := by decide +kernel
theorem dX8_readCards_30 : decode cX8_readCards 30 = .ok (.iaload, 1) := by decide +kernel
theorem dX8_readCards_31 : decode cX8_readCards 31 = .ok (.bipush 59, 2) := by decide +kernel
theorem dX8_readCards_33 : decode cX8_readCards 33 = .ok (.if_icmp .ne 7, 3) := by decide +kernel
theorem dX8_readCards_36 : decode cX8_readCards 36 = .ok (.iconst 1, 1) := by decide +kernel
theorem dX8_readCards_37 : decode cX8_readCards 37 = .ok (.goto 4, 3) := by decide +kernel
theorem dX8_readCards_40 : decode cX8_readCards 40 = .ok (.iconst 0, 1) := by decide +kernel
theorem dX8_readCards_41 : decode cX8_readCards 41 = .ok (.iadd, 1) := by decide +kernel
theorem dX8_readCards_42 : decode cX8_readCards 42 = .ok (.istore_n 1, 1) := by decide +kernel
theorem dX8_readCards_43 : decode cX8_readCards 43 = .ok (.iinc 2 1, 3) := by decide +kernel
theorem dX8_readCards_46 : decode cX8_readCards 46 = .ok (.goto (-30), 3) := by decide +kernel
theorem dX8_readCards_49 : decode cX8_readCards 49 = .ok (.aload_n 0, 1) := by decide +kernel
theorem dX8_readCards_50 : decode cX8_readCards 50 = .ok (.getfield 7, 3) := by decide +kernel
theorem dX8_readCards_53 : decode cX8_readCards 53 = .ok (.iconst 0, 1) := by decide +kernel
theorem dX8_readCards_54 : decode cX8_readCards 54 = .ok (.iaload, 1) := by decide +kernel
theorem dX8_readCards_55 : decode cX8_readCards 55 = .ok (.iload_n 1, 1) := by decide +kernel
theorem dX8_readCards_56 : decode cX8_readCards 56 = .ok (.iadd, 1) := by decide +kernel
theorem dX8_readCards_57 : decode cX8_readCards 57 = .ok (.bipush 16, 2) := by decide +kernel
theorem dX8_readCards_59 : decode cX8_readCards 59 = .ok (.if_icmp .le 6, 3) := by decide +kernel
theorem dX8_readCards_62 : decode cX8_readCards 62 = .ok (.bipush (-4), 2) := by decide +kernel
theorem dX8_readCards_64 : decode cX8_readCards 64 = .ok (.ireturn, 1) := by decide +kernel
theorem dX8_readCards_65 : decode cX8_readCards 65 = .ok (.aload_n 0, 1) := by decide +kernel
theorem dX8_readCards_66 : decode cX8_readCards 66 = .ok (.invokevirtual 99, 3) := by decide +kernel
theorem dX8_readCards_69 : decode cX8_readCards 69 = .ok (.aload_n 0, 1) := by decide +kernel
theorem dX8_readCards_70 : decode cX8_readCards 70 = .ok (.iconst 0, 1) := by decide +kernel
theorem dX8_readCards_71 : decode cX8_readCards 71 = .ok (.putfield 144, 3) := by decide +kernel
theorem dX8_readCards_74 : decode cX8_readCards 74 = .ok (.aload_n 0, 1) := by decide +kernel
theorem dX8_readCards_75 : decode cX8_readCards 75 = .ok (.getfield 144, 3) := by decide +kernel
theorem dX8_readCards_78 : decode cX8_readCards 78 = .ok (.aload_n 0, 1) := by decide +kernel
theorem dX8_readCards_79 : decode cX8_readCards 79 = .ok (.getfield 141, 3) := by decide +kernel
theorem dX8_readCards_82 : decode cX8_readCards 82 = .ok (.if_icmp .ge 34, 3) := by decide +kernel
theorem dX8_readCards_85 : decode cX8_readCards 85 = .ok (.aload_n 0, 1) := by decide +kernel
theorem dX8_readCards_86 : decode cX8_readCards 86 = .ok (.invokevirtual 162, 3) := by decide +kernel
theorem dX8_readCards_89 : decode cX8_readCards 89 = .ok (.pop, 1) := by decide +kernel
theorem dX8_readCards_90 : decode cX8_readCards 90 = .ok (.aload_n 0, 1) := by decide +kernel
theorem dX8_readCards_91 : decode cX8_readCards 91 = .ok (.bipush 59, 2) := by decide +kernel
theorem dX8_readCards_93 : decode cX8_readCards 93 = .ok (.invokevirtual 153, 3) := by decide +kernel
theorem dX8_readCards_96 : decode cX8_readCards 96 = .ok (.pop, 1) := by decide +kernel
theorem dX8_readCards_97 : decode cX8_readCards 97 = .ok (.aload_n 0, 1) := by decide +kernel
theorem dX8_readCards_98 : decode cX8_readCards 98 = .ok (.aload_n 0, 1) := by decide +kernel
theorem dX8_readCards_99 : decode cX8_readCards 99 = .ok (.getfield 150, 3) := by decide +kernel
theorem dX8_readCards_102 : decode cX8_readCards 102 = .ok (.aload_n 0, 1) := by decide +kernel
theorem dX8_readCards_103 : decode cX8_readCards 103 = .ok (.getfield 156, 3) := by decide +kernel
theorem dX8_readCards_106 : decode cX8_readCards 106 = .ok (.aload_n 0, 1) := by decide +kernel
theorem dX8_readCards_107 : decode cX8_readCards 107 = .ok (.getfield 159, 3) := by decide +kernel
theorem dX8_readCards_110 : decode cX8_readCards 110 = .ok (.invokevirtual 111, 3) := by decide +kernel
theorem dX8_readCards_113 : decode cX8_readCards 113 = .ok (.goto (-39), 3) := by decide +kernel
theorem dX8_readCards_116 : decode cX8_readCards 116 = .ok (.aload_n 0, 1) := by decide +kernel
theorem dX8_readCards_117 : decode cX8_readCards 117 = .ok (.iconst 0, 1) := by decide +kernel
theorem dX8_readCards_118 : decode cX8_readCards 118 = .ok (.putfield 141, 3) := by decide +kernel
theorem dX8_readCards_121 : decode cX8_readCards 121 = .ok (.aload_n 0, 1) := by decide +kernel
theorem dX8_readCards_122 : decode cX8_readCards 122 = .ok (.getfield 7, 3) := by decide +kernel
theorem dX8_readCards_125 : decode cX8_readCards 125 = .ok (.iconst 0, 1) := by decide +kernel
theorem dX8_readCards_126 : decode cX8_readCards 126 = .ok (.iaload, 1) := by decide +kernel
theorem dX8_readCards_127 : decode cX8_readCards 127 = .ok (.ireturn, 1) := by decide +kernel
theorem dX8_undo_0 : decode cX8_undo 0 = .ok (.aload_n 0, 1) := by decide +kernel
theorem dX8_undo_1 : decode cX8_undo 1 = .ok (.getfield 29, 3) := by decide +kernel
theorem dX8_undo_4 : decode cX8_undo 4 = .ok (.ifCond .ne 6, 3) := by decide +kernel
theorem dX8_undo_7 : decode cX8_undo 7 = .ok (.bipush (-3), 2) := by decide +kernel
theorem dX8_undo_9 : decode cX8_undo 9 = .ok (.ireturn, 1) := by decide +kernel
theorem dX8_undo_10 : decode cX8_undo 10 = .ok (.aload_n 0, 1) := by decide +kernel
theorem dX8_undo_11 : decode cX8_undo 11 = .ok (.dup, 1) := by decide +kernel
theorem dX8_undo_12 : decode cX8_undo 12 = .ok (.getfield 29, 3) := by decide +kernel
theorem dX8_undo_15 : decode cX8_undo 15 = .ok (.iconst 1, 1) := by decide +kernel
theorem dX8_undo_16 : decode cX8_undo 16 = .ok (.isub, 1) := by decide +kernel
theorem dX8_undo_17 : decode cX8_undo 17 = .ok (.putfield 29, 3) := by decide +kernel
theorem dX8_undo_20 : decode cX8_undo 20 = .ok (.aload_n 0, 1) := by decide +kernel
theorem dX8_undo_21 : decode cX8_undo 21 = .ok (.getfield 16, 3) := by decide +kernel
theorem dX8_undo_24 : decode cX8_undo 24 = .ok (.aload_n 0, 1) := by decide +kernel
theorem dX8_undo_25 : decode cX8_undo 25 = .ok (.getfield 29, 3) := by decide +kernel
theorem dX8_undo_28 : decode cX8_undo 28 = .ok (.sipush 284, 3) := by decide +kernel
theorem dX8_undo_31 : decode cX8_undo 31 = .ok (.imul, 1) := by decide +kernel
theorem dX8_undo_32 : decode cX8_undo 32 = .ok (.aload_n 0, 1) := by decide +kernel
theorem dX8_undo_33 : decode cX8_undo 33 = .ok (.getfield 7, 3) := by decide +kernel
theorem dX8_undo_36 : decode cX8_undo 36 = .ok (.iconst 0, 1) := by decide +kernel
theorem dX8_undo_37 : decode cX8_undo 37 = .ok (.invokestatic 33, 3) := by decide +kernel
theorem dX8_undo_40 : decode cX8_undo 40 = .ok (.aload_n 0, 1) := by decide +kernel
theorem dX8_undo_41 : decode cX8_undo 41 = .ok (.getfield 29, 3) := by decide +kernel
theorem dX8_undo_44 : decode cX8_undo 44 = .ok (.ireturn, 1) := by decide +kernel
theorem dX8_digest_0 : decode cX8_digest 0 = .ok (.ldc2_w 169, 3) := by decide +kernel
theorem dX8_digest_3 : decode cX8_digest 3 = .ok (.lstore_n 1, 1) := by decide +kernel
theorem dX8_digest_4 : decode cX8_digest 4 = .ok (.iconst 0, 1) := by decide +kernel
theorem dX8_digest_5 : decode cX8_digest 5 = .ok (.istore_n 3, 1) := by decide +kernel
theorem dX8_digest_6 : decode cX8_digest 6 = .ok (.iload_n 3, 1) := by decide +kernel
theorem dX8_digest_7 : decode cX8_digest 7 = .ok (.bipush 11, 2) := by decide +kernel
theorem dX8_digest_9 : decode cX8_digest 9 = .ok (.if_icmp .gt 23, 3) := by decide +kernel
theorem dX8_digest_12 : decode cX8_digest 12 = .ok (.ldc2_w 171, 3) := by decide +kernel
theorem dX8_digest_15 : decode cX8_digest 15 = .ok (.lload_n 1, 1) := by decide +kernel
theorem dX8_digest_16 : decode cX8_digest 16 = .ok (.lmul, 1) := by decide +kernel
theorem dX8_digest_17 : decode cX8_digest 17 = .ok (.aload_n 0, 1) := by decide +kernel
theorem dX8_digest_18 : decode cX8_digest 18 = .ok (.getfield 7, 3) := by decide +kernel
theorem dX8_digest_21 : decode cX8_digest 21 = .ok (.iload_n 3, 1) := by decide +kernel
theorem dX8_digest_22 : decode cX8_digest 22 = .ok (.iaload, 1) := by decide +kernel
theorem dX8_digest_23 : decode cX8_digest 23 = .ok (.i2l, 1) := by decide +kernel
theorem dX8_digest_24 : decode cX8_digest 24 = .ok (.ladd, 1) := by decide +kernel
theorem dX8_digest_25 : decode cX8_digest 25 = .ok (.lstore_n 1, 1) := by decide +kernel
theorem dX8_digest_26 : decode cX8_digest 26 = .ok (.iinc 3 1, 3) := by decide +kernel
theorem dX8_digest_29 : decode cX8_digest 29 = .ok (.goto (-23), 3) := by decide +kernel
theorem dX8_digest_32 : decode cX8_digest 32 = .ok (.iconst 0, 1) := by decide +kernel
theorem dX8_digest_33 : decode cX8_digest 33 = .ok (.istore_n 3, 1) := by decide +kernel
theorem dX8_digest_34 : decode cX8_digest 34 = .ok (.iload_n 3, 1) := by decide +kernel
theorem dX8_digest_35 : decode cX8_digest 35 = .ok (.iconst 5, 1) := by decide +kernel
theorem dX8_digest_36 : decode cX8_digest 36 = .ok (.if_icmp .ge 39, 3) := by decide +kernel
theorem dX8_digest_39 : decode cX8_digest 39 = .ok (.iconst 0, 1) := by decide +kernel
theorem dX8_digest_40 : decode cX8_digest 40 = .ok (.istore 4, 2) := by decide +kernel
theorem dX8_digest_42 : decode cX8_digest 42 = .ok (.iload 4, 2) := by decide +kernel
theorem dX8_digest_44 : decode cX8_digest 44 = .ok (.iconst 3, 1) := by decide +kernel
theorem dX8_digest_45 : decode cX8_digest 45 = .ok (.if_icmp .gt 24, 3) := by decide +kernel
theorem dX8_digest_48 : decode cX8_digest 48 = .ok (.ldc2_w 171, 3) := by decide +kernel
theorem dX8_digest_51 : decode cX8_digest 51 = .ok (.lload_n 1, 1) := by decide +kernel
theorem dX8_digest_52 : decode cX8_digest 52 = .ok (.lmul, 1) := by decide +kernel
theorem dX8_digest_53 : decode cX8_digest 53 = .ok (.aload_n 0, 1) := by decide +kernel
theorem dX8_digest_54 : decode cX8_digest 54 = .ok (.iload_n 3, 1) := by decide +kernel
theorem dX8_digest_55 : decode cX8_digest 55 = .ok (.iload 4, 2) := by decide +kernel
theorem dX8_digest_57 : decode cX8_digest 57 = .ok (.invokevirtual 44, 3) := by decide +kernel
theorem dX8_digest_60 : decode cX8_digest 60 = .ok (.i2l, 1) := by decide +kernel
theorem dX8_digest_61 : decode cX8_digest 61 = .ok (.ladd, 1) := by decide +kernel
theorem dX8_digest_62 : decode cX8_digest 62 = .ok (.lstore_n 1, 1) := by decide +kernel
theorem dX8_digest_63 : decode cX8_digest 63 = .ok (.iinc 4 1, 3) := by decide +kernel
theorem dX8_digest_66 : decode cX8_digest 66 = .ok (.goto (-24), 3) := by decide +kernel
theorem dX8_digest_69 : decode cX8_digest 69 = .ok (.iinc 3 1, 3) := by decide +kernel
theorem dX8_digest_72 : decode cX8_digest 72 = .ok (.goto (-38), 3) := by decide +kernel
theorem dX8_digest_75 : decode cX8_digest 75 = .ok (.iconst 0, 1) := by decide +kernel
theorem dX8_digest_76 : decode cX8_digest 76 = .ok (.istore_n 3, 1) := by decide +kernel
theorem dX8_digest_77 : decode cX8_digest 77 = .ok (.iload_n 3, 1) := by decide +kernel
theorem dX8_digest_78 : decode cX8_digest 78 = .ok (.bipush 12, 2) := by decide +kernel
theorem dX8_digest_80 : decode cX8_digest 80 = .ok (.if_icmp .ge 52, 3) := by decide +kernel
theorem dX8_digest_83 : decode cX8_digest 83 = .ok (.iconst 0, 1) := by decide +kernel
theorem dX8_digest_84 : decode cX8_digest 84 = .ok (.istore 4, 2) := by decide +kernel
theorem dX8_digest_86 : decode cX8_digest 86 = .ok (.iload 4, 2) := by decide +kernel
theorem dX8_digest_88 : decode cX8_digest 88 = .ok (.iconst 2, 1) := by decide +kernel
theorem dX8_digest_89 : decode cX8_digest 89 = .ok (.if_icmp .gt 24, 3) := by decide +kernel
theorem dX8_digest_92 : decode cX8_digest 92 = .ok (.ldc2_w 171, 3) := by decide +kernel
theorem dX8_digest_95 : decode cX8_digest 95 = .ok (.lload_n 1, 1) := by decide +kernel
theorem dX8_digest_96 : decode cX8_digest 96 = .ok (.lmul, 1) := by decide +kernel
theorem dX8_digest_97 : decode cX8_digest 97 = .ok (.aload_n 0, 1) := by decide +kernel
theorem dX8_digest_98 : decode cX8_digest 98 = .ok (.iload_n 3, 1) := by decide +kernel
theorem dX8_digest_99 : decode cX8_digest 99 = .ok (.iload 4, 2) := by decide +kernel
theorem dX8_digest_101 : decode cX8_digest 101 = .ok (.invokevirtual 117, 3) := by decide +kernel
theorem dX8_digest_104 : decode cX8_digest 104 = .ok (.i2l, 1) := by decide +kernel
theorem dX8_digest_105 : decode cX8_digest 105 = .ok (.ladd, 1) := by decide +kernel
theorem dX8_digest_106 : decode cX8_digest 106 = .ok (.lstore_n 1, 1) := by decide +kernel
theorem dX8_digest_107 : decode cX8_digest 107 = .ok (.iinc 4 1, 3) := by decide +kernel
theorem dX8_digest_110 : decode cX8_digest 110 = .ok (.goto (-24), 3) := by decide +kernel
theorem dX8_digest_113 : decode cX8_digest 113 = .ok (.ldc2_w 171, 3) := by decide +kernel
theorem dX8_digest_116 : decode cX8_digest 116 = .ok (.lload_n 1, 1) := by decide +kernel
theorem dX8_digest_117 : decode cX8_digest 117 = .ok (.lmul, 1) := by decide +kernel
theorem dX8_digest_118 : decode cX8_digest 118 = .ok (.aload_n 0, 1) := by decide +kernel
theorem dX8_digest_119 : decode cX8_digest 119 = .ok (.iload_n 3, 1) := by decide +kernel
theorem dX8_digest_120 : decode cX8_digest 120 = .ok (.invokevirtual 126, 3) := by decide +kernel
theorem dX8_digest_123 : decode cX8_digest 123 = .ok (.i2l, 1) := by decide +kernel
theorem dX8_digest_124 : decode cX8_digest 124 = .ok (.ladd, 1) := by decide +kernel
theorem dX8_digest_125 : decode cX8_digest 125 = .ok (.lstore_n 1, 1) := by decide +kernel
theorem dX8_digest_126 : decode cX8_digest 126 = .ok (.iinc 3 1, 3) := by decide +kernel
theorem dX8_digest_129 : decode cX8_digest 129 = .ok (.goto (-52), 3) := by decide +kernel
theorem dX8_digest_132 : decode cX8_digest 132 = .ok (.iconst 0, 1) := by decide +kernel
theorem dX8_digest_133 : decode cX8_digest 133 = .ok (.istore_n 3, 1) := by decide +kernel
theorem dX8_digest_134 : decode cX8_digest 134 = .ok (.iload_n 3, 1) := by decide +kernel
theorem dX8_digest_135 : decode cX8_digest 135 = .ok (.aload_n 0, 1) := by decide +kernel
theorem dX8_digest_136 : decode cX8_digest 136 = .ok (.getfield 7, 3) := by decide +kernel
theorem dX8_digest_139 : decode cX8_digest 139 = .ok (.iconst 0, 1) := by decide +kernel
theorem dX8_digest_140 : decode cX8_digest 140 = .ok (.iaload, 1) := by decide +kernel
theorem dX8_digest_141 : decode cX8_digest 141 = .ok (.if_icmp .ge 39, 3) := by decide +kernel
theorem dX8_digest_144 : decode cX8_digest 144 = .ok (.iconst 0, 1) := by decide +kernel
theorem dX8_digest_145 : decode cX8_digest 145 = .ok (.istore 4, 2) := by decide +kernel
theorem dX8_digest_147 : decode cX8_digest 147 = .ok (.iload 4, 2) := by decide +kernel
theorem dX8_digest_149 : decode cX8_digest 149 = .ok (.iconst 3, 1) := by decide +kernel
theorem dX8_digest_150 : decode cX8_digest 150 = .ok (.if_icmp .gt 24, 3) := by decide +kernel
theorem dX8_digest_153 : decode cX8_digest 153 = .ok (.ldc2_w 171, 3) := by decide +kernel
theorem dX8_digest_156 : decode cX8_digest 156 = .ok (.lload_n 1, 1) := by decide +kernel
theorem dX8_digest_157 : decode cX8_digest 157 = .ok (.lmul, 1) := by decide +kernel
theorem dX8_digest_158 : decode cX8_digest 158 = .ok (.aload_n 0, 1) := by decide +kernel
theorem dX8_digest_159 : decode cX8_digest 159 = .ok (.iload_n 3, 1) := by decide +kernel
theorem dX8_digest_160 : decode cX8_digest 160 = .ok (.iload 4, 2) := by decide +kernel
theorem dX8_digest_162 : decode cX8_digest 162 = .ok (.invokevirtual 120, 3) := by decide +kernel
theorem dX8_digest_165 : decode cX8_digest 165 = .ok (.i2l, 1) := by decide +kernel
theorem dX8_digest_166 : decode cX8_digest 166 = .ok (.ladd, 1) := by decide +kernel
theorem dX8_digest_167 : decode cX8_digest 167 = .ok (.lstore_n 1, 1) := by decide +kernel
theorem dX8_digest_168 : decode cX8_digest 168 = .ok (.iinc 4 1, 3) := by decide +kernel
theorem dX8_digest_171 : decode cX8_digest 171 = .ok (.goto (-24), 3) := by decide +kernel
theorem dX8_digest_174 : decode cX8_digest 174 = .ok (.iinc 3 1, 3) := by decide +kernel
theorem dX8_digest_177 : decode cX8_digest 177 = .ok (.goto (-43), 3) := by decide +kernel
theorem dX8_digest_180 : decode cX8_digest 180 = .ok (.iconst 0, 1) := by decide +kernel
theorem dX8_digest_181 : decode cX8_digest 181 = .ok (.istore_n 3, 1) := by decide +kernel
theorem dX8_digest_182 : decode cX8_digest 182 = .ok (.iload_n 3, 1) := by decide +kernel
theorem dX8_digest_183 : decode cX8_digest 183 = .ok (.aload_n 0, 1) := by decide +kernel
theorem dX8_digest_184 : decode cX8_digest 184 = .ok (.getfield 7, 3) := by decide +kernel
theorem dX8_digest_187 : decode cX8_digest 187 = .ok (.bipush 7, 2) := by decide +kernel
theorem dX8_digest_189 : decode cX8_digest 189 = .ok (.iaload, 1) := by decide +kernel
theorem dX8_digest_190 : decode cX8_digest 190 = .ok (.if_icmp .ge 40, 3) := by decide +kernel
theorem dX8_digest_193 : decode cX8_digest 193 = .ok (.iconst 0, 1) := by decide +kernel
theorem dX8_digest_194 : decode cX8_digest 194 = .ok (.istore 4, 2) := by decide +kernel
theorem dX8_digest_196 : decode cX8_digest 196 = .ok (.iload 4, 2) := by decide +kernel
theorem dX8_digest_198 : decode cX8_digest 198 = .ok (.bipush 12, 2) := by decide +kernel
theorem dX8_digest_200 : decode cX8_digest 200 = .ok (.if_icmp .ge 24, 3) := by decide +kernel
theorem dX8_digest_203 : decode cX8_digest 203 = .ok (.ldc2_w 171, 3) := by decide +kernel
theorem dX8_digest_206 : decode cX8_digest 206 = .ok (.lload_n 1, 1) := by decide +kernel
theorem dX8_digest_207 : decode cX8_digest 207 = .ok (.lmul, 1) := by decide +kernel
theorem dX8_digest_208 : decode cX8_digest 208 = .ok (.aload_n 0, 1) := by decide +kernel
theorem dX8_digest_209 : decode cX8_digest 209 = .ok (.iload_n 3, 1) := by decide +kernel
theorem dX8_digest_210 : decode cX8_digest 210 = .ok (.iload 4, 2) := by decide +kernel
theorem dX8_digest_212 : decode cX8_digest 212 = .ok (.invokevirtual 123, 3) := by decide +kernel
theorem dX8_digest_215 : decode cX8_digest 215 = .ok (.i2l, 1) := by decide +kernel
theorem dX8_digest_216 : decode cX8_digest 216 = .ok (.ladd, 1) := by decide +kernel
theorem dX8_digest_217 : decode cX8_digest 217 = .ok (.lstore_n 1, 1) := by decide +kernel
theorem dX8_digest_218 : decode cX8_digest 218 = .ok (.iinc 4 1, 3) := by decide +kernel
theorem dX8_digest_221 : decode cX8_digest 221 = .ok (.goto (-25), 3) := by decide +kernel
theorem dX8_digest_224 : decode cX8_digest 224 = .ok (.iinc 3 1, 3) := by decide +kernel
theorem dX8_digest_227 : decode cX8_digest 227 = .ok (.goto (-45), 3) := by decide +kernel
theorem dX8_digest_230 : decode cX8_digest 230 = .ok (.ldc2_w 171, 3) := by decide +kernel
theorem dX8_digest_233 : decode cX8_digest 233 = .ok (.lload_n 1, 1) := by decide +kernel
theorem dX8_digest_234 : decode cX8_digest 234 = .ok (.lmul, 1) := by decide +kernel
theorem dX8_digest_235 : decode cX8_digest 235 = .ok (.aload_n 0, 1) := by decide +kernel
theorem dX8_digest_236 : decode cX8_digest 236 = .ok (.invokevirtual 129, 3) := by decide +kernel
theorem dX8_digest_239 : decode cX8_digest 239 = .ok (.i2l, 1) := by decide +kernel
theorem dX8_digest_240 : decode cX8_digest 240 = .ok (.ladd, 1) := by decide +kernel
theorem dX8_digest_241 : decode cX8_digest 241 = .ok (.lstore_n 1, 1) := by decide +kernel
theorem dX8_digest_242 : decode cX8_digest 242 = .ok (.ldc2_w 171, 3) := by decide +kernel
theorem dX8_digest_245 : decode cX8_digest 245 = .ok (.lload_n 1, 1) := by decide +kernel
theorem dX8_digest_246 : decode cX8_digest 246 = .ok (.lmul, 1) := by decide +kernel
theorem dX8_digest_247 : decode cX8_digest 247 = .ok (.aload_n 0, 1) := by decide +kernel
theorem dX8_digest_248 : decode cX8_digest 248 = .ok (.invokevirtual 132, 3) := by decide +kernel
theorem dX8_digest_251 : decode cX8_digest 251 = .ok (.i2l, 1) := by decide +kernel
theorem dX8_digest_252 : decode cX8_digest 252 = .ok (.ladd, 1) := by decide +kernel
theorem dX8_digest_253 : decode cX8_digest 253 = .ok (.lstore_n 1, 1) := by decide +kernel
theorem dX8_digest_254 : decode cX8_digest 254 = .ok (.ldc2_w 171, 3) := by decide +kernel
theorem dX8_digest_257 : decode cX8_digest 257 = .ok (.lload_n 1, 1) := by decide +kernel
theorem dX8_digest_258 : decode cX8_digest 258 = .ok (.lmul, 1) := by decide +kernel
theorem dX8_digest_259 : decode cX8_digest 259 = .ok (.aload_n 0, 1) := by decide +kernel
theorem dX8_digest_260 : decode cX8_digest 260 = .ok (.invokevirtual 135, 3) := by decide +kernel
theorem dX8_digest_263 : decode cX8_digest 263 = .ok (.i2l, 1) := by decide +kernel
theorem dX8_digest_264 : decode cX8_digest 264 = .ok (.ladd, 1) := by decide +kernel
theorem dX8_digest_265 : decode cX8_digest 265 = .ok (.lstore_n 1, 1) := by decide +kernel
theorem dX8_digest_266 : decode cX8_digest 266 = .ok (.ldc2_w 171, 3) := by decide +kernel
theorem dX8_digest_269 : decode cX8_digest 269 = .ok (.lload_n 1, 1) := by decide +kernel
theorem dX8_digest_270 : decode cX8_digest 270 = .ok (.lmul, 1) := by decide +kernel
theorem dX8_digest_271 : decode cX8_digest 271 = .ok (.aload_n 0, 1) := by decide +kernel
theorem dX8_digest_272 : decode cX8_digest 272 = .ok (.invokevirtual 138, 3) := by decide +kernel
theorem dX8_digest_275 : decode cX8_digest 275 = .ok (.i2l, 1) := by decide +kernel
theorem dX8_digest_276 : decode cX8_digest 276 = .ok (.ladd, 1) := by decide +kernel
theorem dX8_digest_277 : decode cX8_digest 277 = .ok (.lreturn, 1) := by decide +kernel
