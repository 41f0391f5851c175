theorem dX2_init_0 : decode cX2_init 0 = .ok (.aload_n 0, 1) := by decide +kernel
theorem dX2_init_1 : decode cX2_init 1 = .ok (.invokespecial 3, 3) := by decide +kernel
theorem dX2_init_4 : decode cX2_init 4 = .ok (.aload_n 0, 1) := by decide +kernel
theorem dX2_init_5 : decode cX2_init 5 = .ok (.bipush 20, 2) := by decide +kernel
theorem dX2_init_7 : decode cX2_init 7 = .ok (.newarray .int, 2) := by decide +kernel
theorem dX2_init_9 : decode cX2_init 9 = .ok (.putfield 9, 3) := by decide +kernel
theorem dX2_init_12 : decode cX2_init 12 = .ok (.aload_n 0, 1) := by decide +kernel
theorem dX2_init_13 : decode cX2_init 13 = .ok (.bipush 20, 2) := by decide +kernel
theorem dX2_init_15 : decode cX2_init 15 = .ok (.newarray .int, 2) := by decide +kernel
theorem dX2_init_17 : decode cX2_init 17 = .ok (.putfield 15, 3) := by decide +kernel
theorem dX2_init_20 : decode cX2_init 20 = .ok (.aload_n 0, 1) := by decide +kernel
theorem dX2_init_21 : decode cX2_init 21 = .ok (.bipush 20, 2) := by decide +kernel
theorem dX2_init_23 : decode cX2_init 23 = .ok (.newarray .int, 2) := by decide +kernel
theorem dX2_init_25 : decode cX2_init 25 = .ok (.putfield 18, 3) := by decide +kernel
theorem dX2_init_28 : decode cX2_init 28 = .ok (.aload_n 0, 1) := by decide +kernel
theorem dX2_init_29 : decode cX2_init 29 = .ok (.bipush 20, 2) := by decide +kernel
theorem dX2_init_31 : decode cX2_init 31 = .ok (.newarray .int, 2) := by decide +kernel
theorem dX2_init_33 : decode cX2_init 33 = .ok (.putfield 21, 3) := by decide +kernel
theorem dX2_init_36 : decode cX2_init 36 = .ok (.aload_n 0, 1) := by decide +kernel
theorem dX2_init_37 : decode cX2_init 37 = .ok (.bipush 20, 2) := by decide +kernel
theorem dX2_init_39 : decode cX2_init 39 = .ok (.newarray .int, 2) := by decide +kernel
theorem dX2_init_41 : decode cX2_init 41 = .ok (.putfield 24, 3) := by decide +kernel
theorem dX2_init_44 : decode cX2_init 44 = .ok (.aload_n 0, 1) := by decide +kernel
theorem dX2_init_45 : decode cX2_init 45 = .ok (.bipush 20, 2) := by decide +kernel
theorem dX2_init_47 : decode cX2_init 47 = .ok (.newarray .int, 2) := by decide +kernel
theorem dX2_init_49 : decode cX2_init 49 = .ok (.putfield 27, 3) := by decide +kernel
theorem dX2_init_52 : decode cX2_init 52 = .ok (.aload_n 0, 1) := by decide +kernel
theorem dX2_init_53 : decode cX2_init 53 = .ok (.bipush 20, 2) := by decide +kernel
theorem dX2_init_55 : decode cX2_init 55 = .ok (.newarray .int, 2) := by decide +kernel
theorem dX2_init_57 : decode cX2_init 57 = .ok (.putfield 30, 3) := by decide +kernel
theorem dX2_init_60 : decode cX2_init 60 = .ok (.aload_n 0, 1) := by decide +kernel
theorem dX2_init_61 : decode cX2_init 61 = .ok (.iconst 0, 1) := by decide +kernel
theorem dX2_init_62 : decode cX2_init 62 = .ok (.putfield 33, 3) := by decide +kernel
theorem dX2_init_65 : decode cX2_init 65 = .ok (.aload_n 0, 1) := by decide +kernel
theorem dX2_init_66 : decode cX2_init 66 = .ok (.iconst 0, 1) := by decide +kernel
theorem dX2_init_67 : decode cX2_init 67 = .ok (.putfield 37, 3) := by decide +kernel
theorem dX2_init_70 : decode cX2_init 70 = .ok (.return_, 1) := by decide +kernel
theorem dX2_copyFrom_0 : decode cX2_copyFrom 0 = .ok (.aload_n 1, 1) := by decide +kernel
theorem dX2_copyFrom_1 : decode cX2_copyFrom 1 = .ok (.getfield 9, 3) := by decide +kernel
theorem dX2_copyFrom_4 : decode cX2_copyFrom 4 = .ok (.iconst 0, 1) := by decide +kernel
theorem dX2_copyFrom_5 : decode cX2_copyFrom 5 = .ok (.aload_n 0, 1) := by decide +kernel
theorem dX2_copyFrom_6 : decode cX2_copyFrom 6 = .ok (.getfield 9, 3) := by decide +kernel
theorem dX2_copyFrom_9 : decode cX2_copyFrom 9 = .ok (.iconst 0, 1) := by decide +kernel
theorem dX2_copyFrom_10 : decode cX2_copyFrom 10 = .ok (.bipush 20, 2) := by decide +kernel
theorem dX2_copyFrom_12 : decode cX2_copyFrom 12 = .ok (.invokestatic 40, 3) := by decide +kernel
theorem dX2_copyFrom_15 : decode cX2_copyFrom 15 = .ok (.aload_n 1, 1) := by decide +kernel
theorem dX2_copyFrom_16 : decode cX2_copyFrom 16 = .ok (.getfield 15, 3) := by decide +kernel
theorem dX2_copyFrom_19 : decode cX2_copyFrom 19 = .ok (.iconst 0, 1) := by decide +kernel
theorem dX2_copyFrom_20 : decode cX2_copyFrom 20 = .ok (.aload_n 0, 1) := by decide +kernel
theorem dX2_copyFrom_21 : decode cX2_copyFrom 21 = .ok (.getfield 15, 3) := by decide +kernel
theorem dX2_copyFrom_24 : decode cX2_copyFrom 24 = .ok (.iconst 0, 1) := by decide +kernel
theorem dX2_copyFrom_25 : decode cX2_copyFrom 25 = .ok (.bipush 20, 2) := by decide +kernel
theorem dX2_copyFrom_27 : decode cX2_copyFrom 27 = .ok (.invokestatic 40, 3) := by decide +kernel
theorem dX2_copyFrom_30 : decode cX2_copyFrom 30 = .ok (.aload_n 1, 1) := by decide +kernel
theorem dX2_copyFrom_31 : decode cX2_copyFrom 31 = .ok (.getfield 18, 3) := by decide +kernel
theorem dX2_copyFrom_34 : decode cX2_copyFrom 34 = .ok (.iconst 0, 1) := by decide +kernel
theorem dX2_copyFrom_35 : decode cX2_copyFrom 35 = .ok (.aload_n 0, 1) := by decide +kernel
theorem dX2_copyFrom_36 : decode cX2_copyFrom 36 = .ok (.getfield 18, 3) := by decide +kernel
theorem dX2_copyFrom_39 : decode cX2_copyFrom 39 = .ok (.iconst 0, 1) := by decide +kernel
theorem dX2_copyFrom_40 : decode cX2_copyFrom 40 = .ok (.bipush 20, 2) := by decide +kernel
theorem dX2_copyFrom_42 : decode cX2_copyFrom 42 = .ok (.invokestatic 40, 3) := by decide +kernel
theorem dX2_copyFrom_45 : decode cX2_copyFrom 45 = .ok (.aload_n 1, 1) := by decide +kernel
theorem dX2_copyFrom_46 : decode cX2_copyFrom 46 = .ok (.getfield 21, 3) := by decide +kernel
theorem dX2_copyFrom_49 : decode cX2_copyFrom 49 = .ok (.iconst 0, 1) := by decide +kernel
theorem dX2_copyFrom_50 : decode cX2_copyFrom 50 = .ok (.aload_n 0, 1) := by decide +kernel
theorem dX2_copyFrom_51 : decode cX2_copyFrom 51 = .ok (.getfield 21, 3) := by decide +kernel
theorem dX2_copyFrom_54 : decode cX2_copyFrom 54 = .ok (.iconst 0, 1) := by decide +kernel
theorem dX2_copyFrom_55 : decode cX2_copyFrom 55 = .ok (.bipush 20, 2) := by decide +kernel
theorem dX2_copyFrom_57 : decode cX2_copyFrom 57 = .ok (.invokestatic 40, 3) := by decide +kernel
theorem dX2_copyFrom_60 : decode cX2_copyFrom 60 = .ok (.aload_n 1, 1) := by decide +kernel
theorem dX2_copyFrom_61 : decode cX2_copyFrom 61 = .ok (.getfield 24, 3) := by decide +kernel
theorem dX2_copyFrom_64 : decode cX2_copyFrom 64 = .ok (.iconst 0, 1) := by decide +kernel
theorem dX2_copyFrom_65 : decode cX2_copyFrom 65 = .ok (.aload_n 0, 1) := by decide +kernel
theorem dX2_copyFrom_66 : decode cX2_copyFrom 66 = .ok (.getfield 24, 3) := by decide +kernel
theorem dX2_copyFrom_69 : decode cX2_copyFrom 69 = .ok (.iconst 0, 1) := by decide +kernel
theorem dX2_copyFrom_70 : decode cX2_copyFrom 70 = .ok (.bipush 20, 2) := by decide +kernel
theorem dX2_copyFrom_72 : decode cX2_copyFrom 72 = .ok (.invokestatic 40, 3) := by decide +kernel
theorem dX2_copyFrom_75 : decode cX2_copyFrom 75 = .ok (.aload_n 1, 1) := by decide +kernel
theorem dX2_copyFrom_76 : decode cX2_copyFrom 76 = .ok (.getfield 27, 3) := by decide +kernel
theorem dX2_copyFrom_79 : decode cX2_copyFrom 79 = .ok (.iconst 0, 1) := by decide +kernel
theorem dX2_copyFrom_80 : decode cX2_copyFrom 80 = .ok (.aload_n 0, 1) := by decide +kernel
theorem dX2_copyFrom_81 : decode cX2_copyFrom 81 = .ok (.getfield 27, 3) := by decide +kernel
theorem dX2_copyFrom_84 : decode cX2_copyFrom 84 = .ok (.iconst 0, 1) := by decide +kernel
theorem dX2_copyFrom_85 : decode cX2_copyFrom 85 = .ok (.bipush 20, 2) := by decide +kernel
theorem dX2_copyFrom_87 : decode cX2_copyFrom 87 = .ok (.invokestatic 40, 3) := by decide +kernel
theorem dX2_copyFrom_90 : decode cX2_copyFrom 90 = .ok (.aload_n 1, 1) := by decide +kernel
theorem dX2_copyFrom_91 : decode cX2_copyFrom 91 = .ok (.getfield 30, 3) := by decide +kernel
theorem dX2_copyFrom_94 : decode cX2_copyFrom 94 = .ok (.iconst 0, 1) := by decide +kernel
theorem dX2_copyFrom_95 : decode cX2_copyFrom 95 = .ok (.aload_n 0, 1) := by decide +kernel
theorem dX2_copyFrom_96 : decode cX2_copyFrom 96 = .ok (.getfield 30, 3) := by decide +kernel
theorem dX2_copyFrom_99 : decode cX2_copyFrom 99 = .ok (.iconst 0, 1) := by decide +kernel
theorem dX2_copyFrom_100 : decode cX2_copyFrom 100 = .ok (.bipush 20, 2) := by decide +kernel
theorem dX2_copyFrom_102 : decode cX2_copyFrom 102 = .ok (.invokestatic 40, 3) := by decide +kernel
theorem dX2_copyFrom_105 : decode cX2_copyFrom 105 = .ok (.aload_n 0, 1) := by decide +kernel
theorem dX2_copyFrom_106 : decode cX2_copyFrom 106 = .ok (.aload_n 1, 1) := by decide +kernel
theorem dX2_copyFrom_107 : decode cX2_copyFrom 107 = .ok (.getfield 33, 3) := by decide +kernel
theorem dX2_copyFrom_110 : decode cX2_copyFrom 110 = .ok (.putfield 33, 3) := by decide +kernel
theorem dX2_copyFrom_113 : decode cX2_copyFrom 113 = .ok (.aload_n 0, 1) := by decide +kernel
theorem dX2_copyFrom_114 : decode cX2_copyFrom 114 = .ok (.aload_n 1, 1) := by decide +kernel
theorem dX2_copyFrom_115 : decode cX2_copyFrom 115 = .ok (.getfield 37, 3) := by decide +kernel
theorem dX2_copyFrom_118 : decode cX2_copyFrom 118 = .ok (.putfield 37, 3) := by decide +kernel
theorem dX2_copyFrom_121 : decode cX2_copyFrom 121 = .ok (.return_, 1) := by decide +kernel
theorem dX2_has_0 : decode cX2_has 0 = .ok (.iload_n 1, 1) := by decide +kernel
theorem dX2_has_1 : decode cX2_has 1 = .ok (.ifCond .lt 15, 3) := by decide +kernel
theorem dX2_has_4 : decode cX2_has 4 = .ok (.iload_n 1, 1) := by decide +kernel
theorem dX2_has_5 : decode cX2_has 5 = .ok (.aload_n 0, 1) := by decide +kernel
theorem dX2_has_6 : decode cX2_has 6 = .ok (.getfield 33, 3) := by decide +kernel
theorem dX2_has_9 : decode cX2_has 9 = .ok (.if_icmp .ge 7, 3) := by decide +kernel
theorem dX2_has_12 : decode cX2_has 12 = .ok (.iconst 1, 1) := by decide +kernel
theorem dX2_has_13 : decode cX2_has 13 = .ok (.goto 4, 3) := by decide +kernel
theorem dX2_has_16 : decode cX2_has 16 = .ok (.iconst 0, 1) := by decide +kernel
theorem dX2_has_17 : decode cX2_has 17 = .ok (.ireturn, 1) := by decide +kernel
theorem dX2_colourOf_0 : decode cX2_colourOf 0 = .ok (.aload_n 0, 1) := by decide +kernel
theorem dX2_colourOf_1 : decode cX2_colourOf 1 = .ok (.getfield 9, 3) := by decide +kernel
theorem dX2_colourOf_4 : decode cX2_colourOf 4 = .ok (.aload_n 0, 1) := by decide +kernel
theorem dX2_colourOf_5 : decode cX2_colourOf 5 = .ok (.iload_n 1, 1) := by decide +kernel
theorem dX2_colourOf_6 : decode cX2_colourOf 6 = .ok (.invokevirtual 46, 3) := by decide +kernel
theorem dX2_colourOf_9 : decode cX2_colourOf 9 = .ok (.iaload, 1) := by decide +kernel
theorem dX2_colourOf_10 : decode cX2_colourOf 10 = .ok (.ireturn, 1) := by decide +kernel
theorem dX2_isLifted_0 : decode cX2_isLifted 0 = .ok (.aload_n 0, 1) := by decide +kernel
theorem dX2_isLifted_1 : decode cX2_isLifted 1 = .ok (.getfield 15, 3) := by decide +kernel
theorem dX2_isLifted_4 : decode cX2_isLifted 4 = .ok (.aload_n 0, 1) := by decide +kernel
theorem dX2_isLifted_5 : decode cX2_isLifted 5 = .ok (.iload_n 1, 1) := by decide +kernel
theorem dX2_isLifted_6 : decode cX2_isLifted 6 = .ok (.invokevirtual 46, 3) := by decide +kernel
theorem dX2_isLifted_9 : decode cX2_isLifted 9 = .ok (.iaload, 1) := by decide +kernel
theorem dX2_isLifted_10 : decode cX2_isLifted 10 = .ok (.iload_n 2, 1) := by decide +kernel
theorem dX2_isLifted_11 : decode cX2_isLifted 11 = .ok (.invokestatic 50, 3) := by decide +kernel
theorem dX2_isLifted_14 : decode cX2_isLifted 14 = .ok (.ireturn, 1) := by decide +kernel
theorem dX2_longestFloatOf_0 : decode cX2_longestFloatOf 0 = .ok (.iconst 0, 1) := by decide +kernel
theorem dX2_longestFloatOf_1 : decode cX2_longestFloatOf 1 = .ok (.istore_n 2, 1) := by decide +kernel
theorem dX2_longestFloatOf_2 : decode cX2_longestFloatOf 2 = .ok (.iconst 0, 1) := by decide +kernel
theorem dX2_longestFloatOf_3 : decode cX2_longestFloatOf 3 = .ok (.istore_n 3, 1) := by decide +kernel
theorem dX2_longestFloatOf_4 : decode cX2_longestFloatOf 4 = .ok (.iconst 0, 1) := by decide +kernel
theorem dX2_longestFloatOf_5 : decode cX2_longestFloatOf 5 = .ok (.istore 4, 2) := by decide +kernel
theorem dX2_longestFloatOf_7 : decode cX2_longestFloatOf 7 = .ok (.iload 4, 2) := by decide +kernel
theorem dX2_longestFloatOf_9 : decode cX2_longestFloatOf 9 = .ok (.aload_n 0, 1) := by decide +kernel
theorem dX2_longestFloatOf_10 : decode cX2_longestFloatOf 10 = .ok (.getfield 33, 3) := by decide +kernel
theorem dX2_longestFloatOf_13 : decode cX2_longestFloatOf 13 = .ok (.if_icmp .ge 59, 3) := by decide +kernel
theorem dX2_longestFloatOf_16 : decode cX2_longestFloatOf 16 = .ok (.iload 4, 2) := by decide +kernel
theorem dX2_longestFloatOf_18 : decode cX2_longestFloatOf 18 = .ok (.ifCond .le 26, 3) := by decide +kernel
theorem dX2_longestFloatOf_21 : decode cX2_longestFloatOf 21 = .ok (.aload_n 0, 1) := by decide +kernel
theorem dX2_longestFloatOf_22 : decode cX2_longestFloatOf 22 = .ok (.iload 4, 2) := by decide +kernel
theorem dX2_longestFloatOf_24 : decode cX2_longestFloatOf 24 = .ok (.iload_n 1, 1) := by decide +kernel
theorem dX2_longestFloatOf_25 : decode cX2_longestFloatOf 25 = .ok (.invokevirtual 54, 3) := by decide +kernel
theorem dX2_longestFloatOf_28 : decode cX2_longestFloatOf 28 = .ok (.aload_n 0, 1) := by decide +kernel
theorem dX2_longestFloatOf_29 : decode cX2_longestFloatOf 29 = .ok (.iload 4, 2) := by decide +kernel
theorem dX2_longestFloatOf_31 : decode cX2_longestFloatOf 31 = .ok (.iconst 1, 1) := by decide +kernel
theorem dX2_longestFloatOf_32 : decode cX2_longestFloatOf 32 = .ok (.isub, 1) := by decide +kernel
theorem dX2_longestFloatOf_33 : decode cX2_longestFloatOf 33 = .ok (.iload_n 1, 1) := by decide +kernel
theorem dX2_longestFloatOf_34 : decode cX2_longestFloatOf 34 = .ok (.invokevirtual 54, 3) := by decide +kernel
theorem dX2_longestFloatOf_37 : decode cX2_longestFloatOf 37 = .ok (.if_icmp .ne 7, 3) := by decide +kernel
theorem dX2_longestFloatOf_40 : decode cX2_longestFloatOf 40 = .ok (.iconst 1, 1) := by decide +kernel
theorem dX2_longestFloatOf_41 : decode cX2_longestFloatOf 41 = .ok (.goto 4, 3) := by decide +kernel
theorem dX2_longestFloatOf_44 : decode cX2_longestFloatOf 44 = .ok (.iconst 0, 1) := by decide +kernel
theorem dX2_longestFloatOf_45 : decode cX2_longestFloatOf 45 = .ok (.istore 5, 2) := by decide +kernel
theorem dX2_longestFloatOf_47 : decode cX2_longestFloatOf 47 = .ok (.iload 5, 2) := by decide +kernel
theorem dX2_longestFloatOf_49 : decode cX2_longestFloatOf 49 = .ok (.ifCond .eq 9, 3) := by decide +kernel
theorem dX2_longestFloatOf_52 : decode cX2_longestFloatOf 52 = .ok (.iload_n 3, 1) := by decide +kernel
theorem dX2_longestFloatOf_53 : decode cX2_longestFloatOf 53 = .ok (.iconst 1, 1) := by decide +kernel
theorem dX2_longestFloatOf_54 : decode cX2_longestFloatOf 54 = .ok (.iadd, 1) := by decide +kernel
theorem dX2_longestFloatOf_55 : decode cX2_longestFloatOf 55 = .ok (.goto 4, 3) := by decide +kernel
theorem dX2_longestFloatOf_58 : decode cX2_longestFloatOf 58 = .ok (.iconst 1, 1) := by decide +kernel
theorem dX2_longestFloatOf_59 : decode cX2_longestFloatOf 59 = .ok (.istore_n 3, 1) := by decide +kernel
theorem dX2_longestFloatOf_60 : decode cX2_longestFloatOf 60 = .ok (.iload_n 2, 1) := by decide +kernel
theorem dX2_longestFloatOf_61 : decode cX2_longestFloatOf 61 = .ok (.iload_n 3, 1) := by decide +kernel
theorem dX2_longestFloatOf_62 : decode cX2_longestFloatOf 62 = .ok (.invokestatic 57, 3) := by decide +kernel
theorem dX2_longestFloatOf_65 : decode cX2_longestFloatOf 65 = .ok (.istore_n 2, 1) := by decide +kernel
theorem dX2_longestFloatOf_66 : decode cX2_longestFloatOf 66 = .ok (.iinc 4 1, 3) := by decide +kernel
theorem dX2_longestFloatOf_69 : decode cX2_longestFloatOf 69 = .ok (.goto (-62), 3) := by decide +kernel
theorem dX2_longestFloatOf_72 : decode cX2_longestFloatOf 72 = .ok (.iload_n 2, 1) := by decide +kernel
theorem dX2_longestFloatOf_73 : decode cX2_longestFloatOf 73 = .ok (.ireturn, 1) := by decide +kernel
theorem dX2_addRowOf_0 : decode cX2_addRowOf 0 = .ok (.aload_n 0, 1) := by decide +kernel
theorem dX2_addRowOf_1 : decode cX2_addRowOf 1 = .ok (.aload_n 0, 1) := by decide +kernel
theorem dX2_addRowOf_2 : decode cX2_addRowOf 2 = .ok (.iconst (-1), 1) := by decide +kernel
theorem dX2_addRowOf_3 : decode cX2_addRowOf 3 = .ok (.invokevirtual 46, 3) := by decide +kernel
theorem dX2_addRowOf_6 : decode cX2_addRowOf 6 = .ok (.putfield 37, 3) := by decide +kernel
theorem dX2_addRowOf_9 : decode cX2_addRowOf 9 = .ok (.aload_n 0, 1) := by decide +kernel
theorem dX2_addRowOf_10 : decode cX2_addRowOf 10 = .ok (.iconst 0, 1) := by decide +kernel
theorem dX2_addRowOf_11 : decode cX2_addRowOf 11 = .ok (.invokevirtual 46, 3) := by decide +kernel
theorem dX2_addRowOf_14 : decode cX2_addRowOf 14 = .ok (.istore_n 2, 1) := by decide +kernel
theorem dX2_addRowOf_15 : decode cX2_addRowOf 15 = .ok (.aload_n 0, 1) := by decide +kernel
theorem dX2_addRowOf_16 : decode cX2_addRowOf 16 = .ok (.getfield 18, 3) := by decide +kernel
theorem dX2_addRowOf_19 : decode cX2_addRowOf 19 = .ok (.iload_n 2, 1) := by decide +kernel
theorem dX2_addRowOf_20 : decode cX2_addRowOf 20 = .ok (.aload_n 1, 1) := by decide +kernel
theorem dX2_addRowOf_21 : decode cX2_addRowOf 21 = .ok (.invokevirtual 63, 3) := by decide +kernel
theorem dX2_addRowOf_24 : decode cX2_addRowOf 24 = .ok (.iastore, 1) := by decide +kernel
theorem dX2_addRowOf_25 : decode cX2_addRowOf 25 = .ok (.aload_n 0, 1) := by decide +kernel
theorem dX2_addRowOf_26 : decode cX2_addRowOf 26 = .ok (.getfield 9, 3) := by decide +kernel
theorem dX2_addRowOf_29 : decode cX2_addRowOf 29 = .ok (.iload_n 2, 1) := by decide +kernel
theorem dX2_addRowOf_30 : decode cX2_addRowOf 30 = .ok (.aload_n 1, 1) := by decide +kernel
theorem dX2_addRowOf_31 : decode cX2_addRowOf 31 = .ok (.getfield 69, 3) := by decide +kernel
theorem dX2_addRowOf_34 : decode cX2_addRowOf 34 = .ok (.aload_n 0, 1) := by decide +kernel
theorem dX2_addRowOf_35 : decode cX2_addRowOf 35 = .ok (.getfield 18, 3) := by decide +kernel
theorem dX2_addRowOf_38 : decode cX2_addRowOf 38 = .ok (.iload_n 2, 1) := by decide +kernel
theorem dX2_addRowOf_39 : decode cX2_addRowOf 39 = .ok (.iaload, 1) := by decide +kernel
theorem dX2_addRowOf_40 : decode cX2_addRowOf 40 = .ok (.invokevirtual 73, 3) := by decide +kernel
theorem dX2_addRowOf_43 : decode cX2_addRowOf 43 = .ok (.iastore, 1) := by decide +kernel
theorem dX2_addRowOf_44 : decode cX2_addRowOf 44 = .ok (.aload_n 0, 1) := by decide +kernel
theorem dX2_addRowOf_45 : decode cX2_addRowOf 45 = .ok (.getfield 15, 3) := by decide +kernel
theorem dX2_addRowOf_48 : decode cX2_addRowOf 48 = .ok (.iload_n 2, 1) := by decide +kernel
theorem dX2_addRowOf_49 : decode cX2_addRowOf 49 = .ok (.aload_n 1, 1) := by decide +kernel
theorem dX2_addRowOf_50 : decode cX2_addRowOf 50 = .ok (.getfield 78, 3) := by decide +kernel
theorem dX2_addRowOf_53 : decode cX2_addRowOf 53 = .ok (.aload_n 1, 1) := by decide +kernel
theorem dX2_addRowOf_54 : decode cX2_addRowOf 54 = .ok (.invokevirtual 81, 3) := by decide +kernel
theorem dX2_addRowOf_57 : decode cX2_addRowOf 57 = .ok (.invokevirtual 84, 3) := by decide +kernel
theorem dX2_addRowOf_60 : decode cX2_addRowOf 60 = .ok (.iastore, 1) := by decide +kernel
theorem dX2_addRowOf_61 : decode cX2_addRowOf 61 = .ok (.aload_n 0, 1) := by decide +kernel
theorem dX2_addRowOf_62 : decode cX2_addRowOf 62 = .ok (.getfield 21, 3) := by decide +kernel
theorem dX2_addRowOf_65 : decode cX2_addRowOf 65 = .ok (.iload_n 2, 1) := by decide +kernel
theorem dX2_addRowOf_66 : decode cX2_addRowOf 66 = .ok (.aload_n 1, 1) := by decide +kernel
theorem dX2_addRowOf_67 : decode cX2_addRowOf 67 = .ok (.getfield 89, 3) := by decide +kernel
theorem dX2_addRowOf_70 : decode cX2_addRowOf 70 = .ok (.getfield 93, 3) := by decide +kernel
theorem dX2_addRowOf_73 : decode cX2_addRowOf 73 = .ok (.iastore, 1) := by decide +kernel
theorem dX2_addRowOf_74 : decode cX2_addRowOf 74 = .ok (.aload_n 0, 1) := by decide +kernel
theorem dX2_addRowOf_75 : decode cX2_addRowOf 75 = .ok (.getfield 24, 3) := by decide +kernel
theorem dX2_addRowOf_78 : decode cX2_addRowOf 78 = .ok (.iload_n 2, 1) := by decide +kernel
theorem dX2_addRowOf_79 : decode cX2_addRowOf 79 = .ok (.aload_n 1, 1) := by decide +kernel
theorem dX2_addRowOf_80 : decode cX2_addRowOf 80 = .ok (.getfield 97, 3) := by decide +kernel
theorem dX2_addRowOf_83 : decode cX2_addRowOf 83 = .ok (.iastore, 1) := by decide +kernel
theorem dX2_addRowOf_84 : decode cX2_addRowOf 84 = .ok (.aload_n 0, 1) := by decide +kernel
theorem dX2_addRowOf_85 : decode cX2_addRowOf 85 = .ok (.getfield 27, 3) := by decide +kernel
theorem dX2_addRowOf_88 : decode cX2_addRowOf 88 = .ok (.iload_n 2, 1) := by decide +kernel
theorem dX2_addRowOf_89 : decode cX2_addRowOf 89 = .ok (.aload_n 1, 1) := by decide +kernel
theorem dX2_addRowOf_90 : decode cX2_addRowOf 90 = .ok (.getfield 99, 3) := by decide +kernel
theorem dX2_addRowOf_93 : decode cX2_addRowOf 93 = .ok (.iconst 0, 1) := by decide +kernel
theorem dX2_addRowOf_94 : decode cX2_addRowOf 94 = .ok (.iaload, 1) := by decide +kernel
theorem dX2_addRowOf_95 : decode cX2_addRowOf 95 = .ok (.iastore, 1) := by decide +kernel
theorem dX2_addRowOf_96 : decode cX2_addRowOf 96 = .ok (.aload_n 0, 1) := by decide +kernel
theorem dX2_addRowOf_97 : decode cX2_addRowOf 97 = .ok (.getfield 30, 3) := by decide +kernel
theorem dX2_addRowOf_100 : decode cX2_addRowOf 100 = .ok (.iload_n 2, 1) := by decide +kernel
theorem dX2_addRowOf_101 : decode cX2_addRowOf 101 = .ok (.aload_n 1, 1) := by decide +kernel
theorem dX2_addRowOf_102 : decode cX2_addRowOf 102 = .ok (.getfield 99, 3) := by decide +kernel
theorem dX2_addRowOf_105 : decode cX2_addRowOf 105 = .ok (.iconst 1, 1) := by decide +kernel
theorem dX2_addRowOf_106 : decode cX2_addRowOf 106 = .ok (.iaload, 1) := by decide +kernel
theorem dX2_addRowOf_107 : decode cX2_addRowOf 107 = .ok (.iastore, 1) := by decide +kernel
theorem dX2_addRowOf_108 : decode cX2_addRowOf 108 = .ok (.aload_n 0, 1) := by decide +kernel
theorem dX2_addRowOf_109 : decode cX2_addRowOf 109 = .ok (.getfield 33, 3) := by decide +kernel
theorem dX2_addRowOf_112 : decode cX2_addRowOf 112 = .ok (.bipush 20, 2) := by decide +kernel
theorem dX2_addRowOf_114 : decode cX2_addRowOf 114 = .ok (.if_icmp .ge 13, 3) := by decide +kernel
theorem dX2_addRowOf_117 : decode cX2_addRowOf 117 = .ok (.aload_n 0, 1) := by decide +kernel
theorem dX2_addRowOf_118 : decode cX2_addRowOf 118 = .ok (.dup, 1) := by decide +kernel
theorem dX2_addRowOf_119 : decode cX2_addRowOf 119 = .ok (.getfield 33, 3) := by decide +kernel
theorem dX2_addRowOf_122 : decode cX2_addRowOf 122 = .ok (.iconst 1, 1) := by decide +kernel
theorem dX2_addRowOf_123 : decode cX2_addRowOf 123 = .ok (.iadd, 1) := by decide +kernel
theorem dX2_addRowOf_124 : decode cX2_addRowOf 124 = .ok (.putfield 33, 3) := by decide +kernel
theorem dX2_addRowOf_127 : decode cX2_addRowOf 127 = .ok (.return_, 1) := by decide +kernel
theorem dX2_takeRowBack_0 : decode cX2_takeRowBack 0 = .ok (.aload_n 0, 1) := by decide +kernel
theorem dX2_takeRowBack_1 : decode cX2_takeRowBack 1 = .ok (.iconst 0, 1) := by decide +kernel
theorem dX2_takeRowBack_2 : decode cX2_takeRowBack 2 = .ok (.invokevirtual 46, 3) := by decide +kernel
theorem dX2_takeRowBack_5 : decode cX2_takeRowBack 5 = .ok (.istore_n 2, 1) := by decide +kernel
theorem dX2_takeRowBack_6 : decode cX2_takeRowBack 6 = .ok (.aload_n 1, 1) := by decide +kernel
theorem dX2_takeRowBack_7 : decode cX2_takeRowBack 7 = .ok (.aload_n 0, 1) := by decide +kernel
theorem dX2_takeRowBack_8 : decode cX2_takeRowBack 8 = .ok (.getfield 18, 3) := by decide +kernel
theorem dX2_takeRowBack_11 : decode cX2_takeRowBack 11 = .ok (.iload_n 2, 1) := by decide +kernel
theorem dX2_takeRowBack_12 : decode cX2_takeRowBack 12 = .ok (.iaload, 1) := by decide +kernel
theorem dX2_takeRowBack_13 : decode cX2_takeRowBack 13 = .ok (.iconst 1, 1) := by decide +kernel
theorem dX2_takeRowBack_14 : decode cX2_takeRowBack 14 = .ok (.invokevirtual 102, 3) := by decide +kernel
theorem dX2_takeRowBack_17 : decode cX2_takeRowBack 17 = .ok (.aload_n 1, 1) := by decide +kernel
theorem dX2_takeRowBack_18 : decode cX2_takeRowBack 18 = .ok (.aload_n 0, 1) := by decide +kernel
theorem dX2_takeRowBack_19 : decode cX2_takeRowBack 19 = .ok (.getfield 27, 3) := by decide +kernel
theorem dX2_takeRowBack_22 : decode cX2_takeRowBack 22 = .ok (.iload_n 2, 1) := by decide +kernel
theorem dX2_takeRowBack_23 : decode cX2_takeRowBack 23 = .ok (.iaload, 1) := by decide +kernel
theorem dX2_takeRowBack_24 : decode cX2_takeRowBack 24 = .ok (.aload_n 0, 1) := by decide +kernel
theorem dX2_takeRowBack_25 : decode cX2_takeRowBack 25 = .ok (.getfield 30, 3) := by decide +kernel
theorem dX2_takeRowBack_28 : decode cX2_takeRowBack 28 = .ok (.iload_n 2, 1) := by decide +kernel
theorem dX2_takeRowBack_29 : decode cX2_takeRowBack 29 = .ok (.iaload, 1) := by decide +kernel
theorem dX2_takeRowBack_30 : decode cX2_takeRowBack 30 = .ok (.invokevirtual 106, 3) := by decide +kernel
theorem dX2_takeRowBack_33 : decode cX2_takeRowBack 33 = .ok (.aload_n 1, 1) := by decide +kernel
theorem dX2_takeRowBack_34 : decode cX2_takeRowBack 34 = .ok (.aload_n 0, 1) := by decide +kernel
theorem dX2_takeRowBack_35 : decode cX2_takeRowBack 35 = .ok (.getfield 24, 3) := by decide +kernel
theorem dX2_takeRowBack_38 : decode cX2_takeRowBack 38 = .ok (.iload_n 2, 1) := by decide +kernel
theorem dX2_takeRowBack_39 : decode cX2_takeRowBack 39 = .ok (.iaload, 1) := by decide +kernel
theorem dX2_takeRowBack_40 : decode cX2_takeRowBack 40 = .ok (.putfield 97, 3) := by decide +kernel
theorem dX2_takeRowBack_43 : decode cX2_takeRowBack 43 = .ok (.aload_n 1, 1) := by decide +kernel
theorem dX2_takeRowBack_44 : decode cX2_takeRowBack 44 = .ok (.getfield 89, 3) := by decide +kernel
theorem dX2_takeRowBack_47 : decode cX2_takeRowBack 47 = .ok (.aload_n 0, 1) := by decide +kernel
theorem dX2_takeRowBack_48 : decode cX2_takeRowBack 48 = .ok (.getfield 21, 3) := by decide +kernel
theorem dX2_takeRowBack_51 : decode cX2_takeRowBack 51 = .ok (.iload_n 2, 1) := by decide +kernel
theorem dX2_takeRowBack_52 : decode cX2_takeRowBack 52 = .ok (.iaload, 1) := by decide +kernel
theorem dX2_takeRowBack_53 : decode cX2_takeRowBack 53 = .ok (.putfield 93, 3) := by decide +kernel
theorem dX2_takeRowBack_56 : decode cX2_takeRowBack 56 = .ok (.aload_n 0, 1) := by decide +kernel
theorem dX2_takeRowBack_57 : decode cX2_takeRowBack 57 = .ok (.aload_n 0, 1) := by decide +kernel
theorem dX2_takeRowBack_58 : decode cX2_takeRowBack 58 = .ok (.iconst 1, 1) := by decide +kernel
theorem dX2_takeRowBack_59 : decode cX2_takeRowBack 59 = .ok (.invokevirtual 46, 3) := by decide +kernel
theorem dX2_takeRowBack_62 : decode cX2_takeRowBack 62 = .ok (.putfield 37, 3) := by decide +kernel
theorem dX2_takeRowBack_65 : decode cX2_takeRowBack 65 = .ok (.aload_n 0, 1) := by decide +kernel
theorem dX2_takeRowBack_66 : decode cX2_takeRowBack 66 = .ok (.dup, 1) := by decide +kernel
theorem dX2_takeRowBack_67 : decode cX2_takeRowBack 67 = .ok (.getfield 33, 3) := by decide +kernel
theorem dX2_takeRowBack_70 : decode cX2_takeRowBack 70 = .ok (.iconst 1, 1) := by decide +kernel
theorem dX2_takeRowBack_71 : decode cX2_takeRowBack 71 = .ok (.isub, 1) := by decide +kernel
theorem dX2_takeRowBack_72 : decode cX2_takeRowBack 72 = .ok (.putfield 33, 3) := by decide +kernel
theorem dX2_takeRowBack_75 : decode cX2_takeRowBack 75 = .ok (.return_, 1) := by decide +kernel
theorem dX2_slotOf_0 : decode cX2_slotOf 0 = .ok (.aload_n 0, 1) := by decide +kernel
theorem dX2_slotOf_1 : decode cX2_slotOf 1 = .ok (.getfield 37, 3) := by decide +kernel
theorem dX2_slotOf_4 : decode cX2_slotOf 4 = .ok (.iload_n 1, 1) := by decide +kernel
theorem dX2_slotOf_5 : decode cX2_slotOf 5 = .ok (.isub, 1) := by decide +kernel
theorem dX2_slotOf_6 : decode cX2_slotOf 6 = .ok (.bipush 20, 2) := by decide +kernel
theorem dX2_slotOf_8 : decode cX2_slotOf 8 = .ok (.invokestatic 109, 3) := by decide +kernel
theorem dX2_slotOf_11 : decode cX2_slotOf 11 = .ok (.ireturn, 1) := by decide +kernel
