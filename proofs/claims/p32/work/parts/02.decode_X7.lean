theorem dX7_init_0 : decode cX7_init 0 = .ok (.aload_n 0, 1) := by decide +kernel
theorem dX7_init_1 : decode cX7_init 1 = .ok (.invokespecial 3, 3) := by decide +kernel
theorem dX7_init_4 : decode cX7_init 4 = .ok (.aload_n 0, 1) := by decide +kernel
theorem dX7_init_5 : decode cX7_init 5 = .ok (.new 9, 3) := by decide +kernel
theorem dX7_init_8 : decode cX7_init 8 = .ok (.dup, 1) := by decide +kernel
theorem dX7_init_9 : decode cX7_init 9 = .ok (.invokespecial 11, 3) := by decide +kernel
theorem dX7_init_12 : decode cX7_init 12 = .ok (.putfield 12, 3) := by decide +kernel
theorem dX7_init_15 : decode cX7_init 15 = .ok (.aload_n 0, 1) := by decide +kernel
theorem dX7_init_16 : decode cX7_init 16 = .ok (.bipush 6, 2) := by decide +kernel
theorem dX7_init_18 : decode cX7_init 18 = .ok (.anewarray 9, 3) := by decide +kernel
theorem dX7_init_21 : decode cX7_init 21 = .ok (.putfield 16, 3) := by decide +kernel
theorem dX7_init_24 : decode cX7_init 24 = .ok (.aload_n 0, 1) := by decide +kernel
theorem dX7_init_25 : decode cX7_init 25 = .ok (.iconst 0, 1) := by decide +kernel
theorem dX7_init_26 : decode cX7_init 26 = .ok (.putfield 20, 3) := by decide +kernel
theorem dX7_init_29 : decode cX7_init 29 = .ok (.aload_n 0, 1) := by decide +kernel
theorem dX7_init_30 : decode cX7_init 30 = .ok (.iconst 0, 1) := by decide +kernel
theorem dX7_init_31 : decode cX7_init 31 = .ok (.putfield 24, 3) := by decide +kernel
theorem dX7_init_34 : decode cX7_init 34 = .ok (.aload_n 0, 1) := by decide +kernel
theorem dX7_init_35 : decode cX7_init 35 = .ok (.new 27, 3) := by decide +kernel
theorem dX7_init_38 : decode cX7_init 38 = .ok (.dup, 1) := by decide +kernel
theorem dX7_init_39 : decode cX7_init 39 = .ok (.invokespecial 29, 3) := by decide +kernel
theorem dX7_init_42 : decode cX7_init 42 = .ok (.putfield 30, 3) := by decide +kernel
theorem dX7_init_45 : decode cX7_init 45 = .ok (.aload_n 0, 1) := by decide +kernel
theorem dX7_init_46 : decode cX7_init 46 = .ok (.new 34, 3) := by decide +kernel
theorem dX7_init_49 : decode cX7_init 49 = .ok (.dup, 1) := by decide +kernel
theorem dX7_init_50 : decode cX7_init 50 = .ok (.invokespecial 36, 3) := by decide +kernel
theorem dX7_init_53 : decode cX7_init 53 = .ok (.putfield 37, 3) := by decide +kernel
theorem dX7_init_56 : decode cX7_init 56 = .ok (.aload_n 0, 1) := by decide +kernel
theorem dX7_init_57 : decode cX7_init 57 = .ok (.bipush 80, 2) := by decide +kernel
theorem dX7_init_59 : decode cX7_init 59 = .ok (.newarray .char, 2) := by decide +kernel
theorem dX7_init_61 : decode cX7_init 61 = .ok (.putfield 41, 3) := by decide +kernel
theorem dX7_init_64 : decode cX7_init 64 = .ok (.aload_n 0, 1) := by decide +kernel
theorem dX7_init_65 : decode cX7_init 65 = .ok (.iconst 0, 1) := by decide +kernel
theorem dX7_init_66 : decode cX7_init 66 = .ok (.putfield 45, 3) := by decide +kernel
theorem dX7_init_69 : decode cX7_init 69 = .ok (.iconst 0, 1) := by decide +kernel
theorem dX7_init_70 : decode cX7_init 70 = .ok (.istore_n 1, 1) := by decide +kernel
theorem dX7_init_71 : decode cX7_init 71 = .ok (.iload_n 1, 1) := by decide +kernel
theorem dX7_init_72 : decode cX7_init 72 = .ok (.bipush 6, 2) := by decide +kernel
theorem dX7_init_74 : decode cX7_init 74 = .ok (.if_icmp .ge 22, 3) := by decide +kernel
theorem dX7_init_77 : decode cX7_init 77 = .ok (.aload_n 0, 1) := by decide +kernel
theorem dX7_init_78 : decode cX7_init 78 = .ok (.getfield 16, 3) := by decide +kernel
theorem dX7_init_81 : decode cX7_init 81 = .ok (.iload_n 1, 1) := by decide +kernel
theorem dX7_init_82 : decode cX7_init 82 = .ok (.new 9, 3) := by decide +kernel
theorem dX7_init_85 : decode cX7_init 85 = .ok (.dup, 1) := by decide +kernel
theorem dX7_init_86 : decode cX7_init 86 = .ok (.invokespecial 11, 3) := by decide +kernel
theorem dX7_init_89 : decode cX7_init 89 = .ok (.aastore, 1) := by decide +kernel
theorem dX7_init_90 : decode cX7_init 90 = .ok (.iinc 1 1, 3) := by decide +kernel
theorem dX7_init_93 : decode cX7_init 93 = .ok (.goto (-22), 3) := by decide +kernel
theorem dX7_init_96 : decode cX7_init 96 = .ok (.return_, 1) := by decide +kernel
theorem dX7_putIn_0 : decode cX7_putIn 0 = .ok (.iload_n 1, 1) := by decide +kernel
theorem dX7_putIn_1 : decode cX7_putIn 1 = .ok (.invokestatic 48, 3) := by decide +kernel
theorem dX7_putIn_4 : decode cX7_putIn 4 = .ok (.ifCond .eq 11, 3) := by decide +kernel
theorem dX7_putIn_7 : decode cX7_putIn 7 = .ok (.iload_n 2, 1) := by decide +kernel
theorem dX7_putIn_8 : decode cX7_putIn 8 = .ok (.iload_n 3, 1) := by decide +kernel
theorem dX7_putIn_9 : decode cX7_putIn 9 = .ok (.invokestatic 52, 3) := by decide +kernel
theorem dX7_putIn_12 : decode cX7_putIn 12 = .ok (.ifCond .ne 5, 3) := by decide +kernel
theorem dX7_putIn_15 : decode cX7_putIn 15 = .ok (.iconst (-1), 1) := by decide +kernel
theorem dX7_putIn_16 : decode cX7_putIn 16 = .ok (.ireturn, 1) := by decide +kernel
theorem dX7_putIn_17 : decode cX7_putIn 17 = .ok (.aload_n 0, 1) := by decide +kernel
theorem dX7_putIn_18 : decode cX7_putIn 18 = .ok (.getfield 12, 3) := by decide +kernel
theorem dX7_putIn_21 : decode cX7_putIn 21 = .ok (.getfield 56, 3) := by decide +kernel
theorem dX7_putIn_24 : decode cX7_putIn 24 = .ok (.getfield 59, 3) := by decide +kernel
theorem dX7_putIn_27 : decode cX7_putIn 27 = .ok (.astore 4, 2) := by decide +kernel
theorem dX7_putIn_29 : decode cX7_putIn 29 = .ok (.aload 4, 2) := by decide +kernel
theorem dX7_putIn_31 : decode cX7_putIn 31 = .ok (.iload_n 1, 1) := by decide +kernel
theorem dX7_putIn_32 : decode cX7_putIn 32 = .ok (.invokevirtual 63, 3) := by decide +kernel
theorem dX7_putIn_35 : decode cX7_putIn 35 = .ok (.ifCond .eq 15, 3) := by decide +kernel
theorem dX7_putIn_38 : decode cX7_putIn 38 = .ok (.aload 4, 2) := by decide +kernel
theorem dX7_putIn_40 : decode cX7_putIn 40 = .ok (.iload_n 2, 1) := by decide +kernel
theorem dX7_putIn_41 : decode cX7_putIn 41 = .ok (.iload_n 3, 1) := by decide +kernel
theorem dX7_putIn_42 : decode cX7_putIn 42 = .ok (.invokevirtual 68, 3) := by decide +kernel
theorem dX7_putIn_45 : decode cX7_putIn 45 = .ok (.bipush (-6), 2) := by decide +kernel
theorem dX7_putIn_47 : decode cX7_putIn 47 = .ok (.if_icmp .eq 6, 3) := by decide +kernel
theorem dX7_putIn_50 : decode cX7_putIn 50 = .ok (.bipush (-3), 2) := by decide +kernel
theorem dX7_putIn_52 : decode cX7_putIn 52 = .ok (.ireturn, 1) := by decide +kernel
theorem dX7_putIn_53 : decode cX7_putIn 53 = .ok (.aload_n 0, 1) := by decide +kernel
theorem dX7_putIn_54 : decode cX7_putIn 54 = .ok (.invokevirtual 72, 3) := by decide +kernel
theorem dX7_putIn_57 : decode cX7_putIn 57 = .ok (.aload 4, 2) := by decide +kernel
theorem dX7_putIn_59 : decode cX7_putIn 59 = .ok (.iload_n 1, 1) := by decide +kernel
theorem dX7_putIn_60 : decode cX7_putIn 60 = .ok (.iload_n 2, 1) := by decide +kernel
theorem dX7_putIn_61 : decode cX7_putIn 61 = .ok (.iload_n 3, 1) := by decide +kernel
theorem dX7_putIn_62 : decode cX7_putIn 62 = .ok (.invokevirtual 75, 3) := by decide +kernel
theorem dX7_putIn_65 : decode cX7_putIn 65 = .ok (.aload 4, 2) := by decide +kernel
theorem dX7_putIn_67 : decode cX7_putIn 67 = .ok (.invokevirtual 79, 3) := by decide +kernel
theorem dX7_putIn_70 : decode cX7_putIn 70 = .ok (.ireturn, 1) := by decide +kernel
theorem dX7_takeOut_0 : decode cX7_takeOut 0 = .ok (.iload_n 1, 1) := by decide +kernel
theorem dX7_takeOut_1 : decode cX7_takeOut 1 = .ok (.invokestatic 48, 3) := by decide +kernel
theorem dX7_takeOut_4 : decode cX7_takeOut 4 = .ok (.ifCond .ne 5, 3) := by decide +kernel
theorem dX7_takeOut_7 : decode cX7_takeOut 7 = .ok (.iconst (-1), 1) := by decide +kernel
theorem dX7_takeOut_8 : decode cX7_takeOut 8 = .ok (.ireturn, 1) := by decide +kernel
theorem dX7_takeOut_9 : decode cX7_takeOut 9 = .ok (.aload_n 0, 1) := by decide +kernel
theorem dX7_takeOut_10 : decode cX7_takeOut 10 = .ok (.getfield 12, 3) := by decide +kernel
theorem dX7_takeOut_13 : decode cX7_takeOut 13 = .ok (.getfield 56, 3) := by decide +kernel
theorem dX7_takeOut_16 : decode cX7_takeOut 16 = .ok (.getfield 59, 3) := by decide +kernel
theorem dX7_takeOut_19 : decode cX7_takeOut 19 = .ok (.astore_n 2, 1) := by decide +kernel
theorem dX7_takeOut_20 : decode cX7_takeOut 20 = .ok (.aload_n 2, 1) := by decide +kernel
theorem dX7_takeOut_21 : decode cX7_takeOut 21 = .ok (.iload_n 1, 1) := by decide +kernel
theorem dX7_takeOut_22 : decode cX7_takeOut 22 = .ok (.invokevirtual 63, 3) := by decide +kernel
theorem dX7_takeOut_25 : decode cX7_takeOut 25 = .ok (.ifCond .eq 6, 3) := by decide +kernel
theorem dX7_takeOut_28 : decode cX7_takeOut 28 = .ok (.bipush (-3), 2) := by decide +kernel
theorem dX7_takeOut_30 : decode cX7_takeOut 30 = .ok (.ireturn, 1) := by decide +kernel
theorem dX7_takeOut_31 : decode cX7_takeOut 31 = .ok (.aload_n 0, 1) := by decide +kernel
theorem dX7_takeOut_32 : decode cX7_takeOut 32 = .ok (.invokevirtual 72, 3) := by decide +kernel
theorem dX7_takeOut_35 : decode cX7_takeOut 35 = .ok (.bipush 10, 2) := by decide +kernel
theorem dX7_takeOut_37 : decode cX7_takeOut 37 = .ok (.aload_n 2, 1) := by decide +kernel
theorem dX7_takeOut_38 : decode cX7_takeOut 38 = .ok (.getfield 83, 3) := by decide +kernel
theorem dX7_takeOut_41 : decode cX7_takeOut 41 = .ok (.iload_n 1, 1) := by decide +kernel
theorem dX7_takeOut_42 : decode cX7_takeOut 42 = .ok (.iaload, 1) := by decide +kernel
theorem dX7_takeOut_43 : decode cX7_takeOut 43 = .ok (.imul, 1) := by decide +kernel
theorem dX7_takeOut_44 : decode cX7_takeOut 44 = .ok (.aload_n 2, 1) := by decide +kernel
theorem dX7_takeOut_45 : decode cX7_takeOut 45 = .ok (.getfield 87, 3) := by decide +kernel
theorem dX7_takeOut_48 : decode cX7_takeOut 48 = .ok (.iload_n 1, 1) := by decide +kernel
theorem dX7_takeOut_49 : decode cX7_takeOut 49 = .ok (.iaload, 1) := by decide +kernel
theorem dX7_takeOut_50 : decode cX7_takeOut 50 = .ok (.iadd, 1) := by decide +kernel
theorem dX7_takeOut_51 : decode cX7_takeOut 51 = .ok (.istore_n 3, 1) := by decide +kernel
theorem dX7_takeOut_52 : decode cX7_takeOut 52 = .ok (.aload_n 2, 1) := by decide +kernel
theorem dX7_takeOut_53 : decode cX7_takeOut 53 = .ok (.iload_n 1, 1) := by decide +kernel
theorem dX7_takeOut_54 : decode cX7_takeOut 54 = .ok (.bipush (-6), 2) := by decide +kernel
theorem dX7_takeOut_56 : decode cX7_takeOut 56 = .ok (.bipush (-6), 2) := by decide +kernel
theorem dX7_takeOut_58 : decode cX7_takeOut 58 = .ok (.invokevirtual 75, 3) := by decide +kernel
theorem dX7_takeOut_61 : decode cX7_takeOut 61 = .ok (.iload_n 3, 1) := by decide +kernel
theorem dX7_takeOut_62 : decode cX7_takeOut 62 = .ok (.ireturn, 1) := by decide +kernel
theorem dX7_wind_0 : decode cX7_wind 0 = .ok (.iload_n 1, 1) := by decide +kernel
theorem dX7_wind_1 : decode cX7_wind 1 = .ok (.invokestatic 48, 3) := by decide +kernel
theorem dX7_wind_4 : decode cX7_wind 4 = .ok (.ifCond .ne 5, 3) := by decide +kernel
theorem dX7_wind_7 : decode cX7_wind 7 = .ok (.iconst (-1), 1) := by decide +kernel
theorem dX7_wind_8 : decode cX7_wind 8 = .ok (.ireturn, 1) := by decide +kernel
theorem dX7_wind_9 : decode cX7_wind 9 = .ok (.iload_n 2, 1) := by decide +kernel
theorem dX7_wind_10 : decode cX7_wind 10 = .ok (.iconst 0, 1) := by decide +kernel
theorem dX7_wind_11 : decode cX7_wind 11 = .ok (.bipush 9, 2) := by decide +kernel
theorem dX7_wind_13 : decode cX7_wind 13 = .ok (.invokestatic 90, 3) := by decide +kernel
theorem dX7_wind_16 : decode cX7_wind 16 = .ok (.ifCond .eq 13, 3) := by decide +kernel
theorem dX7_wind_19 : decode cX7_wind 19 = .ok (.iload_n 3, 1) := by decide +kernel
theorem dX7_wind_20 : decode cX7_wind 20 = .ok (.iconst 0, 1) := by decide +kernel
theorem dX7_wind_21 : decode cX7_wind 21 = .ok (.bipush 99, 2) := by decide +kernel
theorem dX7_wind_23 : decode cX7_wind 23 = .ok (.invokestatic 90, 3) := by decide +kernel
theorem dX7_wind_26 : decode cX7_wind 26 = .ok (.ifCond .ne 6, 3) := by decide +kernel
theorem dX7_wind_29 : decode cX7_wind 29 = .ok (.bipush (-2), 2) := by decide +kernel
theorem dX7_wind_31 : decode cX7_wind 31 = .ok (.ireturn, 1) := by decide +kernel
theorem dX7_wind_32 : decode cX7_wind 32 = .ok (.aload_n 0, 1) := by decide +kernel
theorem dX7_wind_33 : decode cX7_wind 33 = .ok (.getfield 12, 3) := by decide +kernel
theorem dX7_wind_36 : decode cX7_wind 36 = .ok (.getfield 56, 3) := by decide +kernel
theorem dX7_wind_39 : decode cX7_wind 39 = .ok (.getfield 59, 3) := by decide +kernel
theorem dX7_wind_42 : decode cX7_wind 42 = .ok (.astore 4, 2) := by decide +kernel
theorem dX7_wind_44 : decode cX7_wind 44 = .ok (.aload 4, 2) := by decide +kernel
theorem dX7_wind_46 : decode cX7_wind 46 = .ok (.iload_n 1, 1) := by decide +kernel
theorem dX7_wind_47 : decode cX7_wind 47 = .ok (.invokevirtual 63, 3) := by decide +kernel
theorem dX7_wind_50 : decode cX7_wind 50 = .ok (.ifCond .ne 6, 3) := by decide +kernel
theorem dX7_wind_53 : decode cX7_wind 53 = .ok (.bipush (-3), 2) := by decide +kernel
theorem dX7_wind_55 : decode cX7_wind 55 = .ok (.ireturn, 1) := by decide +kernel
theorem dX7_wind_56 : decode cX7_wind 56 = .ok (.aload_n 0, 1) := by decide +kernel
theorem dX7_wind_57 : decode cX7_wind 57 = .ok (.invokevirtual 72, 3) := by decide +kernel
theorem dX7_wind_60 : decode cX7_wind 60 = .ok (.aload 4, 2) := by decide +kernel
theorem dX7_wind_62 : decode cX7_wind 62 = .ok (.getfield 94, 3) := by decide +kernel
theorem dX7_wind_65 : decode cX7_wind 65 = .ok (.iload_n 1, 1) := by decide +kernel
theorem dX7_wind_66 : decode cX7_wind 66 = .ok (.iaload, 1) := by decide +kernel
theorem dX7_wind_67 : decode cX7_wind 67 = .ok (.istore 5, 2) := by decide +kernel
theorem dX7_wind_69 : decode cX7_wind 69 = .ok (.aload 4, 2) := by decide +kernel
theorem dX7_wind_71 : decode cX7_wind 71 = .ok (.getfield 97, 3) := by decide +kernel
theorem dX7_wind_74 : decode cX7_wind 74 = .ok (.iload_n 1, 1) := by decide +kernel
theorem dX7_wind_75 : decode cX7_wind 75 = .ok (.iload_n 2, 1) := by decide +kernel
theorem dX7_wind_76 : decode cX7_wind 76 = .ok (.iastore, 1) := by decide +kernel
theorem dX7_wind_77 : decode cX7_wind 77 = .ok (.aload 4, 2) := by decide +kernel
theorem dX7_wind_79 : decode cX7_wind 79 = .ok (.getfield 94, 3) := by decide +kernel
theorem dX7_wind_82 : decode cX7_wind 82 = .ok (.iload_n 1, 1) := by decide +kernel
theorem dX7_wind_83 : decode cX7_wind 83 = .ok (.iload_n 3, 1) := by decide +kernel
theorem dX7_wind_84 : decode cX7_wind 84 = .ok (.iastore, 1) := by decide +kernel
theorem dX7_wind_85 : decode cX7_wind 85 = .ok (.iload 5, 2) := by decide +kernel
theorem dX7_wind_87 : decode cX7_wind 87 = .ok (.ireturn, 1) := by decide +kernel
theorem dX7_moveBoxes_0 : decode cX7_moveBoxes 0 = .ok (.iload_n 1, 1) := by decide +kernel
theorem dX7_moveBoxes_1 : decode cX7_moveBoxes 1 = .ok (.iload_n 2, 1) := by decide +kernel
theorem dX7_moveBoxes_2 : decode cX7_moveBoxes 2 = .ok (.invokestatic 52, 3) := by decide +kernel
theorem dX7_moveBoxes_5 : decode cX7_moveBoxes 5 = .ok (.ifCond .ne 5, 3) := by decide +kernel
theorem dX7_moveBoxes_8 : decode cX7_moveBoxes 8 = .ok (.iconst (-1), 1) := by decide +kernel
theorem dX7_moveBoxes_9 : decode cX7_moveBoxes 9 = .ok (.ireturn, 1) := by decide +kernel
theorem dX7_moveBoxes_10 : decode cX7_moveBoxes 10 = .ok (.aload_n 0, 1) := by decide +kernel
theorem dX7_moveBoxes_11 : decode cX7_moveBoxes 11 = .ok (.invokevirtual 72, 3) := by decide +kernel
theorem dX7_moveBoxes_14 : decode cX7_moveBoxes 14 = .ok (.aload_n 0, 1) := by decide +kernel
theorem dX7_moveBoxes_15 : decode cX7_moveBoxes 15 = .ok (.getfield 12, 3) := by decide +kernel
theorem dX7_moveBoxes_18 : decode cX7_moveBoxes 18 = .ok (.getfield 56, 3) := by decide +kernel
theorem dX7_moveBoxes_21 : decode cX7_moveBoxes 21 = .ok (.getfield 100, 3) := by decide +kernel
theorem dX7_moveBoxes_24 : decode cX7_moveBoxes 24 = .ok (.iload_n 1, 1) := by decide +kernel
theorem dX7_moveBoxes_25 : decode cX7_moveBoxes 25 = .ok (.iaload, 1) := by decide +kernel
theorem dX7_moveBoxes_26 : decode cX7_moveBoxes 26 = .ok (.istore_n 3, 1) := by decide +kernel
theorem dX7_moveBoxes_27 : decode cX7_moveBoxes 27 = .ok (.aload_n 0, 1) := by decide +kernel
theorem dX7_moveBoxes_28 : decode cX7_moveBoxes 28 = .ok (.getfield 12, 3) := by decide +kernel
theorem dX7_moveBoxes_31 : decode cX7_moveBoxes 31 = .ok (.getfield 56, 3) := by decide +kernel
theorem dX7_moveBoxes_34 : decode cX7_moveBoxes 34 = .ok (.getfield 100, 3) := by decide +kernel
theorem dX7_moveBoxes_37 : decode cX7_moveBoxes 37 = .ok (.iload_n 1, 1) := by decide +kernel
theorem dX7_moveBoxes_38 : decode cX7_moveBoxes 38 = .ok (.iload_n 2, 1) := by decide +kernel
theorem dX7_moveBoxes_39 : decode cX7_moveBoxes 39 = .ok (.iastore, 1) := by decide +kernel
theorem dX7_moveBoxes_40 : decode cX7_moveBoxes 40 = .ok (.iload_n 3, 1) := by decide +kernel
theorem dX7_moveBoxes_41 : decode cX7_moveBoxes 41 = .ok (.ireturn, 1) := by decide +kernel
theorem dX7_draw_0 : decode cX7_draw 0 = .ok (.iload_n 1, 1) := by decide +kernel
theorem dX7_draw_1 : decode cX7_draw 1 = .ok (.invokestatic 103, 3) := by decide +kernel
theorem dX7_draw_4 : decode cX7_draw 4 = .ok (.ifCond .eq 12, 3) := by decide +kernel
theorem dX7_draw_7 : decode cX7_draw 7 = .ok (.iload_n 2, 1) := by decide +kernel
theorem dX7_draw_8 : decode cX7_draw 8 = .ok (.iconst 0, 1) := by decide +kernel
theorem dX7_draw_9 : decode cX7_draw 9 = .ok (.iconst 5, 1) := by decide +kernel
theorem dX7_draw_10 : decode cX7_draw 10 = .ok (.invokestatic 90, 3) := by decide +kernel
theorem dX7_draw_13 : decode cX7_draw 13 = .ok (.ifCond .ne 5, 3) := by decide +kernel
theorem dX7_draw_16 : decode cX7_draw 16 = .ok (.iconst (-1), 1) := by decide +kernel
theorem dX7_draw_17 : decode cX7_draw 17 = .ok (.ireturn, 1) := by decide +kernel
theorem dX7_draw_18 : decode cX7_draw 18 = .ok (.aload_n 0, 1) := by decide +kernel
theorem dX7_draw_19 : decode cX7_draw 19 = .ok (.invokevirtual 72, 3) := by decide +kernel
theorem dX7_draw_22 : decode cX7_draw 22 = .ok (.aload_n 0, 1) := by decide +kernel
theorem dX7_draw_23 : decode cX7_draw 23 = .ok (.getfield 12, 3) := by decide +kernel
theorem dX7_draw_26 : decode cX7_draw 26 = .ok (.getfield 56, 3) := by decide +kernel
theorem dX7_draw_29 : decode cX7_draw 29 = .ok (.getfield 106, 3) := by decide +kernel
theorem dX7_draw_32 : decode cX7_draw 32 = .ok (.getfield 110, 3) := by decide +kernel
theorem dX7_draw_35 : decode cX7_draw 35 = .ok (.iload_n 1, 1) := by decide +kernel
theorem dX7_draw_36 : decode cX7_draw 36 = .ok (.iaload, 1) := by decide +kernel
theorem dX7_draw_37 : decode cX7_draw 37 = .ok (.istore_n 3, 1) := by decide +kernel
theorem dX7_draw_38 : decode cX7_draw 38 = .ok (.aload_n 0, 1) := by decide +kernel
theorem dX7_draw_39 : decode cX7_draw 39 = .ok (.getfield 12, 3) := by decide +kernel
theorem dX7_draw_42 : decode cX7_draw 42 = .ok (.getfield 56, 3) := by decide +kernel
theorem dX7_draw_45 : decode cX7_draw 45 = .ok (.getfield 106, 3) := by decide +kernel
theorem dX7_draw_48 : decode cX7_draw 48 = .ok (.getfield 110, 3) := by decide +kernel
theorem dX7_draw_51 : decode cX7_draw 51 = .ok (.iload_n 1, 1) := by decide +kernel
theorem dX7_draw_52 : decode cX7_draw 52 = .ok (.iload_n 2, 1) := by decide +kernel
theorem dX7_draw_53 : decode cX7_draw 53 = .ok (.iastore, 1) := by decide +kernel
theorem dX7_draw_54 : decode cX7_draw 54 = .ok (.iload_n 3, 1) := by decide +kernel
theorem dX7_draw_55 : decode cX7_draw 55 = .ok (.ireturn, 1) := by decide +kernel
theorem dX7_mend_0 : decode cX7_mend 0 = .ok (.iload_n 1, 1) := by decide +kernel
theorem dX7_mend_1 : decode cX7_mend 1 = .ok (.invokestatic 103, 3) := by decide +kernel
theorem dX7_mend_4 : decode cX7_mend 4 = .ok (.ifCond .ne 5, 3) := by decide +kernel
theorem dX7_mend_7 : decode cX7_mend 7 = .ok (.iconst (-1), 1) := by decide +kernel
theorem dX7_mend_8 : decode cX7_mend 8 = .ok (.ireturn, 1) := by decide +kernel
theorem dX7_mend_9 : decode cX7_mend 9 = .ok (.iload_n 2, 1) := by decide +kernel
theorem dX7_mend_10 : decode cX7_mend 10 = .ok (.iconst 0, 1) := by decide +kernel
theorem dX7_mend_11 : decode cX7_mend 11 = .ok (.bipush 99, 2) := by decide +kernel
theorem dX7_mend_13 : decode cX7_mend 13 = .ok (.invokestatic 90, 3) := by decide +kernel
theorem dX7_mend_16 : decode cX7_mend 16 = .ok (.ifCond .ne 6, 3) := by decide +kernel
theorem dX7_mend_19 : decode cX7_mend 19 = .ok (.bipush (-2), 2) := by decide +kernel
theorem dX7_mend_21 : decode cX7_mend 21 = .ok (.ireturn, 1) := by decide +kernel
theorem dX7_mend_22 : decode cX7_mend 22 = .ok (.aload_n 0, 1) := by decide +kernel
theorem dX7_mend_23 : decode cX7_mend 23 = .ok (.invokevirtual 72, 3) := by decide +kernel
theorem dX7_mend_26 : decode cX7_mend 26 = .ok (.aload_n 0, 1) := by decide +kernel
theorem dX7_mend_27 : decode cX7_mend 27 = .ok (.getfield 12, 3) := by decide +kernel
theorem dX7_mend_30 : decode cX7_mend 30 = .ok (.getfield 56, 3) := by decide +kernel
theorem dX7_mend_33 : decode cX7_mend 33 = .ok (.getfield 106, 3) := by decide +kernel
theorem dX7_mend_36 : decode cX7_mend 36 = .ok (.getfield 115, 3) := by decide +kernel
theorem dX7_mend_39 : decode cX7_mend 39 = .ok (.iload_n 1, 1) := by decide +kernel
theorem dX7_mend_40 : decode cX7_mend 40 = .ok (.iaload, 1) := by decide +kernel
theorem dX7_mend_41 : decode cX7_mend 41 = .ok (.istore_n 3, 1) := by decide +kernel
theorem dX7_mend_42 : decode cX7_mend 42 = .ok (.aload_n 0, 1) := by decide +kernel
theorem dX7_mend_43 : decode cX7_mend 43 = .ok (.getfield 12, 3) := by decide +kernel
theorem dX7_mend_46 : decode cX7_mend 46 = .ok (.getfield 56, 3) := by decide +kernel
theorem dX7_mend_49 : decode cX7_mend 49 = .ok (.getfield 106, 3) := by decide +kernel
theorem dX7_mend_52 : decode cX7_mend 52 = .ok (.getfield 115, 3) := by decide +kernel
theorem dX7_mend_55 : decode cX7_mend 55 = .ok (.iload_n 1, 1) := by decide +kernel
theorem dX7_mend_56 : decode cX7_mend 56 = .ok (.iload_n 2, 1) := by decide +kernel
theorem dX7_mend_57 : decode cX7_mend 57 = .ok (.iastore, 1) := by decide +kernel
theorem dX7_mend_58 : decode cX7_mend 58 = .ok (.iload_n 3, 1) := by decide +kernel
theorem dX7_mend_59 : decode cX7_mend 59 = .ok (.ireturn, 1) := by decide +kernel
theorem dX7_setSpeed_0 : decode cX7_setSpeed 0 = .ok (.iload_n 1, 1) := by decide +kernel
theorem dX7_setSpeed_1 : decode cX7_setSpeed 1 = .ok (.iconst 1, 1) := by decide +kernel
theorem dX7_setSpeed_2 : decode cX7_setSpeed 2 = .ok (.iconst 3, 1) := by decide +kernel
theorem dX7_setSpeed_3 : decode cX7_setSpeed 3 = .ok (.invokestatic 90, 3) := by decide +kernel
theorem dX7_setSpeed_6 : decode cX7_setSpeed 6 = .ok (.ifCond .ne 6, 3) := by decide +kernel
theorem dX7_setSpeed_9 : decode cX7_setSpeed 9 = .ok (.bipush (-2), 2) := by decide +kernel
theorem dX7_setSpeed_11 : decode cX7_setSpeed 11 = .ok (.ireturn, 1) := by decide +kernel
theorem dX7_setSpeed_12 : decode cX7_setSpeed 12 = .ok (.aload_n 0, 1) := by decide +kernel
theorem dX7_setSpeed_13 : decode cX7_setSpeed 13 = .ok (.invokevirtual 72, 3) := by decide +kernel
theorem dX7_setSpeed_16 : decode cX7_setSpeed 16 = .ok (.aload_n 0, 1) := by decide +kernel
theorem dX7_setSpeed_17 : decode cX7_setSpeed 17 = .ok (.getfield 12, 3) := by decide +kernel
theorem dX7_setSpeed_20 : decode cX7_setSpeed 20 = .ok (.getfield 56, 3) := by decide +kernel
theorem dX7_setSpeed_23 : decode cX7_setSpeed 23 = .ok (.getfield 118, 3) := by decide +kernel
theorem dX7_setSpeed_26 : decode cX7_setSpeed 26 = .ok (.istore_n 2, 1) := by decide +kernel
theorem dX7_setSpeed_27 : decode cX7_setSpeed 27 = .ok (.aload_n 0, 1) := by decide +kernel
theorem dX7_setSpeed_28 : decode cX7_setSpeed 28 = .ok (.getfield 12, 3) := by decide +kernel
theorem dX7_setSpeed_31 : decode cX7_setSpeed 31 = .ok (.getfield 56, 3) := by decide +kernel
theorem dX7_setSpeed_34 : decode cX7_setSpeed 34 = .ok (.iload_n 1, 1) := by decide +kernel
theorem dX7_setSpeed_35 : decode cX7_setSpeed 35 = .ok (.putfield 118, 3) := by decide +kernel
theorem dX7_setSpeed_38 : decode cX7_setSpeed 38 = .ok (.iload_n 2, 1) := by decide +kernel
theorem dX7_setSpeed_39 : decode cX7_setSpeed 39 = .ok (.ireturn, 1) := by decide +kernel
theorem dX7_addCard_0 : decode cX7_addCard 0 = .ok (.iload_n 1, 1) := by decide +kernel
theorem dX7_addCard_1 : decode cX7_addCard 1 = .ok (.iconst 0, 1) := by decide +kernel
theorem dX7_addCard_2 : decode cX7_addCard 2 = .ok (.bipush 63, 2) := by decide +kernel
theorem dX7_addCard_4 : decode cX7_addCard 4 = .ok (.invokestatic 90, 3) := by decide +kernel
theorem dX7_addCard_7 : decode cX7_addCard 7 = .ok (.ifCond .ne 6, 3) := by decide +kernel
theorem dX7_addCard_10 : decode cX7_addCard 10 = .ok (.bipush (-2), 2) := by decide +kernel
theorem dX7_addCard_12 : decode cX7_addCard 12 = .ok (.ireturn, 1) := by decide +kernel
theorem dX7_addCard_13 : decode cX7_addCard 13 = .ok (.iconst 0, 1) := by decide +kernel
theorem dX7_addCard_14 : decode cX7_addCard 14 = .ok (.iload_n 2, 1) := by decide +kernel
theorem dX7_addCard_15 : decode cX7_addCard 15 = .ok (.invokestatic 52, 3) := by decide +kernel
theorem dX7_addCard_18 : decode cX7_addCard 18 = .ok (.ifCond .eq 11, 3) := by decide +kernel
theorem dX7_addCard_21 : decode cX7_addCard 21 = .ok (.iconst 1, 1) := by decide +kernel
theorem dX7_addCard_22 : decode cX7_addCard 22 = .ok (.iload_n 3, 1) := by decide +kernel
theorem dX7_addCard_23 : decode cX7_addCard 23 = .ok (.invokestatic 52, 3) := by decide +kernel
theorem dX7_addCard_26 : decode cX7_addCard 26 = .ok (.ifCond .ne 5, 3) := by decide +kernel
theorem dX7_addCard_29 : decode cX7_addCard 29 = .ok (.iconst (-1), 1) := by decide +kernel
theorem dX7_addCard_30 : decode cX7_addCard 30 = .ok (.ireturn, 1) := by decide +kernel
theorem dX7_addCard_31 : decode cX7_addCard 31 = .ok (.aload_n 0, 1) := by decide +kernel
theorem dX7_addCard_32 : decode cX7_addCard 32 = .ok (.getfield 12, 3) := by decide +kernel
theorem dX7_addCard_35 : decode cX7_addCard 35 = .ok (.getfield 56, 3) := by decide +kernel
theorem dX7_addCard_38 : decode cX7_addCard 38 = .ok (.getfield 121, 3) := by decide +kernel
theorem dX7_addCard_41 : decode cX7_addCard 41 = .ok (.astore 4, 2) := by decide +kernel
theorem dX7_addCard_43 : decode cX7_addCard 43 = .ok (.aload 4, 2) := by decide +kernel
theorem dX7_addCard_45 : decode cX7_addCard 45 = .ok (.getfield 125, 3) := by decide +kernel
theorem dX7_addCard_48 : decode cX7_addCard 48 = .ok (.bipush 16, 2) := by decide +kernel
theorem dX7_addCard_50 : decode cX7_addCard 50 = .ok (.if_icmp .lt 6, 3) := by decide +kernel
theorem dX7_addCard_53 : decode cX7_addCard 53 = .ok (.bipush (-4), 2) := by decide +kernel
theorem dX7_addCard_55 : decode cX7_addCard 55 = .ok (.ireturn, 1) := by decide +kernel
theorem dX7_addCard_56 : decode cX7_addCard 56 = .ok (.aload_n 0, 1) := by decide +kernel
theorem dX7_addCard_57 : decode cX7_addCard 57 = .ok (.invokevirtual 72, 3) := by decide +kernel
theorem dX7_addCard_60 : decode cX7_addCard 60 = .ok (.aload 4, 2) := by decide +kernel
theorem dX7_addCard_62 : decode cX7_addCard 62 = .ok (.iload_n 1, 1) := by decide +kernel
theorem dX7_addCard_63 : decode cX7_addCard 63 = .ok (.iload_n 2, 1) := by decide +kernel
theorem dX7_addCard_64 : decode cX7_addCard 64 = .ok (.iload_n 3, 1) := by decide +kernel
theorem dX7_addCard_65 : decode cX7_addCard 65 = .ok (.invokevirtual 130, 3) := by decide +kernel
theorem dX7_addCard_68 : decode cX7_addCard 68 = .ok (.aload 4, 2) := by decide +kernel
theorem dX7_addCard_70 : decode cX7_addCard 70 = .ok (.getfield 125, 3) := by decide +kernel
theorem dX7_addCard_73 : decode cX7_addCard 73 = .ok (.iconst 1, 1) := by decide +kernel
theorem dX7_addCard_74 : decode cX7_addCard 74 = .ok (.isub, 1) := by decide +kernel
theorem dX7_addCard_75 : decode cX7_addCard 75 = .ok (.ireturn, 1) := by decide +kernel
theorem dX7_removeCard_0 : decode cX7_removeCard 0 = .ok (.aload_n 0, 1) := by decide +kernel
theorem dX7_removeCard_1 : decode cX7_removeCard 1 = .ok (.getfield 12, 3) := by decide +kernel
theorem dX7_removeCard_4 : decode cX7_removeCard 4 = .ok (.getfield 56, 3) := by decide +kernel
theorem dX7_removeCard_7 : decode cX7_removeCard 7 = .ok (.getfield 121, 3) := by decide +kernel
theorem dX7_removeCard_10 : decode cX7_removeCard 10 = .ok (.astore_n 2, 1) := by decide +kernel
theorem dX7_removeCard_11 : decode cX7_removeCard 11 = .ok (.aload_n 2, 1) := by decide +kernel
theorem dX7_removeCard_12 : decode cX7_removeCard 12 = .ok (.iload_n 1, 1) := by decide +kernel
theorem dX7_removeCard_13 : decode cX7_removeCard 13 = .ok (.invokevirtual 133, 3) := by decide +kernel
theorem dX7_removeCard_16 : decode cX7_removeCard 16 = .ok (.ifCond .ne 5, 3) := by decide +kernel
theorem dX7_removeCard_19 : decode cX7_removeCard 19 = .ok (.iconst (-1), 1) := by decide +kernel
theorem dX7_removeCard_20 : decode cX7_removeCard 20 = .ok (.ireturn, 1) := by decide +kernel
theorem dX7_removeCard_21 : decode cX7_removeCard 21 = .ok (.aload_n 0, 1) := by decide +kernel
theorem dX7_removeCard_22 : decode cX7_removeCard 22 = .ok (.invokevirtual 72, 3) := by decide +kernel
theorem dX7_removeCard_25 : decode cX7_removeCard 25 = .ok (.aload_n 2, 1) := by decide +kernel
theorem dX7_removeCard_26 : decode cX7_removeCard 26 = .ok (.iload_n 1, 1) := by decide +kernel
theorem dX7_removeCard_27 : decode cX7_removeCard 27 = .ok (.invokevirtual 136, 3) := by decide +kernel
theorem dX7_removeCard_30 : decode cX7_removeCard 30 = .ok (.aload_n 2, 1) := by decide +kernel
theorem dX7_removeCard_31 : decode cX7_removeCard 31 = .ok (.getfield 125, 3) := by decide +kernel
theorem dX7_removeCard_34 : decode cX7_removeCard 34 = .ok (.ireturn, 1) := by decide +kernel
theorem dX7_turnTo_0 : decode cX7_turnTo 0 = .ok (.aload_n 0, 1) := by decide +kernel
theorem dX7_turnTo_1 : decode cX7_turnTo 1 = .ok (.getfield 12, 3) := by decide +kernel
theorem dX7_turnTo_4 : decode cX7_turnTo 4 = .ok (.getfield 56, 3) := by decide +kernel
theorem dX7_turnTo_7 : decode cX7_turnTo 7 = .ok (.getfield 121, 3) := by decide +kernel
theorem dX7_turnTo_10 : decode cX7_turnTo 10 = .ok (.astore_n 2, 1) := by decide +kernel
theorem dX7_turnTo_11 : decode cX7_turnTo 11 = .ok (.aload_n 2, 1) := by decide +kernel
theorem dX7_turnTo_12 : decode cX7_turnTo 12 = .ok (.iload_n 1, 1) := by decide +kernel
theorem dX7_turnTo_13 : decode cX7_turnTo 13 = .ok (.invokevirtual 133, 3) := by decide +kernel
theorem dX7_turnTo_16 : decode cX7_turnTo 16 = .ok (.ifCond .ne 5, 3) := by decide +kernel
theorem dX7_turnTo_19 : decode cX7_turnTo 19 = .ok (.iconst (-1), 1) := by decide +kernel
theorem dX7_turnTo_20 : decode cX7_turnTo 20 = .ok (.ireturn, 1) := by decide +kernel
theorem dX7_turnTo_21 : decode cX7_turnTo 21 = .ok (.aload_n 0, 1) := by decide +kernel
theorem dX7_turnTo_22 : decode cX7_turnTo 22 = .ok (.invokevirtual 72, 3) := by decide +kernel
theorem dX7_turnTo_25 : decode cX7_turnTo 25 = .ok (.aload_n 2, 1) := by decide +kernel
theorem dX7_turnTo_26 : decode cX7_turnTo 26 = .ok (.getfield 140, 3) := by decide +kernel
theorem dX7_turnTo_29 : decode cX7_turnTo 29 = .ok (.istore_n 3, 1) := by decide +kernel
theorem dX7_turnTo_30 : decode cX7_turnTo 30 = .ok (.aload_n 2, 1) := by decide +kernel
theorem dX7_turnTo_31 : decode cX7_turnTo 31 = .ok (.iload_n 1, 1) := by decide +kernel
theorem dX7_turnTo_32 : decode cX7_turnTo 32 = .ok (.putfield 140, 3) := by decide +kernel
theorem dX7_turnTo_35 : decode cX7_turnTo 35 = .ok (.iload_n 3, 1) := by decide +kernel
theorem dX7_turnTo_36 : decode cX7_turnTo 36 = .ok (.ireturn, 1) := by decide +kernel
theorem dX7_weave_0 : decode cX7_weave 0 = .ok (.iload_n 1, 1) := by decide +kernel
theorem dX7_weave_1 : decode cX7_weave 1 = .ok (.iconst 1, 1) := by decide +kernel
theorem dX7_weave_2 : decode cX7_weave 2 = .ok (.bipush 99, 2) := by decide +kernel
theorem dX7_weave_4 : decode cX7_weave 4 = .ok (.invokestatic 90, 3) := by decide +kernel
theorem dX7_weave_7 : decode cX7_weave 7 = .ok (.ifCond .ne 6, 3) := by decide +kernel
theorem dX7_weave_10 : decode cX7_weave 10 = .ok (.bipush (-2), 2) := by decide +kernel
theorem dX7_weave_12 : decode cX7_weave 12 = .ok (.ireturn, 1) := by decide +kernel
theorem dX7_weave_13 : decode cX7_weave 13 = .ok (.aload_n 0, 1) := by decide +kernel
theorem dX7_weave_14 : decode cX7_weave 14 = .ok (.invokevirtual 142, 3) := by decide +kernel
theorem dX7_weave_17 : decode cX7_weave 17 = .ok (.iconst 0, 1) := by decide +kernel
theorem dX7_weave_18 : decode cX7_weave 18 = .ok (.istore_n 2, 1) := by decide +kernel
theorem dX7_weave_19 : decode cX7_weave 19 = .ok (.iload_n 2, 1) := by decide +kernel
theorem dX7_weave_20 : decode cX7_weave 20 = .ok (.iload_n 1, 1) := by decide +kernel
theorem dX7_weave_21 : decode cX7_weave 21 = .ok (.if_icmp .ge 41, 3) := by decide +kernel
theorem dX7_weave_24 : decode cX7_weave 24 = .ok (.aload_n 0, 1) := by decide +kernel
theorem dX7_weave_25 : decode cX7_weave 25 = .ok (.getfield 12, 3) := by decide +kernel
theorem dX7_weave_28 : decode cX7_weave 28 = .ok (.getfield 56, 3) := by decide +kernel
theorem dX7_weave_31 : decode cX7_weave 31 = .ok (.invokevirtual 145, 3) := by decide +kernel
theorem dX7_weave_34 : decode cX7_weave 34 = .ok (.istore_n 3, 1) := by decide +kernel
theorem dX7_weave_35 : decode cX7_weave 35 = .ok (.iload_n 3, 1) := by decide +kernel
theorem dX7_weave_36 : decode cX7_weave 36 = .ok (.ifCond .eq 13, 3) := by decide +kernel
theorem dX7_weave_39 : decode cX7_weave 39 = .ok (.aload_n 0, 1) := by decide +kernel
theorem dX7_weave_40 : decode cX7_weave 40 = .ok (.getfield 12, 3) := by decide +kernel
theorem dX7_weave_43 : decode cX7_weave 43 = .ok (.iload_n 3, 1) := by decide +kernel
theorem dX7_weave_44 : decode cX7_weave 44 = .ok (.invokevirtual 148, 3) := by decide +kernel
theorem dX7_weave_47 : decode cX7_weave 47 = .ok (.iload_n 2, 1) := by decide +kernel
theorem dX7_weave_48 : decode cX7_weave 48 = .ok (.ireturn, 1) := by decide +kernel
theorem dX7_weave_49 : decode cX7_weave 49 = .ok (.aload_n 0, 1) := by decide +kernel
theorem dX7_weave_50 : decode cX7_weave 50 = .ok (.getfield 12, 3) := by decide +kernel
theorem dX7_weave_53 : decode cX7_weave 53 = .ok (.invokevirtual 151, 3) := by decide +kernel
theorem dX7_weave_56 : decode cX7_weave 56 = .ok (.iinc 2 1, 3) := by decide +kernel
theorem dX7_weave_59 : decode cX7_weave 59 = .ok (.goto (-40), 3) := by decide +kernel
theorem dX7_weave_62 : decode cX7_weave 62 = .ok (.iload_n 1, 1) := by decide +kernel
theorem dX7_weave_63 : decode cX7_weave 63 = .ok (.ireturn, 1) := by decide +kernel
theorem dX7_takeBack_0 : decode cX7_takeBack 0 = .ok (.aload_n 0, 1) := by decide +kernel
theorem dX7_takeBack_1 : decode cX7_takeBack 1 = .ok (.getfield 12, 3) := by decide +kernel
theorem dX7_takeBack_4 : decode cX7_takeBack 4 = .ok (.getfield 154, 3) := by decide +kernel
theorem dX7_takeBack_7 : decode cX7_takeBack 7 = .ok (.ifCond .gt 6, 3) := by decide +kernel
theorem dX7_takeBack_10 : decode cX7_takeBack 10 = .ok (.bipush (-3), 2) := by decide +kernel
theorem dX7_takeBack_12 : decode cX7_takeBack 12 = .ok (.ireturn, 1) := by decide +kernel
theorem dX7_takeBack_13 : decode cX7_takeBack 13 = .ok (.aload_n 0, 1) := by decide +kernel
theorem dX7_takeBack_14 : decode cX7_takeBack 14 = .ok (.invokevirtual 142, 3) := by decide +kernel
theorem dX7_takeBack_17 : decode cX7_takeBack 17 = .ok (.aload_n 0, 1) := by decide +kernel
theorem dX7_takeBack_18 : decode cX7_takeBack 18 = .ok (.getfield 12, 3) := by decide +kernel
theorem dX7_takeBack_21 : decode cX7_takeBack 21 = .ok (.invokevirtual 157, 3) := by decide +kernel
theorem dX7_takeBack_24 : decode cX7_takeBack 24 = .ok (.aload_n 0, 1) := by decide +kernel
theorem dX7_takeBack_25 : decode cX7_takeBack 25 = .ok (.getfield 12, 3) := by decide +kernel
theorem dX7_takeBack_28 : decode cX7_takeBack 28 = .ok (.getfield 56, 3) := by decide +kernel
theorem dX7_takeBack_31 : decode cX7_takeBack 31 = .ok (.getfield 121, 3) := by decide +kernel
theorem dX7_takeBack_34 : decode cX7_takeBack 34 = .ok (.getfield 140, 3) := by decide +kernel
theorem dX7_takeBack_37 : decode cX7_takeBack 37 = .ok (.ireturn, 1) := by decide +kernel
theorem dX7_count_0 : decode cX7_count 0 = .ok (.aload_n 0, 1) := by decide +kernel
theorem dX7_count_1 : decode cX7_count 1 = .ok (.getfield 12, 3) := by decide +kernel
theorem dX7_count_4 : decode cX7_count 4 = .ok (.getfield 56, 3) := by decide +kernel
theorem dX7_count_7 : decode cX7_count 7 = .ok (.astore_n 2, 1) := by decide +kernel
theorem dX7_count_8 : decode cX7_count 8 = .ok (.iload_n 1, 1) := by decide +kernel
theorem dX7_count_9 : decode cX7_count 9 = .ok (.tableswitch 154 0 11 #[63, 71, 79, 84, 91, 98, 103, 111, 122, 130, 138, 146], 63) := by decide +kernel
theorem dX7_count_72 : decode cX7_count 72 = .ok (.aload_n 2, 1) := by decide +kernel
theorem dX7_count_73 : decode cX7_count 73 = .ok (.getfield 121, 3) := by decide +kernel
theorem dX7_count_76 : decode cX7_count 76 = .ok (.getfield 125, 3) := by decide +kernel
theorem dX7_count_79 : decode cX7_count 79 = .ok (.ireturn, 1) := by decide +kernel
theorem dX7_count_80 : decode cX7_count 80 = .ok (.aload_n 2, 1) := by decide +kernel
theorem dX7_count_81 : decode cX7_count 81 = .ok (.getfield 121, 3) := by decide +kernel
theorem dX7_count_84 : decode cX7_count 84 = .ok (.getfield 140, 3) := by decide +kernel
theorem dX7_count_87 : decode cX7_count 87 = .ok (.ireturn, 1) := by decide +kernel
theorem dX7_count_88 : decode cX7_count 88 = .ok (.aload_n 2, 1) := by decide +kernel
theorem dX7_count_89 : decode cX7_count 89 = .ok (.getfield 118, 3) := by decide +kernel
theorem dX7_count_92 : decode cX7_count 92 = .ok (.ireturn, 1) := by decide +kernel
theorem dX7_count_93 : decode cX7_count 93 = .ok (.aload_n 2, 1) := by decide +kernel
theorem dX7_count_94 : decode cX7_count 94 = .ok (.getfield 100, 3) := by decide +kernel
theorem dX7_count_97 : decode cX7_count 97 = .ok (.iconst 0, 1) := by decide +kernel
theorem dX7_count_98 : decode cX7_count 98 = .ok (.iaload, 1) := by decide +kernel
theorem dX7_count_99 : decode cX7_count 99 = .ok (.ireturn, 1) := by decide +kernel
theorem dX7_count_100 : decode cX7_count 100 = .ok (.aload_n 2, 1) := by decide +kernel
theorem dX7_count_101 : decode cX7_count 101 = .ok (.getfield 100, 3) := by decide +kernel
theorem dX7_count_104 : decode cX7_count 104 = .ok (.iconst 1, 1) := by decide +kernel
theorem dX7_count_105 : decode cX7_count 105 = .ok (.iaload, 1) := by decide +kernel
theorem dX7_count_106 : decode cX7_count 106 = .ok (.ireturn, 1) := by decide +kernel
theorem dX7_count_107 : decode cX7_count 107 = .ok (.aload_n 2, 1) := by decide +kernel
theorem dX7_count_108 : decode cX7_count 108 = .ok (.getfield 160, 3) := by decide +kernel
theorem dX7_count_111 : decode cX7_count 111 = .ok (.ireturn, 1) := by decide +kernel
theorem dX7_count_112 : decode cX7_count 112 = .ok (.aload_n 0, 1) := by decide +kernel
theorem dX7_count_113 : decode cX7_count 113 = .ok (.getfield 12, 3) := by decide +kernel
theorem dX7_count_116 : decode cX7_count 116 = .ok (.getfield 163, 3) := by decide +kernel
theorem dX7_count_119 : decode cX7_count 119 = .ok (.ireturn, 1) := by decide +kernel
theorem dX7_count_120 : decode cX7_count 120 = .ok (.aload_n 0, 1) := by decide +kernel
theorem dX7_count_121 : decode cX7_count 121 = .ok (.getfield 12, 3) := by decide +kernel
theorem dX7_count_124 : decode cX7_count 124 = .ok (.getfield 166, 3) := by decide +kernel
theorem dX7_count_127 : decode cX7_count 127 = .ok (.getfield 170, 3) := by decide +kernel
theorem dX7_count_130 : decode cX7_count 130 = .ok (.ireturn, 1) := by decide +kernel
theorem dX7_count_131 : decode cX7_count 131 = .ok (.aload_n 0, 1) := by decide +kernel
theorem dX7_count_132 : decode cX7_count 132 = .ok (.getfield 12, 3) := by decide +kernel
theorem dX7_count_135 : decode cX7_count 135 = .ok (.getfield 154, 3) := by decide +kernel
theorem dX7_count_138 : decode cX7_count 138 = .ok (.ireturn, 1) := by decide +kernel
theorem dX7_count_139 : decode cX7_count 139 = .ok (.aload_n 0, 1) := by decide +kernel
theorem dX7_count_140 : decode cX7_count 140 = .ok (.getfield 12, 3) := by decide +kernel
theorem dX7_count_143 : decode cX7_count 143 = .ok (.getfield 175, 3) := by decide +kernel
theorem dX7_count_146 : decode cX7_count 146 = .ok (.ireturn, 1) := by decide +kernel
theorem dX7_count_147 : decode cX7_count 147 = .ok (.aload_n 0, 1) := by decide +kernel
theorem dX7_count_148 : decode cX7_count 148 = .ok (.getfield 12, 3) := by decide +kernel
theorem dX7_count_151 : decode cX7_count 151 = .ok (.getfield 178, 3) := by decide +kernel
theorem dX7_count_154 : decode cX7_count 154 = .ok (.ireturn, 1) := by decide +kernel
theorem dX7_count_155 : decode cX7_count 155 = .ok (.aload_n 0, 1) := by decide +kernel
theorem dX7_count_156 : decode cX7_count 156 = .ok (.getfield 12, 3) := by decide +kernel
theorem dX7_count_159 : decode cX7_count 159 = .ok (.getfield 181, 3) := by decide +kernel
theorem dX7_count_162 : decode cX7_count 162 = .ok (.ireturn, 1) := by decide +kernel
theorem dX7_count_163 : decode cX7_count 163 = .ok (.bipush (-2), 2) := by decide +kernel
theorem dX7_count_165 : decode cX7_count 165 = .ok (.ireturn, 1) := by decide +kernel
theorem dX7_shuttle_0 : decode cX7_shuttle 0 = .ok (.iload_n 1, 1) := by decide +kernel
theorem dX7_shuttle_1 : decode cX7_shuttle 1 = .ok (.invokestatic 48, 3) := by decide +kernel
theorem dX7_shuttle_4 : decode cX7_shuttle 4 = .ok (.ifCond .ne 5, 3) := by decide +kernel
theorem dX7_shuttle_7 : decode cX7_shuttle 7 = .ok (.iconst (-1), 1) := by decide +kernel
theorem dX7_shuttle_8 : decode cX7_shuttle 8 = .ok (.ireturn, 1) := by decide +kernel
theorem dX7_shuttle_9 : decode cX7_shuttle 9 = .ok (.aload_n 0, 1) := by decide +kernel
theorem dX7_shuttle_10 : decode cX7_shuttle 10 = .ok (.getfield 12, 3) := by decide +kernel
theorem dX7_shuttle_13 : decode cX7_shuttle 13 = .ok (.getfield 56, 3) := by decide +kernel
theorem dX7_shuttle_16 : decode cX7_shuttle 16 = .ok (.getfield 59, 3) := by decide +kernel
theorem dX7_shuttle_19 : decode cX7_shuttle 19 = .ok (.astore_n 3, 1) := by decide +kernel
theorem dX7_shuttle_20 : decode cX7_shuttle 20 = .ok (.iload_n 2, 1) := by decide +kernel
theorem dX7_shuttle_21 : decode cX7_shuttle 21 = .ok (.tableswitch 59 0 3 #[31, 38, 45, 52], 31) := by decide +kernel
theorem dX7_shuttle_52 : decode cX7_shuttle 52 = .ok (.aload_n 3, 1) := by decide +kernel
theorem dX7_shuttle_53 : decode cX7_shuttle 53 = .ok (.getfield 97, 3) := by decide +kernel
theorem dX7_shuttle_56 : decode cX7_shuttle 56 = .ok (.iload_n 1, 1) := by decide +kernel
theorem dX7_shuttle_57 : decode cX7_shuttle 57 = .ok (.iaload, 1) := by decide +kernel
theorem dX7_shuttle_58 : decode cX7_shuttle 58 = .ok (.ireturn, 1) := by decide +kernel
theorem dX7_shuttle_59 : decode cX7_shuttle 59 = .ok (.aload_n 3, 1) := by decide +kernel
theorem dX7_shuttle_60 : decode cX7_shuttle 60 = .ok (.getfield 94, 3) := by decide +kernel
theorem dX7_shuttle_63 : decode cX7_shuttle 63 = .ok (.iload_n 1, 1) := by decide +kernel
theorem dX7_shuttle_64 : decode cX7_shuttle 64 = .ok (.iaload, 1) := by decide +kernel
theorem dX7_shuttle_65 : decode cX7_shuttle 65 = .ok (.ireturn, 1) := by decide +kernel
theorem dX7_shuttle_66 : decode cX7_shuttle 66 = .ok (.aload_n 3, 1) := by decide +kernel
theorem dX7_shuttle_67 : decode cX7_shuttle 67 = .ok (.getfield 83, 3) := by decide +kernel
theorem dX7_shuttle_70 : decode cX7_shuttle 70 = .ok (.iload_n 1, 1) := by decide +kernel
theorem dX7_shuttle_71 : decode cX7_shuttle 71 = .ok (.iaload, 1) := by decide +kernel
theorem dX7_shuttle_72 : decode cX7_shuttle 72 = .ok (.ireturn, 1) := by decide +kernel
theorem dX7_shuttle_73 : decode cX7_shuttle 73 = .ok (.aload_n 3, 1) := by decide +kernel
theorem dX7_shuttle_74 : decode cX7_shuttle 74 = .ok (.getfield 87, 3) := by decide +kernel
theorem dX7_shuttle_77 : decode cX7_shuttle 77 = .ok (.iload_n 1, 1) := by decide +kernel
theorem dX7_shuttle_78 : decode cX7_shuttle 78 = .ok (.iaload, 1) := by decide +kernel
theorem dX7_shuttle_79 : decode cX7_shuttle 79 = .ok (.ireturn, 1) := by decide +kernel
theorem dX7_shuttle_80 : decode cX7_shuttle 80 = .ok (.bipush (-2), 2) := by decide +kernel
theorem dX7_shuttle_82 : decode cX7_shuttle 82 = .ok (.ireturn, 1) := by decide +kernel
theorem dX7_inBox_0 : decode cX7_inBox 0 = .ok (.iload_n 1, 1) := by decide +kernel
theorem dX7_inBox_1 : decode cX7_inBox 1 = .ok (.iload_n 2, 1) := by decide +kernel
theorem dX7_inBox_2 : decode cX7_inBox 2 = .ok (.invokestatic 52, 3) := by decide +kernel
theorem dX7_inBox_5 : decode cX7_inBox 5 = .ok (.ifCond .eq 21, 3) := by decide +kernel
theorem dX7_inBox_8 : decode cX7_inBox 8 = .ok (.aload_n 0, 1) := by decide +kernel
theorem dX7_inBox_9 : decode cX7_inBox 9 = .ok (.getfield 12, 3) := by decide +kernel
theorem dX7_inBox_12 : decode cX7_inBox 12 = .ok (.getfield 56, 3) := by decide +kernel
theorem dX7_inBox_15 : decode cX7_inBox 15 = .ok (.getfield 59, 3) := by decide +kernel
theorem dX7_inBox_18 : decode cX7_inBox 18 = .ok (.iload_n 1, 1) := by decide +kernel
theorem dX7_inBox_19 : decode cX7_inBox 19 = .ok (.iload_n 2, 1) := by decide +kernel
theorem dX7_inBox_20 : decode cX7_inBox 20 = .ok (.invokevirtual 68, 3) := by decide +kernel
theorem dX7_inBox_23 : decode cX7_inBox 23 = .ok (.goto 4, 3) := by decide +kernel
theorem dX7_inBox_26 : decode cX7_inBox 26 = .ok (.iconst (-1), 1) := by decide +kernel
theorem dX7_inBox_27 : decode cX7_inBox 27 = .ok (.ireturn, 1) := by decide +kernel
theorem dX7_thread_0 : decode cX7_thread 0 = .ok (.iload_n 1, 1) := by decide +kernel
theorem dX7_thread_1 : decode cX7_thread 1 = .ok (.invokestatic 103, 3) := by decide +kernel
theorem dX7_thread_4 : decode cX7_thread 4 = .ok (.ifCond .ne 5, 3) := by decide +kernel
theorem dX7_thread_7 : decode cX7_thread 7 = .ok (.iconst (-1), 1) := by decide +kernel
theorem dX7_thread_8 : decode cX7_thread 8 = .ok (.ireturn, 1) := by decide +kernel
theorem dX7_thread_9 : decode cX7_thread 9 = .ok (.aload_n 0, 1) := by decide +kernel
theorem dX7_thread_10 : decode cX7_thread 10 = .ok (.getfield 12, 3) := by decide +kernel
theorem dX7_thread_13 : decode cX7_thread 13 = .ok (.getfield 56, 3) := by decide +kernel
theorem dX7_thread_16 : decode cX7_thread 16 = .ok (.getfield 106, 3) := by decide +kernel
theorem dX7_thread_19 : decode cX7_thread 19 = .ok (.astore_n 3, 1) := by decide +kernel
theorem dX7_thread_20 : decode cX7_thread 20 = .ok (.iload_n 2, 1) := by decide +kernel
theorem dX7_thread_21 : decode cX7_thread 21 = .ok (.tableswitch 69 0 2 #[27, 34, 41], 27) := by decide +kernel
theorem dX7_thread_48 : decode cX7_thread 48 = .ok (.aload_n 3, 1) := by decide +kernel
theorem dX7_thread_49 : decode cX7_thread 49 = .ok (.getfield 110, 3) := by decide +kernel
theorem dX7_thread_52 : decode cX7_thread 52 = .ok (.iload_n 1, 1) := by decide +kernel
theorem dX7_thread_53 : decode cX7_thread 53 = .ok (.iaload, 1) := by decide +kernel
theorem dX7_thread_54 : decode cX7_thread 54 = .ok (.ireturn, 1) := by decide +kernel
theorem dX7_thread_55 : decode cX7_thread 55 = .ok (.aload_n 3, 1) := by decide +kernel
theorem dX7_thread_56 : decode cX7_thread 56 = .ok (.getfield 115, 3) := by decide +kernel
theorem dX7_thread_59 : decode cX7_thread 59 = .ok (.iload_n 1, 1) := by decide +kernel
theorem dX7_thread_60 : decode cX7_thread 60 = .ok (.iaload, 1) := by decide +kernel
theorem dX7_thread_61 : decode cX7_thread 61 = .ok (.ireturn, 1) := by decide +kernel
theorem dX7_thread_62 : decode cX7_thread 62 = .ok (.aload_n 0, 1) := by decide +kernel
theorem dX7_thread_63 : decode cX7_thread 63 = .ok (.getfield 12, 3) := by decide +kernel
theorem dX7_thread_66 : decode cX7_thread 66 = .ok (.getfield 56, 3) := by decide +kernel
theorem dX7_thread_69 : decode cX7_thread 69 = .ok (.getfield 160, 3) := by decide +kernel
theorem dX7_thread_72 : decode cX7_thread 72 = .ok (.aload_n 3, 1) := by decide +kernel
theorem dX7_thread_73 : decode cX7_thread 73 = .ok (.getfield 110, 3) := by decide +kernel
theorem dX7_thread_76 : decode cX7_thread 76 = .ok (.iload_n 1, 1) := by decide +kernel
theorem dX7_thread_77 : decode cX7_thread 77 = .ok (.iaload, 1) := by decide +kernel
theorem dX7_thread_78 : decode cX7_thread 78 = .ok (.invokestatic 184, 3) := by decide +kernel
theorem dX7_thread_81 : decode cX7_thread 81 = .ok (.ifCond .eq 7, 3) := by decide +kernel
theorem dX7_thread_84 : decode cX7_thread 84 = .ok (.iconst 1, 1) := by decide +kernel
theorem dX7_thread_85 : decode cX7_thread 85 = .ok (.goto 4, 3) := by decide +kernel
theorem dX7_thread_88 : decode cX7_thread 88 = .ok (.iconst 0, 1) := by decide +kernel
theorem dX7_thread_89 : decode cX7_thread 89 = .ok (.ireturn, 1) := by decide +kernel
theorem dX7_thread_90 : decode cX7_thread 90 = .ok (.bipush (-2), 2) := by decide +kernel
theorem dX7_thread_92 : decode cX7_thread 92 = .ok (.ireturn, 1) := by decide +kernel
theorem dX7_card_0 : decode cX7_card 0 = .ok (.aload_n 0, 1) := by decide +kernel
theorem dX7_card_1 : decode cX7_card 1 = .ok (.getfield 12, 3) := by decide +kernel
theorem dX7_card_4 : decode cX7_card 4 = .ok (.getfield 56, 3) := by decide +kernel
theorem dX7_card_7 : decode cX7_card 7 = .ok (.getfield 121, 3) := by decide +kernel
theorem dX7_card_10 : decode cX7_card 10 = .ok (.astore_n 3, 1) := by decide +kernel
theorem dX7_card_11 : decode cX7_card 11 = .ok (.aload_n 3, 1) := by decide +kernel
theorem dX7_card_12 : decode cX7_card 12 = .ok (.iload_n 1, 1) := by decide +kernel
theorem dX7_card_13 : decode cX7_card 13 = .ok (.invokevirtual 133, 3) := by decide +kernel
theorem dX7_card_16 : decode cX7_card 16 = .ok (.ifCond .ne 5, 3) := by decide +kernel
theorem dX7_card_19 : decode cX7_card 19 = .ok (.iconst (-1), 1) := by decide +kernel
theorem dX7_card_20 : decode cX7_card 20 = .ok (.ireturn, 1) := by decide +kernel
theorem dX7_card_21 : decode cX7_card 21 = .ok (.iload_n 2, 1) := by decide +kernel
theorem dX7_card_22 : decode cX7_card 22 = .ok (.tableswitch 69 0 3 #[30, 36, 43, 50], 30) := by decide +kernel
theorem dX7_card_52 : decode cX7_card 52 = .ok (.aload_n 3, 1) := by decide +kernel
theorem dX7_card_53 : decode cX7_card 53 = .ok (.iload_n 1, 1) := by decide +kernel
theorem dX7_card_54 : decode cX7_card 54 = .ok (.invokevirtual 187, 3) := by decide +kernel
theorem dX7_card_57 : decode cX7_card 57 = .ok (.ireturn, 1) := by decide +kernel
theorem dX7_card_58 : decode cX7_card 58 = .ok (.aload_n 3, 1) := by decide +kernel
theorem dX7_card_59 : decode cX7_card 59 = .ok (.iload_n 1, 1) := by decide +kernel
theorem dX7_card_60 : decode cX7_card 60 = .ok (.iconst 0, 1) := by decide +kernel
theorem dX7_card_61 : decode cX7_card 61 = .ok (.invokevirtual 191, 3) := by decide +kernel
theorem dX7_card_64 : decode cX7_card 64 = .ok (.ireturn, 1) := by decide +kernel
theorem dX7_card_65 : decode cX7_card 65 = .ok (.aload_n 3, 1) := by decide +kernel
theorem dX7_card_66 : decode cX7_card 66 = .ok (.iload_n 1, 1) := by decide +kernel
theorem dX7_card_67 : decode cX7_card 67 = .ok (.iconst 1, 1) := by decide +kernel
theorem dX7_card_68 : decode cX7_card 68 = .ok (.invokevirtual 191, 3) := by decide +kernel
theorem dX7_card_71 : decode cX7_card 71 = .ok (.ireturn, 1) := by decide +kernel
theorem dX7_card_72 : decode cX7_card 72 = .ok (.aload_n 0, 1) := by decide +kernel
theorem dX7_card_73 : decode cX7_card 73 = .ok (.getfield 12, 3) := by decide +kernel
theorem dX7_card_76 : decode cX7_card 76 = .ok (.getfield 56, 3) := by decide +kernel
theorem dX7_card_79 : decode cX7_card 79 = .ok (.getfield 106, 3) := by decide +kernel
theorem dX7_card_82 : decode cX7_card 82 = .ok (.aload_n 3, 1) := by decide +kernel
theorem dX7_card_83 : decode cX7_card 83 = .ok (.iload_n 1, 1) := by decide +kernel
theorem dX7_card_84 : decode cX7_card 84 = .ok (.invokevirtual 187, 3) := by decide +kernel
theorem dX7_card_87 : decode cX7_card 87 = .ok (.invokevirtual 194, 3) := by decide +kernel
theorem dX7_card_90 : decode cX7_card 90 = .ok (.ireturn, 1) := by decide +kernel
theorem dX7_card_91 : decode cX7_card 91 = .ok (.bipush (-2), 2) := by decide +kernel
theorem dX7_card_93 : decode cX7_card 93 = .ok (.ireturn, 1) := by decide +kernel
theorem dX7_cloth_0 : decode cX7_cloth 0 = .ok (.aload_n 0, 1) := by decide +kernel
theorem dX7_cloth_1 : decode cX7_cloth 1 = .ok (.getfield 12, 3) := by decide +kernel
theorem dX7_cloth_4 : decode cX7_cloth 4 = .ok (.getfield 166, 3) := by decide +kernel
theorem dX7_cloth_7 : decode cX7_cloth 7 = .ok (.iload_n 1, 1) := by decide +kernel
theorem dX7_cloth_8 : decode cX7_cloth 8 = .ok (.invokevirtual 197, 3) := by decide +kernel
theorem dX7_cloth_11 : decode cX7_cloth 11 = .ok (.ifCond .eq 10, 3) := by decide +kernel
theorem dX7_cloth_14 : decode cX7_cloth 14 = .ok (.iload_n 2, 1) := by decide +kernel
theorem dX7_cloth_15 : decode cX7_cloth 15 = .ok (.invokestatic 103, 3) := by decide +kernel
theorem dX7_cloth_18 : decode cX7_cloth 18 = .ok (.ifCond .ne 5, 3) := by decide +kernel
theorem dX7_cloth_21 : decode cX7_cloth 21 = .ok (.iconst (-1), 1) := by decide +kernel
theorem dX7_cloth_22 : decode cX7_cloth 22 = .ok (.ireturn, 1) := by decide +kernel
theorem dX7_cloth_23 : decode cX7_cloth 23 = .ok (.aload_n 0, 1) := by decide +kernel
theorem dX7_cloth_24 : decode cX7_cloth 24 = .ok (.getfield 12, 3) := by decide +kernel
theorem dX7_cloth_27 : decode cX7_cloth 27 = .ok (.getfield 166, 3) := by decide +kernel
theorem dX7_cloth_30 : decode cX7_cloth 30 = .ok (.iload_n 1, 1) := by decide +kernel
theorem dX7_cloth_31 : decode cX7_cloth 31 = .ok (.iload_n 2, 1) := by decide +kernel
theorem dX7_cloth_32 : decode cX7_cloth 32 = .ok (.invokevirtual 198, 3) := by decide +kernel
theorem dX7_cloth_35 : decode cX7_cloth 35 = .ok (.ifCond .eq 10, 3) := by decide +kernel
theorem dX7_cloth_38 : decode cX7_cloth 38 = .ok (.bipush 100, 2) := by decide +kernel
theorem dX7_cloth_40 : decode cX7_cloth 40 = .ok (.iload_n 2, 1) := by decide +kernel
theorem dX7_cloth_41 : decode cX7_cloth 41 = .ok (.iadd, 1) := by decide +kernel
theorem dX7_cloth_42 : decode cX7_cloth 42 = .ok (.goto 14, 3) := by decide +kernel
theorem dX7_cloth_45 : decode cX7_cloth 45 = .ok (.aload_n 0, 1) := by decide +kernel
theorem dX7_cloth_46 : decode cX7_cloth 46 = .ok (.getfield 12, 3) := by decide +kernel
theorem dX7_cloth_49 : decode cX7_cloth 49 = .ok (.getfield 166, 3) := by decide +kernel
theorem dX7_cloth_52 : decode cX7_cloth 52 = .ok (.iload_n 1, 1) := by decide +kernel
theorem dX7_cloth_53 : decode cX7_cloth 53 = .ok (.invokevirtual 201, 3) := by decide +kernel
theorem dX7_cloth_56 : decode cX7_cloth 56 = .ok (.ireturn, 1) := by decide +kernel
theorem dX7_longestFloat_0 : decode cX7_longestFloat 0 = .ok (.iload_n 1, 1) := by decide +kernel
theorem dX7_longestFloat_1 : decode cX7_longestFloat 1 = .ok (.invokestatic 103, 3) := by decide +kernel
theorem dX7_longestFloat_4 : decode cX7_longestFloat 4 = .ok (.ifCond .eq 17, 3) := by decide +kernel
theorem dX7_longestFloat_7 : decode cX7_longestFloat 7 = .ok (.aload_n 0, 1) := by decide +kernel
theorem dX7_longestFloat_8 : decode cX7_longestFloat 8 = .ok (.getfield 12, 3) := by decide +kernel
theorem dX7_longestFloat_11 : decode cX7_longestFloat 11 = .ok (.getfield 166, 3) := by decide +kernel
theorem dX7_longestFloat_14 : decode cX7_longestFloat 14 = .ok (.iload_n 1, 1) := by decide +kernel
theorem dX7_longestFloat_15 : decode cX7_longestFloat 15 = .ok (.invokevirtual 204, 3) := by decide +kernel
theorem dX7_longestFloat_18 : decode cX7_longestFloat 18 = .ok (.goto 4, 3) := by decide +kernel
theorem dX7_longestFloat_21 : decode cX7_longestFloat 21 = .ok (.iconst (-1), 1) := by decide +kernel
theorem dX7_longestFloat_22 : decode cX7_longestFloat 22 = .ok (.ireturn, 1) := by decide +kernel
theorem dX7_whyNot_0 : decode cX7_whyNot 0 = .ok (.aload_n 0, 1) := by decide +kernel
theorem dX7_whyNot_1 : decode cX7_whyNot 1 = .ok (.getfield 12, 3) := by decide +kernel
theorem dX7_whyNot_4 : decode cX7_whyNot 4 = .ok (.getfield 56, 3) := by decide +kernel
theorem dX7_whyNot_7 : decode cX7_whyNot 7 = .ok (.invokevirtual 145, 3) := by decide +kernel
theorem dX7_whyNot_10 : decode cX7_whyNot 10 = .ok (.ireturn, 1) := by decide +kernel
theorem dX7_picksLeft_0 : decode cX7_picksLeft 0 = .ok (.aload_n 0, 1) := by decide +kernel
theorem dX7_picksLeft_1 : decode cX7_picksLeft 1 = .ok (.getfield 30, 3) := by decide +kernel
theorem dX7_picksLeft_4 : decode cX7_picksLeft 4 = .ok (.aload_n 0, 1) := by decide +kernel
theorem dX7_picksLeft_5 : decode cX7_picksLeft 5 = .ok (.getfield 12, 3) := by decide +kernel
theorem dX7_picksLeft_8 : decode cX7_picksLeft 8 = .ok (.getfield 56, 3) := by decide +kernel
theorem dX7_picksLeft_11 : decode cX7_picksLeft 11 = .ok (.invokevirtual 207, 3) := by decide +kernel
theorem dX7_picksLeft_14 : decode cX7_picksLeft 14 = .ok (.iconst 0, 1) := by decide +kernel
theorem dX7_picksLeft_15 : decode cX7_picksLeft 15 = .ok (.istore_n 1, 1) := by decide +kernel
theorem dX7_picksLeft_16 : decode cX7_picksLeft 16 = .ok (.iload_n 1, 1) := by decide +kernel
theorem dX7_picksLeft_17 : decode cX7_picksLeft 17 = .ok (.sipush 200, 3) := by decide +kernel
theorem dX7_picksLeft_20 : decode cX7_picksLeft 20 = .ok (.if_icmp .ge 26, 3) := by decide +kernel
theorem dX7_picksLeft_23 : decode cX7_picksLeft 23 = .ok (.aload_n 0, 1) := by decide +kernel
theorem dX7_picksLeft_24 : decode cX7_picksLeft 24 = .ok (.getfield 30, 3) := by decide +kernel
theorem dX7_picksLeft_27 : decode cX7_picksLeft 27 = .ok (.invokevirtual 145, 3) := by decide +kernel
theorem dX7_picksLeft_30 : decode cX7_picksLeft 30 = .ok (.ifCond .ne 16, 3) := by decide +kernel
theorem dX7_picksLeft_33 : decode cX7_picksLeft 33 = .ok (.aload_n 0, 1) := by decide +kernel
theorem dX7_picksLeft_34 : decode cX7_picksLeft 34 = .ok (.getfield 30, 3) := by decide +kernel
theorem dX7_picksLeft_37 : decode cX7_picksLeft 37 = .ok (.invokevirtual 211, 3) := by decide +kernel
theorem dX7_picksLeft_40 : decode cX7_picksLeft 40 = .ok (.iinc 1 1, 3) := by decide +kernel
theorem dX7_picksLeft_43 : decode cX7_picksLeft 43 = .ok (.goto (-27), 3) := by decide +kernel
theorem dX7_picksLeft_46 : decode cX7_picksLeft 46 = .ok (.iload_n 1, 1) := by decide +kernel
theorem dX7_picksLeft_47 : decode cX7_picksLeft 47 = .ok (.ireturn, 1) := by decide +kernel
theorem dX7_firstEmpty_0 : decode cX7_firstEmpty 0 = .ok (.aload_n 0, 1) := by decide +kernel
theorem dX7_firstEmpty_1 : decode cX7_firstEmpty 1 = .ok (.getfield 30, 3) := by decide +kernel
theorem dX7_firstEmpty_4 : decode cX7_firstEmpty 4 = .ok (.aload_n 0, 1) := by decide +kernel
theorem dX7_firstEmpty_5 : decode cX7_firstEmpty 5 = .ok (.getfield 12, 3) := by decide +kernel
theorem dX7_firstEmpty_8 : decode cX7_firstEmpty 8 = .ok (.getfield 56, 3) := by decide +kernel
theorem dX7_firstEmpty_11 : decode cX7_firstEmpty 11 = .ok (.invokevirtual 207, 3) := by decide +kernel
theorem dX7_firstEmpty_14 : decode cX7_firstEmpty 14 = .ok (.iconst 0, 1) := by decide +kernel
theorem dX7_firstEmpty_15 : decode cX7_firstEmpty 15 = .ok (.istore_n 1, 1) := by decide +kernel
theorem dX7_firstEmpty_16 : decode cX7_firstEmpty 16 = .ok (.iload_n 1, 1) := by decide +kernel
theorem dX7_firstEmpty_17 : decode cX7_firstEmpty 17 = .ok (.sipush 999, 3) := by decide +kernel
theorem dX7_firstEmpty_20 : decode cX7_firstEmpty 20 = .ok (.if_icmp .ge 47, 3) := by decide +kernel
theorem dX7_firstEmpty_23 : decode cX7_firstEmpty 23 = .ok (.aload_n 0, 1) := by decide +kernel
theorem dX7_firstEmpty_24 : decode cX7_firstEmpty 24 = .ok (.getfield 30, 3) := by decide +kernel
theorem dX7_firstEmpty_27 : decode cX7_firstEmpty 27 = .ok (.invokevirtual 212, 3) := by decide +kernel
theorem dX7_firstEmpty_30 : decode cX7_firstEmpty 30 = .ok (.istore_n 2, 1) := by decide +kernel
theorem dX7_firstEmpty_31 : decode cX7_firstEmpty 31 = .ok (.iload_n 2, 1) := by decide +kernel
theorem dX7_firstEmpty_32 : decode cX7_firstEmpty 32 = .ok (.ifCond .eq 22, 3) := by decide +kernel
theorem dX7_firstEmpty_35 : decode cX7_firstEmpty 35 = .ok (.iload_n 2, 1) := by decide +kernel
theorem dX7_firstEmpty_36 : decode cX7_firstEmpty 36 = .ok (.bipush 6, 2) := by decide +kernel
theorem dX7_firstEmpty_38 : decode cX7_firstEmpty 38 = .ok (.if_icmp .ne 13, 3) := by decide +kernel
theorem dX7_firstEmpty_41 : decode cX7_firstEmpty 41 = .ok (.aload_n 0, 1) := by decide +kernel
theorem dX7_firstEmpty_42 : decode cX7_firstEmpty 42 = .ok (.getfield 30, 3) := by decide +kernel
theorem dX7_firstEmpty_45 : decode cX7_firstEmpty 45 = .ok (.invokevirtual 215, 3) := by decide +kernel
theorem dX7_firstEmpty_48 : decode cX7_firstEmpty 48 = .ok (.goto 5, 3) := by decide +kernel
theorem dX7_firstEmpty_51 : decode cX7_firstEmpty 51 = .ok (.bipush (-6), 2) := by decide +kernel
theorem dX7_firstEmpty_53 : decode cX7_firstEmpty 53 = .ok (.ireturn, 1) := by decide +kernel
theorem dX7_firstEmpty_54 : decode cX7_firstEmpty 54 = .ok (.aload_n 0, 1) := by decide +kernel
theorem dX7_firstEmpty_55 : decode cX7_firstEmpty 55 = .ok (.getfield 30, 3) := by decide +kernel
theorem dX7_firstEmpty_58 : decode cX7_firstEmpty 58 = .ok (.invokevirtual 211, 3) := by decide +kernel
theorem dX7_firstEmpty_61 : decode cX7_firstEmpty 61 = .ok (.iinc 1 1, 3) := by decide +kernel
theorem dX7_firstEmpty_64 : decode cX7_firstEmpty 64 = .ok (.goto (-48), 3) := by decide +kernel
theorem dX7_firstEmpty_67 : decode cX7_firstEmpty 67 = .ok (.bipush (-6), 2) := by decide +kernel
theorem dX7_firstEmpty_69 : decode cX7_firstEmpty 69 = .ok (.ireturn, 1) := by decide +kernel
theorem dX7_repeats_0 : decode cX7_repeats 0 = .ok (.aload_n 0, 1) := by decide +kernel
theorem dX7_repeats_1 : decode cX7_repeats 1 = .ok (.getfield 12, 3) := by decide +kernel
theorem dX7_repeats_4 : decode cX7_repeats 4 = .ok (.getfield 56, 3) := by decide +kernel
theorem dX7_repeats_7 : decode cX7_repeats 7 = .ok (.getfield 121, 3) := by decide +kernel
theorem dX7_repeats_10 : decode cX7_repeats 10 = .ok (.getfield 125, 3) := by decide +kernel
theorem dX7_repeats_13 : decode cX7_repeats 13 = .ok (.istore_n 1, 1) := by decide +kernel
theorem dX7_repeats_14 : decode cX7_repeats 14 = .ok (.iload_n 1, 1) := by decide +kernel
theorem dX7_repeats_15 : decode cX7_repeats 15 = .ok (.ifCond .ne 5, 3) := by decide +kernel
theorem dX7_repeats_18 : decode cX7_repeats 18 = .ok (.iconst 0, 1) := by decide +kernel
theorem dX7_repeats_19 : decode cX7_repeats 19 = .ok (.ireturn, 1) := by decide +kernel
theorem dX7_repeats_20 : decode cX7_repeats 20 = .ok (.aload_n 0, 1) := by decide +kernel
theorem dX7_repeats_21 : decode cX7_repeats 21 = .ok (.getfield 30, 3) := by decide +kernel
theorem dX7_repeats_24 : decode cX7_repeats 24 = .ok (.aload_n 0, 1) := by decide +kernel
theorem dX7_repeats_25 : decode cX7_repeats 25 = .ok (.getfield 12, 3) := by decide +kernel
theorem dX7_repeats_28 : decode cX7_repeats 28 = .ok (.getfield 56, 3) := by decide +kernel
theorem dX7_repeats_31 : decode cX7_repeats 31 = .ok (.invokevirtual 207, 3) := by decide +kernel
theorem dX7_repeats_34 : decode cX7_repeats 34 = .ok (.aload_n 0, 1) := by decide +kernel
theorem dX7_repeats_35 : decode cX7_repeats 35 = .ok (.getfield 30, 3) := by decide +kernel
theorem dX7_repeats_38 : decode cX7_repeats 38 = .ok (.getfield 121, 3) := by decide +kernel
theorem dX7_repeats_41 : decode cX7_repeats 41 = .ok (.iconst 0, 1) := by decide +kernel
theorem dX7_repeats_42 : decode cX7_repeats 42 = .ok (.putfield 140, 3) := by decide +kernel
theorem dX7_repeats_45 : decode cX7_repeats 45 = .ok (.iconst 0, 1) := by decide +kernel
theorem dX7_repeats_46 : decode cX7_repeats 46 = .ok (.istore_n 2, 1) := by decide +kernel
theorem dX7_repeats_47 : decode cX7_repeats 47 = .ok (.iload_n 2, 1) := by decide +kernel
theorem dX7_repeats_48 : decode cX7_repeats 48 = .ok (.iload_n 1, 1) := by decide +kernel
theorem dX7_repeats_49 : decode cX7_repeats 49 = .ok (.if_icmp .ge 28, 3) := by decide +kernel
theorem dX7_repeats_52 : decode cX7_repeats 52 = .ok (.aload_n 0, 1) := by decide +kernel
theorem dX7_repeats_53 : decode cX7_repeats 53 = .ok (.getfield 30, 3) := by decide +kernel
theorem dX7_repeats_56 : decode cX7_repeats 56 = .ok (.invokevirtual 145, 3) := by decide +kernel
theorem dX7_repeats_59 : decode cX7_repeats 59 = .ok (.ifCond .eq 5, 3) := by decide +kernel
theorem dX7_repeats_62 : decode cX7_repeats 62 = .ok (.iconst 0, 1) := by decide +kernel
theorem dX7_repeats_63 : decode cX7_repeats 63 = .ok (.ireturn, 1) := by decide +kernel
theorem dX7_repeats_64 : decode cX7_repeats 64 = .ok (.aload_n 0, 1) := by decide +kernel
theorem dX7_repeats_65 : decode cX7_repeats 65 = .ok (.getfield 30, 3) := by decide +kernel
theorem dX7_repeats_68 : decode cX7_repeats 68 = .ok (.invokevirtual 211, 3) := by decide +kernel
theorem dX7_repeats_71 : decode cX7_repeats 71 = .ok (.iinc 2 1, 3) := by decide +kernel
theorem dX7_repeats_74 : decode cX7_repeats 74 = .ok (.goto (-27), 3) := by decide +kernel
theorem dX7_repeats_77 : decode cX7_repeats 77 = .ok (.aload_n 0, 1) := by decide +kernel
theorem dX7_repeats_78 : decode cX7_repeats 78 = .ok (.getfield 30, 3) := by decide +kernel
theorem dX7_repeats_81 : decode cX7_repeats 81 = .ok (.getfield 59, 3) := by decide +kernel
theorem dX7_repeats_84 : decode cX7_repeats 84 = .ok (.aload_n 0, 1) := by decide +kernel
theorem dX7_repeats_85 : decode cX7_repeats 85 = .ok (.getfield 12, 3) := by decide +kernel
theorem dX7_repeats_88 : decode cX7_repeats 88 = .ok (.getfield 56, 3) := by decide +kernel
theorem dX7_repeats_91 : decode cX7_repeats 91 = .ok (.getfield 59, 3) := by decide +kernel
theorem dX7_repeats_94 : decode cX7_repeats 94 = .ok (.invokevirtual 218, 3) := by decide +kernel
theorem dX7_repeats_97 : decode cX7_repeats 97 = .ok (.ifCond .eq 7, 3) := by decide +kernel
theorem dX7_repeats_100 : decode cX7_repeats 100 = .ok (.iconst 1, 1) := by decide +kernel
theorem dX7_repeats_101 : decode cX7_repeats 101 = .ok (.goto 4, 3) := by decide +kernel
theorem dX7_repeats_104 : decode cX7_repeats 104 = .ok (.iconst 0, 1) := by decide +kernel
theorem dX7_repeats_105 : decode cX7_repeats 105 = .ok (.ireturn, 1) := by decide +kernel
theorem dX7_saveBeforeChange_0 : decode cX7_saveBeforeChange 0 = .ok (.aload_n 0, 1) := by decide +kernel
theorem dX7_saveBeforeChange_1 : decode cX7_saveBeforeChange 1 = .ok (.invokevirtual 142, 3) := by decide +kernel
theorem dX7_saveBeforeChange_4 : decode cX7_saveBeforeChange 4 = .ok (.aload_n 0, 1) := by decide +kernel
theorem dX7_saveBeforeChange_5 : decode cX7_saveBeforeChange 5 = .ok (.getfield 12, 3) := by decide +kernel
theorem dX7_saveBeforeChange_8 : decode cX7_saveBeforeChange 8 = .ok (.iconst 0, 1) := by decide +kernel
theorem dX7_saveBeforeChange_9 : decode cX7_saveBeforeChange 9 = .ok (.putfield 154, 3) := by decide +kernel
theorem dX7_saveBeforeChange_12 : decode cX7_saveBeforeChange 12 = .ok (.return_, 1) := by decide +kernel
theorem dX7_save_0 : decode cX7_save 0 = .ok (.aload_n 0, 1) := by decide +kernel
theorem dX7_save_1 : decode cX7_save 1 = .ok (.aload_n 0, 1) := by decide +kernel
theorem dX7_save_2 : decode cX7_save 2 = .ok (.getfield 24, 3) := by decide +kernel
theorem dX7_save_5 : decode cX7_save 5 = .ok (.iconst 1, 1) := by decide +kernel
theorem dX7_save_6 : decode cX7_save 6 = .ok (.iadd, 1) := by decide +kernel
theorem dX7_save_7 : decode cX7_save 7 = .ok (.bipush 6, 2) := by decide +kernel
theorem dX7_save_9 : decode cX7_save 9 = .ok (.invokestatic 248, 3) := by decide +kernel
theorem dX7_save_12 : decode cX7_save 12 = .ok (.putfield 24, 3) := by decide +kernel
theorem dX7_save_15 : decode cX7_save 15 = .ok (.aload_n 0, 1) := by decide +kernel
theorem dX7_save_16 : decode cX7_save 16 = .ok (.getfield 16, 3) := by decide +kernel
theorem dX7_save_19 : decode cX7_save 19 = .ok (.aload_n 0, 1) := by decide +kernel
theorem dX7_save_20 : decode cX7_save 20 = .ok (.getfield 24, 3) := by decide +kernel
theorem dX7_save_23 : decode cX7_save 23 = .ok (.aaload, 1) := by decide +kernel
theorem dX7_save_24 : decode cX7_save 24 = .ok (.astore_n 1, 1) := by decide +kernel
theorem dX7_save_25 : decode cX7_save 25 = .ok (.aload_n 1, 1) := by decide +kernel
theorem dX7_save_26 : decode cX7_save 26 = .ok (.ifnull 11, 3) := by decide +kernel
theorem dX7_save_29 : decode cX7_save 29 = .ok (.aload_n 1, 1) := by decide +kernel
theorem dX7_save_30 : decode cX7_save 30 = .ok (.aload_n 0, 1) := by decide +kernel
theorem dX7_save_31 : decode cX7_save 31 = .ok (.getfield 12, 3) := by decide +kernel
theorem dX7_save_34 : decode cX7_save 34 = .ok (.invokevirtual 253, 3) := by decide +kernel
theorem dX7_save_37 : decode cX7_save 37 = .ok (.aload_n 0, 1) := by decide +kernel
theorem dX7_save_38 : decode cX7_save 38 = .ok (.getfield 20, 3) := by decide +kernel
theorem dX7_save_41 : decode cX7_save 41 = .ok (.bipush 6, 2) := by decide +kernel
theorem dX7_save_43 : decode cX7_save 43 = .ok (.if_icmp .ge 13, 3) := by decide +kernel
theorem dX7_save_46 : decode cX7_save 46 = .ok (.aload_n 0, 1) := by decide +kernel
theorem dX7_save_47 : decode cX7_save 47 = .ok (.dup, 1) := by decide +kernel
theorem dX7_save_48 : decode cX7_save 48 = .ok (.getfield 20, 3) := by decide +kernel
theorem dX7_save_51 : decode cX7_save 51 = .ok (.iconst 1, 1) := by decide +kernel
theorem dX7_save_52 : decode cX7_save 52 = .ok (.iadd, 1) := by decide +kernel
theorem dX7_save_53 : decode cX7_save 53 = .ok (.putfield 20, 3) := by decide +kernel
theorem dX7_save_56 : decode cX7_save 56 = .ok (.return_, 1) := by decide +kernel
theorem dX7_isWithin_0 : decode cX7_isWithin 0 = .ok (.iload_n 0, 1) := by decide +kernel
theorem dX7_isWithin_1 : decode cX7_isWithin 1 = .ok (.iload_n 1, 1) := by decide +kernel
theorem dX7_isWithin_2 : decode cX7_isWithin 2 = .ok (.if_icmp .lt 12, 3) := by decide +kernel
theorem dX7_isWithin_5 : decode cX7_isWithin 5 = .ok (.iload_n 0, 1) := by decide +kernel
theorem dX7_isWithin_6 : decode cX7_isWithin 6 = .ok (.iload_n 2, 1) := by decide +kernel
theorem dX7_isWithin_7 : decode cX7_isWithin 7 = .ok (.if_icmp .gt 7, 3) := by decide +kernel
theorem dX7_isWithin_10 : decode cX7_isWithin 10 = .ok (.iconst 1, 1) := by decide +kernel
theorem dX7_isWithin_11 : decode cX7_isWithin 11 = .ok (.goto 4, 3) := by decide +kernel
theorem dX7_isWithin_14 : decode cX7_isWithin 14 = .ok (.iconst 0, 1) := by decide +kernel
theorem dX7_isWithin_15 : decode cX7_isWithin 15 = .ok (.ireturn, 1) := by decide +kernel
theorem dX7_isShuttle_0 : decode cX7_isShuttle 0 = .ok (.iload_n 0, 1) := by decide +kernel
theorem dX7_isShuttle_1 : decode cX7_isShuttle 1 = .ok (.iconst 0, 1) := by decide +kernel
theorem dX7_isShuttle_2 : decode cX7_isShuttle 2 = .ok (.iconst 4, 1) := by decide +kernel
theorem dX7_isShuttle_3 : decode cX7_isShuttle 3 = .ok (.invokestatic 90, 3) := by decide +kernel
theorem dX7_isShuttle_6 : decode cX7_isShuttle 6 = .ok (.ireturn, 1) := by decide +kernel
theorem dX7_isThread_0 : decode cX7_isThread 0 = .ok (.iload_n 0, 1) := by decide +kernel
theorem dX7_isThread_1 : decode cX7_isThread 1 = .ok (.iconst 0, 1) := by decide +kernel
theorem dX7_isThread_2 : decode cX7_isThread 2 = .ok (.bipush 11, 2) := by decide +kernel
theorem dX7_isThread_4 : decode cX7_isThread 4 = .ok (.invokestatic 90, 3) := by decide +kernel
theorem dX7_isThread_7 : decode cX7_isThread 7 = .ok (.ireturn, 1) := by decide +kernel
theorem dX7_isBox_0 : decode cX7_isBox 0 = .ok (.iload_n 0, 1) := by decide +kernel
theorem dX7_isBox_1 : decode cX7_isBox 1 = .ok (.ifCond .ne 12, 3) := by decide +kernel
theorem dX7_isBox_4 : decode cX7_isBox 4 = .ok (.iload_n 1, 1) := by decide +kernel
theorem dX7_isBox_5 : decode cX7_isBox 5 = .ok (.iconst 0, 1) := by decide +kernel
theorem dX7_isBox_6 : decode cX7_isBox 6 = .ok (.iconst 3, 1) := by decide +kernel
theorem dX7_isBox_7 : decode cX7_isBox 7 = .ok (.invokestatic 90, 3) := by decide +kernel
theorem dX7_isBox_10 : decode cX7_isBox 10 = .ok (.ifCond .ne 17, 3) := by decide +kernel
theorem dX7_isBox_13 : decode cX7_isBox 13 = .ok (.iload_n 0, 1) := by decide +kernel
theorem dX7_isBox_14 : decode cX7_isBox 14 = .ok (.iconst 1, 1) := by decide +kernel
theorem dX7_isBox_15 : decode cX7_isBox 15 = .ok (.if_icmp .ne 16, 3) := by decide +kernel
theorem dX7_isBox_18 : decode cX7_isBox 18 = .ok (.iload_n 1, 1) := by decide +kernel
theorem dX7_isBox_19 : decode cX7_isBox 19 = .ok (.iconst 0, 1) := by decide +kernel
theorem dX7_isBox_20 : decode cX7_isBox 20 = .ok (.iconst 1, 1) := by decide +kernel
theorem dX7_isBox_21 : decode cX7_isBox 21 = .ok (.invokestatic 90, 3) := by decide +kernel
theorem dX7_isBox_24 : decode cX7_isBox 24 = .ok (.ifCond .eq 7, 3) := by decide +kernel
theorem dX7_isBox_27 : decode cX7_isBox 27 = .ok (.iconst 1, 1) := by decide +kernel
theorem dX7_isBox_28 : decode cX7_isBox 28 = .ok (.goto 4, 3) := by decide +kernel
theorem dX7_isBox_31 : decode cX7_isBox 31 = .ok (.iconst 0, 1) := by decide +kernel
theorem dX7_isBox_32 : decode cX7_isBox 32 = .ok (.ireturn, 1) := by decide +kernel
theorem dX7_contains_0 : decode cX7_contains 0 = .ok (.iload_n 0, 1) := by decide +kernel
theorem dX7_contains_1 : decode cX7_contains 1 = .ok (.iload_n 1, 1) := by decide +kernel
theorem dX7_contains_2 : decode cX7_contains 2 = .ok (.ishr, 1) := by decide +kernel
theorem dX7_contains_3 : decode cX7_contains 3 = .ok (.iconst 1, 1) := by decide +kernel
theorem dX7_contains_4 : decode cX7_contains 4 = .ok (.iand, 1) := by decide +kernel
theorem dX7_contains_5 : decode cX7_contains 5 = .ok (.iconst 1, 1) := by decide +kernel
theorem dX7_contains_6 : decode cX7_contains 6 = .ok (.if_icmp .ne 7, 3) := by decide +kernel
theorem dX7_contains_9 : decode cX7_contains 9 = .ok (.iconst 1, 1) := by decide +kernel
theorem dX7_contains_10 : decode cX7_contains 10 = .ok (.goto 4, 3) := by decide +kernel
theorem dX7_contains_13 : decode cX7_contains 13 = .ok (.iconst 0, 1) := by decide +kernel
theorem dX7_contains_14 : decode cX7_contains 14 = .ok (.ireturn, 1) := by decide +kernel
