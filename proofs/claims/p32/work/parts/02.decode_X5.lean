theorem dX5_init_0 : decode cX5_init 0 = .ok (.aload_n 0, 1) := by decide +kernel
theorem dX5_init_1 : decode cX5_init 1 = .ok (.invokespecial 3, 3) := by decide +kernel
theorem dX5_init_4 : decode cX5_init 4 = .ok (.aload_n 0, 1) := by decide +kernel
theorem dX5_init_5 : decode cX5_init 5 = .ok (.iconst 5, 1) := by decide +kernel
theorem dX5_init_6 : decode cX5_init 6 = .ok (.newarray .int, 2) := by decide +kernel
theorem dX5_init_8 : decode cX5_init 8 = .ok (.putfield 9, 3) := by decide +kernel
theorem dX5_init_11 : decode cX5_init 11 = .ok (.aload_n 0, 1) := by decide +kernel
theorem dX5_init_12 : decode cX5_init 12 = .ok (.iconst 5, 1) := by decide +kernel
theorem dX5_init_13 : decode cX5_init 13 = .ok (.newarray .int, 2) := by decide +kernel
theorem dX5_init_15 : decode cX5_init 15 = .ok (.putfield 15, 3) := by decide +kernel
theorem dX5_init_18 : decode cX5_init 18 = .ok (.aload_n 0, 1) := by decide +kernel
theorem dX5_init_19 : decode cX5_init 19 = .ok (.iconst 5, 1) := by decide +kernel
theorem dX5_init_20 : decode cX5_init 20 = .ok (.newarray .int, 2) := by decide +kernel
theorem dX5_init_22 : decode cX5_init 22 = .ok (.putfield 18, 3) := by decide +kernel
theorem dX5_init_25 : decode cX5_init 25 = .ok (.aload_n 0, 1) := by decide +kernel
theorem dX5_init_26 : decode cX5_init 26 = .ok (.iconst 5, 1) := by decide +kernel
theorem dX5_init_27 : decode cX5_init 27 = .ok (.newarray .int, 2) := by decide +kernel
theorem dX5_init_29 : decode cX5_init 29 = .ok (.putfield 21, 3) := by decide +kernel
theorem dX5_init_32 : decode cX5_init 32 = .ok (.iconst 0, 1) := by decide +kernel
theorem dX5_init_33 : decode cX5_init 33 = .ok (.istore_n 1, 1) := by decide +kernel
theorem dX5_init_34 : decode cX5_init 34 = .ok (.iload_n 1, 1) := by decide +kernel
theorem dX5_init_35 : decode cX5_init 35 = .ok (.iconst 5, 1) := by decide +kernel
theorem dX5_init_36 : decode cX5_init 36 = .ok (.if_icmp .ge 40, 3) := by decide +kernel
theorem dX5_init_39 : decode cX5_init 39 = .ok (.aload_n 0, 1) := by decide +kernel
theorem dX5_init_40 : decode cX5_init 40 = .ok (.getfield 9, 3) := by decide +kernel
theorem dX5_init_43 : decode cX5_init 43 = .ok (.iload_n 1, 1) := by decide +kernel
theorem dX5_init_44 : decode cX5_init 44 = .ok (.iload_n 1, 1) := by decide +kernel
theorem dX5_init_45 : decode cX5_init 45 = .ok (.iastore, 1) := by decide +kernel
theorem dX5_init_46 : decode cX5_init 46 = .ok (.aload_n 0, 1) := by decide +kernel
theorem dX5_init_47 : decode cX5_init 47 = .ok (.getfield 15, 3) := by decide +kernel
theorem dX5_init_50 : decode cX5_init 50 = .ok (.iload_n 1, 1) := by decide +kernel
theorem dX5_init_51 : decode cX5_init 51 = .ok (.bipush 20, 2) := by decide +kernel
theorem dX5_init_53 : decode cX5_init 53 = .ok (.iastore, 1) := by decide +kernel
theorem dX5_init_54 : decode cX5_init 54 = .ok (.aload_n 0, 1) := by decide +kernel
theorem dX5_init_55 : decode cX5_init 55 = .ok (.getfield 18, 3) := by decide +kernel
theorem dX5_init_58 : decode cX5_init 58 = .ok (.iload_n 1, 1) := by decide +kernel
theorem dX5_init_59 : decode cX5_init 59 = .ok (.bipush (-6), 2) := by decide +kernel
theorem dX5_init_61 : decode cX5_init 61 = .ok (.iastore, 1) := by decide +kernel
theorem dX5_init_62 : decode cX5_init 62 = .ok (.aload_n 0, 1) := by decide +kernel
theorem dX5_init_63 : decode cX5_init 63 = .ok (.getfield 21, 3) := by decide +kernel
theorem dX5_init_66 : decode cX5_init 66 = .ok (.iload_n 1, 1) := by decide +kernel
theorem dX5_init_67 : decode cX5_init 67 = .ok (.bipush (-6), 2) := by decide +kernel
theorem dX5_init_69 : decode cX5_init 69 = .ok (.iastore, 1) := by decide +kernel
theorem dX5_init_70 : decode cX5_init 70 = .ok (.iinc 1 1, 3) := by decide +kernel
theorem dX5_init_73 : decode cX5_init 73 = .ok (.goto (-39), 3) := by decide +kernel
theorem dX5_init_76 : decode cX5_init 76 = .ok (.return_, 1) := by decide +kernel
theorem dX5_copyFrom_0 : decode cX5_copyFrom 0 = .ok (.aload_n 1, 1) := by decide +kernel
theorem dX5_copyFrom_1 : decode cX5_copyFrom 1 = .ok (.getfield 9, 3) := by decide +kernel
theorem dX5_copyFrom_4 : decode cX5_copyFrom 4 = .ok (.iconst 0, 1) := by decide +kernel
theorem dX5_copyFrom_5 : decode cX5_copyFrom 5 = .ok (.aload_n 0, 1) := by decide +kernel
theorem dX5_copyFrom_6 : decode cX5_copyFrom 6 = .ok (.getfield 9, 3) := by decide +kernel
theorem dX5_copyFrom_9 : decode cX5_copyFrom 9 = .ok (.iconst 0, 1) := by decide +kernel
theorem dX5_copyFrom_10 : decode cX5_copyFrom 10 = .ok (.iconst 5, 1) := by decide +kernel
theorem dX5_copyFrom_11 : decode cX5_copyFrom 11 = .ok (.invokestatic 24, 3) := by decide +kernel
theorem dX5_copyFrom_14 : decode cX5_copyFrom 14 = .ok (.aload_n 1, 1) := by decide +kernel
theorem dX5_copyFrom_15 : decode cX5_copyFrom 15 = .ok (.getfield 15, 3) := by decide +kernel
theorem dX5_copyFrom_18 : decode cX5_copyFrom 18 = .ok (.iconst 0, 1) := by decide +kernel
theorem dX5_copyFrom_19 : decode cX5_copyFrom 19 = .ok (.aload_n 0, 1) := by decide +kernel
theorem dX5_copyFrom_20 : decode cX5_copyFrom 20 = .ok (.getfield 15, 3) := by decide +kernel
theorem dX5_copyFrom_23 : decode cX5_copyFrom 23 = .ok (.iconst 0, 1) := by decide +kernel
theorem dX5_copyFrom_24 : decode cX5_copyFrom 24 = .ok (.iconst 5, 1) := by decide +kernel
theorem dX5_copyFrom_25 : decode cX5_copyFrom 25 = .ok (.invokestatic 24, 3) := by decide +kernel
theorem dX5_copyFrom_28 : decode cX5_copyFrom 28 = .ok (.aload_n 1, 1) := by decide +kernel
theorem dX5_copyFrom_29 : decode cX5_copyFrom 29 = .ok (.getfield 18, 3) := by decide +kernel
theorem dX5_copyFrom_32 : decode cX5_copyFrom 32 = .ok (.iconst 0, 1) := by decide +kernel
theorem dX5_copyFrom_33 : decode cX5_copyFrom 33 = .ok (.aload_n 0, 1) := by decide +kernel
theorem dX5_copyFrom_34 : decode cX5_copyFrom 34 = .ok (.getfield 18, 3) := by decide +kernel
theorem dX5_copyFrom_37 : decode cX5_copyFrom 37 = .ok (.iconst 0, 1) := by decide +kernel
theorem dX5_copyFrom_38 : decode cX5_copyFrom 38 = .ok (.iconst 5, 1) := by decide +kernel
theorem dX5_copyFrom_39 : decode cX5_copyFrom 39 = .ok (.invokestatic 24, 3) := by decide +kernel
theorem dX5_copyFrom_42 : decode cX5_copyFrom 42 = .ok (.aload_n 1, 1) := by decide +kernel
theorem dX5_copyFrom_43 : decode cX5_copyFrom 43 = .ok (.getfield 21, 3) := by decide +kernel
theorem dX5_copyFrom_46 : decode cX5_copyFrom 46 = .ok (.iconst 0, 1) := by decide +kernel
theorem dX5_copyFrom_47 : decode cX5_copyFrom 47 = .ok (.aload_n 0, 1) := by decide +kernel
theorem dX5_copyFrom_48 : decode cX5_copyFrom 48 = .ok (.getfield 21, 3) := by decide +kernel
theorem dX5_copyFrom_51 : decode cX5_copyFrom 51 = .ok (.iconst 0, 1) := by decide +kernel
theorem dX5_copyFrom_52 : decode cX5_copyFrom 52 = .ok (.iconst 5, 1) := by decide +kernel
theorem dX5_copyFrom_53 : decode cX5_copyFrom 53 = .ok (.invokestatic 24, 3) := by decide +kernel
theorem dX5_copyFrom_56 : decode cX5_copyFrom 56 = .ok (.return_, 1) := by decide +kernel
theorem dX5_isInDrawer_0 : decode cX5_isInDrawer 0 = .ok (.iload_n 1, 1) := by decide +kernel
theorem dX5_isInDrawer_1 : decode cX5_isInDrawer 1 = .ok (.invokestatic 30, 3) := by decide +kernel
theorem dX5_isInDrawer_4 : decode cX5_isInDrawer 4 = .ok (.ifCond .eq 18, 3) := by decide +kernel
theorem dX5_isInDrawer_7 : decode cX5_isInDrawer 7 = .ok (.aload_n 0, 1) := by decide +kernel
theorem dX5_isInDrawer_8 : decode cX5_isInDrawer 8 = .ok (.getfield 18, 3) := by decide +kernel
theorem dX5_isInDrawer_11 : decode cX5_isInDrawer 11 = .ok (.iload_n 1, 1) := by decide +kernel
theorem dX5_isInDrawer_12 : decode cX5_isInDrawer 12 = .ok (.iaload, 1) := by decide +kernel
theorem dX5_isInDrawer_13 : decode cX5_isInDrawer 13 = .ok (.bipush (-6), 2) := by decide +kernel
theorem dX5_isInDrawer_15 : decode cX5_isInDrawer 15 = .ok (.if_icmp .ne 7, 3) := by decide +kernel
theorem dX5_isInDrawer_18 : decode cX5_isInDrawer 18 = .ok (.iconst 1, 1) := by decide +kernel
theorem dX5_isInDrawer_19 : decode cX5_isInDrawer 19 = .ok (.goto 4, 3) := by decide +kernel
theorem dX5_isInDrawer_22 : decode cX5_isInDrawer 22 = .ok (.iconst 0, 1) := by decide +kernel
theorem dX5_isInDrawer_23 : decode cX5_isInDrawer 23 = .ok (.ireturn, 1) := by decide +kernel
theorem dX5_isOnLeft_0 : decode cX5_isOnLeft 0 = .ok (.iload_n 1, 1) := by decide +kernel
theorem dX5_isOnLeft_1 : decode cX5_isOnLeft 1 = .ok (.invokestatic 30, 3) := by decide +kernel
theorem dX5_isOnLeft_4 : decode cX5_isOnLeft 4 = .ok (.ifCond .eq 16, 3) := by decide +kernel
theorem dX5_isOnLeft_7 : decode cX5_isOnLeft 7 = .ok (.aload_n 0, 1) := by decide +kernel
theorem dX5_isOnLeft_8 : decode cX5_isOnLeft 8 = .ok (.getfield 18, 3) := by decide +kernel
theorem dX5_isOnLeft_11 : decode cX5_isOnLeft 11 = .ok (.iload_n 1, 1) := by decide +kernel
theorem dX5_isOnLeft_12 : decode cX5_isOnLeft 12 = .ok (.iaload, 1) := by decide +kernel
theorem dX5_isOnLeft_13 : decode cX5_isOnLeft 13 = .ok (.ifCond .ne 7, 3) := by decide +kernel
theorem dX5_isOnLeft_16 : decode cX5_isOnLeft 16 = .ok (.iconst 1, 1) := by decide +kernel
theorem dX5_isOnLeft_17 : decode cX5_isOnLeft 17 = .ok (.goto 4, 3) := by decide +kernel
theorem dX5_isOnLeft_20 : decode cX5_isOnLeft 20 = .ok (.iconst 0, 1) := by decide +kernel
theorem dX5_isOnLeft_21 : decode cX5_isOnLeft 21 = .ok (.ireturn, 1) := by decide +kernel
theorem dX5_hasYarn_0 : decode cX5_hasYarn 0 = .ok (.iload_n 1, 1) := by decide +kernel
theorem dX5_hasYarn_1 : decode cX5_hasYarn 1 = .ok (.invokestatic 30, 3) := by decide +kernel
theorem dX5_hasYarn_4 : decode cX5_hasYarn 4 = .ok (.ifCond .eq 16, 3) := by decide +kernel
theorem dX5_hasYarn_7 : decode cX5_hasYarn 7 = .ok (.aload_n 0, 1) := by decide +kernel
theorem dX5_hasYarn_8 : decode cX5_hasYarn 8 = .ok (.getfield 15, 3) := by decide +kernel
theorem dX5_hasYarn_11 : decode cX5_hasYarn 11 = .ok (.iload_n 1, 1) := by decide +kernel
theorem dX5_hasYarn_12 : decode cX5_hasYarn 12 = .ok (.iaload, 1) := by decide +kernel
theorem dX5_hasYarn_13 : decode cX5_hasYarn 13 = .ok (.ifCond .le 7, 3) := by decide +kernel
theorem dX5_hasYarn_16 : decode cX5_hasYarn 16 = .ok (.iconst 1, 1) := by decide +kernel
theorem dX5_hasYarn_17 : decode cX5_hasYarn 17 = .ok (.goto 4, 3) := by decide +kernel
theorem dX5_hasYarn_20 : decode cX5_hasYarn 20 = .ok (.iconst 0, 1) := by decide +kernel
theorem dX5_hasYarn_21 : decode cX5_hasYarn 21 = .ok (.ireturn, 1) := by decide +kernel
theorem dX5_colourOf_0 : decode cX5_colourOf 0 = .ok (.iload_n 1, 1) := by decide +kernel
theorem dX5_colourOf_1 : decode cX5_colourOf 1 = .ok (.invokestatic 30, 3) := by decide +kernel
theorem dX5_colourOf_4 : decode cX5_colourOf 4 = .ok (.ifCond .eq 12, 3) := by decide +kernel
theorem dX5_colourOf_7 : decode cX5_colourOf 7 = .ok (.aload_n 0, 1) := by decide +kernel
theorem dX5_colourOf_8 : decode cX5_colourOf 8 = .ok (.getfield 9, 3) := by decide +kernel
theorem dX5_colourOf_11 : decode cX5_colourOf 11 = .ok (.iload_n 1, 1) := by decide +kernel
theorem dX5_colourOf_12 : decode cX5_colourOf 12 = .ok (.iaload, 1) := by decide +kernel
theorem dX5_colourOf_13 : decode cX5_colourOf 13 = .ok (.goto 5, 3) := by decide +kernel
theorem dX5_colourOf_16 : decode cX5_colourOf 16 = .ok (.bipush (-6), 2) := by decide +kernel
theorem dX5_colourOf_18 : decode cX5_colourOf 18 = .ok (.ireturn, 1) := by decide +kernel
theorem dX5_findIn_0 : decode cX5_findIn 0 = .ok (.iconst 0, 1) := by decide +kernel
theorem dX5_findIn_1 : decode cX5_findIn 1 = .ok (.istore_n 3, 1) := by decide +kernel
theorem dX5_findIn_2 : decode cX5_findIn 2 = .ok (.iload_n 3, 1) := by decide +kernel
theorem dX5_findIn_3 : decode cX5_findIn 3 = .ok (.iconst 5, 1) := by decide +kernel
theorem dX5_findIn_4 : decode cX5_findIn 4 = .ok (.if_icmp .ge 31, 3) := by decide +kernel
theorem dX5_findIn_7 : decode cX5_findIn 7 = .ok (.aload_n 0, 1) := by decide +kernel
theorem dX5_findIn_8 : decode cX5_findIn 8 = .ok (.getfield 18, 3) := by decide +kernel
theorem dX5_findIn_11 : decode cX5_findIn 11 = .ok (.iload_n 3, 1) := by decide +kernel
theorem dX5_findIn_12 : decode cX5_findIn 12 = .ok (.iaload, 1) := by decide +kernel
theorem dX5_findIn_13 : decode cX5_findIn 13 = .ok (.iload_n 1, 1) := by decide +kernel
theorem dX5_findIn_14 : decode cX5_findIn 14 = .ok (.if_icmp .ne 15, 3) := by decide +kernel
theorem dX5_findIn_17 : decode cX5_findIn 17 = .ok (.aload_n 0, 1) := by decide +kernel
theorem dX5_findIn_18 : decode cX5_findIn 18 = .ok (.getfield 21, 3) := by decide +kernel
theorem dX5_findIn_21 : decode cX5_findIn 21 = .ok (.iload_n 3, 1) := by decide +kernel
theorem dX5_findIn_22 : decode cX5_findIn 22 = .ok (.iaload, 1) := by decide +kernel
theorem dX5_findIn_23 : decode cX5_findIn 23 = .ok (.iload_n 2, 1) := by decide +kernel
theorem dX5_findIn_24 : decode cX5_findIn 24 = .ok (.if_icmp .ne 5, 3) := by decide +kernel
theorem dX5_findIn_27 : decode cX5_findIn 27 = .ok (.iload_n 3, 1) := by decide +kernel
theorem dX5_findIn_28 : decode cX5_findIn 28 = .ok (.ireturn, 1) := by decide +kernel
theorem dX5_findIn_29 : decode cX5_findIn 29 = .ok (.iinc 3 1, 3) := by decide +kernel
theorem dX5_findIn_32 : decode cX5_findIn 32 = .ok (.goto (-30), 3) := by decide +kernel
theorem dX5_findIn_35 : decode cX5_findIn 35 = .ok (.bipush (-6), 2) := by decide +kernel
theorem dX5_findIn_37 : decode cX5_findIn 37 = .ok (.ireturn, 1) := by decide +kernel
theorem dX5_numberInBoxes_0 : decode cX5_numberInBoxes 0 = .ok (.iconst 0, 1) := by decide +kernel
theorem dX5_numberInBoxes_1 : decode cX5_numberInBoxes 1 = .ok (.istore_n 1, 1) := by decide +kernel
theorem dX5_numberInBoxes_2 : decode cX5_numberInBoxes 2 = .ok (.iconst 0, 1) := by decide +kernel
theorem dX5_numberInBoxes_3 : decode cX5_numberInBoxes 3 = .ok (.istore_n 2, 1) := by decide +kernel
theorem dX5_numberInBoxes_4 : decode cX5_numberInBoxes 4 = .ok (.iload_n 2, 1) := by decide +kernel
theorem dX5_numberInBoxes_5 : decode cX5_numberInBoxes 5 = .ok (.iconst 5, 1) := by decide +kernel
theorem dX5_numberInBoxes_6 : decode cX5_numberInBoxes 6 = .ok (.if_icmp .ge 23, 3) := by decide +kernel
theorem dX5_numberInBoxes_9 : decode cX5_numberInBoxes 9 = .ok (.aload_n 0, 1) := by decide +kernel
theorem dX5_numberInBoxes_10 : decode cX5_numberInBoxes 10 = .ok (.getfield 18, 3) := by decide +kernel
theorem dX5_numberInBoxes_13 : decode cX5_numberInBoxes 13 = .ok (.iload_n 2, 1) := by decide +kernel
theorem dX5_numberInBoxes_14 : decode cX5_numberInBoxes 14 = .ok (.iaload, 1) := by decide +kernel
theorem dX5_numberInBoxes_15 : decode cX5_numberInBoxes 15 = .ok (.bipush (-6), 2) := by decide +kernel
theorem dX5_numberInBoxes_17 : decode cX5_numberInBoxes 17 = .ok (.if_icmp .eq 6, 3) := by decide +kernel
theorem dX5_numberInBoxes_20 : decode cX5_numberInBoxes 20 = .ok (.iinc 1 1, 3) := by decide +kernel
theorem dX5_numberInBoxes_23 : decode cX5_numberInBoxes 23 = .ok (.iinc 2 1, 3) := by decide +kernel
theorem dX5_numberInBoxes_26 : decode cX5_numberInBoxes 26 = .ok (.goto (-22), 3) := by decide +kernel
theorem dX5_numberInBoxes_29 : decode cX5_numberInBoxes 29 = .ok (.iload_n 1, 1) := by decide +kernel
theorem dX5_numberInBoxes_30 : decode cX5_numberInBoxes 30 = .ok (.ireturn, 1) := by decide +kernel
theorem dX5_place_0 : decode cX5_place 0 = .ok (.iload_n 1, 1) := by decide +kernel
theorem dX5_place_1 : decode cX5_place 1 = .ok (.invokestatic 30, 3) := by decide +kernel
theorem dX5_place_4 : decode cX5_place 4 = .ok (.ifCond .eq 17, 3) := by decide +kernel
theorem dX5_place_7 : decode cX5_place 7 = .ok (.aload_n 0, 1) := by decide +kernel
theorem dX5_place_8 : decode cX5_place 8 = .ok (.getfield 18, 3) := by decide +kernel
theorem dX5_place_11 : decode cX5_place 11 = .ok (.iload_n 1, 1) := by decide +kernel
theorem dX5_place_12 : decode cX5_place 12 = .ok (.iload_n 2, 1) := by decide +kernel
theorem dX5_place_13 : decode cX5_place 13 = .ok (.iastore, 1) := by decide +kernel
theorem dX5_place_14 : decode cX5_place 14 = .ok (.aload_n 0, 1) := by decide +kernel
theorem dX5_place_15 : decode cX5_place 15 = .ok (.getfield 21, 3) := by decide +kernel
theorem dX5_place_18 : decode cX5_place 18 = .ok (.iload_n 1, 1) := by decide +kernel
theorem dX5_place_19 : decode cX5_place 19 = .ok (.iload_n 3, 1) := by decide +kernel
theorem dX5_place_20 : decode cX5_place 20 = .ok (.iastore, 1) := by decide +kernel
theorem dX5_place_21 : decode cX5_place 21 = .ok (.return_, 1) := by decide +kernel
theorem dX5_addYarn_0 : decode cX5_addYarn 0 = .ok (.iload_n 1, 1) := by decide +kernel
theorem dX5_addYarn_1 : decode cX5_addYarn 1 = .ok (.invokestatic 30, 3) := by decide +kernel
theorem dX5_addYarn_4 : decode cX5_addYarn 4 = .ok (.ifCond .eq 13, 3) := by decide +kernel
theorem dX5_addYarn_7 : decode cX5_addYarn 7 = .ok (.aload_n 0, 1) := by decide +kernel
theorem dX5_addYarn_8 : decode cX5_addYarn 8 = .ok (.getfield 15, 3) := by decide +kernel
theorem dX5_addYarn_11 : decode cX5_addYarn 11 = .ok (.iload_n 1, 1) := by decide +kernel
theorem dX5_addYarn_12 : decode cX5_addYarn 12 = .ok (.dup2, 1) := by decide +kernel
theorem dX5_addYarn_13 : decode cX5_addYarn 13 = .ok (.iaload, 1) := by decide +kernel
theorem dX5_addYarn_14 : decode cX5_addYarn 14 = .ok (.iload_n 2, 1) := by decide +kernel
theorem dX5_addYarn_15 : decode cX5_addYarn 15 = .ok (.iadd, 1) := by decide +kernel
theorem dX5_addYarn_16 : decode cX5_addYarn 16 = .ok (.iastore, 1) := by decide +kernel
theorem dX5_addYarn_17 : decode cX5_addYarn 17 = .ok (.return_, 1) := by decide +kernel
theorem dX5_standAs_0 : decode cX5_standAs 0 = .ok (.iconst 0, 1) := by decide +kernel
theorem dX5_standAs_1 : decode cX5_standAs 1 = .ok (.istore_n 2, 1) := by decide +kernel
theorem dX5_standAs_2 : decode cX5_standAs 2 = .ok (.iload_n 2, 1) := by decide +kernel
theorem dX5_standAs_3 : decode cX5_standAs 3 = .ok (.iconst 5, 1) := by decide +kernel
theorem dX5_standAs_4 : decode cX5_standAs 4 = .ok (.if_icmp .ge 41, 3) := by decide +kernel
theorem dX5_standAs_7 : decode cX5_standAs 7 = .ok (.aload_n 0, 1) := by decide +kernel
theorem dX5_standAs_8 : decode cX5_standAs 8 = .ok (.getfield 18, 3) := by decide +kernel
theorem dX5_standAs_11 : decode cX5_standAs 11 = .ok (.iload_n 2, 1) := by decide +kernel
theorem dX5_standAs_12 : decode cX5_standAs 12 = .ok (.iaload, 1) := by decide +kernel
theorem dX5_standAs_13 : decode cX5_standAs 13 = .ok (.aload_n 1, 1) := by decide +kernel
theorem dX5_standAs_14 : decode cX5_standAs 14 = .ok (.getfield 18, 3) := by decide +kernel
theorem dX5_standAs_17 : decode cX5_standAs 17 = .ok (.iload_n 2, 1) := by decide +kernel
theorem dX5_standAs_18 : decode cX5_standAs 18 = .ok (.iaload, 1) := by decide +kernel
theorem dX5_standAs_19 : decode cX5_standAs 19 = .ok (.if_icmp .ne 18, 3) := by decide +kernel
theorem dX5_standAs_22 : decode cX5_standAs 22 = .ok (.aload_n 0, 1) := by decide +kernel
theorem dX5_standAs_23 : decode cX5_standAs 23 = .ok (.getfield 21, 3) := by decide +kernel
theorem dX5_standAs_26 : decode cX5_standAs 26 = .ok (.iload_n 2, 1) := by decide +kernel
theorem dX5_standAs_27 : decode cX5_standAs 27 = .ok (.iaload, 1) := by decide +kernel
theorem dX5_standAs_28 : decode cX5_standAs 28 = .ok (.aload_n 1, 1) := by decide +kernel
theorem dX5_standAs_29 : decode cX5_standAs 29 = .ok (.getfield 21, 3) := by decide +kernel
theorem dX5_standAs_32 : decode cX5_standAs 32 = .ok (.iload_n 2, 1) := by decide +kernel
theorem dX5_standAs_33 : decode cX5_standAs 33 = .ok (.iaload, 1) := by decide +kernel
theorem dX5_standAs_34 : decode cX5_standAs 34 = .ok (.if_icmp .eq 5, 3) := by decide +kernel
theorem dX5_standAs_37 : decode cX5_standAs 37 = .ok (.iconst 0, 1) := by decide +kernel
theorem dX5_standAs_38 : decode cX5_standAs 38 = .ok (.ireturn, 1) := by decide +kernel
theorem dX5_standAs_39 : decode cX5_standAs 39 = .ok (.iinc 2 1, 3) := by decide +kernel
theorem dX5_standAs_42 : decode cX5_standAs 42 = .ok (.goto (-40), 3) := by decide +kernel
theorem dX5_standAs_45 : decode cX5_standAs 45 = .ok (.iconst 1, 1) := by decide +kernel
theorem dX5_standAs_46 : decode cX5_standAs 46 = .ok (.ireturn, 1) := by decide +kernel
