theorem dX4_init_0 : decode cX4_init 0 = .ok (.aload_n 0, 1) := by decide +kernel
theorem dX4_init_1 : decode cX4_init 1 = .ok (.invokespecial 3, 3) := by decide +kernel
theorem dX4_init_4 : decode cX4_init 4 = .ok (.aload_n 0, 1) := by decide +kernel
theorem dX4_init_5 : decode cX4_init 5 = .ok (.new 9, 3) := by decide +kernel
theorem dX4_init_8 : decode cX4_init 8 = .ok (.dup, 1) := by decide +kernel
theorem dX4_init_9 : decode cX4_init 9 = .ok (.invokespecial 11, 3) := by decide +kernel
theorem dX4_init_12 : decode cX4_init 12 = .ok (.putfield 12, 3) := by decide +kernel
theorem dX4_init_15 : decode cX4_init 15 = .ok (.aload_n 0, 1) := by decide +kernel
theorem dX4_init_16 : decode cX4_init 16 = .ok (.new 18, 3) := by decide +kernel
theorem dX4_init_19 : decode cX4_init 19 = .ok (.dup, 1) := by decide +kernel
theorem dX4_init_20 : decode cX4_init 20 = .ok (.invokespecial 20, 3) := by decide +kernel
theorem dX4_init_23 : decode cX4_init 23 = .ok (.putfield 21, 3) := by decide +kernel
theorem dX4_init_26 : decode cX4_init 26 = .ok (.aload_n 0, 1) := by decide +kernel
theorem dX4_init_27 : decode cX4_init 27 = .ok (.iconst 0, 1) := by decide +kernel
theorem dX4_init_28 : decode cX4_init 28 = .ok (.putfield 25, 3) := by decide +kernel
theorem dX4_init_31 : decode cX4_init 31 = .ok (.aload_n 0, 1) := by decide +kernel
theorem dX4_init_32 : decode cX4_init 32 = .ok (.iconst 0, 1) := by decide +kernel
theorem dX4_init_33 : decode cX4_init 33 = .ok (.putfield 29, 3) := by decide +kernel
theorem dX4_init_36 : decode cX4_init 36 = .ok (.aload_n 0, 1) := by decide +kernel
theorem dX4_init_37 : decode cX4_init 37 = .ok (.iconst 0, 1) := by decide +kernel
theorem dX4_init_38 : decode cX4_init 38 = .ok (.putfield 32, 3) := by decide +kernel
theorem dX4_init_41 : decode cX4_init 41 = .ok (.aload_n 0, 1) := by decide +kernel
theorem dX4_init_42 : decode cX4_init 42 = .ok (.bipush (-6), 2) := by decide +kernel
theorem dX4_init_44 : decode cX4_init 44 = .ok (.putfield 35, 3) := by decide +kernel
theorem dX4_init_47 : decode cX4_init 47 = .ok (.aload_n 0, 1) := by decide +kernel
theorem dX4_init_48 : decode cX4_init 48 = .ok (.iconst 0, 1) := by decide +kernel
theorem dX4_init_49 : decode cX4_init 49 = .ok (.putfield 38, 3) := by decide +kernel
theorem dX4_init_52 : decode cX4_init 52 = .ok (.return_, 1) := by decide +kernel
theorem dX4_copyFrom_0 : decode cX4_copyFrom 0 = .ok (.aload_n 0, 1) := by decide +kernel
theorem dX4_copyFrom_1 : decode cX4_copyFrom 1 = .ok (.getfield 12, 3) := by decide +kernel
theorem dX4_copyFrom_4 : decode cX4_copyFrom 4 = .ok (.aload_n 1, 1) := by decide +kernel
theorem dX4_copyFrom_5 : decode cX4_copyFrom 5 = .ok (.getfield 12, 3) := by decide +kernel
theorem dX4_copyFrom_8 : decode cX4_copyFrom 8 = .ok (.invokevirtual 41, 3) := by decide +kernel
theorem dX4_copyFrom_11 : decode cX4_copyFrom 11 = .ok (.aload_n 0, 1) := by decide +kernel
theorem dX4_copyFrom_12 : decode cX4_copyFrom 12 = .ok (.getfield 21, 3) := by decide +kernel
theorem dX4_copyFrom_15 : decode cX4_copyFrom 15 = .ok (.aload_n 1, 1) := by decide +kernel
theorem dX4_copyFrom_16 : decode cX4_copyFrom 16 = .ok (.getfield 21, 3) := by decide +kernel
theorem dX4_copyFrom_19 : decode cX4_copyFrom 19 = .ok (.invokevirtual 45, 3) := by decide +kernel
theorem dX4_copyFrom_22 : decode cX4_copyFrom 22 = .ok (.aload_n 0, 1) := by decide +kernel
theorem dX4_copyFrom_23 : decode cX4_copyFrom 23 = .ok (.aload_n 1, 1) := by decide +kernel
theorem dX4_copyFrom_24 : decode cX4_copyFrom 24 = .ok (.getfield 25, 3) := by decide +kernel
theorem dX4_copyFrom_27 : decode cX4_copyFrom 27 = .ok (.putfield 25, 3) := by decide +kernel
theorem dX4_copyFrom_30 : decode cX4_copyFrom 30 = .ok (.aload_n 0, 1) := by decide +kernel
theorem dX4_copyFrom_31 : decode cX4_copyFrom 31 = .ok (.aload_n 1, 1) := by decide +kernel
theorem dX4_copyFrom_32 : decode cX4_copyFrom 32 = .ok (.getfield 29, 3) := by decide +kernel
theorem dX4_copyFrom_35 : decode cX4_copyFrom 35 = .ok (.putfield 29, 3) := by decide +kernel
theorem dX4_copyFrom_38 : decode cX4_copyFrom 38 = .ok (.aload_n 0, 1) := by decide +kernel
theorem dX4_copyFrom_39 : decode cX4_copyFrom 39 = .ok (.aload_n 1, 1) := by decide +kernel
theorem dX4_copyFrom_40 : decode cX4_copyFrom 40 = .ok (.getfield 32, 3) := by decide +kernel
theorem dX4_copyFrom_43 : decode cX4_copyFrom 43 = .ok (.putfield 32, 3) := by decide +kernel
theorem dX4_copyFrom_46 : decode cX4_copyFrom 46 = .ok (.aload_n 0, 1) := by decide +kernel
theorem dX4_copyFrom_47 : decode cX4_copyFrom 47 = .ok (.aload_n 1, 1) := by decide +kernel
theorem dX4_copyFrom_48 : decode cX4_copyFrom 48 = .ok (.getfield 35, 3) := by decide +kernel
theorem dX4_copyFrom_51 : decode cX4_copyFrom 51 = .ok (.putfield 35, 3) := by decide +kernel
theorem dX4_copyFrom_54 : decode cX4_copyFrom 54 = .ok (.aload_n 0, 1) := by decide +kernel
theorem dX4_copyFrom_55 : decode cX4_copyFrom 55 = .ok (.aload_n 1, 1) := by decide +kernel
theorem dX4_copyFrom_56 : decode cX4_copyFrom 56 = .ok (.getfield 38, 3) := by decide +kernel
theorem dX4_copyFrom_59 : decode cX4_copyFrom 59 = .ok (.putfield 38, 3) := by decide +kernel
theorem dX4_copyFrom_62 : decode cX4_copyFrom 62 = .ok (.return_, 1) := by decide +kernel
theorem dX4_makePick_0 : decode cX4_makePick 0 = .ok (.aload_n 0, 1) := by decide +kernel
theorem dX4_makePick_1 : decode cX4_makePick 1 = .ok (.getfield 21, 3) := by decide +kernel
theorem dX4_makePick_4 : decode cX4_makePick 4 = .ok (.aload_n 0, 1) := by decide +kernel
theorem dX4_makePick_5 : decode cX4_makePick 5 = .ok (.getfield 12, 3) := by decide +kernel
theorem dX4_makePick_8 : decode cX4_makePick 8 = .ok (.invokevirtual 48, 3) := by decide +kernel
theorem dX4_makePick_11 : decode cX4_makePick 11 = .ok (.aload_n 0, 1) := by decide +kernel
theorem dX4_makePick_12 : decode cX4_makePick 12 = .ok (.getfield 12, 3) := by decide +kernel
theorem dX4_makePick_15 : decode cX4_makePick 15 = .ok (.invokevirtual 51, 3) := by decide +kernel
theorem dX4_makePick_18 : decode cX4_makePick 18 = .ok (.aload_n 0, 1) := by decide +kernel
theorem dX4_makePick_19 : decode cX4_makePick 19 = .ok (.dup, 1) := by decide +kernel
theorem dX4_makePick_20 : decode cX4_makePick 20 = .ok (.getfield 25, 3) := by decide +kernel
theorem dX4_makePick_23 : decode cX4_makePick 23 = .ok (.iconst 1, 1) := by decide +kernel
theorem dX4_makePick_24 : decode cX4_makePick 24 = .ok (.iadd, 1) := by decide +kernel
theorem dX4_makePick_25 : decode cX4_makePick 25 = .ok (.putfield 25, 3) := by decide +kernel
theorem dX4_makePick_28 : decode cX4_makePick 28 = .ok (.aload_n 0, 1) := by decide +kernel
theorem dX4_makePick_29 : decode cX4_makePick 29 = .ok (.aload_n 0, 1) := by decide +kernel
theorem dX4_makePick_30 : decode cX4_makePick 30 = .ok (.getfield 29, 3) := by decide +kernel
theorem dX4_makePick_33 : decode cX4_makePick 33 = .ok (.iconst 1, 1) := by decide +kernel
theorem dX4_makePick_34 : decode cX4_makePick 34 = .ok (.iadd, 1) := by decide +kernel
theorem dX4_makePick_35 : decode cX4_makePick 35 = .ok (.bipush 20, 2) := by decide +kernel
theorem dX4_makePick_37 : decode cX4_makePick 37 = .ok (.invokestatic 54, 3) := by decide +kernel
theorem dX4_makePick_40 : decode cX4_makePick 40 = .ok (.putfield 29, 3) := by decide +kernel
theorem dX4_makePick_43 : decode cX4_makePick 43 = .ok (.return_, 1) := by decide +kernel
theorem dX4_takePickBack_0 : decode cX4_takePickBack 0 = .ok (.aload_n 0, 1) := by decide +kernel
theorem dX4_takePickBack_1 : decode cX4_takePickBack 1 = .ok (.getfield 21, 3) := by decide +kernel
theorem dX4_takePickBack_4 : decode cX4_takePickBack 4 = .ok (.aload_n 0, 1) := by decide +kernel
theorem dX4_takePickBack_5 : decode cX4_takePickBack 5 = .ok (.getfield 12, 3) := by decide +kernel
theorem dX4_takePickBack_8 : decode cX4_takePickBack 8 = .ok (.invokevirtual 60, 3) := by decide +kernel
theorem dX4_takePickBack_11 : decode cX4_takePickBack 11 = .ok (.aload_n 0, 1) := by decide +kernel
theorem dX4_takePickBack_12 : decode cX4_takePickBack 12 = .ok (.dup, 1) := by decide +kernel
theorem dX4_takePickBack_13 : decode cX4_takePickBack 13 = .ok (.getfield 25, 3) := by decide +kernel
theorem dX4_takePickBack_16 : decode cX4_takePickBack 16 = .ok (.iconst 1, 1) := by decide +kernel
theorem dX4_takePickBack_17 : decode cX4_takePickBack 17 = .ok (.isub, 1) := by decide +kernel
theorem dX4_takePickBack_18 : decode cX4_takePickBack 18 = .ok (.putfield 25, 3) := by decide +kernel
theorem dX4_takePickBack_21 : decode cX4_takePickBack 21 = .ok (.aload_n 0, 1) := by decide +kernel
theorem dX4_takePickBack_22 : decode cX4_takePickBack 22 = .ok (.dup, 1) := by decide +kernel
theorem dX4_takePickBack_23 : decode cX4_takePickBack 23 = .ok (.getfield 29, 3) := by decide +kernel
theorem dX4_takePickBack_26 : decode cX4_takePickBack 26 = .ok (.iconst 1, 1) := by decide +kernel
theorem dX4_takePickBack_27 : decode cX4_takePickBack 27 = .ok (.isub, 1) := by decide +kernel
theorem dX4_takePickBack_28 : decode cX4_takePickBack 28 = .ok (.putfield 29, 3) := by decide +kernel
theorem dX4_takePickBack_31 : decode cX4_takePickBack 31 = .ok (.return_, 1) := by decide +kernel
theorem dX4_noteStop_0 : decode cX4_noteStop 0 = .ok (.aload_n 0, 1) := by decide +kernel
theorem dX4_noteStop_1 : decode cX4_noteStop 1 = .ok (.iload_n 1, 1) := by decide +kernel
theorem dX4_noteStop_2 : decode cX4_noteStop 2 = .ok (.putfield 32, 3) := by decide +kernel
theorem dX4_noteStop_5 : decode cX4_noteStop 5 = .ok (.aload_n 0, 1) := by decide +kernel
theorem dX4_noteStop_6 : decode cX4_noteStop 6 = .ok (.aload_n 0, 1) := by decide +kernel
theorem dX4_noteStop_7 : decode cX4_noteStop 7 = .ok (.getfield 12, 3) := by decide +kernel
theorem dX4_noteStop_10 : decode cX4_noteStop 10 = .ok (.iload_n 1, 1) := by decide +kernel
theorem dX4_noteStop_11 : decode cX4_noteStop 11 = .ok (.invokevirtual 63, 3) := by decide +kernel
theorem dX4_noteStop_14 : decode cX4_noteStop 14 = .ok (.putfield 35, 3) := by decide +kernel
theorem dX4_noteStop_17 : decode cX4_noteStop 17 = .ok (.aload_n 0, 1) := by decide +kernel
theorem dX4_noteStop_18 : decode cX4_noteStop 18 = .ok (.dup, 1) := by decide +kernel
theorem dX4_noteStop_19 : decode cX4_noteStop 19 = .ok (.getfield 38, 3) := by decide +kernel
theorem dX4_noteStop_22 : decode cX4_noteStop 22 = .ok (.iconst 1, 1) := by decide +kernel
theorem dX4_noteStop_23 : decode cX4_noteStop 23 = .ok (.iadd, 1) := by decide +kernel
theorem dX4_noteStop_24 : decode cX4_noteStop 24 = .ok (.putfield 38, 3) := by decide +kernel
theorem dX4_noteStop_27 : decode cX4_noteStop 27 = .ok (.return_, 1) := by decide +kernel
