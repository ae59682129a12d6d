theorem dX0_init_0 : decode cX0_init 0 = .ok (.aload_n 0, 1) := by decide +kernel
theorem dX0_init_1 : decode cX0_init 1 = .ok (.invokespecial 3, 3) := by decide +kernel
theorem dX0_init_4 : decode cX0_init 4 = .ok (.aload_n 0, 1) := by decide +kernel
theorem dX0_init_5 : decode cX0_init 5 = .ok (.iconst 4, 1) := by decide +kernel
theorem dX0_init_6 : decode cX0_init 6 = .ok (.newarray .int, 2) := by decide +kernel
theorem dX0_init_8 : decode cX0_init 8 = .ok (.putfield 9, 3) := by decide +kernel
theorem dX0_init_11 : decode cX0_init 11 = .ok (.aload_n 0, 1) := by decide +kernel
theorem dX0_init_12 : decode cX0_init 12 = .ok (.iconst 4, 1) := by decide +kernel
theorem dX0_init_13 : decode cX0_init 13 = .ok (.newarray .int, 2) := by decide +kernel
theorem dX0_init_15 : decode cX0_init 15 = .ok (.putfield 15, 3) := by decide +kernel
theorem dX0_init_18 : decode cX0_init 18 = .ok (.aload_n 0, 1) := by decide +kernel
theorem dX0_init_19 : decode cX0_init 19 = .ok (.iconst 4, 1) := by decide +kernel
theorem dX0_init_20 : decode cX0_init 20 = .ok (.newarray .int, 2) := by decide +kernel
theorem dX0_init_22 : decode cX0_init 22 = .ok (.putfield 18, 3) := by decide +kernel
theorem dX0_init_25 : decode cX0_init 25 = .ok (.aload_n 0, 1) := by decide +kernel
theorem dX0_init_26 : decode cX0_init 26 = .ok (.new 21, 3) := by decide +kernel
theorem dX0_init_29 : decode cX0_init 29 = .ok (.dup, 1) := by decide +kernel
theorem dX0_init_30 : decode cX0_init 30 = .ok (.invokespecial 23, 3) := by decide +kernel
theorem dX0_init_33 : decode cX0_init 33 = .ok (.putfield 24, 3) := by decide +kernel
theorem dX0_init_36 : decode cX0_init 36 = .ok (.return_, 1) := by decide +kernel
theorem dX0_become_0 : decode cX0_become 0 = .ok (.aload_n 0, 1) := by decide +kernel
theorem dX0_become_1 : decode cX0_become 1 = .ok (.iload_n 1, 1) := by decide +kernel
theorem dX0_become_2 : decode cX0_become 2 = .ok (.putfield 28, 3) := by decide +kernel
theorem dX0_become_5 : decode cX0_become 5 = .ok (.aload_n 0, 1) := by decide +kernel
theorem dX0_become_6 : decode cX0_become 6 = .ok (.iload_n 2, 1) := by decide +kernel
theorem dX0_become_7 : decode cX0_become 7 = .ok (.putfield 32, 3) := by decide +kernel
theorem dX0_become_10 : decode cX0_become 10 = .ok (.aload_n 0, 1) := by decide +kernel
theorem dX0_become_11 : decode cX0_become 11 = .ok (.iload_n 3, 1) := by decide +kernel
theorem dX0_become_12 : decode cX0_become 12 = .ok (.putfield 35, 3) := by decide +kernel
theorem dX0_become_15 : decode cX0_become 15 = .ok (.aload_n 0, 1) := by decide +kernel
theorem dX0_become_16 : decode cX0_become 16 = .ok (.iconst 0, 1) := by decide +kernel
theorem dX0_become_17 : decode cX0_become 17 = .ok (.putfield 38, 3) := by decide +kernel
theorem dX0_become_20 : decode cX0_become 20 = .ok (.aload_n 0, 1) := by decide +kernel
theorem dX0_become_21 : decode cX0_become 21 = .ok (.iconst 0, 1) := by decide +kernel
theorem dX0_become_22 : decode cX0_become 22 = .ok (.putfield 41, 3) := by decide +kernel
theorem dX0_become_25 : decode cX0_become 25 = .ok (.aload_n 0, 1) := by decide +kernel
theorem dX0_become_26 : decode cX0_become 26 = .ok (.iconst 0, 1) := by decide +kernel
theorem dX0_become_27 : decode cX0_become 27 = .ok (.putfield 44, 3) := by decide +kernel
theorem dX0_become_30 : decode cX0_become 30 = .ok (.aload_n 0, 1) := by decide +kernel
theorem dX0_become_31 : decode cX0_become 31 = .ok (.iconst 0, 1) := by decide +kernel
theorem dX0_become_32 : decode cX0_become 32 = .ok (.putfield 47, 3) := by decide +kernel
theorem dX0_become_35 : decode cX0_become 35 = .ok (.aload_n 0, 1) := by decide +kernel
theorem dX0_become_36 : decode cX0_become 36 = .ok (.bipush (-9), 2) := by decide +kernel
theorem dX0_become_38 : decode cX0_become 38 = .ok (.putfield 51, 3) := by decide +kernel
theorem dX0_become_41 : decode cX0_become 41 = .ok (.aload_n 0, 1) := by decide +kernel
theorem dX0_become_42 : decode cX0_become 42 = .ok (.getfield 9, 3) := by decide +kernel
theorem dX0_become_45 : decode cX0_become 45 = .ok (.iconst 0, 1) := by decide +kernel
theorem dX0_become_46 : decode cX0_become 46 = .ok (.invokestatic 54, 3) := by decide +kernel
theorem dX0_become_49 : decode cX0_become 49 = .ok (.aload_n 0, 1) := by decide +kernel
theorem dX0_become_50 : decode cX0_become 50 = .ok (.getfield 15, 3) := by decide +kernel
theorem dX0_become_53 : decode cX0_become 53 = .ok (.iconst 0, 1) := by decide +kernel
theorem dX0_become_54 : decode cX0_become 54 = .ok (.invokestatic 54, 3) := by decide +kernel
theorem dX0_become_57 : decode cX0_become 57 = .ok (.aload_n 0, 1) := by decide +kernel
theorem dX0_become_58 : decode cX0_become 58 = .ok (.getfield 18, 3) := by decide +kernel
theorem dX0_become_61 : decode cX0_become 61 = .ok (.iconst 0, 1) := by decide +kernel
theorem dX0_become_62 : decode cX0_become 62 = .ok (.invokestatic 54, 3) := by decide +kernel
theorem dX0_become_65 : decode cX0_become 65 = .ok (.aload_n 0, 1) := by decide +kernel
theorem dX0_become_66 : decode cX0_become 66 = .ok (.getfield 24, 3) := by decide +kernel
theorem dX0_become_69 : decode cX0_become 69 = .ok (.invokevirtual 60, 3) := by decide +kernel
theorem dX0_become_72 : decode cX0_become 72 = .ok (.return_, 1) := by decide +kernel
theorem dX0_isReading_0 : decode cX0_isReading 0 = .ok (.aload_n 0, 1) := by decide +kernel
theorem dX0_isReading_1 : decode cX0_isReading 1 = .ok (.getfield 28, 3) := by decide +kernel
theorem dX0_isReading_4 : decode cX0_isReading 4 = .ok (.ifCond .eq 14, 3) := by decide +kernel
theorem dX0_isReading_7 : decode cX0_isReading 7 = .ok (.aload_n 0, 1) := by decide +kernel
theorem dX0_isReading_8 : decode cX0_isReading 8 = .ok (.getfield 47, 3) := by decide +kernel
theorem dX0_isReading_11 : decode cX0_isReading 11 = .ok (.ifCond .ne 7, 3) := by decide +kernel
theorem dX0_isReading_14 : decode cX0_isReading 14 = .ok (.iconst 1, 1) := by decide +kernel
theorem dX0_isReading_15 : decode cX0_isReading 15 = .ok (.goto 4, 3) := by decide +kernel
theorem dX0_isReading_18 : decode cX0_isReading 18 = .ok (.iconst 0, 1) := by decide +kernel
theorem dX0_isReading_19 : decode cX0_isReading 19 = .ok (.ireturn, 1) := by decide +kernel
theorem dX0_copyFrom_0 : decode cX0_copyFrom 0 = .ok (.aload_n 0, 1) := by decide +kernel
theorem dX0_copyFrom_1 : decode cX0_copyFrom 1 = .ok (.aload_n 1, 1) := by decide +kernel
theorem dX0_copyFrom_2 : decode cX0_copyFrom 2 = .ok (.getfield 28, 3) := by decide +kernel
theorem dX0_copyFrom_5 : decode cX0_copyFrom 5 = .ok (.putfield 28, 3) := by decide +kernel
theorem dX0_copyFrom_8 : decode cX0_copyFrom 8 = .ok (.aload_n 0, 1) := by decide +kernel
theorem dX0_copyFrom_9 : decode cX0_copyFrom 9 = .ok (.aload_n 1, 1) := by decide +kernel
theorem dX0_copyFrom_10 : decode cX0_copyFrom 10 = .ok (.getfield 32, 3) := by decide +kernel
theorem dX0_copyFrom_13 : decode cX0_copyFrom 13 = .ok (.putfield 32, 3) := by decide +kernel
theorem dX0_copyFrom_16 : decode cX0_copyFrom 16 = .ok (.aload_n 0, 1) := by decide +kernel
theorem dX0_copyFrom_17 : decode cX0_copyFrom 17 = .ok (.aload_n 1, 1) := by decide +kernel
theorem dX0_copyFrom_18 : decode cX0_copyFrom 18 = .ok (.getfield 35, 3) := by decide +kernel
theorem dX0_copyFrom_21 : decode cX0_copyFrom 21 = .ok (.putfield 35, 3) := by decide +kernel
theorem dX0_copyFrom_24 : decode cX0_copyFrom 24 = .ok (.aload_n 0, 1) := by decide +kernel
theorem dX0_copyFrom_25 : decode cX0_copyFrom 25 = .ok (.aload_n 1, 1) := by decide +kernel
theorem dX0_copyFrom_26 : decode cX0_copyFrom 26 = .ok (.getfield 38, 3) := by decide +kernel
theorem dX0_copyFrom_29 : decode cX0_copyFrom 29 = .ok (.putfield 38, 3) := by decide +kernel
theorem dX0_copyFrom_32 : decode cX0_copyFrom 32 = .ok (.aload_n 0, 1) := by decide +kernel
theorem dX0_copyFrom_33 : decode cX0_copyFrom 33 = .ok (.aload_n 1, 1) := by decide +kernel
theorem dX0_copyFrom_34 : decode cX0_copyFrom 34 = .ok (.getfield 41, 3) := by decide +kernel
theorem dX0_copyFrom_37 : decode cX0_copyFrom 37 = .ok (.putfield 41, 3) := by decide +kernel
theorem dX0_copyFrom_40 : decode cX0_copyFrom 40 = .ok (.aload_n 0, 1) := by decide +kernel
theorem dX0_copyFrom_41 : decode cX0_copyFrom 41 = .ok (.aload_n 1, 1) := by decide +kernel
theorem dX0_copyFrom_42 : decode cX0_copyFrom 42 = .ok (.getfield 44, 3) := by decide +kernel
theorem dX0_copyFrom_45 : decode cX0_copyFrom 45 = .ok (.putfield 44, 3) := by decide +kernel
theorem dX0_copyFrom_48 : decode cX0_copyFrom 48 = .ok (.aload_n 0, 1) := by decide +kernel
theorem dX0_copyFrom_49 : decode cX0_copyFrom 49 = .ok (.aload_n 1, 1) := by decide +kernel
theorem dX0_copyFrom_50 : decode cX0_copyFrom 50 = .ok (.getfield 47, 3) := by decide +kernel
theorem dX0_copyFrom_53 : decode cX0_copyFrom 53 = .ok (.putfield 47, 3) := by decide +kernel
theorem dX0_copyFrom_56 : decode cX0_copyFrom 56 = .ok (.aload_n 0, 1) := by decide +kernel
theorem dX0_copyFrom_57 : decode cX0_copyFrom 57 = .ok (.aload_n 1, 1) := by decide +kernel
theorem dX0_copyFrom_58 : decode cX0_copyFrom 58 = .ok (.getfield 51, 3) := by decide +kernel
theorem dX0_copyFrom_61 : decode cX0_copyFrom 61 = .ok (.putfield 51, 3) := by decide +kernel
theorem dX0_copyFrom_64 : decode cX0_copyFrom 64 = .ok (.aload_n 1, 1) := by decide +kernel
theorem dX0_copyFrom_65 : decode cX0_copyFrom 65 = .ok (.getfield 9, 3) := by decide +kernel
theorem dX0_copyFrom_68 : decode cX0_copyFrom 68 = .ok (.aload_n 0, 1) := by decide +kernel
theorem dX0_copyFrom_69 : decode cX0_copyFrom 69 = .ok (.getfield 9, 3) := by decide +kernel
theorem dX0_copyFrom_72 : decode cX0_copyFrom 72 = .ok (.invokestatic 63, 3) := by decide +kernel
theorem dX0_copyFrom_75 : decode cX0_copyFrom 75 = .ok (.aload_n 1, 1) := by decide +kernel
theorem dX0_copyFrom_76 : decode cX0_copyFrom 76 = .ok (.getfield 15, 3) := by decide +kernel
theorem dX0_copyFrom_79 : decode cX0_copyFrom 79 = .ok (.aload_n 0, 1) := by decide +kernel
theorem dX0_copyFrom_80 : decode cX0_copyFrom 80 = .ok (.getfield 15, 3) := by decide +kernel
theorem dX0_copyFrom_83 : decode cX0_copyFrom 83 = .ok (.invokestatic 63, 3) := by decide +kernel
theorem dX0_copyFrom_86 : decode cX0_copyFrom 86 = .ok (.aload_n 1, 1) := by decide +kernel
theorem dX0_copyFrom_87 : decode cX0_copyFrom 87 = .ok (.getfield 18, 3) := by decide +kernel
theorem dX0_copyFrom_90 : decode cX0_copyFrom 90 = .ok (.aload_n 0, 1) := by decide +kernel
theorem dX0_copyFrom_91 : decode cX0_copyFrom 91 = .ok (.getfield 18, 3) := by decide +kernel
theorem dX0_copyFrom_94 : decode cX0_copyFrom 94 = .ok (.invokestatic 63, 3) := by decide +kernel
theorem dX0_copyFrom_97 : decode cX0_copyFrom 97 = .ok (.aload_n 0, 1) := by decide +kernel
theorem dX0_copyFrom_98 : decode cX0_copyFrom 98 = .ok (.getfield 24, 3) := by decide +kernel
theorem dX0_copyFrom_101 : decode cX0_copyFrom 101 = .ok (.aload_n 1, 1) := by decide +kernel
theorem dX0_copyFrom_102 : decode cX0_copyFrom 102 = .ok (.getfield 24, 3) := by decide +kernel
theorem dX0_copyFrom_105 : decode cX0_copyFrom 105 = .ok (.invokevirtual 67, 3) := by decide +kernel
theorem dX0_copyFrom_108 : decode cX0_copyFrom 108 = .ok (.return_, 1) := by decide +kernel
theorem dX0_readOne_0 : decode cX0_readOne 0 = .ok (.aload_n 0, 1) := by decide +kernel
theorem dX0_readOne_1 : decode cX0_readOne 1 = .ok (.getfield 24, 3) := by decide +kernel
theorem dX0_readOne_4 : decode cX0_readOne 4 = .ok (.aload_n 1, 1) := by decide +kernel
theorem dX0_readOne_5 : decode cX0_readOne 5 = .ok (.aload_n 0, 1) := by decide +kernel
theorem dX0_readOne_6 : decode cX0_readOne 6 = .ok (.getfield 41, 3) := by decide +kernel
theorem dX0_readOne_9 : decode cX0_readOne 9 = .ok (.invokevirtual 71, 3) := by decide +kernel
theorem dX0_readOne_12 : decode cX0_readOne 12 = .ok (.aload_n 0, 1) := by decide +kernel
theorem dX0_readOne_13 : decode cX0_readOne 13 = .ok (.dup, 1) := by decide +kernel
theorem dX0_readOne_14 : decode cX0_readOne 14 = .ok (.getfield 41, 3) := by decide +kernel
theorem dX0_readOne_17 : decode cX0_readOne 17 = .ok (.iconst 1, 1) := by decide +kernel
theorem dX0_readOne_18 : decode cX0_readOne 18 = .ok (.iadd, 1) := by decide +kernel
theorem dX0_readOne_19 : decode cX0_readOne 19 = .ok (.putfield 41, 3) := by decide +kernel
theorem dX0_readOne_22 : decode cX0_readOne 22 = .ok (.return_, 1) := by decide +kernel
theorem dX0_endCollect_0 : decode cX0_endCollect 0 = .ok (.aload_n 0, 1) := by decide +kernel
theorem dX0_endCollect_1 : decode cX0_endCollect 1 = .ok (.iconst 0, 1) := by decide +kernel
theorem dX0_endCollect_2 : decode cX0_endCollect 2 = .ok (.putfield 41, 3) := by decide +kernel
theorem dX0_endCollect_5 : decode cX0_endCollect 5 = .ok (.aload_n 0, 1) := by decide +kernel
theorem dX0_endCollect_6 : decode cX0_endCollect 6 = .ok (.dup, 1) := by decide +kernel
theorem dX0_endCollect_7 : decode cX0_endCollect 7 = .ok (.getfield 44, 3) := by decide +kernel
theorem dX0_endCollect_10 : decode cX0_endCollect 10 = .ok (.iconst 1, 1) := by decide +kernel
theorem dX0_endCollect_11 : decode cX0_endCollect 11 = .ok (.iadd, 1) := by decide +kernel
theorem dX0_endCollect_12 : decode cX0_endCollect 12 = .ok (.putfield 44, 3) := by decide +kernel
theorem dX0_endCollect_15 : decode cX0_endCollect 15 = .ok (.aload_n 0, 1) := by decide +kernel
theorem dX0_endCollect_16 : decode cX0_endCollect 16 = .ok (.getfield 44, 3) := by decide +kernel
theorem dX0_endCollect_19 : decode cX0_endCollect 19 = .ok (.iconst 1, 1) := by decide +kernel
theorem dX0_endCollect_20 : decode cX0_endCollect 20 = .ok (.if_icmp .le 62, 3) := by decide +kernel
theorem dX0_endCollect_23 : decode cX0_endCollect 23 = .ok (.aload_n 0, 1) := by decide +kernel
theorem dX0_endCollect_24 : decode cX0_endCollect 24 = .ok (.iload_n 1, 1) := by decide +kernel
theorem dX0_endCollect_25 : decode cX0_endCollect 25 = .ok (.invokevirtual 75, 3) := by decide +kernel
theorem dX0_endCollect_28 : decode cX0_endCollect 28 = .ok (.istore_n 3, 1) := by decide +kernel
theorem dX0_endCollect_29 : decode cX0_endCollect 29 = .ok (.aload_n 0, 1) := by decide +kernel
theorem dX0_endCollect_30 : decode cX0_endCollect 30 = .ok (.iload_n 1, 1) := by decide +kernel
theorem dX0_endCollect_31 : decode cX0_endCollect 31 = .ok (.iload_n 2, 1) := by decide +kernel
theorem dX0_endCollect_32 : decode cX0_endCollect 32 = .ok (.invokevirtual 79, 3) := by decide +kernel
theorem dX0_endCollect_35 : decode cX0_endCollect 35 = .ok (.istore 4, 2) := by decide +kernel
theorem dX0_endCollect_37 : decode cX0_endCollect 37 = .ok (.iload_n 3, 1) := by decide +kernel
theorem dX0_endCollect_38 : decode cX0_endCollect 38 = .ok (.ifCond .ne 20, 3) := by decide +kernel
theorem dX0_endCollect_41 : decode cX0_endCollect 41 = .ok (.aload_n 0, 1) := by decide +kernel
theorem dX0_endCollect_42 : decode cX0_endCollect 42 = .ok (.aload_n 0, 1) := by decide +kernel
theorem dX0_endCollect_43 : decode cX0_endCollect 43 = .ok (.getfield 24, 3) := by decide +kernel
theorem dX0_endCollect_46 : decode cX0_endCollect 46 = .ok (.getfield 83, 3) := by decide +kernel
theorem dX0_endCollect_49 : decode cX0_endCollect 49 = .ok (.iconst 0, 1) := by decide +kernel
theorem dX0_endCollect_50 : decode cX0_endCollect 50 = .ok (.bipush (-9), 2) := by decide +kernel
theorem dX0_endCollect_52 : decode cX0_endCollect 52 = .ok (.invokevirtual 86, 3) := by decide +kernel
theorem dX0_endCollect_55 : decode cX0_endCollect 55 = .ok (.goto 27, 3) := by decide +kernel
theorem dX0_endCollect_58 : decode cX0_endCollect 58 = .ok (.iload 4, 2) := by decide +kernel
theorem dX0_endCollect_60 : decode cX0_endCollect 60 = .ok (.bipush (-9), 2) := by decide +kernel
theorem dX0_endCollect_62 : decode cX0_endCollect 62 = .ok (.if_icmp .eq 20, 3) := by decide +kernel
theorem dX0_endCollect_65 : decode cX0_endCollect 65 = .ok (.aload_n 0, 1) := by decide +kernel
theorem dX0_endCollect_66 : decode cX0_endCollect 66 = .ok (.aload_n 0, 1) := by decide +kernel
theorem dX0_endCollect_67 : decode cX0_endCollect 67 = .ok (.getfield 24, 3) := by decide +kernel
theorem dX0_endCollect_70 : decode cX0_endCollect 70 = .ok (.getfield 90, 3) := by decide +kernel
theorem dX0_endCollect_73 : decode cX0_endCollect 73 = .ok (.iload 4, 2) := by decide +kernel
theorem dX0_endCollect_75 : decode cX0_endCollect 75 = .ok (.iconst 4, 1) := by decide +kernel
theorem dX0_endCollect_76 : decode cX0_endCollect 76 = .ok (.imul, 1) := by decide +kernel
theorem dX0_endCollect_77 : decode cX0_endCollect 77 = .ok (.iload 4, 2) := by decide +kernel
theorem dX0_endCollect_79 : decode cX0_endCollect 79 = .ok (.invokevirtual 86, 3) := by decide +kernel
theorem dX0_endCollect_82 : decode cX0_endCollect 82 = .ok (.aload_n 0, 1) := by decide +kernel
theorem dX0_endCollect_83 : decode cX0_endCollect 83 = .ok (.getfield 24, 3) := by decide +kernel
theorem dX0_endCollect_86 : decode cX0_endCollect 86 = .ok (.getfield 93, 3) := by decide +kernel
theorem dX0_endCollect_89 : decode cX0_endCollect 89 = .ok (.aload_n 0, 1) := by decide +kernel
theorem dX0_endCollect_90 : decode cX0_endCollect 90 = .ok (.getfield 18, 3) := by decide +kernel
theorem dX0_endCollect_93 : decode cX0_endCollect 93 = .ok (.invokestatic 63, 3) := by decide +kernel
theorem dX0_endCollect_96 : decode cX0_endCollect 96 = .ok (.return_, 1) := by decide +kernel
theorem dX0_countMoves_0 : decode cX0_countMoves 0 = .ok (.iconst 0, 1) := by decide +kernel
theorem dX0_countMoves_1 : decode cX0_countMoves 1 = .ok (.istore_n 2, 1) := by decide +kernel
theorem dX0_countMoves_2 : decode cX0_countMoves 2 = .ok (.iconst 0, 1) := by decide +kernel
theorem dX0_countMoves_3 : decode cX0_countMoves 3 = .ok (.istore_n 3, 1) := by decide +kernel
theorem dX0_countMoves_4 : decode cX0_countMoves 4 = .ok (.iload_n 3, 1) := by decide +kernel
theorem dX0_countMoves_5 : decode cX0_countMoves 5 = .ok (.iload_n 1, 1) := by decide +kernel
theorem dX0_countMoves_6 : decode cX0_countMoves 6 = .ok (.if_icmp .ge 39, 3) := by decide +kernel
theorem dX0_countMoves_9 : decode cX0_countMoves 9 = .ok (.aload_n 0, 1) := by decide +kernel
theorem dX0_countMoves_10 : decode cX0_countMoves 10 = .ok (.getfield 24, 3) := by decide +kernel
theorem dX0_countMoves_13 : decode cX0_countMoves 13 = .ok (.getfield 93, 3) := by decide +kernel
theorem dX0_countMoves_16 : decode cX0_countMoves 16 = .ok (.iload_n 3, 1) := by decide +kernel
theorem dX0_countMoves_17 : decode cX0_countMoves 17 = .ok (.iaload, 1) := by decide +kernel
theorem dX0_countMoves_18 : decode cX0_countMoves 18 = .ok (.aload_n 0, 1) := by decide +kernel
theorem dX0_countMoves_19 : decode cX0_countMoves 19 = .ok (.getfield 18, 3) := by decide +kernel
theorem dX0_countMoves_22 : decode cX0_countMoves 22 = .ok (.iload_n 3, 1) := by decide +kernel
theorem dX0_countMoves_23 : decode cX0_countMoves 23 = .ok (.iaload, 1) := by decide +kernel
theorem dX0_countMoves_24 : decode cX0_countMoves 24 = .ok (.if_icmp .eq 15, 3) := by decide +kernel
theorem dX0_countMoves_27 : decode cX0_countMoves 27 = .ok (.iconst 1, 1) := by decide +kernel
theorem dX0_countMoves_28 : decode cX0_countMoves 28 = .ok (.istore_n 2, 1) := by decide +kernel
theorem dX0_countMoves_29 : decode cX0_countMoves 29 = .ok (.aload_n 0, 1) := by decide +kernel
theorem dX0_countMoves_30 : decode cX0_countMoves 30 = .ok (.getfield 15, 3) := by decide +kernel
theorem dX0_countMoves_33 : decode cX0_countMoves 33 = .ok (.iload_n 3, 1) := by decide +kernel
theorem dX0_countMoves_34 : decode cX0_countMoves 34 = .ok (.dup2, 1) := by decide +kernel
theorem dX0_countMoves_35 : decode cX0_countMoves 35 = .ok (.iaload, 1) := by decide +kernel
theorem dX0_countMoves_36 : decode cX0_countMoves 36 = .ok (.iconst 1, 1) := by decide +kernel
theorem dX0_countMoves_37 : decode cX0_countMoves 37 = .ok (.iadd, 1) := by decide +kernel
theorem dX0_countMoves_38 : decode cX0_countMoves 38 = .ok (.iastore, 1) := by decide +kernel
theorem dX0_countMoves_39 : decode cX0_countMoves 39 = .ok (.iinc 3 1, 3) := by decide +kernel
theorem dX0_countMoves_42 : decode cX0_countMoves 42 = .ok (.goto (-38), 3) := by decide +kernel
theorem dX0_countMoves_45 : decode cX0_countMoves 45 = .ok (.iload_n 2, 1) := by decide +kernel
theorem dX0_countMoves_46 : decode cX0_countMoves 46 = .ok (.ireturn, 1) := by decide +kernel
theorem dX0_lowestMoved_0 : decode cX0_lowestMoved 0 = .ok (.iconst 0, 1) := by decide +kernel
theorem dX0_lowestMoved_1 : decode cX0_lowestMoved 1 = .ok (.istore_n 3, 1) := by decide +kernel
theorem dX0_lowestMoved_2 : decode cX0_lowestMoved 2 = .ok (.iload_n 3, 1) := by decide +kernel
theorem dX0_lowestMoved_3 : decode cX0_lowestMoved 3 = .ok (.iload_n 1, 1) := by decide +kernel
theorem dX0_lowestMoved_4 : decode cX0_lowestMoved 4 = .ok (.if_icmp .ge 21, 3) := by decide +kernel
theorem dX0_lowestMoved_7 : decode cX0_lowestMoved 7 = .ok (.aload_n 0, 1) := by decide +kernel
theorem dX0_lowestMoved_8 : decode cX0_lowestMoved 8 = .ok (.getfield 15, 3) := by decide +kernel
theorem dX0_lowestMoved_11 : decode cX0_lowestMoved 11 = .ok (.iload_n 3, 1) := by decide +kernel
theorem dX0_lowestMoved_12 : decode cX0_lowestMoved 12 = .ok (.iaload, 1) := by decide +kernel
theorem dX0_lowestMoved_13 : decode cX0_lowestMoved 13 = .ok (.iload_n 2, 1) := by decide +kernel
theorem dX0_lowestMoved_14 : decode cX0_lowestMoved 14 = .ok (.if_icmp .lt 5, 3) := by decide +kernel
theorem dX0_lowestMoved_17 : decode cX0_lowestMoved 17 = .ok (.iload_n 3, 1) := by decide +kernel
theorem dX0_lowestMoved_18 : decode cX0_lowestMoved 18 = .ok (.ireturn, 1) := by decide +kernel
theorem dX0_lowestMoved_19 : decode cX0_lowestMoved 19 = .ok (.iinc 3 1, 3) := by decide +kernel
theorem dX0_lowestMoved_22 : decode cX0_lowestMoved 22 = .ok (.goto (-20), 3) := by decide +kernel
theorem dX0_lowestMoved_25 : decode cX0_lowestMoved 25 = .ok (.bipush (-9), 2) := by decide +kernel
theorem dX0_lowestMoved_27 : decode cX0_lowestMoved 27 = .ok (.ireturn, 1) := by decide +kernel
theorem dX0_takePhoto_0 : decode cX0_takePhoto 0 = .ok (.aload_n 1, 1) := by decide +kernel
theorem dX0_takePhoto_1 : decode cX0_takePhoto 1 = .ok (.iload_n 2, 1) := by decide +kernel
theorem dX0_takePhoto_2 : decode cX0_takePhoto 2 = .ok (.aload_n 0, 1) := by decide +kernel
theorem dX0_takePhoto_3 : decode cX0_takePhoto 3 = .ok (.getfield 9, 3) := by decide +kernel
theorem dX0_takePhoto_6 : decode cX0_takePhoto 6 = .ok (.iconst 0, 1) := by decide +kernel
theorem dX0_takePhoto_7 : decode cX0_takePhoto 7 = .ok (.iconst 4, 1) := by decide +kernel
theorem dX0_takePhoto_8 : decode cX0_takePhoto 8 = .ok (.invokestatic 96, 3) := by decide +kernel
theorem dX0_takePhoto_11 : decode cX0_takePhoto 11 = .ok (.aload_n 0, 1) := by decide +kernel
theorem dX0_takePhoto_12 : decode cX0_takePhoto 12 = .ok (.iload_n 3, 1) := by decide +kernel
theorem dX0_takePhoto_13 : decode cX0_takePhoto 13 = .ok (.putfield 51, 3) := by decide +kernel
theorem dX0_takePhoto_16 : decode cX0_takePhoto 16 = .ok (.aload_n 0, 1) := by decide +kernel
theorem dX0_takePhoto_17 : decode cX0_takePhoto 17 = .ok (.iconst 1, 1) := by decide +kernel
theorem dX0_takePhoto_18 : decode cX0_takePhoto 18 = .ok (.putfield 47, 3) := by decide +kernel
theorem dX0_takePhoto_21 : decode cX0_takePhoto 21 = .ok (.return_, 1) := by decide +kernel
theorem dX1_init_0 : decode cX1_init 0 = .ok (.aload_n 0, 1) := by decide +kernel
theorem dX1_init_1 : decode cX1_init 1 = .ok (.invokespecial 3, 3) := by decide +kernel
theorem dX1_init_4 : decode cX1_init 4 = .ok (.aload_n 0, 1) := by decide +kernel
theorem dX1_init_5 : decode cX1_init 5 = .ok (.sipush 264, 3) := by decide +kernel
theorem dX1_init_8 : decode cX1_init 8 = .ok (.newarray .int, 2) := by decide +kernel
theorem dX1_init_10 : decode cX1_init 10 = .ok (.putfield 11, 3) := by decide +kernel
theorem dX1_init_13 : decode cX1_init 13 = .ok (.return_, 1) := by decide +kernel
theorem dX1_copyFrom_0 : decode cX1_copyFrom 0 = .ok (.aload_n 0, 1) := by decide +kernel
theorem dX1_copyFrom_1 : decode cX1_copyFrom 1 = .ok (.aload_n 1, 1) := by decide +kernel
theorem dX1_copyFrom_2 : decode cX1_copyFrom 2 = .ok (.getfield 15, 3) := by decide +kernel
theorem dX1_copyFrom_5 : decode cX1_copyFrom 5 = .ok (.putfield 15, 3) := by decide +kernel
theorem dX1_copyFrom_8 : decode cX1_copyFrom 8 = .ok (.aload_n 1, 1) := by decide +kernel
theorem dX1_copyFrom_9 : decode cX1_copyFrom 9 = .ok (.getfield 11, 3) := by decide +kernel
theorem dX1_copyFrom_12 : decode cX1_copyFrom 12 = .ok (.iconst 0, 1) := by decide +kernel
theorem dX1_copyFrom_13 : decode cX1_copyFrom 13 = .ok (.aload_n 0, 1) := by decide +kernel
theorem dX1_copyFrom_14 : decode cX1_copyFrom 14 = .ok (.getfield 11, 3) := by decide +kernel
theorem dX1_copyFrom_17 : decode cX1_copyFrom 17 = .ok (.iconst 0, 1) := by decide +kernel
theorem dX1_copyFrom_18 : decode cX1_copyFrom 18 = .ok (.aload_n 0, 1) := by decide +kernel
theorem dX1_copyFrom_19 : decode cX1_copyFrom 19 = .ok (.getfield 15, 3) := by decide +kernel
theorem dX1_copyFrom_22 : decode cX1_copyFrom 22 = .ok (.bipush 11, 2) := by decide +kernel
theorem dX1_copyFrom_24 : decode cX1_copyFrom 24 = .ok (.imul, 1) := by decide +kernel
theorem dX1_copyFrom_25 : decode cX1_copyFrom 25 = .ok (.invokestatic 19, 3) := by decide +kernel
theorem dX1_copyFrom_28 : decode cX1_copyFrom 28 = .ok (.return_, 1) := by decide +kernel
theorem dX1_fact_0 : decode cX1_fact 0 = .ok (.aload_n 0, 1) := by decide +kernel
theorem dX1_fact_1 : decode cX1_fact 1 = .ok (.getfield 11, 3) := by decide +kernel
theorem dX1_fact_4 : decode cX1_fact 4 = .ok (.iload_n 1, 1) := by decide +kernel
theorem dX1_fact_5 : decode cX1_fact 5 = .ok (.bipush 11, 2) := by decide +kernel
theorem dX1_fact_7 : decode cX1_fact 7 = .ok (.imul, 1) := by decide +kernel
theorem dX1_fact_8 : decode cX1_fact 8 = .ok (.iload_n 2, 1) := by decide +kernel
theorem dX1_fact_9 : decode cX1_fact 9 = .ok (.iadd, 1) := by decide +kernel
theorem dX1_fact_10 : decode cX1_fact 10 = .ok (.iaload, 1) := by decide +kernel
theorem dX1_fact_11 : decode cX1_fact 11 = .ok (.ireturn, 1) := by decide +kernel
theorem dX1_add_0 : decode cX1_add 0 = .ok (.aload_n 0, 1) := by decide +kernel
theorem dX1_add_1 : decode cX1_add 1 = .ok (.getfield 15, 3) := by decide +kernel
theorem dX1_add_4 : decode cX1_add 4 = .ok (.bipush 24, 2) := by decide +kernel
theorem dX1_add_6 : decode cX1_add 6 = .ok (.if_icmp .lt 4, 3) := by decide +kernel
theorem dX1_add_9 : decode cX1_add 9 = .ok (.return_, 1) := by decide +kernel
theorem dX1_add_10 : decode cX1_add 10 = .ok (.aload_n 0, 1) := by decide +kernel
theorem dX1_add_11 : decode cX1_add 11 = .ok (.getfield 15, 3) := by decide +kernel
theorem dX1_add_14 : decode cX1_add 14 = .ok (.bipush 11, 2) := by decide +kernel
theorem dX1_add_16 : decode cX1_add 16 = .ok (.imul, 1) := by decide +kernel
theorem dX1_add_17 : decode cX1_add 17 = .ok (.istore 5, 2) := by decide +kernel
theorem dX1_add_19 : decode cX1_add 19 = .ok (.aload_n 0, 1) := by decide +kernel
theorem dX1_add_20 : decode cX1_add 20 = .ok (.getfield 11, 3) := by decide +kernel
theorem dX1_add_23 : decode cX1_add 23 = .ok (.iload 5, 2) := by decide +kernel
theorem dX1_add_25 : decode cX1_add 25 = .ok (.iconst 0, 1) := by decide +kernel
theorem dX1_add_26 : decode cX1_add 26 = .ok (.iadd, 1) := by decide +kernel
theorem dX1_add_27 : decode cX1_add 27 = .ok (.iload_n 1, 1) := by decide +kernel
theorem dX1_add_28 : decode cX1_add 28 = .ok (.iastore, 1) := by decide +kernel
theorem dX1_add_29 : decode cX1_add 29 = .ok (.aload_n 0, 1) := by decide +kernel
theorem dX1_add_30 : decode cX1_add 30 = .ok (.getfield 11, 3) := by decide +kernel
theorem dX1_add_33 : decode cX1_add 33 = .ok (.iload 5, 2) := by decide +kernel
theorem dX1_add_35 : decode cX1_add 35 = .ok (.iconst 1, 1) := by decide +kernel
theorem dX1_add_36 : decode cX1_add 36 = .ok (.iadd, 1) := by decide +kernel
theorem dX1_add_37 : decode cX1_add 37 = .ok (.aload_n 2, 1) := by decide +kernel
theorem dX1_add_38 : decode cX1_add 38 = .ok (.getfield 25, 3) := by decide +kernel
theorem dX1_add_41 : decode cX1_add 41 = .ok (.iastore, 1) := by decide +kernel
theorem dX1_add_42 : decode cX1_add 42 = .ok (.aload_n 0, 1) := by decide +kernel
theorem dX1_add_43 : decode cX1_add 43 = .ok (.getfield 11, 3) := by decide +kernel
theorem dX1_add_46 : decode cX1_add 46 = .ok (.iload 5, 2) := by decide +kernel
theorem dX1_add_48 : decode cX1_add 48 = .ok (.iconst 2, 1) := by decide +kernel
theorem dX1_add_49 : decode cX1_add 49 = .ok (.iadd, 1) := by decide +kernel
theorem dX1_add_50 : decode cX1_add 50 = .ok (.iload_n 3, 1) := by decide +kernel
theorem dX1_add_51 : decode cX1_add 51 = .ok (.iastore, 1) := by decide +kernel
theorem dX1_add_52 : decode cX1_add 52 = .ok (.aload_n 0, 1) := by decide +kernel
theorem dX1_add_53 : decode cX1_add 53 = .ok (.getfield 11, 3) := by decide +kernel
theorem dX1_add_56 : decode cX1_add 56 = .ok (.iload 5, 2) := by decide +kernel
theorem dX1_add_58 : decode cX1_add 58 = .ok (.iconst 3, 1) := by decide +kernel
theorem dX1_add_59 : decode cX1_add 59 = .ok (.iadd, 1) := by decide +kernel
theorem dX1_add_60 : decode cX1_add 60 = .ok (.aload_n 2, 1) := by decide +kernel
theorem dX1_add_61 : decode cX1_add 61 = .ok (.getfield 30, 3) := by decide +kernel
theorem dX1_add_64 : decode cX1_add 64 = .ok (.iastore, 1) := by decide +kernel
theorem dX1_add_65 : decode cX1_add 65 = .ok (.aload_n 0, 1) := by decide +kernel
theorem dX1_add_66 : decode cX1_add 66 = .ok (.getfield 11, 3) := by decide +kernel
theorem dX1_add_69 : decode cX1_add 69 = .ok (.iload 5, 2) := by decide +kernel
theorem dX1_add_71 : decode cX1_add 71 = .ok (.iconst 4, 1) := by decide +kernel
theorem dX1_add_72 : decode cX1_add 72 = .ok (.iadd, 1) := by decide +kernel
theorem dX1_add_73 : decode cX1_add 73 = .ok (.aload_n 2, 1) := by decide +kernel
theorem dX1_add_74 : decode cX1_add 74 = .ok (.getfield 33, 3) := by decide +kernel
theorem dX1_add_77 : decode cX1_add 77 = .ok (.iastore, 1) := by decide +kernel
theorem dX1_add_78 : decode cX1_add 78 = .ok (.aload_n 0, 1) := by decide +kernel
theorem dX1_add_79 : decode cX1_add 79 = .ok (.getfield 11, 3) := by decide +kernel
theorem dX1_add_82 : decode cX1_add 82 = .ok (.iload 5, 2) := by decide +kernel
theorem dX1_add_84 : decode cX1_add 84 = .ok (.iconst 5, 1) := by decide +kernel
theorem dX1_add_85 : decode cX1_add 85 = .ok (.iadd, 1) := by decide +kernel
theorem dX1_add_86 : decode cX1_add 86 = .ok (.aload_n 2, 1) := by decide +kernel
theorem dX1_add_87 : decode cX1_add 87 = .ok (.getfield 36, 3) := by decide +kernel
theorem dX1_add_90 : decode cX1_add 90 = .ok (.iconst 2, 1) := by decide +kernel
theorem dX1_add_91 : decode cX1_add 91 = .ok (.if_icmp .ne 7, 3) := by decide +kernel
theorem dX1_add_94 : decode cX1_add 94 = .ok (.iconst 1, 1) := by decide +kernel
theorem dX1_add_95 : decode cX1_add 95 = .ok (.goto 4, 3) := by decide +kernel
theorem dX1_add_98 : decode cX1_add 98 = .ok (.iconst 0, 1) := by decide +kernel
theorem dX1_add_99 : decode cX1_add 99 = .ok (.iastore, 1) := by decide +kernel
theorem dX1_add_100 : decode cX1_add 100 = .ok (.aload_n 2, 1) := by decide +kernel
theorem dX1_add_101 : decode cX1_add 101 = .ok (.getfield 39, 3) := by decide +kernel
theorem dX1_add_104 : decode cX1_add 104 = .ok (.iconst 0, 1) := by decide +kernel
theorem dX1_add_105 : decode cX1_add 105 = .ok (.aload_n 0, 1) := by decide +kernel
theorem dX1_add_106 : decode cX1_add 106 = .ok (.getfield 11, 3) := by decide +kernel
theorem dX1_add_109 : decode cX1_add 109 = .ok (.iload 5, 2) := by decide +kernel
theorem dX1_add_111 : decode cX1_add 111 = .ok (.bipush 6, 2) := by decide +kernel
theorem dX1_add_113 : decode cX1_add 113 = .ok (.iadd, 1) := by decide +kernel
theorem dX1_add_114 : decode cX1_add 114 = .ok (.iconst 4, 1) := by decide +kernel
theorem dX1_add_115 : decode cX1_add 115 = .ok (.invokestatic 19, 3) := by decide +kernel
theorem dX1_add_118 : decode cX1_add 118 = .ok (.aload_n 0, 1) := by decide +kernel
theorem dX1_add_119 : decode cX1_add 119 = .ok (.getfield 11, 3) := by decide +kernel
theorem dX1_add_122 : decode cX1_add 122 = .ok (.iload 5, 2) := by decide +kernel
theorem dX1_add_124 : decode cX1_add 124 = .ok (.bipush 10, 2) := by decide +kernel
theorem dX1_add_126 : decode cX1_add 126 = .ok (.iadd, 1) := by decide +kernel
theorem dX1_add_127 : decode cX1_add 127 = .ok (.iload 4, 2) := by decide +kernel
theorem dX1_add_129 : decode cX1_add 129 = .ok (.iastore, 1) := by decide +kernel
theorem dX1_add_130 : decode cX1_add 130 = .ok (.aload_n 0, 1) := by decide +kernel
theorem dX1_add_131 : decode cX1_add 131 = .ok (.dup, 1) := by decide +kernel
theorem dX1_add_132 : decode cX1_add 132 = .ok (.getfield 15, 3) := by decide +kernel
theorem dX1_add_135 : decode cX1_add 135 = .ok (.iconst 1, 1) := by decide +kernel
theorem dX1_add_136 : decode cX1_add 136 = .ok (.iadd, 1) := by decide +kernel
theorem dX1_add_137 : decode cX1_add 137 = .ok (.putfield 15, 3) := by decide +kernel
theorem dX1_add_140 : decode cX1_add 140 = .ok (.return_, 1) := by decide +kernel
theorem dX1_countWith_0 : decode cX1_countWith 0 = .ok (.iconst 0, 1) := by decide +kernel
theorem dX1_countWith_1 : decode cX1_countWith 1 = .ok (.istore_n 3, 1) := by decide +kernel
theorem dX1_countWith_2 : decode cX1_countWith 2 = .ok (.iconst 0, 1) := by decide +kernel
theorem dX1_countWith_3 : decode cX1_countWith 3 = .ok (.istore 4, 2) := by decide +kernel
theorem dX1_countWith_5 : decode cX1_countWith 5 = .ok (.iload 4, 2) := by decide +kernel
theorem dX1_countWith_7 : decode cX1_countWith 7 = .ok (.aload_n 0, 1) := by decide +kernel
theorem dX1_countWith_8 : decode cX1_countWith 8 = .ok (.getfield 15, 3) := by decide +kernel
theorem dX1_countWith_11 : decode cX1_countWith 11 = .ok (.if_icmp .ge 23, 3) := by decide +kernel
theorem dX1_countWith_14 : decode cX1_countWith 14 = .ok (.aload_n 0, 1) := by decide +kernel
theorem dX1_countWith_15 : decode cX1_countWith 15 = .ok (.iload 4, 2) := by decide +kernel
theorem dX1_countWith_17 : decode cX1_countWith 17 = .ok (.iload_n 1, 1) := by decide +kernel
theorem dX1_countWith_18 : decode cX1_countWith 18 = .ok (.invokevirtual 42, 3) := by decide +kernel
theorem dX1_countWith_21 : decode cX1_countWith 21 = .ok (.iload_n 2, 1) := by decide +kernel
theorem dX1_countWith_22 : decode cX1_countWith 22 = .ok (.if_icmp .ne 6, 3) := by decide +kernel
theorem dX1_countWith_25 : decode cX1_countWith 25 = .ok (.iinc 3 1, 3) := by decide +kernel
theorem dX1_countWith_28 : decode cX1_countWith 28 = .ok (.iinc 4 1, 3) := by decide +kernel
theorem dX1_countWith_31 : decode cX1_countWith 31 = .ok (.goto (-26), 3) := by decide +kernel
theorem dX1_countWith_34 : decode cX1_countWith 34 = .ok (.iload_n 3, 1) := by decide +kernel
theorem dX1_countWith_35 : decode cX1_countWith 35 = .ok (.ireturn, 1) := by decide +kernel
theorem dX1_leastReadsAbove_0 : decode cX1_leastReadsAbove 0 = .ok (.bipush (-9), 2) := by decide +kernel
theorem dX1_leastReadsAbove_2 : decode cX1_leastReadsAbove 2 = .ok (.istore_n 2, 1) := by decide +kernel
theorem dX1_leastReadsAbove_3 : decode cX1_leastReadsAbove 3 = .ok (.iconst 0, 1) := by decide +kernel
theorem dX1_leastReadsAbove_4 : decode cX1_leastReadsAbove 4 = .ok (.istore_n 3, 1) := by decide +kernel
theorem dX1_leastReadsAbove_5 : decode cX1_leastReadsAbove 5 = .ok (.iload_n 3, 1) := by decide +kernel
theorem dX1_leastReadsAbove_6 : decode cX1_leastReadsAbove 6 = .ok (.aload_n 0, 1) := by decide +kernel
theorem dX1_leastReadsAbove_7 : decode cX1_leastReadsAbove 7 = .ok (.getfield 15, 3) := by decide +kernel
theorem dX1_leastReadsAbove_10 : decode cX1_leastReadsAbove 10 = .ok (.if_icmp .ge 38, 3) := by decide +kernel
theorem dX1_leastReadsAbove_13 : decode cX1_leastReadsAbove 13 = .ok (.aload_n 0, 1) := by decide +kernel
theorem dX1_leastReadsAbove_14 : decode cX1_leastReadsAbove 14 = .ok (.iload_n 3, 1) := by decide +kernel
theorem dX1_leastReadsAbove_15 : decode cX1_leastReadsAbove 15 = .ok (.iconst 3, 1) := by decide +kernel
theorem dX1_leastReadsAbove_16 : decode cX1_leastReadsAbove 16 = .ok (.invokevirtual 42, 3) := by decide +kernel
theorem dX1_leastReadsAbove_19 : decode cX1_leastReadsAbove 19 = .ok (.istore 4, 2) := by decide +kernel
theorem dX1_leastReadsAbove_21 : decode cX1_leastReadsAbove 21 = .ok (.iload 4, 2) := by decide +kernel
theorem dX1_leastReadsAbove_23 : decode cX1_leastReadsAbove 23 = .ok (.iload_n 1, 1) := by decide +kernel
theorem dX1_leastReadsAbove_24 : decode cX1_leastReadsAbove 24 = .ok (.if_icmp .le 18, 3) := by decide +kernel
theorem dX1_leastReadsAbove_27 : decode cX1_leastReadsAbove 27 = .ok (.iload_n 2, 1) := by decide +kernel
theorem dX1_leastReadsAbove_28 : decode cX1_leastReadsAbove 28 = .ok (.bipush (-9), 2) := by decide +kernel
theorem dX1_leastReadsAbove_30 : decode cX1_leastReadsAbove 30 = .ok (.if_icmp .eq 9, 3) := by decide +kernel
theorem dX1_leastReadsAbove_33 : decode cX1_leastReadsAbove 33 = .ok (.iload 4, 2) := by decide +kernel
theorem dX1_leastReadsAbove_35 : decode cX1_leastReadsAbove 35 = .ok (.iload_n 2, 1) := by decide +kernel
theorem dX1_leastReadsAbove_36 : decode cX1_leastReadsAbove 36 = .ok (.if_icmp .ge 6, 3) := by decide +kernel
theorem dX1_leastReadsAbove_39 : decode cX1_leastReadsAbove 39 = .ok (.iload 4, 2) := by decide +kernel
theorem dX1_leastReadsAbove_41 : decode cX1_leastReadsAbove 41 = .ok (.istore_n 2, 1) := by decide +kernel
theorem dX1_leastReadsAbove_42 : decode cX1_leastReadsAbove 42 = .ok (.iinc 3 1, 3) := by decide +kernel
theorem dX1_leastReadsAbove_45 : decode cX1_leastReadsAbove 45 = .ok (.goto (-40), 3) := by decide +kernel
theorem dX1_leastReadsAbove_48 : decode cX1_leastReadsAbove 48 = .ok (.iload_n 2, 1) := by decide +kernel
theorem dX1_leastReadsAbove_49 : decode cX1_leastReadsAbove 49 = .ok (.ireturn, 1) := by decide +kernel
theorem dX1_greatestReadsBelow_0 : decode cX1_greatestReadsBelow 0 = .ok (.bipush (-9), 2) := by decide +kernel
theorem dX1_greatestReadsBelow_2 : decode cX1_greatestReadsBelow 2 = .ok (.istore_n 2, 1) := by decide +kernel
theorem dX1_greatestReadsBelow_3 : decode cX1_greatestReadsBelow 3 = .ok (.iconst 0, 1) := by decide +kernel
theorem dX1_greatestReadsBelow_4 : decode cX1_greatestReadsBelow 4 = .ok (.istore_n 3, 1) := by decide +kernel
theorem dX1_greatestReadsBelow_5 : decode cX1_greatestReadsBelow 5 = .ok (.iload_n 3, 1) := by decide +kernel
theorem dX1_greatestReadsBelow_6 : decode cX1_greatestReadsBelow 6 = .ok (.aload_n 0, 1) := by decide +kernel
theorem dX1_greatestReadsBelow_7 : decode cX1_greatestReadsBelow 7 = .ok (.getfield 15, 3) := by decide +kernel
theorem dX1_greatestReadsBelow_10 : decode cX1_greatestReadsBelow 10 = .ok (.if_icmp .ge 38, 3) := by decide +kernel
theorem dX1_greatestReadsBelow_13 : decode cX1_greatestReadsBelow 13 = .ok (.aload_n 0, 1) := by decide +kernel
theorem dX1_greatestReadsBelow_14 : decode cX1_greatestReadsBelow 14 = .ok (.iload_n 3, 1) := by decide +kernel
theorem dX1_greatestReadsBelow_15 : decode cX1_greatestReadsBelow 15 = .ok (.iconst 3, 1) := by decide +kernel
theorem dX1_greatestReadsBelow_16 : decode cX1_greatestReadsBelow 16 = .ok (.invokevirtual 42, 3) := by decide +kernel
theorem dX1_greatestReadsBelow_19 : decode cX1_greatestReadsBelow 19 = .ok (.istore 4, 2) := by decide +kernel
theorem dX1_greatestReadsBelow_21 : decode cX1_greatestReadsBelow 21 = .ok (.iload 4, 2) := by decide +kernel
theorem dX1_greatestReadsBelow_23 : decode cX1_greatestReadsBelow 23 = .ok (.iload_n 1, 1) := by decide +kernel
theorem dX1_greatestReadsBelow_24 : decode cX1_greatestReadsBelow 24 = .ok (.if_icmp .ge 18, 3) := by decide +kernel
theorem dX1_greatestReadsBelow_27 : decode cX1_greatestReadsBelow 27 = .ok (.iload_n 2, 1) := by decide +kernel
theorem dX1_greatestReadsBelow_28 : decode cX1_greatestReadsBelow 28 = .ok (.bipush (-9), 2) := by decide +kernel
theorem dX1_greatestReadsBelow_30 : decode cX1_greatestReadsBelow 30 = .ok (.if_icmp .eq 9, 3) := by decide +kernel
theorem dX1_greatestReadsBelow_33 : decode cX1_greatestReadsBelow 33 = .ok (.iload 4, 2) := by decide +kernel
theorem dX1_greatestReadsBelow_35 : decode cX1_greatestReadsBelow 35 = .ok (.iload_n 2, 1) := by decide +kernel
theorem dX1_greatestReadsBelow_36 : decode cX1_greatestReadsBelow 36 = .ok (.if_icmp .le 6, 3) := by decide +kernel
theorem dX1_greatestReadsBelow_39 : decode cX1_greatestReadsBelow 39 = .ok (.iload 4, 2) := by decide +kernel
theorem dX1_greatestReadsBelow_41 : decode cX1_greatestReadsBelow 41 = .ok (.istore_n 2, 1) := by decide +kernel
theorem dX1_greatestReadsBelow_42 : decode cX1_greatestReadsBelow 42 = .ok (.iinc 3 1, 3) := by decide +kernel
theorem dX1_greatestReadsBelow_45 : decode cX1_greatestReadsBelow 45 = .ok (.goto (-40), 3) := by decide +kernel
theorem dX1_greatestReadsBelow_48 : decode cX1_greatestReadsBelow 48 = .ok (.iload_n 2, 1) := by decide +kernel
theorem dX1_greatestReadsBelow_49 : decode cX1_greatestReadsBelow 49 = .ok (.ireturn, 1) := by decide +kernel
theorem dX2_init_0 : decode cX2_init 0 = .ok (.aload_n 0, 1) := by decide +kernel
theorem dX2_init_1 : decode cX2_init 1 = .ok (.invokespecial 3, 3) := by decide +kernel
theorem dX2_init_4 : decode cX2_init 4 = .ok (.aload_n 0, 1) := by decide +kernel
theorem dX2_init_5 : decode cX2_init 5 = .ok (.iconst 4, 1) := by decide +kernel
theorem dX2_init_6 : decode cX2_init 6 = .ok (.newarray .int, 2) := by decide +kernel
theorem dX2_init_8 : decode cX2_init 8 = .ok (.putfield 9, 3) := by decide +kernel
theorem dX2_init_11 : decode cX2_init 11 = .ok (.aload_n 0, 1) := by decide +kernel
theorem dX2_init_12 : decode cX2_init 12 = .ok (.iconst 4, 1) := by decide +kernel
theorem dX2_init_13 : decode cX2_init 13 = .ok (.newarray .int, 2) := by decide +kernel
theorem dX2_init_15 : decode cX2_init 15 = .ok (.putfield 15, 3) := by decide +kernel
theorem dX2_init_18 : decode cX2_init 18 = .ok (.aload_n 0, 1) := by decide +kernel
theorem dX2_init_19 : decode cX2_init 19 = .ok (.bipush 16, 2) := by decide +kernel
theorem dX2_init_21 : decode cX2_init 21 = .ok (.newarray .int, 2) := by decide +kernel
theorem dX2_init_23 : decode cX2_init 23 = .ok (.putfield 18, 3) := by decide +kernel
theorem dX2_init_26 : decode cX2_init 26 = .ok (.return_, 1) := by decide +kernel
theorem dX2_clear_0 : decode cX2_clear 0 = .ok (.aload_n 0, 1) := by decide +kernel
theorem dX2_clear_1 : decode cX2_clear 1 = .ok (.getfield 9, 3) := by decide +kernel
theorem dX2_clear_4 : decode cX2_clear 4 = .ok (.iconst 0, 1) := by decide +kernel
theorem dX2_clear_5 : decode cX2_clear 5 = .ok (.invokestatic 21, 3) := by decide +kernel
theorem dX2_clear_8 : decode cX2_clear 8 = .ok (.aload_n 0, 1) := by decide +kernel
theorem dX2_clear_9 : decode cX2_clear 9 = .ok (.getfield 15, 3) := by decide +kernel
theorem dX2_clear_12 : decode cX2_clear 12 = .ok (.iconst 0, 1) := by decide +kernel
theorem dX2_clear_13 : decode cX2_clear 13 = .ok (.invokestatic 21, 3) := by decide +kernel
theorem dX2_clear_16 : decode cX2_clear 16 = .ok (.aload_n 0, 1) := by decide +kernel
theorem dX2_clear_17 : decode cX2_clear 17 = .ok (.getfield 18, 3) := by decide +kernel
theorem dX2_clear_20 : decode cX2_clear 20 = .ok (.iconst 0, 1) := by decide +kernel
theorem dX2_clear_21 : decode cX2_clear 21 = .ok (.invokestatic 21, 3) := by decide +kernel
theorem dX2_clear_24 : decode cX2_clear 24 = .ok (.return_, 1) := by decide +kernel
theorem dX2_copyFrom_0 : decode cX2_copyFrom 0 = .ok (.aload_n 1, 1) := by decide +kernel
theorem dX2_copyFrom_1 : decode cX2_copyFrom 1 = .ok (.getfield 9, 3) := by decide +kernel
theorem dX2_copyFrom_4 : decode cX2_copyFrom 4 = .ok (.aload_n 0, 1) := by decide +kernel
theorem dX2_copyFrom_5 : decode cX2_copyFrom 5 = .ok (.getfield 9, 3) := by decide +kernel
theorem dX2_copyFrom_8 : decode cX2_copyFrom 8 = .ok (.invokestatic 27, 3) := by decide +kernel
theorem dX2_copyFrom_11 : decode cX2_copyFrom 11 = .ok (.aload_n 1, 1) := by decide +kernel
theorem dX2_copyFrom_12 : decode cX2_copyFrom 12 = .ok (.getfield 15, 3) := by decide +kernel
theorem dX2_copyFrom_15 : decode cX2_copyFrom 15 = .ok (.aload_n 0, 1) := by decide +kernel
theorem dX2_copyFrom_16 : decode cX2_copyFrom 16 = .ok (.getfield 15, 3) := by decide +kernel
theorem dX2_copyFrom_19 : decode cX2_copyFrom 19 = .ok (.invokestatic 27, 3) := by decide +kernel
theorem dX2_copyFrom_22 : decode cX2_copyFrom 22 = .ok (.aload_n 1, 1) := by decide +kernel
theorem dX2_copyFrom_23 : decode cX2_copyFrom 23 = .ok (.getfield 18, 3) := by decide +kernel
theorem dX2_copyFrom_26 : decode cX2_copyFrom 26 = .ok (.aload_n 0, 1) := by decide +kernel
theorem dX2_copyFrom_27 : decode cX2_copyFrom 27 = .ok (.getfield 18, 3) := by decide +kernel
theorem dX2_copyFrom_30 : decode cX2_copyFrom 30 = .ok (.invokestatic 27, 3) := by decide +kernel
theorem dX2_copyFrom_33 : decode cX2_copyFrom 33 = .ok (.return_, 1) := by decide +kernel
theorem dX2_copyOne_0 : decode cX2_copyOne 0 = .ok (.aload_n 0, 1) := by decide +kernel
theorem dX2_copyOne_1 : decode cX2_copyOne 1 = .ok (.getfield 9, 3) := by decide +kernel
theorem dX2_copyOne_4 : decode cX2_copyOne 4 = .ok (.iload_n 2, 1) := by decide +kernel
theorem dX2_copyOne_5 : decode cX2_copyOne 5 = .ok (.aload_n 1, 1) := by decide +kernel
theorem dX2_copyOne_6 : decode cX2_copyOne 6 = .ok (.getfield 9, 3) := by decide +kernel
theorem dX2_copyOne_9 : decode cX2_copyOne 9 = .ok (.iload_n 2, 1) := by decide +kernel
theorem dX2_copyOne_10 : decode cX2_copyOne 10 = .ok (.iaload, 1) := by decide +kernel
theorem dX2_copyOne_11 : decode cX2_copyOne 11 = .ok (.iastore, 1) := by decide +kernel
theorem dX2_copyOne_12 : decode cX2_copyOne 12 = .ok (.aload_n 0, 1) := by decide +kernel
theorem dX2_copyOne_13 : decode cX2_copyOne 13 = .ok (.getfield 15, 3) := by decide +kernel
theorem dX2_copyOne_16 : decode cX2_copyOne 16 = .ok (.iload_n 2, 1) := by decide +kernel
theorem dX2_copyOne_17 : decode cX2_copyOne 17 = .ok (.aload_n 1, 1) := by decide +kernel
theorem dX2_copyOne_18 : decode cX2_copyOne 18 = .ok (.getfield 15, 3) := by decide +kernel
theorem dX2_copyOne_21 : decode cX2_copyOne 21 = .ok (.iload_n 2, 1) := by decide +kernel
theorem dX2_copyOne_22 : decode cX2_copyOne 22 = .ok (.iaload, 1) := by decide +kernel
theorem dX2_copyOne_23 : decode cX2_copyOne 23 = .ok (.iastore, 1) := by decide +kernel
theorem dX2_copyOne_24 : decode cX2_copyOne 24 = .ok (.aload_n 1, 1) := by decide +kernel
theorem dX2_copyOne_25 : decode cX2_copyOne 25 = .ok (.getfield 18, 3) := by decide +kernel
theorem dX2_copyOne_28 : decode cX2_copyOne 28 = .ok (.iload_n 2, 1) := by decide +kernel
theorem dX2_copyOne_29 : decode cX2_copyOne 29 = .ok (.iconst 4, 1) := by decide +kernel
theorem dX2_copyOne_30 : decode cX2_copyOne 30 = .ok (.imul, 1) := by decide +kernel
theorem dX2_copyOne_31 : decode cX2_copyOne 31 = .ok (.aload_n 0, 1) := by decide +kernel
theorem dX2_copyOne_32 : decode cX2_copyOne 32 = .ok (.getfield 18, 3) := by decide +kernel
theorem dX2_copyOne_35 : decode cX2_copyOne 35 = .ok (.iload_n 2, 1) := by decide +kernel
theorem dX2_copyOne_36 : decode cX2_copyOne 36 = .ok (.iconst 4, 1) := by decide +kernel
theorem dX2_copyOne_37 : decode cX2_copyOne 37 = .ok (.imul, 1) := by decide +kernel
theorem dX2_copyOne_38 : decode cX2_copyOne 38 = .ok (.iconst 4, 1) := by decide +kernel
theorem dX2_copyOne_39 : decode cX2_copyOne 39 = .ok (.invokestatic 31, 3) := by decide +kernel
theorem dX2_copyOne_42 : decode cX2_copyOne 42 = .ok (.return_, 1) := by decide +kernel
theorem dX3_init_0 : decode cX3_init 0 = .ok (.aload_n 0, 1) := by decide +kernel
theorem dX3_init_1 : decode cX3_init 1 = .ok (.invokespecial 3, 3) := by decide +kernel
theorem dX3_init_4 : decode cX3_init 4 = .ok (.aload_n 0, 1) := by decide +kernel
theorem dX3_init_5 : decode cX3_init 5 = .ok (.bipush 24, 2) := by decide +kernel
theorem dX3_init_7 : decode cX3_init 7 = .ok (.newarray .int, 2) := by decide +kernel
theorem dX3_init_9 : decode cX3_init 9 = .ok (.putfield 9, 3) := by decide +kernel
theorem dX3_init_12 : decode cX3_init 12 = .ok (.aload_n 0, 1) := by decide +kernel
theorem dX3_init_13 : decode cX3_init 13 = .ok (.bipush 24, 2) := by decide +kernel
theorem dX3_init_15 : decode cX3_init 15 = .ok (.newarray .int, 2) := by decide +kernel
theorem dX3_init_17 : decode cX3_init 17 = .ok (.putfield 15, 3) := by decide +kernel
theorem dX3_init_20 : decode cX3_init 20 = .ok (.aload_n 0, 1) := by decide +kernel
theorem dX3_init_21 : decode cX3_init 21 = .ok (.bipush 24, 2) := by decide +kernel
theorem dX3_init_23 : decode cX3_init 23 = .ok (.newarray .int, 2) := by decide +kernel
theorem dX3_init_25 : decode cX3_init 25 = .ok (.putfield 18, 3) := by decide +kernel
theorem dX3_init_28 : decode cX3_init 28 = .ok (.aload_n 0, 1) := by decide +kernel
theorem dX3_init_29 : decode cX3_init 29 = .ok (.iconst 4, 1) := by decide +kernel
theorem dX3_init_30 : decode cX3_init 30 = .ok (.newarray .int, 2) := by decide +kernel
theorem dX3_init_32 : decode cX3_init 32 = .ok (.putfield 21, 3) := by decide +kernel
theorem dX3_init_35 : decode cX3_init 35 = .ok (.return_, 1) := by decide +kernel
theorem dX3_copyFrom_0 : decode cX3_copyFrom 0 = .ok (.aload_n 0, 1) := by decide +kernel
theorem dX3_copyFrom_1 : decode cX3_copyFrom 1 = .ok (.aload_n 1, 1) := by decide +kernel
theorem dX3_copyFrom_2 : decode cX3_copyFrom 2 = .ok (.getfield 24, 3) := by decide +kernel
theorem dX3_copyFrom_5 : decode cX3_copyFrom 5 = .ok (.putfield 24, 3) := by decide +kernel
theorem dX3_copyFrom_8 : decode cX3_copyFrom 8 = .ok (.aload_n 1, 1) := by decide +kernel
theorem dX3_copyFrom_9 : decode cX3_copyFrom 9 = .ok (.getfield 9, 3) := by decide +kernel
theorem dX3_copyFrom_12 : decode cX3_copyFrom 12 = .ok (.iconst 0, 1) := by decide +kernel
theorem dX3_copyFrom_13 : decode cX3_copyFrom 13 = .ok (.aload_n 0, 1) := by decide +kernel
theorem dX3_copyFrom_14 : decode cX3_copyFrom 14 = .ok (.getfield 9, 3) := by decide +kernel
theorem dX3_copyFrom_17 : decode cX3_copyFrom 17 = .ok (.iconst 0, 1) := by decide +kernel
theorem dX3_copyFrom_18 : decode cX3_copyFrom 18 = .ok (.aload_n 0, 1) := by decide +kernel
theorem dX3_copyFrom_19 : decode cX3_copyFrom 19 = .ok (.getfield 24, 3) := by decide +kernel
theorem dX3_copyFrom_22 : decode cX3_copyFrom 22 = .ok (.invokestatic 28, 3) := by decide +kernel
theorem dX3_copyFrom_25 : decode cX3_copyFrom 25 = .ok (.aload_n 1, 1) := by decide +kernel
theorem dX3_copyFrom_26 : decode cX3_copyFrom 26 = .ok (.getfield 15, 3) := by decide +kernel
theorem dX3_copyFrom_29 : decode cX3_copyFrom 29 = .ok (.iconst 0, 1) := by decide +kernel
theorem dX3_copyFrom_30 : decode cX3_copyFrom 30 = .ok (.aload_n 0, 1) := by decide +kernel
theorem dX3_copyFrom_31 : decode cX3_copyFrom 31 = .ok (.getfield 15, 3) := by decide +kernel
theorem dX3_copyFrom_34 : decode cX3_copyFrom 34 = .ok (.iconst 0, 1) := by decide +kernel
theorem dX3_copyFrom_35 : decode cX3_copyFrom 35 = .ok (.aload_n 0, 1) := by decide +kernel
theorem dX3_copyFrom_36 : decode cX3_copyFrom 36 = .ok (.getfield 24, 3) := by decide +kernel
theorem dX3_copyFrom_39 : decode cX3_copyFrom 39 = .ok (.invokestatic 28, 3) := by decide +kernel
theorem dX3_copyFrom_42 : decode cX3_copyFrom 42 = .ok (.aload_n 1, 1) := by decide +kernel
theorem dX3_copyFrom_43 : decode cX3_copyFrom 43 = .ok (.getfield 18, 3) := by decide +kernel
theorem dX3_copyFrom_46 : decode cX3_copyFrom 46 = .ok (.iconst 0, 1) := by decide +kernel
theorem dX3_copyFrom_47 : decode cX3_copyFrom 47 = .ok (.aload_n 0, 1) := by decide +kernel
theorem dX3_copyFrom_48 : decode cX3_copyFrom 48 = .ok (.getfield 18, 3) := by decide +kernel
theorem dX3_copyFrom_51 : decode cX3_copyFrom 51 = .ok (.iconst 0, 1) := by decide +kernel
theorem dX3_copyFrom_52 : decode cX3_copyFrom 52 = .ok (.aload_n 0, 1) := by decide +kernel
theorem dX3_copyFrom_53 : decode cX3_copyFrom 53 = .ok (.getfield 24, 3) := by decide +kernel
theorem dX3_copyFrom_56 : decode cX3_copyFrom 56 = .ok (.invokestatic 28, 3) := by decide +kernel
theorem dX3_copyFrom_59 : decode cX3_copyFrom 59 = .ok (.return_, 1) := by decide +kernel
theorem dX3_add_0 : decode cX3_add 0 = .ok (.aload_n 0, 1) := by decide +kernel
theorem dX3_add_1 : decode cX3_add 1 = .ok (.getfield 24, 3) := by decide +kernel
theorem dX3_add_4 : decode cX3_add 4 = .ok (.bipush 24, 2) := by decide +kernel
theorem dX3_add_6 : decode cX3_add 6 = .ok (.if_icmp .lt 4, 3) := by decide +kernel
theorem dX3_add_9 : decode cX3_add 9 = .ok (.return_, 1) := by decide +kernel
theorem dX3_add_10 : decode cX3_add 10 = .ok (.aload_n 0, 1) := by decide +kernel
theorem dX3_add_11 : decode cX3_add 11 = .ok (.getfield 9, 3) := by decide +kernel
theorem dX3_add_14 : decode cX3_add 14 = .ok (.aload_n 0, 1) := by decide +kernel
theorem dX3_add_15 : decode cX3_add 15 = .ok (.getfield 24, 3) := by decide +kernel
theorem dX3_add_18 : decode cX3_add 18 = .ok (.iload_n 1, 1) := by decide +kernel
theorem dX3_add_19 : decode cX3_add 19 = .ok (.iastore, 1) := by decide +kernel
theorem dX3_add_20 : decode cX3_add 20 = .ok (.aload_n 0, 1) := by decide +kernel
theorem dX3_add_21 : decode cX3_add 21 = .ok (.getfield 15, 3) := by decide +kernel
theorem dX3_add_24 : decode cX3_add 24 = .ok (.aload_n 0, 1) := by decide +kernel
theorem dX3_add_25 : decode cX3_add 25 = .ok (.getfield 24, 3) := by decide +kernel
theorem dX3_add_28 : decode cX3_add 28 = .ok (.iload_n 2, 1) := by decide +kernel
theorem dX3_add_29 : decode cX3_add 29 = .ok (.iastore, 1) := by decide +kernel
theorem dX3_add_30 : decode cX3_add 30 = .ok (.aload_n 0, 1) := by decide +kernel
theorem dX3_add_31 : decode cX3_add 31 = .ok (.getfield 18, 3) := by decide +kernel
theorem dX3_add_34 : decode cX3_add 34 = .ok (.aload_n 0, 1) := by decide +kernel
theorem dX3_add_35 : decode cX3_add 35 = .ok (.getfield 24, 3) := by decide +kernel
theorem dX3_add_38 : decode cX3_add 38 = .ok (.iload_n 3, 1) := by decide +kernel
theorem dX3_add_39 : decode cX3_add 39 = .ok (.iastore, 1) := by decide +kernel
theorem dX3_add_40 : decode cX3_add 40 = .ok (.aload_n 0, 1) := by decide +kernel
theorem dX3_add_41 : decode cX3_add 41 = .ok (.dup, 1) := by decide +kernel
theorem dX3_add_42 : decode cX3_add 42 = .ok (.getfield 24, 3) := by decide +kernel
theorem dX3_add_45 : decode cX3_add 45 = .ok (.iconst 1, 1) := by decide +kernel
theorem dX3_add_46 : decode cX3_add 46 = .ok (.iadd, 1) := by decide +kernel
theorem dX3_add_47 : decode cX3_add 47 = .ok (.putfield 24, 3) := by decide +kernel
theorem dX3_add_50 : decode cX3_add 50 = .ok (.return_, 1) := by decide +kernel
theorem dX3_momentOf_0 : decode cX3_momentOf 0 = .ok (.aload_n 0, 1) := by decide +kernel
theorem dX3_momentOf_1 : decode cX3_momentOf 1 = .ok (.getfield 21, 3) := by decide +kernel
theorem dX3_momentOf_4 : decode cX3_momentOf 4 = .ok (.iconst 0, 1) := by decide +kernel
theorem dX3_momentOf_5 : decode cX3_momentOf 5 = .ok (.invokestatic 34, 3) := by decide +kernel
theorem dX3_momentOf_8 : decode cX3_momentOf 8 = .ok (.iconst 0, 1) := by decide +kernel
theorem dX3_momentOf_9 : decode cX3_momentOf 9 = .ok (.istore_n 3, 1) := by decide +kernel
theorem dX3_momentOf_10 : decode cX3_momentOf 10 = .ok (.iload_n 3, 1) := by decide +kernel
theorem dX3_momentOf_11 : decode cX3_momentOf 11 = .ok (.aload_n 0, 1) := by decide +kernel
theorem dX3_momentOf_12 : decode cX3_momentOf 12 = .ok (.getfield 24, 3) := by decide +kernel
theorem dX3_momentOf_15 : decode cX3_momentOf 15 = .ok (.if_icmp .ge 36, 3) := by decide +kernel
theorem dX3_momentOf_18 : decode cX3_momentOf 18 = .ok (.aload_n 0, 1) := by decide +kernel
theorem dX3_momentOf_19 : decode cX3_momentOf 19 = .ok (.getfield 9, 3) := by decide +kernel
theorem dX3_momentOf_22 : decode cX3_momentOf 22 = .ok (.iload_n 3, 1) := by decide +kernel
theorem dX3_momentOf_23 : decode cX3_momentOf 23 = .ok (.iaload, 1) := by decide +kernel
theorem dX3_momentOf_24 : decode cX3_momentOf 24 = .ok (.iload_n 2, 1) := by decide +kernel
theorem dX3_momentOf_25 : decode cX3_momentOf 25 = .ok (.if_icmp .gt 26, 3) := by decide +kernel
theorem dX3_momentOf_28 : decode cX3_momentOf 28 = .ok (.aload_n 0, 1) := by decide +kernel
theorem dX3_momentOf_29 : decode cX3_momentOf 29 = .ok (.getfield 21, 3) := by decide +kernel
theorem dX3_momentOf_32 : decode cX3_momentOf 32 = .ok (.aload_n 0, 1) := by decide +kernel
theorem dX3_momentOf_33 : decode cX3_momentOf 33 = .ok (.getfield 15, 3) := by decide +kernel
theorem dX3_momentOf_36 : decode cX3_momentOf 36 = .ok (.iload_n 3, 1) := by decide +kernel
theorem dX3_momentOf_37 : decode cX3_momentOf 37 = .ok (.iaload, 1) := by decide +kernel
theorem dX3_momentOf_38 : decode cX3_momentOf 38 = .ok (.aload_n 0, 1) := by decide +kernel
theorem dX3_momentOf_39 : decode cX3_momentOf 39 = .ok (.getfield 18, 3) := by decide +kernel
theorem dX3_momentOf_42 : decode cX3_momentOf 42 = .ok (.iload_n 3, 1) := by decide +kernel
theorem dX3_momentOf_43 : decode cX3_momentOf 43 = .ok (.iaload, 1) := by decide +kernel
theorem dX3_momentOf_44 : decode cX3_momentOf 44 = .ok (.iastore, 1) := by decide +kernel
theorem dX3_momentOf_45 : decode cX3_momentOf 45 = .ok (.iinc 3 1, 3) := by decide +kernel
theorem dX3_momentOf_48 : decode cX3_momentOf 48 = .ok (.goto (-38), 3) := by decide +kernel
theorem dX3_momentOf_51 : decode cX3_momentOf 51 = .ok (.aload_n 0, 1) := by decide +kernel
theorem dX3_momentOf_52 : decode cX3_momentOf 52 = .ok (.aload_n 1, 1) := by decide +kernel
theorem dX3_momentOf_53 : decode cX3_momentOf 53 = .ok (.invokevirtual 40, 3) := by decide +kernel
theorem dX3_momentOf_56 : decode cX3_momentOf 56 = .ok (.ifCond .eq 5, 3) := by decide +kernel
theorem dX3_momentOf_59 : decode cX3_momentOf 59 = .ok (.iload_n 2, 1) := by decide +kernel
theorem dX3_momentOf_60 : decode cX3_momentOf 60 = .ok (.ireturn, 1) := by decide +kernel
theorem dX3_momentOf_61 : decode cX3_momentOf 61 = .ok (.iload_n 3, 1) := by decide +kernel
theorem dX3_momentOf_62 : decode cX3_momentOf 62 = .ok (.aload_n 0, 1) := by decide +kernel
theorem dX3_momentOf_63 : decode cX3_momentOf 63 = .ok (.getfield 24, 3) := by decide +kernel
theorem dX3_momentOf_66 : decode cX3_momentOf 66 = .ok (.if_icmp .ge 41, 3) := by decide +kernel
theorem dX3_momentOf_69 : decode cX3_momentOf 69 = .ok (.aload_n 0, 1) := by decide +kernel
theorem dX3_momentOf_70 : decode cX3_momentOf 70 = .ok (.getfield 21, 3) := by decide +kernel
theorem dX3_momentOf_73 : decode cX3_momentOf 73 = .ok (.aload_n 0, 1) := by decide +kernel
theorem dX3_momentOf_74 : decode cX3_momentOf 74 = .ok (.getfield 15, 3) := by decide +kernel
theorem dX3_momentOf_77 : decode cX3_momentOf 77 = .ok (.iload_n 3, 1) := by decide +kernel
theorem dX3_momentOf_78 : decode cX3_momentOf 78 = .ok (.iaload, 1) := by decide +kernel
theorem dX3_momentOf_79 : decode cX3_momentOf 79 = .ok (.aload_n 0, 1) := by decide +kernel
theorem dX3_momentOf_80 : decode cX3_momentOf 80 = .ok (.getfield 18, 3) := by decide +kernel
theorem dX3_momentOf_83 : decode cX3_momentOf 83 = .ok (.iload_n 3, 1) := by decide +kernel
theorem dX3_momentOf_84 : decode cX3_momentOf 84 = .ok (.iaload, 1) := by decide +kernel
theorem dX3_momentOf_85 : decode cX3_momentOf 85 = .ok (.iastore, 1) := by decide +kernel
theorem dX3_momentOf_86 : decode cX3_momentOf 86 = .ok (.aload_n 0, 1) := by decide +kernel
theorem dX3_momentOf_87 : decode cX3_momentOf 87 = .ok (.aload_n 1, 1) := by decide +kernel
theorem dX3_momentOf_88 : decode cX3_momentOf 88 = .ok (.invokevirtual 40, 3) := by decide +kernel
theorem dX3_momentOf_91 : decode cX3_momentOf 91 = .ok (.ifCond .eq 10, 3) := by decide +kernel
theorem dX3_momentOf_94 : decode cX3_momentOf 94 = .ok (.aload_n 0, 1) := by decide +kernel
theorem dX3_momentOf_95 : decode cX3_momentOf 95 = .ok (.getfield 9, 3) := by decide +kernel
theorem dX3_momentOf_98 : decode cX3_momentOf 98 = .ok (.iload_n 3, 1) := by decide +kernel
theorem dX3_momentOf_99 : decode cX3_momentOf 99 = .ok (.iaload, 1) := by decide +kernel
theorem dX3_momentOf_100 : decode cX3_momentOf 100 = .ok (.ireturn, 1) := by decide +kernel
theorem dX3_momentOf_101 : decode cX3_momentOf 101 = .ok (.iinc 3 1, 3) := by decide +kernel
theorem dX3_momentOf_104 : decode cX3_momentOf 104 = .ok (.goto (-43), 3) := by decide +kernel
theorem dX3_momentOf_107 : decode cX3_momentOf 107 = .ok (.bipush (-9), 2) := by decide +kernel
theorem dX3_momentOf_109 : decode cX3_momentOf 109 = .ok (.ireturn, 1) := by decide +kernel
theorem dX3_wereAs_0 : decode cX3_wereAs 0 = .ok (.iconst 0, 1) := by decide +kernel
theorem dX3_wereAs_1 : decode cX3_wereAs 1 = .ok (.istore_n 2, 1) := by decide +kernel
theorem dX3_wereAs_2 : decode cX3_wereAs 2 = .ok (.iload_n 2, 1) := by decide +kernel
theorem dX3_wereAs_3 : decode cX3_wereAs 3 = .ok (.iconst 4, 1) := by decide +kernel
theorem dX3_wereAs_4 : decode cX3_wereAs 4 = .ok (.if_icmp .ge 23, 3) := by decide +kernel
theorem dX3_wereAs_7 : decode cX3_wereAs 7 = .ok (.aload_n 0, 1) := by decide +kernel
theorem dX3_wereAs_8 : decode cX3_wereAs 8 = .ok (.getfield 21, 3) := by decide +kernel
theorem dX3_wereAs_11 : decode cX3_wereAs 11 = .ok (.iload_n 2, 1) := by decide +kernel
theorem dX3_wereAs_12 : decode cX3_wereAs 12 = .ok (.iaload, 1) := by decide +kernel
theorem dX3_wereAs_13 : decode cX3_wereAs 13 = .ok (.aload_n 1, 1) := by decide +kernel
theorem dX3_wereAs_14 : decode cX3_wereAs 14 = .ok (.iload_n 2, 1) := by decide +kernel
theorem dX3_wereAs_15 : decode cX3_wereAs 15 = .ok (.iaload, 1) := by decide +kernel
theorem dX3_wereAs_16 : decode cX3_wereAs 16 = .ok (.if_icmp .eq 5, 3) := by decide +kernel
theorem dX3_wereAs_19 : decode cX3_wereAs 19 = .ok (.iconst 0, 1) := by decide +kernel
theorem dX3_wereAs_20 : decode cX3_wereAs 20 = .ok (.ireturn, 1) := by decide +kernel
theorem dX3_wereAs_21 : decode cX3_wereAs 21 = .ok (.iinc 2 1, 3) := by decide +kernel
theorem dX3_wereAs_24 : decode cX3_wereAs 24 = .ok (.goto (-22), 3) := by decide +kernel
theorem dX3_wereAs_27 : decode cX3_wereAs 27 = .ok (.iconst 1, 1) := by decide +kernel
theorem dX3_wereAs_28 : decode cX3_wereAs 28 = .ok (.ireturn, 1) := by decide +kernel
theorem dX4_init_0 : decode cX4_init 0 = .ok (.aload_n 0, 1) := by decide +kernel
theorem dX4_init_1 : decode cX4_init 1 = .ok (.invokespecial 3, 3) := by decide +kernel
theorem dX4_init_4 : decode cX4_init 4 = .ok (.aload_n 0, 1) := by decide +kernel
theorem dX4_init_5 : decode cX4_init 5 = .ok (.new 9, 3) := by decide +kernel
theorem dX4_init_8 : decode cX4_init 8 = .ok (.dup, 1) := by decide +kernel
theorem dX4_init_9 : decode cX4_init 9 = .ok (.invokespecial 11, 3) := by decide +kernel
theorem dX4_init_12 : decode cX4_init 12 = .ok (.putfield 12, 3) := by decide +kernel
theorem dX4_init_15 : decode cX4_init 15 = .ok (.aload_n 0, 1) := by decide +kernel
theorem dX4_init_16 : decode cX4_init 16 = .ok (.iconst 4, 1) := by decide +kernel
theorem dX4_init_17 : decode cX4_init 17 = .ok (.anewarray 18, 3) := by decide +kernel
theorem dX4_init_20 : decode cX4_init 20 = .ok (.putfield 20, 3) := by decide +kernel
theorem dX4_init_23 : decode cX4_init 23 = .ok (.aload_n 0, 1) := by decide +kernel
theorem dX4_init_24 : decode cX4_init 24 = .ok (.new 24, 3) := by decide +kernel
theorem dX4_init_27 : decode cX4_init 27 = .ok (.dup, 1) := by decide +kernel
theorem dX4_init_28 : decode cX4_init 28 = .ok (.invokespecial 26, 3) := by decide +kernel
theorem dX4_init_31 : decode cX4_init 31 = .ok (.putfield 27, 3) := by decide +kernel
theorem dX4_init_34 : decode cX4_init 34 = .ok (.aload_n 0, 1) := by decide +kernel
theorem dX4_init_35 : decode cX4_init 35 = .ok (.new 31, 3) := by decide +kernel
theorem dX4_init_38 : decode cX4_init 38 = .ok (.dup, 1) := by decide +kernel
theorem dX4_init_39 : decode cX4_init 39 = .ok (.invokespecial 33, 3) := by decide +kernel
theorem dX4_init_42 : decode cX4_init 42 = .ok (.putfield 34, 3) := by decide +kernel
theorem dX4_init_45 : decode cX4_init 45 = .ok (.iconst 0, 1) := by decide +kernel
theorem dX4_init_46 : decode cX4_init 46 = .ok (.istore_n 1, 1) := by decide +kernel
theorem dX4_init_47 : decode cX4_init 47 = .ok (.iload_n 1, 1) := by decide +kernel
theorem dX4_init_48 : decode cX4_init 48 = .ok (.iconst 4, 1) := by decide +kernel
theorem dX4_init_49 : decode cX4_init 49 = .ok (.if_icmp .ge 22, 3) := by decide +kernel
theorem dX4_init_52 : decode cX4_init 52 = .ok (.aload_n 0, 1) := by decide +kernel
theorem dX4_init_53 : decode cX4_init 53 = .ok (.getfield 20, 3) := by decide +kernel
theorem dX4_init_56 : decode cX4_init 56 = .ok (.iload_n 1, 1) := by decide +kernel
theorem dX4_init_57 : decode cX4_init 57 = .ok (.new 18, 3) := by decide +kernel
theorem dX4_init_60 : decode cX4_init 60 = .ok (.dup, 1) := by decide +kernel
theorem dX4_init_61 : decode cX4_init 61 = .ok (.invokespecial 38, 3) := by decide +kernel
theorem dX4_init_64 : decode cX4_init 64 = .ok (.aastore, 1) := by decide +kernel
theorem dX4_init_65 : decode cX4_init 65 = .ok (.iinc 1 1, 3) := by decide +kernel
theorem dX4_init_68 : decode cX4_init 68 = .ok (.goto (-21), 3) := by decide +kernel
theorem dX4_init_71 : decode cX4_init 71 = .ok (.return_, 1) := by decide +kernel
theorem dX4_restart_0 : decode cX4_restart 0 = .ok (.aload_n 0, 1) := by decide +kernel
theorem dX4_restart_1 : decode cX4_restart 1 = .ok (.iload_n 1, 1) := by decide +kernel
theorem dX4_restart_2 : decode cX4_restart 2 = .ok (.putfield 39, 3) := by decide +kernel
theorem dX4_restart_5 : decode cX4_restart 5 = .ok (.aload_n 0, 1) := by decide +kernel
theorem dX4_restart_6 : decode cX4_restart 6 = .ok (.iload_n 2, 1) := by decide +kernel
theorem dX4_restart_7 : decode cX4_restart 7 = .ok (.putfield 43, 3) := by decide +kernel
theorem dX4_restart_10 : decode cX4_restart 10 = .ok (.aload_n 0, 1) := by decide +kernel
theorem dX4_restart_11 : decode cX4_restart 11 = .ok (.iload_n 3, 1) := by decide +kernel
theorem dX4_restart_12 : decode cX4_restart 12 = .ok (.putfield 46, 3) := by decide +kernel
theorem dX4_restart_15 : decode cX4_restart 15 = .ok (.aload_n 0, 1) := by decide +kernel
theorem dX4_restart_16 : decode cX4_restart 16 = .ok (.iconst 0, 1) := by decide +kernel
theorem dX4_restart_17 : decode cX4_restart 17 = .ok (.putfield 49, 3) := by decide +kernel
theorem dX4_restart_20 : decode cX4_restart 20 = .ok (.aload_n 0, 1) := by decide +kernel
theorem dX4_restart_21 : decode cX4_restart 21 = .ok (.iconst 0, 1) := by decide +kernel
theorem dX4_restart_22 : decode cX4_restart 22 = .ok (.putfield 52, 3) := by decide +kernel
theorem dX4_restart_25 : decode cX4_restart 25 = .ok (.aload_n 0, 1) := by decide +kernel
theorem dX4_restart_26 : decode cX4_restart 26 = .ok (.getfield 12, 3) := by decide +kernel
theorem dX4_restart_29 : decode cX4_restart 29 = .ok (.invokevirtual 55, 3) := by decide +kernel
theorem dX4_restart_32 : decode cX4_restart 32 = .ok (.iconst 0, 1) := by decide +kernel
theorem dX4_restart_33 : decode cX4_restart 33 = .ok (.istore 4, 2) := by decide +kernel
theorem dX4_restart_35 : decode cX4_restart 35 = .ok (.iload 4, 2) := by decide +kernel
theorem dX4_restart_37 : decode cX4_restart 37 = .ok (.iconst 4, 1) := by decide +kernel
theorem dX4_restart_38 : decode cX4_restart 38 = .ok (.if_icmp .ge 23, 3) := by decide +kernel
theorem dX4_restart_41 : decode cX4_restart 41 = .ok (.aload_n 0, 1) := by decide +kernel
theorem dX4_restart_42 : decode cX4_restart 42 = .ok (.getfield 20, 3) := by decide +kernel
theorem dX4_restart_45 : decode cX4_restart 45 = .ok (.iload 4, 2) := by decide +kernel
theorem dX4_restart_47 : decode cX4_restart 47 = .ok (.aaload, 1) := by decide +kernel
theorem dX4_restart_48 : decode cX4_restart 48 = .ok (.iconst 0, 1) := by decide +kernel
theorem dX4_restart_49 : decode cX4_restart 49 = .ok (.bipush (-9), 2) := by decide +kernel
theorem dX4_restart_51 : decode cX4_restart 51 = .ok (.iconst 0, 1) := by decide +kernel
theorem dX4_restart_52 : decode cX4_restart 52 = .ok (.invokevirtual 58, 3) := by decide +kernel
theorem dX4_restart_55 : decode cX4_restart 55 = .ok (.iinc 4 1, 3) := by decide +kernel
theorem dX4_restart_58 : decode cX4_restart 58 = .ok (.goto (-23), 3) := by decide +kernel
theorem dX4_restart_61 : decode cX4_restart 61 = .ok (.aload_n 0, 1) := by decide +kernel
theorem dX4_restart_62 : decode cX4_restart 62 = .ok (.getfield 27, 3) := by decide +kernel
theorem dX4_restart_65 : decode cX4_restart 65 = .ok (.iconst 0, 1) := by decide +kernel
theorem dX4_restart_66 : decode cX4_restart 66 = .ok (.putfield 62, 3) := by decide +kernel
theorem dX4_restart_69 : decode cX4_restart 69 = .ok (.aload_n 0, 1) := by decide +kernel
theorem dX4_restart_70 : decode cX4_restart 70 = .ok (.getfield 34, 3) := by decide +kernel
theorem dX4_restart_73 : decode cX4_restart 73 = .ok (.iconst 0, 1) := by decide +kernel
theorem dX4_restart_74 : decode cX4_restart 74 = .ok (.putfield 65, 3) := by decide +kernel
theorem dX4_restart_77 : decode cX4_restart 77 = .ok (.return_, 1) := by decide +kernel
theorem dX4_copyFrom_0 : decode cX4_copyFrom 0 = .ok (.aload_n 0, 1) := by decide +kernel
theorem dX4_copyFrom_1 : decode cX4_copyFrom 1 = .ok (.aload_n 1, 1) := by decide +kernel
theorem dX4_copyFrom_2 : decode cX4_copyFrom 2 = .ok (.getfield 39, 3) := by decide +kernel
theorem dX4_copyFrom_5 : decode cX4_copyFrom 5 = .ok (.putfield 39, 3) := by decide +kernel
theorem dX4_copyFrom_8 : decode cX4_copyFrom 8 = .ok (.aload_n 0, 1) := by decide +kernel
theorem dX4_copyFrom_9 : decode cX4_copyFrom 9 = .ok (.aload_n 1, 1) := by decide +kernel
theorem dX4_copyFrom_10 : decode cX4_copyFrom 10 = .ok (.getfield 43, 3) := by decide +kernel
theorem dX4_copyFrom_13 : decode cX4_copyFrom 13 = .ok (.putfield 43, 3) := by decide +kernel
theorem dX4_copyFrom_16 : decode cX4_copyFrom 16 = .ok (.aload_n 0, 1) := by decide +kernel
theorem dX4_copyFrom_17 : decode cX4_copyFrom 17 = .ok (.aload_n 1, 1) := by decide +kernel
theorem dX4_copyFrom_18 : decode cX4_copyFrom 18 = .ok (.getfield 46, 3) := by decide +kernel
theorem dX4_copyFrom_21 : decode cX4_copyFrom 21 = .ok (.putfield 46, 3) := by decide +kernel
theorem dX4_copyFrom_24 : decode cX4_copyFrom 24 = .ok (.aload_n 0, 1) := by decide +kernel
theorem dX4_copyFrom_25 : decode cX4_copyFrom 25 = .ok (.aload_n 1, 1) := by decide +kernel
theorem dX4_copyFrom_26 : decode cX4_copyFrom 26 = .ok (.getfield 49, 3) := by decide +kernel
theorem dX4_copyFrom_29 : decode cX4_copyFrom 29 = .ok (.putfield 49, 3) := by decide +kernel
theorem dX4_copyFrom_32 : decode cX4_copyFrom 32 = .ok (.aload_n 0, 1) := by decide +kernel
theorem dX4_copyFrom_33 : decode cX4_copyFrom 33 = .ok (.aload_n 1, 1) := by decide +kernel
theorem dX4_copyFrom_34 : decode cX4_copyFrom 34 = .ok (.getfield 52, 3) := by decide +kernel
theorem dX4_copyFrom_37 : decode cX4_copyFrom 37 = .ok (.putfield 52, 3) := by decide +kernel
theorem dX4_copyFrom_40 : decode cX4_copyFrom 40 = .ok (.aload_n 0, 1) := by decide +kernel
theorem dX4_copyFrom_41 : decode cX4_copyFrom 41 = .ok (.getfield 12, 3) := by decide +kernel
theorem dX4_copyFrom_44 : decode cX4_copyFrom 44 = .ok (.aload_n 1, 1) := by decide +kernel
theorem dX4_copyFrom_45 : decode cX4_copyFrom 45 = .ok (.getfield 12, 3) := by decide +kernel
theorem dX4_copyFrom_48 : decode cX4_copyFrom 48 = .ok (.invokevirtual 66, 3) := by decide +kernel
theorem dX4_copyFrom_51 : decode cX4_copyFrom 51 = .ok (.iconst 0, 1) := by decide +kernel
theorem dX4_copyFrom_52 : decode cX4_copyFrom 52 = .ok (.istore_n 2, 1) := by decide +kernel
theorem dX4_copyFrom_53 : decode cX4_copyFrom 53 = .ok (.iload_n 2, 1) := by decide +kernel
theorem dX4_copyFrom_54 : decode cX4_copyFrom 54 = .ok (.iconst 4, 1) := by decide +kernel
theorem dX4_copyFrom_55 : decode cX4_copyFrom 55 = .ok (.if_icmp .ge 24, 3) := by decide +kernel
theorem dX4_copyFrom_58 : decode cX4_copyFrom 58 = .ok (.aload_n 0, 1) := by decide +kernel
theorem dX4_copyFrom_59 : decode cX4_copyFrom 59 = .ok (.getfield 20, 3) := by decide +kernel
theorem dX4_copyFrom_62 : decode cX4_copyFrom 62 = .ok (.iload_n 2, 1) := by decide +kernel
theorem dX4_copyFrom_63 : decode cX4_copyFrom 63 = .ok (.aaload, 1) := by decide +kernel
theorem dX4_copyFrom_64 : decode cX4_copyFrom 64 = .ok (.aload_n 1, 1) := by decide +kernel
theorem dX4_copyFrom_65 : decode cX4_copyFrom 65 = .ok (.getfield 20, 3) := by decide +kernel
theorem dX4_copyFrom_68 : decode cX4_copyFrom 68 = .ok (.iload_n 2, 1) := by decide +kernel
theorem dX4_copyFrom_69 : decode cX4_copyFrom 69 = .ok (.aaload, 1) := by decide +kernel
theorem dX4_copyFrom_70 : decode cX4_copyFrom 70 = .ok (.invokevirtual 70, 3) := by decide +kernel
theorem dX4_copyFrom_73 : decode cX4_copyFrom 73 = .ok (.iinc 2 1, 3) := by decide +kernel
theorem dX4_copyFrom_76 : decode cX4_copyFrom 76 = .ok (.goto (-23), 3) := by decide +kernel
theorem dX4_copyFrom_79 : decode cX4_copyFrom 79 = .ok (.aload_n 0, 1) := by decide +kernel
theorem dX4_copyFrom_80 : decode cX4_copyFrom 80 = .ok (.getfield 27, 3) := by decide +kernel
theorem dX4_copyFrom_83 : decode cX4_copyFrom 83 = .ok (.aload_n 1, 1) := by decide +kernel
theorem dX4_copyFrom_84 : decode cX4_copyFrom 84 = .ok (.getfield 27, 3) := by decide +kernel
theorem dX4_copyFrom_87 : decode cX4_copyFrom 87 = .ok (.invokevirtual 73, 3) := by decide +kernel
theorem dX4_copyFrom_90 : decode cX4_copyFrom 90 = .ok (.aload_n 0, 1) := by decide +kernel
theorem dX4_copyFrom_91 : decode cX4_copyFrom 91 = .ok (.getfield 34, 3) := by decide +kernel
theorem dX4_copyFrom_94 : decode cX4_copyFrom 94 = .ok (.aload_n 1, 1) := by decide +kernel
theorem dX4_copyFrom_95 : decode cX4_copyFrom 95 = .ok (.getfield 34, 3) := by decide +kernel
theorem dX4_copyFrom_98 : decode cX4_copyFrom 98 = .ok (.invokevirtual 76, 3) := by decide +kernel
theorem dX4_copyFrom_101 : decode cX4_copyFrom 101 = .ok (.return_, 1) := by decide +kernel
theorem dX4_has_0 : decode cX4_has 0 = .ok (.iload_n 1, 1) := by decide +kernel
theorem dX4_has_1 : decode cX4_has 1 = .ok (.ifCond .lt 15, 3) := by decide +kernel
theorem dX4_has_4 : decode cX4_has 4 = .ok (.iload_n 1, 1) := by decide +kernel
theorem dX4_has_5 : decode cX4_has 5 = .ok (.aload_n 0, 1) := by decide +kernel
theorem dX4_has_6 : decode cX4_has 6 = .ok (.getfield 39, 3) := by decide +kernel
theorem dX4_has_9 : decode cX4_has 9 = .ok (.if_icmp .ge 7, 3) := by decide +kernel
theorem dX4_has_12 : decode cX4_has 12 = .ok (.iconst 1, 1) := by decide +kernel
theorem dX4_has_13 : decode cX4_has 13 = .ok (.goto 4, 3) := by decide +kernel
theorem dX4_has_16 : decode cX4_has 16 = .ok (.iconst 0, 1) := by decide +kernel
theorem dX4_has_17 : decode cX4_has 17 = .ok (.ireturn, 1) := by decide +kernel
theorem dX4_isIdle_0 : decode cX4_isIdle 0 = .ok (.aload_n 0, 1) := by decide +kernel
theorem dX4_isIdle_1 : decode cX4_isIdle 1 = .ok (.getfield 20, 3) := by decide +kernel
theorem dX4_isIdle_4 : decode cX4_isIdle 4 = .ok (.iload_n 1, 1) := by decide +kernel
theorem dX4_isIdle_5 : decode cX4_isIdle 5 = .ok (.aaload, 1) := by decide +kernel
theorem dX4_isIdle_6 : decode cX4_isIdle 6 = .ok (.getfield 79, 3) := by decide +kernel
theorem dX4_isIdle_9 : decode cX4_isIdle 9 = .ok (.ifCond .ne 7, 3) := by decide +kernel
theorem dX4_isIdle_12 : decode cX4_isIdle 12 = .ok (.iconst 1, 1) := by decide +kernel
theorem dX4_isIdle_13 : decode cX4_isIdle 13 = .ok (.goto 4, 3) := by decide +kernel
theorem dX4_isIdle_16 : decode cX4_isIdle 16 = .ok (.iconst 0, 1) := by decide +kernel
theorem dX4_isIdle_17 : decode cX4_isIdle 17 = .ok (.ireturn, 1) := by decide +kernel
theorem dX4_allIdle_0 : decode cX4_allIdle 0 = .ok (.iconst 0, 1) := by decide +kernel
theorem dX4_allIdle_1 : decode cX4_allIdle 1 = .ok (.istore_n 1, 1) := by decide +kernel
theorem dX4_allIdle_2 : decode cX4_allIdle 2 = .ok (.iload_n 1, 1) := by decide +kernel
theorem dX4_allIdle_3 : decode cX4_allIdle 3 = .ok (.aload_n 0, 1) := by decide +kernel
theorem dX4_allIdle_4 : decode cX4_allIdle 4 = .ok (.getfield 39, 3) := by decide +kernel
theorem dX4_allIdle_7 : decode cX4_allIdle 7 = .ok (.if_icmp .ge 19, 3) := by decide +kernel
theorem dX4_allIdle_10 : decode cX4_allIdle 10 = .ok (.aload_n 0, 1) := by decide +kernel
theorem dX4_allIdle_11 : decode cX4_allIdle 11 = .ok (.iload_n 1, 1) := by decide +kernel
theorem dX4_allIdle_12 : decode cX4_allIdle 12 = .ok (.invokevirtual 82, 3) := by decide +kernel
theorem dX4_allIdle_15 : decode cX4_allIdle 15 = .ok (.ifCond .ne 5, 3) := by decide +kernel
theorem dX4_allIdle_18 : decode cX4_allIdle 18 = .ok (.iconst 0, 1) := by decide +kernel
theorem dX4_allIdle_19 : decode cX4_allIdle 19 = .ok (.ireturn, 1) := by decide +kernel
theorem dX4_allIdle_20 : decode cX4_allIdle 20 = .ok (.iinc 1 1, 3) := by decide +kernel
theorem dX4_allIdle_23 : decode cX4_allIdle 23 = .ok (.goto (-21), 3) := by decide +kernel
theorem dX4_allIdle_26 : decode cX4_allIdle 26 = .ok (.iconst 1, 1) := by decide +kernel
theorem dX4_allIdle_27 : decode cX4_allIdle 27 = .ok (.ireturn, 1) := by decide +kernel
theorem dX4_idleBits_0 : decode cX4_idleBits 0 = .ok (.iconst 0, 1) := by decide +kernel
theorem dX4_idleBits_1 : decode cX4_idleBits 1 = .ok (.istore_n 1, 1) := by decide +kernel
theorem dX4_idleBits_2 : decode cX4_idleBits 2 = .ok (.iconst 0, 1) := by decide +kernel
theorem dX4_idleBits_3 : decode cX4_idleBits 3 = .ok (.istore_n 2, 1) := by decide +kernel
theorem dX4_idleBits_4 : decode cX4_idleBits 4 = .ok (.iload_n 2, 1) := by decide +kernel
theorem dX4_idleBits_5 : decode cX4_idleBits 5 = .ok (.aload_n 0, 1) := by decide +kernel
theorem dX4_idleBits_6 : decode cX4_idleBits 6 = .ok (.getfield 39, 3) := by decide +kernel
theorem dX4_idleBits_9 : decode cX4_idleBits 9 = .ok (.if_icmp .ge 23, 3) := by decide +kernel
theorem dX4_idleBits_12 : decode cX4_idleBits 12 = .ok (.aload_n 0, 1) := by decide +kernel
theorem dX4_idleBits_13 : decode cX4_idleBits 13 = .ok (.iload_n 2, 1) := by decide +kernel
theorem dX4_idleBits_14 : decode cX4_idleBits 14 = .ok (.invokevirtual 82, 3) := by decide +kernel
theorem dX4_idleBits_17 : decode cX4_idleBits 17 = .ok (.ifCond .eq 9, 3) := by decide +kernel
theorem dX4_idleBits_20 : decode cX4_idleBits 20 = .ok (.iload_n 1, 1) := by decide +kernel
theorem dX4_idleBits_21 : decode cX4_idleBits 21 = .ok (.iconst 1, 1) := by decide +kernel
theorem dX4_idleBits_22 : decode cX4_idleBits 22 = .ok (.iload_n 2, 1) := by decide +kernel
theorem dX4_idleBits_23 : decode cX4_idleBits 23 = .ok (.ishl, 1) := by decide +kernel
theorem dX4_idleBits_24 : decode cX4_idleBits 24 = .ok (.ior, 1) := by decide +kernel
theorem dX4_idleBits_25 : decode cX4_idleBits 25 = .ok (.istore_n 1, 1) := by decide +kernel
theorem dX4_idleBits_26 : decode cX4_idleBits 26 = .ok (.iinc 2 1, 3) := by decide +kernel
theorem dX4_idleBits_29 : decode cX4_idleBits 29 = .ok (.goto (-25), 3) := by decide +kernel
theorem dX4_idleBits_32 : decode cX4_idleBits 32 = .ok (.iload_n 1, 1) := by decide +kernel
theorem dX4_idleBits_33 : decode cX4_idleBits 33 = .ok (.ireturn, 1) := by decide +kernel
theorem dX4_beginAct_0 : decode cX4_beginAct 0 = .ok (.aload_n 0, 1) := by decide +kernel
theorem dX4_beginAct_1 : decode cX4_beginAct 1 = .ok (.getfield 20, 3) := by decide +kernel
theorem dX4_beginAct_4 : decode cX4_beginAct 4 = .ok (.iload_n 1, 1) := by decide +kernel
theorem dX4_beginAct_5 : decode cX4_beginAct 5 = .ok (.aaload, 1) := by decide +kernel
theorem dX4_beginAct_6 : decode cX4_beginAct 6 = .ok (.iload_n 2, 1) := by decide +kernel
theorem dX4_beginAct_7 : decode cX4_beginAct 7 = .ok (.iload_n 3, 1) := by decide +kernel
theorem dX4_beginAct_8 : decode cX4_beginAct 8 = .ok (.aload_n 0, 1) := by decide +kernel
theorem dX4_beginAct_9 : decode cX4_beginAct 9 = .ok (.getfield 49, 3) := by decide +kernel
theorem dX4_beginAct_12 : decode cX4_beginAct 12 = .ok (.invokevirtual 58, 3) := by decide +kernel
theorem dX4_beginAct_15 : decode cX4_beginAct 15 = .ok (.aload_n 0, 1) := by decide +kernel
theorem dX4_beginAct_16 : decode cX4_beginAct 16 = .ok (.dup, 1) := by decide +kernel
theorem dX4_beginAct_17 : decode cX4_beginAct 17 = .ok (.getfield 52, 3) := by decide +kernel
theorem dX4_beginAct_20 : decode cX4_beginAct 20 = .ok (.iconst 1, 1) := by decide +kernel
theorem dX4_beginAct_21 : decode cX4_beginAct 21 = .ok (.iadd, 1) := by decide +kernel
theorem dX4_beginAct_22 : decode cX4_beginAct 22 = .ok (.putfield 52, 3) := by decide +kernel
theorem dX4_beginAct_25 : decode cX4_beginAct 25 = .ok (.return_, 1) := by decide +kernel
theorem dX4_stepUpTo_0 : decode cX4_stepUpTo 0 = .ok (.iconst 0, 1) := by decide +kernel
theorem dX4_stepUpTo_1 : decode cX4_stepUpTo 1 = .ok (.istore_n 3, 1) := by decide +kernel
theorem dX4_stepUpTo_2 : decode cX4_stepUpTo 2 = .ok (.iload_n 3, 1) := by decide +kernel
theorem dX4_stepUpTo_3 : decode cX4_stepUpTo 3 = .ok (.iload_n 2, 1) := by decide +kernel
theorem dX4_stepUpTo_4 : decode cX4_stepUpTo 4 = .ok (.if_icmp .ge 22, 3) := by decide +kernel
theorem dX4_stepUpTo_7 : decode cX4_stepUpTo 7 = .ok (.aload_n 0, 1) := by decide +kernel
theorem dX4_stepUpTo_8 : decode cX4_stepUpTo 8 = .ok (.iload_n 1, 1) := by decide +kernel
theorem dX4_stepUpTo_9 : decode cX4_stepUpTo 9 = .ok (.invokevirtual 82, 3) := by decide +kernel
theorem dX4_stepUpTo_12 : decode cX4_stepUpTo 12 = .ok (.ifCond .ne 14, 3) := by decide +kernel
theorem dX4_stepUpTo_15 : decode cX4_stepUpTo 15 = .ok (.aload_n 0, 1) := by decide +kernel
theorem dX4_stepUpTo_16 : decode cX4_stepUpTo 16 = .ok (.iload_n 1, 1) := by decide +kernel
theorem dX4_stepUpTo_17 : decode cX4_stepUpTo 17 = .ok (.invokevirtual 86, 3) := by decide +kernel
theorem dX4_stepUpTo_20 : decode cX4_stepUpTo 20 = .ok (.iinc 3 1, 3) := by decide +kernel
theorem dX4_stepUpTo_23 : decode cX4_stepUpTo 23 = .ok (.goto (-21), 3) := by decide +kernel
theorem dX4_stepUpTo_26 : decode cX4_stepUpTo 26 = .ok (.iload_n 3, 1) := by decide +kernel
theorem dX4_stepUpTo_27 : decode cX4_stepUpTo 27 = .ok (.ireturn, 1) := by decide +kernel
theorem dX4_stepOnce_0 : decode cX4_stepOnce 0 = .ok (.aload_n 0, 1) := by decide +kernel
theorem dX4_stepOnce_1 : decode cX4_stepOnce 1 = .ok (.getfield 20, 3) := by decide +kernel
theorem dX4_stepOnce_4 : decode cX4_stepOnce 4 = .ok (.iload_n 1, 1) := by decide +kernel
theorem dX4_stepOnce_5 : decode cX4_stepOnce 5 = .ok (.aaload, 1) := by decide +kernel
theorem dX4_stepOnce_6 : decode cX4_stepOnce 6 = .ok (.astore_n 2, 1) := by decide +kernel
theorem dX4_stepOnce_7 : decode cX4_stepOnce 7 = .ok (.aload_n 0, 1) := by decide +kernel
theorem dX4_stepOnce_8 : decode cX4_stepOnce 8 = .ok (.dup, 1) := by decide +kernel
theorem dX4_stepOnce_9 : decode cX4_stepOnce 9 = .ok (.getfield 49, 3) := by decide +kernel
theorem dX4_stepOnce_12 : decode cX4_stepOnce 12 = .ok (.iconst 1, 1) := by decide +kernel
theorem dX4_stepOnce_13 : decode cX4_stepOnce 13 = .ok (.iadd, 1) := by decide +kernel
theorem dX4_stepOnce_14 : decode cX4_stepOnce 14 = .ok (.putfield 49, 3) := by decide +kernel
theorem dX4_stepOnce_17 : decode cX4_stepOnce 17 = .ok (.aload_n 2, 1) := by decide +kernel
theorem dX4_stepOnce_18 : decode cX4_stepOnce 18 = .ok (.dup, 1) := by decide +kernel
theorem dX4_stepOnce_19 : decode cX4_stepOnce 19 = .ok (.getfield 90, 3) := by decide +kernel
theorem dX4_stepOnce_22 : decode cX4_stepOnce 22 = .ok (.iconst 1, 1) := by decide +kernel
theorem dX4_stepOnce_23 : decode cX4_stepOnce 23 = .ok (.iadd, 1) := by decide +kernel
theorem dX4_stepOnce_24 : decode cX4_stepOnce 24 = .ok (.putfield 90, 3) := by decide +kernel
theorem dX4_stepOnce_27 : decode cX4_stepOnce 27 = .ok (.aload_n 2, 1) := by decide +kernel
theorem dX4_stepOnce_28 : decode cX4_stepOnce 28 = .ok (.getfield 93, 3) := by decide +kernel
theorem dX4_stepOnce_31 : decode cX4_stepOnce 31 = .ok (.ifCond .eq 18, 3) := by decide +kernel
theorem dX4_stepOnce_34 : decode cX4_stepOnce 34 = .ok (.aload_n 0, 1) := by decide +kernel
theorem dX4_stepOnce_35 : decode cX4_stepOnce 35 = .ok (.iload_n 1, 1) := by decide +kernel
theorem dX4_stepOnce_36 : decode cX4_stepOnce 36 = .ok (.aload_n 2, 1) := by decide +kernel
theorem dX4_stepOnce_37 : decode cX4_stepOnce 37 = .ok (.invokevirtual 97, 3) := by decide +kernel
theorem dX4_stepOnce_40 : decode cX4_stepOnce 40 = .ok (.aload_n 2, 1) := by decide +kernel
theorem dX4_stepOnce_41 : decode cX4_stepOnce 41 = .ok (.iconst 0, 1) := by decide +kernel
theorem dX4_stepOnce_42 : decode cX4_stepOnce 42 = .ok (.bipush (-9), 2) := by decide +kernel
theorem dX4_stepOnce_44 : decode cX4_stepOnce 44 = .ok (.iconst 0, 1) := by decide +kernel
theorem dX4_stepOnce_45 : decode cX4_stepOnce 45 = .ok (.invokevirtual 58, 3) := by decide +kernel
theorem dX4_stepOnce_48 : decode cX4_stepOnce 48 = .ok (.return_, 1) := by decide +kernel
theorem dX4_stepOnce_49 : decode cX4_stepOnce 49 = .ok (.aload_n 2, 1) := by decide +kernel
theorem dX4_stepOnce_50 : decode cX4_stepOnce 50 = .ok (.aload_n 0, 1) := by decide +kernel
theorem dX4_stepOnce_51 : decode cX4_stepOnce 51 = .ok (.getfield 12, 3) := by decide +kernel
theorem dX4_stepOnce_54 : decode cX4_stepOnce 54 = .ok (.invokevirtual 101, 3) := by decide +kernel
theorem dX4_stepOnce_57 : decode cX4_stepOnce 57 = .ok (.aload_n 2, 1) := by decide +kernel
theorem dX4_stepOnce_58 : decode cX4_stepOnce 58 = .ok (.getfield 104, 3) := by decide +kernel
theorem dX4_stepOnce_61 : decode cX4_stepOnce 61 = .ok (.aload_n 0, 1) := by decide +kernel
theorem dX4_stepOnce_62 : decode cX4_stepOnce 62 = .ok (.getfield 39, 3) := by decide +kernel
theorem dX4_stepOnce_65 : decode cX4_stepOnce 65 = .ok (.if_icmp .ge 4, 3) := by decide +kernel
theorem dX4_stepOnce_68 : decode cX4_stepOnce 68 = .ok (.return_, 1) := by decide +kernel
theorem dX4_stepOnce_69 : decode cX4_stepOnce 69 = .ok (.aload_n 2, 1) := by decide +kernel
theorem dX4_stepOnce_70 : decode cX4_stepOnce 70 = .ok (.aload_n 0, 1) := by decide +kernel
theorem dX4_stepOnce_71 : decode cX4_stepOnce 71 = .ok (.getfield 39, 3) := by decide +kernel
theorem dX4_stepOnce_74 : decode cX4_stepOnce 74 = .ok (.aload_n 0, 1) := by decide +kernel
theorem dX4_stepOnce_75 : decode cX4_stepOnce 75 = .ok (.getfield 43, 3) := by decide +kernel
theorem dX4_stepOnce_78 : decode cX4_stepOnce 78 = .ok (.invokevirtual 107, 3) := by decide +kernel
theorem dX4_stepOnce_81 : decode cX4_stepOnce 81 = .ok (.aload_n 2, 1) := by decide +kernel
theorem dX4_stepOnce_82 : decode cX4_stepOnce 82 = .ok (.getfield 93, 3) := by decide +kernel
theorem dX4_stepOnce_85 : decode cX4_stepOnce 85 = .ok (.ifCond .eq 31, 3) := by decide +kernel
theorem dX4_stepOnce_88 : decode cX4_stepOnce 88 = .ok (.aload_n 0, 1) := by decide +kernel
theorem dX4_stepOnce_89 : decode cX4_stepOnce 89 = .ok (.getfield 27, 3) := by decide +kernel
theorem dX4_stepOnce_92 : decode cX4_stepOnce 92 = .ok (.iload_n 1, 1) := by decide +kernel
theorem dX4_stepOnce_93 : decode cX4_stepOnce 93 = .ok (.aload_n 2, 1) := by decide +kernel
theorem dX4_stepOnce_94 : decode cX4_stepOnce 94 = .ok (.aload_n 0, 1) := by decide +kernel
theorem dX4_stepOnce_95 : decode cX4_stepOnce 95 = .ok (.getfield 49, 3) := by decide +kernel
theorem dX4_stepOnce_98 : decode cX4_stepOnce 98 = .ok (.aload_n 0, 1) := by decide +kernel
theorem dX4_stepOnce_99 : decode cX4_stepOnce 99 = .ok (.getfield 34, 3) := by decide +kernel
theorem dX4_stepOnce_102 : decode cX4_stepOnce 102 = .ok (.aload_n 2, 1) := by decide +kernel
theorem dX4_stepOnce_103 : decode cX4_stepOnce 103 = .ok (.getfield 111, 3) := by decide +kernel
theorem dX4_stepOnce_106 : decode cX4_stepOnce 106 = .ok (.aload_n 2, 1) := by decide +kernel
theorem dX4_stepOnce_107 : decode cX4_stepOnce 107 = .ok (.getfield 115, 3) := by decide +kernel
theorem dX4_stepOnce_110 : decode cX4_stepOnce 110 = .ok (.invokevirtual 118, 3) := by decide +kernel
theorem dX4_stepOnce_113 : decode cX4_stepOnce 113 = .ok (.invokevirtual 122, 3) := by decide +kernel
theorem dX4_stepOnce_116 : decode cX4_stepOnce 116 = .ok (.aload_n 2, 1) := by decide +kernel
theorem dX4_stepOnce_117 : decode cX4_stepOnce 117 = .ok (.getfield 93, 3) := by decide +kernel
theorem dX4_stepOnce_120 : decode cX4_stepOnce 120 = .ok (.ifCond .eq 19, 3) := by decide +kernel
theorem dX4_stepOnce_123 : decode cX4_stepOnce 123 = .ok (.aload_n 2, 1) := by decide +kernel
theorem dX4_stepOnce_124 : decode cX4_stepOnce 124 = .ok (.getfield 79, 3) := by decide +kernel
theorem dX4_stepOnce_127 : decode cX4_stepOnce 127 = .ok (.iconst 1, 1) := by decide +kernel
theorem dX4_stepOnce_128 : decode cX4_stepOnce 128 = .ok (.if_icmp .ne 11, 3) := by decide +kernel
theorem dX4_stepOnce_131 : decode cX4_stepOnce 131 = .ok (.aload_n 2, 1) := by decide +kernel
theorem dX4_stepOnce_132 : decode cX4_stepOnce 132 = .ok (.iconst 0, 1) := by decide +kernel
theorem dX4_stepOnce_133 : decode cX4_stepOnce 133 = .ok (.bipush (-9), 2) := by decide +kernel
theorem dX4_stepOnce_135 : decode cX4_stepOnce 135 = .ok (.iconst 0, 1) := by decide +kernel
theorem dX4_stepOnce_136 : decode cX4_stepOnce 136 = .ok (.invokevirtual 58, 3) := by decide +kernel
theorem dX4_stepOnce_139 : decode cX4_stepOnce 139 = .ok (.return_, 1) := by decide +kernel
theorem dX4_writeOut_0 : decode cX4_writeOut 0 = .ok (.aload_n 0, 1) := by decide +kernel
theorem dX4_writeOut_1 : decode cX4_writeOut 1 = .ok (.getfield 12, 3) := by decide +kernel
theorem dX4_writeOut_4 : decode cX4_writeOut 4 = .ok (.getfield 126, 3) := by decide +kernel
theorem dX4_writeOut_7 : decode cX4_writeOut 7 = .ok (.iload_n 1, 1) := by decide +kernel
theorem dX4_writeOut_8 : decode cX4_writeOut 8 = .ok (.aload_n 2, 1) := by decide +kernel
theorem dX4_writeOut_9 : decode cX4_writeOut 9 = .ok (.getfield 129, 3) := by decide +kernel
theorem dX4_writeOut_12 : decode cX4_writeOut 12 = .ok (.iastore, 1) := by decide +kernel
theorem dX4_writeOut_13 : decode cX4_writeOut 13 = .ok (.aload_n 0, 1) := by decide +kernel
theorem dX4_writeOut_14 : decode cX4_writeOut 14 = .ok (.getfield 12, 3) := by decide +kernel
theorem dX4_writeOut_17 : decode cX4_writeOut 17 = .ok (.getfield 132, 3) := by decide +kernel
theorem dX4_writeOut_20 : decode cX4_writeOut 20 = .ok (.iload_n 1, 1) := by decide +kernel
theorem dX4_writeOut_21 : decode cX4_writeOut 21 = .ok (.aload_n 0, 1) := by decide +kernel
theorem dX4_writeOut_22 : decode cX4_writeOut 22 = .ok (.aload_n 0, 1) := by decide +kernel
theorem dX4_writeOut_23 : decode cX4_writeOut 23 = .ok (.getfield 12, 3) := by decide +kernel
theorem dX4_writeOut_26 : decode cX4_writeOut 26 = .ok (.getfield 132, 3) := by decide +kernel
theorem dX4_writeOut_29 : decode cX4_writeOut 29 = .ok (.iload_n 1, 1) := by decide +kernel
theorem dX4_writeOut_30 : decode cX4_writeOut 30 = .ok (.iaload, 1) := by decide +kernel
theorem dX4_writeOut_31 : decode cX4_writeOut 31 = .ok (.invokevirtual 135, 3) := by decide +kernel
theorem dX4_writeOut_34 : decode cX4_writeOut 34 = .ok (.iastore, 1) := by decide +kernel
theorem dX4_writeOut_35 : decode cX4_writeOut 35 = .ok (.aload_n 2, 1) := by decide +kernel
theorem dX4_writeOut_36 : decode cX4_writeOut 36 = .ok (.getfield 111, 3) := by decide +kernel
theorem dX4_writeOut_39 : decode cX4_writeOut 39 = .ok (.iconst 0, 1) := by decide +kernel
theorem dX4_writeOut_40 : decode cX4_writeOut 40 = .ok (.aload_n 0, 1) := by decide +kernel
theorem dX4_writeOut_41 : decode cX4_writeOut 41 = .ok (.getfield 12, 3) := by decide +kernel
theorem dX4_writeOut_44 : decode cX4_writeOut 44 = .ok (.getfield 139, 3) := by decide +kernel
theorem dX4_writeOut_47 : decode cX4_writeOut 47 = .ok (.iload_n 1, 1) := by decide +kernel
theorem dX4_writeOut_48 : decode cX4_writeOut 48 = .ok (.iconst 4, 1) := by decide +kernel
theorem dX4_writeOut_49 : decode cX4_writeOut 49 = .ok (.imul, 1) := by decide +kernel
theorem dX4_writeOut_50 : decode cX4_writeOut 50 = .ok (.iconst 4, 1) := by decide +kernel
theorem dX4_writeOut_51 : decode cX4_writeOut 51 = .ok (.invokestatic 142, 3) := by decide +kernel
theorem dX4_writeOut_54 : decode cX4_writeOut 54 = .ok (.aload_n 0, 1) := by decide +kernel
theorem dX4_writeOut_55 : decode cX4_writeOut 55 = .ok (.getfield 34, 3) := by decide +kernel
theorem dX4_writeOut_58 : decode cX4_writeOut 58 = .ok (.aload_n 0, 1) := by decide +kernel
theorem dX4_writeOut_59 : decode cX4_writeOut 59 = .ok (.getfield 49, 3) := by decide +kernel
theorem dX4_writeOut_62 : decode cX4_writeOut 62 = .ok (.iload_n 1, 1) := by decide +kernel
theorem dX4_writeOut_63 : decode cX4_writeOut 63 = .ok (.aload_n 2, 1) := by decide +kernel
theorem dX4_writeOut_64 : decode cX4_writeOut 64 = .ok (.getfield 129, 3) := by decide +kernel
theorem dX4_writeOut_67 : decode cX4_writeOut 67 = .ok (.invokevirtual 148, 3) := by decide +kernel
theorem dX4_writeOut_70 : decode cX4_writeOut 70 = .ok (.return_, 1) := by decide +kernel
theorem dX4_versionBehind_0 : decode cX4_versionBehind 0 = .ok (.aload_n 0, 1) := by decide +kernel
theorem dX4_versionBehind_1 : decode cX4_versionBehind 1 = .ok (.getfield 46, 3) := by decide +kernel
theorem dX4_versionBehind_4 : decode cX4_versionBehind 4 = .ok (.ifCond .ne 9, 3) := by decide +kernel
theorem dX4_versionBehind_7 : decode cX4_versionBehind 7 = .ok (.iload_n 1, 1) := by decide +kernel
theorem dX4_versionBehind_8 : decode cX4_versionBehind 8 = .ok (.iconst 1, 1) := by decide +kernel
theorem dX4_versionBehind_9 : decode cX4_versionBehind 9 = .ok (.iadd, 1) := by decide +kernel
theorem dX4_versionBehind_10 : decode cX4_versionBehind 10 = .ok (.goto 11, 3) := by decide +kernel
theorem dX4_versionBehind_13 : decode cX4_versionBehind 13 = .ok (.iload_n 1, 1) := by decide +kernel
theorem dX4_versionBehind_14 : decode cX4_versionBehind 14 = .ok (.iconst 1, 1) := by decide +kernel
theorem dX4_versionBehind_15 : decode cX4_versionBehind 15 = .ok (.iadd, 1) := by decide +kernel
theorem dX4_versionBehind_16 : decode cX4_versionBehind 16 = .ok (.aload_n 0, 1) := by decide +kernel
theorem dX4_versionBehind_17 : decode cX4_versionBehind 17 = .ok (.getfield 46, 3) := by decide +kernel
theorem dX4_versionBehind_20 : decode cX4_versionBehind 20 = .ok (.irem, 1) := by decide +kernel
theorem dX4_versionBehind_21 : decode cX4_versionBehind 21 = .ok (.ireturn, 1) := by decide +kernel
theorem dX5_init_0 : decode cX5_init 0 = .ok (.aload_n 0, 1) := by decide +kernel
theorem dX5_init_1 : decode cX5_init 1 = .ok (.invokespecial 1, 3) := by decide +kernel
theorem dX5_init_4 : decode cX5_init 4 = .ok (.aload_n 0, 1) := by decide +kernel
theorem dX5_init_5 : decode cX5_init 5 = .ok (.new 7, 3) := by decide +kernel
theorem dX5_init_8 : decode cX5_init 8 = .ok (.dup, 1) := by decide +kernel
theorem dX5_init_9 : decode cX5_init 9 = .ok (.invokespecial 9, 3) := by decide +kernel
theorem dX5_init_12 : decode cX5_init 12 = .ok (.putfield 10, 3) := by decide +kernel
theorem dX5_init_15 : decode cX5_init 15 = .ok (.aload_n 0, 1) := by decide +kernel
theorem dX5_init_16 : decode cX5_init 16 = .ok (.new 7, 3) := by decide +kernel
theorem dX5_init_19 : decode cX5_init 19 = .ok (.dup, 1) := by decide +kernel
theorem dX5_init_20 : decode cX5_init 20 = .ok (.invokespecial 9, 3) := by decide +kernel
theorem dX5_init_23 : decode cX5_init 23 = .ok (.putfield 16, 3) := by decide +kernel
theorem dX5_init_26 : decode cX5_init 26 = .ok (.aload_n 0, 1) := by decide +kernel
theorem dX5_init_27 : decode cX5_init 27 = .ok (.iconst 5, 1) := by decide +kernel
theorem dX5_init_28 : decode cX5_init 28 = .ok (.anewarray 7, 3) := by decide +kernel
theorem dX5_init_31 : decode cX5_init 31 = .ok (.putfield 19, 3) := by decide +kernel
theorem dX5_init_34 : decode cX5_init 34 = .ok (.iconst 0, 1) := by decide +kernel
theorem dX5_init_35 : decode cX5_init 35 = .ok (.istore_n 1, 1) := by decide +kernel
theorem dX5_init_36 : decode cX5_init 36 = .ok (.iload_n 1, 1) := by decide +kernel
theorem dX5_init_37 : decode cX5_init 37 = .ok (.iconst 5, 1) := by decide +kernel
theorem dX5_init_38 : decode cX5_init 38 = .ok (.if_icmp .ge 22, 3) := by decide +kernel
theorem dX5_init_41 : decode cX5_init 41 = .ok (.aload_n 0, 1) := by decide +kernel
theorem dX5_init_42 : decode cX5_init 42 = .ok (.getfield 19, 3) := by decide +kernel
theorem dX5_init_45 : decode cX5_init 45 = .ok (.iload_n 1, 1) := by decide +kernel
theorem dX5_init_46 : decode cX5_init 46 = .ok (.new 7, 3) := by decide +kernel
theorem dX5_init_49 : decode cX5_init 49 = .ok (.dup, 1) := by decide +kernel
theorem dX5_init_50 : decode cX5_init 50 = .ok (.invokespecial 9, 3) := by decide +kernel
theorem dX5_init_53 : decode cX5_init 53 = .ok (.aastore, 1) := by decide +kernel
theorem dX5_init_54 : decode cX5_init 54 = .ok (.iinc 1 1, 3) := by decide +kernel
theorem dX5_init_57 : decode cX5_init 57 = .ok (.goto (-21), 3) := by decide +kernel
theorem dX5_init_60 : decode cX5_init 60 = .ok (.aload_n 0, 1) := by decide +kernel
theorem dX5_init_61 : decode cX5_init 61 = .ok (.iconst 2, 1) := by decide +kernel
theorem dX5_init_62 : decode cX5_init 62 = .ok (.anewarray 7, 3) := by decide +kernel
theorem dX5_init_65 : decode cX5_init 65 = .ok (.putfield 23, 3) := by decide +kernel
theorem dX5_init_68 : decode cX5_init 68 = .ok (.iconst 0, 1) := by decide +kernel
theorem dX5_init_69 : decode cX5_init 69 = .ok (.istore_n 1, 1) := by decide +kernel
theorem dX5_init_70 : decode cX5_init 70 = .ok (.iload_n 1, 1) := by decide +kernel
theorem dX5_init_71 : decode cX5_init 71 = .ok (.iconst 2, 1) := by decide +kernel
theorem dX5_init_72 : decode cX5_init 72 = .ok (.if_icmp .ge 22, 3) := by decide +kernel
theorem dX5_init_75 : decode cX5_init 75 = .ok (.aload_n 0, 1) := by decide +kernel
theorem dX5_init_76 : decode cX5_init 76 = .ok (.getfield 23, 3) := by decide +kernel
theorem dX5_init_79 : decode cX5_init 79 = .ok (.iload_n 1, 1) := by decide +kernel
theorem dX5_init_80 : decode cX5_init 80 = .ok (.new 7, 3) := by decide +kernel
theorem dX5_init_83 : decode cX5_init 83 = .ok (.dup, 1) := by decide +kernel
theorem dX5_init_84 : decode cX5_init 84 = .ok (.invokespecial 9, 3) := by decide +kernel
theorem dX5_init_87 : decode cX5_init 87 = .ok (.aastore, 1) := by decide +kernel
theorem dX5_init_88 : decode cX5_init 88 = .ok (.iinc 1 1, 3) := by decide +kernel
theorem dX5_init_91 : decode cX5_init 91 = .ok (.goto (-21), 3) := by decide +kernel
theorem dX5_init_94 : decode cX5_init 94 = .ok (.aload_n 0, 1) := by decide +kernel
theorem dX5_init_95 : decode cX5_init 95 = .ok (.iconst 2, 1) := by decide +kernel
theorem dX5_init_96 : decode cX5_init 96 = .ok (.newarray .boolean, 2) := by decide +kernel
theorem dX5_init_98 : decode cX5_init 98 = .ok (.putfield 26, 3) := by decide +kernel
theorem dX5_init_101 : decode cX5_init 101 = .ok (.aload_n 0, 1) := by decide +kernel
theorem dX5_init_102 : decode cX5_init 102 = .ok (.bipush 6, 2) := by decide +kernel
theorem dX5_init_104 : decode cX5_init 104 = .ok (.newarray .int, 2) := by decide +kernel
theorem dX5_init_106 : decode cX5_init 106 = .ok (.putfield 30, 3) := by decide +kernel
theorem dX5_init_109 : decode cX5_init 109 = .ok (.aload_n 0, 1) := by decide +kernel
theorem dX5_init_110 : decode cX5_init 110 = .ok (.bipush 6, 2) := by decide +kernel
theorem dX5_init_112 : decode cX5_init 112 = .ok (.newarray .int, 2) := by decide +kernel
theorem dX5_init_114 : decode cX5_init 114 = .ok (.putfield 34, 3) := by decide +kernel
theorem dX5_init_117 : decode cX5_init 117 = .ok (.aload_n 0, 1) := by decide +kernel
theorem dX5_init_118 : decode cX5_init 118 = .ok (.bipush 6, 2) := by decide +kernel
theorem dX5_init_120 : decode cX5_init 120 = .ok (.newarray .int, 2) := by decide +kernel
theorem dX5_init_122 : decode cX5_init 122 = .ok (.putfield 37, 3) := by decide +kernel
theorem dX5_init_125 : decode cX5_init 125 = .ok (.aload_n 0, 1) := by decide +kernel
theorem dX5_init_126 : decode cX5_init 126 = .ok (.iconst 4, 1) := by decide +kernel
theorem dX5_init_127 : decode cX5_init 127 = .ok (.newarray .int, 2) := by decide +kernel
theorem dX5_init_129 : decode cX5_init 129 = .ok (.putfield 40, 3) := by decide +kernel
theorem dX5_init_132 : decode cX5_init 132 = .ok (.aload_n 0, 1) := by decide +kernel
theorem dX5_init_133 : decode cX5_init 133 = .ok (.getfield 10, 3) := by decide +kernel
theorem dX5_init_136 : decode cX5_init 136 = .ok (.iconst 3, 1) := by decide +kernel
theorem dX5_init_137 : decode cX5_init 137 = .ok (.iconst 2, 1) := by decide +kernel
theorem dX5_init_138 : decode cX5_init 138 = .ok (.iconst 0, 1) := by decide +kernel
theorem dX5_init_139 : decode cX5_init 139 = .ok (.invokevirtual 43, 3) := by decide +kernel
theorem dX5_init_142 : decode cX5_init 142 = .ok (.return_, 1) := by decide +kernel
theorem dX5_begins_0 : decode cX5_begins 0 = .ok (.iload_n 1, 1) := by decide +kernel
theorem dX5_begins_1 : decode cX5_begins 1 = .ok (.iconst 2, 1) := by decide +kernel
theorem dX5_begins_2 : decode cX5_begins 2 = .ok (.iconst 4, 1) := by decide +kernel
theorem dX5_begins_3 : decode cX5_begins 3 = .ok (.invokestatic 47, 3) := by decide +kernel
theorem dX5_begins_6 : decode cX5_begins 6 = .ok (.ifCond .eq 19, 3) := by decide +kernel
theorem dX5_begins_9 : decode cX5_begins 9 = .ok (.iload_n 2, 1) := by decide +kernel
theorem dX5_begins_10 : decode cX5_begins 10 = .ok (.iconst 1, 1) := by decide +kernel
theorem dX5_begins_11 : decode cX5_begins 11 = .ok (.iconst 4, 1) := by decide +kernel
theorem dX5_begins_12 : decode cX5_begins 12 = .ok (.invokestatic 47, 3) := by decide +kernel
theorem dX5_begins_15 : decode cX5_begins 15 = .ok (.ifCond .eq 10, 3) := by decide +kernel
theorem dX5_begins_18 : decode cX5_begins 18 = .ok (.iload_n 3, 1) := by decide +kernel
theorem dX5_begins_19 : decode cX5_begins 19 = .ok (.invokestatic 51, 3) := by decide +kernel
theorem dX5_begins_22 : decode cX5_begins 22 = .ok (.ifCond .ne 5, 3) := by decide +kernel
theorem dX5_begins_25 : decode cX5_begins 25 = .ok (.iconst (-1), 1) := by decide +kernel
theorem dX5_begins_26 : decode cX5_begins 26 = .ok (.ireturn, 1) := by decide +kernel
theorem dX5_begins_27 : decode cX5_begins 27 = .ok (.aload_n 0, 1) := by decide +kernel
theorem dX5_begins_28 : decode cX5_begins 28 = .ok (.invokevirtual 55, 3) := by decide +kernel
theorem dX5_begins_31 : decode cX5_begins 31 = .ok (.aload_n 0, 1) := by decide +kernel
theorem dX5_begins_32 : decode cX5_begins 32 = .ok (.getfield 10, 3) := by decide +kernel
theorem dX5_begins_35 : decode cX5_begins 35 = .ok (.iload_n 1, 1) := by decide +kernel
theorem dX5_begins_36 : decode cX5_begins 36 = .ok (.iload_n 2, 1) := by decide +kernel
theorem dX5_begins_37 : decode cX5_begins 37 = .ok (.iload_n 3, 1) := by decide +kernel
theorem dX5_begins_38 : decode cX5_begins 38 = .ok (.invokevirtual 43, 3) := by decide +kernel
theorem dX5_begins_41 : decode cX5_begins 41 = .ok (.aload_n 0, 1) := by decide +kernel
theorem dX5_begins_42 : decode cX5_begins 42 = .ok (.iconst 0, 1) := by decide +kernel
theorem dX5_begins_43 : decode cX5_begins 43 = .ok (.putfield 58, 3) := by decide +kernel
theorem dX5_begins_46 : decode cX5_begins 46 = .ok (.iconst 0, 1) := by decide +kernel
theorem dX5_begins_47 : decode cX5_begins 47 = .ok (.istore 4, 2) := by decide +kernel
theorem dX5_begins_49 : decode cX5_begins 49 = .ok (.iload 4, 2) := by decide +kernel
theorem dX5_begins_51 : decode cX5_begins 51 = .ok (.iconst 2, 1) := by decide +kernel
theorem dX5_begins_52 : decode cX5_begins 52 = .ok (.if_icmp .ge 17, 3) := by decide +kernel
theorem dX5_begins_55 : decode cX5_begins 55 = .ok (.aload_n 0, 1) := by decide +kernel
theorem dX5_begins_56 : decode cX5_begins 56 = .ok (.getfield 26, 3) := by decide +kernel
theorem dX5_begins_59 : decode cX5_begins 59 = .ok (.iload 4, 2) := by decide +kernel
theorem dX5_begins_61 : decode cX5_begins 61 = .ok (.iconst 0, 1) := by decide +kernel
theorem dX5_begins_62 : decode cX5_begins 62 = .ok (.bastore, 1) := by decide +kernel
theorem dX5_begins_63 : decode cX5_begins 63 = .ok (.iinc 4 1, 3) := by decide +kernel
theorem dX5_begins_66 : decode cX5_begins 66 = .ok (.goto (-17), 3) := by decide +kernel
theorem dX5_begins_69 : decode cX5_begins 69 = .ok (.iload_n 1, 1) := by decide +kernel
theorem dX5_begins_70 : decode cX5_begins 70 = .ok (.ireturn, 1) := by decide +kernel
theorem dX5_scans_0 : decode cX5_scans 0 = .ok (.aload_n 0, 1) := by decide +kernel
theorem dX5_scans_1 : decode cX5_scans 1 = .ok (.getfield 10, 3) := by decide +kernel
theorem dX5_scans_4 : decode cX5_scans 4 = .ok (.iload_n 1, 1) := by decide +kernel
theorem dX5_scans_5 : decode cX5_scans 5 = .ok (.invokevirtual 62, 3) := by decide +kernel
theorem dX5_scans_8 : decode cX5_scans 8 = .ok (.ifCond .ne 5, 3) := by decide +kernel
theorem dX5_scans_11 : decode cX5_scans 11 = .ok (.iconst (-1), 1) := by decide +kernel
theorem dX5_scans_12 : decode cX5_scans 12 = .ok (.ireturn, 1) := by decide +kernel
theorem dX5_scans_13 : decode cX5_scans 13 = .ok (.aload_n 0, 1) := by decide +kernel
theorem dX5_scans_14 : decode cX5_scans 14 = .ok (.iload_n 1, 1) := by decide +kernel
theorem dX5_scans_15 : decode cX5_scans 15 = .ok (.iconst 1, 1) := by decide +kernel
theorem dX5_scans_16 : decode cX5_scans 16 = .ok (.bipush (-9), 2) := by decide +kernel
theorem dX5_scans_18 : decode cX5_scans 18 = .ok (.invokevirtual 65, 3) := by decide +kernel
theorem dX5_scans_21 : decode cX5_scans 21 = .ok (.ireturn, 1) := by decide +kernel
theorem dX5_writes_0 : decode cX5_writes 0 = .ok (.aload_n 0, 1) := by decide +kernel
theorem dX5_writes_1 : decode cX5_writes 1 = .ok (.getfield 10, 3) := by decide +kernel
theorem dX5_writes_4 : decode cX5_writes 4 = .ok (.iload_n 1, 1) := by decide +kernel
theorem dX5_writes_5 : decode cX5_writes 5 = .ok (.invokevirtual 62, 3) := by decide +kernel
theorem dX5_writes_8 : decode cX5_writes 8 = .ok (.ifCond .eq 13, 3) := by decide +kernel
theorem dX5_writes_11 : decode cX5_writes 11 = .ok (.iload_n 2, 1) := by decide +kernel
theorem dX5_writes_12 : decode cX5_writes 12 = .ok (.iconst 0, 1) := by decide +kernel
theorem dX5_writes_13 : decode cX5_writes 13 = .ok (.bipush 99, 2) := by decide +kernel
theorem dX5_writes_15 : decode cX5_writes 15 = .ok (.invokestatic 47, 3) := by decide +kernel
theorem dX5_writes_18 : decode cX5_writes 18 = .ok (.ifCond .ne 5, 3) := by decide +kernel
theorem dX5_writes_21 : decode cX5_writes 21 = .ok (.iconst (-1), 1) := by decide +kernel
theorem dX5_writes_22 : decode cX5_writes 22 = .ok (.ireturn, 1) := by decide +kernel
theorem dX5_writes_23 : decode cX5_writes 23 = .ok (.aload_n 0, 1) := by decide +kernel
theorem dX5_writes_24 : decode cX5_writes 24 = .ok (.iload_n 1, 1) := by decide +kernel
theorem dX5_writes_25 : decode cX5_writes 25 = .ok (.iconst 2, 1) := by decide +kernel
theorem dX5_writes_26 : decode cX5_writes 26 = .ok (.iload_n 2, 1) := by decide +kernel
theorem dX5_writes_27 : decode cX5_writes 27 = .ok (.invokevirtual 65, 3) := by decide +kernel
theorem dX5_writes_30 : decode cX5_writes 30 = .ok (.ireturn, 1) := by decide +kernel
theorem dX5_steps_0 : decode cX5_steps 0 = .ok (.aload_n 0, 1) := by decide +kernel
theorem dX5_steps_1 : decode cX5_steps 1 = .ok (.getfield 10, 3) := by decide +kernel
theorem dX5_steps_4 : decode cX5_steps 4 = .ok (.iload_n 1, 1) := by decide +kernel
theorem dX5_steps_5 : decode cX5_steps 5 = .ok (.invokevirtual 62, 3) := by decide +kernel
theorem dX5_steps_8 : decode cX5_steps 8 = .ok (.ifCond .eq 13, 3) := by decide +kernel
theorem dX5_steps_11 : decode cX5_steps 11 = .ok (.iload_n 2, 1) := by decide +kernel
theorem dX5_steps_12 : decode cX5_steps 12 = .ok (.iconst 1, 1) := by decide +kernel
theorem dX5_steps_13 : decode cX5_steps 13 = .ok (.bipush 20, 2) := by decide +kernel
theorem dX5_steps_15 : decode cX5_steps 15 = .ok (.invokestatic 47, 3) := by decide +kernel
theorem dX5_steps_18 : decode cX5_steps 18 = .ok (.ifCond .ne 5, 3) := by decide +kernel
theorem dX5_steps_21 : decode cX5_steps 21 = .ok (.iconst (-1), 1) := by decide +kernel
theorem dX5_steps_22 : decode cX5_steps 22 = .ok (.ireturn, 1) := by decide +kernel
theorem dX5_steps_23 : decode cX5_steps 23 = .ok (.aload_n 0, 1) := by decide +kernel
theorem dX5_steps_24 : decode cX5_steps 24 = .ok (.getfield 10, 3) := by decide +kernel
theorem dX5_steps_27 : decode cX5_steps 27 = .ok (.iload_n 1, 1) := by decide +kernel
theorem dX5_steps_28 : decode cX5_steps 28 = .ok (.invokevirtual 69, 3) := by decide +kernel
theorem dX5_steps_31 : decode cX5_steps 31 = .ok (.ifCond .eq 6, 3) := by decide +kernel
theorem dX5_steps_34 : decode cX5_steps 34 = .ok (.bipush (-2), 2) := by decide +kernel
theorem dX5_steps_36 : decode cX5_steps 36 = .ok (.ireturn, 1) := by decide +kernel
theorem dX5_steps_37 : decode cX5_steps 37 = .ok (.aload_n 0, 1) := by decide +kernel
theorem dX5_steps_38 : decode cX5_steps 38 = .ok (.invokevirtual 55, 3) := by decide +kernel
theorem dX5_steps_41 : decode cX5_steps 41 = .ok (.aload_n 0, 1) := by decide +kernel
theorem dX5_steps_42 : decode cX5_steps 42 = .ok (.getfield 10, 3) := by decide +kernel
theorem dX5_steps_45 : decode cX5_steps 45 = .ok (.iload_n 1, 1) := by decide +kernel
theorem dX5_steps_46 : decode cX5_steps 46 = .ok (.iload_n 2, 1) := by decide +kernel
theorem dX5_steps_47 : decode cX5_steps 47 = .ok (.invokevirtual 72, 3) := by decide +kernel
theorem dX5_steps_50 : decode cX5_steps 50 = .ok (.ireturn, 1) := by decide +kernel
theorem dX5_undo_0 : decode cX5_undo 0 = .ok (.aload_n 0, 1) := by decide +kernel
theorem dX5_undo_1 : decode cX5_undo 1 = .ok (.getfield 76, 3) := by decide +kernel
theorem dX5_undo_4 : decode cX5_undo 4 = .ok (.ifCond .ne 6, 3) := by decide +kernel
theorem dX5_undo_7 : decode cX5_undo 7 = .ok (.bipush (-2), 2) := by decide +kernel
theorem dX5_undo_9 : decode cX5_undo 9 = .ok (.ireturn, 1) := by decide +kernel
theorem dX5_undo_10 : decode cX5_undo 10 = .ok (.aload_n 0, 1) := by decide +kernel
theorem dX5_undo_11 : decode cX5_undo 11 = .ok (.aload_n 0, 1) := by decide +kernel
theorem dX5_undo_12 : decode cX5_undo 12 = .ok (.getfield 79, 3) := by decide +kernel
theorem dX5_undo_15 : decode cX5_undo 15 = .ok (.ifCond .ne 7, 3) := by decide +kernel
theorem dX5_undo_18 : decode cX5_undo 18 = .ok (.iconst 4, 1) := by decide +kernel
theorem dX5_undo_19 : decode cX5_undo 19 = .ok (.goto 9, 3) := by decide +kernel
theorem dX5_undo_22 : decode cX5_undo 22 = .ok (.aload_n 0, 1) := by decide +kernel
theorem dX5_undo_23 : decode cX5_undo 23 = .ok (.getfield 79, 3) := by decide +kernel
theorem dX5_undo_26 : decode cX5_undo 26 = .ok (.iconst 1, 1) := by decide +kernel
theorem dX5_undo_27 : decode cX5_undo 27 = .ok (.isub, 1) := by decide +kernel
theorem dX5_undo_28 : decode cX5_undo 28 = .ok (.putfield 79, 3) := by decide +kernel
theorem dX5_undo_31 : decode cX5_undo 31 = .ok (.aload_n 0, 1) := by decide +kernel
theorem dX5_undo_32 : decode cX5_undo 32 = .ok (.dup, 1) := by decide +kernel
theorem dX5_undo_33 : decode cX5_undo 33 = .ok (.getfield 76, 3) := by decide +kernel
theorem dX5_undo_36 : decode cX5_undo 36 = .ok (.iconst 1, 1) := by decide +kernel
theorem dX5_undo_37 : decode cX5_undo 37 = .ok (.isub, 1) := by decide +kernel
theorem dX5_undo_38 : decode cX5_undo 38 = .ok (.putfield 76, 3) := by decide +kernel
theorem dX5_undo_41 : decode cX5_undo 41 = .ok (.aload_n 0, 1) := by decide +kernel
theorem dX5_undo_42 : decode cX5_undo 42 = .ok (.getfield 10, 3) := by decide +kernel
theorem dX5_undo_45 : decode cX5_undo 45 = .ok (.aload_n 0, 1) := by decide +kernel
theorem dX5_undo_46 : decode cX5_undo 46 = .ok (.getfield 19, 3) := by decide +kernel
theorem dX5_undo_49 : decode cX5_undo 49 = .ok (.aload_n 0, 1) := by decide +kernel
theorem dX5_undo_50 : decode cX5_undo 50 = .ok (.getfield 79, 3) := by decide +kernel
theorem dX5_undo_53 : decode cX5_undo 53 = .ok (.aaload, 1) := by decide +kernel
theorem dX5_undo_54 : decode cX5_undo 54 = .ok (.invokevirtual 82, 3) := by decide +kernel
theorem dX5_undo_57 : decode cX5_undo 57 = .ok (.aload_n 0, 1) := by decide +kernel
theorem dX5_undo_58 : decode cX5_undo 58 = .ok (.getfield 76, 3) := by decide +kernel
theorem dX5_undo_61 : decode cX5_undo 61 = .ok (.ireturn, 1) := by decide +kernel
theorem dX5_cell_0 : decode cX5_cell 0 = .ok (.aload_n 0, 1) := by decide +kernel
theorem dX5_cell_1 : decode cX5_cell 1 = .ok (.getfield 10, 3) := by decide +kernel
theorem dX5_cell_4 : decode cX5_cell 4 = .ok (.iload_n 1, 1) := by decide +kernel
theorem dX5_cell_5 : decode cX5_cell 5 = .ok (.invokevirtual 62, 3) := by decide +kernel
theorem dX5_cell_8 : decode cX5_cell 8 = .ok (.ifCond .eq 12, 3) := by decide +kernel
theorem dX5_cell_11 : decode cX5_cell 11 = .ok (.iload_n 2, 1) := by decide +kernel
theorem dX5_cell_12 : decode cX5_cell 12 = .ok (.iconst 0, 1) := by decide +kernel
theorem dX5_cell_13 : decode cX5_cell 13 = .ok (.iconst 5, 1) := by decide +kernel
theorem dX5_cell_14 : decode cX5_cell 14 = .ok (.invokestatic 47, 3) := by decide +kernel
theorem dX5_cell_17 : decode cX5_cell 17 = .ok (.ifCond .ne 5, 3) := by decide +kernel
theorem dX5_cell_20 : decode cX5_cell 20 = .ok (.iconst (-1), 1) := by decide +kernel
theorem dX5_cell_21 : decode cX5_cell 21 = .ok (.ireturn, 1) := by decide +kernel
theorem dX5_cell_22 : decode cX5_cell 22 = .ok (.iload_n 2, 1) := by decide +kernel
theorem dX5_cell_23 : decode cX5_cell 23 = .ok (.lookupswitch 51 #[(0, 25), (1, 38)], 25) := by decide +kernel
theorem dX5_cell_48 : decode cX5_cell 48 = .ok (.aload_n 0, 1) := by decide +kernel
theorem dX5_cell_49 : decode cX5_cell 49 = .ok (.getfield 10, 3) := by decide +kernel
theorem dX5_cell_52 : decode cX5_cell 52 = .ok (.getfield 86, 3) := by decide +kernel
theorem dX5_cell_55 : decode cX5_cell 55 = .ok (.getfield 90, 3) := by decide +kernel
theorem dX5_cell_58 : decode cX5_cell 58 = .ok (.iload_n 1, 1) := by decide +kernel
theorem dX5_cell_59 : decode cX5_cell 59 = .ok (.iaload, 1) := by decide +kernel
theorem dX5_cell_60 : decode cX5_cell 60 = .ok (.ireturn, 1) := by decide +kernel
theorem dX5_cell_61 : decode cX5_cell 61 = .ok (.aload_n 0, 1) := by decide +kernel
theorem dX5_cell_62 : decode cX5_cell 62 = .ok (.getfield 10, 3) := by decide +kernel
theorem dX5_cell_65 : decode cX5_cell 65 = .ok (.getfield 86, 3) := by decide +kernel
theorem dX5_cell_68 : decode cX5_cell 68 = .ok (.getfield 95, 3) := by decide +kernel
theorem dX5_cell_71 : decode cX5_cell 71 = .ok (.iload_n 1, 1) := by decide +kernel
theorem dX5_cell_72 : decode cX5_cell 72 = .ok (.iaload, 1) := by decide +kernel
theorem dX5_cell_73 : decode cX5_cell 73 = .ok (.ireturn, 1) := by decide +kernel
theorem dX5_cell_74 : decode cX5_cell 74 = .ok (.aload_n 0, 1) := by decide +kernel
theorem dX5_cell_75 : decode cX5_cell 75 = .ok (.getfield 10, 3) := by decide +kernel
theorem dX5_cell_78 : decode cX5_cell 78 = .ok (.getfield 86, 3) := by decide +kernel
theorem dX5_cell_81 : decode cX5_cell 81 = .ok (.getfield 98, 3) := by decide +kernel
theorem dX5_cell_84 : decode cX5_cell 84 = .ok (.iload_n 1, 1) := by decide +kernel
theorem dX5_cell_85 : decode cX5_cell 85 = .ok (.iconst 4, 1) := by decide +kernel
theorem dX5_cell_86 : decode cX5_cell 86 = .ok (.imul, 1) := by decide +kernel
theorem dX5_cell_87 : decode cX5_cell 87 = .ok (.iload_n 2, 1) := by decide +kernel
theorem dX5_cell_88 : decode cX5_cell 88 = .ok (.iadd, 1) := by decide +kernel
theorem dX5_cell_89 : decode cX5_cell 89 = .ok (.iconst 2, 1) := by decide +kernel
theorem dX5_cell_90 : decode cX5_cell 90 = .ok (.isub, 1) := by decide +kernel
theorem dX5_cell_91 : decode cX5_cell 91 = .ok (.iaload, 1) := by decide +kernel
theorem dX5_cell_92 : decode cX5_cell 92 = .ok (.ireturn, 1) := by decide +kernel
theorem dX5_writer_0 : decode cX5_writer 0 = .ok (.aload_n 0, 1) := by decide +kernel
theorem dX5_writer_1 : decode cX5_writer 1 = .ok (.getfield 10, 3) := by decide +kernel
theorem dX5_writer_4 : decode cX5_writer 4 = .ok (.iload_n 1, 1) := by decide +kernel
theorem dX5_writer_5 : decode cX5_writer 5 = .ok (.invokevirtual 62, 3) := by decide +kernel
theorem dX5_writer_8 : decode cX5_writer 8 = .ok (.ifCond .eq 13, 3) := by decide +kernel
theorem dX5_writer_11 : decode cX5_writer 11 = .ok (.iload_n 2, 1) := by decide +kernel
theorem dX5_writer_12 : decode cX5_writer 12 = .ok (.iconst 0, 1) := by decide +kernel
theorem dX5_writer_13 : decode cX5_writer 13 = .ok (.bipush 8, 2) := by decide +kernel
theorem dX5_writer_15 : decode cX5_writer 15 = .ok (.invokestatic 47, 3) := by decide +kernel
theorem dX5_writer_18 : decode cX5_writer 18 = .ok (.ifCond .ne 5, 3) := by decide +kernel
theorem dX5_writer_21 : decode cX5_writer 21 = .ok (.iconst (-1), 1) := by decide +kernel
theorem dX5_writer_22 : decode cX5_writer 22 = .ok (.ireturn, 1) := by decide +kernel
theorem dX5_writer_23 : decode cX5_writer 23 = .ok (.aload_n 0, 1) := by decide +kernel
theorem dX5_writer_24 : decode cX5_writer 24 = .ok (.getfield 10, 3) := by decide +kernel
theorem dX5_writer_27 : decode cX5_writer 27 = .ok (.getfield 101, 3) := by decide +kernel
theorem dX5_writer_30 : decode cX5_writer 30 = .ok (.iload_n 1, 1) := by decide +kernel
theorem dX5_writer_31 : decode cX5_writer 31 = .ok (.aaload, 1) := by decide +kernel
theorem dX5_writer_32 : decode cX5_writer 32 = .ok (.astore_n 3, 1) := by decide +kernel
theorem dX5_writer_33 : decode cX5_writer 33 = .ok (.iload_n 2, 1) := by decide +kernel
theorem dX5_writer_34 : decode cX5_writer 34 = .ok (.tableswitch 87 0 8 #[50, 55, 60, 77, 87, 87, 87, 87, 82], 50) := by decide +kernel
theorem dX5_writer_84 : decode cX5_writer 84 = .ok (.aload_n 3, 1) := by decide +kernel
theorem dX5_writer_85 : decode cX5_writer 85 = .ok (.getfield 105, 3) := by decide +kernel
theorem dX5_writer_88 : decode cX5_writer 88 = .ok (.ireturn, 1) := by decide +kernel
theorem dX5_writer_89 : decode cX5_writer 89 = .ok (.aload_n 3, 1) := by decide +kernel
theorem dX5_writer_90 : decode cX5_writer 90 = .ok (.getfield 110, 3) := by decide +kernel
theorem dX5_writer_93 : decode cX5_writer 93 = .ok (.ireturn, 1) := by decide +kernel
theorem dX5_writer_94 : decode cX5_writer 94 = .ok (.aload_n 3, 1) := by decide +kernel
theorem dX5_writer_95 : decode cX5_writer 95 = .ok (.invokevirtual 113, 3) := by decide +kernel
theorem dX5_writer_98 : decode cX5_writer 98 = .ok (.ifCond .eq 10, 3) := by decide +kernel
theorem dX5_writer_101 : decode cX5_writer 101 = .ok (.aload_n 3, 1) := by decide +kernel
theorem dX5_writer_102 : decode cX5_writer 102 = .ok (.getfield 117, 3) := by decide +kernel
theorem dX5_writer_105 : decode cX5_writer 105 = .ok (.goto 5, 3) := by decide +kernel
theorem dX5_writer_108 : decode cX5_writer 108 = .ok (.bipush (-9), 2) := by decide +kernel
theorem dX5_writer_110 : decode cX5_writer 110 = .ok (.ireturn, 1) := by decide +kernel
theorem dX5_writer_111 : decode cX5_writer 111 = .ok (.aload_n 3, 1) := by decide +kernel
theorem dX5_writer_112 : decode cX5_writer 112 = .ok (.getfield 120, 3) := by decide +kernel
theorem dX5_writer_115 : decode cX5_writer 115 = .ok (.ireturn, 1) := by decide +kernel
theorem dX5_writer_116 : decode cX5_writer 116 = .ok (.aload_n 3, 1) := by decide +kernel
theorem dX5_writer_117 : decode cX5_writer 117 = .ok (.getfield 123, 3) := by decide +kernel
theorem dX5_writer_120 : decode cX5_writer 120 = .ok (.ireturn, 1) := by decide +kernel
theorem dX5_writer_121 : decode cX5_writer 121 = .ok (.aload_n 3, 1) := by decide +kernel
theorem dX5_writer_122 : decode cX5_writer 122 = .ok (.getfield 126, 3) := by decide +kernel
theorem dX5_writer_125 : decode cX5_writer 125 = .ok (.iload_n 2, 1) := by decide +kernel
theorem dX5_writer_126 : decode cX5_writer 126 = .ok (.iconst 4, 1) := by decide +kernel
theorem dX5_writer_127 : decode cX5_writer 127 = .ok (.isub, 1) := by decide +kernel
theorem dX5_writer_128 : decode cX5_writer 128 = .ok (.iaload, 1) := by decide +kernel
theorem dX5_writer_129 : decode cX5_writer 129 = .ok (.ireturn, 1) := by decide +kernel
theorem dX5_read_0 : decode cX5_read 0 = .ok (.aload_n 0, 1) := by decide +kernel
theorem dX5_read_1 : decode cX5_read 1 = .ok (.getfield 10, 3) := by decide +kernel
theorem dX5_read_4 : decode cX5_read 4 = .ok (.iload_n 1, 1) := by decide +kernel
theorem dX5_read_5 : decode cX5_read 5 = .ok (.invokevirtual 62, 3) := by decide +kernel
theorem dX5_read_8 : decode cX5_read 8 = .ok (.ifCond .eq 23, 3) := by decide +kernel
theorem dX5_read_11 : decode cX5_read 11 = .ok (.aload_n 0, 1) := by decide +kernel
theorem dX5_read_12 : decode cX5_read 12 = .ok (.getfield 10, 3) := by decide +kernel
theorem dX5_read_15 : decode cX5_read 15 = .ok (.iload_n 2, 1) := by decide +kernel
theorem dX5_read_16 : decode cX5_read 16 = .ok (.invokevirtual 62, 3) := by decide +kernel
theorem dX5_read_19 : decode cX5_read 19 = .ok (.ifCond .eq 12, 3) := by decide +kernel
theorem dX5_read_22 : decode cX5_read 22 = .ok (.iload_n 3, 1) := by decide +kernel
theorem dX5_read_23 : decode cX5_read 23 = .ok (.iconst 0, 1) := by decide +kernel
theorem dX5_read_24 : decode cX5_read 24 = .ok (.iconst 1, 1) := by decide +kernel
theorem dX5_read_25 : decode cX5_read 25 = .ok (.invokestatic 47, 3) := by decide +kernel
theorem dX5_read_28 : decode cX5_read 28 = .ok (.ifCond .ne 5, 3) := by decide +kernel
theorem dX5_read_31 : decode cX5_read 31 = .ok (.iconst (-1), 1) := by decide +kernel
theorem dX5_read_32 : decode cX5_read 32 = .ok (.ireturn, 1) := by decide +kernel
theorem dX5_read_33 : decode cX5_read 33 = .ok (.aload_n 0, 1) := by decide +kernel
theorem dX5_read_34 : decode cX5_read 34 = .ok (.getfield 10, 3) := by decide +kernel
theorem dX5_read_37 : decode cX5_read 37 = .ok (.getfield 101, 3) := by decide +kernel
theorem dX5_read_40 : decode cX5_read 40 = .ok (.iload_n 1, 1) := by decide +kernel
theorem dX5_read_41 : decode cX5_read 41 = .ok (.aaload, 1) := by decide +kernel
theorem dX5_read_42 : decode cX5_read 42 = .ok (.astore 4, 2) := by decide +kernel
theorem dX5_read_44 : decode cX5_read 44 = .ok (.aload 4, 2) := by decide +kernel
theorem dX5_read_46 : decode cX5_read 46 = .ok (.invokevirtual 113, 3) := by decide +kernel
theorem dX5_read_49 : decode cX5_read 49 = .ok (.ifCond .eq 12, 3) := by decide +kernel
theorem dX5_read_52 : decode cX5_read 52 = .ok (.iload_n 2, 1) := by decide +kernel
theorem dX5_read_53 : decode cX5_read 53 = .ok (.aload 4, 2) := by decide +kernel
theorem dX5_read_55 : decode cX5_read 55 = .ok (.getfield 117, 3) := by decide +kernel
theorem dX5_read_58 : decode cX5_read 58 = .ok (.if_icmp .lt 6, 3) := by decide +kernel
theorem dX5_read_61 : decode cX5_read 61 = .ok (.bipush (-9), 2) := by decide +kernel
theorem dX5_read_63 : decode cX5_read 63 = .ok (.ireturn, 1) := by decide +kernel
theorem dX5_read_64 : decode cX5_read 64 = .ok (.iload_n 3, 1) := by decide +kernel
theorem dX5_read_65 : decode cX5_read 65 = .ok (.ifCond .ne 16, 3) := by decide +kernel
theorem dX5_read_68 : decode cX5_read 68 = .ok (.aload 4, 2) := by decide +kernel
theorem dX5_read_70 : decode cX5_read 70 = .ok (.getfield 129, 3) := by decide +kernel
theorem dX5_read_73 : decode cX5_read 73 = .ok (.getfield 90, 3) := by decide +kernel
theorem dX5_read_76 : decode cX5_read 76 = .ok (.iload_n 2, 1) := by decide +kernel
theorem dX5_read_77 : decode cX5_read 77 = .ok (.iaload, 1) := by decide +kernel
theorem dX5_read_78 : decode cX5_read 78 = .ok (.goto 13, 3) := by decide +kernel
theorem dX5_read_81 : decode cX5_read 81 = .ok (.aload 4, 2) := by decide +kernel
theorem dX5_read_83 : decode cX5_read 83 = .ok (.getfield 129, 3) := by decide +kernel
theorem dX5_read_86 : decode cX5_read 86 = .ok (.getfield 95, 3) := by decide +kernel
theorem dX5_read_89 : decode cX5_read 89 = .ok (.iload_n 2, 1) := by decide +kernel
theorem dX5_read_90 : decode cX5_read 90 = .ok (.iaload, 1) := by decide +kernel
theorem dX5_read_91 : decode cX5_read 91 = .ok (.ireturn, 1) := by decide +kernel
theorem dX5_photo_0 : decode cX5_photo 0 = .ok (.iload_n 1, 1) := by decide +kernel
theorem dX5_photo_1 : decode cX5_photo 1 = .ok (.iconst 0, 1) := by decide +kernel
theorem dX5_photo_2 : decode cX5_photo 2 = .ok (.aload_n 0, 1) := by decide +kernel
theorem dX5_photo_3 : decode cX5_photo 3 = .ok (.getfield 10, 3) := by decide +kernel
theorem dX5_photo_6 : decode cX5_photo 6 = .ok (.getfield 132, 3) := by decide +kernel
theorem dX5_photo_9 : decode cX5_photo 9 = .ok (.getfield 136, 3) := by decide +kernel
theorem dX5_photo_12 : decode cX5_photo 12 = .ok (.iconst 1, 1) := by decide +kernel
theorem dX5_photo_13 : decode cX5_photo 13 = .ok (.isub, 1) := by decide +kernel
theorem dX5_photo_14 : decode cX5_photo 14 = .ok (.invokestatic 47, 3) := by decide +kernel
theorem dX5_photo_17 : decode cX5_photo 17 = .ok (.ifCond .eq 13, 3) := by decide +kernel
theorem dX5_photo_20 : decode cX5_photo 20 = .ok (.iload_n 2, 1) := by decide +kernel
theorem dX5_photo_21 : decode cX5_photo 21 = .ok (.iconst 0, 1) := by decide +kernel
theorem dX5_photo_22 : decode cX5_photo 22 = .ok (.bipush 10, 2) := by decide +kernel
theorem dX5_photo_24 : decode cX5_photo 24 = .ok (.invokestatic 47, 3) := by decide +kernel
theorem dX5_photo_27 : decode cX5_photo 27 = .ok (.ifCond .ne 5, 3) := by decide +kernel
theorem dX5_photo_30 : decode cX5_photo 30 = .ok (.iconst (-1), 1) := by decide +kernel
theorem dX5_photo_31 : decode cX5_photo 31 = .ok (.ireturn, 1) := by decide +kernel
theorem dX5_photo_32 : decode cX5_photo 32 = .ok (.aload_n 0, 1) := by decide +kernel
theorem dX5_photo_33 : decode cX5_photo 33 = .ok (.getfield 10, 3) := by decide +kernel
theorem dX5_photo_36 : decode cX5_photo 36 = .ok (.getfield 132, 3) := by decide +kernel
theorem dX5_photo_39 : decode cX5_photo 39 = .ok (.iload_n 1, 1) := by decide +kernel
theorem dX5_photo_40 : decode cX5_photo 40 = .ok (.iload_n 2, 1) := by decide +kernel
theorem dX5_photo_41 : decode cX5_photo 41 = .ok (.invokevirtual 141, 3) := by decide +kernel
theorem dX5_photo_44 : decode cX5_photo 44 = .ok (.ireturn, 1) := by decide +kernel
theorem dX5_lone_0 : decode cX5_lone 0 = .ok (.aload_n 0, 1) := by decide +kernel
theorem dX5_lone_1 : decode cX5_lone 1 = .ok (.getfield 10, 3) := by decide +kernel
theorem dX5_lone_4 : decode cX5_lone 4 = .ok (.iload_n 1, 1) := by decide +kernel
theorem dX5_lone_5 : decode cX5_lone 5 = .ok (.invokevirtual 62, 3) := by decide +kernel
theorem dX5_lone_8 : decode cX5_lone 8 = .ok (.ifCond .ne 5, 3) := by decide +kernel
theorem dX5_lone_11 : decode cX5_lone 11 = .ok (.iconst (-1), 1) := by decide +kernel
theorem dX5_lone_12 : decode cX5_lone 12 = .ok (.ireturn, 1) := by decide +kernel
theorem dX5_lone_13 : decode cX5_lone 13 = .ok (.aload_n 0, 1) := by decide +kernel
theorem dX5_lone_14 : decode cX5_lone 14 = .ok (.getfield 16, 3) := by decide +kernel
theorem dX5_lone_17 : decode cX5_lone 17 = .ok (.aload_n 0, 1) := by decide +kernel
theorem dX5_lone_18 : decode cX5_lone 18 = .ok (.getfield 10, 3) := by decide +kernel
theorem dX5_lone_21 : decode cX5_lone 21 = .ok (.invokevirtual 82, 3) := by decide +kernel
theorem dX5_lone_24 : decode cX5_lone 24 = .ok (.aload_n 0, 1) := by decide +kernel
theorem dX5_lone_25 : decode cX5_lone 25 = .ok (.getfield 16, 3) := by decide +kernel
theorem dX5_lone_28 : decode cX5_lone 28 = .ok (.iload_n 1, 1) := by decide +kernel
theorem dX5_lone_29 : decode cX5_lone 29 = .ok (.sipush 1000, 3) := by decide +kernel
theorem dX5_lone_32 : decode cX5_lone 32 = .ok (.invokevirtual 72, 3) := by decide +kernel
theorem dX5_lone_35 : decode cX5_lone 35 = .ok (.ireturn, 1) := by decide +kernel
theorem dX5_byTurns_0 : decode cX5_byTurns 0 = .ok (.aload_n 0, 1) := by decide +kernel
theorem dX5_byTurns_1 : decode cX5_byTurns 1 = .ok (.getfield 16, 3) := by decide +kernel
theorem dX5_byTurns_4 : decode cX5_byTurns 4 = .ok (.aload_n 0, 1) := by decide +kernel
theorem dX5_byTurns_5 : decode cX5_byTurns 5 = .ok (.getfield 10, 3) := by decide +kernel
theorem dX5_byTurns_8 : decode cX5_byTurns 8 = .ok (.invokevirtual 82, 3) := by decide +kernel
theorem dX5_byTurns_11 : decode cX5_byTurns 11 = .ok (.iconst 0, 1) := by decide +kernel
theorem dX5_byTurns_12 : decode cX5_byTurns 12 = .ok (.istore_n 1, 1) := by decide +kernel
theorem dX5_byTurns_13 : decode cX5_byTurns 13 = .ok (.iconst 0, 1) := by decide +kernel
theorem dX5_byTurns_14 : decode cX5_byTurns 14 = .ok (.istore_n 2, 1) := by decide +kernel
theorem dX5_byTurns_15 : decode cX5_byTurns 15 = .ok (.iload_n 2, 1) := by decide +kernel
theorem dX5_byTurns_16 : decode cX5_byTurns 16 = .ok (.sipush 1000, 3) := by decide +kernel
theorem dX5_byTurns_19 : decode cX5_byTurns 19 = .ok (.if_icmp .ge 50, 3) := by decide +kernel
theorem dX5_byTurns_22 : decode cX5_byTurns 22 = .ok (.aload_n 0, 1) := by decide +kernel
theorem dX5_byTurns_23 : decode cX5_byTurns 23 = .ok (.getfield 16, 3) := by decide +kernel
theorem dX5_byTurns_26 : decode cX5_byTurns 26 = .ok (.invokevirtual 144, 3) := by decide +kernel
theorem dX5_byTurns_29 : decode cX5_byTurns 29 = .ok (.ifCond .ne 40, 3) := by decide +kernel
theorem dX5_byTurns_32 : decode cX5_byTurns 32 = .ok (.iconst 0, 1) := by decide +kernel
theorem dX5_byTurns_33 : decode cX5_byTurns 33 = .ok (.istore_n 3, 1) := by decide +kernel
theorem dX5_byTurns_34 : decode cX5_byTurns 34 = .ok (.iload_n 3, 1) := by decide +kernel
theorem dX5_byTurns_35 : decode cX5_byTurns 35 = .ok (.aload_n 0, 1) := by decide +kernel
theorem dX5_byTurns_36 : decode cX5_byTurns 36 = .ok (.getfield 16, 3) := by decide +kernel
theorem dX5_byTurns_39 : decode cX5_byTurns 39 = .ok (.getfield 147, 3) := by decide +kernel
theorem dX5_byTurns_42 : decode cX5_byTurns 42 = .ok (.if_icmp .ge 21, 3) := by decide +kernel
theorem dX5_byTurns_45 : decode cX5_byTurns 45 = .ok (.iload_n 1, 1) := by decide +kernel
theorem dX5_byTurns_46 : decode cX5_byTurns 46 = .ok (.aload_n 0, 1) := by decide +kernel
theorem dX5_byTurns_47 : decode cX5_byTurns 47 = .ok (.getfield 16, 3) := by decide +kernel
theorem dX5_byTurns_50 : decode cX5_byTurns 50 = .ok (.iload_n 3, 1) := by decide +kernel
theorem dX5_byTurns_51 : decode cX5_byTurns 51 = .ok (.iconst 1, 1) := by decide +kernel
theorem dX5_byTurns_52 : decode cX5_byTurns 52 = .ok (.invokevirtual 72, 3) := by decide +kernel
theorem dX5_byTurns_55 : decode cX5_byTurns 55 = .ok (.iadd, 1) := by decide +kernel
theorem dX5_byTurns_56 : decode cX5_byTurns 56 = .ok (.istore_n 1, 1) := by decide +kernel
theorem dX5_byTurns_57 : decode cX5_byTurns 57 = .ok (.iinc 3 1, 3) := by decide +kernel
theorem dX5_byTurns_60 : decode cX5_byTurns 60 = .ok (.goto (-26), 3) := by decide +kernel
theorem dX5_byTurns_63 : decode cX5_byTurns 63 = .ok (.iinc 2 1, 3) := by decide +kernel
theorem dX5_byTurns_66 : decode cX5_byTurns 66 = .ok (.goto (-51), 3) := by decide +kernel
theorem dX5_byTurns_69 : decode cX5_byTurns 69 = .ok (.iload_n 1, 1) := by decide +kernel
theorem dX5_byTurns_70 : decode cX5_byTurns 70 = .ok (.ireturn, 1) := by decide +kernel
theorem dX5_reads_0 : decode cX5_reads 0 = .ok (.iload_n 1, 1) := by decide +kernel
theorem dX5_reads_1 : decode cX5_reads 1 = .ok (.iconst 0, 1) := by decide +kernel
theorem dX5_reads_2 : decode cX5_reads 2 = .ok (.bipush 99, 2) := by decide +kernel
theorem dX5_reads_4 : decode cX5_reads 4 = .ok (.invokestatic 47, 3) := by decide +kernel
theorem dX5_reads_7 : decode cX5_reads 7 = .ok (.ifCond .eq 12, 3) := by decide +kernel
theorem dX5_reads_10 : decode cX5_reads 10 = .ok (.iload_n 2, 1) := by decide +kernel
theorem dX5_reads_11 : decode cX5_reads 11 = .ok (.iconst 0, 1) := by decide +kernel
theorem dX5_reads_12 : decode cX5_reads 12 = .ok (.iconst 2, 1) := by decide +kernel
theorem dX5_reads_13 : decode cX5_reads 13 = .ok (.invokestatic 47, 3) := by decide +kernel
theorem dX5_reads_16 : decode cX5_reads 16 = .ok (.ifCond .ne 5, 3) := by decide +kernel
theorem dX5_reads_19 : decode cX5_reads 19 = .ok (.iconst (-1), 1) := by decide +kernel
theorem dX5_reads_20 : decode cX5_reads 20 = .ok (.ireturn, 1) := by decide +kernel
theorem dX5_reads_21 : decode cX5_reads 21 = .ok (.iload_n 2, 1) := by decide +kernel
theorem dX5_reads_22 : decode cX5_reads 22 = .ok (.lookupswitch 51 #[(0, 26), (1, 39)], 26) := by decide +kernel
theorem dX5_reads_48 : decode cX5_reads 48 = .ok (.aload_n 0, 1) := by decide +kernel
theorem dX5_reads_49 : decode cX5_reads 49 = .ok (.getfield 10, 3) := by decide +kernel
theorem dX5_reads_52 : decode cX5_reads 52 = .ok (.getfield 132, 3) := by decide +kernel
theorem dX5_reads_55 : decode cX5_reads 55 = .ok (.iconst 3, 1) := by decide +kernel
theorem dX5_reads_56 : decode cX5_reads 56 = .ok (.iload_n 1, 1) := by decide +kernel
theorem dX5_reads_57 : decode cX5_reads 57 = .ok (.invokevirtual 150, 3) := by decide +kernel
theorem dX5_reads_60 : decode cX5_reads 60 = .ok (.ireturn, 1) := by decide +kernel
theorem dX5_reads_61 : decode cX5_reads 61 = .ok (.aload_n 0, 1) := by decide +kernel
theorem dX5_reads_62 : decode cX5_reads 62 = .ok (.getfield 10, 3) := by decide +kernel
theorem dX5_reads_65 : decode cX5_reads 65 = .ok (.getfield 132, 3) := by decide +kernel
theorem dX5_reads_68 : decode cX5_reads 68 = .ok (.iload_n 1, 1) := by decide +kernel
theorem dX5_reads_69 : decode cX5_reads 69 = .ok (.invokevirtual 153, 3) := by decide +kernel
theorem dX5_reads_72 : decode cX5_reads 72 = .ok (.ireturn, 1) := by decide +kernel
theorem dX5_reads_73 : decode cX5_reads 73 = .ok (.aload_n 0, 1) := by decide +kernel
theorem dX5_reads_74 : decode cX5_reads 74 = .ok (.getfield 10, 3) := by decide +kernel
theorem dX5_reads_77 : decode cX5_reads 77 = .ok (.getfield 132, 3) := by decide +kernel
theorem dX5_reads_80 : decode cX5_reads 80 = .ok (.iload_n 1, 1) := by decide +kernel
theorem dX5_reads_81 : decode cX5_reads 81 = .ok (.invokevirtual 157, 3) := by decide +kernel
theorem dX5_reads_84 : decode cX5_reads 84 = .ok (.ireturn, 1) := by decide +kernel
theorem dX5_trial_0 : decode cX5_trial 0 = .ok (.iload_n 1, 1) := by decide +kernel
theorem dX5_trial_1 : decode cX5_trial 1 = .ok (.iconst 1, 1) := by decide +kernel
theorem dX5_trial_2 : decode cX5_trial 2 = .ok (.iconst 4, 1) := by decide +kernel
theorem dX5_trial_3 : decode cX5_trial 3 = .ok (.invokestatic 47, 3) := by decide +kernel
theorem dX5_trial_6 : decode cX5_trial 6 = .ok (.ifCond .eq 17, 3) := by decide +kernel
theorem dX5_trial_9 : decode cX5_trial 9 = .ok (.iload_n 2, 1) := by decide +kernel
theorem dX5_trial_10 : decode cX5_trial 10 = .ok (.invokestatic 160, 3) := by decide +kernel
theorem dX5_trial_13 : decode cX5_trial 13 = .ok (.ifCond .eq 10, 3) := by decide +kernel
theorem dX5_trial_16 : decode cX5_trial 16 = .ok (.iload_n 3, 1) := by decide +kernel
theorem dX5_trial_17 : decode cX5_trial 17 = .ok (.invokestatic 160, 3) := by decide +kernel
theorem dX5_trial_20 : decode cX5_trial 20 = .ok (.ifCond .ne 5, 3) := by decide +kernel
theorem dX5_trial_23 : decode cX5_trial 23 = .ok (.iconst (-1), 1) := by decide +kernel
theorem dX5_trial_24 : decode cX5_trial 24 = .ok (.ireturn, 1) := by decide +kernel
theorem dX5_trial_25 : decode cX5_trial 25 = .ok (.aload_n 0, 1) := by decide +kernel
theorem dX5_trial_26 : decode cX5_trial 26 = .ok (.iload_n 1, 1) := by decide +kernel
theorem dX5_trial_27 : decode cX5_trial 27 = .ok (.iload_n 2, 1) := by decide +kernel
theorem dX5_trial_28 : decode cX5_trial 28 = .ok (.iload_n 3, 1) := by decide +kernel
theorem dX5_trial_29 : decode cX5_trial 29 = .ok (.invokevirtual 163, 3) := by decide +kernel
theorem dX5_trial_32 : decode cX5_trial 32 = .ok (.ireturn, 1) := by decide +kernel
theorem dX5_sees_0 : decode cX5_sees 0 = .ok (.iload_n 1, 1) := by decide +kernel
theorem dX5_sees_1 : decode cX5_sees 1 = .ok (.invokestatic 160, 3) := by decide +kernel
theorem dX5_sees_4 : decode cX5_sees 4 = .ok (.ifCond .eq 20, 3) := by decide +kernel
theorem dX5_sees_7 : decode cX5_sees 7 = .ok (.iload_n 2, 1) := by decide +kernel
theorem dX5_sees_8 : decode cX5_sees 8 = .ok (.invokestatic 160, 3) := by decide +kernel
theorem dX5_sees_11 : decode cX5_sees 11 = .ok (.ifCond .eq 13, 3) := by decide +kernel
theorem dX5_sees_14 : decode cX5_sees 14 = .ok (.iload_n 3, 1) := by decide +kernel
theorem dX5_sees_15 : decode cX5_sees 15 = .ok (.iconst 0, 1) := by decide +kernel
theorem dX5_sees_16 : decode cX5_sees 16 = .ok (.bipush 99, 2) := by decide +kernel
theorem dX5_sees_18 : decode cX5_sees 18 = .ok (.invokestatic 47, 3) := by decide +kernel
theorem dX5_sees_21 : decode cX5_sees 21 = .ok (.ifCond .ne 5, 3) := by decide +kernel
theorem dX5_sees_24 : decode cX5_sees 24 = .ok (.iconst (-1), 1) := by decide +kernel
theorem dX5_sees_25 : decode cX5_sees 25 = .ok (.ireturn, 1) := by decide +kernel
theorem dX5_sees_26 : decode cX5_sees 26 = .ok (.aload_n 0, 1) := by decide +kernel
theorem dX5_sees_27 : decode cX5_sees 27 = .ok (.getfield 58, 3) := by decide +kernel
theorem dX5_sees_30 : decode cX5_sees 30 = .ok (.bipush 6, 2) := by decide +kernel
theorem dX5_sees_32 : decode cX5_sees 32 = .ok (.if_icmp .lt 6, 3) := by decide +kernel
theorem dX5_sees_35 : decode cX5_sees 35 = .ok (.bipush (-3), 2) := by decide +kernel
theorem dX5_sees_37 : decode cX5_sees 37 = .ok (.ireturn, 1) := by decide +kernel
theorem dX5_sees_38 : decode cX5_sees 38 = .ok (.aload_n 0, 1) := by decide +kernel
theorem dX5_sees_39 : decode cX5_sees 39 = .ok (.getfield 30, 3) := by decide +kernel
theorem dX5_sees_42 : decode cX5_sees 42 = .ok (.aload_n 0, 1) := by decide +kernel
theorem dX5_sees_43 : decode cX5_sees 43 = .ok (.getfield 58, 3) := by decide +kernel
theorem dX5_sees_46 : decode cX5_sees 46 = .ok (.iload_n 1, 1) := by decide +kernel
theorem dX5_sees_47 : decode cX5_sees 47 = .ok (.iastore, 1) := by decide +kernel
theorem dX5_sees_48 : decode cX5_sees 48 = .ok (.aload_n 0, 1) := by decide +kernel
theorem dX5_sees_49 : decode cX5_sees 49 = .ok (.getfield 34, 3) := by decide +kernel
theorem dX5_sees_52 : decode cX5_sees 52 = .ok (.aload_n 0, 1) := by decide +kernel
theorem dX5_sees_53 : decode cX5_sees 53 = .ok (.getfield 58, 3) := by decide +kernel
theorem dX5_sees_56 : decode cX5_sees 56 = .ok (.iload_n 2, 1) := by decide +kernel
theorem dX5_sees_57 : decode cX5_sees 57 = .ok (.iastore, 1) := by decide +kernel
theorem dX5_sees_58 : decode cX5_sees 58 = .ok (.aload_n 0, 1) := by decide +kernel
theorem dX5_sees_59 : decode cX5_sees 59 = .ok (.getfield 37, 3) := by decide +kernel
theorem dX5_sees_62 : decode cX5_sees 62 = .ok (.aload_n 0, 1) := by decide +kernel
theorem dX5_sees_63 : decode cX5_sees 63 = .ok (.getfield 58, 3) := by decide +kernel
theorem dX5_sees_66 : decode cX5_sees 66 = .ok (.iload_n 3, 1) := by decide +kernel
theorem dX5_sees_67 : decode cX5_sees 67 = .ok (.iastore, 1) := by decide +kernel
theorem dX5_sees_68 : decode cX5_sees 68 = .ok (.aload_n 0, 1) := by decide +kernel
theorem dX5_sees_69 : decode cX5_sees 69 = .ok (.dup, 1) := by decide +kernel
theorem dX5_sees_70 : decode cX5_sees 70 = .ok (.getfield 58, 3) := by decide +kernel
theorem dX5_sees_73 : decode cX5_sees 73 = .ok (.iconst 1, 1) := by decide +kernel
theorem dX5_sees_74 : decode cX5_sees 74 = .ok (.iadd, 1) := by decide +kernel
theorem dX5_sees_75 : decode cX5_sees 75 = .ok (.putfield 58, 3) := by decide +kernel
theorem dX5_sees_78 : decode cX5_sees 78 = .ok (.aload_n 0, 1) := by decide +kernel
theorem dX5_sees_79 : decode cX5_sees 79 = .ok (.getfield 58, 3) := by decide +kernel
theorem dX5_sees_82 : decode cX5_sees 82 = .ok (.ireturn, 1) := by decide +kernel
theorem dX5_forget_0 : decode cX5_forget 0 = .ok (.aload_n 0, 1) := by decide +kernel
theorem dX5_forget_1 : decode cX5_forget 1 = .ok (.getfield 58, 3) := by decide +kernel
theorem dX5_forget_4 : decode cX5_forget 4 = .ok (.istore_n 1, 1) := by decide +kernel
theorem dX5_forget_5 : decode cX5_forget 5 = .ok (.aload_n 0, 1) := by decide +kernel
theorem dX5_forget_6 : decode cX5_forget 6 = .ok (.iconst 0, 1) := by decide +kernel
theorem dX5_forget_7 : decode cX5_forget 7 = .ok (.putfield 58, 3) := by decide +kernel
theorem dX5_forget_10 : decode cX5_forget 10 = .ok (.iload_n 1, 1) := by decide +kernel
theorem dX5_forget_11 : decode cX5_forget 11 = .ok (.ireturn, 1) := by decide +kernel
theorem dX5_which_0 : decode cX5_which 0 = .ok (.aload_n 0, 1) := by decide +kernel
theorem dX5_which_1 : decode cX5_which 1 = .ok (.invokevirtual 166, 3) := by decide +kernel
theorem dX5_which_4 : decode cX5_which 4 = .ok (.ireturn, 1) := by decide +kernel
theorem dX5_ask_0 : decode cX5_ask 0 = .ok (.aload_n 0, 1) := by decide +kernel
theorem dX5_ask_1 : decode cX5_ask 1 = .ok (.invokevirtual 166, 3) := by decide +kernel
theorem dX5_ask_4 : decode cX5_ask 4 = .ok (.istore_n 1, 1) := by decide +kernel
theorem dX5_ask_5 : decode cX5_ask 5 = .ok (.iload_n 1, 1) := by decide +kernel
theorem dX5_ask_6 : decode cX5_ask 6 = .ok (.invokestatic 170, 3) := by decide +kernel
theorem dX5_ask_9 : decode cX5_ask 9 = .ok (.iconst 1, 1) := by decide +kernel
theorem dX5_ask_10 : decode cX5_ask 10 = .ok (.if_icmp .gt 6, 3) := by decide +kernel
theorem dX5_ask_13 : decode cX5_ask 13 = .ok (.bipush (-9), 2) := by decide +kernel
theorem dX5_ask_15 : decode cX5_ask 15 = .ok (.ireturn, 1) := by decide +kernel
theorem dX5_ask_16 : decode cX5_ask 16 = .ok (.bipush (-9), 2) := by decide +kernel
theorem dX5_ask_18 : decode cX5_ask 18 = .ok (.istore_n 2, 1) := by decide +kernel
theorem dX5_ask_19 : decode cX5_ask 19 = .ok (.iconst 5, 1) := by decide +kernel
theorem dX5_ask_20 : decode cX5_ask 20 = .ok (.istore_n 3, 1) := by decide +kernel
theorem dX5_ask_21 : decode cX5_ask 21 = .ok (.iconst 1, 1) := by decide +kernel
theorem dX5_ask_22 : decode cX5_ask 22 = .ok (.istore 4, 2) := by decide +kernel
theorem dX5_ask_24 : decode cX5_ask 24 = .ok (.iload 4, 2) := by decide +kernel
theorem dX5_ask_26 : decode cX5_ask 26 = .ok (.iconst 4, 1) := by decide +kernel
theorem dX5_ask_27 : decode cX5_ask 27 = .ok (.if_icmp .gt 53, 3) := by decide +kernel
theorem dX5_ask_30 : decode cX5_ask 30 = .ok (.iconst 1, 1) := by decide +kernel
theorem dX5_ask_31 : decode cX5_ask 31 = .ok (.istore 5, 2) := by decide +kernel
theorem dX5_ask_33 : decode cX5_ask 33 = .ok (.iload 5, 2) := by decide +kernel
theorem dX5_ask_35 : decode cX5_ask 35 = .ok (.iconst 4, 1) := by decide +kernel
theorem dX5_ask_36 : decode cX5_ask 36 = .ok (.if_icmp .gt 38, 3) := by decide +kernel
theorem dX5_ask_39 : decode cX5_ask 39 = .ok (.aload_n 0, 1) := by decide +kernel
theorem dX5_ask_40 : decode cX5_ask 40 = .ok (.iload_n 1, 1) := by decide +kernel
theorem dX5_ask_41 : decode cX5_ask 41 = .ok (.iload 4, 2) := by decide +kernel
theorem dX5_ask_43 : decode cX5_ask 43 = .ok (.iload 5, 2) := by decide +kernel
theorem dX5_ask_45 : decode cX5_ask 45 = .ok (.invokevirtual 175, 3) := by decide +kernel
theorem dX5_ask_48 : decode cX5_ask 48 = .ok (.istore 6, 2) := by decide +kernel
theorem dX5_ask_50 : decode cX5_ask 50 = .ok (.iload 6, 2) := by decide +kernel
theorem dX5_ask_52 : decode cX5_ask 52 = .ok (.iload_n 3, 1) := by decide +kernel
theorem dX5_ask_53 : decode cX5_ask 53 = .ok (.if_icmp .ge 15, 3) := by decide +kernel
theorem dX5_ask_56 : decode cX5_ask 56 = .ok (.iload 6, 2) := by decide +kernel
theorem dX5_ask_58 : decode cX5_ask 58 = .ok (.istore_n 3, 1) := by decide +kernel
theorem dX5_ask_59 : decode cX5_ask 59 = .ok (.bipush 10, 2) := by decide +kernel
theorem dX5_ask_61 : decode cX5_ask 61 = .ok (.iload 4, 2) := by decide +kernel
theorem dX5_ask_63 : decode cX5_ask 63 = .ok (.imul, 1) := by decide +kernel
theorem dX5_ask_64 : decode cX5_ask 64 = .ok (.iload 5, 2) := by decide +kernel
theorem dX5_ask_66 : decode cX5_ask 66 = .ok (.iadd, 1) := by decide +kernel
theorem dX5_ask_67 : decode cX5_ask 67 = .ok (.istore_n 2, 1) := by decide +kernel
theorem dX5_ask_68 : decode cX5_ask 68 = .ok (.iinc 5 1, 3) := by decide +kernel
theorem dX5_ask_71 : decode cX5_ask 71 = .ok (.goto (-38), 3) := by decide +kernel
theorem dX5_ask_74 : decode cX5_ask 74 = .ok (.iinc 4 1, 3) := by decide +kernel
theorem dX5_ask_77 : decode cX5_ask 77 = .ok (.goto (-53), 3) := by decide +kernel
theorem dX5_ask_80 : decode cX5_ask 80 = .ok (.iload_n 2, 1) := by decide +kernel
theorem dX5_ask_81 : decode cX5_ask 81 = .ok (.ireturn, 1) := by decide +kernel
theorem dX5_keep_0 : decode cX5_keep 0 = .ok (.iload_n 1, 1) := by decide +kernel
theorem dX5_keep_1 : decode cX5_keep 1 = .ok (.iconst 0, 1) := by decide +kernel
theorem dX5_keep_2 : decode cX5_keep 2 = .ok (.iconst 1, 1) := by decide +kernel
theorem dX5_keep_3 : decode cX5_keep 3 = .ok (.invokestatic 47, 3) := by decide +kernel
theorem dX5_keep_6 : decode cX5_keep 6 = .ok (.ifCond .ne 5, 3) := by decide +kernel
theorem dX5_keep_9 : decode cX5_keep 9 = .ok (.iconst (-1), 1) := by decide +kernel
theorem dX5_keep_10 : decode cX5_keep 10 = .ok (.ireturn, 1) := by decide +kernel
theorem dX5_keep_11 : decode cX5_keep 11 = .ok (.aload_n 0, 1) := by decide +kernel
theorem dX5_keep_12 : decode cX5_keep 12 = .ok (.getfield 23, 3) := by decide +kernel
theorem dX5_keep_15 : decode cX5_keep 15 = .ok (.iload_n 1, 1) := by decide +kernel
theorem dX5_keep_16 : decode cX5_keep 16 = .ok (.aaload, 1) := by decide +kernel
theorem dX5_keep_17 : decode cX5_keep 17 = .ok (.aload_n 0, 1) := by decide +kernel
theorem dX5_keep_18 : decode cX5_keep 18 = .ok (.getfield 10, 3) := by decide +kernel
theorem dX5_keep_21 : decode cX5_keep 21 = .ok (.invokevirtual 82, 3) := by decide +kernel
theorem dX5_keep_24 : decode cX5_keep 24 = .ok (.aload_n 0, 1) := by decide +kernel
theorem dX5_keep_25 : decode cX5_keep 25 = .ok (.getfield 26, 3) := by decide +kernel
theorem dX5_keep_28 : decode cX5_keep 28 = .ok (.iload_n 1, 1) := by decide +kernel
theorem dX5_keep_29 : decode cX5_keep 29 = .ok (.iconst 1, 1) := by decide +kernel
theorem dX5_keep_30 : decode cX5_keep 30 = .ok (.bastore, 1) := by decide +kernel
theorem dX5_keep_31 : decode cX5_keep 31 = .ok (.aload_n 0, 1) := by decide +kernel
theorem dX5_keep_32 : decode cX5_keep 32 = .ok (.getfield 10, 3) := by decide +kernel
theorem dX5_keep_35 : decode cX5_keep 35 = .ok (.getfield 178, 3) := by decide +kernel
theorem dX5_keep_38 : decode cX5_keep 38 = .ok (.ireturn, 1) := by decide +kernel
theorem dX5_back_0 : decode cX5_back 0 = .ok (.iload_n 1, 1) := by decide +kernel
theorem dX5_back_1 : decode cX5_back 1 = .ok (.iconst 0, 1) := by decide +kernel
theorem dX5_back_2 : decode cX5_back 2 = .ok (.iconst 1, 1) := by decide +kernel
theorem dX5_back_3 : decode cX5_back 3 = .ok (.invokestatic 47, 3) := by decide +kernel
theorem dX5_back_6 : decode cX5_back 6 = .ok (.ifCond .ne 5, 3) := by decide +kernel
theorem dX5_back_9 : decode cX5_back 9 = .ok (.iconst (-1), 1) := by decide +kernel
theorem dX5_back_10 : decode cX5_back 10 = .ok (.ireturn, 1) := by decide +kernel
theorem dX5_back_11 : decode cX5_back 11 = .ok (.aload_n 0, 1) := by decide +kernel
theorem dX5_back_12 : decode cX5_back 12 = .ok (.getfield 26, 3) := by decide +kernel
theorem dX5_back_15 : decode cX5_back 15 = .ok (.iload_n 1, 1) := by decide +kernel
theorem dX5_back_16 : decode cX5_back 16 = .ok (.baload, 1) := by decide +kernel
theorem dX5_back_17 : decode cX5_back 17 = .ok (.ifCond .ne 6, 3) := by decide +kernel
theorem dX5_back_20 : decode cX5_back 20 = .ok (.bipush (-2), 2) := by decide +kernel
theorem dX5_back_22 : decode cX5_back 22 = .ok (.ireturn, 1) := by decide +kernel
theorem dX5_back_23 : decode cX5_back 23 = .ok (.aload_n 0, 1) := by decide +kernel
theorem dX5_back_24 : decode cX5_back 24 = .ok (.getfield 10, 3) := by decide +kernel
theorem dX5_back_27 : decode cX5_back 27 = .ok (.aload_n 0, 1) := by decide +kernel
theorem dX5_back_28 : decode cX5_back 28 = .ok (.getfield 23, 3) := by decide +kernel
theorem dX5_back_31 : decode cX5_back 31 = .ok (.iload_n 1, 1) := by decide +kernel
theorem dX5_back_32 : decode cX5_back 32 = .ok (.aaload, 1) := by decide +kernel
theorem dX5_back_33 : decode cX5_back 33 = .ok (.invokevirtual 82, 3) := by decide +kernel
theorem dX5_back_36 : decode cX5_back 36 = .ok (.aload_n 0, 1) := by decide +kernel
theorem dX5_back_37 : decode cX5_back 37 = .ok (.iconst 0, 1) := by decide +kernel
theorem dX5_back_38 : decode cX5_back 38 = .ok (.putfield 76, 3) := by decide +kernel
theorem dX5_back_41 : decode cX5_back 41 = .ok (.aload_n 0, 1) := by decide +kernel
theorem dX5_back_42 : decode cX5_back 42 = .ok (.getfield 10, 3) := by decide +kernel
theorem dX5_back_45 : decode cX5_back 45 = .ok (.getfield 178, 3) := by decide +kernel
theorem dX5_back_48 : decode cX5_back 48 = .ok (.ireturn, 1) := by decide +kernel
theorem dX5_count_0 : decode cX5_count 0 = .ok (.iload_n 1, 1) := by decide +kernel
theorem dX5_count_1 : decode cX5_count 1 = .ok (.tableswitch 168 0 10 #[59, 67, 75, 83, 91, 102, 127, 142, 150, 158, 163], 59) := by decide +kernel
theorem dX5_count_60 : decode cX5_count 60 = .ok (.aload_n 0, 1) := by decide +kernel
theorem dX5_count_61 : decode cX5_count 61 = .ok (.getfield 10, 3) := by decide +kernel
theorem dX5_count_64 : decode cX5_count 64 = .ok (.getfield 147, 3) := by decide +kernel
theorem dX5_count_67 : decode cX5_count 67 = .ok (.ireturn, 1) := by decide +kernel
theorem dX5_count_68 : decode cX5_count 68 = .ok (.aload_n 0, 1) := by decide +kernel
theorem dX5_count_69 : decode cX5_count 69 = .ok (.getfield 10, 3) := by decide +kernel
theorem dX5_count_72 : decode cX5_count 72 = .ok (.getfield 181, 3) := by decide +kernel
theorem dX5_count_75 : decode cX5_count 75 = .ok (.ireturn, 1) := by decide +kernel
theorem dX5_count_76 : decode cX5_count 76 = .ok (.aload_n 0, 1) := by decide +kernel
theorem dX5_count_77 : decode cX5_count 77 = .ok (.getfield 10, 3) := by decide +kernel
theorem dX5_count_80 : decode cX5_count 80 = .ok (.getfield 184, 3) := by decide +kernel
theorem dX5_count_83 : decode cX5_count 83 = .ok (.ireturn, 1) := by decide +kernel
theorem dX5_count_84 : decode cX5_count 84 = .ok (.aload_n 0, 1) := by decide +kernel
theorem dX5_count_85 : decode cX5_count 85 = .ok (.getfield 10, 3) := by decide +kernel
theorem dX5_count_88 : decode cX5_count 88 = .ok (.getfield 178, 3) := by decide +kernel
theorem dX5_count_91 : decode cX5_count 91 = .ok (.ireturn, 1) := by decide +kernel
theorem dX5_count_92 : decode cX5_count 92 = .ok (.aload_n 0, 1) := by decide +kernel
theorem dX5_count_93 : decode cX5_count 93 = .ok (.getfield 10, 3) := by decide +kernel
theorem dX5_count_96 : decode cX5_count 96 = .ok (.getfield 132, 3) := by decide +kernel
theorem dX5_count_99 : decode cX5_count 99 = .ok (.getfield 136, 3) := by decide +kernel
theorem dX5_count_102 : decode cX5_count 102 = .ok (.ireturn, 1) := by decide +kernel
theorem dX5_count_103 : decode cX5_count 103 = .ok (.aload_n 0, 1) := by decide +kernel
theorem dX5_count_104 : decode cX5_count 104 = .ok (.getfield 10, 3) := by decide +kernel
theorem dX5_count_107 : decode cX5_count 107 = .ok (.getfield 132, 3) := by decide +kernel
theorem dX5_count_110 : decode cX5_count 110 = .ok (.getfield 136, 3) := by decide +kernel
theorem dX5_count_113 : decode cX5_count 113 = .ok (.aload_n 0, 1) := by decide +kernel
theorem dX5_count_114 : decode cX5_count 114 = .ok (.getfield 10, 3) := by decide +kernel
theorem dX5_count_117 : decode cX5_count 117 = .ok (.getfield 132, 3) := by decide +kernel
theorem dX5_count_120 : decode cX5_count 120 = .ok (.iconst 4, 1) := by decide +kernel
theorem dX5_count_121 : decode cX5_count 121 = .ok (.bipush (-9), 2) := by decide +kernel
theorem dX5_count_123 : decode cX5_count 123 = .ok (.invokevirtual 150, 3) := by decide +kernel
theorem dX5_count_126 : decode cX5_count 126 = .ok (.isub, 1) := by decide +kernel
theorem dX5_count_127 : decode cX5_count 127 = .ok (.ireturn, 1) := by decide +kernel
theorem dX5_count_128 : decode cX5_count 128 = .ok (.aload_n 0, 1) := by decide +kernel
theorem dX5_count_129 : decode cX5_count 129 = .ok (.getfield 10, 3) := by decide +kernel
theorem dX5_count_132 : decode cX5_count 132 = .ok (.getfield 132, 3) := by decide +kernel
theorem dX5_count_135 : decode cX5_count 135 = .ok (.bipush 10, 2) := by decide +kernel
theorem dX5_count_137 : decode cX5_count 137 = .ok (.bipush (-9), 2) := by decide +kernel
theorem dX5_count_139 : decode cX5_count 139 = .ok (.invokevirtual 150, 3) := by decide +kernel
theorem dX5_count_142 : decode cX5_count 142 = .ok (.ireturn, 1) := by decide +kernel
theorem dX5_count_143 : decode cX5_count 143 = .ok (.aload_n 0, 1) := by decide +kernel
theorem dX5_count_144 : decode cX5_count 144 = .ok (.getfield 10, 3) := by decide +kernel
theorem dX5_count_147 : decode cX5_count 147 = .ok (.invokevirtual 187, 3) := by decide +kernel
theorem dX5_count_150 : decode cX5_count 150 = .ok (.ireturn, 1) := by decide +kernel
theorem dX5_count_151 : decode cX5_count 151 = .ok (.aload_n 0, 1) := by decide +kernel
theorem dX5_count_152 : decode cX5_count 152 = .ok (.getfield 10, 3) := by decide +kernel
theorem dX5_count_155 : decode cX5_count 155 = .ok (.getfield 190, 3) := by decide +kernel
theorem dX5_count_158 : decode cX5_count 158 = .ok (.ireturn, 1) := by decide +kernel
theorem dX5_count_159 : decode cX5_count 159 = .ok (.aload_n 0, 1) := by decide +kernel
theorem dX5_count_160 : decode cX5_count 160 = .ok (.getfield 58, 3) := by decide +kernel
theorem dX5_count_163 : decode cX5_count 163 = .ok (.ireturn, 1) := by decide +kernel
theorem dX5_count_164 : decode cX5_count 164 = .ok (.aload_n 0, 1) := by decide +kernel
theorem dX5_count_165 : decode cX5_count 165 = .ok (.getfield 76, 3) := by decide +kernel
theorem dX5_count_168 : decode cX5_count 168 = .ok (.ireturn, 1) := by decide +kernel
theorem dX5_count_169 : decode cX5_count 169 = .ok (.iconst (-1), 1) := by decide +kernel
theorem dX5_count_170 : decode cX5_count 170 = .ok (.ireturn, 1) := by decide +kernel
theorem dX5_isWithin_0 : decode cX5_isWithin 0 = .ok (.iload_n 0, 1) := by decide +kernel
theorem dX5_isWithin_1 : decode cX5_isWithin 1 = .ok (.iload_n 1, 1) := by decide +kernel
theorem dX5_isWithin_2 : decode cX5_isWithin 2 = .ok (.if_icmp .lt 12, 3) := by decide +kernel
theorem dX5_isWithin_5 : decode cX5_isWithin 5 = .ok (.iload_n 0, 1) := by decide +kernel
theorem dX5_isWithin_6 : decode cX5_isWithin 6 = .ok (.iload_n 2, 1) := by decide +kernel
theorem dX5_isWithin_7 : decode cX5_isWithin 7 = .ok (.if_icmp .gt 7, 3) := by decide +kernel
theorem dX5_isWithin_10 : decode cX5_isWithin 10 = .ok (.iconst 1, 1) := by decide +kernel
theorem dX5_isWithin_11 : decode cX5_isWithin 11 = .ok (.goto 4, 3) := by decide +kernel
theorem dX5_isWithin_14 : decode cX5_isWithin 14 = .ok (.iconst 0, 1) := by decide +kernel
theorem dX5_isWithin_15 : decode cX5_isWithin 15 = .ok (.ireturn, 1) := by decide +kernel
theorem dX5_isWrap_0 : decode cX5_isWrap 0 = .ok (.iload_n 0, 1) := by decide +kernel
theorem dX5_isWrap_1 : decode cX5_isWrap 1 = .ok (.ifCond .eq 13, 3) := by decide +kernel
theorem dX5_isWrap_4 : decode cX5_isWrap 4 = .ok (.iload_n 0, 1) := by decide +kernel
theorem dX5_isWrap_5 : decode cX5_isWrap 5 = .ok (.iconst 2, 1) := by decide +kernel
theorem dX5_isWrap_6 : decode cX5_isWrap 6 = .ok (.bipush 8, 2) := by decide +kernel
theorem dX5_isWrap_8 : decode cX5_isWrap 8 = .ok (.invokestatic 47, 3) := by decide +kernel
theorem dX5_isWrap_11 : decode cX5_isWrap 11 = .ok (.ifCond .eq 7, 3) := by decide +kernel
theorem dX5_isWrap_14 : decode cX5_isWrap 14 = .ok (.iconst 1, 1) := by decide +kernel
theorem dX5_isWrap_15 : decode cX5_isWrap 15 = .ok (.goto 4, 3) := by decide +kernel
theorem dX5_isWrap_18 : decode cX5_isWrap 18 = .ok (.iconst 0, 1) := by decide +kernel
theorem dX5_isWrap_19 : decode cX5_isWrap 19 = .ok (.ireturn, 1) := by decide +kernel
theorem dX5_isPace_0 : decode cX5_isPace 0 = .ok (.iload_n 0, 1) := by decide +kernel
theorem dX5_isPace_1 : decode cX5_isPace 1 = .ok (.iconst 1, 1) := by decide +kernel
theorem dX5_isPace_2 : decode cX5_isPace 2 = .ok (.iconst 4, 1) := by decide +kernel
theorem dX5_isPace_3 : decode cX5_isPace 3 = .ok (.invokestatic 47, 3) := by decide +kernel
theorem dX5_isPace_6 : decode cX5_isPace 6 = .ok (.ireturn, 1) := by decide +kernel
theorem dX5_remember_0 : decode cX5_remember 0 = .ok (.aload_n 0, 1) := by decide +kernel
theorem dX5_remember_1 : decode cX5_remember 1 = .ok (.getfield 19, 3) := by decide +kernel
theorem dX5_remember_4 : decode cX5_remember 4 = .ok (.aload_n 0, 1) := by decide +kernel
theorem dX5_remember_5 : decode cX5_remember 5 = .ok (.getfield 79, 3) := by decide +kernel
theorem dX5_remember_8 : decode cX5_remember 8 = .ok (.aaload, 1) := by decide +kernel
theorem dX5_remember_9 : decode cX5_remember 9 = .ok (.aload_n 0, 1) := by decide +kernel
theorem dX5_remember_10 : decode cX5_remember 10 = .ok (.getfield 10, 3) := by decide +kernel
theorem dX5_remember_13 : decode cX5_remember 13 = .ok (.invokevirtual 82, 3) := by decide +kernel
theorem dX5_remember_16 : decode cX5_remember 16 = .ok (.aload_n 0, 1) := by decide +kernel
theorem dX5_remember_17 : decode cX5_remember 17 = .ok (.aload_n 0, 1) := by decide +kernel
theorem dX5_remember_18 : decode cX5_remember 18 = .ok (.getfield 79, 3) := by decide +kernel
theorem dX5_remember_21 : decode cX5_remember 21 = .ok (.iconst 4, 1) := by decide +kernel
theorem dX5_remember_22 : decode cX5_remember 22 = .ok (.if_icmp .ne 7, 3) := by decide +kernel
theorem dX5_remember_25 : decode cX5_remember 25 = .ok (.iconst 0, 1) := by decide +kernel
theorem dX5_remember_26 : decode cX5_remember 26 = .ok (.goto 9, 3) := by decide +kernel
theorem dX5_remember_29 : decode cX5_remember 29 = .ok (.aload_n 0, 1) := by decide +kernel
theorem dX5_remember_30 : decode cX5_remember 30 = .ok (.getfield 79, 3) := by decide +kernel
theorem dX5_remember_33 : decode cX5_remember 33 = .ok (.iconst 1, 1) := by decide +kernel
theorem dX5_remember_34 : decode cX5_remember 34 = .ok (.iadd, 1) := by decide +kernel
theorem dX5_remember_35 : decode cX5_remember 35 = .ok (.putfield 79, 3) := by decide +kernel
theorem dX5_remember_38 : decode cX5_remember 38 = .ok (.aload_n 0, 1) := by decide +kernel
theorem dX5_remember_39 : decode cX5_remember 39 = .ok (.aload_n 0, 1) := by decide +kernel
theorem dX5_remember_40 : decode cX5_remember 40 = .ok (.getfield 76, 3) := by decide +kernel
theorem dX5_remember_43 : decode cX5_remember 43 = .ok (.iconst 1, 1) := by decide +kernel
theorem dX5_remember_44 : decode cX5_remember 44 = .ok (.iadd, 1) := by decide +kernel
theorem dX5_remember_45 : decode cX5_remember 45 = .ok (.iconst 5, 1) := by decide +kernel
theorem dX5_remember_46 : decode cX5_remember 46 = .ok (.invokestatic 193, 3) := by decide +kernel
theorem dX5_remember_49 : decode cX5_remember 49 = .ok (.putfield 76, 3) := by decide +kernel
theorem dX5_remember_52 : decode cX5_remember 52 = .ok (.return_, 1) := by decide +kernel
theorem dX5_beginAct_0 : decode cX5_beginAct 0 = .ok (.aload_n 0, 1) := by decide +kernel
theorem dX5_beginAct_1 : decode cX5_beginAct 1 = .ok (.getfield 10, 3) := by decide +kernel
theorem dX5_beginAct_4 : decode cX5_beginAct 4 = .ok (.iload_n 1, 1) := by decide +kernel
theorem dX5_beginAct_5 : decode cX5_beginAct 5 = .ok (.invokevirtual 69, 3) := by decide +kernel
theorem dX5_beginAct_8 : decode cX5_beginAct 8 = .ok (.ifCond .ne 6, 3) := by decide +kernel
theorem dX5_beginAct_11 : decode cX5_beginAct 11 = .ok (.bipush (-2), 2) := by decide +kernel
theorem dX5_beginAct_13 : decode cX5_beginAct 13 = .ok (.ireturn, 1) := by decide +kernel
theorem dX5_beginAct_14 : decode cX5_beginAct 14 = .ok (.aload_n 0, 1) := by decide +kernel
theorem dX5_beginAct_15 : decode cX5_beginAct 15 = .ok (.getfield 10, 3) := by decide +kernel
theorem dX5_beginAct_18 : decode cX5_beginAct 18 = .ok (.getfield 190, 3) := by decide +kernel
theorem dX5_beginAct_21 : decode cX5_beginAct 21 = .ok (.bipush 24, 2) := by decide +kernel
theorem dX5_beginAct_23 : decode cX5_beginAct 23 = .ok (.if_icmp .lt 6, 3) := by decide +kernel
theorem dX5_beginAct_26 : decode cX5_beginAct 26 = .ok (.bipush (-3), 2) := by decide +kernel
theorem dX5_beginAct_28 : decode cX5_beginAct 28 = .ok (.ireturn, 1) := by decide +kernel
theorem dX5_beginAct_29 : decode cX5_beginAct 29 = .ok (.aload_n 0, 1) := by decide +kernel
theorem dX5_beginAct_30 : decode cX5_beginAct 30 = .ok (.invokevirtual 55, 3) := by decide +kernel
theorem dX5_beginAct_33 : decode cX5_beginAct 33 = .ok (.aload_n 0, 1) := by decide +kernel
theorem dX5_beginAct_34 : decode cX5_beginAct 34 = .ok (.getfield 10, 3) := by decide +kernel
theorem dX5_beginAct_37 : decode cX5_beginAct 37 = .ok (.iload_n 1, 1) := by decide +kernel
theorem dX5_beginAct_38 : decode cX5_beginAct 38 = .ok (.iload_n 2, 1) := by decide +kernel
theorem dX5_beginAct_39 : decode cX5_beginAct 39 = .ok (.iload_n 3, 1) := by decide +kernel
theorem dX5_beginAct_40 : decode cX5_beginAct 40 = .ok (.invokevirtual 198, 3) := by decide +kernel
theorem dX5_beginAct_43 : decode cX5_beginAct 43 = .ok (.aload_n 0, 1) := by decide +kernel
theorem dX5_beginAct_44 : decode cX5_beginAct 44 = .ok (.getfield 10, 3) := by decide +kernel
theorem dX5_beginAct_47 : decode cX5_beginAct 47 = .ok (.getfield 178, 3) := by decide +kernel
theorem dX5_beginAct_50 : decode cX5_beginAct 50 = .ok (.ireturn, 1) := by decide +kernel
theorem dX5_readsOfTrial_0 : decode cX5_readsOfTrial 0 = .ok (.aload_n 0, 1) := by decide +kernel
theorem dX5_readsOfTrial_1 : decode cX5_readsOfTrial 1 = .ok (.getfield 16, 3) := by decide +kernel
theorem dX5_readsOfTrial_4 : decode cX5_readsOfTrial 4 = .ok (.aload_n 0, 1) := by decide +kernel
theorem dX5_readsOfTrial_5 : decode cX5_readsOfTrial 5 = .ok (.getfield 10, 3) := by decide +kernel
theorem dX5_readsOfTrial_8 : decode cX5_readsOfTrial 8 = .ok (.getfield 147, 3) := by decide +kernel
theorem dX5_readsOfTrial_11 : decode cX5_readsOfTrial 11 = .ok (.iload_n 1, 1) := by decide +kernel
theorem dX5_readsOfTrial_12 : decode cX5_readsOfTrial 12 = .ok (.aload_n 0, 1) := by decide +kernel
theorem dX5_readsOfTrial_13 : decode cX5_readsOfTrial 13 = .ok (.getfield 10, 3) := by decide +kernel
theorem dX5_readsOfTrial_16 : decode cX5_readsOfTrial 16 = .ok (.getfield 184, 3) := by decide +kernel
theorem dX5_readsOfTrial_19 : decode cX5_readsOfTrial 19 = .ok (.invokevirtual 43, 3) := by decide +kernel
theorem dX5_readsOfTrial_22 : decode cX5_readsOfTrial 22 = .ok (.aload_n 0, 1) := by decide +kernel
theorem dX5_readsOfTrial_23 : decode cX5_readsOfTrial 23 = .ok (.getfield 16, 3) := by decide +kernel
theorem dX5_readsOfTrial_26 : decode cX5_readsOfTrial 26 = .ok (.iconst 0, 1) := by decide +kernel
theorem dX5_readsOfTrial_27 : decode cX5_readsOfTrial 27 = .ok (.iconst 1, 1) := by decide +kernel
theorem dX5_readsOfTrial_28 : decode cX5_readsOfTrial 28 = .ok (.bipush (-9), 2) := by decide +kernel
theorem dX5_readsOfTrial_30 : decode cX5_readsOfTrial 30 = .ok (.invokevirtual 198, 3) := by decide +kernel
theorem dX5_readsOfTrial_33 : decode cX5_readsOfTrial 33 = .ok (.iconst 1, 1) := by decide +kernel
theorem dX5_readsOfTrial_34 : decode cX5_readsOfTrial 34 = .ok (.istore 4, 2) := by decide +kernel
theorem dX5_readsOfTrial_36 : decode cX5_readsOfTrial 36 = .ok (.aload_n 0, 1) := by decide +kernel
theorem dX5_readsOfTrial_37 : decode cX5_readsOfTrial 37 = .ok (.getfield 16, 3) := by decide +kernel
theorem dX5_readsOfTrial_40 : decode cX5_readsOfTrial 40 = .ok (.iconst 1, 1) := by decide +kernel
theorem dX5_readsOfTrial_41 : decode cX5_readsOfTrial 41 = .ok (.iconst 2, 1) := by decide +kernel
theorem dX5_readsOfTrial_42 : decode cX5_readsOfTrial 42 = .ok (.iload 4, 2) := by decide +kernel
theorem dX5_readsOfTrial_44 : decode cX5_readsOfTrial 44 = .ok (.invokevirtual 198, 3) := by decide +kernel
theorem dX5_readsOfTrial_47 : decode cX5_readsOfTrial 47 = .ok (.iconst 0, 1) := by decide +kernel
theorem dX5_readsOfTrial_48 : decode cX5_readsOfTrial 48 = .ok (.istore 5, 2) := by decide +kernel
theorem dX5_readsOfTrial_50 : decode cX5_readsOfTrial 50 = .ok (.iconst 0, 1) := by decide +kernel
theorem dX5_readsOfTrial_51 : decode cX5_readsOfTrial 51 = .ok (.istore 6, 2) := by decide +kernel
theorem dX5_readsOfTrial_53 : decode cX5_readsOfTrial 53 = .ok (.iload 6, 2) := by decide +kernel
theorem dX5_readsOfTrial_55 : decode cX5_readsOfTrial 55 = .ok (.sipush 1000, 3) := by decide +kernel
theorem dX5_readsOfTrial_58 : decode cX5_readsOfTrial 58 = .ok (.if_icmp .ge 105, 3) := by decide +kernel
theorem dX5_readsOfTrial_61 : decode cX5_readsOfTrial 61 = .ok (.aload_n 0, 1) := by decide +kernel
theorem dX5_readsOfTrial_62 : decode cX5_readsOfTrial 62 = .ok (.getfield 16, 3) := by decide +kernel
theorem dX5_readsOfTrial_65 : decode cX5_readsOfTrial 65 = .ok (.iconst 0, 1) := by decide +kernel
theorem dX5_readsOfTrial_66 : decode cX5_readsOfTrial 66 = .ok (.invokevirtual 69, 3) := by decide +kernel
theorem dX5_readsOfTrial_69 : decode cX5_readsOfTrial 69 = .ok (.ifCond .ne 94, 3) := by decide +kernel
theorem dX5_readsOfTrial_72 : decode cX5_readsOfTrial 72 = .ok (.iconst 0, 1) := by decide +kernel
theorem dX5_readsOfTrial_73 : decode cX5_readsOfTrial 73 = .ok (.istore 7, 2) := by decide +kernel
theorem dX5_readsOfTrial_75 : decode cX5_readsOfTrial 75 = .ok (.iload 7, 2) := by decide +kernel
theorem dX5_readsOfTrial_77 : decode cX5_readsOfTrial 77 = .ok (.iload_n 2, 1) := by decide +kernel
theorem dX5_readsOfTrial_78 : decode cX5_readsOfTrial 78 = .ok (.if_icmp .ge 31, 3) := by decide +kernel
theorem dX5_readsOfTrial_81 : decode cX5_readsOfTrial 81 = .ok (.aload_n 0, 1) := by decide +kernel
theorem dX5_readsOfTrial_82 : decode cX5_readsOfTrial 82 = .ok (.getfield 16, 3) := by decide +kernel
theorem dX5_readsOfTrial_85 : decode cX5_readsOfTrial 85 = .ok (.iconst 0, 1) := by decide +kernel
theorem dX5_readsOfTrial_86 : decode cX5_readsOfTrial 86 = .ok (.invokevirtual 69, 3) := by decide +kernel
theorem dX5_readsOfTrial_89 : decode cX5_readsOfTrial 89 = .ok (.ifCond .ne 20, 3) := by decide +kernel
theorem dX5_readsOfTrial_92 : decode cX5_readsOfTrial 92 = .ok (.aload_n 0, 1) := by decide +kernel
theorem dX5_readsOfTrial_93 : decode cX5_readsOfTrial 93 = .ok (.getfield 16, 3) := by decide +kernel
theorem dX5_readsOfTrial_96 : decode cX5_readsOfTrial 96 = .ok (.iconst 0, 1) := by decide +kernel
theorem dX5_readsOfTrial_97 : decode cX5_readsOfTrial 97 = .ok (.invokevirtual 200, 3) := by decide +kernel
theorem dX5_readsOfTrial_100 : decode cX5_readsOfTrial 100 = .ok (.iinc 5 1, 3) := by decide +kernel
theorem dX5_readsOfTrial_103 : decode cX5_readsOfTrial 103 = .ok (.iinc 7 1, 3) := by decide +kernel
theorem dX5_readsOfTrial_106 : decode cX5_readsOfTrial 106 = .ok (.goto (-31), 3) := by decide +kernel
theorem dX5_readsOfTrial_109 : decode cX5_readsOfTrial 109 = .ok (.iconst 0, 1) := by decide +kernel
theorem dX5_readsOfTrial_110 : decode cX5_readsOfTrial 110 = .ok (.istore 7, 2) := by decide +kernel
theorem dX5_readsOfTrial_112 : decode cX5_readsOfTrial 112 = .ok (.iload 7, 2) := by decide +kernel
theorem dX5_readsOfTrial_114 : decode cX5_readsOfTrial 114 = .ok (.iload_n 3, 1) := by decide +kernel
theorem dX5_readsOfTrial_115 : decode cX5_readsOfTrial 115 = .ok (.if_icmp .ge 42, 3) := by decide +kernel
theorem dX5_readsOfTrial_118 : decode cX5_readsOfTrial 118 = .ok (.aload_n 0, 1) := by decide +kernel
theorem dX5_readsOfTrial_119 : decode cX5_readsOfTrial 119 = .ok (.getfield 16, 3) := by decide +kernel
theorem dX5_readsOfTrial_122 : decode cX5_readsOfTrial 122 = .ok (.iconst 1, 1) := by decide +kernel
theorem dX5_readsOfTrial_123 : decode cX5_readsOfTrial 123 = .ok (.invokevirtual 200, 3) := by decide +kernel
theorem dX5_readsOfTrial_126 : decode cX5_readsOfTrial 126 = .ok (.aload_n 0, 1) := by decide +kernel
theorem dX5_readsOfTrial_127 : decode cX5_readsOfTrial 127 = .ok (.getfield 16, 3) := by decide +kernel
theorem dX5_readsOfTrial_130 : decode cX5_readsOfTrial 130 = .ok (.iconst 1, 1) := by decide +kernel
theorem dX5_readsOfTrial_131 : decode cX5_readsOfTrial 131 = .ok (.invokevirtual 69, 3) := by decide +kernel
theorem dX5_readsOfTrial_134 : decode cX5_readsOfTrial 134 = .ok (.ifCond .eq 17, 3) := by decide +kernel
theorem dX5_readsOfTrial_137 : decode cX5_readsOfTrial 137 = .ok (.iinc 4 1, 3) := by decide +kernel
theorem dX5_readsOfTrial_140 : decode cX5_readsOfTrial 140 = .ok (.aload_n 0, 1) := by decide +kernel
theorem dX5_readsOfTrial_141 : decode cX5_readsOfTrial 141 = .ok (.getfield 16, 3) := by decide +kernel
theorem dX5_readsOfTrial_144 : decode cX5_readsOfTrial 144 = .ok (.iconst 1, 1) := by decide +kernel
theorem dX5_readsOfTrial_145 : decode cX5_readsOfTrial 145 = .ok (.iconst 2, 1) := by decide +kernel
theorem dX5_readsOfTrial_146 : decode cX5_readsOfTrial 146 = .ok (.iload 4, 2) := by decide +kernel
theorem dX5_readsOfTrial_148 : decode cX5_readsOfTrial 148 = .ok (.invokevirtual 198, 3) := by decide +kernel
theorem dX5_readsOfTrial_151 : decode cX5_readsOfTrial 151 = .ok (.iinc 7 1, 3) := by decide +kernel
theorem dX5_readsOfTrial_154 : decode cX5_readsOfTrial 154 = .ok (.goto (-42), 3) := by decide +kernel
theorem dX5_readsOfTrial_157 : decode cX5_readsOfTrial 157 = .ok (.iinc 6 1, 3) := by decide +kernel
theorem dX5_readsOfTrial_160 : decode cX5_readsOfTrial 160 = .ok (.goto (-107), 3) := by decide +kernel
theorem dX5_readsOfTrial_163 : decode cX5_readsOfTrial 163 = .ok (.iload 5, 2) := by decide +kernel
theorem dX5_readsOfTrial_165 : decode cX5_readsOfTrial 165 = .ok (.ireturn, 1) := by decide +kernel
theorem dX5_movesThatFit_0 : decode cX5_movesThatFit 0 = .ok (.iconst 0, 1) := by decide +kernel
theorem dX5_movesThatFit_1 : decode cX5_movesThatFit 1 = .ok (.istore_n 1, 1) := by decide +kernel
theorem dX5_movesThatFit_2 : decode cX5_movesThatFit 2 = .ok (.iconst 1, 1) := by decide +kernel
theorem dX5_movesThatFit_3 : decode cX5_movesThatFit 3 = .ok (.istore_n 2, 1) := by decide +kernel
theorem dX5_movesThatFit_4 : decode cX5_movesThatFit 4 = .ok (.iload_n 2, 1) := by decide +kernel
theorem dX5_movesThatFit_5 : decode cX5_movesThatFit 5 = .ok (.iconst 4, 1) := by decide +kernel
theorem dX5_movesThatFit_6 : decode cX5_movesThatFit 6 = .ok (.if_icmp .gt 25, 3) := by decide +kernel
theorem dX5_movesThatFit_9 : decode cX5_movesThatFit 9 = .ok (.aload_n 0, 1) := by decide +kernel
theorem dX5_movesThatFit_10 : decode cX5_movesThatFit 10 = .ok (.iload_n 2, 1) := by decide +kernel
theorem dX5_movesThatFit_11 : decode cX5_movesThatFit 11 = .ok (.invokevirtual 204, 3) := by decide +kernel
theorem dX5_movesThatFit_14 : decode cX5_movesThatFit 14 = .ok (.ifCond .eq 11, 3) := by decide +kernel
theorem dX5_movesThatFit_17 : decode cX5_movesThatFit 17 = .ok (.iload_n 1, 1) := by decide +kernel
theorem dX5_movesThatFit_18 : decode cX5_movesThatFit 18 = .ok (.iconst 1, 1) := by decide +kernel
theorem dX5_movesThatFit_19 : decode cX5_movesThatFit 19 = .ok (.iload_n 2, 1) := by decide +kernel
theorem dX5_movesThatFit_20 : decode cX5_movesThatFit 20 = .ok (.iconst 1, 1) := by decide +kernel
theorem dX5_movesThatFit_21 : decode cX5_movesThatFit 21 = .ok (.isub, 1) := by decide +kernel
theorem dX5_movesThatFit_22 : decode cX5_movesThatFit 22 = .ok (.ishl, 1) := by decide +kernel
theorem dX5_movesThatFit_23 : decode cX5_movesThatFit 23 = .ok (.ior, 1) := by decide +kernel
theorem dX5_movesThatFit_24 : decode cX5_movesThatFit 24 = .ok (.istore_n 1, 1) := by decide +kernel
theorem dX5_movesThatFit_25 : decode cX5_movesThatFit 25 = .ok (.iinc 2 1, 3) := by decide +kernel
theorem dX5_movesThatFit_28 : decode cX5_movesThatFit 28 = .ok (.goto (-24), 3) := by decide +kernel
theorem dX5_movesThatFit_31 : decode cX5_movesThatFit 31 = .ok (.iload_n 1, 1) := by decide +kernel
theorem dX5_movesThatFit_32 : decode cX5_movesThatFit 32 = .ok (.ireturn, 1) := by decide +kernel
theorem dX5_fitsAllSeen_0 : decode cX5_fitsAllSeen 0 = .ok (.iconst 0, 1) := by decide +kernel
theorem dX5_fitsAllSeen_1 : decode cX5_fitsAllSeen 1 = .ok (.istore_n 2, 1) := by decide +kernel
theorem dX5_fitsAllSeen_2 : decode cX5_fitsAllSeen 2 = .ok (.iload_n 2, 1) := by decide +kernel
theorem dX5_fitsAllSeen_3 : decode cX5_fitsAllSeen 3 = .ok (.aload_n 0, 1) := by decide +kernel
theorem dX5_fitsAllSeen_4 : decode cX5_fitsAllSeen 4 = .ok (.getfield 58, 3) := by decide +kernel
theorem dX5_fitsAllSeen_7 : decode cX5_fitsAllSeen 7 = .ok (.if_icmp .ge 37, 3) := by decide +kernel
theorem dX5_fitsAllSeen_10 : decode cX5_fitsAllSeen 10 = .ok (.aload_n 0, 1) := by decide +kernel
theorem dX5_fitsAllSeen_11 : decode cX5_fitsAllSeen 11 = .ok (.iload_n 1, 1) := by decide +kernel
theorem dX5_fitsAllSeen_12 : decode cX5_fitsAllSeen 12 = .ok (.aload_n 0, 1) := by decide +kernel
theorem dX5_fitsAllSeen_13 : decode cX5_fitsAllSeen 13 = .ok (.getfield 30, 3) := by decide +kernel
theorem dX5_fitsAllSeen_16 : decode cX5_fitsAllSeen 16 = .ok (.iload_n 2, 1) := by decide +kernel
theorem dX5_fitsAllSeen_17 : decode cX5_fitsAllSeen 17 = .ok (.iaload, 1) := by decide +kernel
theorem dX5_fitsAllSeen_18 : decode cX5_fitsAllSeen 18 = .ok (.aload_n 0, 1) := by decide +kernel
theorem dX5_fitsAllSeen_19 : decode cX5_fitsAllSeen 19 = .ok (.getfield 34, 3) := by decide +kernel
theorem dX5_fitsAllSeen_22 : decode cX5_fitsAllSeen 22 = .ok (.iload_n 2, 1) := by decide +kernel
theorem dX5_fitsAllSeen_23 : decode cX5_fitsAllSeen 23 = .ok (.iaload, 1) := by decide +kernel
theorem dX5_fitsAllSeen_24 : decode cX5_fitsAllSeen 24 = .ok (.invokevirtual 163, 3) := by decide +kernel
theorem dX5_fitsAllSeen_27 : decode cX5_fitsAllSeen 27 = .ok (.aload_n 0, 1) := by decide +kernel
theorem dX5_fitsAllSeen_28 : decode cX5_fitsAllSeen 28 = .ok (.getfield 37, 3) := by decide +kernel
theorem dX5_fitsAllSeen_31 : decode cX5_fitsAllSeen 31 = .ok (.iload_n 2, 1) := by decide +kernel
theorem dX5_fitsAllSeen_32 : decode cX5_fitsAllSeen 32 = .ok (.iaload, 1) := by decide +kernel
theorem dX5_fitsAllSeen_33 : decode cX5_fitsAllSeen 33 = .ok (.if_icmp .eq 5, 3) := by decide +kernel
theorem dX5_fitsAllSeen_36 : decode cX5_fitsAllSeen 36 = .ok (.iconst 0, 1) := by decide +kernel
theorem dX5_fitsAllSeen_37 : decode cX5_fitsAllSeen 37 = .ok (.ireturn, 1) := by decide +kernel
theorem dX5_fitsAllSeen_38 : decode cX5_fitsAllSeen 38 = .ok (.iinc 2 1, 3) := by decide +kernel
theorem dX5_fitsAllSeen_41 : decode cX5_fitsAllSeen 41 = .ok (.goto (-39), 3) := by decide +kernel
theorem dX5_fitsAllSeen_44 : decode cX5_fitsAllSeen 44 = .ok (.iconst 1, 1) := by decide +kernel
theorem dX5_fitsAllSeen_45 : decode cX5_fitsAllSeen 45 = .ok (.ireturn, 1) := by decide +kernel
theorem dX5_mostAlike_0 : decode cX5_mostAlike 0 = .ok (.iconst 1, 1) := by decide +kernel
theorem dX5_mostAlike_1 : decode cX5_mostAlike 1 = .ok (.istore 4, 2) := by decide +kernel
theorem dX5_mostAlike_3 : decode cX5_mostAlike 3 = .ok (.iload 4, 2) := by decide +kernel
theorem dX5_mostAlike_5 : decode cX5_mostAlike 5 = .ok (.iconst 4, 1) := by decide +kernel
theorem dX5_mostAlike_6 : decode cX5_mostAlike 6 = .ok (.if_icmp .gt 40, 3) := by decide +kernel
theorem dX5_mostAlike_9 : decode cX5_mostAlike 9 = .ok (.aload_n 0, 1) := by decide +kernel
theorem dX5_mostAlike_10 : decode cX5_mostAlike 10 = .ok (.getfield 40, 3) := by decide +kernel
theorem dX5_mostAlike_13 : decode cX5_mostAlike 13 = .ok (.iload 4, 2) := by decide +kernel
theorem dX5_mostAlike_15 : decode cX5_mostAlike 15 = .ok (.iconst 1, 1) := by decide +kernel
theorem dX5_mostAlike_16 : decode cX5_mostAlike 16 = .ok (.isub, 1) := by decide +kernel
theorem dX5_mostAlike_17 : decode cX5_mostAlike 17 = .ok (.iload_n 1, 1) := by decide +kernel
theorem dX5_mostAlike_18 : decode cX5_mostAlike 18 = .ok (.iload 4, 2) := by decide +kernel
theorem dX5_mostAlike_20 : decode cX5_mostAlike 20 = .ok (.invokestatic 207, 3) := by decide +kernel
theorem dX5_mostAlike_23 : decode cX5_mostAlike 23 = .ok (.ifCond .eq 14, 3) := by decide +kernel
theorem dX5_mostAlike_26 : decode cX5_mostAlike 26 = .ok (.aload_n 0, 1) := by decide +kernel
theorem dX5_mostAlike_27 : decode cX5_mostAlike 27 = .ok (.iload 4, 2) := by decide +kernel
theorem dX5_mostAlike_29 : decode cX5_mostAlike 29 = .ok (.iload_n 2, 1) := by decide +kernel
theorem dX5_mostAlike_30 : decode cX5_mostAlike 30 = .ok (.iload_n 3, 1) := by decide +kernel
theorem dX5_mostAlike_31 : decode cX5_mostAlike 31 = .ok (.invokevirtual 163, 3) := by decide +kernel
theorem dX5_mostAlike_34 : decode cX5_mostAlike 34 = .ok (.goto 5, 3) := by decide +kernel
theorem dX5_mostAlike_37 : decode cX5_mostAlike 37 = .ok (.bipush (-9), 2) := by decide +kernel
theorem dX5_mostAlike_39 : decode cX5_mostAlike 39 = .ok (.iastore, 1) := by decide +kernel
theorem dX5_mostAlike_40 : decode cX5_mostAlike 40 = .ok (.iinc 4 1, 3) := by decide +kernel
theorem dX5_mostAlike_43 : decode cX5_mostAlike 43 = .ok (.goto (-40), 3) := by decide +kernel
theorem dX5_mostAlike_46 : decode cX5_mostAlike 46 = .ok (.iconst 0, 1) := by decide +kernel
theorem dX5_mostAlike_47 : decode cX5_mostAlike 47 = .ok (.istore 4, 2) := by decide +kernel
theorem dX5_mostAlike_49 : decode cX5_mostAlike 49 = .ok (.iconst 0, 1) := by decide +kernel
theorem dX5_mostAlike_50 : decode cX5_mostAlike 50 = .ok (.istore 5, 2) := by decide +kernel
theorem dX5_mostAlike_52 : decode cX5_mostAlike 52 = .ok (.iload 5, 2) := by decide +kernel
theorem dX5_mostAlike_54 : decode cX5_mostAlike 54 = .ok (.iconst 4, 1) := by decide +kernel
theorem dX5_mostAlike_55 : decode cX5_mostAlike 55 = .ok (.if_icmp .ge 39, 3) := by decide +kernel
theorem dX5_mostAlike_58 : decode cX5_mostAlike 58 = .ok (.aload_n 0, 1) := by decide +kernel
theorem dX5_mostAlike_59 : decode cX5_mostAlike 59 = .ok (.getfield 40, 3) := by decide +kernel
theorem dX5_mostAlike_62 : decode cX5_mostAlike 62 = .ok (.iload 5, 2) := by decide +kernel
theorem dX5_mostAlike_64 : decode cX5_mostAlike 64 = .ok (.iaload, 1) := by decide +kernel
theorem dX5_mostAlike_65 : decode cX5_mostAlike 65 = .ok (.bipush (-9), 2) := by decide +kernel
theorem dX5_mostAlike_67 : decode cX5_mostAlike 67 = .ok (.if_icmp .eq 21, 3) := by decide +kernel
theorem dX5_mostAlike_70 : decode cX5_mostAlike 70 = .ok (.iload 4, 2) := by decide +kernel
theorem dX5_mostAlike_72 : decode cX5_mostAlike 72 = .ok (.aload_n 0, 1) := by decide +kernel
theorem dX5_mostAlike_73 : decode cX5_mostAlike 73 = .ok (.aload_n 0, 1) := by decide +kernel
theorem dX5_mostAlike_74 : decode cX5_mostAlike 74 = .ok (.getfield 40, 3) := by decide +kernel
theorem dX5_mostAlike_77 : decode cX5_mostAlike 77 = .ok (.iload 5, 2) := by decide +kernel
theorem dX5_mostAlike_79 : decode cX5_mostAlike 79 = .ok (.iaload, 1) := by decide +kernel
theorem dX5_mostAlike_80 : decode cX5_mostAlike 80 = .ok (.invokevirtual 211, 3) := by decide +kernel
theorem dX5_mostAlike_83 : decode cX5_mostAlike 83 = .ok (.invokestatic 214, 3) := by decide +kernel
theorem dX5_mostAlike_86 : decode cX5_mostAlike 86 = .ok (.istore 4, 2) := by decide +kernel
theorem dX5_mostAlike_88 : decode cX5_mostAlike 88 = .ok (.iinc 5 1, 3) := by decide +kernel
theorem dX5_mostAlike_91 : decode cX5_mostAlike 91 = .ok (.goto (-39), 3) := by decide +kernel
theorem dX5_mostAlike_94 : decode cX5_mostAlike 94 = .ok (.iload 4, 2) := by decide +kernel
theorem dX5_mostAlike_96 : decode cX5_mostAlike 96 = .ok (.ireturn, 1) := by decide +kernel
theorem dX5_countAlike_0 : decode cX5_countAlike 0 = .ok (.iconst 0, 1) := by decide +kernel
theorem dX5_countAlike_1 : decode cX5_countAlike 1 = .ok (.istore_n 2, 1) := by decide +kernel
theorem dX5_countAlike_2 : decode cX5_countAlike 2 = .ok (.iconst 0, 1) := by decide +kernel
theorem dX5_countAlike_3 : decode cX5_countAlike 3 = .ok (.istore_n 3, 1) := by decide +kernel
theorem dX5_countAlike_4 : decode cX5_countAlike 4 = .ok (.iload_n 3, 1) := by decide +kernel
theorem dX5_countAlike_5 : decode cX5_countAlike 5 = .ok (.iconst 4, 1) := by decide +kernel
theorem dX5_countAlike_6 : decode cX5_countAlike 6 = .ok (.if_icmp .ge 22, 3) := by decide +kernel
theorem dX5_countAlike_9 : decode cX5_countAlike 9 = .ok (.aload_n 0, 1) := by decide +kernel
theorem dX5_countAlike_10 : decode cX5_countAlike 10 = .ok (.getfield 40, 3) := by decide +kernel
theorem dX5_countAlike_13 : decode cX5_countAlike 13 = .ok (.iload_n 3, 1) := by decide +kernel
theorem dX5_countAlike_14 : decode cX5_countAlike 14 = .ok (.iaload, 1) := by decide +kernel
theorem dX5_countAlike_15 : decode cX5_countAlike 15 = .ok (.iload_n 1, 1) := by decide +kernel
theorem dX5_countAlike_16 : decode cX5_countAlike 16 = .ok (.if_icmp .ne 6, 3) := by decide +kernel
theorem dX5_countAlike_19 : decode cX5_countAlike 19 = .ok (.iinc 2 1, 3) := by decide +kernel
theorem dX5_countAlike_22 : decode cX5_countAlike 22 = .ok (.iinc 3 1, 3) := by decide +kernel
theorem dX5_countAlike_25 : decode cX5_countAlike 25 = .ok (.goto (-21), 3) := by decide +kernel
theorem dX5_countAlike_28 : decode cX5_countAlike 28 = .ok (.iload_n 2, 1) := by decide +kernel
theorem dX5_countAlike_29 : decode cX5_countAlike 29 = .ok (.ireturn, 1) := by decide +kernel
theorem dX5_isIn_0 : decode cX5_isIn 0 = .ok (.iload_n 0, 1) := by decide +kernel
theorem dX5_isIn_1 : decode cX5_isIn 1 = .ok (.iload_n 1, 1) := by decide +kernel
theorem dX5_isIn_2 : decode cX5_isIn 2 = .ok (.iconst 1, 1) := by decide +kernel
theorem dX5_isIn_3 : decode cX5_isIn 3 = .ok (.isub, 1) := by decide +kernel
theorem dX5_isIn_4 : decode cX5_isIn 4 = .ok (.ishr, 1) := by decide +kernel
theorem dX5_isIn_5 : decode cX5_isIn 5 = .ok (.iconst 1, 1) := by decide +kernel
theorem dX5_isIn_6 : decode cX5_isIn 6 = .ok (.iand, 1) := by decide +kernel
theorem dX5_isIn_7 : decode cX5_isIn 7 = .ok (.iconst 1, 1) := by decide +kernel
theorem dX5_isIn_8 : decode cX5_isIn 8 = .ok (.if_icmp .ne 7, 3) := by decide +kernel
theorem dX5_isIn_11 : decode cX5_isIn 11 = .ok (.iconst 1, 1) := by decide +kernel
theorem dX5_isIn_12 : decode cX5_isIn 12 = .ok (.goto 4, 3) := by decide +kernel
theorem dX5_isIn_15 : decode cX5_isIn 15 = .ok (.iconst 0, 1) := by decide +kernel
theorem dX5_isIn_16 : decode cX5_isIn 16 = .ok (.ireturn, 1) := by decide +kernel
theorem dX5_copyAll_0 : decode cX5_copyAll 0 = .ok (.aload_n 0, 1) := by decide +kernel
theorem dX5_copyAll_1 : decode cX5_copyAll 1 = .ok (.iconst 0, 1) := by decide +kernel
theorem dX5_copyAll_2 : decode cX5_copyAll 2 = .ok (.aload_n 1, 1) := by decide +kernel
theorem dX5_copyAll_3 : decode cX5_copyAll 3 = .ok (.iconst 0, 1) := by decide +kernel
theorem dX5_copyAll_4 : decode cX5_copyAll 4 = .ok (.aload_n 0, 1) := by decide +kernel
theorem dX5_copyAll_5 : decode cX5_copyAll 5 = .ok (.arraylength, 1) := by decide +kernel
theorem dX5_copyAll_6 : decode cX5_copyAll 6 = .ok (.aload_n 1, 1) := by decide +kernel
theorem dX5_copyAll_7 : decode cX5_copyAll 7 = .ok (.arraylength, 1) := by decide +kernel
theorem dX5_copyAll_8 : decode cX5_copyAll 8 = .ok (.invokestatic 193, 3) := by decide +kernel
theorem dX5_copyAll_11 : decode cX5_copyAll 11 = .ok (.invokestatic 217, 3) := by decide +kernel
theorem dX5_copyAll_14 : decode cX5_copyAll 14 = .ok (.return_, 1) := by decide +kernel
theorem dJ6_bitCount_0f7a4_0 : decode cJ6_bitCount_0f7a4 0 = .ok (.iload_n 0, 1) := by decide +kernel
theorem dJ6_bitCount_0f7a4_1 : decode cJ6_bitCount_0f7a4 1 = .ok (.iload_n 0, 1) := by decide +kernel
theorem dJ6_bitCount_0f7a4_2 : decode cJ6_bitCount_0f7a4 2 = .ok (.iconst 1, 1) := by decide +kernel
theorem dJ6_bitCount_0f7a4_3 : decode cJ6_bitCount_0f7a4 3 = .ok (.iushr, 1) := by decide +kernel
theorem dJ6_bitCount_0f7a4_4 : decode cJ6_bitCount_0f7a4 4 = .ok (.ldc_w 265, 3) := by decide +kernel
theorem dJ6_bitCount_0f7a4_7 : decode cJ6_bitCount_0f7a4 7 = .ok (.iand, 1) := by decide +kernel
theorem dJ6_bitCount_0f7a4_8 : decode cJ6_bitCount_0f7a4 8 = .ok (.isub, 1) := by decide +kernel
theorem dJ6_bitCount_0f7a4_9 : decode cJ6_bitCount_0f7a4 9 = .ok (.istore_n 0, 1) := by decide +kernel
theorem dJ6_bitCount_0f7a4_10 : decode cJ6_bitCount_0f7a4 10 = .ok (.iload_n 0, 1) := by decide +kernel
theorem dJ6_bitCount_0f7a4_11 : decode cJ6_bitCount_0f7a4 11 = .ok (.ldc_w 266, 3) := by decide +kernel
theorem dJ6_bitCount_0f7a4_14 : decode cJ6_bitCount_0f7a4 14 = .ok (.iand, 1) := by decide +kernel
theorem dJ6_bitCount_0f7a4_15 : decode cJ6_bitCount_0f7a4 15 = .ok (.iload_n 0, 1) := by decide +kernel
theorem dJ6_bitCount_0f7a4_16 : decode cJ6_bitCount_0f7a4 16 = .ok (.iconst 2, 1) := by decide +kernel
theorem dJ6_bitCount_0f7a4_17 : decode cJ6_bitCount_0f7a4 17 = .ok (.iushr, 1) := by decide +kernel
theorem dJ6_bitCount_0f7a4_18 : decode cJ6_bitCount_0f7a4 18 = .ok (.ldc_w 266, 3) := by decide +kernel
theorem dJ6_bitCount_0f7a4_21 : decode cJ6_bitCount_0f7a4 21 = .ok (.iand, 1) := by decide +kernel
theorem dJ6_bitCount_0f7a4_22 : decode cJ6_bitCount_0f7a4 22 = .ok (.iadd, 1) := by decide +kernel
theorem dJ6_bitCount_0f7a4_23 : decode cJ6_bitCount_0f7a4 23 = .ok (.istore_n 0, 1) := by decide +kernel
theorem dJ6_bitCount_0f7a4_24 : decode cJ6_bitCount_0f7a4 24 = .ok (.iload_n 0, 1) := by decide +kernel
theorem dJ6_bitCount_0f7a4_25 : decode cJ6_bitCount_0f7a4 25 = .ok (.iload_n 0, 1) := by decide +kernel
theorem dJ6_bitCount_0f7a4_26 : decode cJ6_bitCount_0f7a4 26 = .ok (.iconst 4, 1) := by decide +kernel
theorem dJ6_bitCount_0f7a4_27 : decode cJ6_bitCount_0f7a4 27 = .ok (.iushr, 1) := by decide +kernel
theorem dJ6_bitCount_0f7a4_28 : decode cJ6_bitCount_0f7a4 28 = .ok (.iadd, 1) := by decide +kernel
theorem dJ6_bitCount_0f7a4_29 : decode cJ6_bitCount_0f7a4 29 = .ok (.ldc_w 267, 3) := by decide +kernel
theorem dJ6_bitCount_0f7a4_32 : decode cJ6_bitCount_0f7a4 32 = .ok (.iand, 1) := by decide +kernel
theorem dJ6_bitCount_0f7a4_33 : decode cJ6_bitCount_0f7a4 33 = .ok (.istore_n 0, 1) := by decide +kernel
theorem dJ6_bitCount_0f7a4_34 : decode cJ6_bitCount_0f7a4 34 = .ok (.iload_n 0, 1) := by decide +kernel
theorem dJ6_bitCount_0f7a4_35 : decode cJ6_bitCount_0f7a4 35 = .ok (.iload_n 0, 1) := by decide +kernel
theorem dJ6_bitCount_0f7a4_36 : decode cJ6_bitCount_0f7a4 36 = .ok (.bipush 8, 2) := by decide +kernel
theorem dJ6_bitCount_0f7a4_38 : decode cJ6_bitCount_0f7a4 38 = .ok (.iushr, 1) := by decide +kernel
theorem dJ6_bitCount_0f7a4_39 : decode cJ6_bitCount_0f7a4 39 = .ok (.iadd, 1) := by decide +kernel
theorem dJ6_bitCount_0f7a4_40 : decode cJ6_bitCount_0f7a4 40 = .ok (.istore_n 0, 1) := by decide +kernel
theorem dJ6_bitCount_0f7a4_41 : decode cJ6_bitCount_0f7a4 41 = .ok (.iload_n 0, 1) := by decide +kernel
theorem dJ6_bitCount_0f7a4_42 : decode cJ6_bitCount_0f7a4 42 = .ok (.iload_n 0, 1) := by decide +kernel
theorem dJ6_bitCount_0f7a4_43 : decode cJ6_bitCount_0f7a4 43 = .ok (.bipush 16, 2) := by decide +kernel
theorem dJ6_bitCount_0f7a4_45 : decode cJ6_bitCount_0f7a4 45 = .ok (.iushr, 1) := by decide +kernel
theorem dJ6_bitCount_0f7a4_46 : decode cJ6_bitCount_0f7a4 46 = .ok (.iadd, 1) := by decide +kernel
theorem dJ6_bitCount_0f7a4_47 : decode cJ6_bitCount_0f7a4 47 = .ok (.istore_n 0, 1) := by decide +kernel
theorem dJ6_bitCount_0f7a4_48 : decode cJ6_bitCount_0f7a4 48 = .ok (.iload_n 0, 1) := by decide +kernel
theorem dJ6_bitCount_0f7a4_49 : decode cJ6_bitCount_0f7a4 49 = .ok (.bipush 63, 2) := by decide +kernel
theorem dJ6_bitCount_0f7a4_51 : decode cJ6_bitCount_0f7a4 51 = .ok (.iand, 1) := by decide +kernel
theorem dJ6_bitCount_0f7a4_52 : decode cJ6_bitCount_0f7a4 52 = .ok (.ireturn, 1) := by decide +kernel
theorem dJ9_max_7cf53_0 : decode cJ9_max_7cf53 0 = .ok (.iload_n 0, 1) := by decide +kernel
theorem dJ9_max_7cf53_1 : decode cJ9_max_7cf53 1 = .ok (.iload_n 1, 1) := by decide +kernel
theorem dJ9_max_7cf53_2 : decode cJ9_max_7cf53 2 = .ok (.if_icmp .lt 7, 3) := by decide +kernel
theorem dJ9_max_7cf53_5 : decode cJ9_max_7cf53 5 = .ok (.iload_n 0, 1) := by decide +kernel
theorem dJ9_max_7cf53_6 : decode cJ9_max_7cf53 6 = .ok (.goto 4, 3) := by decide +kernel
theorem dJ9_max_7cf53_9 : decode cJ9_max_7cf53 9 = .ok (.iload_n 1, 1) := by decide +kernel
theorem dJ9_max_7cf53_10 : decode cJ9_max_7cf53 10 = .ok (.ireturn, 1) := by decide +kernel
theorem dJ9_min_7cf53_0 : decode cJ9_min_7cf53 0 = .ok (.iload_n 0, 1) := by decide +kernel
theorem dJ9_min_7cf53_1 : decode cJ9_min_7cf53 1 = .ok (.iload_n 1, 1) := by decide +kernel
theorem dJ9_min_7cf53_2 : decode cJ9_min_7cf53 2 = .ok (.if_icmp .gt 7, 3) := by decide +kernel
theorem dJ9_min_7cf53_5 : decode cJ9_min_7cf53 5 = .ok (.iload_n 0, 1) := by decide +kernel
theorem dJ9_min_7cf53_6 : decode cJ9_min_7cf53 6 = .ok (.goto 4, 3) := by decide +kernel
theorem dJ9_min_7cf53_9 : decode cJ9_min_7cf53 9 = .ok (.iload_n 1, 1) := by decide +kernel
theorem dJ9_min_7cf53_10 : decode cJ9_min_7cf53 10 = .ok (.ireturn, 1) := by decide +kernel
theorem dJ7_fill_53178_0 : decode cJ7_fill_53178 0 = .ok (.iconst 0, 1) := by decide +kernel
theorem dJ7_fill_53178_1 : decode cJ7_fill_53178 1 = .ok (.istore_n 2, 1) := by decide +kernel
theorem dJ7_fill_53178_2 : decode cJ7_fill_53178 2 = .ok (.aload_n 0, 1) := by decide +kernel
theorem dJ7_fill_53178_3 : decode cJ7_fill_53178 3 = .ok (.arraylength, 1) := by decide +kernel
theorem dJ7_fill_53178_4 : decode cJ7_fill_53178 4 = .ok (.istore_n 3, 1) := by decide +kernel
theorem dJ7_fill_53178_5 : decode cJ7_fill_53178 5 = .ok (.iload_n 2, 1) := by decide +kernel
theorem dJ7_fill_53178_6 : decode cJ7_fill_53178 6 = .ok (.iload_n 3, 1) := by decide +kernel
theorem dJ7_fill_53178_7 : decode cJ7_fill_53178 7 = .ok (.if_icmp .ge 13, 3) := by decide +kernel
theorem dJ7_fill_53178_10 : decode cJ7_fill_53178 10 = .ok (.aload_n 0, 1) := by decide +kernel
theorem dJ7_fill_53178_11 : decode cJ7_fill_53178 11 = .ok (.iload_n 2, 1) := by decide +kernel
theorem dJ7_fill_53178_12 : decode cJ7_fill_53178 12 = .ok (.iload_n 1, 1) := by decide +kernel
theorem dJ7_fill_53178_13 : decode cJ7_fill_53178 13 = .ok (.iastore, 1) := by decide +kernel
theorem dJ7_fill_53178_14 : decode cJ7_fill_53178 14 = .ok (.iinc 2 1, 3) := by decide +kernel
theorem dJ7_fill_53178_17 : decode cJ7_fill_53178 17 = .ok (.goto (-12), 3) := by decide +kernel
theorem dJ7_fill_53178_20 : decode cJ7_fill_53178 20 = .ok (.return_, 1) := by decide +kernel
