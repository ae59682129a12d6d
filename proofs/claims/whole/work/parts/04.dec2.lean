theorem dX6_init_0 : decode cX6_init 0 = .ok (.aload_n 0, 1) := by decide +kernel
theorem dX6_init_1 : decode cX6_init 1 = .ok (.invokespecial 1, 3) := by decide +kernel
theorem dX6_init_4 : decode cX6_init 4 = .ok (.aload_n 0, 1) := by decide +kernel
theorem dX6_init_5 : decode cX6_init 5 = .ok (.sipush 512, 3) := by decide +kernel
theorem dX6_init_8 : decode cX6_init 8 = .ok (.newarray .int, 2) := by decide +kernel
theorem dX6_init_10 : decode cX6_init 10 = .ok (.putfield 7, 3) := by decide +kernel
theorem dX6_init_13 : decode cX6_init 13 = .ok (.aload_n 0, 1) := by decide +kernel
theorem dX6_init_14 : decode cX6_init 14 = .ok (.sipush 512, 3) := by decide +kernel
theorem dX6_init_17 : decode cX6_init 17 = .ok (.newarray .int, 2) := by decide +kernel
theorem dX6_init_19 : decode cX6_init 19 = .ok (.putfield 13, 3) := by decide +kernel
theorem dX6_init_22 : decode cX6_init 22 = .ok (.aload_n 0, 1) := by decide +kernel
theorem dX6_init_23 : decode cX6_init 23 = .ok (.sipush 2560, 3) := by decide +kernel
theorem dX6_init_26 : decode cX6_init 26 = .ok (.newarray .int, 2) := by decide +kernel
theorem dX6_init_28 : decode cX6_init 28 = .ok (.putfield 16, 3) := by decide +kernel
theorem dX6_init_31 : decode cX6_init 31 = .ok (.aload_n 0, 1) := by decide +kernel
theorem dX6_init_32 : decode cX6_init 32 = .ok (.sipush 1024, 3) := by decide +kernel
theorem dX6_init_35 : decode cX6_init 35 = .ok (.newarray .int, 2) := by decide +kernel
theorem dX6_init_37 : decode cX6_init 37 = .ok (.putfield 19, 3) := by decide +kernel
theorem dX6_init_40 : decode cX6_init 40 = .ok (.aload_n 0, 1) := by decide +kernel
theorem dX6_init_41 : decode cX6_init 41 = .ok (.iconst 2, 1) := by decide +kernel
theorem dX6_init_42 : decode cX6_init 42 = .ok (.newarray .boolean, 2) := by decide +kernel
theorem dX6_init_44 : decode cX6_init 44 = .ok (.putfield 22, 3) := by decide +kernel
theorem dX6_init_47 : decode cX6_init 47 = .ok (.aload_n 0, 1) := by decide +kernel
theorem dX6_init_48 : decode cX6_init 48 = .ok (.bipush 18, 2) := by decide +kernel
theorem dX6_init_50 : decode cX6_init 50 = .ok (.newarray .int, 2) := by decide +kernel
theorem dX6_init_52 : decode cX6_init 52 = .ok (.putfield 26, 3) := by decide +kernel
theorem dX6_init_55 : decode cX6_init 55 = .ok (.aload_n 0, 1) := by decide +kernel
theorem dX6_init_56 : decode cX6_init 56 = .ok (.iconst 4, 1) := by decide +kernel
theorem dX6_init_57 : decode cX6_init 57 = .ok (.newarray .int, 2) := by decide +kernel
theorem dX6_init_59 : decode cX6_init 59 = .ok (.putfield 29, 3) := by decide +kernel
theorem dX6_init_62 : decode cX6_init 62 = .ok (.aload_n 0, 1) := by decide +kernel
theorem dX6_init_63 : decode cX6_init 63 = .ok (.getfield 7, 3) := by decide +kernel
theorem dX6_init_66 : decode cX6_init 66 = .ok (.iconst 3, 1) := by decide +kernel
theorem dX6_init_67 : decode cX6_init 67 = .ok (.iconst 2, 1) := by decide +kernel
theorem dX6_init_68 : decode cX6_init 68 = .ok (.iconst 0, 1) := by decide +kernel
theorem dX6_init_69 : decode cX6_init 69 = .ok (.invokestatic 32, 3) := by decide +kernel
theorem dX6_init_72 : decode cX6_init 72 = .ok (.return_, 1) := by decide +kernel
theorem dX6_bares_0 : decode cX6_bares 0 = .ok (.iconst 0, 1) := by decide +kernel
theorem dX6_bares_1 : decode cX6_bares 1 = .ok (.istore 4, 2) := by decide +kernel
theorem dX6_bares_3 : decode cX6_bares 3 = .ok (.iload 4, 2) := by decide +kernel
theorem dX6_bares_5 : decode cX6_bares 5 = .ok (.sipush 512, 3) := by decide +kernel
theorem dX6_bares_8 : decode cX6_bares 8 = .ok (.if_icmp .ge 14, 3) := by decide +kernel
theorem dX6_bares_11 : decode cX6_bares 11 = .ok (.aload_n 0, 1) := by decide +kernel
theorem dX6_bares_12 : decode cX6_bares 12 = .ok (.iload 4, 2) := by decide +kernel
theorem dX6_bares_14 : decode cX6_bares 14 = .ok (.iconst 0, 1) := by decide +kernel
theorem dX6_bares_15 : decode cX6_bares 15 = .ok (.iastore, 1) := by decide +kernel
theorem dX6_bares_16 : decode cX6_bares 16 = .ok (.iinc 4 1, 3) := by decide +kernel
theorem dX6_bares_19 : decode cX6_bares 19 = .ok (.goto (-16), 3) := by decide +kernel
theorem dX6_bares_22 : decode cX6_bares 22 = .ok (.aload_n 0, 1) := by decide +kernel
theorem dX6_bares_23 : decode cX6_bares 23 = .ok (.iconst 0, 1) := by decide +kernel
theorem dX6_bares_24 : decode cX6_bares 24 = .ok (.iload_n 1, 1) := by decide +kernel
theorem dX6_bares_25 : decode cX6_bares 25 = .ok (.iastore, 1) := by decide +kernel
theorem dX6_bares_26 : decode cX6_bares 26 = .ok (.aload_n 0, 1) := by decide +kernel
theorem dX6_bares_27 : decode cX6_bares 27 = .ok (.iconst 1, 1) := by decide +kernel
theorem dX6_bares_28 : decode cX6_bares 28 = .ok (.iload_n 2, 1) := by decide +kernel
theorem dX6_bares_29 : decode cX6_bares 29 = .ok (.iastore, 1) := by decide +kernel
theorem dX6_bares_30 : decode cX6_bares 30 = .ok (.aload_n 0, 1) := by decide +kernel
theorem dX6_bares_31 : decode cX6_bares 31 = .ok (.iconst 2, 1) := by decide +kernel
theorem dX6_bares_32 : decode cX6_bares 32 = .ok (.iload_n 3, 1) := by decide +kernel
theorem dX6_bares_33 : decode cX6_bares 33 = .ok (.iastore, 1) := by decide +kernel
theorem dX6_bares_34 : decode cX6_bares 34 = .ok (.return_, 1) := by decide +kernel
theorem dX6_in_0 : decode cX6_in 0 = .ok (.iload_n 0, 1) := by decide +kernel
theorem dX6_in_1 : decode cX6_in 1 = .ok (.iload_n 1, 1) := by decide +kernel
theorem dX6_in_2 : decode cX6_in 2 = .ok (.if_icmp .lt 12, 3) := by decide +kernel
theorem dX6_in_5 : decode cX6_in 5 = .ok (.iload_n 0, 1) := by decide +kernel
theorem dX6_in_6 : decode cX6_in 6 = .ok (.iload_n 2, 1) := by decide +kernel
theorem dX6_in_7 : decode cX6_in 7 = .ok (.if_icmp .gt 7, 3) := by decide +kernel
theorem dX6_in_10 : decode cX6_in 10 = .ok (.iconst 1, 1) := by decide +kernel
theorem dX6_in_11 : decode cX6_in 11 = .ok (.goto 4, 3) := by decide +kernel
theorem dX6_in_14 : decode cX6_in 14 = .ok (.iconst 0, 1) := by decide +kernel
theorem dX6_in_15 : decode cX6_in 15 = .ok (.ireturn, 1) := by decide +kernel
theorem dX6_writerAt_0 : decode cX6_writerAt 0 = .ok (.bipush 32, 2) := by decide +kernel
theorem dX6_writerAt_2 : decode cX6_writerAt 2 = .ok (.bipush 42, 2) := by decide +kernel
theorem dX6_writerAt_4 : decode cX6_writerAt 4 = .ok (.iload_n 0, 1) := by decide +kernel
theorem dX6_writerAt_5 : decode cX6_writerAt 5 = .ok (.imul, 1) := by decide +kernel
theorem dX6_writerAt_6 : decode cX6_writerAt 6 = .ok (.iadd, 1) := by decide +kernel
theorem dX6_writerAt_7 : decode cX6_writerAt 7 = .ok (.ireturn, 1) := by decide +kernel
theorem dX6_cellAt_0 : decode cX6_cellAt 0 = .ok (.bipush 8, 2) := by decide +kernel
theorem dX6_cellAt_2 : decode cX6_cellAt 2 = .ok (.bipush 6, 2) := by decide +kernel
theorem dX6_cellAt_4 : decode cX6_cellAt 4 = .ok (.iload_n 0, 1) := by decide +kernel
theorem dX6_cellAt_5 : decode cX6_cellAt 5 = .ok (.imul, 1) := by decide +kernel
theorem dX6_cellAt_6 : decode cX6_cellAt 6 = .ok (.iadd, 1) := by decide +kernel
theorem dX6_cellAt_7 : decode cX6_cellAt 7 = .ok (.ireturn, 1) := by decide +kernel
theorem dX6_idles_0 : decode cX6_idles 0 = .ok (.iconst 0, 1) := by decide +kernel
theorem dX6_idles_1 : decode cX6_idles 1 = .ok (.istore_n 2, 1) := by decide +kernel
theorem dX6_idles_2 : decode cX6_idles 2 = .ok (.iload_n 2, 1) := by decide +kernel
theorem dX6_idles_3 : decode cX6_idles 3 = .ok (.bipush 42, 2) := by decide +kernel
theorem dX6_idles_5 : decode cX6_idles 5 = .ok (.if_icmp .ge 18, 3) := by decide +kernel
theorem dX6_idles_8 : decode cX6_idles 8 = .ok (.aload_n 0, 1) := by decide +kernel
theorem dX6_idles_9 : decode cX6_idles 9 = .ok (.iload_n 1, 1) := by decide +kernel
theorem dX6_idles_10 : decode cX6_idles 10 = .ok (.invokestatic 40, 3) := by decide +kernel
theorem dX6_idles_13 : decode cX6_idles 13 = .ok (.iload_n 2, 1) := by decide +kernel
theorem dX6_idles_14 : decode cX6_idles 14 = .ok (.iadd, 1) := by decide +kernel
theorem dX6_idles_15 : decode cX6_idles 15 = .ok (.iconst 0, 1) := by decide +kernel
theorem dX6_idles_16 : decode cX6_idles 16 = .ok (.iastore, 1) := by decide +kernel
theorem dX6_idles_17 : decode cX6_idles 17 = .ok (.iinc 2 1, 3) := by decide +kernel
theorem dX6_idles_20 : decode cX6_idles 20 = .ok (.goto (-18), 3) := by decide +kernel
theorem dX6_idles_23 : decode cX6_idles 23 = .ok (.return_, 1) := by decide +kernel
theorem dX6_acts_0 : decode cX6_acts 0 = .ok (.iload_n 1, 1) := by decide +kernel
theorem dX6_acts_1 : decode cX6_acts 1 = .ok (.invokestatic 40, 3) := by decide +kernel
theorem dX6_acts_4 : decode cX6_acts 4 = .ok (.istore 4, 2) := by decide +kernel
theorem dX6_acts_6 : decode cX6_acts 6 = .ok (.aload_n 0, 1) := by decide +kernel
theorem dX6_acts_7 : decode cX6_acts 7 = .ok (.iload_n 1, 1) := by decide +kernel
theorem dX6_acts_8 : decode cX6_acts 8 = .ok (.invokestatic 44, 3) := by decide +kernel
theorem dX6_acts_11 : decode cX6_acts 11 = .ok (.aload_n 0, 1) := by decide +kernel
theorem dX6_acts_12 : decode cX6_acts 12 = .ok (.iload 4, 2) := by decide +kernel
theorem dX6_acts_14 : decode cX6_acts 14 = .ok (.iconst 0, 1) := by decide +kernel
theorem dX6_acts_15 : decode cX6_acts 15 = .ok (.iadd, 1) := by decide +kernel
theorem dX6_acts_16 : decode cX6_acts 16 = .ok (.iload_n 2, 1) := by decide +kernel
theorem dX6_acts_17 : decode cX6_acts 17 = .ok (.iastore, 1) := by decide +kernel
theorem dX6_acts_18 : decode cX6_acts 18 = .ok (.aload_n 0, 1) := by decide +kernel
theorem dX6_acts_19 : decode cX6_acts 19 = .ok (.iload 4, 2) := by decide +kernel
theorem dX6_acts_21 : decode cX6_acts 21 = .ok (.iconst 1, 1) := by decide +kernel
theorem dX6_acts_22 : decode cX6_acts 22 = .ok (.iadd, 1) := by decide +kernel
theorem dX6_acts_23 : decode cX6_acts 23 = .ok (.iload_n 3, 1) := by decide +kernel
theorem dX6_acts_24 : decode cX6_acts 24 = .ok (.iastore, 1) := by decide +kernel
theorem dX6_acts_25 : decode cX6_acts 25 = .ok (.aload_n 0, 1) := by decide +kernel
theorem dX6_acts_26 : decode cX6_acts 26 = .ok (.iload 4, 2) := by decide +kernel
theorem dX6_acts_28 : decode cX6_acts 28 = .ok (.iconst 3, 1) := by decide +kernel
theorem dX6_acts_29 : decode cX6_acts 29 = .ok (.iadd, 1) := by decide +kernel
theorem dX6_acts_30 : decode cX6_acts 30 = .ok (.aload_n 0, 1) := by decide +kernel
theorem dX6_acts_31 : decode cX6_acts 31 = .ok (.iconst 3, 1) := by decide +kernel
theorem dX6_acts_32 : decode cX6_acts 32 = .ok (.iaload, 1) := by decide +kernel
theorem dX6_acts_33 : decode cX6_acts 33 = .ok (.iastore, 1) := by decide +kernel
theorem dX6_acts_34 : decode cX6_acts 34 = .ok (.aload_n 0, 1) := by decide +kernel
theorem dX6_acts_35 : decode cX6_acts 35 = .ok (.iconst 4, 1) := by decide +kernel
theorem dX6_acts_36 : decode cX6_acts 36 = .ok (.dup2, 1) := by decide +kernel
theorem dX6_acts_37 : decode cX6_acts 37 = .ok (.iaload, 1) := by decide +kernel
theorem dX6_acts_38 : decode cX6_acts 38 = .ok (.iconst 1, 1) := by decide +kernel
theorem dX6_acts_39 : decode cX6_acts 39 = .ok (.iadd, 1) := by decide +kernel
theorem dX6_acts_40 : decode cX6_acts 40 = .ok (.iastore, 1) := by decide +kernel
theorem dX6_acts_41 : decode cX6_acts 41 = .ok (.return_, 1) := by decide +kernel
theorem dX6_writesNow_0 : decode cX6_writesNow 0 = .ok (.iload_n 1, 1) := by decide +kernel
theorem dX6_writesNow_1 : decode cX6_writesNow 1 = .ok (.invokestatic 40, 3) := by decide +kernel
theorem dX6_writesNow_4 : decode cX6_writesNow 4 = .ok (.istore_n 2, 1) := by decide +kernel
theorem dX6_writesNow_5 : decode cX6_writesNow 5 = .ok (.iload_n 1, 1) := by decide +kernel
theorem dX6_writesNow_6 : decode cX6_writesNow 6 = .ok (.invokestatic 48, 3) := by decide +kernel
theorem dX6_writesNow_9 : decode cX6_writesNow 9 = .ok (.istore_n 3, 1) := by decide +kernel
theorem dX6_writesNow_10 : decode cX6_writesNow 10 = .ok (.aload_n 0, 1) := by decide +kernel
theorem dX6_writesNow_11 : decode cX6_writesNow 11 = .ok (.iload_n 3, 1) := by decide +kernel
theorem dX6_writesNow_12 : decode cX6_writesNow 12 = .ok (.aload_n 0, 1) := by decide +kernel
theorem dX6_writesNow_13 : decode cX6_writesNow 13 = .ok (.iload_n 2, 1) := by decide +kernel
theorem dX6_writesNow_14 : decode cX6_writesNow 14 = .ok (.iconst 1, 1) := by decide +kernel
theorem dX6_writesNow_15 : decode cX6_writesNow 15 = .ok (.iadd, 1) := by decide +kernel
theorem dX6_writesNow_16 : decode cX6_writesNow 16 = .ok (.iaload, 1) := by decide +kernel
theorem dX6_writesNow_17 : decode cX6_writesNow 17 = .ok (.iastore, 1) := by decide +kernel
theorem dX6_writesNow_18 : decode cX6_writesNow 18 = .ok (.aload_n 0, 1) := by decide +kernel
theorem dX6_writesNow_19 : decode cX6_writesNow 19 = .ok (.iload_n 3, 1) := by decide +kernel
theorem dX6_writesNow_20 : decode cX6_writesNow 20 = .ok (.iconst 1, 1) := by decide +kernel
theorem dX6_writesNow_21 : decode cX6_writesNow 21 = .ok (.iadd, 1) := by decide +kernel
theorem dX6_writesNow_22 : decode cX6_writesNow 22 = .ok (.dup2, 1) := by decide +kernel
theorem dX6_writesNow_23 : decode cX6_writesNow 23 = .ok (.iaload, 1) := by decide +kernel
theorem dX6_writesNow_24 : decode cX6_writesNow 24 = .ok (.iconst 1, 1) := by decide +kernel
theorem dX6_writesNow_25 : decode cX6_writesNow 25 = .ok (.iadd, 1) := by decide +kernel
theorem dX6_writesNow_26 : decode cX6_writesNow 26 = .ok (.iastore, 1) := by decide +kernel
theorem dX6_writesNow_27 : decode cX6_writesNow 27 = .ok (.aload_n 0, 1) := by decide +kernel
theorem dX6_writesNow_28 : decode cX6_writesNow 28 = .ok (.iload_n 3, 1) := by decide +kernel
theorem dX6_writesNow_29 : decode cX6_writesNow 29 = .ok (.iconst 1, 1) := by decide +kernel
theorem dX6_writesNow_30 : decode cX6_writesNow 30 = .ok (.iadd, 1) := by decide +kernel
theorem dX6_writesNow_31 : decode cX6_writesNow 31 = .ok (.aload_n 0, 1) := by decide +kernel
theorem dX6_writesNow_32 : decode cX6_writesNow 32 = .ok (.iconst 2, 1) := by decide +kernel
theorem dX6_writesNow_33 : decode cX6_writesNow 33 = .ok (.iaload, 1) := by decide +kernel
theorem dX6_writesNow_34 : decode cX6_writesNow 34 = .ok (.ifCond .ne 11, 3) := by decide +kernel
theorem dX6_writesNow_37 : decode cX6_writesNow 37 = .ok (.aload_n 0, 1) := by decide +kernel
theorem dX6_writesNow_38 : decode cX6_writesNow 38 = .ok (.iload_n 3, 1) := by decide +kernel
theorem dX6_writesNow_39 : decode cX6_writesNow 39 = .ok (.iconst 1, 1) := by decide +kernel
theorem dX6_writesNow_40 : decode cX6_writesNow 40 = .ok (.iadd, 1) := by decide +kernel
theorem dX6_writesNow_41 : decode cX6_writesNow 41 = .ok (.iaload, 1) := by decide +kernel
theorem dX6_writesNow_42 : decode cX6_writesNow 42 = .ok (.goto 12, 3) := by decide +kernel
theorem dX6_writesNow_45 : decode cX6_writesNow 45 = .ok (.aload_n 0, 1) := by decide +kernel
theorem dX6_writesNow_46 : decode cX6_writesNow 46 = .ok (.iload_n 3, 1) := by decide +kernel
theorem dX6_writesNow_47 : decode cX6_writesNow 47 = .ok (.iconst 1, 1) := by decide +kernel
theorem dX6_writesNow_48 : decode cX6_writesNow 48 = .ok (.iadd, 1) := by decide +kernel
theorem dX6_writesNow_49 : decode cX6_writesNow 49 = .ok (.iaload, 1) := by decide +kernel
theorem dX6_writesNow_50 : decode cX6_writesNow 50 = .ok (.aload_n 0, 1) := by decide +kernel
theorem dX6_writesNow_51 : decode cX6_writesNow 51 = .ok (.iconst 2, 1) := by decide +kernel
theorem dX6_writesNow_52 : decode cX6_writesNow 52 = .ok (.iaload, 1) := by decide +kernel
theorem dX6_writesNow_53 : decode cX6_writesNow 53 = .ok (.irem, 1) := by decide +kernel
theorem dX6_writesNow_54 : decode cX6_writesNow 54 = .ok (.iastore, 1) := by decide +kernel
theorem dX6_writesNow_55 : decode cX6_writesNow 55 = .ok (.iconst 0, 1) := by decide +kernel
theorem dX6_writesNow_56 : decode cX6_writesNow 56 = .ok (.istore 4, 2) := by decide +kernel
theorem dX6_writesNow_58 : decode cX6_writesNow 58 = .ok (.iload 4, 2) := by decide +kernel
theorem dX6_writesNow_60 : decode cX6_writesNow 60 = .ok (.iconst 4, 1) := by decide +kernel
theorem dX6_writesNow_61 : decode cX6_writesNow 61 = .ok (.if_icmp .ge 26, 3) := by decide +kernel
theorem dX6_writesNow_64 : decode cX6_writesNow 64 = .ok (.aload_n 0, 1) := by decide +kernel
theorem dX6_writesNow_65 : decode cX6_writesNow 65 = .ok (.iload_n 3, 1) := by decide +kernel
theorem dX6_writesNow_66 : decode cX6_writesNow 66 = .ok (.iconst 2, 1) := by decide +kernel
theorem dX6_writesNow_67 : decode cX6_writesNow 67 = .ok (.iadd, 1) := by decide +kernel
theorem dX6_writesNow_68 : decode cX6_writesNow 68 = .ok (.iload 4, 2) := by decide +kernel
theorem dX6_writesNow_70 : decode cX6_writesNow 70 = .ok (.iadd, 1) := by decide +kernel
theorem dX6_writesNow_71 : decode cX6_writesNow 71 = .ok (.aload_n 0, 1) := by decide +kernel
theorem dX6_writesNow_72 : decode cX6_writesNow 72 = .ok (.iload_n 2, 1) := by decide +kernel
theorem dX6_writesNow_73 : decode cX6_writesNow 73 = .ok (.bipush 38, 2) := by decide +kernel
theorem dX6_writesNow_75 : decode cX6_writesNow 75 = .ok (.iadd, 1) := by decide +kernel
theorem dX6_writesNow_76 : decode cX6_writesNow 76 = .ok (.iload 4, 2) := by decide +kernel
theorem dX6_writesNow_78 : decode cX6_writesNow 78 = .ok (.iadd, 1) := by decide +kernel
theorem dX6_writesNow_79 : decode cX6_writesNow 79 = .ok (.iaload, 1) := by decide +kernel
theorem dX6_writesNow_80 : decode cX6_writesNow 80 = .ok (.iastore, 1) := by decide +kernel
theorem dX6_writesNow_81 : decode cX6_writesNow 81 = .ok (.iinc 4 1, 3) := by decide +kernel
theorem dX6_writesNow_84 : decode cX6_writesNow 84 = .ok (.goto (-26), 3) := by decide +kernel
theorem dX6_writesNow_87 : decode cX6_writesNow 87 = .ok (.aload_n 0, 1) := by decide +kernel
theorem dX6_writesNow_88 : decode cX6_writesNow 88 = .ok (.bipush 6, 2) := by decide +kernel
theorem dX6_writesNow_90 : decode cX6_writesNow 90 = .ok (.iaload, 1) := by decide +kernel
theorem dX6_writesNow_91 : decode cX6_writesNow 91 = .ok (.bipush 24, 2) := by decide +kernel
theorem dX6_writesNow_93 : decode cX6_writesNow 93 = .ok (.if_icmp .ge 48, 3) := by decide +kernel
theorem dX6_writesNow_96 : decode cX6_writesNow 96 = .ok (.sipush 440, 3) := by decide +kernel
theorem dX6_writesNow_99 : decode cX6_writesNow 99 = .ok (.iconst 3, 1) := by decide +kernel
theorem dX6_writesNow_100 : decode cX6_writesNow 100 = .ok (.aload_n 0, 1) := by decide +kernel
theorem dX6_writesNow_101 : decode cX6_writesNow 101 = .ok (.bipush 6, 2) := by decide +kernel
theorem dX6_writesNow_103 : decode cX6_writesNow 103 = .ok (.iaload, 1) := by decide +kernel
theorem dX6_writesNow_104 : decode cX6_writesNow 104 = .ok (.imul, 1) := by decide +kernel
theorem dX6_writesNow_105 : decode cX6_writesNow 105 = .ok (.iadd, 1) := by decide +kernel
theorem dX6_writesNow_106 : decode cX6_writesNow 106 = .ok (.istore 4, 2) := by decide +kernel
theorem dX6_writesNow_108 : decode cX6_writesNow 108 = .ok (.aload_n 0, 1) := by decide +kernel
theorem dX6_writesNow_109 : decode cX6_writesNow 109 = .ok (.iload 4, 2) := by decide +kernel
theorem dX6_writesNow_111 : decode cX6_writesNow 111 = .ok (.aload_n 0, 1) := by decide +kernel
theorem dX6_writesNow_112 : decode cX6_writesNow 112 = .ok (.iconst 3, 1) := by decide +kernel
theorem dX6_writesNow_113 : decode cX6_writesNow 113 = .ok (.iaload, 1) := by decide +kernel
theorem dX6_writesNow_114 : decode cX6_writesNow 114 = .ok (.iastore, 1) := by decide +kernel
theorem dX6_writesNow_115 : decode cX6_writesNow 115 = .ok (.aload_n 0, 1) := by decide +kernel
theorem dX6_writesNow_116 : decode cX6_writesNow 116 = .ok (.iload 4, 2) := by decide +kernel
theorem dX6_writesNow_118 : decode cX6_writesNow 118 = .ok (.iconst 1, 1) := by decide +kernel
theorem dX6_writesNow_119 : decode cX6_writesNow 119 = .ok (.iadd, 1) := by decide +kernel
theorem dX6_writesNow_120 : decode cX6_writesNow 120 = .ok (.iload_n 1, 1) := by decide +kernel
theorem dX6_writesNow_121 : decode cX6_writesNow 121 = .ok (.iastore, 1) := by decide +kernel
theorem dX6_writesNow_122 : decode cX6_writesNow 122 = .ok (.aload_n 0, 1) := by decide +kernel
theorem dX6_writesNow_123 : decode cX6_writesNow 123 = .ok (.iload 4, 2) := by decide +kernel
theorem dX6_writesNow_125 : decode cX6_writesNow 125 = .ok (.iconst 2, 1) := by decide +kernel
theorem dX6_writesNow_126 : decode cX6_writesNow 126 = .ok (.iadd, 1) := by decide +kernel
theorem dX6_writesNow_127 : decode cX6_writesNow 127 = .ok (.aload_n 0, 1) := by decide +kernel
theorem dX6_writesNow_128 : decode cX6_writesNow 128 = .ok (.iload_n 2, 1) := by decide +kernel
theorem dX6_writesNow_129 : decode cX6_writesNow 129 = .ok (.iconst 1, 1) := by decide +kernel
theorem dX6_writesNow_130 : decode cX6_writesNow 130 = .ok (.iadd, 1) := by decide +kernel
theorem dX6_writesNow_131 : decode cX6_writesNow 131 = .ok (.iaload, 1) := by decide +kernel
theorem dX6_writesNow_132 : decode cX6_writesNow 132 = .ok (.iastore, 1) := by decide +kernel
theorem dX6_writesNow_133 : decode cX6_writesNow 133 = .ok (.aload_n 0, 1) := by decide +kernel
theorem dX6_writesNow_134 : decode cX6_writesNow 134 = .ok (.bipush 6, 2) := by decide +kernel
theorem dX6_writesNow_136 : decode cX6_writesNow 136 = .ok (.dup2, 1) := by decide +kernel
theorem dX6_writesNow_137 : decode cX6_writesNow 137 = .ok (.iaload, 1) := by decide +kernel
theorem dX6_writesNow_138 : decode cX6_writesNow 138 = .ok (.iconst 1, 1) := by decide +kernel
theorem dX6_writesNow_139 : decode cX6_writesNow 139 = .ok (.iadd, 1) := by decide +kernel
theorem dX6_writesNow_140 : decode cX6_writesNow 140 = .ok (.iastore, 1) := by decide +kernel
theorem dX6_writesNow_141 : decode cX6_writesNow 141 = .ok (.aload_n 0, 1) := by decide +kernel
theorem dX6_writesNow_142 : decode cX6_writesNow 142 = .ok (.iload_n 1, 1) := by decide +kernel
theorem dX6_writesNow_143 : decode cX6_writesNow 143 = .ok (.invokestatic 44, 3) := by decide +kernel
theorem dX6_writesNow_146 : decode cX6_writesNow 146 = .ok (.return_, 1) := by decide +kernel
theorem dX6_takes_0 : decode cX6_takes 0 = .ok (.iload_n 1, 1) := by decide +kernel
theorem dX6_takes_1 : decode cX6_takes 1 = .ok (.invokestatic 40, 3) := by decide +kernel
theorem dX6_takes_4 : decode cX6_takes 4 = .ok (.istore_n 3, 1) := by decide +kernel
theorem dX6_takes_5 : decode cX6_takes 5 = .ok (.iconst 0, 1) := by decide +kernel
theorem dX6_takes_6 : decode cX6_takes 6 = .ok (.istore 4, 2) := by decide +kernel
theorem dX6_takes_8 : decode cX6_takes 8 = .ok (.iload 4, 2) := by decide +kernel
theorem dX6_takes_10 : decode cX6_takes 10 = .ok (.aload_n 0, 1) := by decide +kernel
theorem dX6_takes_11 : decode cX6_takes 11 = .ok (.iconst 0, 1) := by decide +kernel
theorem dX6_takes_12 : decode cX6_takes 12 = .ok (.iaload, 1) := by decide +kernel
theorem dX6_takes_13 : decode cX6_takes 13 = .ok (.if_icmp .ge 55, 3) := by decide +kernel
theorem dX6_takes_16 : decode cX6_takes 16 = .ok (.aload_n 0, 1) := by decide +kernel
theorem dX6_takes_17 : decode cX6_takes 17 = .ok (.iload_n 3, 1) := by decide +kernel
theorem dX6_takes_18 : decode cX6_takes 18 = .ok (.bipush 38, 2) := by decide +kernel
theorem dX6_takes_20 : decode cX6_takes 20 = .ok (.iadd, 1) := by decide +kernel
theorem dX6_takes_21 : decode cX6_takes 21 = .ok (.iload 4, 2) := by decide +kernel
theorem dX6_takes_23 : decode cX6_takes 23 = .ok (.iadd, 1) := by decide +kernel
theorem dX6_takes_24 : decode cX6_takes 24 = .ok (.iload_n 2, 1) := by decide +kernel
theorem dX6_takes_25 : decode cX6_takes 25 = .ok (.bipush (-9), 2) := by decide +kernel
theorem dX6_takes_27 : decode cX6_takes 27 = .ok (.if_icmp .ne 18, 3) := by decide +kernel
theorem dX6_takes_30 : decode cX6_takes 30 = .ok (.aload_n 0, 1) := by decide +kernel
theorem dX6_takes_31 : decode cX6_takes 31 = .ok (.iload_n 3, 1) := by decide +kernel
theorem dX6_takes_32 : decode cX6_takes 32 = .ok (.bipush 14, 2) := by decide +kernel
theorem dX6_takes_34 : decode cX6_takes 34 = .ok (.iadd, 1) := by decide +kernel
theorem dX6_takes_35 : decode cX6_takes 35 = .ok (.bipush 6, 2) := by decide +kernel
theorem dX6_takes_37 : decode cX6_takes 37 = .ok (.iload 4, 2) := by decide +kernel
theorem dX6_takes_39 : decode cX6_takes 39 = .ok (.imul, 1) := by decide +kernel
theorem dX6_takes_40 : decode cX6_takes 40 = .ok (.iadd, 1) := by decide +kernel
theorem dX6_takes_41 : decode cX6_takes 41 = .ok (.iaload, 1) := by decide +kernel
theorem dX6_takes_42 : decode cX6_takes 42 = .ok (.goto 19, 3) := by decide +kernel
theorem dX6_takes_45 : decode cX6_takes 45 = .ok (.aload_n 0, 1) := by decide +kernel
theorem dX6_takes_46 : decode cX6_takes 46 = .ok (.iload_n 3, 1) := by decide +kernel
theorem dX6_takes_47 : decode cX6_takes 47 = .ok (.bipush 14, 2) := by decide +kernel
theorem dX6_takes_49 : decode cX6_takes 49 = .ok (.iadd, 1) := by decide +kernel
theorem dX6_takes_50 : decode cX6_takes 50 = .ok (.bipush 6, 2) := by decide +kernel
theorem dX6_takes_52 : decode cX6_takes 52 = .ok (.iload_n 2, 1) := by decide +kernel
theorem dX6_takes_53 : decode cX6_takes 53 = .ok (.imul, 1) := by decide +kernel
theorem dX6_takes_54 : decode cX6_takes 54 = .ok (.iadd, 1) := by decide +kernel
theorem dX6_takes_55 : decode cX6_takes 55 = .ok (.iconst 2, 1) := by decide +kernel
theorem dX6_takes_56 : decode cX6_takes 56 = .ok (.iadd, 1) := by decide +kernel
theorem dX6_takes_57 : decode cX6_takes 57 = .ok (.iload 4, 2) := by decide +kernel
theorem dX6_takes_59 : decode cX6_takes 59 = .ok (.iadd, 1) := by decide +kernel
theorem dX6_takes_60 : decode cX6_takes 60 = .ok (.iaload, 1) := by decide +kernel
theorem dX6_takes_61 : decode cX6_takes 61 = .ok (.iastore, 1) := by decide +kernel
theorem dX6_takes_62 : decode cX6_takes 62 = .ok (.iinc 4 1, 3) := by decide +kernel
theorem dX6_takes_65 : decode cX6_takes 65 = .ok (.goto (-57), 3) := by decide +kernel
theorem dX6_takes_68 : decode cX6_takes 68 = .ok (.aload_n 0, 1) := by decide +kernel
theorem dX6_takes_69 : decode cX6_takes 69 = .ok (.iconst 5, 1) := by decide +kernel
theorem dX6_takes_70 : decode cX6_takes 70 = .ok (.iaload, 1) := by decide +kernel
theorem dX6_takes_71 : decode cX6_takes 71 = .ok (.bipush 24, 2) := by decide +kernel
theorem dX6_takes_73 : decode cX6_takes 73 = .ok (.if_icmp .ge 119, 3) := by decide +kernel
theorem dX6_takes_76 : decode cX6_takes 76 = .ok (.sipush 200, 3) := by decide +kernel
theorem dX6_takes_79 : decode cX6_takes 79 = .ok (.bipush 10, 2) := by decide +kernel
theorem dX6_takes_81 : decode cX6_takes 81 = .ok (.aload_n 0, 1) := by decide +kernel
theorem dX6_takes_82 : decode cX6_takes 82 = .ok (.iconst 5, 1) := by decide +kernel
theorem dX6_takes_83 : decode cX6_takes 83 = .ok (.iaload, 1) := by decide +kernel
theorem dX6_takes_84 : decode cX6_takes 84 = .ok (.imul, 1) := by decide +kernel
theorem dX6_takes_85 : decode cX6_takes 85 = .ok (.iadd, 1) := by decide +kernel
theorem dX6_takes_86 : decode cX6_takes 86 = .ok (.istore 4, 2) := by decide +kernel
theorem dX6_takes_88 : decode cX6_takes 88 = .ok (.aload_n 0, 1) := by decide +kernel
theorem dX6_takes_89 : decode cX6_takes 89 = .ok (.iload 4, 2) := by decide +kernel
theorem dX6_takes_91 : decode cX6_takes 91 = .ok (.iload_n 1, 1) := by decide +kernel
theorem dX6_takes_92 : decode cX6_takes 92 = .ok (.iastore, 1) := by decide +kernel
theorem dX6_takes_93 : decode cX6_takes 93 = .ok (.aload_n 0, 1) := by decide +kernel
theorem dX6_takes_94 : decode cX6_takes 94 = .ok (.iload 4, 2) := by decide +kernel
theorem dX6_takes_96 : decode cX6_takes 96 = .ok (.iconst 1, 1) := by decide +kernel
theorem dX6_takes_97 : decode cX6_takes 97 = .ok (.iadd, 1) := by decide +kernel
theorem dX6_takes_98 : decode cX6_takes 98 = .ok (.aload_n 0, 1) := by decide +kernel
theorem dX6_takes_99 : decode cX6_takes 99 = .ok (.iload_n 3, 1) := by decide +kernel
theorem dX6_takes_100 : decode cX6_takes 100 = .ok (.iconst 3, 1) := by decide +kernel
theorem dX6_takes_101 : decode cX6_takes 101 = .ok (.iadd, 1) := by decide +kernel
theorem dX6_takes_102 : decode cX6_takes 102 = .ok (.iaload, 1) := by decide +kernel
theorem dX6_takes_103 : decode cX6_takes 103 = .ok (.iastore, 1) := by decide +kernel
theorem dX6_takes_104 : decode cX6_takes 104 = .ok (.aload_n 0, 1) := by decide +kernel
theorem dX6_takes_105 : decode cX6_takes 105 = .ok (.iload 4, 2) := by decide +kernel
theorem dX6_takes_107 : decode cX6_takes 107 = .ok (.iconst 2, 1) := by decide +kernel
theorem dX6_takes_108 : decode cX6_takes 108 = .ok (.iadd, 1) := by decide +kernel
theorem dX6_takes_109 : decode cX6_takes 109 = .ok (.aload_n 0, 1) := by decide +kernel
theorem dX6_takes_110 : decode cX6_takes 110 = .ok (.iconst 3, 1) := by decide +kernel
theorem dX6_takes_111 : decode cX6_takes 111 = .ok (.iaload, 1) := by decide +kernel
theorem dX6_takes_112 : decode cX6_takes 112 = .ok (.iastore, 1) := by decide +kernel
theorem dX6_takes_113 : decode cX6_takes 113 = .ok (.aload_n 0, 1) := by decide +kernel
theorem dX6_takes_114 : decode cX6_takes 114 = .ok (.iload 4, 2) := by decide +kernel
theorem dX6_takes_116 : decode cX6_takes 116 = .ok (.iconst 3, 1) := by decide +kernel
theorem dX6_takes_117 : decode cX6_takes 117 = .ok (.iadd, 1) := by decide +kernel
theorem dX6_takes_118 : decode cX6_takes 118 = .ok (.aload_n 0, 1) := by decide +kernel
theorem dX6_takes_119 : decode cX6_takes 119 = .ok (.iload_n 3, 1) := by decide +kernel
theorem dX6_takes_120 : decode cX6_takes 120 = .ok (.iconst 2, 1) := by decide +kernel
theorem dX6_takes_121 : decode cX6_takes 121 = .ok (.iadd, 1) := by decide +kernel
theorem dX6_takes_122 : decode cX6_takes 122 = .ok (.iaload, 1) := by decide +kernel
theorem dX6_takes_123 : decode cX6_takes 123 = .ok (.iastore, 1) := by decide +kernel
theorem dX6_takes_124 : decode cX6_takes 124 = .ok (.aload_n 0, 1) := by decide +kernel
theorem dX6_takes_125 : decode cX6_takes 125 = .ok (.iload 4, 2) := by decide +kernel
theorem dX6_takes_127 : decode cX6_takes 127 = .ok (.iconst 4, 1) := by decide +kernel
theorem dX6_takes_128 : decode cX6_takes 128 = .ok (.iadd, 1) := by decide +kernel
theorem dX6_takes_129 : decode cX6_takes 129 = .ok (.iload_n 2, 1) := by decide +kernel
theorem dX6_takes_130 : decode cX6_takes 130 = .ok (.iastore, 1) := by decide +kernel
theorem dX6_takes_131 : decode cX6_takes 131 = .ok (.aload_n 0, 1) := by decide +kernel
theorem dX6_takes_132 : decode cX6_takes 132 = .ok (.iload 4, 2) := by decide +kernel
theorem dX6_takes_134 : decode cX6_takes 134 = .ok (.iconst 5, 1) := by decide +kernel
theorem dX6_takes_135 : decode cX6_takes 135 = .ok (.iadd, 1) := by decide +kernel
theorem dX6_takes_136 : decode cX6_takes 136 = .ok (.aload_n 0, 1) := by decide +kernel
theorem dX6_takes_137 : decode cX6_takes 137 = .ok (.iload_n 3, 1) := by decide +kernel
theorem dX6_takes_138 : decode cX6_takes 138 = .ok (.iconst 0, 1) := by decide +kernel
theorem dX6_takes_139 : decode cX6_takes 139 = .ok (.iadd, 1) := by decide +kernel
theorem dX6_takes_140 : decode cX6_takes 140 = .ok (.iaload, 1) := by decide +kernel
theorem dX6_takes_141 : decode cX6_takes 141 = .ok (.iconst 2, 1) := by decide +kernel
theorem dX6_takes_142 : decode cX6_takes 142 = .ok (.if_icmp .ne 7, 3) := by decide +kernel
theorem dX6_takes_145 : decode cX6_takes 145 = .ok (.iconst 1, 1) := by decide +kernel
theorem dX6_takes_146 : decode cX6_takes 146 = .ok (.goto 4, 3) := by decide +kernel
theorem dX6_takes_149 : decode cX6_takes 149 = .ok (.iconst 0, 1) := by decide +kernel
theorem dX6_takes_150 : decode cX6_takes 150 = .ok (.iastore, 1) := by decide +kernel
theorem dX6_takes_151 : decode cX6_takes 151 = .ok (.iconst 0, 1) := by decide +kernel
theorem dX6_takes_152 : decode cX6_takes 152 = .ok (.istore 5, 2) := by decide +kernel
theorem dX6_takes_154 : decode cX6_takes 154 = .ok (.iload 5, 2) := by decide +kernel
theorem dX6_takes_156 : decode cX6_takes 156 = .ok (.iconst 4, 1) := by decide +kernel
theorem dX6_takes_157 : decode cX6_takes 157 = .ok (.if_icmp .ge 28, 3) := by decide +kernel
theorem dX6_takes_160 : decode cX6_takes 160 = .ok (.aload_n 0, 1) := by decide +kernel
theorem dX6_takes_161 : decode cX6_takes 161 = .ok (.iload 4, 2) := by decide +kernel
theorem dX6_takes_163 : decode cX6_takes 163 = .ok (.bipush 6, 2) := by decide +kernel
theorem dX6_takes_165 : decode cX6_takes 165 = .ok (.iadd, 1) := by decide +kernel
theorem dX6_takes_166 : decode cX6_takes 166 = .ok (.iload 5, 2) := by decide +kernel
theorem dX6_takes_168 : decode cX6_takes 168 = .ok (.iadd, 1) := by decide +kernel
theorem dX6_takes_169 : decode cX6_takes 169 = .ok (.aload_n 0, 1) := by decide +kernel
theorem dX6_takes_170 : decode cX6_takes 170 = .ok (.iload_n 3, 1) := by decide +kernel
theorem dX6_takes_171 : decode cX6_takes 171 = .ok (.bipush 38, 2) := by decide +kernel
theorem dX6_takes_173 : decode cX6_takes 173 = .ok (.iadd, 1) := by decide +kernel
theorem dX6_takes_174 : decode cX6_takes 174 = .ok (.iload 5, 2) := by decide +kernel
theorem dX6_takes_176 : decode cX6_takes 176 = .ok (.iadd, 1) := by decide +kernel
theorem dX6_takes_177 : decode cX6_takes 177 = .ok (.iaload, 1) := by decide +kernel
theorem dX6_takes_178 : decode cX6_takes 178 = .ok (.iastore, 1) := by decide +kernel
theorem dX6_takes_179 : decode cX6_takes 179 = .ok (.iinc 5 1, 3) := by decide +kernel
theorem dX6_takes_182 : decode cX6_takes 182 = .ok (.goto (-28), 3) := by decide +kernel
theorem dX6_takes_185 : decode cX6_takes 185 = .ok (.aload_n 0, 1) := by decide +kernel
theorem dX6_takes_186 : decode cX6_takes 186 = .ok (.iconst 5, 1) := by decide +kernel
theorem dX6_takes_187 : decode cX6_takes 187 = .ok (.dup2, 1) := by decide +kernel
theorem dX6_takes_188 : decode cX6_takes 188 = .ok (.iaload, 1) := by decide +kernel
theorem dX6_takes_189 : decode cX6_takes 189 = .ok (.iconst 1, 1) := by decide +kernel
theorem dX6_takes_190 : decode cX6_takes 190 = .ok (.iadd, 1) := by decide +kernel
theorem dX6_takes_191 : decode cX6_takes 191 = .ok (.iastore, 1) := by decide +kernel
theorem dX6_takes_192 : decode cX6_takes 192 = .ok (.aload_n 0, 1) := by decide +kernel
theorem dX6_takes_193 : decode cX6_takes 193 = .ok (.iload_n 3, 1) := by decide +kernel
theorem dX6_takes_194 : decode cX6_takes 194 = .ok (.iconst 5, 1) := by decide +kernel
theorem dX6_takes_195 : decode cX6_takes 195 = .ok (.iadd, 1) := by decide +kernel
theorem dX6_takes_196 : decode cX6_takes 196 = .ok (.iconst 1, 1) := by decide +kernel
theorem dX6_takes_197 : decode cX6_takes 197 = .ok (.iastore, 1) := by decide +kernel
theorem dX6_takes_198 : decode cX6_takes 198 = .ok (.return_, 1) := by decide +kernel
theorem dX6_counts_0 : decode cX6_counts 0 = .ok (.iload_n 1, 1) := by decide +kernel
theorem dX6_counts_1 : decode cX6_counts 1 = .ok (.invokestatic 40, 3) := by decide +kernel
theorem dX6_counts_4 : decode cX6_counts 4 = .ok (.istore_n 2, 1) := by decide +kernel
theorem dX6_counts_5 : decode cX6_counts 5 = .ok (.iconst 0, 1) := by decide +kernel
theorem dX6_counts_6 : decode cX6_counts 6 = .ok (.istore_n 3, 1) := by decide +kernel
theorem dX6_counts_7 : decode cX6_counts 7 = .ok (.iconst 0, 1) := by decide +kernel
theorem dX6_counts_8 : decode cX6_counts 8 = .ok (.istore 4, 2) := by decide +kernel
theorem dX6_counts_10 : decode cX6_counts 10 = .ok (.iload 4, 2) := by decide +kernel
theorem dX6_counts_12 : decode cX6_counts 12 = .ok (.aload_n 0, 1) := by decide +kernel
theorem dX6_counts_13 : decode cX6_counts 13 = .ok (.iconst 0, 1) := by decide +kernel
theorem dX6_counts_14 : decode cX6_counts 14 = .ok (.iaload, 1) := by decide +kernel
theorem dX6_counts_15 : decode cX6_counts 15 = .ok (.if_icmp .ge 74, 3) := by decide +kernel
theorem dX6_counts_18 : decode cX6_counts 18 = .ok (.aload_n 0, 1) := by decide +kernel
theorem dX6_counts_19 : decode cX6_counts 19 = .ok (.iload_n 2, 1) := by decide +kernel
theorem dX6_counts_20 : decode cX6_counts 20 = .ok (.bipush 14, 2) := by decide +kernel
theorem dX6_counts_22 : decode cX6_counts 22 = .ok (.iadd, 1) := by decide +kernel
theorem dX6_counts_23 : decode cX6_counts 23 = .ok (.bipush 6, 2) := by decide +kernel
theorem dX6_counts_25 : decode cX6_counts 25 = .ok (.iload 4, 2) := by decide +kernel
theorem dX6_counts_27 : decode cX6_counts 27 = .ok (.imul, 1) := by decide +kernel
theorem dX6_counts_28 : decode cX6_counts 28 = .ok (.iadd, 1) := by decide +kernel
theorem dX6_counts_29 : decode cX6_counts 29 = .ok (.iconst 1, 1) := by decide +kernel
theorem dX6_counts_30 : decode cX6_counts 30 = .ok (.iadd, 1) := by decide +kernel
theorem dX6_counts_31 : decode cX6_counts 31 = .ok (.iaload, 1) := by decide +kernel
theorem dX6_counts_32 : decode cX6_counts 32 = .ok (.istore 5, 2) := by decide +kernel
theorem dX6_counts_34 : decode cX6_counts 34 = .ok (.aload_n 0, 1) := by decide +kernel
theorem dX6_counts_35 : decode cX6_counts 35 = .ok (.iload_n 2, 1) := by decide +kernel
theorem dX6_counts_36 : decode cX6_counts 36 = .ok (.iconst 4, 1) := by decide +kernel
theorem dX6_counts_37 : decode cX6_counts 37 = .ok (.iadd, 1) := by decide +kernel
theorem dX6_counts_38 : decode cX6_counts 38 = .ok (.iaload, 1) := by decide +kernel
theorem dX6_counts_39 : decode cX6_counts 39 = .ok (.iconst 1, 1) := by decide +kernel
theorem dX6_counts_40 : decode cX6_counts 40 = .ok (.if_icmp .le 32, 3) := by decide +kernel
theorem dX6_counts_43 : decode cX6_counts 43 = .ok (.iload 5, 2) := by decide +kernel
theorem dX6_counts_45 : decode cX6_counts 45 = .ok (.aload_n 0, 1) := by decide +kernel
theorem dX6_counts_46 : decode cX6_counts 46 = .ok (.iload_n 2, 1) := by decide +kernel
theorem dX6_counts_47 : decode cX6_counts 47 = .ok (.bipush 10, 2) := by decide +kernel
theorem dX6_counts_49 : decode cX6_counts 49 = .ok (.iadd, 1) := by decide +kernel
theorem dX6_counts_50 : decode cX6_counts 50 = .ok (.iload 4, 2) := by decide +kernel
theorem dX6_counts_52 : decode cX6_counts 52 = .ok (.iadd, 1) := by decide +kernel
theorem dX6_counts_53 : decode cX6_counts 53 = .ok (.iaload, 1) := by decide +kernel
theorem dX6_counts_54 : decode cX6_counts 54 = .ok (.if_icmp .eq 18, 3) := by decide +kernel
theorem dX6_counts_57 : decode cX6_counts 57 = .ok (.aload_n 0, 1) := by decide +kernel
theorem dX6_counts_58 : decode cX6_counts 58 = .ok (.iload_n 2, 1) := by decide +kernel
theorem dX6_counts_59 : decode cX6_counts 59 = .ok (.bipush 6, 2) := by decide +kernel
theorem dX6_counts_61 : decode cX6_counts 61 = .ok (.iadd, 1) := by decide +kernel
theorem dX6_counts_62 : decode cX6_counts 62 = .ok (.iload 4, 2) := by decide +kernel
theorem dX6_counts_64 : decode cX6_counts 64 = .ok (.iadd, 1) := by decide +kernel
theorem dX6_counts_65 : decode cX6_counts 65 = .ok (.dup2, 1) := by decide +kernel
theorem dX6_counts_66 : decode cX6_counts 66 = .ok (.iaload, 1) := by decide +kernel
theorem dX6_counts_67 : decode cX6_counts 67 = .ok (.iconst 1, 1) := by decide +kernel
theorem dX6_counts_68 : decode cX6_counts 68 = .ok (.iadd, 1) := by decide +kernel
theorem dX6_counts_69 : decode cX6_counts 69 = .ok (.iastore, 1) := by decide +kernel
theorem dX6_counts_70 : decode cX6_counts 70 = .ok (.iconst 1, 1) := by decide +kernel
theorem dX6_counts_71 : decode cX6_counts 71 = .ok (.istore_n 3, 1) := by decide +kernel
theorem dX6_counts_72 : decode cX6_counts 72 = .ok (.aload_n 0, 1) := by decide +kernel
theorem dX6_counts_73 : decode cX6_counts 73 = .ok (.iload_n 2, 1) := by decide +kernel
theorem dX6_counts_74 : decode cX6_counts 74 = .ok (.bipush 10, 2) := by decide +kernel
theorem dX6_counts_76 : decode cX6_counts 76 = .ok (.iadd, 1) := by decide +kernel
theorem dX6_counts_77 : decode cX6_counts 77 = .ok (.iload 4, 2) := by decide +kernel
theorem dX6_counts_79 : decode cX6_counts 79 = .ok (.iadd, 1) := by decide +kernel
theorem dX6_counts_80 : decode cX6_counts 80 = .ok (.iload 5, 2) := by decide +kernel
theorem dX6_counts_82 : decode cX6_counts 82 = .ok (.iastore, 1) := by decide +kernel
theorem dX6_counts_83 : decode cX6_counts 83 = .ok (.iinc 4 1, 3) := by decide +kernel
theorem dX6_counts_86 : decode cX6_counts 86 = .ok (.goto (-76), 3) := by decide +kernel
theorem dX6_counts_89 : decode cX6_counts 89 = .ok (.iload_n 3, 1) := by decide +kernel
theorem dX6_counts_90 : decode cX6_counts 90 = .ok (.ireturn, 1) := by decide +kernel
theorem dX6_lender_0 : decode cX6_lender 0 = .ok (.bipush (-9), 2) := by decide +kernel
theorem dX6_lender_2 : decode cX6_lender 2 = .ok (.istore_n 2, 1) := by decide +kernel
theorem dX6_lender_3 : decode cX6_lender 3 = .ok (.aload_n 0, 1) := by decide +kernel
theorem dX6_lender_4 : decode cX6_lender 4 = .ok (.iconst 0, 1) := by decide +kernel
theorem dX6_lender_5 : decode cX6_lender 5 = .ok (.iaload, 1) := by decide +kernel
theorem dX6_lender_6 : decode cX6_lender 6 = .ok (.iconst 1, 1) := by decide +kernel
theorem dX6_lender_7 : decode cX6_lender 7 = .ok (.isub, 1) := by decide +kernel
theorem dX6_lender_8 : decode cX6_lender 8 = .ok (.istore_n 3, 1) := by decide +kernel
theorem dX6_lender_9 : decode cX6_lender 9 = .ok (.iload_n 3, 1) := by decide +kernel
theorem dX6_lender_10 : decode cX6_lender 10 = .ok (.ifCond .lt 32, 3) := by decide +kernel
theorem dX6_lender_13 : decode cX6_lender 13 = .ok (.aload_n 0, 1) := by decide +kernel
theorem dX6_lender_14 : decode cX6_lender 14 = .ok (.iload_n 1, 1) := by decide +kernel
theorem dX6_lender_15 : decode cX6_lender 15 = .ok (.invokestatic 40, 3) := by decide +kernel
theorem dX6_lender_18 : decode cX6_lender 18 = .ok (.bipush 6, 2) := by decide +kernel
theorem dX6_lender_20 : decode cX6_lender 20 = .ok (.iadd, 1) := by decide +kernel
theorem dX6_lender_21 : decode cX6_lender 21 = .ok (.iload_n 3, 1) := by decide +kernel
theorem dX6_lender_22 : decode cX6_lender 22 = .ok (.iadd, 1) := by decide +kernel
theorem dX6_lender_23 : decode cX6_lender 23 = .ok (.iaload, 1) := by decide +kernel
theorem dX6_lender_24 : decode cX6_lender 24 = .ok (.aload_n 0, 1) := by decide +kernel
theorem dX6_lender_25 : decode cX6_lender 25 = .ok (.iconst 1, 1) := by decide +kernel
theorem dX6_lender_26 : decode cX6_lender 26 = .ok (.iaload, 1) := by decide +kernel
theorem dX6_lender_27 : decode cX6_lender 27 = .ok (.if_icmp .lt 7, 3) := by decide +kernel
theorem dX6_lender_30 : decode cX6_lender 30 = .ok (.iload_n 3, 1) := by decide +kernel
theorem dX6_lender_31 : decode cX6_lender 31 = .ok (.goto 4, 3) := by decide +kernel
theorem dX6_lender_34 : decode cX6_lender 34 = .ok (.iload_n 2, 1) := by decide +kernel
theorem dX6_lender_35 : decode cX6_lender 35 = .ok (.istore_n 2, 1) := by decide +kernel
theorem dX6_lender_36 : decode cX6_lender 36 = .ok (.iinc 3 (-1), 3) := by decide +kernel
theorem dX6_lender_39 : decode cX6_lender 39 = .ok (.goto (-30), 3) := by decide +kernel
theorem dX6_lender_42 : decode cX6_lender 42 = .ok (.iload_n 2, 1) := by decide +kernel
theorem dX6_lender_43 : decode cX6_lender 43 = .ok (.ireturn, 1) := by decide +kernel
theorem dX6_step_0 : decode cX6_step 0 = .ok (.iload_n 1, 1) := by decide +kernel
theorem dX6_step_1 : decode cX6_step 1 = .ok (.invokestatic 40, 3) := by decide +kernel
theorem dX6_step_4 : decode cX6_step 4 = .ok (.istore_n 2, 1) := by decide +kernel
theorem dX6_step_5 : decode cX6_step 5 = .ok (.aload_n 0, 1) := by decide +kernel
theorem dX6_step_6 : decode cX6_step 6 = .ok (.iconst 3, 1) := by decide +kernel
theorem dX6_step_7 : decode cX6_step 7 = .ok (.dup2, 1) := by decide +kernel
theorem dX6_step_8 : decode cX6_step 8 = .ok (.iaload, 1) := by decide +kernel
theorem dX6_step_9 : decode cX6_step 9 = .ok (.iconst 1, 1) := by decide +kernel
theorem dX6_step_10 : decode cX6_step 10 = .ok (.iadd, 1) := by decide +kernel
theorem dX6_step_11 : decode cX6_step 11 = .ok (.iastore, 1) := by decide +kernel
theorem dX6_step_12 : decode cX6_step 12 = .ok (.aload_n 0, 1) := by decide +kernel
theorem dX6_step_13 : decode cX6_step 13 = .ok (.iload_n 2, 1) := by decide +kernel
theorem dX6_step_14 : decode cX6_step 14 = .ok (.iconst 2, 1) := by decide +kernel
theorem dX6_step_15 : decode cX6_step 15 = .ok (.iadd, 1) := by decide +kernel
theorem dX6_step_16 : decode cX6_step 16 = .ok (.dup2, 1) := by decide +kernel
theorem dX6_step_17 : decode cX6_step 17 = .ok (.iaload, 1) := by decide +kernel
theorem dX6_step_18 : decode cX6_step 18 = .ok (.iconst 1, 1) := by decide +kernel
theorem dX6_step_19 : decode cX6_step 19 = .ok (.iadd, 1) := by decide +kernel
theorem dX6_step_20 : decode cX6_step 20 = .ok (.iastore, 1) := by decide +kernel
theorem dX6_step_21 : decode cX6_step 21 = .ok (.aload_n 0, 1) := by decide +kernel
theorem dX6_step_22 : decode cX6_step 22 = .ok (.iload_n 2, 1) := by decide +kernel
theorem dX6_step_23 : decode cX6_step 23 = .ok (.iconst 5, 1) := by decide +kernel
theorem dX6_step_24 : decode cX6_step 24 = .ok (.iadd, 1) := by decide +kernel
theorem dX6_step_25 : decode cX6_step 25 = .ok (.iaload, 1) := by decide +kernel
theorem dX6_step_26 : decode cX6_step 26 = .ok (.iconst 1, 1) := by decide +kernel
theorem dX6_step_27 : decode cX6_step 27 = .ok (.if_icmp .ne 9, 3) := by decide +kernel
theorem dX6_step_30 : decode cX6_step 30 = .ok (.aload_n 0, 1) := by decide +kernel
theorem dX6_step_31 : decode cX6_step 31 = .ok (.iload_n 1, 1) := by decide +kernel
theorem dX6_step_32 : decode cX6_step 32 = .ok (.invokestatic 51, 3) := by decide +kernel
theorem dX6_step_35 : decode cX6_step 35 = .ok (.return_, 1) := by decide +kernel
theorem dX6_step_36 : decode cX6_step 36 = .ok (.aload_n 0, 1) := by decide +kernel
theorem dX6_step_37 : decode cX6_step 37 = .ok (.iload_n 2, 1) := by decide +kernel
theorem dX6_step_38 : decode cX6_step 38 = .ok (.iconst 2, 1) := by decide +kernel
theorem dX6_step_39 : decode cX6_step 39 = .ok (.iadd, 1) := by decide +kernel
theorem dX6_step_40 : decode cX6_step 40 = .ok (.iaload, 1) := by decide +kernel
theorem dX6_step_41 : decode cX6_step 41 = .ok (.iconst 1, 1) := by decide +kernel
theorem dX6_step_42 : decode cX6_step 42 = .ok (.isub, 1) := by decide +kernel
theorem dX6_step_43 : decode cX6_step 43 = .ok (.aload_n 0, 1) := by decide +kernel
theorem dX6_step_44 : decode cX6_step 44 = .ok (.iconst 0, 1) := by decide +kernel
theorem dX6_step_45 : decode cX6_step 45 = .ok (.iaload, 1) := by decide +kernel
theorem dX6_step_46 : decode cX6_step 46 = .ok (.irem, 1) := by decide +kernel
theorem dX6_step_47 : decode cX6_step 47 = .ok (.istore_n 3, 1) := by decide +kernel
theorem dX6_step_48 : decode cX6_step 48 = .ok (.iconst 0, 1) := by decide +kernel
theorem dX6_step_49 : decode cX6_step 49 = .ok (.istore 4, 2) := by decide +kernel
theorem dX6_step_51 : decode cX6_step 51 = .ok (.iload 4, 2) := by decide +kernel
theorem dX6_step_53 : decode cX6_step 53 = .ok (.bipush 6, 2) := by decide +kernel
theorem dX6_step_55 : decode cX6_step 55 = .ok (.if_icmp .ge 32, 3) := by decide +kernel
theorem dX6_step_58 : decode cX6_step 58 = .ok (.aload_n 0, 1) := by decide +kernel
theorem dX6_step_59 : decode cX6_step 59 = .ok (.iload_n 2, 1) := by decide +kernel
theorem dX6_step_60 : decode cX6_step 60 = .ok (.bipush 14, 2) := by decide +kernel
theorem dX6_step_62 : decode cX6_step 62 = .ok (.iadd, 1) := by decide +kernel
theorem dX6_step_63 : decode cX6_step 63 = .ok (.bipush 6, 2) := by decide +kernel
theorem dX6_step_65 : decode cX6_step 65 = .ok (.iload_n 3, 1) := by decide +kernel
theorem dX6_step_66 : decode cX6_step 66 = .ok (.imul, 1) := by decide +kernel
theorem dX6_step_67 : decode cX6_step 67 = .ok (.iadd, 1) := by decide +kernel
theorem dX6_step_68 : decode cX6_step 68 = .ok (.iload 4, 2) := by decide +kernel
theorem dX6_step_70 : decode cX6_step 70 = .ok (.iadd, 1) := by decide +kernel
theorem dX6_step_71 : decode cX6_step 71 = .ok (.aload_n 0, 1) := by decide +kernel
theorem dX6_step_72 : decode cX6_step 72 = .ok (.iload_n 3, 1) := by decide +kernel
theorem dX6_step_73 : decode cX6_step 73 = .ok (.invokestatic 48, 3) := by decide +kernel
theorem dX6_step_76 : decode cX6_step 76 = .ok (.iload 4, 2) := by decide +kernel
theorem dX6_step_78 : decode cX6_step 78 = .ok (.iadd, 1) := by decide +kernel
theorem dX6_step_79 : decode cX6_step 79 = .ok (.iaload, 1) := by decide +kernel
theorem dX6_step_80 : decode cX6_step 80 = .ok (.iastore, 1) := by decide +kernel
theorem dX6_step_81 : decode cX6_step 81 = .ok (.iinc 4 1, 3) := by decide +kernel
theorem dX6_step_84 : decode cX6_step 84 = .ok (.goto (-33), 3) := by decide +kernel
theorem dX6_step_87 : decode cX6_step 87 = .ok (.iload_n 3, 1) := by decide +kernel
theorem dX6_step_88 : decode cX6_step 88 = .ok (.aload_n 0, 1) := by decide +kernel
theorem dX6_step_89 : decode cX6_step 89 = .ok (.iconst 0, 1) := by decide +kernel
theorem dX6_step_90 : decode cX6_step 90 = .ok (.iaload, 1) := by decide +kernel
theorem dX6_step_91 : decode cX6_step 91 = .ok (.iconst 1, 1) := by decide +kernel
theorem dX6_step_92 : decode cX6_step 92 = .ok (.isub, 1) := by decide +kernel
theorem dX6_step_93 : decode cX6_step 93 = .ok (.if_icmp .ge 4, 3) := by decide +kernel
theorem dX6_step_96 : decode cX6_step 96 = .ok (.return_, 1) := by decide +kernel
theorem dX6_step_97 : decode cX6_step 97 = .ok (.aload_n 0, 1) := by decide +kernel
theorem dX6_step_98 : decode cX6_step 98 = .ok (.iload_n 2, 1) := by decide +kernel
theorem dX6_step_99 : decode cX6_step 99 = .ok (.iconst 4, 1) := by decide +kernel
theorem dX6_step_100 : decode cX6_step 100 = .ok (.iadd, 1) := by decide +kernel
theorem dX6_step_101 : decode cX6_step 101 = .ok (.dup2, 1) := by decide +kernel
theorem dX6_step_102 : decode cX6_step 102 = .ok (.iaload, 1) := by decide +kernel
theorem dX6_step_103 : decode cX6_step 103 = .ok (.iconst 1, 1) := by decide +kernel
theorem dX6_step_104 : decode cX6_step 104 = .ok (.iadd, 1) := by decide +kernel
theorem dX6_step_105 : decode cX6_step 105 = .ok (.iastore, 1) := by decide +kernel
theorem dX6_step_106 : decode cX6_step 106 = .ok (.aload_n 0, 1) := by decide +kernel
theorem dX6_step_107 : decode cX6_step 107 = .ok (.iload_n 1, 1) := by decide +kernel
theorem dX6_step_108 : decode cX6_step 108 = .ok (.invokestatic 54, 3) := by decide +kernel
theorem dX6_step_111 : decode cX6_step 111 = .ok (.istore 4, 2) := by decide +kernel
theorem dX6_step_113 : decode cX6_step 113 = .ok (.iload 4, 2) := by decide +kernel
theorem dX6_step_115 : decode cX6_step 115 = .ok (.ifCond .eq 11, 3) := by decide +kernel
theorem dX6_step_118 : decode cX6_step 118 = .ok (.aload_n 0, 1) := by decide +kernel
theorem dX6_step_119 : decode cX6_step 119 = .ok (.iload_n 1, 1) := by decide +kernel
theorem dX6_step_120 : decode cX6_step 120 = .ok (.invokestatic 58, 3) := by decide +kernel
theorem dX6_step_123 : decode cX6_step 123 = .ok (.goto 5, 3) := by decide +kernel
theorem dX6_step_126 : decode cX6_step 126 = .ok (.bipush (-9), 2) := by decide +kernel
theorem dX6_step_128 : decode cX6_step 128 = .ok (.istore 5, 2) := by decide +kernel
theorem dX6_step_130 : decode cX6_step 130 = .ok (.aload_n 0, 1) := by decide +kernel
theorem dX6_step_131 : decode cX6_step 131 = .ok (.iload_n 2, 1) := by decide +kernel
theorem dX6_step_132 : decode cX6_step 132 = .ok (.iconst 4, 1) := by decide +kernel
theorem dX6_step_133 : decode cX6_step 133 = .ok (.iadd, 1) := by decide +kernel
theorem dX6_step_134 : decode cX6_step 134 = .ok (.iaload, 1) := by decide +kernel
theorem dX6_step_135 : decode cX6_step 135 = .ok (.iconst 1, 1) := by decide +kernel
theorem dX6_step_136 : decode cX6_step 136 = .ok (.if_icmp .eq 15, 3) := by decide +kernel
theorem dX6_step_139 : decode cX6_step 139 = .ok (.iload 4, 2) := by decide +kernel
theorem dX6_step_141 : decode cX6_step 141 = .ok (.ifCond .eq 11, 3) := by decide +kernel
theorem dX6_step_144 : decode cX6_step 144 = .ok (.iload 5, 2) := by decide +kernel
theorem dX6_step_146 : decode cX6_step 146 = .ok (.bipush (-9), 2) := by decide +kernel
theorem dX6_step_148 : decode cX6_step 148 = .ok (.if_icmp .ne 4, 3) := by decide +kernel
theorem dX6_step_151 : decode cX6_step 151 = .ok (.return_, 1) := by decide +kernel
theorem dX6_step_152 : decode cX6_step 152 = .ok (.aload_n 0, 1) := by decide +kernel
theorem dX6_step_153 : decode cX6_step 153 = .ok (.iload_n 1, 1) := by decide +kernel
theorem dX6_step_154 : decode cX6_step 154 = .ok (.iload 5, 2) := by decide +kernel
theorem dX6_step_156 : decode cX6_step 156 = .ok (.invokestatic 62, 3) := by decide +kernel
theorem dX6_step_159 : decode cX6_step 159 = .ok (.aload_n 0, 1) := by decide +kernel
theorem dX6_step_160 : decode cX6_step 160 = .ok (.iload_n 2, 1) := by decide +kernel
theorem dX6_step_161 : decode cX6_step 161 = .ok (.iconst 0, 1) := by decide +kernel
theorem dX6_step_162 : decode cX6_step 162 = .ok (.iadd, 1) := by decide +kernel
theorem dX6_step_163 : decode cX6_step 163 = .ok (.iaload, 1) := by decide +kernel
theorem dX6_step_164 : decode cX6_step 164 = .ok (.iconst 1, 1) := by decide +kernel
theorem dX6_step_165 : decode cX6_step 165 = .ok (.if_icmp .ne 8, 3) := by decide +kernel
theorem dX6_step_168 : decode cX6_step 168 = .ok (.aload_n 0, 1) := by decide +kernel
theorem dX6_step_169 : decode cX6_step 169 = .ok (.iload_n 1, 1) := by decide +kernel
theorem dX6_step_170 : decode cX6_step 170 = .ok (.invokestatic 44, 3) := by decide +kernel
theorem dX6_step_173 : decode cX6_step 173 = .ok (.return_, 1) := by decide +kernel
theorem dX6_notes_0 : decode cX6_notes 0 = .ok (.aload_n 0, 1) := by decide +kernel
theorem dX6_notes_1 : decode cX6_notes 1 = .ok (.getfield 66, 3) := by decide +kernel
theorem dX6_notes_4 : decode cX6_notes 4 = .ok (.iconst 5, 1) := by decide +kernel
theorem dX6_notes_5 : decode cX6_notes 5 = .ok (.if_icmp .ne 44, 3) := by decide +kernel
theorem dX6_notes_8 : decode cX6_notes 8 = .ok (.iconst 0, 1) := by decide +kernel
theorem dX6_notes_9 : decode cX6_notes 9 = .ok (.istore_n 1, 1) := by decide +kernel
theorem dX6_notes_10 : decode cX6_notes 10 = .ok (.iload_n 1, 1) := by decide +kernel
theorem dX6_notes_11 : decode cX6_notes 11 = .ok (.sipush 2048, 3) := by decide +kernel
theorem dX6_notes_14 : decode cX6_notes 14 = .ok (.if_icmp .ge 25, 3) := by decide +kernel
theorem dX6_notes_17 : decode cX6_notes 17 = .ok (.aload_n 0, 1) := by decide +kernel
theorem dX6_notes_18 : decode cX6_notes 18 = .ok (.getfield 16, 3) := by decide +kernel
theorem dX6_notes_21 : decode cX6_notes 21 = .ok (.iload_n 1, 1) := by decide +kernel
theorem dX6_notes_22 : decode cX6_notes 22 = .ok (.aload_n 0, 1) := by decide +kernel
theorem dX6_notes_23 : decode cX6_notes 23 = .ok (.getfield 16, 3) := by decide +kernel
theorem dX6_notes_26 : decode cX6_notes 26 = .ok (.sipush 512, 3) := by decide +kernel
theorem dX6_notes_29 : decode cX6_notes 29 = .ok (.iload_n 1, 1) := by decide +kernel
theorem dX6_notes_30 : decode cX6_notes 30 = .ok (.iadd, 1) := by decide +kernel
theorem dX6_notes_31 : decode cX6_notes 31 = .ok (.iaload, 1) := by decide +kernel
theorem dX6_notes_32 : decode cX6_notes 32 = .ok (.iastore, 1) := by decide +kernel
theorem dX6_notes_33 : decode cX6_notes 33 = .ok (.iinc 1 1, 3) := by decide +kernel
theorem dX6_notes_36 : decode cX6_notes 36 = .ok (.goto (-26), 3) := by decide +kernel
theorem dX6_notes_39 : decode cX6_notes 39 = .ok (.aload_n 0, 1) := by decide +kernel
theorem dX6_notes_40 : decode cX6_notes 40 = .ok (.dup, 1) := by decide +kernel
theorem dX6_notes_41 : decode cX6_notes 41 = .ok (.getfield 66, 3) := by decide +kernel
theorem dX6_notes_44 : decode cX6_notes 44 = .ok (.iconst 1, 1) := by decide +kernel
theorem dX6_notes_45 : decode cX6_notes 45 = .ok (.isub, 1) := by decide +kernel
theorem dX6_notes_46 : decode cX6_notes 46 = .ok (.putfield 66, 3) := by decide +kernel
theorem dX6_notes_49 : decode cX6_notes 49 = .ok (.iconst 0, 1) := by decide +kernel
theorem dX6_notes_50 : decode cX6_notes 50 = .ok (.istore_n 1, 1) := by decide +kernel
theorem dX6_notes_51 : decode cX6_notes 51 = .ok (.iload_n 1, 1) := by decide +kernel
theorem dX6_notes_52 : decode cX6_notes 52 = .ok (.sipush 512, 3) := by decide +kernel
theorem dX6_notes_55 : decode cX6_notes 55 = .ok (.if_icmp .ge 30, 3) := by decide +kernel
theorem dX6_notes_58 : decode cX6_notes 58 = .ok (.aload_n 0, 1) := by decide +kernel
theorem dX6_notes_59 : decode cX6_notes 59 = .ok (.getfield 16, 3) := by decide +kernel
theorem dX6_notes_62 : decode cX6_notes 62 = .ok (.sipush 512, 3) := by decide +kernel
theorem dX6_notes_65 : decode cX6_notes 65 = .ok (.aload_n 0, 1) := by decide +kernel
theorem dX6_notes_66 : decode cX6_notes 66 = .ok (.getfield 66, 3) := by decide +kernel
theorem dX6_notes_69 : decode cX6_notes 69 = .ok (.imul, 1) := by decide +kernel
theorem dX6_notes_70 : decode cX6_notes 70 = .ok (.iload_n 1, 1) := by decide +kernel
theorem dX6_notes_71 : decode cX6_notes 71 = .ok (.iadd, 1) := by decide +kernel
theorem dX6_notes_72 : decode cX6_notes 72 = .ok (.aload_n 0, 1) := by decide +kernel
theorem dX6_notes_73 : decode cX6_notes 73 = .ok (.getfield 7, 3) := by decide +kernel
theorem dX6_notes_76 : decode cX6_notes 76 = .ok (.iload_n 1, 1) := by decide +kernel
theorem dX6_notes_77 : decode cX6_notes 77 = .ok (.iaload, 1) := by decide +kernel
theorem dX6_notes_78 : decode cX6_notes 78 = .ok (.iastore, 1) := by decide +kernel
theorem dX6_notes_79 : decode cX6_notes 79 = .ok (.iinc 1 1, 3) := by decide +kernel
theorem dX6_notes_82 : decode cX6_notes 82 = .ok (.goto (-31), 3) := by decide +kernel
theorem dX6_notes_85 : decode cX6_notes 85 = .ok (.aload_n 0, 1) := by decide +kernel
theorem dX6_notes_86 : decode cX6_notes 86 = .ok (.dup, 1) := by decide +kernel
theorem dX6_notes_87 : decode cX6_notes 87 = .ok (.getfield 66, 3) := by decide +kernel
theorem dX6_notes_90 : decode cX6_notes 90 = .ok (.iconst 1, 1) := by decide +kernel
theorem dX6_notes_91 : decode cX6_notes 91 = .ok (.iadd, 1) := by decide +kernel
theorem dX6_notes_92 : decode cX6_notes 92 = .ok (.putfield 66, 3) := by decide +kernel
theorem dX6_notes_95 : decode cX6_notes 95 = .ok (.return_, 1) := by decide +kernel
theorem dX6_isWriter_0 : decode cX6_isWriter 0 = .ok (.iload_n 1, 1) := by decide +kernel
theorem dX6_isWriter_1 : decode cX6_isWriter 1 = .ok (.iconst 0, 1) := by decide +kernel
theorem dX6_isWriter_2 : decode cX6_isWriter 2 = .ok (.aload_n 0, 1) := by decide +kernel
theorem dX6_isWriter_3 : decode cX6_isWriter 3 = .ok (.getfield 7, 3) := by decide +kernel
theorem dX6_isWriter_6 : decode cX6_isWriter 6 = .ok (.iconst 0, 1) := by decide +kernel
theorem dX6_isWriter_7 : decode cX6_isWriter 7 = .ok (.iaload, 1) := by decide +kernel
theorem dX6_isWriter_8 : decode cX6_isWriter 8 = .ok (.iconst 1, 1) := by decide +kernel
theorem dX6_isWriter_9 : decode cX6_isWriter 9 = .ok (.isub, 1) := by decide +kernel
theorem dX6_isWriter_10 : decode cX6_isWriter 10 = .ok (.invokestatic 69, 3) := by decide +kernel
theorem dX6_isWriter_13 : decode cX6_isWriter 13 = .ok (.ireturn, 1) := by decide +kernel
theorem dX6_isIdle_0 : decode cX6_isIdle 0 = .ok (.aload_n 0, 1) := by decide +kernel
theorem dX6_isIdle_1 : decode cX6_isIdle 1 = .ok (.getfield 7, 3) := by decide +kernel
theorem dX6_isIdle_4 : decode cX6_isIdle 4 = .ok (.iload_n 1, 1) := by decide +kernel
theorem dX6_isIdle_5 : decode cX6_isIdle 5 = .ok (.invokestatic 40, 3) := by decide +kernel
theorem dX6_isIdle_8 : decode cX6_isIdle 8 = .ok (.iconst 0, 1) := by decide +kernel
theorem dX6_isIdle_9 : decode cX6_isIdle 9 = .ok (.iadd, 1) := by decide +kernel
theorem dX6_isIdle_10 : decode cX6_isIdle 10 = .ok (.iaload, 1) := by decide +kernel
theorem dX6_isIdle_11 : decode cX6_isIdle 11 = .ok (.ifCond .ne 7, 3) := by decide +kernel
theorem dX6_isIdle_14 : decode cX6_isIdle 14 = .ok (.iconst 1, 1) := by decide +kernel
theorem dX6_isIdle_15 : decode cX6_isIdle 15 = .ok (.goto 4, 3) := by decide +kernel
theorem dX6_isIdle_18 : decode cX6_isIdle 18 = .ok (.iconst 0, 1) := by decide +kernel
theorem dX6_isIdle_19 : decode cX6_isIdle 19 = .ok (.ireturn, 1) := by decide +kernel
theorem dX6_begins_0 : decode cX6_begins 0 = .ok (.aload_n 0, 1) := by decide +kernel
theorem dX6_begins_1 : decode cX6_begins 1 = .ok (.iconst 0, 1) := by decide +kernel
theorem dX6_begins_2 : decode cX6_begins 2 = .ok (.putfield 36, 3) := by decide +kernel
theorem dX6_begins_5 : decode cX6_begins 5 = .ok (.iload_n 1, 1) := by decide +kernel
theorem dX6_begins_6 : decode cX6_begins 6 = .ok (.iconst 2, 1) := by decide +kernel
theorem dX6_begins_7 : decode cX6_begins 7 = .ok (.iconst 4, 1) := by decide +kernel
theorem dX6_begins_8 : decode cX6_begins 8 = .ok (.invokestatic 69, 3) := by decide +kernel
theorem dX6_begins_11 : decode cX6_begins 11 = .ok (.ifCond .eq 26, 3) := by decide +kernel
theorem dX6_begins_14 : decode cX6_begins 14 = .ok (.iload_n 2, 1) := by decide +kernel
theorem dX6_begins_15 : decode cX6_begins 15 = .ok (.iconst 1, 1) := by decide +kernel
theorem dX6_begins_16 : decode cX6_begins 16 = .ok (.iconst 4, 1) := by decide +kernel
theorem dX6_begins_17 : decode cX6_begins 17 = .ok (.invokestatic 69, 3) := by decide +kernel
theorem dX6_begins_20 : decode cX6_begins 20 = .ok (.ifCond .eq 17, 3) := by decide +kernel
theorem dX6_begins_23 : decode cX6_begins 23 = .ok (.iload_n 3, 1) := by decide +kernel
theorem dX6_begins_24 : decode cX6_begins 24 = .ok (.ifCond .eq 15, 3) := by decide +kernel
theorem dX6_begins_27 : decode cX6_begins 27 = .ok (.iload_n 3, 1) := by decide +kernel
theorem dX6_begins_28 : decode cX6_begins 28 = .ok (.iconst 2, 1) := by decide +kernel
theorem dX6_begins_29 : decode cX6_begins 29 = .ok (.bipush 8, 2) := by decide +kernel
theorem dX6_begins_31 : decode cX6_begins 31 = .ok (.invokestatic 69, 3) := by decide +kernel
theorem dX6_begins_34 : decode cX6_begins 34 = .ok (.ifCond .ne 5, 3) := by decide +kernel
theorem dX6_begins_37 : decode cX6_begins 37 = .ok (.iconst (-1), 1) := by decide +kernel
theorem dX6_begins_38 : decode cX6_begins 38 = .ok (.ireturn, 1) := by decide +kernel
theorem dX6_begins_39 : decode cX6_begins 39 = .ok (.aload_n 0, 1) := by decide +kernel
theorem dX6_begins_40 : decode cX6_begins 40 = .ok (.invokevirtual 73, 3) := by decide +kernel
theorem dX6_begins_43 : decode cX6_begins 43 = .ok (.aload_n 0, 1) := by decide +kernel
theorem dX6_begins_44 : decode cX6_begins 44 = .ok (.getfield 7, 3) := by decide +kernel
theorem dX6_begins_47 : decode cX6_begins 47 = .ok (.iload_n 1, 1) := by decide +kernel
theorem dX6_begins_48 : decode cX6_begins 48 = .ok (.iload_n 2, 1) := by decide +kernel
theorem dX6_begins_49 : decode cX6_begins 49 = .ok (.iload_n 3, 1) := by decide +kernel
theorem dX6_begins_50 : decode cX6_begins 50 = .ok (.invokestatic 32, 3) := by decide +kernel
theorem dX6_begins_53 : decode cX6_begins 53 = .ok (.aload_n 0, 1) := by decide +kernel
theorem dX6_begins_54 : decode cX6_begins 54 = .ok (.iconst 0, 1) := by decide +kernel
theorem dX6_begins_55 : decode cX6_begins 55 = .ok (.putfield 76, 3) := by decide +kernel
theorem dX6_begins_58 : decode cX6_begins 58 = .ok (.aload_n 0, 1) := by decide +kernel
theorem dX6_begins_59 : decode cX6_begins 59 = .ok (.getfield 22, 3) := by decide +kernel
theorem dX6_begins_62 : decode cX6_begins 62 = .ok (.iconst 0, 1) := by decide +kernel
theorem dX6_begins_63 : decode cX6_begins 63 = .ok (.iconst 0, 1) := by decide +kernel
theorem dX6_begins_64 : decode cX6_begins 64 = .ok (.bastore, 1) := by decide +kernel
theorem dX6_begins_65 : decode cX6_begins 65 = .ok (.aload_n 0, 1) := by decide +kernel
theorem dX6_begins_66 : decode cX6_begins 66 = .ok (.getfield 22, 3) := by decide +kernel
theorem dX6_begins_69 : decode cX6_begins 69 = .ok (.iconst 1, 1) := by decide +kernel
theorem dX6_begins_70 : decode cX6_begins 70 = .ok (.iconst 0, 1) := by decide +kernel
theorem dX6_begins_71 : decode cX6_begins 71 = .ok (.bastore, 1) := by decide +kernel
theorem dX6_begins_72 : decode cX6_begins 72 = .ok (.iload_n 1, 1) := by decide +kernel
theorem dX6_begins_73 : decode cX6_begins 73 = .ok (.ireturn, 1) := by decide +kernel
theorem dX6_begun_0 : decode cX6_begun 0 = .ok (.aload_n 0, 1) := by decide +kernel
theorem dX6_begun_1 : decode cX6_begun 1 = .ok (.iload_n 1, 1) := by decide +kernel
theorem dX6_begun_2 : decode cX6_begun 2 = .ok (.invokevirtual 79, 3) := by decide +kernel
theorem dX6_begun_5 : decode cX6_begun 5 = .ok (.ifCond .ne 6, 3) := by decide +kernel
theorem dX6_begun_8 : decode cX6_begun 8 = .ok (.bipush (-2), 2) := by decide +kernel
theorem dX6_begun_10 : decode cX6_begun 10 = .ok (.ireturn, 1) := by decide +kernel
theorem dX6_begun_11 : decode cX6_begun 11 = .ok (.aload_n 0, 1) := by decide +kernel
theorem dX6_begun_12 : decode cX6_begun 12 = .ok (.getfield 7, 3) := by decide +kernel
theorem dX6_begun_15 : decode cX6_begun 15 = .ok (.iconst 4, 1) := by decide +kernel
theorem dX6_begun_16 : decode cX6_begun 16 = .ok (.iaload, 1) := by decide +kernel
theorem dX6_begun_17 : decode cX6_begun 17 = .ok (.bipush 24, 2) := by decide +kernel
theorem dX6_begun_19 : decode cX6_begun 19 = .ok (.if_icmp .ne 6, 3) := by decide +kernel
theorem dX6_begun_22 : decode cX6_begun 22 = .ok (.bipush (-3), 2) := by decide +kernel
theorem dX6_begun_24 : decode cX6_begun 24 = .ok (.ireturn, 1) := by decide +kernel
theorem dX6_begun_25 : decode cX6_begun 25 = .ok (.aload_n 0, 1) := by decide +kernel
theorem dX6_begun_26 : decode cX6_begun 26 = .ok (.invokevirtual 73, 3) := by decide +kernel
theorem dX6_begun_29 : decode cX6_begun 29 = .ok (.aload_n 0, 1) := by decide +kernel
theorem dX6_begun_30 : decode cX6_begun 30 = .ok (.getfield 7, 3) := by decide +kernel
theorem dX6_begun_33 : decode cX6_begun 33 = .ok (.iload_n 1, 1) := by decide +kernel
theorem dX6_begun_34 : decode cX6_begun 34 = .ok (.iload_n 2, 1) := by decide +kernel
theorem dX6_begun_35 : decode cX6_begun 35 = .ok (.iload_n 3, 1) := by decide +kernel
theorem dX6_begun_36 : decode cX6_begun 36 = .ok (.invokestatic 83, 3) := by decide +kernel
theorem dX6_begun_39 : decode cX6_begun 39 = .ok (.aload_n 0, 1) := by decide +kernel
theorem dX6_begun_40 : decode cX6_begun 40 = .ok (.getfield 7, 3) := by decide +kernel
theorem dX6_begun_43 : decode cX6_begun 43 = .ok (.iconst 3, 1) := by decide +kernel
theorem dX6_begun_44 : decode cX6_begun 44 = .ok (.iaload, 1) := by decide +kernel
theorem dX6_begun_45 : decode cX6_begun 45 = .ok (.ireturn, 1) := by decide +kernel
theorem dX6_scans_0 : decode cX6_scans 0 = .ok (.aload_n 0, 1) := by decide +kernel
theorem dX6_scans_1 : decode cX6_scans 1 = .ok (.iconst 0, 1) := by decide +kernel
theorem dX6_scans_2 : decode cX6_scans 2 = .ok (.putfield 36, 3) := by decide +kernel
theorem dX6_scans_5 : decode cX6_scans 5 = .ok (.aload_n 0, 1) := by decide +kernel
theorem dX6_scans_6 : decode cX6_scans 6 = .ok (.iload_n 1, 1) := by decide +kernel
theorem dX6_scans_7 : decode cX6_scans 7 = .ok (.invokevirtual 86, 3) := by decide +kernel
theorem dX6_scans_10 : decode cX6_scans 10 = .ok (.ifCond .eq 13, 3) := by decide +kernel
theorem dX6_scans_13 : decode cX6_scans 13 = .ok (.aload_n 0, 1) := by decide +kernel
theorem dX6_scans_14 : decode cX6_scans 14 = .ok (.iload_n 1, 1) := by decide +kernel
theorem dX6_scans_15 : decode cX6_scans 15 = .ok (.iconst 1, 1) := by decide +kernel
theorem dX6_scans_16 : decode cX6_scans 16 = .ok (.iconst 0, 1) := by decide +kernel
theorem dX6_scans_17 : decode cX6_scans 17 = .ok (.invokevirtual 89, 3) := by decide +kernel
theorem dX6_scans_20 : decode cX6_scans 20 = .ok (.goto 4, 3) := by decide +kernel
theorem dX6_scans_23 : decode cX6_scans 23 = .ok (.iconst (-1), 1) := by decide +kernel
theorem dX6_scans_24 : decode cX6_scans 24 = .ok (.ireturn, 1) := by decide +kernel
theorem dX6_writes_0 : decode cX6_writes 0 = .ok (.aload_n 0, 1) := by decide +kernel
theorem dX6_writes_1 : decode cX6_writes 1 = .ok (.iconst 0, 1) := by decide +kernel
theorem dX6_writes_2 : decode cX6_writes 2 = .ok (.putfield 36, 3) := by decide +kernel
theorem dX6_writes_5 : decode cX6_writes 5 = .ok (.aload_n 0, 1) := by decide +kernel
theorem dX6_writes_6 : decode cX6_writes 6 = .ok (.iload_n 1, 1) := by decide +kernel
theorem dX6_writes_7 : decode cX6_writes 7 = .ok (.invokevirtual 86, 3) := by decide +kernel
theorem dX6_writes_10 : decode cX6_writes 10 = .ok (.ifCond .eq 23, 3) := by decide +kernel
theorem dX6_writes_13 : decode cX6_writes 13 = .ok (.iload_n 2, 1) := by decide +kernel
theorem dX6_writes_14 : decode cX6_writes 14 = .ok (.iconst 0, 1) := by decide +kernel
theorem dX6_writes_15 : decode cX6_writes 15 = .ok (.bipush 99, 2) := by decide +kernel
theorem dX6_writes_17 : decode cX6_writes 17 = .ok (.invokestatic 69, 3) := by decide +kernel
theorem dX6_writes_20 : decode cX6_writes 20 = .ok (.ifCond .eq 13, 3) := by decide +kernel
theorem dX6_writes_23 : decode cX6_writes 23 = .ok (.aload_n 0, 1) := by decide +kernel
theorem dX6_writes_24 : decode cX6_writes 24 = .ok (.iload_n 1, 1) := by decide +kernel
theorem dX6_writes_25 : decode cX6_writes 25 = .ok (.iconst 2, 1) := by decide +kernel
theorem dX6_writes_26 : decode cX6_writes 26 = .ok (.iload_n 2, 1) := by decide +kernel
theorem dX6_writes_27 : decode cX6_writes 27 = .ok (.invokevirtual 89, 3) := by decide +kernel
theorem dX6_writes_30 : decode cX6_writes 30 = .ok (.goto 4, 3) := by decide +kernel
theorem dX6_writes_33 : decode cX6_writes 33 = .ok (.iconst (-1), 1) := by decide +kernel
theorem dX6_writes_34 : decode cX6_writes 34 = .ok (.ireturn, 1) := by decide +kernel
theorem dX6_steps_0 : decode cX6_steps 0 = .ok (.aload_n 0, 1) := by decide +kernel
theorem dX6_steps_1 : decode cX6_steps 1 = .ok (.iconst 0, 1) := by decide +kernel
theorem dX6_steps_2 : decode cX6_steps 2 = .ok (.putfield 36, 3) := by decide +kernel
theorem dX6_steps_5 : decode cX6_steps 5 = .ok (.aload_n 0, 1) := by decide +kernel
theorem dX6_steps_6 : decode cX6_steps 6 = .ok (.iload_n 1, 1) := by decide +kernel
theorem dX6_steps_7 : decode cX6_steps 7 = .ok (.invokevirtual 86, 3) := by decide +kernel
theorem dX6_steps_10 : decode cX6_steps 10 = .ok (.ifCond .eq 13, 3) := by decide +kernel
theorem dX6_steps_13 : decode cX6_steps 13 = .ok (.iload_n 2, 1) := by decide +kernel
theorem dX6_steps_14 : decode cX6_steps 14 = .ok (.iconst 1, 1) := by decide +kernel
theorem dX6_steps_15 : decode cX6_steps 15 = .ok (.bipush 20, 2) := by decide +kernel
theorem dX6_steps_17 : decode cX6_steps 17 = .ok (.invokestatic 69, 3) := by decide +kernel
theorem dX6_steps_20 : decode cX6_steps 20 = .ok (.ifCond .ne 5, 3) := by decide +kernel
theorem dX6_steps_23 : decode cX6_steps 23 = .ok (.iconst (-1), 1) := by decide +kernel
theorem dX6_steps_24 : decode cX6_steps 24 = .ok (.ireturn, 1) := by decide +kernel
theorem dX6_steps_25 : decode cX6_steps 25 = .ok (.aload_n 0, 1) := by decide +kernel
theorem dX6_steps_26 : decode cX6_steps 26 = .ok (.iload_n 1, 1) := by decide +kernel
theorem dX6_steps_27 : decode cX6_steps 27 = .ok (.invokevirtual 79, 3) := by decide +kernel
theorem dX6_steps_30 : decode cX6_steps 30 = .ok (.ifCond .eq 6, 3) := by decide +kernel
theorem dX6_steps_33 : decode cX6_steps 33 = .ok (.bipush (-2), 2) := by decide +kernel
theorem dX6_steps_35 : decode cX6_steps 35 = .ok (.ireturn, 1) := by decide +kernel
theorem dX6_steps_36 : decode cX6_steps 36 = .ok (.aload_n 0, 1) := by decide +kernel
theorem dX6_steps_37 : decode cX6_steps 37 = .ok (.invokevirtual 73, 3) := by decide +kernel
theorem dX6_steps_40 : decode cX6_steps 40 = .ok (.iconst 0, 1) := by decide +kernel
theorem dX6_steps_41 : decode cX6_steps 41 = .ok (.istore_n 3, 1) := by decide +kernel
theorem dX6_steps_42 : decode cX6_steps 42 = .ok (.iload_n 3, 1) := by decide +kernel
theorem dX6_steps_43 : decode cX6_steps 43 = .ok (.iload_n 2, 1) := by decide +kernel
theorem dX6_steps_44 : decode cX6_steps 44 = .ok (.if_icmp .ge 25, 3) := by decide +kernel
theorem dX6_steps_47 : decode cX6_steps 47 = .ok (.aload_n 0, 1) := by decide +kernel
theorem dX6_steps_48 : decode cX6_steps 48 = .ok (.iload_n 1, 1) := by decide +kernel
theorem dX6_steps_49 : decode cX6_steps 49 = .ok (.invokevirtual 79, 3) := by decide +kernel
theorem dX6_steps_52 : decode cX6_steps 52 = .ok (.ifCond .ne 17, 3) := by decide +kernel
theorem dX6_steps_55 : decode cX6_steps 55 = .ok (.aload_n 0, 1) := by decide +kernel
theorem dX6_steps_56 : decode cX6_steps 56 = .ok (.getfield 7, 3) := by decide +kernel
theorem dX6_steps_59 : decode cX6_steps 59 = .ok (.iload_n 1, 1) := by decide +kernel
theorem dX6_steps_60 : decode cX6_steps 60 = .ok (.invokestatic 93, 3) := by decide +kernel
theorem dX6_steps_63 : decode cX6_steps 63 = .ok (.iinc 3 1, 3) := by decide +kernel
theorem dX6_steps_66 : decode cX6_steps 66 = .ok (.goto (-24), 3) := by decide +kernel
theorem dX6_steps_69 : decode cX6_steps 69 = .ok (.iload_n 3, 1) := by decide +kernel
theorem dX6_steps_70 : decode cX6_steps 70 = .ok (.ireturn, 1) := by decide +kernel
theorem dX6_undo_0 : decode cX6_undo 0 = .ok (.aload_n 0, 1) := by decide +kernel
theorem dX6_undo_1 : decode cX6_undo 1 = .ok (.iconst 0, 1) := by decide +kernel
theorem dX6_undo_2 : decode cX6_undo 2 = .ok (.putfield 36, 3) := by decide +kernel
theorem dX6_undo_5 : decode cX6_undo 5 = .ok (.aload_n 0, 1) := by decide +kernel
theorem dX6_undo_6 : decode cX6_undo 6 = .ok (.getfield 66, 3) := by decide +kernel
theorem dX6_undo_9 : decode cX6_undo 9 = .ok (.ifCond .ne 6, 3) := by decide +kernel
theorem dX6_undo_12 : decode cX6_undo 12 = .ok (.bipush (-2), 2) := by decide +kernel
theorem dX6_undo_14 : decode cX6_undo 14 = .ok (.ireturn, 1) := by decide +kernel
theorem dX6_undo_15 : decode cX6_undo 15 = .ok (.aload_n 0, 1) := by decide +kernel
theorem dX6_undo_16 : decode cX6_undo 16 = .ok (.dup, 1) := by decide +kernel
theorem dX6_undo_17 : decode cX6_undo 17 = .ok (.getfield 66, 3) := by decide +kernel
theorem dX6_undo_20 : decode cX6_undo 20 = .ok (.iconst 1, 1) := by decide +kernel
theorem dX6_undo_21 : decode cX6_undo 21 = .ok (.isub, 1) := by decide +kernel
theorem dX6_undo_22 : decode cX6_undo 22 = .ok (.putfield 66, 3) := by decide +kernel
theorem dX6_undo_25 : decode cX6_undo 25 = .ok (.iconst 0, 1) := by decide +kernel
theorem dX6_undo_26 : decode cX6_undo 26 = .ok (.istore_n 1, 1) := by decide +kernel
theorem dX6_undo_27 : decode cX6_undo 27 = .ok (.iload_n 1, 1) := by decide +kernel
theorem dX6_undo_28 : decode cX6_undo 28 = .ok (.sipush 512, 3) := by decide +kernel
theorem dX6_undo_31 : decode cX6_undo 31 = .ok (.if_icmp .ge 30, 3) := by decide +kernel
theorem dX6_undo_34 : decode cX6_undo 34 = .ok (.aload_n 0, 1) := by decide +kernel
theorem dX6_undo_35 : decode cX6_undo 35 = .ok (.getfield 7, 3) := by decide +kernel
theorem dX6_undo_38 : decode cX6_undo 38 = .ok (.iload_n 1, 1) := by decide +kernel
theorem dX6_undo_39 : decode cX6_undo 39 = .ok (.aload_n 0, 1) := by decide +kernel
theorem dX6_undo_40 : decode cX6_undo 40 = .ok (.getfield 16, 3) := by decide +kernel
theorem dX6_undo_43 : decode cX6_undo 43 = .ok (.sipush 512, 3) := by decide +kernel
theorem dX6_undo_46 : decode cX6_undo 46 = .ok (.aload_n 0, 1) := by decide +kernel
theorem dX6_undo_47 : decode cX6_undo 47 = .ok (.getfield 66, 3) := by decide +kernel
theorem dX6_undo_50 : decode cX6_undo 50 = .ok (.imul, 1) := by decide +kernel
theorem dX6_undo_51 : decode cX6_undo 51 = .ok (.iload_n 1, 1) := by decide +kernel
theorem dX6_undo_52 : decode cX6_undo 52 = .ok (.iadd, 1) := by decide +kernel
theorem dX6_undo_53 : decode cX6_undo 53 = .ok (.iaload, 1) := by decide +kernel
theorem dX6_undo_54 : decode cX6_undo 54 = .ok (.iastore, 1) := by decide +kernel
theorem dX6_undo_55 : decode cX6_undo 55 = .ok (.iinc 1 1, 3) := by decide +kernel
theorem dX6_undo_58 : decode cX6_undo 58 = .ok (.goto (-31), 3) := by decide +kernel
theorem dX6_undo_61 : decode cX6_undo 61 = .ok (.aload_n 0, 1) := by decide +kernel
theorem dX6_undo_62 : decode cX6_undo 62 = .ok (.getfield 66, 3) := by decide +kernel
theorem dX6_undo_65 : decode cX6_undo 65 = .ok (.ireturn, 1) := by decide +kernel
theorem dX6_isCell_0 : decode cX6_isCell 0 = .ok (.iload_n 1, 1) := by decide +kernel
theorem dX6_isCell_1 : decode cX6_isCell 1 = .ok (.iconst 0, 1) := by decide +kernel
theorem dX6_isCell_2 : decode cX6_isCell 2 = .ok (.aload_n 0, 1) := by decide +kernel
theorem dX6_isCell_3 : decode cX6_isCell 3 = .ok (.getfield 7, 3) := by decide +kernel
theorem dX6_isCell_6 : decode cX6_isCell 6 = .ok (.iconst 0, 1) := by decide +kernel
theorem dX6_isCell_7 : decode cX6_isCell 7 = .ok (.iaload, 1) := by decide +kernel
theorem dX6_isCell_8 : decode cX6_isCell 8 = .ok (.iconst 1, 1) := by decide +kernel
theorem dX6_isCell_9 : decode cX6_isCell 9 = .ok (.isub, 1) := by decide +kernel
theorem dX6_isCell_10 : decode cX6_isCell 10 = .ok (.invokestatic 69, 3) := by decide +kernel
theorem dX6_isCell_13 : decode cX6_isCell 13 = .ok (.ireturn, 1) := by decide +kernel
theorem dX6_cell_0 : decode cX6_cell 0 = .ok (.aload_n 0, 1) := by decide +kernel
theorem dX6_cell_1 : decode cX6_cell 1 = .ok (.iconst 0, 1) := by decide +kernel
theorem dX6_cell_2 : decode cX6_cell 2 = .ok (.putfield 36, 3) := by decide +kernel
theorem dX6_cell_5 : decode cX6_cell 5 = .ok (.aload_n 0, 1) := by decide +kernel
theorem dX6_cell_6 : decode cX6_cell 6 = .ok (.iload_n 1, 1) := by decide +kernel
theorem dX6_cell_7 : decode cX6_cell 7 = .ok (.invokevirtual 96, 3) := by decide +kernel
theorem dX6_cell_10 : decode cX6_cell 10 = .ok (.ifCond .eq 26, 3) := by decide +kernel
theorem dX6_cell_13 : decode cX6_cell 13 = .ok (.iload_n 2, 1) := by decide +kernel
theorem dX6_cell_14 : decode cX6_cell 14 = .ok (.iconst 0, 1) := by decide +kernel
theorem dX6_cell_15 : decode cX6_cell 15 = .ok (.iconst 5, 1) := by decide +kernel
theorem dX6_cell_16 : decode cX6_cell 16 = .ok (.invokestatic 69, 3) := by decide +kernel
theorem dX6_cell_19 : decode cX6_cell 19 = .ok (.ifCond .eq 17, 3) := by decide +kernel
theorem dX6_cell_22 : decode cX6_cell 22 = .ok (.aload_n 0, 1) := by decide +kernel
theorem dX6_cell_23 : decode cX6_cell 23 = .ok (.getfield 7, 3) := by decide +kernel
theorem dX6_cell_26 : decode cX6_cell 26 = .ok (.iload_n 1, 1) := by decide +kernel
theorem dX6_cell_27 : decode cX6_cell 27 = .ok (.invokestatic 48, 3) := by decide +kernel
theorem dX6_cell_30 : decode cX6_cell 30 = .ok (.iload_n 2, 1) := by decide +kernel
theorem dX6_cell_31 : decode cX6_cell 31 = .ok (.iadd, 1) := by decide +kernel
theorem dX6_cell_32 : decode cX6_cell 32 = .ok (.iaload, 1) := by decide +kernel
theorem dX6_cell_33 : decode cX6_cell 33 = .ok (.goto 4, 3) := by decide +kernel
theorem dX6_cell_36 : decode cX6_cell 36 = .ok (.iconst (-1), 1) := by decide +kernel
theorem dX6_cell_37 : decode cX6_cell 37 = .ok (.ireturn, 1) := by decide +kernel
theorem dX6_writer_0 : decode cX6_writer 0 = .ok (.aload_n 0, 1) := by decide +kernel
theorem dX6_writer_1 : decode cX6_writer 1 = .ok (.iconst 0, 1) := by decide +kernel
theorem dX6_writer_2 : decode cX6_writer 2 = .ok (.putfield 36, 3) := by decide +kernel
theorem dX6_writer_5 : decode cX6_writer 5 = .ok (.aload_n 0, 1) := by decide +kernel
theorem dX6_writer_6 : decode cX6_writer 6 = .ok (.iload_n 1, 1) := by decide +kernel
theorem dX6_writer_7 : decode cX6_writer 7 = .ok (.invokevirtual 86, 3) := by decide +kernel
theorem dX6_writer_10 : decode cX6_writer 10 = .ok (.ifCond .eq 13, 3) := by decide +kernel
theorem dX6_writer_13 : decode cX6_writer 13 = .ok (.iload_n 2, 1) := by decide +kernel
theorem dX6_writer_14 : decode cX6_writer 14 = .ok (.iconst 0, 1) := by decide +kernel
theorem dX6_writer_15 : decode cX6_writer 15 = .ok (.bipush 8, 2) := by decide +kernel
theorem dX6_writer_17 : decode cX6_writer 17 = .ok (.invokestatic 69, 3) := by decide +kernel
theorem dX6_writer_20 : decode cX6_writer 20 = .ok (.ifCond .ne 5, 3) := by decide +kernel
theorem dX6_writer_23 : decode cX6_writer 23 = .ok (.iconst (-1), 1) := by decide +kernel
theorem dX6_writer_24 : decode cX6_writer 24 = .ok (.ireturn, 1) := by decide +kernel
theorem dX6_writer_25 : decode cX6_writer 25 = .ok (.iload_n 1, 1) := by decide +kernel
theorem dX6_writer_26 : decode cX6_writer 26 = .ok (.invokestatic 40, 3) := by decide +kernel
theorem dX6_writer_29 : decode cX6_writer 29 = .ok (.istore_n 3, 1) := by decide +kernel
theorem dX6_writer_30 : decode cX6_writer 30 = .ok (.aload_n 0, 1) := by decide +kernel
theorem dX6_writer_31 : decode cX6_writer 31 = .ok (.iload_n 1, 1) := by decide +kernel
theorem dX6_writer_32 : decode cX6_writer 32 = .ok (.invokevirtual 79, 3) := by decide +kernel
theorem dX6_writer_35 : decode cX6_writer 35 = .ok (.ifCond .ne 18, 3) := by decide +kernel
theorem dX6_writer_38 : decode cX6_writer 38 = .ok (.aload_n 0, 1) := by decide +kernel
theorem dX6_writer_39 : decode cX6_writer 39 = .ok (.getfield 7, 3) := by decide +kernel
theorem dX6_writer_42 : decode cX6_writer 42 = .ok (.iload_n 3, 1) := by decide +kernel
theorem dX6_writer_43 : decode cX6_writer 43 = .ok (.iconst 5, 1) := by decide +kernel
theorem dX6_writer_44 : decode cX6_writer 44 = .ok (.iadd, 1) := by decide +kernel
theorem dX6_writer_45 : decode cX6_writer 45 = .ok (.iaload, 1) := by decide +kernel
theorem dX6_writer_46 : decode cX6_writer 46 = .ok (.ifCond .ne 7, 3) := by decide +kernel
theorem dX6_writer_49 : decode cX6_writer 49 = .ok (.iconst 1, 1) := by decide +kernel
theorem dX6_writer_50 : decode cX6_writer 50 = .ok (.goto 4, 3) := by decide +kernel
theorem dX6_writer_53 : decode cX6_writer 53 = .ok (.iconst 0, 1) := by decide +kernel
theorem dX6_writer_54 : decode cX6_writer 54 = .ok (.istore 4, 2) := by decide +kernel
theorem dX6_writer_56 : decode cX6_writer 56 = .ok (.iload_n 2, 1) := by decide +kernel
theorem dX6_writer_57 : decode cX6_writer 57 = .ok (.tableswitch 130 0 8 #[51, 60, 69, 95, 130, 130, 130, 130, 104], 51) := by decide +kernel
theorem dX6_writer_108 : decode cX6_writer 108 = .ok (.aload_n 0, 1) := by decide +kernel
theorem dX6_writer_109 : decode cX6_writer 109 = .ok (.getfield 7, 3) := by decide +kernel
theorem dX6_writer_112 : decode cX6_writer 112 = .ok (.iload_n 3, 1) := by decide +kernel
theorem dX6_writer_113 : decode cX6_writer 113 = .ok (.iconst 0, 1) := by decide +kernel
theorem dX6_writer_114 : decode cX6_writer 114 = .ok (.iadd, 1) := by decide +kernel
theorem dX6_writer_115 : decode cX6_writer 115 = .ok (.iaload, 1) := by decide +kernel
theorem dX6_writer_116 : decode cX6_writer 116 = .ok (.ireturn, 1) := by decide +kernel
theorem dX6_writer_117 : decode cX6_writer 117 = .ok (.aload_n 0, 1) := by decide +kernel
theorem dX6_writer_118 : decode cX6_writer 118 = .ok (.getfield 7, 3) := by decide +kernel
theorem dX6_writer_121 : decode cX6_writer 121 = .ok (.iload_n 3, 1) := by decide +kernel
theorem dX6_writer_122 : decode cX6_writer 122 = .ok (.iconst 2, 1) := by decide +kernel
theorem dX6_writer_123 : decode cX6_writer 123 = .ok (.iadd, 1) := by decide +kernel
theorem dX6_writer_124 : decode cX6_writer 124 = .ok (.iaload, 1) := by decide +kernel
theorem dX6_writer_125 : decode cX6_writer 125 = .ok (.ireturn, 1) := by decide +kernel
theorem dX6_writer_126 : decode cX6_writer 126 = .ok (.iload 4, 2) := by decide +kernel
theorem dX6_writer_128 : decode cX6_writer 128 = .ok (.ifCond .eq 21, 3) := by decide +kernel
theorem dX6_writer_131 : decode cX6_writer 131 = .ok (.aload_n 0, 1) := by decide +kernel
theorem dX6_writer_132 : decode cX6_writer 132 = .ok (.getfield 7, 3) := by decide +kernel
theorem dX6_writer_135 : decode cX6_writer 135 = .ok (.iload_n 3, 1) := by decide +kernel
theorem dX6_writer_136 : decode cX6_writer 136 = .ok (.iconst 2, 1) := by decide +kernel
theorem dX6_writer_137 : decode cX6_writer 137 = .ok (.iadd, 1) := by decide +kernel
theorem dX6_writer_138 : decode cX6_writer 138 = .ok (.iaload, 1) := by decide +kernel
theorem dX6_writer_139 : decode cX6_writer 139 = .ok (.aload_n 0, 1) := by decide +kernel
theorem dX6_writer_140 : decode cX6_writer 140 = .ok (.getfield 7, 3) := by decide +kernel
theorem dX6_writer_143 : decode cX6_writer 143 = .ok (.iconst 0, 1) := by decide +kernel
theorem dX6_writer_144 : decode cX6_writer 144 = .ok (.iaload, 1) := by decide +kernel
theorem dX6_writer_145 : decode cX6_writer 145 = .ok (.irem, 1) := by decide +kernel
theorem dX6_writer_146 : decode cX6_writer 146 = .ok (.goto 5, 3) := by decide +kernel
theorem dX6_writer_149 : decode cX6_writer 149 = .ok (.bipush (-9), 2) := by decide +kernel
theorem dX6_writer_151 : decode cX6_writer 151 = .ok (.ireturn, 1) := by decide +kernel
theorem dX6_writer_152 : decode cX6_writer 152 = .ok (.aload_n 0, 1) := by decide +kernel
theorem dX6_writer_153 : decode cX6_writer 153 = .ok (.getfield 7, 3) := by decide +kernel
theorem dX6_writer_156 : decode cX6_writer 156 = .ok (.iload_n 3, 1) := by decide +kernel
theorem dX6_writer_157 : decode cX6_writer 157 = .ok (.iconst 4, 1) := by decide +kernel
theorem dX6_writer_158 : decode cX6_writer 158 = .ok (.iadd, 1) := by decide +kernel
theorem dX6_writer_159 : decode cX6_writer 159 = .ok (.iaload, 1) := by decide +kernel
theorem dX6_writer_160 : decode cX6_writer 160 = .ok (.ireturn, 1) := by decide +kernel
theorem dX6_writer_161 : decode cX6_writer 161 = .ok (.aload_n 0, 1) := by decide +kernel
theorem dX6_writer_162 : decode cX6_writer 162 = .ok (.getfield 7, 3) := by decide +kernel
theorem dX6_writer_165 : decode cX6_writer 165 = .ok (.iload_n 3, 1) := by decide +kernel
theorem dX6_writer_166 : decode cX6_writer 166 = .ok (.iconst 0, 1) := by decide +kernel
theorem dX6_writer_167 : decode cX6_writer 167 = .ok (.iadd, 1) := by decide +kernel
theorem dX6_writer_168 : decode cX6_writer 168 = .ok (.iaload, 1) := by decide +kernel
theorem dX6_writer_169 : decode cX6_writer 169 = .ok (.iconst 2, 1) := by decide +kernel
theorem dX6_writer_170 : decode cX6_writer 170 = .ok (.if_icmp .ne 14, 3) := by decide +kernel
theorem dX6_writer_173 : decode cX6_writer 173 = .ok (.aload_n 0, 1) := by decide +kernel
theorem dX6_writer_174 : decode cX6_writer 174 = .ok (.getfield 7, 3) := by decide +kernel
theorem dX6_writer_177 : decode cX6_writer 177 = .ok (.iload_n 3, 1) := by decide +kernel
theorem dX6_writer_178 : decode cX6_writer 178 = .ok (.iconst 1, 1) := by decide +kernel
theorem dX6_writer_179 : decode cX6_writer 179 = .ok (.iadd, 1) := by decide +kernel
theorem dX6_writer_180 : decode cX6_writer 180 = .ok (.iaload, 1) := by decide +kernel
theorem dX6_writer_181 : decode cX6_writer 181 = .ok (.goto 5, 3) := by decide +kernel
theorem dX6_writer_184 : decode cX6_writer 184 = .ok (.bipush (-9), 2) := by decide +kernel
theorem dX6_writer_186 : decode cX6_writer 186 = .ok (.ireturn, 1) := by decide +kernel
theorem dX6_writer_187 : decode cX6_writer 187 = .ok (.aload_n 0, 1) := by decide +kernel
theorem dX6_writer_188 : decode cX6_writer 188 = .ok (.getfield 7, 3) := by decide +kernel
theorem dX6_writer_191 : decode cX6_writer 191 = .ok (.iload_n 3, 1) := by decide +kernel
theorem dX6_writer_192 : decode cX6_writer 192 = .ok (.bipush 6, 2) := by decide +kernel
theorem dX6_writer_194 : decode cX6_writer 194 = .ok (.iadd, 1) := by decide +kernel
theorem dX6_writer_195 : decode cX6_writer 195 = .ok (.iload_n 2, 1) := by decide +kernel
theorem dX6_writer_196 : decode cX6_writer 196 = .ok (.iadd, 1) := by decide +kernel
theorem dX6_writer_197 : decode cX6_writer 197 = .ok (.iconst 4, 1) := by decide +kernel
theorem dX6_writer_198 : decode cX6_writer 198 = .ok (.isub, 1) := by decide +kernel
theorem dX6_writer_199 : decode cX6_writer 199 = .ok (.iaload, 1) := by decide +kernel
theorem dX6_writer_200 : decode cX6_writer 200 = .ok (.ireturn, 1) := by decide +kernel
theorem dX6_read_0 : decode cX6_read 0 = .ok (.aload_n 0, 1) := by decide +kernel
theorem dX6_read_1 : decode cX6_read 1 = .ok (.iconst 0, 1) := by decide +kernel
theorem dX6_read_2 : decode cX6_read 2 = .ok (.putfield 36, 3) := by decide +kernel
theorem dX6_read_5 : decode cX6_read 5 = .ok (.aload_n 0, 1) := by decide +kernel
theorem dX6_read_6 : decode cX6_read 6 = .ok (.iload_n 1, 1) := by decide +kernel
theorem dX6_read_7 : decode cX6_read 7 = .ok (.invokevirtual 86, 3) := by decide +kernel
theorem dX6_read_10 : decode cX6_read 10 = .ok (.ifCond .eq 20, 3) := by decide +kernel
theorem dX6_read_13 : decode cX6_read 13 = .ok (.aload_n 0, 1) := by decide +kernel
theorem dX6_read_14 : decode cX6_read 14 = .ok (.iload_n 2, 1) := by decide +kernel
theorem dX6_read_15 : decode cX6_read 15 = .ok (.invokevirtual 96, 3) := by decide +kernel
theorem dX6_read_18 : decode cX6_read 18 = .ok (.ifCond .eq 12, 3) := by decide +kernel
theorem dX6_read_21 : decode cX6_read 21 = .ok (.iload_n 3, 1) := by decide +kernel
theorem dX6_read_22 : decode cX6_read 22 = .ok (.iconst 0, 1) := by decide +kernel
theorem dX6_read_23 : decode cX6_read 23 = .ok (.iconst 1, 1) := by decide +kernel
theorem dX6_read_24 : decode cX6_read 24 = .ok (.invokestatic 69, 3) := by decide +kernel
theorem dX6_read_27 : decode cX6_read 27 = .ok (.ifCond .ne 5, 3) := by decide +kernel
theorem dX6_read_30 : decode cX6_read 30 = .ok (.iconst (-1), 1) := by decide +kernel
theorem dX6_read_31 : decode cX6_read 31 = .ok (.ireturn, 1) := by decide +kernel
theorem dX6_read_32 : decode cX6_read 32 = .ok (.iload_n 1, 1) := by decide +kernel
theorem dX6_read_33 : decode cX6_read 33 = .ok (.invokestatic 40, 3) := by decide +kernel
theorem dX6_read_36 : decode cX6_read 36 = .ok (.istore 4, 2) := by decide +kernel
theorem dX6_read_38 : decode cX6_read 38 = .ok (.aload_n 0, 1) := by decide +kernel
theorem dX6_read_39 : decode cX6_read 39 = .ok (.iload_n 1, 1) := by decide +kernel
theorem dX6_read_40 : decode cX6_read 40 = .ok (.invokevirtual 79, 3) := by decide +kernel
theorem dX6_read_43 : decode cX6_read 43 = .ok (.ifCond .ne 39, 3) := by decide +kernel
theorem dX6_read_46 : decode cX6_read 46 = .ok (.aload_n 0, 1) := by decide +kernel
theorem dX6_read_47 : decode cX6_read 47 = .ok (.getfield 7, 3) := by decide +kernel
theorem dX6_read_50 : decode cX6_read 50 = .ok (.iload 4, 2) := by decide +kernel
theorem dX6_read_52 : decode cX6_read 52 = .ok (.iconst 5, 1) := by decide +kernel
theorem dX6_read_53 : decode cX6_read 53 = .ok (.iadd, 1) := by decide +kernel
theorem dX6_read_54 : decode cX6_read 54 = .ok (.iaload, 1) := by decide +kernel
theorem dX6_read_55 : decode cX6_read 55 = .ok (.ifCond .ne 27, 3) := by decide +kernel
theorem dX6_read_58 : decode cX6_read 58 = .ok (.aload_n 0, 1) := by decide +kernel
theorem dX6_read_59 : decode cX6_read 59 = .ok (.getfield 7, 3) := by decide +kernel
theorem dX6_read_62 : decode cX6_read 62 = .ok (.iload 4, 2) := by decide +kernel
theorem dX6_read_64 : decode cX6_read 64 = .ok (.iconst 2, 1) := by decide +kernel
theorem dX6_read_65 : decode cX6_read 65 = .ok (.iadd, 1) := by decide +kernel
theorem dX6_read_66 : decode cX6_read 66 = .ok (.iaload, 1) := by decide +kernel
theorem dX6_read_67 : decode cX6_read 67 = .ok (.aload_n 0, 1) := by decide +kernel
theorem dX6_read_68 : decode cX6_read 68 = .ok (.getfield 7, 3) := by decide +kernel
theorem dX6_read_71 : decode cX6_read 71 = .ok (.iconst 0, 1) := by decide +kernel
theorem dX6_read_72 : decode cX6_read 72 = .ok (.iaload, 1) := by decide +kernel
theorem dX6_read_73 : decode cX6_read 73 = .ok (.irem, 1) := by decide +kernel
theorem dX6_read_74 : decode cX6_read 74 = .ok (.iload_n 2, 1) := by decide +kernel
theorem dX6_read_75 : decode cX6_read 75 = .ok (.if_icmp .le 7, 3) := by decide +kernel
theorem dX6_read_78 : decode cX6_read 78 = .ok (.iconst 1, 1) := by decide +kernel
theorem dX6_read_79 : decode cX6_read 79 = .ok (.goto 4, 3) := by decide +kernel
theorem dX6_read_82 : decode cX6_read 82 = .ok (.iconst 0, 1) := by decide +kernel
theorem dX6_read_83 : decode cX6_read 83 = .ok (.istore 5, 2) := by decide +kernel
theorem dX6_read_85 : decode cX6_read 85 = .ok (.iload 5, 2) := by decide +kernel
theorem dX6_read_87 : decode cX6_read 87 = .ok (.ifCond .eq 23, 3) := by decide +kernel
theorem dX6_read_90 : decode cX6_read 90 = .ok (.aload_n 0, 1) := by decide +kernel
theorem dX6_read_91 : decode cX6_read 91 = .ok (.getfield 7, 3) := by decide +kernel
theorem dX6_read_94 : decode cX6_read 94 = .ok (.iload 4, 2) := by decide +kernel
theorem dX6_read_96 : decode cX6_read 96 = .ok (.bipush 14, 2) := by decide +kernel
theorem dX6_read_98 : decode cX6_read 98 = .ok (.iadd, 1) := by decide +kernel
theorem dX6_read_99 : decode cX6_read 99 = .ok (.bipush 6, 2) := by decide +kernel
theorem dX6_read_101 : decode cX6_read 101 = .ok (.iload_n 2, 1) := by decide +kernel
theorem dX6_read_102 : decode cX6_read 102 = .ok (.imul, 1) := by decide +kernel
theorem dX6_read_103 : decode cX6_read 103 = .ok (.iadd, 1) := by decide +kernel
theorem dX6_read_104 : decode cX6_read 104 = .ok (.iload_n 3, 1) := by decide +kernel
theorem dX6_read_105 : decode cX6_read 105 = .ok (.iadd, 1) := by decide +kernel
theorem dX6_read_106 : decode cX6_read 106 = .ok (.iaload, 1) := by decide +kernel
theorem dX6_read_107 : decode cX6_read 107 = .ok (.goto 5, 3) := by decide +kernel
theorem dX6_read_110 : decode cX6_read 110 = .ok (.bipush (-9), 2) := by decide +kernel
theorem dX6_read_112 : decode cX6_read 112 = .ok (.ireturn, 1) := by decide +kernel
theorem dX6_valueAt_0 : decode cX6_valueAt 0 = .ok (.iconst 0, 1) := by decide +kernel
theorem dX6_valueAt_1 : decode cX6_valueAt 1 = .ok (.istore_n 3, 1) := by decide +kernel
theorem dX6_valueAt_2 : decode cX6_valueAt 2 = .ok (.iconst 0, 1) := by decide +kernel
theorem dX6_valueAt_3 : decode cX6_valueAt 3 = .ok (.istore 4, 2) := by decide +kernel
theorem dX6_valueAt_5 : decode cX6_valueAt 5 = .ok (.iload 4, 2) := by decide +kernel
theorem dX6_valueAt_7 : decode cX6_valueAt 7 = .ok (.aload_n 0, 1) := by decide +kernel
theorem dX6_valueAt_8 : decode cX6_valueAt 8 = .ok (.getfield 7, 3) := by decide +kernel
theorem dX6_valueAt_11 : decode cX6_valueAt 11 = .ok (.bipush 6, 2) := by decide +kernel
theorem dX6_valueAt_13 : decode cX6_valueAt 13 = .ok (.iaload, 1) := by decide +kernel
theorem dX6_valueAt_14 : decode cX6_valueAt 14 = .ok (.if_icmp .ge 57, 3) := by decide +kernel
theorem dX6_valueAt_17 : decode cX6_valueAt 17 = .ok (.sipush 440, 3) := by decide +kernel
theorem dX6_valueAt_20 : decode cX6_valueAt 20 = .ok (.iconst 3, 1) := by decide +kernel
theorem dX6_valueAt_21 : decode cX6_valueAt 21 = .ok (.iload 4, 2) := by decide +kernel
theorem dX6_valueAt_23 : decode cX6_valueAt 23 = .ok (.imul, 1) := by decide +kernel
theorem dX6_valueAt_24 : decode cX6_valueAt 24 = .ok (.iadd, 1) := by decide +kernel
theorem dX6_valueAt_25 : decode cX6_valueAt 25 = .ok (.istore 5, 2) := by decide +kernel
theorem dX6_valueAt_27 : decode cX6_valueAt 27 = .ok (.aload_n 0, 1) := by decide +kernel
theorem dX6_valueAt_28 : decode cX6_valueAt 28 = .ok (.getfield 7, 3) := by decide +kernel
theorem dX6_valueAt_31 : decode cX6_valueAt 31 = .ok (.iload 5, 2) := by decide +kernel
theorem dX6_valueAt_33 : decode cX6_valueAt 33 = .ok (.iaload, 1) := by decide +kernel
theorem dX6_valueAt_34 : decode cX6_valueAt 34 = .ok (.iload_n 2, 1) := by decide +kernel
theorem dX6_valueAt_35 : decode cX6_valueAt 35 = .ok (.if_icmp .gt 28, 3) := by decide +kernel
theorem dX6_valueAt_38 : decode cX6_valueAt 38 = .ok (.aload_n 0, 1) := by decide +kernel
theorem dX6_valueAt_39 : decode cX6_valueAt 39 = .ok (.getfield 7, 3) := by decide +kernel
theorem dX6_valueAt_42 : decode cX6_valueAt 42 = .ok (.iload 5, 2) := by decide +kernel
theorem dX6_valueAt_44 : decode cX6_valueAt 44 = .ok (.iconst 1, 1) := by decide +kernel
theorem dX6_valueAt_45 : decode cX6_valueAt 45 = .ok (.iadd, 1) := by decide +kernel
theorem dX6_valueAt_46 : decode cX6_valueAt 46 = .ok (.iaload, 1) := by decide +kernel
theorem dX6_valueAt_47 : decode cX6_valueAt 47 = .ok (.iload_n 1, 1) := by decide +kernel
theorem dX6_valueAt_48 : decode cX6_valueAt 48 = .ok (.if_icmp .ne 15, 3) := by decide +kernel
theorem dX6_valueAt_51 : decode cX6_valueAt 51 = .ok (.aload_n 0, 1) := by decide +kernel
theorem dX6_valueAt_52 : decode cX6_valueAt 52 = .ok (.getfield 7, 3) := by decide +kernel
theorem dX6_valueAt_55 : decode cX6_valueAt 55 = .ok (.iload 5, 2) := by decide +kernel
theorem dX6_valueAt_57 : decode cX6_valueAt 57 = .ok (.iconst 2, 1) := by decide +kernel
theorem dX6_valueAt_58 : decode cX6_valueAt 58 = .ok (.iadd, 1) := by decide +kernel
theorem dX6_valueAt_59 : decode cX6_valueAt 59 = .ok (.iaload, 1) := by decide +kernel
theorem dX6_valueAt_60 : decode cX6_valueAt 60 = .ok (.goto 4, 3) := by decide +kernel
theorem dX6_valueAt_63 : decode cX6_valueAt 63 = .ok (.iload_n 3, 1) := by decide +kernel
theorem dX6_valueAt_64 : decode cX6_valueAt 64 = .ok (.istore_n 3, 1) := by decide +kernel
theorem dX6_valueAt_65 : decode cX6_valueAt 65 = .ok (.iinc 4 1, 3) := by decide +kernel
theorem dX6_valueAt_68 : decode cX6_valueAt 68 = .ok (.goto (-63), 3) := by decide +kernel
theorem dX6_valueAt_71 : decode cX6_valueAt 71 = .ok (.iload_n 3, 1) := by decide +kernel
theorem dX6_valueAt_72 : decode cX6_valueAt 72 = .ok (.ireturn, 1) := by decide +kernel
theorem dX6_momentOf_0 : decode cX6_momentOf 0 = .ok (.sipush 200, 3) := by decide +kernel
theorem dX6_momentOf_3 : decode cX6_momentOf 3 = .ok (.bipush 10, 2) := by decide +kernel
theorem dX6_momentOf_5 : decode cX6_momentOf 5 = .ok (.iload_n 1, 1) := by decide +kernel
theorem dX6_momentOf_6 : decode cX6_momentOf 6 = .ok (.imul, 1) := by decide +kernel
theorem dX6_momentOf_7 : decode cX6_momentOf 7 = .ok (.iadd, 1) := by decide +kernel
theorem dX6_momentOf_8 : decode cX6_momentOf 8 = .ok (.istore_n 2, 1) := by decide +kernel
theorem dX6_momentOf_9 : decode cX6_momentOf 9 = .ok (.aload_n 0, 1) := by decide +kernel
theorem dX6_momentOf_10 : decode cX6_momentOf 10 = .ok (.getfield 7, 3) := by decide +kernel
theorem dX6_momentOf_13 : decode cX6_momentOf 13 = .ok (.iload_n 2, 1) := by decide +kernel
theorem dX6_momentOf_14 : decode cX6_momentOf 14 = .ok (.iconst 1, 1) := by decide +kernel
theorem dX6_momentOf_15 : decode cX6_momentOf 15 = .ok (.iadd, 1) := by decide +kernel
theorem dX6_momentOf_16 : decode cX6_momentOf 16 = .ok (.iaload, 1) := by decide +kernel
theorem dX6_momentOf_17 : decode cX6_momentOf 17 = .ok (.istore_n 3, 1) := by decide +kernel
theorem dX6_momentOf_18 : decode cX6_momentOf 18 = .ok (.iload_n 3, 1) := by decide +kernel
theorem dX6_momentOf_19 : decode cX6_momentOf 19 = .ok (.aload_n 0, 1) := by decide +kernel
theorem dX6_momentOf_20 : decode cX6_momentOf 20 = .ok (.getfield 7, 3) := by decide +kernel
theorem dX6_momentOf_23 : decode cX6_momentOf 23 = .ok (.iload_n 2, 1) := by decide +kernel
theorem dX6_momentOf_24 : decode cX6_momentOf 24 = .ok (.iconst 2, 1) := by decide +kernel
theorem dX6_momentOf_25 : decode cX6_momentOf 25 = .ok (.iadd, 1) := by decide +kernel
theorem dX6_momentOf_26 : decode cX6_momentOf 26 = .ok (.iaload, 1) := by decide +kernel
theorem dX6_momentOf_27 : decode cX6_momentOf 27 = .ok (.if_icmp .gt 73, 3) := by decide +kernel
theorem dX6_momentOf_30 : decode cX6_momentOf 30 = .ok (.iconst 1, 1) := by decide +kernel
theorem dX6_momentOf_31 : decode cX6_momentOf 31 = .ok (.istore 4, 2) := by decide +kernel
theorem dX6_momentOf_33 : decode cX6_momentOf 33 = .ok (.iconst 0, 1) := by decide +kernel
theorem dX6_momentOf_34 : decode cX6_momentOf 34 = .ok (.istore 5, 2) := by decide +kernel
theorem dX6_momentOf_36 : decode cX6_momentOf 36 = .ok (.iload 5, 2) := by decide +kernel
theorem dX6_momentOf_38 : decode cX6_momentOf 38 = .ok (.aload_n 0, 1) := by decide +kernel
theorem dX6_momentOf_39 : decode cX6_momentOf 39 = .ok (.getfield 7, 3) := by decide +kernel
theorem dX6_momentOf_42 : decode cX6_momentOf 42 = .ok (.iconst 0, 1) := by decide +kernel
theorem dX6_momentOf_43 : decode cX6_momentOf 43 = .ok (.iaload, 1) := by decide +kernel
theorem dX6_momentOf_44 : decode cX6_momentOf 44 = .ok (.if_icmp .ge 43, 3) := by decide +kernel
theorem dX6_momentOf_47 : decode cX6_momentOf 47 = .ok (.iload 4, 2) := by decide +kernel
theorem dX6_momentOf_49 : decode cX6_momentOf 49 = .ok (.ifCond .eq 38, 3) := by decide +kernel
theorem dX6_momentOf_52 : decode cX6_momentOf 52 = .ok (.aload_n 0, 1) := by decide +kernel
theorem dX6_momentOf_53 : decode cX6_momentOf 53 = .ok (.iload 5, 2) := by decide +kernel
theorem dX6_momentOf_55 : decode cX6_momentOf 55 = .ok (.iload_n 3, 1) := by decide +kernel
theorem dX6_momentOf_56 : decode cX6_momentOf 56 = .ok (.invokevirtual 99, 3) := by decide +kernel
theorem dX6_momentOf_59 : decode cX6_momentOf 59 = .ok (.aload_n 0, 1) := by decide +kernel
theorem dX6_momentOf_60 : decode cX6_momentOf 60 = .ok (.getfield 7, 3) := by decide +kernel
theorem dX6_momentOf_63 : decode cX6_momentOf 63 = .ok (.iload_n 2, 1) := by decide +kernel
theorem dX6_momentOf_64 : decode cX6_momentOf 64 = .ok (.bipush 6, 2) := by decide +kernel
theorem dX6_momentOf_66 : decode cX6_momentOf 66 = .ok (.iadd, 1) := by decide +kernel
theorem dX6_momentOf_67 : decode cX6_momentOf 67 = .ok (.iload 5, 2) := by decide +kernel
theorem dX6_momentOf_69 : decode cX6_momentOf 69 = .ok (.iadd, 1) := by decide +kernel
theorem dX6_momentOf_70 : decode cX6_momentOf 70 = .ok (.iaload, 1) := by decide +kernel
theorem dX6_momentOf_71 : decode cX6_momentOf 71 = .ok (.if_icmp .ne 7, 3) := by decide +kernel
theorem dX6_momentOf_74 : decode cX6_momentOf 74 = .ok (.iconst 1, 1) := by decide +kernel
theorem dX6_momentOf_75 : decode cX6_momentOf 75 = .ok (.goto 4, 3) := by decide +kernel
theorem dX6_momentOf_78 : decode cX6_momentOf 78 = .ok (.iconst 0, 1) := by decide +kernel
theorem dX6_momentOf_79 : decode cX6_momentOf 79 = .ok (.istore 4, 2) := by decide +kernel
theorem dX6_momentOf_81 : decode cX6_momentOf 81 = .ok (.iinc 5 1, 3) := by decide +kernel
theorem dX6_momentOf_84 : decode cX6_momentOf 84 = .ok (.goto (-48), 3) := by decide +kernel
theorem dX6_momentOf_87 : decode cX6_momentOf 87 = .ok (.iload 4, 2) := by decide +kernel
theorem dX6_momentOf_89 : decode cX6_momentOf 89 = .ok (.ifCond .eq 5, 3) := by decide +kernel
theorem dX6_momentOf_92 : decode cX6_momentOf 92 = .ok (.iload_n 3, 1) := by decide +kernel
theorem dX6_momentOf_93 : decode cX6_momentOf 93 = .ok (.ireturn, 1) := by decide +kernel
theorem dX6_momentOf_94 : decode cX6_momentOf 94 = .ok (.iinc 3 1, 3) := by decide +kernel
theorem dX6_momentOf_97 : decode cX6_momentOf 97 = .ok (.goto (-79), 3) := by decide +kernel
theorem dX6_momentOf_100 : decode cX6_momentOf 100 = .ok (.bipush (-9), 2) := by decide +kernel
theorem dX6_momentOf_102 : decode cX6_momentOf 102 = .ok (.ireturn, 1) := by decide +kernel
theorem dX6_photo_0 : decode cX6_photo 0 = .ok (.aload_n 0, 1) := by decide +kernel
theorem dX6_photo_1 : decode cX6_photo 1 = .ok (.iconst 0, 1) := by decide +kernel
theorem dX6_photo_2 : decode cX6_photo 2 = .ok (.putfield 36, 3) := by decide +kernel
theorem dX6_photo_5 : decode cX6_photo 5 = .ok (.iload_n 1, 1) := by decide +kernel
theorem dX6_photo_6 : decode cX6_photo 6 = .ok (.iconst 0, 1) := by decide +kernel
theorem dX6_photo_7 : decode cX6_photo 7 = .ok (.aload_n 0, 1) := by decide +kernel
theorem dX6_photo_8 : decode cX6_photo 8 = .ok (.getfield 7, 3) := by decide +kernel
theorem dX6_photo_11 : decode cX6_photo 11 = .ok (.iconst 5, 1) := by decide +kernel
theorem dX6_photo_12 : decode cX6_photo 12 = .ok (.iaload, 1) := by decide +kernel
theorem dX6_photo_13 : decode cX6_photo 13 = .ok (.iconst 1, 1) := by decide +kernel
theorem dX6_photo_14 : decode cX6_photo 14 = .ok (.isub, 1) := by decide +kernel
theorem dX6_photo_15 : decode cX6_photo 15 = .ok (.invokestatic 69, 3) := by decide +kernel
theorem dX6_photo_18 : decode cX6_photo 18 = .ok (.ifCond .eq 13, 3) := by decide +kernel
theorem dX6_photo_21 : decode cX6_photo 21 = .ok (.iload_n 2, 1) := by decide +kernel
theorem dX6_photo_22 : decode cX6_photo 22 = .ok (.iconst 0, 1) := by decide +kernel
theorem dX6_photo_23 : decode cX6_photo 23 = .ok (.bipush 10, 2) := by decide +kernel
theorem dX6_photo_25 : decode cX6_photo 25 = .ok (.invokestatic 69, 3) := by decide +kernel
theorem dX6_photo_28 : decode cX6_photo 28 = .ok (.ifCond .ne 5, 3) := by decide +kernel
theorem dX6_photo_31 : decode cX6_photo 31 = .ok (.iconst (-1), 1) := by decide +kernel
theorem dX6_photo_32 : decode cX6_photo 32 = .ok (.ireturn, 1) := by decide +kernel
theorem dX6_photo_33 : decode cX6_photo 33 = .ok (.iload_n 2, 1) := by decide +kernel
theorem dX6_photo_34 : decode cX6_photo 34 = .ok (.bipush 10, 2) := by decide +kernel
theorem dX6_photo_36 : decode cX6_photo 36 = .ok (.if_icmp .ne 11, 3) := by decide +kernel
theorem dX6_photo_39 : decode cX6_photo 39 = .ok (.aload_n 0, 1) := by decide +kernel
theorem dX6_photo_40 : decode cX6_photo 40 = .ok (.iload_n 1, 1) := by decide +kernel
theorem dX6_photo_41 : decode cX6_photo 41 = .ok (.invokevirtual 103, 3) := by decide +kernel
theorem dX6_photo_44 : decode cX6_photo 44 = .ok (.goto 18, 3) := by decide +kernel
theorem dX6_photo_47 : decode cX6_photo 47 = .ok (.aload_n 0, 1) := by decide +kernel
theorem dX6_photo_48 : decode cX6_photo 48 = .ok (.getfield 7, 3) := by decide +kernel
theorem dX6_photo_51 : decode cX6_photo 51 = .ok (.sipush 200, 3) := by decide +kernel
theorem dX6_photo_54 : decode cX6_photo 54 = .ok (.bipush 10, 2) := by decide +kernel
theorem dX6_photo_56 : decode cX6_photo 56 = .ok (.iload_n 1, 1) := by decide +kernel
theorem dX6_photo_57 : decode cX6_photo 57 = .ok (.imul, 1) := by decide +kernel
theorem dX6_photo_58 : decode cX6_photo 58 = .ok (.iadd, 1) := by decide +kernel
theorem dX6_photo_59 : decode cX6_photo 59 = .ok (.iload_n 2, 1) := by decide +kernel
theorem dX6_photo_60 : decode cX6_photo 60 = .ok (.iadd, 1) := by decide +kernel
theorem dX6_photo_61 : decode cX6_photo 61 = .ok (.iaload, 1) := by decide +kernel
theorem dX6_photo_62 : decode cX6_photo 62 = .ok (.ireturn, 1) := by decide +kernel
theorem dX6_asNow_0 : decode cX6_asNow 0 = .ok (.iconst 0, 1) := by decide +kernel
theorem dX6_asNow_1 : decode cX6_asNow 1 = .ok (.istore_n 1, 1) := by decide +kernel
theorem dX6_asNow_2 : decode cX6_asNow 2 = .ok (.iload_n 1, 1) := by decide +kernel
theorem dX6_asNow_3 : decode cX6_asNow 3 = .ok (.sipush 512, 3) := by decide +kernel
theorem dX6_asNow_6 : decode cX6_asNow 6 = .ok (.if_icmp .ge 21, 3) := by decide +kernel
theorem dX6_asNow_9 : decode cX6_asNow 9 = .ok (.aload_n 0, 1) := by decide +kernel
theorem dX6_asNow_10 : decode cX6_asNow 10 = .ok (.getfield 13, 3) := by decide +kernel
theorem dX6_asNow_13 : decode cX6_asNow 13 = .ok (.iload_n 1, 1) := by decide +kernel
theorem dX6_asNow_14 : decode cX6_asNow 14 = .ok (.aload_n 0, 1) := by decide +kernel
theorem dX6_asNow_15 : decode cX6_asNow 15 = .ok (.getfield 7, 3) := by decide +kernel
theorem dX6_asNow_18 : decode cX6_asNow 18 = .ok (.iload_n 1, 1) := by decide +kernel
theorem dX6_asNow_19 : decode cX6_asNow 19 = .ok (.iaload, 1) := by decide +kernel
theorem dX6_asNow_20 : decode cX6_asNow 20 = .ok (.iastore, 1) := by decide +kernel
theorem dX6_asNow_21 : decode cX6_asNow 21 = .ok (.iinc 1 1, 3) := by decide +kernel
theorem dX6_asNow_24 : decode cX6_asNow 24 = .ok (.goto (-22), 3) := by decide +kernel
theorem dX6_asNow_27 : decode cX6_asNow 27 = .ok (.return_, 1) := by decide +kernel
theorem dX6_lone_0 : decode cX6_lone 0 = .ok (.aload_n 0, 1) := by decide +kernel
theorem dX6_lone_1 : decode cX6_lone 1 = .ok (.iconst 0, 1) := by decide +kernel
theorem dX6_lone_2 : decode cX6_lone 2 = .ok (.putfield 36, 3) := by decide +kernel
theorem dX6_lone_5 : decode cX6_lone 5 = .ok (.aload_n 0, 1) := by decide +kernel
theorem dX6_lone_6 : decode cX6_lone 6 = .ok (.iload_n 1, 1) := by decide +kernel
theorem dX6_lone_7 : decode cX6_lone 7 = .ok (.invokevirtual 86, 3) := by decide +kernel
theorem dX6_lone_10 : decode cX6_lone 10 = .ok (.ifCond .ne 5, 3) := by decide +kernel
theorem dX6_lone_13 : decode cX6_lone 13 = .ok (.iconst (-1), 1) := by decide +kernel
theorem dX6_lone_14 : decode cX6_lone 14 = .ok (.ireturn, 1) := by decide +kernel
theorem dX6_lone_15 : decode cX6_lone 15 = .ok (.aload_n 0, 1) := by decide +kernel
theorem dX6_lone_16 : decode cX6_lone 16 = .ok (.invokevirtual 106, 3) := by decide +kernel
theorem dX6_lone_19 : decode cX6_lone 19 = .ok (.iconst 0, 1) := by decide +kernel
theorem dX6_lone_20 : decode cX6_lone 20 = .ok (.istore_n 2, 1) := by decide +kernel
theorem dX6_lone_21 : decode cX6_lone 21 = .ok (.aload_n 0, 1) := by decide +kernel
theorem dX6_lone_22 : decode cX6_lone 22 = .ok (.getfield 13, 3) := by decide +kernel
theorem dX6_lone_25 : decode cX6_lone 25 = .ok (.iload_n 1, 1) := by decide +kernel
theorem dX6_lone_26 : decode cX6_lone 26 = .ok (.invokestatic 40, 3) := by decide +kernel
theorem dX6_lone_29 : decode cX6_lone 29 = .ok (.iconst 0, 1) := by decide +kernel
theorem dX6_lone_30 : decode cX6_lone 30 = .ok (.iadd, 1) := by decide +kernel
theorem dX6_lone_31 : decode cX6_lone 31 = .ok (.iaload, 1) := by decide +kernel
theorem dX6_lone_32 : decode cX6_lone 32 = .ok (.ifCond .eq 17, 3) := by decide +kernel
theorem dX6_lone_35 : decode cX6_lone 35 = .ok (.aload_n 0, 1) := by decide +kernel
theorem dX6_lone_36 : decode cX6_lone 36 = .ok (.getfield 13, 3) := by decide +kernel
theorem dX6_lone_39 : decode cX6_lone 39 = .ok (.iload_n 1, 1) := by decide +kernel
theorem dX6_lone_40 : decode cX6_lone 40 = .ok (.invokestatic 93, 3) := by decide +kernel
theorem dX6_lone_43 : decode cX6_lone 43 = .ok (.iinc 2 1, 3) := by decide +kernel
theorem dX6_lone_46 : decode cX6_lone 46 = .ok (.goto (-25), 3) := by decide +kernel
theorem dX6_lone_49 : decode cX6_lone 49 = .ok (.iload_n 2, 1) := by decide +kernel
theorem dX6_lone_50 : decode cX6_lone 50 = .ok (.ireturn, 1) := by decide +kernel
theorem dX6_byTurns_0 : decode cX6_byTurns 0 = .ok (.aload_n 0, 1) := by decide +kernel
theorem dX6_byTurns_1 : decode cX6_byTurns 1 = .ok (.iconst 0, 1) := by decide +kernel
theorem dX6_byTurns_2 : decode cX6_byTurns 2 = .ok (.putfield 36, 3) := by decide +kernel
theorem dX6_byTurns_5 : decode cX6_byTurns 5 = .ok (.aload_n 0, 1) := by decide +kernel
theorem dX6_byTurns_6 : decode cX6_byTurns 6 = .ok (.invokevirtual 106, 3) := by decide +kernel
theorem dX6_byTurns_9 : decode cX6_byTurns 9 = .ok (.iconst 0, 1) := by decide +kernel
theorem dX6_byTurns_10 : decode cX6_byTurns 10 = .ok (.istore_n 1, 1) := by decide +kernel
theorem dX6_byTurns_11 : decode cX6_byTurns 11 = .ok (.iconst 1, 1) := by decide +kernel
theorem dX6_byTurns_12 : decode cX6_byTurns 12 = .ok (.istore_n 2, 1) := by decide +kernel
theorem dX6_byTurns_13 : decode cX6_byTurns 13 = .ok (.iload_n 2, 1) := by decide +kernel
theorem dX6_byTurns_14 : decode cX6_byTurns 14 = .ok (.ifCond .eq 53, 3) := by decide +kernel
theorem dX6_byTurns_17 : decode cX6_byTurns 17 = .ok (.iconst 0, 1) := by decide +kernel
theorem dX6_byTurns_18 : decode cX6_byTurns 18 = .ok (.istore_n 2, 1) := by decide +kernel
theorem dX6_byTurns_19 : decode cX6_byTurns 19 = .ok (.iconst 0, 1) := by decide +kernel
theorem dX6_byTurns_20 : decode cX6_byTurns 20 = .ok (.istore_n 3, 1) := by decide +kernel
theorem dX6_byTurns_21 : decode cX6_byTurns 21 = .ok (.iload_n 3, 1) := by decide +kernel
theorem dX6_byTurns_22 : decode cX6_byTurns 22 = .ok (.aload_n 0, 1) := by decide +kernel
theorem dX6_byTurns_23 : decode cX6_byTurns 23 = .ok (.getfield 7, 3) := by decide +kernel
theorem dX6_byTurns_26 : decode cX6_byTurns 26 = .ok (.iconst 0, 1) := by decide +kernel
theorem dX6_byTurns_27 : decode cX6_byTurns 27 = .ok (.iaload, 1) := by decide +kernel
theorem dX6_byTurns_28 : decode cX6_byTurns 28 = .ok (.if_icmp .ge 36, 3) := by decide +kernel
theorem dX6_byTurns_31 : decode cX6_byTurns 31 = .ok (.aload_n 0, 1) := by decide +kernel
theorem dX6_byTurns_32 : decode cX6_byTurns 32 = .ok (.getfield 13, 3) := by decide +kernel
theorem dX6_byTurns_35 : decode cX6_byTurns 35 = .ok (.iload_n 3, 1) := by decide +kernel
theorem dX6_byTurns_36 : decode cX6_byTurns 36 = .ok (.invokestatic 40, 3) := by decide +kernel
theorem dX6_byTurns_39 : decode cX6_byTurns 39 = .ok (.iconst 0, 1) := by decide +kernel
theorem dX6_byTurns_40 : decode cX6_byTurns 40 = .ok (.iadd, 1) := by decide +kernel
theorem dX6_byTurns_41 : decode cX6_byTurns 41 = .ok (.iaload, 1) := by decide +kernel
theorem dX6_byTurns_42 : decode cX6_byTurns 42 = .ok (.ifCond .eq 16, 3) := by decide +kernel
theorem dX6_byTurns_45 : decode cX6_byTurns 45 = .ok (.aload_n 0, 1) := by decide +kernel
theorem dX6_byTurns_46 : decode cX6_byTurns 46 = .ok (.getfield 13, 3) := by decide +kernel
theorem dX6_byTurns_49 : decode cX6_byTurns 49 = .ok (.iload_n 3, 1) := by decide +kernel
theorem dX6_byTurns_50 : decode cX6_byTurns 50 = .ok (.invokestatic 93, 3) := by decide +kernel
theorem dX6_byTurns_53 : decode cX6_byTurns 53 = .ok (.iinc 1 1, 3) := by decide +kernel
theorem dX6_byTurns_56 : decode cX6_byTurns 56 = .ok (.iconst 1, 1) := by decide +kernel
theorem dX6_byTurns_57 : decode cX6_byTurns 57 = .ok (.istore_n 2, 1) := by decide +kernel
theorem dX6_byTurns_58 : decode cX6_byTurns 58 = .ok (.iinc 3 1, 3) := by decide +kernel
theorem dX6_byTurns_61 : decode cX6_byTurns 61 = .ok (.goto (-40), 3) := by decide +kernel
theorem dX6_byTurns_64 : decode cX6_byTurns 64 = .ok (.goto (-51), 3) := by decide +kernel
theorem dX6_byTurns_67 : decode cX6_byTurns 67 = .ok (.iload_n 1, 1) := by decide +kernel
theorem dX6_byTurns_68 : decode cX6_byTurns 68 = .ok (.ireturn, 1) := by decide +kernel
theorem dX6_reads_0 : decode cX6_reads 0 = .ok (.aload_n 0, 1) := by decide +kernel
theorem dX6_reads_1 : decode cX6_reads 1 = .ok (.iconst 0, 1) := by decide +kernel
theorem dX6_reads_2 : decode cX6_reads 2 = .ok (.putfield 36, 3) := by decide +kernel
theorem dX6_reads_5 : decode cX6_reads 5 = .ok (.iload_n 1, 1) := by decide +kernel
theorem dX6_reads_6 : decode cX6_reads 6 = .ok (.iconst 0, 1) := by decide +kernel
theorem dX6_reads_7 : decode cX6_reads 7 = .ok (.bipush 99, 2) := by decide +kernel
theorem dX6_reads_9 : decode cX6_reads 9 = .ok (.invokestatic 69, 3) := by decide +kernel
theorem dX6_reads_12 : decode cX6_reads 12 = .ok (.ifCond .eq 12, 3) := by decide +kernel
theorem dX6_reads_15 : decode cX6_reads 15 = .ok (.iload_n 2, 1) := by decide +kernel
theorem dX6_reads_16 : decode cX6_reads 16 = .ok (.iconst 0, 1) := by decide +kernel
theorem dX6_reads_17 : decode cX6_reads 17 = .ok (.iconst 2, 1) := by decide +kernel
theorem dX6_reads_18 : decode cX6_reads 18 = .ok (.invokestatic 69, 3) := by decide +kernel
theorem dX6_reads_21 : decode cX6_reads 21 = .ok (.ifCond .ne 5, 3) := by decide +kernel
theorem dX6_reads_24 : decode cX6_reads 24 = .ok (.iconst (-1), 1) := by decide +kernel
theorem dX6_reads_25 : decode cX6_reads 25 = .ok (.ireturn, 1) := by decide +kernel
theorem dX6_reads_26 : decode cX6_reads 26 = .ok (.iconst 0, 1) := by decide +kernel
theorem dX6_reads_27 : decode cX6_reads 27 = .ok (.istore_n 3, 1) := by decide +kernel
theorem dX6_reads_28 : decode cX6_reads 28 = .ok (.bipush (-9), 2) := by decide +kernel
theorem dX6_reads_30 : decode cX6_reads 30 = .ok (.istore 4, 2) := by decide +kernel
theorem dX6_reads_32 : decode cX6_reads 32 = .ok (.bipush (-9), 2) := by decide +kernel
theorem dX6_reads_34 : decode cX6_reads 34 = .ok (.istore 5, 2) := by decide +kernel
theorem dX6_reads_36 : decode cX6_reads 36 = .ok (.iconst 0, 1) := by decide +kernel
theorem dX6_reads_37 : decode cX6_reads 37 = .ok (.istore 6, 2) := by decide +kernel
theorem dX6_reads_39 : decode cX6_reads 39 = .ok (.iload 6, 2) := by decide +kernel
theorem dX6_reads_41 : decode cX6_reads 41 = .ok (.aload_n 0, 1) := by decide +kernel
theorem dX6_reads_42 : decode cX6_reads 42 = .ok (.getfield 7, 3) := by decide +kernel
theorem dX6_reads_45 : decode cX6_reads 45 = .ok (.iconst 5, 1) := by decide +kernel
theorem dX6_reads_46 : decode cX6_reads 46 = .ok (.iaload, 1) := by decide +kernel
theorem dX6_reads_47 : decode cX6_reads 47 = .ok (.if_icmp .ge 92, 3) := by decide +kernel
theorem dX6_reads_50 : decode cX6_reads 50 = .ok (.aload_n 0, 1) := by decide +kernel
theorem dX6_reads_51 : decode cX6_reads 51 = .ok (.getfield 7, 3) := by decide +kernel
theorem dX6_reads_54 : decode cX6_reads 54 = .ok (.sipush 200, 3) := by decide +kernel
theorem dX6_reads_57 : decode cX6_reads 57 = .ok (.bipush 10, 2) := by decide +kernel
theorem dX6_reads_59 : decode cX6_reads 59 = .ok (.iload 6, 2) := by decide +kernel
theorem dX6_reads_61 : decode cX6_reads 61 = .ok (.imul, 1) := by decide +kernel
theorem dX6_reads_62 : decode cX6_reads 62 = .ok (.iadd, 1) := by decide +kernel
theorem dX6_reads_63 : decode cX6_reads 63 = .ok (.iconst 3, 1) := by decide +kernel
theorem dX6_reads_64 : decode cX6_reads 64 = .ok (.iadd, 1) := by decide +kernel
theorem dX6_reads_65 : decode cX6_reads 65 = .ok (.iaload, 1) := by decide +kernel
theorem dX6_reads_66 : decode cX6_reads 66 = .ok (.istore 7, 2) := by decide +kernel
theorem dX6_reads_68 : decode cX6_reads 68 = .ok (.iload_n 3, 1) := by decide +kernel
theorem dX6_reads_69 : decode cX6_reads 69 = .ok (.iload 7, 2) := by decide +kernel
theorem dX6_reads_71 : decode cX6_reads 71 = .ok (.iload_n 1, 1) := by decide +kernel
theorem dX6_reads_72 : decode cX6_reads 72 = .ok (.if_icmp .ne 7, 3) := by decide +kernel
theorem dX6_reads_75 : decode cX6_reads 75 = .ok (.iconst 1, 1) := by decide +kernel
theorem dX6_reads_76 : decode cX6_reads 76 = .ok (.goto 4, 3) := by decide +kernel
theorem dX6_reads_79 : decode cX6_reads 79 = .ok (.iconst 0, 1) := by decide +kernel
theorem dX6_reads_80 : decode cX6_reads 80 = .ok (.iadd, 1) := by decide +kernel
theorem dX6_reads_81 : decode cX6_reads 81 = .ok (.istore_n 3, 1) := by decide +kernel
theorem dX6_reads_82 : decode cX6_reads 82 = .ok (.iload 7, 2) := by decide +kernel
theorem dX6_reads_84 : decode cX6_reads 84 = .ok (.iload_n 1, 1) := by decide +kernel
theorem dX6_reads_85 : decode cX6_reads 85 = .ok (.if_icmp .le 22, 3) := by decide +kernel
theorem dX6_reads_88 : decode cX6_reads 88 = .ok (.iload 4, 2) := by decide +kernel
theorem dX6_reads_90 : decode cX6_reads 90 = .ok (.bipush (-9), 2) := by decide +kernel
theorem dX6_reads_92 : decode cX6_reads 92 = .ok (.if_icmp .eq 10, 3) := by decide +kernel
theorem dX6_reads_95 : decode cX6_reads 95 = .ok (.iload 7, 2) := by decide +kernel
theorem dX6_reads_97 : decode cX6_reads 97 = .ok (.iload 4, 2) := by decide +kernel
theorem dX6_reads_99 : decode cX6_reads 99 = .ok (.if_icmp .ge 8, 3) := by decide +kernel
theorem dX6_reads_102 : decode cX6_reads 102 = .ok (.iload 7, 2) := by decide +kernel
theorem dX6_reads_104 : decode cX6_reads 104 = .ok (.goto 5, 3) := by decide +kernel
theorem dX6_reads_107 : decode cX6_reads 107 = .ok (.iload 4, 2) := by decide +kernel
theorem dX6_reads_109 : decode cX6_reads 109 = .ok (.istore 4, 2) := by decide +kernel
theorem dX6_reads_111 : decode cX6_reads 111 = .ok (.iload 7, 2) := by decide +kernel
theorem dX6_reads_113 : decode cX6_reads 113 = .ok (.iload_n 1, 1) := by decide +kernel
theorem dX6_reads_114 : decode cX6_reads 114 = .ok (.if_icmp .ge 15, 3) := by decide +kernel
theorem dX6_reads_117 : decode cX6_reads 117 = .ok (.iload 7, 2) := by decide +kernel
theorem dX6_reads_119 : decode cX6_reads 119 = .ok (.iload 5, 2) := by decide +kernel
theorem dX6_reads_121 : decode cX6_reads 121 = .ok (.if_icmp .le 8, 3) := by decide +kernel
theorem dX6_reads_124 : decode cX6_reads 124 = .ok (.iload 7, 2) := by decide +kernel
theorem dX6_reads_126 : decode cX6_reads 126 = .ok (.goto 5, 3) := by decide +kernel
theorem dX6_reads_129 : decode cX6_reads 129 = .ok (.iload 5, 2) := by decide +kernel
theorem dX6_reads_131 : decode cX6_reads 131 = .ok (.istore 5, 2) := by decide +kernel
theorem dX6_reads_133 : decode cX6_reads 133 = .ok (.iinc 6 1, 3) := by decide +kernel
theorem dX6_reads_136 : decode cX6_reads 136 = .ok (.goto (-97), 3) := by decide +kernel
theorem dX6_reads_139 : decode cX6_reads 139 = .ok (.iload_n 2, 1) := by decide +kernel
theorem dX6_reads_140 : decode cX6_reads 140 = .ok (.ifCond .ne 7, 3) := by decide +kernel
theorem dX6_reads_143 : decode cX6_reads 143 = .ok (.iload_n 3, 1) := by decide +kernel
theorem dX6_reads_144 : decode cX6_reads 144 = .ok (.goto 15, 3) := by decide +kernel
theorem dX6_reads_147 : decode cX6_reads 147 = .ok (.iload_n 2, 1) := by decide +kernel
theorem dX6_reads_148 : decode cX6_reads 148 = .ok (.iconst 1, 1) := by decide +kernel
theorem dX6_reads_149 : decode cX6_reads 149 = .ok (.if_icmp .ne 8, 3) := by decide +kernel
theorem dX6_reads_152 : decode cX6_reads 152 = .ok (.iload 4, 2) := by decide +kernel
theorem dX6_reads_154 : decode cX6_reads 154 = .ok (.goto 5, 3) := by decide +kernel
theorem dX6_reads_157 : decode cX6_reads 157 = .ok (.iload 5, 2) := by decide +kernel
theorem dX6_reads_159 : decode cX6_reads 159 = .ok (.ireturn, 1) := by decide +kernel
theorem dX6_trialOf_0 : decode cX6_trialOf 0 = .ok (.aload_n 0, 1) := by decide +kernel
theorem dX6_trialOf_1 : decode cX6_trialOf 1 = .ok (.getfield 13, 3) := by decide +kernel
theorem dX6_trialOf_4 : decode cX6_trialOf 4 = .ok (.aload_n 0, 1) := by decide +kernel
theorem dX6_trialOf_5 : decode cX6_trialOf 5 = .ok (.getfield 7, 3) := by decide +kernel
theorem dX6_trialOf_8 : decode cX6_trialOf 8 = .ok (.iconst 0, 1) := by decide +kernel
theorem dX6_trialOf_9 : decode cX6_trialOf 9 = .ok (.iaload, 1) := by decide +kernel
theorem dX6_trialOf_10 : decode cX6_trialOf 10 = .ok (.iload_n 1, 1) := by decide +kernel
theorem dX6_trialOf_11 : decode cX6_trialOf 11 = .ok (.aload_n 0, 1) := by decide +kernel
theorem dX6_trialOf_12 : decode cX6_trialOf 12 = .ok (.getfield 7, 3) := by decide +kernel
theorem dX6_trialOf_15 : decode cX6_trialOf 15 = .ok (.iconst 2, 1) := by decide +kernel
theorem dX6_trialOf_16 : decode cX6_trialOf 16 = .ok (.iaload, 1) := by decide +kernel
theorem dX6_trialOf_17 : decode cX6_trialOf 17 = .ok (.invokestatic 32, 3) := by decide +kernel
theorem dX6_trialOf_20 : decode cX6_trialOf 20 = .ok (.aload_n 0, 1) := by decide +kernel
theorem dX6_trialOf_21 : decode cX6_trialOf 21 = .ok (.getfield 13, 3) := by decide +kernel
theorem dX6_trialOf_24 : decode cX6_trialOf 24 = .ok (.iconst 0, 1) := by decide +kernel
theorem dX6_trialOf_25 : decode cX6_trialOf 25 = .ok (.iconst 1, 1) := by decide +kernel
theorem dX6_trialOf_26 : decode cX6_trialOf 26 = .ok (.iconst 0, 1) := by decide +kernel
theorem dX6_trialOf_27 : decode cX6_trialOf 27 = .ok (.invokestatic 83, 3) := by decide +kernel
theorem dX6_trialOf_30 : decode cX6_trialOf 30 = .ok (.aload_n 0, 1) := by decide +kernel
theorem dX6_trialOf_31 : decode cX6_trialOf 31 = .ok (.getfield 13, 3) := by decide +kernel
theorem dX6_trialOf_34 : decode cX6_trialOf 34 = .ok (.iconst 1, 1) := by decide +kernel
theorem dX6_trialOf_35 : decode cX6_trialOf 35 = .ok (.iconst 2, 1) := by decide +kernel
theorem dX6_trialOf_36 : decode cX6_trialOf 36 = .ok (.iconst 1, 1) := by decide +kernel
theorem dX6_trialOf_37 : decode cX6_trialOf 37 = .ok (.invokestatic 83, 3) := by decide +kernel
theorem dX6_trialOf_40 : decode cX6_trialOf 40 = .ok (.iconst 1, 1) := by decide +kernel
theorem dX6_trialOf_41 : decode cX6_trialOf 41 = .ok (.istore 4, 2) := by decide +kernel
theorem dX6_trialOf_43 : decode cX6_trialOf 43 = .ok (.iconst 0, 1) := by decide +kernel
theorem dX6_trialOf_44 : decode cX6_trialOf 44 = .ok (.istore 5, 2) := by decide +kernel
theorem dX6_trialOf_46 : decode cX6_trialOf 46 = .ok (.aload_n 0, 1) := by decide +kernel
theorem dX6_trialOf_47 : decode cX6_trialOf 47 = .ok (.getfield 13, 3) := by decide +kernel
theorem dX6_trialOf_50 : decode cX6_trialOf 50 = .ok (.iconst 0, 1) := by decide +kernel
theorem dX6_trialOf_51 : decode cX6_trialOf 51 = .ok (.invokestatic 40, 3) := by decide +kernel
theorem dX6_trialOf_54 : decode cX6_trialOf 54 = .ok (.iconst 0, 1) := by decide +kernel
theorem dX6_trialOf_55 : decode cX6_trialOf 55 = .ok (.iadd, 1) := by decide +kernel
theorem dX6_trialOf_56 : decode cX6_trialOf 56 = .ok (.iaload, 1) := by decide +kernel
theorem dX6_trialOf_57 : decode cX6_trialOf 57 = .ok (.ifCond .eq 97, 3) := by decide +kernel
theorem dX6_trialOf_60 : decode cX6_trialOf 60 = .ok (.iconst 0, 1) := by decide +kernel
theorem dX6_trialOf_61 : decode cX6_trialOf 61 = .ok (.istore 6, 2) := by decide +kernel
theorem dX6_trialOf_63 : decode cX6_trialOf 63 = .ok (.iload 6, 2) := by decide +kernel
theorem dX6_trialOf_65 : decode cX6_trialOf 65 = .ok (.iload_n 2, 1) := by decide +kernel
theorem dX6_trialOf_66 : decode cX6_trialOf 66 = .ok (.if_icmp .ge 34, 3) := by decide +kernel
theorem dX6_trialOf_69 : decode cX6_trialOf 69 = .ok (.aload_n 0, 1) := by decide +kernel
theorem dX6_trialOf_70 : decode cX6_trialOf 70 = .ok (.getfield 13, 3) := by decide +kernel
theorem dX6_trialOf_73 : decode cX6_trialOf 73 = .ok (.iconst 0, 1) := by decide +kernel
theorem dX6_trialOf_74 : decode cX6_trialOf 74 = .ok (.invokestatic 40, 3) := by decide +kernel
theorem dX6_trialOf_77 : decode cX6_trialOf 77 = .ok (.iconst 0, 1) := by decide +kernel
theorem dX6_trialOf_78 : decode cX6_trialOf 78 = .ok (.iadd, 1) := by decide +kernel
theorem dX6_trialOf_79 : decode cX6_trialOf 79 = .ok (.iaload, 1) := by decide +kernel
theorem dX6_trialOf_80 : decode cX6_trialOf 80 = .ok (.ifCond .eq 20, 3) := by decide +kernel
theorem dX6_trialOf_83 : decode cX6_trialOf 83 = .ok (.aload_n 0, 1) := by decide +kernel
theorem dX6_trialOf_84 : decode cX6_trialOf 84 = .ok (.getfield 13, 3) := by decide +kernel
theorem dX6_trialOf_87 : decode cX6_trialOf 87 = .ok (.iconst 0, 1) := by decide +kernel
theorem dX6_trialOf_88 : decode cX6_trialOf 88 = .ok (.invokestatic 93, 3) := by decide +kernel
theorem dX6_trialOf_91 : decode cX6_trialOf 91 = .ok (.iinc 5 1, 3) := by decide +kernel
theorem dX6_trialOf_94 : decode cX6_trialOf 94 = .ok (.iinc 6 1, 3) := by decide +kernel
theorem dX6_trialOf_97 : decode cX6_trialOf 97 = .ok (.goto (-34), 3) := by decide +kernel
theorem dX6_trialOf_100 : decode cX6_trialOf 100 = .ok (.iconst 0, 1) := by decide +kernel
theorem dX6_trialOf_101 : decode cX6_trialOf 101 = .ok (.istore 6, 2) := by decide +kernel
theorem dX6_trialOf_103 : decode cX6_trialOf 103 = .ok (.iload 6, 2) := by decide +kernel
theorem dX6_trialOf_105 : decode cX6_trialOf 105 = .ok (.iload_n 3, 1) := by decide +kernel
theorem dX6_trialOf_106 : decode cX6_trialOf 106 = .ok (.if_icmp .ge 45, 3) := by decide +kernel
theorem dX6_trialOf_109 : decode cX6_trialOf 109 = .ok (.aload_n 0, 1) := by decide +kernel
theorem dX6_trialOf_110 : decode cX6_trialOf 110 = .ok (.getfield 13, 3) := by decide +kernel
theorem dX6_trialOf_113 : decode cX6_trialOf 113 = .ok (.iconst 1, 1) := by decide +kernel
theorem dX6_trialOf_114 : decode cX6_trialOf 114 = .ok (.invokestatic 93, 3) := by decide +kernel
theorem dX6_trialOf_117 : decode cX6_trialOf 117 = .ok (.aload_n 0, 1) := by decide +kernel
theorem dX6_trialOf_118 : decode cX6_trialOf 118 = .ok (.getfield 13, 3) := by decide +kernel
theorem dX6_trialOf_121 : decode cX6_trialOf 121 = .ok (.iconst 1, 1) := by decide +kernel
theorem dX6_trialOf_122 : decode cX6_trialOf 122 = .ok (.invokestatic 40, 3) := by decide +kernel
theorem dX6_trialOf_125 : decode cX6_trialOf 125 = .ok (.iconst 0, 1) := by decide +kernel
theorem dX6_trialOf_126 : decode cX6_trialOf 126 = .ok (.iadd, 1) := by decide +kernel
theorem dX6_trialOf_127 : decode cX6_trialOf 127 = .ok (.iaload, 1) := by decide +kernel
theorem dX6_trialOf_128 : decode cX6_trialOf 128 = .ok (.ifCond .ne 17, 3) := by decide +kernel
theorem dX6_trialOf_131 : decode cX6_trialOf 131 = .ok (.iinc 4 1, 3) := by decide +kernel
theorem dX6_trialOf_134 : decode cX6_trialOf 134 = .ok (.aload_n 0, 1) := by decide +kernel
theorem dX6_trialOf_135 : decode cX6_trialOf 135 = .ok (.getfield 13, 3) := by decide +kernel
theorem dX6_trialOf_138 : decode cX6_trialOf 138 = .ok (.iconst 1, 1) := by decide +kernel
theorem dX6_trialOf_139 : decode cX6_trialOf 139 = .ok (.iconst 2, 1) := by decide +kernel
theorem dX6_trialOf_140 : decode cX6_trialOf 140 = .ok (.iload 4, 2) := by decide +kernel
theorem dX6_trialOf_142 : decode cX6_trialOf 142 = .ok (.invokestatic 83, 3) := by decide +kernel
theorem dX6_trialOf_145 : decode cX6_trialOf 145 = .ok (.iinc 6 1, 3) := by decide +kernel
theorem dX6_trialOf_148 : decode cX6_trialOf 148 = .ok (.goto (-45), 3) := by decide +kernel
theorem dX6_trialOf_151 : decode cX6_trialOf 151 = .ok (.goto (-105), 3) := by decide +kernel
theorem dX6_trialOf_154 : decode cX6_trialOf 154 = .ok (.iload 5, 2) := by decide +kernel
theorem dX6_trialOf_156 : decode cX6_trialOf 156 = .ok (.ireturn, 1) := by decide +kernel
theorem dX6_isTrial_0 : decode cX6_isTrial 0 = .ok (.iload_n 0, 1) := by decide +kernel
theorem dX6_isTrial_1 : decode cX6_isTrial 1 = .ok (.iconst 1, 1) := by decide +kernel
theorem dX6_isTrial_2 : decode cX6_isTrial 2 = .ok (.iconst 4, 1) := by decide +kernel
theorem dX6_isTrial_3 : decode cX6_isTrial 3 = .ok (.invokestatic 69, 3) := by decide +kernel
theorem dX6_isTrial_6 : decode cX6_isTrial 6 = .ok (.ifCond .eq 16, 3) := by decide +kernel
theorem dX6_isTrial_9 : decode cX6_isTrial 9 = .ok (.iload_n 1, 1) := by decide +kernel
theorem dX6_isTrial_10 : decode cX6_isTrial 10 = .ok (.iconst 1, 1) := by decide +kernel
theorem dX6_isTrial_11 : decode cX6_isTrial 11 = .ok (.iconst 4, 1) := by decide +kernel
theorem dX6_isTrial_12 : decode cX6_isTrial 12 = .ok (.invokestatic 69, 3) := by decide +kernel
theorem dX6_isTrial_15 : decode cX6_isTrial 15 = .ok (.ifCond .eq 7, 3) := by decide +kernel
theorem dX6_isTrial_18 : decode cX6_isTrial 18 = .ok (.iconst 1, 1) := by decide +kernel
theorem dX6_isTrial_19 : decode cX6_isTrial 19 = .ok (.goto 4, 3) := by decide +kernel
theorem dX6_isTrial_22 : decode cX6_isTrial 22 = .ok (.iconst 0, 1) := by decide +kernel
theorem dX6_isTrial_23 : decode cX6_isTrial 23 = .ok (.ireturn, 1) := by decide +kernel
theorem dX6_trial_0 : decode cX6_trial 0 = .ok (.aload_n 0, 1) := by decide +kernel
theorem dX6_trial_1 : decode cX6_trial 1 = .ok (.iconst 0, 1) := by decide +kernel
theorem dX6_trial_2 : decode cX6_trial 2 = .ok (.putfield 36, 3) := by decide +kernel
theorem dX6_trial_5 : decode cX6_trial 5 = .ok (.iload_n 1, 1) := by decide +kernel
theorem dX6_trial_6 : decode cX6_trial 6 = .ok (.iconst 1, 1) := by decide +kernel
theorem dX6_trial_7 : decode cX6_trial 7 = .ok (.iconst 4, 1) := by decide +kernel
theorem dX6_trial_8 : decode cX6_trial 8 = .ok (.invokestatic 69, 3) := by decide +kernel
theorem dX6_trial_11 : decode cX6_trial 11 = .ok (.ifCond .eq 21, 3) := by decide +kernel
theorem dX6_trial_14 : decode cX6_trial 14 = .ok (.iload_n 2, 1) := by decide +kernel
theorem dX6_trial_15 : decode cX6_trial 15 = .ok (.iload_n 3, 1) := by decide +kernel
theorem dX6_trial_16 : decode cX6_trial 16 = .ok (.invokestatic 109, 3) := by decide +kernel
theorem dX6_trial_19 : decode cX6_trial 19 = .ok (.ifCond .eq 13, 3) := by decide +kernel
theorem dX6_trial_22 : decode cX6_trial 22 = .ok (.aload_n 0, 1) := by decide +kernel
theorem dX6_trial_23 : decode cX6_trial 23 = .ok (.iload_n 1, 1) := by decide +kernel
theorem dX6_trial_24 : decode cX6_trial 24 = .ok (.iload_n 2, 1) := by decide +kernel
theorem dX6_trial_25 : decode cX6_trial 25 = .ok (.iload_n 3, 1) := by decide +kernel
theorem dX6_trial_26 : decode cX6_trial 26 = .ok (.invokevirtual 113, 3) := by decide +kernel
theorem dX6_trial_29 : decode cX6_trial 29 = .ok (.goto 4, 3) := by decide +kernel
theorem dX6_trial_32 : decode cX6_trial 32 = .ok (.iconst (-1), 1) := by decide +kernel
theorem dX6_trial_33 : decode cX6_trial 33 = .ok (.ireturn, 1) := by decide +kernel
theorem dX6_sees_0 : decode cX6_sees 0 = .ok (.aload_n 0, 1) := by decide +kernel
theorem dX6_sees_1 : decode cX6_sees 1 = .ok (.iconst 0, 1) := by decide +kernel
theorem dX6_sees_2 : decode cX6_sees 2 = .ok (.putfield 36, 3) := by decide +kernel
theorem dX6_sees_5 : decode cX6_sees 5 = .ok (.iload_n 1, 1) := by decide +kernel
theorem dX6_sees_6 : decode cX6_sees 6 = .ok (.iload_n 2, 1) := by decide +kernel
theorem dX6_sees_7 : decode cX6_sees 7 = .ok (.invokestatic 109, 3) := by decide +kernel
theorem dX6_sees_10 : decode cX6_sees 10 = .ok (.ifCond .eq 13, 3) := by decide +kernel
theorem dX6_sees_13 : decode cX6_sees 13 = .ok (.iload_n 3, 1) := by decide +kernel
theorem dX6_sees_14 : decode cX6_sees 14 = .ok (.iconst 0, 1) := by decide +kernel
theorem dX6_sees_15 : decode cX6_sees 15 = .ok (.bipush 99, 2) := by decide +kernel
theorem dX6_sees_17 : decode cX6_sees 17 = .ok (.invokestatic 69, 3) := by decide +kernel
theorem dX6_sees_20 : decode cX6_sees 20 = .ok (.ifCond .ne 5, 3) := by decide +kernel
theorem dX6_sees_23 : decode cX6_sees 23 = .ok (.iconst (-1), 1) := by decide +kernel
theorem dX6_sees_24 : decode cX6_sees 24 = .ok (.ireturn, 1) := by decide +kernel
theorem dX6_sees_25 : decode cX6_sees 25 = .ok (.aload_n 0, 1) := by decide +kernel
theorem dX6_sees_26 : decode cX6_sees 26 = .ok (.getfield 76, 3) := by decide +kernel
theorem dX6_sees_29 : decode cX6_sees 29 = .ok (.bipush 6, 2) := by decide +kernel
theorem dX6_sees_31 : decode cX6_sees 31 = .ok (.if_icmp .ne 6, 3) := by decide +kernel
theorem dX6_sees_34 : decode cX6_sees 34 = .ok (.bipush (-3), 2) := by decide +kernel
theorem dX6_sees_36 : decode cX6_sees 36 = .ok (.ireturn, 1) := by decide +kernel
theorem dX6_sees_37 : decode cX6_sees 37 = .ok (.aload_n 0, 1) := by decide +kernel
theorem dX6_sees_38 : decode cX6_sees 38 = .ok (.getfield 26, 3) := by decide +kernel
theorem dX6_sees_41 : decode cX6_sees 41 = .ok (.iconst 3, 1) := by decide +kernel
theorem dX6_sees_42 : decode cX6_sees 42 = .ok (.aload_n 0, 1) := by decide +kernel
theorem dX6_sees_43 : decode cX6_sees 43 = .ok (.getfield 76, 3) := by decide +kernel
theorem dX6_sees_46 : decode cX6_sees 46 = .ok (.imul, 1) := by decide +kernel
theorem dX6_sees_47 : decode cX6_sees 47 = .ok (.iload_n 1, 1) := by decide +kernel
theorem dX6_sees_48 : decode cX6_sees 48 = .ok (.iastore, 1) := by decide +kernel
theorem dX6_sees_49 : decode cX6_sees 49 = .ok (.aload_n 0, 1) := by decide +kernel
theorem dX6_sees_50 : decode cX6_sees 50 = .ok (.getfield 26, 3) := by decide +kernel
theorem dX6_sees_53 : decode cX6_sees 53 = .ok (.iconst 3, 1) := by decide +kernel
theorem dX6_sees_54 : decode cX6_sees 54 = .ok (.aload_n 0, 1) := by decide +kernel
theorem dX6_sees_55 : decode cX6_sees 55 = .ok (.getfield 76, 3) := by decide +kernel
theorem dX6_sees_58 : decode cX6_sees 58 = .ok (.imul, 1) := by decide +kernel
theorem dX6_sees_59 : decode cX6_sees 59 = .ok (.iconst 1, 1) := by decide +kernel
theorem dX6_sees_60 : decode cX6_sees 60 = .ok (.iadd, 1) := by decide +kernel
theorem dX6_sees_61 : decode cX6_sees 61 = .ok (.iload_n 2, 1) := by decide +kernel
theorem dX6_sees_62 : decode cX6_sees 62 = .ok (.iastore, 1) := by decide +kernel
theorem dX6_sees_63 : decode cX6_sees 63 = .ok (.aload_n 0, 1) := by decide +kernel
theorem dX6_sees_64 : decode cX6_sees 64 = .ok (.getfield 26, 3) := by decide +kernel
theorem dX6_sees_67 : decode cX6_sees 67 = .ok (.iconst 3, 1) := by decide +kernel
theorem dX6_sees_68 : decode cX6_sees 68 = .ok (.aload_n 0, 1) := by decide +kernel
theorem dX6_sees_69 : decode cX6_sees 69 = .ok (.getfield 76, 3) := by decide +kernel
theorem dX6_sees_72 : decode cX6_sees 72 = .ok (.imul, 1) := by decide +kernel
theorem dX6_sees_73 : decode cX6_sees 73 = .ok (.iconst 2, 1) := by decide +kernel
theorem dX6_sees_74 : decode cX6_sees 74 = .ok (.iadd, 1) := by decide +kernel
theorem dX6_sees_75 : decode cX6_sees 75 = .ok (.iload_n 3, 1) := by decide +kernel
theorem dX6_sees_76 : decode cX6_sees 76 = .ok (.iastore, 1) := by decide +kernel
theorem dX6_sees_77 : decode cX6_sees 77 = .ok (.aload_n 0, 1) := by decide +kernel
theorem dX6_sees_78 : decode cX6_sees 78 = .ok (.dup, 1) := by decide +kernel
theorem dX6_sees_79 : decode cX6_sees 79 = .ok (.getfield 76, 3) := by decide +kernel
theorem dX6_sees_82 : decode cX6_sees 82 = .ok (.iconst 1, 1) := by decide +kernel
theorem dX6_sees_83 : decode cX6_sees 83 = .ok (.iadd, 1) := by decide +kernel
theorem dX6_sees_84 : decode cX6_sees 84 = .ok (.putfield 76, 3) := by decide +kernel
theorem dX6_sees_87 : decode cX6_sees 87 = .ok (.aload_n 0, 1) := by decide +kernel
theorem dX6_sees_88 : decode cX6_sees 88 = .ok (.getfield 76, 3) := by decide +kernel
theorem dX6_sees_91 : decode cX6_sees 91 = .ok (.ireturn, 1) := by decide +kernel
theorem dX6_forget_0 : decode cX6_forget 0 = .ok (.aload_n 0, 1) := by decide +kernel
theorem dX6_forget_1 : decode cX6_forget 1 = .ok (.iconst 0, 1) := by decide +kernel
theorem dX6_forget_2 : decode cX6_forget 2 = .ok (.putfield 36, 3) := by decide +kernel
theorem dX6_forget_5 : decode cX6_forget 5 = .ok (.aload_n 0, 1) := by decide +kernel
theorem dX6_forget_6 : decode cX6_forget 6 = .ok (.getfield 76, 3) := by decide +kernel
theorem dX6_forget_9 : decode cX6_forget 9 = .ok (.istore_n 1, 1) := by decide +kernel
theorem dX6_forget_10 : decode cX6_forget 10 = .ok (.aload_n 0, 1) := by decide +kernel
theorem dX6_forget_11 : decode cX6_forget 11 = .ok (.iconst 0, 1) := by decide +kernel
theorem dX6_forget_12 : decode cX6_forget 12 = .ok (.putfield 76, 3) := by decide +kernel
theorem dX6_forget_15 : decode cX6_forget 15 = .ok (.iload_n 1, 1) := by decide +kernel
theorem dX6_forget_16 : decode cX6_forget 16 = .ok (.ireturn, 1) := by decide +kernel
theorem dX6_movesSet_0 : decode cX6_movesSet 0 = .ok (.iconst 0, 1) := by decide +kernel
theorem dX6_movesSet_1 : decode cX6_movesSet 1 = .ok (.istore_n 1, 1) := by decide +kernel
theorem dX6_movesSet_2 : decode cX6_movesSet 2 = .ok (.iconst 1, 1) := by decide +kernel
theorem dX6_movesSet_3 : decode cX6_movesSet 3 = .ok (.istore_n 2, 1) := by decide +kernel
theorem dX6_movesSet_4 : decode cX6_movesSet 4 = .ok (.iload_n 2, 1) := by decide +kernel
theorem dX6_movesSet_5 : decode cX6_movesSet 5 = .ok (.iconst 5, 1) := by decide +kernel
theorem dX6_movesSet_6 : decode cX6_movesSet 6 = .ok (.if_icmp .ge 94, 3) := by decide +kernel
theorem dX6_movesSet_9 : decode cX6_movesSet 9 = .ok (.iconst 1, 1) := by decide +kernel
theorem dX6_movesSet_10 : decode cX6_movesSet 10 = .ok (.istore_n 3, 1) := by decide +kernel
theorem dX6_movesSet_11 : decode cX6_movesSet 11 = .ok (.iconst 0, 1) := by decide +kernel
theorem dX6_movesSet_12 : decode cX6_movesSet 12 = .ok (.istore 4, 2) := by decide +kernel
theorem dX6_movesSet_14 : decode cX6_movesSet 14 = .ok (.iload 4, 2) := by decide +kernel
theorem dX6_movesSet_16 : decode cX6_movesSet 16 = .ok (.aload_n 0, 1) := by decide +kernel
theorem dX6_movesSet_17 : decode cX6_movesSet 17 = .ok (.getfield 76, 3) := by decide +kernel
theorem dX6_movesSet_20 : decode cX6_movesSet 20 = .ok (.if_icmp .ge 58, 3) := by decide +kernel
theorem dX6_movesSet_23 : decode cX6_movesSet 23 = .ok (.iload_n 3, 1) := by decide +kernel
theorem dX6_movesSet_24 : decode cX6_movesSet 24 = .ok (.ifCond .eq 54, 3) := by decide +kernel
theorem dX6_movesSet_27 : decode cX6_movesSet 27 = .ok (.aload_n 0, 1) := by decide +kernel
theorem dX6_movesSet_28 : decode cX6_movesSet 28 = .ok (.iload_n 2, 1) := by decide +kernel
theorem dX6_movesSet_29 : decode cX6_movesSet 29 = .ok (.aload_n 0, 1) := by decide +kernel
theorem dX6_movesSet_30 : decode cX6_movesSet 30 = .ok (.getfield 26, 3) := by decide +kernel
theorem dX6_movesSet_33 : decode cX6_movesSet 33 = .ok (.iconst 3, 1) := by decide +kernel
theorem dX6_movesSet_34 : decode cX6_movesSet 34 = .ok (.iload 4, 2) := by decide +kernel
theorem dX6_movesSet_36 : decode cX6_movesSet 36 = .ok (.imul, 1) := by decide +kernel
theorem dX6_movesSet_37 : decode cX6_movesSet 37 = .ok (.iaload, 1) := by decide +kernel
theorem dX6_movesSet_38 : decode cX6_movesSet 38 = .ok (.aload_n 0, 1) := by decide +kernel
theorem dX6_movesSet_39 : decode cX6_movesSet 39 = .ok (.getfield 26, 3) := by decide +kernel
theorem dX6_movesSet_42 : decode cX6_movesSet 42 = .ok (.iconst 3, 1) := by decide +kernel
theorem dX6_movesSet_43 : decode cX6_movesSet 43 = .ok (.iload 4, 2) := by decide +kernel
theorem dX6_movesSet_45 : decode cX6_movesSet 45 = .ok (.imul, 1) := by decide +kernel
theorem dX6_movesSet_46 : decode cX6_movesSet 46 = .ok (.iconst 1, 1) := by decide +kernel
theorem dX6_movesSet_47 : decode cX6_movesSet 47 = .ok (.iadd, 1) := by decide +kernel
theorem dX6_movesSet_48 : decode cX6_movesSet 48 = .ok (.iaload, 1) := by decide +kernel
theorem dX6_movesSet_49 : decode cX6_movesSet 49 = .ok (.invokevirtual 113, 3) := by decide +kernel
theorem dX6_movesSet_52 : decode cX6_movesSet 52 = .ok (.aload_n 0, 1) := by decide +kernel
theorem dX6_movesSet_53 : decode cX6_movesSet 53 = .ok (.getfield 26, 3) := by decide +kernel
theorem dX6_movesSet_56 : decode cX6_movesSet 56 = .ok (.iconst 3, 1) := by decide +kernel
theorem dX6_movesSet_57 : decode cX6_movesSet 57 = .ok (.iload 4, 2) := by decide +kernel
theorem dX6_movesSet_59 : decode cX6_movesSet 59 = .ok (.imul, 1) := by decide +kernel
theorem dX6_movesSet_60 : decode cX6_movesSet 60 = .ok (.iconst 2, 1) := by decide +kernel
theorem dX6_movesSet_61 : decode cX6_movesSet 61 = .ok (.iadd, 1) := by decide +kernel
theorem dX6_movesSet_62 : decode cX6_movesSet 62 = .ok (.iaload, 1) := by decide +kernel
theorem dX6_movesSet_63 : decode cX6_movesSet 63 = .ok (.if_icmp .ne 7, 3) := by decide +kernel
theorem dX6_movesSet_66 : decode cX6_movesSet 66 = .ok (.iconst 1, 1) := by decide +kernel
theorem dX6_movesSet_67 : decode cX6_movesSet 67 = .ok (.goto 4, 3) := by decide +kernel
theorem dX6_movesSet_70 : decode cX6_movesSet 70 = .ok (.iconst 0, 1) := by decide +kernel
theorem dX6_movesSet_71 : decode cX6_movesSet 71 = .ok (.istore_n 3, 1) := by decide +kernel
theorem dX6_movesSet_72 : decode cX6_movesSet 72 = .ok (.iinc 4 1, 3) := by decide +kernel
theorem dX6_movesSet_75 : decode cX6_movesSet 75 = .ok (.goto (-61), 3) := by decide +kernel
theorem dX6_movesSet_78 : decode cX6_movesSet 78 = .ok (.iload_n 1, 1) := by decide +kernel
theorem dX6_movesSet_79 : decode cX6_movesSet 79 = .ok (.iload_n 3, 1) := by decide +kernel
theorem dX6_movesSet_80 : decode cX6_movesSet 80 = .ok (.ifCond .eq 11, 3) := by decide +kernel
theorem dX6_movesSet_83 : decode cX6_movesSet 83 = .ok (.iconst 1, 1) := by decide +kernel
theorem dX6_movesSet_84 : decode cX6_movesSet 84 = .ok (.iload_n 2, 1) := by decide +kernel
theorem dX6_movesSet_85 : decode cX6_movesSet 85 = .ok (.iconst 1, 1) := by decide +kernel
theorem dX6_movesSet_86 : decode cX6_movesSet 86 = .ok (.isub, 1) := by decide +kernel
theorem dX6_movesSet_87 : decode cX6_movesSet 87 = .ok (.ishl, 1) := by decide +kernel
theorem dX6_movesSet_88 : decode cX6_movesSet 88 = .ok (.goto 4, 3) := by decide +kernel
theorem dX6_movesSet_91 : decode cX6_movesSet 91 = .ok (.iconst 0, 1) := by decide +kernel
theorem dX6_movesSet_92 : decode cX6_movesSet 92 = .ok (.ior, 1) := by decide +kernel
theorem dX6_movesSet_93 : decode cX6_movesSet 93 = .ok (.istore_n 1, 1) := by decide +kernel
theorem dX6_movesSet_94 : decode cX6_movesSet 94 = .ok (.iinc 2 1, 3) := by decide +kernel
theorem dX6_movesSet_97 : decode cX6_movesSet 97 = .ok (.goto (-93), 3) := by decide +kernel
theorem dX6_movesSet_100 : decode cX6_movesSet 100 = .ok (.iload_n 1, 1) := by decide +kernel
theorem dX6_movesSet_101 : decode cX6_movesSet 101 = .ok (.ireturn, 1) := by decide +kernel
theorem dX6_which_0 : decode cX6_which 0 = .ok (.aload_n 0, 1) := by decide +kernel
theorem dX6_which_1 : decode cX6_which 1 = .ok (.iconst 0, 1) := by decide +kernel
theorem dX6_which_2 : decode cX6_which 2 = .ok (.putfield 36, 3) := by decide +kernel
theorem dX6_which_5 : decode cX6_which 5 = .ok (.aload_n 0, 1) := by decide +kernel
theorem dX6_which_6 : decode cX6_which 6 = .ok (.invokevirtual 116, 3) := by decide +kernel
theorem dX6_which_9 : decode cX6_which 9 = .ok (.ireturn, 1) := by decide +kernel
theorem dX6_mostAlike_0 : decode cX6_mostAlike 0 = .ok (.iconst 0, 1) := by decide +kernel
theorem dX6_mostAlike_1 : decode cX6_mostAlike 1 = .ok (.istore 4, 2) := by decide +kernel
theorem dX6_mostAlike_3 : decode cX6_mostAlike 3 = .ok (.iload 4, 2) := by decide +kernel
theorem dX6_mostAlike_5 : decode cX6_mostAlike 5 = .ok (.iconst 4, 1) := by decide +kernel
theorem dX6_mostAlike_6 : decode cX6_mostAlike 6 = .ok (.if_icmp .ge 43, 3) := by decide +kernel
theorem dX6_mostAlike_9 : decode cX6_mostAlike 9 = .ok (.aload_n 0, 1) := by decide +kernel
theorem dX6_mostAlike_10 : decode cX6_mostAlike 10 = .ok (.getfield 29, 3) := by decide +kernel
theorem dX6_mostAlike_13 : decode cX6_mostAlike 13 = .ok (.iload 4, 2) := by decide +kernel
theorem dX6_mostAlike_15 : decode cX6_mostAlike 15 = .ok (.iload_n 1, 1) := by decide +kernel
theorem dX6_mostAlike_16 : decode cX6_mostAlike 16 = .ok (.iload 4, 2) := by decide +kernel
theorem dX6_mostAlike_18 : decode cX6_mostAlike 18 = .ok (.ishr, 1) := by decide +kernel
theorem dX6_mostAlike_19 : decode cX6_mostAlike 19 = .ok (.iconst 1, 1) := by decide +kernel
theorem dX6_mostAlike_20 : decode cX6_mostAlike 20 = .ok (.iand, 1) := by decide +kernel
theorem dX6_mostAlike_21 : decode cX6_mostAlike 21 = .ok (.iconst 1, 1) := by decide +kernel
theorem dX6_mostAlike_22 : decode cX6_mostAlike 22 = .ok (.if_icmp .ne 16, 3) := by decide +kernel
theorem dX6_mostAlike_25 : decode cX6_mostAlike 25 = .ok (.aload_n 0, 1) := by decide +kernel
theorem dX6_mostAlike_26 : decode cX6_mostAlike 26 = .ok (.iload 4, 2) := by decide +kernel
theorem dX6_mostAlike_28 : decode cX6_mostAlike 28 = .ok (.iconst 1, 1) := by decide +kernel
theorem dX6_mostAlike_29 : decode cX6_mostAlike 29 = .ok (.iadd, 1) := by decide +kernel
theorem dX6_mostAlike_30 : decode cX6_mostAlike 30 = .ok (.iload_n 2, 1) := by decide +kernel
theorem dX6_mostAlike_31 : decode cX6_mostAlike 31 = .ok (.iload_n 3, 1) := by decide +kernel
theorem dX6_mostAlike_32 : decode cX6_mostAlike 32 = .ok (.invokevirtual 113, 3) := by decide +kernel
theorem dX6_mostAlike_35 : decode cX6_mostAlike 35 = .ok (.goto 7, 3) := by decide +kernel
theorem dX6_mostAlike_38 : decode cX6_mostAlike 38 = .ok (.iconst (-1), 1) := by decide +kernel
theorem dX6_mostAlike_39 : decode cX6_mostAlike 39 = .ok (.iload 4, 2) := by decide +kernel
theorem dX6_mostAlike_41 : decode cX6_mostAlike 41 = .ok (.isub, 1) := by decide +kernel
theorem dX6_mostAlike_42 : decode cX6_mostAlike 42 = .ok (.iastore, 1) := by decide +kernel
theorem dX6_mostAlike_43 : decode cX6_mostAlike 43 = .ok (.iinc 4 1, 3) := by decide +kernel
theorem dX6_mostAlike_46 : decode cX6_mostAlike 46 = .ok (.goto (-43), 3) := by decide +kernel
theorem dX6_mostAlike_49 : decode cX6_mostAlike 49 = .ok (.iconst 0, 1) := by decide +kernel
theorem dX6_mostAlike_50 : decode cX6_mostAlike 50 = .ok (.istore 4, 2) := by decide +kernel
theorem dX6_mostAlike_52 : decode cX6_mostAlike 52 = .ok (.iconst 0, 1) := by decide +kernel
theorem dX6_mostAlike_53 : decode cX6_mostAlike 53 = .ok (.istore 5, 2) := by decide +kernel
theorem dX6_mostAlike_55 : decode cX6_mostAlike 55 = .ok (.iload 5, 2) := by decide +kernel
theorem dX6_mostAlike_57 : decode cX6_mostAlike 57 = .ok (.iconst 4, 1) := by decide +kernel
theorem dX6_mostAlike_58 : decode cX6_mostAlike 58 = .ok (.if_icmp .ge 80, 3) := by decide +kernel
theorem dX6_mostAlike_61 : decode cX6_mostAlike 61 = .ok (.iconst 0, 1) := by decide +kernel
theorem dX6_mostAlike_62 : decode cX6_mostAlike 62 = .ok (.istore 6, 2) := by decide +kernel
theorem dX6_mostAlike_64 : decode cX6_mostAlike 64 = .ok (.iconst 0, 1) := by decide +kernel
theorem dX6_mostAlike_65 : decode cX6_mostAlike 65 = .ok (.istore 7, 2) := by decide +kernel
theorem dX6_mostAlike_67 : decode cX6_mostAlike 67 = .ok (.iload 7, 2) := by decide +kernel
theorem dX6_mostAlike_69 : decode cX6_mostAlike 69 = .ok (.iconst 4, 1) := by decide +kernel
theorem dX6_mostAlike_70 : decode cX6_mostAlike 70 = .ok (.if_icmp .ge 46, 3) := by decide +kernel
theorem dX6_mostAlike_73 : decode cX6_mostAlike 73 = .ok (.iload 6, 2) := by decide +kernel
theorem dX6_mostAlike_75 : decode cX6_mostAlike 75 = .ok (.aload_n 0, 1) := by decide +kernel
theorem dX6_mostAlike_76 : decode cX6_mostAlike 76 = .ok (.getfield 29, 3) := by decide +kernel
theorem dX6_mostAlike_79 : decode cX6_mostAlike 79 = .ok (.iload 7, 2) := by decide +kernel
theorem dX6_mostAlike_81 : decode cX6_mostAlike 81 = .ok (.iaload, 1) := by decide +kernel
theorem dX6_mostAlike_82 : decode cX6_mostAlike 82 = .ok (.aload_n 0, 1) := by decide +kernel
theorem dX6_mostAlike_83 : decode cX6_mostAlike 83 = .ok (.getfield 29, 3) := by decide +kernel
theorem dX6_mostAlike_86 : decode cX6_mostAlike 86 = .ok (.iload 5, 2) := by decide +kernel
theorem dX6_mostAlike_88 : decode cX6_mostAlike 88 = .ok (.iaload, 1) := by decide +kernel
theorem dX6_mostAlike_89 : decode cX6_mostAlike 89 = .ok (.if_icmp .ne 17, 3) := by decide +kernel
theorem dX6_mostAlike_92 : decode cX6_mostAlike 92 = .ok (.iload_n 1, 1) := by decide +kernel
theorem dX6_mostAlike_93 : decode cX6_mostAlike 93 = .ok (.iload 7, 2) := by decide +kernel
theorem dX6_mostAlike_95 : decode cX6_mostAlike 95 = .ok (.ishr, 1) := by decide +kernel
theorem dX6_mostAlike_96 : decode cX6_mostAlike 96 = .ok (.iconst 1, 1) := by decide +kernel
theorem dX6_mostAlike_97 : decode cX6_mostAlike 97 = .ok (.iand, 1) := by decide +kernel
theorem dX6_mostAlike_98 : decode cX6_mostAlike 98 = .ok (.iconst 1, 1) := by decide +kernel
theorem dX6_mostAlike_99 : decode cX6_mostAlike 99 = .ok (.if_icmp .ne 7, 3) := by decide +kernel
theorem dX6_mostAlike_102 : decode cX6_mostAlike 102 = .ok (.iconst 1, 1) := by decide +kernel
theorem dX6_mostAlike_103 : decode cX6_mostAlike 103 = .ok (.goto 4, 3) := by decide +kernel
theorem dX6_mostAlike_106 : decode cX6_mostAlike 106 = .ok (.iconst 0, 1) := by decide +kernel
theorem dX6_mostAlike_107 : decode cX6_mostAlike 107 = .ok (.iadd, 1) := by decide +kernel
theorem dX6_mostAlike_108 : decode cX6_mostAlike 108 = .ok (.istore 6, 2) := by decide +kernel
theorem dX6_mostAlike_110 : decode cX6_mostAlike 110 = .ok (.iinc 7 1, 3) := by decide +kernel
theorem dX6_mostAlike_113 : decode cX6_mostAlike 113 = .ok (.goto (-46), 3) := by decide +kernel
theorem dX6_mostAlike_116 : decode cX6_mostAlike 116 = .ok (.iload 6, 2) := by decide +kernel
theorem dX6_mostAlike_118 : decode cX6_mostAlike 118 = .ok (.iload 4, 2) := by decide +kernel
theorem dX6_mostAlike_120 : decode cX6_mostAlike 120 = .ok (.if_icmp .le 8, 3) := by decide +kernel
theorem dX6_mostAlike_123 : decode cX6_mostAlike 123 = .ok (.iload 6, 2) := by decide +kernel
theorem dX6_mostAlike_125 : decode cX6_mostAlike 125 = .ok (.goto 5, 3) := by decide +kernel
theorem dX6_mostAlike_128 : decode cX6_mostAlike 128 = .ok (.iload 4, 2) := by decide +kernel
theorem dX6_mostAlike_130 : decode cX6_mostAlike 130 = .ok (.istore 4, 2) := by decide +kernel
theorem dX6_mostAlike_132 : decode cX6_mostAlike 132 = .ok (.iinc 5 1, 3) := by decide +kernel
theorem dX6_mostAlike_135 : decode cX6_mostAlike 135 = .ok (.goto (-80), 3) := by decide +kernel
theorem dX6_mostAlike_138 : decode cX6_mostAlike 138 = .ok (.iload 4, 2) := by decide +kernel
theorem dX6_mostAlike_140 : decode cX6_mostAlike 140 = .ok (.ireturn, 1) := by decide +kernel
theorem dX6_ask_0 : decode cX6_ask 0 = .ok (.aload_n 0, 1) := by decide +kernel
theorem dX6_ask_1 : decode cX6_ask 1 = .ok (.iconst 0, 1) := by decide +kernel
theorem dX6_ask_2 : decode cX6_ask 2 = .ok (.putfield 36, 3) := by decide +kernel
theorem dX6_ask_5 : decode cX6_ask 5 = .ok (.aload_n 0, 1) := by decide +kernel
theorem dX6_ask_6 : decode cX6_ask 6 = .ok (.invokevirtual 116, 3) := by decide +kernel
theorem dX6_ask_9 : decode cX6_ask 9 = .ok (.istore_n 1, 1) := by decide +kernel
theorem dX6_ask_10 : decode cX6_ask 10 = .ok (.iload_n 1, 1) := by decide +kernel
theorem dX6_ask_11 : decode cX6_ask 11 = .ok (.iload_n 1, 1) := by decide +kernel
theorem dX6_ask_12 : decode cX6_ask 12 = .ok (.iconst 1, 1) := by decide +kernel
theorem dX6_ask_13 : decode cX6_ask 13 = .ok (.isub, 1) := by decide +kernel
theorem dX6_ask_14 : decode cX6_ask 14 = .ok (.iand, 1) := by decide +kernel
theorem dX6_ask_15 : decode cX6_ask 15 = .ok (.ifCond .ne 6, 3) := by decide +kernel
theorem dX6_ask_18 : decode cX6_ask 18 = .ok (.bipush (-9), 2) := by decide +kernel
theorem dX6_ask_20 : decode cX6_ask 20 = .ok (.ireturn, 1) := by decide +kernel
theorem dX6_ask_21 : decode cX6_ask 21 = .ok (.bipush (-9), 2) := by decide +kernel
theorem dX6_ask_23 : decode cX6_ask 23 = .ok (.istore_n 2, 1) := by decide +kernel
theorem dX6_ask_24 : decode cX6_ask 24 = .ok (.iconst 5, 1) := by decide +kernel
theorem dX6_ask_25 : decode cX6_ask 25 = .ok (.istore_n 3, 1) := by decide +kernel
theorem dX6_ask_26 : decode cX6_ask 26 = .ok (.iconst 1, 1) := by decide +kernel
theorem dX6_ask_27 : decode cX6_ask 27 = .ok (.istore 4, 2) := by decide +kernel
theorem dX6_ask_29 : decode cX6_ask 29 = .ok (.iload 4, 2) := by decide +kernel
theorem dX6_ask_31 : decode cX6_ask 31 = .ok (.iconst 5, 1) := by decide +kernel
theorem dX6_ask_32 : decode cX6_ask 32 = .ok (.if_icmp .ge 67, 3) := by decide +kernel
theorem dX6_ask_35 : decode cX6_ask 35 = .ok (.iconst 1, 1) := by decide +kernel
theorem dX6_ask_36 : decode cX6_ask 36 = .ok (.istore 5, 2) := by decide +kernel
theorem dX6_ask_38 : decode cX6_ask 38 = .ok (.iload 5, 2) := by decide +kernel
theorem dX6_ask_40 : decode cX6_ask 40 = .ok (.iconst 5, 1) := by decide +kernel
theorem dX6_ask_41 : decode cX6_ask 41 = .ok (.if_icmp .ge 52, 3) := by decide +kernel
theorem dX6_ask_44 : decode cX6_ask 44 = .ok (.aload_n 0, 1) := by decide +kernel
theorem dX6_ask_45 : decode cX6_ask 45 = .ok (.iload_n 1, 1) := by decide +kernel
theorem dX6_ask_46 : decode cX6_ask 46 = .ok (.iload 4, 2) := by decide +kernel
theorem dX6_ask_48 : decode cX6_ask 48 = .ok (.iload 5, 2) := by decide +kernel
theorem dX6_ask_50 : decode cX6_ask 50 = .ok (.invokevirtual 120, 3) := by decide +kernel
theorem dX6_ask_53 : decode cX6_ask 53 = .ok (.istore 6, 2) := by decide +kernel
theorem dX6_ask_55 : decode cX6_ask 55 = .ok (.iload 6, 2) := by decide +kernel
theorem dX6_ask_57 : decode cX6_ask 57 = .ok (.iload_n 3, 1) := by decide +kernel
theorem dX6_ask_58 : decode cX6_ask 58 = .ok (.if_icmp .ge 14, 3) := by decide +kernel
theorem dX6_ask_61 : decode cX6_ask 61 = .ok (.bipush 10, 2) := by decide +kernel
theorem dX6_ask_63 : decode cX6_ask 63 = .ok (.iload 4, 2) := by decide +kernel
theorem dX6_ask_65 : decode cX6_ask 65 = .ok (.imul, 1) := by decide +kernel
theorem dX6_ask_66 : decode cX6_ask 66 = .ok (.iload 5, 2) := by decide +kernel
theorem dX6_ask_68 : decode cX6_ask 68 = .ok (.iadd, 1) := by decide +kernel
theorem dX6_ask_69 : decode cX6_ask 69 = .ok (.goto 4, 3) := by decide +kernel
theorem dX6_ask_72 : decode cX6_ask 72 = .ok (.iload_n 2, 1) := by decide +kernel
theorem dX6_ask_73 : decode cX6_ask 73 = .ok (.istore_n 2, 1) := by decide +kernel
theorem dX6_ask_74 : decode cX6_ask 74 = .ok (.iload 6, 2) := by decide +kernel
theorem dX6_ask_76 : decode cX6_ask 76 = .ok (.iload_n 3, 1) := by decide +kernel
theorem dX6_ask_77 : decode cX6_ask 77 = .ok (.if_icmp .ge 8, 3) := by decide +kernel
theorem dX6_ask_80 : decode cX6_ask 80 = .ok (.iload 6, 2) := by decide +kernel
theorem dX6_ask_82 : decode cX6_ask 82 = .ok (.goto 4, 3) := by decide +kernel
theorem dX6_ask_85 : decode cX6_ask 85 = .ok (.iload_n 3, 1) := by decide +kernel
theorem dX6_ask_86 : decode cX6_ask 86 = .ok (.istore_n 3, 1) := by decide +kernel
theorem dX6_ask_87 : decode cX6_ask 87 = .ok (.iinc 5 1, 3) := by decide +kernel
theorem dX6_ask_90 : decode cX6_ask 90 = .ok (.goto (-52), 3) := by decide +kernel
theorem dX6_ask_93 : decode cX6_ask 93 = .ok (.iinc 4 1, 3) := by decide +kernel
theorem dX6_ask_96 : decode cX6_ask 96 = .ok (.goto (-67), 3) := by decide +kernel
theorem dX6_ask_99 : decode cX6_ask 99 = .ok (.iload_n 2, 1) := by decide +kernel
theorem dX6_ask_100 : decode cX6_ask 100 = .ok (.ireturn, 1) := by decide +kernel
theorem dX6_keep_0 : decode cX6_keep 0 = .ok (.aload_n 0, 1) := by decide +kernel
theorem dX6_keep_1 : decode cX6_keep 1 = .ok (.iconst 0, 1) := by decide +kernel
theorem dX6_keep_2 : decode cX6_keep 2 = .ok (.putfield 36, 3) := by decide +kernel
theorem dX6_keep_5 : decode cX6_keep 5 = .ok (.iload_n 1, 1) := by decide +kernel
theorem dX6_keep_6 : decode cX6_keep 6 = .ok (.iconst 0, 1) := by decide +kernel
theorem dX6_keep_7 : decode cX6_keep 7 = .ok (.iconst 1, 1) := by decide +kernel
theorem dX6_keep_8 : decode cX6_keep 8 = .ok (.invokestatic 69, 3) := by decide +kernel
theorem dX6_keep_11 : decode cX6_keep 11 = .ok (.ifCond .ne 5, 3) := by decide +kernel
theorem dX6_keep_14 : decode cX6_keep 14 = .ok (.iconst (-1), 1) := by decide +kernel
theorem dX6_keep_15 : decode cX6_keep 15 = .ok (.ireturn, 1) := by decide +kernel
theorem dX6_keep_16 : decode cX6_keep 16 = .ok (.iconst 0, 1) := by decide +kernel
theorem dX6_keep_17 : decode cX6_keep 17 = .ok (.istore_n 2, 1) := by decide +kernel
theorem dX6_keep_18 : decode cX6_keep 18 = .ok (.iload_n 2, 1) := by decide +kernel
theorem dX6_keep_19 : decode cX6_keep 19 = .ok (.sipush 512, 3) := by decide +kernel
theorem dX6_keep_22 : decode cX6_keep 22 = .ok (.if_icmp .ge 27, 3) := by decide +kernel
theorem dX6_keep_25 : decode cX6_keep 25 = .ok (.aload_n 0, 1) := by decide +kernel
theorem dX6_keep_26 : decode cX6_keep 26 = .ok (.getfield 19, 3) := by decide +kernel
theorem dX6_keep_29 : decode cX6_keep 29 = .ok (.sipush 512, 3) := by decide +kernel
theorem dX6_keep_32 : decode cX6_keep 32 = .ok (.iload_n 1, 1) := by decide +kernel
theorem dX6_keep_33 : decode cX6_keep 33 = .ok (.imul, 1) := by decide +kernel
theorem dX6_keep_34 : decode cX6_keep 34 = .ok (.iload_n 2, 1) := by decide +kernel
theorem dX6_keep_35 : decode cX6_keep 35 = .ok (.iadd, 1) := by decide +kernel
theorem dX6_keep_36 : decode cX6_keep 36 = .ok (.aload_n 0, 1) := by decide +kernel
theorem dX6_keep_37 : decode cX6_keep 37 = .ok (.getfield 7, 3) := by decide +kernel
theorem dX6_keep_40 : decode cX6_keep 40 = .ok (.iload_n 2, 1) := by decide +kernel
theorem dX6_keep_41 : decode cX6_keep 41 = .ok (.iaload, 1) := by decide +kernel
theorem dX6_keep_42 : decode cX6_keep 42 = .ok (.iastore, 1) := by decide +kernel
theorem dX6_keep_43 : decode cX6_keep 43 = .ok (.iinc 2 1, 3) := by decide +kernel
theorem dX6_keep_46 : decode cX6_keep 46 = .ok (.goto (-28), 3) := by decide +kernel
theorem dX6_keep_49 : decode cX6_keep 49 = .ok (.aload_n 0, 1) := by decide +kernel
theorem dX6_keep_50 : decode cX6_keep 50 = .ok (.getfield 22, 3) := by decide +kernel
theorem dX6_keep_53 : decode cX6_keep 53 = .ok (.iload_n 1, 1) := by decide +kernel
theorem dX6_keep_54 : decode cX6_keep 54 = .ok (.iconst 1, 1) := by decide +kernel
theorem dX6_keep_55 : decode cX6_keep 55 = .ok (.bastore, 1) := by decide +kernel
theorem dX6_keep_56 : decode cX6_keep 56 = .ok (.aload_n 0, 1) := by decide +kernel
theorem dX6_keep_57 : decode cX6_keep 57 = .ok (.getfield 7, 3) := by decide +kernel
theorem dX6_keep_60 : decode cX6_keep 60 = .ok (.iconst 3, 1) := by decide +kernel
theorem dX6_keep_61 : decode cX6_keep 61 = .ok (.iaload, 1) := by decide +kernel
theorem dX6_keep_62 : decode cX6_keep 62 = .ok (.ireturn, 1) := by decide +kernel
theorem dX6_back_0 : decode cX6_back 0 = .ok (.aload_n 0, 1) := by decide +kernel
theorem dX6_back_1 : decode cX6_back 1 = .ok (.iconst 0, 1) := by decide +kernel
theorem dX6_back_2 : decode cX6_back 2 = .ok (.putfield 36, 3) := by decide +kernel
theorem dX6_back_5 : decode cX6_back 5 = .ok (.iload_n 1, 1) := by decide +kernel
theorem dX6_back_6 : decode cX6_back 6 = .ok (.iconst 0, 1) := by decide +kernel
theorem dX6_back_7 : decode cX6_back 7 = .ok (.iconst 1, 1) := by decide +kernel
theorem dX6_back_8 : decode cX6_back 8 = .ok (.invokestatic 69, 3) := by decide +kernel
theorem dX6_back_11 : decode cX6_back 11 = .ok (.ifCond .ne 5, 3) := by decide +kernel
theorem dX6_back_14 : decode cX6_back 14 = .ok (.iconst (-1), 1) := by decide +kernel
theorem dX6_back_15 : decode cX6_back 15 = .ok (.ireturn, 1) := by decide +kernel
theorem dX6_back_16 : decode cX6_back 16 = .ok (.aload_n 0, 1) := by decide +kernel
theorem dX6_back_17 : decode cX6_back 17 = .ok (.getfield 22, 3) := by decide +kernel
theorem dX6_back_20 : decode cX6_back 20 = .ok (.iload_n 1, 1) := by decide +kernel
theorem dX6_back_21 : decode cX6_back 21 = .ok (.baload, 1) := by decide +kernel
theorem dX6_back_22 : decode cX6_back 22 = .ok (.ifCond .ne 6, 3) := by decide +kernel
theorem dX6_back_25 : decode cX6_back 25 = .ok (.bipush (-2), 2) := by decide +kernel
theorem dX6_back_27 : decode cX6_back 27 = .ok (.ireturn, 1) := by decide +kernel
theorem dX6_back_28 : decode cX6_back 28 = .ok (.iconst 0, 1) := by decide +kernel
theorem dX6_back_29 : decode cX6_back 29 = .ok (.istore_n 2, 1) := by decide +kernel
theorem dX6_back_30 : decode cX6_back 30 = .ok (.iload_n 2, 1) := by decide +kernel
theorem dX6_back_31 : decode cX6_back 31 = .ok (.sipush 512, 3) := by decide +kernel
theorem dX6_back_34 : decode cX6_back 34 = .ok (.if_icmp .ge 27, 3) := by decide +kernel
theorem dX6_back_37 : decode cX6_back 37 = .ok (.aload_n 0, 1) := by decide +kernel
theorem dX6_back_38 : decode cX6_back 38 = .ok (.getfield 7, 3) := by decide +kernel
theorem dX6_back_41 : decode cX6_back 41 = .ok (.iload_n 2, 1) := by decide +kernel
theorem dX6_back_42 : decode cX6_back 42 = .ok (.aload_n 0, 1) := by decide +kernel
theorem dX6_back_43 : decode cX6_back 43 = .ok (.getfield 19, 3) := by decide +kernel
theorem dX6_back_46 : decode cX6_back 46 = .ok (.sipush 512, 3) := by decide +kernel
theorem dX6_back_49 : decode cX6_back 49 = .ok (.iload_n 1, 1) := by decide +kernel
theorem dX6_back_50 : decode cX6_back 50 = .ok (.imul, 1) := by decide +kernel
theorem dX6_back_51 : decode cX6_back 51 = .ok (.iload_n 2, 1) := by decide +kernel
theorem dX6_back_52 : decode cX6_back 52 = .ok (.iadd, 1) := by decide +kernel
theorem dX6_back_53 : decode cX6_back 53 = .ok (.iaload, 1) := by decide +kernel
theorem dX6_back_54 : decode cX6_back 54 = .ok (.iastore, 1) := by decide +kernel
theorem dX6_back_55 : decode cX6_back 55 = .ok (.iinc 2 1, 3) := by decide +kernel
theorem dX6_back_58 : decode cX6_back 58 = .ok (.goto (-28), 3) := by decide +kernel
theorem dX6_back_61 : decode cX6_back 61 = .ok (.aload_n 0, 1) := by decide +kernel
theorem dX6_back_62 : decode cX6_back 62 = .ok (.iconst 0, 1) := by decide +kernel
theorem dX6_back_63 : decode cX6_back 63 = .ok (.putfield 66, 3) := by decide +kernel
theorem dX6_back_66 : decode cX6_back 66 = .ok (.aload_n 0, 1) := by decide +kernel
theorem dX6_back_67 : decode cX6_back 67 = .ok (.getfield 7, 3) := by decide +kernel
theorem dX6_back_70 : decode cX6_back 70 = .ok (.iconst 3, 1) := by decide +kernel
theorem dX6_back_71 : decode cX6_back 71 = .ok (.iaload, 1) := by decide +kernel
theorem dX6_back_72 : decode cX6_back 72 = .ok (.ireturn, 1) := by decide +kernel
theorem dX6_photosBy_0 : decode cX6_photosBy 0 = .ok (.iconst 0, 1) := by decide +kernel
theorem dX6_photosBy_1 : decode cX6_photosBy 1 = .ok (.istore_n 2, 1) := by decide +kernel
theorem dX6_photosBy_2 : decode cX6_photosBy 2 = .ok (.iconst 0, 1) := by decide +kernel
theorem dX6_photosBy_3 : decode cX6_photosBy 3 = .ok (.istore_n 3, 1) := by decide +kernel
theorem dX6_photosBy_4 : decode cX6_photosBy 4 = .ok (.iload_n 3, 1) := by decide +kernel
theorem dX6_photosBy_5 : decode cX6_photosBy 5 = .ok (.aload_n 0, 1) := by decide +kernel
theorem dX6_photosBy_6 : decode cX6_photosBy 6 = .ok (.getfield 7, 3) := by decide +kernel
theorem dX6_photosBy_9 : decode cX6_photosBy 9 = .ok (.iconst 5, 1) := by decide +kernel
theorem dX6_photosBy_10 : decode cX6_photosBy 10 = .ok (.iaload, 1) := by decide +kernel
theorem dX6_photosBy_11 : decode cX6_photosBy 11 = .ok (.if_icmp .ge 54, 3) := by decide +kernel
theorem dX6_photosBy_14 : decode cX6_photosBy 14 = .ok (.iload_n 2, 1) := by decide +kernel
theorem dX6_photosBy_15 : decode cX6_photosBy 15 = .ok (.iload_n 1, 1) := by decide +kernel
theorem dX6_photosBy_16 : decode cX6_photosBy 16 = .ok (.ifCond .eq 26, 3) := by decide +kernel
theorem dX6_photosBy_19 : decode cX6_photosBy 19 = .ok (.aload_n 0, 1) := by decide +kernel
theorem dX6_photosBy_20 : decode cX6_photosBy 20 = .ok (.getfield 7, 3) := by decide +kernel
theorem dX6_photosBy_23 : decode cX6_photosBy 23 = .ok (.sipush 200, 3) := by decide +kernel
theorem dX6_photosBy_26 : decode cX6_photosBy 26 = .ok (.bipush 10, 2) := by decide +kernel
theorem dX6_photosBy_28 : decode cX6_photosBy 28 = .ok (.iload_n 3, 1) := by decide +kernel
theorem dX6_photosBy_29 : decode cX6_photosBy 29 = .ok (.imul, 1) := by decide +kernel
theorem dX6_photosBy_30 : decode cX6_photosBy 30 = .ok (.iadd, 1) := by decide +kernel
theorem dX6_photosBy_31 : decode cX6_photosBy 31 = .ok (.iconst 4, 1) := by decide +kernel
theorem dX6_photosBy_32 : decode cX6_photosBy 32 = .ok (.iadd, 1) := by decide +kernel
theorem dX6_photosBy_33 : decode cX6_photosBy 33 = .ok (.iaload, 1) := by decide +kernel
theorem dX6_photosBy_34 : decode cX6_photosBy 34 = .ok (.bipush (-9), 2) := by decide +kernel
theorem dX6_photosBy_36 : decode cX6_photosBy 36 = .ok (.if_icmp .eq 20, 3) := by decide +kernel
theorem dX6_photosBy_39 : decode cX6_photosBy 39 = .ok (.goto 13, 3) := by decide +kernel
theorem dX6_photosBy_42 : decode cX6_photosBy 42 = .ok (.aload_n 0, 1) := by decide +kernel
theorem dX6_photosBy_43 : decode cX6_photosBy 43 = .ok (.iload_n 3, 1) := by decide +kernel
theorem dX6_photosBy_44 : decode cX6_photosBy 44 = .ok (.invokevirtual 103, 3) := by decide +kernel
theorem dX6_photosBy_47 : decode cX6_photosBy 47 = .ok (.bipush (-9), 2) := by decide +kernel
theorem dX6_photosBy_49 : decode cX6_photosBy 49 = .ok (.if_icmp .ne 7, 3) := by decide +kernel
theorem dX6_photosBy_52 : decode cX6_photosBy 52 = .ok (.iconst 1, 1) := by decide +kernel
theorem dX6_photosBy_53 : decode cX6_photosBy 53 = .ok (.goto 4, 3) := by decide +kernel
theorem dX6_photosBy_56 : decode cX6_photosBy 56 = .ok (.iconst 0, 1) := by decide +kernel
theorem dX6_photosBy_57 : decode cX6_photosBy 57 = .ok (.iadd, 1) := by decide +kernel
theorem dX6_photosBy_58 : decode cX6_photosBy 58 = .ok (.istore_n 2, 1) := by decide +kernel
theorem dX6_photosBy_59 : decode cX6_photosBy 59 = .ok (.iinc 3 1, 3) := by decide +kernel
theorem dX6_photosBy_62 : decode cX6_photosBy 62 = .ok (.goto (-58), 3) := by decide +kernel
theorem dX6_photosBy_65 : decode cX6_photosBy 65 = .ok (.iload_n 2, 1) := by decide +kernel
theorem dX6_photosBy_66 : decode cX6_photosBy 66 = .ok (.ireturn, 1) := by decide +kernel
theorem dX6_idleOnes_0 : decode cX6_idleOnes 0 = .ok (.iconst 0, 1) := by decide +kernel
theorem dX6_idleOnes_1 : decode cX6_idleOnes 1 = .ok (.istore_n 1, 1) := by decide +kernel
theorem dX6_idleOnes_2 : decode cX6_idleOnes 2 = .ok (.iconst 0, 1) := by decide +kernel
theorem dX6_idleOnes_3 : decode cX6_idleOnes 3 = .ok (.istore_n 2, 1) := by decide +kernel
theorem dX6_idleOnes_4 : decode cX6_idleOnes 4 = .ok (.iload_n 2, 1) := by decide +kernel
theorem dX6_idleOnes_5 : decode cX6_idleOnes 5 = .ok (.aload_n 0, 1) := by decide +kernel
theorem dX6_idleOnes_6 : decode cX6_idleOnes 6 = .ok (.getfield 7, 3) := by decide +kernel
theorem dX6_idleOnes_9 : decode cX6_idleOnes 9 = .ok (.iconst 0, 1) := by decide +kernel
theorem dX6_idleOnes_10 : decode cX6_idleOnes 10 = .ok (.iaload, 1) := by decide +kernel
theorem dX6_idleOnes_11 : decode cX6_idleOnes 11 = .ok (.if_icmp .ge 27, 3) := by decide +kernel
theorem dX6_idleOnes_14 : decode cX6_idleOnes 14 = .ok (.iload_n 1, 1) := by decide +kernel
theorem dX6_idleOnes_15 : decode cX6_idleOnes 15 = .ok (.aload_n 0, 1) := by decide +kernel
theorem dX6_idleOnes_16 : decode cX6_idleOnes 16 = .ok (.iload_n 2, 1) := by decide +kernel
theorem dX6_idleOnes_17 : decode cX6_idleOnes 17 = .ok (.invokevirtual 79, 3) := by decide +kernel
theorem dX6_idleOnes_20 : decode cX6_idleOnes 20 = .ok (.ifCond .eq 9, 3) := by decide +kernel
theorem dX6_idleOnes_23 : decode cX6_idleOnes 23 = .ok (.iconst 1, 1) := by decide +kernel
theorem dX6_idleOnes_24 : decode cX6_idleOnes 24 = .ok (.iload_n 2, 1) := by decide +kernel
theorem dX6_idleOnes_25 : decode cX6_idleOnes 25 = .ok (.ishl, 1) := by decide +kernel
theorem dX6_idleOnes_26 : decode cX6_idleOnes 26 = .ok (.goto 4, 3) := by decide +kernel
theorem dX6_idleOnes_29 : decode cX6_idleOnes 29 = .ok (.iconst 0, 1) := by decide +kernel
theorem dX6_idleOnes_30 : decode cX6_idleOnes 30 = .ok (.ior, 1) := by decide +kernel
theorem dX6_idleOnes_31 : decode cX6_idleOnes 31 = .ok (.istore_n 1, 1) := by decide +kernel
theorem dX6_idleOnes_32 : decode cX6_idleOnes 32 = .ok (.iinc 2 1, 3) := by decide +kernel
theorem dX6_idleOnes_35 : decode cX6_idleOnes 35 = .ok (.goto (-31), 3) := by decide +kernel
theorem dX6_idleOnes_38 : decode cX6_idleOnes 38 = .ok (.iload_n 1, 1) := by decide +kernel
theorem dX6_idleOnes_39 : decode cX6_idleOnes 39 = .ok (.ireturn, 1) := by decide +kernel
theorem dX6_count_0 : decode cX6_count 0 = .ok (.aload_n 0, 1) := by decide +kernel
theorem dX6_count_1 : decode cX6_count 1 = .ok (.iconst 0, 1) := by decide +kernel
theorem dX6_count_2 : decode cX6_count 2 = .ok (.putfield 36, 3) := by decide +kernel
theorem dX6_count_5 : decode cX6_count 5 = .ok (.iload_n 1, 1) := by decide +kernel
theorem dX6_count_6 : decode cX6_count 6 = .ok (.tableswitch 72 5 10 #[38, 44, 50, 55, 62, 67], 38) := by decide +kernel
theorem dX6_count_44 : decode cX6_count 44 = .ok (.aload_n 0, 1) := by decide +kernel
theorem dX6_count_45 : decode cX6_count 45 = .ok (.iconst 1, 1) := by decide +kernel
theorem dX6_count_46 : decode cX6_count 46 = .ok (.invokevirtual 123, 3) := by decide +kernel
theorem dX6_count_49 : decode cX6_count 49 = .ok (.ireturn, 1) := by decide +kernel
theorem dX6_count_50 : decode cX6_count 50 = .ok (.aload_n 0, 1) := by decide +kernel
theorem dX6_count_51 : decode cX6_count 51 = .ok (.iconst 0, 1) := by decide +kernel
theorem dX6_count_52 : decode cX6_count 52 = .ok (.invokevirtual 123, 3) := by decide +kernel
theorem dX6_count_55 : decode cX6_count 55 = .ok (.ireturn, 1) := by decide +kernel
theorem dX6_count_56 : decode cX6_count 56 = .ok (.aload_n 0, 1) := by decide +kernel
theorem dX6_count_57 : decode cX6_count 57 = .ok (.invokevirtual 127, 3) := by decide +kernel
theorem dX6_count_60 : decode cX6_count 60 = .ok (.ireturn, 1) := by decide +kernel
theorem dX6_count_61 : decode cX6_count 61 = .ok (.aload_n 0, 1) := by decide +kernel
theorem dX6_count_62 : decode cX6_count 62 = .ok (.getfield 7, 3) := by decide +kernel
theorem dX6_count_65 : decode cX6_count 65 = .ok (.iconst 4, 1) := by decide +kernel
theorem dX6_count_66 : decode cX6_count 66 = .ok (.iaload, 1) := by decide +kernel
theorem dX6_count_67 : decode cX6_count 67 = .ok (.ireturn, 1) := by decide +kernel
theorem dX6_count_68 : decode cX6_count 68 = .ok (.aload_n 0, 1) := by decide +kernel
theorem dX6_count_69 : decode cX6_count 69 = .ok (.getfield 76, 3) := by decide +kernel
theorem dX6_count_72 : decode cX6_count 72 = .ok (.ireturn, 1) := by decide +kernel
theorem dX6_count_73 : decode cX6_count 73 = .ok (.aload_n 0, 1) := by decide +kernel
theorem dX6_count_74 : decode cX6_count 74 = .ok (.getfield 66, 3) := by decide +kernel
theorem dX6_count_77 : decode cX6_count 77 = .ok (.ireturn, 1) := by decide +kernel
theorem dX6_count_78 : decode cX6_count 78 = .ok (.iload_n 1, 1) := by decide +kernel
theorem dX6_count_79 : decode cX6_count 79 = .ok (.iconst 0, 1) := by decide +kernel
theorem dX6_count_80 : decode cX6_count 80 = .ok (.iconst 4, 1) := by decide +kernel
theorem dX6_count_81 : decode cX6_count 81 = .ok (.invokestatic 69, 3) := by decide +kernel
theorem dX6_count_84 : decode cX6_count 84 = .ok (.ifCond .ne 7, 3) := by decide +kernel
theorem dX6_count_87 : decode cX6_count 87 = .ok (.iconst (-1), 1) := by decide +kernel
theorem dX6_count_88 : decode cX6_count 88 = .ok (.goto 23, 3) := by decide +kernel
theorem dX6_count_91 : decode cX6_count 91 = .ok (.iload_n 1, 1) := by decide +kernel
theorem dX6_count_92 : decode cX6_count 92 = .ok (.iconst 4, 1) := by decide +kernel
theorem dX6_count_93 : decode cX6_count 93 = .ok (.if_icmp .ne 12, 3) := by decide +kernel
theorem dX6_count_96 : decode cX6_count 96 = .ok (.aload_n 0, 1) := by decide +kernel
theorem dX6_count_97 : decode cX6_count 97 = .ok (.getfield 7, 3) := by decide +kernel
theorem dX6_count_100 : decode cX6_count 100 = .ok (.iconst 5, 1) := by decide +kernel
theorem dX6_count_101 : decode cX6_count 101 = .ok (.iaload, 1) := by decide +kernel
theorem dX6_count_102 : decode cX6_count 102 = .ok (.goto 9, 3) := by decide +kernel
theorem dX6_count_105 : decode cX6_count 105 = .ok (.aload_n 0, 1) := by decide +kernel
theorem dX6_count_106 : decode cX6_count 106 = .ok (.getfield 7, 3) := by decide +kernel
theorem dX6_count_109 : decode cX6_count 109 = .ok (.iload_n 1, 1) := by decide +kernel
theorem dX6_count_110 : decode cX6_count 110 = .ok (.iaload, 1) := by decide +kernel
theorem dX6_count_111 : decode cX6_count 111 = .ok (.ireturn, 1) := by decide +kernel
