theorem dX1_init_0 : decode cX1_init 0 = .ok (.aload_n 0, 1) := by decide +kernel
theorem dX1_init_1 : decode cX1_init 1 = .ok (.invokespecial 3, 3) := by decide +kernel
theorem dX1_init_4 : decode cX1_init 4 = .ok (.aload_n 0, 1) := by decide +kernel
theorem dX1_init_5 : decode cX1_init 5 = .ok (.bipush 49, 2) := by decide +kernel
theorem dX1_init_7 : decode cX1_init 7 = .ok (.newarray .int, 2) := by decide +kernel
theorem dX1_init_9 : decode cX1_init 9 = .ok (.putfield 9, 3) := by decide +kernel
theorem dX1_init_12 : decode cX1_init 12 = .ok (.aload_n 0, 1) := by decide +kernel
theorem dX1_init_13 : decode cX1_init 13 = .ok (.bipush 20, 2) := by decide +kernel
theorem dX1_init_15 : decode cX1_init 15 = .ok (.newarray .int, 2) := by decide +kernel
theorem dX1_init_17 : decode cX1_init 17 = .ok (.putfield 15, 3) := by decide +kernel
theorem dX1_init_20 : decode cX1_init 20 = .ok (.aload_n 0, 1) := by decide +kernel
theorem dX1_init_21 : decode cX1_init 21 = .ok (.bipush 20, 2) := by decide +kernel
theorem dX1_init_23 : decode cX1_init 23 = .ok (.newarray .int, 2) := by decide +kernel
theorem dX1_init_25 : decode cX1_init 25 = .ok (.putfield 18, 3) := by decide +kernel
theorem dX1_init_28 : decode cX1_init 28 = .ok (.aload_n 0, 1) := by decide +kernel
theorem dX1_init_29 : decode cX1_init 29 = .ok (.bipush 20, 2) := by decide +kernel
theorem dX1_init_31 : decode cX1_init 31 = .ok (.newarray .int, 2) := by decide +kernel
theorem dX1_init_33 : decode cX1_init 33 = .ok (.putfield 21, 3) := by decide +kernel
theorem dX1_init_36 : decode cX1_init 36 = .ok (.aload_n 0, 1) := by decide +kernel
theorem dX1_init_37 : decode cX1_init 37 = .ok (.bipush 20, 2) := by decide +kernel
theorem dX1_init_39 : decode cX1_init 39 = .ok (.newarray .int, 2) := by decide +kernel
theorem dX1_init_41 : decode cX1_init 41 = .ok (.putfield 24, 3) := by decide +kernel
theorem dX1_init_44 : decode cX1_init 44 = .ok (.aload_n 0, 1) := by decide +kernel
theorem dX1_init_45 : decode cX1_init 45 = .ok (.iconst 0, 1) := by decide +kernel
theorem dX1_init_46 : decode cX1_init 46 = .ok (.putfield 27, 3) := by decide +kernel
theorem dX1_init_49 : decode cX1_init 49 = .ok (.aload_n 0, 1) := by decide +kernel
theorem dX1_init_50 : decode cX1_init 50 = .ok (.iconst 0, 1) := by decide +kernel
theorem dX1_init_51 : decode cX1_init 51 = .ok (.putfield 31, 3) := by decide +kernel
theorem dX1_init_54 : decode cX1_init 54 = .ok (.aload_n 0, 1) := by decide +kernel
theorem dX1_init_55 : decode cX1_init 55 = .ok (.iconst 0, 1) := by decide +kernel
theorem dX1_init_56 : decode cX1_init 56 = .ok (.putfield 34, 3) := by decide +kernel
theorem dX1_init_59 : decode cX1_init 59 = .ok (.return_, 1) := by decide +kernel
theorem dX1_tryAllShifts_0 : decode cX1_tryAllShifts 0 = .ok (.aload_n 0, 1) := by decide +kernel
theorem dX1_tryAllShifts_1 : decode cX1_tryAllShifts 1 = .ok (.iconst (-1), 1) := by decide +kernel
theorem dX1_tryAllShifts_2 : decode cX1_tryAllShifts 2 = .ok (.putfield 27, 3) := by decide +kernel
theorem dX1_tryAllShifts_5 : decode cX1_tryAllShifts 5 = .ok (.bipush (-3), 2) := by decide +kernel
theorem dX1_tryAllShifts_7 : decode cX1_tryAllShifts 7 = .ok (.istore_n 3, 1) := by decide +kernel
theorem dX1_tryAllShifts_8 : decode cX1_tryAllShifts 8 = .ok (.iload_n 3, 1) := by decide +kernel
theorem dX1_tryAllShifts_9 : decode cX1_tryAllShifts 9 = .ok (.iconst 3, 1) := by decide +kernel
theorem dX1_tryAllShifts_10 : decode cX1_tryAllShifts 10 = .ok (.if_icmp .gt 40, 3) := by decide +kernel
theorem dX1_tryAllShifts_13 : decode cX1_tryAllShifts 13 = .ok (.bipush (-3), 2) := by decide +kernel
theorem dX1_tryAllShifts_15 : decode cX1_tryAllShifts 15 = .ok (.istore 4, 2) := by decide +kernel
theorem dX1_tryAllShifts_17 : decode cX1_tryAllShifts 17 = .ok (.iload 4, 2) := by decide +kernel
theorem dX1_tryAllShifts_19 : decode cX1_tryAllShifts 19 = .ok (.iconst 3, 1) := by decide +kernel
theorem dX1_tryAllShifts_20 : decode cX1_tryAllShifts 20 = .ok (.if_icmp .gt 24, 3) := by decide +kernel
theorem dX1_tryAllShifts_23 : decode cX1_tryAllShifts 23 = .ok (.aload_n 0, 1) := by decide +kernel
theorem dX1_tryAllShifts_24 : decode cX1_tryAllShifts 24 = .ok (.iload_n 3, 1) := by decide +kernel
theorem dX1_tryAllShifts_25 : decode cX1_tryAllShifts 25 = .ok (.iload 4, 2) := by decide +kernel
theorem dX1_tryAllShifts_27 : decode cX1_tryAllShifts 27 = .ok (.aload_n 1, 1) := by decide +kernel
theorem dX1_tryAllShifts_28 : decode cX1_tryAllShifts 28 = .ok (.aload_n 2, 1) := by decide +kernel
theorem dX1_tryAllShifts_29 : decode cX1_tryAllShifts 29 = .ok (.iload_n 3, 1) := by decide +kernel
theorem dX1_tryAllShifts_30 : decode cX1_tryAllShifts 30 = .ok (.iload 4, 2) := by decide +kernel
theorem dX1_tryAllShifts_32 : decode cX1_tryAllShifts 32 = .ok (.invokevirtual 37, 3) := by decide +kernel
theorem dX1_tryAllShifts_35 : decode cX1_tryAllShifts 35 = .ok (.invokevirtual 43, 3) := by decide +kernel
theorem dX1_tryAllShifts_38 : decode cX1_tryAllShifts 38 = .ok (.iinc 4 1, 3) := by decide +kernel
theorem dX1_tryAllShifts_41 : decode cX1_tryAllShifts 41 = .ok (.goto (-24), 3) := by decide +kernel
theorem dX1_tryAllShifts_44 : decode cX1_tryAllShifts 44 = .ok (.iinc 3 1, 3) := by decide +kernel
theorem dX1_tryAllShifts_47 : decode cX1_tryAllShifts 47 = .ok (.goto (-39), 3) := by decide +kernel
theorem dX1_tryAllShifts_50 : decode cX1_tryAllShifts 50 = .ok (.return_, 1) := by decide +kernel
theorem dX1_consider_0 : decode cX1_consider 0 = .ok (.iload_n 1, 1) := by decide +kernel
theorem dX1_consider_1 : decode cX1_consider 1 = .ok (.invokestatic 47, 3) := by decide +kernel
theorem dX1_consider_4 : decode cX1_consider 4 = .ok (.iload_n 2, 1) := by decide +kernel
theorem dX1_consider_5 : decode cX1_consider 5 = .ok (.invokestatic 47, 3) := by decide +kernel
theorem dX1_consider_8 : decode cX1_consider 8 = .ok (.iadd, 1) := by decide +kernel
theorem dX1_consider_9 : decode cX1_consider 9 = .ok (.aload_n 0, 1) := by decide +kernel
theorem dX1_consider_10 : decode cX1_consider 10 = .ok (.getfield 31, 3) := by decide +kernel
theorem dX1_consider_13 : decode cX1_consider 13 = .ok (.invokestatic 47, 3) := by decide +kernel
theorem dX1_consider_16 : decode cX1_consider 16 = .ok (.aload_n 0, 1) := by decide +kernel
theorem dX1_consider_17 : decode cX1_consider 17 = .ok (.getfield 34, 3) := by decide +kernel
theorem dX1_consider_20 : decode cX1_consider 20 = .ok (.invokestatic 47, 3) := by decide +kernel
theorem dX1_consider_23 : decode cX1_consider 23 = .ok (.iadd, 1) := by decide +kernel
theorem dX1_consider_24 : decode cX1_consider 24 = .ok (.if_icmp .ge 7, 3) := by decide +kernel
theorem dX1_consider_27 : decode cX1_consider 27 = .ok (.iconst 1, 1) := by decide +kernel
theorem dX1_consider_28 : decode cX1_consider 28 = .ok (.goto 4, 3) := by decide +kernel
theorem dX1_consider_31 : decode cX1_consider 31 = .ok (.iconst 0, 1) := by decide +kernel
theorem dX1_consider_32 : decode cX1_consider 32 = .ok (.istore 4, 2) := by decide +kernel
theorem dX1_consider_34 : decode cX1_consider 34 = .ok (.iload_n 3, 1) := by decide +kernel
theorem dX1_consider_35 : decode cX1_consider 35 = .ok (.aload_n 0, 1) := by decide +kernel
theorem dX1_consider_36 : decode cX1_consider 36 = .ok (.getfield 27, 3) := by decide +kernel
theorem dX1_consider_39 : decode cX1_consider 39 = .ok (.if_icmp .gt 16, 3) := by decide +kernel
theorem dX1_consider_42 : decode cX1_consider 42 = .ok (.iload_n 3, 1) := by decide +kernel
theorem dX1_consider_43 : decode cX1_consider 43 = .ok (.aload_n 0, 1) := by decide +kernel
theorem dX1_consider_44 : decode cX1_consider 44 = .ok (.getfield 27, 3) := by decide +kernel
theorem dX1_consider_47 : decode cX1_consider 47 = .ok (.if_icmp .ne 23, 3) := by decide +kernel
theorem dX1_consider_50 : decode cX1_consider 50 = .ok (.iload 4, 2) := by decide +kernel
theorem dX1_consider_52 : decode cX1_consider 52 = .ok (.ifCond .eq 18, 3) := by decide +kernel
theorem dX1_consider_55 : decode cX1_consider 55 = .ok (.aload_n 0, 1) := by decide +kernel
theorem dX1_consider_56 : decode cX1_consider 56 = .ok (.iload_n 3, 1) := by decide +kernel
theorem dX1_consider_57 : decode cX1_consider 57 = .ok (.putfield 27, 3) := by decide +kernel
theorem dX1_consider_60 : decode cX1_consider 60 = .ok (.aload_n 0, 1) := by decide +kernel
theorem dX1_consider_61 : decode cX1_consider 61 = .ok (.iload_n 1, 1) := by decide +kernel
theorem dX1_consider_62 : decode cX1_consider 62 = .ok (.putfield 31, 3) := by decide +kernel
theorem dX1_consider_65 : decode cX1_consider 65 = .ok (.aload_n 0, 1) := by decide +kernel
theorem dX1_consider_66 : decode cX1_consider 66 = .ok (.iload_n 2, 1) := by decide +kernel
theorem dX1_consider_67 : decode cX1_consider 67 = .ok (.putfield 34, 3) := by decide +kernel
theorem dX1_consider_70 : decode cX1_consider 70 = .ok (.return_, 1) := by decide +kernel
theorem dX1_countPairs_0 : decode cX1_countPairs 0 = .ok (.aload_n 0, 1) := by decide +kernel
theorem dX1_countPairs_1 : decode cX1_countPairs 1 = .ok (.getfield 9, 3) := by decide +kernel
theorem dX1_countPairs_4 : decode cX1_countPairs 4 = .ok (.iconst 0, 1) := by decide +kernel
theorem dX1_countPairs_5 : decode cX1_countPairs 5 = .ok (.invokestatic 53, 3) := by decide +kernel
theorem dX1_countPairs_8 : decode cX1_countPairs 8 = .ok (.aload_n 1, 1) := by decide +kernel
theorem dX1_countPairs_9 : decode cX1_countPairs 9 = .ok (.aload_n 0, 1) := by decide +kernel
theorem dX1_countPairs_10 : decode cX1_countPairs 10 = .ok (.getfield 15, 3) := by decide +kernel
theorem dX1_countPairs_13 : decode cX1_countPairs 13 = .ok (.aload_n 0, 1) := by decide +kernel
theorem dX1_countPairs_14 : decode cX1_countPairs 14 = .ok (.getfield 18, 3) := by decide +kernel
theorem dX1_countPairs_17 : decode cX1_countPairs 17 = .ok (.invokevirtual 59, 3) := by decide +kernel
theorem dX1_countPairs_20 : decode cX1_countPairs 20 = .ok (.istore_n 3, 1) := by decide +kernel
theorem dX1_countPairs_21 : decode cX1_countPairs 21 = .ok (.aload_n 2, 1) := by decide +kernel
theorem dX1_countPairs_22 : decode cX1_countPairs 22 = .ok (.aload_n 0, 1) := by decide +kernel
theorem dX1_countPairs_23 : decode cX1_countPairs 23 = .ok (.getfield 21, 3) := by decide +kernel
theorem dX1_countPairs_26 : decode cX1_countPairs 26 = .ok (.aload_n 0, 1) := by decide +kernel
theorem dX1_countPairs_27 : decode cX1_countPairs 27 = .ok (.getfield 24, 3) := by decide +kernel
theorem dX1_countPairs_30 : decode cX1_countPairs 30 = .ok (.invokevirtual 59, 3) := by decide +kernel
theorem dX1_countPairs_33 : decode cX1_countPairs 33 = .ok (.istore 4, 2) := by decide +kernel
theorem dX1_countPairs_35 : decode cX1_countPairs 35 = .ok (.iconst 0, 1) := by decide +kernel
theorem dX1_countPairs_36 : decode cX1_countPairs 36 = .ok (.istore 5, 2) := by decide +kernel
theorem dX1_countPairs_38 : decode cX1_countPairs 38 = .ok (.iconst 0, 1) := by decide +kernel
theorem dX1_countPairs_39 : decode cX1_countPairs 39 = .ok (.istore 6, 2) := by decide +kernel
theorem dX1_countPairs_41 : decode cX1_countPairs 41 = .ok (.iload 6, 2) := by decide +kernel
theorem dX1_countPairs_43 : decode cX1_countPairs 43 = .ok (.iload_n 3, 1) := by decide +kernel
theorem dX1_countPairs_44 : decode cX1_countPairs 44 = .ok (.if_icmp .ge 66, 3) := by decide +kernel
theorem dX1_countPairs_47 : decode cX1_countPairs 47 = .ok (.iconst 0, 1) := by decide +kernel
theorem dX1_countPairs_48 : decode cX1_countPairs 48 = .ok (.istore 7, 2) := by decide +kernel
theorem dX1_countPairs_50 : decode cX1_countPairs 50 = .ok (.iload 7, 2) := by decide +kernel
theorem dX1_countPairs_52 : decode cX1_countPairs 52 = .ok (.iload 4, 2) := by decide +kernel
theorem dX1_countPairs_54 : decode cX1_countPairs 54 = .ok (.if_icmp .ge 50, 3) := by decide +kernel
theorem dX1_countPairs_57 : decode cX1_countPairs 57 = .ok (.iload 5, 2) := by decide +kernel
theorem dX1_countPairs_59 : decode cX1_countPairs 59 = .ok (.aload_n 0, 1) := by decide +kernel
theorem dX1_countPairs_60 : decode cX1_countPairs 60 = .ok (.aload_n 0, 1) := by decide +kernel
theorem dX1_countPairs_61 : decode cX1_countPairs 61 = .ok (.getfield 21, 3) := by decide +kernel
theorem dX1_countPairs_64 : decode cX1_countPairs 64 = .ok (.iload 7, 2) := by decide +kernel
theorem dX1_countPairs_66 : decode cX1_countPairs 66 = .ok (.iaload, 1) := by decide +kernel
theorem dX1_countPairs_67 : decode cX1_countPairs 67 = .ok (.aload_n 0, 1) := by decide +kernel
theorem dX1_countPairs_68 : decode cX1_countPairs 68 = .ok (.getfield 15, 3) := by decide +kernel
theorem dX1_countPairs_71 : decode cX1_countPairs 71 = .ok (.iload 6, 2) := by decide +kernel
theorem dX1_countPairs_73 : decode cX1_countPairs 73 = .ok (.iaload, 1) := by decide +kernel
theorem dX1_countPairs_74 : decode cX1_countPairs 74 = .ok (.isub, 1) := by decide +kernel
theorem dX1_countPairs_75 : decode cX1_countPairs 75 = .ok (.aload_n 0, 1) := by decide +kernel
theorem dX1_countPairs_76 : decode cX1_countPairs 76 = .ok (.getfield 24, 3) := by decide +kernel
theorem dX1_countPairs_79 : decode cX1_countPairs 79 = .ok (.iload 7, 2) := by decide +kernel
theorem dX1_countPairs_81 : decode cX1_countPairs 81 = .ok (.iaload, 1) := by decide +kernel
theorem dX1_countPairs_82 : decode cX1_countPairs 82 = .ok (.aload_n 0, 1) := by decide +kernel
theorem dX1_countPairs_83 : decode cX1_countPairs 83 = .ok (.getfield 18, 3) := by decide +kernel
theorem dX1_countPairs_86 : decode cX1_countPairs 86 = .ok (.iload 6, 2) := by decide +kernel
theorem dX1_countPairs_88 : decode cX1_countPairs 88 = .ok (.iaload, 1) := by decide +kernel
theorem dX1_countPairs_89 : decode cX1_countPairs 89 = .ok (.isub, 1) := by decide +kernel
theorem dX1_countPairs_90 : decode cX1_countPairs 90 = .ok (.invokevirtual 63, 3) := by decide +kernel
theorem dX1_countPairs_93 : decode cX1_countPairs 93 = .ok (.invokestatic 67, 3) := by decide +kernel
theorem dX1_countPairs_96 : decode cX1_countPairs 96 = .ok (.istore 5, 2) := by decide +kernel
theorem dX1_countPairs_98 : decode cX1_countPairs 98 = .ok (.iinc 7 1, 3) := by decide +kernel
theorem dX1_countPairs_101 : decode cX1_countPairs 101 = .ok (.goto (-51), 3) := by decide +kernel
theorem dX1_countPairs_104 : decode cX1_countPairs 104 = .ok (.iinc 6 1, 3) := by decide +kernel
theorem dX1_countPairs_107 : decode cX1_countPairs 107 = .ok (.goto (-66), 3) := by decide +kernel
theorem dX1_countPairs_110 : decode cX1_countPairs 110 = .ok (.iload 5, 2) := by decide +kernel
theorem dX1_countPairs_112 : decode cX1_countPairs 112 = .ok (.ireturn, 1) := by decide +kernel
theorem dX1_countPair_0 : decode cX1_countPair 0 = .ok (.iload_n 1, 1) := by decide +kernel
theorem dX1_countPair_1 : decode cX1_countPair 1 = .ok (.iload_n 2, 1) := by decide +kernel
theorem dX1_countPair_2 : decode cX1_countPair 2 = .ok (.invokestatic 70, 3) := by decide +kernel
theorem dX1_countPair_5 : decode cX1_countPair 5 = .ok (.ifCond .ne 5, 3) := by decide +kernel
theorem dX1_countPair_8 : decode cX1_countPair 8 = .ok (.iconst 0, 1) := by decide +kernel
theorem dX1_countPair_9 : decode cX1_countPair 9 = .ok (.ireturn, 1) := by decide +kernel
theorem dX1_countPair_10 : decode cX1_countPair 10 = .ok (.iload_n 1, 1) := by decide +kernel
theorem dX1_countPair_11 : decode cX1_countPair 11 = .ok (.iconst 3, 1) := by decide +kernel
theorem dX1_countPair_12 : decode cX1_countPair 12 = .ok (.iadd, 1) := by decide +kernel
theorem dX1_countPair_13 : decode cX1_countPair 13 = .ok (.bipush 7, 2) := by decide +kernel
theorem dX1_countPair_15 : decode cX1_countPair 15 = .ok (.imul, 1) := by decide +kernel
theorem dX1_countPair_16 : decode cX1_countPair 16 = .ok (.iload_n 2, 1) := by decide +kernel
theorem dX1_countPair_17 : decode cX1_countPair 17 = .ok (.iadd, 1) := by decide +kernel
theorem dX1_countPair_18 : decode cX1_countPair 18 = .ok (.iconst 3, 1) := by decide +kernel
theorem dX1_countPair_19 : decode cX1_countPair 19 = .ok (.iadd, 1) := by decide +kernel
theorem dX1_countPair_20 : decode cX1_countPair 20 = .ok (.istore_n 3, 1) := by decide +kernel
theorem dX1_countPair_21 : decode cX1_countPair 21 = .ok (.aload_n 0, 1) := by decide +kernel
theorem dX1_countPair_22 : decode cX1_countPair 22 = .ok (.getfield 9, 3) := by decide +kernel
theorem dX1_countPair_25 : decode cX1_countPair 25 = .ok (.iload_n 3, 1) := by decide +kernel
theorem dX1_countPair_26 : decode cX1_countPair 26 = .ok (.dup2, 1) := by decide +kernel
theorem dX1_countPair_27 : decode cX1_countPair 27 = .ok (.iaload, 1) := by decide +kernel
theorem dX1_countPair_28 : decode cX1_countPair 28 = .ok (.iconst 1, 1) := by decide +kernel
theorem dX1_countPair_29 : decode cX1_countPair 29 = .ok (.iadd, 1) := by decide +kernel
theorem dX1_countPair_30 : decode cX1_countPair 30 = .ok (.iastore, 1) := by decide +kernel
theorem dX1_countPair_31 : decode cX1_countPair 31 = .ok (.aload_n 0, 1) := by decide +kernel
theorem dX1_countPair_32 : decode cX1_countPair 32 = .ok (.getfield 9, 3) := by decide +kernel
theorem dX1_countPair_35 : decode cX1_countPair 35 = .ok (.iload_n 3, 1) := by decide +kernel
theorem dX1_countPair_36 : decode cX1_countPair 36 = .ok (.iaload, 1) := by decide +kernel
theorem dX1_countPair_37 : decode cX1_countPair 37 = .ok (.ireturn, 1) := by decide +kernel
theorem dX2_init_0 : decode cX2_init 0 = .ok (.aload_n 0, 1) := by decide +kernel
theorem dX2_init_1 : decode cX2_init 1 = .ok (.invokespecial 3, 3) := by decide +kernel
theorem dX2_init_4 : decode cX2_init 4 = .ok (.aload_n 0, 1) := by decide +kernel
theorem dX2_init_5 : decode cX2_init 5 = .ok (.bipush 9, 2) := by decide +kernel
theorem dX2_init_7 : decode cX2_init 7 = .ok (.anewarray 11, 3) := by decide +kernel
theorem dX2_init_10 : decode cX2_init 10 = .ok (.putfield 13, 3) := by decide +kernel
theorem dX2_init_13 : decode cX2_init 13 = .ok (.aload_n 0, 1) := by decide +kernel
theorem dX2_init_14 : decode cX2_init 14 = .ok (.iconst 0, 1) := by decide +kernel
theorem dX2_init_15 : decode cX2_init 15 = .ok (.putfield 17, 3) := by decide +kernel
theorem dX2_init_18 : decode cX2_init 18 = .ok (.aload_n 0, 1) := by decide +kernel
theorem dX2_init_19 : decode cX2_init 19 = .ok (.iconst 0, 1) := by decide +kernel
theorem dX2_init_20 : decode cX2_init 20 = .ok (.putfield 21, 3) := by decide +kernel
theorem dX2_init_23 : decode cX2_init 23 = .ok (.iconst 0, 1) := by decide +kernel
theorem dX2_init_24 : decode cX2_init 24 = .ok (.istore_n 1, 1) := by decide +kernel
theorem dX2_init_25 : decode cX2_init 25 = .ok (.iload_n 1, 1) := by decide +kernel
theorem dX2_init_26 : decode cX2_init 26 = .ok (.bipush 9, 2) := by decide +kernel
theorem dX2_init_28 : decode cX2_init 28 = .ok (.if_icmp .ge 22, 3) := by decide +kernel
theorem dX2_init_31 : decode cX2_init 31 = .ok (.aload_n 0, 1) := by decide +kernel
theorem dX2_init_32 : decode cX2_init 32 = .ok (.getfield 13, 3) := by decide +kernel
theorem dX2_init_35 : decode cX2_init 35 = .ok (.iload_n 1, 1) := by decide +kernel
theorem dX2_init_36 : decode cX2_init 36 = .ok (.new 11, 3) := by decide +kernel
theorem dX2_init_39 : decode cX2_init 39 = .ok (.dup, 1) := by decide +kernel
theorem dX2_init_40 : decode cX2_init 40 = .ok (.invokespecial 24, 3) := by decide +kernel
theorem dX2_init_43 : decode cX2_init 43 = .ok (.aastore, 1) := by decide +kernel
theorem dX2_init_44 : decode cX2_init 44 = .ok (.iinc 1 1, 3) := by decide +kernel
theorem dX2_init_47 : decode cX2_init 47 = .ok (.goto (-22), 3) := by decide +kernel
theorem dX2_init_50 : decode cX2_init 50 = .ok (.return_, 1) := by decide +kernel
theorem dX2_prepare_0 : decode cX2_prepare 0 = .ok (.aload_n 0, 1) := by decide +kernel
theorem dX2_prepare_1 : decode cX2_prepare 1 = .ok (.invokevirtual 25, 3) := by decide +kernel
theorem dX2_prepare_4 : decode cX2_prepare 4 = .ok (.aload_n 1, 1) := by decide +kernel
theorem dX2_prepare_5 : decode cX2_prepare 5 = .ok (.invokevirtual 29, 3) := by decide +kernel
theorem dX2_prepare_8 : decode cX2_prepare 8 = .ok (.return_, 1) := by decide +kernel
theorem dX2_prepared_0 : decode cX2_prepared 0 = .ok (.aload_n 0, 1) := by decide +kernel
theorem dX2_prepared_1 : decode cX2_prepared 1 = .ok (.getfield 13, 3) := by decide +kernel
theorem dX2_prepared_4 : decode cX2_prepared 4 = .ok (.aload_n 0, 1) := by decide +kernel
theorem dX2_prepared_5 : decode cX2_prepared 5 = .ok (.getfield 17, 3) := by decide +kernel
theorem dX2_prepared_8 : decode cX2_prepared 8 = .ok (.aload_n 0, 1) := by decide +kernel
theorem dX2_prepared_9 : decode cX2_prepared 9 = .ok (.getfield 21, 3) := by decide +kernel
theorem dX2_prepared_12 : decode cX2_prepared 12 = .ok (.iadd, 1) := by decide +kernel
theorem dX2_prepared_13 : decode cX2_prepared 13 = .ok (.bipush 9, 2) := by decide +kernel
theorem dX2_prepared_15 : decode cX2_prepared 15 = .ok (.irem, 1) := by decide +kernel
theorem dX2_prepared_16 : decode cX2_prepared 16 = .ok (.aaload, 1) := by decide +kernel
theorem dX2_prepared_17 : decode cX2_prepared 17 = .ok (.areturn, 1) := by decide +kernel
theorem dX2_keep_0 : decode cX2_keep 0 = .ok (.aload_n 0, 1) := by decide +kernel
theorem dX2_keep_1 : decode cX2_keep 1 = .ok (.getfield 21, 3) := by decide +kernel
theorem dX2_keep_4 : decode cX2_keep 4 = .ok (.bipush 8, 2) := by decide +kernel
theorem dX2_keep_6 : decode cX2_keep 6 = .ok (.if_icmp .ge 16, 3) := by decide +kernel
theorem dX2_keep_9 : decode cX2_keep 9 = .ok (.aload_n 0, 1) := by decide +kernel
theorem dX2_keep_10 : decode cX2_keep 10 = .ok (.dup, 1) := by decide +kernel
theorem dX2_keep_11 : decode cX2_keep 11 = .ok (.getfield 21, 3) := by decide +kernel
theorem dX2_keep_14 : decode cX2_keep 14 = .ok (.iconst 1, 1) := by decide +kernel
theorem dX2_keep_15 : decode cX2_keep 15 = .ok (.iadd, 1) := by decide +kernel
theorem dX2_keep_16 : decode cX2_keep 16 = .ok (.putfield 21, 3) := by decide +kernel
theorem dX2_keep_19 : decode cX2_keep 19 = .ok (.goto 16, 3) := by decide +kernel
theorem dX2_keep_22 : decode cX2_keep 22 = .ok (.aload_n 0, 1) := by decide +kernel
theorem dX2_keep_23 : decode cX2_keep 23 = .ok (.aload_n 0, 1) := by decide +kernel
theorem dX2_keep_24 : decode cX2_keep 24 = .ok (.getfield 17, 3) := by decide +kernel
theorem dX2_keep_27 : decode cX2_keep 27 = .ok (.iconst 1, 1) := by decide +kernel
theorem dX2_keep_28 : decode cX2_keep 28 = .ok (.iadd, 1) := by decide +kernel
theorem dX2_keep_29 : decode cX2_keep 29 = .ok (.bipush 9, 2) := by decide +kernel
theorem dX2_keep_31 : decode cX2_keep 31 = .ok (.irem, 1) := by decide +kernel
theorem dX2_keep_32 : decode cX2_keep 32 = .ok (.putfield 17, 3) := by decide +kernel
theorem dX2_keep_35 : decode cX2_keep 35 = .ok (.return_, 1) := by decide +kernel
theorem dX2_takeLatest_0 : decode cX2_takeLatest 0 = .ok (.aload_n 0, 1) := by decide +kernel
theorem dX2_takeLatest_1 : decode cX2_takeLatest 1 = .ok (.dup, 1) := by decide +kernel
theorem dX2_takeLatest_2 : decode cX2_takeLatest 2 = .ok (.getfield 21, 3) := by decide +kernel
theorem dX2_takeLatest_5 : decode cX2_takeLatest 5 = .ok (.iconst 1, 1) := by decide +kernel
theorem dX2_takeLatest_6 : decode cX2_takeLatest 6 = .ok (.isub, 1) := by decide +kernel
theorem dX2_takeLatest_7 : decode cX2_takeLatest 7 = .ok (.putfield 21, 3) := by decide +kernel
theorem dX2_takeLatest_10 : decode cX2_takeLatest 10 = .ok (.aload_n 0, 1) := by decide +kernel
theorem dX2_takeLatest_11 : decode cX2_takeLatest 11 = .ok (.invokevirtual 25, 3) := by decide +kernel
theorem dX2_takeLatest_14 : decode cX2_takeLatest 14 = .ok (.areturn, 1) := by decide +kernel
theorem dX2_clear_0 : decode cX2_clear 0 = .ok (.aload_n 0, 1) := by decide +kernel
theorem dX2_clear_1 : decode cX2_clear 1 = .ok (.iconst 0, 1) := by decide +kernel
theorem dX2_clear_2 : decode cX2_clear 2 = .ok (.putfield 21, 3) := by decide +kernel
theorem dX2_clear_5 : decode cX2_clear 5 = .ok (.return_, 1) := by decide +kernel
theorem dX3_init_0 : decode cX3_init 0 = .ok (.aload_n 0, 1) := by decide +kernel
theorem dX3_init_1 : decode cX3_init 1 = .ok (.invokespecial 3, 3) := by decide +kernel
theorem dX3_init_4 : decode cX3_init 4 = .ok (.aload_n 0, 1) := by decide +kernel
theorem dX3_init_5 : decode cX3_init 5 = .ok (.bipush 60, 2) := by decide +kernel
theorem dX3_init_7 : decode cX3_init 7 = .ok (.newarray .char, 2) := by decide +kernel
theorem dX3_init_9 : decode cX3_init 9 = .ok (.putfield 9, 3) := by decide +kernel
theorem dX3_init_12 : decode cX3_init 12 = .ok (.aload_n 0, 1) := by decide +kernel
theorem dX3_init_13 : decode cX3_init 13 = .ok (.iconst 0, 1) := by decide +kernel
theorem dX3_init_14 : decode cX3_init 14 = .ok (.putfield 15, 3) := by decide +kernel
theorem dX3_init_17 : decode cX3_init 17 = .ok (.aload_n 0, 1) := by decide +kernel
theorem dX3_init_18 : decode cX3_init 18 = .ok (.iconst 1, 1) := by decide +kernel
theorem dX3_init_19 : decode cX3_init 19 = .ok (.putfield 19, 3) := by decide +kernel
theorem dX3_init_22 : decode cX3_init 22 = .ok (.aload_n 0, 1) := by decide +kernel
theorem dX3_init_23 : decode cX3_init 23 = .ok (.iconst 0, 1) := by decide +kernel
theorem dX3_init_24 : decode cX3_init 24 = .ok (.putfield 23, 3) := by decide +kernel
theorem dX3_init_27 : decode cX3_init 27 = .ok (.aload_n 0, 1) := by decide +kernel
theorem dX3_init_28 : decode cX3_init 28 = .ok (.getstatic 26, 3) := by decide +kernel
theorem dX3_init_31 : decode cX3_init 31 = .ok (.putfield 32, 3) := by decide +kernel
theorem dX3_init_34 : decode cX3_init 34 = .ok (.aload_n 0, 1) := by decide +kernel
theorem dX3_init_35 : decode cX3_init 35 = .ok (.iconst 0, 1) := by decide +kernel
theorem dX3_init_36 : decode cX3_init 36 = .ok (.putfield 35, 3) := by decide +kernel
theorem dX3_init_39 : decode cX3_init 39 = .ok (.aload_n 0, 1) := by decide +kernel
theorem dX3_init_40 : decode cX3_init 40 = .ok (.iconst 0, 1) := by decide +kernel
theorem dX3_init_41 : decode cX3_init 41 = .ok (.putfield 38, 3) := by decide +kernel
theorem dX3_init_44 : decode cX3_init 44 = .ok (.aload_n 0, 1) := by decide +kernel
theorem dX3_init_45 : decode cX3_init 45 = .ok (.iconst 0, 1) := by decide +kernel
theorem dX3_init_46 : decode cX3_init 46 = .ok (.putfield 41, 3) := by decide +kernel
theorem dX3_init_49 : decode cX3_init 49 = .ok (.return_, 1) := by decide +kernel
theorem dX3_isFull_0 : decode cX3_isFull 0 = .ok (.aload_n 0, 1) := by decide +kernel
theorem dX3_isFull_1 : decode cX3_isFull 1 = .ok (.getfield 15, 3) := by decide +kernel
theorem dX3_isFull_4 : decode cX3_isFull 4 = .ok (.bipush 60, 2) := by decide +kernel
theorem dX3_isFull_6 : decode cX3_isFull 6 = .ok (.if_icmp .lt 7, 3) := by decide +kernel
theorem dX3_isFull_9 : decode cX3_isFull 9 = .ok (.iconst 1, 1) := by decide +kernel
theorem dX3_isFull_10 : decode cX3_isFull 10 = .ok (.goto 4, 3) := by decide +kernel
theorem dX3_isFull_13 : decode cX3_isFull 13 = .ok (.iconst 0, 1) := by decide +kernel
theorem dX3_isFull_14 : decode cX3_isFull 14 = .ok (.ireturn, 1) := by decide +kernel
theorem dX3_append_0 : decode cX3_append 0 = .ok (.aload_n 0, 1) := by decide +kernel
theorem dX3_append_1 : decode cX3_append 1 = .ok (.getfield 9, 3) := by decide +kernel
theorem dX3_append_4 : decode cX3_append 4 = .ok (.aload_n 0, 1) := by decide +kernel
theorem dX3_append_5 : decode cX3_append 5 = .ok (.getfield 15, 3) := by decide +kernel
theorem dX3_append_8 : decode cX3_append 8 = .ok (.iload_n 1, 1) := by decide +kernel
theorem dX3_append_9 : decode cX3_append 9 = .ok (.castore, 1) := by decide +kernel
theorem dX3_append_10 : decode cX3_append 10 = .ok (.aload_n 0, 1) := by decide +kernel
theorem dX3_append_11 : decode cX3_append 11 = .ok (.dup, 1) := by decide +kernel
theorem dX3_append_12 : decode cX3_append 12 = .ok (.getfield 15, 3) := by decide +kernel
theorem dX3_append_15 : decode cX3_append 15 = .ok (.iconst 1, 1) := by decide +kernel
theorem dX3_append_16 : decode cX3_append 16 = .ok (.iadd, 1) := by decide +kernel
theorem dX3_append_17 : decode cX3_append 17 = .ok (.putfield 15, 3) := by decide +kernel
theorem dX3_append_20 : decode cX3_append 20 = .ok (.aload_n 0, 1) := by decide +kernel
theorem dX3_append_21 : decode cX3_append 21 = .ok (.getfield 15, 3) := by decide +kernel
theorem dX3_append_24 : decode cX3_append 24 = .ok (.ireturn, 1) := by decide +kernel
theorem dX3_clear_0 : decode cX3_clear 0 = .ok (.aload_n 0, 1) := by decide +kernel
theorem dX3_clear_1 : decode cX3_clear 1 = .ok (.iconst 0, 1) := by decide +kernel
theorem dX3_clear_2 : decode cX3_clear 2 = .ok (.putfield 15, 3) := by decide +kernel
theorem dX3_clear_5 : decode cX3_clear 5 = .ok (.return_, 1) := by decide +kernel
theorem dX3_rewind_0 : decode cX3_rewind 0 = .ok (.aload_n 0, 1) := by decide +kernel
theorem dX3_rewind_1 : decode cX3_rewind 1 = .ok (.iconst 1, 1) := by decide +kernel
theorem dX3_rewind_2 : decode cX3_rewind 2 = .ok (.putfield 19, 3) := by decide +kernel
theorem dX3_rewind_5 : decode cX3_rewind 5 = .ok (.aload_n 0, 1) := by decide +kernel
theorem dX3_rewind_6 : decode cX3_rewind 6 = .ok (.iconst 0, 1) := by decide +kernel
theorem dX3_rewind_7 : decode cX3_rewind 7 = .ok (.putfield 23, 3) := by decide +kernel
theorem dX3_rewind_10 : decode cX3_rewind 10 = .ok (.return_, 1) := by decide +kernel
theorem dX3_countCommands_0 : decode cX3_countCommands 0 = .ok (.aload_n 0, 1) := by decide +kernel
theorem dX3_countCommands_1 : decode cX3_countCommands 1 = .ok (.invokevirtual 44, 3) := by decide +kernel
theorem dX3_countCommands_4 : decode cX3_countCommands 4 = .ok (.iconst 1, 1) := by decide +kernel
theorem dX3_countCommands_5 : decode cX3_countCommands 5 = .ok (.istore_n 1, 1) := by decide +kernel
theorem dX3_countCommands_6 : decode cX3_countCommands 6 = .ok (.iload_n 1, 1) := by decide +kernel
theorem dX3_countCommands_7 : decode cX3_countCommands 7 = .ok (.bipush 60, 2) := by decide +kernel
theorem dX3_countCommands_9 : decode cX3_countCommands 9 = .ok (.if_icmp .gt 35, 3) := by decide +kernel
theorem dX3_countCommands_12 : decode cX3_countCommands 12 = .ok (.aload_n 0, 1) := by decide +kernel
theorem dX3_countCommands_13 : decode cX3_countCommands 13 = .ok (.invokevirtual 47, 3) := by decide +kernel
theorem dX3_countCommands_16 : decode cX3_countCommands 16 = .ok (.aload_n 0, 1) := by decide +kernel
theorem dX3_countCommands_17 : decode cX3_countCommands 17 = .ok (.getfield 19, 3) := by decide +kernel
theorem dX3_countCommands_20 : decode cX3_countCommands 20 = .ok (.ifCond .ne 5, 3) := by decide +kernel
theorem dX3_countCommands_23 : decode cX3_countCommands 23 = .ok (.iconst (-1), 1) := by decide +kernel
theorem dX3_countCommands_24 : decode cX3_countCommands 24 = .ok (.ireturn, 1) := by decide +kernel
theorem dX3_countCommands_25 : decode cX3_countCommands 25 = .ok (.aload_n 0, 1) := by decide +kernel
theorem dX3_countCommands_26 : decode cX3_countCommands 26 = .ok (.getfield 23, 3) := by decide +kernel
theorem dX3_countCommands_29 : decode cX3_countCommands 29 = .ok (.aload_n 0, 1) := by decide +kernel
theorem dX3_countCommands_30 : decode cX3_countCommands 30 = .ok (.getfield 15, 3) := by decide +kernel
theorem dX3_countCommands_33 : decode cX3_countCommands 33 = .ok (.if_icmp .lt 5, 3) := by decide +kernel
theorem dX3_countCommands_36 : decode cX3_countCommands 36 = .ok (.iload_n 1, 1) := by decide +kernel
theorem dX3_countCommands_37 : decode cX3_countCommands 37 = .ok (.ireturn, 1) := by decide +kernel
theorem dX3_countCommands_38 : decode cX3_countCommands 38 = .ok (.iinc 1 1, 3) := by decide +kernel
theorem dX3_countCommands_41 : decode cX3_countCommands 41 = .ok (.goto (-35), 3) := by decide +kernel
theorem dX3_countCommands_44 : decode cX3_countCommands 44 = .ok (.iconst (-1), 1) := by decide +kernel
theorem dX3_countCommands_45 : decode cX3_countCommands 45 = .ok (.ireturn, 1) := by decide +kernel
theorem dX3_readNext_0 : decode cX3_readNext 0 = .ok (.aload_n 0, 1) := by decide +kernel
theorem dX3_readNext_1 : decode cX3_readNext 1 = .ok (.getfield 23, 3) := by decide +kernel
theorem dX3_readNext_4 : decode cX3_readNext 4 = .ok (.ifCond .le 9, 3) := by decide +kernel
theorem dX3_readNext_7 : decode cX3_readNext 7 = .ok (.aload_n 0, 1) := by decide +kernel
theorem dX3_readNext_8 : decode cX3_readNext 8 = .ok (.bipush 59, 2) := by decide +kernel
theorem dX3_readNext_10 : decode cX3_readNext 10 = .ok (.invokevirtual 50, 3) := by decide +kernel
theorem dX3_readNext_13 : decode cX3_readNext 13 = .ok (.aload_n 0, 1) := by decide +kernel
theorem dX3_readNext_14 : decode cX3_readNext 14 = .ok (.invokevirtual 54, 3) := by decide +kernel
theorem dX3_readNext_17 : decode cX3_readNext 17 = .ok (.aload_n 0, 1) := by decide +kernel
theorem dX3_readNext_18 : decode cX3_readNext 18 = .ok (.getfield 19, 3) := by decide +kernel
theorem dX3_readNext_21 : decode cX3_readNext 21 = .ok (.ifCond .eq 7, 3) := by decide +kernel
theorem dX3_readNext_24 : decode cX3_readNext 24 = .ok (.aload_n 0, 1) := by decide +kernel
theorem dX3_readNext_25 : decode cX3_readNext 25 = .ok (.invokevirtual 57, 3) := by decide +kernel
theorem dX3_readNext_28 : decode cX3_readNext 28 = .ok (.return_, 1) := by decide +kernel
theorem dX3_readKeyword_0 : decode cX3_readKeyword 0 = .ok (.aload_n 0, 1) := by decide +kernel
theorem dX3_readKeyword_1 : decode cX3_readKeyword 1 = .ok (.getfield 19, 3) := by decide +kernel
theorem dX3_readKeyword_4 : decode cX3_readKeyword 4 = .ok (.ifCond .ne 4, 3) := by decide +kernel
theorem dX3_readKeyword_7 : decode cX3_readKeyword 7 = .ok (.return_, 1) := by decide +kernel
theorem dX3_readKeyword_8 : decode cX3_readKeyword 8 = .ok (.iconst 0, 1) := by decide +kernel
theorem dX3_readKeyword_9 : decode cX3_readKeyword 9 = .ok (.istore_n 1, 1) := by decide +kernel
theorem dX3_readKeyword_10 : decode cX3_readKeyword 10 = .ok (.iconst 0, 1) := by decide +kernel
theorem dX3_readKeyword_11 : decode cX3_readKeyword 11 = .ok (.istore_n 2, 1) := by decide +kernel
theorem dX3_readKeyword_12 : decode cX3_readKeyword 12 = .ok (.iload_n 2, 1) := by decide +kernel
theorem dX3_readKeyword_13 : decode cX3_readKeyword 13 = .ok (.getstatic 60, 3) := by decide +kernel
theorem dX3_readKeyword_16 : decode cX3_readKeyword 16 = .ok (.arraylength, 1) := by decide +kernel
theorem dX3_readKeyword_17 : decode cX3_readKeyword 17 = .ok (.if_icmp .ge 63, 3) := by decide +kernel
theorem dX3_readKeyword_20 : decode cX3_readKeyword 20 = .ok (.aload_n 0, 1) := by decide +kernel
theorem dX3_readKeyword_21 : decode cX3_readKeyword 21 = .ok (.getstatic 60, 3) := by decide +kernel
theorem dX3_readKeyword_24 : decode cX3_readKeyword 24 = .ok (.iload_n 2, 1) := by decide +kernel
theorem dX3_readKeyword_25 : decode cX3_readKeyword 25 = .ok (.aaload, 1) := by decide +kernel
theorem dX3_readKeyword_26 : decode cX3_readKeyword 26 = .ok (.getfield 64, 3) := by decide +kernel
theorem dX3_readKeyword_29 : decode cX3_readKeyword 29 = .ok (.invokevirtual 67, 3) := by decide +kernel
theorem dX3_readKeyword_32 : decode cX3_readKeyword 32 = .ok (.istore_n 3, 1) := by decide +kernel
theorem dX3_readKeyword_33 : decode cX3_readKeyword 33 = .ok (.iload_n 1, 1) := by decide +kernel
theorem dX3_readKeyword_34 : decode cX3_readKeyword 34 = .ok (.iload_n 3, 1) := by decide +kernel
theorem dX3_readKeyword_35 : decode cX3_readKeyword 35 = .ok (.invokestatic 71, 3) := by decide +kernel
theorem dX3_readKeyword_38 : decode cX3_readKeyword 38 = .ok (.istore_n 1, 1) := by decide +kernel
theorem dX3_readKeyword_39 : decode cX3_readKeyword 39 = .ok (.iload_n 3, 1) := by decide +kernel
theorem dX3_readKeyword_40 : decode cX3_readKeyword 40 = .ok (.getstatic 60, 3) := by decide +kernel
theorem dX3_readKeyword_43 : decode cX3_readKeyword 43 = .ok (.iload_n 2, 1) := by decide +kernel
theorem dX3_readKeyword_44 : decode cX3_readKeyword 44 = .ok (.aaload, 1) := by decide +kernel
theorem dX3_readKeyword_45 : decode cX3_readKeyword 45 = .ok (.getfield 64, 3) := by decide +kernel
theorem dX3_readKeyword_48 : decode cX3_readKeyword 48 = .ok (.invokevirtual 77, 3) := by decide +kernel
theorem dX3_readKeyword_51 : decode cX3_readKeyword 51 = .ok (.if_icmp .ne 23, 3) := by decide +kernel
theorem dX3_readKeyword_54 : decode cX3_readKeyword 54 = .ok (.aload_n 0, 1) := by decide +kernel
theorem dX3_readKeyword_55 : decode cX3_readKeyword 55 = .ok (.getstatic 60, 3) := by decide +kernel
theorem dX3_readKeyword_58 : decode cX3_readKeyword 58 = .ok (.iload_n 2, 1) := by decide +kernel
theorem dX3_readKeyword_59 : decode cX3_readKeyword 59 = .ok (.aaload, 1) := by decide +kernel
theorem dX3_readKeyword_60 : decode cX3_readKeyword 60 = .ok (.putfield 32, 3) := by decide +kernel
theorem dX3_readKeyword_63 : decode cX3_readKeyword 63 = .ok (.aload_n 0, 1) := by decide +kernel
theorem dX3_readKeyword_64 : decode cX3_readKeyword 64 = .ok (.dup, 1) := by decide +kernel
theorem dX3_readKeyword_65 : decode cX3_readKeyword 65 = .ok (.getfield 23, 3) := by decide +kernel
theorem dX3_readKeyword_68 : decode cX3_readKeyword 68 = .ok (.iload_n 3, 1) := by decide +kernel
theorem dX3_readKeyword_69 : decode cX3_readKeyword 69 = .ok (.iadd, 1) := by decide +kernel
theorem dX3_readKeyword_70 : decode cX3_readKeyword 70 = .ok (.putfield 23, 3) := by decide +kernel
theorem dX3_readKeyword_73 : decode cX3_readKeyword 73 = .ok (.return_, 1) := by decide +kernel
theorem dX3_readKeyword_74 : decode cX3_readKeyword 74 = .ok (.iinc 2 1, 3) := by decide +kernel
theorem dX3_readKeyword_77 : decode cX3_readKeyword 77 = .ok (.goto (-65), 3) := by decide +kernel
theorem dX3_readKeyword_80 : decode cX3_readKeyword 80 = .ok (.aload_n 0, 1) := by decide +kernel
theorem dX3_readKeyword_81 : decode cX3_readKeyword 81 = .ok (.iconst 0, 1) := by decide +kernel
theorem dX3_readKeyword_82 : decode cX3_readKeyword 82 = .ok (.putfield 19, 3) := by decide +kernel
theorem dX3_readKeyword_85 : decode cX3_readKeyword 85 = .ok (.aload_n 0, 1) := by decide +kernel
theorem dX3_readKeyword_86 : decode cX3_readKeyword 86 = .ok (.dup, 1) := by decide +kernel
theorem dX3_readKeyword_87 : decode cX3_readKeyword 87 = .ok (.getfield 23, 3) := by decide +kernel
theorem dX3_readKeyword_90 : decode cX3_readKeyword 90 = .ok (.iload_n 1, 1) := by decide +kernel
theorem dX3_readKeyword_91 : decode cX3_readKeyword 91 = .ok (.iadd, 1) := by decide +kernel
theorem dX3_readKeyword_92 : decode cX3_readKeyword 92 = .ok (.putfield 23, 3) := by decide +kernel
theorem dX3_readKeyword_95 : decode cX3_readKeyword 95 = .ok (.return_, 1) := by decide +kernel
theorem dX3_countMatching_0 : decode cX3_countMatching 0 = .ok (.iconst 0, 1) := by decide +kernel
theorem dX3_countMatching_1 : decode cX3_countMatching 1 = .ok (.istore_n 2, 1) := by decide +kernel
theorem dX3_countMatching_2 : decode cX3_countMatching 2 = .ok (.iload_n 2, 1) := by decide +kernel
theorem dX3_countMatching_3 : decode cX3_countMatching 3 = .ok (.aload_n 1, 1) := by decide +kernel
theorem dX3_countMatching_4 : decode cX3_countMatching 4 = .ok (.invokevirtual 77, 3) := by decide +kernel
theorem dX3_countMatching_7 : decode cX3_countMatching 7 = .ok (.if_icmp .ge 41, 3) := by decide +kernel
theorem dX3_countMatching_10 : decode cX3_countMatching 10 = .ok (.aload_n 0, 1) := by decide +kernel
theorem dX3_countMatching_11 : decode cX3_countMatching 11 = .ok (.getfield 23, 3) := by decide +kernel
theorem dX3_countMatching_14 : decode cX3_countMatching 14 = .ok (.iload_n 2, 1) := by decide +kernel
theorem dX3_countMatching_15 : decode cX3_countMatching 15 = .ok (.iadd, 1) := by decide +kernel
theorem dX3_countMatching_16 : decode cX3_countMatching 16 = .ok (.aload_n 0, 1) := by decide +kernel
theorem dX3_countMatching_17 : decode cX3_countMatching 17 = .ok (.getfield 15, 3) := by decide +kernel
theorem dX3_countMatching_20 : decode cX3_countMatching 20 = .ok (.if_icmp .ge 28, 3) := by decide +kernel
theorem dX3_countMatching_23 : decode cX3_countMatching 23 = .ok (.aload_n 0, 1) := by decide +kernel
theorem dX3_countMatching_24 : decode cX3_countMatching 24 = .ok (.getfield 9, 3) := by decide +kernel
theorem dX3_countMatching_27 : decode cX3_countMatching 27 = .ok (.aload_n 0, 1) := by decide +kernel
theorem dX3_countMatching_28 : decode cX3_countMatching 28 = .ok (.getfield 23, 3) := by decide +kernel
theorem dX3_countMatching_31 : decode cX3_countMatching 31 = .ok (.iload_n 2, 1) := by decide +kernel
theorem dX3_countMatching_32 : decode cX3_countMatching 32 = .ok (.iadd, 1) := by decide +kernel
theorem dX3_countMatching_33 : decode cX3_countMatching 33 = .ok (.caload, 1) := by decide +kernel
theorem dX3_countMatching_34 : decode cX3_countMatching 34 = .ok (.aload_n 1, 1) := by decide +kernel
theorem dX3_countMatching_35 : decode cX3_countMatching 35 = .ok (.iload_n 2, 1) := by decide +kernel
theorem dX3_countMatching_36 : decode cX3_countMatching 36 = .ok (.invokevirtual 82, 3) := by decide +kernel
theorem dX3_countMatching_39 : decode cX3_countMatching 39 = .ok (.if_icmp .ne 9, 3) := by decide +kernel
theorem dX3_countMatching_42 : decode cX3_countMatching 42 = .ok (.iinc 2 1, 3) := by decide +kernel
theorem dX3_countMatching_45 : decode cX3_countMatching 45 = .ok (.goto (-43), 3) := by decide +kernel
theorem dX3_countMatching_48 : decode cX3_countMatching 48 = .ok (.iload_n 2, 1) := by decide +kernel
theorem dX3_countMatching_49 : decode cX3_countMatching 49 = .ok (.ireturn, 1) := by decide +kernel
theorem dX3_readArguments_0 : decode cX3_readArguments 0 = .ok (.getstatic 86, 3) := by decide +kernel
theorem dX3_readArguments_3 : decode cX3_readArguments 3 = .ok (.aload_n 0, 1) := by decide +kernel
theorem dX3_readArguments_4 : decode cX3_readArguments 4 = .ok (.getfield 32, 3) := by decide +kernel
theorem dX3_readArguments_7 : decode cX3_readArguments 7 = .ok (.invokevirtual 92, 3) := by decide +kernel
theorem dX3_readArguments_10 : decode cX3_readArguments 10 = .ok (.iaload, 1) := by decide +kernel
theorem dX3_readArguments_11 : decode cX3_readArguments 11 = .ok (.tableswitch 169 1 8 #[45, 56, 95, 169, 122, 147, 147, 158], 45) := by decide +kernel
theorem dX3_readArguments_56 : decode cX3_readArguments 56 = .ok (.aload_n 0, 1) := by decide +kernel
theorem dX3_readArguments_57 : decode cX3_readArguments 57 = .ok (.aload_n 0, 1) := by decide +kernel
theorem dX3_readArguments_58 : decode cX3_readArguments 58 = .ok (.invokevirtual 95, 3) := by decide +kernel
theorem dX3_readArguments_61 : decode cX3_readArguments 61 = .ok (.putfield 35, 3) := by decide +kernel
theorem dX3_readArguments_64 : decode cX3_readArguments 64 = .ok (.goto 116, 3) := by decide +kernel
theorem dX3_readArguments_67 : decode cX3_readArguments 67 = .ok (.aload_n 0, 1) := by decide +kernel
theorem dX3_readArguments_68 : decode cX3_readArguments 68 = .ok (.aload_n 0, 1) := by decide +kernel
theorem dX3_readArguments_69 : decode cX3_readArguments 69 = .ok (.invokevirtual 98, 3) := by decide +kernel
theorem dX3_readArguments_72 : decode cX3_readArguments 72 = .ok (.putfield 35, 3) := by decide +kernel
theorem dX3_readArguments_75 : decode cX3_readArguments 75 = .ok (.aload_n 0, 1) := by decide +kernel
theorem dX3_readArguments_76 : decode cX3_readArguments 76 = .ok (.bipush 32, 2) := by decide +kernel
theorem dX3_readArguments_78 : decode cX3_readArguments 78 = .ok (.invokevirtual 50, 3) := by decide +kernel
theorem dX3_readArguments_81 : decode cX3_readArguments 81 = .ok (.aload_n 0, 1) := by decide +kernel
theorem dX3_readArguments_82 : decode cX3_readArguments 82 = .ok (.aload_n 0, 1) := by decide +kernel
theorem dX3_readArguments_83 : decode cX3_readArguments 83 = .ok (.invokevirtual 101, 3) := by decide +kernel
theorem dX3_readArguments_86 : decode cX3_readArguments 86 = .ok (.putfield 38, 3) := by decide +kernel
theorem dX3_readArguments_89 : decode cX3_readArguments 89 = .ok (.aload_n 0, 1) := by decide +kernel
theorem dX3_readArguments_90 : decode cX3_readArguments 90 = .ok (.bipush 44, 2) := by decide +kernel
theorem dX3_readArguments_92 : decode cX3_readArguments 92 = .ok (.invokevirtual 50, 3) := by decide +kernel
theorem dX3_readArguments_95 : decode cX3_readArguments 95 = .ok (.aload_n 0, 1) := by decide +kernel
theorem dX3_readArguments_96 : decode cX3_readArguments 96 = .ok (.aload_n 0, 1) := by decide +kernel
theorem dX3_readArguments_97 : decode cX3_readArguments 97 = .ok (.invokevirtual 98, 3) := by decide +kernel
theorem dX3_readArguments_100 : decode cX3_readArguments 100 = .ok (.putfield 41, 3) := by decide +kernel
theorem dX3_readArguments_103 : decode cX3_readArguments 103 = .ok (.goto 77, 3) := by decide +kernel
theorem dX3_readArguments_106 : decode cX3_readArguments 106 = .ok (.aload_n 0, 1) := by decide +kernel
theorem dX3_readArguments_107 : decode cX3_readArguments 107 = .ok (.aload_n 0, 1) := by decide +kernel
theorem dX3_readArguments_108 : decode cX3_readArguments 108 = .ok (.invokevirtual 98, 3) := by decide +kernel
theorem dX3_readArguments_111 : decode cX3_readArguments 111 = .ok (.putfield 35, 3) := by decide +kernel
theorem dX3_readArguments_114 : decode cX3_readArguments 114 = .ok (.aload_n 0, 1) := by decide +kernel
theorem dX3_readArguments_115 : decode cX3_readArguments 115 = .ok (.aload_n 0, 1) := by decide +kernel
theorem dX3_readArguments_116 : decode cX3_readArguments 116 = .ok (.invokevirtual 104, 3) := by decide +kernel
theorem dX3_readArguments_119 : decode cX3_readArguments 119 = .ok (.putfield 38, 3) := by decide +kernel
theorem dX3_readArguments_122 : decode cX3_readArguments 122 = .ok (.aload_n 0, 1) := by decide +kernel
theorem dX3_readArguments_123 : decode cX3_readArguments 123 = .ok (.aload_n 0, 1) := by decide +kernel
theorem dX3_readArguments_124 : decode cX3_readArguments 124 = .ok (.invokevirtual 104, 3) := by decide +kernel
theorem dX3_readArguments_127 : decode cX3_readArguments 127 = .ok (.putfield 41, 3) := by decide +kernel
theorem dX3_readArguments_130 : decode cX3_readArguments 130 = .ok (.goto 50, 3) := by decide +kernel
theorem dX3_readArguments_133 : decode cX3_readArguments 133 = .ok (.aload_n 0, 1) := by decide +kernel
theorem dX3_readArguments_134 : decode cX3_readArguments 134 = .ok (.aload_n 0, 1) := by decide +kernel
theorem dX3_readArguments_135 : decode cX3_readArguments 135 = .ok (.invokevirtual 98, 3) := by decide +kernel
theorem dX3_readArguments_138 : decode cX3_readArguments 138 = .ok (.putfield 35, 3) := by decide +kernel
theorem dX3_readArguments_141 : decode cX3_readArguments 141 = .ok (.aload_n 0, 1) := by decide +kernel
theorem dX3_readArguments_142 : decode cX3_readArguments 142 = .ok (.bipush 62, 2) := by decide +kernel
theorem dX3_readArguments_144 : decode cX3_readArguments 144 = .ok (.invokevirtual 50, 3) := by decide +kernel
theorem dX3_readArguments_147 : decode cX3_readArguments 147 = .ok (.aload_n 0, 1) := by decide +kernel
theorem dX3_readArguments_148 : decode cX3_readArguments 148 = .ok (.aload_n 0, 1) := by decide +kernel
theorem dX3_readArguments_149 : decode cX3_readArguments 149 = .ok (.invokevirtual 98, 3) := by decide +kernel
theorem dX3_readArguments_152 : decode cX3_readArguments 152 = .ok (.putfield 38, 3) := by decide +kernel
theorem dX3_readArguments_155 : decode cX3_readArguments 155 = .ok (.goto 25, 3) := by decide +kernel
theorem dX3_readArguments_158 : decode cX3_readArguments 158 = .ok (.aload_n 0, 1) := by decide +kernel
theorem dX3_readArguments_159 : decode cX3_readArguments 159 = .ok (.aload_n 0, 1) := by decide +kernel
theorem dX3_readArguments_160 : decode cX3_readArguments 160 = .ok (.invokevirtual 98, 3) := by decide +kernel
theorem dX3_readArguments_163 : decode cX3_readArguments 163 = .ok (.putfield 35, 3) := by decide +kernel
theorem dX3_readArguments_166 : decode cX3_readArguments 166 = .ok (.goto 14, 3) := by decide +kernel
theorem dX3_readArguments_169 : decode cX3_readArguments 169 = .ok (.aload_n 0, 1) := by decide +kernel
theorem dX3_readArguments_170 : decode cX3_readArguments 170 = .ok (.aload_n 0, 1) := by decide +kernel
theorem dX3_readArguments_171 : decode cX3_readArguments 171 = .ok (.invokevirtual 101, 3) := by decide +kernel
theorem dX3_readArguments_174 : decode cX3_readArguments 174 = .ok (.putfield 35, 3) := by decide +kernel
theorem dX3_readArguments_177 : decode cX3_readArguments 177 = .ok (.goto 3, 3) := by decide +kernel
theorem dX3_readArguments_180 : decode cX3_readArguments 180 = .ok (.return_, 1) := by decide +kernel
theorem dX3_isNext_0 : decode cX3_isNext 0 = .ok (.aload_n 0, 1) := by decide +kernel
theorem dX3_isNext_1 : decode cX3_isNext 1 = .ok (.getfield 19, 3) := by decide +kernel
theorem dX3_isNext_4 : decode cX3_isNext 4 = .ok (.ifCond .eq 31, 3) := by decide +kernel
theorem dX3_isNext_7 : decode cX3_isNext 7 = .ok (.aload_n 0, 1) := by decide +kernel
theorem dX3_isNext_8 : decode cX3_isNext 8 = .ok (.getfield 23, 3) := by decide +kernel
theorem dX3_isNext_11 : decode cX3_isNext 11 = .ok (.aload_n 0, 1) := by decide +kernel
theorem dX3_isNext_12 : decode cX3_isNext 12 = .ok (.getfield 15, 3) := by decide +kernel
theorem dX3_isNext_15 : decode cX3_isNext 15 = .ok (.if_icmp .ge 20, 3) := by decide +kernel
theorem dX3_isNext_18 : decode cX3_isNext 18 = .ok (.aload_n 0, 1) := by decide +kernel
theorem dX3_isNext_19 : decode cX3_isNext 19 = .ok (.getfield 9, 3) := by decide +kernel
theorem dX3_isNext_22 : decode cX3_isNext 22 = .ok (.aload_n 0, 1) := by decide +kernel
theorem dX3_isNext_23 : decode cX3_isNext 23 = .ok (.getfield 23, 3) := by decide +kernel
theorem dX3_isNext_26 : decode cX3_isNext 26 = .ok (.caload, 1) := by decide +kernel
theorem dX3_isNext_27 : decode cX3_isNext 27 = .ok (.iload_n 1, 1) := by decide +kernel
theorem dX3_isNext_28 : decode cX3_isNext 28 = .ok (.if_icmp .ne 7, 3) := by decide +kernel
theorem dX3_isNext_31 : decode cX3_isNext 31 = .ok (.iconst 1, 1) := by decide +kernel
theorem dX3_isNext_32 : decode cX3_isNext 32 = .ok (.goto 4, 3) := by decide +kernel
theorem dX3_isNext_35 : decode cX3_isNext 35 = .ok (.iconst 0, 1) := by decide +kernel
theorem dX3_isNext_36 : decode cX3_isNext 36 = .ok (.ireturn, 1) := by decide +kernel
theorem dX3_isDigitNext_0 : decode cX3_isDigitNext 0 = .ok (.aload_n 0, 1) := by decide +kernel
theorem dX3_isDigitNext_1 : decode cX3_isDigitNext 1 = .ok (.getfield 19, 3) := by decide +kernel
theorem dX3_isDigitNext_4 : decode cX3_isDigitNext 4 = .ok (.ifCond .eq 46, 3) := by decide +kernel
theorem dX3_isDigitNext_7 : decode cX3_isDigitNext 7 = .ok (.aload_n 0, 1) := by decide +kernel
theorem dX3_isDigitNext_8 : decode cX3_isDigitNext 8 = .ok (.getfield 23, 3) := by decide +kernel
theorem dX3_isDigitNext_11 : decode cX3_isDigitNext 11 = .ok (.aload_n 0, 1) := by decide +kernel
theorem dX3_isDigitNext_12 : decode cX3_isDigitNext 12 = .ok (.getfield 15, 3) := by decide +kernel
theorem dX3_isDigitNext_15 : decode cX3_isDigitNext 15 = .ok (.if_icmp .ge 35, 3) := by decide +kernel
theorem dX3_isDigitNext_18 : decode cX3_isDigitNext 18 = .ok (.aload_n 0, 1) := by decide +kernel
theorem dX3_isDigitNext_19 : decode cX3_isDigitNext 19 = .ok (.getfield 9, 3) := by decide +kernel
theorem dX3_isDigitNext_22 : decode cX3_isDigitNext 22 = .ok (.aload_n 0, 1) := by decide +kernel
theorem dX3_isDigitNext_23 : decode cX3_isDigitNext 23 = .ok (.getfield 23, 3) := by decide +kernel
theorem dX3_isDigitNext_26 : decode cX3_isDigitNext 26 = .ok (.caload, 1) := by decide +kernel
theorem dX3_isDigitNext_27 : decode cX3_isDigitNext 27 = .ok (.bipush 48, 2) := by decide +kernel
theorem dX3_isDigitNext_29 : decode cX3_isDigitNext 29 = .ok (.if_icmp .lt 21, 3) := by decide +kernel
theorem dX3_isDigitNext_32 : decode cX3_isDigitNext 32 = .ok (.aload_n 0, 1) := by decide +kernel
theorem dX3_isDigitNext_33 : decode cX3_isDigitNext 33 = .ok (.getfield 9, 3) := by decide +kernel
theorem dX3_isDigitNext_36 : decode cX3_isDigitNext 36 = .ok (.aload_n 0, 1) := by decide +kernel
theorem dX3_isDigitNext_37 : decode cX3_isDigitNext 37 = .ok (.getfield 23, 3) := by decide +kernel
theorem dX3_isDigitNext_40 : decode cX3_isDigitNext 40 = .ok (.caload, 1) := by decide +kernel
theorem dX3_isDigitNext_41 : decode cX3_isDigitNext 41 = .ok (.bipush 57, 2) := by decide +kernel
theorem dX3_isDigitNext_43 : decode cX3_isDigitNext 43 = .ok (.if_icmp .gt 7, 3) := by decide +kernel
theorem dX3_isDigitNext_46 : decode cX3_isDigitNext 46 = .ok (.iconst 1, 1) := by decide +kernel
theorem dX3_isDigitNext_47 : decode cX3_isDigitNext 47 = .ok (.goto 4, 3) := by decide +kernel
theorem dX3_isDigitNext_50 : decode cX3_isDigitNext 50 = .ok (.iconst 0, 1) := by decide +kernel
theorem dX3_isDigitNext_51 : decode cX3_isDigitNext 51 = .ok (.ireturn, 1) := by decide +kernel
theorem dX3_readSign_0 : decode cX3_readSign 0 = .ok (.aload_n 0, 1) := by decide +kernel
theorem dX3_readSign_1 : decode cX3_readSign 1 = .ok (.iload_n 1, 1) := by decide +kernel
theorem dX3_readSign_2 : decode cX3_readSign 2 = .ok (.invokevirtual 107, 3) := by decide +kernel
theorem dX3_readSign_5 : decode cX3_readSign 5 = .ok (.ifCond .eq 16, 3) := by decide +kernel
theorem dX3_readSign_8 : decode cX3_readSign 8 = .ok (.aload_n 0, 1) := by decide +kernel
theorem dX3_readSign_9 : decode cX3_readSign 9 = .ok (.dup, 1) := by decide +kernel
theorem dX3_readSign_10 : decode cX3_readSign 10 = .ok (.getfield 23, 3) := by decide +kernel
theorem dX3_readSign_13 : decode cX3_readSign 13 = .ok (.iconst 1, 1) := by decide +kernel
theorem dX3_readSign_14 : decode cX3_readSign 14 = .ok (.iadd, 1) := by decide +kernel
theorem dX3_readSign_15 : decode cX3_readSign 15 = .ok (.putfield 23, 3) := by decide +kernel
theorem dX3_readSign_18 : decode cX3_readSign 18 = .ok (.goto 8, 3) := by decide +kernel
theorem dX3_readSign_21 : decode cX3_readSign 21 = .ok (.aload_n 0, 1) := by decide +kernel
theorem dX3_readSign_22 : decode cX3_readSign 22 = .ok (.iconst 0, 1) := by decide +kernel
theorem dX3_readSign_23 : decode cX3_readSign 23 = .ok (.putfield 19, 3) := by decide +kernel
theorem dX3_readSign_26 : decode cX3_readSign 26 = .ok (.return_, 1) := by decide +kernel
theorem dX3_readDigit_0 : decode cX3_readDigit 0 = .ok (.aload_n 0, 1) := by decide +kernel
theorem dX3_readDigit_1 : decode cX3_readDigit 1 = .ok (.invokevirtual 111, 3) := by decide +kernel
theorem dX3_readDigit_4 : decode cX3_readDigit 4 = .ok (.ifCond .ne 10, 3) := by decide +kernel
theorem dX3_readDigit_7 : decode cX3_readDigit 7 = .ok (.aload_n 0, 1) := by decide +kernel
theorem dX3_readDigit_8 : decode cX3_readDigit 8 = .ok (.iconst 0, 1) := by decide +kernel
theorem dX3_readDigit_9 : decode cX3_readDigit 9 = .ok (.putfield 19, 3) := by decide +kernel
theorem dX3_readDigit_12 : decode cX3_readDigit 12 = .ok (.iconst 0, 1) := by decide +kernel
theorem dX3_readDigit_13 : decode cX3_readDigit 13 = .ok (.ireturn, 1) := by decide +kernel
theorem dX3_readDigit_14 : decode cX3_readDigit 14 = .ok (.aload_n 0, 1) := by decide +kernel
theorem dX3_readDigit_15 : decode cX3_readDigit 15 = .ok (.dup, 1) := by decide +kernel
theorem dX3_readDigit_16 : decode cX3_readDigit 16 = .ok (.getfield 23, 3) := by decide +kernel
theorem dX3_readDigit_19 : decode cX3_readDigit 19 = .ok (.iconst 1, 1) := by decide +kernel
theorem dX3_readDigit_20 : decode cX3_readDigit 20 = .ok (.iadd, 1) := by decide +kernel
theorem dX3_readDigit_21 : decode cX3_readDigit 21 = .ok (.putfield 23, 3) := by decide +kernel
theorem dX3_readDigit_24 : decode cX3_readDigit 24 = .ok (.aload_n 0, 1) := by decide +kernel
theorem dX3_readDigit_25 : decode cX3_readDigit 25 = .ok (.getfield 9, 3) := by decide +kernel
theorem dX3_readDigit_28 : decode cX3_readDigit 28 = .ok (.aload_n 0, 1) := by decide +kernel
theorem dX3_readDigit_29 : decode cX3_readDigit 29 = .ok (.getfield 23, 3) := by decide +kernel
theorem dX3_readDigit_32 : decode cX3_readDigit 32 = .ok (.iconst 1, 1) := by decide +kernel
theorem dX3_readDigit_33 : decode cX3_readDigit 33 = .ok (.isub, 1) := by decide +kernel
theorem dX3_readDigit_34 : decode cX3_readDigit 34 = .ok (.caload, 1) := by decide +kernel
theorem dX3_readDigit_35 : decode cX3_readDigit 35 = .ok (.bipush 48, 2) := by decide +kernel
theorem dX3_readDigit_37 : decode cX3_readDigit 37 = .ok (.isub, 1) := by decide +kernel
theorem dX3_readDigit_38 : decode cX3_readDigit 38 = .ok (.ireturn, 1) := by decide +kernel
theorem dX3_readNumber_0 : decode cX3_readNumber 0 = .ok (.aload_n 0, 1) := by decide +kernel
theorem dX3_readNumber_1 : decode cX3_readNumber 1 = .ok (.invokevirtual 98, 3) := by decide +kernel
theorem dX3_readNumber_4 : decode cX3_readNumber 4 = .ok (.istore_n 1, 1) := by decide +kernel
theorem dX3_readNumber_5 : decode cX3_readNumber 5 = .ok (.aload_n 0, 1) := by decide +kernel
theorem dX3_readNumber_6 : decode cX3_readNumber 6 = .ok (.invokevirtual 111, 3) := by decide +kernel
theorem dX3_readNumber_9 : decode cX3_readNumber 9 = .ok (.ifCond .eq 15, 3) := by decide +kernel
theorem dX3_readNumber_12 : decode cX3_readNumber 12 = .ok (.bipush 10, 2) := by decide +kernel
theorem dX3_readNumber_14 : decode cX3_readNumber 14 = .ok (.iload_n 1, 1) := by decide +kernel
theorem dX3_readNumber_15 : decode cX3_readNumber 15 = .ok (.imul, 1) := by decide +kernel
theorem dX3_readNumber_16 : decode cX3_readNumber 16 = .ok (.aload_n 0, 1) := by decide +kernel
theorem dX3_readNumber_17 : decode cX3_readNumber 17 = .ok (.invokevirtual 98, 3) := by decide +kernel
theorem dX3_readNumber_20 : decode cX3_readNumber 20 = .ok (.iadd, 1) := by decide +kernel
theorem dX3_readNumber_21 : decode cX3_readNumber 21 = .ok (.goto 4, 3) := by decide +kernel
theorem dX3_readNumber_24 : decode cX3_readNumber 24 = .ok (.iload_n 1, 1) := by decide +kernel
theorem dX3_readNumber_25 : decode cX3_readNumber 25 = .ok (.ireturn, 1) := by decide +kernel
theorem dX3_readSignedDigit_0 : decode cX3_readSignedDigit 0 = .ok (.aload_n 0, 1) := by decide +kernel
theorem dX3_readSignedDigit_1 : decode cX3_readSignedDigit 1 = .ok (.bipush 45, 2) := by decide +kernel
theorem dX3_readSignedDigit_3 : decode cX3_readSignedDigit 3 = .ok (.invokevirtual 107, 3) := by decide +kernel
theorem dX3_readSignedDigit_6 : decode cX3_readSignedDigit 6 = .ok (.ifCond .eq 19, 3) := by decide +kernel
theorem dX3_readSignedDigit_9 : decode cX3_readSignedDigit 9 = .ok (.aload_n 0, 1) := by decide +kernel
theorem dX3_readSignedDigit_10 : decode cX3_readSignedDigit 10 = .ok (.dup, 1) := by decide +kernel
theorem dX3_readSignedDigit_11 : decode cX3_readSignedDigit 11 = .ok (.getfield 23, 3) := by decide +kernel
theorem dX3_readSignedDigit_14 : decode cX3_readSignedDigit 14 = .ok (.iconst 1, 1) := by decide +kernel
theorem dX3_readSignedDigit_15 : decode cX3_readSignedDigit 15 = .ok (.iadd, 1) := by decide +kernel
theorem dX3_readSignedDigit_16 : decode cX3_readSignedDigit 16 = .ok (.putfield 23, 3) := by decide +kernel
theorem dX3_readSignedDigit_19 : decode cX3_readSignedDigit 19 = .ok (.aload_n 0, 1) := by decide +kernel
theorem dX3_readSignedDigit_20 : decode cX3_readSignedDigit 20 = .ok (.invokevirtual 98, 3) := by decide +kernel
theorem dX3_readSignedDigit_23 : decode cX3_readSignedDigit 23 = .ok (.ineg, 1) := by decide +kernel
theorem dX3_readSignedDigit_24 : decode cX3_readSignedDigit 24 = .ok (.ireturn, 1) := by decide +kernel
theorem dX3_readSignedDigit_25 : decode cX3_readSignedDigit 25 = .ok (.aload_n 0, 1) := by decide +kernel
theorem dX3_readSignedDigit_26 : decode cX3_readSignedDigit 26 = .ok (.bipush 43, 2) := by decide +kernel
theorem dX3_readSignedDigit_28 : decode cX3_readSignedDigit 28 = .ok (.invokevirtual 50, 3) := by decide +kernel
theorem dX3_readSignedDigit_31 : decode cX3_readSignedDigit 31 = .ok (.aload_n 0, 1) := by decide +kernel
theorem dX3_readSignedDigit_32 : decode cX3_readSignedDigit 32 = .ok (.invokevirtual 98, 3) := by decide +kernel
theorem dX3_readSignedDigit_35 : decode cX3_readSignedDigit 35 = .ok (.ireturn, 1) := by decide +kernel
theorem dX3_readInk_0 : decode cX3_readInk 0 = .ok (.aload_n 0, 1) := by decide +kernel
theorem dX3_readInk_1 : decode cX3_readInk 1 = .ok (.bipush 99, 2) := by decide +kernel
theorem dX3_readInk_3 : decode cX3_readInk 3 = .ok (.invokevirtual 107, 3) := by decide +kernel
theorem dX3_readInk_6 : decode cX3_readInk 6 = .ok (.ifCond .eq 7, 3) := by decide +kernel
theorem dX3_readInk_9 : decode cX3_readInk 9 = .ok (.iconst 1, 1) := by decide +kernel
theorem dX3_readInk_10 : decode cX3_readInk 10 = .ok (.goto 17, 3) := by decide +kernel
theorem dX3_readInk_13 : decode cX3_readInk 13 = .ok (.aload_n 0, 1) := by decide +kernel
theorem dX3_readInk_14 : decode cX3_readInk 14 = .ok (.bipush 109, 2) := by decide +kernel
theorem dX3_readInk_16 : decode cX3_readInk 16 = .ok (.invokevirtual 107, 3) := by decide +kernel
theorem dX3_readInk_19 : decode cX3_readInk 19 = .ok (.ifCond .eq 7, 3) := by decide +kernel
theorem dX3_readInk_22 : decode cX3_readInk 22 = .ok (.iconst 2, 1) := by decide +kernel
theorem dX3_readInk_23 : decode cX3_readInk 23 = .ok (.goto 4, 3) := by decide +kernel
theorem dX3_readInk_26 : decode cX3_readInk 26 = .ok (.iconst 4, 1) := by decide +kernel
theorem dX3_readInk_27 : decode cX3_readInk 27 = .ok (.istore_n 1, 1) := by decide +kernel
theorem dX3_readInk_28 : decode cX3_readInk 28 = .ok (.aload_n 0, 1) := by decide +kernel
theorem dX3_readInk_29 : decode cX3_readInk 29 = .ok (.iload_n 1, 1) := by decide +kernel
theorem dX3_readInk_30 : decode cX3_readInk 30 = .ok (.iconst 1, 1) := by decide +kernel
theorem dX3_readInk_31 : decode cX3_readInk 31 = .ok (.if_icmp .ne 8, 3) := by decide +kernel
theorem dX3_readInk_34 : decode cX3_readInk 34 = .ok (.bipush 99, 2) := by decide +kernel
theorem dX3_readInk_36 : decode cX3_readInk 36 = .ok (.goto 15, 3) := by decide +kernel
theorem dX3_readInk_39 : decode cX3_readInk 39 = .ok (.iload_n 1, 1) := by decide +kernel
theorem dX3_readInk_40 : decode cX3_readInk 40 = .ok (.iconst 2, 1) := by decide +kernel
theorem dX3_readInk_41 : decode cX3_readInk 41 = .ok (.if_icmp .ne 8, 3) := by decide +kernel
theorem dX3_readInk_44 : decode cX3_readInk 44 = .ok (.bipush 109, 2) := by decide +kernel
theorem dX3_readInk_46 : decode cX3_readInk 46 = .ok (.goto 5, 3) := by decide +kernel
theorem dX3_readInk_49 : decode cX3_readInk 49 = .ok (.bipush 121, 2) := by decide +kernel
theorem dX3_readInk_51 : decode cX3_readInk 51 = .ok (.invokevirtual 50, 3) := by decide +kernel
theorem dX3_readInk_54 : decode cX3_readInk 54 = .ok (.iload_n 1, 1) := by decide +kernel
theorem dX3_readInk_55 : decode cX3_readInk 55 = .ok (.ireturn, 1) := by decide +kernel
theorem dX5_init_0 : decode cX5_init 0 = .ok (.aload_n 0, 1) := by decide +kernel
theorem dX5_init_1 : decode cX5_init 1 = .ok (.invokespecial 3, 3) := by decide +kernel
theorem dX5_init_4 : decode cX5_init 4 = .ok (.aload_n 0, 1) := by decide +kernel
theorem dX5_init_5 : decode cX5_init 5 = .ok (.bipush 8, 2) := by decide +kernel
theorem dX5_init_7 : decode cX5_init 7 = .ok (.newarray .int, 2) := by decide +kernel
theorem dX5_init_9 : decode cX5_init 9 = .ok (.putfield 9, 3) := by decide +kernel
theorem dX5_init_12 : decode cX5_init 12 = .ok (.aload_n 0, 1) := by decide +kernel
theorem dX5_init_13 : decode cX5_init 13 = .ok (.iconst 1, 1) := by decide +kernel
theorem dX5_init_14 : decode cX5_init 14 = .ok (.putfield 15, 3) := by decide +kernel
theorem dX5_init_17 : decode cX5_init 17 = .ok (.aload_n 0, 1) := by decide +kernel
theorem dX5_init_18 : decode cX5_init 18 = .ok (.iconst 0, 1) := by decide +kernel
theorem dX5_init_19 : decode cX5_init 19 = .ok (.putfield 19, 3) := by decide +kernel
theorem dX5_init_22 : decode cX5_init 22 = .ok (.aload_n 0, 1) := by decide +kernel
theorem dX5_init_23 : decode cX5_init 23 = .ok (.iconst 0, 1) := by decide +kernel
theorem dX5_init_24 : decode cX5_init 24 = .ok (.putfield 22, 3) := by decide +kernel
theorem dX5_init_27 : decode cX5_init 27 = .ok (.return_, 1) := by decide +kernel
theorem dX5_copyFrom_0 : decode cX5_copyFrom 0 = .ok (.aload_n 1, 1) := by decide +kernel
theorem dX5_copyFrom_1 : decode cX5_copyFrom 1 = .ok (.getfield 9, 3) := by decide +kernel
theorem dX5_copyFrom_4 : decode cX5_copyFrom 4 = .ok (.iconst 0, 1) := by decide +kernel
theorem dX5_copyFrom_5 : decode cX5_copyFrom 5 = .ok (.aload_n 0, 1) := by decide +kernel
theorem dX5_copyFrom_6 : decode cX5_copyFrom 6 = .ok (.getfield 9, 3) := by decide +kernel
theorem dX5_copyFrom_9 : decode cX5_copyFrom 9 = .ok (.iconst 0, 1) := by decide +kernel
theorem dX5_copyFrom_10 : decode cX5_copyFrom 10 = .ok (.bipush 8, 2) := by decide +kernel
theorem dX5_copyFrom_12 : decode cX5_copyFrom 12 = .ok (.invokestatic 25, 3) := by decide +kernel
theorem dX5_copyFrom_15 : decode cX5_copyFrom 15 = .ok (.aload_n 0, 1) := by decide +kernel
theorem dX5_copyFrom_16 : decode cX5_copyFrom 16 = .ok (.aload_n 1, 1) := by decide +kernel
theorem dX5_copyFrom_17 : decode cX5_copyFrom 17 = .ok (.getfield 15, 3) := by decide +kernel
theorem dX5_copyFrom_20 : decode cX5_copyFrom 20 = .ok (.putfield 15, 3) := by decide +kernel
theorem dX5_copyFrom_23 : decode cX5_copyFrom 23 = .ok (.aload_n 0, 1) := by decide +kernel
theorem dX5_copyFrom_24 : decode cX5_copyFrom 24 = .ok (.aload_n 1, 1) := by decide +kernel
theorem dX5_copyFrom_25 : decode cX5_copyFrom 25 = .ok (.getfield 19, 3) := by decide +kernel
theorem dX5_copyFrom_28 : decode cX5_copyFrom 28 = .ok (.putfield 19, 3) := by decide +kernel
theorem dX5_copyFrom_31 : decode cX5_copyFrom 31 = .ok (.aload_n 0, 1) := by decide +kernel
theorem dX5_copyFrom_32 : decode cX5_copyFrom 32 = .ok (.aload_n 1, 1) := by decide +kernel
theorem dX5_copyFrom_33 : decode cX5_copyFrom 33 = .ok (.getfield 22, 3) := by decide +kernel
theorem dX5_copyFrom_36 : decode cX5_copyFrom 36 = .ok (.putfield 22, 3) := by decide +kernel
theorem dX5_copyFrom_39 : decode cX5_copyFrom 39 = .ok (.return_, 1) := by decide +kernel
theorem dX5_isStarAt_0 : decode cX5_isStarAt 0 = .ok (.aload_n 0, 1) := by decide +kernel
theorem dX5_isStarAt_1 : decode cX5_isStarAt 1 = .ok (.getfield 9, 3) := by decide +kernel
theorem dX5_isStarAt_4 : decode cX5_isStarAt 4 = .ok (.iload_n 2, 1) := by decide +kernel
theorem dX5_isStarAt_5 : decode cX5_isStarAt 5 = .ok (.iaload, 1) := by decide +kernel
theorem dX5_isStarAt_6 : decode cX5_isStarAt 6 = .ok (.iconst 1, 1) := by decide +kernel
theorem dX5_isStarAt_7 : decode cX5_isStarAt 7 = .ok (.iload_n 1, 1) := by decide +kernel
theorem dX5_isStarAt_8 : decode cX5_isStarAt 8 = .ok (.ishl, 1) := by decide +kernel
theorem dX5_isStarAt_9 : decode cX5_isStarAt 9 = .ok (.iand, 1) := by decide +kernel
theorem dX5_isStarAt_10 : decode cX5_isStarAt 10 = .ok (.ifCond .eq 7, 3) := by decide +kernel
theorem dX5_isStarAt_13 : decode cX5_isStarAt 13 = .ok (.iconst 1, 1) := by decide +kernel
theorem dX5_isStarAt_14 : decode cX5_isStarAt 14 = .ok (.goto 4, 3) := by decide +kernel
theorem dX5_isStarAt_17 : decode cX5_isStarAt 17 = .ok (.iconst 0, 1) := by decide +kernel
theorem dX5_isStarAt_18 : decode cX5_isStarAt 18 = .ok (.ireturn, 1) := by decide +kernel
theorem dX5_turnStar_0 : decode cX5_turnStar 0 = .ok (.aload_n 0, 1) := by decide +kernel
theorem dX5_turnStar_1 : decode cX5_turnStar 1 = .ok (.getfield 9, 3) := by decide +kernel
theorem dX5_turnStar_4 : decode cX5_turnStar 4 = .ok (.iload_n 2, 1) := by decide +kernel
theorem dX5_turnStar_5 : decode cX5_turnStar 5 = .ok (.dup2, 1) := by decide +kernel
theorem dX5_turnStar_6 : decode cX5_turnStar 6 = .ok (.iaload, 1) := by decide +kernel
theorem dX5_turnStar_7 : decode cX5_turnStar 7 = .ok (.iconst 1, 1) := by decide +kernel
theorem dX5_turnStar_8 : decode cX5_turnStar 8 = .ok (.iload_n 1, 1) := by decide +kernel
theorem dX5_turnStar_9 : decode cX5_turnStar 9 = .ok (.ishl, 1) := by decide +kernel
theorem dX5_turnStar_10 : decode cX5_turnStar 10 = .ok (.ixor, 1) := by decide +kernel
theorem dX5_turnStar_11 : decode cX5_turnStar 11 = .ok (.iastore, 1) := by decide +kernel
theorem dX5_turnStar_12 : decode cX5_turnStar 12 = .ok (.return_, 1) := by decide +kernel
theorem dX5_countStars_0 : decode cX5_countStars 0 = .ok (.iconst 0, 1) := by decide +kernel
theorem dX5_countStars_1 : decode cX5_countStars 1 = .ok (.istore_n 1, 1) := by decide +kernel
theorem dX5_countStars_2 : decode cX5_countStars 2 = .ok (.iconst 0, 1) := by decide +kernel
theorem dX5_countStars_3 : decode cX5_countStars 3 = .ok (.istore_n 2, 1) := by decide +kernel
theorem dX5_countStars_4 : decode cX5_countStars 4 = .ok (.iload_n 2, 1) := by decide +kernel
theorem dX5_countStars_5 : decode cX5_countStars 5 = .ok (.bipush 8, 2) := by decide +kernel
theorem dX5_countStars_7 : decode cX5_countStars 7 = .ok (.if_icmp .ge 21, 3) := by decide +kernel
theorem dX5_countStars_10 : decode cX5_countStars 10 = .ok (.iload_n 1, 1) := by decide +kernel
theorem dX5_countStars_11 : decode cX5_countStars 11 = .ok (.aload_n 0, 1) := by decide +kernel
theorem dX5_countStars_12 : decode cX5_countStars 12 = .ok (.getfield 9, 3) := by decide +kernel
theorem dX5_countStars_15 : decode cX5_countStars 15 = .ok (.iload_n 2, 1) := by decide +kernel
theorem dX5_countStars_16 : decode cX5_countStars 16 = .ok (.iaload, 1) := by decide +kernel
theorem dX5_countStars_17 : decode cX5_countStars 17 = .ok (.invokestatic 31, 3) := by decide +kernel
theorem dX5_countStars_20 : decode cX5_countStars 20 = .ok (.iadd, 1) := by decide +kernel
theorem dX5_countStars_21 : decode cX5_countStars 21 = .ok (.istore_n 1, 1) := by decide +kernel
theorem dX5_countStars_22 : decode cX5_countStars 22 = .ok (.iinc 2 1, 3) := by decide +kernel
theorem dX5_countStars_25 : decode cX5_countStars 25 = .ok (.goto (-21), 3) := by decide +kernel
theorem dX5_countStars_28 : decode cX5_countStars 28 = .ok (.iload_n 1, 1) := by decide +kernel
theorem dX5_countStars_29 : decode cX5_countStars 29 = .ok (.ireturn, 1) := by decide +kernel
theorem dX5_movedRow_0 : decode cX5_movedRow 0 = .ok (.iload_n 2, 1) := by decide +kernel
theorem dX5_movedRow_1 : decode cX5_movedRow 1 = .ok (.ifCond .ge 15, 3) := by decide +kernel
theorem dX5_movedRow_4 : decode cX5_movedRow 4 = .ok (.aload_n 0, 1) := by decide +kernel
theorem dX5_movedRow_5 : decode cX5_movedRow 5 = .ok (.getfield 9, 3) := by decide +kernel
theorem dX5_movedRow_8 : decode cX5_movedRow 8 = .ok (.iload_n 1, 1) := by decide +kernel
theorem dX5_movedRow_9 : decode cX5_movedRow 9 = .ok (.iaload, 1) := by decide +kernel
theorem dX5_movedRow_10 : decode cX5_movedRow 10 = .ok (.iload_n 2, 1) := by decide +kernel
theorem dX5_movedRow_11 : decode cX5_movedRow 11 = .ok (.ineg, 1) := by decide +kernel
theorem dX5_movedRow_12 : decode cX5_movedRow 12 = .ok (.ishr, 1) := by decide +kernel
theorem dX5_movedRow_13 : decode cX5_movedRow 13 = .ok (.goto 14, 3) := by decide +kernel
theorem dX5_movedRow_16 : decode cX5_movedRow 16 = .ok (.aload_n 0, 1) := by decide +kernel
theorem dX5_movedRow_17 : decode cX5_movedRow 17 = .ok (.getfield 9, 3) := by decide +kernel
theorem dX5_movedRow_20 : decode cX5_movedRow 20 = .ok (.iload_n 1, 1) := by decide +kernel
theorem dX5_movedRow_21 : decode cX5_movedRow 21 = .ok (.iaload, 1) := by decide +kernel
theorem dX5_movedRow_22 : decode cX5_movedRow 22 = .ok (.iload_n 2, 1) := by decide +kernel
theorem dX5_movedRow_23 : decode cX5_movedRow 23 = .ok (.ishl, 1) := by decide +kernel
theorem dX5_movedRow_24 : decode cX5_movedRow 24 = .ok (.ldc 37, 2) := by decide +kernel
theorem dX5_movedRow_26 : decode cX5_movedRow 26 = .ok (.iand, 1) := by decide +kernel
theorem dX5_movedRow_27 : decode cX5_movedRow 27 = .ok (.ireturn, 1) := by decide +kernel
theorem dX5_countBeside_0 : decode cX5_countBeside 0 = .ok (.iconst 0, 1) := by decide +kernel
theorem dX5_countBeside_1 : decode cX5_countBeside 1 = .ok (.istore_n 1, 1) := by decide +kernel
theorem dX5_countBeside_2 : decode cX5_countBeside 2 = .ok (.iconst 0, 1) := by decide +kernel
theorem dX5_countBeside_3 : decode cX5_countBeside 3 = .ok (.istore_n 2, 1) := by decide +kernel
theorem dX5_countBeside_4 : decode cX5_countBeside 4 = .ok (.iload_n 2, 1) := by decide +kernel
theorem dX5_countBeside_5 : decode cX5_countBeside 5 = .ok (.bipush 8, 2) := by decide +kernel
theorem dX5_countBeside_7 : decode cX5_countBeside 7 = .ok (.if_icmp .ge 37, 3) := by decide +kernel
theorem dX5_countBeside_10 : decode cX5_countBeside 10 = .ok (.iconst 0, 1) := by decide +kernel
theorem dX5_countBeside_11 : decode cX5_countBeside 11 = .ok (.iload_n 2, 1) := by decide +kernel
theorem dX5_countBeside_12 : decode cX5_countBeside 12 = .ok (.aload_n 0, 1) := by decide +kernel
theorem dX5_countBeside_13 : decode cX5_countBeside 13 = .ok (.getfield 22, 3) := by decide +kernel
theorem dX5_countBeside_16 : decode cX5_countBeside 16 = .ok (.iadd, 1) := by decide +kernel
theorem dX5_countBeside_17 : decode cX5_countBeside 17 = .ok (.invokestatic 38, 3) := by decide +kernel
theorem dX5_countBeside_20 : decode cX5_countBeside 20 = .ok (.ifCond .eq 18, 3) := by decide +kernel
theorem dX5_countBeside_23 : decode cX5_countBeside 23 = .ok (.iload_n 1, 1) := by decide +kernel
theorem dX5_countBeside_24 : decode cX5_countBeside 24 = .ok (.aload_n 0, 1) := by decide +kernel
theorem dX5_countBeside_25 : decode cX5_countBeside 25 = .ok (.iload_n 2, 1) := by decide +kernel
theorem dX5_countBeside_26 : decode cX5_countBeside 26 = .ok (.aload_n 0, 1) := by decide +kernel
theorem dX5_countBeside_27 : decode cX5_countBeside 27 = .ok (.getfield 19, 3) := by decide +kernel
theorem dX5_countBeside_30 : decode cX5_countBeside 30 = .ok (.invokevirtual 42, 3) := by decide +kernel
theorem dX5_countBeside_33 : decode cX5_countBeside 33 = .ok (.invokestatic 31, 3) := by decide +kernel
theorem dX5_countBeside_36 : decode cX5_countBeside 36 = .ok (.iadd, 1) := by decide +kernel
theorem dX5_countBeside_37 : decode cX5_countBeside 37 = .ok (.istore_n 1, 1) := by decide +kernel
theorem dX5_countBeside_38 : decode cX5_countBeside 38 = .ok (.iinc 2 1, 3) := by decide +kernel
theorem dX5_countBeside_41 : decode cX5_countBeside 41 = .ok (.goto (-37), 3) := by decide +kernel
theorem dX5_countBeside_44 : decode cX5_countBeside 44 = .ok (.aload_n 0, 1) := by decide +kernel
theorem dX5_countBeside_45 : decode cX5_countBeside 45 = .ok (.invokevirtual 46, 3) := by decide +kernel
theorem dX5_countBeside_48 : decode cX5_countBeside 48 = .ok (.iload_n 1, 1) := by decide +kernel
theorem dX5_countBeside_49 : decode cX5_countBeside 49 = .ok (.isub, 1) := by decide +kernel
theorem dX5_countBeside_50 : decode cX5_countBeside 50 = .ok (.ireturn, 1) := by decide +kernel
theorem dX5_countMatches_0 : decode cX5_countMatches 0 = .ok (.iconst 0, 1) := by decide +kernel
theorem dX5_countMatches_1 : decode cX5_countMatches 1 = .ok (.istore 4, 2) := by decide +kernel
theorem dX5_countMatches_3 : decode cX5_countMatches 3 = .ok (.iconst 0, 1) := by decide +kernel
theorem dX5_countMatches_4 : decode cX5_countMatches 4 = .ok (.istore 5, 2) := by decide +kernel
theorem dX5_countMatches_6 : decode cX5_countMatches 6 = .ok (.iload 5, 2) := by decide +kernel
theorem dX5_countMatches_8 : decode cX5_countMatches 8 = .ok (.bipush 8, 2) := by decide +kernel
theorem dX5_countMatches_10 : decode cX5_countMatches 10 = .ok (.if_icmp .ge 45, 3) := by decide +kernel
theorem dX5_countMatches_13 : decode cX5_countMatches 13 = .ok (.iconst 0, 1) := by decide +kernel
theorem dX5_countMatches_14 : decode cX5_countMatches 14 = .ok (.iload 5, 2) := by decide +kernel
theorem dX5_countMatches_16 : decode cX5_countMatches 16 = .ok (.iload_n 3, 1) := by decide +kernel
theorem dX5_countMatches_17 : decode cX5_countMatches 17 = .ok (.iadd, 1) := by decide +kernel
theorem dX5_countMatches_18 : decode cX5_countMatches 18 = .ok (.invokestatic 38, 3) := by decide +kernel
theorem dX5_countMatches_21 : decode cX5_countMatches 21 = .ok (.ifCond .eq 28, 3) := by decide +kernel
theorem dX5_countMatches_24 : decode cX5_countMatches 24 = .ok (.iload 4, 2) := by decide +kernel
theorem dX5_countMatches_26 : decode cX5_countMatches 26 = .ok (.aload_n 0, 1) := by decide +kernel
theorem dX5_countMatches_27 : decode cX5_countMatches 27 = .ok (.iload 5, 2) := by decide +kernel
theorem dX5_countMatches_29 : decode cX5_countMatches 29 = .ok (.iload_n 2, 1) := by decide +kernel
theorem dX5_countMatches_30 : decode cX5_countMatches 30 = .ok (.invokevirtual 42, 3) := by decide +kernel
theorem dX5_countMatches_33 : decode cX5_countMatches 33 = .ok (.aload_n 1, 1) := by decide +kernel
theorem dX5_countMatches_34 : decode cX5_countMatches 34 = .ok (.getfield 9, 3) := by decide +kernel
theorem dX5_countMatches_37 : decode cX5_countMatches 37 = .ok (.iload 5, 2) := by decide +kernel
theorem dX5_countMatches_39 : decode cX5_countMatches 39 = .ok (.iload_n 3, 1) := by decide +kernel
theorem dX5_countMatches_40 : decode cX5_countMatches 40 = .ok (.iadd, 1) := by decide +kernel
theorem dX5_countMatches_41 : decode cX5_countMatches 41 = .ok (.iaload, 1) := by decide +kernel
theorem dX5_countMatches_42 : decode cX5_countMatches 42 = .ok (.iand, 1) := by decide +kernel
theorem dX5_countMatches_43 : decode cX5_countMatches 43 = .ok (.invokestatic 31, 3) := by decide +kernel
theorem dX5_countMatches_46 : decode cX5_countMatches 46 = .ok (.iadd, 1) := by decide +kernel
theorem dX5_countMatches_47 : decode cX5_countMatches 47 = .ok (.istore 4, 2) := by decide +kernel
theorem dX5_countMatches_49 : decode cX5_countMatches 49 = .ok (.iinc 5 1, 3) := by decide +kernel
theorem dX5_countMatches_52 : decode cX5_countMatches 52 = .ok (.goto (-46), 3) := by decide +kernel
theorem dX5_countMatches_55 : decode cX5_countMatches 55 = .ok (.iload 4, 2) := by decide +kernel
theorem dX5_countMatches_57 : decode cX5_countMatches 57 = .ok (.ireturn, 1) := by decide +kernel
theorem dX5_listStars_0 : decode cX5_listStars 0 = .ok (.iconst 0, 1) := by decide +kernel
theorem dX5_listStars_1 : decode cX5_listStars 1 = .ok (.istore_n 3, 1) := by decide +kernel
theorem dX5_listStars_2 : decode cX5_listStars 2 = .ok (.iconst 0, 1) := by decide +kernel
theorem dX5_listStars_3 : decode cX5_listStars 3 = .ok (.istore 4, 2) := by decide +kernel
theorem dX5_listStars_5 : decode cX5_listStars 5 = .ok (.iload 4, 2) := by decide +kernel
theorem dX5_listStars_7 : decode cX5_listStars 7 = .ok (.bipush 8, 2) := by decide +kernel
theorem dX5_listStars_9 : decode cX5_listStars 9 = .ok (.if_icmp .ge 55, 3) := by decide +kernel
theorem dX5_listStars_12 : decode cX5_listStars 12 = .ok (.iconst 0, 1) := by decide +kernel
theorem dX5_listStars_13 : decode cX5_listStars 13 = .ok (.istore 5, 2) := by decide +kernel
theorem dX5_listStars_15 : decode cX5_listStars 15 = .ok (.iload 5, 2) := by decide +kernel
theorem dX5_listStars_17 : decode cX5_listStars 17 = .ok (.bipush 16, 2) := by decide +kernel
theorem dX5_listStars_19 : decode cX5_listStars 19 = .ok (.if_icmp .ge 39, 3) := by decide +kernel
theorem dX5_listStars_22 : decode cX5_listStars 22 = .ok (.aload_n 0, 1) := by decide +kernel
theorem dX5_listStars_23 : decode cX5_listStars 23 = .ok (.iload 5, 2) := by decide +kernel
theorem dX5_listStars_25 : decode cX5_listStars 25 = .ok (.iload 4, 2) := by decide +kernel
theorem dX5_listStars_27 : decode cX5_listStars 27 = .ok (.invokevirtual 50, 3) := by decide +kernel
theorem dX5_listStars_30 : decode cX5_listStars 30 = .ok (.ifCond .eq 22, 3) := by decide +kernel
theorem dX5_listStars_33 : decode cX5_listStars 33 = .ok (.iload_n 3, 1) := by decide +kernel
theorem dX5_listStars_34 : decode cX5_listStars 34 = .ok (.bipush 20, 2) := by decide +kernel
theorem dX5_listStars_36 : decode cX5_listStars 36 = .ok (.if_icmp .ge 16, 3) := by decide +kernel
theorem dX5_listStars_39 : decode cX5_listStars 39 = .ok (.aload_n 1, 1) := by decide +kernel
theorem dX5_listStars_40 : decode cX5_listStars 40 = .ok (.iload_n 3, 1) := by decide +kernel
theorem dX5_listStars_41 : decode cX5_listStars 41 = .ok (.iload 5, 2) := by decide +kernel
theorem dX5_listStars_43 : decode cX5_listStars 43 = .ok (.iastore, 1) := by decide +kernel
theorem dX5_listStars_44 : decode cX5_listStars 44 = .ok (.aload_n 2, 1) := by decide +kernel
theorem dX5_listStars_45 : decode cX5_listStars 45 = .ok (.iload_n 3, 1) := by decide +kernel
theorem dX5_listStars_46 : decode cX5_listStars 46 = .ok (.iload 4, 2) := by decide +kernel
theorem dX5_listStars_48 : decode cX5_listStars 48 = .ok (.iastore, 1) := by decide +kernel
theorem dX5_listStars_49 : decode cX5_listStars 49 = .ok (.iinc 3 1, 3) := by decide +kernel
theorem dX5_listStars_52 : decode cX5_listStars 52 = .ok (.iinc 5 1, 3) := by decide +kernel
theorem dX5_listStars_55 : decode cX5_listStars 55 = .ok (.goto (-40), 3) := by decide +kernel
theorem dX5_listStars_58 : decode cX5_listStars 58 = .ok (.iinc 4 1, 3) := by decide +kernel
theorem dX5_listStars_61 : decode cX5_listStars 61 = .ok (.goto (-56), 3) := by decide +kernel
theorem dX5_listStars_64 : decode cX5_listStars 64 = .ok (.iload_n 3, 1) := by decide +kernel
theorem dX5_listStars_65 : decode cX5_listStars 65 = .ok (.ireturn, 1) := by decide +kernel
theorem dX6_init_0 : decode cX6_init 0 = .ok (.aload_n 0, 1) := by decide +kernel
theorem dX6_init_1 : decode cX6_init 1 = .ok (.invokespecial 3, 3) := by decide +kernel
theorem dX6_init_4 : decode cX6_init 4 = .ok (.aload_n 0, 1) := by decide +kernel
theorem dX6_init_5 : decode cX6_init 5 = .ok (.iconst (-1), 1) := by decide +kernel
theorem dX6_init_6 : decode cX6_init 6 = .ok (.putfield 9, 3) := by decide +kernel
theorem dX6_init_9 : decode cX6_init 9 = .ok (.aload_n 0, 1) := by decide +kernel
theorem dX6_init_10 : decode cX6_init 10 = .ok (.iconst 0, 1) := by decide +kernel
theorem dX6_init_11 : decode cX6_init 11 = .ok (.putfield 15, 3) := by decide +kernel
theorem dX6_init_14 : decode cX6_init 14 = .ok (.return_, 1) := by decide +kernel
theorem dX6_keep_0 : decode cX6_keep 0 = .ok (.aload_n 0, 1) := by decide +kernel
theorem dX6_keep_1 : decode cX6_keep 1 = .ok (.iload_n 1, 1) := by decide +kernel
theorem dX6_keep_2 : decode cX6_keep 2 = .ok (.putfield 9, 3) := by decide +kernel
theorem dX6_keep_5 : decode cX6_keep 5 = .ok (.aload_n 0, 1) := by decide +kernel
theorem dX6_keep_6 : decode cX6_keep 6 = .ok (.iload_n 2, 1) := by decide +kernel
theorem dX6_keep_7 : decode cX6_keep 7 = .ok (.putfield 15, 3) := by decide +kernel
theorem dX6_keep_10 : decode cX6_keep 10 = .ok (.bipush (-5), 2) := by decide +kernel
theorem dX6_keep_12 : decode cX6_keep 12 = .ok (.ireturn, 1) := by decide +kernel
theorem dX7_init_0 : decode cX7_init 0 = .ok (.aload_n 0, 1) := by decide +kernel
theorem dX7_init_1 : decode cX7_init 1 = .ok (.invokespecial 3, 3) := by decide +kernel
theorem dX7_init_4 : decode cX7_init 4 = .ok (.aload_n 0, 1) := by decide +kernel
theorem dX7_init_5 : decode cX7_init 5 = .ok (.bipush 24, 2) := by decide +kernel
theorem dX7_init_7 : decode cX7_init 7 = .ok (.newarray .int, 2) := by decide +kernel
theorem dX7_init_9 : decode cX7_init 9 = .ok (.putfield 9, 3) := by decide +kernel
theorem dX7_init_12 : decode cX7_init 12 = .ok (.aload_n 0, 1) := by decide +kernel
theorem dX7_init_13 : decode cX7_init 13 = .ok (.bipush 24, 2) := by decide +kernel
theorem dX7_init_15 : decode cX7_init 15 = .ok (.newarray .int, 2) := by decide +kernel
theorem dX7_init_17 : decode cX7_init 17 = .ok (.putfield 15, 3) := by decide +kernel
theorem dX7_init_20 : decode cX7_init 20 = .ok (.aload_n 0, 1) := by decide +kernel
theorem dX7_init_21 : decode cX7_init 21 = .ok (.iconst 0, 1) := by decide +kernel
theorem dX7_init_22 : decode cX7_init 22 = .ok (.putfield 18, 3) := by decide +kernel
theorem dX7_init_25 : decode cX7_init 25 = .ok (.aload_n 0, 1) := by decide +kernel
theorem dX7_init_26 : decode cX7_init 26 = .ok (.iconst 0, 1) := by decide +kernel
theorem dX7_init_27 : decode cX7_init 27 = .ok (.putfield 22, 3) := by decide +kernel
theorem dX7_init_30 : decode cX7_init 30 = .ok (.aload_n 0, 1) := by decide +kernel
theorem dX7_init_31 : decode cX7_init 31 = .ok (.iconst (-1), 1) := by decide +kernel
theorem dX7_init_32 : decode cX7_init 32 = .ok (.putfield 25, 3) := by decide +kernel
theorem dX7_init_35 : decode cX7_init 35 = .ok (.return_, 1) := by decide +kernel
theorem dX7_copyFrom_0 : decode cX7_copyFrom 0 = .ok (.aload_n 1, 1) := by decide +kernel
theorem dX7_copyFrom_1 : decode cX7_copyFrom 1 = .ok (.getfield 9, 3) := by decide +kernel
theorem dX7_copyFrom_4 : decode cX7_copyFrom 4 = .ok (.iconst 0, 1) := by decide +kernel
theorem dX7_copyFrom_5 : decode cX7_copyFrom 5 = .ok (.aload_n 0, 1) := by decide +kernel
theorem dX7_copyFrom_6 : decode cX7_copyFrom 6 = .ok (.getfield 9, 3) := by decide +kernel
theorem dX7_copyFrom_9 : decode cX7_copyFrom 9 = .ok (.iconst 0, 1) := by decide +kernel
theorem dX7_copyFrom_10 : decode cX7_copyFrom 10 = .ok (.bipush 24, 2) := by decide +kernel
theorem dX7_copyFrom_12 : decode cX7_copyFrom 12 = .ok (.invokestatic 28, 3) := by decide +kernel
theorem dX7_copyFrom_15 : decode cX7_copyFrom 15 = .ok (.aload_n 1, 1) := by decide +kernel
theorem dX7_copyFrom_16 : decode cX7_copyFrom 16 = .ok (.getfield 15, 3) := by decide +kernel
theorem dX7_copyFrom_19 : decode cX7_copyFrom 19 = .ok (.iconst 0, 1) := by decide +kernel
theorem dX7_copyFrom_20 : decode cX7_copyFrom 20 = .ok (.aload_n 0, 1) := by decide +kernel
theorem dX7_copyFrom_21 : decode cX7_copyFrom 21 = .ok (.getfield 15, 3) := by decide +kernel
theorem dX7_copyFrom_24 : decode cX7_copyFrom 24 = .ok (.iconst 0, 1) := by decide +kernel
theorem dX7_copyFrom_25 : decode cX7_copyFrom 25 = .ok (.bipush 24, 2) := by decide +kernel
theorem dX7_copyFrom_27 : decode cX7_copyFrom 27 = .ok (.invokestatic 28, 3) := by decide +kernel
theorem dX7_copyFrom_30 : decode cX7_copyFrom 30 = .ok (.aload_n 0, 1) := by decide +kernel
theorem dX7_copyFrom_31 : decode cX7_copyFrom 31 = .ok (.aload_n 1, 1) := by decide +kernel
theorem dX7_copyFrom_32 : decode cX7_copyFrom 32 = .ok (.getfield 18, 3) := by decide +kernel
theorem dX7_copyFrom_35 : decode cX7_copyFrom 35 = .ok (.putfield 18, 3) := by decide +kernel
theorem dX7_copyFrom_38 : decode cX7_copyFrom 38 = .ok (.aload_n 0, 1) := by decide +kernel
theorem dX7_copyFrom_39 : decode cX7_copyFrom 39 = .ok (.aload_n 1, 1) := by decide +kernel
theorem dX7_copyFrom_40 : decode cX7_copyFrom 40 = .ok (.getfield 22, 3) := by decide +kernel
theorem dX7_copyFrom_43 : decode cX7_copyFrom 43 = .ok (.putfield 22, 3) := by decide +kernel
theorem dX7_copyFrom_46 : decode cX7_copyFrom 46 = .ok (.aload_n 0, 1) := by decide +kernel
theorem dX7_copyFrom_47 : decode cX7_copyFrom 47 = .ok (.aload_n 1, 1) := by decide +kernel
theorem dX7_copyFrom_48 : decode cX7_copyFrom 48 = .ok (.getfield 25, 3) := by decide +kernel
theorem dX7_copyFrom_51 : decode cX7_copyFrom 51 = .ok (.putfield 25, 3) := by decide +kernel
theorem dX7_copyFrom_54 : decode cX7_copyFrom 54 = .ok (.return_, 1) := by decide +kernel
theorem dX7_isWet_0 : decode cX7_isWet 0 = .ok (.aload_n 0, 1) := by decide +kernel
theorem dX7_isWet_1 : decode cX7_isWet 1 = .ok (.getfield 18, 3) := by decide +kernel
theorem dX7_isWet_4 : decode cX7_isWet 4 = .ok (.ifCond .le 7, 3) := by decide +kernel
theorem dX7_isWet_7 : decode cX7_isWet 7 = .ok (.iconst 1, 1) := by decide +kernel
theorem dX7_isWet_8 : decode cX7_isWet 8 = .ok (.goto 4, 3) := by decide +kernel
theorem dX7_isWet_11 : decode cX7_isWet 11 = .ok (.iconst 0, 1) := by decide +kernel
theorem dX7_isWet_12 : decode cX7_isWet 12 = .ok (.ireturn, 1) := by decide +kernel
theorem dX7_isInRack_0 : decode cX7_isInRack 0 = .ok (.aload_n 0, 1) := by decide +kernel
theorem dX7_isInRack_1 : decode cX7_isInRack 1 = .ok (.getfield 25, 3) := by decide +kernel
theorem dX7_isInRack_4 : decode cX7_isInRack 4 = .ok (.iconst (-1), 1) := by decide +kernel
theorem dX7_isInRack_5 : decode cX7_isInRack 5 = .ok (.if_icmp .eq 7, 3) := by decide +kernel
theorem dX7_isInRack_8 : decode cX7_isInRack 8 = .ok (.iconst 1, 1) := by decide +kernel
theorem dX7_isInRack_9 : decode cX7_isInRack 9 = .ok (.goto 4, 3) := by decide +kernel
theorem dX7_isInRack_12 : decode cX7_isInRack 12 = .ok (.iconst 0, 1) := by decide +kernel
theorem dX7_isInRack_13 : decode cX7_isInRack 13 = .ok (.ireturn, 1) := by decide +kernel
theorem dX7_colourAt_0 : decode cX7_colourAt 0 = .ok (.aload_n 0, 1) := by decide +kernel
theorem dX7_colourAt_1 : decode cX7_colourAt 1 = .ok (.getfield 9, 3) := by decide +kernel
theorem dX7_colourAt_4 : decode cX7_colourAt 4 = .ok (.iload_n 1, 1) := by decide +kernel
theorem dX7_colourAt_5 : decode cX7_colourAt 5 = .ok (.iload_n 2, 1) := by decide +kernel
theorem dX7_colourAt_6 : decode cX7_colourAt 6 = .ok (.invokestatic 34, 3) := by decide +kernel
theorem dX7_colourAt_9 : decode cX7_colourAt 9 = .ok (.ireturn, 1) := by decide +kernel
theorem dX7_meantAt_0 : decode cX7_meantAt 0 = .ok (.aload_n 0, 1) := by decide +kernel
theorem dX7_meantAt_1 : decode cX7_meantAt 1 = .ok (.getfield 15, 3) := by decide +kernel
theorem dX7_meantAt_4 : decode cX7_meantAt 4 = .ok (.iload_n 1, 1) := by decide +kernel
theorem dX7_meantAt_5 : decode cX7_meantAt 5 = .ok (.iload_n 2, 1) := by decide +kernel
theorem dX7_meantAt_6 : decode cX7_meantAt 6 = .ok (.invokestatic 34, 3) := by decide +kernel
theorem dX7_meantAt_9 : decode cX7_meantAt 9 = .ok (.ireturn, 1) := by decide +kernel
theorem dX7_inksAt_0 : decode cX7_inksAt 0 = .ok (.iconst 0, 1) := by decide +kernel
theorem dX7_inksAt_1 : decode cX7_inksAt 1 = .ok (.istore_n 3, 1) := by decide +kernel
theorem dX7_inksAt_2 : decode cX7_inksAt 2 = .ok (.iconst 0, 1) := by decide +kernel
theorem dX7_inksAt_3 : decode cX7_inksAt 3 = .ok (.istore 4, 2) := by decide +kernel
theorem dX7_inksAt_5 : decode cX7_inksAt 5 = .ok (.iload 4, 2) := by decide +kernel
theorem dX7_inksAt_7 : decode cX7_inksAt 7 = .ok (.iconst 3, 1) := by decide +kernel
theorem dX7_inksAt_8 : decode cX7_inksAt 8 = .ok (.if_icmp .ge 28, 3) := by decide +kernel
theorem dX7_inksAt_11 : decode cX7_inksAt 11 = .ok (.iload_n 3, 1) := by decide +kernel
theorem dX7_inksAt_12 : decode cX7_inksAt 12 = .ok (.aload_n 0, 1) := by decide +kernel
theorem dX7_inksAt_13 : decode cX7_inksAt 13 = .ok (.iload 4, 2) := by decide +kernel
theorem dX7_inksAt_15 : decode cX7_inksAt 15 = .ok (.bipush 8, 2) := by decide +kernel
theorem dX7_inksAt_17 : decode cX7_inksAt 17 = .ok (.imul, 1) := by decide +kernel
theorem dX7_inksAt_18 : decode cX7_inksAt 18 = .ok (.iload_n 2, 1) := by decide +kernel
theorem dX7_inksAt_19 : decode cX7_inksAt 19 = .ok (.iadd, 1) := by decide +kernel
theorem dX7_inksAt_20 : decode cX7_inksAt 20 = .ok (.iaload, 1) := by decide +kernel
theorem dX7_inksAt_21 : decode cX7_inksAt 21 = .ok (.iload_n 1, 1) := by decide +kernel
theorem dX7_inksAt_22 : decode cX7_inksAt 22 = .ok (.ishr, 1) := by decide +kernel
theorem dX7_inksAt_23 : decode cX7_inksAt 23 = .ok (.iconst 1, 1) := by decide +kernel
theorem dX7_inksAt_24 : decode cX7_inksAt 24 = .ok (.iand, 1) := by decide +kernel
theorem dX7_inksAt_25 : decode cX7_inksAt 25 = .ok (.iload 4, 2) := by decide +kernel
theorem dX7_inksAt_27 : decode cX7_inksAt 27 = .ok (.ishl, 1) := by decide +kernel
theorem dX7_inksAt_28 : decode cX7_inksAt 28 = .ok (.ior, 1) := by decide +kernel
theorem dX7_inksAt_29 : decode cX7_inksAt 29 = .ok (.istore_n 3, 1) := by decide +kernel
theorem dX7_inksAt_30 : decode cX7_inksAt 30 = .ok (.iinc 4 1, 3) := by decide +kernel
theorem dX7_inksAt_33 : decode cX7_inksAt 33 = .ok (.goto (-28), 3) := by decide +kernel
theorem dX7_inksAt_36 : decode cX7_inksAt 36 = .ok (.iload_n 3, 1) := by decide +kernel
theorem dX7_inksAt_37 : decode cX7_inksAt 37 = .ok (.ireturn, 1) := by decide +kernel
theorem dX7_countPlaces_0 : decode cX7_countPlaces 0 = .ok (.iconst 0, 1) := by decide +kernel
theorem dX7_countPlaces_1 : decode cX7_countPlaces 1 = .ok (.istore_n 2, 1) := by decide +kernel
theorem dX7_countPlaces_2 : decode cX7_countPlaces 2 = .ok (.iconst 0, 1) := by decide +kernel
theorem dX7_countPlaces_3 : decode cX7_countPlaces 3 = .ok (.istore_n 3, 1) := by decide +kernel
theorem dX7_countPlaces_4 : decode cX7_countPlaces 4 = .ok (.iload_n 3, 1) := by decide +kernel
theorem dX7_countPlaces_5 : decode cX7_countPlaces 5 = .ok (.bipush 8, 2) := by decide +kernel
theorem dX7_countPlaces_7 : decode cX7_countPlaces 7 = .ok (.if_icmp .ge 39, 3) := by decide +kernel
theorem dX7_countPlaces_10 : decode cX7_countPlaces 10 = .ok (.iconst 0, 1) := by decide +kernel
theorem dX7_countPlaces_11 : decode cX7_countPlaces 11 = .ok (.istore 4, 2) := by decide +kernel
theorem dX7_countPlaces_13 : decode cX7_countPlaces 13 = .ok (.iload 4, 2) := by decide +kernel
theorem dX7_countPlaces_15 : decode cX7_countPlaces 15 = .ok (.bipush 16, 2) := by decide +kernel
theorem dX7_countPlaces_17 : decode cX7_countPlaces 17 = .ok (.if_icmp .ge 23, 3) := by decide +kernel
theorem dX7_countPlaces_20 : decode cX7_countPlaces 20 = .ok (.aload_n 0, 1) := by decide +kernel
theorem dX7_countPlaces_21 : decode cX7_countPlaces 21 = .ok (.iload 4, 2) := by decide +kernel
theorem dX7_countPlaces_23 : decode cX7_countPlaces 23 = .ok (.iload_n 3, 1) := by decide +kernel
theorem dX7_countPlaces_24 : decode cX7_countPlaces 24 = .ok (.invokevirtual 38, 3) := by decide +kernel
theorem dX7_countPlaces_27 : decode cX7_countPlaces 27 = .ok (.iload_n 1, 1) := by decide +kernel
theorem dX7_countPlaces_28 : decode cX7_countPlaces 28 = .ok (.if_icmp .ne 6, 3) := by decide +kernel
theorem dX7_countPlaces_31 : decode cX7_countPlaces 31 = .ok (.iinc 2 1, 3) := by decide +kernel
theorem dX7_countPlaces_34 : decode cX7_countPlaces 34 = .ok (.iinc 4 1, 3) := by decide +kernel
theorem dX7_countPlaces_37 : decode cX7_countPlaces 37 = .ok (.goto (-24), 3) := by decide +kernel
theorem dX7_countPlaces_40 : decode cX7_countPlaces 40 = .ok (.iinc 3 1, 3) := by decide +kernel
theorem dX7_countPlaces_43 : decode cX7_countPlaces 43 = .ok (.goto (-39), 3) := by decide +kernel
theorem dX7_countPlaces_46 : decode cX7_countPlaces 46 = .ok (.iload_n 2, 1) := by decide +kernel
theorem dX7_countPlaces_47 : decode cX7_countPlaces 47 = .ok (.ireturn, 1) := by decide +kernel
theorem dX7_countMisprints_0 : decode cX7_countMisprints 0 = .ok (.iconst 0, 1) := by decide +kernel
theorem dX7_countMisprints_1 : decode cX7_countMisprints 1 = .ok (.istore_n 1, 1) := by decide +kernel
theorem dX7_countMisprints_2 : decode cX7_countMisprints 2 = .ok (.iconst 0, 1) := by decide +kernel
theorem dX7_countMisprints_3 : decode cX7_countMisprints 3 = .ok (.istore_n 2, 1) := by decide +kernel
theorem dX7_countMisprints_4 : decode cX7_countMisprints 4 = .ok (.iload_n 2, 1) := by decide +kernel
theorem dX7_countMisprints_5 : decode cX7_countMisprints 5 = .ok (.bipush 8, 2) := by decide +kernel
theorem dX7_countMisprints_7 : decode cX7_countMisprints 7 = .ok (.if_icmp .ge 41, 3) := by decide +kernel
theorem dX7_countMisprints_10 : decode cX7_countMisprints 10 = .ok (.iconst 0, 1) := by decide +kernel
theorem dX7_countMisprints_11 : decode cX7_countMisprints 11 = .ok (.istore_n 3, 1) := by decide +kernel
theorem dX7_countMisprints_12 : decode cX7_countMisprints 12 = .ok (.iload_n 3, 1) := by decide +kernel
theorem dX7_countMisprints_13 : decode cX7_countMisprints 13 = .ok (.bipush 16, 2) := by decide +kernel
theorem dX7_countMisprints_15 : decode cX7_countMisprints 15 = .ok (.if_icmp .ge 27, 3) := by decide +kernel
theorem dX7_countMisprints_18 : decode cX7_countMisprints 18 = .ok (.aload_n 0, 1) := by decide +kernel
theorem dX7_countMisprints_19 : decode cX7_countMisprints 19 = .ok (.iload_n 3, 1) := by decide +kernel
theorem dX7_countMisprints_20 : decode cX7_countMisprints 20 = .ok (.iload_n 2, 1) := by decide +kernel
theorem dX7_countMisprints_21 : decode cX7_countMisprints 21 = .ok (.invokevirtual 38, 3) := by decide +kernel
theorem dX7_countMisprints_24 : decode cX7_countMisprints 24 = .ok (.aload_n 0, 1) := by decide +kernel
theorem dX7_countMisprints_25 : decode cX7_countMisprints 25 = .ok (.iload_n 3, 1) := by decide +kernel
theorem dX7_countMisprints_26 : decode cX7_countMisprints 26 = .ok (.iload_n 2, 1) := by decide +kernel
theorem dX7_countMisprints_27 : decode cX7_countMisprints 27 = .ok (.invokevirtual 42, 3) := by decide +kernel
theorem dX7_countMisprints_30 : decode cX7_countMisprints 30 = .ok (.if_icmp .eq 6, 3) := by decide +kernel
theorem dX7_countMisprints_33 : decode cX7_countMisprints 33 = .ok (.iinc 1 1, 3) := by decide +kernel
theorem dX7_countMisprints_36 : decode cX7_countMisprints 36 = .ok (.iinc 3 1, 3) := by decide +kernel
theorem dX7_countMisprints_39 : decode cX7_countMisprints 39 = .ok (.goto (-27), 3) := by decide +kernel
theorem dX7_countMisprints_42 : decode cX7_countMisprints 42 = .ok (.iinc 2 1, 3) := by decide +kernel
theorem dX7_countMisprints_45 : decode cX7_countMisprints 45 = .ok (.goto (-41), 3) := by decide +kernel
theorem dX7_countMisprints_48 : decode cX7_countMisprints 48 = .ok (.iload_n 1, 1) := by decide +kernel
theorem dX7_countMisprints_49 : decode cX7_countMisprints 49 = .ok (.ireturn, 1) := by decide +kernel
theorem dX7_countMisprintsBySets_0 : decode cX7_countMisprintsBySets 0 = .ok (.iconst 0, 1) := by decide +kernel
theorem dX7_countMisprintsBySets_1 : decode cX7_countMisprintsBySets 1 = .ok (.istore_n 1, 1) := by decide +kernel
theorem dX7_countMisprintsBySets_2 : decode cX7_countMisprintsBySets 2 = .ok (.iconst 0, 1) := by decide +kernel
theorem dX7_countMisprintsBySets_3 : decode cX7_countMisprintsBySets 3 = .ok (.istore_n 2, 1) := by decide +kernel
theorem dX7_countMisprintsBySets_4 : decode cX7_countMisprintsBySets 4 = .ok (.iload_n 2, 1) := by decide +kernel
theorem dX7_countMisprintsBySets_5 : decode cX7_countMisprintsBySets 5 = .ok (.bipush 8, 2) := by decide +kernel
theorem dX7_countMisprintsBySets_7 : decode cX7_countMisprintsBySets 7 = .ok (.if_icmp .ge 61, 3) := by decide +kernel
theorem dX7_countMisprintsBySets_10 : decode cX7_countMisprintsBySets 10 = .ok (.iconst 0, 1) := by decide +kernel
theorem dX7_countMisprintsBySets_11 : decode cX7_countMisprintsBySets 11 = .ok (.istore_n 3, 1) := by decide +kernel
theorem dX7_countMisprintsBySets_12 : decode cX7_countMisprintsBySets 12 = .ok (.iconst 0, 1) := by decide +kernel
theorem dX7_countMisprintsBySets_13 : decode cX7_countMisprintsBySets 13 = .ok (.istore 4, 2) := by decide +kernel
theorem dX7_countMisprintsBySets_15 : decode cX7_countMisprintsBySets 15 = .ok (.iload 4, 2) := by decide +kernel
theorem dX7_countMisprintsBySets_17 : decode cX7_countMisprintsBySets 17 = .ok (.iconst 3, 1) := by decide +kernel
theorem dX7_countMisprintsBySets_18 : decode cX7_countMisprintsBySets 18 = .ok (.if_icmp .ge 37, 3) := by decide +kernel
theorem dX7_countMisprintsBySets_21 : decode cX7_countMisprintsBySets 21 = .ok (.iload_n 3, 1) := by decide +kernel
theorem dX7_countMisprintsBySets_22 : decode cX7_countMisprintsBySets 22 = .ok (.aload_n 0, 1) := by decide +kernel
theorem dX7_countMisprintsBySets_23 : decode cX7_countMisprintsBySets 23 = .ok (.getfield 9, 3) := by decide +kernel
theorem dX7_countMisprintsBySets_26 : decode cX7_countMisprintsBySets 26 = .ok (.iload 4, 2) := by decide +kernel
theorem dX7_countMisprintsBySets_28 : decode cX7_countMisprintsBySets 28 = .ok (.bipush 8, 2) := by decide +kernel
theorem dX7_countMisprintsBySets_30 : decode cX7_countMisprintsBySets 30 = .ok (.imul, 1) := by decide +kernel
theorem dX7_countMisprintsBySets_31 : decode cX7_countMisprintsBySets 31 = .ok (.iload_n 2, 1) := by decide +kernel
theorem dX7_countMisprintsBySets_32 : decode cX7_countMisprintsBySets 32 = .ok (.iadd, 1) := by decide +kernel
theorem dX7_countMisprintsBySets_33 : decode cX7_countMisprintsBySets 33 = .ok (.iaload, 1) := by decide +kernel
theorem dX7_countMisprintsBySets_34 : decode cX7_countMisprintsBySets 34 = .ok (.aload_n 0, 1) := by decide +kernel
theorem dX7_countMisprintsBySets_35 : decode cX7_countMisprintsBySets 35 = .ok (.getfield 15, 3) := by decide +kernel
theorem dX7_countMisprintsBySets_38 : decode cX7_countMisprintsBySets 38 = .ok (.iload 4, 2) := by decide +kernel
theorem dX7_countMisprintsBySets_40 : decode cX7_countMisprintsBySets 40 = .ok (.bipush 8, 2) := by decide +kernel
theorem dX7_countMisprintsBySets_42 : decode cX7_countMisprintsBySets 42 = .ok (.imul, 1) := by decide +kernel
theorem dX7_countMisprintsBySets_43 : decode cX7_countMisprintsBySets 43 = .ok (.iload_n 2, 1) := by decide +kernel
theorem dX7_countMisprintsBySets_44 : decode cX7_countMisprintsBySets 44 = .ok (.iadd, 1) := by decide +kernel
theorem dX7_countMisprintsBySets_45 : decode cX7_countMisprintsBySets 45 = .ok (.iaload, 1) := by decide +kernel
theorem dX7_countMisprintsBySets_46 : decode cX7_countMisprintsBySets 46 = .ok (.ixor, 1) := by decide +kernel
theorem dX7_countMisprintsBySets_47 : decode cX7_countMisprintsBySets 47 = .ok (.ior, 1) := by decide +kernel
theorem dX7_countMisprintsBySets_48 : decode cX7_countMisprintsBySets 48 = .ok (.istore_n 3, 1) := by decide +kernel
theorem dX7_countMisprintsBySets_49 : decode cX7_countMisprintsBySets 49 = .ok (.iinc 4 1, 3) := by decide +kernel
theorem dX7_countMisprintsBySets_52 : decode cX7_countMisprintsBySets 52 = .ok (.goto (-37), 3) := by decide +kernel
theorem dX7_countMisprintsBySets_55 : decode cX7_countMisprintsBySets 55 = .ok (.iload_n 1, 1) := by decide +kernel
theorem dX7_countMisprintsBySets_56 : decode cX7_countMisprintsBySets 56 = .ok (.iload_n 3, 1) := by decide +kernel
theorem dX7_countMisprintsBySets_57 : decode cX7_countMisprintsBySets 57 = .ok (.invokestatic 45, 3) := by decide +kernel
theorem dX7_countMisprintsBySets_60 : decode cX7_countMisprintsBySets 60 = .ok (.iadd, 1) := by decide +kernel
theorem dX7_countMisprintsBySets_61 : decode cX7_countMisprintsBySets 61 = .ok (.istore_n 1, 1) := by decide +kernel
theorem dX7_countMisprintsBySets_62 : decode cX7_countMisprintsBySets 62 = .ok (.iinc 2 1, 3) := by decide +kernel
theorem dX7_countMisprintsBySets_65 : decode cX7_countMisprintsBySets 65 = .ok (.goto (-61), 3) := by decide +kernel
theorem dX7_countMisprintsBySets_68 : decode cX7_countMisprintsBySets 68 = .ok (.iload_n 1, 1) := by decide +kernel
theorem dX7_countMisprintsBySets_69 : decode cX7_countMisprintsBySets 69 = .ok (.ireturn, 1) := by decide +kernel
theorem dX7_take_0 : decode cX7_take 0 = .ok (.aload_n 0, 1) := by decide +kernel
theorem dX7_take_1 : decode cX7_take 1 = .ok (.invokevirtual 51, 3) := by decide +kernel
theorem dX7_take_4 : decode cX7_take 4 = .ok (.ifCond .eq 7, 3) := by decide +kernel
theorem dX7_take_7 : decode cX7_take 7 = .ok (.aload_n 0, 1) := by decide +kernel
theorem dX7_take_8 : decode cX7_take 8 = .ok (.invokevirtual 55, 3) := by decide +kernel
theorem dX7_take_11 : decode cX7_take 11 = .ok (.aload_n 1, 1) := by decide +kernel
theorem dX7_take_12 : decode cX7_take 12 = .ok (.getfield 58, 3) := by decide +kernel
theorem dX7_take_15 : decode cX7_take 15 = .ok (.invokestatic 63, 3) := by decide +kernel
theorem dX7_take_18 : decode cX7_take 18 = .ok (.bipush 8, 2) := by decide +kernel
theorem dX7_take_20 : decode cX7_take 20 = .ok (.imul, 1) := by decide +kernel
theorem dX7_take_21 : decode cX7_take 21 = .ok (.istore_n 2, 1) := by decide +kernel
theorem dX7_take_22 : decode cX7_take 22 = .ok (.iconst 0, 1) := by decide +kernel
theorem dX7_take_23 : decode cX7_take 23 = .ok (.istore_n 3, 1) := by decide +kernel
theorem dX7_take_24 : decode cX7_take 24 = .ok (.iload_n 3, 1) := by decide +kernel
theorem dX7_take_25 : decode cX7_take 25 = .ok (.bipush 8, 2) := by decide +kernel
theorem dX7_take_27 : decode cX7_take 27 = .ok (.if_icmp .ge 64, 3) := by decide +kernel
theorem dX7_take_30 : decode cX7_take 30 = .ok (.aload_n 0, 1) := by decide +kernel
theorem dX7_take_31 : decode cX7_take 31 = .ok (.getfield 15, 3) := by decide +kernel
theorem dX7_take_34 : decode cX7_take 34 = .ok (.iload_n 2, 1) := by decide +kernel
theorem dX7_take_35 : decode cX7_take 35 = .ok (.iload_n 3, 1) := by decide +kernel
theorem dX7_take_36 : decode cX7_take 36 = .ok (.iadd, 1) := by decide +kernel
theorem dX7_take_37 : decode cX7_take 37 = .ok (.dup2, 1) := by decide +kernel
theorem dX7_take_38 : decode cX7_take 38 = .ok (.iaload, 1) := by decide +kernel
theorem dX7_take_39 : decode cX7_take 39 = .ok (.aload_n 1, 1) := by decide +kernel
theorem dX7_take_40 : decode cX7_take 40 = .ok (.getfield 66, 3) := by decide +kernel
theorem dX7_take_43 : decode cX7_take 43 = .ok (.iload_n 3, 1) := by decide +kernel
theorem dX7_take_44 : decode cX7_take 44 = .ok (.iaload, 1) := by decide +kernel
theorem dX7_take_45 : decode cX7_take 45 = .ok (.ior, 1) := by decide +kernel
theorem dX7_take_46 : decode cX7_take 46 = .ok (.iastore, 1) := by decide +kernel
theorem dX7_take_47 : decode cX7_take 47 = .ok (.iconst 0, 1) := by decide +kernel
theorem dX7_take_48 : decode cX7_take 48 = .ok (.iload_n 3, 1) := by decide +kernel
theorem dX7_take_49 : decode cX7_take 49 = .ok (.aload_n 1, 1) := by decide +kernel
theorem dX7_take_50 : decode cX7_take 50 = .ok (.getfield 69, 3) := by decide +kernel
theorem dX7_take_53 : decode cX7_take 53 = .ok (.iadd, 1) := by decide +kernel
theorem dX7_take_54 : decode cX7_take 54 = .ok (.invokestatic 72, 3) := by decide +kernel
theorem dX7_take_57 : decode cX7_take 57 = .ok (.ifCond .eq 28, 3) := by decide +kernel
theorem dX7_take_60 : decode cX7_take 60 = .ok (.aload_n 0, 1) := by decide +kernel
theorem dX7_take_61 : decode cX7_take 61 = .ok (.getfield 9, 3) := by decide +kernel
theorem dX7_take_64 : decode cX7_take 64 = .ok (.iload_n 2, 1) := by decide +kernel
theorem dX7_take_65 : decode cX7_take 65 = .ok (.iload_n 3, 1) := by decide +kernel
theorem dX7_take_66 : decode cX7_take 66 = .ok (.iadd, 1) := by decide +kernel
theorem dX7_take_67 : decode cX7_take 67 = .ok (.aload_n 1, 1) := by decide +kernel
theorem dX7_take_68 : decode cX7_take 68 = .ok (.getfield 69, 3) := by decide +kernel
theorem dX7_take_71 : decode cX7_take 71 = .ok (.iadd, 1) := by decide +kernel
theorem dX7_take_72 : decode cX7_take 72 = .ok (.dup2, 1) := by decide +kernel
theorem dX7_take_73 : decode cX7_take 73 = .ok (.iaload, 1) := by decide +kernel
theorem dX7_take_74 : decode cX7_take 74 = .ok (.aload_n 1, 1) := by decide +kernel
theorem dX7_take_75 : decode cX7_take 75 = .ok (.iload_n 3, 1) := by decide +kernel
theorem dX7_take_76 : decode cX7_take 76 = .ok (.aload_n 1, 1) := by decide +kernel
theorem dX7_take_77 : decode cX7_take 77 = .ok (.getfield 76, 3) := by decide +kernel
theorem dX7_take_80 : decode cX7_take 80 = .ok (.invokevirtual 79, 3) := by decide +kernel
theorem dX7_take_83 : decode cX7_take 83 = .ok (.ior, 1) := by decide +kernel
theorem dX7_take_84 : decode cX7_take 84 = .ok (.iastore, 1) := by decide +kernel
theorem dX7_take_85 : decode cX7_take 85 = .ok (.iinc 3 1, 3) := by decide +kernel
theorem dX7_take_88 : decode cX7_take 88 = .ok (.goto (-64), 3) := by decide +kernel
theorem dX7_take_91 : decode cX7_take 91 = .ok (.aload_n 0, 1) := by decide +kernel
theorem dX7_take_92 : decode cX7_take 92 = .ok (.aload_n 1, 1) := by decide +kernel
theorem dX7_take_93 : decode cX7_take 93 = .ok (.invokevirtual 82, 3) := by decide +kernel
theorem dX7_take_96 : decode cX7_take 96 = .ok (.iconst 4, 1) := by decide +kernel
theorem dX7_take_97 : decode cX7_take 97 = .ok (.iadd, 1) := by decide +kernel
theorem dX7_take_98 : decode cX7_take 98 = .ok (.iconst 1, 1) := by decide +kernel
theorem dX7_take_99 : decode cX7_take 99 = .ok (.isub, 1) := by decide +kernel
theorem dX7_take_100 : decode cX7_take 100 = .ok (.iconst 4, 1) := by decide +kernel
theorem dX7_take_101 : decode cX7_take 101 = .ok (.idiv, 1) := by decide +kernel
theorem dX7_take_102 : decode cX7_take 102 = .ok (.putfield 18, 3) := by decide +kernel
theorem dX7_take_105 : decode cX7_take 105 = .ok (.return_, 1) := by decide +kernel
theorem dX7_smear_0 : decode cX7_smear 0 = .ok (.iconst 0, 1) := by decide +kernel
theorem dX7_smear_1 : decode cX7_smear 1 = .ok (.istore_n 1, 1) := by decide +kernel
theorem dX7_smear_2 : decode cX7_smear 2 = .ok (.iload_n 1, 1) := by decide +kernel
theorem dX7_smear_3 : decode cX7_smear 3 = .ok (.bipush 24, 2) := by decide +kernel
theorem dX7_smear_5 : decode cX7_smear 5 = .ok (.if_icmp .ge 29, 3) := by decide +kernel
theorem dX7_smear_8 : decode cX7_smear 8 = .ok (.aload_n 0, 1) := by decide +kernel
theorem dX7_smear_9 : decode cX7_smear 9 = .ok (.getfield 9, 3) := by decide +kernel
theorem dX7_smear_12 : decode cX7_smear 12 = .ok (.iload_n 1, 1) := by decide +kernel
theorem dX7_smear_13 : decode cX7_smear 13 = .ok (.dup2, 1) := by decide +kernel
theorem dX7_smear_14 : decode cX7_smear 14 = .ok (.iaload, 1) := by decide +kernel
theorem dX7_smear_15 : decode cX7_smear 15 = .ok (.aload_n 0, 1) := by decide +kernel
theorem dX7_smear_16 : decode cX7_smear 16 = .ok (.getfield 9, 3) := by decide +kernel
theorem dX7_smear_19 : decode cX7_smear 19 = .ok (.iload_n 1, 1) := by decide +kernel
theorem dX7_smear_20 : decode cX7_smear 20 = .ok (.iaload, 1) := by decide +kernel
theorem dX7_smear_21 : decode cX7_smear 21 = .ok (.iconst 1, 1) := by decide +kernel
theorem dX7_smear_22 : decode cX7_smear 22 = .ok (.ishl, 1) := by decide +kernel
theorem dX7_smear_23 : decode cX7_smear 23 = .ok (.ldc 86, 2) := by decide +kernel
theorem dX7_smear_25 : decode cX7_smear 25 = .ok (.iand, 1) := by decide +kernel
theorem dX7_smear_26 : decode cX7_smear 26 = .ok (.ior, 1) := by decide +kernel
theorem dX7_smear_27 : decode cX7_smear 27 = .ok (.iastore, 1) := by decide +kernel
theorem dX7_smear_28 : decode cX7_smear 28 = .ok (.iinc 1 1, 3) := by decide +kernel
theorem dX7_smear_31 : decode cX7_smear 31 = .ok (.goto (-29), 3) := by decide +kernel
theorem dX7_smear_34 : decode cX7_smear 34 = .ok (.aload_n 0, 1) := by decide +kernel
theorem dX7_smear_35 : decode cX7_smear 35 = .ok (.dup, 1) := by decide +kernel
theorem dX7_smear_36 : decode cX7_smear 36 = .ok (.getfield 22, 3) := by decide +kernel
theorem dX7_smear_39 : decode cX7_smear 39 = .ok (.iconst 1, 1) := by decide +kernel
theorem dX7_smear_40 : decode cX7_smear 40 = .ok (.iadd, 1) := by decide +kernel
theorem dX7_smear_41 : decode cX7_smear 41 = .ok (.putfield 22, 3) := by decide +kernel
theorem dX7_smear_44 : decode cX7_smear 44 = .ok (.return_, 1) := by decide +kernel
theorem dX7_dryingAfter_0 : decode cX7_dryingAfter 0 = .ok (.aload_n 0, 1) := by decide +kernel
theorem dX7_dryingAfter_1 : decode cX7_dryingAfter 1 = .ok (.invokevirtual 87, 3) := by decide +kernel
theorem dX7_dryingAfter_4 : decode cX7_dryingAfter 4 = .ok (.ifCond .eq 5, 3) := by decide +kernel
theorem dX7_dryingAfter_7 : decode cX7_dryingAfter 7 = .ok (.iconst 2, 1) := by decide +kernel
theorem dX7_dryingAfter_8 : decode cX7_dryingAfter 8 = .ok (.ireturn, 1) := by decide +kernel
theorem dX7_dryingAfter_9 : decode cX7_dryingAfter 9 = .ok (.iload_n 1, 1) := by decide +kernel
theorem dX7_dryingAfter_10 : decode cX7_dryingAfter 10 = .ok (.iconst 1, 1) := by decide +kernel
theorem dX7_dryingAfter_11 : decode cX7_dryingAfter 11 = .ok (.iand, 1) := by decide +kernel
theorem dX7_dryingAfter_12 : decode cX7_dryingAfter 12 = .ok (.ifCond .ne 7, 3) := by decide +kernel
theorem dX7_dryingAfter_15 : decode cX7_dryingAfter 15 = .ok (.iconst 1, 1) := by decide +kernel
theorem dX7_dryingAfter_16 : decode cX7_dryingAfter 16 = .ok (.goto 4, 3) := by decide +kernel
theorem dX7_dryingAfter_19 : decode cX7_dryingAfter 19 = .ok (.iconst 0, 1) := by decide +kernel
theorem dX7_dryingAfter_20 : decode cX7_dryingAfter 20 = .ok (.ireturn, 1) := by decide +kernel
theorem dX7_dryAfter_0 : decode cX7_dryAfter 0 = .ok (.aload_n 0, 1) := by decide +kernel
theorem dX7_dryAfter_1 : decode cX7_dryAfter 1 = .ok (.iconst 0, 1) := by decide +kernel
theorem dX7_dryAfter_2 : decode cX7_dryAfter 2 = .ok (.aload_n 0, 1) := by decide +kernel
theorem dX7_dryAfter_3 : decode cX7_dryAfter 3 = .ok (.getfield 18, 3) := by decide +kernel
theorem dX7_dryAfter_6 : decode cX7_dryAfter 6 = .ok (.aload_n 0, 1) := by decide +kernel
theorem dX7_dryAfter_7 : decode cX7_dryAfter 7 = .ok (.iload_n 1, 1) := by decide +kernel
theorem dX7_dryAfter_8 : decode cX7_dryAfter 8 = .ok (.invokevirtual 90, 3) := by decide +kernel
theorem dX7_dryAfter_11 : decode cX7_dryAfter 11 = .ok (.isub, 1) := by decide +kernel
theorem dX7_dryAfter_12 : decode cX7_dryAfter 12 = .ok (.invokestatic 93, 3) := by decide +kernel
theorem dX7_dryAfter_15 : decode cX7_dryAfter 15 = .ok (.putfield 18, 3) := by decide +kernel
theorem dX7_dryAfter_18 : decode cX7_dryAfter 18 = .ok (.return_, 1) := by decide +kernel
theorem dX7_countHoursUntilDry_0 : decode cX7_countHoursUntilDry 0 = .ok (.aload_n 0, 1) := by decide +kernel
theorem dX7_countHoursUntilDry_1 : decode cX7_countHoursUntilDry 1 = .ok (.getfield 18, 3) := by decide +kernel
theorem dX7_countHoursUntilDry_4 : decode cX7_countHoursUntilDry 4 = .ok (.istore_n 2, 1) := by decide +kernel
theorem dX7_countHoursUntilDry_5 : decode cX7_countHoursUntilDry 5 = .ok (.iconst 0, 1) := by decide +kernel
theorem dX7_countHoursUntilDry_6 : decode cX7_countHoursUntilDry 6 = .ok (.istore_n 3, 1) := by decide +kernel
theorem dX7_countHoursUntilDry_7 : decode cX7_countHoursUntilDry 7 = .ok (.iconst 2, 1) := by decide +kernel
theorem dX7_countHoursUntilDry_8 : decode cX7_countHoursUntilDry 8 = .ok (.aload_n 0, 1) := by decide +kernel
theorem dX7_countHoursUntilDry_9 : decode cX7_countHoursUntilDry 9 = .ok (.getfield 18, 3) := by decide +kernel
theorem dX7_countHoursUntilDry_12 : decode cX7_countHoursUntilDry 12 = .ok (.imul, 1) := by decide +kernel
theorem dX7_countHoursUntilDry_13 : decode cX7_countHoursUntilDry 13 = .ok (.istore 4, 2) := by decide +kernel
theorem dX7_countHoursUntilDry_15 : decode cX7_countHoursUntilDry 15 = .ok (.iload_n 2, 1) := by decide +kernel
theorem dX7_countHoursUntilDry_16 : decode cX7_countHoursUntilDry 16 = .ok (.ifCond .le 25, 3) := by decide +kernel
theorem dX7_countHoursUntilDry_19 : decode cX7_countHoursUntilDry 19 = .ok (.iload_n 3, 1) := by decide +kernel
theorem dX7_countHoursUntilDry_20 : decode cX7_countHoursUntilDry 20 = .ok (.iload 4, 2) := by decide +kernel
theorem dX7_countHoursUntilDry_22 : decode cX7_countHoursUntilDry 22 = .ok (.if_icmp .ge 19, 3) := by decide +kernel
theorem dX7_countHoursUntilDry_25 : decode cX7_countHoursUntilDry 25 = .ok (.iload_n 2, 1) := by decide +kernel
theorem dX7_countHoursUntilDry_26 : decode cX7_countHoursUntilDry 26 = .ok (.aload_n 0, 1) := by decide +kernel
theorem dX7_countHoursUntilDry_27 : decode cX7_countHoursUntilDry 27 = .ok (.iload_n 1, 1) := by decide +kernel
theorem dX7_countHoursUntilDry_28 : decode cX7_countHoursUntilDry 28 = .ok (.iload_n 3, 1) := by decide +kernel
theorem dX7_countHoursUntilDry_29 : decode cX7_countHoursUntilDry 29 = .ok (.iadd, 1) := by decide +kernel
theorem dX7_countHoursUntilDry_30 : decode cX7_countHoursUntilDry 30 = .ok (.invokevirtual 90, 3) := by decide +kernel
theorem dX7_countHoursUntilDry_33 : decode cX7_countHoursUntilDry 33 = .ok (.isub, 1) := by decide +kernel
theorem dX7_countHoursUntilDry_34 : decode cX7_countHoursUntilDry 34 = .ok (.istore_n 2, 1) := by decide +kernel
theorem dX7_countHoursUntilDry_35 : decode cX7_countHoursUntilDry 35 = .ok (.iinc 3 1, 3) := by decide +kernel
theorem dX7_countHoursUntilDry_38 : decode cX7_countHoursUntilDry 38 = .ok (.goto (-23), 3) := by decide +kernel
theorem dX7_countHoursUntilDry_41 : decode cX7_countHoursUntilDry 41 = .ok (.iload_n 3, 1) := by decide +kernel
theorem dX7_countHoursUntilDry_42 : decode cX7_countHoursUntilDry 42 = .ok (.ireturn, 1) := by decide +kernel
theorem dX7_computeHoursUntilDry_0 : decode cX7_computeHoursUntilDry 0 = .ok (.aload_n 0, 1) := by decide +kernel
theorem dX7_computeHoursUntilDry_1 : decode cX7_computeHoursUntilDry 1 = .ok (.invokevirtual 51, 3) := by decide +kernel
theorem dX7_computeHoursUntilDry_4 : decode cX7_computeHoursUntilDry 4 = .ok (.ifCond .ne 5, 3) := by decide +kernel
theorem dX7_computeHoursUntilDry_7 : decode cX7_computeHoursUntilDry 7 = .ok (.iconst 0, 1) := by decide +kernel
theorem dX7_computeHoursUntilDry_8 : decode cX7_computeHoursUntilDry 8 = .ok (.ireturn, 1) := by decide +kernel
theorem dX7_computeHoursUntilDry_9 : decode cX7_computeHoursUntilDry 9 = .ok (.aload_n 0, 1) := by decide +kernel
theorem dX7_computeHoursUntilDry_10 : decode cX7_computeHoursUntilDry 10 = .ok (.invokevirtual 87, 3) := by decide +kernel
theorem dX7_computeHoursUntilDry_13 : decode cX7_computeHoursUntilDry 13 = .ok (.ifCond .eq 12, 3) := by decide +kernel
theorem dX7_computeHoursUntilDry_16 : decode cX7_computeHoursUntilDry 16 = .ok (.aload_n 0, 1) := by decide +kernel
theorem dX7_computeHoursUntilDry_17 : decode cX7_computeHoursUntilDry 17 = .ok (.getfield 18, 3) := by decide +kernel
theorem dX7_computeHoursUntilDry_20 : decode cX7_computeHoursUntilDry 20 = .ok (.iconst 1, 1) := by decide +kernel
theorem dX7_computeHoursUntilDry_21 : decode cX7_computeHoursUntilDry 21 = .ok (.iadd, 1) := by decide +kernel
theorem dX7_computeHoursUntilDry_22 : decode cX7_computeHoursUntilDry 22 = .ok (.iconst 2, 1) := by decide +kernel
theorem dX7_computeHoursUntilDry_23 : decode cX7_computeHoursUntilDry 23 = .ok (.idiv, 1) := by decide +kernel
theorem dX7_computeHoursUntilDry_24 : decode cX7_computeHoursUntilDry 24 = .ok (.ireturn, 1) := by decide +kernel
theorem dX7_computeHoursUntilDry_25 : decode cX7_computeHoursUntilDry 25 = .ok (.iconst 2, 1) := by decide +kernel
theorem dX7_computeHoursUntilDry_26 : decode cX7_computeHoursUntilDry 26 = .ok (.aload_n 0, 1) := by decide +kernel
theorem dX7_computeHoursUntilDry_27 : decode cX7_computeHoursUntilDry 27 = .ok (.getfield 18, 3) := by decide +kernel
theorem dX7_computeHoursUntilDry_30 : decode cX7_computeHoursUntilDry 30 = .ok (.imul, 1) := by decide +kernel
theorem dX7_computeHoursUntilDry_31 : decode cX7_computeHoursUntilDry 31 = .ok (.iconst 1, 1) := by decide +kernel
theorem dX7_computeHoursUntilDry_32 : decode cX7_computeHoursUntilDry 32 = .ok (.isub, 1) := by decide +kernel
theorem dX7_computeHoursUntilDry_33 : decode cX7_computeHoursUntilDry 33 = .ok (.iload_n 1, 1) := by decide +kernel
theorem dX7_computeHoursUntilDry_34 : decode cX7_computeHoursUntilDry 34 = .ok (.iconst 1, 1) := by decide +kernel
theorem dX7_computeHoursUntilDry_35 : decode cX7_computeHoursUntilDry 35 = .ok (.iand, 1) := by decide +kernel
theorem dX7_computeHoursUntilDry_36 : decode cX7_computeHoursUntilDry 36 = .ok (.iadd, 1) := by decide +kernel
theorem dX7_computeHoursUntilDry_37 : decode cX7_computeHoursUntilDry 37 = .ok (.ireturn, 1) := by decide +kernel
theorem dX8_init_0 : decode cX8_init 0 = .ok (.aload_n 0, 1) := by decide +kernel
theorem dX8_init_1 : decode cX8_init 1 = .ok (.invokespecial 3, 3) := by decide +kernel
theorem dX8_init_4 : decode cX8_init 4 = .ok (.aload_n 0, 1) := by decide +kernel
theorem dX8_init_5 : decode cX8_init 5 = .ok (.bipush 6, 2) := by decide +kernel
theorem dX8_init_7 : decode cX8_init 7 = .ok (.anewarray 9, 3) := by decide +kernel
theorem dX8_init_10 : decode cX8_init 10 = .ok (.putfield 11, 3) := by decide +kernel
theorem dX8_init_13 : decode cX8_init 13 = .ok (.aload_n 0, 1) := by decide +kernel
theorem dX8_init_14 : decode cX8_init 14 = .ok (.bipush 8, 2) := by decide +kernel
theorem dX8_init_16 : decode cX8_init 16 = .ok (.anewarray 17, 3) := by decide +kernel
theorem dX8_init_19 : decode cX8_init 19 = .ok (.putfield 19, 3) := by decide +kernel
theorem dX8_init_22 : decode cX8_init 22 = .ok (.aload_n 0, 1) := by decide +kernel
theorem dX8_init_23 : decode cX8_init 23 = .ok (.iconst 3, 1) := by decide +kernel
theorem dX8_init_24 : decode cX8_init 24 = .ok (.newarray .int, 2) := by decide +kernel
theorem dX8_init_26 : decode cX8_init 26 = .ok (.putfield 23, 3) := by decide +kernel
theorem dX8_init_29 : decode cX8_init 29 = .ok (.aload_n 0, 1) := by decide +kernel
theorem dX8_init_30 : decode cX8_init 30 = .ok (.iconst 0, 1) := by decide +kernel
theorem dX8_init_31 : decode cX8_init 31 = .ok (.putfield 27, 3) := by decide +kernel
theorem dX8_init_34 : decode cX8_init 34 = .ok (.aload_n 0, 1) := by decide +kernel
theorem dX8_init_35 : decode cX8_init 35 = .ok (.iconst 0, 1) := by decide +kernel
theorem dX8_init_36 : decode cX8_init 36 = .ok (.putfield 31, 3) := by decide +kernel
theorem dX8_init_39 : decode cX8_init 39 = .ok (.aload_n 0, 1) := by decide +kernel
theorem dX8_init_40 : decode cX8_init 40 = .ok (.iconst 0, 1) := by decide +kernel
theorem dX8_init_41 : decode cX8_init 41 = .ok (.putfield 34, 3) := by decide +kernel
theorem dX8_init_44 : decode cX8_init 44 = .ok (.iconst 0, 1) := by decide +kernel
theorem dX8_init_45 : decode cX8_init 45 = .ok (.istore_n 1, 1) := by decide +kernel
theorem dX8_init_46 : decode cX8_init 46 = .ok (.iload_n 1, 1) := by decide +kernel
theorem dX8_init_47 : decode cX8_init 47 = .ok (.bipush 6, 2) := by decide +kernel
theorem dX8_init_49 : decode cX8_init 49 = .ok (.if_icmp .ge 22, 3) := by decide +kernel
theorem dX8_init_52 : decode cX8_init 52 = .ok (.aload_n 0, 1) := by decide +kernel
theorem dX8_init_53 : decode cX8_init 53 = .ok (.getfield 11, 3) := by decide +kernel
theorem dX8_init_56 : decode cX8_init 56 = .ok (.iload_n 1, 1) := by decide +kernel
theorem dX8_init_57 : decode cX8_init 57 = .ok (.new 9, 3) := by decide +kernel
theorem dX8_init_60 : decode cX8_init 60 = .ok (.dup, 1) := by decide +kernel
theorem dX8_init_61 : decode cX8_init 61 = .ok (.invokespecial 37, 3) := by decide +kernel
theorem dX8_init_64 : decode cX8_init 64 = .ok (.aastore, 1) := by decide +kernel
theorem dX8_init_65 : decode cX8_init 65 = .ok (.iinc 1 1, 3) := by decide +kernel
theorem dX8_init_68 : decode cX8_init 68 = .ok (.goto (-22), 3) := by decide +kernel
theorem dX8_init_71 : decode cX8_init 71 = .ok (.iconst 0, 1) := by decide +kernel
theorem dX8_init_72 : decode cX8_init 72 = .ok (.istore_n 1, 1) := by decide +kernel
theorem dX8_init_73 : decode cX8_init 73 = .ok (.iload_n 1, 1) := by decide +kernel
theorem dX8_init_74 : decode cX8_init 74 = .ok (.bipush 8, 2) := by decide +kernel
theorem dX8_init_76 : decode cX8_init 76 = .ok (.if_icmp .ge 22, 3) := by decide +kernel
theorem dX8_init_79 : decode cX8_init 79 = .ok (.aload_n 0, 1) := by decide +kernel
theorem dX8_init_80 : decode cX8_init 80 = .ok (.getfield 19, 3) := by decide +kernel
theorem dX8_init_83 : decode cX8_init 83 = .ok (.iload_n 1, 1) := by decide +kernel
theorem dX8_init_84 : decode cX8_init 84 = .ok (.new 17, 3) := by decide +kernel
theorem dX8_init_87 : decode cX8_init 87 = .ok (.dup, 1) := by decide +kernel
theorem dX8_init_88 : decode cX8_init 88 = .ok (.invokespecial 38, 3) := by decide +kernel
theorem dX8_init_91 : decode cX8_init 91 = .ok (.aastore, 1) := by decide +kernel
theorem dX8_init_92 : decode cX8_init 92 = .ok (.iinc 1 1, 3) := by decide +kernel
theorem dX8_init_95 : decode cX8_init 95 = .ok (.goto (-22), 3) := by decide +kernel
theorem dX8_init_98 : decode cX8_init 98 = .ok (.aload_n 0, 1) := by decide +kernel
theorem dX8_init_99 : decode cX8_init 99 = .ok (.getfield 23, 3) := by decide +kernel
theorem dX8_init_102 : decode cX8_init 102 = .ok (.bipush 60, 2) := by decide +kernel
theorem dX8_init_104 : decode cX8_init 104 = .ok (.invokestatic 39, 3) := by decide +kernel
theorem dX8_init_107 : decode cX8_init 107 = .ok (.return_, 1) := by decide +kernel
theorem dX8_copyFrom_0 : decode cX8_copyFrom 0 = .ok (.iconst 0, 1) := by decide +kernel
theorem dX8_copyFrom_1 : decode cX8_copyFrom 1 = .ok (.istore_n 2, 1) := by decide +kernel
theorem dX8_copyFrom_2 : decode cX8_copyFrom 2 = .ok (.iload_n 2, 1) := by decide +kernel
theorem dX8_copyFrom_3 : decode cX8_copyFrom 3 = .ok (.bipush 6, 2) := by decide +kernel
theorem dX8_copyFrom_5 : decode cX8_copyFrom 5 = .ok (.if_icmp .ge 24, 3) := by decide +kernel
theorem dX8_copyFrom_8 : decode cX8_copyFrom 8 = .ok (.aload_n 0, 1) := by decide +kernel
theorem dX8_copyFrom_9 : decode cX8_copyFrom 9 = .ok (.getfield 11, 3) := by decide +kernel
theorem dX8_copyFrom_12 : decode cX8_copyFrom 12 = .ok (.iload_n 2, 1) := by decide +kernel
theorem dX8_copyFrom_13 : decode cX8_copyFrom 13 = .ok (.aaload, 1) := by decide +kernel
theorem dX8_copyFrom_14 : decode cX8_copyFrom 14 = .ok (.aload_n 1, 1) := by decide +kernel
theorem dX8_copyFrom_15 : decode cX8_copyFrom 15 = .ok (.getfield 11, 3) := by decide +kernel
theorem dX8_copyFrom_18 : decode cX8_copyFrom 18 = .ok (.iload_n 2, 1) := by decide +kernel
theorem dX8_copyFrom_19 : decode cX8_copyFrom 19 = .ok (.aaload, 1) := by decide +kernel
theorem dX8_copyFrom_20 : decode cX8_copyFrom 20 = .ok (.invokevirtual 45, 3) := by decide +kernel
theorem dX8_copyFrom_23 : decode cX8_copyFrom 23 = .ok (.iinc 2 1, 3) := by decide +kernel
theorem dX8_copyFrom_26 : decode cX8_copyFrom 26 = .ok (.goto (-24), 3) := by decide +kernel
theorem dX8_copyFrom_29 : decode cX8_copyFrom 29 = .ok (.iconst 0, 1) := by decide +kernel
theorem dX8_copyFrom_30 : decode cX8_copyFrom 30 = .ok (.istore_n 2, 1) := by decide +kernel
theorem dX8_copyFrom_31 : decode cX8_copyFrom 31 = .ok (.iload_n 2, 1) := by decide +kernel
theorem dX8_copyFrom_32 : decode cX8_copyFrom 32 = .ok (.bipush 8, 2) := by decide +kernel
theorem dX8_copyFrom_34 : decode cX8_copyFrom 34 = .ok (.if_icmp .ge 24, 3) := by decide +kernel
theorem dX8_copyFrom_37 : decode cX8_copyFrom 37 = .ok (.aload_n 0, 1) := by decide +kernel
theorem dX8_copyFrom_38 : decode cX8_copyFrom 38 = .ok (.getfield 19, 3) := by decide +kernel
theorem dX8_copyFrom_41 : decode cX8_copyFrom 41 = .ok (.iload_n 2, 1) := by decide +kernel
theorem dX8_copyFrom_42 : decode cX8_copyFrom 42 = .ok (.aaload, 1) := by decide +kernel
theorem dX8_copyFrom_43 : decode cX8_copyFrom 43 = .ok (.aload_n 1, 1) := by decide +kernel
theorem dX8_copyFrom_44 : decode cX8_copyFrom 44 = .ok (.getfield 19, 3) := by decide +kernel
theorem dX8_copyFrom_47 : decode cX8_copyFrom 47 = .ok (.iload_n 2, 1) := by decide +kernel
theorem dX8_copyFrom_48 : decode cX8_copyFrom 48 = .ok (.aaload, 1) := by decide +kernel
theorem dX8_copyFrom_49 : decode cX8_copyFrom 49 = .ok (.invokevirtual 49, 3) := by decide +kernel
theorem dX8_copyFrom_52 : decode cX8_copyFrom 52 = .ok (.iinc 2 1, 3) := by decide +kernel
theorem dX8_copyFrom_55 : decode cX8_copyFrom 55 = .ok (.goto (-24), 3) := by decide +kernel
theorem dX8_copyFrom_58 : decode cX8_copyFrom 58 = .ok (.aload_n 1, 1) := by decide +kernel
theorem dX8_copyFrom_59 : decode cX8_copyFrom 59 = .ok (.getfield 23, 3) := by decide +kernel
theorem dX8_copyFrom_62 : decode cX8_copyFrom 62 = .ok (.iconst 0, 1) := by decide +kernel
theorem dX8_copyFrom_63 : decode cX8_copyFrom 63 = .ok (.aload_n 0, 1) := by decide +kernel
theorem dX8_copyFrom_64 : decode cX8_copyFrom 64 = .ok (.getfield 23, 3) := by decide +kernel
theorem dX8_copyFrom_67 : decode cX8_copyFrom 67 = .ok (.iconst 0, 1) := by decide +kernel
theorem dX8_copyFrom_68 : decode cX8_copyFrom 68 = .ok (.iconst 3, 1) := by decide +kernel
theorem dX8_copyFrom_69 : decode cX8_copyFrom 69 = .ok (.invokestatic 52, 3) := by decide +kernel
theorem dX8_copyFrom_72 : decode cX8_copyFrom 72 = .ok (.aload_n 0, 1) := by decide +kernel
theorem dX8_copyFrom_73 : decode cX8_copyFrom 73 = .ok (.aload_n 1, 1) := by decide +kernel
theorem dX8_copyFrom_74 : decode cX8_copyFrom 74 = .ok (.getfield 27, 3) := by decide +kernel
theorem dX8_copyFrom_77 : decode cX8_copyFrom 77 = .ok (.putfield 27, 3) := by decide +kernel
theorem dX8_copyFrom_80 : decode cX8_copyFrom 80 = .ok (.aload_n 0, 1) := by decide +kernel
theorem dX8_copyFrom_81 : decode cX8_copyFrom 81 = .ok (.aload_n 1, 1) := by decide +kernel
theorem dX8_copyFrom_82 : decode cX8_copyFrom 82 = .ok (.getfield 31, 3) := by decide +kernel
theorem dX8_copyFrom_85 : decode cX8_copyFrom 85 = .ok (.putfield 31, 3) := by decide +kernel
theorem dX8_copyFrom_88 : decode cX8_copyFrom 88 = .ok (.aload_n 0, 1) := by decide +kernel
theorem dX8_copyFrom_89 : decode cX8_copyFrom 89 = .ok (.aload_n 1, 1) := by decide +kernel
theorem dX8_copyFrom_90 : decode cX8_copyFrom 90 = .ok (.getfield 34, 3) := by decide +kernel
theorem dX8_copyFrom_93 : decode cX8_copyFrom 93 = .ok (.putfield 34, 3) := by decide +kernel
theorem dX8_copyFrom_96 : decode cX8_copyFrom 96 = .ok (.return_, 1) := by decide +kernel
theorem dX8_isPlate_0 : decode cX8_isPlate 0 = .ok (.iload_n 1, 1) := by decide +kernel
theorem dX8_isPlate_1 : decode cX8_isPlate 1 = .ok (.ifCond .lt 15, 3) := by decide +kernel
theorem dX8_isPlate_4 : decode cX8_isPlate 4 = .ok (.iload_n 1, 1) := by decide +kernel
theorem dX8_isPlate_5 : decode cX8_isPlate 5 = .ok (.aload_n 0, 1) := by decide +kernel
theorem dX8_isPlate_6 : decode cX8_isPlate 6 = .ok (.getfield 27, 3) := by decide +kernel
theorem dX8_isPlate_9 : decode cX8_isPlate 9 = .ok (.if_icmp .ge 7, 3) := by decide +kernel
theorem dX8_isPlate_12 : decode cX8_isPlate 12 = .ok (.iconst 1, 1) := by decide +kernel
theorem dX8_isPlate_13 : decode cX8_isPlate 13 = .ok (.goto 4, 3) := by decide +kernel
theorem dX8_isPlate_16 : decode cX8_isPlate 16 = .ok (.iconst 0, 1) := by decide +kernel
theorem dX8_isPlate_17 : decode cX8_isPlate 17 = .ok (.ireturn, 1) := by decide +kernel
theorem dX8_isSheet_0 : decode cX8_isSheet 0 = .ok (.iload_n 1, 1) := by decide +kernel
theorem dX8_isSheet_1 : decode cX8_isSheet 1 = .ok (.ifCond .lt 15, 3) := by decide +kernel
theorem dX8_isSheet_4 : decode cX8_isSheet 4 = .ok (.iload_n 1, 1) := by decide +kernel
theorem dX8_isSheet_5 : decode cX8_isSheet 5 = .ok (.aload_n 0, 1) := by decide +kernel
theorem dX8_isSheet_6 : decode cX8_isSheet 6 = .ok (.getfield 31, 3) := by decide +kernel
theorem dX8_isSheet_9 : decode cX8_isSheet 9 = .ok (.if_icmp .ge 7, 3) := by decide +kernel
theorem dX8_isSheet_12 : decode cX8_isSheet 12 = .ok (.iconst 1, 1) := by decide +kernel
theorem dX8_isSheet_13 : decode cX8_isSheet 13 = .ok (.goto 4, 3) := by decide +kernel
theorem dX8_isSheet_16 : decode cX8_isSheet 16 = .ok (.iconst 0, 1) := by decide +kernel
theorem dX8_isSheet_17 : decode cX8_isSheet 17 = .ok (.ireturn, 1) := by decide +kernel
theorem dX8_newPlate_0 : decode cX8_newPlate 0 = .ok (.iload_n 1, 1) := by decide +kernel
theorem dX8_newPlate_1 : decode cX8_newPlate 1 = .ok (.invokestatic 58, 3) := by decide +kernel
theorem dX8_newPlate_4 : decode cX8_newPlate 4 = .ok (.ifCond .ne 6, 3) := by decide +kernel
theorem dX8_newPlate_7 : decode cX8_newPlate 7 = .ok (.bipush (-2), 2) := by decide +kernel
theorem dX8_newPlate_9 : decode cX8_newPlate 9 = .ok (.ireturn, 1) := by decide +kernel
theorem dX8_newPlate_10 : decode cX8_newPlate 10 = .ok (.aload_n 0, 1) := by decide +kernel
theorem dX8_newPlate_11 : decode cX8_newPlate 11 = .ok (.getfield 27, 3) := by decide +kernel
theorem dX8_newPlate_14 : decode cX8_newPlate 14 = .ok (.bipush 6, 2) := by decide +kernel
theorem dX8_newPlate_16 : decode cX8_newPlate 16 = .ok (.if_icmp .lt 6, 3) := by decide +kernel
theorem dX8_newPlate_19 : decode cX8_newPlate 19 = .ok (.bipush (-3), 2) := by decide +kernel
theorem dX8_newPlate_21 : decode cX8_newPlate 21 = .ok (.ireturn, 1) := by decide +kernel
theorem dX8_newPlate_22 : decode cX8_newPlate 22 = .ok (.aload_n 0, 1) := by decide +kernel
theorem dX8_newPlate_23 : decode cX8_newPlate 23 = .ok (.getfield 11, 3) := by decide +kernel
theorem dX8_newPlate_26 : decode cX8_newPlate 26 = .ok (.aload_n 0, 1) := by decide +kernel
theorem dX8_newPlate_27 : decode cX8_newPlate 27 = .ok (.getfield 27, 3) := by decide +kernel
theorem dX8_newPlate_30 : decode cX8_newPlate 30 = .ok (.aaload, 1) := by decide +kernel
theorem dX8_newPlate_31 : decode cX8_newPlate 31 = .ok (.iload_n 1, 1) := by decide +kernel
theorem dX8_newPlate_32 : decode cX8_newPlate 32 = .ok (.putfield 62, 3) := by decide +kernel
theorem dX8_newPlate_35 : decode cX8_newPlate 35 = .ok (.aload_n 0, 1) := by decide +kernel
theorem dX8_newPlate_36 : decode cX8_newPlate 36 = .ok (.dup, 1) := by decide +kernel
theorem dX8_newPlate_37 : decode cX8_newPlate 37 = .ok (.getfield 27, 3) := by decide +kernel
theorem dX8_newPlate_40 : decode cX8_newPlate 40 = .ok (.iconst 1, 1) := by decide +kernel
theorem dX8_newPlate_41 : decode cX8_newPlate 41 = .ok (.iadd, 1) := by decide +kernel
theorem dX8_newPlate_42 : decode cX8_newPlate 42 = .ok (.putfield 27, 3) := by decide +kernel
theorem dX8_newPlate_45 : decode cX8_newPlate 45 = .ok (.aload_n 0, 1) := by decide +kernel
theorem dX8_newPlate_46 : decode cX8_newPlate 46 = .ok (.getfield 27, 3) := by decide +kernel
theorem dX8_newPlate_49 : decode cX8_newPlate 49 = .ok (.iconst 1, 1) := by decide +kernel
theorem dX8_newPlate_50 : decode cX8_newPlate 50 = .ok (.isub, 1) := by decide +kernel
theorem dX8_newPlate_51 : decode cX8_newPlate 51 = .ok (.ireturn, 1) := by decide +kernel
theorem dX8_newStar_0 : decode cX8_newStar 0 = .ok (.aload_n 0, 1) := by decide +kernel
theorem dX8_newStar_1 : decode cX8_newStar 1 = .ok (.iload_n 1, 1) := by decide +kernel
theorem dX8_newStar_2 : decode cX8_newStar 2 = .ok (.invokevirtual 65, 3) := by decide +kernel
theorem dX8_newStar_5 : decode cX8_newStar 5 = .ok (.ifCond .ne 5, 3) := by decide +kernel
theorem dX8_newStar_8 : decode cX8_newStar 8 = .ok (.iconst (-1), 1) := by decide +kernel
theorem dX8_newStar_9 : decode cX8_newStar 9 = .ok (.ireturn, 1) := by decide +kernel
theorem dX8_newStar_10 : decode cX8_newStar 10 = .ok (.iload_n 2, 1) := by decide +kernel
theorem dX8_newStar_11 : decode cX8_newStar 11 = .ok (.iload_n 3, 1) := by decide +kernel
theorem dX8_newStar_12 : decode cX8_newStar 12 = .ok (.invokestatic 68, 3) := by decide +kernel
theorem dX8_newStar_15 : decode cX8_newStar 15 = .ok (.ifCond .ne 6, 3) := by decide +kernel
theorem dX8_newStar_18 : decode cX8_newStar 18 = .ok (.bipush (-2), 2) := by decide +kernel
theorem dX8_newStar_20 : decode cX8_newStar 20 = .ok (.ireturn, 1) := by decide +kernel
theorem dX8_newStar_21 : decode cX8_newStar 21 = .ok (.aload_n 0, 1) := by decide +kernel
theorem dX8_newStar_22 : decode cX8_newStar 22 = .ok (.getfield 11, 3) := by decide +kernel
theorem dX8_newStar_25 : decode cX8_newStar 25 = .ok (.iload_n 1, 1) := by decide +kernel
theorem dX8_newStar_26 : decode cX8_newStar 26 = .ok (.aaload, 1) := by decide +kernel
theorem dX8_newStar_27 : decode cX8_newStar 27 = .ok (.astore 4, 2) := by decide +kernel
theorem dX8_newStar_29 : decode cX8_newStar 29 = .ok (.aload 4, 2) := by decide +kernel
theorem dX8_newStar_31 : decode cX8_newStar 31 = .ok (.iload_n 2, 1) := by decide +kernel
theorem dX8_newStar_32 : decode cX8_newStar 32 = .ok (.iload_n 3, 1) := by decide +kernel
theorem dX8_newStar_33 : decode cX8_newStar 33 = .ok (.invokevirtual 72, 3) := by decide +kernel
theorem dX8_newStar_36 : decode cX8_newStar 36 = .ok (.ifCond .ne 13, 3) := by decide +kernel
theorem dX8_newStar_39 : decode cX8_newStar 39 = .ok (.aload 4, 2) := by decide +kernel
theorem dX8_newStar_41 : decode cX8_newStar 41 = .ok (.invokevirtual 75, 3) := by decide +kernel
theorem dX8_newStar_44 : decode cX8_newStar 44 = .ok (.bipush 20, 2) := by decide +kernel
theorem dX8_newStar_46 : decode cX8_newStar 46 = .ok (.if_icmp .lt 6, 3) := by decide +kernel
theorem dX8_newStar_49 : decode cX8_newStar 49 = .ok (.bipush (-3), 2) := by decide +kernel
theorem dX8_newStar_51 : decode cX8_newStar 51 = .ok (.ireturn, 1) := by decide +kernel
theorem dX8_newStar_52 : decode cX8_newStar 52 = .ok (.aload 4, 2) := by decide +kernel
theorem dX8_newStar_54 : decode cX8_newStar 54 = .ok (.iload_n 2, 1) := by decide +kernel
theorem dX8_newStar_55 : decode cX8_newStar 55 = .ok (.iload_n 3, 1) := by decide +kernel
theorem dX8_newStar_56 : decode cX8_newStar 56 = .ok (.invokevirtual 79, 3) := by decide +kernel
theorem dX8_newStar_59 : decode cX8_newStar 59 = .ok (.aload 4, 2) := by decide +kernel
theorem dX8_newStar_61 : decode cX8_newStar 61 = .ok (.invokevirtual 75, 3) := by decide +kernel
theorem dX8_newStar_64 : decode cX8_newStar 64 = .ok (.ireturn, 1) := by decide +kernel
theorem dX8_dropStar_0 : decode cX8_dropStar 0 = .ok (.aload_n 0, 1) := by decide +kernel
theorem dX8_dropStar_1 : decode cX8_dropStar 1 = .ok (.iload_n 1, 1) := by decide +kernel
theorem dX8_dropStar_2 : decode cX8_dropStar 2 = .ok (.invokevirtual 65, 3) := by decide +kernel
theorem dX8_dropStar_5 : decode cX8_dropStar 5 = .ok (.ifCond .ne 5, 3) := by decide +kernel
theorem dX8_dropStar_8 : decode cX8_dropStar 8 = .ok (.iconst (-1), 1) := by decide +kernel
theorem dX8_dropStar_9 : decode cX8_dropStar 9 = .ok (.ireturn, 1) := by decide +kernel
theorem dX8_dropStar_10 : decode cX8_dropStar 10 = .ok (.iload_n 2, 1) := by decide +kernel
theorem dX8_dropStar_11 : decode cX8_dropStar 11 = .ok (.iload_n 3, 1) := by decide +kernel
theorem dX8_dropStar_12 : decode cX8_dropStar 12 = .ok (.invokestatic 68, 3) := by decide +kernel
theorem dX8_dropStar_15 : decode cX8_dropStar 15 = .ok (.ifCond .ne 6, 3) := by decide +kernel
theorem dX8_dropStar_18 : decode cX8_dropStar 18 = .ok (.bipush (-2), 2) := by decide +kernel
theorem dX8_dropStar_20 : decode cX8_dropStar 20 = .ok (.ireturn, 1) := by decide +kernel
theorem dX8_dropStar_21 : decode cX8_dropStar 21 = .ok (.aload_n 0, 1) := by decide +kernel
theorem dX8_dropStar_22 : decode cX8_dropStar 22 = .ok (.getfield 11, 3) := by decide +kernel
theorem dX8_dropStar_25 : decode cX8_dropStar 25 = .ok (.iload_n 1, 1) := by decide +kernel
theorem dX8_dropStar_26 : decode cX8_dropStar 26 = .ok (.aaload, 1) := by decide +kernel
theorem dX8_dropStar_27 : decode cX8_dropStar 27 = .ok (.astore 4, 2) := by decide +kernel
theorem dX8_dropStar_29 : decode cX8_dropStar 29 = .ok (.aload 4, 2) := by decide +kernel
theorem dX8_dropStar_31 : decode cX8_dropStar 31 = .ok (.iload_n 2, 1) := by decide +kernel
theorem dX8_dropStar_32 : decode cX8_dropStar 32 = .ok (.iload_n 3, 1) := by decide +kernel
theorem dX8_dropStar_33 : decode cX8_dropStar 33 = .ok (.invokevirtual 72, 3) := by decide +kernel
theorem dX8_dropStar_36 : decode cX8_dropStar 36 = .ok (.ifCond .ne 6, 3) := by decide +kernel
theorem dX8_dropStar_39 : decode cX8_dropStar 39 = .ok (.bipush (-4), 2) := by decide +kernel
theorem dX8_dropStar_41 : decode cX8_dropStar 41 = .ok (.ireturn, 1) := by decide +kernel
theorem dX8_dropStar_42 : decode cX8_dropStar 42 = .ok (.aload 4, 2) := by decide +kernel
theorem dX8_dropStar_44 : decode cX8_dropStar 44 = .ok (.iload_n 2, 1) := by decide +kernel
theorem dX8_dropStar_45 : decode cX8_dropStar 45 = .ok (.iload_n 3, 1) := by decide +kernel
theorem dX8_dropStar_46 : decode cX8_dropStar 46 = .ok (.invokevirtual 79, 3) := by decide +kernel
theorem dX8_dropStar_49 : decode cX8_dropStar 49 = .ok (.aload 4, 2) := by decide +kernel
theorem dX8_dropStar_51 : decode cX8_dropStar 51 = .ok (.invokevirtual 75, 3) := by decide +kernel
theorem dX8_dropStar_54 : decode cX8_dropStar 54 = .ok (.ireturn, 1) := by decide +kernel
theorem dX8_shiftPlate_0 : decode cX8_shiftPlate 0 = .ok (.aload_n 0, 1) := by decide +kernel
theorem dX8_shiftPlate_1 : decode cX8_shiftPlate 1 = .ok (.iload_n 1, 1) := by decide +kernel
theorem dX8_shiftPlate_2 : decode cX8_shiftPlate 2 = .ok (.invokevirtual 65, 3) := by decide +kernel
theorem dX8_shiftPlate_5 : decode cX8_shiftPlate 5 = .ok (.ifCond .ne 5, 3) := by decide +kernel
theorem dX8_shiftPlate_8 : decode cX8_shiftPlate 8 = .ok (.iconst (-1), 1) := by decide +kernel
theorem dX8_shiftPlate_9 : decode cX8_shiftPlate 9 = .ok (.ireturn, 1) := by decide +kernel
theorem dX8_shiftPlate_10 : decode cX8_shiftPlate 10 = .ok (.iload_n 2, 1) := by decide +kernel
theorem dX8_shiftPlate_11 : decode cX8_shiftPlate 11 = .ok (.iload_n 3, 1) := by decide +kernel
theorem dX8_shiftPlate_12 : decode cX8_shiftPlate 12 = .ok (.invokestatic 83, 3) := by decide +kernel
theorem dX8_shiftPlate_15 : decode cX8_shiftPlate 15 = .ok (.ifCond .ne 6, 3) := by decide +kernel
theorem dX8_shiftPlate_18 : decode cX8_shiftPlate 18 = .ok (.bipush (-2), 2) := by decide +kernel
theorem dX8_shiftPlate_20 : decode cX8_shiftPlate 20 = .ok (.ireturn, 1) := by decide +kernel
theorem dX8_shiftPlate_21 : decode cX8_shiftPlate 21 = .ok (.aload_n 0, 1) := by decide +kernel
theorem dX8_shiftPlate_22 : decode cX8_shiftPlate 22 = .ok (.getfield 11, 3) := by decide +kernel
theorem dX8_shiftPlate_25 : decode cX8_shiftPlate 25 = .ok (.iload_n 1, 1) := by decide +kernel
theorem dX8_shiftPlate_26 : decode cX8_shiftPlate 26 = .ok (.aaload, 1) := by decide +kernel
theorem dX8_shiftPlate_27 : decode cX8_shiftPlate 27 = .ok (.iload_n 2, 1) := by decide +kernel
theorem dX8_shiftPlate_28 : decode cX8_shiftPlate 28 = .ok (.putfield 86, 3) := by decide +kernel
theorem dX8_shiftPlate_31 : decode cX8_shiftPlate 31 = .ok (.aload_n 0, 1) := by decide +kernel
theorem dX8_shiftPlate_32 : decode cX8_shiftPlate 32 = .ok (.getfield 11, 3) := by decide +kernel
theorem dX8_shiftPlate_35 : decode cX8_shiftPlate 35 = .ok (.iload_n 1, 1) := by decide +kernel
theorem dX8_shiftPlate_36 : decode cX8_shiftPlate 36 = .ok (.aaload, 1) := by decide +kernel
theorem dX8_shiftPlate_37 : decode cX8_shiftPlate 37 = .ok (.iload_n 3, 1) := by decide +kernel
theorem dX8_shiftPlate_38 : decode cX8_shiftPlate 38 = .ok (.putfield 89, 3) := by decide +kernel
theorem dX8_shiftPlate_41 : decode cX8_shiftPlate 41 = .ok (.aload_n 0, 1) := by decide +kernel
theorem dX8_shiftPlate_42 : decode cX8_shiftPlate 42 = .ok (.getfield 11, 3) := by decide +kernel
theorem dX8_shiftPlate_45 : decode cX8_shiftPlate 45 = .ok (.iload_n 1, 1) := by decide +kernel
theorem dX8_shiftPlate_46 : decode cX8_shiftPlate 46 = .ok (.aaload, 1) := by decide +kernel
theorem dX8_shiftPlate_47 : decode cX8_shiftPlate 47 = .ok (.invokevirtual 92, 3) := by decide +kernel
theorem dX8_shiftPlate_50 : decode cX8_shiftPlate 50 = .ok (.ireturn, 1) := by decide +kernel
theorem dX8_fitPlate_0 : decode cX8_fitPlate 0 = .ok (.aload_n 0, 1) := by decide +kernel
theorem dX8_fitPlate_1 : decode cX8_fitPlate 1 = .ok (.iload_n 1, 1) := by decide +kernel
theorem dX8_fitPlate_2 : decode cX8_fitPlate 2 = .ok (.invokevirtual 65, 3) := by decide +kernel
theorem dX8_fitPlate_5 : decode cX8_fitPlate 5 = .ok (.ifCond .eq 11, 3) := by decide +kernel
theorem dX8_fitPlate_8 : decode cX8_fitPlate 8 = .ok (.aload_n 0, 1) := by decide +kernel
theorem dX8_fitPlate_9 : decode cX8_fitPlate 9 = .ok (.iload_n 2, 1) := by decide +kernel
theorem dX8_fitPlate_10 : decode cX8_fitPlate 10 = .ok (.invokevirtual 65, 3) := by decide +kernel
theorem dX8_fitPlate_13 : decode cX8_fitPlate 13 = .ok (.ifCond .ne 5, 3) := by decide +kernel
theorem dX8_fitPlate_16 : decode cX8_fitPlate 16 = .ok (.iconst (-1), 1) := by decide +kernel
theorem dX8_fitPlate_17 : decode cX8_fitPlate 17 = .ok (.ireturn, 1) := by decide +kernel
theorem dX8_fitPlate_18 : decode cX8_fitPlate 18 = .ok (.iload_n 1, 1) := by decide +kernel
theorem dX8_fitPlate_19 : decode cX8_fitPlate 19 = .ok (.iload_n 2, 1) := by decide +kernel
theorem dX8_fitPlate_20 : decode cX8_fitPlate 20 = .ok (.if_icmp .ne 6, 3) := by decide +kernel
theorem dX8_fitPlate_23 : decode cX8_fitPlate 23 = .ok (.bipush (-2), 2) := by decide +kernel
theorem dX8_fitPlate_25 : decode cX8_fitPlate 25 = .ok (.ireturn, 1) := by decide +kernel
theorem dX8_fitPlate_26 : decode cX8_fitPlate 26 = .ok (.aload_n 3, 1) := by decide +kernel
theorem dX8_fitPlate_27 : decode cX8_fitPlate 27 = .ok (.aload_n 0, 1) := by decide +kernel
theorem dX8_fitPlate_28 : decode cX8_fitPlate 28 = .ok (.getfield 11, 3) := by decide +kernel
theorem dX8_fitPlate_31 : decode cX8_fitPlate 31 = .ok (.iload_n 1, 1) := by decide +kernel
theorem dX8_fitPlate_32 : decode cX8_fitPlate 32 = .ok (.aaload, 1) := by decide +kernel
theorem dX8_fitPlate_33 : decode cX8_fitPlate 33 = .ok (.aload_n 0, 1) := by decide +kernel
theorem dX8_fitPlate_34 : decode cX8_fitPlate 34 = .ok (.getfield 11, 3) := by decide +kernel
theorem dX8_fitPlate_37 : decode cX8_fitPlate 37 = .ok (.iload_n 2, 1) := by decide +kernel
theorem dX8_fitPlate_38 : decode cX8_fitPlate 38 = .ok (.aaload, 1) := by decide +kernel
theorem dX8_fitPlate_39 : decode cX8_fitPlate 39 = .ok (.invokevirtual 95, 3) := by decide +kernel
theorem dX8_fitPlate_42 : decode cX8_fitPlate 42 = .ok (.aload_n 0, 1) := by decide +kernel
theorem dX8_fitPlate_43 : decode cX8_fitPlate 43 = .ok (.getfield 11, 3) := by decide +kernel
theorem dX8_fitPlate_46 : decode cX8_fitPlate 46 = .ok (.iload_n 1, 1) := by decide +kernel
theorem dX8_fitPlate_47 : decode cX8_fitPlate 47 = .ok (.aaload, 1) := by decide +kernel
theorem dX8_fitPlate_48 : decode cX8_fitPlate 48 = .ok (.aload_n 3, 1) := by decide +kernel
theorem dX8_fitPlate_49 : decode cX8_fitPlate 49 = .ok (.getfield 101, 3) := by decide +kernel
theorem dX8_fitPlate_52 : decode cX8_fitPlate 52 = .ok (.putfield 86, 3) := by decide +kernel
theorem dX8_fitPlate_55 : decode cX8_fitPlate 55 = .ok (.aload_n 0, 1) := by decide +kernel
theorem dX8_fitPlate_56 : decode cX8_fitPlate 56 = .ok (.getfield 11, 3) := by decide +kernel
theorem dX8_fitPlate_59 : decode cX8_fitPlate 59 = .ok (.iload_n 1, 1) := by decide +kernel
theorem dX8_fitPlate_60 : decode cX8_fitPlate 60 = .ok (.aaload, 1) := by decide +kernel
theorem dX8_fitPlate_61 : decode cX8_fitPlate 61 = .ok (.aload_n 3, 1) := by decide +kernel
theorem dX8_fitPlate_62 : decode cX8_fitPlate 62 = .ok (.getfield 104, 3) := by decide +kernel
theorem dX8_fitPlate_65 : decode cX8_fitPlate 65 = .ok (.putfield 89, 3) := by decide +kernel
theorem dX8_fitPlate_68 : decode cX8_fitPlate 68 = .ok (.aload_n 3, 1) := by decide +kernel
theorem dX8_fitPlate_69 : decode cX8_fitPlate 69 = .ok (.getfield 107, 3) := by decide +kernel
theorem dX8_fitPlate_72 : decode cX8_fitPlate 72 = .ok (.ireturn, 1) := by decide +kernel
theorem dX8_newSheet_0 : decode cX8_newSheet 0 = .ok (.aload_n 0, 1) := by decide +kernel
theorem dX8_newSheet_1 : decode cX8_newSheet 1 = .ok (.getfield 31, 3) := by decide +kernel
theorem dX8_newSheet_4 : decode cX8_newSheet 4 = .ok (.bipush 8, 2) := by decide +kernel
theorem dX8_newSheet_6 : decode cX8_newSheet 6 = .ok (.if_icmp .lt 6, 3) := by decide +kernel
theorem dX8_newSheet_9 : decode cX8_newSheet 9 = .ok (.bipush (-3), 2) := by decide +kernel
theorem dX8_newSheet_11 : decode cX8_newSheet 11 = .ok (.ireturn, 1) := by decide +kernel
theorem dX8_newSheet_12 : decode cX8_newSheet 12 = .ok (.aload_n 0, 1) := by decide +kernel
theorem dX8_newSheet_13 : decode cX8_newSheet 13 = .ok (.dup, 1) := by decide +kernel
theorem dX8_newSheet_14 : decode cX8_newSheet 14 = .ok (.getfield 31, 3) := by decide +kernel
theorem dX8_newSheet_17 : decode cX8_newSheet 17 = .ok (.iconst 1, 1) := by decide +kernel
theorem dX8_newSheet_18 : decode cX8_newSheet 18 = .ok (.iadd, 1) := by decide +kernel
theorem dX8_newSheet_19 : decode cX8_newSheet 19 = .ok (.putfield 31, 3) := by decide +kernel
theorem dX8_newSheet_22 : decode cX8_newSheet 22 = .ok (.aload_n 0, 1) := by decide +kernel
theorem dX8_newSheet_23 : decode cX8_newSheet 23 = .ok (.getfield 31, 3) := by decide +kernel
theorem dX8_newSheet_26 : decode cX8_newSheet 26 = .ok (.iconst 1, 1) := by decide +kernel
theorem dX8_newSheet_27 : decode cX8_newSheet 27 = .ok (.isub, 1) := by decide +kernel
theorem dX8_newSheet_28 : decode cX8_newSheet 28 = .ok (.ireturn, 1) := by decide +kernel
theorem dX8_printPlate_0 : decode cX8_printPlate 0 = .ok (.aload_n 0, 1) := by decide +kernel
theorem dX8_printPlate_1 : decode cX8_printPlate 1 = .ok (.iload_n 1, 1) := by decide +kernel
theorem dX8_printPlate_2 : decode cX8_printPlate 2 = .ok (.invokevirtual 65, 3) := by decide +kernel
theorem dX8_printPlate_5 : decode cX8_printPlate 5 = .ok (.ifCond .eq 11, 3) := by decide +kernel
theorem dX8_printPlate_8 : decode cX8_printPlate 8 = .ok (.aload_n 0, 1) := by decide +kernel
theorem dX8_printPlate_9 : decode cX8_printPlate 9 = .ok (.iload_n 2, 1) := by decide +kernel
theorem dX8_printPlate_10 : decode cX8_printPlate 10 = .ok (.invokevirtual 110, 3) := by decide +kernel
theorem dX8_printPlate_13 : decode cX8_printPlate 13 = .ok (.ifCond .ne 5, 3) := by decide +kernel
theorem dX8_printPlate_16 : decode cX8_printPlate 16 = .ok (.iconst (-1), 1) := by decide +kernel
theorem dX8_printPlate_17 : decode cX8_printPlate 17 = .ok (.ireturn, 1) := by decide +kernel
theorem dX8_printPlate_18 : decode cX8_printPlate 18 = .ok (.aload_n 0, 1) := by decide +kernel
theorem dX8_printPlate_19 : decode cX8_printPlate 19 = .ok (.getfield 11, 3) := by decide +kernel
theorem dX8_printPlate_22 : decode cX8_printPlate 22 = .ok (.iload_n 1, 1) := by decide +kernel
theorem dX8_printPlate_23 : decode cX8_printPlate 23 = .ok (.aaload, 1) := by decide +kernel
theorem dX8_printPlate_24 : decode cX8_printPlate 24 = .ok (.astore 4, 2) := by decide +kernel
theorem dX8_printPlate_26 : decode cX8_printPlate 26 = .ok (.aload_n 0, 1) := by decide +kernel
theorem dX8_printPlate_27 : decode cX8_printPlate 27 = .ok (.getfield 19, 3) := by decide +kernel
theorem dX8_printPlate_30 : decode cX8_printPlate 30 = .ok (.iload_n 2, 1) := by decide +kernel
theorem dX8_printPlate_31 : decode cX8_printPlate 31 = .ok (.aaload, 1) := by decide +kernel
theorem dX8_printPlate_32 : decode cX8_printPlate 32 = .ok (.astore 5, 2) := by decide +kernel
theorem dX8_printPlate_34 : decode cX8_printPlate 34 = .ok (.aload 5, 2) := by decide +kernel
theorem dX8_printPlate_36 : decode cX8_printPlate 36 = .ok (.invokevirtual 113, 3) := by decide +kernel
theorem dX8_printPlate_39 : decode cX8_printPlate 39 = .ok (.ifCond .eq 14, 3) := by decide +kernel
theorem dX8_printPlate_42 : decode cX8_printPlate 42 = .ok (.aload_n 3, 1) := by decide +kernel
theorem dX8_printPlate_43 : decode cX8_printPlate 43 = .ok (.iconst 1, 1) := by decide +kernel
theorem dX8_printPlate_44 : decode cX8_printPlate 44 = .ok (.aload 5, 2) := by decide +kernel
theorem dX8_printPlate_46 : decode cX8_printPlate 46 = .ok (.getfield 117, 3) := by decide +kernel
theorem dX8_printPlate_49 : decode cX8_printPlate 49 = .ok (.invokevirtual 120, 3) := by decide +kernel
theorem dX8_printPlate_52 : decode cX8_printPlate 52 = .ok (.ireturn, 1) := by decide +kernel
theorem dX8_printPlate_53 : decode cX8_printPlate 53 = .ok (.aload 4, 2) := by decide +kernel
theorem dX8_printPlate_55 : decode cX8_printPlate 55 = .ok (.invokevirtual 75, 3) := by decide +kernel
theorem dX8_printPlate_58 : decode cX8_printPlate 58 = .ok (.istore 6, 2) := by decide +kernel
theorem dX8_printPlate_60 : decode cX8_printPlate 60 = .ok (.aload 4, 2) := by decide +kernel
theorem dX8_printPlate_62 : decode cX8_printPlate 62 = .ok (.getfield 62, 3) := by decide +kernel
theorem dX8_printPlate_65 : decode cX8_printPlate 65 = .ok (.invokestatic 126, 3) := by decide +kernel
theorem dX8_printPlate_68 : decode cX8_printPlate 68 = .ok (.istore 7, 2) := by decide +kernel
theorem dX8_printPlate_70 : decode cX8_printPlate 70 = .ok (.aload_n 0, 1) := by decide +kernel
theorem dX8_printPlate_71 : decode cX8_printPlate 71 = .ok (.getfield 23, 3) := by decide +kernel
theorem dX8_printPlate_74 : decode cX8_printPlate 74 = .ok (.iload 7, 2) := by decide +kernel
theorem dX8_printPlate_76 : decode cX8_printPlate 76 = .ok (.iaload, 1) := by decide +kernel
theorem dX8_printPlate_77 : decode cX8_printPlate 77 = .ok (.iload 6, 2) := by decide +kernel
theorem dX8_printPlate_79 : decode cX8_printPlate 79 = .ok (.if_icmp .ge 19, 3) := by decide +kernel
theorem dX8_printPlate_82 : decode cX8_printPlate 82 = .ok (.aload_n 3, 1) := by decide +kernel
theorem dX8_printPlate_83 : decode cX8_printPlate 83 = .ok (.iconst 2, 1) := by decide +kernel
theorem dX8_printPlate_84 : decode cX8_printPlate 84 = .ok (.iload 6, 2) := by decide +kernel
theorem dX8_printPlate_86 : decode cX8_printPlate 86 = .ok (.aload_n 0, 1) := by decide +kernel
theorem dX8_printPlate_87 : decode cX8_printPlate 87 = .ok (.getfield 23, 3) := by decide +kernel
theorem dX8_printPlate_90 : decode cX8_printPlate 90 = .ok (.iload 7, 2) := by decide +kernel
theorem dX8_printPlate_92 : decode cX8_printPlate 92 = .ok (.iaload, 1) := by decide +kernel
theorem dX8_printPlate_93 : decode cX8_printPlate 93 = .ok (.isub, 1) := by decide +kernel
theorem dX8_printPlate_94 : decode cX8_printPlate 94 = .ok (.invokevirtual 120, 3) := by decide +kernel
theorem dX8_printPlate_97 : decode cX8_printPlate 97 = .ok (.ireturn, 1) := by decide +kernel
theorem dX8_printPlate_98 : decode cX8_printPlate 98 = .ok (.aload 5, 2) := by decide +kernel
theorem dX8_printPlate_100 : decode cX8_printPlate 100 = .ok (.aload 4, 2) := by decide +kernel
theorem dX8_printPlate_102 : decode cX8_printPlate 102 = .ok (.invokevirtual 130, 3) := by decide +kernel
theorem dX8_printPlate_105 : decode cX8_printPlate 105 = .ok (.aload_n 0, 1) := by decide +kernel
theorem dX8_printPlate_106 : decode cX8_printPlate 106 = .ok (.getfield 23, 3) := by decide +kernel
theorem dX8_printPlate_109 : decode cX8_printPlate 109 = .ok (.iload 7, 2) := by decide +kernel
theorem dX8_printPlate_111 : decode cX8_printPlate 111 = .ok (.dup2, 1) := by decide +kernel
theorem dX8_printPlate_112 : decode cX8_printPlate 112 = .ok (.iaload, 1) := by decide +kernel
theorem dX8_printPlate_113 : decode cX8_printPlate 113 = .ok (.iload 6, 2) := by decide +kernel
theorem dX8_printPlate_115 : decode cX8_printPlate 115 = .ok (.isub, 1) := by decide +kernel
theorem dX8_printPlate_116 : decode cX8_printPlate 116 = .ok (.iastore, 1) := by decide +kernel
theorem dX8_printPlate_117 : decode cX8_printPlate 117 = .ok (.aload 4, 2) := by decide +kernel
theorem dX8_printPlate_119 : decode cX8_printPlate 119 = .ok (.invokevirtual 92, 3) := by decide +kernel
theorem dX8_printPlate_122 : decode cX8_printPlate 122 = .ok (.ireturn, 1) := by decide +kernel
theorem dX8_rackSheet_0 : decode cX8_rackSheet 0 = .ok (.aload_n 0, 1) := by decide +kernel
theorem dX8_rackSheet_1 : decode cX8_rackSheet 1 = .ok (.iload_n 1, 1) := by decide +kernel
theorem dX8_rackSheet_2 : decode cX8_rackSheet 2 = .ok (.invokevirtual 110, 3) := by decide +kernel
theorem dX8_rackSheet_5 : decode cX8_rackSheet 5 = .ok (.ifCond .ne 5, 3) := by decide +kernel
theorem dX8_rackSheet_8 : decode cX8_rackSheet 8 = .ok (.iconst (-1), 1) := by decide +kernel
theorem dX8_rackSheet_9 : decode cX8_rackSheet 9 = .ok (.ireturn, 1) := by decide +kernel
theorem dX8_rackSheet_10 : decode cX8_rackSheet 10 = .ok (.aload_n 0, 1) := by decide +kernel
theorem dX8_rackSheet_11 : decode cX8_rackSheet 11 = .ok (.getfield 19, 3) := by decide +kernel
theorem dX8_rackSheet_14 : decode cX8_rackSheet 14 = .ok (.iload_n 1, 1) := by decide +kernel
theorem dX8_rackSheet_15 : decode cX8_rackSheet 15 = .ok (.aaload, 1) := by decide +kernel
theorem dX8_rackSheet_16 : decode cX8_rackSheet 16 = .ok (.invokevirtual 113, 3) := by decide +kernel
theorem dX8_rackSheet_19 : decode cX8_rackSheet 19 = .ok (.ifCond .eq 6, 3) := by decide +kernel
theorem dX8_rackSheet_22 : decode cX8_rackSheet 22 = .ok (.bipush (-3), 2) := by decide +kernel
theorem dX8_rackSheet_24 : decode cX8_rackSheet 24 = .ok (.ireturn, 1) := by decide +kernel
theorem dX8_rackSheet_25 : decode cX8_rackSheet 25 = .ok (.iconst 0, 1) := by decide +kernel
theorem dX8_rackSheet_26 : decode cX8_rackSheet 26 = .ok (.istore_n 3, 1) := by decide +kernel
theorem dX8_rackSheet_27 : decode cX8_rackSheet 27 = .ok (.iload_n 3, 1) := by decide +kernel
theorem dX8_rackSheet_28 : decode cX8_rackSheet 28 = .ok (.iconst 3, 1) := by decide +kernel
theorem dX8_rackSheet_29 : decode cX8_rackSheet 29 = .ok (.if_icmp .ge 30, 3) := by decide +kernel
theorem dX8_rackSheet_32 : decode cX8_rackSheet 32 = .ok (.aload_n 0, 1) := by decide +kernel
theorem dX8_rackSheet_33 : decode cX8_rackSheet 33 = .ok (.iload_n 3, 1) := by decide +kernel
theorem dX8_rackSheet_34 : decode cX8_rackSheet 34 = .ok (.invokevirtual 133, 3) := by decide +kernel
theorem dX8_rackSheet_37 : decode cX8_rackSheet 37 = .ok (.iconst (-1), 1) := by decide +kernel
theorem dX8_rackSheet_38 : decode cX8_rackSheet 38 = .ok (.if_icmp .ne 15, 3) := by decide +kernel
theorem dX8_rackSheet_41 : decode cX8_rackSheet 41 = .ok (.aload_n 0, 1) := by decide +kernel
theorem dX8_rackSheet_42 : decode cX8_rackSheet 42 = .ok (.getfield 19, 3) := by decide +kernel
theorem dX8_rackSheet_45 : decode cX8_rackSheet 45 = .ok (.iload_n 1, 1) := by decide +kernel
theorem dX8_rackSheet_46 : decode cX8_rackSheet 46 = .ok (.aaload, 1) := by decide +kernel
theorem dX8_rackSheet_47 : decode cX8_rackSheet 47 = .ok (.iload_n 3, 1) := by decide +kernel
theorem dX8_rackSheet_48 : decode cX8_rackSheet 48 = .ok (.putfield 117, 3) := by decide +kernel
theorem dX8_rackSheet_51 : decode cX8_rackSheet 51 = .ok (.iload_n 3, 1) := by decide +kernel
theorem dX8_rackSheet_52 : decode cX8_rackSheet 52 = .ok (.ireturn, 1) := by decide +kernel
theorem dX8_rackSheet_53 : decode cX8_rackSheet 53 = .ok (.iinc 3 1, 3) := by decide +kernel
theorem dX8_rackSheet_56 : decode cX8_rackSheet 56 = .ok (.goto (-29), 3) := by decide +kernel
theorem dX8_rackSheet_59 : decode cX8_rackSheet 59 = .ok (.aload_n 2, 1) := by decide +kernel
theorem dX8_rackSheet_60 : decode cX8_rackSheet 60 = .ok (.iconst 3, 1) := by decide +kernel
theorem dX8_rackSheet_61 : decode cX8_rackSheet 61 = .ok (.iconst 3, 1) := by decide +kernel
theorem dX8_rackSheet_62 : decode cX8_rackSheet 62 = .ok (.invokevirtual 120, 3) := by decide +kernel
theorem dX8_rackSheet_65 : decode cX8_rackSheet 65 = .ok (.ireturn, 1) := by decide +kernel
theorem dX8_unrackSheet_0 : decode cX8_unrackSheet 0 = .ok (.aload_n 0, 1) := by decide +kernel
theorem dX8_unrackSheet_1 : decode cX8_unrackSheet 1 = .ok (.iload_n 1, 1) := by decide +kernel
theorem dX8_unrackSheet_2 : decode cX8_unrackSheet 2 = .ok (.invokevirtual 110, 3) := by decide +kernel
theorem dX8_unrackSheet_5 : decode cX8_unrackSheet 5 = .ok (.ifCond .ne 5, 3) := by decide +kernel
theorem dX8_unrackSheet_8 : decode cX8_unrackSheet 8 = .ok (.iconst (-1), 1) := by decide +kernel
theorem dX8_unrackSheet_9 : decode cX8_unrackSheet 9 = .ok (.ireturn, 1) := by decide +kernel
theorem dX8_unrackSheet_10 : decode cX8_unrackSheet 10 = .ok (.aload_n 0, 1) := by decide +kernel
theorem dX8_unrackSheet_11 : decode cX8_unrackSheet 11 = .ok (.getfield 19, 3) := by decide +kernel
theorem dX8_unrackSheet_14 : decode cX8_unrackSheet 14 = .ok (.iload_n 1, 1) := by decide +kernel
theorem dX8_unrackSheet_15 : decode cX8_unrackSheet 15 = .ok (.aaload, 1) := by decide +kernel
theorem dX8_unrackSheet_16 : decode cX8_unrackSheet 16 = .ok (.invokevirtual 113, 3) := by decide +kernel
theorem dX8_unrackSheet_19 : decode cX8_unrackSheet 19 = .ok (.ifCond .ne 6, 3) := by decide +kernel
theorem dX8_unrackSheet_22 : decode cX8_unrackSheet 22 = .ok (.bipush (-3), 2) := by decide +kernel
theorem dX8_unrackSheet_24 : decode cX8_unrackSheet 24 = .ok (.ireturn, 1) := by decide +kernel
theorem dX8_unrackSheet_25 : decode cX8_unrackSheet 25 = .ok (.aload_n 0, 1) := by decide +kernel
theorem dX8_unrackSheet_26 : decode cX8_unrackSheet 26 = .ok (.getfield 19, 3) := by decide +kernel
theorem dX8_unrackSheet_29 : decode cX8_unrackSheet 29 = .ok (.iload_n 1, 1) := by decide +kernel
theorem dX8_unrackSheet_30 : decode cX8_unrackSheet 30 = .ok (.aaload, 1) := by decide +kernel
theorem dX8_unrackSheet_31 : decode cX8_unrackSheet 31 = .ok (.getfield 117, 3) := by decide +kernel
theorem dX8_unrackSheet_34 : decode cX8_unrackSheet 34 = .ok (.istore_n 2, 1) := by decide +kernel
theorem dX8_unrackSheet_35 : decode cX8_unrackSheet 35 = .ok (.aload_n 0, 1) := by decide +kernel
theorem dX8_unrackSheet_36 : decode cX8_unrackSheet 36 = .ok (.getfield 19, 3) := by decide +kernel
theorem dX8_unrackSheet_39 : decode cX8_unrackSheet 39 = .ok (.iload_n 1, 1) := by decide +kernel
theorem dX8_unrackSheet_40 : decode cX8_unrackSheet 40 = .ok (.aaload, 1) := by decide +kernel
theorem dX8_unrackSheet_41 : decode cX8_unrackSheet 41 = .ok (.iconst (-1), 1) := by decide +kernel
theorem dX8_unrackSheet_42 : decode cX8_unrackSheet 42 = .ok (.putfield 117, 3) := by decide +kernel
theorem dX8_unrackSheet_45 : decode cX8_unrackSheet 45 = .ok (.iload_n 2, 1) := by decide +kernel
theorem dX8_unrackSheet_46 : decode cX8_unrackSheet 46 = .ok (.ireturn, 1) := by decide +kernel
theorem dX8_sheetAtPlace_0 : decode cX8_sheetAtPlace 0 = .ok (.iconst 0, 1) := by decide +kernel
theorem dX8_sheetAtPlace_1 : decode cX8_sheetAtPlace 1 = .ok (.istore_n 2, 1) := by decide +kernel
theorem dX8_sheetAtPlace_2 : decode cX8_sheetAtPlace 2 = .ok (.iload_n 2, 1) := by decide +kernel
theorem dX8_sheetAtPlace_3 : decode cX8_sheetAtPlace 3 = .ok (.aload_n 0, 1) := by decide +kernel
theorem dX8_sheetAtPlace_4 : decode cX8_sheetAtPlace 4 = .ok (.getfield 31, 3) := by decide +kernel
theorem dX8_sheetAtPlace_7 : decode cX8_sheetAtPlace 7 = .ok (.if_icmp .ge 24, 3) := by decide +kernel
theorem dX8_sheetAtPlace_10 : decode cX8_sheetAtPlace 10 = .ok (.aload_n 0, 1) := by decide +kernel
theorem dX8_sheetAtPlace_11 : decode cX8_sheetAtPlace 11 = .ok (.getfield 19, 3) := by decide +kernel
theorem dX8_sheetAtPlace_14 : decode cX8_sheetAtPlace 14 = .ok (.iload_n 2, 1) := by decide +kernel
theorem dX8_sheetAtPlace_15 : decode cX8_sheetAtPlace 15 = .ok (.aaload, 1) := by decide +kernel
theorem dX8_sheetAtPlace_16 : decode cX8_sheetAtPlace 16 = .ok (.getfield 117, 3) := by decide +kernel
theorem dX8_sheetAtPlace_19 : decode cX8_sheetAtPlace 19 = .ok (.iload_n 1, 1) := by decide +kernel
theorem dX8_sheetAtPlace_20 : decode cX8_sheetAtPlace 20 = .ok (.if_icmp .ne 5, 3) := by decide +kernel
theorem dX8_sheetAtPlace_23 : decode cX8_sheetAtPlace 23 = .ok (.iload_n 2, 1) := by decide +kernel
theorem dX8_sheetAtPlace_24 : decode cX8_sheetAtPlace 24 = .ok (.ireturn, 1) := by decide +kernel
theorem dX8_sheetAtPlace_25 : decode cX8_sheetAtPlace 25 = .ok (.iinc 2 1, 3) := by decide +kernel
theorem dX8_sheetAtPlace_28 : decode cX8_sheetAtPlace 28 = .ok (.goto (-26), 3) := by decide +kernel
theorem dX8_sheetAtPlace_31 : decode cX8_sheetAtPlace 31 = .ok (.iconst (-1), 1) := by decide +kernel
theorem dX8_sheetAtPlace_32 : decode cX8_sheetAtPlace 32 = .ok (.ireturn, 1) := by decide +kernel
theorem dX8_refill_0 : decode cX8_refill 0 = .ok (.iload_n 1, 1) := by decide +kernel
theorem dX8_refill_1 : decode cX8_refill 1 = .ok (.invokestatic 58, 3) := by decide +kernel
theorem dX8_refill_4 : decode cX8_refill 4 = .ok (.ifCond .eq 14, 3) := by decide +kernel
theorem dX8_refill_7 : decode cX8_refill 7 = .ok (.iload_n 2, 1) := by decide +kernel
theorem dX8_refill_8 : decode cX8_refill 8 = .ok (.iconst 1, 1) := by decide +kernel
theorem dX8_refill_9 : decode cX8_refill 9 = .ok (.if_icmp .lt 9, 3) := by decide +kernel
theorem dX8_refill_12 : decode cX8_refill 12 = .ok (.iload_n 2, 1) := by decide +kernel
theorem dX8_refill_13 : decode cX8_refill 13 = .ok (.bipush 99, 2) := by decide +kernel
theorem dX8_refill_15 : decode cX8_refill 15 = .ok (.if_icmp .le 6, 3) := by decide +kernel
theorem dX8_refill_18 : decode cX8_refill 18 = .ok (.bipush (-2), 2) := by decide +kernel
theorem dX8_refill_20 : decode cX8_refill 20 = .ok (.ireturn, 1) := by decide +kernel
theorem dX8_refill_21 : decode cX8_refill 21 = .ok (.aload_n 0, 1) := by decide +kernel
theorem dX8_refill_22 : decode cX8_refill 22 = .ok (.getfield 23, 3) := by decide +kernel
theorem dX8_refill_25 : decode cX8_refill 25 = .ok (.iload_n 1, 1) := by decide +kernel
theorem dX8_refill_26 : decode cX8_refill 26 = .ok (.invokestatic 126, 3) := by decide +kernel
theorem dX8_refill_29 : decode cX8_refill 29 = .ok (.iaload, 1) := by decide +kernel
theorem dX8_refill_30 : decode cX8_refill 30 = .ok (.iload_n 2, 1) := by decide +kernel
theorem dX8_refill_31 : decode cX8_refill 31 = .ok (.iadd, 1) := by decide +kernel
theorem dX8_refill_32 : decode cX8_refill 32 = .ok (.istore_n 3, 1) := by decide +kernel
theorem dX8_refill_33 : decode cX8_refill 33 = .ok (.iload_n 3, 1) := by decide +kernel
theorem dX8_refill_34 : decode cX8_refill 34 = .ok (.sipush 500, 3) := by decide +kernel
theorem dX8_refill_37 : decode cX8_refill 37 = .ok (.if_icmp .le 6, 3) := by decide +kernel
theorem dX8_refill_40 : decode cX8_refill 40 = .ok (.bipush (-3), 2) := by decide +kernel
theorem dX8_refill_42 : decode cX8_refill 42 = .ok (.ireturn, 1) := by decide +kernel
theorem dX8_refill_43 : decode cX8_refill 43 = .ok (.aload_n 0, 1) := by decide +kernel
theorem dX8_refill_44 : decode cX8_refill 44 = .ok (.getfield 23, 3) := by decide +kernel
theorem dX8_refill_47 : decode cX8_refill 47 = .ok (.iload_n 1, 1) := by decide +kernel
theorem dX8_refill_48 : decode cX8_refill 48 = .ok (.invokestatic 126, 3) := by decide +kernel
theorem dX8_refill_51 : decode cX8_refill 51 = .ok (.iload_n 3, 1) := by decide +kernel
theorem dX8_refill_52 : decode cX8_refill 52 = .ok (.iastore, 1) := by decide +kernel
theorem dX8_refill_53 : decode cX8_refill 53 = .ok (.iload_n 3, 1) := by decide +kernel
theorem dX8_refill_54 : decode cX8_refill 54 = .ok (.ireturn, 1) := by decide +kernel
theorem dX8_letHoursPass_0 : decode cX8_letHoursPass 0 = .ok (.iload_n 1, 1) := by decide +kernel
theorem dX8_letHoursPass_1 : decode cX8_letHoursPass 1 = .ok (.iconst 1, 1) := by decide +kernel
theorem dX8_letHoursPass_2 : decode cX8_letHoursPass 2 = .ok (.if_icmp .lt 9, 3) := by decide +kernel
theorem dX8_letHoursPass_5 : decode cX8_letHoursPass 5 = .ok (.iload_n 1, 1) := by decide +kernel
theorem dX8_letHoursPass_6 : decode cX8_letHoursPass 6 = .ok (.bipush 50, 2) := by decide +kernel
theorem dX8_letHoursPass_8 : decode cX8_letHoursPass 8 = .ok (.if_icmp .le 6, 3) := by decide +kernel
theorem dX8_letHoursPass_11 : decode cX8_letHoursPass 11 = .ok (.bipush (-2), 2) := by decide +kernel
theorem dX8_letHoursPass_13 : decode cX8_letHoursPass 13 = .ok (.ireturn, 1) := by decide +kernel
theorem dX8_letHoursPass_14 : decode cX8_letHoursPass 14 = .ok (.iconst 0, 1) := by decide +kernel
theorem dX8_letHoursPass_15 : decode cX8_letHoursPass 15 = .ok (.istore_n 2, 1) := by decide +kernel
theorem dX8_letHoursPass_16 : decode cX8_letHoursPass 16 = .ok (.iconst 0, 1) := by decide +kernel
theorem dX8_letHoursPass_17 : decode cX8_letHoursPass 17 = .ok (.istore_n 3, 1) := by decide +kernel
theorem dX8_letHoursPass_18 : decode cX8_letHoursPass 18 = .ok (.iload_n 3, 1) := by decide +kernel
theorem dX8_letHoursPass_19 : decode cX8_letHoursPass 19 = .ok (.aload_n 0, 1) := by decide +kernel
theorem dX8_letHoursPass_20 : decode cX8_letHoursPass 20 = .ok (.getfield 31, 3) := by decide +kernel
theorem dX8_letHoursPass_23 : decode cX8_letHoursPass 23 = .ok (.if_icmp .ge 67, 3) := by decide +kernel
theorem dX8_letHoursPass_26 : decode cX8_letHoursPass 26 = .ok (.aload_n 0, 1) := by decide +kernel
theorem dX8_letHoursPass_27 : decode cX8_letHoursPass 27 = .ok (.getfield 19, 3) := by decide +kernel
theorem dX8_letHoursPass_30 : decode cX8_letHoursPass 30 = .ok (.iload_n 3, 1) := by decide +kernel
theorem dX8_letHoursPass_31 : decode cX8_letHoursPass 31 = .ok (.aaload, 1) := by decide +kernel
theorem dX8_letHoursPass_32 : decode cX8_letHoursPass 32 = .ok (.astore 4, 2) := by decide +kernel
theorem dX8_letHoursPass_34 : decode cX8_letHoursPass 34 = .ok (.aload 4, 2) := by decide +kernel
theorem dX8_letHoursPass_36 : decode cX8_letHoursPass 36 = .ok (.invokevirtual 136, 3) := by decide +kernel
theorem dX8_letHoursPass_39 : decode cX8_letHoursPass 39 = .ok (.istore 5, 2) := by decide +kernel
theorem dX8_letHoursPass_41 : decode cX8_letHoursPass 41 = .ok (.iconst 0, 1) := by decide +kernel
theorem dX8_letHoursPass_42 : decode cX8_letHoursPass 42 = .ok (.istore 6, 2) := by decide +kernel
theorem dX8_letHoursPass_44 : decode cX8_letHoursPass 44 = .ok (.iload 6, 2) := by decide +kernel
theorem dX8_letHoursPass_46 : decode cX8_letHoursPass 46 = .ok (.iload_n 1, 1) := by decide +kernel
theorem dX8_letHoursPass_47 : decode cX8_letHoursPass 47 = .ok (.if_icmp .ge 21, 3) := by decide +kernel
theorem dX8_letHoursPass_50 : decode cX8_letHoursPass 50 = .ok (.aload 4, 2) := by decide +kernel
theorem dX8_letHoursPass_52 : decode cX8_letHoursPass 52 = .ok (.aload_n 0, 1) := by decide +kernel
theorem dX8_letHoursPass_53 : decode cX8_letHoursPass 53 = .ok (.getfield 34, 3) := by decide +kernel
theorem dX8_letHoursPass_56 : decode cX8_letHoursPass 56 = .ok (.iload 6, 2) := by decide +kernel
theorem dX8_letHoursPass_58 : decode cX8_letHoursPass 58 = .ok (.iadd, 1) := by decide +kernel
theorem dX8_letHoursPass_59 : decode cX8_letHoursPass 59 = .ok (.invokevirtual 139, 3) := by decide +kernel
theorem dX8_letHoursPass_62 : decode cX8_letHoursPass 62 = .ok (.iinc 6 1, 3) := by decide +kernel
theorem dX8_letHoursPass_65 : decode cX8_letHoursPass 65 = .ok (.goto (-21), 3) := by decide +kernel
theorem dX8_letHoursPass_68 : decode cX8_letHoursPass 68 = .ok (.iload 5, 2) := by decide +kernel
theorem dX8_letHoursPass_70 : decode cX8_letHoursPass 70 = .ok (.ifCond .eq 14, 3) := by decide +kernel
theorem dX8_letHoursPass_73 : decode cX8_letHoursPass 73 = .ok (.aload 4, 2) := by decide +kernel
theorem dX8_letHoursPass_75 : decode cX8_letHoursPass 75 = .ok (.invokevirtual 136, 3) := by decide +kernel
theorem dX8_letHoursPass_78 : decode cX8_letHoursPass 78 = .ok (.ifCond .ne 6, 3) := by decide +kernel
theorem dX8_letHoursPass_81 : decode cX8_letHoursPass 81 = .ok (.iinc 2 1, 3) := by decide +kernel
theorem dX8_letHoursPass_84 : decode cX8_letHoursPass 84 = .ok (.iinc 3 1, 3) := by decide +kernel
theorem dX8_letHoursPass_87 : decode cX8_letHoursPass 87 = .ok (.goto (-69), 3) := by decide +kernel
theorem dX8_letHoursPass_90 : decode cX8_letHoursPass 90 = .ok (.aload_n 0, 1) := by decide +kernel
theorem dX8_letHoursPass_91 : decode cX8_letHoursPass 91 = .ok (.dup, 1) := by decide +kernel
theorem dX8_letHoursPass_92 : decode cX8_letHoursPass 92 = .ok (.getfield 34, 3) := by decide +kernel
theorem dX8_letHoursPass_95 : decode cX8_letHoursPass 95 = .ok (.iload_n 1, 1) := by decide +kernel
theorem dX8_letHoursPass_96 : decode cX8_letHoursPass 96 = .ok (.iadd, 1) := by decide +kernel
theorem dX8_letHoursPass_97 : decode cX8_letHoursPass 97 = .ok (.putfield 34, 3) := by decide +kernel
theorem dX8_letHoursPass_100 : decode cX8_letHoursPass 100 = .ok (.iload_n 2, 1) := by decide +kernel
theorem dX8_letHoursPass_101 : decode cX8_letHoursPass 101 = .ok (.ireturn, 1) := by decide +kernel
