theorem dX9_init_0 : decode cX9_init 0 = .ok (.aload_n 0, 1) := by decide +kernel
theorem dX9_init_1 : decode cX9_init 1 = .ok (.invokespecial 3, 3) := by decide +kernel
theorem dX9_init_4 : decode cX9_init 4 = .ok (.aload_n 0, 1) := by decide +kernel
theorem dX9_init_5 : decode cX9_init 5 = .ok (.new 9, 3) := by decide +kernel
theorem dX9_init_8 : decode cX9_init 8 = .ok (.dup, 1) := by decide +kernel
theorem dX9_init_9 : decode cX9_init 9 = .ok (.invokespecial 11, 3) := by decide +kernel
theorem dX9_init_12 : decode cX9_init 12 = .ok (.putfield 12, 3) := by decide +kernel
theorem dX9_init_15 : decode cX9_init 15 = .ok (.aload_n 0, 1) := by decide +kernel
theorem dX9_init_16 : decode cX9_init 16 = .ok (.new 9, 3) := by decide +kernel
theorem dX9_init_19 : decode cX9_init 19 = .ok (.dup, 1) := by decide +kernel
theorem dX9_init_20 : decode cX9_init 20 = .ok (.invokespecial 11, 3) := by decide +kernel
theorem dX9_init_23 : decode cX9_init 23 = .ok (.putfield 16, 3) := by decide +kernel
theorem dX9_init_26 : decode cX9_init 26 = .ok (.aload_n 0, 1) := by decide +kernel
theorem dX9_init_27 : decode cX9_init 27 = .ok (.new 19, 3) := by decide +kernel
theorem dX9_init_30 : decode cX9_init 30 = .ok (.dup, 1) := by decide +kernel
theorem dX9_init_31 : decode cX9_init 31 = .ok (.invokespecial 21, 3) := by decide +kernel
theorem dX9_init_34 : decode cX9_init 34 = .ok (.putfield 22, 3) := by decide +kernel
theorem dX9_init_37 : decode cX9_init 37 = .ok (.aload_n 0, 1) := by decide +kernel
theorem dX9_init_38 : decode cX9_init 38 = .ok (.new 26, 3) := by decide +kernel
theorem dX9_init_41 : decode cX9_init 41 = .ok (.dup, 1) := by decide +kernel
theorem dX9_init_42 : decode cX9_init 42 = .ok (.invokespecial 28, 3) := by decide +kernel
theorem dX9_init_45 : decode cX9_init 45 = .ok (.putfield 29, 3) := by decide +kernel
theorem dX9_init_48 : decode cX9_init 48 = .ok (.aload_n 0, 1) := by decide +kernel
theorem dX9_init_49 : decode cX9_init 49 = .ok (.new 33, 3) := by decide +kernel
theorem dX9_init_52 : decode cX9_init 52 = .ok (.dup, 1) := by decide +kernel
theorem dX9_init_53 : decode cX9_init 53 = .ok (.invokespecial 35, 3) := by decide +kernel
theorem dX9_init_56 : decode cX9_init 56 = .ok (.putfield 36, 3) := by decide +kernel
theorem dX9_init_59 : decode cX9_init 59 = .ok (.aload_n 0, 1) := by decide +kernel
theorem dX9_init_60 : decode cX9_init 60 = .ok (.new 40, 3) := by decide +kernel
theorem dX9_init_63 : decode cX9_init 63 = .ok (.dup, 1) := by decide +kernel
theorem dX9_init_64 : decode cX9_init 64 = .ok (.invokespecial 42, 3) := by decide +kernel
theorem dX9_init_67 : decode cX9_init 67 = .ok (.putfield 43, 3) := by decide +kernel
theorem dX9_init_70 : decode cX9_init 70 = .ok (.aload_n 0, 1) := by decide +kernel
theorem dX9_init_71 : decode cX9_init 71 = .ok (.bipush 16, 2) := by decide +kernel
theorem dX9_init_73 : decode cX9_init 73 = .ok (.newarray .char, 2) := by decide +kernel
theorem dX9_init_75 : decode cX9_init 75 = .ok (.putfield 47, 3) := by decide +kernel
theorem dX9_init_78 : decode cX9_init 78 = .ok (.aload_n 0, 1) := by decide +kernel
theorem dX9_init_79 : decode cX9_init 79 = .ok (.bipush 8, 2) := by decide +kernel
theorem dX9_init_81 : decode cX9_init 81 = .ok (.newarray .int, 2) := by decide +kernel
theorem dX9_init_83 : decode cX9_init 83 = .ok (.putfield 51, 3) := by decide +kernel
theorem dX9_init_86 : decode cX9_init 86 = .ok (.aload_n 0, 1) := by decide +kernel
theorem dX9_init_87 : decode cX9_init 87 = .ok (.iconst 0, 1) := by decide +kernel
theorem dX9_init_88 : decode cX9_init 88 = .ok (.putfield 55, 3) := by decide +kernel
theorem dX9_init_91 : decode cX9_init 91 = .ok (.aload_n 0, 1) := by decide +kernel
theorem dX9_init_92 : decode cX9_init 92 = .ok (.iconst (-1), 1) := by decide +kernel
theorem dX9_init_93 : decode cX9_init 93 = .ok (.putfield 59, 3) := by decide +kernel
theorem dX9_init_96 : decode cX9_init 96 = .ok (.aload_n 0, 1) := by decide +kernel
theorem dX9_init_97 : decode cX9_init 97 = .ok (.iconst (-1), 1) := by decide +kernel
theorem dX9_init_98 : decode cX9_init 98 = .ok (.putfield 62, 3) := by decide +kernel
theorem dX9_init_101 : decode cX9_init 101 = .ok (.aload_n 0, 1) := by decide +kernel
theorem dX9_init_102 : decode cX9_init 102 = .ok (.iconst 0, 1) := by decide +kernel
theorem dX9_init_103 : decode cX9_init 103 = .ok (.putfield 65, 3) := by decide +kernel
theorem dX9_init_106 : decode cX9_init 106 = .ok (.return_, 1) := by decide +kernel
theorem dX9_addPlate_0 : decode cX9_addPlate 0 = .ok (.aload_n 0, 1) := by decide +kernel
theorem dX9_addPlate_1 : decode cX9_addPlate 1 = .ok (.getfield 22, 3) := by decide +kernel
theorem dX9_addPlate_4 : decode cX9_addPlate 4 = .ok (.aload_n 0, 1) := by decide +kernel
theorem dX9_addPlate_5 : decode cX9_addPlate 5 = .ok (.getfield 12, 3) := by decide +kernel
theorem dX9_addPlate_8 : decode cX9_addPlate 8 = .ok (.invokevirtual 69, 3) := by decide +kernel
theorem dX9_addPlate_11 : decode cX9_addPlate 11 = .ok (.aload_n 0, 1) := by decide +kernel
theorem dX9_addPlate_12 : decode cX9_addPlate 12 = .ok (.aload_n 0, 1) := by decide +kernel
theorem dX9_addPlate_13 : decode cX9_addPlate 13 = .ok (.getfield 12, 3) := by decide +kernel
theorem dX9_addPlate_16 : decode cX9_addPlate 16 = .ok (.iload_n 1, 1) := by decide +kernel
theorem dX9_addPlate_17 : decode cX9_addPlate 17 = .ok (.invokevirtual 73, 3) := by decide +kernel
theorem dX9_addPlate_20 : decode cX9_addPlate 20 = .ok (.invokevirtual 77, 3) := by decide +kernel
theorem dX9_addPlate_23 : decode cX9_addPlate 23 = .ok (.ireturn, 1) := by decide +kernel
theorem dX9_addStar_0 : decode cX9_addStar 0 = .ok (.aload_n 0, 1) := by decide +kernel
theorem dX9_addStar_1 : decode cX9_addStar 1 = .ok (.getfield 22, 3) := by decide +kernel
theorem dX9_addStar_4 : decode cX9_addStar 4 = .ok (.aload_n 0, 1) := by decide +kernel
theorem dX9_addStar_5 : decode cX9_addStar 5 = .ok (.getfield 12, 3) := by decide +kernel
theorem dX9_addStar_8 : decode cX9_addStar 8 = .ok (.invokevirtual 69, 3) := by decide +kernel
theorem dX9_addStar_11 : decode cX9_addStar 11 = .ok (.aload_n 0, 1) := by decide +kernel
theorem dX9_addStar_12 : decode cX9_addStar 12 = .ok (.aload_n 0, 1) := by decide +kernel
theorem dX9_addStar_13 : decode cX9_addStar 13 = .ok (.getfield 12, 3) := by decide +kernel
theorem dX9_addStar_16 : decode cX9_addStar 16 = .ok (.iload_n 1, 1) := by decide +kernel
theorem dX9_addStar_17 : decode cX9_addStar 17 = .ok (.iload_n 2, 1) := by decide +kernel
theorem dX9_addStar_18 : decode cX9_addStar 18 = .ok (.iload_n 3, 1) := by decide +kernel
theorem dX9_addStar_19 : decode cX9_addStar 19 = .ok (.invokevirtual 80, 3) := by decide +kernel
theorem dX9_addStar_22 : decode cX9_addStar 22 = .ok (.invokevirtual 77, 3) := by decide +kernel
theorem dX9_addStar_25 : decode cX9_addStar 25 = .ok (.ireturn, 1) := by decide +kernel
theorem dX9_removeStar_0 : decode cX9_removeStar 0 = .ok (.aload_n 0, 1) := by decide +kernel
theorem dX9_removeStar_1 : decode cX9_removeStar 1 = .ok (.getfield 22, 3) := by decide +kernel
theorem dX9_removeStar_4 : decode cX9_removeStar 4 = .ok (.aload_n 0, 1) := by decide +kernel
theorem dX9_removeStar_5 : decode cX9_removeStar 5 = .ok (.getfield 12, 3) := by decide +kernel
theorem dX9_removeStar_8 : decode cX9_removeStar 8 = .ok (.invokevirtual 69, 3) := by decide +kernel
theorem dX9_removeStar_11 : decode cX9_removeStar 11 = .ok (.aload_n 0, 1) := by decide +kernel
theorem dX9_removeStar_12 : decode cX9_removeStar 12 = .ok (.aload_n 0, 1) := by decide +kernel
theorem dX9_removeStar_13 : decode cX9_removeStar 13 = .ok (.getfield 12, 3) := by decide +kernel
theorem dX9_removeStar_16 : decode cX9_removeStar 16 = .ok (.iload_n 1, 1) := by decide +kernel
theorem dX9_removeStar_17 : decode cX9_removeStar 17 = .ok (.iload_n 2, 1) := by decide +kernel
theorem dX9_removeStar_18 : decode cX9_removeStar 18 = .ok (.iload_n 3, 1) := by decide +kernel
theorem dX9_removeStar_19 : decode cX9_removeStar 19 = .ok (.invokevirtual 84, 3) := by decide +kernel
theorem dX9_removeStar_22 : decode cX9_removeStar 22 = .ok (.invokevirtual 77, 3) := by decide +kernel
theorem dX9_removeStar_25 : decode cX9_removeStar 25 = .ok (.ireturn, 1) := by decide +kernel
theorem dX9_setShift_0 : decode cX9_setShift 0 = .ok (.aload_n 0, 1) := by decide +kernel
theorem dX9_setShift_1 : decode cX9_setShift 1 = .ok (.getfield 22, 3) := by decide +kernel
theorem dX9_setShift_4 : decode cX9_setShift 4 = .ok (.aload_n 0, 1) := by decide +kernel
theorem dX9_setShift_5 : decode cX9_setShift 5 = .ok (.getfield 12, 3) := by decide +kernel
theorem dX9_setShift_8 : decode cX9_setShift 8 = .ok (.invokevirtual 69, 3) := by decide +kernel
theorem dX9_setShift_11 : decode cX9_setShift 11 = .ok (.aload_n 0, 1) := by decide +kernel
theorem dX9_setShift_12 : decode cX9_setShift 12 = .ok (.aload_n 0, 1) := by decide +kernel
theorem dX9_setShift_13 : decode cX9_setShift 13 = .ok (.getfield 12, 3) := by decide +kernel
theorem dX9_setShift_16 : decode cX9_setShift 16 = .ok (.iload_n 1, 1) := by decide +kernel
theorem dX9_setShift_17 : decode cX9_setShift 17 = .ok (.iload_n 2, 1) := by decide +kernel
theorem dX9_setShift_18 : decode cX9_setShift 18 = .ok (.iload_n 3, 1) := by decide +kernel
theorem dX9_setShift_19 : decode cX9_setShift 19 = .ok (.invokevirtual 87, 3) := by decide +kernel
theorem dX9_setShift_22 : decode cX9_setShift 22 = .ok (.invokevirtual 77, 3) := by decide +kernel
theorem dX9_setShift_25 : decode cX9_setShift 25 = .ok (.ireturn, 1) := by decide +kernel
theorem dX9_fit_0 : decode cX9_fit 0 = .ok (.aload_n 0, 1) := by decide +kernel
theorem dX9_fit_1 : decode cX9_fit 1 = .ok (.getfield 22, 3) := by decide +kernel
theorem dX9_fit_4 : decode cX9_fit 4 = .ok (.aload_n 0, 1) := by decide +kernel
theorem dX9_fit_5 : decode cX9_fit 5 = .ok (.getfield 12, 3) := by decide +kernel
theorem dX9_fit_8 : decode cX9_fit 8 = .ok (.invokevirtual 69, 3) := by decide +kernel
theorem dX9_fit_11 : decode cX9_fit 11 = .ok (.aload_n 0, 1) := by decide +kernel
theorem dX9_fit_12 : decode cX9_fit 12 = .ok (.aload_n 0, 1) := by decide +kernel
theorem dX9_fit_13 : decode cX9_fit 13 = .ok (.getfield 12, 3) := by decide +kernel
theorem dX9_fit_16 : decode cX9_fit 16 = .ok (.iload_n 1, 1) := by decide +kernel
theorem dX9_fit_17 : decode cX9_fit 17 = .ok (.iload_n 2, 1) := by decide +kernel
theorem dX9_fit_18 : decode cX9_fit 18 = .ok (.aload_n 0, 1) := by decide +kernel
theorem dX9_fit_19 : decode cX9_fit 19 = .ok (.getfield 29, 3) := by decide +kernel
theorem dX9_fit_22 : decode cX9_fit 22 = .ok (.invokevirtual 90, 3) := by decide +kernel
theorem dX9_fit_25 : decode cX9_fit 25 = .ok (.invokevirtual 77, 3) := by decide +kernel
theorem dX9_fit_28 : decode cX9_fit 28 = .ok (.ireturn, 1) := by decide +kernel
theorem dX9_plateCount_0 : decode cX9_plateCount 0 = .ok (.aload_n 0, 1) := by decide +kernel
theorem dX9_plateCount_1 : decode cX9_plateCount 1 = .ok (.getfield 12, 3) := by decide +kernel
theorem dX9_plateCount_4 : decode cX9_plateCount 4 = .ok (.getfield 94, 3) := by decide +kernel
theorem dX9_plateCount_7 : decode cX9_plateCount 7 = .ok (.ireturn, 1) := by decide +kernel
theorem dX9_inkOf_0 : decode cX9_inkOf 0 = .ok (.aload_n 0, 1) := by decide +kernel
theorem dX9_inkOf_1 : decode cX9_inkOf 1 = .ok (.iload_n 1, 1) := by decide +kernel
theorem dX9_inkOf_2 : decode cX9_inkOf 2 = .ok (.invokevirtual 97, 3) := by decide +kernel
theorem dX9_inkOf_5 : decode cX9_inkOf 5 = .ok (.getfield 101, 3) := by decide +kernel
theorem dX9_inkOf_8 : decode cX9_inkOf 8 = .ok (.ireturn, 1) := by decide +kernel
theorem dX9_starCount_0 : decode cX9_starCount 0 = .ok (.aload_n 0, 1) := by decide +kernel
theorem dX9_starCount_1 : decode cX9_starCount 1 = .ok (.iload_n 1, 1) := by decide +kernel
theorem dX9_starCount_2 : decode cX9_starCount 2 = .ok (.invokevirtual 97, 3) := by decide +kernel
theorem dX9_starCount_5 : decode cX9_starCount 5 = .ok (.invokevirtual 106, 3) := by decide +kernel
theorem dX9_starCount_8 : decode cX9_starCount 8 = .ok (.ireturn, 1) := by decide +kernel
theorem dX9_hasStar_0 : decode cX9_hasStar 0 = .ok (.aload_n 0, 1) := by decide +kernel
theorem dX9_hasStar_1 : decode cX9_hasStar 1 = .ok (.iload_n 1, 1) := by decide +kernel
theorem dX9_hasStar_2 : decode cX9_hasStar 2 = .ok (.invokevirtual 97, 3) := by decide +kernel
theorem dX9_hasStar_5 : decode cX9_hasStar 5 = .ok (.astore 4, 2) := by decide +kernel
theorem dX9_hasStar_7 : decode cX9_hasStar 7 = .ok (.iload_n 2, 1) := by decide +kernel
theorem dX9_hasStar_8 : decode cX9_hasStar 8 = .ok (.iload_n 3, 1) := by decide +kernel
theorem dX9_hasStar_9 : decode cX9_hasStar 9 = .ok (.invokestatic 110, 3) := by decide +kernel
theorem dX9_hasStar_12 : decode cX9_hasStar 12 = .ok (.aload 4, 2) := by decide +kernel
theorem dX9_hasStar_14 : decode cX9_hasStar 14 = .ok (.iload_n 2, 1) := by decide +kernel
theorem dX9_hasStar_15 : decode cX9_hasStar 15 = .ok (.iload_n 3, 1) := by decide +kernel
theorem dX9_hasStar_16 : decode cX9_hasStar 16 = .ok (.invokevirtual 114, 3) := by decide +kernel
theorem dX9_hasStar_19 : decode cX9_hasStar 19 = .ok (.ireturn, 1) := by decide +kernel
theorem dX9_shiftX_0 : decode cX9_shiftX 0 = .ok (.aload_n 0, 1) := by decide +kernel
theorem dX9_shiftX_1 : decode cX9_shiftX 1 = .ok (.iload_n 1, 1) := by decide +kernel
theorem dX9_shiftX_2 : decode cX9_shiftX 2 = .ok (.invokevirtual 97, 3) := by decide +kernel
theorem dX9_shiftX_5 : decode cX9_shiftX 5 = .ok (.getfield 118, 3) := by decide +kernel
theorem dX9_shiftX_8 : decode cX9_shiftX 8 = .ok (.ireturn, 1) := by decide +kernel
theorem dX9_shiftY_0 : decode cX9_shiftY 0 = .ok (.aload_n 0, 1) := by decide +kernel
theorem dX9_shiftY_1 : decode cX9_shiftY 1 = .ok (.iload_n 1, 1) := by decide +kernel
theorem dX9_shiftY_2 : decode cX9_shiftY 2 = .ok (.invokevirtual 97, 3) := by decide +kernel
theorem dX9_shiftY_5 : decode cX9_shiftY 5 = .ok (.getfield 121, 3) := by decide +kernel
theorem dX9_shiftY_8 : decode cX9_shiftY 8 = .ok (.ireturn, 1) := by decide +kernel
theorem dX9_matches_0 : decode cX9_matches 0 = .ok (.aload_n 0, 1) := by decide +kernel
theorem dX9_matches_1 : decode cX9_matches 1 = .ok (.iload_n 1, 1) := by decide +kernel
theorem dX9_matches_2 : decode cX9_matches 2 = .ok (.invokevirtual 97, 3) := by decide +kernel
theorem dX9_matches_5 : decode cX9_matches 5 = .ok (.astore 5, 2) := by decide +kernel
theorem dX9_matches_7 : decode cX9_matches 7 = .ok (.aload_n 0, 1) := by decide +kernel
theorem dX9_matches_8 : decode cX9_matches 8 = .ok (.iload_n 2, 1) := by decide +kernel
theorem dX9_matches_9 : decode cX9_matches 9 = .ok (.invokevirtual 97, 3) := by decide +kernel
theorem dX9_matches_12 : decode cX9_matches 12 = .ok (.astore 6, 2) := by decide +kernel
theorem dX9_matches_14 : decode cX9_matches 14 = .ok (.iload_n 3, 1) := by decide +kernel
theorem dX9_matches_15 : decode cX9_matches 15 = .ok (.iload 4, 2) := by decide +kernel
theorem dX9_matches_17 : decode cX9_matches 17 = .ok (.invokestatic 124, 3) := by decide +kernel
theorem dX9_matches_20 : decode cX9_matches 20 = .ok (.ifCond .ne 13, 3) := by decide +kernel
theorem dX9_matches_23 : decode cX9_matches 23 = .ok (.new 127, 3) := by decide +kernel
theorem dX9_matches_26 : decode cX9_matches 26 = .ok (.dup, 1) := by decide +kernel
theorem dX9_matches_27 : decode cX9_matches 27 = .ok (.ldc 129, 2) := by decide +kernel
theorem dX9_matches_29 : decode cX9_matches 29 = .ok (.invokespecial 131, 3) := by decide +kernel
theorem dX9_matches_32 : decode cX9_matches 32 = .ok (.athrow, 1) := by decide +kernel
theorem dX9_matches_33 : decode cX9_matches 33 = .ok (.aload 5, 2) := by decide +kernel
theorem dX9_matches_35 : decode cX9_matches 35 = .ok (.aload 6, 2) := by decide +kernel
theorem dX9_matches_37 : decode cX9_matches 37 = .ok (.iload_n 3, 1) := by decide +kernel
theorem dX9_matches_38 : decode cX9_matches 38 = .ok (.iload 4, 2) := by decide +kernel
theorem dX9_matches_40 : decode cX9_matches 40 = .ok (.invokevirtual 134, 3) := by decide +kernel
theorem dX9_matches_43 : decode cX9_matches 43 = .ok (.ireturn, 1) := by decide +kernel
theorem dX9_mostMatches_0 : decode cX9_mostMatches 0 = .ok (.aload_n 0, 1) := by decide +kernel
theorem dX9_mostMatches_1 : decode cX9_mostMatches 1 = .ok (.getfield 29, 3) := by decide +kernel
theorem dX9_mostMatches_4 : decode cX9_mostMatches 4 = .ok (.aload_n 0, 1) := by decide +kernel
theorem dX9_mostMatches_5 : decode cX9_mostMatches 5 = .ok (.iload_n 1, 1) := by decide +kernel
theorem dX9_mostMatches_6 : decode cX9_mostMatches 6 = .ok (.invokevirtual 97, 3) := by decide +kernel
theorem dX9_mostMatches_9 : decode cX9_mostMatches 9 = .ok (.aload_n 0, 1) := by decide +kernel
theorem dX9_mostMatches_10 : decode cX9_mostMatches 10 = .ok (.iload_n 2, 1) := by decide +kernel
theorem dX9_mostMatches_11 : decode cX9_mostMatches 11 = .ok (.invokevirtual 97, 3) := by decide +kernel
theorem dX9_mostMatches_14 : decode cX9_mostMatches 14 = .ok (.invokevirtual 138, 3) := by decide +kernel
theorem dX9_mostMatches_17 : decode cX9_mostMatches 17 = .ok (.aload_n 0, 1) := by decide +kernel
theorem dX9_mostMatches_18 : decode cX9_mostMatches 18 = .ok (.getfield 29, 3) := by decide +kernel
theorem dX9_mostMatches_21 : decode cX9_mostMatches 21 = .ok (.getfield 142, 3) := by decide +kernel
theorem dX9_mostMatches_24 : decode cX9_mostMatches 24 = .ok (.ireturn, 1) := by decide +kernel
theorem dX9_mostMatchesByPairs_0 : decode cX9_mostMatchesByPairs 0 = .ok (.aload_n 0, 1) := by decide +kernel
theorem dX9_mostMatchesByPairs_1 : decode cX9_mostMatchesByPairs 1 = .ok (.getfield 29, 3) := by decide +kernel
theorem dX9_mostMatchesByPairs_4 : decode cX9_mostMatchesByPairs 4 = .ok (.aload_n 0, 1) := by decide +kernel
theorem dX9_mostMatchesByPairs_5 : decode cX9_mostMatchesByPairs 5 = .ok (.iload_n 1, 1) := by decide +kernel
theorem dX9_mostMatchesByPairs_6 : decode cX9_mostMatchesByPairs 6 = .ok (.invokevirtual 97, 3) := by decide +kernel
theorem dX9_mostMatchesByPairs_9 : decode cX9_mostMatchesByPairs 9 = .ok (.aload_n 0, 1) := by decide +kernel
theorem dX9_mostMatchesByPairs_10 : decode cX9_mostMatchesByPairs 10 = .ok (.iload_n 2, 1) := by decide +kernel
theorem dX9_mostMatchesByPairs_11 : decode cX9_mostMatchesByPairs 11 = .ok (.invokevirtual 97, 3) := by decide +kernel
theorem dX9_mostMatchesByPairs_14 : decode cX9_mostMatchesByPairs 14 = .ok (.invokevirtual 145, 3) := by decide +kernel
theorem dX9_mostMatchesByPairs_17 : decode cX9_mostMatchesByPairs 17 = .ok (.ireturn, 1) := by decide +kernel
theorem dX9_bestShiftX_0 : decode cX9_bestShiftX 0 = .ok (.aload_n 0, 1) := by decide +kernel
theorem dX9_bestShiftX_1 : decode cX9_bestShiftX 1 = .ok (.getfield 29, 3) := by decide +kernel
theorem dX9_bestShiftX_4 : decode cX9_bestShiftX 4 = .ok (.aload_n 0, 1) := by decide +kernel
theorem dX9_bestShiftX_5 : decode cX9_bestShiftX 5 = .ok (.iload_n 1, 1) := by decide +kernel
theorem dX9_bestShiftX_6 : decode cX9_bestShiftX 6 = .ok (.invokevirtual 97, 3) := by decide +kernel
theorem dX9_bestShiftX_9 : decode cX9_bestShiftX 9 = .ok (.aload_n 0, 1) := by decide +kernel
theorem dX9_bestShiftX_10 : decode cX9_bestShiftX 10 = .ok (.iload_n 2, 1) := by decide +kernel
theorem dX9_bestShiftX_11 : decode cX9_bestShiftX 11 = .ok (.invokevirtual 97, 3) := by decide +kernel
theorem dX9_bestShiftX_14 : decode cX9_bestShiftX 14 = .ok (.invokevirtual 138, 3) := by decide +kernel
theorem dX9_bestShiftX_17 : decode cX9_bestShiftX 17 = .ok (.aload_n 0, 1) := by decide +kernel
theorem dX9_bestShiftX_18 : decode cX9_bestShiftX 18 = .ok (.getfield 29, 3) := by decide +kernel
theorem dX9_bestShiftX_21 : decode cX9_bestShiftX 21 = .ok (.getfield 149, 3) := by decide +kernel
theorem dX9_bestShiftX_24 : decode cX9_bestShiftX 24 = .ok (.ireturn, 1) := by decide +kernel
theorem dX9_bestShiftY_0 : decode cX9_bestShiftY 0 = .ok (.aload_n 0, 1) := by decide +kernel
theorem dX9_bestShiftY_1 : decode cX9_bestShiftY 1 = .ok (.getfield 29, 3) := by decide +kernel
theorem dX9_bestShiftY_4 : decode cX9_bestShiftY 4 = .ok (.aload_n 0, 1) := by decide +kernel
theorem dX9_bestShiftY_5 : decode cX9_bestShiftY 5 = .ok (.iload_n 1, 1) := by decide +kernel
theorem dX9_bestShiftY_6 : decode cX9_bestShiftY 6 = .ok (.invokevirtual 97, 3) := by decide +kernel
theorem dX9_bestShiftY_9 : decode cX9_bestShiftY 9 = .ok (.aload_n 0, 1) := by decide +kernel
theorem dX9_bestShiftY_10 : decode cX9_bestShiftY 10 = .ok (.iload_n 2, 1) := by decide +kernel
theorem dX9_bestShiftY_11 : decode cX9_bestShiftY 11 = .ok (.invokevirtual 97, 3) := by decide +kernel
theorem dX9_bestShiftY_14 : decode cX9_bestShiftY 14 = .ok (.invokevirtual 138, 3) := by decide +kernel
theorem dX9_bestShiftY_17 : decode cX9_bestShiftY 17 = .ok (.aload_n 0, 1) := by decide +kernel
theorem dX9_bestShiftY_18 : decode cX9_bestShiftY 18 = .ok (.getfield 29, 3) := by decide +kernel
theorem dX9_bestShiftY_21 : decode cX9_bestShiftY 21 = .ok (.getfield 152, 3) := by decide +kernel
theorem dX9_bestShiftY_24 : decode cX9_bestShiftY 24 = .ok (.ireturn, 1) := by decide +kernel
theorem dX9_addSheet_0 : decode cX9_addSheet 0 = .ok (.aload_n 0, 1) := by decide +kernel
theorem dX9_addSheet_1 : decode cX9_addSheet 1 = .ok (.getfield 22, 3) := by decide +kernel
theorem dX9_addSheet_4 : decode cX9_addSheet 4 = .ok (.aload_n 0, 1) := by decide +kernel
theorem dX9_addSheet_5 : decode cX9_addSheet 5 = .ok (.getfield 12, 3) := by decide +kernel
theorem dX9_addSheet_8 : decode cX9_addSheet 8 = .ok (.invokevirtual 69, 3) := by decide +kernel
theorem dX9_addSheet_11 : decode cX9_addSheet 11 = .ok (.aload_n 0, 1) := by decide +kernel
theorem dX9_addSheet_12 : decode cX9_addSheet 12 = .ok (.aload_n 0, 1) := by decide +kernel
theorem dX9_addSheet_13 : decode cX9_addSheet 13 = .ok (.getfield 12, 3) := by decide +kernel
theorem dX9_addSheet_16 : decode cX9_addSheet 16 = .ok (.invokevirtual 155, 3) := by decide +kernel
theorem dX9_addSheet_19 : decode cX9_addSheet 19 = .ok (.invokevirtual 77, 3) := by decide +kernel
theorem dX9_addSheet_22 : decode cX9_addSheet 22 = .ok (.ireturn, 1) := by decide +kernel
theorem dX9_print_0 : decode cX9_print 0 = .ok (.aload_n 0, 1) := by decide +kernel
theorem dX9_print_1 : decode cX9_print 1 = .ok (.getfield 22, 3) := by decide +kernel
theorem dX9_print_4 : decode cX9_print 4 = .ok (.aload_n 0, 1) := by decide +kernel
theorem dX9_print_5 : decode cX9_print 5 = .ok (.getfield 12, 3) := by decide +kernel
theorem dX9_print_8 : decode cX9_print 8 = .ok (.invokevirtual 69, 3) := by decide +kernel
theorem dX9_print_11 : decode cX9_print 11 = .ok (.aload_n 0, 1) := by decide +kernel
theorem dX9_print_12 : decode cX9_print 12 = .ok (.aload_n 0, 1) := by decide +kernel
theorem dX9_print_13 : decode cX9_print 13 = .ok (.getfield 12, 3) := by decide +kernel
theorem dX9_print_16 : decode cX9_print 16 = .ok (.iload_n 1, 1) := by decide +kernel
theorem dX9_print_17 : decode cX9_print 17 = .ok (.iload_n 2, 1) := by decide +kernel
theorem dX9_print_18 : decode cX9_print 18 = .ok (.aload_n 0, 1) := by decide +kernel
theorem dX9_print_19 : decode cX9_print 19 = .ok (.getfield 36, 3) := by decide +kernel
theorem dX9_print_22 : decode cX9_print 22 = .ok (.invokevirtual 158, 3) := by decide +kernel
theorem dX9_print_25 : decode cX9_print 25 = .ok (.invokevirtual 77, 3) := by decide +kernel
theorem dX9_print_28 : decode cX9_print 28 = .ok (.ireturn, 1) := by decide +kernel
theorem dX9_wouldSmear_0 : decode cX9_wouldSmear 0 = .ok (.aload_n 0, 1) := by decide +kernel
theorem dX9_wouldSmear_1 : decode cX9_wouldSmear 1 = .ok (.iload_n 1, 1) := by decide +kernel
theorem dX9_wouldSmear_2 : decode cX9_wouldSmear 2 = .ok (.invokevirtual 162, 3) := by decide +kernel
theorem dX9_wouldSmear_5 : decode cX9_wouldSmear 5 = .ok (.invokevirtual 166, 3) := by decide +kernel
theorem dX9_wouldSmear_8 : decode cX9_wouldSmear 8 = .ok (.ireturn, 1) := by decide +kernel
theorem dX9_sheetCount_0 : decode cX9_sheetCount 0 = .ok (.aload_n 0, 1) := by decide +kernel
theorem dX9_sheetCount_1 : decode cX9_sheetCount 1 = .ok (.getfield 12, 3) := by decide +kernel
theorem dX9_sheetCount_4 : decode cX9_sheetCount 4 = .ok (.getfield 172, 3) := by decide +kernel
theorem dX9_sheetCount_7 : decode cX9_sheetCount 7 = .ok (.ireturn, 1) := by decide +kernel
theorem dX9_colour_0 : decode cX9_colour 0 = .ok (.aload_n 0, 1) := by decide +kernel
theorem dX9_colour_1 : decode cX9_colour 1 = .ok (.iload_n 1, 1) := by decide +kernel
theorem dX9_colour_2 : decode cX9_colour 2 = .ok (.invokevirtual 162, 3) := by decide +kernel
theorem dX9_colour_5 : decode cX9_colour 5 = .ok (.astore 4, 2) := by decide +kernel
theorem dX9_colour_7 : decode cX9_colour 7 = .ok (.iload_n 2, 1) := by decide +kernel
theorem dX9_colour_8 : decode cX9_colour 8 = .ok (.iload_n 3, 1) := by decide +kernel
theorem dX9_colour_9 : decode cX9_colour 9 = .ok (.invokestatic 110, 3) := by decide +kernel
theorem dX9_colour_12 : decode cX9_colour 12 = .ok (.aload 4, 2) := by decide +kernel
theorem dX9_colour_14 : decode cX9_colour 14 = .ok (.iload_n 2, 1) := by decide +kernel
theorem dX9_colour_15 : decode cX9_colour 15 = .ok (.iload_n 3, 1) := by decide +kernel
theorem dX9_colour_16 : decode cX9_colour 16 = .ok (.invokevirtual 175, 3) := by decide +kernel
theorem dX9_colour_19 : decode cX9_colour 19 = .ok (.ireturn, 1) := by decide +kernel
theorem dX9_intended_0 : decode cX9_intended 0 = .ok (.aload_n 0, 1) := by decide +kernel
theorem dX9_intended_1 : decode cX9_intended 1 = .ok (.iload_n 1, 1) := by decide +kernel
theorem dX9_intended_2 : decode cX9_intended 2 = .ok (.invokevirtual 162, 3) := by decide +kernel
theorem dX9_intended_5 : decode cX9_intended 5 = .ok (.astore 4, 2) := by decide +kernel
theorem dX9_intended_7 : decode cX9_intended 7 = .ok (.iload_n 2, 1) := by decide +kernel
theorem dX9_intended_8 : decode cX9_intended 8 = .ok (.iload_n 3, 1) := by decide +kernel
theorem dX9_intended_9 : decode cX9_intended 9 = .ok (.invokestatic 110, 3) := by decide +kernel
theorem dX9_intended_12 : decode cX9_intended 12 = .ok (.aload 4, 2) := by decide +kernel
theorem dX9_intended_14 : decode cX9_intended 14 = .ok (.iload_n 2, 1) := by decide +kernel
theorem dX9_intended_15 : decode cX9_intended 15 = .ok (.iload_n 3, 1) := by decide +kernel
theorem dX9_intended_16 : decode cX9_intended 16 = .ok (.invokevirtual 179, 3) := by decide +kernel
theorem dX9_intended_19 : decode cX9_intended 19 = .ok (.ireturn, 1) := by decide +kernel
theorem dX9_placesOf_0 : decode cX9_placesOf 0 = .ok (.aload_n 0, 1) := by decide +kernel
theorem dX9_placesOf_1 : decode cX9_placesOf 1 = .ok (.iload_n 1, 1) := by decide +kernel
theorem dX9_placesOf_2 : decode cX9_placesOf 2 = .ok (.invokevirtual 162, 3) := by decide +kernel
theorem dX9_placesOf_5 : decode cX9_placesOf 5 = .ok (.astore_n 3, 1) := by decide +kernel
theorem dX9_placesOf_6 : decode cX9_placesOf 6 = .ok (.iload_n 2, 1) := by decide +kernel
theorem dX9_placesOf_7 : decode cX9_placesOf 7 = .ok (.ifCond .lt 9, 3) := by decide +kernel
theorem dX9_placesOf_10 : decode cX9_placesOf 10 = .ok (.iload_n 2, 1) := by decide +kernel
theorem dX9_placesOf_11 : decode cX9_placesOf 11 = .ok (.bipush 8, 2) := by decide +kernel
theorem dX9_placesOf_13 : decode cX9_placesOf 13 = .ok (.if_icmp .lt 13, 3) := by decide +kernel
theorem dX9_placesOf_16 : decode cX9_placesOf 16 = .ok (.new 127, 3) := by decide +kernel
theorem dX9_placesOf_19 : decode cX9_placesOf 19 = .ok (.dup, 1) := by decide +kernel
theorem dX9_placesOf_20 : decode cX9_placesOf 20 = .ok (.ldc 182, 2) := by decide +kernel
theorem dX9_placesOf_22 : decode cX9_placesOf 22 = .ok (.invokespecial 131, 3) := by decide +kernel
theorem dX9_placesOf_25 : decode cX9_placesOf 25 = .ok (.athrow, 1) := by decide +kernel
theorem dX9_placesOf_26 : decode cX9_placesOf 26 = .ok (.aload_n 3, 1) := by decide +kernel
theorem dX9_placesOf_27 : decode cX9_placesOf 27 = .ok (.iload_n 2, 1) := by decide +kernel
theorem dX9_placesOf_28 : decode cX9_placesOf 28 = .ok (.invokevirtual 184, 3) := by decide +kernel
theorem dX9_placesOf_31 : decode cX9_placesOf 31 = .ok (.ireturn, 1) := by decide +kernel
theorem dX9_wetness_0 : decode cX9_wetness 0 = .ok (.aload_n 0, 1) := by decide +kernel
theorem dX9_wetness_1 : decode cX9_wetness 1 = .ok (.iload_n 1, 1) := by decide +kernel
theorem dX9_wetness_2 : decode cX9_wetness 2 = .ok (.invokevirtual 162, 3) := by decide +kernel
theorem dX9_wetness_5 : decode cX9_wetness 5 = .ok (.getfield 187, 3) := by decide +kernel
theorem dX9_wetness_8 : decode cX9_wetness 8 = .ok (.ireturn, 1) := by decide +kernel
theorem dX9_smears_0 : decode cX9_smears 0 = .ok (.aload_n 0, 1) := by decide +kernel
theorem dX9_smears_1 : decode cX9_smears 1 = .ok (.iload_n 1, 1) := by decide +kernel
theorem dX9_smears_2 : decode cX9_smears 2 = .ok (.invokevirtual 162, 3) := by decide +kernel
theorem dX9_smears_5 : decode cX9_smears 5 = .ok (.getfield 190, 3) := by decide +kernel
theorem dX9_smears_8 : decode cX9_smears 8 = .ok (.ireturn, 1) := by decide +kernel
theorem dX9_misprints_0 : decode cX9_misprints 0 = .ok (.aload_n 0, 1) := by decide +kernel
theorem dX9_misprints_1 : decode cX9_misprints 1 = .ok (.iload_n 1, 1) := by decide +kernel
theorem dX9_misprints_2 : decode cX9_misprints 2 = .ok (.invokevirtual 162, 3) := by decide +kernel
theorem dX9_misprints_5 : decode cX9_misprints 5 = .ok (.invokevirtual 193, 3) := by decide +kernel
theorem dX9_misprints_8 : decode cX9_misprints 8 = .ok (.ireturn, 1) := by decide +kernel
theorem dX9_misprintsBySets_0 : decode cX9_misprintsBySets 0 = .ok (.aload_n 0, 1) := by decide +kernel
theorem dX9_misprintsBySets_1 : decode cX9_misprintsBySets 1 = .ok (.iload_n 1, 1) := by decide +kernel
theorem dX9_misprintsBySets_2 : decode cX9_misprintsBySets 2 = .ok (.invokevirtual 162, 3) := by decide +kernel
theorem dX9_misprintsBySets_5 : decode cX9_misprintsBySets 5 = .ok (.invokevirtual 196, 3) := by decide +kernel
theorem dX9_misprintsBySets_8 : decode cX9_misprintsBySets 8 = .ok (.ireturn, 1) := by decide +kernel
theorem dX9_sheetByMisprints_0 : decode cX9_sheetByMisprints 0 = .ok (.iconst 0, 1) := by decide +kernel
theorem dX9_sheetByMisprints_1 : decode cX9_sheetByMisprints 1 = .ok (.istore_n 2, 1) := by decide +kernel
theorem dX9_sheetByMisprints_2 : decode cX9_sheetByMisprints 2 = .ok (.iload_n 2, 1) := by decide +kernel
theorem dX9_sheetByMisprints_3 : decode cX9_sheetByMisprints 3 = .ok (.aload_n 0, 1) := by decide +kernel
theorem dX9_sheetByMisprints_4 : decode cX9_sheetByMisprints 4 = .ok (.getfield 12, 3) := by decide +kernel
theorem dX9_sheetByMisprints_7 : decode cX9_sheetByMisprints 7 = .ok (.getfield 172, 3) := by decide +kernel
theorem dX9_sheetByMisprints_10 : decode cX9_sheetByMisprints 10 = .ok (.if_icmp .ge 27, 3) := by decide +kernel
theorem dX9_sheetByMisprints_13 : decode cX9_sheetByMisprints 13 = .ok (.aload_n 0, 1) := by decide +kernel
theorem dX9_sheetByMisprints_14 : decode cX9_sheetByMisprints 14 = .ok (.getfield 51, 3) := by decide +kernel
theorem dX9_sheetByMisprints_17 : decode cX9_sheetByMisprints 17 = .ok (.iload_n 2, 1) := by decide +kernel
theorem dX9_sheetByMisprints_18 : decode cX9_sheetByMisprints 18 = .ok (.aload_n 0, 1) := by decide +kernel
theorem dX9_sheetByMisprints_19 : decode cX9_sheetByMisprints 19 = .ok (.getfield 12, 3) := by decide +kernel
theorem dX9_sheetByMisprints_22 : decode cX9_sheetByMisprints 22 = .ok (.getfield 199, 3) := by decide +kernel
theorem dX9_sheetByMisprints_25 : decode cX9_sheetByMisprints 25 = .ok (.iload_n 2, 1) := by decide +kernel
theorem dX9_sheetByMisprints_26 : decode cX9_sheetByMisprints 26 = .ok (.aaload, 1) := by decide +kernel
theorem dX9_sheetByMisprints_27 : decode cX9_sheetByMisprints 27 = .ok (.invokevirtual 193, 3) := by decide +kernel
theorem dX9_sheetByMisprints_30 : decode cX9_sheetByMisprints 30 = .ok (.iastore, 1) := by decide +kernel
theorem dX9_sheetByMisprints_31 : decode cX9_sheetByMisprints 31 = .ok (.iinc 2 1, 3) := by decide +kernel
theorem dX9_sheetByMisprints_34 : decode cX9_sheetByMisprints 34 = .ok (.goto (-32), 3) := by decide +kernel
theorem dX9_sheetByMisprints_37 : decode cX9_sheetByMisprints 37 = .ok (.iconst 0, 1) := by decide +kernel
theorem dX9_sheetByMisprints_38 : decode cX9_sheetByMisprints 38 = .ok (.istore_n 2, 1) := by decide +kernel
theorem dX9_sheetByMisprints_39 : decode cX9_sheetByMisprints 39 = .ok (.iload_n 2, 1) := by decide +kernel
theorem dX9_sheetByMisprints_40 : decode cX9_sheetByMisprints 40 = .ok (.aload_n 0, 1) := by decide +kernel
theorem dX9_sheetByMisprints_41 : decode cX9_sheetByMisprints 41 = .ok (.getfield 12, 3) := by decide +kernel
theorem dX9_sheetByMisprints_44 : decode cX9_sheetByMisprints 44 = .ok (.getfield 172, 3) := by decide +kernel
theorem dX9_sheetByMisprints_47 : decode cX9_sheetByMisprints 47 = .ok (.if_icmp .ge 20, 3) := by decide +kernel
theorem dX9_sheetByMisprints_50 : decode cX9_sheetByMisprints 50 = .ok (.aload_n 0, 1) := by decide +kernel
theorem dX9_sheetByMisprints_51 : decode cX9_sheetByMisprints 51 = .ok (.iload_n 2, 1) := by decide +kernel
theorem dX9_sheetByMisprints_52 : decode cX9_sheetByMisprints 52 = .ok (.invokevirtual 203, 3) := by decide +kernel
theorem dX9_sheetByMisprints_55 : decode cX9_sheetByMisprints 55 = .ok (.iload_n 1, 1) := by decide +kernel
theorem dX9_sheetByMisprints_56 : decode cX9_sheetByMisprints 56 = .ok (.if_icmp .ne 5, 3) := by decide +kernel
theorem dX9_sheetByMisprints_59 : decode cX9_sheetByMisprints 59 = .ok (.iload_n 2, 1) := by decide +kernel
theorem dX9_sheetByMisprints_60 : decode cX9_sheetByMisprints 60 = .ok (.ireturn, 1) := by decide +kernel
theorem dX9_sheetByMisprints_61 : decode cX9_sheetByMisprints 61 = .ok (.iinc 2 1, 3) := by decide +kernel
theorem dX9_sheetByMisprints_64 : decode cX9_sheetByMisprints 64 = .ok (.goto (-25), 3) := by decide +kernel
theorem dX9_sheetByMisprints_67 : decode cX9_sheetByMisprints 67 = .ok (.new 206, 3) := by decide +kernel
theorem dX9_sheetByMisprints_70 : decode cX9_sheetByMisprints 70 = .ok (.dup, 1) := by decide +kernel
theorem dX9_sheetByMisprints_71 : decode cX9_sheetByMisprints 71 = .ok (.ldc 208, 2) := by decide +kernel
theorem dX9_sheetByMisprints_73 : decode cX9_sheetByMisprints 73 = .ok (.invokespecial 210, 3) := by decide +kernel
theorem dX9_sheetByMisprints_76 : decode cX9_sheetByMisprints 76 = .ok (.athrow, 1) := by decide +kernel
theorem dX9_putInRack_0 : decode cX9_putInRack 0 = .ok (.aload_n 0, 1) := by decide +kernel
theorem dX9_putInRack_1 : decode cX9_putInRack 1 = .ok (.getfield 22, 3) := by decide +kernel
theorem dX9_putInRack_4 : decode cX9_putInRack 4 = .ok (.aload_n 0, 1) := by decide +kernel
theorem dX9_putInRack_5 : decode cX9_putInRack 5 = .ok (.getfield 12, 3) := by decide +kernel
theorem dX9_putInRack_8 : decode cX9_putInRack 8 = .ok (.invokevirtual 69, 3) := by decide +kernel
theorem dX9_putInRack_11 : decode cX9_putInRack 11 = .ok (.aload_n 0, 1) := by decide +kernel
theorem dX9_putInRack_12 : decode cX9_putInRack 12 = .ok (.aload_n 0, 1) := by decide +kernel
theorem dX9_putInRack_13 : decode cX9_putInRack 13 = .ok (.getfield 12, 3) := by decide +kernel
theorem dX9_putInRack_16 : decode cX9_putInRack 16 = .ok (.iload_n 1, 1) := by decide +kernel
theorem dX9_putInRack_17 : decode cX9_putInRack 17 = .ok (.aload_n 0, 1) := by decide +kernel
theorem dX9_putInRack_18 : decode cX9_putInRack 18 = .ok (.getfield 36, 3) := by decide +kernel
theorem dX9_putInRack_21 : decode cX9_putInRack 21 = .ok (.invokevirtual 211, 3) := by decide +kernel
theorem dX9_putInRack_24 : decode cX9_putInRack 24 = .ok (.invokevirtual 77, 3) := by decide +kernel
theorem dX9_putInRack_27 : decode cX9_putInRack 27 = .ok (.ireturn, 1) := by decide +kernel
theorem dX9_takeOut_0 : decode cX9_takeOut 0 = .ok (.aload_n 0, 1) := by decide +kernel
theorem dX9_takeOut_1 : decode cX9_takeOut 1 = .ok (.getfield 22, 3) := by decide +kernel
theorem dX9_takeOut_4 : decode cX9_takeOut 4 = .ok (.aload_n 0, 1) := by decide +kernel
theorem dX9_takeOut_5 : decode cX9_takeOut 5 = .ok (.getfield 12, 3) := by decide +kernel
theorem dX9_takeOut_8 : decode cX9_takeOut 8 = .ok (.invokevirtual 69, 3) := by decide +kernel
theorem dX9_takeOut_11 : decode cX9_takeOut 11 = .ok (.aload_n 0, 1) := by decide +kernel
theorem dX9_takeOut_12 : decode cX9_takeOut 12 = .ok (.aload_n 0, 1) := by decide +kernel
theorem dX9_takeOut_13 : decode cX9_takeOut 13 = .ok (.getfield 12, 3) := by decide +kernel
theorem dX9_takeOut_16 : decode cX9_takeOut 16 = .ok (.iload_n 1, 1) := by decide +kernel
theorem dX9_takeOut_17 : decode cX9_takeOut 17 = .ok (.invokevirtual 215, 3) := by decide +kernel
theorem dX9_takeOut_20 : decode cX9_takeOut 20 = .ok (.invokevirtual 77, 3) := by decide +kernel
theorem dX9_takeOut_23 : decode cX9_takeOut 23 = .ok (.ireturn, 1) := by decide +kernel
theorem dX9_rackPlace_0 : decode cX9_rackPlace 0 = .ok (.aload_n 0, 1) := by decide +kernel
theorem dX9_rackPlace_1 : decode cX9_rackPlace 1 = .ok (.iload_n 1, 1) := by decide +kernel
theorem dX9_rackPlace_2 : decode cX9_rackPlace 2 = .ok (.invokevirtual 162, 3) := by decide +kernel
theorem dX9_rackPlace_5 : decode cX9_rackPlace 5 = .ok (.astore_n 2, 1) := by decide +kernel
theorem dX9_rackPlace_6 : decode cX9_rackPlace 6 = .ok (.aload_n 2, 1) := by decide +kernel
theorem dX9_rackPlace_7 : decode cX9_rackPlace 7 = .ok (.invokevirtual 218, 3) := by decide +kernel
theorem dX9_rackPlace_10 : decode cX9_rackPlace 10 = .ok (.ifCond .ne 13, 3) := by decide +kernel
theorem dX9_rackPlace_13 : decode cX9_rackPlace 13 = .ok (.new 206, 3) := by decide +kernel
theorem dX9_rackPlace_16 : decode cX9_rackPlace 16 = .ok (.dup, 1) := by decide +kernel
theorem dX9_rackPlace_17 : decode cX9_rackPlace 17 = .ok (.ldc 221, 2) := by decide +kernel
theorem dX9_rackPlace_19 : decode cX9_rackPlace 19 = .ok (.invokespecial 210, 3) := by decide +kernel
theorem dX9_rackPlace_22 : decode cX9_rackPlace 22 = .ok (.athrow, 1) := by decide +kernel
theorem dX9_rackPlace_23 : decode cX9_rackPlace 23 = .ok (.aload_n 2, 1) := by decide +kernel
theorem dX9_rackPlace_24 : decode cX9_rackPlace 24 = .ok (.getfield 223, 3) := by decide +kernel
theorem dX9_rackPlace_27 : decode cX9_rackPlace 27 = .ok (.ireturn, 1) := by decide +kernel
theorem dX9_sheetInRack_0 : decode cX9_sheetInRack 0 = .ok (.iload_n 1, 1) := by decide +kernel
theorem dX9_sheetInRack_1 : decode cX9_sheetInRack 1 = .ok (.ifCond .lt 8, 3) := by decide +kernel
theorem dX9_sheetInRack_4 : decode cX9_sheetInRack 4 = .ok (.iload_n 1, 1) := by decide +kernel
theorem dX9_sheetInRack_5 : decode cX9_sheetInRack 5 = .ok (.iconst 3, 1) := by decide +kernel
theorem dX9_sheetInRack_6 : decode cX9_sheetInRack 6 = .ok (.if_icmp .lt 13, 3) := by decide +kernel
theorem dX9_sheetInRack_9 : decode cX9_sheetInRack 9 = .ok (.new 226, 3) := by decide +kernel
theorem dX9_sheetInRack_12 : decode cX9_sheetInRack 12 = .ok (.dup, 1) := by decide +kernel
theorem dX9_sheetInRack_13 : decode cX9_sheetInRack 13 = .ok (.ldc 228, 2) := by decide +kernel
theorem dX9_sheetInRack_15 : decode cX9_sheetInRack 15 = .ok (.invokespecial 230, 3) := by decide +kernel
theorem dX9_sheetInRack_18 : decode cX9_sheetInRack 18 = .ok (.athrow, 1) := by decide +kernel
theorem dX9_sheetInRack_19 : decode cX9_sheetInRack 19 = .ok (.aload_n 0, 1) := by decide +kernel
theorem dX9_sheetInRack_20 : decode cX9_sheetInRack 20 = .ok (.getfield 12, 3) := by decide +kernel
theorem dX9_sheetInRack_23 : decode cX9_sheetInRack 23 = .ok (.iload_n 1, 1) := by decide +kernel
theorem dX9_sheetInRack_24 : decode cX9_sheetInRack 24 = .ok (.invokevirtual 231, 3) := by decide +kernel
theorem dX9_sheetInRack_27 : decode cX9_sheetInRack 27 = .ok (.istore_n 2, 1) := by decide +kernel
theorem dX9_sheetInRack_28 : decode cX9_sheetInRack 28 = .ok (.iload_n 2, 1) := by decide +kernel
theorem dX9_sheetInRack_29 : decode cX9_sheetInRack 29 = .ok (.iconst (-1), 1) := by decide +kernel
theorem dX9_sheetInRack_30 : decode cX9_sheetInRack 30 = .ok (.if_icmp .ne 13, 3) := by decide +kernel
theorem dX9_sheetInRack_33 : decode cX9_sheetInRack 33 = .ok (.new 206, 3) := by decide +kernel
theorem dX9_sheetInRack_36 : decode cX9_sheetInRack 36 = .ok (.dup, 1) := by decide +kernel
theorem dX9_sheetInRack_37 : decode cX9_sheetInRack 37 = .ok (.ldc 234, 2) := by decide +kernel
theorem dX9_sheetInRack_39 : decode cX9_sheetInRack 39 = .ok (.invokespecial 210, 3) := by decide +kernel
theorem dX9_sheetInRack_42 : decode cX9_sheetInRack 42 = .ok (.athrow, 1) := by decide +kernel
theorem dX9_sheetInRack_43 : decode cX9_sheetInRack 43 = .ok (.iload_n 2, 1) := by decide +kernel
theorem dX9_sheetInRack_44 : decode cX9_sheetInRack 44 = .ok (.ireturn, 1) := by decide +kernel
theorem dX9_addInk_0 : decode cX9_addInk 0 = .ok (.aload_n 0, 1) := by decide +kernel
theorem dX9_addInk_1 : decode cX9_addInk 1 = .ok (.getfield 22, 3) := by decide +kernel
theorem dX9_addInk_4 : decode cX9_addInk 4 = .ok (.aload_n 0, 1) := by decide +kernel
theorem dX9_addInk_5 : decode cX9_addInk 5 = .ok (.getfield 12, 3) := by decide +kernel
theorem dX9_addInk_8 : decode cX9_addInk 8 = .ok (.invokevirtual 69, 3) := by decide +kernel
theorem dX9_addInk_11 : decode cX9_addInk 11 = .ok (.aload_n 0, 1) := by decide +kernel
theorem dX9_addInk_12 : decode cX9_addInk 12 = .ok (.aload_n 0, 1) := by decide +kernel
theorem dX9_addInk_13 : decode cX9_addInk 13 = .ok (.getfield 12, 3) := by decide +kernel
theorem dX9_addInk_16 : decode cX9_addInk 16 = .ok (.iload_n 1, 1) := by decide +kernel
theorem dX9_addInk_17 : decode cX9_addInk 17 = .ok (.iload_n 2, 1) := by decide +kernel
theorem dX9_addInk_18 : decode cX9_addInk 18 = .ok (.invokevirtual 236, 3) := by decide +kernel
theorem dX9_addInk_21 : decode cX9_addInk 21 = .ok (.invokevirtual 77, 3) := by decide +kernel
theorem dX9_addInk_24 : decode cX9_addInk 24 = .ok (.ireturn, 1) := by decide +kernel
theorem dX9_drops_0 : decode cX9_drops 0 = .ok (.iload_n 1, 1) := by decide +kernel
theorem dX9_drops_1 : decode cX9_drops 1 = .ok (.invokestatic 239, 3) := by decide +kernel
theorem dX9_drops_4 : decode cX9_drops 4 = .ok (.ifCond .ne 13, 3) := by decide +kernel
theorem dX9_drops_7 : decode cX9_drops 7 = .ok (.new 127, 3) := by decide +kernel
theorem dX9_drops_10 : decode cX9_drops 10 = .ok (.dup, 1) := by decide +kernel
theorem dX9_drops_11 : decode cX9_drops 11 = .ok (.ldc 243, 2) := by decide +kernel
theorem dX9_drops_13 : decode cX9_drops 13 = .ok (.invokespecial 131, 3) := by decide +kernel
theorem dX9_drops_16 : decode cX9_drops 16 = .ok (.athrow, 1) := by decide +kernel
theorem dX9_drops_17 : decode cX9_drops 17 = .ok (.aload_n 0, 1) := by decide +kernel
theorem dX9_drops_18 : decode cX9_drops 18 = .ok (.getfield 12, 3) := by decide +kernel
theorem dX9_drops_21 : decode cX9_drops 21 = .ok (.getfield 245, 3) := by decide +kernel
theorem dX9_drops_24 : decode cX9_drops 24 = .ok (.iload_n 1, 1) := by decide +kernel
theorem dX9_drops_25 : decode cX9_drops 25 = .ok (.invokestatic 248, 3) := by decide +kernel
theorem dX9_drops_28 : decode cX9_drops 28 = .ok (.iaload, 1) := by decide +kernel
theorem dX9_drops_29 : decode cX9_drops 29 = .ok (.ireturn, 1) := by decide +kernel
theorem dX9_passHours_0 : decode cX9_passHours 0 = .ok (.aload_n 0, 1) := by decide +kernel
theorem dX9_passHours_1 : decode cX9_passHours 1 = .ok (.getfield 22, 3) := by decide +kernel
theorem dX9_passHours_4 : decode cX9_passHours 4 = .ok (.aload_n 0, 1) := by decide +kernel
theorem dX9_passHours_5 : decode cX9_passHours 5 = .ok (.getfield 12, 3) := by decide +kernel
theorem dX9_passHours_8 : decode cX9_passHours 8 = .ok (.invokevirtual 69, 3) := by decide +kernel
theorem dX9_passHours_11 : decode cX9_passHours 11 = .ok (.aload_n 0, 1) := by decide +kernel
theorem dX9_passHours_12 : decode cX9_passHours 12 = .ok (.aload_n 0, 1) := by decide +kernel
theorem dX9_passHours_13 : decode cX9_passHours 13 = .ok (.getfield 12, 3) := by decide +kernel
theorem dX9_passHours_16 : decode cX9_passHours 16 = .ok (.iload_n 1, 1) := by decide +kernel
theorem dX9_passHours_17 : decode cX9_passHours 17 = .ok (.invokevirtual 251, 3) := by decide +kernel
theorem dX9_passHours_20 : decode cX9_passHours 20 = .ok (.invokevirtual 77, 3) := by decide +kernel
theorem dX9_passHours_23 : decode cX9_passHours 23 = .ok (.ireturn, 1) := by decide +kernel
theorem dX9_hour_0 : decode cX9_hour 0 = .ok (.aload_n 0, 1) := by decide +kernel
theorem dX9_hour_1 : decode cX9_hour 1 = .ok (.getfield 12, 3) := by decide +kernel
theorem dX9_hour_4 : decode cX9_hour 4 = .ok (.getfield 254, 3) := by decide +kernel
theorem dX9_hour_7 : decode cX9_hour 7 = .ok (.ireturn, 1) := by decide +kernel
theorem dX9_hoursUntilDry_0 : decode cX9_hoursUntilDry 0 = .ok (.aload_n 0, 1) := by decide +kernel
theorem dX9_hoursUntilDry_1 : decode cX9_hoursUntilDry 1 = .ok (.iload_n 1, 1) := by decide +kernel
theorem dX9_hoursUntilDry_2 : decode cX9_hoursUntilDry 2 = .ok (.invokevirtual 162, 3) := by decide +kernel
theorem dX9_hoursUntilDry_5 : decode cX9_hoursUntilDry 5 = .ok (.aload_n 0, 1) := by decide +kernel
theorem dX9_hoursUntilDry_6 : decode cX9_hoursUntilDry 6 = .ok (.getfield 12, 3) := by decide +kernel
theorem dX9_hoursUntilDry_9 : decode cX9_hoursUntilDry 9 = .ok (.getfield 254, 3) := by decide +kernel
theorem dX9_hoursUntilDry_12 : decode cX9_hoursUntilDry 12 = .ok (.invokevirtual 257, 3) := by decide +kernel
theorem dX9_hoursUntilDry_15 : decode cX9_hoursUntilDry 15 = .ok (.ireturn, 1) := by decide +kernel
theorem dX9_hoursUntilDryAtOnce_0 : decode cX9_hoursUntilDryAtOnce 0 = .ok (.aload_n 0, 1) := by decide +kernel
theorem dX9_hoursUntilDryAtOnce_1 : decode cX9_hoursUntilDryAtOnce 1 = .ok (.iload_n 1, 1) := by decide +kernel
theorem dX9_hoursUntilDryAtOnce_2 : decode cX9_hoursUntilDryAtOnce 2 = .ok (.invokevirtual 162, 3) := by decide +kernel
theorem dX9_hoursUntilDryAtOnce_5 : decode cX9_hoursUntilDryAtOnce 5 = .ok (.aload_n 0, 1) := by decide +kernel
theorem dX9_hoursUntilDryAtOnce_6 : decode cX9_hoursUntilDryAtOnce 6 = .ok (.getfield 12, 3) := by decide +kernel
theorem dX9_hoursUntilDryAtOnce_9 : decode cX9_hoursUntilDryAtOnce 9 = .ok (.getfield 254, 3) := by decide +kernel
theorem dX9_hoursUntilDryAtOnce_12 : decode cX9_hoursUntilDryAtOnce 12 = .ok (.invokevirtual 260, 3) := by decide +kernel
theorem dX9_hoursUntilDryAtOnce_15 : decode cX9_hoursUntilDryAtOnce 15 = .ok (.ireturn, 1) := by decide +kernel
theorem dX9_refusalReason_0 : decode cX9_refusalReason 0 = .ok (.aload_n 0, 1) := by decide +kernel
theorem dX9_refusalReason_1 : decode cX9_refusalReason 1 = .ok (.invokevirtual 263, 3) := by decide +kernel
theorem dX9_refusalReason_4 : decode cX9_refusalReason 4 = .ok (.aload_n 0, 1) := by decide +kernel
theorem dX9_refusalReason_5 : decode cX9_refusalReason 5 = .ok (.getfield 36, 3) := by decide +kernel
theorem dX9_refusalReason_8 : decode cX9_refusalReason 8 = .ok (.getfield 266, 3) := by decide +kernel
theorem dX9_refusalReason_11 : decode cX9_refusalReason 11 = .ok (.ireturn, 1) := by decide +kernel
theorem dX9_refusalDetail_0 : decode cX9_refusalDetail 0 = .ok (.aload_n 0, 1) := by decide +kernel
theorem dX9_refusalDetail_1 : decode cX9_refusalDetail 1 = .ok (.invokevirtual 263, 3) := by decide +kernel
theorem dX9_refusalDetail_4 : decode cX9_refusalDetail 4 = .ok (.aload_n 0, 1) := by decide +kernel
theorem dX9_refusalDetail_5 : decode cX9_refusalDetail 5 = .ok (.getfield 36, 3) := by decide +kernel
theorem dX9_refusalDetail_8 : decode cX9_refusalDetail 8 = .ok (.getfield 269, 3) := by decide +kernel
theorem dX9_refusalDetail_11 : decode cX9_refusalDetail 11 = .ok (.ireturn, 1) := by decide +kernel
theorem dX9_meanWetness_0 : decode cX9_meanWetness 0 = .ok (.aload_n 0, 1) := by decide +kernel
theorem dX9_meanWetness_1 : decode cX9_meanWetness 1 = .ok (.invokevirtual 272, 3) := by decide +kernel
theorem dX9_meanWetness_4 : decode cX9_meanWetness 4 = .ok (.iconst 0, 1) := by decide +kernel
theorem dX9_meanWetness_5 : decode cX9_meanWetness 5 = .ok (.istore_n 1, 1) := by decide +kernel
theorem dX9_meanWetness_6 : decode cX9_meanWetness 6 = .ok (.iconst 0, 1) := by decide +kernel
theorem dX9_meanWetness_7 : decode cX9_meanWetness 7 = .ok (.istore_n 2, 1) := by decide +kernel
theorem dX9_meanWetness_8 : decode cX9_meanWetness 8 = .ok (.iload_n 2, 1) := by decide +kernel
theorem dX9_meanWetness_9 : decode cX9_meanWetness 9 = .ok (.aload_n 0, 1) := by decide +kernel
theorem dX9_meanWetness_10 : decode cX9_meanWetness 10 = .ok (.getfield 12, 3) := by decide +kernel
theorem dX9_meanWetness_13 : decode cX9_meanWetness 13 = .ok (.getfield 172, 3) := by decide +kernel
theorem dX9_meanWetness_16 : decode cX9_meanWetness 16 = .ok (.if_icmp .ge 24, 3) := by decide +kernel
theorem dX9_meanWetness_19 : decode cX9_meanWetness 19 = .ok (.iload_n 1, 1) := by decide +kernel
theorem dX9_meanWetness_20 : decode cX9_meanWetness 20 = .ok (.aload_n 0, 1) := by decide +kernel
theorem dX9_meanWetness_21 : decode cX9_meanWetness 21 = .ok (.getfield 12, 3) := by decide +kernel
theorem dX9_meanWetness_24 : decode cX9_meanWetness 24 = .ok (.getfield 199, 3) := by decide +kernel
theorem dX9_meanWetness_27 : decode cX9_meanWetness 27 = .ok (.iload_n 2, 1) := by decide +kernel
theorem dX9_meanWetness_28 : decode cX9_meanWetness 28 = .ok (.aaload, 1) := by decide +kernel
theorem dX9_meanWetness_29 : decode cX9_meanWetness 29 = .ok (.getfield 187, 3) := by decide +kernel
theorem dX9_meanWetness_32 : decode cX9_meanWetness 32 = .ok (.iadd, 1) := by decide +kernel
theorem dX9_meanWetness_33 : decode cX9_meanWetness 33 = .ok (.istore_n 1, 1) := by decide +kernel
theorem dX9_meanWetness_34 : decode cX9_meanWetness 34 = .ok (.iinc 2 1, 3) := by decide +kernel
theorem dX9_meanWetness_37 : decode cX9_meanWetness 37 = .ok (.goto (-29), 3) := by decide +kernel
theorem dX9_meanWetness_40 : decode cX9_meanWetness 40 = .ok (.iload_n 1, 1) := by decide +kernel
theorem dX9_meanWetness_41 : decode cX9_meanWetness 41 = .ok (.i2d, 1) := by decide +kernel
theorem dX9_meanWetness_42 : decode cX9_meanWetness 42 = .ok (.aload_n 0, 1) := by decide +kernel
theorem dX9_meanWetness_43 : decode cX9_meanWetness 43 = .ok (.getfield 12, 3) := by decide +kernel
theorem dX9_meanWetness_46 : decode cX9_meanWetness 46 = .ok (.getfield 172, 3) := by decide +kernel
theorem dX9_meanWetness_49 : decode cX9_meanWetness 49 = .ok (.i2d, 1) := by decide +kernel
theorem dX9_meanWetness_50 : decode cX9_meanWetness 50 = .ok (.ddiv, 1) := by decide +kernel
theorem dX9_meanWetness_51 : decode cX9_meanWetness 51 = .ok (.dreturn, 1) := by decide +kernel
theorem dX9_smearedFraction_0 : decode cX9_smearedFraction 0 = .ok (.aload_n 0, 1) := by decide +kernel
theorem dX9_smearedFraction_1 : decode cX9_smearedFraction 1 = .ok (.invokevirtual 272, 3) := by decide +kernel
theorem dX9_smearedFraction_4 : decode cX9_smearedFraction 4 = .ok (.iconst 0, 1) := by decide +kernel
theorem dX9_smearedFraction_5 : decode cX9_smearedFraction 5 = .ok (.istore_n 1, 1) := by decide +kernel
theorem dX9_smearedFraction_6 : decode cX9_smearedFraction 6 = .ok (.iconst 0, 1) := by decide +kernel
theorem dX9_smearedFraction_7 : decode cX9_smearedFraction 7 = .ok (.istore_n 2, 1) := by decide +kernel
theorem dX9_smearedFraction_8 : decode cX9_smearedFraction 8 = .ok (.iload_n 2, 1) := by decide +kernel
theorem dX9_smearedFraction_9 : decode cX9_smearedFraction 9 = .ok (.aload_n 0, 1) := by decide +kernel
theorem dX9_smearedFraction_10 : decode cX9_smearedFraction 10 = .ok (.getfield 12, 3) := by decide +kernel
theorem dX9_smearedFraction_13 : decode cX9_smearedFraction 13 = .ok (.getfield 172, 3) := by decide +kernel
theorem dX9_smearedFraction_16 : decode cX9_smearedFraction 16 = .ok (.if_icmp .ge 27, 3) := by decide +kernel
theorem dX9_smearedFraction_19 : decode cX9_smearedFraction 19 = .ok (.aload_n 0, 1) := by decide +kernel
theorem dX9_smearedFraction_20 : decode cX9_smearedFraction 20 = .ok (.getfield 12, 3) := by decide +kernel
theorem dX9_smearedFraction_23 : decode cX9_smearedFraction 23 = .ok (.getfield 199, 3) := by decide +kernel
theorem dX9_smearedFraction_26 : decode cX9_smearedFraction 26 = .ok (.iload_n 2, 1) := by decide +kernel
theorem dX9_smearedFraction_27 : decode cX9_smearedFraction 27 = .ok (.aaload, 1) := by decide +kernel
theorem dX9_smearedFraction_28 : decode cX9_smearedFraction 28 = .ok (.getfield 190, 3) := by decide +kernel
theorem dX9_smearedFraction_31 : decode cX9_smearedFraction 31 = .ok (.ifCond .le 6, 3) := by decide +kernel
theorem dX9_smearedFraction_34 : decode cX9_smearedFraction 34 = .ok (.iinc 1 1, 3) := by decide +kernel
theorem dX9_smearedFraction_37 : decode cX9_smearedFraction 37 = .ok (.iinc 2 1, 3) := by decide +kernel
theorem dX9_smearedFraction_40 : decode cX9_smearedFraction 40 = .ok (.goto (-32), 3) := by decide +kernel
theorem dX9_smearedFraction_43 : decode cX9_smearedFraction 43 = .ok (.iload_n 1, 1) := by decide +kernel
theorem dX9_smearedFraction_44 : decode cX9_smearedFraction 44 = .ok (.i2f, 1) := by decide +kernel
theorem dX9_smearedFraction_45 : decode cX9_smearedFraction 45 = .ok (.aload_n 0, 1) := by decide +kernel
theorem dX9_smearedFraction_46 : decode cX9_smearedFraction 46 = .ok (.getfield 12, 3) := by decide +kernel
theorem dX9_smearedFraction_49 : decode cX9_smearedFraction 49 = .ok (.getfield 172, 3) := by decide +kernel
theorem dX9_smearedFraction_52 : decode cX9_smearedFraction 52 = .ok (.i2f, 1) := by decide +kernel
theorem dX9_smearedFraction_53 : decode cX9_smearedFraction 53 = .ok (.fdiv, 1) := by decide +kernel
theorem dX9_smearedFraction_54 : decode cX9_smearedFraction 54 = .ok (.freturn, 1) := by decide +kernel
theorem dX9_writeRow_0 : decode cX9_writeRow 0 = .ok (.aload_n 0, 1) := by decide +kernel
theorem dX9_writeRow_1 : decode cX9_writeRow 1 = .ok (.iload_n 1, 1) := by decide +kernel
theorem dX9_writeRow_2 : decode cX9_writeRow 2 = .ok (.invokevirtual 162, 3) := by decide +kernel
theorem dX9_writeRow_5 : decode cX9_writeRow 5 = .ok (.astore_n 3, 1) := by decide +kernel
theorem dX9_writeRow_6 : decode cX9_writeRow 6 = .ok (.iconst 0, 1) := by decide +kernel
theorem dX9_writeRow_7 : decode cX9_writeRow 7 = .ok (.iload_n 2, 1) := by decide +kernel
theorem dX9_writeRow_8 : decode cX9_writeRow 8 = .ok (.invokestatic 110, 3) := by decide +kernel
theorem dX9_writeRow_11 : decode cX9_writeRow 11 = .ok (.iconst 0, 1) := by decide +kernel
theorem dX9_writeRow_12 : decode cX9_writeRow 12 = .ok (.istore 4, 2) := by decide +kernel
theorem dX9_writeRow_14 : decode cX9_writeRow 14 = .ok (.iload 4, 2) := by decide +kernel
theorem dX9_writeRow_16 : decode cX9_writeRow 16 = .ok (.bipush 16, 2) := by decide +kernel
theorem dX9_writeRow_18 : decode cX9_writeRow 18 = .ok (.if_icmp .ge 41, 3) := by decide +kernel
theorem dX9_writeRow_21 : decode cX9_writeRow 21 = .ok (.aload_n 3, 1) := by decide +kernel
theorem dX9_writeRow_22 : decode cX9_writeRow 22 = .ok (.iload 4, 2) := by decide +kernel
theorem dX9_writeRow_24 : decode cX9_writeRow 24 = .ok (.iload_n 2, 1) := by decide +kernel
theorem dX9_writeRow_25 : decode cX9_writeRow 25 = .ok (.invokevirtual 175, 3) := by decide +kernel
theorem dX9_writeRow_28 : decode cX9_writeRow 28 = .ok (.istore 5, 2) := by decide +kernel
theorem dX9_writeRow_30 : decode cX9_writeRow 30 = .ok (.aload_n 0, 1) := by decide +kernel
theorem dX9_writeRow_31 : decode cX9_writeRow 31 = .ok (.getfield 47, 3) := by decide +kernel
theorem dX9_writeRow_34 : decode cX9_writeRow 34 = .ok (.iload 4, 2) := by decide +kernel
theorem dX9_writeRow_36 : decode cX9_writeRow 36 = .ok (.iload 5, 2) := by decide +kernel
theorem dX9_writeRow_38 : decode cX9_writeRow 38 = .ok (.ifCond .ne 8, 3) := by decide +kernel
theorem dX9_writeRow_41 : decode cX9_writeRow 41 = .ok (.bipush 46, 2) := by decide +kernel
theorem dX9_writeRow_43 : decode cX9_writeRow 43 = .ok (.goto 9, 3) := by decide +kernel
theorem dX9_writeRow_46 : decode cX9_writeRow 46 = .ok (.bipush 48, 2) := by decide +kernel
theorem dX9_writeRow_48 : decode cX9_writeRow 48 = .ok (.iload 5, 2) := by decide +kernel
theorem dX9_writeRow_50 : decode cX9_writeRow 50 = .ok (.iadd, 1) := by decide +kernel
theorem dX9_writeRow_51 : decode cX9_writeRow 51 = .ok (.i2c, 1) := by decide +kernel
theorem dX9_writeRow_52 : decode cX9_writeRow 52 = .ok (.castore, 1) := by decide +kernel
theorem dX9_writeRow_53 : decode cX9_writeRow 53 = .ok (.iinc 4 1, 3) := by decide +kernel
theorem dX9_writeRow_56 : decode cX9_writeRow 56 = .ok (.goto (-42), 3) := by decide +kernel
theorem dX9_writeRow_59 : decode cX9_writeRow 59 = .ok (.aload_n 0, 1) := by decide +kernel
theorem dX9_writeRow_60 : decode cX9_writeRow 60 = .ok (.bipush 16, 2) := by decide +kernel
theorem dX9_writeRow_62 : decode cX9_writeRow 62 = .ok (.putfield 55, 3) := by decide +kernel
theorem dX9_writeRow_65 : decode cX9_writeRow 65 = .ok (.aload_n 0, 1) := by decide +kernel
theorem dX9_writeRow_66 : decode cX9_writeRow 66 = .ok (.getfield 55, 3) := by decide +kernel
theorem dX9_writeRow_69 : decode cX9_writeRow 69 = .ok (.ireturn, 1) := by decide +kernel
theorem dX9_outputCharacter_0 : decode cX9_outputCharacter 0 = .ok (.iload_n 1, 1) := by decide +kernel
theorem dX9_outputCharacter_1 : decode cX9_outputCharacter 1 = .ok (.ifCond .lt 11, 3) := by decide +kernel
theorem dX9_outputCharacter_4 : decode cX9_outputCharacter 4 = .ok (.iload_n 1, 1) := by decide +kernel
theorem dX9_outputCharacter_5 : decode cX9_outputCharacter 5 = .ok (.aload_n 0, 1) := by decide +kernel
theorem dX9_outputCharacter_6 : decode cX9_outputCharacter 6 = .ok (.getfield 55, 3) := by decide +kernel
theorem dX9_outputCharacter_9 : decode cX9_outputCharacter 9 = .ok (.if_icmp .lt 14, 3) := by decide +kernel
theorem dX9_outputCharacter_12 : decode cX9_outputCharacter 12 = .ok (.new 226, 3) := by decide +kernel
theorem dX9_outputCharacter_15 : decode cX9_outputCharacter 15 = .ok (.dup, 1) := by decide +kernel
theorem dX9_outputCharacter_16 : decode cX9_outputCharacter 16 = .ok (.ldc_w 275, 3) := by decide +kernel
theorem dX9_outputCharacter_19 : decode cX9_outputCharacter 19 = .ok (.invokespecial 230, 3) := by decide +kernel
theorem dX9_outputCharacter_22 : decode cX9_outputCharacter 22 = .ok (.athrow, 1) := by decide +kernel
theorem dX9_outputCharacter_23 : decode cX9_outputCharacter 23 = .ok (.aload_n 0, 1) := by decide +kernel
theorem dX9_outputCharacter_24 : decode cX9_outputCharacter 24 = .ok (.getfield 47, 3) := by decide +kernel
theorem dX9_outputCharacter_27 : decode cX9_outputCharacter 27 = .ok (.iload_n 1, 1) := by decide +kernel
theorem dX9_outputCharacter_28 : decode cX9_outputCharacter 28 = .ok (.caload, 1) := by decide +kernel
theorem dX9_outputCharacter_29 : decode cX9_outputCharacter 29 = .ok (.ireturn, 1) := by decide +kernel
theorem dX9_isConsistent_0 : decode cX9_isConsistent 0 = .ok (.aload_n 0, 1) := by decide +kernel
theorem dX9_isConsistent_1 : decode cX9_isConsistent 1 = .ok (.invokevirtual 277, 3) := by decide +kernel
theorem dX9_isConsistent_4 : decode cX9_isConsistent 4 = .ok (.ifCond .eq 14, 3) := by decide +kernel
theorem dX9_isConsistent_7 : decode cX9_isConsistent 7 = .ok (.aload_n 0, 1) := by decide +kernel
theorem dX9_isConsistent_8 : decode cX9_isConsistent 8 = .ok (.invokevirtual 280, 3) := by decide +kernel
theorem dX9_isConsistent_11 : decode cX9_isConsistent 11 = .ok (.ifCond .eq 7, 3) := by decide +kernel
theorem dX9_isConsistent_14 : decode cX9_isConsistent 14 = .ok (.iconst 1, 1) := by decide +kernel
theorem dX9_isConsistent_15 : decode cX9_isConsistent 15 = .ok (.goto 4, 3) := by decide +kernel
theorem dX9_isConsistent_18 : decode cX9_isConsistent 18 = .ok (.iconst 0, 1) := by decide +kernel
theorem dX9_isConsistent_19 : decode cX9_isConsistent 19 = .ok (.ireturn, 1) := by decide +kernel
theorem dX9_feed_0 : decode cX9_feed 0 = .ok (.aload_n 0, 1) := by decide +kernel
theorem dX9_feed_1 : decode cX9_feed 1 = .ok (.getfield 43, 3) := by decide +kernel
theorem dX9_feed_4 : decode cX9_feed 4 = .ok (.invokevirtual 283, 3) := by decide +kernel
theorem dX9_feed_7 : decode cX9_feed 7 = .ok (.ifCond .eq 14, 3) := by decide +kernel
theorem dX9_feed_10 : decode cX9_feed 10 = .ok (.new 286, 3) := by decide +kernel
theorem dX9_feed_13 : decode cX9_feed 13 = .ok (.dup, 1) := by decide +kernel
theorem dX9_feed_14 : decode cX9_feed 14 = .ok (.ldc_w 288, 3) := by decide +kernel
theorem dX9_feed_17 : decode cX9_feed 17 = .ok (.invokespecial 290, 3) := by decide +kernel
theorem dX9_feed_20 : decode cX9_feed 20 = .ok (.athrow, 1) := by decide +kernel
theorem dX9_feed_21 : decode cX9_feed 21 = .ok (.aload_n 0, 1) := by decide +kernel
theorem dX9_feed_22 : decode cX9_feed 22 = .ok (.getfield 43, 3) := by decide +kernel
theorem dX9_feed_25 : decode cX9_feed 25 = .ok (.iload_n 1, 1) := by decide +kernel
theorem dX9_feed_26 : decode cX9_feed 26 = .ok (.invokevirtual 291, 3) := by decide +kernel
theorem dX9_feed_29 : decode cX9_feed 29 = .ok (.ireturn, 1) := by decide +kernel
theorem dX9_execute_0 : decode cX9_execute 0 = .ok (.aload_n 0, 1) := by decide +kernel
theorem dX9_execute_1 : decode cX9_execute 1 = .ok (.getfield 43, 3) := by decide +kernel
theorem dX9_execute_4 : decode cX9_execute 4 = .ok (.invokevirtual 295, 3) := by decide +kernel
theorem dX9_execute_7 : decode cX9_execute 7 = .ok (.istore_n 1, 1) := by decide +kernel
theorem dX9_execute_8 : decode cX9_execute 8 = .ok (.iload_n 1, 1) := by decide +kernel
theorem dX9_execute_9 : decode cX9_execute 9 = .ok (.iconst (-1), 1) := by decide +kernel
theorem dX9_execute_10 : decode cX9_execute 10 = .ok (.if_icmp .ne 32, 3) := by decide +kernel
theorem dX9_execute_13 : decode cX9_execute 13 = .ok (.aload_n 0, 1) := by decide +kernel
theorem dX9_execute_14 : decode cX9_execute 14 = .ok (.aload_n 0, 1) := by decide +kernel
theorem dX9_execute_15 : decode cX9_execute 15 = .ok (.getfield 43, 3) := by decide +kernel
theorem dX9_execute_18 : decode cX9_execute 18 = .ok (.getfield 298, 3) := by decide +kernel
theorem dX9_execute_21 : decode cX9_execute 21 = .ok (.putfield 59, 3) := by decide +kernel
theorem dX9_execute_24 : decode cX9_execute 24 = .ok (.aload_n 0, 1) := by decide +kernel
theorem dX9_execute_25 : decode cX9_execute 25 = .ok (.getfield 43, 3) := by decide +kernel
theorem dX9_execute_28 : decode cX9_execute 28 = .ok (.invokevirtual 301, 3) := by decide +kernel
theorem dX9_execute_31 : decode cX9_execute 31 = .ok (.new 127, 3) := by decide +kernel
theorem dX9_execute_34 : decode cX9_execute 34 = .ok (.dup, 1) := by decide +kernel
theorem dX9_execute_35 : decode cX9_execute 35 = .ok (.ldc_w 304, 3) := by decide +kernel
theorem dX9_execute_38 : decode cX9_execute 38 = .ok (.invokespecial 131, 3) := by decide +kernel
theorem dX9_execute_41 : decode cX9_execute 41 = .ok (.athrow, 1) := by decide +kernel
theorem dX9_execute_42 : decode cX9_execute 42 = .ok (.aload_n 0, 1) := by decide +kernel
theorem dX9_execute_43 : decode cX9_execute 43 = .ok (.getfield 22, 3) := by decide +kernel
theorem dX9_execute_46 : decode cX9_execute 46 = .ok (.aload_n 0, 1) := by decide +kernel
theorem dX9_execute_47 : decode cX9_execute 47 = .ok (.getfield 12, 3) := by decide +kernel
theorem dX9_execute_50 : decode cX9_execute 50 = .ok (.invokevirtual 69, 3) := by decide +kernel
theorem dX9_execute_53 : decode cX9_execute 53 = .ok (.aload_n 0, 1) := by decide +kernel
theorem dX9_execute_54 : decode cX9_execute 54 = .ok (.iload_n 1, 1) := by decide +kernel
theorem dX9_execute_55 : decode cX9_execute 55 = .ok (.invokevirtual 306, 3) := by decide +kernel
theorem dX9_execute_58 : decode cX9_execute 58 = .ok (.istore_n 2, 1) := by decide +kernel
theorem dX9_execute_59 : decode cX9_execute 59 = .ok (.aload_n 0, 1) := by decide +kernel
theorem dX9_execute_60 : decode cX9_execute 60 = .ok (.getfield 43, 3) := by decide +kernel
theorem dX9_execute_63 : decode cX9_execute 63 = .ok (.invokevirtual 301, 3) := by decide +kernel
theorem dX9_execute_66 : decode cX9_execute 66 = .ok (.iload_n 2, 1) := by decide +kernel
theorem dX9_execute_67 : decode cX9_execute 67 = .ok (.iconst (-1), 1) := by decide +kernel
theorem dX9_execute_68 : decode cX9_execute 68 = .ok (.if_icmp .eq 33, 3) := by decide +kernel
theorem dX9_execute_71 : decode cX9_execute 71 = .ok (.aload_n 0, 1) := by decide +kernel
theorem dX9_execute_72 : decode cX9_execute 72 = .ok (.getfield 12, 3) := by decide +kernel
theorem dX9_execute_75 : decode cX9_execute 75 = .ok (.aload_n 0, 1) := by decide +kernel
theorem dX9_execute_76 : decode cX9_execute 76 = .ok (.getfield 22, 3) := by decide +kernel
theorem dX9_execute_79 : decode cX9_execute 79 = .ok (.invokevirtual 309, 3) := by decide +kernel
theorem dX9_execute_82 : decode cX9_execute 82 = .ok (.invokevirtual 313, 3) := by decide +kernel
theorem dX9_execute_85 : decode cX9_execute 85 = .ok (.aload_n 0, 1) := by decide +kernel
theorem dX9_execute_86 : decode cX9_execute 86 = .ok (.iload_n 2, 1) := by decide +kernel
theorem dX9_execute_87 : decode cX9_execute 87 = .ok (.putfield 62, 3) := by decide +kernel
theorem dX9_execute_90 : decode cX9_execute 90 = .ok (.new 316, 3) := by decide +kernel
theorem dX9_execute_93 : decode cX9_execute 93 = .ok (.dup, 1) := by decide +kernel
theorem dX9_execute_94 : decode cX9_execute 94 = .ok (.ldc_w 318, 3) := by decide +kernel
theorem dX9_execute_97 : decode cX9_execute 97 = .ok (.invokespecial 320, 3) := by decide +kernel
theorem dX9_execute_100 : decode cX9_execute 100 = .ok (.athrow, 1) := by decide +kernel
theorem dX9_execute_101 : decode cX9_execute 101 = .ok (.aload_n 0, 1) := by decide +kernel
theorem dX9_execute_102 : decode cX9_execute 102 = .ok (.getfield 22, 3) := by decide +kernel
theorem dX9_execute_105 : decode cX9_execute 105 = .ok (.invokevirtual 321, 3) := by decide +kernel
theorem dX9_execute_108 : decode cX9_execute 108 = .ok (.iload_n 1, 1) := by decide +kernel
theorem dX9_execute_109 : decode cX9_execute 109 = .ok (.ireturn, 1) := by decide +kernel
theorem dX9_errorPosition_0 : decode cX9_errorPosition 0 = .ok (.aload_n 0, 1) := by decide +kernel
theorem dX9_errorPosition_1 : decode cX9_errorPosition 1 = .ok (.getfield 59, 3) := by decide +kernel
theorem dX9_errorPosition_4 : decode cX9_errorPosition 4 = .ok (.iconst (-1), 1) := by decide +kernel
theorem dX9_errorPosition_5 : decode cX9_errorPosition 5 = .ok (.if_icmp .ne 14, 3) := by decide +kernel
theorem dX9_errorPosition_8 : decode cX9_errorPosition 8 = .ok (.new 206, 3) := by decide +kernel
theorem dX9_errorPosition_11 : decode cX9_errorPosition 11 = .ok (.dup, 1) := by decide +kernel
theorem dX9_errorPosition_12 : decode cX9_errorPosition 12 = .ok (.ldc_w 324, 3) := by decide +kernel
theorem dX9_errorPosition_15 : decode cX9_errorPosition 15 = .ok (.invokespecial 210, 3) := by decide +kernel
theorem dX9_errorPosition_18 : decode cX9_errorPosition 18 = .ok (.athrow, 1) := by decide +kernel
theorem dX9_errorPosition_19 : decode cX9_errorPosition 19 = .ok (.aload_n 0, 1) := by decide +kernel
theorem dX9_errorPosition_20 : decode cX9_errorPosition 20 = .ok (.getfield 59, 3) := by decide +kernel
theorem dX9_errorPosition_23 : decode cX9_errorPosition 23 = .ok (.ireturn, 1) := by decide +kernel
theorem dX9_failedCommand_0 : decode cX9_failedCommand 0 = .ok (.aload_n 0, 1) := by decide +kernel
theorem dX9_failedCommand_1 : decode cX9_failedCommand 1 = .ok (.getfield 62, 3) := by decide +kernel
theorem dX9_failedCommand_4 : decode cX9_failedCommand 4 = .ok (.iconst (-1), 1) := by decide +kernel
theorem dX9_failedCommand_5 : decode cX9_failedCommand 5 = .ok (.if_icmp .ne 14, 3) := by decide +kernel
theorem dX9_failedCommand_8 : decode cX9_failedCommand 8 = .ok (.new 206, 3) := by decide +kernel
theorem dX9_failedCommand_11 : decode cX9_failedCommand 11 = .ok (.dup, 1) := by decide +kernel
theorem dX9_failedCommand_12 : decode cX9_failedCommand 12 = .ok (.ldc_w 326, 3) := by decide +kernel
theorem dX9_failedCommand_15 : decode cX9_failedCommand 15 = .ok (.invokespecial 210, 3) := by decide +kernel
theorem dX9_failedCommand_18 : decode cX9_failedCommand 18 = .ok (.athrow, 1) := by decide +kernel
theorem dX9_failedCommand_19 : decode cX9_failedCommand 19 = .ok (.aload_n 0, 1) := by decide +kernel
theorem dX9_failedCommand_20 : decode cX9_failedCommand 20 = .ok (.getfield 62, 3) := by decide +kernel
theorem dX9_failedCommand_23 : decode cX9_failedCommand 23 = .ok (.ireturn, 1) := by decide +kernel
theorem dX9_undo_0 : decode cX9_undo 0 = .ok (.aload_n 0, 1) := by decide +kernel
theorem dX9_undo_1 : decode cX9_undo 1 = .ok (.getfield 22, 3) := by decide +kernel
theorem dX9_undo_4 : decode cX9_undo 4 = .ok (.getfield 328, 3) := by decide +kernel
theorem dX9_undo_7 : decode cX9_undo 7 = .ok (.ifCond .ne 14, 3) := by decide +kernel
theorem dX9_undo_10 : decode cX9_undo 10 = .ok (.new 286, 3) := by decide +kernel
theorem dX9_undo_13 : decode cX9_undo 13 = .ok (.dup, 1) := by decide +kernel
theorem dX9_undo_14 : decode cX9_undo 14 = .ok (.ldc_w 331, 3) := by decide +kernel
theorem dX9_undo_17 : decode cX9_undo 17 = .ok (.invokespecial 290, 3) := by decide +kernel
theorem dX9_undo_20 : decode cX9_undo 20 = .ok (.athrow, 1) := by decide +kernel
theorem dX9_undo_21 : decode cX9_undo 21 = .ok (.aload_n 0, 1) := by decide +kernel
theorem dX9_undo_22 : decode cX9_undo 22 = .ok (.getfield 12, 3) := by decide +kernel
theorem dX9_undo_25 : decode cX9_undo 25 = .ok (.aload_n 0, 1) := by decide +kernel
theorem dX9_undo_26 : decode cX9_undo 26 = .ok (.getfield 22, 3) := by decide +kernel
theorem dX9_undo_29 : decode cX9_undo 29 = .ok (.invokevirtual 333, 3) := by decide +kernel
theorem dX9_undo_32 : decode cX9_undo 32 = .ok (.invokevirtual 313, 3) := by decide +kernel
theorem dX9_undo_35 : decode cX9_undo 35 = .ok (.aload_n 0, 1) := by decide +kernel
theorem dX9_undo_36 : decode cX9_undo 36 = .ok (.getfield 22, 3) := by decide +kernel
theorem dX9_undo_39 : decode cX9_undo 39 = .ok (.getfield 328, 3) := by decide +kernel
theorem dX9_undo_42 : decode cX9_undo 42 = .ok (.ireturn, 1) := by decide +kernel
theorem dX9_undoCount_0 : decode cX9_undoCount 0 = .ok (.aload_n 0, 1) := by decide +kernel
theorem dX9_undoCount_1 : decode cX9_undoCount 1 = .ok (.getfield 22, 3) := by decide +kernel
theorem dX9_undoCount_4 : decode cX9_undoCount 4 = .ok (.getfield 328, 3) := by decide +kernel
theorem dX9_undoCount_7 : decode cX9_undoCount 7 = .ok (.ireturn, 1) := by decide +kernel
theorem dX9_save_0 : decode cX9_save 0 = .ok (.aload_n 0, 1) := by decide +kernel
theorem dX9_save_1 : decode cX9_save 1 = .ok (.getfield 16, 3) := by decide +kernel
theorem dX9_save_4 : decode cX9_save 4 = .ok (.aload_n 0, 1) := by decide +kernel
theorem dX9_save_5 : decode cX9_save 5 = .ok (.getfield 12, 3) := by decide +kernel
theorem dX9_save_8 : decode cX9_save 8 = .ok (.invokevirtual 313, 3) := by decide +kernel
theorem dX9_save_11 : decode cX9_save 11 = .ok (.aload_n 0, 1) := by decide +kernel
theorem dX9_save_12 : decode cX9_save 12 = .ok (.iconst 1, 1) := by decide +kernel
theorem dX9_save_13 : decode cX9_save 13 = .ok (.putfield 65, 3) := by decide +kernel
theorem dX9_save_16 : decode cX9_save 16 = .ok (.aload_n 0, 1) := by decide +kernel
theorem dX9_save_17 : decode cX9_save 17 = .ok (.getfield 12, 3) := by decide +kernel
theorem dX9_save_20 : decode cX9_save 20 = .ok (.getfield 172, 3) := by decide +kernel
theorem dX9_save_23 : decode cX9_save 23 = .ok (.ireturn, 1) := by decide +kernel
theorem dX9_restore_0 : decode cX9_restore 0 = .ok (.aload_n 0, 1) := by decide +kernel
theorem dX9_restore_1 : decode cX9_restore 1 = .ok (.getfield 65, 3) := by decide +kernel
theorem dX9_restore_4 : decode cX9_restore 4 = .ok (.ifCond .ne 14, 3) := by decide +kernel
theorem dX9_restore_7 : decode cX9_restore 7 = .ok (.new 286, 3) := by decide +kernel
theorem dX9_restore_10 : decode cX9_restore 10 = .ok (.dup, 1) := by decide +kernel
theorem dX9_restore_11 : decode cX9_restore 11 = .ok (.ldc_w 336, 3) := by decide +kernel
theorem dX9_restore_14 : decode cX9_restore 14 = .ok (.invokespecial 290, 3) := by decide +kernel
theorem dX9_restore_17 : decode cX9_restore 17 = .ok (.athrow, 1) := by decide +kernel
theorem dX9_restore_18 : decode cX9_restore 18 = .ok (.aload_n 0, 1) := by decide +kernel
theorem dX9_restore_19 : decode cX9_restore 19 = .ok (.getfield 12, 3) := by decide +kernel
theorem dX9_restore_22 : decode cX9_restore 22 = .ok (.aload_n 0, 1) := by decide +kernel
theorem dX9_restore_23 : decode cX9_restore 23 = .ok (.getfield 16, 3) := by decide +kernel
theorem dX9_restore_26 : decode cX9_restore 26 = .ok (.invokevirtual 313, 3) := by decide +kernel
theorem dX9_restore_29 : decode cX9_restore 29 = .ok (.aload_n 0, 1) := by decide +kernel
theorem dX9_restore_30 : decode cX9_restore 30 = .ok (.getfield 22, 3) := by decide +kernel
theorem dX9_restore_33 : decode cX9_restore 33 = .ok (.invokevirtual 338, 3) := by decide +kernel
theorem dX9_restore_36 : decode cX9_restore 36 = .ok (.aload_n 0, 1) := by decide +kernel
theorem dX9_restore_37 : decode cX9_restore 37 = .ok (.getfield 12, 3) := by decide +kernel
theorem dX9_restore_40 : decode cX9_restore 40 = .ok (.getfield 172, 3) := by decide +kernel
theorem dX9_restore_43 : decode cX9_restore 43 = .ok (.ireturn, 1) := by decide +kernel
theorem dX9_settle_0 : decode cX9_settle 0 = .ok (.iload_n 1, 1) := by decide +kernel
theorem dX9_settle_1 : decode cX9_settle 1 = .ok (.invokestatic 339, 3) := by decide +kernel
theorem dX9_settle_4 : decode cX9_settle 4 = .ok (.aload_n 0, 1) := by decide +kernel
theorem dX9_settle_5 : decode cX9_settle 5 = .ok (.getfield 22, 3) := by decide +kernel
theorem dX9_settle_8 : decode cX9_settle 8 = .ok (.invokevirtual 321, 3) := by decide +kernel
theorem dX9_settle_11 : decode cX9_settle 11 = .ok (.iload_n 1, 1) := by decide +kernel
theorem dX9_settle_12 : decode cX9_settle 12 = .ok (.ireturn, 1) := by decide +kernel
theorem dX9_throwForFault_0 : decode cX9_throwForFault 0 = .ok (.iload_n 0, 1) := by decide +kernel
theorem dX9_throwForFault_1 : decode cX9_throwForFault 1 = .ok (.tableswitch 90 (-5) (-1) #[79, 68, 57, 46, 35], 35) := by decide +kernel
theorem dX9_throwForFault_36 : decode cX9_throwForFault 36 = .ok (.new 226, 3) := by decide +kernel
theorem dX9_throwForFault_39 : decode cX9_throwForFault 39 = .ok (.dup, 1) := by decide +kernel
theorem dX9_throwForFault_40 : decode cX9_throwForFault 40 = .ok (.ldc_w 343, 3) := by decide +kernel
theorem dX9_throwForFault_43 : decode cX9_throwForFault 43 = .ok (.invokespecial 230, 3) := by decide +kernel
theorem dX9_throwForFault_46 : decode cX9_throwForFault 46 = .ok (.athrow, 1) := by decide +kernel
theorem dX9_throwForFault_47 : decode cX9_throwForFault 47 = .ok (.new 127, 3) := by decide +kernel
theorem dX9_throwForFault_50 : decode cX9_throwForFault 50 = .ok (.dup, 1) := by decide +kernel
theorem dX9_throwForFault_51 : decode cX9_throwForFault 51 = .ok (.ldc_w 345, 3) := by decide +kernel
theorem dX9_throwForFault_54 : decode cX9_throwForFault 54 = .ok (.invokespecial 131, 3) := by decide +kernel
theorem dX9_throwForFault_57 : decode cX9_throwForFault 57 = .ok (.athrow, 1) := by decide +kernel
theorem dX9_throwForFault_58 : decode cX9_throwForFault 58 = .ok (.new 286, 3) := by decide +kernel
theorem dX9_throwForFault_61 : decode cX9_throwForFault 61 = .ok (.dup, 1) := by decide +kernel
theorem dX9_throwForFault_62 : decode cX9_throwForFault 62 = .ok (.ldc_w 347, 3) := by decide +kernel
theorem dX9_throwForFault_65 : decode cX9_throwForFault 65 = .ok (.invokespecial 290, 3) := by decide +kernel
theorem dX9_throwForFault_68 : decode cX9_throwForFault 68 = .ok (.athrow, 1) := by decide +kernel
theorem dX9_throwForFault_69 : decode cX9_throwForFault 69 = .ok (.new 206, 3) := by decide +kernel
theorem dX9_throwForFault_72 : decode cX9_throwForFault 72 = .ok (.dup, 1) := by decide +kernel
theorem dX9_throwForFault_73 : decode cX9_throwForFault 73 = .ok (.ldc_w 349, 3) := by decide +kernel
theorem dX9_throwForFault_76 : decode cX9_throwForFault 76 = .ok (.invokespecial 210, 3) := by decide +kernel
theorem dX9_throwForFault_79 : decode cX9_throwForFault 79 = .ok (.athrow, 1) := by decide +kernel
theorem dX9_throwForFault_80 : decode cX9_throwForFault 80 = .ok (.new 316, 3) := by decide +kernel
theorem dX9_throwForFault_83 : decode cX9_throwForFault 83 = .ok (.dup, 1) := by decide +kernel
theorem dX9_throwForFault_84 : decode cX9_throwForFault 84 = .ok (.ldc_w 351, 3) := by decide +kernel
theorem dX9_throwForFault_87 : decode cX9_throwForFault 87 = .ok (.invokespecial 320, 3) := by decide +kernel
theorem dX9_throwForFault_90 : decode cX9_throwForFault 90 = .ok (.athrow, 1) := by decide +kernel
theorem dX9_throwForFault_91 : decode cX9_throwForFault 91 = .ok (.return_, 1) := by decide +kernel
theorem dX9_plateAt_0 : decode cX9_plateAt 0 = .ok (.aload_n 0, 1) := by decide +kernel
theorem dX9_plateAt_1 : decode cX9_plateAt 1 = .ok (.getfield 12, 3) := by decide +kernel
theorem dX9_plateAt_4 : decode cX9_plateAt 4 = .ok (.iload_n 1, 1) := by decide +kernel
theorem dX9_plateAt_5 : decode cX9_plateAt 5 = .ok (.invokevirtual 353, 3) := by decide +kernel
theorem dX9_plateAt_8 : decode cX9_plateAt 8 = .ok (.ifCond .ne 14, 3) := by decide +kernel
theorem dX9_plateAt_11 : decode cX9_plateAt 11 = .ok (.new 226, 3) := by decide +kernel
theorem dX9_plateAt_14 : decode cX9_plateAt 14 = .ok (.dup, 1) := by decide +kernel
theorem dX9_plateAt_15 : decode cX9_plateAt 15 = .ok (.ldc_w 356, 3) := by decide +kernel
theorem dX9_plateAt_18 : decode cX9_plateAt 18 = .ok (.invokespecial 230, 3) := by decide +kernel
theorem dX9_plateAt_21 : decode cX9_plateAt 21 = .ok (.athrow, 1) := by decide +kernel
theorem dX9_plateAt_22 : decode cX9_plateAt 22 = .ok (.aload_n 0, 1) := by decide +kernel
theorem dX9_plateAt_23 : decode cX9_plateAt 23 = .ok (.getfield 12, 3) := by decide +kernel
theorem dX9_plateAt_26 : decode cX9_plateAt 26 = .ok (.getfield 358, 3) := by decide +kernel
theorem dX9_plateAt_29 : decode cX9_plateAt 29 = .ok (.iload_n 1, 1) := by decide +kernel
theorem dX9_plateAt_30 : decode cX9_plateAt 30 = .ok (.aaload, 1) := by decide +kernel
theorem dX9_plateAt_31 : decode cX9_plateAt 31 = .ok (.areturn, 1) := by decide +kernel
theorem dX9_sheetAt_0 : decode cX9_sheetAt 0 = .ok (.aload_n 0, 1) := by decide +kernel
theorem dX9_sheetAt_1 : decode cX9_sheetAt 1 = .ok (.getfield 12, 3) := by decide +kernel
theorem dX9_sheetAt_4 : decode cX9_sheetAt 4 = .ok (.iload_n 1, 1) := by decide +kernel
theorem dX9_sheetAt_5 : decode cX9_sheetAt 5 = .ok (.invokevirtual 362, 3) := by decide +kernel
theorem dX9_sheetAt_8 : decode cX9_sheetAt 8 = .ok (.ifCond .ne 14, 3) := by decide +kernel
theorem dX9_sheetAt_11 : decode cX9_sheetAt 11 = .ok (.new 226, 3) := by decide +kernel
theorem dX9_sheetAt_14 : decode cX9_sheetAt 14 = .ok (.dup, 1) := by decide +kernel
theorem dX9_sheetAt_15 : decode cX9_sheetAt 15 = .ok (.ldc_w 365, 3) := by decide +kernel
theorem dX9_sheetAt_18 : decode cX9_sheetAt 18 = .ok (.invokespecial 230, 3) := by decide +kernel
theorem dX9_sheetAt_21 : decode cX9_sheetAt 21 = .ok (.athrow, 1) := by decide +kernel
theorem dX9_sheetAt_22 : decode cX9_sheetAt 22 = .ok (.aload_n 0, 1) := by decide +kernel
theorem dX9_sheetAt_23 : decode cX9_sheetAt 23 = .ok (.getfield 12, 3) := by decide +kernel
theorem dX9_sheetAt_26 : decode cX9_sheetAt 26 = .ok (.getfield 199, 3) := by decide +kernel
theorem dX9_sheetAt_29 : decode cX9_sheetAt 29 = .ok (.iload_n 1, 1) := by decide +kernel
theorem dX9_sheetAt_30 : decode cX9_sheetAt 30 = .ok (.aaload, 1) := by decide +kernel
theorem dX9_sheetAt_31 : decode cX9_sheetAt 31 = .ok (.areturn, 1) := by decide +kernel
theorem dX9_requirePlace_0 : decode cX9_requirePlace 0 = .ok (.iload_n 0, 1) := by decide +kernel
theorem dX9_requirePlace_1 : decode cX9_requirePlace 1 = .ok (.iload_n 1, 1) := by decide +kernel
theorem dX9_requirePlace_2 : decode cX9_requirePlace 2 = .ok (.invokestatic 367, 3) := by decide +kernel
theorem dX9_requirePlace_5 : decode cX9_requirePlace 5 = .ok (.ifCond .ne 14, 3) := by decide +kernel
theorem dX9_requirePlace_8 : decode cX9_requirePlace 8 = .ok (.new 127, 3) := by decide +kernel
theorem dX9_requirePlace_11 : decode cX9_requirePlace 11 = .ok (.dup, 1) := by decide +kernel
theorem dX9_requirePlace_12 : decode cX9_requirePlace 12 = .ok (.ldc_w 370, 3) := by decide +kernel
theorem dX9_requirePlace_15 : decode cX9_requirePlace 15 = .ok (.invokespecial 131, 3) := by decide +kernel
theorem dX9_requirePlace_18 : decode cX9_requirePlace 18 = .ok (.athrow, 1) := by decide +kernel
theorem dX9_requirePlace_19 : decode cX9_requirePlace 19 = .ok (.return_, 1) := by decide +kernel
theorem dX9_requireRefusal_0 : decode cX9_requireRefusal 0 = .ok (.aload_n 0, 1) := by decide +kernel
theorem dX9_requireRefusal_1 : decode cX9_requireRefusal 1 = .ok (.getfield 36, 3) := by decide +kernel
theorem dX9_requireRefusal_4 : decode cX9_requireRefusal 4 = .ok (.getfield 266, 3) := by decide +kernel
theorem dX9_requireRefusal_7 : decode cX9_requireRefusal 7 = .ok (.iconst (-1), 1) := by decide +kernel
theorem dX9_requireRefusal_8 : decode cX9_requireRefusal 8 = .ok (.if_icmp .ne 14, 3) := by decide +kernel
theorem dX9_requireRefusal_11 : decode cX9_requireRefusal 11 = .ok (.new 206, 3) := by decide +kernel
theorem dX9_requireRefusal_14 : decode cX9_requireRefusal 14 = .ok (.dup, 1) := by decide +kernel
theorem dX9_requireRefusal_15 : decode cX9_requireRefusal 15 = .ok (.ldc_w 372, 3) := by decide +kernel
theorem dX9_requireRefusal_18 : decode cX9_requireRefusal 18 = .ok (.invokespecial 210, 3) := by decide +kernel
theorem dX9_requireRefusal_21 : decode cX9_requireRefusal 21 = .ok (.athrow, 1) := by decide +kernel
theorem dX9_requireRefusal_22 : decode cX9_requireRefusal 22 = .ok (.return_, 1) := by decide +kernel
theorem dX9_requireSheets_0 : decode cX9_requireSheets 0 = .ok (.aload_n 0, 1) := by decide +kernel
theorem dX9_requireSheets_1 : decode cX9_requireSheets 1 = .ok (.getfield 12, 3) := by decide +kernel
theorem dX9_requireSheets_4 : decode cX9_requireSheets 4 = .ok (.getfield 172, 3) := by decide +kernel
theorem dX9_requireSheets_7 : decode cX9_requireSheets 7 = .ok (.ifCond .ne 14, 3) := by decide +kernel
theorem dX9_requireSheets_10 : decode cX9_requireSheets 10 = .ok (.new 374, 3) := by decide +kernel
theorem dX9_requireSheets_13 : decode cX9_requireSheets 13 = .ok (.dup, 1) := by decide +kernel
theorem dX9_requireSheets_14 : decode cX9_requireSheets 14 = .ok (.ldc_w 376, 3) := by decide +kernel
theorem dX9_requireSheets_17 : decode cX9_requireSheets 17 = .ok (.invokespecial 378, 3) := by decide +kernel
theorem dX9_requireSheets_20 : decode cX9_requireSheets 20 = .ok (.athrow, 1) := by decide +kernel
theorem dX9_requireSheets_21 : decode cX9_requireSheets 21 = .ok (.return_, 1) := by decide +kernel
theorem dX9_isPlace_0 : decode cX9_isPlace 0 = .ok (.iload_n 0, 1) := by decide +kernel
theorem dX9_isPlace_1 : decode cX9_isPlace 1 = .ok (.ifCond .lt 23, 3) := by decide +kernel
theorem dX9_isPlace_4 : decode cX9_isPlace 4 = .ok (.iload_n 0, 1) := by decide +kernel
theorem dX9_isPlace_5 : decode cX9_isPlace 5 = .ok (.bipush 16, 2) := by decide +kernel
theorem dX9_isPlace_7 : decode cX9_isPlace 7 = .ok (.if_icmp .ge 17, 3) := by decide +kernel
theorem dX9_isPlace_10 : decode cX9_isPlace 10 = .ok (.iload_n 1, 1) := by decide +kernel
theorem dX9_isPlace_11 : decode cX9_isPlace 11 = .ok (.ifCond .lt 13, 3) := by decide +kernel
theorem dX9_isPlace_14 : decode cX9_isPlace 14 = .ok (.iload_n 1, 1) := by decide +kernel
theorem dX9_isPlace_15 : decode cX9_isPlace 15 = .ok (.bipush 8, 2) := by decide +kernel
theorem dX9_isPlace_17 : decode cX9_isPlace 17 = .ok (.if_icmp .ge 7, 3) := by decide +kernel
theorem dX9_isPlace_20 : decode cX9_isPlace 20 = .ok (.iconst 1, 1) := by decide +kernel
theorem dX9_isPlace_21 : decode cX9_isPlace 21 = .ok (.goto 4, 3) := by decide +kernel
theorem dX9_isPlace_24 : decode cX9_isPlace 24 = .ok (.iconst 0, 1) := by decide +kernel
theorem dX9_isPlace_25 : decode cX9_isPlace 25 = .ok (.ireturn, 1) := by decide +kernel
theorem dX9_isShift_0 : decode cX9_isShift 0 = .ok (.iload_n 0, 1) := by decide +kernel
theorem dX9_isShift_1 : decode cX9_isShift 1 = .ok (.bipush (-3), 2) := by decide +kernel
theorem dX9_isShift_3 : decode cX9_isShift 3 = .ok (.if_icmp .lt 23, 3) := by decide +kernel
theorem dX9_isShift_6 : decode cX9_isShift 6 = .ok (.iload_n 0, 1) := by decide +kernel
theorem dX9_isShift_7 : decode cX9_isShift 7 = .ok (.iconst 3, 1) := by decide +kernel
theorem dX9_isShift_8 : decode cX9_isShift 8 = .ok (.if_icmp .gt 18, 3) := by decide +kernel
theorem dX9_isShift_11 : decode cX9_isShift 11 = .ok (.iload_n 1, 1) := by decide +kernel
theorem dX9_isShift_12 : decode cX9_isShift 12 = .ok (.bipush (-3), 2) := by decide +kernel
theorem dX9_isShift_14 : decode cX9_isShift 14 = .ok (.if_icmp .lt 12, 3) := by decide +kernel
theorem dX9_isShift_17 : decode cX9_isShift 17 = .ok (.iload_n 1, 1) := by decide +kernel
theorem dX9_isShift_18 : decode cX9_isShift 18 = .ok (.iconst 3, 1) := by decide +kernel
theorem dX9_isShift_19 : decode cX9_isShift 19 = .ok (.if_icmp .gt 7, 3) := by decide +kernel
theorem dX9_isShift_22 : decode cX9_isShift 22 = .ok (.iconst 1, 1) := by decide +kernel
theorem dX9_isShift_23 : decode cX9_isShift 23 = .ok (.goto 4, 3) := by decide +kernel
theorem dX9_isShift_26 : decode cX9_isShift 26 = .ok (.iconst 0, 1) := by decide +kernel
theorem dX9_isShift_27 : decode cX9_isShift 27 = .ok (.ireturn, 1) := by decide +kernel
theorem dX9_isInk_0 : decode cX9_isInk 0 = .ok (.iload_n 0, 1) := by decide +kernel
theorem dX9_isInk_1 : decode cX9_isInk 1 = .ok (.iconst 1, 1) := by decide +kernel
theorem dX9_isInk_2 : decode cX9_isInk 2 = .ok (.if_icmp .eq 13, 3) := by decide +kernel
theorem dX9_isInk_5 : decode cX9_isInk 5 = .ok (.iload_n 0, 1) := by decide +kernel
theorem dX9_isInk_6 : decode cX9_isInk 6 = .ok (.iconst 2, 1) := by decide +kernel
theorem dX9_isInk_7 : decode cX9_isInk 7 = .ok (.if_icmp .eq 8, 3) := by decide +kernel
theorem dX9_isInk_10 : decode cX9_isInk 10 = .ok (.iload_n 0, 1) := by decide +kernel
theorem dX9_isInk_11 : decode cX9_isInk 11 = .ok (.iconst 4, 1) := by decide +kernel
theorem dX9_isInk_12 : decode cX9_isInk 12 = .ok (.if_icmp .ne 7, 3) := by decide +kernel
theorem dX9_isInk_15 : decode cX9_isInk 15 = .ok (.iconst 1, 1) := by decide +kernel
theorem dX9_isInk_16 : decode cX9_isInk 16 = .ok (.goto 4, 3) := by decide +kernel
theorem dX9_isInk_19 : decode cX9_isInk 19 = .ok (.iconst 0, 1) := by decide +kernel
theorem dX9_isInk_20 : decode cX9_isInk 20 = .ok (.ireturn, 1) := by decide +kernel
theorem dX9_inkIndex_0 : decode cX9_inkIndex 0 = .ok (.iload_n 0, 1) := by decide +kernel
theorem dX9_inkIndex_1 : decode cX9_inkIndex 1 = .ok (.iconst 2, 1) := by decide +kernel
theorem dX9_inkIndex_2 : decode cX9_inkIndex 2 = .ok (.idiv, 1) := by decide +kernel
theorem dX9_inkIndex_3 : decode cX9_inkIndex 3 = .ok (.ireturn, 1) := by decide +kernel
theorem dX9_rankOf_0 : decode cX9_rankOf 0 = .ok (.iconst 0, 1) := by decide +kernel
theorem dX9_rankOf_1 : decode cX9_rankOf 1 = .ok (.istore_n 2, 1) := by decide +kernel
theorem dX9_rankOf_2 : decode cX9_rankOf 2 = .ok (.iconst 0, 1) := by decide +kernel
theorem dX9_rankOf_3 : decode cX9_rankOf 3 = .ok (.istore_n 3, 1) := by decide +kernel
theorem dX9_rankOf_4 : decode cX9_rankOf 4 = .ok (.iload_n 3, 1) := by decide +kernel
theorem dX9_rankOf_5 : decode cX9_rankOf 5 = .ok (.aload_n 0, 1) := by decide +kernel
theorem dX9_rankOf_6 : decode cX9_rankOf 6 = .ok (.getfield 12, 3) := by decide +kernel
theorem dX9_rankOf_9 : decode cX9_rankOf 9 = .ok (.getfield 172, 3) := by decide +kernel
theorem dX9_rankOf_12 : decode cX9_rankOf 12 = .ok (.if_icmp .ge 42, 3) := by decide +kernel
theorem dX9_rankOf_15 : decode cX9_rankOf 15 = .ok (.aload_n 0, 1) := by decide +kernel
theorem dX9_rankOf_16 : decode cX9_rankOf 16 = .ok (.getfield 51, 3) := by decide +kernel
theorem dX9_rankOf_19 : decode cX9_rankOf 19 = .ok (.iload_n 3, 1) := by decide +kernel
theorem dX9_rankOf_20 : decode cX9_rankOf 20 = .ok (.iaload, 1) := by decide +kernel
theorem dX9_rankOf_21 : decode cX9_rankOf 21 = .ok (.aload_n 0, 1) := by decide +kernel
theorem dX9_rankOf_22 : decode cX9_rankOf 22 = .ok (.getfield 51, 3) := by decide +kernel
theorem dX9_rankOf_25 : decode cX9_rankOf 25 = .ok (.iload_n 1, 1) := by decide +kernel
theorem dX9_rankOf_26 : decode cX9_rankOf 26 = .ok (.iaload, 1) := by decide +kernel
theorem dX9_rankOf_27 : decode cX9_rankOf 27 = .ok (.isub, 1) := by decide +kernel
theorem dX9_rankOf_28 : decode cX9_rankOf 28 = .ok (.istore 4, 2) := by decide +kernel
theorem dX9_rankOf_30 : decode cX9_rankOf 30 = .ok (.iload 4, 2) := by decide +kernel
theorem dX9_rankOf_32 : decode cX9_rankOf 32 = .ok (.ifCond .lt 13, 3) := by decide +kernel
theorem dX9_rankOf_35 : decode cX9_rankOf 35 = .ok (.iload 4, 2) := by decide +kernel
theorem dX9_rankOf_37 : decode cX9_rankOf 37 = .ok (.ifCond .ne 11, 3) := by decide +kernel
theorem dX9_rankOf_40 : decode cX9_rankOf 40 = .ok (.iload_n 3, 1) := by decide +kernel
theorem dX9_rankOf_41 : decode cX9_rankOf 41 = .ok (.iload_n 1, 1) := by decide +kernel
theorem dX9_rankOf_42 : decode cX9_rankOf 42 = .ok (.if_icmp .ge 6, 3) := by decide +kernel
theorem dX9_rankOf_45 : decode cX9_rankOf 45 = .ok (.iinc 2 1, 3) := by decide +kernel
theorem dX9_rankOf_48 : decode cX9_rankOf 48 = .ok (.iinc 3 1, 3) := by decide +kernel
theorem dX9_rankOf_51 : decode cX9_rankOf 51 = .ok (.goto (-47), 3) := by decide +kernel
theorem dX9_rankOf_54 : decode cX9_rankOf 54 = .ok (.iload_n 2, 1) := by decide +kernel
theorem dX9_rankOf_55 : decode cX9_rankOf 55 = .ok (.ireturn, 1) := by decide +kernel
theorem dX9_platesAreConsistent_0 : decode cX9_platesAreConsistent 0 = .ok (.iconst 0, 1) := by decide +kernel
theorem dX9_platesAreConsistent_1 : decode cX9_platesAreConsistent 1 = .ok (.istore_n 1, 1) := by decide +kernel
theorem dX9_platesAreConsistent_2 : decode cX9_platesAreConsistent 2 = .ok (.iload_n 1, 1) := by decide +kernel
theorem dX9_platesAreConsistent_3 : decode cX9_platesAreConsistent 3 = .ok (.aload_n 0, 1) := by decide +kernel
theorem dX9_platesAreConsistent_4 : decode cX9_platesAreConsistent 4 = .ok (.getfield 12, 3) := by decide +kernel
theorem dX9_platesAreConsistent_7 : decode cX9_platesAreConsistent 7 = .ok (.getfield 94, 3) := by decide +kernel
theorem dX9_platesAreConsistent_10 : decode cX9_platesAreConsistent 10 = .ok (.if_icmp .ge 90, 3) := by decide +kernel
theorem dX9_platesAreConsistent_13 : decode cX9_platesAreConsistent 13 = .ok (.iconst 0, 1) := by decide +kernel
theorem dX9_platesAreConsistent_14 : decode cX9_platesAreConsistent 14 = .ok (.istore_n 2, 1) := by decide +kernel
theorem dX9_platesAreConsistent_15 : decode cX9_platesAreConsistent 15 = .ok (.iload_n 2, 1) := by decide +kernel
theorem dX9_platesAreConsistent_16 : decode cX9_platesAreConsistent 16 = .ok (.aload_n 0, 1) := by decide +kernel
theorem dX9_platesAreConsistent_17 : decode cX9_platesAreConsistent 17 = .ok (.getfield 12, 3) := by decide +kernel
theorem dX9_platesAreConsistent_20 : decode cX9_platesAreConsistent 20 = .ok (.getfield 94, 3) := by decide +kernel
theorem dX9_platesAreConsistent_23 : decode cX9_platesAreConsistent 23 = .ok (.if_icmp .ge 71, 3) := by decide +kernel
theorem dX9_platesAreConsistent_26 : decode cX9_platesAreConsistent 26 = .ok (.aload_n 0, 1) := by decide +kernel
theorem dX9_platesAreConsistent_27 : decode cX9_platesAreConsistent 27 = .ok (.getfield 29, 3) := by decide +kernel
theorem dX9_platesAreConsistent_30 : decode cX9_platesAreConsistent 30 = .ok (.aload_n 0, 1) := by decide +kernel
theorem dX9_platesAreConsistent_31 : decode cX9_platesAreConsistent 31 = .ok (.getfield 12, 3) := by decide +kernel
theorem dX9_platesAreConsistent_34 : decode cX9_platesAreConsistent 34 = .ok (.getfield 358, 3) := by decide +kernel
theorem dX9_platesAreConsistent_37 : decode cX9_platesAreConsistent 37 = .ok (.iload_n 1, 1) := by decide +kernel
theorem dX9_platesAreConsistent_38 : decode cX9_platesAreConsistent 38 = .ok (.aaload, 1) := by decide +kernel
theorem dX9_platesAreConsistent_39 : decode cX9_platesAreConsistent 39 = .ok (.aload_n 0, 1) := by decide +kernel
theorem dX9_platesAreConsistent_40 : decode cX9_platesAreConsistent 40 = .ok (.getfield 12, 3) := by decide +kernel
theorem dX9_platesAreConsistent_43 : decode cX9_platesAreConsistent 43 = .ok (.getfield 358, 3) := by decide +kernel
theorem dX9_platesAreConsistent_46 : decode cX9_platesAreConsistent 46 = .ok (.iload_n 2, 1) := by decide +kernel
theorem dX9_platesAreConsistent_47 : decode cX9_platesAreConsistent 47 = .ok (.aaload, 1) := by decide +kernel
theorem dX9_platesAreConsistent_48 : decode cX9_platesAreConsistent 48 = .ok (.invokevirtual 138, 3) := by decide +kernel
theorem dX9_platesAreConsistent_51 : decode cX9_platesAreConsistent 51 = .ok (.aload_n 0, 1) := by decide +kernel
theorem dX9_platesAreConsistent_52 : decode cX9_platesAreConsistent 52 = .ok (.getfield 29, 3) := by decide +kernel
theorem dX9_platesAreConsistent_55 : decode cX9_platesAreConsistent 55 = .ok (.getfield 142, 3) := by decide +kernel
theorem dX9_platesAreConsistent_58 : decode cX9_platesAreConsistent 58 = .ok (.aload_n 0, 1) := by decide +kernel
theorem dX9_platesAreConsistent_59 : decode cX9_platesAreConsistent 59 = .ok (.getfield 29, 3) := by decide +kernel
theorem dX9_platesAreConsistent_62 : decode cX9_platesAreConsistent 62 = .ok (.aload_n 0, 1) := by decide +kernel
theorem dX9_platesAreConsistent_63 : decode cX9_platesAreConsistent 63 = .ok (.getfield 12, 3) := by decide +kernel
theorem dX9_platesAreConsistent_66 : decode cX9_platesAreConsistent 66 = .ok (.getfield 358, 3) := by decide +kernel
theorem dX9_platesAreConsistent_69 : decode cX9_platesAreConsistent 69 = .ok (.iload_n 1, 1) := by decide +kernel
theorem dX9_platesAreConsistent_70 : decode cX9_platesAreConsistent 70 = .ok (.aaload, 1) := by decide +kernel
theorem dX9_platesAreConsistent_71 : decode cX9_platesAreConsistent 71 = .ok (.aload_n 0, 1) := by decide +kernel
theorem dX9_platesAreConsistent_72 : decode cX9_platesAreConsistent 72 = .ok (.getfield 12, 3) := by decide +kernel
theorem dX9_platesAreConsistent_75 : decode cX9_platesAreConsistent 75 = .ok (.getfield 358, 3) := by decide +kernel
theorem dX9_platesAreConsistent_78 : decode cX9_platesAreConsistent 78 = .ok (.iload_n 2, 1) := by decide +kernel
theorem dX9_platesAreConsistent_79 : decode cX9_platesAreConsistent 79 = .ok (.aaload, 1) := by decide +kernel
theorem dX9_platesAreConsistent_80 : decode cX9_platesAreConsistent 80 = .ok (.invokevirtual 145, 3) := by decide +kernel
theorem dX9_platesAreConsistent_83 : decode cX9_platesAreConsistent 83 = .ok (.if_icmp .eq 5, 3) := by decide +kernel
theorem dX9_platesAreConsistent_86 : decode cX9_platesAreConsistent 86 = .ok (.iconst 0, 1) := by decide +kernel
theorem dX9_platesAreConsistent_87 : decode cX9_platesAreConsistent 87 = .ok (.ireturn, 1) := by decide +kernel
theorem dX9_platesAreConsistent_88 : decode cX9_platesAreConsistent 88 = .ok (.iinc 2 1, 3) := by decide +kernel
theorem dX9_platesAreConsistent_91 : decode cX9_platesAreConsistent 91 = .ok (.goto (-76), 3) := by decide +kernel
theorem dX9_platesAreConsistent_94 : decode cX9_platesAreConsistent 94 = .ok (.iinc 1 1, 3) := by decide +kernel
theorem dX9_platesAreConsistent_97 : decode cX9_platesAreConsistent 97 = .ok (.goto (-95), 3) := by decide +kernel
theorem dX9_platesAreConsistent_100 : decode cX9_platesAreConsistent 100 = .ok (.iconst 1, 1) := by decide +kernel
theorem dX9_platesAreConsistent_101 : decode cX9_platesAreConsistent 101 = .ok (.ireturn, 1) := by decide +kernel
theorem dX9_sheetsAreConsistent_0 : decode cX9_sheetsAreConsistent 0 = .ok (.iconst 0, 1) := by decide +kernel
theorem dX9_sheetsAreConsistent_1 : decode cX9_sheetsAreConsistent 1 = .ok (.istore_n 1, 1) := by decide +kernel
theorem dX9_sheetsAreConsistent_2 : decode cX9_sheetsAreConsistent 2 = .ok (.iload_n 1, 1) := by decide +kernel
theorem dX9_sheetsAreConsistent_3 : decode cX9_sheetsAreConsistent 3 = .ok (.aload_n 0, 1) := by decide +kernel
theorem dX9_sheetsAreConsistent_4 : decode cX9_sheetsAreConsistent 4 = .ok (.getfield 12, 3) := by decide +kernel
theorem dX9_sheetsAreConsistent_7 : decode cX9_sheetsAreConsistent 7 = .ok (.getfield 172, 3) := by decide +kernel
theorem dX9_sheetsAreConsistent_10 : decode cX9_sheetsAreConsistent 10 = .ok (.if_icmp .ge 57, 3) := by decide +kernel
theorem dX9_sheetsAreConsistent_13 : decode cX9_sheetsAreConsistent 13 = .ok (.aload_n 0, 1) := by decide +kernel
theorem dX9_sheetsAreConsistent_14 : decode cX9_sheetsAreConsistent 14 = .ok (.getfield 12, 3) := by decide +kernel
theorem dX9_sheetsAreConsistent_17 : decode cX9_sheetsAreConsistent 17 = .ok (.getfield 199, 3) := by decide +kernel
theorem dX9_sheetsAreConsistent_20 : decode cX9_sheetsAreConsistent 20 = .ok (.iload_n 1, 1) := by decide +kernel
theorem dX9_sheetsAreConsistent_21 : decode cX9_sheetsAreConsistent 21 = .ok (.aaload, 1) := by decide +kernel
theorem dX9_sheetsAreConsistent_22 : decode cX9_sheetsAreConsistent 22 = .ok (.astore_n 2, 1) := by decide +kernel
theorem dX9_sheetsAreConsistent_23 : decode cX9_sheetsAreConsistent 23 = .ok (.aload_n 2, 1) := by decide +kernel
theorem dX9_sheetsAreConsistent_24 : decode cX9_sheetsAreConsistent 24 = .ok (.invokevirtual 193, 3) := by decide +kernel
theorem dX9_sheetsAreConsistent_27 : decode cX9_sheetsAreConsistent 27 = .ok (.aload_n 2, 1) := by decide +kernel
theorem dX9_sheetsAreConsistent_28 : decode cX9_sheetsAreConsistent 28 = .ok (.invokevirtual 196, 3) := by decide +kernel
theorem dX9_sheetsAreConsistent_31 : decode cX9_sheetsAreConsistent 31 = .ok (.if_icmp .ne 28, 3) := by decide +kernel
theorem dX9_sheetsAreConsistent_34 : decode cX9_sheetsAreConsistent 34 = .ok (.aload_n 2, 1) := by decide +kernel
theorem dX9_sheetsAreConsistent_35 : decode cX9_sheetsAreConsistent 35 = .ok (.aload_n 0, 1) := by decide +kernel
theorem dX9_sheetsAreConsistent_36 : decode cX9_sheetsAreConsistent 36 = .ok (.getfield 12, 3) := by decide +kernel
theorem dX9_sheetsAreConsistent_39 : decode cX9_sheetsAreConsistent 39 = .ok (.getfield 254, 3) := by decide +kernel
theorem dX9_sheetsAreConsistent_42 : decode cX9_sheetsAreConsistent 42 = .ok (.invokevirtual 257, 3) := by decide +kernel
theorem dX9_sheetsAreConsistent_45 : decode cX9_sheetsAreConsistent 45 = .ok (.aload_n 2, 1) := by decide +kernel
theorem dX9_sheetsAreConsistent_46 : decode cX9_sheetsAreConsistent 46 = .ok (.aload_n 0, 1) := by decide +kernel
theorem dX9_sheetsAreConsistent_47 : decode cX9_sheetsAreConsistent 47 = .ok (.getfield 12, 3) := by decide +kernel
theorem dX9_sheetsAreConsistent_50 : decode cX9_sheetsAreConsistent 50 = .ok (.getfield 254, 3) := by decide +kernel
theorem dX9_sheetsAreConsistent_53 : decode cX9_sheetsAreConsistent 53 = .ok (.invokevirtual 260, 3) := by decide +kernel
theorem dX9_sheetsAreConsistent_56 : decode cX9_sheetsAreConsistent 56 = .ok (.if_icmp .eq 5, 3) := by decide +kernel
theorem dX9_sheetsAreConsistent_59 : decode cX9_sheetsAreConsistent 59 = .ok (.iconst 0, 1) := by decide +kernel
theorem dX9_sheetsAreConsistent_60 : decode cX9_sheetsAreConsistent 60 = .ok (.ireturn, 1) := by decide +kernel
theorem dX9_sheetsAreConsistent_61 : decode cX9_sheetsAreConsistent 61 = .ok (.iinc 1 1, 3) := by decide +kernel
theorem dX9_sheetsAreConsistent_64 : decode cX9_sheetsAreConsistent 64 = .ok (.goto (-62), 3) := by decide +kernel
theorem dX9_sheetsAreConsistent_67 : decode cX9_sheetsAreConsistent 67 = .ok (.iconst 1, 1) := by decide +kernel
theorem dX9_sheetsAreConsistent_68 : decode cX9_sheetsAreConsistent 68 = .ok (.ireturn, 1) := by decide +kernel
theorem dX9_runCommands_0 : decode cX9_runCommands 0 = .ok (.aload_n 0, 1) := by decide +kernel
theorem dX9_runCommands_1 : decode cX9_runCommands 1 = .ok (.getfield 43, 3) := by decide +kernel
theorem dX9_runCommands_4 : decode cX9_runCommands 4 = .ok (.invokevirtual 379, 3) := by decide +kernel
theorem dX9_runCommands_7 : decode cX9_runCommands 7 = .ok (.iconst 0, 1) := by decide +kernel
theorem dX9_runCommands_8 : decode cX9_runCommands 8 = .ok (.istore_n 2, 1) := by decide +kernel
theorem dX9_runCommands_9 : decode cX9_runCommands 9 = .ok (.iload_n 2, 1) := by decide +kernel
theorem dX9_runCommands_10 : decode cX9_runCommands 10 = .ok (.iload_n 1, 1) := by decide +kernel
theorem dX9_runCommands_11 : decode cX9_runCommands 11 = .ok (.if_icmp .ge 25, 3) := by decide +kernel
theorem dX9_runCommands_14 : decode cX9_runCommands 14 = .ok (.aload_n 0, 1) := by decide +kernel
theorem dX9_runCommands_15 : decode cX9_runCommands 15 = .ok (.getfield 43, 3) := by decide +kernel
theorem dX9_runCommands_18 : decode cX9_runCommands 18 = .ok (.invokevirtual 382, 3) := by decide +kernel
theorem dX9_runCommands_21 : decode cX9_runCommands 21 = .ok (.aload_n 0, 1) := by decide +kernel
theorem dX9_runCommands_22 : decode cX9_runCommands 22 = .ok (.invokevirtual 385, 3) := by decide +kernel
theorem dX9_runCommands_25 : decode cX9_runCommands 25 = .ok (.ifCond .ge 5, 3) := by decide +kernel
theorem dX9_runCommands_28 : decode cX9_runCommands 28 = .ok (.iload_n 2, 1) := by decide +kernel
theorem dX9_runCommands_29 : decode cX9_runCommands 29 = .ok (.ireturn, 1) := by decide +kernel
theorem dX9_runCommands_30 : decode cX9_runCommands 30 = .ok (.iinc 2 1, 3) := by decide +kernel
theorem dX9_runCommands_33 : decode cX9_runCommands 33 = .ok (.goto (-24), 3) := by decide +kernel
theorem dX9_runCommands_36 : decode cX9_runCommands 36 = .ok (.iconst (-1), 1) := by decide +kernel
theorem dX9_runCommands_37 : decode cX9_runCommands 37 = .ok (.ireturn, 1) := by decide +kernel
theorem dX9_runCommand_0 : decode cX9_runCommand 0 = .ok (.getstatic 388, 3) := by decide +kernel
theorem dX9_runCommand_3 : decode cX9_runCommand 3 = .ok (.aload_n 0, 1) := by decide +kernel
theorem dX9_runCommand_4 : decode cX9_runCommand 4 = .ok (.getfield 43, 3) := by decide +kernel
theorem dX9_runCommand_7 : decode cX9_runCommand 7 = .ok (.getfield 393, 3) := by decide +kernel
theorem dX9_runCommand_10 : decode cX9_runCommand 10 = .ok (.invokevirtual 397, 3) := by decide +kernel
theorem dX9_runCommand_13 : decode cX9_runCommand 13 = .ok (.iaload, 1) := by decide +kernel
theorem dX9_runCommand_14 : decode cX9_runCommand 14 = .ok (.tableswitch 202 1 8 #[46, 61, 90, 119, 127, 153, 172, 187], 46) := by decide +kernel
theorem dX9_runCommand_60 : decode cX9_runCommand 60 = .ok (.aload_n 0, 1) := by decide +kernel
theorem dX9_runCommand_61 : decode cX9_runCommand 61 = .ok (.getfield 12, 3) := by decide +kernel
theorem dX9_runCommand_64 : decode cX9_runCommand 64 = .ok (.aload_n 0, 1) := by decide +kernel
theorem dX9_runCommand_65 : decode cX9_runCommand 65 = .ok (.getfield 43, 3) := by decide +kernel
theorem dX9_runCommand_68 : decode cX9_runCommand 68 = .ok (.getfield 402, 3) := by decide +kernel
theorem dX9_runCommand_71 : decode cX9_runCommand 71 = .ok (.invokevirtual 73, 3) := by decide +kernel
theorem dX9_runCommand_74 : decode cX9_runCommand 74 = .ok (.ireturn, 1) := by decide +kernel
theorem dX9_runCommand_75 : decode cX9_runCommand 75 = .ok (.aload_n 0, 1) := by decide +kernel
theorem dX9_runCommand_76 : decode cX9_runCommand 76 = .ok (.getfield 12, 3) := by decide +kernel
theorem dX9_runCommand_79 : decode cX9_runCommand 79 = .ok (.aload_n 0, 1) := by decide +kernel
theorem dX9_runCommand_80 : decode cX9_runCommand 80 = .ok (.getfield 43, 3) := by decide +kernel
theorem dX9_runCommand_83 : decode cX9_runCommand 83 = .ok (.getfield 402, 3) := by decide +kernel
theorem dX9_runCommand_86 : decode cX9_runCommand 86 = .ok (.aload_n 0, 1) := by decide +kernel
theorem dX9_runCommand_87 : decode cX9_runCommand 87 = .ok (.getfield 43, 3) := by decide +kernel
theorem dX9_runCommand_90 : decode cX9_runCommand 90 = .ok (.getfield 405, 3) := by decide +kernel
theorem dX9_runCommand_93 : decode cX9_runCommand 93 = .ok (.aload_n 0, 1) := by decide +kernel
theorem dX9_runCommand_94 : decode cX9_runCommand 94 = .ok (.getfield 43, 3) := by decide +kernel
theorem dX9_runCommand_97 : decode cX9_runCommand 97 = .ok (.getfield 408, 3) := by decide +kernel
theorem dX9_runCommand_100 : decode cX9_runCommand 100 = .ok (.invokevirtual 80, 3) := by decide +kernel
theorem dX9_runCommand_103 : decode cX9_runCommand 103 = .ok (.ireturn, 1) := by decide +kernel
theorem dX9_runCommand_104 : decode cX9_runCommand 104 = .ok (.aload_n 0, 1) := by decide +kernel
theorem dX9_runCommand_105 : decode cX9_runCommand 105 = .ok (.getfield 12, 3) := by decide +kernel
theorem dX9_runCommand_108 : decode cX9_runCommand 108 = .ok (.aload_n 0, 1) := by decide +kernel
theorem dX9_runCommand_109 : decode cX9_runCommand 109 = .ok (.getfield 43, 3) := by decide +kernel
theorem dX9_runCommand_112 : decode cX9_runCommand 112 = .ok (.getfield 402, 3) := by decide +kernel
theorem dX9_runCommand_115 : decode cX9_runCommand 115 = .ok (.aload_n 0, 1) := by decide +kernel
theorem dX9_runCommand_116 : decode cX9_runCommand 116 = .ok (.getfield 43, 3) := by decide +kernel
theorem dX9_runCommand_119 : decode cX9_runCommand 119 = .ok (.getfield 405, 3) := by decide +kernel
theorem dX9_runCommand_122 : decode cX9_runCommand 122 = .ok (.aload_n 0, 1) := by decide +kernel
theorem dX9_runCommand_123 : decode cX9_runCommand 123 = .ok (.getfield 43, 3) := by decide +kernel
theorem dX9_runCommand_126 : decode cX9_runCommand 126 = .ok (.getfield 408, 3) := by decide +kernel
theorem dX9_runCommand_129 : decode cX9_runCommand 129 = .ok (.invokevirtual 87, 3) := by decide +kernel
theorem dX9_runCommand_132 : decode cX9_runCommand 132 = .ok (.ireturn, 1) := by decide +kernel
theorem dX9_runCommand_133 : decode cX9_runCommand 133 = .ok (.aload_n 0, 1) := by decide +kernel
theorem dX9_runCommand_134 : decode cX9_runCommand 134 = .ok (.getfield 12, 3) := by decide +kernel
theorem dX9_runCommand_137 : decode cX9_runCommand 137 = .ok (.invokevirtual 155, 3) := by decide +kernel
theorem dX9_runCommand_140 : decode cX9_runCommand 140 = .ok (.ireturn, 1) := by decide +kernel
theorem dX9_runCommand_141 : decode cX9_runCommand 141 = .ok (.aload_n 0, 1) := by decide +kernel
theorem dX9_runCommand_142 : decode cX9_runCommand 142 = .ok (.getfield 12, 3) := by decide +kernel
theorem dX9_runCommand_145 : decode cX9_runCommand 145 = .ok (.aload_n 0, 1) := by decide +kernel
theorem dX9_runCommand_146 : decode cX9_runCommand 146 = .ok (.getfield 43, 3) := by decide +kernel
theorem dX9_runCommand_149 : decode cX9_runCommand 149 = .ok (.getfield 402, 3) := by decide +kernel
theorem dX9_runCommand_152 : decode cX9_runCommand 152 = .ok (.aload_n 0, 1) := by decide +kernel
theorem dX9_runCommand_153 : decode cX9_runCommand 153 = .ok (.getfield 43, 3) := by decide +kernel
theorem dX9_runCommand_156 : decode cX9_runCommand 156 = .ok (.getfield 405, 3) := by decide +kernel
theorem dX9_runCommand_159 : decode cX9_runCommand 159 = .ok (.aload_n 0, 1) := by decide +kernel
theorem dX9_runCommand_160 : decode cX9_runCommand 160 = .ok (.getfield 36, 3) := by decide +kernel
theorem dX9_runCommand_163 : decode cX9_runCommand 163 = .ok (.invokevirtual 158, 3) := by decide +kernel
theorem dX9_runCommand_166 : decode cX9_runCommand 166 = .ok (.ireturn, 1) := by decide +kernel
theorem dX9_runCommand_167 : decode cX9_runCommand 167 = .ok (.aload_n 0, 1) := by decide +kernel
theorem dX9_runCommand_168 : decode cX9_runCommand 168 = .ok (.getfield 12, 3) := by decide +kernel
theorem dX9_runCommand_171 : decode cX9_runCommand 171 = .ok (.aload_n 0, 1) := by decide +kernel
theorem dX9_runCommand_172 : decode cX9_runCommand 172 = .ok (.getfield 43, 3) := by decide +kernel
theorem dX9_runCommand_175 : decode cX9_runCommand 175 = .ok (.getfield 402, 3) := by decide +kernel
theorem dX9_runCommand_178 : decode cX9_runCommand 178 = .ok (.aload_n 0, 1) := by decide +kernel
theorem dX9_runCommand_179 : decode cX9_runCommand 179 = .ok (.getfield 36, 3) := by decide +kernel
theorem dX9_runCommand_182 : decode cX9_runCommand 182 = .ok (.invokevirtual 211, 3) := by decide +kernel
theorem dX9_runCommand_185 : decode cX9_runCommand 185 = .ok (.ireturn, 1) := by decide +kernel
theorem dX9_runCommand_186 : decode cX9_runCommand 186 = .ok (.aload_n 0, 1) := by decide +kernel
theorem dX9_runCommand_187 : decode cX9_runCommand 187 = .ok (.getfield 12, 3) := by decide +kernel
theorem dX9_runCommand_190 : decode cX9_runCommand 190 = .ok (.aload_n 0, 1) := by decide +kernel
theorem dX9_runCommand_191 : decode cX9_runCommand 191 = .ok (.getfield 43, 3) := by decide +kernel
theorem dX9_runCommand_194 : decode cX9_runCommand 194 = .ok (.getfield 402, 3) := by decide +kernel
theorem dX9_runCommand_197 : decode cX9_runCommand 197 = .ok (.invokevirtual 215, 3) := by decide +kernel
theorem dX9_runCommand_200 : decode cX9_runCommand 200 = .ok (.ireturn, 1) := by decide +kernel
theorem dX9_runCommand_201 : decode cX9_runCommand 201 = .ok (.aload_n 0, 1) := by decide +kernel
theorem dX9_runCommand_202 : decode cX9_runCommand 202 = .ok (.getfield 12, 3) := by decide +kernel
theorem dX9_runCommand_205 : decode cX9_runCommand 205 = .ok (.aload_n 0, 1) := by decide +kernel
theorem dX9_runCommand_206 : decode cX9_runCommand 206 = .ok (.getfield 43, 3) := by decide +kernel
theorem dX9_runCommand_209 : decode cX9_runCommand 209 = .ok (.getfield 402, 3) := by decide +kernel
theorem dX9_runCommand_212 : decode cX9_runCommand 212 = .ok (.invokevirtual 251, 3) := by decide +kernel
theorem dX9_runCommand_215 : decode cX9_runCommand 215 = .ok (.ireturn, 1) := by decide +kernel
theorem dX9_runCommand_216 : decode cX9_runCommand 216 = .ok (.bipush (-2), 2) := by decide +kernel
theorem dX9_runCommand_218 : decode cX9_runCommand 218 = .ok (.ireturn, 1) := by decide +kernel
