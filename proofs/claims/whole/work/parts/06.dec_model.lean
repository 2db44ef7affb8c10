theorem dX10_init_0 : decode cX10_init 0 = .ok (.aload_n 0, 1) := by decide +kernel
theorem dX10_init_1 : decode cX10_init 1 = .ok (.invokespecial 1, 3) := by decide +kernel
theorem dX10_init_4 : decode cX10_init 4 = .ok (.aload_n 0, 1) := by decide +kernel
theorem dX10_init_5 : decode cX10_init 5 = .ok (.sipush 267, 3) := by decide +kernel
theorem dX10_init_8 : decode cX10_init 8 = .ok (.newarray .int, 2) := by decide +kernel
theorem dX10_init_10 : decode cX10_init 10 = .ok (.putfield 7, 3) := by decide +kernel
theorem dX10_init_13 : decode cX10_init 13 = .ok (.aload_n 0, 1) := by decide +kernel
theorem dX10_init_14 : decode cX10_init 14 = .ok (.sipush 2136, 3) := by decide +kernel
theorem dX10_init_17 : decode cX10_init 17 = .ok (.newarray .int, 2) := by decide +kernel
theorem dX10_init_19 : decode cX10_init 19 = .ok (.putfield 13, 3) := by decide +kernel
theorem dX10_init_22 : decode cX10_init 22 = .ok (.aload_n 0, 1) := by decide +kernel
theorem dX10_init_23 : decode cX10_init 23 = .ok (.sipush 267, 3) := by decide +kernel
theorem dX10_init_26 : decode cX10_init 26 = .ok (.newarray .int, 2) := by decide +kernel
theorem dX10_init_28 : decode cX10_init 28 = .ok (.putfield 16, 3) := by decide +kernel
theorem dX10_init_31 : decode cX10_init 31 = .ok (.aload_n 0, 1) := by decide +kernel
theorem dX10_init_32 : decode cX10_init 32 = .ok (.sipush 267, 3) := by decide +kernel
theorem dX10_init_35 : decode cX10_init 35 = .ok (.newarray .int, 2) := by decide +kernel
theorem dX10_init_37 : decode cX10_init 37 = .ok (.putfield 19, 3) := by decide +kernel
theorem dX10_init_40 : decode cX10_init 40 = .ok (.aload_n 0, 1) := by decide +kernel
theorem dX10_init_41 : decode cX10_init 41 = .ok (.bipush 60, 2) := by decide +kernel
theorem dX10_init_43 : decode cX10_init 43 = .ok (.newarray .int, 2) := by decide +kernel
theorem dX10_init_45 : decode cX10_init 45 = .ok (.putfield 22, 3) := by decide +kernel
theorem dX10_init_48 : decode cX10_init 48 = .ok (.aload_n 0, 1) := by decide +kernel
theorem dX10_init_49 : decode cX10_init 49 = .ok (.iconst (-1), 1) := by decide +kernel
theorem dX10_init_50 : decode cX10_init 50 = .ok (.putfield 25, 3) := by decide +kernel
theorem dX10_init_53 : decode cX10_init 53 = .ok (.aload_n 0, 1) := by decide +kernel
theorem dX10_init_54 : decode cX10_init 54 = .ok (.iconst (-1), 1) := by decide +kernel
theorem dX10_init_55 : decode cX10_init 55 = .ok (.putfield 29, 3) := by decide +kernel
theorem dX10_init_58 : decode cX10_init 58 = .ok (.aload_n 0, 1) := by decide +kernel
theorem dX10_init_59 : decode cX10_init 59 = .ok (.bipush 16, 2) := by decide +kernel
theorem dX10_init_61 : decode cX10_init 61 = .ok (.newarray .char, 2) := by decide +kernel
theorem dX10_init_63 : decode cX10_init 63 = .ok (.putfield 32, 3) := by decide +kernel
theorem dX10_init_66 : decode cX10_init 66 = .ok (.aload_n 0, 1) := by decide +kernel
theorem dX10_init_67 : decode cX10_init 67 = .ok (.bipush 124, 2) := by decide +kernel
theorem dX10_init_69 : decode cX10_init 69 = .ok (.newarray .int, 2) := by decide +kernel
theorem dX10_init_71 : decode cX10_init 71 = .ok (.putfield 36, 3) := by decide +kernel
theorem dX10_init_74 : decode cX10_init 74 = .ok (.iconst 0, 1) := by decide +kernel
theorem dX10_init_75 : decode cX10_init 75 = .ok (.istore_n 1, 1) := by decide +kernel
theorem dX10_init_76 : decode cX10_init 76 = .ok (.iload_n 1, 1) := by decide +kernel
theorem dX10_init_77 : decode cX10_init 77 = .ok (.iconst 3, 1) := by decide +kernel
theorem dX10_init_78 : decode cX10_init 78 = .ok (.if_icmp .ge 29, 3) := by decide +kernel
theorem dX10_init_81 : decode cX10_init 81 = .ok (.aload_n 0, 1) := by decide +kernel
theorem dX10_init_82 : decode cX10_init 82 = .ok (.getfield 7, 3) := by decide +kernel
theorem dX10_init_85 : decode cX10_init 85 = .ok (.iconst 3, 1) := by decide +kernel
theorem dX10_init_86 : decode cX10_init 86 = .ok (.iload_n 1, 1) := by decide +kernel
theorem dX10_init_87 : decode cX10_init 87 = .ok (.iadd, 1) := by decide +kernel
theorem dX10_init_88 : decode cX10_init 88 = .ok (.bipush 60, 2) := by decide +kernel
theorem dX10_init_90 : decode cX10_init 90 = .ok (.iastore, 1) := by decide +kernel
theorem dX10_init_91 : decode cX10_init 91 = .ok (.aload_n 0, 1) := by decide +kernel
theorem dX10_init_92 : decode cX10_init 92 = .ok (.getfield 7, 3) := by decide +kernel
theorem dX10_init_95 : decode cX10_init 95 = .ok (.bipush 6, 2) := by decide +kernel
theorem dX10_init_97 : decode cX10_init 97 = .ok (.iload_n 1, 1) := by decide +kernel
theorem dX10_init_98 : decode cX10_init 98 = .ok (.iadd, 1) := by decide +kernel
theorem dX10_init_99 : decode cX10_init 99 = .ok (.iconst (-1), 1) := by decide +kernel
theorem dX10_init_100 : decode cX10_init 100 = .ok (.iastore, 1) := by decide +kernel
theorem dX10_init_101 : decode cX10_init 101 = .ok (.iinc 1 1, 3) := by decide +kernel
theorem dX10_init_104 : decode cX10_init 104 = .ok (.goto (-28), 3) := by decide +kernel
theorem dX10_init_107 : decode cX10_init 107 = .ok (.return_, 1) := by decide +kernel
theorem dX10_thrown_0 : decode cX10_thrown 0 = .ok (.aload_n 0, 1) := by decide +kernel
theorem dX10_thrown_1 : decode cX10_thrown 1 = .ok (.getfield 39, 3) := by decide +kernel
theorem dX10_thrown_4 : decode cX10_thrown 4 = .ok (.ireturn, 1) := by decide +kernel
theorem dX10_fails_0 : decode cX10_fails 0 = .ok (.aload_n 0, 1) := by decide +kernel
theorem dX10_fails_1 : decode cX10_fails 1 = .ok (.iload_n 1, 1) := by decide +kernel
theorem dX10_fails_2 : decode cX10_fails 2 = .ok (.putfield 39, 3) := by decide +kernel
theorem dX10_fails_5 : decode cX10_fails 5 = .ok (.iload_n 1, 1) := by decide +kernel
theorem dX10_fails_6 : decode cX10_fails 6 = .ok (.ifCond .le 7, 3) := by decide +kernel
theorem dX10_fails_9 : decode cX10_fails 9 = .ok (.iconst 1, 1) := by decide +kernel
theorem dX10_fails_10 : decode cX10_fails 10 = .ok (.goto 4, 3) := by decide +kernel
theorem dX10_fails_13 : decode cX10_fails 13 = .ok (.iconst 0, 1) := by decide +kernel
theorem dX10_fails_14 : decode cX10_fails 14 = .ok (.ireturn, 1) := by decide +kernel
theorem dX10_refuses_0 : decode cX10_refuses 0 = .ok (.aload_n 0, 1) := by decide +kernel
theorem dX10_refuses_1 : decode cX10_refuses 1 = .ok (.iload_n 1, 1) := by decide +kernel
theorem dX10_refuses_2 : decode cX10_refuses 2 = .ok (.putfield 39, 3) := by decide +kernel
theorem dX10_refuses_5 : decode cX10_refuses 5 = .ok (.aload_n 0, 1) := by decide +kernel
theorem dX10_refuses_6 : decode cX10_refuses 6 = .ok (.iload_n 2, 1) := by decide +kernel
theorem dX10_refuses_7 : decode cX10_refuses 7 = .ok (.putfield 42, 3) := by decide +kernel
theorem dX10_refuses_10 : decode cX10_refuses 10 = .ok (.aload_n 0, 1) := by decide +kernel
theorem dX10_refuses_11 : decode cX10_refuses 11 = .ok (.iload_n 3, 1) := by decide +kernel
theorem dX10_refuses_12 : decode cX10_refuses 12 = .ok (.putfield 45, 3) := by decide +kernel
theorem dX10_refuses_15 : decode cX10_refuses 15 = .ok (.iconst 0, 1) := by decide +kernel
theorem dX10_refuses_16 : decode cX10_refuses 16 = .ok (.ireturn, 1) := by decide +kernel
theorem dX10_in_0 : decode cX10_in 0 = .ok (.iload_n 0, 1) := by decide +kernel
theorem dX10_in_1 : decode cX10_in 1 = .ok (.iload_n 1, 1) := by decide +kernel
theorem dX10_in_2 : decode cX10_in 2 = .ok (.if_icmp .lt 12, 3) := by decide +kernel
theorem dX10_in_5 : decode cX10_in 5 = .ok (.iload_n 0, 1) := by decide +kernel
theorem dX10_in_6 : decode cX10_in 6 = .ok (.iload_n 2, 1) := by decide +kernel
theorem dX10_in_7 : decode cX10_in 7 = .ok (.if_icmp .gt 7, 3) := by decide +kernel
theorem dX10_in_10 : decode cX10_in 10 = .ok (.iconst 1, 1) := by decide +kernel
theorem dX10_in_11 : decode cX10_in 11 = .ok (.goto 4, 3) := by decide +kernel
theorem dX10_in_14 : decode cX10_in 14 = .ok (.iconst 0, 1) := by decide +kernel
theorem dX10_in_15 : decode cX10_in 15 = .ok (.ireturn, 1) := by decide +kernel
theorem dX10_size_0 : decode cX10_size 0 = .ok (.iload_n 0, 1) := by decide +kernel
theorem dX10_size_1 : decode cX10_size 1 = .ok (.ifCond .ge 8, 3) := by decide +kernel
theorem dX10_size_4 : decode cX10_size 4 = .ok (.iload_n 0, 1) := by decide +kernel
theorem dX10_size_5 : decode cX10_size 5 = .ok (.ineg, 1) := by decide +kernel
theorem dX10_size_6 : decode cX10_size 6 = .ok (.goto 4, 3) := by decide +kernel
theorem dX10_size_9 : decode cX10_size 9 = .ok (.iload_n 0, 1) := by decide +kernel
theorem dX10_size_10 : decode cX10_size 10 = .ok (.ireturn, 1) := by decide +kernel
theorem dX10_copies_0 : decode cX10_copies 0 = .ok (.iconst 0, 1) := by decide +kernel
theorem dX10_copies_1 : decode cX10_copies 1 = .ok (.istore 4, 2) := by decide +kernel
theorem dX10_copies_3 : decode cX10_copies 3 = .ok (.iload 4, 2) := by decide +kernel
theorem dX10_copies_5 : decode cX10_copies 5 = .ok (.sipush 267, 3) := by decide +kernel
theorem dX10_copies_8 : decode cX10_copies 8 = .ok (.if_icmp .ge 21, 3) := by decide +kernel
theorem dX10_copies_11 : decode cX10_copies 11 = .ok (.aload_n 2, 1) := by decide +kernel
theorem dX10_copies_12 : decode cX10_copies 12 = .ok (.iload_n 3, 1) := by decide +kernel
theorem dX10_copies_13 : decode cX10_copies 13 = .ok (.iload 4, 2) := by decide +kernel
theorem dX10_copies_15 : decode cX10_copies 15 = .ok (.iadd, 1) := by decide +kernel
theorem dX10_copies_16 : decode cX10_copies 16 = .ok (.aload_n 0, 1) := by decide +kernel
theorem dX10_copies_17 : decode cX10_copies 17 = .ok (.iload_n 1, 1) := by decide +kernel
theorem dX10_copies_18 : decode cX10_copies 18 = .ok (.iload 4, 2) := by decide +kernel
theorem dX10_copies_20 : decode cX10_copies 20 = .ok (.iadd, 1) := by decide +kernel
theorem dX10_copies_21 : decode cX10_copies 21 = .ok (.iaload, 1) := by decide +kernel
theorem dX10_copies_22 : decode cX10_copies 22 = .ok (.iastore, 1) := by decide +kernel
theorem dX10_copies_23 : decode cX10_copies 23 = .ok (.iinc 4 1, 3) := by decide +kernel
theorem dX10_copies_26 : decode cX10_copies 26 = .ok (.goto (-23), 3) := by decide +kernel
theorem dX10_copies_29 : decode cX10_copies 29 = .ok (.return_, 1) := by decide +kernel
theorem dX10_keeps_0 : decode cX10_keeps 0 = .ok (.aload_n 0, 1) := by decide +kernel
theorem dX10_keeps_1 : decode cX10_keeps 1 = .ok (.iconst 0, 1) := by decide +kernel
theorem dX10_keeps_2 : decode cX10_keeps 2 = .ok (.putfield 39, 3) := by decide +kernel
theorem dX10_keeps_5 : decode cX10_keeps 5 = .ok (.aload_n 0, 1) := by decide +kernel
theorem dX10_keeps_6 : decode cX10_keeps 6 = .ok (.getfield 48, 3) := by decide +kernel
theorem dX10_keeps_9 : decode cX10_keeps 9 = .ok (.ifCond .eq 4, 3) := by decide +kernel
theorem dX10_keeps_12 : decode cX10_keeps 12 = .ok (.return_, 1) := by decide +kernel
theorem dX10_keeps_13 : decode cX10_keeps 13 = .ok (.aload_n 0, 1) := by decide +kernel
theorem dX10_keeps_14 : decode cX10_keeps 14 = .ok (.getfield 52, 3) := by decide +kernel
theorem dX10_keeps_17 : decode cX10_keeps 17 = .ok (.bipush 8, 2) := by decide +kernel
theorem dX10_keeps_19 : decode cX10_keeps 19 = .ok (.if_icmp .ne 44, 3) := by decide +kernel
theorem dX10_keeps_22 : decode cX10_keeps 22 = .ok (.iconst 0, 1) := by decide +kernel
theorem dX10_keeps_23 : decode cX10_keeps 23 = .ok (.istore_n 2, 1) := by decide +kernel
theorem dX10_keeps_24 : decode cX10_keeps 24 = .ok (.iload_n 2, 1) := by decide +kernel
theorem dX10_keeps_25 : decode cX10_keeps 25 = .ok (.sipush 1869, 3) := by decide +kernel
theorem dX10_keeps_28 : decode cX10_keeps 28 = .ok (.if_icmp .ge 25, 3) := by decide +kernel
theorem dX10_keeps_31 : decode cX10_keeps 31 = .ok (.aload_n 0, 1) := by decide +kernel
theorem dX10_keeps_32 : decode cX10_keeps 32 = .ok (.getfield 13, 3) := by decide +kernel
theorem dX10_keeps_35 : decode cX10_keeps 35 = .ok (.iload_n 2, 1) := by decide +kernel
theorem dX10_keeps_36 : decode cX10_keeps 36 = .ok (.aload_n 0, 1) := by decide +kernel
theorem dX10_keeps_37 : decode cX10_keeps 37 = .ok (.getfield 13, 3) := by decide +kernel
theorem dX10_keeps_40 : decode cX10_keeps 40 = .ok (.iload_n 2, 1) := by decide +kernel
theorem dX10_keeps_41 : decode cX10_keeps 41 = .ok (.sipush 267, 3) := by decide +kernel
theorem dX10_keeps_44 : decode cX10_keeps 44 = .ok (.iadd, 1) := by decide +kernel
theorem dX10_keeps_45 : decode cX10_keeps 45 = .ok (.iaload, 1) := by decide +kernel
theorem dX10_keeps_46 : decode cX10_keeps 46 = .ok (.iastore, 1) := by decide +kernel
theorem dX10_keeps_47 : decode cX10_keeps 47 = .ok (.iinc 2 1, 3) := by decide +kernel
theorem dX10_keeps_50 : decode cX10_keeps 50 = .ok (.goto (-26), 3) := by decide +kernel
theorem dX10_keeps_53 : decode cX10_keeps 53 = .ok (.aload_n 0, 1) := by decide +kernel
theorem dX10_keeps_54 : decode cX10_keeps 54 = .ok (.dup, 1) := by decide +kernel
theorem dX10_keeps_55 : decode cX10_keeps 55 = .ok (.getfield 52, 3) := by decide +kernel
theorem dX10_keeps_58 : decode cX10_keeps 58 = .ok (.iconst 1, 1) := by decide +kernel
theorem dX10_keeps_59 : decode cX10_keeps 59 = .ok (.isub, 1) := by decide +kernel
theorem dX10_keeps_60 : decode cX10_keeps 60 = .ok (.putfield 52, 3) := by decide +kernel
theorem dX10_keeps_63 : decode cX10_keeps 63 = .ok (.aload_n 1, 1) := by decide +kernel
theorem dX10_keeps_64 : decode cX10_keeps 64 = .ok (.iconst 0, 1) := by decide +kernel
theorem dX10_keeps_65 : decode cX10_keeps 65 = .ok (.aload_n 0, 1) := by decide +kernel
theorem dX10_keeps_66 : decode cX10_keeps 66 = .ok (.getfield 13, 3) := by decide +kernel
theorem dX10_keeps_69 : decode cX10_keeps 69 = .ok (.sipush 267, 3) := by decide +kernel
theorem dX10_keeps_72 : decode cX10_keeps 72 = .ok (.aload_n 0, 1) := by decide +kernel
theorem dX10_keeps_73 : decode cX10_keeps 73 = .ok (.getfield 52, 3) := by decide +kernel
theorem dX10_keeps_76 : decode cX10_keeps 76 = .ok (.imul, 1) := by decide +kernel
theorem dX10_keeps_77 : decode cX10_keeps 77 = .ok (.invokestatic 55, 3) := by decide +kernel
theorem dX10_keeps_80 : decode cX10_keeps 80 = .ok (.aload_n 0, 1) := by decide +kernel
theorem dX10_keeps_81 : decode cX10_keeps 81 = .ok (.dup, 1) := by decide +kernel
theorem dX10_keeps_82 : decode cX10_keeps 82 = .ok (.getfield 52, 3) := by decide +kernel
theorem dX10_keeps_85 : decode cX10_keeps 85 = .ok (.iconst 1, 1) := by decide +kernel
theorem dX10_keeps_86 : decode cX10_keeps 86 = .ok (.iadd, 1) := by decide +kernel
theorem dX10_keeps_87 : decode cX10_keeps 87 = .ok (.putfield 52, 3) := by decide +kernel
theorem dX10_keeps_90 : decode cX10_keeps 90 = .ok (.return_, 1) := by decide +kernel
theorem dX10_isOn_0 : decode cX10_isOn 0 = .ok (.iload_n 0, 1) := by decide +kernel
theorem dX10_isOn_1 : decode cX10_isOn 1 = .ok (.iconst 0, 1) := by decide +kernel
theorem dX10_isOn_2 : decode cX10_isOn 2 = .ok (.bipush 15, 2) := by decide +kernel
theorem dX10_isOn_4 : decode cX10_isOn 4 = .ok (.invokestatic 59, 3) := by decide +kernel
theorem dX10_isOn_7 : decode cX10_isOn 7 = .ok (.ifCond .eq 17, 3) := by decide +kernel
theorem dX10_isOn_10 : decode cX10_isOn 10 = .ok (.iload_n 1, 1) := by decide +kernel
theorem dX10_isOn_11 : decode cX10_isOn 11 = .ok (.iconst 0, 1) := by decide +kernel
theorem dX10_isOn_12 : decode cX10_isOn 12 = .ok (.bipush 7, 2) := by decide +kernel
theorem dX10_isOn_14 : decode cX10_isOn 14 = .ok (.invokestatic 59, 3) := by decide +kernel
theorem dX10_isOn_17 : decode cX10_isOn 17 = .ok (.ifCond .eq 7, 3) := by decide +kernel
theorem dX10_isOn_20 : decode cX10_isOn 20 = .ok (.iconst 1, 1) := by decide +kernel
theorem dX10_isOn_21 : decode cX10_isOn 21 = .ok (.goto 4, 3) := by decide +kernel
theorem dX10_isOn_24 : decode cX10_isOn 24 = .ok (.iconst 0, 1) := by decide +kernel
theorem dX10_isOn_25 : decode cX10_isOn 25 = .ok (.ireturn, 1) := by decide +kernel
theorem dX10_has_0 : decode cX10_has 0 = .ok (.aload_n 0, 1) := by decide +kernel
theorem dX10_has_1 : decode cX10_has 1 = .ok (.getfield 7, 3) := by decide +kernel
theorem dX10_has_4 : decode cX10_has 4 = .ok (.iload_n 1, 1) := by decide +kernel
theorem dX10_has_5 : decode cX10_has 5 = .ok (.iload_n 3, 1) := by decide +kernel
theorem dX10_has_6 : decode cX10_has 6 = .ok (.iconst 2, 1) := by decide +kernel
theorem dX10_has_7 : decode cX10_has 7 = .ok (.idiv, 1) := by decide +kernel
theorem dX10_has_8 : decode cX10_has 8 = .ok (.iadd, 1) := by decide +kernel
theorem dX10_has_9 : decode cX10_has 9 = .ok (.iaload, 1) := by decide +kernel
theorem dX10_has_10 : decode cX10_has 10 = .ok (.bipush 16, 2) := by decide +kernel
theorem dX10_has_12 : decode cX10_has 12 = .ok (.iload_n 3, 1) := by decide +kernel
theorem dX10_has_13 : decode cX10_has 13 = .ok (.iconst 2, 1) := by decide +kernel
theorem dX10_has_14 : decode cX10_has 14 = .ok (.irem, 1) := by decide +kernel
theorem dX10_has_15 : decode cX10_has 15 = .ok (.imul, 1) := by decide +kernel
theorem dX10_has_16 : decode cX10_has 16 = .ok (.iload_n 2, 1) := by decide +kernel
theorem dX10_has_17 : decode cX10_has 17 = .ok (.iadd, 1) := by decide +kernel
theorem dX10_has_18 : decode cX10_has 18 = .ok (.ishr, 1) := by decide +kernel
theorem dX10_has_19 : decode cX10_has 19 = .ok (.iconst 1, 1) := by decide +kernel
theorem dX10_has_20 : decode cX10_has 20 = .ok (.iand, 1) := by decide +kernel
theorem dX10_has_21 : decode cX10_has 21 = .ok (.iconst 1, 1) := by decide +kernel
theorem dX10_has_22 : decode cX10_has 22 = .ok (.if_icmp .ne 7, 3) := by decide +kernel
theorem dX10_has_25 : decode cX10_has 25 = .ok (.iconst 1, 1) := by decide +kernel
theorem dX10_has_26 : decode cX10_has 26 = .ok (.goto 4, 3) := by decide +kernel
theorem dX10_has_29 : decode cX10_has 29 = .ok (.iconst 0, 1) := by decide +kernel
theorem dX10_has_30 : decode cX10_has 30 = .ok (.ireturn, 1) := by decide +kernel
theorem dX10_turns_0 : decode cX10_turns 0 = .ok (.aload_n 0, 1) := by decide +kernel
theorem dX10_turns_1 : decode cX10_turns 1 = .ok (.getfield 7, 3) := by decide +kernel
theorem dX10_turns_4 : decode cX10_turns 4 = .ok (.iload_n 1, 1) := by decide +kernel
theorem dX10_turns_5 : decode cX10_turns 5 = .ok (.iload_n 3, 1) := by decide +kernel
theorem dX10_turns_6 : decode cX10_turns 6 = .ok (.iconst 2, 1) := by decide +kernel
theorem dX10_turns_7 : decode cX10_turns 7 = .ok (.idiv, 1) := by decide +kernel
theorem dX10_turns_8 : decode cX10_turns 8 = .ok (.iadd, 1) := by decide +kernel
theorem dX10_turns_9 : decode cX10_turns 9 = .ok (.dup2, 1) := by decide +kernel
theorem dX10_turns_10 : decode cX10_turns 10 = .ok (.iaload, 1) := by decide +kernel
theorem dX10_turns_11 : decode cX10_turns 11 = .ok (.iconst 1, 1) := by decide +kernel
theorem dX10_turns_12 : decode cX10_turns 12 = .ok (.bipush 16, 2) := by decide +kernel
theorem dX10_turns_14 : decode cX10_turns 14 = .ok (.iload_n 3, 1) := by decide +kernel
theorem dX10_turns_15 : decode cX10_turns 15 = .ok (.iconst 2, 1) := by decide +kernel
theorem dX10_turns_16 : decode cX10_turns 16 = .ok (.irem, 1) := by decide +kernel
theorem dX10_turns_17 : decode cX10_turns 17 = .ok (.imul, 1) := by decide +kernel
theorem dX10_turns_18 : decode cX10_turns 18 = .ok (.iload_n 2, 1) := by decide +kernel
theorem dX10_turns_19 : decode cX10_turns 19 = .ok (.iadd, 1) := by decide +kernel
theorem dX10_turns_20 : decode cX10_turns 20 = .ok (.ishl, 1) := by decide +kernel
theorem dX10_turns_21 : decode cX10_turns 21 = .ok (.ixor, 1) := by decide +kernel
theorem dX10_turns_22 : decode cX10_turns 22 = .ok (.iastore, 1) := by decide +kernel
theorem dX10_turns_23 : decode cX10_turns 23 = .ok (.return_, 1) := by decide +kernel
theorem dX10_gives_0 : decode cX10_gives 0 = .ok (.aload_n 0, 1) := by decide +kernel
theorem dX10_gives_1 : decode cX10_gives 1 = .ok (.iload_n 1, 1) := by decide +kernel
theorem dX10_gives_2 : decode cX10_gives 2 = .ok (.iload_n 2, 1) := by decide +kernel
theorem dX10_gives_3 : decode cX10_gives 3 = .ok (.iload_n 3, 1) := by decide +kernel
theorem dX10_gives_4 : decode cX10_gives 4 = .ok (.invokevirtual 63, 3) := by decide +kernel
theorem dX10_gives_7 : decode cX10_gives 7 = .ok (.ifCond .ne 10, 3) := by decide +kernel
theorem dX10_gives_10 : decode cX10_gives 10 = .ok (.aload_n 0, 1) := by decide +kernel
theorem dX10_gives_11 : decode cX10_gives 11 = .ok (.iload_n 1, 1) := by decide +kernel
theorem dX10_gives_12 : decode cX10_gives 12 = .ok (.iload_n 2, 1) := by decide +kernel
theorem dX10_gives_13 : decode cX10_gives 13 = .ok (.iload_n 3, 1) := by decide +kernel
theorem dX10_gives_14 : decode cX10_gives 14 = .ok (.invokevirtual 66, 3) := by decide +kernel
theorem dX10_gives_17 : decode cX10_gives 17 = .ok (.return_, 1) := by decide +kernel
theorem dX10_bits_0 : decode cX10_bits 0 = .ok (.iconst 0, 1) := by decide +kernel
theorem dX10_bits_1 : decode cX10_bits 1 = .ok (.istore_n 1, 1) := by decide +kernel
theorem dX10_bits_2 : decode cX10_bits 2 = .ok (.iconst 0, 1) := by decide +kernel
theorem dX10_bits_3 : decode cX10_bits 3 = .ok (.istore_n 2, 1) := by decide +kernel
theorem dX10_bits_4 : decode cX10_bits 4 = .ok (.iload_n 2, 1) := by decide +kernel
theorem dX10_bits_5 : decode cX10_bits 5 = .ok (.bipush 32, 2) := by decide +kernel
theorem dX10_bits_7 : decode cX10_bits 7 = .ok (.if_icmp .ge 17, 3) := by decide +kernel
theorem dX10_bits_10 : decode cX10_bits 10 = .ok (.iload_n 1, 1) := by decide +kernel
theorem dX10_bits_11 : decode cX10_bits 11 = .ok (.iload_n 0, 1) := by decide +kernel
theorem dX10_bits_12 : decode cX10_bits 12 = .ok (.iload_n 2, 1) := by decide +kernel
theorem dX10_bits_13 : decode cX10_bits 13 = .ok (.ishr, 1) := by decide +kernel
theorem dX10_bits_14 : decode cX10_bits 14 = .ok (.iconst 1, 1) := by decide +kernel
theorem dX10_bits_15 : decode cX10_bits 15 = .ok (.iand, 1) := by decide +kernel
theorem dX10_bits_16 : decode cX10_bits 16 = .ok (.iadd, 1) := by decide +kernel
theorem dX10_bits_17 : decode cX10_bits 17 = .ok (.istore_n 1, 1) := by decide +kernel
theorem dX10_bits_18 : decode cX10_bits 18 = .ok (.iinc 2 1, 3) := by decide +kernel
theorem dX10_bits_21 : decode cX10_bits 21 = .ok (.goto (-17), 3) := by decide +kernel
theorem dX10_bits_24 : decode cX10_bits 24 = .ok (.iload_n 1, 1) := by decide +kernel
theorem dX10_bits_25 : decode cX10_bits 25 = .ok (.ireturn, 1) := by decide +kernel
theorem dX10_isPlate_0 : decode cX10_isPlate 0 = .ok (.iload_n 1, 1) := by decide +kernel
theorem dX10_isPlate_1 : decode cX10_isPlate 1 = .ok (.iconst 0, 1) := by decide +kernel
theorem dX10_isPlate_2 : decode cX10_isPlate 2 = .ok (.aload_n 0, 1) := by decide +kernel
theorem dX10_isPlate_3 : decode cX10_isPlate 3 = .ok (.getfield 7, 3) := by decide +kernel
theorem dX10_isPlate_6 : decode cX10_isPlate 6 = .ok (.iconst 0, 1) := by decide +kernel
theorem dX10_isPlate_7 : decode cX10_isPlate 7 = .ok (.iaload, 1) := by decide +kernel
theorem dX10_isPlate_8 : decode cX10_isPlate 8 = .ok (.iconst 1, 1) := by decide +kernel
theorem dX10_isPlate_9 : decode cX10_isPlate 9 = .ok (.isub, 1) := by decide +kernel
theorem dX10_isPlate_10 : decode cX10_isPlate 10 = .ok (.invokestatic 59, 3) := by decide +kernel
theorem dX10_isPlate_13 : decode cX10_isPlate 13 = .ok (.ireturn, 1) := by decide +kernel
theorem dX10_of_0 : decode cX10_of 0 = .ok (.aload_n 0, 1) := by decide +kernel
theorem dX10_of_1 : decode cX10_of 1 = .ok (.getfield 7, 3) := by decide +kernel
theorem dX10_of_4 : decode cX10_of 4 = .ok (.bipush 9, 2) := by decide +kernel
theorem dX10_of_6 : decode cX10_of 6 = .ok (.bipush 7, 2) := by decide +kernel
theorem dX10_of_8 : decode cX10_of 8 = .ok (.iload_n 1, 1) := by decide +kernel
theorem dX10_of_9 : decode cX10_of 9 = .ok (.imul, 1) := by decide +kernel
theorem dX10_of_10 : decode cX10_of 10 = .ok (.iadd, 1) := by decide +kernel
theorem dX10_of_11 : decode cX10_of 11 = .ok (.iload_n 2, 1) := by decide +kernel
theorem dX10_of_12 : decode cX10_of 12 = .ok (.iadd, 1) := by decide +kernel
theorem dX10_of_13 : decode cX10_of 13 = .ok (.iaload, 1) := by decide +kernel
theorem dX10_of_14 : decode cX10_of 14 = .ok (.ireturn, 1) := by decide +kernel
theorem dX10_stars_0 : decode cX10_stars 0 = .ok (.bipush 9, 2) := by decide +kernel
theorem dX10_stars_2 : decode cX10_stars 2 = .ok (.bipush 7, 2) := by decide +kernel
theorem dX10_stars_4 : decode cX10_stars 4 = .ok (.iload_n 1, 1) := by decide +kernel
theorem dX10_stars_5 : decode cX10_stars 5 = .ok (.imul, 1) := by decide +kernel
theorem dX10_stars_6 : decode cX10_stars 6 = .ok (.iadd, 1) := by decide +kernel
theorem dX10_stars_7 : decode cX10_stars 7 = .ok (.iconst 3, 1) := by decide +kernel
theorem dX10_stars_8 : decode cX10_stars 8 = .ok (.iadd, 1) := by decide +kernel
theorem dX10_stars_9 : decode cX10_stars 9 = .ok (.ireturn, 1) := by decide +kernel
theorem dX10_starred_0 : decode cX10_starred 0 = .ok (.iconst 0, 1) := by decide +kernel
theorem dX10_starred_1 : decode cX10_starred 1 = .ok (.istore_n 2, 1) := by decide +kernel
theorem dX10_starred_2 : decode cX10_starred 2 = .ok (.iconst 0, 1) := by decide +kernel
theorem dX10_starred_3 : decode cX10_starred 3 = .ok (.istore_n 3, 1) := by decide +kernel
theorem dX10_starred_4 : decode cX10_starred 4 = .ok (.iload_n 3, 1) := by decide +kernel
theorem dX10_starred_5 : decode cX10_starred 5 = .ok (.iconst 4, 1) := by decide +kernel
theorem dX10_starred_6 : decode cX10_starred 6 = .ok (.if_icmp .ge 27, 3) := by decide +kernel
theorem dX10_starred_9 : decode cX10_starred 9 = .ok (.iload_n 2, 1) := by decide +kernel
theorem dX10_starred_10 : decode cX10_starred 10 = .ok (.aload_n 0, 1) := by decide +kernel
theorem dX10_starred_11 : decode cX10_starred 11 = .ok (.getfield 7, 3) := by decide +kernel
theorem dX10_starred_14 : decode cX10_starred 14 = .ok (.aload_n 0, 1) := by decide +kernel
theorem dX10_starred_15 : decode cX10_starred 15 = .ok (.iload_n 1, 1) := by decide +kernel
theorem dX10_starred_16 : decode cX10_starred 16 = .ok (.invokevirtual 70, 3) := by decide +kernel
theorem dX10_starred_19 : decode cX10_starred 19 = .ok (.iload_n 3, 1) := by decide +kernel
theorem dX10_starred_20 : decode cX10_starred 20 = .ok (.iadd, 1) := by decide +kernel
theorem dX10_starred_21 : decode cX10_starred 21 = .ok (.iaload, 1) := by decide +kernel
theorem dX10_starred_22 : decode cX10_starred 22 = .ok (.invokestatic 74, 3) := by decide +kernel
theorem dX10_starred_25 : decode cX10_starred 25 = .ok (.iadd, 1) := by decide +kernel
theorem dX10_starred_26 : decode cX10_starred 26 = .ok (.istore_n 2, 1) := by decide +kernel
theorem dX10_starred_27 : decode cX10_starred 27 = .ok (.iinc 3 1, 3) := by decide +kernel
theorem dX10_starred_30 : decode cX10_starred 30 = .ok (.goto (-26), 3) := by decide +kernel
theorem dX10_starred_33 : decode cX10_starred 33 = .ok (.iload_n 2, 1) := by decide +kernel
theorem dX10_starred_34 : decode cX10_starred 34 = .ok (.ireturn, 1) := by decide +kernel
theorem dX10_which_0 : decode cX10_which 0 = .ok (.iload_n 0, 1) := by decide +kernel
theorem dX10_which_1 : decode cX10_which 1 = .ok (.iconst 1, 1) := by decide +kernel
theorem dX10_which_2 : decode cX10_which 2 = .ok (.if_icmp .ne 7, 3) := by decide +kernel
theorem dX10_which_5 : decode cX10_which 5 = .ok (.iconst 0, 1) := by decide +kernel
theorem dX10_which_6 : decode cX10_which 6 = .ok (.goto 22, 3) := by decide +kernel
theorem dX10_which_9 : decode cX10_which 9 = .ok (.iload_n 0, 1) := by decide +kernel
theorem dX10_which_10 : decode cX10_which 10 = .ok (.iconst 2, 1) := by decide +kernel
theorem dX10_which_11 : decode cX10_which 11 = .ok (.if_icmp .ne 7, 3) := by decide +kernel
theorem dX10_which_14 : decode cX10_which 14 = .ok (.iconst 1, 1) := by decide +kernel
theorem dX10_which_15 : decode cX10_which 15 = .ok (.goto 13, 3) := by decide +kernel
theorem dX10_which_18 : decode cX10_which 18 = .ok (.iload_n 0, 1) := by decide +kernel
theorem dX10_which_19 : decode cX10_which 19 = .ok (.iconst 4, 1) := by decide +kernel
theorem dX10_which_20 : decode cX10_which 20 = .ok (.if_icmp .ne 7, 3) := by decide +kernel
theorem dX10_which_23 : decode cX10_which 23 = .ok (.iconst 2, 1) := by decide +kernel
theorem dX10_which_24 : decode cX10_which 24 = .ok (.goto 4, 3) := by decide +kernel
theorem dX10_which_27 : decode cX10_which 27 = .ok (.iconst (-1), 1) := by decide +kernel
theorem dX10_which_28 : decode cX10_which 28 = .ok (.ireturn, 1) := by decide +kernel
theorem dX10_addPlate_0 : decode cX10_addPlate 0 = .ok (.aload_n 0, 1) := by decide +kernel
theorem dX10_addPlate_1 : decode cX10_addPlate 1 = .ok (.iload_n 1, 1) := by decide +kernel
theorem dX10_addPlate_2 : decode cX10_addPlate 2 = .ok (.invokestatic 77, 3) := by decide +kernel
theorem dX10_addPlate_5 : decode cX10_addPlate 5 = .ok (.ifCond .ge 7, 3) := by decide +kernel
theorem dX10_addPlate_8 : decode cX10_addPlate 8 = .ok (.iconst 1, 1) := by decide +kernel
theorem dX10_addPlate_9 : decode cX10_addPlate 9 = .ok (.goto 19, 3) := by decide +kernel
theorem dX10_addPlate_12 : decode cX10_addPlate 12 = .ok (.aload_n 0, 1) := by decide +kernel
theorem dX10_addPlate_13 : decode cX10_addPlate 13 = .ok (.getfield 7, 3) := by decide +kernel
theorem dX10_addPlate_16 : decode cX10_addPlate 16 = .ok (.iconst 0, 1) := by decide +kernel
theorem dX10_addPlate_17 : decode cX10_addPlate 17 = .ok (.iaload, 1) := by decide +kernel
theorem dX10_addPlate_18 : decode cX10_addPlate 18 = .ok (.bipush 6, 2) := by decide +kernel
theorem dX10_addPlate_20 : decode cX10_addPlate 20 = .ok (.if_icmp .ne 7, 3) := by decide +kernel
theorem dX10_addPlate_23 : decode cX10_addPlate 23 = .ok (.iconst 2, 1) := by decide +kernel
theorem dX10_addPlate_24 : decode cX10_addPlate 24 = .ok (.goto 4, 3) := by decide +kernel
theorem dX10_addPlate_27 : decode cX10_addPlate 27 = .ok (.iconst 0, 1) := by decide +kernel
theorem dX10_addPlate_28 : decode cX10_addPlate 28 = .ok (.invokevirtual 80, 3) := by decide +kernel
theorem dX10_addPlate_31 : decode cX10_addPlate 31 = .ok (.ifCond .eq 5, 3) := by decide +kernel
theorem dX10_addPlate_34 : decode cX10_addPlate 34 = .ok (.iconst 0, 1) := by decide +kernel
theorem dX10_addPlate_35 : decode cX10_addPlate 35 = .ok (.ireturn, 1) := by decide +kernel
theorem dX10_addPlate_36 : decode cX10_addPlate 36 = .ok (.aload_n 0, 1) := by decide +kernel
theorem dX10_addPlate_37 : decode cX10_addPlate 37 = .ok (.aload_n 0, 1) := by decide +kernel
theorem dX10_addPlate_38 : decode cX10_addPlate 38 = .ok (.getfield 7, 3) := by decide +kernel
theorem dX10_addPlate_41 : decode cX10_addPlate 41 = .ok (.invokevirtual 84, 3) := by decide +kernel
theorem dX10_addPlate_44 : decode cX10_addPlate 44 = .ok (.iconst 0, 1) := by decide +kernel
theorem dX10_addPlate_45 : decode cX10_addPlate 45 = .ok (.istore_n 2, 1) := by decide +kernel
theorem dX10_addPlate_46 : decode cX10_addPlate 46 = .ok (.iload_n 2, 1) := by decide +kernel
theorem dX10_addPlate_47 : decode cX10_addPlate 47 = .ok (.bipush 7, 2) := by decide +kernel
theorem dX10_addPlate_49 : decode cX10_addPlate 49 = .ok (.if_icmp .ge 29, 3) := by decide +kernel
theorem dX10_addPlate_52 : decode cX10_addPlate 52 = .ok (.aload_n 0, 1) := by decide +kernel
theorem dX10_addPlate_53 : decode cX10_addPlate 53 = .ok (.getfield 7, 3) := by decide +kernel
theorem dX10_addPlate_56 : decode cX10_addPlate 56 = .ok (.bipush 9, 2) := by decide +kernel
theorem dX10_addPlate_58 : decode cX10_addPlate 58 = .ok (.bipush 7, 2) := by decide +kernel
theorem dX10_addPlate_60 : decode cX10_addPlate 60 = .ok (.aload_n 0, 1) := by decide +kernel
theorem dX10_addPlate_61 : decode cX10_addPlate 61 = .ok (.getfield 7, 3) := by decide +kernel
theorem dX10_addPlate_64 : decode cX10_addPlate 64 = .ok (.iconst 0, 1) := by decide +kernel
theorem dX10_addPlate_65 : decode cX10_addPlate 65 = .ok (.iaload, 1) := by decide +kernel
theorem dX10_addPlate_66 : decode cX10_addPlate 66 = .ok (.imul, 1) := by decide +kernel
theorem dX10_addPlate_67 : decode cX10_addPlate 67 = .ok (.iadd, 1) := by decide +kernel
theorem dX10_addPlate_68 : decode cX10_addPlate 68 = .ok (.iload_n 2, 1) := by decide +kernel
theorem dX10_addPlate_69 : decode cX10_addPlate 69 = .ok (.iadd, 1) := by decide +kernel
theorem dX10_addPlate_70 : decode cX10_addPlate 70 = .ok (.iconst 0, 1) := by decide +kernel
theorem dX10_addPlate_71 : decode cX10_addPlate 71 = .ok (.iastore, 1) := by decide +kernel
theorem dX10_addPlate_72 : decode cX10_addPlate 72 = .ok (.iinc 2 1, 3) := by decide +kernel
theorem dX10_addPlate_75 : decode cX10_addPlate 75 = .ok (.goto (-29), 3) := by decide +kernel
theorem dX10_addPlate_78 : decode cX10_addPlate 78 = .ok (.aload_n 0, 1) := by decide +kernel
theorem dX10_addPlate_79 : decode cX10_addPlate 79 = .ok (.getfield 7, 3) := by decide +kernel
theorem dX10_addPlate_82 : decode cX10_addPlate 82 = .ok (.bipush 9, 2) := by decide +kernel
theorem dX10_addPlate_84 : decode cX10_addPlate 84 = .ok (.bipush 7, 2) := by decide +kernel
theorem dX10_addPlate_86 : decode cX10_addPlate 86 = .ok (.aload_n 0, 1) := by decide +kernel
theorem dX10_addPlate_87 : decode cX10_addPlate 87 = .ok (.getfield 7, 3) := by decide +kernel
theorem dX10_addPlate_90 : decode cX10_addPlate 90 = .ok (.iconst 0, 1) := by decide +kernel
theorem dX10_addPlate_91 : decode cX10_addPlate 91 = .ok (.iaload, 1) := by decide +kernel
theorem dX10_addPlate_92 : decode cX10_addPlate 92 = .ok (.imul, 1) := by decide +kernel
theorem dX10_addPlate_93 : decode cX10_addPlate 93 = .ok (.iadd, 1) := by decide +kernel
theorem dX10_addPlate_94 : decode cX10_addPlate 94 = .ok (.iconst 0, 1) := by decide +kernel
theorem dX10_addPlate_95 : decode cX10_addPlate 95 = .ok (.iadd, 1) := by decide +kernel
theorem dX10_addPlate_96 : decode cX10_addPlate 96 = .ok (.iload_n 1, 1) := by decide +kernel
theorem dX10_addPlate_97 : decode cX10_addPlate 97 = .ok (.iastore, 1) := by decide +kernel
theorem dX10_addPlate_98 : decode cX10_addPlate 98 = .ok (.aload_n 0, 1) := by decide +kernel
theorem dX10_addPlate_99 : decode cX10_addPlate 99 = .ok (.getfield 7, 3) := by decide +kernel
theorem dX10_addPlate_102 : decode cX10_addPlate 102 = .ok (.iconst 0, 1) := by decide +kernel
theorem dX10_addPlate_103 : decode cX10_addPlate 103 = .ok (.dup2, 1) := by decide +kernel
theorem dX10_addPlate_104 : decode cX10_addPlate 104 = .ok (.iaload, 1) := by decide +kernel
theorem dX10_addPlate_105 : decode cX10_addPlate 105 = .ok (.iconst 1, 1) := by decide +kernel
theorem dX10_addPlate_106 : decode cX10_addPlate 106 = .ok (.iadd, 1) := by decide +kernel
theorem dX10_addPlate_107 : decode cX10_addPlate 107 = .ok (.iastore, 1) := by decide +kernel
theorem dX10_addPlate_108 : decode cX10_addPlate 108 = .ok (.aload_n 0, 1) := by decide +kernel
theorem dX10_addPlate_109 : decode cX10_addPlate 109 = .ok (.getfield 7, 3) := by decide +kernel
theorem dX10_addPlate_112 : decode cX10_addPlate 112 = .ok (.iconst 0, 1) := by decide +kernel
theorem dX10_addPlate_113 : decode cX10_addPlate 113 = .ok (.iaload, 1) := by decide +kernel
theorem dX10_addPlate_114 : decode cX10_addPlate 114 = .ok (.iconst 1, 1) := by decide +kernel
theorem dX10_addPlate_115 : decode cX10_addPlate 115 = .ok (.isub, 1) := by decide +kernel
theorem dX10_addPlate_116 : decode cX10_addPlate 116 = .ok (.ireturn, 1) := by decide +kernel
theorem dX10_addStar_0 : decode cX10_addStar 0 = .ok (.aload_n 0, 1) := by decide +kernel
theorem dX10_addStar_1 : decode cX10_addStar 1 = .ok (.aload_n 0, 1) := by decide +kernel
theorem dX10_addStar_2 : decode cX10_addStar 2 = .ok (.iload_n 1, 1) := by decide +kernel
theorem dX10_addStar_3 : decode cX10_addStar 3 = .ok (.invokevirtual 88, 3) := by decide +kernel
theorem dX10_addStar_6 : decode cX10_addStar 6 = .ok (.ifCond .ne 7, 3) := by decide +kernel
theorem dX10_addStar_9 : decode cX10_addStar 9 = .ok (.iconst 1, 1) := by decide +kernel
theorem dX10_addStar_10 : decode cX10_addStar 10 = .ok (.goto 44, 3) := by decide +kernel
theorem dX10_addStar_13 : decode cX10_addStar 13 = .ok (.iload_n 2, 1) := by decide +kernel
theorem dX10_addStar_14 : decode cX10_addStar 14 = .ok (.iload_n 3, 1) := by decide +kernel
theorem dX10_addStar_15 : decode cX10_addStar 15 = .ok (.invokestatic 91, 3) := by decide +kernel
theorem dX10_addStar_18 : decode cX10_addStar 18 = .ok (.ifCond .ne 7, 3) := by decide +kernel
theorem dX10_addStar_21 : decode cX10_addStar 21 = .ok (.iconst 2, 1) := by decide +kernel
theorem dX10_addStar_22 : decode cX10_addStar 22 = .ok (.goto 32, 3) := by decide +kernel
theorem dX10_addStar_25 : decode cX10_addStar 25 = .ok (.aload_n 0, 1) := by decide +kernel
theorem dX10_addStar_26 : decode cX10_addStar 26 = .ok (.aload_n 0, 1) := by decide +kernel
theorem dX10_addStar_27 : decode cX10_addStar 27 = .ok (.iload_n 1, 1) := by decide +kernel
theorem dX10_addStar_28 : decode cX10_addStar 28 = .ok (.invokevirtual 70, 3) := by decide +kernel
theorem dX10_addStar_31 : decode cX10_addStar 31 = .ok (.iload_n 2, 1) := by decide +kernel
theorem dX10_addStar_32 : decode cX10_addStar 32 = .ok (.iload_n 3, 1) := by decide +kernel
theorem dX10_addStar_33 : decode cX10_addStar 33 = .ok (.invokevirtual 63, 3) := by decide +kernel
theorem dX10_addStar_36 : decode cX10_addStar 36 = .ok (.ifCond .ne 13, 3) := by decide +kernel
theorem dX10_addStar_39 : decode cX10_addStar 39 = .ok (.aload_n 0, 1) := by decide +kernel
theorem dX10_addStar_40 : decode cX10_addStar 40 = .ok (.iload_n 1, 1) := by decide +kernel
theorem dX10_addStar_41 : decode cX10_addStar 41 = .ok (.invokevirtual 95, 3) := by decide +kernel
theorem dX10_addStar_44 : decode cX10_addStar 44 = .ok (.bipush 20, 2) := by decide +kernel
theorem dX10_addStar_46 : decode cX10_addStar 46 = .ok (.if_icmp .ne 7, 3) := by decide +kernel
theorem dX10_addStar_49 : decode cX10_addStar 49 = .ok (.iconst 3, 1) := by decide +kernel
theorem dX10_addStar_50 : decode cX10_addStar 50 = .ok (.goto 4, 3) := by decide +kernel
theorem dX10_addStar_53 : decode cX10_addStar 53 = .ok (.iconst 0, 1) := by decide +kernel
theorem dX10_addStar_54 : decode cX10_addStar 54 = .ok (.invokevirtual 80, 3) := by decide +kernel
theorem dX10_addStar_57 : decode cX10_addStar 57 = .ok (.ifCond .eq 5, 3) := by decide +kernel
theorem dX10_addStar_60 : decode cX10_addStar 60 = .ok (.iconst 0, 1) := by decide +kernel
theorem dX10_addStar_61 : decode cX10_addStar 61 = .ok (.ireturn, 1) := by decide +kernel
theorem dX10_addStar_62 : decode cX10_addStar 62 = .ok (.aload_n 0, 1) := by decide +kernel
theorem dX10_addStar_63 : decode cX10_addStar 63 = .ok (.aload_n 0, 1) := by decide +kernel
theorem dX10_addStar_64 : decode cX10_addStar 64 = .ok (.getfield 7, 3) := by decide +kernel
theorem dX10_addStar_67 : decode cX10_addStar 67 = .ok (.invokevirtual 84, 3) := by decide +kernel
theorem dX10_addStar_70 : decode cX10_addStar 70 = .ok (.aload_n 0, 1) := by decide +kernel
theorem dX10_addStar_71 : decode cX10_addStar 71 = .ok (.aload_n 0, 1) := by decide +kernel
theorem dX10_addStar_72 : decode cX10_addStar 72 = .ok (.iload_n 1, 1) := by decide +kernel
theorem dX10_addStar_73 : decode cX10_addStar 73 = .ok (.invokevirtual 70, 3) := by decide +kernel
theorem dX10_addStar_76 : decode cX10_addStar 76 = .ok (.iload_n 2, 1) := by decide +kernel
theorem dX10_addStar_77 : decode cX10_addStar 77 = .ok (.iload_n 3, 1) := by decide +kernel
theorem dX10_addStar_78 : decode cX10_addStar 78 = .ok (.invokevirtual 66, 3) := by decide +kernel
theorem dX10_addStar_81 : decode cX10_addStar 81 = .ok (.aload_n 0, 1) := by decide +kernel
theorem dX10_addStar_82 : decode cX10_addStar 82 = .ok (.iload_n 1, 1) := by decide +kernel
theorem dX10_addStar_83 : decode cX10_addStar 83 = .ok (.invokevirtual 95, 3) := by decide +kernel
theorem dX10_addStar_86 : decode cX10_addStar 86 = .ok (.ireturn, 1) := by decide +kernel
theorem dX10_removeStar_0 : decode cX10_removeStar 0 = .ok (.aload_n 0, 1) := by decide +kernel
theorem dX10_removeStar_1 : decode cX10_removeStar 1 = .ok (.aload_n 0, 1) := by decide +kernel
theorem dX10_removeStar_2 : decode cX10_removeStar 2 = .ok (.iload_n 1, 1) := by decide +kernel
theorem dX10_removeStar_3 : decode cX10_removeStar 3 = .ok (.invokevirtual 88, 3) := by decide +kernel
theorem dX10_removeStar_6 : decode cX10_removeStar 6 = .ok (.ifCond .ne 7, 3) := by decide +kernel
theorem dX10_removeStar_9 : decode cX10_removeStar 9 = .ok (.iconst 1, 1) := by decide +kernel
theorem dX10_removeStar_10 : decode cX10_removeStar 10 = .ok (.goto 34, 3) := by decide +kernel
theorem dX10_removeStar_13 : decode cX10_removeStar 13 = .ok (.iload_n 2, 1) := by decide +kernel
theorem dX10_removeStar_14 : decode cX10_removeStar 14 = .ok (.iload_n 3, 1) := by decide +kernel
theorem dX10_removeStar_15 : decode cX10_removeStar 15 = .ok (.invokestatic 91, 3) := by decide +kernel
theorem dX10_removeStar_18 : decode cX10_removeStar 18 = .ok (.ifCond .ne 7, 3) := by decide +kernel
theorem dX10_removeStar_21 : decode cX10_removeStar 21 = .ok (.iconst 2, 1) := by decide +kernel
theorem dX10_removeStar_22 : decode cX10_removeStar 22 = .ok (.goto 22, 3) := by decide +kernel
theorem dX10_removeStar_25 : decode cX10_removeStar 25 = .ok (.aload_n 0, 1) := by decide +kernel
theorem dX10_removeStar_26 : decode cX10_removeStar 26 = .ok (.aload_n 0, 1) := by decide +kernel
theorem dX10_removeStar_27 : decode cX10_removeStar 27 = .ok (.iload_n 1, 1) := by decide +kernel
theorem dX10_removeStar_28 : decode cX10_removeStar 28 = .ok (.invokevirtual 70, 3) := by decide +kernel
theorem dX10_removeStar_31 : decode cX10_removeStar 31 = .ok (.iload_n 2, 1) := by decide +kernel
theorem dX10_removeStar_32 : decode cX10_removeStar 32 = .ok (.iload_n 3, 1) := by decide +kernel
theorem dX10_removeStar_33 : decode cX10_removeStar 33 = .ok (.invokevirtual 63, 3) := by decide +kernel
theorem dX10_removeStar_36 : decode cX10_removeStar 36 = .ok (.ifCond .eq 7, 3) := by decide +kernel
theorem dX10_removeStar_39 : decode cX10_removeStar 39 = .ok (.iconst 0, 1) := by decide +kernel
theorem dX10_removeStar_40 : decode cX10_removeStar 40 = .ok (.goto 4, 3) := by decide +kernel
theorem dX10_removeStar_43 : decode cX10_removeStar 43 = .ok (.iconst 3, 1) := by decide +kernel
theorem dX10_removeStar_44 : decode cX10_removeStar 44 = .ok (.invokevirtual 80, 3) := by decide +kernel
theorem dX10_removeStar_47 : decode cX10_removeStar 47 = .ok (.ifCond .eq 5, 3) := by decide +kernel
theorem dX10_removeStar_50 : decode cX10_removeStar 50 = .ok (.iconst 0, 1) := by decide +kernel
theorem dX10_removeStar_51 : decode cX10_removeStar 51 = .ok (.ireturn, 1) := by decide +kernel
theorem dX10_removeStar_52 : decode cX10_removeStar 52 = .ok (.aload_n 0, 1) := by decide +kernel
theorem dX10_removeStar_53 : decode cX10_removeStar 53 = .ok (.aload_n 0, 1) := by decide +kernel
theorem dX10_removeStar_54 : decode cX10_removeStar 54 = .ok (.getfield 7, 3) := by decide +kernel
theorem dX10_removeStar_57 : decode cX10_removeStar 57 = .ok (.invokevirtual 84, 3) := by decide +kernel
theorem dX10_removeStar_60 : decode cX10_removeStar 60 = .ok (.aload_n 0, 1) := by decide +kernel
theorem dX10_removeStar_61 : decode cX10_removeStar 61 = .ok (.aload_n 0, 1) := by decide +kernel
theorem dX10_removeStar_62 : decode cX10_removeStar 62 = .ok (.iload_n 1, 1) := by decide +kernel
theorem dX10_removeStar_63 : decode cX10_removeStar 63 = .ok (.invokevirtual 70, 3) := by decide +kernel
theorem dX10_removeStar_66 : decode cX10_removeStar 66 = .ok (.iload_n 2, 1) := by decide +kernel
theorem dX10_removeStar_67 : decode cX10_removeStar 67 = .ok (.iload_n 3, 1) := by decide +kernel
theorem dX10_removeStar_68 : decode cX10_removeStar 68 = .ok (.invokevirtual 66, 3) := by decide +kernel
theorem dX10_removeStar_71 : decode cX10_removeStar 71 = .ok (.aload_n 0, 1) := by decide +kernel
theorem dX10_removeStar_72 : decode cX10_removeStar 72 = .ok (.iload_n 1, 1) := by decide +kernel
theorem dX10_removeStar_73 : decode cX10_removeStar 73 = .ok (.invokevirtual 95, 3) := by decide +kernel
theorem dX10_removeStar_76 : decode cX10_removeStar 76 = .ok (.ireturn, 1) := by decide +kernel
theorem dX10_beside_0 : decode cX10_beside 0 = .ok (.iconst 0, 1) := by decide +kernel
theorem dX10_beside_1 : decode cX10_beside 1 = .ok (.istore_n 2, 1) := by decide +kernel
theorem dX10_beside_2 : decode cX10_beside 2 = .ok (.iconst 0, 1) := by decide +kernel
theorem dX10_beside_3 : decode cX10_beside 3 = .ok (.istore_n 3, 1) := by decide +kernel
theorem dX10_beside_4 : decode cX10_beside 4 = .ok (.iload_n 3, 1) := by decide +kernel
theorem dX10_beside_5 : decode cX10_beside 5 = .ok (.sipush 128, 3) := by decide +kernel
theorem dX10_beside_8 : decode cX10_beside 8 = .ok (.if_icmp .ge 65, 3) := by decide +kernel
theorem dX10_beside_11 : decode cX10_beside 11 = .ok (.iload_n 2, 1) := by decide +kernel
theorem dX10_beside_12 : decode cX10_beside 12 = .ok (.aload_n 0, 1) := by decide +kernel
theorem dX10_beside_13 : decode cX10_beside 13 = .ok (.aload_n 0, 1) := by decide +kernel
theorem dX10_beside_14 : decode cX10_beside 14 = .ok (.iload_n 1, 1) := by decide +kernel
theorem dX10_beside_15 : decode cX10_beside 15 = .ok (.invokevirtual 70, 3) := by decide +kernel
theorem dX10_beside_18 : decode cX10_beside 18 = .ok (.iload_n 3, 1) := by decide +kernel
theorem dX10_beside_19 : decode cX10_beside 19 = .ok (.bipush 16, 2) := by decide +kernel
theorem dX10_beside_21 : decode cX10_beside 21 = .ok (.irem, 1) := by decide +kernel
theorem dX10_beside_22 : decode cX10_beside 22 = .ok (.iload_n 3, 1) := by decide +kernel
theorem dX10_beside_23 : decode cX10_beside 23 = .ok (.bipush 16, 2) := by decide +kernel
theorem dX10_beside_25 : decode cX10_beside 25 = .ok (.idiv, 1) := by decide +kernel
theorem dX10_beside_26 : decode cX10_beside 26 = .ok (.invokevirtual 63, 3) := by decide +kernel
theorem dX10_beside_29 : decode cX10_beside 29 = .ok (.ifCond .eq 35, 3) := by decide +kernel
theorem dX10_beside_32 : decode cX10_beside 32 = .ok (.iload_n 3, 1) := by decide +kernel
theorem dX10_beside_33 : decode cX10_beside 33 = .ok (.bipush 16, 2) := by decide +kernel
theorem dX10_beside_35 : decode cX10_beside 35 = .ok (.irem, 1) := by decide +kernel
theorem dX10_beside_36 : decode cX10_beside 36 = .ok (.aload_n 0, 1) := by decide +kernel
theorem dX10_beside_37 : decode cX10_beside 37 = .ok (.iload_n 1, 1) := by decide +kernel
theorem dX10_beside_38 : decode cX10_beside 38 = .ok (.iconst 1, 1) := by decide +kernel
theorem dX10_beside_39 : decode cX10_beside 39 = .ok (.invokevirtual 98, 3) := by decide +kernel
theorem dX10_beside_42 : decode cX10_beside 42 = .ok (.iadd, 1) := by decide +kernel
theorem dX10_beside_43 : decode cX10_beside 43 = .ok (.iload_n 3, 1) := by decide +kernel
theorem dX10_beside_44 : decode cX10_beside 44 = .ok (.bipush 16, 2) := by decide +kernel
theorem dX10_beside_46 : decode cX10_beside 46 = .ok (.idiv, 1) := by decide +kernel
theorem dX10_beside_47 : decode cX10_beside 47 = .ok (.aload_n 0, 1) := by decide +kernel
theorem dX10_beside_48 : decode cX10_beside 48 = .ok (.iload_n 1, 1) := by decide +kernel
theorem dX10_beside_49 : decode cX10_beside 49 = .ok (.iconst 2, 1) := by decide +kernel
theorem dX10_beside_50 : decode cX10_beside 50 = .ok (.invokevirtual 98, 3) := by decide +kernel
theorem dX10_beside_53 : decode cX10_beside 53 = .ok (.iadd, 1) := by decide +kernel
theorem dX10_beside_54 : decode cX10_beside 54 = .ok (.invokestatic 91, 3) := by decide +kernel
theorem dX10_beside_57 : decode cX10_beside 57 = .ok (.ifCond .ne 7, 3) := by decide +kernel
theorem dX10_beside_60 : decode cX10_beside 60 = .ok (.iconst 1, 1) := by decide +kernel
theorem dX10_beside_61 : decode cX10_beside 61 = .ok (.goto 4, 3) := by decide +kernel
theorem dX10_beside_64 : decode cX10_beside 64 = .ok (.iconst 0, 1) := by decide +kernel
theorem dX10_beside_65 : decode cX10_beside 65 = .ok (.iadd, 1) := by decide +kernel
theorem dX10_beside_66 : decode cX10_beside 66 = .ok (.istore_n 2, 1) := by decide +kernel
theorem dX10_beside_67 : decode cX10_beside 67 = .ok (.iinc 3 1, 3) := by decide +kernel
theorem dX10_beside_70 : decode cX10_beside 70 = .ok (.goto (-66), 3) := by decide +kernel
theorem dX10_beside_73 : decode cX10_beside 73 = .ok (.iload_n 2, 1) := by decide +kernel
theorem dX10_beside_74 : decode cX10_beside 74 = .ok (.ireturn, 1) := by decide +kernel
theorem dX10_areNear_0 : decode cX10_areNear 0 = .ok (.iload_n 0, 1) := by decide +kernel
theorem dX10_areNear_1 : decode cX10_areNear 1 = .ok (.bipush (-3), 2) := by decide +kernel
theorem dX10_areNear_3 : decode cX10_areNear 3 = .ok (.iconst 3, 1) := by decide +kernel
theorem dX10_areNear_4 : decode cX10_areNear 4 = .ok (.invokestatic 59, 3) := by decide +kernel
theorem dX10_areNear_7 : decode cX10_areNear 7 = .ok (.ifCond .eq 17, 3) := by decide +kernel
theorem dX10_areNear_10 : decode cX10_areNear 10 = .ok (.iload_n 1, 1) := by decide +kernel
theorem dX10_areNear_11 : decode cX10_areNear 11 = .ok (.bipush (-3), 2) := by decide +kernel
theorem dX10_areNear_13 : decode cX10_areNear 13 = .ok (.iconst 3, 1) := by decide +kernel
theorem dX10_areNear_14 : decode cX10_areNear 14 = .ok (.invokestatic 59, 3) := by decide +kernel
theorem dX10_areNear_17 : decode cX10_areNear 17 = .ok (.ifCond .eq 7, 3) := by decide +kernel
theorem dX10_areNear_20 : decode cX10_areNear 20 = .ok (.iconst 1, 1) := by decide +kernel
theorem dX10_areNear_21 : decode cX10_areNear 21 = .ok (.goto 4, 3) := by decide +kernel
theorem dX10_areNear_24 : decode cX10_areNear 24 = .ok (.iconst 0, 1) := by decide +kernel
theorem dX10_areNear_25 : decode cX10_areNear 25 = .ok (.ireturn, 1) := by decide +kernel
theorem dX10_sets_0 : decode cX10_sets 0 = .ok (.aload_n 0, 1) := by decide +kernel
theorem dX10_sets_1 : decode cX10_sets 1 = .ok (.getfield 7, 3) := by decide +kernel
theorem dX10_sets_4 : decode cX10_sets 4 = .ok (.bipush 9, 2) := by decide +kernel
theorem dX10_sets_6 : decode cX10_sets 6 = .ok (.bipush 7, 2) := by decide +kernel
theorem dX10_sets_8 : decode cX10_sets 8 = .ok (.iload_n 1, 1) := by decide +kernel
theorem dX10_sets_9 : decode cX10_sets 9 = .ok (.imul, 1) := by decide +kernel
theorem dX10_sets_10 : decode cX10_sets 10 = .ok (.iadd, 1) := by decide +kernel
theorem dX10_sets_11 : decode cX10_sets 11 = .ok (.iconst 1, 1) := by decide +kernel
theorem dX10_sets_12 : decode cX10_sets 12 = .ok (.iadd, 1) := by decide +kernel
theorem dX10_sets_13 : decode cX10_sets 13 = .ok (.iload_n 2, 1) := by decide +kernel
theorem dX10_sets_14 : decode cX10_sets 14 = .ok (.iastore, 1) := by decide +kernel
theorem dX10_sets_15 : decode cX10_sets 15 = .ok (.aload_n 0, 1) := by decide +kernel
theorem dX10_sets_16 : decode cX10_sets 16 = .ok (.getfield 7, 3) := by decide +kernel
theorem dX10_sets_19 : decode cX10_sets 19 = .ok (.bipush 9, 2) := by decide +kernel
theorem dX10_sets_21 : decode cX10_sets 21 = .ok (.bipush 7, 2) := by decide +kernel
theorem dX10_sets_23 : decode cX10_sets 23 = .ok (.iload_n 1, 1) := by decide +kernel
theorem dX10_sets_24 : decode cX10_sets 24 = .ok (.imul, 1) := by decide +kernel
theorem dX10_sets_25 : decode cX10_sets 25 = .ok (.iadd, 1) := by decide +kernel
theorem dX10_sets_26 : decode cX10_sets 26 = .ok (.iconst 2, 1) := by decide +kernel
theorem dX10_sets_27 : decode cX10_sets 27 = .ok (.iadd, 1) := by decide +kernel
theorem dX10_sets_28 : decode cX10_sets 28 = .ok (.iload_n 3, 1) := by decide +kernel
theorem dX10_sets_29 : decode cX10_sets 29 = .ok (.iastore, 1) := by decide +kernel
theorem dX10_sets_30 : decode cX10_sets 30 = .ok (.return_, 1) := by decide +kernel
theorem dX10_setShift_0 : decode cX10_setShift 0 = .ok (.aload_n 0, 1) := by decide +kernel
theorem dX10_setShift_1 : decode cX10_setShift 1 = .ok (.aload_n 0, 1) := by decide +kernel
theorem dX10_setShift_2 : decode cX10_setShift 2 = .ok (.iload_n 1, 1) := by decide +kernel
theorem dX10_setShift_3 : decode cX10_setShift 3 = .ok (.invokevirtual 88, 3) := by decide +kernel
theorem dX10_setShift_6 : decode cX10_setShift 6 = .ok (.ifCond .ne 7, 3) := by decide +kernel
theorem dX10_setShift_9 : decode cX10_setShift 9 = .ok (.iconst 1, 1) := by decide +kernel
theorem dX10_setShift_10 : decode cX10_setShift 10 = .ok (.goto 16, 3) := by decide +kernel
theorem dX10_setShift_13 : decode cX10_setShift 13 = .ok (.iload_n 2, 1) := by decide +kernel
theorem dX10_setShift_14 : decode cX10_setShift 14 = .ok (.iload_n 3, 1) := by decide +kernel
theorem dX10_setShift_15 : decode cX10_setShift 15 = .ok (.invokestatic 102, 3) := by decide +kernel
theorem dX10_setShift_18 : decode cX10_setShift 18 = .ok (.ifCond .eq 7, 3) := by decide +kernel
theorem dX10_setShift_21 : decode cX10_setShift 21 = .ok (.iconst 0, 1) := by decide +kernel
theorem dX10_setShift_22 : decode cX10_setShift 22 = .ok (.goto 4, 3) := by decide +kernel
theorem dX10_setShift_25 : decode cX10_setShift 25 = .ok (.iconst 2, 1) := by decide +kernel
theorem dX10_setShift_26 : decode cX10_setShift 26 = .ok (.invokevirtual 80, 3) := by decide +kernel
theorem dX10_setShift_29 : decode cX10_setShift 29 = .ok (.ifCond .eq 5, 3) := by decide +kernel
theorem dX10_setShift_32 : decode cX10_setShift 32 = .ok (.iconst 0, 1) := by decide +kernel
theorem dX10_setShift_33 : decode cX10_setShift 33 = .ok (.ireturn, 1) := by decide +kernel
theorem dX10_setShift_34 : decode cX10_setShift 34 = .ok (.aload_n 0, 1) := by decide +kernel
theorem dX10_setShift_35 : decode cX10_setShift 35 = .ok (.aload_n 0, 1) := by decide +kernel
theorem dX10_setShift_36 : decode cX10_setShift 36 = .ok (.getfield 7, 3) := by decide +kernel
theorem dX10_setShift_39 : decode cX10_setShift 39 = .ok (.invokevirtual 84, 3) := by decide +kernel
theorem dX10_setShift_42 : decode cX10_setShift 42 = .ok (.aload_n 0, 1) := by decide +kernel
theorem dX10_setShift_43 : decode cX10_setShift 43 = .ok (.iload_n 1, 1) := by decide +kernel
theorem dX10_setShift_44 : decode cX10_setShift 44 = .ok (.iload_n 2, 1) := by decide +kernel
theorem dX10_setShift_45 : decode cX10_setShift 45 = .ok (.iload_n 3, 1) := by decide +kernel
theorem dX10_setShift_46 : decode cX10_setShift 46 = .ok (.invokevirtual 105, 3) := by decide +kernel
theorem dX10_setShift_49 : decode cX10_setShift 49 = .ok (.aload_n 0, 1) := by decide +kernel
theorem dX10_setShift_50 : decode cX10_setShift 50 = .ok (.iload_n 1, 1) := by decide +kernel
theorem dX10_setShift_51 : decode cX10_setShift 51 = .ok (.invokevirtual 108, 3) := by decide +kernel
theorem dX10_setShift_54 : decode cX10_setShift 54 = .ok (.ireturn, 1) := by decide +kernel
theorem dX10_matching_0 : decode cX10_matching 0 = .ok (.iconst 0, 1) := by decide +kernel
theorem dX10_matching_1 : decode cX10_matching 1 = .ok (.istore 5, 2) := by decide +kernel
theorem dX10_matching_3 : decode cX10_matching 3 = .ok (.iconst 0, 1) := by decide +kernel
theorem dX10_matching_4 : decode cX10_matching 4 = .ok (.istore 6, 2) := by decide +kernel
theorem dX10_matching_6 : decode cX10_matching 6 = .ok (.iload 6, 2) := by decide +kernel
theorem dX10_matching_8 : decode cX10_matching 8 = .ok (.sipush 128, 3) := by decide +kernel
theorem dX10_matching_11 : decode cX10_matching 11 = .ok (.if_icmp .ge 89, 3) := by decide +kernel
theorem dX10_matching_14 : decode cX10_matching 14 = .ok (.aload_n 0, 1) := by decide +kernel
theorem dX10_matching_15 : decode cX10_matching 15 = .ok (.aload_n 0, 1) := by decide +kernel
theorem dX10_matching_16 : decode cX10_matching 16 = .ok (.iload_n 1, 1) := by decide +kernel
theorem dX10_matching_17 : decode cX10_matching 17 = .ok (.invokevirtual 70, 3) := by decide +kernel
theorem dX10_matching_20 : decode cX10_matching 20 = .ok (.iload 6, 2) := by decide +kernel
theorem dX10_matching_22 : decode cX10_matching 22 = .ok (.bipush 16, 2) := by decide +kernel
theorem dX10_matching_24 : decode cX10_matching 24 = .ok (.irem, 1) := by decide +kernel
theorem dX10_matching_25 : decode cX10_matching 25 = .ok (.iload 6, 2) := by decide +kernel
theorem dX10_matching_27 : decode cX10_matching 27 = .ok (.bipush 16, 2) := by decide +kernel
theorem dX10_matching_29 : decode cX10_matching 29 = .ok (.idiv, 1) := by decide +kernel
theorem dX10_matching_30 : decode cX10_matching 30 = .ok (.invokevirtual 63, 3) := by decide +kernel
theorem dX10_matching_33 : decode cX10_matching 33 = .ok (.ifCond .ne 6, 3) := by decide +kernel
theorem dX10_matching_36 : decode cX10_matching 36 = .ok (.goto 58, 3) := by decide +kernel
theorem dX10_matching_39 : decode cX10_matching 39 = .ok (.iload 6, 2) := by decide +kernel
theorem dX10_matching_41 : decode cX10_matching 41 = .ok (.bipush 16, 2) := by decide +kernel
theorem dX10_matching_43 : decode cX10_matching 43 = .ok (.irem, 1) := by decide +kernel
theorem dX10_matching_44 : decode cX10_matching 44 = .ok (.iload_n 3, 1) := by decide +kernel
theorem dX10_matching_45 : decode cX10_matching 45 = .ok (.iadd, 1) := by decide +kernel
theorem dX10_matching_46 : decode cX10_matching 46 = .ok (.istore 7, 2) := by decide +kernel
theorem dX10_matching_48 : decode cX10_matching 48 = .ok (.iload 6, 2) := by decide +kernel
theorem dX10_matching_50 : decode cX10_matching 50 = .ok (.bipush 16, 2) := by decide +kernel
theorem dX10_matching_52 : decode cX10_matching 52 = .ok (.idiv, 1) := by decide +kernel
theorem dX10_matching_53 : decode cX10_matching 53 = .ok (.iload 4, 2) := by decide +kernel
theorem dX10_matching_55 : decode cX10_matching 55 = .ok (.iadd, 1) := by decide +kernel
theorem dX10_matching_56 : decode cX10_matching 56 = .ok (.istore 8, 2) := by decide +kernel
theorem dX10_matching_58 : decode cX10_matching 58 = .ok (.iload 5, 2) := by decide +kernel
theorem dX10_matching_60 : decode cX10_matching 60 = .ok (.iload 7, 2) := by decide +kernel
theorem dX10_matching_62 : decode cX10_matching 62 = .ok (.iload 8, 2) := by decide +kernel
theorem dX10_matching_64 : decode cX10_matching 64 = .ok (.invokestatic 91, 3) := by decide +kernel
theorem dX10_matching_67 : decode cX10_matching 67 = .ok (.ifCond .eq 23, 3) := by decide +kernel
theorem dX10_matching_70 : decode cX10_matching 70 = .ok (.aload_n 0, 1) := by decide +kernel
theorem dX10_matching_71 : decode cX10_matching 71 = .ok (.aload_n 0, 1) := by decide +kernel
theorem dX10_matching_72 : decode cX10_matching 72 = .ok (.iload_n 2, 1) := by decide +kernel
theorem dX10_matching_73 : decode cX10_matching 73 = .ok (.invokevirtual 70, 3) := by decide +kernel
theorem dX10_matching_76 : decode cX10_matching 76 = .ok (.iload 7, 2) := by decide +kernel
theorem dX10_matching_78 : decode cX10_matching 78 = .ok (.iload 8, 2) := by decide +kernel
theorem dX10_matching_80 : decode cX10_matching 80 = .ok (.invokevirtual 63, 3) := by decide +kernel
theorem dX10_matching_83 : decode cX10_matching 83 = .ok (.ifCond .eq 7, 3) := by decide +kernel
theorem dX10_matching_86 : decode cX10_matching 86 = .ok (.iconst 1, 1) := by decide +kernel
theorem dX10_matching_87 : decode cX10_matching 87 = .ok (.goto 4, 3) := by decide +kernel
theorem dX10_matching_90 : decode cX10_matching 90 = .ok (.iconst 0, 1) := by decide +kernel
theorem dX10_matching_91 : decode cX10_matching 91 = .ok (.iadd, 1) := by decide +kernel
theorem dX10_matching_92 : decode cX10_matching 92 = .ok (.istore 5, 2) := by decide +kernel
theorem dX10_matching_94 : decode cX10_matching 94 = .ok (.iinc 6 1, 3) := by decide +kernel
theorem dX10_matching_97 : decode cX10_matching 97 = .ok (.goto (-91), 3) := by decide +kernel
theorem dX10_matching_100 : decode cX10_matching 100 = .ok (.iload 5, 2) := by decide +kernel
theorem dX10_matching_102 : decode cX10_matching 102 = .ok (.ireturn, 1) := by decide +kernel
theorem dX10_best_0 : decode cX10_best 0 = .ok (.iconst (-1), 1) := by decide +kernel
theorem dX10_best_1 : decode cX10_best 1 = .ok (.istore_n 3, 1) := by decide +kernel
theorem dX10_best_2 : decode cX10_best 2 = .ok (.bipush (-3), 2) := by decide +kernel
theorem dX10_best_4 : decode cX10_best 4 = .ok (.istore 4, 2) := by decide +kernel
theorem dX10_best_6 : decode cX10_best 6 = .ok (.iload 4, 2) := by decide +kernel
theorem dX10_best_8 : decode cX10_best 8 = .ok (.iconst 3, 1) := by decide +kernel
theorem dX10_best_9 : decode cX10_best 9 = .ok (.if_icmp .gt 96, 3) := by decide +kernel
theorem dX10_best_12 : decode cX10_best 12 = .ok (.bipush (-3), 2) := by decide +kernel
theorem dX10_best_14 : decode cX10_best 14 = .ok (.istore 5, 2) := by decide +kernel
theorem dX10_best_16 : decode cX10_best 16 = .ok (.iload 5, 2) := by decide +kernel
theorem dX10_best_18 : decode cX10_best 18 = .ok (.iconst 3, 1) := by decide +kernel
theorem dX10_best_19 : decode cX10_best 19 = .ok (.if_icmp .gt 80, 3) := by decide +kernel
theorem dX10_best_22 : decode cX10_best 22 = .ok (.aload_n 0, 1) := by decide +kernel
theorem dX10_best_23 : decode cX10_best 23 = .ok (.iload_n 1, 1) := by decide +kernel
theorem dX10_best_24 : decode cX10_best 24 = .ok (.iload_n 2, 1) := by decide +kernel
theorem dX10_best_25 : decode cX10_best 25 = .ok (.iload 4, 2) := by decide +kernel
theorem dX10_best_27 : decode cX10_best 27 = .ok (.iload 5, 2) := by decide +kernel
theorem dX10_best_29 : decode cX10_best 29 = .ok (.invokevirtual 111, 3) := by decide +kernel
theorem dX10_best_32 : decode cX10_best 32 = .ok (.istore 6, 2) := by decide +kernel
theorem dX10_best_34 : decode cX10_best 34 = .ok (.iload 6, 2) := by decide +kernel
theorem dX10_best_36 : decode cX10_best 36 = .ok (.iload_n 3, 1) := by decide +kernel
theorem dX10_best_37 : decode cX10_best 37 = .ok (.if_icmp .lt 56, 3) := by decide +kernel
theorem dX10_best_40 : decode cX10_best 40 = .ok (.iload 6, 2) := by decide +kernel
theorem dX10_best_42 : decode cX10_best 42 = .ok (.iload_n 3, 1) := by decide +kernel
theorem dX10_best_43 : decode cX10_best 43 = .ok (.if_icmp .ne 35, 3) := by decide +kernel
theorem dX10_best_46 : decode cX10_best 46 = .ok (.iload 4, 2) := by decide +kernel
theorem dX10_best_48 : decode cX10_best 48 = .ok (.invokestatic 115, 3) := by decide +kernel
theorem dX10_best_51 : decode cX10_best 51 = .ok (.iload 5, 2) := by decide +kernel
theorem dX10_best_53 : decode cX10_best 53 = .ok (.invokestatic 115, 3) := by decide +kernel
theorem dX10_best_56 : decode cX10_best 56 = .ok (.iadd, 1) := by decide +kernel
theorem dX10_best_57 : decode cX10_best 57 = .ok (.aload_n 0, 1) := by decide +kernel
theorem dX10_best_58 : decode cX10_best 58 = .ok (.getfield 118, 3) := by decide +kernel
theorem dX10_best_61 : decode cX10_best 61 = .ok (.invokestatic 115, 3) := by decide +kernel
theorem dX10_best_64 : decode cX10_best 64 = .ok (.aload_n 0, 1) := by decide +kernel
theorem dX10_best_65 : decode cX10_best 65 = .ok (.getfield 121, 3) := by decide +kernel
theorem dX10_best_68 : decode cX10_best 68 = .ok (.invokestatic 115, 3) := by decide +kernel
theorem dX10_best_71 : decode cX10_best 71 = .ok (.iadd, 1) := by decide +kernel
theorem dX10_best_72 : decode cX10_best 72 = .ok (.if_icmp .lt 6, 3) := by decide +kernel
theorem dX10_best_75 : decode cX10_best 75 = .ok (.goto 18, 3) := by decide +kernel
theorem dX10_best_78 : decode cX10_best 78 = .ok (.iload 6, 2) := by decide +kernel
theorem dX10_best_80 : decode cX10_best 80 = .ok (.istore_n 3, 1) := by decide +kernel
theorem dX10_best_81 : decode cX10_best 81 = .ok (.aload_n 0, 1) := by decide +kernel
theorem dX10_best_82 : decode cX10_best 82 = .ok (.iload 4, 2) := by decide +kernel
theorem dX10_best_84 : decode cX10_best 84 = .ok (.putfield 118, 3) := by decide +kernel
theorem dX10_best_87 : decode cX10_best 87 = .ok (.aload_n 0, 1) := by decide +kernel
theorem dX10_best_88 : decode cX10_best 88 = .ok (.iload 5, 2) := by decide +kernel
theorem dX10_best_90 : decode cX10_best 90 = .ok (.putfield 121, 3) := by decide +kernel
theorem dX10_best_93 : decode cX10_best 93 = .ok (.iinc 5 1, 3) := by decide +kernel
theorem dX10_best_96 : decode cX10_best 96 = .ok (.goto (-80), 3) := by decide +kernel
theorem dX10_best_99 : decode cX10_best 99 = .ok (.iinc 4 1, 3) := by decide +kernel
theorem dX10_best_102 : decode cX10_best 102 = .ok (.goto (-96), 3) := by decide +kernel
theorem dX10_best_105 : decode cX10_best 105 = .ok (.iload_n 3, 1) := by decide +kernel
theorem dX10_best_106 : decode cX10_best 106 = .ok (.ireturn, 1) := by decide +kernel
theorem dX10_areNone_0 : decode cX10_areNone 0 = .ok (.aload_n 0, 1) := by decide +kernel
theorem dX10_areNone_1 : decode cX10_areNone 1 = .ok (.aload_n 0, 1) := by decide +kernel
theorem dX10_areNone_2 : decode cX10_areNone 2 = .ok (.iload_n 1, 1) := by decide +kernel
theorem dX10_areNone_3 : decode cX10_areNone 3 = .ok (.invokevirtual 88, 3) := by decide +kernel
theorem dX10_areNone_6 : decode cX10_areNone 6 = .ok (.ifCond .eq 15, 3) := by decide +kernel
theorem dX10_areNone_9 : decode cX10_areNone 9 = .ok (.aload_n 0, 1) := by decide +kernel
theorem dX10_areNone_10 : decode cX10_areNone 10 = .ok (.iload_n 2, 1) := by decide +kernel
theorem dX10_areNone_11 : decode cX10_areNone 11 = .ok (.invokevirtual 88, 3) := by decide +kernel
theorem dX10_areNone_14 : decode cX10_areNone 14 = .ok (.ifCond .eq 7, 3) := by decide +kernel
theorem dX10_areNone_17 : decode cX10_areNone 17 = .ok (.iconst 0, 1) := by decide +kernel
theorem dX10_areNone_18 : decode cX10_areNone 18 = .ok (.goto 4, 3) := by decide +kernel
theorem dX10_areNone_21 : decode cX10_areNone 21 = .ok (.iconst 1, 1) := by decide +kernel
theorem dX10_areNone_22 : decode cX10_areNone 22 = .ok (.invokevirtual 80, 3) := by decide +kernel
theorem dX10_areNone_25 : decode cX10_areNone 25 = .ok (.ireturn, 1) := by decide +kernel
theorem dX10_fit_0 : decode cX10_fit 0 = .ok (.aload_n 0, 1) := by decide +kernel
theorem dX10_fit_1 : decode cX10_fit 1 = .ok (.iload_n 1, 1) := by decide +kernel
theorem dX10_fit_2 : decode cX10_fit 2 = .ok (.iload_n 2, 1) := by decide +kernel
theorem dX10_fit_3 : decode cX10_fit 3 = .ok (.invokevirtual 124, 3) := by decide +kernel
theorem dX10_fit_6 : decode cX10_fit 6 = .ok (.ifCond .ne 20, 3) := by decide +kernel
theorem dX10_fit_9 : decode cX10_fit 9 = .ok (.aload_n 0, 1) := by decide +kernel
theorem dX10_fit_10 : decode cX10_fit 10 = .ok (.iload_n 1, 1) := by decide +kernel
theorem dX10_fit_11 : decode cX10_fit 11 = .ok (.iload_n 2, 1) := by decide +kernel
theorem dX10_fit_12 : decode cX10_fit 12 = .ok (.if_icmp .ne 7, 3) := by decide +kernel
theorem dX10_fit_15 : decode cX10_fit 15 = .ok (.iconst 2, 1) := by decide +kernel
theorem dX10_fit_16 : decode cX10_fit 16 = .ok (.goto 4, 3) := by decide +kernel
theorem dX10_fit_19 : decode cX10_fit 19 = .ok (.iconst 0, 1) := by decide +kernel
theorem dX10_fit_20 : decode cX10_fit 20 = .ok (.invokevirtual 80, 3) := by decide +kernel
theorem dX10_fit_23 : decode cX10_fit 23 = .ok (.ifCond .eq 5, 3) := by decide +kernel
theorem dX10_fit_26 : decode cX10_fit 26 = .ok (.iconst 0, 1) := by decide +kernel
theorem dX10_fit_27 : decode cX10_fit 27 = .ok (.ireturn, 1) := by decide +kernel
theorem dX10_fit_28 : decode cX10_fit 28 = .ok (.aload_n 0, 1) := by decide +kernel
theorem dX10_fit_29 : decode cX10_fit 29 = .ok (.aload_n 0, 1) := by decide +kernel
theorem dX10_fit_30 : decode cX10_fit 30 = .ok (.getfield 7, 3) := by decide +kernel
theorem dX10_fit_33 : decode cX10_fit 33 = .ok (.invokevirtual 84, 3) := by decide +kernel
theorem dX10_fit_36 : decode cX10_fit 36 = .ok (.aload_n 0, 1) := by decide +kernel
theorem dX10_fit_37 : decode cX10_fit 37 = .ok (.iload_n 1, 1) := by decide +kernel
theorem dX10_fit_38 : decode cX10_fit 38 = .ok (.iload_n 2, 1) := by decide +kernel
theorem dX10_fit_39 : decode cX10_fit 39 = .ok (.invokevirtual 127, 3) := by decide +kernel
theorem dX10_fit_42 : decode cX10_fit 42 = .ok (.istore_n 3, 1) := by decide +kernel
theorem dX10_fit_43 : decode cX10_fit 43 = .ok (.aload_n 0, 1) := by decide +kernel
theorem dX10_fit_44 : decode cX10_fit 44 = .ok (.iload_n 1, 1) := by decide +kernel
theorem dX10_fit_45 : decode cX10_fit 45 = .ok (.aload_n 0, 1) := by decide +kernel
theorem dX10_fit_46 : decode cX10_fit 46 = .ok (.getfield 118, 3) := by decide +kernel
theorem dX10_fit_49 : decode cX10_fit 49 = .ok (.aload_n 0, 1) := by decide +kernel
theorem dX10_fit_50 : decode cX10_fit 50 = .ok (.getfield 121, 3) := by decide +kernel
theorem dX10_fit_53 : decode cX10_fit 53 = .ok (.invokevirtual 105, 3) := by decide +kernel
theorem dX10_fit_56 : decode cX10_fit 56 = .ok (.iload_n 3, 1) := by decide +kernel
theorem dX10_fit_57 : decode cX10_fit 57 = .ok (.ireturn, 1) := by decide +kernel
theorem dX10_plateCount_0 : decode cX10_plateCount 0 = .ok (.aload_n 0, 1) := by decide +kernel
theorem dX10_plateCount_1 : decode cX10_plateCount 1 = .ok (.iconst 0, 1) := by decide +kernel
theorem dX10_plateCount_2 : decode cX10_plateCount 2 = .ok (.putfield 39, 3) := by decide +kernel
theorem dX10_plateCount_5 : decode cX10_plateCount 5 = .ok (.aload_n 0, 1) := by decide +kernel
theorem dX10_plateCount_6 : decode cX10_plateCount 6 = .ok (.getfield 7, 3) := by decide +kernel
theorem dX10_plateCount_9 : decode cX10_plateCount 9 = .ok (.iconst 0, 1) := by decide +kernel
theorem dX10_plateCount_10 : decode cX10_plateCount 10 = .ok (.iaload, 1) := by decide +kernel
theorem dX10_plateCount_11 : decode cX10_plateCount 11 = .ok (.ireturn, 1) := by decide +kernel
theorem dX10_isNone_0 : decode cX10_isNone 0 = .ok (.aload_n 0, 1) := by decide +kernel
theorem dX10_isNone_1 : decode cX10_isNone 1 = .ok (.aload_n 0, 1) := by decide +kernel
theorem dX10_isNone_2 : decode cX10_isNone 2 = .ok (.iload_n 1, 1) := by decide +kernel
theorem dX10_isNone_3 : decode cX10_isNone 3 = .ok (.invokevirtual 88, 3) := by decide +kernel
theorem dX10_isNone_6 : decode cX10_isNone 6 = .ok (.ifCond .eq 7, 3) := by decide +kernel
theorem dX10_isNone_9 : decode cX10_isNone 9 = .ok (.iconst 0, 1) := by decide +kernel
theorem dX10_isNone_10 : decode cX10_isNone 10 = .ok (.goto 4, 3) := by decide +kernel
theorem dX10_isNone_13 : decode cX10_isNone 13 = .ok (.iconst 1, 1) := by decide +kernel
theorem dX10_isNone_14 : decode cX10_isNone 14 = .ok (.invokevirtual 80, 3) := by decide +kernel
theorem dX10_isNone_17 : decode cX10_isNone 17 = .ok (.ireturn, 1) := by decide +kernel
theorem dX10_inkOf_0 : decode cX10_inkOf 0 = .ok (.aload_n 0, 1) := by decide +kernel
theorem dX10_inkOf_1 : decode cX10_inkOf 1 = .ok (.iload_n 1, 1) := by decide +kernel
theorem dX10_inkOf_2 : decode cX10_inkOf 2 = .ok (.invokevirtual 130, 3) := by decide +kernel
theorem dX10_inkOf_5 : decode cX10_inkOf 5 = .ok (.ifCond .eq 7, 3) := by decide +kernel
theorem dX10_inkOf_8 : decode cX10_inkOf 8 = .ok (.iconst 0, 1) := by decide +kernel
theorem dX10_inkOf_9 : decode cX10_inkOf 9 = .ok (.goto 9, 3) := by decide +kernel
theorem dX10_inkOf_12 : decode cX10_inkOf 12 = .ok (.aload_n 0, 1) := by decide +kernel
theorem dX10_inkOf_13 : decode cX10_inkOf 13 = .ok (.iload_n 1, 1) := by decide +kernel
theorem dX10_inkOf_14 : decode cX10_inkOf 14 = .ok (.iconst 0, 1) := by decide +kernel
theorem dX10_inkOf_15 : decode cX10_inkOf 15 = .ok (.invokevirtual 98, 3) := by decide +kernel
theorem dX10_inkOf_18 : decode cX10_inkOf 18 = .ok (.ireturn, 1) := by decide +kernel
theorem dX10_starCount_0 : decode cX10_starCount 0 = .ok (.aload_n 0, 1) := by decide +kernel
theorem dX10_starCount_1 : decode cX10_starCount 1 = .ok (.iload_n 1, 1) := by decide +kernel
theorem dX10_starCount_2 : decode cX10_starCount 2 = .ok (.invokevirtual 130, 3) := by decide +kernel
theorem dX10_starCount_5 : decode cX10_starCount 5 = .ok (.ifCond .eq 7, 3) := by decide +kernel
theorem dX10_starCount_8 : decode cX10_starCount 8 = .ok (.iconst 0, 1) := by decide +kernel
theorem dX10_starCount_9 : decode cX10_starCount 9 = .ok (.goto 8, 3) := by decide +kernel
theorem dX10_starCount_12 : decode cX10_starCount 12 = .ok (.aload_n 0, 1) := by decide +kernel
theorem dX10_starCount_13 : decode cX10_starCount 13 = .ok (.iload_n 1, 1) := by decide +kernel
theorem dX10_starCount_14 : decode cX10_starCount 14 = .ok (.invokevirtual 95, 3) := by decide +kernel
theorem dX10_starCount_17 : decode cX10_starCount 17 = .ok (.ireturn, 1) := by decide +kernel
theorem dX10_hasStar_0 : decode cX10_hasStar 0 = .ok (.aload_n 0, 1) := by decide +kernel
theorem dX10_hasStar_1 : decode cX10_hasStar 1 = .ok (.aload_n 0, 1) := by decide +kernel
theorem dX10_hasStar_2 : decode cX10_hasStar 2 = .ok (.iload_n 1, 1) := by decide +kernel
theorem dX10_hasStar_3 : decode cX10_hasStar 3 = .ok (.invokevirtual 88, 3) := by decide +kernel
theorem dX10_hasStar_6 : decode cX10_hasStar 6 = .ok (.ifCond .ne 7, 3) := by decide +kernel
theorem dX10_hasStar_9 : decode cX10_hasStar 9 = .ok (.iconst 1, 1) := by decide +kernel
theorem dX10_hasStar_10 : decode cX10_hasStar 10 = .ok (.goto 16, 3) := by decide +kernel
theorem dX10_hasStar_13 : decode cX10_hasStar 13 = .ok (.iload_n 2, 1) := by decide +kernel
theorem dX10_hasStar_14 : decode cX10_hasStar 14 = .ok (.iload_n 3, 1) := by decide +kernel
theorem dX10_hasStar_15 : decode cX10_hasStar 15 = .ok (.invokestatic 91, 3) := by decide +kernel
theorem dX10_hasStar_18 : decode cX10_hasStar 18 = .ok (.ifCond .eq 7, 3) := by decide +kernel
theorem dX10_hasStar_21 : decode cX10_hasStar 21 = .ok (.iconst 0, 1) := by decide +kernel
theorem dX10_hasStar_22 : decode cX10_hasStar 22 = .ok (.goto 4, 3) := by decide +kernel
theorem dX10_hasStar_25 : decode cX10_hasStar 25 = .ok (.iconst 2, 1) := by decide +kernel
theorem dX10_hasStar_26 : decode cX10_hasStar 26 = .ok (.invokevirtual 80, 3) := by decide +kernel
theorem dX10_hasStar_29 : decode cX10_hasStar 29 = .ok (.ifCond .ne 21, 3) := by decide +kernel
theorem dX10_hasStar_32 : decode cX10_hasStar 32 = .ok (.aload_n 0, 1) := by decide +kernel
theorem dX10_hasStar_33 : decode cX10_hasStar 33 = .ok (.aload_n 0, 1) := by decide +kernel
theorem dX10_hasStar_34 : decode cX10_hasStar 34 = .ok (.iload_n 1, 1) := by decide +kernel
theorem dX10_hasStar_35 : decode cX10_hasStar 35 = .ok (.invokevirtual 70, 3) := by decide +kernel
theorem dX10_hasStar_38 : decode cX10_hasStar 38 = .ok (.iload_n 2, 1) := by decide +kernel
theorem dX10_hasStar_39 : decode cX10_hasStar 39 = .ok (.iload_n 3, 1) := by decide +kernel
theorem dX10_hasStar_40 : decode cX10_hasStar 40 = .ok (.invokevirtual 63, 3) := by decide +kernel
theorem dX10_hasStar_43 : decode cX10_hasStar 43 = .ok (.ifCond .eq 7, 3) := by decide +kernel
theorem dX10_hasStar_46 : decode cX10_hasStar 46 = .ok (.iconst 1, 1) := by decide +kernel
theorem dX10_hasStar_47 : decode cX10_hasStar 47 = .ok (.goto 4, 3) := by decide +kernel
theorem dX10_hasStar_50 : decode cX10_hasStar 50 = .ok (.iconst 0, 1) := by decide +kernel
theorem dX10_hasStar_51 : decode cX10_hasStar 51 = .ok (.ireturn, 1) := by decide +kernel
theorem dX10_shiftX_0 : decode cX10_shiftX 0 = .ok (.aload_n 0, 1) := by decide +kernel
theorem dX10_shiftX_1 : decode cX10_shiftX 1 = .ok (.iload_n 1, 1) := by decide +kernel
theorem dX10_shiftX_2 : decode cX10_shiftX 2 = .ok (.invokevirtual 130, 3) := by decide +kernel
theorem dX10_shiftX_5 : decode cX10_shiftX 5 = .ok (.ifCond .eq 7, 3) := by decide +kernel
theorem dX10_shiftX_8 : decode cX10_shiftX 8 = .ok (.iconst 0, 1) := by decide +kernel
theorem dX10_shiftX_9 : decode cX10_shiftX 9 = .ok (.goto 9, 3) := by decide +kernel
theorem dX10_shiftX_12 : decode cX10_shiftX 12 = .ok (.aload_n 0, 1) := by decide +kernel
theorem dX10_shiftX_13 : decode cX10_shiftX 13 = .ok (.iload_n 1, 1) := by decide +kernel
theorem dX10_shiftX_14 : decode cX10_shiftX 14 = .ok (.iconst 1, 1) := by decide +kernel
theorem dX10_shiftX_15 : decode cX10_shiftX 15 = .ok (.invokevirtual 98, 3) := by decide +kernel
theorem dX10_shiftX_18 : decode cX10_shiftX 18 = .ok (.ireturn, 1) := by decide +kernel
theorem dX10_shiftY_0 : decode cX10_shiftY 0 = .ok (.aload_n 0, 1) := by decide +kernel
theorem dX10_shiftY_1 : decode cX10_shiftY 1 = .ok (.iload_n 1, 1) := by decide +kernel
theorem dX10_shiftY_2 : decode cX10_shiftY 2 = .ok (.invokevirtual 130, 3) := by decide +kernel
theorem dX10_shiftY_5 : decode cX10_shiftY 5 = .ok (.ifCond .eq 7, 3) := by decide +kernel
theorem dX10_shiftY_8 : decode cX10_shiftY 8 = .ok (.iconst 0, 1) := by decide +kernel
theorem dX10_shiftY_9 : decode cX10_shiftY 9 = .ok (.goto 9, 3) := by decide +kernel
theorem dX10_shiftY_12 : decode cX10_shiftY 12 = .ok (.aload_n 0, 1) := by decide +kernel
theorem dX10_shiftY_13 : decode cX10_shiftY 13 = .ok (.iload_n 1, 1) := by decide +kernel
theorem dX10_shiftY_14 : decode cX10_shiftY 14 = .ok (.iconst 2, 1) := by decide +kernel
theorem dX10_shiftY_15 : decode cX10_shiftY 15 = .ok (.invokevirtual 98, 3) := by decide +kernel
theorem dX10_shiftY_18 : decode cX10_shiftY 18 = .ok (.ireturn, 1) := by decide +kernel
theorem dX10_matches_0 : decode cX10_matches 0 = .ok (.aload_n 0, 1) := by decide +kernel
theorem dX10_matches_1 : decode cX10_matches 1 = .ok (.iload_n 1, 1) := by decide +kernel
theorem dX10_matches_2 : decode cX10_matches 2 = .ok (.iload_n 2, 1) := by decide +kernel
theorem dX10_matches_3 : decode cX10_matches 3 = .ok (.invokevirtual 124, 3) := by decide +kernel
theorem dX10_matches_6 : decode cX10_matches 6 = .ok (.ifCond .ne 24, 3) := by decide +kernel
theorem dX10_matches_9 : decode cX10_matches 9 = .ok (.aload_n 0, 1) := by decide +kernel
theorem dX10_matches_10 : decode cX10_matches 10 = .ok (.iload_n 3, 1) := by decide +kernel
theorem dX10_matches_11 : decode cX10_matches 11 = .ok (.iload 4, 2) := by decide +kernel
theorem dX10_matches_13 : decode cX10_matches 13 = .ok (.invokestatic 102, 3) := by decide +kernel
theorem dX10_matches_16 : decode cX10_matches 16 = .ok (.ifCond .eq 7, 3) := by decide +kernel
theorem dX10_matches_19 : decode cX10_matches 19 = .ok (.iconst 0, 1) := by decide +kernel
theorem dX10_matches_20 : decode cX10_matches 20 = .ok (.goto 4, 3) := by decide +kernel
theorem dX10_matches_23 : decode cX10_matches 23 = .ok (.iconst 2, 1) := by decide +kernel
theorem dX10_matches_24 : decode cX10_matches 24 = .ok (.invokevirtual 80, 3) := by decide +kernel
theorem dX10_matches_27 : decode cX10_matches 27 = .ok (.ifCond .eq 7, 3) := by decide +kernel
theorem dX10_matches_30 : decode cX10_matches 30 = .ok (.iconst 0, 1) := by decide +kernel
theorem dX10_matches_31 : decode cX10_matches 31 = .ok (.goto 12, 3) := by decide +kernel
theorem dX10_matches_34 : decode cX10_matches 34 = .ok (.aload_n 0, 1) := by decide +kernel
theorem dX10_matches_35 : decode cX10_matches 35 = .ok (.iload_n 1, 1) := by decide +kernel
theorem dX10_matches_36 : decode cX10_matches 36 = .ok (.iload_n 2, 1) := by decide +kernel
theorem dX10_matches_37 : decode cX10_matches 37 = .ok (.iload_n 3, 1) := by decide +kernel
theorem dX10_matches_38 : decode cX10_matches 38 = .ok (.iload 4, 2) := by decide +kernel
theorem dX10_matches_40 : decode cX10_matches 40 = .ok (.invokevirtual 111, 3) := by decide +kernel
theorem dX10_matches_43 : decode cX10_matches 43 = .ok (.ireturn, 1) := by decide +kernel
theorem dX10_mostMatches_0 : decode cX10_mostMatches 0 = .ok (.aload_n 0, 1) := by decide +kernel
theorem dX10_mostMatches_1 : decode cX10_mostMatches 1 = .ok (.iload_n 1, 1) := by decide +kernel
theorem dX10_mostMatches_2 : decode cX10_mostMatches 2 = .ok (.iload_n 2, 1) := by decide +kernel
theorem dX10_mostMatches_3 : decode cX10_mostMatches 3 = .ok (.invokevirtual 124, 3) := by decide +kernel
theorem dX10_mostMatches_6 : decode cX10_mostMatches 6 = .ok (.ifCond .eq 7, 3) := by decide +kernel
theorem dX10_mostMatches_9 : decode cX10_mostMatches 9 = .ok (.iconst 0, 1) := by decide +kernel
theorem dX10_mostMatches_10 : decode cX10_mostMatches 10 = .ok (.goto 9, 3) := by decide +kernel
theorem dX10_mostMatches_13 : decode cX10_mostMatches 13 = .ok (.aload_n 0, 1) := by decide +kernel
theorem dX10_mostMatches_14 : decode cX10_mostMatches 14 = .ok (.iload_n 1, 1) := by decide +kernel
theorem dX10_mostMatches_15 : decode cX10_mostMatches 15 = .ok (.iload_n 2, 1) := by decide +kernel
theorem dX10_mostMatches_16 : decode cX10_mostMatches 16 = .ok (.invokevirtual 127, 3) := by decide +kernel
theorem dX10_mostMatches_19 : decode cX10_mostMatches 19 = .ok (.ireturn, 1) := by decide +kernel
theorem dX10_mostMatchesByPairs_0 : decode cX10_mostMatchesByPairs 0 = .ok (.aload_n 0, 1) := by decide +kernel
theorem dX10_mostMatchesByPairs_1 : decode cX10_mostMatchesByPairs 1 = .ok (.iload_n 1, 1) := by decide +kernel
theorem dX10_mostMatchesByPairs_2 : decode cX10_mostMatchesByPairs 2 = .ok (.iload_n 2, 1) := by decide +kernel
theorem dX10_mostMatchesByPairs_3 : decode cX10_mostMatchesByPairs 3 = .ok (.invokevirtual 124, 3) := by decide +kernel
theorem dX10_mostMatchesByPairs_6 : decode cX10_mostMatchesByPairs 6 = .ok (.ifCond .eq 7, 3) := by decide +kernel
theorem dX10_mostMatchesByPairs_9 : decode cX10_mostMatchesByPairs 9 = .ok (.iconst 0, 1) := by decide +kernel
theorem dX10_mostMatchesByPairs_10 : decode cX10_mostMatchesByPairs 10 = .ok (.goto 9, 3) := by decide +kernel
theorem dX10_mostMatchesByPairs_13 : decode cX10_mostMatchesByPairs 13 = .ok (.aload_n 0, 1) := by decide +kernel
theorem dX10_mostMatchesByPairs_14 : decode cX10_mostMatchesByPairs 14 = .ok (.iload_n 1, 1) := by decide +kernel
theorem dX10_mostMatchesByPairs_15 : decode cX10_mostMatchesByPairs 15 = .ok (.iload_n 2, 1) := by decide +kernel
theorem dX10_mostMatchesByPairs_16 : decode cX10_mostMatchesByPairs 16 = .ok (.invokevirtual 127, 3) := by decide +kernel
theorem dX10_mostMatchesByPairs_19 : decode cX10_mostMatchesByPairs 19 = .ok (.ireturn, 1) := by decide +kernel
theorem dX10_bestShiftX_0 : decode cX10_bestShiftX 0 = .ok (.aload_n 0, 1) := by decide +kernel
theorem dX10_bestShiftX_1 : decode cX10_bestShiftX 1 = .ok (.iload_n 1, 1) := by decide +kernel
theorem dX10_bestShiftX_2 : decode cX10_bestShiftX 2 = .ok (.iload_n 2, 1) := by decide +kernel
theorem dX10_bestShiftX_3 : decode cX10_bestShiftX 3 = .ok (.invokevirtual 124, 3) := by decide +kernel
theorem dX10_bestShiftX_6 : decode cX10_bestShiftX 6 = .ok (.ifCond .eq 5, 3) := by decide +kernel
theorem dX10_bestShiftX_9 : decode cX10_bestShiftX 9 = .ok (.iconst 0, 1) := by decide +kernel
theorem dX10_bestShiftX_10 : decode cX10_bestShiftX 10 = .ok (.ireturn, 1) := by decide +kernel
theorem dX10_bestShiftX_11 : decode cX10_bestShiftX 11 = .ok (.aload_n 0, 1) := by decide +kernel
theorem dX10_bestShiftX_12 : decode cX10_bestShiftX 12 = .ok (.iload_n 1, 1) := by decide +kernel
theorem dX10_bestShiftX_13 : decode cX10_bestShiftX 13 = .ok (.iload_n 2, 1) := by decide +kernel
theorem dX10_bestShiftX_14 : decode cX10_bestShiftX 14 = .ok (.invokevirtual 127, 3) := by decide +kernel
theorem dX10_bestShiftX_17 : decode cX10_bestShiftX 17 = .ok (.pop, 1) := by decide +kernel
theorem dX10_bestShiftX_18 : decode cX10_bestShiftX 18 = .ok (.aload_n 0, 1) := by decide +kernel
theorem dX10_bestShiftX_19 : decode cX10_bestShiftX 19 = .ok (.getfield 118, 3) := by decide +kernel
theorem dX10_bestShiftX_22 : decode cX10_bestShiftX 22 = .ok (.ireturn, 1) := by decide +kernel
theorem dX10_bestShiftY_0 : decode cX10_bestShiftY 0 = .ok (.aload_n 0, 1) := by decide +kernel
theorem dX10_bestShiftY_1 : decode cX10_bestShiftY 1 = .ok (.iload_n 1, 1) := by decide +kernel
theorem dX10_bestShiftY_2 : decode cX10_bestShiftY 2 = .ok (.iload_n 2, 1) := by decide +kernel
theorem dX10_bestShiftY_3 : decode cX10_bestShiftY 3 = .ok (.invokevirtual 124, 3) := by decide +kernel
theorem dX10_bestShiftY_6 : decode cX10_bestShiftY 6 = .ok (.ifCond .eq 5, 3) := by decide +kernel
theorem dX10_bestShiftY_9 : decode cX10_bestShiftY 9 = .ok (.iconst 0, 1) := by decide +kernel
theorem dX10_bestShiftY_10 : decode cX10_bestShiftY 10 = .ok (.ireturn, 1) := by decide +kernel
theorem dX10_bestShiftY_11 : decode cX10_bestShiftY 11 = .ok (.aload_n 0, 1) := by decide +kernel
theorem dX10_bestShiftY_12 : decode cX10_bestShiftY 12 = .ok (.iload_n 1, 1) := by decide +kernel
theorem dX10_bestShiftY_13 : decode cX10_bestShiftY 13 = .ok (.iload_n 2, 1) := by decide +kernel
theorem dX10_bestShiftY_14 : decode cX10_bestShiftY 14 = .ok (.invokevirtual 127, 3) := by decide +kernel
theorem dX10_bestShiftY_17 : decode cX10_bestShiftY 17 = .ok (.pop, 1) := by decide +kernel
theorem dX10_bestShiftY_18 : decode cX10_bestShiftY 18 = .ok (.aload_n 0, 1) := by decide +kernel
theorem dX10_bestShiftY_19 : decode cX10_bestShiftY 19 = .ok (.getfield 121, 3) := by decide +kernel
theorem dX10_bestShiftY_22 : decode cX10_bestShiftY 22 = .ok (.ireturn, 1) := by decide +kernel
theorem dX10_isSheet_0 : decode cX10_isSheet 0 = .ok (.iload_n 1, 1) := by decide +kernel
theorem dX10_isSheet_1 : decode cX10_isSheet 1 = .ok (.iconst 0, 1) := by decide +kernel
theorem dX10_isSheet_2 : decode cX10_isSheet 2 = .ok (.aload_n 0, 1) := by decide +kernel
theorem dX10_isSheet_3 : decode cX10_isSheet 3 = .ok (.getfield 7, 3) := by decide +kernel
theorem dX10_isSheet_6 : decode cX10_isSheet 6 = .ok (.iconst 1, 1) := by decide +kernel
theorem dX10_isSheet_7 : decode cX10_isSheet 7 = .ok (.iaload, 1) := by decide +kernel
theorem dX10_isSheet_8 : decode cX10_isSheet 8 = .ok (.iconst 1, 1) := by decide +kernel
theorem dX10_isSheet_9 : decode cX10_isSheet 9 = .ok (.isub, 1) := by decide +kernel
theorem dX10_isSheet_10 : decode cX10_isSheet 10 = .ok (.invokestatic 59, 3) := by decide +kernel
theorem dX10_isSheet_13 : decode cX10_isSheet 13 = .ok (.ireturn, 1) := by decide +kernel
theorem dX10_isLost_0 : decode cX10_isLost 0 = .ok (.aload_n 0, 1) := by decide +kernel
theorem dX10_isLost_1 : decode cX10_isLost 1 = .ok (.aload_n 0, 1) := by decide +kernel
theorem dX10_isLost_2 : decode cX10_isLost 2 = .ok (.iload_n 1, 1) := by decide +kernel
theorem dX10_isLost_3 : decode cX10_isLost 3 = .ok (.invokevirtual 133, 3) := by decide +kernel
theorem dX10_isLost_6 : decode cX10_isLost 6 = .ok (.ifCond .eq 7, 3) := by decide +kernel
theorem dX10_isLost_9 : decode cX10_isLost 9 = .ok (.iconst 0, 1) := by decide +kernel
theorem dX10_isLost_10 : decode cX10_isLost 10 = .ok (.goto 4, 3) := by decide +kernel
theorem dX10_isLost_13 : decode cX10_isLost 13 = .ok (.iconst 1, 1) := by decide +kernel
theorem dX10_isLost_14 : decode cX10_isLost 14 = .ok (.invokevirtual 80, 3) := by decide +kernel
theorem dX10_isLost_17 : decode cX10_isLost 17 = .ok (.ireturn, 1) := by decide +kernel
theorem dX10_on_0 : decode cX10_on 0 = .ok (.aload_n 0, 1) := by decide +kernel
theorem dX10_on_1 : decode cX10_on 1 = .ok (.getfield 7, 3) := by decide +kernel
theorem dX10_on_4 : decode cX10_on 4 = .ok (.bipush 51, 2) := by decide +kernel
theorem dX10_on_6 : decode cX10_on 6 = .ok (.bipush 27, 2) := by decide +kernel
theorem dX10_on_8 : decode cX10_on 8 = .ok (.iload_n 1, 1) := by decide +kernel
theorem dX10_on_9 : decode cX10_on 9 = .ok (.imul, 1) := by decide +kernel
theorem dX10_on_10 : decode cX10_on 10 = .ok (.iadd, 1) := by decide +kernel
theorem dX10_on_11 : decode cX10_on 11 = .ok (.iload_n 2, 1) := by decide +kernel
theorem dX10_on_12 : decode cX10_on 12 = .ok (.iadd, 1) := by decide +kernel
theorem dX10_on_13 : decode cX10_on 13 = .ok (.iaload, 1) := by decide +kernel
theorem dX10_on_14 : decode cX10_on 14 = .ok (.ireturn, 1) := by decide +kernel
theorem dX10_lays_0 : decode cX10_lays 0 = .ok (.aload_n 0, 1) := by decide +kernel
theorem dX10_lays_1 : decode cX10_lays 1 = .ok (.getfield 7, 3) := by decide +kernel
theorem dX10_lays_4 : decode cX10_lays 4 = .ok (.bipush 51, 2) := by decide +kernel
theorem dX10_lays_6 : decode cX10_lays 6 = .ok (.bipush 27, 2) := by decide +kernel
theorem dX10_lays_8 : decode cX10_lays 8 = .ok (.iload_n 1, 1) := by decide +kernel
theorem dX10_lays_9 : decode cX10_lays 9 = .ok (.imul, 1) := by decide +kernel
theorem dX10_lays_10 : decode cX10_lays 10 = .ok (.iadd, 1) := by decide +kernel
theorem dX10_lays_11 : decode cX10_lays 11 = .ok (.iload_n 2, 1) := by decide +kernel
theorem dX10_lays_12 : decode cX10_lays 12 = .ok (.iadd, 1) := by decide +kernel
theorem dX10_lays_13 : decode cX10_lays 13 = .ok (.iload_n 3, 1) := by decide +kernel
theorem dX10_lays_14 : decode cX10_lays 14 = .ok (.iastore, 1) := by decide +kernel
theorem dX10_lays_15 : decode cX10_lays 15 = .ok (.return_, 1) := by decide +kernel
theorem dX10_addSheet_0 : decode cX10_addSheet 0 = .ok (.aload_n 0, 1) := by decide +kernel
theorem dX10_addSheet_1 : decode cX10_addSheet 1 = .ok (.aload_n 0, 1) := by decide +kernel
theorem dX10_addSheet_2 : decode cX10_addSheet 2 = .ok (.getfield 7, 3) := by decide +kernel
theorem dX10_addSheet_5 : decode cX10_addSheet 5 = .ok (.iconst 1, 1) := by decide +kernel
theorem dX10_addSheet_6 : decode cX10_addSheet 6 = .ok (.iaload, 1) := by decide +kernel
theorem dX10_addSheet_7 : decode cX10_addSheet 7 = .ok (.bipush 8, 2) := by decide +kernel
theorem dX10_addSheet_9 : decode cX10_addSheet 9 = .ok (.if_icmp .ne 7, 3) := by decide +kernel
theorem dX10_addSheet_12 : decode cX10_addSheet 12 = .ok (.iconst 1, 1) := by decide +kernel
theorem dX10_addSheet_13 : decode cX10_addSheet 13 = .ok (.goto 4, 3) := by decide +kernel
theorem dX10_addSheet_16 : decode cX10_addSheet 16 = .ok (.iconst 0, 1) := by decide +kernel
theorem dX10_addSheet_17 : decode cX10_addSheet 17 = .ok (.invokevirtual 80, 3) := by decide +kernel
theorem dX10_addSheet_20 : decode cX10_addSheet 20 = .ok (.ifCond .eq 5, 3) := by decide +kernel
theorem dX10_addSheet_23 : decode cX10_addSheet 23 = .ok (.iconst 0, 1) := by decide +kernel
theorem dX10_addSheet_24 : decode cX10_addSheet 24 = .ok (.ireturn, 1) := by decide +kernel
theorem dX10_addSheet_25 : decode cX10_addSheet 25 = .ok (.aload_n 0, 1) := by decide +kernel
theorem dX10_addSheet_26 : decode cX10_addSheet 26 = .ok (.aload_n 0, 1) := by decide +kernel
theorem dX10_addSheet_27 : decode cX10_addSheet 27 = .ok (.getfield 7, 3) := by decide +kernel
theorem dX10_addSheet_30 : decode cX10_addSheet 30 = .ok (.invokevirtual 84, 3) := by decide +kernel
theorem dX10_addSheet_33 : decode cX10_addSheet 33 = .ok (.aload_n 0, 1) := by decide +kernel
theorem dX10_addSheet_34 : decode cX10_addSheet 34 = .ok (.getfield 7, 3) := by decide +kernel
theorem dX10_addSheet_37 : decode cX10_addSheet 37 = .ok (.iconst 1, 1) := by decide +kernel
theorem dX10_addSheet_38 : decode cX10_addSheet 38 = .ok (.iaload, 1) := by decide +kernel
theorem dX10_addSheet_39 : decode cX10_addSheet 39 = .ok (.istore_n 1, 1) := by decide +kernel
theorem dX10_addSheet_40 : decode cX10_addSheet 40 = .ok (.aload_n 0, 1) := by decide +kernel
theorem dX10_addSheet_41 : decode cX10_addSheet 41 = .ok (.getfield 7, 3) := by decide +kernel
theorem dX10_addSheet_44 : decode cX10_addSheet 44 = .ok (.iconst 1, 1) := by decide +kernel
theorem dX10_addSheet_45 : decode cX10_addSheet 45 = .ok (.dup2, 1) := by decide +kernel
theorem dX10_addSheet_46 : decode cX10_addSheet 46 = .ok (.iaload, 1) := by decide +kernel
theorem dX10_addSheet_47 : decode cX10_addSheet 47 = .ok (.iconst 1, 1) := by decide +kernel
theorem dX10_addSheet_48 : decode cX10_addSheet 48 = .ok (.iadd, 1) := by decide +kernel
theorem dX10_addSheet_49 : decode cX10_addSheet 49 = .ok (.iastore, 1) := by decide +kernel
theorem dX10_addSheet_50 : decode cX10_addSheet 50 = .ok (.iconst 0, 1) := by decide +kernel
theorem dX10_addSheet_51 : decode cX10_addSheet 51 = .ok (.istore_n 2, 1) := by decide +kernel
theorem dX10_addSheet_52 : decode cX10_addSheet 52 = .ok (.iload_n 2, 1) := by decide +kernel
theorem dX10_addSheet_53 : decode cX10_addSheet 53 = .ok (.bipush 27, 2) := by decide +kernel
theorem dX10_addSheet_55 : decode cX10_addSheet 55 = .ok (.if_icmp .ge 16, 3) := by decide +kernel
theorem dX10_addSheet_58 : decode cX10_addSheet 58 = .ok (.aload_n 0, 1) := by decide +kernel
theorem dX10_addSheet_59 : decode cX10_addSheet 59 = .ok (.iload_n 1, 1) := by decide +kernel
theorem dX10_addSheet_60 : decode cX10_addSheet 60 = .ok (.iload_n 2, 1) := by decide +kernel
theorem dX10_addSheet_61 : decode cX10_addSheet 61 = .ok (.iconst 0, 1) := by decide +kernel
theorem dX10_addSheet_62 : decode cX10_addSheet 62 = .ok (.invokevirtual 136, 3) := by decide +kernel
theorem dX10_addSheet_65 : decode cX10_addSheet 65 = .ok (.iinc 2 1, 3) := by decide +kernel
theorem dX10_addSheet_68 : decode cX10_addSheet 68 = .ok (.goto (-16), 3) := by decide +kernel
theorem dX10_addSheet_71 : decode cX10_addSheet 71 = .ok (.aload_n 0, 1) := by decide +kernel
theorem dX10_addSheet_72 : decode cX10_addSheet 72 = .ok (.iload_n 1, 1) := by decide +kernel
theorem dX10_addSheet_73 : decode cX10_addSheet 73 = .ok (.iconst 2, 1) := by decide +kernel
theorem dX10_addSheet_74 : decode cX10_addSheet 74 = .ok (.iconst (-1), 1) := by decide +kernel
theorem dX10_addSheet_75 : decode cX10_addSheet 75 = .ok (.invokevirtual 136, 3) := by decide +kernel
theorem dX10_addSheet_78 : decode cX10_addSheet 78 = .ok (.iload_n 1, 1) := by decide +kernel
theorem dX10_addSheet_79 : decode cX10_addSheet 79 = .ok (.ireturn, 1) := by decide +kernel
theorem dX10_smear_0 : decode cX10_smear 0 = .ok (.aload_n 0, 1) := by decide +kernel
theorem dX10_smear_1 : decode cX10_smear 1 = .ok (.iload_n 1, 1) := by decide +kernel
theorem dX10_smear_2 : decode cX10_smear 2 = .ok (.iconst 1, 1) := by decide +kernel
theorem dX10_smear_3 : decode cX10_smear 3 = .ok (.aload_n 0, 1) := by decide +kernel
theorem dX10_smear_4 : decode cX10_smear 4 = .ok (.iload_n 1, 1) := by decide +kernel
theorem dX10_smear_5 : decode cX10_smear 5 = .ok (.iconst 1, 1) := by decide +kernel
theorem dX10_smear_6 : decode cX10_smear 6 = .ok (.invokevirtual 139, 3) := by decide +kernel
theorem dX10_smear_9 : decode cX10_smear 9 = .ok (.iconst 1, 1) := by decide +kernel
theorem dX10_smear_10 : decode cX10_smear 10 = .ok (.iadd, 1) := by decide +kernel
theorem dX10_smear_11 : decode cX10_smear 11 = .ok (.invokevirtual 136, 3) := by decide +kernel
theorem dX10_smear_14 : decode cX10_smear 14 = .ok (.iconst 3, 1) := by decide +kernel
theorem dX10_smear_15 : decode cX10_smear 15 = .ok (.istore_n 2, 1) := by decide +kernel
theorem dX10_smear_16 : decode cX10_smear 16 = .ok (.iload_n 2, 1) := by decide +kernel
theorem dX10_smear_17 : decode cX10_smear 17 = .ok (.bipush 15, 2) := by decide +kernel
theorem dX10_smear_19 : decode cX10_smear 19 = .ok (.if_icmp .ge 33, 3) := by decide +kernel
theorem dX10_smear_22 : decode cX10_smear 22 = .ok (.aload_n 0, 1) := by decide +kernel
theorem dX10_smear_23 : decode cX10_smear 23 = .ok (.iload_n 1, 1) := by decide +kernel
theorem dX10_smear_24 : decode cX10_smear 24 = .ok (.iload_n 2, 1) := by decide +kernel
theorem dX10_smear_25 : decode cX10_smear 25 = .ok (.aload_n 0, 1) := by decide +kernel
theorem dX10_smear_26 : decode cX10_smear 26 = .ok (.iload_n 1, 1) := by decide +kernel
theorem dX10_smear_27 : decode cX10_smear 27 = .ok (.iload_n 2, 1) := by decide +kernel
theorem dX10_smear_28 : decode cX10_smear 28 = .ok (.invokevirtual 139, 3) := by decide +kernel
theorem dX10_smear_31 : decode cX10_smear 31 = .ok (.aload_n 0, 1) := by decide +kernel
theorem dX10_smear_32 : decode cX10_smear 32 = .ok (.iload_n 1, 1) := by decide +kernel
theorem dX10_smear_33 : decode cX10_smear 33 = .ok (.iload_n 2, 1) := by decide +kernel
theorem dX10_smear_34 : decode cX10_smear 34 = .ok (.invokevirtual 139, 3) := by decide +kernel
theorem dX10_smear_37 : decode cX10_smear 37 = .ok (.iconst 1, 1) := by decide +kernel
theorem dX10_smear_38 : decode cX10_smear 38 = .ok (.ishl, 1) := by decide +kernel
theorem dX10_smear_39 : decode cX10_smear 39 = .ok (.ldc 142, 2) := by decide +kernel
theorem dX10_smear_41 : decode cX10_smear 41 = .ok (.iand, 1) := by decide +kernel
theorem dX10_smear_42 : decode cX10_smear 42 = .ok (.ior, 1) := by decide +kernel
theorem dX10_smear_43 : decode cX10_smear 43 = .ok (.invokevirtual 136, 3) := by decide +kernel
theorem dX10_smear_46 : decode cX10_smear 46 = .ok (.iinc 2 1, 3) := by decide +kernel
theorem dX10_smear_49 : decode cX10_smear 49 = .ok (.goto (-33), 3) := by decide +kernel
theorem dX10_smear_52 : decode cX10_smear 52 = .ok (.return_, 1) := by decide +kernel
theorem dX10_print_0 : decode cX10_print 0 = .ok (.aload_n 0, 1) := by decide +kernel
theorem dX10_print_1 : decode cX10_print 1 = .ok (.aload_n 0, 1) := by decide +kernel
theorem dX10_print_2 : decode cX10_print 2 = .ok (.iload_n 1, 1) := by decide +kernel
theorem dX10_print_3 : decode cX10_print 3 = .ok (.invokevirtual 88, 3) := by decide +kernel
theorem dX10_print_6 : decode cX10_print 6 = .ok (.ifCond .eq 15, 3) := by decide +kernel
theorem dX10_print_9 : decode cX10_print 9 = .ok (.aload_n 0, 1) := by decide +kernel
theorem dX10_print_10 : decode cX10_print 10 = .ok (.iload_n 2, 1) := by decide +kernel
theorem dX10_print_11 : decode cX10_print 11 = .ok (.invokevirtual 133, 3) := by decide +kernel
theorem dX10_print_14 : decode cX10_print 14 = .ok (.ifCond .eq 7, 3) := by decide +kernel
theorem dX10_print_17 : decode cX10_print 17 = .ok (.iconst 0, 1) := by decide +kernel
theorem dX10_print_18 : decode cX10_print 18 = .ok (.goto 4, 3) := by decide +kernel
theorem dX10_print_21 : decode cX10_print 21 = .ok (.iconst 1, 1) := by decide +kernel
theorem dX10_print_22 : decode cX10_print 22 = .ok (.invokevirtual 80, 3) := by decide +kernel
theorem dX10_print_25 : decode cX10_print 25 = .ok (.ifCond .eq 5, 3) := by decide +kernel
theorem dX10_print_28 : decode cX10_print 28 = .ok (.iconst 0, 1) := by decide +kernel
theorem dX10_print_29 : decode cX10_print 29 = .ok (.ireturn, 1) := by decide +kernel
theorem dX10_print_30 : decode cX10_print 30 = .ok (.aload_n 0, 1) := by decide +kernel
theorem dX10_print_31 : decode cX10_print 31 = .ok (.iload_n 1, 1) := by decide +kernel
theorem dX10_print_32 : decode cX10_print 32 = .ok (.invokevirtual 95, 3) := by decide +kernel
theorem dX10_print_35 : decode cX10_print 35 = .ok (.istore_n 3, 1) := by decide +kernel
theorem dX10_print_36 : decode cX10_print 36 = .ok (.aload_n 0, 1) := by decide +kernel
theorem dX10_print_37 : decode cX10_print 37 = .ok (.iload_n 1, 1) := by decide +kernel
theorem dX10_print_38 : decode cX10_print 38 = .ok (.iconst 0, 1) := by decide +kernel
theorem dX10_print_39 : decode cX10_print 39 = .ok (.invokevirtual 98, 3) := by decide +kernel
theorem dX10_print_42 : decode cX10_print 42 = .ok (.invokestatic 77, 3) := by decide +kernel
theorem dX10_print_45 : decode cX10_print 45 = .ok (.istore 4, 2) := by decide +kernel
theorem dX10_print_47 : decode cX10_print 47 = .ok (.aload_n 0, 1) := by decide +kernel
theorem dX10_print_48 : decode cX10_print 48 = .ok (.iload_n 2, 1) := by decide +kernel
theorem dX10_print_49 : decode cX10_print 49 = .ok (.iconst 2, 1) := by decide +kernel
theorem dX10_print_50 : decode cX10_print 50 = .ok (.invokevirtual 139, 3) := by decide +kernel
theorem dX10_print_53 : decode cX10_print 53 = .ok (.ifCond .lt 16, 3) := by decide +kernel
theorem dX10_print_56 : decode cX10_print 56 = .ok (.aload_n 0, 1) := by decide +kernel
theorem dX10_print_57 : decode cX10_print 57 = .ok (.iconst 2, 1) := by decide +kernel
theorem dX10_print_58 : decode cX10_print 58 = .ok (.iconst 1, 1) := by decide +kernel
theorem dX10_print_59 : decode cX10_print 59 = .ok (.aload_n 0, 1) := by decide +kernel
theorem dX10_print_60 : decode cX10_print 60 = .ok (.iload_n 2, 1) := by decide +kernel
theorem dX10_print_61 : decode cX10_print 61 = .ok (.iconst 2, 1) := by decide +kernel
theorem dX10_print_62 : decode cX10_print 62 = .ok (.invokevirtual 139, 3) := by decide +kernel
theorem dX10_print_65 : decode cX10_print 65 = .ok (.invokevirtual 143, 3) := by decide +kernel
theorem dX10_print_68 : decode cX10_print 68 = .ok (.ireturn, 1) := by decide +kernel
theorem dX10_print_69 : decode cX10_print 69 = .ok (.aload_n 0, 1) := by decide +kernel
theorem dX10_print_70 : decode cX10_print 70 = .ok (.getfield 7, 3) := by decide +kernel
theorem dX10_print_73 : decode cX10_print 73 = .ok (.iconst 3, 1) := by decide +kernel
theorem dX10_print_74 : decode cX10_print 74 = .ok (.iload 4, 2) := by decide +kernel
theorem dX10_print_76 : decode cX10_print 76 = .ok (.iadd, 1) := by decide +kernel
theorem dX10_print_77 : decode cX10_print 77 = .ok (.iaload, 1) := by decide +kernel
theorem dX10_print_78 : decode cX10_print 78 = .ok (.iload_n 3, 1) := by decide +kernel
theorem dX10_print_79 : decode cX10_print 79 = .ok (.if_icmp .ge 21, 3) := by decide +kernel
theorem dX10_print_82 : decode cX10_print 82 = .ok (.aload_n 0, 1) := by decide +kernel
theorem dX10_print_83 : decode cX10_print 83 = .ok (.iconst 2, 1) := by decide +kernel
theorem dX10_print_84 : decode cX10_print 84 = .ok (.iconst 2, 1) := by decide +kernel
theorem dX10_print_85 : decode cX10_print 85 = .ok (.iload_n 3, 1) := by decide +kernel
theorem dX10_print_86 : decode cX10_print 86 = .ok (.aload_n 0, 1) := by decide +kernel
theorem dX10_print_87 : decode cX10_print 87 = .ok (.getfield 7, 3) := by decide +kernel
theorem dX10_print_90 : decode cX10_print 90 = .ok (.iconst 3, 1) := by decide +kernel
theorem dX10_print_91 : decode cX10_print 91 = .ok (.iload 4, 2) := by decide +kernel
theorem dX10_print_93 : decode cX10_print 93 = .ok (.iadd, 1) := by decide +kernel
theorem dX10_print_94 : decode cX10_print 94 = .ok (.iaload, 1) := by decide +kernel
theorem dX10_print_95 : decode cX10_print 95 = .ok (.isub, 1) := by decide +kernel
theorem dX10_print_96 : decode cX10_print 96 = .ok (.invokevirtual 143, 3) := by decide +kernel
theorem dX10_print_99 : decode cX10_print 99 = .ok (.ireturn, 1) := by decide +kernel
theorem dX10_print_100 : decode cX10_print 100 = .ok (.aload_n 0, 1) := by decide +kernel
theorem dX10_print_101 : decode cX10_print 101 = .ok (.aload_n 0, 1) := by decide +kernel
theorem dX10_print_102 : decode cX10_print 102 = .ok (.getfield 7, 3) := by decide +kernel
theorem dX10_print_105 : decode cX10_print 105 = .ok (.invokevirtual 84, 3) := by decide +kernel
theorem dX10_print_108 : decode cX10_print 108 = .ok (.aload_n 0, 1) := by decide +kernel
theorem dX10_print_109 : decode cX10_print 109 = .ok (.iload_n 2, 1) := by decide +kernel
theorem dX10_print_110 : decode cX10_print 110 = .ok (.iconst 0, 1) := by decide +kernel
theorem dX10_print_111 : decode cX10_print 111 = .ok (.invokevirtual 139, 3) := by decide +kernel
theorem dX10_print_114 : decode cX10_print 114 = .ok (.ifCond .le 8, 3) := by decide +kernel
theorem dX10_print_117 : decode cX10_print 117 = .ok (.aload_n 0, 1) := by decide +kernel
theorem dX10_print_118 : decode cX10_print 118 = .ok (.iload_n 2, 1) := by decide +kernel
theorem dX10_print_119 : decode cX10_print 119 = .ok (.invokevirtual 147, 3) := by decide +kernel
theorem dX10_print_122 : decode cX10_print 122 = .ok (.bipush 51, 2) := by decide +kernel
theorem dX10_print_124 : decode cX10_print 124 = .ok (.bipush 27, 2) := by decide +kernel
theorem dX10_print_126 : decode cX10_print 126 = .ok (.iload_n 2, 1) := by decide +kernel
theorem dX10_print_127 : decode cX10_print 127 = .ok (.imul, 1) := by decide +kernel
theorem dX10_print_128 : decode cX10_print 128 = .ok (.iadd, 1) := by decide +kernel
theorem dX10_print_129 : decode cX10_print 129 = .ok (.iconst 3, 1) := by decide +kernel
theorem dX10_print_130 : decode cX10_print 130 = .ok (.iadd, 1) := by decide +kernel
theorem dX10_print_131 : decode cX10_print 131 = .ok (.iconst 4, 1) := by decide +kernel
theorem dX10_print_132 : decode cX10_print 132 = .ok (.iload 4, 2) := by decide +kernel
theorem dX10_print_134 : decode cX10_print 134 = .ok (.imul, 1) := by decide +kernel
theorem dX10_print_135 : decode cX10_print 135 = .ok (.iadd, 1) := by decide +kernel
theorem dX10_print_136 : decode cX10_print 136 = .ok (.istore 5, 2) := by decide +kernel
theorem dX10_print_138 : decode cX10_print 138 = .ok (.bipush 51, 2) := by decide +kernel
theorem dX10_print_140 : decode cX10_print 140 = .ok (.bipush 27, 2) := by decide +kernel
theorem dX10_print_142 : decode cX10_print 142 = .ok (.iload_n 2, 1) := by decide +kernel
theorem dX10_print_143 : decode cX10_print 143 = .ok (.imul, 1) := by decide +kernel
theorem dX10_print_144 : decode cX10_print 144 = .ok (.iadd, 1) := by decide +kernel
theorem dX10_print_145 : decode cX10_print 145 = .ok (.bipush 15, 2) := by decide +kernel
theorem dX10_print_147 : decode cX10_print 147 = .ok (.iadd, 1) := by decide +kernel
theorem dX10_print_148 : decode cX10_print 148 = .ok (.iconst 4, 1) := by decide +kernel
theorem dX10_print_149 : decode cX10_print 149 = .ok (.iload 4, 2) := by decide +kernel
theorem dX10_print_151 : decode cX10_print 151 = .ok (.imul, 1) := by decide +kernel
theorem dX10_print_152 : decode cX10_print 152 = .ok (.iadd, 1) := by decide +kernel
theorem dX10_print_153 : decode cX10_print 153 = .ok (.istore 6, 2) := by decide +kernel
theorem dX10_print_155 : decode cX10_print 155 = .ok (.iconst 0, 1) := by decide +kernel
theorem dX10_print_156 : decode cX10_print 156 = .ok (.istore 7, 2) := by decide +kernel
theorem dX10_print_158 : decode cX10_print 158 = .ok (.iload 7, 2) := by decide +kernel
theorem dX10_print_160 : decode cX10_print 160 = .ok (.sipush 128, 3) := by decide +kernel
theorem dX10_print_163 : decode cX10_print 163 = .ok (.if_icmp .ge 98, 3) := by decide +kernel
theorem dX10_print_166 : decode cX10_print 166 = .ok (.aload_n 0, 1) := by decide +kernel
theorem dX10_print_167 : decode cX10_print 167 = .ok (.aload_n 0, 1) := by decide +kernel
theorem dX10_print_168 : decode cX10_print 168 = .ok (.iload_n 1, 1) := by decide +kernel
theorem dX10_print_169 : decode cX10_print 169 = .ok (.invokevirtual 70, 3) := by decide +kernel
theorem dX10_print_172 : decode cX10_print 172 = .ok (.iload 7, 2) := by decide +kernel
theorem dX10_print_174 : decode cX10_print 174 = .ok (.bipush 16, 2) := by decide +kernel
theorem dX10_print_176 : decode cX10_print 176 = .ok (.irem, 1) := by decide +kernel
theorem dX10_print_177 : decode cX10_print 177 = .ok (.iload 7, 2) := by decide +kernel
theorem dX10_print_179 : decode cX10_print 179 = .ok (.bipush 16, 2) := by decide +kernel
theorem dX10_print_181 : decode cX10_print 181 = .ok (.idiv, 1) := by decide +kernel
theorem dX10_print_182 : decode cX10_print 182 = .ok (.invokevirtual 63, 3) := by decide +kernel
theorem dX10_print_185 : decode cX10_print 185 = .ok (.ifCond .ne 6, 3) := by decide +kernel
theorem dX10_print_188 : decode cX10_print 188 = .ok (.goto 67, 3) := by decide +kernel
theorem dX10_print_191 : decode cX10_print 191 = .ok (.iload 7, 2) := by decide +kernel
theorem dX10_print_193 : decode cX10_print 193 = .ok (.bipush 16, 2) := by decide +kernel
theorem dX10_print_195 : decode cX10_print 195 = .ok (.irem, 1) := by decide +kernel
theorem dX10_print_196 : decode cX10_print 196 = .ok (.aload_n 0, 1) := by decide +kernel
theorem dX10_print_197 : decode cX10_print 197 = .ok (.iload_n 1, 1) := by decide +kernel
theorem dX10_print_198 : decode cX10_print 198 = .ok (.iconst 1, 1) := by decide +kernel
theorem dX10_print_199 : decode cX10_print 199 = .ok (.invokevirtual 98, 3) := by decide +kernel
theorem dX10_print_202 : decode cX10_print 202 = .ok (.iadd, 1) := by decide +kernel
theorem dX10_print_203 : decode cX10_print 203 = .ok (.istore 8, 2) := by decide +kernel
theorem dX10_print_205 : decode cX10_print 205 = .ok (.iload 7, 2) := by decide +kernel
theorem dX10_print_207 : decode cX10_print 207 = .ok (.bipush 16, 2) := by decide +kernel
theorem dX10_print_209 : decode cX10_print 209 = .ok (.idiv, 1) := by decide +kernel
theorem dX10_print_210 : decode cX10_print 210 = .ok (.aload_n 0, 1) := by decide +kernel
theorem dX10_print_211 : decode cX10_print 211 = .ok (.iload_n 1, 1) := by decide +kernel
theorem dX10_print_212 : decode cX10_print 212 = .ok (.iconst 2, 1) := by decide +kernel
theorem dX10_print_213 : decode cX10_print 213 = .ok (.invokevirtual 98, 3) := by decide +kernel
theorem dX10_print_216 : decode cX10_print 216 = .ok (.iadd, 1) := by decide +kernel
theorem dX10_print_217 : decode cX10_print 217 = .ok (.istore 9, 2) := by decide +kernel
theorem dX10_print_219 : decode cX10_print 219 = .ok (.aload_n 0, 1) := by decide +kernel
theorem dX10_print_220 : decode cX10_print 220 = .ok (.iload 6, 2) := by decide +kernel
theorem dX10_print_222 : decode cX10_print 222 = .ok (.iload 7, 2) := by decide +kernel
theorem dX10_print_224 : decode cX10_print 224 = .ok (.bipush 16, 2) := by decide +kernel
theorem dX10_print_226 : decode cX10_print 226 = .ok (.irem, 1) := by decide +kernel
theorem dX10_print_227 : decode cX10_print 227 = .ok (.iload 7, 2) := by decide +kernel
theorem dX10_print_229 : decode cX10_print 229 = .ok (.bipush 16, 2) := by decide +kernel
theorem dX10_print_231 : decode cX10_print 231 = .ok (.idiv, 1) := by decide +kernel
theorem dX10_print_232 : decode cX10_print 232 = .ok (.invokevirtual 151, 3) := by decide +kernel
theorem dX10_print_235 : decode cX10_print 235 = .ok (.iload 8, 2) := by decide +kernel
theorem dX10_print_237 : decode cX10_print 237 = .ok (.iload 9, 2) := by decide +kernel
theorem dX10_print_239 : decode cX10_print 239 = .ok (.invokestatic 91, 3) := by decide +kernel
theorem dX10_print_242 : decode cX10_print 242 = .ok (.ifCond .eq 13, 3) := by decide +kernel
theorem dX10_print_245 : decode cX10_print 245 = .ok (.aload_n 0, 1) := by decide +kernel
theorem dX10_print_246 : decode cX10_print 246 = .ok (.iload 5, 2) := by decide +kernel
theorem dX10_print_248 : decode cX10_print 248 = .ok (.iload 8, 2) := by decide +kernel
theorem dX10_print_250 : decode cX10_print 250 = .ok (.iload 9, 2) := by decide +kernel
theorem dX10_print_252 : decode cX10_print 252 = .ok (.invokevirtual 151, 3) := by decide +kernel
theorem dX10_print_255 : decode cX10_print 255 = .ok (.iinc 7 1, 3) := by decide +kernel
theorem dX10_print_258 : decode cX10_print 258 = .ok (.goto (-100), 3) := by decide +kernel
theorem dX10_print_261 : decode cX10_print 261 = .ok (.aload_n 0, 1) := by decide +kernel
theorem dX10_print_262 : decode cX10_print 262 = .ok (.getfield 7, 3) := by decide +kernel
theorem dX10_print_265 : decode cX10_print 265 = .ok (.iconst 3, 1) := by decide +kernel
theorem dX10_print_266 : decode cX10_print 266 = .ok (.iload 4, 2) := by decide +kernel
theorem dX10_print_268 : decode cX10_print 268 = .ok (.iadd, 1) := by decide +kernel
theorem dX10_print_269 : decode cX10_print 269 = .ok (.dup2, 1) := by decide +kernel
theorem dX10_print_270 : decode cX10_print 270 = .ok (.iaload, 1) := by decide +kernel
theorem dX10_print_271 : decode cX10_print 271 = .ok (.iload_n 3, 1) := by decide +kernel
theorem dX10_print_272 : decode cX10_print 272 = .ok (.isub, 1) := by decide +kernel
theorem dX10_print_273 : decode cX10_print 273 = .ok (.iastore, 1) := by decide +kernel
theorem dX10_print_274 : decode cX10_print 274 = .ok (.aload_n 0, 1) := by decide +kernel
theorem dX10_print_275 : decode cX10_print 275 = .ok (.iload_n 2, 1) := by decide +kernel
theorem dX10_print_276 : decode cX10_print 276 = .ok (.iconst 0, 1) := by decide +kernel
theorem dX10_print_277 : decode cX10_print 277 = .ok (.iload_n 3, 1) := by decide +kernel
theorem dX10_print_278 : decode cX10_print 278 = .ok (.iconst 3, 1) := by decide +kernel
theorem dX10_print_279 : decode cX10_print 279 = .ok (.iadd, 1) := by decide +kernel
theorem dX10_print_280 : decode cX10_print 280 = .ok (.iconst 4, 1) := by decide +kernel
theorem dX10_print_281 : decode cX10_print 281 = .ok (.idiv, 1) := by decide +kernel
theorem dX10_print_282 : decode cX10_print 282 = .ok (.invokevirtual 136, 3) := by decide +kernel
theorem dX10_print_285 : decode cX10_print 285 = .ok (.aload_n 0, 1) := by decide +kernel
theorem dX10_print_286 : decode cX10_print 286 = .ok (.iload_n 1, 1) := by decide +kernel
theorem dX10_print_287 : decode cX10_print 287 = .ok (.invokevirtual 108, 3) := by decide +kernel
theorem dX10_print_290 : decode cX10_print 290 = .ok (.ireturn, 1) := by decide +kernel
theorem dX10_wouldSmear_0 : decode cX10_wouldSmear 0 = .ok (.aload_n 0, 1) := by decide +kernel
theorem dX10_wouldSmear_1 : decode cX10_wouldSmear 1 = .ok (.iload_n 1, 1) := by decide +kernel
theorem dX10_wouldSmear_2 : decode cX10_wouldSmear 2 = .ok (.invokevirtual 154, 3) := by decide +kernel
theorem dX10_wouldSmear_5 : decode cX10_wouldSmear 5 = .ok (.ifCond .ne 16, 3) := by decide +kernel
theorem dX10_wouldSmear_8 : decode cX10_wouldSmear 8 = .ok (.aload_n 0, 1) := by decide +kernel
theorem dX10_wouldSmear_9 : decode cX10_wouldSmear 9 = .ok (.iload_n 1, 1) := by decide +kernel
theorem dX10_wouldSmear_10 : decode cX10_wouldSmear 10 = .ok (.iconst 0, 1) := by decide +kernel
theorem dX10_wouldSmear_11 : decode cX10_wouldSmear 11 = .ok (.invokevirtual 139, 3) := by decide +kernel
theorem dX10_wouldSmear_14 : decode cX10_wouldSmear 14 = .ok (.ifCond .le 7, 3) := by decide +kernel
theorem dX10_wouldSmear_17 : decode cX10_wouldSmear 17 = .ok (.iconst 1, 1) := by decide +kernel
theorem dX10_wouldSmear_18 : decode cX10_wouldSmear 18 = .ok (.goto 4, 3) := by decide +kernel
theorem dX10_wouldSmear_21 : decode cX10_wouldSmear 21 = .ok (.iconst 0, 1) := by decide +kernel
theorem dX10_wouldSmear_22 : decode cX10_wouldSmear 22 = .ok (.ireturn, 1) := by decide +kernel
theorem dX10_sheetCount_0 : decode cX10_sheetCount 0 = .ok (.aload_n 0, 1) := by decide +kernel
theorem dX10_sheetCount_1 : decode cX10_sheetCount 1 = .ok (.iconst 0, 1) := by decide +kernel
theorem dX10_sheetCount_2 : decode cX10_sheetCount 2 = .ok (.putfield 39, 3) := by decide +kernel
theorem dX10_sheetCount_5 : decode cX10_sheetCount 5 = .ok (.aload_n 0, 1) := by decide +kernel
theorem dX10_sheetCount_6 : decode cX10_sheetCount 6 = .ok (.getfield 7, 3) := by decide +kernel
theorem dX10_sheetCount_9 : decode cX10_sheetCount 9 = .ok (.iconst 1, 1) := by decide +kernel
theorem dX10_sheetCount_10 : decode cX10_sheetCount 10 = .ok (.iaload, 1) := by decide +kernel
theorem dX10_sheetCount_11 : decode cX10_sheetCount 11 = .ok (.ireturn, 1) := by decide +kernel
theorem dX10_coloured_0 : decode cX10_coloured 0 = .ok (.bipush 51, 2) := by decide +kernel
theorem dX10_coloured_2 : decode cX10_coloured 2 = .ok (.bipush 27, 2) := by decide +kernel
theorem dX10_coloured_4 : decode cX10_coloured 4 = .ok (.iload_n 1, 1) := by decide +kernel
theorem dX10_coloured_5 : decode cX10_coloured 5 = .ok (.imul, 1) := by decide +kernel
theorem dX10_coloured_6 : decode cX10_coloured 6 = .ok (.iadd, 1) := by decide +kernel
theorem dX10_coloured_7 : decode cX10_coloured 7 = .ok (.iload_n 2, 1) := by decide +kernel
theorem dX10_coloured_8 : decode cX10_coloured 8 = .ok (.iadd, 1) := by decide +kernel
theorem dX10_coloured_9 : decode cX10_coloured 9 = .ok (.istore 5, 2) := by decide +kernel
theorem dX10_coloured_11 : decode cX10_coloured 11 = .ok (.aload_n 0, 1) := by decide +kernel
theorem dX10_coloured_12 : decode cX10_coloured 12 = .ok (.iload 5, 2) := by decide +kernel
theorem dX10_coloured_14 : decode cX10_coloured 14 = .ok (.iload_n 3, 1) := by decide +kernel
theorem dX10_coloured_15 : decode cX10_coloured 15 = .ok (.iload 4, 2) := by decide +kernel
theorem dX10_coloured_17 : decode cX10_coloured 17 = .ok (.invokevirtual 63, 3) := by decide +kernel
theorem dX10_coloured_20 : decode cX10_coloured 20 = .ok (.ifCond .eq 7, 3) := by decide +kernel
theorem dX10_coloured_23 : decode cX10_coloured 23 = .ok (.iconst 1, 1) := by decide +kernel
theorem dX10_coloured_24 : decode cX10_coloured 24 = .ok (.goto 4, 3) := by decide +kernel
theorem dX10_coloured_27 : decode cX10_coloured 27 = .ok (.iconst 0, 1) := by decide +kernel
theorem dX10_coloured_28 : decode cX10_coloured 28 = .ok (.aload_n 0, 1) := by decide +kernel
theorem dX10_coloured_29 : decode cX10_coloured 29 = .ok (.iload 5, 2) := by decide +kernel
theorem dX10_coloured_31 : decode cX10_coloured 31 = .ok (.iconst 4, 1) := by decide +kernel
theorem dX10_coloured_32 : decode cX10_coloured 32 = .ok (.iadd, 1) := by decide +kernel
theorem dX10_coloured_33 : decode cX10_coloured 33 = .ok (.iload_n 3, 1) := by decide +kernel
theorem dX10_coloured_34 : decode cX10_coloured 34 = .ok (.iload 4, 2) := by decide +kernel
theorem dX10_coloured_36 : decode cX10_coloured 36 = .ok (.invokevirtual 63, 3) := by decide +kernel
theorem dX10_coloured_39 : decode cX10_coloured 39 = .ok (.ifCond .eq 7, 3) := by decide +kernel
theorem dX10_coloured_42 : decode cX10_coloured 42 = .ok (.iconst 2, 1) := by decide +kernel
theorem dX10_coloured_43 : decode cX10_coloured 43 = .ok (.goto 4, 3) := by decide +kernel
theorem dX10_coloured_46 : decode cX10_coloured 46 = .ok (.iconst 0, 1) := by decide +kernel
theorem dX10_coloured_47 : decode cX10_coloured 47 = .ok (.iadd, 1) := by decide +kernel
theorem dX10_coloured_48 : decode cX10_coloured 48 = .ok (.aload_n 0, 1) := by decide +kernel
theorem dX10_coloured_49 : decode cX10_coloured 49 = .ok (.iload 5, 2) := by decide +kernel
theorem dX10_coloured_51 : decode cX10_coloured 51 = .ok (.bipush 8, 2) := by decide +kernel
theorem dX10_coloured_53 : decode cX10_coloured 53 = .ok (.iadd, 1) := by decide +kernel
theorem dX10_coloured_54 : decode cX10_coloured 54 = .ok (.iload_n 3, 1) := by decide +kernel
theorem dX10_coloured_55 : decode cX10_coloured 55 = .ok (.iload 4, 2) := by decide +kernel
theorem dX10_coloured_57 : decode cX10_coloured 57 = .ok (.invokevirtual 63, 3) := by decide +kernel
theorem dX10_coloured_60 : decode cX10_coloured 60 = .ok (.ifCond .eq 7, 3) := by decide +kernel
theorem dX10_coloured_63 : decode cX10_coloured 63 = .ok (.iconst 4, 1) := by decide +kernel
theorem dX10_coloured_64 : decode cX10_coloured 64 = .ok (.goto 4, 3) := by decide +kernel
theorem dX10_coloured_67 : decode cX10_coloured 67 = .ok (.iconst 0, 1) := by decide +kernel
theorem dX10_coloured_68 : decode cX10_coloured 68 = .ok (.iadd, 1) := by decide +kernel
theorem dX10_coloured_69 : decode cX10_coloured 69 = .ok (.ireturn, 1) := by decide +kernel
theorem dX10_isBeyond_0 : decode cX10_isBeyond 0 = .ok (.aload_n 0, 1) := by decide +kernel
theorem dX10_isBeyond_1 : decode cX10_isBeyond 1 = .ok (.aload_n 0, 1) := by decide +kernel
theorem dX10_isBeyond_2 : decode cX10_isBeyond 2 = .ok (.iload_n 1, 1) := by decide +kernel
theorem dX10_isBeyond_3 : decode cX10_isBeyond 3 = .ok (.invokevirtual 133, 3) := by decide +kernel
theorem dX10_isBeyond_6 : decode cX10_isBeyond 6 = .ok (.ifCond .ne 7, 3) := by decide +kernel
theorem dX10_isBeyond_9 : decode cX10_isBeyond 9 = .ok (.iconst 1, 1) := by decide +kernel
theorem dX10_isBeyond_10 : decode cX10_isBeyond 10 = .ok (.goto 16, 3) := by decide +kernel
theorem dX10_isBeyond_13 : decode cX10_isBeyond 13 = .ok (.iload_n 2, 1) := by decide +kernel
theorem dX10_isBeyond_14 : decode cX10_isBeyond 14 = .ok (.iload_n 3, 1) := by decide +kernel
theorem dX10_isBeyond_15 : decode cX10_isBeyond 15 = .ok (.invokestatic 91, 3) := by decide +kernel
theorem dX10_isBeyond_18 : decode cX10_isBeyond 18 = .ok (.ifCond .eq 7, 3) := by decide +kernel
theorem dX10_isBeyond_21 : decode cX10_isBeyond 21 = .ok (.iconst 0, 1) := by decide +kernel
theorem dX10_isBeyond_22 : decode cX10_isBeyond 22 = .ok (.goto 4, 3) := by decide +kernel
theorem dX10_isBeyond_25 : decode cX10_isBeyond 25 = .ok (.iconst 2, 1) := by decide +kernel
theorem dX10_isBeyond_26 : decode cX10_isBeyond 26 = .ok (.invokevirtual 80, 3) := by decide +kernel
theorem dX10_isBeyond_29 : decode cX10_isBeyond 29 = .ok (.ireturn, 1) := by decide +kernel
theorem dX10_colour_0 : decode cX10_colour 0 = .ok (.aload_n 0, 1) := by decide +kernel
theorem dX10_colour_1 : decode cX10_colour 1 = .ok (.iload_n 1, 1) := by decide +kernel
theorem dX10_colour_2 : decode cX10_colour 2 = .ok (.iload_n 2, 1) := by decide +kernel
theorem dX10_colour_3 : decode cX10_colour 3 = .ok (.iload_n 3, 1) := by decide +kernel
theorem dX10_colour_4 : decode cX10_colour 4 = .ok (.invokevirtual 157, 3) := by decide +kernel
theorem dX10_colour_7 : decode cX10_colour 7 = .ok (.ifCond .eq 7, 3) := by decide +kernel
theorem dX10_colour_10 : decode cX10_colour 10 = .ok (.iconst 0, 1) := by decide +kernel
theorem dX10_colour_11 : decode cX10_colour 11 = .ok (.goto 11, 3) := by decide +kernel
theorem dX10_colour_14 : decode cX10_colour 14 = .ok (.aload_n 0, 1) := by decide +kernel
theorem dX10_colour_15 : decode cX10_colour 15 = .ok (.iload_n 1, 1) := by decide +kernel
theorem dX10_colour_16 : decode cX10_colour 16 = .ok (.iconst 3, 1) := by decide +kernel
theorem dX10_colour_17 : decode cX10_colour 17 = .ok (.iload_n 2, 1) := by decide +kernel
theorem dX10_colour_18 : decode cX10_colour 18 = .ok (.iload_n 3, 1) := by decide +kernel
theorem dX10_colour_19 : decode cX10_colour 19 = .ok (.invokevirtual 160, 3) := by decide +kernel
theorem dX10_colour_22 : decode cX10_colour 22 = .ok (.ireturn, 1) := by decide +kernel
theorem dX10_intended_0 : decode cX10_intended 0 = .ok (.aload_n 0, 1) := by decide +kernel
theorem dX10_intended_1 : decode cX10_intended 1 = .ok (.iload_n 1, 1) := by decide +kernel
theorem dX10_intended_2 : decode cX10_intended 2 = .ok (.iload_n 2, 1) := by decide +kernel
theorem dX10_intended_3 : decode cX10_intended 3 = .ok (.iload_n 3, 1) := by decide +kernel
theorem dX10_intended_4 : decode cX10_intended 4 = .ok (.invokevirtual 157, 3) := by decide +kernel
theorem dX10_intended_7 : decode cX10_intended 7 = .ok (.ifCond .eq 7, 3) := by decide +kernel
theorem dX10_intended_10 : decode cX10_intended 10 = .ok (.iconst 0, 1) := by decide +kernel
theorem dX10_intended_11 : decode cX10_intended 11 = .ok (.goto 12, 3) := by decide +kernel
theorem dX10_intended_14 : decode cX10_intended 14 = .ok (.aload_n 0, 1) := by decide +kernel
theorem dX10_intended_15 : decode cX10_intended 15 = .ok (.iload_n 1, 1) := by decide +kernel
theorem dX10_intended_16 : decode cX10_intended 16 = .ok (.bipush 15, 2) := by decide +kernel
theorem dX10_intended_18 : decode cX10_intended 18 = .ok (.iload_n 2, 1) := by decide +kernel
theorem dX10_intended_19 : decode cX10_intended 19 = .ok (.iload_n 3, 1) := by decide +kernel
theorem dX10_intended_20 : decode cX10_intended 20 = .ok (.invokevirtual 160, 3) := by decide +kernel
theorem dX10_intended_23 : decode cX10_intended 23 = .ok (.ireturn, 1) := by decide +kernel
theorem dX10_placesOf_0 : decode cX10_placesOf 0 = .ok (.aload_n 0, 1) := by decide +kernel
theorem dX10_placesOf_1 : decode cX10_placesOf 1 = .ok (.aload_n 0, 1) := by decide +kernel
theorem dX10_placesOf_2 : decode cX10_placesOf 2 = .ok (.iload_n 1, 1) := by decide +kernel
theorem dX10_placesOf_3 : decode cX10_placesOf 3 = .ok (.invokevirtual 133, 3) := by decide +kernel
theorem dX10_placesOf_6 : decode cX10_placesOf 6 = .ok (.ifCond .ne 7, 3) := by decide +kernel
theorem dX10_placesOf_9 : decode cX10_placesOf 9 = .ok (.iconst 1, 1) := by decide +kernel
theorem dX10_placesOf_10 : decode cX10_placesOf 10 = .ok (.goto 18, 3) := by decide +kernel
theorem dX10_placesOf_13 : decode cX10_placesOf 13 = .ok (.iload_n 2, 1) := by decide +kernel
theorem dX10_placesOf_14 : decode cX10_placesOf 14 = .ok (.iconst 0, 1) := by decide +kernel
theorem dX10_placesOf_15 : decode cX10_placesOf 15 = .ok (.bipush 7, 2) := by decide +kernel
theorem dX10_placesOf_17 : decode cX10_placesOf 17 = .ok (.invokestatic 59, 3) := by decide +kernel
theorem dX10_placesOf_20 : decode cX10_placesOf 20 = .ok (.ifCond .eq 7, 3) := by decide +kernel
theorem dX10_placesOf_23 : decode cX10_placesOf 23 = .ok (.iconst 0, 1) := by decide +kernel
theorem dX10_placesOf_24 : decode cX10_placesOf 24 = .ok (.goto 4, 3) := by decide +kernel
theorem dX10_placesOf_27 : decode cX10_placesOf 27 = .ok (.iconst 2, 1) := by decide +kernel
theorem dX10_placesOf_28 : decode cX10_placesOf 28 = .ok (.invokevirtual 80, 3) := by decide +kernel
theorem dX10_placesOf_31 : decode cX10_placesOf 31 = .ok (.ifCond .eq 5, 3) := by decide +kernel
theorem dX10_placesOf_34 : decode cX10_placesOf 34 = .ok (.iconst 0, 1) := by decide +kernel
theorem dX10_placesOf_35 : decode cX10_placesOf 35 = .ok (.ireturn, 1) := by decide +kernel
theorem dX10_placesOf_36 : decode cX10_placesOf 36 = .ok (.iconst 0, 1) := by decide +kernel
theorem dX10_placesOf_37 : decode cX10_placesOf 37 = .ok (.istore_n 3, 1) := by decide +kernel
theorem dX10_placesOf_38 : decode cX10_placesOf 38 = .ok (.iconst 0, 1) := by decide +kernel
theorem dX10_placesOf_39 : decode cX10_placesOf 39 = .ok (.istore 4, 2) := by decide +kernel
theorem dX10_placesOf_41 : decode cX10_placesOf 41 = .ok (.iload 4, 2) := by decide +kernel
theorem dX10_placesOf_43 : decode cX10_placesOf 43 = .ok (.sipush 128, 3) := by decide +kernel
theorem dX10_placesOf_46 : decode cX10_placesOf 46 = .ok (.if_icmp .ge 37, 3) := by decide +kernel
theorem dX10_placesOf_49 : decode cX10_placesOf 49 = .ok (.iload_n 3, 1) := by decide +kernel
theorem dX10_placesOf_50 : decode cX10_placesOf 50 = .ok (.aload_n 0, 1) := by decide +kernel
theorem dX10_placesOf_51 : decode cX10_placesOf 51 = .ok (.iload_n 1, 1) := by decide +kernel
theorem dX10_placesOf_52 : decode cX10_placesOf 52 = .ok (.iconst 3, 1) := by decide +kernel
theorem dX10_placesOf_53 : decode cX10_placesOf 53 = .ok (.iload 4, 2) := by decide +kernel
theorem dX10_placesOf_55 : decode cX10_placesOf 55 = .ok (.bipush 16, 2) := by decide +kernel
theorem dX10_placesOf_57 : decode cX10_placesOf 57 = .ok (.irem, 1) := by decide +kernel
theorem dX10_placesOf_58 : decode cX10_placesOf 58 = .ok (.iload 4, 2) := by decide +kernel
theorem dX10_placesOf_60 : decode cX10_placesOf 60 = .ok (.bipush 16, 2) := by decide +kernel
theorem dX10_placesOf_62 : decode cX10_placesOf 62 = .ok (.idiv, 1) := by decide +kernel
theorem dX10_placesOf_63 : decode cX10_placesOf 63 = .ok (.invokevirtual 160, 3) := by decide +kernel
theorem dX10_placesOf_66 : decode cX10_placesOf 66 = .ok (.iload_n 2, 1) := by decide +kernel
theorem dX10_placesOf_67 : decode cX10_placesOf 67 = .ok (.if_icmp .ne 7, 3) := by decide +kernel
theorem dX10_placesOf_70 : decode cX10_placesOf 70 = .ok (.iconst 1, 1) := by decide +kernel
theorem dX10_placesOf_71 : decode cX10_placesOf 71 = .ok (.goto 4, 3) := by decide +kernel
theorem dX10_placesOf_74 : decode cX10_placesOf 74 = .ok (.iconst 0, 1) := by decide +kernel
theorem dX10_placesOf_75 : decode cX10_placesOf 75 = .ok (.iadd, 1) := by decide +kernel
theorem dX10_placesOf_76 : decode cX10_placesOf 76 = .ok (.istore_n 3, 1) := by decide +kernel
theorem dX10_placesOf_77 : decode cX10_placesOf 77 = .ok (.iinc 4 1, 3) := by decide +kernel
theorem dX10_placesOf_80 : decode cX10_placesOf 80 = .ok (.goto (-39), 3) := by decide +kernel
theorem dX10_placesOf_83 : decode cX10_placesOf 83 = .ok (.iload_n 3, 1) := by decide +kernel
theorem dX10_placesOf_84 : decode cX10_placesOf 84 = .ok (.ireturn, 1) := by decide +kernel
theorem dX10_wetness_0 : decode cX10_wetness 0 = .ok (.aload_n 0, 1) := by decide +kernel
theorem dX10_wetness_1 : decode cX10_wetness 1 = .ok (.iload_n 1, 1) := by decide +kernel
theorem dX10_wetness_2 : decode cX10_wetness 2 = .ok (.invokevirtual 154, 3) := by decide +kernel
theorem dX10_wetness_5 : decode cX10_wetness 5 = .ok (.ifCond .eq 7, 3) := by decide +kernel
theorem dX10_wetness_8 : decode cX10_wetness 8 = .ok (.iconst 0, 1) := by decide +kernel
theorem dX10_wetness_9 : decode cX10_wetness 9 = .ok (.goto 9, 3) := by decide +kernel
theorem dX10_wetness_12 : decode cX10_wetness 12 = .ok (.aload_n 0, 1) := by decide +kernel
theorem dX10_wetness_13 : decode cX10_wetness 13 = .ok (.iload_n 1, 1) := by decide +kernel
theorem dX10_wetness_14 : decode cX10_wetness 14 = .ok (.iconst 0, 1) := by decide +kernel
theorem dX10_wetness_15 : decode cX10_wetness 15 = .ok (.invokevirtual 139, 3) := by decide +kernel
theorem dX10_wetness_18 : decode cX10_wetness 18 = .ok (.ireturn, 1) := by decide +kernel
theorem dX10_smears_0 : decode cX10_smears 0 = .ok (.aload_n 0, 1) := by decide +kernel
theorem dX10_smears_1 : decode cX10_smears 1 = .ok (.iload_n 1, 1) := by decide +kernel
theorem dX10_smears_2 : decode cX10_smears 2 = .ok (.invokevirtual 154, 3) := by decide +kernel
theorem dX10_smears_5 : decode cX10_smears 5 = .ok (.ifCond .eq 7, 3) := by decide +kernel
theorem dX10_smears_8 : decode cX10_smears 8 = .ok (.iconst 0, 1) := by decide +kernel
theorem dX10_smears_9 : decode cX10_smears 9 = .ok (.goto 9, 3) := by decide +kernel
theorem dX10_smears_12 : decode cX10_smears 12 = .ok (.aload_n 0, 1) := by decide +kernel
theorem dX10_smears_13 : decode cX10_smears 13 = .ok (.iload_n 1, 1) := by decide +kernel
theorem dX10_smears_14 : decode cX10_smears 14 = .ok (.iconst 1, 1) := by decide +kernel
theorem dX10_smears_15 : decode cX10_smears 15 = .ok (.invokevirtual 139, 3) := by decide +kernel
theorem dX10_smears_18 : decode cX10_smears 18 = .ok (.ireturn, 1) := by decide +kernel
theorem dX10_wrong_0 : decode cX10_wrong 0 = .ok (.iconst 0, 1) := by decide +kernel
theorem dX10_wrong_1 : decode cX10_wrong 1 = .ok (.istore_n 2, 1) := by decide +kernel
theorem dX10_wrong_2 : decode cX10_wrong 2 = .ok (.iconst 0, 1) := by decide +kernel
theorem dX10_wrong_3 : decode cX10_wrong 3 = .ok (.istore_n 3, 1) := by decide +kernel
theorem dX10_wrong_4 : decode cX10_wrong 4 = .ok (.iload_n 3, 1) := by decide +kernel
theorem dX10_wrong_5 : decode cX10_wrong 5 = .ok (.iconst 4, 1) := by decide +kernel
theorem dX10_wrong_6 : decode cX10_wrong 6 = .ok (.if_icmp .ge 73, 3) := by decide +kernel
theorem dX10_wrong_9 : decode cX10_wrong 9 = .ok (.iload_n 2, 1) := by decide +kernel
theorem dX10_wrong_10 : decode cX10_wrong 10 = .ok (.aload_n 0, 1) := by decide +kernel
theorem dX10_wrong_11 : decode cX10_wrong 11 = .ok (.iload_n 1, 1) := by decide +kernel
theorem dX10_wrong_12 : decode cX10_wrong 12 = .ok (.iconst 3, 1) := by decide +kernel
theorem dX10_wrong_13 : decode cX10_wrong 13 = .ok (.iload_n 3, 1) := by decide +kernel
theorem dX10_wrong_14 : decode cX10_wrong 14 = .ok (.iadd, 1) := by decide +kernel
theorem dX10_wrong_15 : decode cX10_wrong 15 = .ok (.invokevirtual 139, 3) := by decide +kernel
theorem dX10_wrong_18 : decode cX10_wrong 18 = .ok (.aload_n 0, 1) := by decide +kernel
theorem dX10_wrong_19 : decode cX10_wrong 19 = .ok (.iload_n 1, 1) := by decide +kernel
theorem dX10_wrong_20 : decode cX10_wrong 20 = .ok (.bipush 15, 2) := by decide +kernel
theorem dX10_wrong_22 : decode cX10_wrong 22 = .ok (.iload_n 3, 1) := by decide +kernel
theorem dX10_wrong_23 : decode cX10_wrong 23 = .ok (.iadd, 1) := by decide +kernel
theorem dX10_wrong_24 : decode cX10_wrong 24 = .ok (.invokevirtual 139, 3) := by decide +kernel
theorem dX10_wrong_27 : decode cX10_wrong 27 = .ok (.ixor, 1) := by decide +kernel
theorem dX10_wrong_28 : decode cX10_wrong 28 = .ok (.aload_n 0, 1) := by decide +kernel
theorem dX10_wrong_29 : decode cX10_wrong 29 = .ok (.iload_n 1, 1) := by decide +kernel
theorem dX10_wrong_30 : decode cX10_wrong 30 = .ok (.bipush 7, 2) := by decide +kernel
theorem dX10_wrong_32 : decode cX10_wrong 32 = .ok (.iload_n 3, 1) := by decide +kernel
theorem dX10_wrong_33 : decode cX10_wrong 33 = .ok (.iadd, 1) := by decide +kernel
theorem dX10_wrong_34 : decode cX10_wrong 34 = .ok (.invokevirtual 139, 3) := by decide +kernel
theorem dX10_wrong_37 : decode cX10_wrong 37 = .ok (.aload_n 0, 1) := by decide +kernel
theorem dX10_wrong_38 : decode cX10_wrong 38 = .ok (.iload_n 1, 1) := by decide +kernel
theorem dX10_wrong_39 : decode cX10_wrong 39 = .ok (.bipush 19, 2) := by decide +kernel
theorem dX10_wrong_41 : decode cX10_wrong 41 = .ok (.iload_n 3, 1) := by decide +kernel
theorem dX10_wrong_42 : decode cX10_wrong 42 = .ok (.iadd, 1) := by decide +kernel
theorem dX10_wrong_43 : decode cX10_wrong 43 = .ok (.invokevirtual 139, 3) := by decide +kernel
theorem dX10_wrong_46 : decode cX10_wrong 46 = .ok (.ixor, 1) := by decide +kernel
theorem dX10_wrong_47 : decode cX10_wrong 47 = .ok (.ior, 1) := by decide +kernel
theorem dX10_wrong_48 : decode cX10_wrong 48 = .ok (.aload_n 0, 1) := by decide +kernel
theorem dX10_wrong_49 : decode cX10_wrong 49 = .ok (.iload_n 1, 1) := by decide +kernel
theorem dX10_wrong_50 : decode cX10_wrong 50 = .ok (.bipush 11, 2) := by decide +kernel
theorem dX10_wrong_52 : decode cX10_wrong 52 = .ok (.iload_n 3, 1) := by decide +kernel
theorem dX10_wrong_53 : decode cX10_wrong 53 = .ok (.iadd, 1) := by decide +kernel
theorem dX10_wrong_54 : decode cX10_wrong 54 = .ok (.invokevirtual 139, 3) := by decide +kernel
theorem dX10_wrong_57 : decode cX10_wrong 57 = .ok (.aload_n 0, 1) := by decide +kernel
theorem dX10_wrong_58 : decode cX10_wrong 58 = .ok (.iload_n 1, 1) := by decide +kernel
theorem dX10_wrong_59 : decode cX10_wrong 59 = .ok (.bipush 23, 2) := by decide +kernel
theorem dX10_wrong_61 : decode cX10_wrong 61 = .ok (.iload_n 3, 1) := by decide +kernel
theorem dX10_wrong_62 : decode cX10_wrong 62 = .ok (.iadd, 1) := by decide +kernel
theorem dX10_wrong_63 : decode cX10_wrong 63 = .ok (.invokevirtual 139, 3) := by decide +kernel
theorem dX10_wrong_66 : decode cX10_wrong 66 = .ok (.ixor, 1) := by decide +kernel
theorem dX10_wrong_67 : decode cX10_wrong 67 = .ok (.ior, 1) := by decide +kernel
theorem dX10_wrong_68 : decode cX10_wrong 68 = .ok (.invokestatic 74, 3) := by decide +kernel
theorem dX10_wrong_71 : decode cX10_wrong 71 = .ok (.iadd, 1) := by decide +kernel
theorem dX10_wrong_72 : decode cX10_wrong 72 = .ok (.istore_n 2, 1) := by decide +kernel
theorem dX10_wrong_73 : decode cX10_wrong 73 = .ok (.iinc 3 1, 3) := by decide +kernel
theorem dX10_wrong_76 : decode cX10_wrong 76 = .ok (.goto (-72), 3) := by decide +kernel
theorem dX10_wrong_79 : decode cX10_wrong 79 = .ok (.iload_n 2, 1) := by decide +kernel
theorem dX10_wrong_80 : decode cX10_wrong 80 = .ok (.ireturn, 1) := by decide +kernel
theorem dX10_misprints_0 : decode cX10_misprints 0 = .ok (.aload_n 0, 1) := by decide +kernel
theorem dX10_misprints_1 : decode cX10_misprints 1 = .ok (.iload_n 1, 1) := by decide +kernel
theorem dX10_misprints_2 : decode cX10_misprints 2 = .ok (.invokevirtual 154, 3) := by decide +kernel
theorem dX10_misprints_5 : decode cX10_misprints 5 = .ok (.ifCond .eq 7, 3) := by decide +kernel
theorem dX10_misprints_8 : decode cX10_misprints 8 = .ok (.iconst 0, 1) := by decide +kernel
theorem dX10_misprints_9 : decode cX10_misprints 9 = .ok (.goto 8, 3) := by decide +kernel
theorem dX10_misprints_12 : decode cX10_misprints 12 = .ok (.aload_n 0, 1) := by decide +kernel
theorem dX10_misprints_13 : decode cX10_misprints 13 = .ok (.iload_n 1, 1) := by decide +kernel
theorem dX10_misprints_14 : decode cX10_misprints 14 = .ok (.invokevirtual 163, 3) := by decide +kernel
theorem dX10_misprints_17 : decode cX10_misprints 17 = .ok (.ireturn, 1) := by decide +kernel
theorem dX10_misprintsBySets_0 : decode cX10_misprintsBySets 0 = .ok (.aload_n 0, 1) := by decide +kernel
theorem dX10_misprintsBySets_1 : decode cX10_misprintsBySets 1 = .ok (.iload_n 1, 1) := by decide +kernel
theorem dX10_misprintsBySets_2 : decode cX10_misprintsBySets 2 = .ok (.invokevirtual 154, 3) := by decide +kernel
theorem dX10_misprintsBySets_5 : decode cX10_misprintsBySets 5 = .ok (.ifCond .eq 7, 3) := by decide +kernel
theorem dX10_misprintsBySets_8 : decode cX10_misprintsBySets 8 = .ok (.iconst 0, 1) := by decide +kernel
theorem dX10_misprintsBySets_9 : decode cX10_misprintsBySets 9 = .ok (.goto 8, 3) := by decide +kernel
theorem dX10_misprintsBySets_12 : decode cX10_misprintsBySets 12 = .ok (.aload_n 0, 1) := by decide +kernel
theorem dX10_misprintsBySets_13 : decode cX10_misprintsBySets 13 = .ok (.iload_n 1, 1) := by decide +kernel
theorem dX10_misprintsBySets_14 : decode cX10_misprintsBySets 14 = .ok (.invokevirtual 163, 3) := by decide +kernel
theorem dX10_misprintsBySets_17 : decode cX10_misprintsBySets 17 = .ok (.ireturn, 1) := by decide +kernel
theorem dX10_sheetByMisprints_0 : decode cX10_sheetByMisprints 0 = .ok (.iconst 0, 1) := by decide +kernel
theorem dX10_sheetByMisprints_1 : decode cX10_sheetByMisprints 1 = .ok (.istore_n 2, 1) := by decide +kernel
theorem dX10_sheetByMisprints_2 : decode cX10_sheetByMisprints 2 = .ok (.iload_n 2, 1) := by decide +kernel
theorem dX10_sheetByMisprints_3 : decode cX10_sheetByMisprints 3 = .ok (.aload_n 0, 1) := by decide +kernel
theorem dX10_sheetByMisprints_4 : decode cX10_sheetByMisprints 4 = .ok (.getfield 7, 3) := by decide +kernel
theorem dX10_sheetByMisprints_7 : decode cX10_sheetByMisprints 7 = .ok (.iconst 1, 1) := by decide +kernel
theorem dX10_sheetByMisprints_8 : decode cX10_sheetByMisprints 8 = .ok (.iaload, 1) := by decide +kernel
theorem dX10_sheetByMisprints_9 : decode cX10_sheetByMisprints 9 = .ok (.if_icmp .ge 88, 3) := by decide +kernel
theorem dX10_sheetByMisprints_12 : decode cX10_sheetByMisprints 12 = .ok (.iconst 0, 1) := by decide +kernel
theorem dX10_sheetByMisprints_13 : decode cX10_sheetByMisprints 13 = .ok (.istore_n 3, 1) := by decide +kernel
theorem dX10_sheetByMisprints_14 : decode cX10_sheetByMisprints 14 = .ok (.iconst 0, 1) := by decide +kernel
theorem dX10_sheetByMisprints_15 : decode cX10_sheetByMisprints 15 = .ok (.istore 4, 2) := by decide +kernel
theorem dX10_sheetByMisprints_17 : decode cX10_sheetByMisprints 17 = .ok (.iload 4, 2) := by decide +kernel
theorem dX10_sheetByMisprints_19 : decode cX10_sheetByMisprints 19 = .ok (.aload_n 0, 1) := by decide +kernel
theorem dX10_sheetByMisprints_20 : decode cX10_sheetByMisprints 20 = .ok (.getfield 7, 3) := by decide +kernel
theorem dX10_sheetByMisprints_23 : decode cX10_sheetByMisprints 23 = .ok (.iconst 1, 1) := by decide +kernel
theorem dX10_sheetByMisprints_24 : decode cX10_sheetByMisprints 24 = .ok (.iaload, 1) := by decide +kernel
theorem dX10_sheetByMisprints_25 : decode cX10_sheetByMisprints 25 = .ok (.if_icmp .ge 51, 3) := by decide +kernel
theorem dX10_sheetByMisprints_28 : decode cX10_sheetByMisprints 28 = .ok (.iload_n 3, 1) := by decide +kernel
theorem dX10_sheetByMisprints_29 : decode cX10_sheetByMisprints 29 = .ok (.aload_n 0, 1) := by decide +kernel
theorem dX10_sheetByMisprints_30 : decode cX10_sheetByMisprints 30 = .ok (.iload 4, 2) := by decide +kernel
theorem dX10_sheetByMisprints_32 : decode cX10_sheetByMisprints 32 = .ok (.invokevirtual 163, 3) := by decide +kernel
theorem dX10_sheetByMisprints_35 : decode cX10_sheetByMisprints 35 = .ok (.aload_n 0, 1) := by decide +kernel
theorem dX10_sheetByMisprints_36 : decode cX10_sheetByMisprints 36 = .ok (.iload_n 2, 1) := by decide +kernel
theorem dX10_sheetByMisprints_37 : decode cX10_sheetByMisprints 37 = .ok (.invokevirtual 163, 3) := by decide +kernel
theorem dX10_sheetByMisprints_40 : decode cX10_sheetByMisprints 40 = .ok (.if_icmp .lt 23, 3) := by decide +kernel
theorem dX10_sheetByMisprints_43 : decode cX10_sheetByMisprints 43 = .ok (.aload_n 0, 1) := by decide +kernel
theorem dX10_sheetByMisprints_44 : decode cX10_sheetByMisprints 44 = .ok (.iload 4, 2) := by decide +kernel
theorem dX10_sheetByMisprints_46 : decode cX10_sheetByMisprints 46 = .ok (.invokevirtual 163, 3) := by decide +kernel
theorem dX10_sheetByMisprints_49 : decode cX10_sheetByMisprints 49 = .ok (.aload_n 0, 1) := by decide +kernel
theorem dX10_sheetByMisprints_50 : decode cX10_sheetByMisprints 50 = .ok (.iload_n 2, 1) := by decide +kernel
theorem dX10_sheetByMisprints_51 : decode cX10_sheetByMisprints 51 = .ok (.invokevirtual 163, 3) := by decide +kernel
theorem dX10_sheetByMisprints_54 : decode cX10_sheetByMisprints 54 = .ok (.if_icmp .ne 13, 3) := by decide +kernel
theorem dX10_sheetByMisprints_57 : decode cX10_sheetByMisprints 57 = .ok (.iload 4, 2) := by decide +kernel
theorem dX10_sheetByMisprints_59 : decode cX10_sheetByMisprints 59 = .ok (.iload_n 2, 1) := by decide +kernel
theorem dX10_sheetByMisprints_60 : decode cX10_sheetByMisprints 60 = .ok (.if_icmp .ge 7, 3) := by decide +kernel
theorem dX10_sheetByMisprints_63 : decode cX10_sheetByMisprints 63 = .ok (.iconst 1, 1) := by decide +kernel
theorem dX10_sheetByMisprints_64 : decode cX10_sheetByMisprints 64 = .ok (.goto 4, 3) := by decide +kernel
theorem dX10_sheetByMisprints_67 : decode cX10_sheetByMisprints 67 = .ok (.iconst 0, 1) := by decide +kernel
theorem dX10_sheetByMisprints_68 : decode cX10_sheetByMisprints 68 = .ok (.iadd, 1) := by decide +kernel
theorem dX10_sheetByMisprints_69 : decode cX10_sheetByMisprints 69 = .ok (.istore_n 3, 1) := by decide +kernel
theorem dX10_sheetByMisprints_70 : decode cX10_sheetByMisprints 70 = .ok (.iinc 4 1, 3) := by decide +kernel
theorem dX10_sheetByMisprints_73 : decode cX10_sheetByMisprints 73 = .ok (.goto (-56), 3) := by decide +kernel
theorem dX10_sheetByMisprints_76 : decode cX10_sheetByMisprints 76 = .ok (.iload_n 3, 1) := by decide +kernel
theorem dX10_sheetByMisprints_77 : decode cX10_sheetByMisprints 77 = .ok (.iload_n 1, 1) := by decide +kernel
theorem dX10_sheetByMisprints_78 : decode cX10_sheetByMisprints 78 = .ok (.if_icmp .eq 6, 3) := by decide +kernel
theorem dX10_sheetByMisprints_81 : decode cX10_sheetByMisprints 81 = .ok (.goto 10, 3) := by decide +kernel
theorem dX10_sheetByMisprints_84 : decode cX10_sheetByMisprints 84 = .ok (.aload_n 0, 1) := by decide +kernel
theorem dX10_sheetByMisprints_85 : decode cX10_sheetByMisprints 85 = .ok (.iconst 0, 1) := by decide +kernel
theorem dX10_sheetByMisprints_86 : decode cX10_sheetByMisprints 86 = .ok (.putfield 39, 3) := by decide +kernel
theorem dX10_sheetByMisprints_89 : decode cX10_sheetByMisprints 89 = .ok (.iload_n 2, 1) := by decide +kernel
theorem dX10_sheetByMisprints_90 : decode cX10_sheetByMisprints 90 = .ok (.ireturn, 1) := by decide +kernel
theorem dX10_sheetByMisprints_91 : decode cX10_sheetByMisprints 91 = .ok (.iinc 2 1, 3) := by decide +kernel
theorem dX10_sheetByMisprints_94 : decode cX10_sheetByMisprints 94 = .ok (.goto (-92), 3) := by decide +kernel
theorem dX10_sheetByMisprints_97 : decode cX10_sheetByMisprints 97 = .ok (.aload_n 0, 1) := by decide +kernel
theorem dX10_sheetByMisprints_98 : decode cX10_sheetByMisprints 98 = .ok (.iconst 1, 1) := by decide +kernel
theorem dX10_sheetByMisprints_99 : decode cX10_sheetByMisprints 99 = .ok (.putfield 39, 3) := by decide +kernel
theorem dX10_sheetByMisprints_102 : decode cX10_sheetByMisprints 102 = .ok (.iconst 0, 1) := by decide +kernel
theorem dX10_sheetByMisprints_103 : decode cX10_sheetByMisprints 103 = .ok (.ireturn, 1) := by decide +kernel
theorem dX10_putInRack_0 : decode cX10_putInRack 0 = .ok (.aload_n 0, 1) := by decide +kernel
theorem dX10_putInRack_1 : decode cX10_putInRack 1 = .ok (.aload_n 0, 1) := by decide +kernel
theorem dX10_putInRack_2 : decode cX10_putInRack 2 = .ok (.iload_n 1, 1) := by decide +kernel
theorem dX10_putInRack_3 : decode cX10_putInRack 3 = .ok (.invokevirtual 133, 3) := by decide +kernel
theorem dX10_putInRack_6 : decode cX10_putInRack 6 = .ok (.ifCond .ne 7, 3) := by decide +kernel
theorem dX10_putInRack_9 : decode cX10_putInRack 9 = .ok (.iconst 1, 1) := by decide +kernel
theorem dX10_putInRack_10 : decode cX10_putInRack 10 = .ok (.goto 17, 3) := by decide +kernel
theorem dX10_putInRack_13 : decode cX10_putInRack 13 = .ok (.aload_n 0, 1) := by decide +kernel
theorem dX10_putInRack_14 : decode cX10_putInRack 14 = .ok (.iload_n 1, 1) := by decide +kernel
theorem dX10_putInRack_15 : decode cX10_putInRack 15 = .ok (.iconst 2, 1) := by decide +kernel
theorem dX10_putInRack_16 : decode cX10_putInRack 16 = .ok (.invokevirtual 139, 3) := by decide +kernel
theorem dX10_putInRack_19 : decode cX10_putInRack 19 = .ok (.ifCond .ge 7, 3) := by decide +kernel
theorem dX10_putInRack_22 : decode cX10_putInRack 22 = .ok (.iconst 0, 1) := by decide +kernel
theorem dX10_putInRack_23 : decode cX10_putInRack 23 = .ok (.goto 4, 3) := by decide +kernel
theorem dX10_putInRack_26 : decode cX10_putInRack 26 = .ok (.iconst 2, 1) := by decide +kernel
theorem dX10_putInRack_27 : decode cX10_putInRack 27 = .ok (.invokevirtual 80, 3) := by decide +kernel
theorem dX10_putInRack_30 : decode cX10_putInRack 30 = .ok (.ifCond .eq 5, 3) := by decide +kernel
theorem dX10_putInRack_33 : decode cX10_putInRack 33 = .ok (.iconst 0, 1) := by decide +kernel
theorem dX10_putInRack_34 : decode cX10_putInRack 34 = .ok (.ireturn, 1) := by decide +kernel
theorem dX10_putInRack_35 : decode cX10_putInRack 35 = .ok (.iconst 0, 1) := by decide +kernel
theorem dX10_putInRack_36 : decode cX10_putInRack 36 = .ok (.istore_n 2, 1) := by decide +kernel
theorem dX10_putInRack_37 : decode cX10_putInRack 37 = .ok (.iload_n 2, 1) := by decide +kernel
theorem dX10_putInRack_38 : decode cX10_putInRack 38 = .ok (.iconst 3, 1) := by decide +kernel
theorem dX10_putInRack_39 : decode cX10_putInRack 39 = .ok (.if_icmp .ge 21, 3) := by decide +kernel
theorem dX10_putInRack_42 : decode cX10_putInRack 42 = .ok (.aload_n 0, 1) := by decide +kernel
theorem dX10_putInRack_43 : decode cX10_putInRack 43 = .ok (.getfield 7, 3) := by decide +kernel
theorem dX10_putInRack_46 : decode cX10_putInRack 46 = .ok (.bipush 6, 2) := by decide +kernel
theorem dX10_putInRack_48 : decode cX10_putInRack 48 = .ok (.iload_n 2, 1) := by decide +kernel
theorem dX10_putInRack_49 : decode cX10_putInRack 49 = .ok (.iadd, 1) := by decide +kernel
theorem dX10_putInRack_50 : decode cX10_putInRack 50 = .ok (.iaload, 1) := by decide +kernel
theorem dX10_putInRack_51 : decode cX10_putInRack 51 = .ok (.ifCond .lt 9, 3) := by decide +kernel
theorem dX10_putInRack_54 : decode cX10_putInRack 54 = .ok (.iinc 2 1, 3) := by decide +kernel
theorem dX10_putInRack_57 : decode cX10_putInRack 57 = .ok (.goto (-20), 3) := by decide +kernel
theorem dX10_putInRack_60 : decode cX10_putInRack 60 = .ok (.iload_n 2, 1) := by decide +kernel
theorem dX10_putInRack_61 : decode cX10_putInRack 61 = .ok (.iconst 3, 1) := by decide +kernel
theorem dX10_putInRack_62 : decode cX10_putInRack 62 = .ok (.if_icmp .ne 11, 3) := by decide +kernel
theorem dX10_putInRack_65 : decode cX10_putInRack 65 = .ok (.aload_n 0, 1) := by decide +kernel
theorem dX10_putInRack_66 : decode cX10_putInRack 66 = .ok (.iconst 3, 1) := by decide +kernel
theorem dX10_putInRack_67 : decode cX10_putInRack 67 = .ok (.iconst 3, 1) := by decide +kernel
theorem dX10_putInRack_68 : decode cX10_putInRack 68 = .ok (.iconst 3, 1) := by decide +kernel
theorem dX10_putInRack_69 : decode cX10_putInRack 69 = .ok (.invokevirtual 143, 3) := by decide +kernel
theorem dX10_putInRack_72 : decode cX10_putInRack 72 = .ok (.ireturn, 1) := by decide +kernel
theorem dX10_putInRack_73 : decode cX10_putInRack 73 = .ok (.aload_n 0, 1) := by decide +kernel
theorem dX10_putInRack_74 : decode cX10_putInRack 74 = .ok (.aload_n 0, 1) := by decide +kernel
theorem dX10_putInRack_75 : decode cX10_putInRack 75 = .ok (.getfield 7, 3) := by decide +kernel
theorem dX10_putInRack_78 : decode cX10_putInRack 78 = .ok (.invokevirtual 84, 3) := by decide +kernel
theorem dX10_putInRack_81 : decode cX10_putInRack 81 = .ok (.aload_n 0, 1) := by decide +kernel
theorem dX10_putInRack_82 : decode cX10_putInRack 82 = .ok (.getfield 7, 3) := by decide +kernel
theorem dX10_putInRack_85 : decode cX10_putInRack 85 = .ok (.bipush 6, 2) := by decide +kernel
theorem dX10_putInRack_87 : decode cX10_putInRack 87 = .ok (.iload_n 2, 1) := by decide +kernel
theorem dX10_putInRack_88 : decode cX10_putInRack 88 = .ok (.iadd, 1) := by decide +kernel
theorem dX10_putInRack_89 : decode cX10_putInRack 89 = .ok (.iload_n 1, 1) := by decide +kernel
theorem dX10_putInRack_90 : decode cX10_putInRack 90 = .ok (.iastore, 1) := by decide +kernel
theorem dX10_putInRack_91 : decode cX10_putInRack 91 = .ok (.aload_n 0, 1) := by decide +kernel
theorem dX10_putInRack_92 : decode cX10_putInRack 92 = .ok (.iload_n 1, 1) := by decide +kernel
theorem dX10_putInRack_93 : decode cX10_putInRack 93 = .ok (.iconst 2, 1) := by decide +kernel
theorem dX10_putInRack_94 : decode cX10_putInRack 94 = .ok (.iload_n 2, 1) := by decide +kernel
theorem dX10_putInRack_95 : decode cX10_putInRack 95 = .ok (.invokevirtual 136, 3) := by decide +kernel
theorem dX10_putInRack_98 : decode cX10_putInRack 98 = .ok (.iload_n 2, 1) := by decide +kernel
theorem dX10_putInRack_99 : decode cX10_putInRack 99 = .ok (.ireturn, 1) := by decide +kernel
theorem dX10_takeOut_0 : decode cX10_takeOut 0 = .ok (.aload_n 0, 1) := by decide +kernel
theorem dX10_takeOut_1 : decode cX10_takeOut 1 = .ok (.aload_n 0, 1) := by decide +kernel
theorem dX10_takeOut_2 : decode cX10_takeOut 2 = .ok (.iload_n 1, 1) := by decide +kernel
theorem dX10_takeOut_3 : decode cX10_takeOut 3 = .ok (.invokevirtual 133, 3) := by decide +kernel
theorem dX10_takeOut_6 : decode cX10_takeOut 6 = .ok (.ifCond .ne 7, 3) := by decide +kernel
theorem dX10_takeOut_9 : decode cX10_takeOut 9 = .ok (.iconst 1, 1) := by decide +kernel
theorem dX10_takeOut_10 : decode cX10_takeOut 10 = .ok (.goto 17, 3) := by decide +kernel
theorem dX10_takeOut_13 : decode cX10_takeOut 13 = .ok (.aload_n 0, 1) := by decide +kernel
theorem dX10_takeOut_14 : decode cX10_takeOut 14 = .ok (.iload_n 1, 1) := by decide +kernel
theorem dX10_takeOut_15 : decode cX10_takeOut 15 = .ok (.iconst 2, 1) := by decide +kernel
theorem dX10_takeOut_16 : decode cX10_takeOut 16 = .ok (.invokevirtual 139, 3) := by decide +kernel
theorem dX10_takeOut_19 : decode cX10_takeOut 19 = .ok (.ifCond .ge 7, 3) := by decide +kernel
theorem dX10_takeOut_22 : decode cX10_takeOut 22 = .ok (.iconst 2, 1) := by decide +kernel
theorem dX10_takeOut_23 : decode cX10_takeOut 23 = .ok (.goto 4, 3) := by decide +kernel
theorem dX10_takeOut_26 : decode cX10_takeOut 26 = .ok (.iconst 0, 1) := by decide +kernel
theorem dX10_takeOut_27 : decode cX10_takeOut 27 = .ok (.invokevirtual 80, 3) := by decide +kernel
theorem dX10_takeOut_30 : decode cX10_takeOut 30 = .ok (.ifCond .eq 5, 3) := by decide +kernel
theorem dX10_takeOut_33 : decode cX10_takeOut 33 = .ok (.iconst 0, 1) := by decide +kernel
theorem dX10_takeOut_34 : decode cX10_takeOut 34 = .ok (.ireturn, 1) := by decide +kernel
theorem dX10_takeOut_35 : decode cX10_takeOut 35 = .ok (.aload_n 0, 1) := by decide +kernel
theorem dX10_takeOut_36 : decode cX10_takeOut 36 = .ok (.iload_n 1, 1) := by decide +kernel
theorem dX10_takeOut_37 : decode cX10_takeOut 37 = .ok (.iconst 2, 1) := by decide +kernel
theorem dX10_takeOut_38 : decode cX10_takeOut 38 = .ok (.invokevirtual 139, 3) := by decide +kernel
theorem dX10_takeOut_41 : decode cX10_takeOut 41 = .ok (.istore_n 2, 1) := by decide +kernel
theorem dX10_takeOut_42 : decode cX10_takeOut 42 = .ok (.aload_n 0, 1) := by decide +kernel
theorem dX10_takeOut_43 : decode cX10_takeOut 43 = .ok (.aload_n 0, 1) := by decide +kernel
theorem dX10_takeOut_44 : decode cX10_takeOut 44 = .ok (.getfield 7, 3) := by decide +kernel
theorem dX10_takeOut_47 : decode cX10_takeOut 47 = .ok (.invokevirtual 84, 3) := by decide +kernel
theorem dX10_takeOut_50 : decode cX10_takeOut 50 = .ok (.aload_n 0, 1) := by decide +kernel
theorem dX10_takeOut_51 : decode cX10_takeOut 51 = .ok (.getfield 7, 3) := by decide +kernel
theorem dX10_takeOut_54 : decode cX10_takeOut 54 = .ok (.bipush 6, 2) := by decide +kernel
theorem dX10_takeOut_56 : decode cX10_takeOut 56 = .ok (.iload_n 2, 1) := by decide +kernel
theorem dX10_takeOut_57 : decode cX10_takeOut 57 = .ok (.iadd, 1) := by decide +kernel
theorem dX10_takeOut_58 : decode cX10_takeOut 58 = .ok (.iconst (-1), 1) := by decide +kernel
theorem dX10_takeOut_59 : decode cX10_takeOut 59 = .ok (.iastore, 1) := by decide +kernel
theorem dX10_takeOut_60 : decode cX10_takeOut 60 = .ok (.aload_n 0, 1) := by decide +kernel
theorem dX10_takeOut_61 : decode cX10_takeOut 61 = .ok (.iload_n 1, 1) := by decide +kernel
theorem dX10_takeOut_62 : decode cX10_takeOut 62 = .ok (.iconst 2, 1) := by decide +kernel
theorem dX10_takeOut_63 : decode cX10_takeOut 63 = .ok (.iconst (-1), 1) := by decide +kernel
theorem dX10_takeOut_64 : decode cX10_takeOut 64 = .ok (.invokevirtual 136, 3) := by decide +kernel
theorem dX10_takeOut_67 : decode cX10_takeOut 67 = .ok (.iload_n 2, 1) := by decide +kernel
theorem dX10_takeOut_68 : decode cX10_takeOut 68 = .ok (.ireturn, 1) := by decide +kernel
theorem dX10_rackPlace_0 : decode cX10_rackPlace 0 = .ok (.aload_n 0, 1) := by decide +kernel
theorem dX10_rackPlace_1 : decode cX10_rackPlace 1 = .ok (.aload_n 0, 1) := by decide +kernel
theorem dX10_rackPlace_2 : decode cX10_rackPlace 2 = .ok (.iload_n 1, 1) := by decide +kernel
theorem dX10_rackPlace_3 : decode cX10_rackPlace 3 = .ok (.invokevirtual 133, 3) := by decide +kernel
theorem dX10_rackPlace_6 : decode cX10_rackPlace 6 = .ok (.ifCond .ne 7, 3) := by decide +kernel
theorem dX10_rackPlace_9 : decode cX10_rackPlace 9 = .ok (.iconst 1, 1) := by decide +kernel
theorem dX10_rackPlace_10 : decode cX10_rackPlace 10 = .ok (.goto 17, 3) := by decide +kernel
theorem dX10_rackPlace_13 : decode cX10_rackPlace 13 = .ok (.aload_n 0, 1) := by decide +kernel
theorem dX10_rackPlace_14 : decode cX10_rackPlace 14 = .ok (.iload_n 1, 1) := by decide +kernel
theorem dX10_rackPlace_15 : decode cX10_rackPlace 15 = .ok (.iconst 2, 1) := by decide +kernel
theorem dX10_rackPlace_16 : decode cX10_rackPlace 16 = .ok (.invokevirtual 139, 3) := by decide +kernel
theorem dX10_rackPlace_19 : decode cX10_rackPlace 19 = .ok (.ifCond .ge 7, 3) := by decide +kernel
theorem dX10_rackPlace_22 : decode cX10_rackPlace 22 = .ok (.iconst 2, 1) := by decide +kernel
theorem dX10_rackPlace_23 : decode cX10_rackPlace 23 = .ok (.goto 4, 3) := by decide +kernel
theorem dX10_rackPlace_26 : decode cX10_rackPlace 26 = .ok (.iconst 0, 1) := by decide +kernel
theorem dX10_rackPlace_27 : decode cX10_rackPlace 27 = .ok (.invokevirtual 80, 3) := by decide +kernel
theorem dX10_rackPlace_30 : decode cX10_rackPlace 30 = .ok (.ifCond .eq 7, 3) := by decide +kernel
theorem dX10_rackPlace_33 : decode cX10_rackPlace 33 = .ok (.iconst 0, 1) := by decide +kernel
theorem dX10_rackPlace_34 : decode cX10_rackPlace 34 = .ok (.goto 9, 3) := by decide +kernel
theorem dX10_rackPlace_37 : decode cX10_rackPlace 37 = .ok (.aload_n 0, 1) := by decide +kernel
theorem dX10_rackPlace_38 : decode cX10_rackPlace 38 = .ok (.iload_n 1, 1) := by decide +kernel
theorem dX10_rackPlace_39 : decode cX10_rackPlace 39 = .ok (.iconst 2, 1) := by decide +kernel
theorem dX10_rackPlace_40 : decode cX10_rackPlace 40 = .ok (.invokevirtual 139, 3) := by decide +kernel
theorem dX10_rackPlace_43 : decode cX10_rackPlace 43 = .ok (.ireturn, 1) := by decide +kernel
theorem dX10_sheetInRack_0 : decode cX10_sheetInRack 0 = .ok (.aload_n 0, 1) := by decide +kernel
theorem dX10_sheetInRack_1 : decode cX10_sheetInRack 1 = .ok (.iload_n 1, 1) := by decide +kernel
theorem dX10_sheetInRack_2 : decode cX10_sheetInRack 2 = .ok (.iconst 0, 1) := by decide +kernel
theorem dX10_sheetInRack_3 : decode cX10_sheetInRack 3 = .ok (.iconst 2, 1) := by decide +kernel
theorem dX10_sheetInRack_4 : decode cX10_sheetInRack 4 = .ok (.invokestatic 59, 3) := by decide +kernel
theorem dX10_sheetInRack_7 : decode cX10_sheetInRack 7 = .ok (.ifCond .ne 7, 3) := by decide +kernel
theorem dX10_sheetInRack_10 : decode cX10_sheetInRack 10 = .ok (.iconst 1, 1) := by decide +kernel
theorem dX10_sheetInRack_11 : decode cX10_sheetInRack 11 = .ok (.goto 20, 3) := by decide +kernel
theorem dX10_sheetInRack_14 : decode cX10_sheetInRack 14 = .ok (.aload_n 0, 1) := by decide +kernel
theorem dX10_sheetInRack_15 : decode cX10_sheetInRack 15 = .ok (.getfield 7, 3) := by decide +kernel
theorem dX10_sheetInRack_18 : decode cX10_sheetInRack 18 = .ok (.bipush 6, 2) := by decide +kernel
theorem dX10_sheetInRack_20 : decode cX10_sheetInRack 20 = .ok (.iload_n 1, 1) := by decide +kernel
theorem dX10_sheetInRack_21 : decode cX10_sheetInRack 21 = .ok (.iadd, 1) := by decide +kernel
theorem dX10_sheetInRack_22 : decode cX10_sheetInRack 22 = .ok (.iaload, 1) := by decide +kernel
theorem dX10_sheetInRack_23 : decode cX10_sheetInRack 23 = .ok (.ifCond .ge 7, 3) := by decide +kernel
theorem dX10_sheetInRack_26 : decode cX10_sheetInRack 26 = .ok (.iconst 2, 1) := by decide +kernel
theorem dX10_sheetInRack_27 : decode cX10_sheetInRack 27 = .ok (.goto 4, 3) := by decide +kernel
theorem dX10_sheetInRack_30 : decode cX10_sheetInRack 30 = .ok (.iconst 0, 1) := by decide +kernel
theorem dX10_sheetInRack_31 : decode cX10_sheetInRack 31 = .ok (.invokevirtual 80, 3) := by decide +kernel
theorem dX10_sheetInRack_34 : decode cX10_sheetInRack 34 = .ok (.ifCond .eq 7, 3) := by decide +kernel
theorem dX10_sheetInRack_37 : decode cX10_sheetInRack 37 = .ok (.iconst 0, 1) := by decide +kernel
theorem dX10_sheetInRack_38 : decode cX10_sheetInRack 38 = .ok (.goto 12, 3) := by decide +kernel
theorem dX10_sheetInRack_41 : decode cX10_sheetInRack 41 = .ok (.aload_n 0, 1) := by decide +kernel
theorem dX10_sheetInRack_42 : decode cX10_sheetInRack 42 = .ok (.getfield 7, 3) := by decide +kernel
theorem dX10_sheetInRack_45 : decode cX10_sheetInRack 45 = .ok (.bipush 6, 2) := by decide +kernel
theorem dX10_sheetInRack_47 : decode cX10_sheetInRack 47 = .ok (.iload_n 1, 1) := by decide +kernel
theorem dX10_sheetInRack_48 : decode cX10_sheetInRack 48 = .ok (.iadd, 1) := by decide +kernel
theorem dX10_sheetInRack_49 : decode cX10_sheetInRack 49 = .ok (.iaload, 1) := by decide +kernel
theorem dX10_sheetInRack_50 : decode cX10_sheetInRack 50 = .ok (.ireturn, 1) := by decide +kernel
theorem dX10_addInk_0 : decode cX10_addInk 0 = .ok (.aload_n 0, 1) := by decide +kernel
theorem dX10_addInk_1 : decode cX10_addInk 1 = .ok (.iload_n 1, 1) := by decide +kernel
theorem dX10_addInk_2 : decode cX10_addInk 2 = .ok (.invokestatic 77, 3) := by decide +kernel
theorem dX10_addInk_5 : decode cX10_addInk 5 = .ok (.ifCond .lt 13, 3) := by decide +kernel
theorem dX10_addInk_8 : decode cX10_addInk 8 = .ok (.iload_n 2, 1) := by decide +kernel
theorem dX10_addInk_9 : decode cX10_addInk 9 = .ok (.iconst 1, 1) := by decide +kernel
theorem dX10_addInk_10 : decode cX10_addInk 10 = .ok (.bipush 99, 2) := by decide +kernel
theorem dX10_addInk_12 : decode cX10_addInk 12 = .ok (.invokestatic 59, 3) := by decide +kernel
theorem dX10_addInk_15 : decode cX10_addInk 15 = .ok (.ifCond .ne 7, 3) := by decide +kernel
theorem dX10_addInk_18 : decode cX10_addInk 18 = .ok (.iconst 1, 1) := by decide +kernel
theorem dX10_addInk_19 : decode cX10_addInk 19 = .ok (.goto 27, 3) := by decide +kernel
theorem dX10_addInk_22 : decode cX10_addInk 22 = .ok (.aload_n 0, 1) := by decide +kernel
theorem dX10_addInk_23 : decode cX10_addInk 23 = .ok (.getfield 7, 3) := by decide +kernel
theorem dX10_addInk_26 : decode cX10_addInk 26 = .ok (.iconst 3, 1) := by decide +kernel
theorem dX10_addInk_27 : decode cX10_addInk 27 = .ok (.iload_n 1, 1) := by decide +kernel
theorem dX10_addInk_28 : decode cX10_addInk 28 = .ok (.invokestatic 77, 3) := by decide +kernel
theorem dX10_addInk_31 : decode cX10_addInk 31 = .ok (.iadd, 1) := by decide +kernel
theorem dX10_addInk_32 : decode cX10_addInk 32 = .ok (.iaload, 1) := by decide +kernel
theorem dX10_addInk_33 : decode cX10_addInk 33 = .ok (.iload_n 2, 1) := by decide +kernel
theorem dX10_addInk_34 : decode cX10_addInk 34 = .ok (.iadd, 1) := by decide +kernel
theorem dX10_addInk_35 : decode cX10_addInk 35 = .ok (.sipush 500, 3) := by decide +kernel
theorem dX10_addInk_38 : decode cX10_addInk 38 = .ok (.if_icmp .le 7, 3) := by decide +kernel
theorem dX10_addInk_41 : decode cX10_addInk 41 = .ok (.iconst 2, 1) := by decide +kernel
theorem dX10_addInk_42 : decode cX10_addInk 42 = .ok (.goto 4, 3) := by decide +kernel
theorem dX10_addInk_45 : decode cX10_addInk 45 = .ok (.iconst 0, 1) := by decide +kernel
theorem dX10_addInk_46 : decode cX10_addInk 46 = .ok (.invokevirtual 80, 3) := by decide +kernel
theorem dX10_addInk_49 : decode cX10_addInk 49 = .ok (.ifCond .eq 5, 3) := by decide +kernel
theorem dX10_addInk_52 : decode cX10_addInk 52 = .ok (.iconst 0, 1) := by decide +kernel
theorem dX10_addInk_53 : decode cX10_addInk 53 = .ok (.ireturn, 1) := by decide +kernel
theorem dX10_addInk_54 : decode cX10_addInk 54 = .ok (.aload_n 0, 1) := by decide +kernel
theorem dX10_addInk_55 : decode cX10_addInk 55 = .ok (.aload_n 0, 1) := by decide +kernel
theorem dX10_addInk_56 : decode cX10_addInk 56 = .ok (.getfield 7, 3) := by decide +kernel
theorem dX10_addInk_59 : decode cX10_addInk 59 = .ok (.invokevirtual 84, 3) := by decide +kernel
theorem dX10_addInk_62 : decode cX10_addInk 62 = .ok (.aload_n 0, 1) := by decide +kernel
theorem dX10_addInk_63 : decode cX10_addInk 63 = .ok (.getfield 7, 3) := by decide +kernel
theorem dX10_addInk_66 : decode cX10_addInk 66 = .ok (.iconst 3, 1) := by decide +kernel
theorem dX10_addInk_67 : decode cX10_addInk 67 = .ok (.iload_n 1, 1) := by decide +kernel
theorem dX10_addInk_68 : decode cX10_addInk 68 = .ok (.invokestatic 77, 3) := by decide +kernel
theorem dX10_addInk_71 : decode cX10_addInk 71 = .ok (.iadd, 1) := by decide +kernel
theorem dX10_addInk_72 : decode cX10_addInk 72 = .ok (.dup2, 1) := by decide +kernel
theorem dX10_addInk_73 : decode cX10_addInk 73 = .ok (.iaload, 1) := by decide +kernel
theorem dX10_addInk_74 : decode cX10_addInk 74 = .ok (.iload_n 2, 1) := by decide +kernel
theorem dX10_addInk_75 : decode cX10_addInk 75 = .ok (.iadd, 1) := by decide +kernel
theorem dX10_addInk_76 : decode cX10_addInk 76 = .ok (.iastore, 1) := by decide +kernel
theorem dX10_addInk_77 : decode cX10_addInk 77 = .ok (.aload_n 0, 1) := by decide +kernel
theorem dX10_addInk_78 : decode cX10_addInk 78 = .ok (.getfield 7, 3) := by decide +kernel
theorem dX10_addInk_81 : decode cX10_addInk 81 = .ok (.iconst 3, 1) := by decide +kernel
theorem dX10_addInk_82 : decode cX10_addInk 82 = .ok (.iload_n 1, 1) := by decide +kernel
theorem dX10_addInk_83 : decode cX10_addInk 83 = .ok (.invokestatic 77, 3) := by decide +kernel
theorem dX10_addInk_86 : decode cX10_addInk 86 = .ok (.iadd, 1) := by decide +kernel
theorem dX10_addInk_87 : decode cX10_addInk 87 = .ok (.iaload, 1) := by decide +kernel
theorem dX10_addInk_88 : decode cX10_addInk 88 = .ok (.ireturn, 1) := by decide +kernel
theorem dX10_drops_0 : decode cX10_drops 0 = .ok (.aload_n 0, 1) := by decide +kernel
theorem dX10_drops_1 : decode cX10_drops 1 = .ok (.iload_n 1, 1) := by decide +kernel
theorem dX10_drops_2 : decode cX10_drops 2 = .ok (.invokestatic 77, 3) := by decide +kernel
theorem dX10_drops_5 : decode cX10_drops 5 = .ok (.ifCond .ge 7, 3) := by decide +kernel
theorem dX10_drops_8 : decode cX10_drops 8 = .ok (.iconst 1, 1) := by decide +kernel
theorem dX10_drops_9 : decode cX10_drops 9 = .ok (.goto 4, 3) := by decide +kernel
theorem dX10_drops_12 : decode cX10_drops 12 = .ok (.iconst 0, 1) := by decide +kernel
theorem dX10_drops_13 : decode cX10_drops 13 = .ok (.invokevirtual 80, 3) := by decide +kernel
theorem dX10_drops_16 : decode cX10_drops 16 = .ok (.ifCond .eq 7, 3) := by decide +kernel
theorem dX10_drops_19 : decode cX10_drops 19 = .ok (.iconst 0, 1) := by decide +kernel
theorem dX10_drops_20 : decode cX10_drops 20 = .ok (.goto 14, 3) := by decide +kernel
theorem dX10_drops_23 : decode cX10_drops 23 = .ok (.aload_n 0, 1) := by decide +kernel
theorem dX10_drops_24 : decode cX10_drops 24 = .ok (.getfield 7, 3) := by decide +kernel
theorem dX10_drops_27 : decode cX10_drops 27 = .ok (.iconst 3, 1) := by decide +kernel
theorem dX10_drops_28 : decode cX10_drops 28 = .ok (.iload_n 1, 1) := by decide +kernel
theorem dX10_drops_29 : decode cX10_drops 29 = .ok (.invokestatic 77, 3) := by decide +kernel
theorem dX10_drops_32 : decode cX10_drops 32 = .ok (.iadd, 1) := by decide +kernel
theorem dX10_drops_33 : decode cX10_drops 33 = .ok (.iaload, 1) := by decide +kernel
theorem dX10_drops_34 : decode cX10_drops 34 = .ok (.ireturn, 1) := by decide +kernel
theorem dX10_dries_0 : decode cX10_dries 0 = .ok (.aload_n 0, 1) := by decide +kernel
theorem dX10_dries_1 : decode cX10_dries 1 = .ok (.iload_n 1, 1) := by decide +kernel
theorem dX10_dries_2 : decode cX10_dries 2 = .ok (.iconst 2, 1) := by decide +kernel
theorem dX10_dries_3 : decode cX10_dries 3 = .ok (.invokevirtual 139, 3) := by decide +kernel
theorem dX10_dries_6 : decode cX10_dries 6 = .ok (.ifCond .lt 7, 3) := by decide +kernel
theorem dX10_dries_9 : decode cX10_dries 9 = .ok (.iconst 2, 1) := by decide +kernel
theorem dX10_dries_10 : decode cX10_dries 10 = .ok (.goto 14, 3) := by decide +kernel
theorem dX10_dries_13 : decode cX10_dries 13 = .ok (.iload_n 2, 1) := by decide +kernel
theorem dX10_dries_14 : decode cX10_dries 14 = .ok (.iconst 2, 1) := by decide +kernel
theorem dX10_dries_15 : decode cX10_dries 15 = .ok (.irem, 1) := by decide +kernel
theorem dX10_dries_16 : decode cX10_dries 16 = .ok (.ifCond .ne 7, 3) := by decide +kernel
theorem dX10_dries_19 : decode cX10_dries 19 = .ok (.iconst 1, 1) := by decide +kernel
theorem dX10_dries_20 : decode cX10_dries 20 = .ok (.goto 4, 3) := by decide +kernel
theorem dX10_dries_23 : decode cX10_dries 23 = .ok (.iconst 0, 1) := by decide +kernel
theorem dX10_dries_24 : decode cX10_dries 24 = .ok (.ireturn, 1) := by decide +kernel
theorem dX10_goes_0 : decode cX10_goes 0 = .ok (.iconst 0, 1) := by decide +kernel
theorem dX10_goes_1 : decode cX10_goes 1 = .ok (.istore_n 1, 1) := by decide +kernel
theorem dX10_goes_2 : decode cX10_goes 2 = .ok (.iconst 0, 1) := by decide +kernel
theorem dX10_goes_3 : decode cX10_goes 3 = .ok (.istore_n 2, 1) := by decide +kernel
theorem dX10_goes_4 : decode cX10_goes 4 = .ok (.iload_n 2, 1) := by decide +kernel
theorem dX10_goes_5 : decode cX10_goes 5 = .ok (.aload_n 0, 1) := by decide +kernel
theorem dX10_goes_6 : decode cX10_goes 6 = .ok (.getfield 7, 3) := by decide +kernel
theorem dX10_goes_9 : decode cX10_goes 9 = .ok (.iconst 1, 1) := by decide +kernel
theorem dX10_goes_10 : decode cX10_goes 10 = .ok (.iaload, 1) := by decide +kernel
theorem dX10_goes_11 : decode cX10_goes 11 = .ok (.if_icmp .ge 65, 3) := by decide +kernel
theorem dX10_goes_14 : decode cX10_goes 14 = .ok (.aload_n 0, 1) := by decide +kernel
theorem dX10_goes_15 : decode cX10_goes 15 = .ok (.iload_n 2, 1) := by decide +kernel
theorem dX10_goes_16 : decode cX10_goes 16 = .ok (.iconst 0, 1) := by decide +kernel
theorem dX10_goes_17 : decode cX10_goes 17 = .ok (.invokevirtual 139, 3) := by decide +kernel
theorem dX10_goes_20 : decode cX10_goes 20 = .ok (.istore_n 3, 1) := by decide +kernel
theorem dX10_goes_21 : decode cX10_goes 21 = .ok (.iload_n 3, 1) := by decide +kernel
theorem dX10_goes_22 : decode cX10_goes 22 = .ok (.aload_n 0, 1) := by decide +kernel
theorem dX10_goes_23 : decode cX10_goes 23 = .ok (.iload_n 2, 1) := by decide +kernel
theorem dX10_goes_24 : decode cX10_goes 24 = .ok (.aload_n 0, 1) := by decide +kernel
theorem dX10_goes_25 : decode cX10_goes 25 = .ok (.getfield 7, 3) := by decide +kernel
theorem dX10_goes_28 : decode cX10_goes 28 = .ok (.iconst 2, 1) := by decide +kernel
theorem dX10_goes_29 : decode cX10_goes 29 = .ok (.iaload, 1) := by decide +kernel
theorem dX10_goes_30 : decode cX10_goes 30 = .ok (.invokevirtual 166, 3) := by decide +kernel
theorem dX10_goes_33 : decode cX10_goes 33 = .ok (.isub, 1) := by decide +kernel
theorem dX10_goes_34 : decode cX10_goes 34 = .ok (.istore 4, 2) := by decide +kernel
theorem dX10_goes_36 : decode cX10_goes 36 = .ok (.aload_n 0, 1) := by decide +kernel
theorem dX10_goes_37 : decode cX10_goes 37 = .ok (.iload_n 2, 1) := by decide +kernel
theorem dX10_goes_38 : decode cX10_goes 38 = .ok (.iconst 0, 1) := by decide +kernel
theorem dX10_goes_39 : decode cX10_goes 39 = .ok (.iload 4, 2) := by decide +kernel
theorem dX10_goes_41 : decode cX10_goes 41 = .ok (.ifCond .le 8, 3) := by decide +kernel
theorem dX10_goes_44 : decode cX10_goes 44 = .ok (.iload 4, 2) := by decide +kernel
theorem dX10_goes_46 : decode cX10_goes 46 = .ok (.goto 4, 3) := by decide +kernel
theorem dX10_goes_49 : decode cX10_goes 49 = .ok (.iconst 0, 1) := by decide +kernel
theorem dX10_goes_50 : decode cX10_goes 50 = .ok (.invokevirtual 136, 3) := by decide +kernel
theorem dX10_goes_53 : decode cX10_goes 53 = .ok (.iload_n 1, 1) := by decide +kernel
theorem dX10_goes_54 : decode cX10_goes 54 = .ok (.iload_n 3, 1) := by decide +kernel
theorem dX10_goes_55 : decode cX10_goes 55 = .ok (.ifCond .le 12, 3) := by decide +kernel
theorem dX10_goes_58 : decode cX10_goes 58 = .ok (.iload 4, 2) := by decide +kernel
theorem dX10_goes_60 : decode cX10_goes 60 = .ok (.ifCond .gt 7, 3) := by decide +kernel
theorem dX10_goes_63 : decode cX10_goes 63 = .ok (.iconst 1, 1) := by decide +kernel
theorem dX10_goes_64 : decode cX10_goes 64 = .ok (.goto 4, 3) := by decide +kernel
theorem dX10_goes_67 : decode cX10_goes 67 = .ok (.iconst 0, 1) := by decide +kernel
theorem dX10_goes_68 : decode cX10_goes 68 = .ok (.iadd, 1) := by decide +kernel
theorem dX10_goes_69 : decode cX10_goes 69 = .ok (.istore_n 1, 1) := by decide +kernel
theorem dX10_goes_70 : decode cX10_goes 70 = .ok (.iinc 2 1, 3) := by decide +kernel
theorem dX10_goes_73 : decode cX10_goes 73 = .ok (.goto (-69), 3) := by decide +kernel
theorem dX10_goes_76 : decode cX10_goes 76 = .ok (.aload_n 0, 1) := by decide +kernel
theorem dX10_goes_77 : decode cX10_goes 77 = .ok (.getfield 7, 3) := by decide +kernel
theorem dX10_goes_80 : decode cX10_goes 80 = .ok (.iconst 2, 1) := by decide +kernel
theorem dX10_goes_81 : decode cX10_goes 81 = .ok (.dup2, 1) := by decide +kernel
theorem dX10_goes_82 : decode cX10_goes 82 = .ok (.iaload, 1) := by decide +kernel
theorem dX10_goes_83 : decode cX10_goes 83 = .ok (.iconst 1, 1) := by decide +kernel
theorem dX10_goes_84 : decode cX10_goes 84 = .ok (.iadd, 1) := by decide +kernel
theorem dX10_goes_85 : decode cX10_goes 85 = .ok (.iastore, 1) := by decide +kernel
theorem dX10_goes_86 : decode cX10_goes 86 = .ok (.iload_n 1, 1) := by decide +kernel
theorem dX10_goes_87 : decode cX10_goes 87 = .ok (.ireturn, 1) := by decide +kernel
theorem dX10_passHours_0 : decode cX10_passHours 0 = .ok (.aload_n 0, 1) := by decide +kernel
theorem dX10_passHours_1 : decode cX10_passHours 1 = .ok (.iload_n 1, 1) := by decide +kernel
theorem dX10_passHours_2 : decode cX10_passHours 2 = .ok (.iconst 1, 1) := by decide +kernel
theorem dX10_passHours_3 : decode cX10_passHours 3 = .ok (.bipush 50, 2) := by decide +kernel
theorem dX10_passHours_5 : decode cX10_passHours 5 = .ok (.invokestatic 59, 3) := by decide +kernel
theorem dX10_passHours_8 : decode cX10_passHours 8 = .ok (.ifCond .eq 7, 3) := by decide +kernel
theorem dX10_passHours_11 : decode cX10_passHours 11 = .ok (.iconst 0, 1) := by decide +kernel
theorem dX10_passHours_12 : decode cX10_passHours 12 = .ok (.goto 4, 3) := by decide +kernel
theorem dX10_passHours_15 : decode cX10_passHours 15 = .ok (.iconst 1, 1) := by decide +kernel
theorem dX10_passHours_16 : decode cX10_passHours 16 = .ok (.invokevirtual 80, 3) := by decide +kernel
theorem dX10_passHours_19 : decode cX10_passHours 19 = .ok (.ifCond .eq 5, 3) := by decide +kernel
theorem dX10_passHours_22 : decode cX10_passHours 22 = .ok (.iconst 0, 1) := by decide +kernel
theorem dX10_passHours_23 : decode cX10_passHours 23 = .ok (.ireturn, 1) := by decide +kernel
theorem dX10_passHours_24 : decode cX10_passHours 24 = .ok (.aload_n 0, 1) := by decide +kernel
theorem dX10_passHours_25 : decode cX10_passHours 25 = .ok (.aload_n 0, 1) := by decide +kernel
theorem dX10_passHours_26 : decode cX10_passHours 26 = .ok (.getfield 7, 3) := by decide +kernel
theorem dX10_passHours_29 : decode cX10_passHours 29 = .ok (.invokevirtual 84, 3) := by decide +kernel
theorem dX10_passHours_32 : decode cX10_passHours 32 = .ok (.iconst 0, 1) := by decide +kernel
theorem dX10_passHours_33 : decode cX10_passHours 33 = .ok (.istore_n 2, 1) := by decide +kernel
theorem dX10_passHours_34 : decode cX10_passHours 34 = .ok (.iconst 0, 1) := by decide +kernel
theorem dX10_passHours_35 : decode cX10_passHours 35 = .ok (.istore_n 3, 1) := by decide +kernel
theorem dX10_passHours_36 : decode cX10_passHours 36 = .ok (.iload_n 3, 1) := by decide +kernel
theorem dX10_passHours_37 : decode cX10_passHours 37 = .ok (.iload_n 1, 1) := by decide +kernel
theorem dX10_passHours_38 : decode cX10_passHours 38 = .ok (.if_icmp .ge 16, 3) := by decide +kernel
theorem dX10_passHours_41 : decode cX10_passHours 41 = .ok (.iload_n 2, 1) := by decide +kernel
theorem dX10_passHours_42 : decode cX10_passHours 42 = .ok (.aload_n 0, 1) := by decide +kernel
theorem dX10_passHours_43 : decode cX10_passHours 43 = .ok (.invokevirtual 169, 3) := by decide +kernel
theorem dX10_passHours_46 : decode cX10_passHours 46 = .ok (.iadd, 1) := by decide +kernel
theorem dX10_passHours_47 : decode cX10_passHours 47 = .ok (.istore_n 2, 1) := by decide +kernel
theorem dX10_passHours_48 : decode cX10_passHours 48 = .ok (.iinc 3 1, 3) := by decide +kernel
theorem dX10_passHours_51 : decode cX10_passHours 51 = .ok (.goto (-15), 3) := by decide +kernel
theorem dX10_passHours_54 : decode cX10_passHours 54 = .ok (.iload_n 2, 1) := by decide +kernel
theorem dX10_passHours_55 : decode cX10_passHours 55 = .ok (.ireturn, 1) := by decide +kernel
theorem dX10_hour_0 : decode cX10_hour 0 = .ok (.aload_n 0, 1) := by decide +kernel
theorem dX10_hour_1 : decode cX10_hour 1 = .ok (.iconst 0, 1) := by decide +kernel
theorem dX10_hour_2 : decode cX10_hour 2 = .ok (.putfield 39, 3) := by decide +kernel
theorem dX10_hour_5 : decode cX10_hour 5 = .ok (.aload_n 0, 1) := by decide +kernel
theorem dX10_hour_6 : decode cX10_hour 6 = .ok (.getfield 7, 3) := by decide +kernel
theorem dX10_hour_9 : decode cX10_hour 9 = .ok (.iconst 2, 1) := by decide +kernel
theorem dX10_hour_10 : decode cX10_hour 10 = .ok (.iaload, 1) := by decide +kernel
theorem dX10_hour_11 : decode cX10_hour 11 = .ok (.ireturn, 1) := by decide +kernel
theorem dX10_hoursTo_0 : decode cX10_hoursTo 0 = .ok (.iconst 0, 1) := by decide +kernel
theorem dX10_hoursTo_1 : decode cX10_hoursTo 1 = .ok (.istore_n 2, 1) := by decide +kernel
theorem dX10_hoursTo_2 : decode cX10_hoursTo 2 = .ok (.aload_n 0, 1) := by decide +kernel
theorem dX10_hoursTo_3 : decode cX10_hoursTo 3 = .ok (.iload_n 1, 1) := by decide +kernel
theorem dX10_hoursTo_4 : decode cX10_hoursTo 4 = .ok (.iconst 0, 1) := by decide +kernel
theorem dX10_hoursTo_5 : decode cX10_hoursTo 5 = .ok (.invokevirtual 139, 3) := by decide +kernel
theorem dX10_hoursTo_8 : decode cX10_hoursTo 8 = .ok (.istore_n 3, 1) := by decide +kernel
theorem dX10_hoursTo_9 : decode cX10_hoursTo 9 = .ok (.iload_n 3, 1) := by decide +kernel
theorem dX10_hoursTo_10 : decode cX10_hoursTo 10 = .ok (.ifCond .le 25, 3) := by decide +kernel
theorem dX10_hoursTo_13 : decode cX10_hoursTo 13 = .ok (.iload_n 3, 1) := by decide +kernel
theorem dX10_hoursTo_14 : decode cX10_hoursTo 14 = .ok (.aload_n 0, 1) := by decide +kernel
theorem dX10_hoursTo_15 : decode cX10_hoursTo 15 = .ok (.iload_n 1, 1) := by decide +kernel
theorem dX10_hoursTo_16 : decode cX10_hoursTo 16 = .ok (.aload_n 0, 1) := by decide +kernel
theorem dX10_hoursTo_17 : decode cX10_hoursTo 17 = .ok (.getfield 7, 3) := by decide +kernel
theorem dX10_hoursTo_20 : decode cX10_hoursTo 20 = .ok (.iconst 2, 1) := by decide +kernel
theorem dX10_hoursTo_21 : decode cX10_hoursTo 21 = .ok (.iaload, 1) := by decide +kernel
theorem dX10_hoursTo_22 : decode cX10_hoursTo 22 = .ok (.iload_n 2, 1) := by decide +kernel
theorem dX10_hoursTo_23 : decode cX10_hoursTo 23 = .ok (.iadd, 1) := by decide +kernel
theorem dX10_hoursTo_24 : decode cX10_hoursTo 24 = .ok (.invokevirtual 166, 3) := by decide +kernel
theorem dX10_hoursTo_27 : decode cX10_hoursTo 27 = .ok (.isub, 1) := by decide +kernel
theorem dX10_hoursTo_28 : decode cX10_hoursTo 28 = .ok (.istore_n 3, 1) := by decide +kernel
theorem dX10_hoursTo_29 : decode cX10_hoursTo 29 = .ok (.iinc 2 1, 3) := by decide +kernel
theorem dX10_hoursTo_32 : decode cX10_hoursTo 32 = .ok (.goto (-23), 3) := by decide +kernel
theorem dX10_hoursTo_35 : decode cX10_hoursTo 35 = .ok (.iload_n 2, 1) := by decide +kernel
theorem dX10_hoursTo_36 : decode cX10_hoursTo 36 = .ok (.ireturn, 1) := by decide +kernel
theorem dX10_hoursUntilDry_0 : decode cX10_hoursUntilDry 0 = .ok (.aload_n 0, 1) := by decide +kernel
theorem dX10_hoursUntilDry_1 : decode cX10_hoursUntilDry 1 = .ok (.iload_n 1, 1) := by decide +kernel
theorem dX10_hoursUntilDry_2 : decode cX10_hoursUntilDry 2 = .ok (.invokevirtual 154, 3) := by decide +kernel
theorem dX10_hoursUntilDry_5 : decode cX10_hoursUntilDry 5 = .ok (.ifCond .eq 7, 3) := by decide +kernel
theorem dX10_hoursUntilDry_8 : decode cX10_hoursUntilDry 8 = .ok (.iconst 0, 1) := by decide +kernel
theorem dX10_hoursUntilDry_9 : decode cX10_hoursUntilDry 9 = .ok (.goto 8, 3) := by decide +kernel
theorem dX10_hoursUntilDry_12 : decode cX10_hoursUntilDry 12 = .ok (.aload_n 0, 1) := by decide +kernel
theorem dX10_hoursUntilDry_13 : decode cX10_hoursUntilDry 13 = .ok (.iload_n 1, 1) := by decide +kernel
theorem dX10_hoursUntilDry_14 : decode cX10_hoursUntilDry 14 = .ok (.invokevirtual 173, 3) := by decide +kernel
theorem dX10_hoursUntilDry_17 : decode cX10_hoursUntilDry 17 = .ok (.ireturn, 1) := by decide +kernel
theorem dX10_hoursUntilDryAtOnce_0 : decode cX10_hoursUntilDryAtOnce 0 = .ok (.aload_n 0, 1) := by decide +kernel
theorem dX10_hoursUntilDryAtOnce_1 : decode cX10_hoursUntilDryAtOnce 1 = .ok (.iload_n 1, 1) := by decide +kernel
theorem dX10_hoursUntilDryAtOnce_2 : decode cX10_hoursUntilDryAtOnce 2 = .ok (.invokevirtual 154, 3) := by decide +kernel
theorem dX10_hoursUntilDryAtOnce_5 : decode cX10_hoursUntilDryAtOnce 5 = .ok (.ifCond .eq 7, 3) := by decide +kernel
theorem dX10_hoursUntilDryAtOnce_8 : decode cX10_hoursUntilDryAtOnce 8 = .ok (.iconst 0, 1) := by decide +kernel
theorem dX10_hoursUntilDryAtOnce_9 : decode cX10_hoursUntilDryAtOnce 9 = .ok (.goto 8, 3) := by decide +kernel
theorem dX10_hoursUntilDryAtOnce_12 : decode cX10_hoursUntilDryAtOnce 12 = .ok (.aload_n 0, 1) := by decide +kernel
theorem dX10_hoursUntilDryAtOnce_13 : decode cX10_hoursUntilDryAtOnce 13 = .ok (.iload_n 1, 1) := by decide +kernel
theorem dX10_hoursUntilDryAtOnce_14 : decode cX10_hoursUntilDryAtOnce 14 = .ok (.invokevirtual 173, 3) := by decide +kernel
theorem dX10_hoursUntilDryAtOnce_17 : decode cX10_hoursUntilDryAtOnce 17 = .ok (.ireturn, 1) := by decide +kernel
theorem dX10_refusalReason_0 : decode cX10_refusalReason 0 = .ok (.aload_n 0, 1) := by decide +kernel
theorem dX10_refusalReason_1 : decode cX10_refusalReason 1 = .ok (.aload_n 0, 1) := by decide +kernel
theorem dX10_refusalReason_2 : decode cX10_refusalReason 2 = .ok (.getfield 42, 3) := by decide +kernel
theorem dX10_refusalReason_5 : decode cX10_refusalReason 5 = .ok (.ifCond .ne 7, 3) := by decide +kernel
theorem dX10_refusalReason_8 : decode cX10_refusalReason 8 = .ok (.iconst 1, 1) := by decide +kernel
theorem dX10_refusalReason_9 : decode cX10_refusalReason 9 = .ok (.goto 4, 3) := by decide +kernel
theorem dX10_refusalReason_12 : decode cX10_refusalReason 12 = .ok (.iconst 0, 1) := by decide +kernel
theorem dX10_refusalReason_13 : decode cX10_refusalReason 13 = .ok (.invokevirtual 80, 3) := by decide +kernel
theorem dX10_refusalReason_16 : decode cX10_refusalReason 16 = .ok (.ifCond .eq 7, 3) := by decide +kernel
theorem dX10_refusalReason_19 : decode cX10_refusalReason 19 = .ok (.iconst 0, 1) := by decide +kernel
theorem dX10_refusalReason_20 : decode cX10_refusalReason 20 = .ok (.goto 7, 3) := by decide +kernel
theorem dX10_refusalReason_23 : decode cX10_refusalReason 23 = .ok (.aload_n 0, 1) := by decide +kernel
theorem dX10_refusalReason_24 : decode cX10_refusalReason 24 = .ok (.getfield 42, 3) := by decide +kernel
theorem dX10_refusalReason_27 : decode cX10_refusalReason 27 = .ok (.ireturn, 1) := by decide +kernel
theorem dX10_refusalDetail_0 : decode cX10_refusalDetail 0 = .ok (.aload_n 0, 1) := by decide +kernel
theorem dX10_refusalDetail_1 : decode cX10_refusalDetail 1 = .ok (.aload_n 0, 1) := by decide +kernel
theorem dX10_refusalDetail_2 : decode cX10_refusalDetail 2 = .ok (.getfield 42, 3) := by decide +kernel
theorem dX10_refusalDetail_5 : decode cX10_refusalDetail 5 = .ok (.ifCond .ne 7, 3) := by decide +kernel
theorem dX10_refusalDetail_8 : decode cX10_refusalDetail 8 = .ok (.iconst 1, 1) := by decide +kernel
theorem dX10_refusalDetail_9 : decode cX10_refusalDetail 9 = .ok (.goto 4, 3) := by decide +kernel
theorem dX10_refusalDetail_12 : decode cX10_refusalDetail 12 = .ok (.iconst 0, 1) := by decide +kernel
theorem dX10_refusalDetail_13 : decode cX10_refusalDetail 13 = .ok (.invokevirtual 80, 3) := by decide +kernel
theorem dX10_refusalDetail_16 : decode cX10_refusalDetail 16 = .ok (.ifCond .eq 7, 3) := by decide +kernel
theorem dX10_refusalDetail_19 : decode cX10_refusalDetail 19 = .ok (.iconst 0, 1) := by decide +kernel
theorem dX10_refusalDetail_20 : decode cX10_refusalDetail 20 = .ok (.goto 7, 3) := by decide +kernel
theorem dX10_refusalDetail_23 : decode cX10_refusalDetail 23 = .ok (.aload_n 0, 1) := by decide +kernel
theorem dX10_refusalDetail_24 : decode cX10_refusalDetail 24 = .ok (.getfield 45, 3) := by decide +kernel
theorem dX10_refusalDetail_27 : decode cX10_refusalDetail 27 = .ok (.ireturn, 1) := by decide +kernel
theorem dX10_meanWetness_0 : decode cX10_meanWetness 0 = .ok (.aload_n 0, 1) := by decide +kernel
theorem dX10_meanWetness_1 : decode cX10_meanWetness 1 = .ok (.aload_n 0, 1) := by decide +kernel
theorem dX10_meanWetness_2 : decode cX10_meanWetness 2 = .ok (.getfield 7, 3) := by decide +kernel
theorem dX10_meanWetness_5 : decode cX10_meanWetness 5 = .ok (.iconst 1, 1) := by decide +kernel
theorem dX10_meanWetness_6 : decode cX10_meanWetness 6 = .ok (.iaload, 1) := by decide +kernel
theorem dX10_meanWetness_7 : decode cX10_meanWetness 7 = .ok (.ifCond .ne 7, 3) := by decide +kernel
theorem dX10_meanWetness_10 : decode cX10_meanWetness 10 = .ok (.iconst 1, 1) := by decide +kernel
theorem dX10_meanWetness_11 : decode cX10_meanWetness 11 = .ok (.goto 4, 3) := by decide +kernel
theorem dX10_meanWetness_14 : decode cX10_meanWetness 14 = .ok (.iconst 0, 1) := by decide +kernel
theorem dX10_meanWetness_15 : decode cX10_meanWetness 15 = .ok (.invokevirtual 80, 3) := by decide +kernel
theorem dX10_meanWetness_18 : decode cX10_meanWetness 18 = .ok (.ifCond .eq 5, 3) := by decide +kernel
theorem dX10_meanWetness_21 : decode cX10_meanWetness 21 = .ok (.dconst 0, 1) := by decide +kernel
theorem dX10_meanWetness_22 : decode cX10_meanWetness 22 = .ok (.dreturn, 1) := by decide +kernel
theorem dX10_meanWetness_23 : decode cX10_meanWetness 23 = .ok (.iconst 0, 1) := by decide +kernel
theorem dX10_meanWetness_24 : decode cX10_meanWetness 24 = .ok (.istore_n 1, 1) := by decide +kernel
theorem dX10_meanWetness_25 : decode cX10_meanWetness 25 = .ok (.iconst 0, 1) := by decide +kernel
theorem dX10_meanWetness_26 : decode cX10_meanWetness 26 = .ok (.istore_n 2, 1) := by decide +kernel
theorem dX10_meanWetness_27 : decode cX10_meanWetness 27 = .ok (.iload_n 2, 1) := by decide +kernel
theorem dX10_meanWetness_28 : decode cX10_meanWetness 28 = .ok (.aload_n 0, 1) := by decide +kernel
theorem dX10_meanWetness_29 : decode cX10_meanWetness 29 = .ok (.getfield 7, 3) := by decide +kernel
theorem dX10_meanWetness_32 : decode cX10_meanWetness 32 = .ok (.iconst 1, 1) := by decide +kernel
theorem dX10_meanWetness_33 : decode cX10_meanWetness 33 = .ok (.iaload, 1) := by decide +kernel
theorem dX10_meanWetness_34 : decode cX10_meanWetness 34 = .ok (.if_icmp .ge 18, 3) := by decide +kernel
theorem dX10_meanWetness_37 : decode cX10_meanWetness 37 = .ok (.iload_n 1, 1) := by decide +kernel
theorem dX10_meanWetness_38 : decode cX10_meanWetness 38 = .ok (.aload_n 0, 1) := by decide +kernel
theorem dX10_meanWetness_39 : decode cX10_meanWetness 39 = .ok (.iload_n 2, 1) := by decide +kernel
theorem dX10_meanWetness_40 : decode cX10_meanWetness 40 = .ok (.iconst 0, 1) := by decide +kernel
theorem dX10_meanWetness_41 : decode cX10_meanWetness 41 = .ok (.invokevirtual 139, 3) := by decide +kernel
theorem dX10_meanWetness_44 : decode cX10_meanWetness 44 = .ok (.iadd, 1) := by decide +kernel
theorem dX10_meanWetness_45 : decode cX10_meanWetness 45 = .ok (.istore_n 1, 1) := by decide +kernel
theorem dX10_meanWetness_46 : decode cX10_meanWetness 46 = .ok (.iinc 2 1, 3) := by decide +kernel
theorem dX10_meanWetness_49 : decode cX10_meanWetness 49 = .ok (.goto (-22), 3) := by decide +kernel
theorem dX10_meanWetness_52 : decode cX10_meanWetness 52 = .ok (.iload_n 1, 1) := by decide +kernel
theorem dX10_meanWetness_53 : decode cX10_meanWetness 53 = .ok (.i2d, 1) := by decide +kernel
theorem dX10_meanWetness_54 : decode cX10_meanWetness 54 = .ok (.aload_n 0, 1) := by decide +kernel
theorem dX10_meanWetness_55 : decode cX10_meanWetness 55 = .ok (.getfield 7, 3) := by decide +kernel
theorem dX10_meanWetness_58 : decode cX10_meanWetness 58 = .ok (.iconst 1, 1) := by decide +kernel
theorem dX10_meanWetness_59 : decode cX10_meanWetness 59 = .ok (.iaload, 1) := by decide +kernel
theorem dX10_meanWetness_60 : decode cX10_meanWetness 60 = .ok (.i2d, 1) := by decide +kernel
theorem dX10_meanWetness_61 : decode cX10_meanWetness 61 = .ok (.ddiv, 1) := by decide +kernel
theorem dX10_meanWetness_62 : decode cX10_meanWetness 62 = .ok (.dreturn, 1) := by decide +kernel
theorem dX10_smearedFraction_0 : decode cX10_smearedFraction 0 = .ok (.aload_n 0, 1) := by decide +kernel
theorem dX10_smearedFraction_1 : decode cX10_smearedFraction 1 = .ok (.aload_n 0, 1) := by decide +kernel
theorem dX10_smearedFraction_2 : decode cX10_smearedFraction 2 = .ok (.getfield 7, 3) := by decide +kernel
theorem dX10_smearedFraction_5 : decode cX10_smearedFraction 5 = .ok (.iconst 1, 1) := by decide +kernel
theorem dX10_smearedFraction_6 : decode cX10_smearedFraction 6 = .ok (.iaload, 1) := by decide +kernel
theorem dX10_smearedFraction_7 : decode cX10_smearedFraction 7 = .ok (.ifCond .ne 7, 3) := by decide +kernel
theorem dX10_smearedFraction_10 : decode cX10_smearedFraction 10 = .ok (.iconst 1, 1) := by decide +kernel
theorem dX10_smearedFraction_11 : decode cX10_smearedFraction 11 = .ok (.goto 4, 3) := by decide +kernel
theorem dX10_smearedFraction_14 : decode cX10_smearedFraction 14 = .ok (.iconst 0, 1) := by decide +kernel
theorem dX10_smearedFraction_15 : decode cX10_smearedFraction 15 = .ok (.invokevirtual 80, 3) := by decide +kernel
theorem dX10_smearedFraction_18 : decode cX10_smearedFraction 18 = .ok (.ifCond .eq 5, 3) := by decide +kernel
theorem dX10_smearedFraction_21 : decode cX10_smearedFraction 21 = .ok (.fconst 0, 1) := by decide +kernel
theorem dX10_smearedFraction_22 : decode cX10_smearedFraction 22 = .ok (.freturn, 1) := by decide +kernel
theorem dX10_smearedFraction_23 : decode cX10_smearedFraction 23 = .ok (.iconst 0, 1) := by decide +kernel
theorem dX10_smearedFraction_24 : decode cX10_smearedFraction 24 = .ok (.istore_n 1, 1) := by decide +kernel
theorem dX10_smearedFraction_25 : decode cX10_smearedFraction 25 = .ok (.iconst 0, 1) := by decide +kernel
theorem dX10_smearedFraction_26 : decode cX10_smearedFraction 26 = .ok (.istore_n 2, 1) := by decide +kernel
theorem dX10_smearedFraction_27 : decode cX10_smearedFraction 27 = .ok (.iload_n 2, 1) := by decide +kernel
theorem dX10_smearedFraction_28 : decode cX10_smearedFraction 28 = .ok (.aload_n 0, 1) := by decide +kernel
theorem dX10_smearedFraction_29 : decode cX10_smearedFraction 29 = .ok (.getfield 7, 3) := by decide +kernel
theorem dX10_smearedFraction_32 : decode cX10_smearedFraction 32 = .ok (.iconst 1, 1) := by decide +kernel
theorem dX10_smearedFraction_33 : decode cX10_smearedFraction 33 = .ok (.iaload, 1) := by decide +kernel
theorem dX10_smearedFraction_34 : decode cX10_smearedFraction 34 = .ok (.if_icmp .ge 26, 3) := by decide +kernel
theorem dX10_smearedFraction_37 : decode cX10_smearedFraction 37 = .ok (.iload_n 1, 1) := by decide +kernel
theorem dX10_smearedFraction_38 : decode cX10_smearedFraction 38 = .ok (.aload_n 0, 1) := by decide +kernel
theorem dX10_smearedFraction_39 : decode cX10_smearedFraction 39 = .ok (.iload_n 2, 1) := by decide +kernel
theorem dX10_smearedFraction_40 : decode cX10_smearedFraction 40 = .ok (.iconst 1, 1) := by decide +kernel
theorem dX10_smearedFraction_41 : decode cX10_smearedFraction 41 = .ok (.invokevirtual 139, 3) := by decide +kernel
theorem dX10_smearedFraction_44 : decode cX10_smearedFraction 44 = .ok (.ifCond .le 7, 3) := by decide +kernel
theorem dX10_smearedFraction_47 : decode cX10_smearedFraction 47 = .ok (.iconst 1, 1) := by decide +kernel
theorem dX10_smearedFraction_48 : decode cX10_smearedFraction 48 = .ok (.goto 4, 3) := by decide +kernel
theorem dX10_smearedFraction_51 : decode cX10_smearedFraction 51 = .ok (.iconst 0, 1) := by decide +kernel
theorem dX10_smearedFraction_52 : decode cX10_smearedFraction 52 = .ok (.iadd, 1) := by decide +kernel
theorem dX10_smearedFraction_53 : decode cX10_smearedFraction 53 = .ok (.istore_n 1, 1) := by decide +kernel
theorem dX10_smearedFraction_54 : decode cX10_smearedFraction 54 = .ok (.iinc 2 1, 3) := by decide +kernel
theorem dX10_smearedFraction_57 : decode cX10_smearedFraction 57 = .ok (.goto (-30), 3) := by decide +kernel
theorem dX10_smearedFraction_60 : decode cX10_smearedFraction 60 = .ok (.iload_n 1, 1) := by decide +kernel
theorem dX10_smearedFraction_61 : decode cX10_smearedFraction 61 = .ok (.i2f, 1) := by decide +kernel
theorem dX10_smearedFraction_62 : decode cX10_smearedFraction 62 = .ok (.aload_n 0, 1) := by decide +kernel
theorem dX10_smearedFraction_63 : decode cX10_smearedFraction 63 = .ok (.getfield 7, 3) := by decide +kernel
theorem dX10_smearedFraction_66 : decode cX10_smearedFraction 66 = .ok (.iconst 1, 1) := by decide +kernel
theorem dX10_smearedFraction_67 : decode cX10_smearedFraction 67 = .ok (.iaload, 1) := by decide +kernel
theorem dX10_smearedFraction_68 : decode cX10_smearedFraction 68 = .ok (.i2f, 1) := by decide +kernel
theorem dX10_smearedFraction_69 : decode cX10_smearedFraction 69 = .ok (.fdiv, 1) := by decide +kernel
theorem dX10_smearedFraction_70 : decode cX10_smearedFraction 70 = .ok (.freturn, 1) := by decide +kernel
theorem dX10_writeRow_0 : decode cX10_writeRow 0 = .ok (.aload_n 0, 1) := by decide +kernel
theorem dX10_writeRow_1 : decode cX10_writeRow 1 = .ok (.aload_n 0, 1) := by decide +kernel
theorem dX10_writeRow_2 : decode cX10_writeRow 2 = .ok (.iload_n 1, 1) := by decide +kernel
theorem dX10_writeRow_3 : decode cX10_writeRow 3 = .ok (.invokevirtual 133, 3) := by decide +kernel
theorem dX10_writeRow_6 : decode cX10_writeRow 6 = .ok (.ifCond .ne 7, 3) := by decide +kernel
theorem dX10_writeRow_9 : decode cX10_writeRow 9 = .ok (.iconst 1, 1) := by decide +kernel
theorem dX10_writeRow_10 : decode cX10_writeRow 10 = .ok (.goto 18, 3) := by decide +kernel
theorem dX10_writeRow_13 : decode cX10_writeRow 13 = .ok (.iload_n 2, 1) := by decide +kernel
theorem dX10_writeRow_14 : decode cX10_writeRow 14 = .ok (.iconst 0, 1) := by decide +kernel
theorem dX10_writeRow_15 : decode cX10_writeRow 15 = .ok (.bipush 7, 2) := by decide +kernel
theorem dX10_writeRow_17 : decode cX10_writeRow 17 = .ok (.invokestatic 59, 3) := by decide +kernel
theorem dX10_writeRow_20 : decode cX10_writeRow 20 = .ok (.ifCond .eq 7, 3) := by decide +kernel
theorem dX10_writeRow_23 : decode cX10_writeRow 23 = .ok (.iconst 0, 1) := by decide +kernel
theorem dX10_writeRow_24 : decode cX10_writeRow 24 = .ok (.goto 4, 3) := by decide +kernel
theorem dX10_writeRow_27 : decode cX10_writeRow 27 = .ok (.iconst 2, 1) := by decide +kernel
theorem dX10_writeRow_28 : decode cX10_writeRow 28 = .ok (.invokevirtual 80, 3) := by decide +kernel
theorem dX10_writeRow_31 : decode cX10_writeRow 31 = .ok (.ifCond .eq 5, 3) := by decide +kernel
theorem dX10_writeRow_34 : decode cX10_writeRow 34 = .ok (.iconst 0, 1) := by decide +kernel
theorem dX10_writeRow_35 : decode cX10_writeRow 35 = .ok (.ireturn, 1) := by decide +kernel
theorem dX10_writeRow_36 : decode cX10_writeRow 36 = .ok (.iconst 0, 1) := by decide +kernel
theorem dX10_writeRow_37 : decode cX10_writeRow 37 = .ok (.istore_n 3, 1) := by decide +kernel
theorem dX10_writeRow_38 : decode cX10_writeRow 38 = .ok (.iload_n 3, 1) := by decide +kernel
theorem dX10_writeRow_39 : decode cX10_writeRow 39 = .ok (.bipush 16, 2) := by decide +kernel
theorem dX10_writeRow_41 : decode cX10_writeRow 41 = .ok (.if_icmp .ge 41, 3) := by decide +kernel
theorem dX10_writeRow_44 : decode cX10_writeRow 44 = .ok (.aload_n 0, 1) := by decide +kernel
theorem dX10_writeRow_45 : decode cX10_writeRow 45 = .ok (.iload_n 1, 1) := by decide +kernel
theorem dX10_writeRow_46 : decode cX10_writeRow 46 = .ok (.iconst 3, 1) := by decide +kernel
theorem dX10_writeRow_47 : decode cX10_writeRow 47 = .ok (.iload_n 3, 1) := by decide +kernel
theorem dX10_writeRow_48 : decode cX10_writeRow 48 = .ok (.iload_n 2, 1) := by decide +kernel
theorem dX10_writeRow_49 : decode cX10_writeRow 49 = .ok (.invokevirtual 160, 3) := by decide +kernel
theorem dX10_writeRow_52 : decode cX10_writeRow 52 = .ok (.istore 4, 2) := by decide +kernel
theorem dX10_writeRow_54 : decode cX10_writeRow 54 = .ok (.aload_n 0, 1) := by decide +kernel
theorem dX10_writeRow_55 : decode cX10_writeRow 55 = .ok (.getfield 32, 3) := by decide +kernel
theorem dX10_writeRow_58 : decode cX10_writeRow 58 = .ok (.iload_n 3, 1) := by decide +kernel
theorem dX10_writeRow_59 : decode cX10_writeRow 59 = .ok (.iload 4, 2) := by decide +kernel
theorem dX10_writeRow_61 : decode cX10_writeRow 61 = .ok (.ifCond .ne 8, 3) := by decide +kernel
theorem dX10_writeRow_64 : decode cX10_writeRow 64 = .ok (.bipush 46, 2) := by decide +kernel
theorem dX10_writeRow_66 : decode cX10_writeRow 66 = .ok (.goto 8, 3) := by decide +kernel
theorem dX10_writeRow_69 : decode cX10_writeRow 69 = .ok (.bipush 48, 2) := by decide +kernel
theorem dX10_writeRow_71 : decode cX10_writeRow 71 = .ok (.iload 4, 2) := by decide +kernel
theorem dX10_writeRow_73 : decode cX10_writeRow 73 = .ok (.iadd, 1) := by decide +kernel
theorem dX10_writeRow_74 : decode cX10_writeRow 74 = .ok (.i2c, 1) := by decide +kernel
theorem dX10_writeRow_75 : decode cX10_writeRow 75 = .ok (.castore, 1) := by decide +kernel
theorem dX10_writeRow_76 : decode cX10_writeRow 76 = .ok (.iinc 3 1, 3) := by decide +kernel
theorem dX10_writeRow_79 : decode cX10_writeRow 79 = .ok (.goto (-41), 3) := by decide +kernel
theorem dX10_writeRow_82 : decode cX10_writeRow 82 = .ok (.aload_n 0, 1) := by decide +kernel
theorem dX10_writeRow_83 : decode cX10_writeRow 83 = .ok (.bipush 16, 2) := by decide +kernel
theorem dX10_writeRow_85 : decode cX10_writeRow 85 = .ok (.putfield 176, 3) := by decide +kernel
theorem dX10_writeRow_88 : decode cX10_writeRow 88 = .ok (.aload_n 0, 1) := by decide +kernel
theorem dX10_writeRow_89 : decode cX10_writeRow 89 = .ok (.getfield 176, 3) := by decide +kernel
theorem dX10_writeRow_92 : decode cX10_writeRow 92 = .ok (.ireturn, 1) := by decide +kernel
theorem dX10_outputCharacter_0 : decode cX10_outputCharacter 0 = .ok (.aload_n 0, 1) := by decide +kernel
theorem dX10_outputCharacter_1 : decode cX10_outputCharacter 1 = .ok (.iload_n 1, 1) := by decide +kernel
theorem dX10_outputCharacter_2 : decode cX10_outputCharacter 2 = .ok (.iconst 0, 1) := by decide +kernel
theorem dX10_outputCharacter_3 : decode cX10_outputCharacter 3 = .ok (.aload_n 0, 1) := by decide +kernel
theorem dX10_outputCharacter_4 : decode cX10_outputCharacter 4 = .ok (.getfield 176, 3) := by decide +kernel
theorem dX10_outputCharacter_7 : decode cX10_outputCharacter 7 = .ok (.iconst 1, 1) := by decide +kernel
theorem dX10_outputCharacter_8 : decode cX10_outputCharacter 8 = .ok (.isub, 1) := by decide +kernel
theorem dX10_outputCharacter_9 : decode cX10_outputCharacter 9 = .ok (.invokestatic 59, 3) := by decide +kernel
theorem dX10_outputCharacter_12 : decode cX10_outputCharacter 12 = .ok (.ifCond .eq 7, 3) := by decide +kernel
theorem dX10_outputCharacter_15 : decode cX10_outputCharacter 15 = .ok (.iconst 0, 1) := by decide +kernel
theorem dX10_outputCharacter_16 : decode cX10_outputCharacter 16 = .ok (.goto 4, 3) := by decide +kernel
theorem dX10_outputCharacter_19 : decode cX10_outputCharacter 19 = .ok (.iconst 1, 1) := by decide +kernel
theorem dX10_outputCharacter_20 : decode cX10_outputCharacter 20 = .ok (.invokevirtual 80, 3) := by decide +kernel
theorem dX10_outputCharacter_23 : decode cX10_outputCharacter 23 = .ok (.ifCond .eq 8, 3) := by decide +kernel
theorem dX10_outputCharacter_26 : decode cX10_outputCharacter 26 = .ok (.bipush 32, 2) := by decide +kernel
theorem dX10_outputCharacter_28 : decode cX10_outputCharacter 28 = .ok (.goto 9, 3) := by decide +kernel
theorem dX10_outputCharacter_31 : decode cX10_outputCharacter 31 = .ok (.aload_n 0, 1) := by decide +kernel
theorem dX10_outputCharacter_32 : decode cX10_outputCharacter 32 = .ok (.getfield 32, 3) := by decide +kernel
theorem dX10_outputCharacter_35 : decode cX10_outputCharacter 35 = .ok (.iload_n 1, 1) := by decide +kernel
theorem dX10_outputCharacter_36 : decode cX10_outputCharacter 36 = .ok (.caload, 1) := by decide +kernel
theorem dX10_outputCharacter_37 : decode cX10_outputCharacter 37 = .ok (.ireturn, 1) := by decide +kernel
theorem dX10_isConsistent_0 : decode cX10_isConsistent 0 = .ok (.aload_n 0, 1) := by decide +kernel
theorem dX10_isConsistent_1 : decode cX10_isConsistent 1 = .ok (.iconst 0, 1) := by decide +kernel
theorem dX10_isConsistent_2 : decode cX10_isConsistent 2 = .ok (.putfield 39, 3) := by decide +kernel
theorem dX10_isConsistent_5 : decode cX10_isConsistent 5 = .ok (.iconst 1, 1) := by decide +kernel
theorem dX10_isConsistent_6 : decode cX10_isConsistent 6 = .ok (.ireturn, 1) := by decide +kernel
theorem dX10_feed_0 : decode cX10_feed 0 = .ok (.aload_n 0, 1) := by decide +kernel
theorem dX10_feed_1 : decode cX10_feed 1 = .ok (.aload_n 0, 1) := by decide +kernel
theorem dX10_feed_2 : decode cX10_feed 2 = .ok (.getfield 179, 3) := by decide +kernel
theorem dX10_feed_5 : decode cX10_feed 5 = .ok (.bipush 60, 2) := by decide +kernel
theorem dX10_feed_7 : decode cX10_feed 7 = .ok (.if_icmp .ne 7, 3) := by decide +kernel
theorem dX10_feed_10 : decode cX10_feed 10 = .ok (.iconst 1, 1) := by decide +kernel
theorem dX10_feed_11 : decode cX10_feed 11 = .ok (.goto 4, 3) := by decide +kernel
theorem dX10_feed_14 : decode cX10_feed 14 = .ok (.iconst 0, 1) := by decide +kernel
theorem dX10_feed_15 : decode cX10_feed 15 = .ok (.invokevirtual 80, 3) := by decide +kernel
theorem dX10_feed_18 : decode cX10_feed 18 = .ok (.ifCond .eq 5, 3) := by decide +kernel
theorem dX10_feed_21 : decode cX10_feed 21 = .ok (.iconst 0, 1) := by decide +kernel
theorem dX10_feed_22 : decode cX10_feed 22 = .ok (.ireturn, 1) := by decide +kernel
theorem dX10_feed_23 : decode cX10_feed 23 = .ok (.aload_n 0, 1) := by decide +kernel
theorem dX10_feed_24 : decode cX10_feed 24 = .ok (.getfield 22, 3) := by decide +kernel
theorem dX10_feed_27 : decode cX10_feed 27 = .ok (.aload_n 0, 1) := by decide +kernel
theorem dX10_feed_28 : decode cX10_feed 28 = .ok (.getfield 179, 3) := by decide +kernel
theorem dX10_feed_31 : decode cX10_feed 31 = .ok (.iload_n 1, 1) := by decide +kernel
theorem dX10_feed_32 : decode cX10_feed 32 = .ok (.iastore, 1) := by decide +kernel
theorem dX10_feed_33 : decode cX10_feed 33 = .ok (.aload_n 0, 1) := by decide +kernel
theorem dX10_feed_34 : decode cX10_feed 34 = .ok (.dup, 1) := by decide +kernel
theorem dX10_feed_35 : decode cX10_feed 35 = .ok (.getfield 179, 3) := by decide +kernel
theorem dX10_feed_38 : decode cX10_feed 38 = .ok (.iconst 1, 1) := by decide +kernel
theorem dX10_feed_39 : decode cX10_feed 39 = .ok (.iadd, 1) := by decide +kernel
theorem dX10_feed_40 : decode cX10_feed 40 = .ok (.putfield 179, 3) := by decide +kernel
theorem dX10_feed_43 : decode cX10_feed 43 = .ok (.aload_n 0, 1) := by decide +kernel
theorem dX10_feed_44 : decode cX10_feed 44 = .ok (.getfield 179, 3) := by decide +kernel
theorem dX10_feed_47 : decode cX10_feed 47 = .ok (.ireturn, 1) := by decide +kernel
theorem dX10_here_0 : decode cX10_here 0 = .ok (.aload_n 0, 1) := by decide +kernel
theorem dX10_here_1 : decode cX10_here 1 = .ok (.getfield 182, 3) := by decide +kernel
theorem dX10_here_4 : decode cX10_here 4 = .ok (.aload_n 0, 1) := by decide +kernel
theorem dX10_here_5 : decode cX10_here 5 = .ok (.getfield 179, 3) := by decide +kernel
theorem dX10_here_8 : decode cX10_here 8 = .ok (.if_icmp .ge 15, 3) := by decide +kernel
theorem dX10_here_11 : decode cX10_here 11 = .ok (.aload_n 0, 1) := by decide +kernel
theorem dX10_here_12 : decode cX10_here 12 = .ok (.getfield 22, 3) := by decide +kernel
theorem dX10_here_15 : decode cX10_here 15 = .ok (.aload_n 0, 1) := by decide +kernel
theorem dX10_here_16 : decode cX10_here 16 = .ok (.getfield 182, 3) := by decide +kernel
theorem dX10_here_19 : decode cX10_here 19 = .ok (.iaload, 1) := by decide +kernel
theorem dX10_here_20 : decode cX10_here 20 = .ok (.goto 4, 3) := by decide +kernel
theorem dX10_here_23 : decode cX10_here 23 = .ok (.iconst (-1), 1) := by decide +kernel
theorem dX10_here_24 : decode cX10_here 24 = .ok (.ireturn, 1) := by decide +kernel
theorem dX10_skips_0 : decode cX10_skips 0 = .ok (.aload_n 0, 1) := by decide +kernel
theorem dX10_skips_1 : decode cX10_skips 1 = .ok (.invokevirtual 185, 3) := by decide +kernel
theorem dX10_skips_4 : decode cX10_skips 4 = .ok (.iload_n 1, 1) := by decide +kernel
theorem dX10_skips_5 : decode cX10_skips 5 = .ok (.if_icmp .eq 5, 3) := by decide +kernel
theorem dX10_skips_8 : decode cX10_skips 8 = .ok (.iconst 0, 1) := by decide +kernel
theorem dX10_skips_9 : decode cX10_skips 9 = .ok (.ireturn, 1) := by decide +kernel
theorem dX10_skips_10 : decode cX10_skips 10 = .ok (.aload_n 0, 1) := by decide +kernel
theorem dX10_skips_11 : decode cX10_skips 11 = .ok (.dup, 1) := by decide +kernel
theorem dX10_skips_12 : decode cX10_skips 12 = .ok (.getfield 182, 3) := by decide +kernel
theorem dX10_skips_15 : decode cX10_skips 15 = .ok (.iconst 1, 1) := by decide +kernel
theorem dX10_skips_16 : decode cX10_skips 16 = .ok (.iadd, 1) := by decide +kernel
theorem dX10_skips_17 : decode cX10_skips 17 = .ok (.putfield 182, 3) := by decide +kernel
theorem dX10_skips_20 : decode cX10_skips 20 = .ok (.iconst 1, 1) := by decide +kernel
theorem dX10_skips_21 : decode cX10_skips 21 = .ok (.ireturn, 1) := by decide +kernel
theorem dX10_isWord_0 : decode cX10_isWord 0 = .ok (.aload_n 0, 1) := by decide +kernel
theorem dX10_isWord_1 : decode cX10_isWord 1 = .ok (.getfield 36, 3) := by decide +kernel
theorem dX10_isWord_4 : decode cX10_isWord 4 = .ok (.iconst 4, 1) := by decide +kernel
theorem dX10_isWord_5 : decode cX10_isWord 5 = .ok (.aload_n 0, 1) := by decide +kernel
theorem dX10_isWord_6 : decode cX10_isWord 6 = .ok (.getfield 188, 3) := by decide +kernel
theorem dX10_isWord_9 : decode cX10_isWord 9 = .ok (.imul, 1) := by decide +kernel
theorem dX10_isWord_10 : decode cX10_isWord 10 = .ok (.iload_n 1, 1) := by decide +kernel
theorem dX10_isWord_11 : decode cX10_isWord 11 = .ok (.iastore, 1) := by decide +kernel
theorem dX10_isWord_12 : decode cX10_isWord 12 = .ok (.iconst 0, 1) := by decide +kernel
theorem dX10_isWord_13 : decode cX10_isWord 13 = .ok (.istore_n 3, 1) := by decide +kernel
theorem dX10_isWord_14 : decode cX10_isWord 14 = .ok (.iload_n 3, 1) := by decide +kernel
theorem dX10_isWord_15 : decode cX10_isWord 15 = .ok (.aload_n 2, 1) := by decide +kernel
theorem dX10_isWord_16 : decode cX10_isWord 16 = .ok (.invokevirtual 191, 3) := by decide +kernel
theorem dX10_isWord_19 : decode cX10_isWord 19 = .ok (.if_icmp .ge 23, 3) := by decide +kernel
theorem dX10_isWord_22 : decode cX10_isWord 22 = .ok (.aload_n 0, 1) := by decide +kernel
theorem dX10_isWord_23 : decode cX10_isWord 23 = .ok (.aload_n 2, 1) := by decide +kernel
theorem dX10_isWord_24 : decode cX10_isWord 24 = .ok (.iload_n 3, 1) := by decide +kernel
theorem dX10_isWord_25 : decode cX10_isWord 25 = .ok (.invokevirtual 195, 3) := by decide +kernel
theorem dX10_isWord_28 : decode cX10_isWord 28 = .ok (.invokevirtual 199, 3) := by decide +kernel
theorem dX10_isWord_31 : decode cX10_isWord 31 = .ok (.ifCond .ne 5, 3) := by decide +kernel
theorem dX10_isWord_34 : decode cX10_isWord 34 = .ok (.iconst 0, 1) := by decide +kernel
theorem dX10_isWord_35 : decode cX10_isWord 35 = .ok (.ireturn, 1) := by decide +kernel
theorem dX10_isWord_36 : decode cX10_isWord 36 = .ok (.iinc 3 1, 3) := by decide +kernel
theorem dX10_isWord_39 : decode cX10_isWord 39 = .ok (.goto (-25), 3) := by decide +kernel
theorem dX10_isWord_42 : decode cX10_isWord 42 = .ok (.iconst 1, 1) := by decide +kernel
theorem dX10_isWord_43 : decode cX10_isWord 43 = .ok (.ireturn, 1) := by decide +kernel
theorem dX10_figures_0 : decode cX10_figures 0 = .ok (.aload_n 0, 1) := by decide +kernel
theorem dX10_figures_1 : decode cX10_figures 1 = .ok (.iload_n 1, 1) := by decide +kernel
theorem dX10_figures_2 : decode cX10_figures 2 = .ok (.invokevirtual 199, 3) := by decide +kernel
theorem dX10_figures_5 : decode cX10_figures 5 = .ok (.ifCond .eq 17, 3) := by decide +kernel
theorem dX10_figures_8 : decode cX10_figures 8 = .ok (.aload_n 0, 1) := by decide +kernel
theorem dX10_figures_9 : decode cX10_figures 9 = .ok (.invokevirtual 185, 3) := by decide +kernel
theorem dX10_figures_12 : decode cX10_figures 12 = .ok (.bipush 48, 2) := by decide +kernel
theorem dX10_figures_14 : decode cX10_figures 14 = .ok (.bipush 57, 2) := by decide +kernel
theorem dX10_figures_16 : decode cX10_figures 16 = .ok (.invokestatic 59, 3) := by decide +kernel
theorem dX10_figures_19 : decode cX10_figures 19 = .ok (.ifCond .ne 5, 3) := by decide +kernel
theorem dX10_figures_22 : decode cX10_figures 22 = .ok (.iconst 0, 1) := by decide +kernel
theorem dX10_figures_23 : decode cX10_figures 23 = .ok (.ireturn, 1) := by decide +kernel
theorem dX10_figures_24 : decode cX10_figures 24 = .ok (.aload_n 0, 1) := by decide +kernel
theorem dX10_figures_25 : decode cX10_figures 25 = .ok (.getfield 36, 3) := by decide +kernel
theorem dX10_figures_28 : decode cX10_figures 28 = .ok (.iload_n 2, 1) := by decide +kernel
theorem dX10_figures_29 : decode cX10_figures 29 = .ok (.iconst 0, 1) := by decide +kernel
theorem dX10_figures_30 : decode cX10_figures 30 = .ok (.iastore, 1) := by decide +kernel
theorem dX10_figures_31 : decode cX10_figures 31 = .ok (.iconst 0, 1) := by decide +kernel
theorem dX10_figures_32 : decode cX10_figures 32 = .ok (.istore 4, 2) := by decide +kernel
theorem dX10_figures_34 : decode cX10_figures 34 = .ok (.iload 4, 2) := by decide +kernel
theorem dX10_figures_36 : decode cX10_figures 36 = .ok (.iload_n 3, 1) := by decide +kernel
theorem dX10_figures_37 : decode cX10_figures 37 = .ok (.if_icmp .ge 56, 3) := by decide +kernel
theorem dX10_figures_40 : decode cX10_figures 40 = .ok (.aload_n 0, 1) := by decide +kernel
theorem dX10_figures_41 : decode cX10_figures 41 = .ok (.invokevirtual 185, 3) := by decide +kernel
theorem dX10_figures_44 : decode cX10_figures 44 = .ok (.bipush 48, 2) := by decide +kernel
theorem dX10_figures_46 : decode cX10_figures 46 = .ok (.bipush 57, 2) := by decide +kernel
theorem dX10_figures_48 : decode cX10_figures 48 = .ok (.invokestatic 59, 3) := by decide +kernel
theorem dX10_figures_51 : decode cX10_figures 51 = .ok (.ifCond .eq 42, 3) := by decide +kernel
theorem dX10_figures_54 : decode cX10_figures 54 = .ok (.aload_n 0, 1) := by decide +kernel
theorem dX10_figures_55 : decode cX10_figures 55 = .ok (.getfield 36, 3) := by decide +kernel
theorem dX10_figures_58 : decode cX10_figures 58 = .ok (.iload_n 2, 1) := by decide +kernel
theorem dX10_figures_59 : decode cX10_figures 59 = .ok (.bipush 10, 2) := by decide +kernel
theorem dX10_figures_61 : decode cX10_figures 61 = .ok (.aload_n 0, 1) := by decide +kernel
theorem dX10_figures_62 : decode cX10_figures 62 = .ok (.getfield 36, 3) := by decide +kernel
theorem dX10_figures_65 : decode cX10_figures 65 = .ok (.iload_n 2, 1) := by decide +kernel
theorem dX10_figures_66 : decode cX10_figures 66 = .ok (.iaload, 1) := by decide +kernel
theorem dX10_figures_67 : decode cX10_figures 67 = .ok (.imul, 1) := by decide +kernel
theorem dX10_figures_68 : decode cX10_figures 68 = .ok (.aload_n 0, 1) := by decide +kernel
theorem dX10_figures_69 : decode cX10_figures 69 = .ok (.invokevirtual 185, 3) := by decide +kernel
theorem dX10_figures_72 : decode cX10_figures 72 = .ok (.iadd, 1) := by decide +kernel
theorem dX10_figures_73 : decode cX10_figures 73 = .ok (.bipush 48, 2) := by decide +kernel
theorem dX10_figures_75 : decode cX10_figures 75 = .ok (.isub, 1) := by decide +kernel
theorem dX10_figures_76 : decode cX10_figures 76 = .ok (.iastore, 1) := by decide +kernel
theorem dX10_figures_77 : decode cX10_figures 77 = .ok (.aload_n 0, 1) := by decide +kernel
theorem dX10_figures_78 : decode cX10_figures 78 = .ok (.dup, 1) := by decide +kernel
theorem dX10_figures_79 : decode cX10_figures 79 = .ok (.getfield 182, 3) := by decide +kernel
theorem dX10_figures_82 : decode cX10_figures 82 = .ok (.iconst 1, 1) := by decide +kernel
theorem dX10_figures_83 : decode cX10_figures 83 = .ok (.iadd, 1) := by decide +kernel
theorem dX10_figures_84 : decode cX10_figures 84 = .ok (.putfield 182, 3) := by decide +kernel
theorem dX10_figures_87 : decode cX10_figures 87 = .ok (.iinc 4 1, 3) := by decide +kernel
theorem dX10_figures_90 : decode cX10_figures 90 = .ok (.goto (-56), 3) := by decide +kernel
theorem dX10_figures_93 : decode cX10_figures 93 = .ok (.iconst 1, 1) := by decide +kernel
theorem dX10_figures_94 : decode cX10_figures 94 = .ok (.ireturn, 1) := by decide +kernel
theorem dX10_signed_0 : decode cX10_signed 0 = .ok (.aload_n 0, 1) := by decide +kernel
theorem dX10_signed_1 : decode cX10_signed 1 = .ok (.invokevirtual 185, 3) := by decide +kernel
theorem dX10_signed_4 : decode cX10_signed 4 = .ok (.bipush 45, 2) := by decide +kernel
theorem dX10_signed_6 : decode cX10_signed 6 = .ok (.if_icmp .eq 12, 3) := by decide +kernel
theorem dX10_signed_9 : decode cX10_signed 9 = .ok (.aload_n 0, 1) := by decide +kernel
theorem dX10_signed_10 : decode cX10_signed 10 = .ok (.bipush 43, 2) := by decide +kernel
theorem dX10_signed_12 : decode cX10_signed 12 = .ok (.iload_n 1, 1) := by decide +kernel
theorem dX10_signed_13 : decode cX10_signed 13 = .ok (.iconst 1, 1) := by decide +kernel
theorem dX10_signed_14 : decode cX10_signed 14 = .ok (.invokevirtual 202, 3) := by decide +kernel
theorem dX10_signed_17 : decode cX10_signed 17 = .ok (.ireturn, 1) := by decide +kernel
theorem dX10_signed_18 : decode cX10_signed 18 = .ok (.aload_n 0, 1) := by decide +kernel
theorem dX10_signed_19 : decode cX10_signed 19 = .ok (.bipush 45, 2) := by decide +kernel
theorem dX10_signed_21 : decode cX10_signed 21 = .ok (.iload_n 1, 1) := by decide +kernel
theorem dX10_signed_22 : decode cX10_signed 22 = .ok (.iconst 1, 1) := by decide +kernel
theorem dX10_signed_23 : decode cX10_signed 23 = .ok (.invokevirtual 202, 3) := by decide +kernel
theorem dX10_signed_26 : decode cX10_signed 26 = .ok (.ifCond .ne 5, 3) := by decide +kernel
theorem dX10_signed_29 : decode cX10_signed 29 = .ok (.iconst 0, 1) := by decide +kernel
theorem dX10_signed_30 : decode cX10_signed 30 = .ok (.ireturn, 1) := by decide +kernel
theorem dX10_signed_31 : decode cX10_signed 31 = .ok (.aload_n 0, 1) := by decide +kernel
theorem dX10_signed_32 : decode cX10_signed 32 = .ok (.getfield 36, 3) := by decide +kernel
theorem dX10_signed_35 : decode cX10_signed 35 = .ok (.iload_n 1, 1) := by decide +kernel
theorem dX10_signed_36 : decode cX10_signed 36 = .ok (.aload_n 0, 1) := by decide +kernel
theorem dX10_signed_37 : decode cX10_signed 37 = .ok (.getfield 36, 3) := by decide +kernel
theorem dX10_signed_40 : decode cX10_signed 40 = .ok (.iload_n 1, 1) := by decide +kernel
theorem dX10_signed_41 : decode cX10_signed 41 = .ok (.iaload, 1) := by decide +kernel
theorem dX10_signed_42 : decode cX10_signed 42 = .ok (.ineg, 1) := by decide +kernel
theorem dX10_signed_43 : decode cX10_signed 43 = .ok (.iastore, 1) := by decide +kernel
theorem dX10_signed_44 : decode cX10_signed 44 = .ok (.iconst 1, 1) := by decide +kernel
theorem dX10_signed_45 : decode cX10_signed 45 = .ok (.ireturn, 1) := by decide +kernel
theorem dX10_inkHere_0 : decode cX10_inkHere 0 = .ok (.aload_n 0, 1) := by decide +kernel
theorem dX10_inkHere_1 : decode cX10_inkHere 1 = .ok (.getfield 36, 3) := by decide +kernel
theorem dX10_inkHere_4 : decode cX10_inkHere 4 = .ok (.iload_n 1, 1) := by decide +kernel
theorem dX10_inkHere_5 : decode cX10_inkHere 5 = .ok (.aload_n 0, 1) := by decide +kernel
theorem dX10_inkHere_6 : decode cX10_inkHere 6 = .ok (.invokevirtual 185, 3) := by decide +kernel
theorem dX10_inkHere_9 : decode cX10_inkHere 9 = .ok (.bipush 99, 2) := by decide +kernel
theorem dX10_inkHere_11 : decode cX10_inkHere 11 = .ok (.if_icmp .ne 7, 3) := by decide +kernel
theorem dX10_inkHere_14 : decode cX10_inkHere 14 = .ok (.iconst 1, 1) := by decide +kernel
theorem dX10_inkHere_15 : decode cX10_inkHere 15 = .ok (.goto 17, 3) := by decide +kernel
theorem dX10_inkHere_18 : decode cX10_inkHere 18 = .ok (.aload_n 0, 1) := by decide +kernel
theorem dX10_inkHere_19 : decode cX10_inkHere 19 = .ok (.invokevirtual 185, 3) := by decide +kernel
theorem dX10_inkHere_22 : decode cX10_inkHere 22 = .ok (.bipush 109, 2) := by decide +kernel
theorem dX10_inkHere_24 : decode cX10_inkHere 24 = .ok (.if_icmp .ne 7, 3) := by decide +kernel
theorem dX10_inkHere_27 : decode cX10_inkHere 27 = .ok (.iconst 2, 1) := by decide +kernel
theorem dX10_inkHere_28 : decode cX10_inkHere 28 = .ok (.goto 4, 3) := by decide +kernel
theorem dX10_inkHere_31 : decode cX10_inkHere 31 = .ok (.iconst 4, 1) := by decide +kernel
theorem dX10_inkHere_32 : decode cX10_inkHere 32 = .ok (.iastore, 1) := by decide +kernel
theorem dX10_inkHere_33 : decode cX10_inkHere 33 = .ok (.aload_n 0, 1) := by decide +kernel
theorem dX10_inkHere_34 : decode cX10_inkHere 34 = .ok (.bipush 99, 2) := by decide +kernel
theorem dX10_inkHere_36 : decode cX10_inkHere 36 = .ok (.invokevirtual 199, 3) := by decide +kernel
theorem dX10_inkHere_39 : decode cX10_inkHere 39 = .ok (.ifCond .ne 21, 3) := by decide +kernel
theorem dX10_inkHere_42 : decode cX10_inkHere 42 = .ok (.aload_n 0, 1) := by decide +kernel
theorem dX10_inkHere_43 : decode cX10_inkHere 43 = .ok (.bipush 109, 2) := by decide +kernel
theorem dX10_inkHere_45 : decode cX10_inkHere 45 = .ok (.invokevirtual 199, 3) := by decide +kernel
theorem dX10_inkHere_48 : decode cX10_inkHere 48 = .ok (.ifCond .ne 12, 3) := by decide +kernel
theorem dX10_inkHere_51 : decode cX10_inkHere 51 = .ok (.aload_n 0, 1) := by decide +kernel
theorem dX10_inkHere_52 : decode cX10_inkHere 52 = .ok (.bipush 121, 2) := by decide +kernel
theorem dX10_inkHere_54 : decode cX10_inkHere 54 = .ok (.invokevirtual 199, 3) := by decide +kernel
theorem dX10_inkHere_57 : decode cX10_inkHere 57 = .ok (.ifCond .eq 7, 3) := by decide +kernel
theorem dX10_inkHere_60 : decode cX10_inkHere 60 = .ok (.iconst 1, 1) := by decide +kernel
theorem dX10_inkHere_61 : decode cX10_inkHere 61 = .ok (.goto 4, 3) := by decide +kernel
theorem dX10_inkHere_64 : decode cX10_inkHere 64 = .ok (.iconst 0, 1) := by decide +kernel
theorem dX10_inkHere_65 : decode cX10_inkHere 65 = .ok (.ireturn, 1) := by decide +kernel
theorem dX10_withS_0 : decode cX10_withS 0 = .ok (.aload_n 0, 1) := by decide +kernel
theorem dX10_withS_1 : decode cX10_withS 1 = .ok (.bipush 116, 2) := by decide +kernel
theorem dX10_withS_3 : decode cX10_withS 3 = .ok (.invokevirtual 199, 3) := by decide +kernel
theorem dX10_withS_6 : decode cX10_withS 6 = .ok (.ifCond .eq 56, 3) := by decide +kernel
theorem dX10_withS_9 : decode cX10_withS 9 = .ok (.aload_n 0, 1) := by decide +kernel
theorem dX10_withS_10 : decode cX10_withS 10 = .ok (.iconst 1, 1) := by decide +kernel
theorem dX10_withS_11 : decode cX10_withS 11 = .ok (.ldc 205, 2) := by decide +kernel
theorem dX10_withS_13 : decode cX10_withS 13 = .ok (.invokevirtual 207, 3) := by decide +kernel
theorem dX10_withS_16 : decode cX10_withS 16 = .ok (.ifCond .eq 44, 3) := by decide +kernel
theorem dX10_withS_19 : decode cX10_withS 19 = .ok (.aload_n 0, 1) := by decide +kernel
theorem dX10_withS_20 : decode cX10_withS 20 = .ok (.bipush 32, 2) := by decide +kernel
theorem dX10_withS_22 : decode cX10_withS 22 = .ok (.iload_n 1, 1) := by decide +kernel
theorem dX10_withS_23 : decode cX10_withS 23 = .ok (.iconst 1, 1) := by decide +kernel
theorem dX10_withS_24 : decode cX10_withS 24 = .ok (.invokevirtual 202, 3) := by decide +kernel
theorem dX10_withS_27 : decode cX10_withS 27 = .ok (.ifCond .eq 33, 3) := by decide +kernel
theorem dX10_withS_30 : decode cX10_withS 30 = .ok (.aload_n 0, 1) := by decide +kernel
theorem dX10_withS_31 : decode cX10_withS 31 = .ok (.bipush 32, 2) := by decide +kernel
theorem dX10_withS_33 : decode cX10_withS 33 = .ok (.iload_n 1, 1) := by decide +kernel
theorem dX10_withS_34 : decode cX10_withS 34 = .ok (.iconst 1, 1) := by decide +kernel
theorem dX10_withS_35 : decode cX10_withS 35 = .ok (.iadd, 1) := by decide +kernel
theorem dX10_withS_36 : decode cX10_withS 36 = .ok (.iconst 2, 1) := by decide +kernel
theorem dX10_withS_37 : decode cX10_withS 37 = .ok (.invokevirtual 202, 3) := by decide +kernel
theorem dX10_withS_40 : decode cX10_withS 40 = .ok (.ifCond .eq 20, 3) := by decide +kernel
theorem dX10_withS_43 : decode cX10_withS 43 = .ok (.aload_n 0, 1) := by decide +kernel
theorem dX10_withS_44 : decode cX10_withS 44 = .ok (.bipush 44, 2) := by decide +kernel
theorem dX10_withS_46 : decode cX10_withS 46 = .ok (.iload_n 1, 1) := by decide +kernel
theorem dX10_withS_47 : decode cX10_withS 47 = .ok (.iconst 2, 1) := by decide +kernel
theorem dX10_withS_48 : decode cX10_withS 48 = .ok (.iadd, 1) := by decide +kernel
theorem dX10_withS_49 : decode cX10_withS 49 = .ok (.iconst 1, 1) := by decide +kernel
theorem dX10_withS_50 : decode cX10_withS 50 = .ok (.invokevirtual 202, 3) := by decide +kernel
theorem dX10_withS_53 : decode cX10_withS 53 = .ok (.ifCond .eq 7, 3) := by decide +kernel
theorem dX10_withS_56 : decode cX10_withS 56 = .ok (.iconst 1, 1) := by decide +kernel
theorem dX10_withS_57 : decode cX10_withS 57 = .ok (.goto 4, 3) := by decide +kernel
theorem dX10_withS_60 : decode cX10_withS 60 = .ok (.iconst 0, 1) := by decide +kernel
theorem dX10_withS_61 : decode cX10_withS 61 = .ok (.ireturn, 1) := by decide +kernel
theorem dX10_withS_62 : decode cX10_withS 62 = .ok (.aload_n 0, 1) := by decide +kernel
theorem dX10_withS_63 : decode cX10_withS 63 = .ok (.bipush 104, 2) := by decide +kernel
theorem dX10_withS_65 : decode cX10_withS 65 = .ok (.invokevirtual 199, 3) := by decide +kernel
theorem dX10_withS_68 : decode cX10_withS 68 = .ok (.ifCond .ne 5, 3) := by decide +kernel
theorem dX10_withS_71 : decode cX10_withS 71 = .ok (.iconst 0, 1) := by decide +kernel
theorem dX10_withS_72 : decode cX10_withS 72 = .ok (.ireturn, 1) := by decide +kernel
theorem dX10_withS_73 : decode cX10_withS 73 = .ok (.aload_n 0, 1) := by decide +kernel
theorem dX10_withS_74 : decode cX10_withS 74 = .ok (.bipush 105, 2) := by decide +kernel
theorem dX10_withS_76 : decode cX10_withS 76 = .ok (.invokevirtual 199, 3) := by decide +kernel
theorem dX10_withS_79 : decode cX10_withS 79 = .ok (.ifCond .eq 52, 3) := by decide +kernel
theorem dX10_withS_82 : decode cX10_withS 82 = .ok (.aload_n 0, 1) := by decide +kernel
theorem dX10_withS_83 : decode cX10_withS 83 = .ok (.iconst 2, 1) := by decide +kernel
theorem dX10_withS_84 : decode cX10_withS 84 = .ok (.ldc 211, 2) := by decide +kernel
theorem dX10_withS_86 : decode cX10_withS 86 = .ok (.invokevirtual 207, 3) := by decide +kernel
theorem dX10_withS_89 : decode cX10_withS 89 = .ok (.ifCond .eq 38, 3) := by decide +kernel
theorem dX10_withS_92 : decode cX10_withS 92 = .ok (.aload_n 0, 1) := by decide +kernel
theorem dX10_withS_93 : decode cX10_withS 93 = .ok (.bipush 32, 2) := by decide +kernel
theorem dX10_withS_95 : decode cX10_withS 95 = .ok (.iload_n 1, 1) := by decide +kernel
theorem dX10_withS_96 : decode cX10_withS 96 = .ok (.iconst 1, 1) := by decide +kernel
theorem dX10_withS_97 : decode cX10_withS 97 = .ok (.invokevirtual 202, 3) := by decide +kernel
theorem dX10_withS_100 : decode cX10_withS 100 = .ok (.ifCond .eq 27, 3) := by decide +kernel
theorem dX10_withS_103 : decode cX10_withS 103 = .ok (.aload_n 0, 1) := by decide +kernel
theorem dX10_withS_104 : decode cX10_withS 104 = .ok (.iload_n 1, 1) := by decide +kernel
theorem dX10_withS_105 : decode cX10_withS 105 = .ok (.iconst 1, 1) := by decide +kernel
theorem dX10_withS_106 : decode cX10_withS 106 = .ok (.iadd, 1) := by decide +kernel
theorem dX10_withS_107 : decode cX10_withS 107 = .ok (.invokevirtual 213, 3) := by decide +kernel
theorem dX10_withS_110 : decode cX10_withS 110 = .ok (.ifCond .eq 17, 3) := by decide +kernel
theorem dX10_withS_113 : decode cX10_withS 113 = .ok (.aload_n 0, 1) := by decide +kernel
theorem dX10_withS_114 : decode cX10_withS 114 = .ok (.iload_n 1, 1) := by decide +kernel
theorem dX10_withS_115 : decode cX10_withS 115 = .ok (.iconst 2, 1) := by decide +kernel
theorem dX10_withS_116 : decode cX10_withS 116 = .ok (.iadd, 1) := by decide +kernel
theorem dX10_withS_117 : decode cX10_withS 117 = .ok (.invokevirtual 213, 3) := by decide +kernel
theorem dX10_withS_120 : decode cX10_withS 120 = .ok (.ifCond .eq 7, 3) := by decide +kernel
theorem dX10_withS_123 : decode cX10_withS 123 = .ok (.iconst 1, 1) := by decide +kernel
theorem dX10_withS_124 : decode cX10_withS 124 = .ok (.goto 14, 3) := by decide +kernel
theorem dX10_withS_127 : decode cX10_withS 127 = .ok (.iconst 0, 1) := by decide +kernel
theorem dX10_withS_128 : decode cX10_withS 128 = .ok (.goto 10, 3) := by decide +kernel
theorem dX10_withS_131 : decode cX10_withS 131 = .ok (.aload_n 0, 1) := by decide +kernel
theorem dX10_withS_132 : decode cX10_withS 132 = .ok (.iconst 3, 1) := by decide +kernel
theorem dX10_withS_133 : decode cX10_withS 133 = .ok (.ldc 216, 2) := by decide +kernel
theorem dX10_withS_135 : decode cX10_withS 135 = .ok (.invokevirtual 207, 3) := by decide +kernel
theorem dX10_withS_138 : decode cX10_withS 138 = .ok (.ireturn, 1) := by decide +kernel
theorem dX10_commandHere_0 : decode cX10_commandHere 0 = .ok (.iconst 4, 1) := by decide +kernel
theorem dX10_commandHere_1 : decode cX10_commandHere 1 = .ok (.aload_n 0, 1) := by decide +kernel
theorem dX10_commandHere_2 : decode cX10_commandHere 2 = .ok (.getfield 188, 3) := by decide +kernel
theorem dX10_commandHere_5 : decode cX10_commandHere 5 = .ok (.imul, 1) := by decide +kernel
theorem dX10_commandHere_6 : decode cX10_commandHere 6 = .ok (.iconst 1, 1) := by decide +kernel
theorem dX10_commandHere_7 : decode cX10_commandHere 7 = .ok (.iadd, 1) := by decide +kernel
theorem dX10_commandHere_8 : decode cX10_commandHere 8 = .ok (.istore_n 1, 1) := by decide +kernel
theorem dX10_commandHere_9 : decode cX10_commandHere 9 = .ok (.aload_n 0, 1) := by decide +kernel
theorem dX10_commandHere_10 : decode cX10_commandHere 10 = .ok (.bipush 115, 2) := by decide +kernel
theorem dX10_commandHere_12 : decode cX10_commandHere 12 = .ok (.invokevirtual 199, 3) := by decide +kernel
theorem dX10_commandHere_15 : decode cX10_commandHere 15 = .ok (.ifCond .eq 9, 3) := by decide +kernel
theorem dX10_commandHere_18 : decode cX10_commandHere 18 = .ok (.aload_n 0, 1) := by decide +kernel
theorem dX10_commandHere_19 : decode cX10_commandHere 19 = .ok (.iload_n 1, 1) := by decide +kernel
theorem dX10_commandHere_20 : decode cX10_commandHere 20 = .ok (.invokevirtual 218, 3) := by decide +kernel
theorem dX10_commandHere_23 : decode cX10_commandHere 23 = .ok (.ireturn, 1) := by decide +kernel
theorem dX10_commandHere_24 : decode cX10_commandHere 24 = .ok (.aload_n 0, 1) := by decide +kernel
theorem dX10_commandHere_25 : decode cX10_commandHere 25 = .ok (.bipush 114, 2) := by decide +kernel
theorem dX10_commandHere_27 : decode cX10_commandHere 27 = .ok (.invokevirtual 199, 3) := by decide +kernel
theorem dX10_commandHere_30 : decode cX10_commandHere 30 = .ok (.ifCond .eq 30, 3) := by decide +kernel
theorem dX10_commandHere_33 : decode cX10_commandHere 33 = .ok (.aload_n 0, 1) := by decide +kernel
theorem dX10_commandHere_34 : decode cX10_commandHere 34 = .ok (.iconst 5, 1) := by decide +kernel
theorem dX10_commandHere_35 : decode cX10_commandHere 35 = .ok (.ldc 221, 2) := by decide +kernel
theorem dX10_commandHere_37 : decode cX10_commandHere 37 = .ok (.invokevirtual 207, 3) := by decide +kernel
theorem dX10_commandHere_40 : decode cX10_commandHere 40 = .ok (.ifCond .eq 18, 3) := by decide +kernel
theorem dX10_commandHere_43 : decode cX10_commandHere 43 = .ok (.aload_n 0, 1) := by decide +kernel
theorem dX10_commandHere_44 : decode cX10_commandHere 44 = .ok (.bipush 32, 2) := by decide +kernel
theorem dX10_commandHere_46 : decode cX10_commandHere 46 = .ok (.iload_n 1, 1) := by decide +kernel
theorem dX10_commandHere_47 : decode cX10_commandHere 47 = .ok (.iconst 1, 1) := by decide +kernel
theorem dX10_commandHere_48 : decode cX10_commandHere 48 = .ok (.invokevirtual 202, 3) := by decide +kernel
theorem dX10_commandHere_51 : decode cX10_commandHere 51 = .ok (.ifCond .eq 7, 3) := by decide +kernel
theorem dX10_commandHere_54 : decode cX10_commandHere 54 = .ok (.iconst 1, 1) := by decide +kernel
theorem dX10_commandHere_55 : decode cX10_commandHere 55 = .ok (.goto 4, 3) := by decide +kernel
theorem dX10_commandHere_58 : decode cX10_commandHere 58 = .ok (.iconst 0, 1) := by decide +kernel
theorem dX10_commandHere_59 : decode cX10_commandHere 59 = .ok (.ireturn, 1) := by decide +kernel
theorem dX10_commandHere_60 : decode cX10_commandHere 60 = .ok (.aload_n 0, 1) := by decide +kernel
theorem dX10_commandHere_61 : decode cX10_commandHere 61 = .ok (.bipush 111, 2) := by decide +kernel
theorem dX10_commandHere_63 : decode cX10_commandHere 63 = .ok (.invokevirtual 199, 3) := by decide +kernel
theorem dX10_commandHere_66 : decode cX10_commandHere 66 = .ok (.ifCond .eq 31, 3) := by decide +kernel
theorem dX10_commandHere_69 : decode cX10_commandHere 69 = .ok (.aload_n 0, 1) := by decide +kernel
theorem dX10_commandHere_70 : decode cX10_commandHere 70 = .ok (.bipush 6, 2) := by decide +kernel
theorem dX10_commandHere_72 : decode cX10_commandHere 72 = .ok (.ldc 223, 2) := by decide +kernel
theorem dX10_commandHere_74 : decode cX10_commandHere 74 = .ok (.invokevirtual 207, 3) := by decide +kernel
theorem dX10_commandHere_77 : decode cX10_commandHere 77 = .ok (.ifCond .eq 18, 3) := by decide +kernel
theorem dX10_commandHere_80 : decode cX10_commandHere 80 = .ok (.aload_n 0, 1) := by decide +kernel
theorem dX10_commandHere_81 : decode cX10_commandHere 81 = .ok (.bipush 32, 2) := by decide +kernel
theorem dX10_commandHere_83 : decode cX10_commandHere 83 = .ok (.iload_n 1, 1) := by decide +kernel
theorem dX10_commandHere_84 : decode cX10_commandHere 84 = .ok (.iconst 1, 1) := by decide +kernel
theorem dX10_commandHere_85 : decode cX10_commandHere 85 = .ok (.invokevirtual 202, 3) := by decide +kernel
theorem dX10_commandHere_88 : decode cX10_commandHere 88 = .ok (.ifCond .eq 7, 3) := by decide +kernel
theorem dX10_commandHere_91 : decode cX10_commandHere 91 = .ok (.iconst 1, 1) := by decide +kernel
theorem dX10_commandHere_92 : decode cX10_commandHere 92 = .ok (.goto 4, 3) := by decide +kernel
theorem dX10_commandHere_95 : decode cX10_commandHere 95 = .ok (.iconst 0, 1) := by decide +kernel
theorem dX10_commandHere_96 : decode cX10_commandHere 96 = .ok (.ireturn, 1) := by decide +kernel
theorem dX10_commandHere_97 : decode cX10_commandHere 97 = .ok (.aload_n 0, 1) := by decide +kernel
theorem dX10_commandHere_98 : decode cX10_commandHere 98 = .ok (.bipush 104, 2) := by decide +kernel
theorem dX10_commandHere_100 : decode cX10_commandHere 100 = .ok (.invokevirtual 199, 3) := by decide +kernel
theorem dX10_commandHere_103 : decode cX10_commandHere 103 = .ok (.ifCond .eq 31, 3) := by decide +kernel
theorem dX10_commandHere_106 : decode cX10_commandHere 106 = .ok (.aload_n 0, 1) := by decide +kernel
theorem dX10_commandHere_107 : decode cX10_commandHere 107 = .ok (.bipush 7, 2) := by decide +kernel
theorem dX10_commandHere_109 : decode cX10_commandHere 109 = .ok (.ldc 225, 2) := by decide +kernel
theorem dX10_commandHere_111 : decode cX10_commandHere 111 = .ok (.invokevirtual 207, 3) := by decide +kernel
theorem dX10_commandHere_114 : decode cX10_commandHere 114 = .ok (.ifCond .eq 18, 3) := by decide +kernel
theorem dX10_commandHere_117 : decode cX10_commandHere 117 = .ok (.aload_n 0, 1) := by decide +kernel
theorem dX10_commandHere_118 : decode cX10_commandHere 118 = .ok (.bipush 32, 2) := by decide +kernel
theorem dX10_commandHere_120 : decode cX10_commandHere 120 = .ok (.iload_n 1, 1) := by decide +kernel
theorem dX10_commandHere_121 : decode cX10_commandHere 121 = .ok (.iconst 2, 1) := by decide +kernel
theorem dX10_commandHere_122 : decode cX10_commandHere 122 = .ok (.invokevirtual 202, 3) := by decide +kernel
theorem dX10_commandHere_125 : decode cX10_commandHere 125 = .ok (.ifCond .eq 7, 3) := by decide +kernel
theorem dX10_commandHere_128 : decode cX10_commandHere 128 = .ok (.iconst 1, 1) := by decide +kernel
theorem dX10_commandHere_129 : decode cX10_commandHere 129 = .ok (.goto 4, 3) := by decide +kernel
theorem dX10_commandHere_132 : decode cX10_commandHere 132 = .ok (.iconst 0, 1) := by decide +kernel
theorem dX10_commandHere_133 : decode cX10_commandHere 133 = .ok (.ireturn, 1) := by decide +kernel
theorem dX10_commandHere_134 : decode cX10_commandHere 134 = .ok (.aload_n 0, 1) := by decide +kernel
theorem dX10_commandHere_135 : decode cX10_commandHere 135 = .ok (.bipush 112, 2) := by decide +kernel
theorem dX10_commandHere_137 : decode cX10_commandHere 137 = .ok (.invokevirtual 199, 3) := by decide +kernel
theorem dX10_commandHere_140 : decode cX10_commandHere 140 = .ok (.ifCond .ne 5, 3) := by decide +kernel
theorem dX10_commandHere_143 : decode cX10_commandHere 143 = .ok (.iconst 0, 1) := by decide +kernel
theorem dX10_commandHere_144 : decode cX10_commandHere 144 = .ok (.ireturn, 1) := by decide +kernel
theorem dX10_commandHere_145 : decode cX10_commandHere 145 = .ok (.aload_n 0, 1) := by decide +kernel
theorem dX10_commandHere_146 : decode cX10_commandHere 146 = .ok (.bipush 114, 2) := by decide +kernel
theorem dX10_commandHere_148 : decode cX10_commandHere 148 = .ok (.invokevirtual 199, 3) := by decide +kernel
theorem dX10_commandHere_151 : decode cX10_commandHere 151 = .ok (.ifCond .eq 45, 3) := by decide +kernel
theorem dX10_commandHere_154 : decode cX10_commandHere 154 = .ok (.aload_n 0, 1) := by decide +kernel
theorem dX10_commandHere_155 : decode cX10_commandHere 155 = .ok (.iconst 4, 1) := by decide +kernel
theorem dX10_commandHere_156 : decode cX10_commandHere 156 = .ok (.ldc 227, 2) := by decide +kernel
theorem dX10_commandHere_158 : decode cX10_commandHere 158 = .ok (.invokevirtual 207, 3) := by decide +kernel
theorem dX10_commandHere_161 : decode cX10_commandHere 161 = .ok (.ifCond .eq 31, 3) := by decide +kernel
theorem dX10_commandHere_164 : decode cX10_commandHere 164 = .ok (.aload_n 0, 1) := by decide +kernel
theorem dX10_commandHere_165 : decode cX10_commandHere 165 = .ok (.bipush 32, 2) := by decide +kernel
theorem dX10_commandHere_167 : decode cX10_commandHere 167 = .ok (.iload_n 1, 1) := by decide +kernel
theorem dX10_commandHere_168 : decode cX10_commandHere 168 = .ok (.iconst 1, 1) := by decide +kernel
theorem dX10_commandHere_169 : decode cX10_commandHere 169 = .ok (.invokevirtual 202, 3) := by decide +kernel
theorem dX10_commandHere_172 : decode cX10_commandHere 172 = .ok (.ifCond .eq 20, 3) := by decide +kernel
theorem dX10_commandHere_175 : decode cX10_commandHere 175 = .ok (.aload_n 0, 1) := by decide +kernel
theorem dX10_commandHere_176 : decode cX10_commandHere 176 = .ok (.bipush 62, 2) := by decide +kernel
theorem dX10_commandHere_178 : decode cX10_commandHere 178 = .ok (.iload_n 1, 1) := by decide +kernel
theorem dX10_commandHere_179 : decode cX10_commandHere 179 = .ok (.iconst 1, 1) := by decide +kernel
theorem dX10_commandHere_180 : decode cX10_commandHere 180 = .ok (.iadd, 1) := by decide +kernel
theorem dX10_commandHere_181 : decode cX10_commandHere 181 = .ok (.iconst 1, 1) := by decide +kernel
theorem dX10_commandHere_182 : decode cX10_commandHere 182 = .ok (.invokevirtual 202, 3) := by decide +kernel
theorem dX10_commandHere_185 : decode cX10_commandHere 185 = .ok (.ifCond .eq 7, 3) := by decide +kernel
theorem dX10_commandHere_188 : decode cX10_commandHere 188 = .ok (.iconst 1, 1) := by decide +kernel
theorem dX10_commandHere_189 : decode cX10_commandHere 189 = .ok (.goto 30, 3) := by decide +kernel
theorem dX10_commandHere_192 : decode cX10_commandHere 192 = .ok (.iconst 0, 1) := by decide +kernel
theorem dX10_commandHere_193 : decode cX10_commandHere 193 = .ok (.goto 26, 3) := by decide +kernel
theorem dX10_commandHere_196 : decode cX10_commandHere 196 = .ok (.aload_n 0, 1) := by decide +kernel
theorem dX10_commandHere_197 : decode cX10_commandHere 197 = .ok (.iconst 0, 1) := by decide +kernel
theorem dX10_commandHere_198 : decode cX10_commandHere 198 = .ok (.ldc 229, 2) := by decide +kernel
theorem dX10_commandHere_200 : decode cX10_commandHere 200 = .ok (.invokevirtual 207, 3) := by decide +kernel
theorem dX10_commandHere_203 : decode cX10_commandHere 203 = .ok (.ifCond .eq 15, 3) := by decide +kernel
theorem dX10_commandHere_206 : decode cX10_commandHere 206 = .ok (.aload_n 0, 1) := by decide +kernel
theorem dX10_commandHere_207 : decode cX10_commandHere 207 = .ok (.iload_n 1, 1) := by decide +kernel
theorem dX10_commandHere_208 : decode cX10_commandHere 208 = .ok (.invokevirtual 231, 3) := by decide +kernel
theorem dX10_commandHere_211 : decode cX10_commandHere 211 = .ok (.ifCond .eq 7, 3) := by decide +kernel
theorem dX10_commandHere_214 : decode cX10_commandHere 214 = .ok (.iconst 1, 1) := by decide +kernel
theorem dX10_commandHere_215 : decode cX10_commandHere 215 = .ok (.goto 4, 3) := by decide +kernel
theorem dX10_commandHere_218 : decode cX10_commandHere 218 = .ok (.iconst 0, 1) := by decide +kernel
theorem dX10_commandHere_219 : decode cX10_commandHere 219 = .ok (.ireturn, 1) := by decide +kernel
theorem dX10_isText_0 : decode cX10_isText 0 = .ok (.aload_n 0, 1) := by decide +kernel
theorem dX10_isText_1 : decode cX10_isText 1 = .ok (.iconst 0, 1) := by decide +kernel
theorem dX10_isText_2 : decode cX10_isText 2 = .ok (.putfield 182, 3) := by decide +kernel
theorem dX10_isText_5 : decode cX10_isText 5 = .ok (.aload_n 0, 1) := by decide +kernel
theorem dX10_isText_6 : decode cX10_isText 6 = .ok (.iconst 0, 1) := by decide +kernel
theorem dX10_isText_7 : decode cX10_isText 7 = .ok (.putfield 188, 3) := by decide +kernel
theorem dX10_isText_10 : decode cX10_isText 10 = .ok (.aload_n 0, 1) := by decide +kernel
theorem dX10_isText_11 : decode cX10_isText 11 = .ok (.invokevirtual 234, 3) := by decide +kernel
theorem dX10_isText_14 : decode cX10_isText 14 = .ok (.ifCond .ne 5, 3) := by decide +kernel
theorem dX10_isText_17 : decode cX10_isText 17 = .ok (.iconst 0, 1) := by decide +kernel
theorem dX10_isText_18 : decode cX10_isText 18 = .ok (.ireturn, 1) := by decide +kernel
theorem dX10_isText_19 : decode cX10_isText 19 = .ok (.aload_n 0, 1) := by decide +kernel
theorem dX10_isText_20 : decode cX10_isText 20 = .ok (.dup, 1) := by decide +kernel
theorem dX10_isText_21 : decode cX10_isText 21 = .ok (.getfield 188, 3) := by decide +kernel
theorem dX10_isText_24 : decode cX10_isText 24 = .ok (.iconst 1, 1) := by decide +kernel
theorem dX10_isText_25 : decode cX10_isText 25 = .ok (.iadd, 1) := by decide +kernel
theorem dX10_isText_26 : decode cX10_isText 26 = .ok (.putfield 188, 3) := by decide +kernel
theorem dX10_isText_29 : decode cX10_isText 29 = .ok (.aload_n 0, 1) := by decide +kernel
theorem dX10_isText_30 : decode cX10_isText 30 = .ok (.bipush 59, 2) := by decide +kernel
theorem dX10_isText_32 : decode cX10_isText 32 = .ok (.invokevirtual 199, 3) := by decide +kernel
theorem dX10_isText_35 : decode cX10_isText 35 = .ok (.ifCond .ne (-25), 3) := by decide +kernel
theorem dX10_isText_38 : decode cX10_isText 38 = .ok (.aload_n 0, 1) := by decide +kernel
theorem dX10_isText_39 : decode cX10_isText 39 = .ok (.getfield 182, 3) := by decide +kernel
theorem dX10_isText_42 : decode cX10_isText 42 = .ok (.aload_n 0, 1) := by decide +kernel
theorem dX10_isText_43 : decode cX10_isText 43 = .ok (.getfield 179, 3) := by decide +kernel
theorem dX10_isText_46 : decode cX10_isText 46 = .ok (.if_icmp .ne 7, 3) := by decide +kernel
theorem dX10_isText_49 : decode cX10_isText 49 = .ok (.iconst 1, 1) := by decide +kernel
theorem dX10_isText_50 : decode cX10_isText 50 = .ok (.goto 4, 3) := by decide +kernel
theorem dX10_isText_53 : decode cX10_isText 53 = .ok (.iconst 0, 1) := by decide +kernel
theorem dX10_isText_54 : decode cX10_isText 54 = .ok (.ireturn, 1) := by decide +kernel
theorem dX10_carries_0 : decode cX10_carries 0 = .ok (.aload_n 0, 1) := by decide +kernel
theorem dX10_carries_1 : decode cX10_carries 1 = .ok (.getfield 36, 3) := by decide +kernel
theorem dX10_carries_4 : decode cX10_carries 4 = .ok (.iload_n 1, 1) := by decide +kernel
theorem dX10_carries_5 : decode cX10_carries 5 = .ok (.iconst 1, 1) := by decide +kernel
theorem dX10_carries_6 : decode cX10_carries 6 = .ok (.iadd, 1) := by decide +kernel
theorem dX10_carries_7 : decode cX10_carries 7 = .ok (.iaload, 1) := by decide +kernel
theorem dX10_carries_8 : decode cX10_carries 8 = .ok (.istore_n 2, 1) := by decide +kernel
theorem dX10_carries_9 : decode cX10_carries 9 = .ok (.aload_n 0, 1) := by decide +kernel
theorem dX10_carries_10 : decode cX10_carries 10 = .ok (.getfield 36, 3) := by decide +kernel
theorem dX10_carries_13 : decode cX10_carries 13 = .ok (.iload_n 1, 1) := by decide +kernel
theorem dX10_carries_14 : decode cX10_carries 14 = .ok (.iconst 2, 1) := by decide +kernel
theorem dX10_carries_15 : decode cX10_carries 15 = .ok (.iadd, 1) := by decide +kernel
theorem dX10_carries_16 : decode cX10_carries 16 = .ok (.iaload, 1) := by decide +kernel
theorem dX10_carries_17 : decode cX10_carries 17 = .ok (.istore_n 3, 1) := by decide +kernel
theorem dX10_carries_18 : decode cX10_carries 18 = .ok (.aload_n 0, 1) := by decide +kernel
theorem dX10_carries_19 : decode cX10_carries 19 = .ok (.getfield 36, 3) := by decide +kernel
theorem dX10_carries_22 : decode cX10_carries 22 = .ok (.iload_n 1, 1) := by decide +kernel
theorem dX10_carries_23 : decode cX10_carries 23 = .ok (.iconst 3, 1) := by decide +kernel
theorem dX10_carries_24 : decode cX10_carries 24 = .ok (.iadd, 1) := by decide +kernel
theorem dX10_carries_25 : decode cX10_carries 25 = .ok (.iaload, 1) := by decide +kernel
theorem dX10_carries_26 : decode cX10_carries 26 = .ok (.istore 4, 2) := by decide +kernel
theorem dX10_carries_28 : decode cX10_carries 28 = .ok (.aload_n 0, 1) := by decide +kernel
theorem dX10_carries_29 : decode cX10_carries 29 = .ok (.getfield 36, 3) := by decide +kernel
theorem dX10_carries_32 : decode cX10_carries 32 = .ok (.iload_n 1, 1) := by decide +kernel
theorem dX10_carries_33 : decode cX10_carries 33 = .ok (.iaload, 1) := by decide +kernel
theorem dX10_carries_34 : decode cX10_carries 34 = .ok (.tableswitch 90 0 6 #[42, 48, 57, 66, 71, 78, 84], 42) := by decide +kernel
theorem dX10_carries_76 : decode cX10_carries 76 = .ok (.aload_n 0, 1) := by decide +kernel
theorem dX10_carries_77 : decode cX10_carries 77 = .ok (.iload_n 2, 1) := by decide +kernel
theorem dX10_carries_78 : decode cX10_carries 78 = .ok (.invokevirtual 238, 3) := by decide +kernel
theorem dX10_carries_81 : decode cX10_carries 81 = .ok (.ireturn, 1) := by decide +kernel
theorem dX10_carries_82 : decode cX10_carries 82 = .ok (.aload_n 0, 1) := by decide +kernel
theorem dX10_carries_83 : decode cX10_carries 83 = .ok (.iload_n 2, 1) := by decide +kernel
theorem dX10_carries_84 : decode cX10_carries 84 = .ok (.iload_n 3, 1) := by decide +kernel
theorem dX10_carries_85 : decode cX10_carries 85 = .ok (.iload 4, 2) := by decide +kernel
theorem dX10_carries_87 : decode cX10_carries 87 = .ok (.invokevirtual 241, 3) := by decide +kernel
theorem dX10_carries_90 : decode cX10_carries 90 = .ok (.ireturn, 1) := by decide +kernel
theorem dX10_carries_91 : decode cX10_carries 91 = .ok (.aload_n 0, 1) := by decide +kernel
theorem dX10_carries_92 : decode cX10_carries 92 = .ok (.iload_n 2, 1) := by decide +kernel
theorem dX10_carries_93 : decode cX10_carries 93 = .ok (.iload_n 3, 1) := by decide +kernel
theorem dX10_carries_94 : decode cX10_carries 94 = .ok (.iload 4, 2) := by decide +kernel
theorem dX10_carries_96 : decode cX10_carries 96 = .ok (.invokevirtual 244, 3) := by decide +kernel
theorem dX10_carries_99 : decode cX10_carries 99 = .ok (.ireturn, 1) := by decide +kernel
theorem dX10_carries_100 : decode cX10_carries 100 = .ok (.aload_n 0, 1) := by decide +kernel
theorem dX10_carries_101 : decode cX10_carries 101 = .ok (.invokevirtual 247, 3) := by decide +kernel
theorem dX10_carries_104 : decode cX10_carries 104 = .ok (.ireturn, 1) := by decide +kernel
theorem dX10_carries_105 : decode cX10_carries 105 = .ok (.aload_n 0, 1) := by decide +kernel
theorem dX10_carries_106 : decode cX10_carries 106 = .ok (.iload_n 2, 1) := by decide +kernel
theorem dX10_carries_107 : decode cX10_carries 107 = .ok (.iload_n 3, 1) := by decide +kernel
theorem dX10_carries_108 : decode cX10_carries 108 = .ok (.invokevirtual 250, 3) := by decide +kernel
theorem dX10_carries_111 : decode cX10_carries 111 = .ok (.ireturn, 1) := by decide +kernel
theorem dX10_carries_112 : decode cX10_carries 112 = .ok (.aload_n 0, 1) := by decide +kernel
theorem dX10_carries_113 : decode cX10_carries 113 = .ok (.iload_n 2, 1) := by decide +kernel
theorem dX10_carries_114 : decode cX10_carries 114 = .ok (.invokevirtual 253, 3) := by decide +kernel
theorem dX10_carries_117 : decode cX10_carries 117 = .ok (.ireturn, 1) := by decide +kernel
theorem dX10_carries_118 : decode cX10_carries 118 = .ok (.aload_n 0, 1) := by decide +kernel
theorem dX10_carries_119 : decode cX10_carries 119 = .ok (.iload_n 2, 1) := by decide +kernel
theorem dX10_carries_120 : decode cX10_carries 120 = .ok (.invokevirtual 256, 3) := by decide +kernel
theorem dX10_carries_123 : decode cX10_carries 123 = .ok (.ireturn, 1) := by decide +kernel
theorem dX10_carries_124 : decode cX10_carries 124 = .ok (.aload_n 0, 1) := by decide +kernel
theorem dX10_carries_125 : decode cX10_carries 125 = .ok (.iload_n 2, 1) := by decide +kernel
theorem dX10_carries_126 : decode cX10_carries 126 = .ok (.invokevirtual 259, 3) := by decide +kernel
theorem dX10_carries_129 : decode cX10_carries 129 = .ok (.ireturn, 1) := by decide +kernel
theorem dX10_execute_0 : decode cX10_execute 0 = .ok (.aload_n 0, 1) := by decide +kernel
theorem dX10_execute_1 : decode cX10_execute 1 = .ok (.invokevirtual 262, 3) := by decide +kernel
theorem dX10_execute_4 : decode cX10_execute 4 = .ok (.istore_n 1, 1) := by decide +kernel
theorem dX10_execute_5 : decode cX10_execute 5 = .ok (.iload_n 1, 1) := by decide +kernel
theorem dX10_execute_6 : decode cX10_execute 6 = .ok (.ifCond .ne 11, 3) := by decide +kernel
theorem dX10_execute_9 : decode cX10_execute 9 = .ok (.aload_n 0, 1) := by decide +kernel
theorem dX10_execute_10 : decode cX10_execute 10 = .ok (.aload_n 0, 1) := by decide +kernel
theorem dX10_execute_11 : decode cX10_execute 11 = .ok (.getfield 182, 3) := by decide +kernel
theorem dX10_execute_14 : decode cX10_execute 14 = .ok (.putfield 25, 3) := by decide +kernel
theorem dX10_execute_17 : decode cX10_execute 17 = .ok (.aload_n 0, 1) := by decide +kernel
theorem dX10_execute_18 : decode cX10_execute 18 = .ok (.iconst 0, 1) := by decide +kernel
theorem dX10_execute_19 : decode cX10_execute 19 = .ok (.putfield 179, 3) := by decide +kernel
theorem dX10_execute_22 : decode cX10_execute 22 = .ok (.aload_n 0, 1) := by decide +kernel
theorem dX10_execute_23 : decode cX10_execute 23 = .ok (.iload_n 1, 1) := by decide +kernel
theorem dX10_execute_24 : decode cX10_execute 24 = .ok (.ifCond .eq 7, 3) := by decide +kernel
theorem dX10_execute_27 : decode cX10_execute 27 = .ok (.iconst 0, 1) := by decide +kernel
theorem dX10_execute_28 : decode cX10_execute 28 = .ok (.goto 4, 3) := by decide +kernel
theorem dX10_execute_31 : decode cX10_execute 31 = .ok (.iconst 1, 1) := by decide +kernel
theorem dX10_execute_32 : decode cX10_execute 32 = .ok (.invokevirtual 80, 3) := by decide +kernel
theorem dX10_execute_35 : decode cX10_execute 35 = .ok (.ifCond .eq 5, 3) := by decide +kernel
theorem dX10_execute_38 : decode cX10_execute 38 = .ok (.iconst 0, 1) := by decide +kernel
theorem dX10_execute_39 : decode cX10_execute 39 = .ok (.ireturn, 1) := by decide +kernel
theorem dX10_execute_40 : decode cX10_execute 40 = .ok (.aload_n 0, 1) := by decide +kernel
theorem dX10_execute_41 : decode cX10_execute 41 = .ok (.getfield 7, 3) := by decide +kernel
theorem dX10_execute_44 : decode cX10_execute 44 = .ok (.iconst 0, 1) := by decide +kernel
theorem dX10_execute_45 : decode cX10_execute 45 = .ok (.aload_n 0, 1) := by decide +kernel
theorem dX10_execute_46 : decode cX10_execute 46 = .ok (.getfield 19, 3) := by decide +kernel
theorem dX10_execute_49 : decode cX10_execute 49 = .ok (.iconst 0, 1) := by decide +kernel
theorem dX10_execute_50 : decode cX10_execute 50 = .ok (.invokestatic 55, 3) := by decide +kernel
theorem dX10_execute_53 : decode cX10_execute 53 = .ok (.aload_n 0, 1) := by decide +kernel
theorem dX10_execute_54 : decode cX10_execute 54 = .ok (.iconst 1, 1) := by decide +kernel
theorem dX10_execute_55 : decode cX10_execute 55 = .ok (.putfield 48, 3) := by decide +kernel
theorem dX10_execute_58 : decode cX10_execute 58 = .ok (.iconst 0, 1) := by decide +kernel
theorem dX10_execute_59 : decode cX10_execute 59 = .ok (.istore_n 2, 1) := by decide +kernel
theorem dX10_execute_60 : decode cX10_execute 60 = .ok (.iconst 0, 1) := by decide +kernel
theorem dX10_execute_61 : decode cX10_execute 61 = .ok (.istore_n 3, 1) := by decide +kernel
theorem dX10_execute_62 : decode cX10_execute 62 = .ok (.iload_n 2, 1) := by decide +kernel
theorem dX10_execute_63 : decode cX10_execute 63 = .ok (.aload_n 0, 1) := by decide +kernel
theorem dX10_execute_64 : decode cX10_execute 64 = .ok (.getfield 188, 3) := by decide +kernel
theorem dX10_execute_67 : decode cX10_execute 67 = .ok (.if_icmp .ge 31, 3) := by decide +kernel
theorem dX10_execute_70 : decode cX10_execute 70 = .ok (.aload_n 0, 1) := by decide +kernel
theorem dX10_execute_71 : decode cX10_execute 71 = .ok (.getfield 39, 3) := by decide +kernel
theorem dX10_execute_74 : decode cX10_execute 74 = .ok (.ifCond .ne 24, 3) := by decide +kernel
theorem dX10_execute_77 : decode cX10_execute 77 = .ok (.aload_n 0, 1) := by decide +kernel
theorem dX10_execute_78 : decode cX10_execute 78 = .ok (.iconst 4, 1) := by decide +kernel
theorem dX10_execute_79 : decode cX10_execute 79 = .ok (.iload_n 2, 1) := by decide +kernel
theorem dX10_execute_80 : decode cX10_execute 80 = .ok (.imul, 1) := by decide +kernel
theorem dX10_execute_81 : decode cX10_execute 81 = .ok (.invokevirtual 265, 3) := by decide +kernel
theorem dX10_execute_84 : decode cX10_execute 84 = .ok (.istore_n 3, 1) := by decide +kernel
theorem dX10_execute_85 : decode cX10_execute 85 = .ok (.aload_n 0, 1) := by decide +kernel
theorem dX10_execute_86 : decode cX10_execute 86 = .ok (.getfield 39, 3) := by decide +kernel
theorem dX10_execute_89 : decode cX10_execute 89 = .ok (.ifCond .ne (-27), 3) := by decide +kernel
theorem dX10_execute_92 : decode cX10_execute 92 = .ok (.iinc 2 1, 3) := by decide +kernel
theorem dX10_execute_95 : decode cX10_execute 95 = .ok (.goto (-33), 3) := by decide +kernel
theorem dX10_execute_98 : decode cX10_execute 98 = .ok (.aload_n 0, 1) := by decide +kernel
theorem dX10_execute_99 : decode cX10_execute 99 = .ok (.iconst 0, 1) := by decide +kernel
theorem dX10_execute_100 : decode cX10_execute 100 = .ok (.putfield 48, 3) := by decide +kernel
theorem dX10_execute_103 : decode cX10_execute 103 = .ok (.aload_n 0, 1) := by decide +kernel
theorem dX10_execute_104 : decode cX10_execute 104 = .ok (.getfield 39, 3) := by decide +kernel
theorem dX10_execute_107 : decode cX10_execute 107 = .ok (.ifCond .le 36, 3) := by decide +kernel
theorem dX10_execute_110 : decode cX10_execute 110 = .ok (.aload_n 0, 1) := by decide +kernel
theorem dX10_execute_111 : decode cX10_execute 111 = .ok (.getfield 19, 3) := by decide +kernel
theorem dX10_execute_114 : decode cX10_execute 114 = .ok (.iconst 0, 1) := by decide +kernel
theorem dX10_execute_115 : decode cX10_execute 115 = .ok (.aload_n 0, 1) := by decide +kernel
theorem dX10_execute_116 : decode cX10_execute 116 = .ok (.getfield 7, 3) := by decide +kernel
theorem dX10_execute_119 : decode cX10_execute 119 = .ok (.iconst 0, 1) := by decide +kernel
theorem dX10_execute_120 : decode cX10_execute 120 = .ok (.invokestatic 55, 3) := by decide +kernel
theorem dX10_execute_123 : decode cX10_execute 123 = .ok (.aload_n 0, 1) := by decide +kernel
theorem dX10_execute_124 : decode cX10_execute 124 = .ok (.iload_n 2, 1) := by decide +kernel
theorem dX10_execute_125 : decode cX10_execute 125 = .ok (.putfield 29, 3) := by decide +kernel
theorem dX10_execute_128 : decode cX10_execute 128 = .ok (.aload_n 0, 1) := by decide +kernel
theorem dX10_execute_129 : decode cX10_execute 129 = .ok (.iconst 2, 1) := by decide +kernel
theorem dX10_execute_130 : decode cX10_execute 130 = .ok (.putfield 39, 3) := by decide +kernel
theorem dX10_execute_133 : decode cX10_execute 133 = .ok (.iload_n 3, 1) := by decide +kernel
theorem dX10_execute_134 : decode cX10_execute 134 = .ok (.ifCond .le 7, 3) := by decide +kernel
theorem dX10_execute_137 : decode cX10_execute 137 = .ok (.iconst 0, 1) := by decide +kernel
theorem dX10_execute_138 : decode cX10_execute 138 = .ok (.goto 4, 3) := by decide +kernel
theorem dX10_execute_141 : decode cX10_execute 141 = .ok (.iload_n 3, 1) := by decide +kernel
theorem dX10_execute_142 : decode cX10_execute 142 = .ok (.ireturn, 1) := by decide +kernel
theorem dX10_execute_143 : decode cX10_execute 143 = .ok (.aload_n 0, 1) := by decide +kernel
theorem dX10_execute_144 : decode cX10_execute 144 = .ok (.aload_n 0, 1) := by decide +kernel
theorem dX10_execute_145 : decode cX10_execute 145 = .ok (.getfield 19, 3) := by decide +kernel
theorem dX10_execute_148 : decode cX10_execute 148 = .ok (.invokevirtual 84, 3) := by decide +kernel
theorem dX10_execute_151 : decode cX10_execute 151 = .ok (.aload_n 0, 1) := by decide +kernel
theorem dX10_execute_152 : decode cX10_execute 152 = .ok (.getfield 188, 3) := by decide +kernel
theorem dX10_execute_155 : decode cX10_execute 155 = .ok (.ireturn, 1) := by decide +kernel
theorem dX10_errorPosition_0 : decode cX10_errorPosition 0 = .ok (.aload_n 0, 1) := by decide +kernel
theorem dX10_errorPosition_1 : decode cX10_errorPosition 1 = .ok (.aload_n 0, 1) := by decide +kernel
theorem dX10_errorPosition_2 : decode cX10_errorPosition 2 = .ok (.getfield 25, 3) := by decide +kernel
theorem dX10_errorPosition_5 : decode cX10_errorPosition 5 = .ok (.ifCond .ge 7, 3) := by decide +kernel
theorem dX10_errorPosition_8 : decode cX10_errorPosition 8 = .ok (.iconst 1, 1) := by decide +kernel
theorem dX10_errorPosition_9 : decode cX10_errorPosition 9 = .ok (.goto 4, 3) := by decide +kernel
theorem dX10_errorPosition_12 : decode cX10_errorPosition 12 = .ok (.iconst 0, 1) := by decide +kernel
theorem dX10_errorPosition_13 : decode cX10_errorPosition 13 = .ok (.invokevirtual 80, 3) := by decide +kernel
theorem dX10_errorPosition_16 : decode cX10_errorPosition 16 = .ok (.ifCond .eq 7, 3) := by decide +kernel
theorem dX10_errorPosition_19 : decode cX10_errorPosition 19 = .ok (.iconst 0, 1) := by decide +kernel
theorem dX10_errorPosition_20 : decode cX10_errorPosition 20 = .ok (.goto 7, 3) := by decide +kernel
theorem dX10_errorPosition_23 : decode cX10_errorPosition 23 = .ok (.aload_n 0, 1) := by decide +kernel
theorem dX10_errorPosition_24 : decode cX10_errorPosition 24 = .ok (.getfield 25, 3) := by decide +kernel
theorem dX10_errorPosition_27 : decode cX10_errorPosition 27 = .ok (.ireturn, 1) := by decide +kernel
theorem dX10_failedCommand_0 : decode cX10_failedCommand 0 = .ok (.aload_n 0, 1) := by decide +kernel
theorem dX10_failedCommand_1 : decode cX10_failedCommand 1 = .ok (.aload_n 0, 1) := by decide +kernel
theorem dX10_failedCommand_2 : decode cX10_failedCommand 2 = .ok (.getfield 29, 3) := by decide +kernel
theorem dX10_failedCommand_5 : decode cX10_failedCommand 5 = .ok (.ifCond .ge 7, 3) := by decide +kernel
theorem dX10_failedCommand_8 : decode cX10_failedCommand 8 = .ok (.iconst 1, 1) := by decide +kernel
theorem dX10_failedCommand_9 : decode cX10_failedCommand 9 = .ok (.goto 4, 3) := by decide +kernel
theorem dX10_failedCommand_12 : decode cX10_failedCommand 12 = .ok (.iconst 0, 1) := by decide +kernel
theorem dX10_failedCommand_13 : decode cX10_failedCommand 13 = .ok (.invokevirtual 80, 3) := by decide +kernel
theorem dX10_failedCommand_16 : decode cX10_failedCommand 16 = .ok (.ifCond .eq 7, 3) := by decide +kernel
theorem dX10_failedCommand_19 : decode cX10_failedCommand 19 = .ok (.iconst 0, 1) := by decide +kernel
theorem dX10_failedCommand_20 : decode cX10_failedCommand 20 = .ok (.goto 7, 3) := by decide +kernel
theorem dX10_failedCommand_23 : decode cX10_failedCommand 23 = .ok (.aload_n 0, 1) := by decide +kernel
theorem dX10_failedCommand_24 : decode cX10_failedCommand 24 = .ok (.getfield 29, 3) := by decide +kernel
theorem dX10_failedCommand_27 : decode cX10_failedCommand 27 = .ok (.ireturn, 1) := by decide +kernel
theorem dX10_undo_0 : decode cX10_undo 0 = .ok (.aload_n 0, 1) := by decide +kernel
theorem dX10_undo_1 : decode cX10_undo 1 = .ok (.aload_n 0, 1) := by decide +kernel
theorem dX10_undo_2 : decode cX10_undo 2 = .ok (.getfield 52, 3) := by decide +kernel
theorem dX10_undo_5 : decode cX10_undo 5 = .ok (.ifCond .ne 7, 3) := by decide +kernel
theorem dX10_undo_8 : decode cX10_undo 8 = .ok (.iconst 1, 1) := by decide +kernel
theorem dX10_undo_9 : decode cX10_undo 9 = .ok (.goto 4, 3) := by decide +kernel
theorem dX10_undo_12 : decode cX10_undo 12 = .ok (.iconst 0, 1) := by decide +kernel
theorem dX10_undo_13 : decode cX10_undo 13 = .ok (.invokevirtual 80, 3) := by decide +kernel
theorem dX10_undo_16 : decode cX10_undo 16 = .ok (.ifCond .eq 5, 3) := by decide +kernel
theorem dX10_undo_19 : decode cX10_undo 19 = .ok (.iconst 0, 1) := by decide +kernel
theorem dX10_undo_20 : decode cX10_undo 20 = .ok (.ireturn, 1) := by decide +kernel
theorem dX10_undo_21 : decode cX10_undo 21 = .ok (.aload_n 0, 1) := by decide +kernel
theorem dX10_undo_22 : decode cX10_undo 22 = .ok (.dup, 1) := by decide +kernel
theorem dX10_undo_23 : decode cX10_undo 23 = .ok (.getfield 52, 3) := by decide +kernel
theorem dX10_undo_26 : decode cX10_undo 26 = .ok (.iconst 1, 1) := by decide +kernel
theorem dX10_undo_27 : decode cX10_undo 27 = .ok (.isub, 1) := by decide +kernel
theorem dX10_undo_28 : decode cX10_undo 28 = .ok (.putfield 52, 3) := by decide +kernel
theorem dX10_undo_31 : decode cX10_undo 31 = .ok (.aload_n 0, 1) := by decide +kernel
theorem dX10_undo_32 : decode cX10_undo 32 = .ok (.getfield 13, 3) := by decide +kernel
theorem dX10_undo_35 : decode cX10_undo 35 = .ok (.sipush 267, 3) := by decide +kernel
theorem dX10_undo_38 : decode cX10_undo 38 = .ok (.aload_n 0, 1) := by decide +kernel
theorem dX10_undo_39 : decode cX10_undo 39 = .ok (.getfield 52, 3) := by decide +kernel
theorem dX10_undo_42 : decode cX10_undo 42 = .ok (.imul, 1) := by decide +kernel
theorem dX10_undo_43 : decode cX10_undo 43 = .ok (.aload_n 0, 1) := by decide +kernel
theorem dX10_undo_44 : decode cX10_undo 44 = .ok (.getfield 7, 3) := by decide +kernel
theorem dX10_undo_47 : decode cX10_undo 47 = .ok (.iconst 0, 1) := by decide +kernel
theorem dX10_undo_48 : decode cX10_undo 48 = .ok (.invokestatic 55, 3) := by decide +kernel
theorem dX10_undo_51 : decode cX10_undo 51 = .ok (.aload_n 0, 1) := by decide +kernel
theorem dX10_undo_52 : decode cX10_undo 52 = .ok (.getfield 52, 3) := by decide +kernel
theorem dX10_undo_55 : decode cX10_undo 55 = .ok (.ireturn, 1) := by decide +kernel
theorem dX10_undoCount_0 : decode cX10_undoCount 0 = .ok (.aload_n 0, 1) := by decide +kernel
theorem dX10_undoCount_1 : decode cX10_undoCount 1 = .ok (.iconst 0, 1) := by decide +kernel
theorem dX10_undoCount_2 : decode cX10_undoCount 2 = .ok (.putfield 39, 3) := by decide +kernel
theorem dX10_undoCount_5 : decode cX10_undoCount 5 = .ok (.aload_n 0, 1) := by decide +kernel
theorem dX10_undoCount_6 : decode cX10_undoCount 6 = .ok (.getfield 52, 3) := by decide +kernel
theorem dX10_undoCount_9 : decode cX10_undoCount 9 = .ok (.ireturn, 1) := by decide +kernel
theorem dX10_save_0 : decode cX10_save 0 = .ok (.aload_n 0, 1) := by decide +kernel
theorem dX10_save_1 : decode cX10_save 1 = .ok (.iconst 0, 1) := by decide +kernel
theorem dX10_save_2 : decode cX10_save 2 = .ok (.putfield 39, 3) := by decide +kernel
theorem dX10_save_5 : decode cX10_save 5 = .ok (.aload_n 0, 1) := by decide +kernel
theorem dX10_save_6 : decode cX10_save 6 = .ok (.iconst 1, 1) := by decide +kernel
theorem dX10_save_7 : decode cX10_save 7 = .ok (.putfield 268, 3) := by decide +kernel
theorem dX10_save_10 : decode cX10_save 10 = .ok (.aload_n 0, 1) := by decide +kernel
theorem dX10_save_11 : decode cX10_save 11 = .ok (.getfield 7, 3) := by decide +kernel
theorem dX10_save_14 : decode cX10_save 14 = .ok (.iconst 0, 1) := by decide +kernel
theorem dX10_save_15 : decode cX10_save 15 = .ok (.aload_n 0, 1) := by decide +kernel
theorem dX10_save_16 : decode cX10_save 16 = .ok (.getfield 16, 3) := by decide +kernel
theorem dX10_save_19 : decode cX10_save 19 = .ok (.iconst 0, 1) := by decide +kernel
theorem dX10_save_20 : decode cX10_save 20 = .ok (.invokestatic 55, 3) := by decide +kernel
theorem dX10_save_23 : decode cX10_save 23 = .ok (.aload_n 0, 1) := by decide +kernel
theorem dX10_save_24 : decode cX10_save 24 = .ok (.getfield 7, 3) := by decide +kernel
theorem dX10_save_27 : decode cX10_save 27 = .ok (.iconst 1, 1) := by decide +kernel
theorem dX10_save_28 : decode cX10_save 28 = .ok (.iaload, 1) := by decide +kernel
theorem dX10_save_29 : decode cX10_save 29 = .ok (.ireturn, 1) := by decide +kernel
theorem dX10_restore_0 : decode cX10_restore 0 = .ok (.aload_n 0, 1) := by decide +kernel
theorem dX10_restore_1 : decode cX10_restore 1 = .ok (.aload_n 0, 1) := by decide +kernel
theorem dX10_restore_2 : decode cX10_restore 2 = .ok (.getfield 268, 3) := by decide +kernel
theorem dX10_restore_5 : decode cX10_restore 5 = .ok (.ifCond .eq 7, 3) := by decide +kernel
theorem dX10_restore_8 : decode cX10_restore 8 = .ok (.iconst 0, 1) := by decide +kernel
theorem dX10_restore_9 : decode cX10_restore 9 = .ok (.goto 4, 3) := by decide +kernel
theorem dX10_restore_12 : decode cX10_restore 12 = .ok (.iconst 1, 1) := by decide +kernel
theorem dX10_restore_13 : decode cX10_restore 13 = .ok (.invokevirtual 80, 3) := by decide +kernel
theorem dX10_restore_16 : decode cX10_restore 16 = .ok (.ifCond .eq 5, 3) := by decide +kernel
theorem dX10_restore_19 : decode cX10_restore 19 = .ok (.iconst 0, 1) := by decide +kernel
theorem dX10_restore_20 : decode cX10_restore 20 = .ok (.ireturn, 1) := by decide +kernel
theorem dX10_restore_21 : decode cX10_restore 21 = .ok (.aload_n 0, 1) := by decide +kernel
theorem dX10_restore_22 : decode cX10_restore 22 = .ok (.getfield 16, 3) := by decide +kernel
theorem dX10_restore_25 : decode cX10_restore 25 = .ok (.iconst 0, 1) := by decide +kernel
theorem dX10_restore_26 : decode cX10_restore 26 = .ok (.aload_n 0, 1) := by decide +kernel
theorem dX10_restore_27 : decode cX10_restore 27 = .ok (.getfield 7, 3) := by decide +kernel
theorem dX10_restore_30 : decode cX10_restore 30 = .ok (.iconst 0, 1) := by decide +kernel
theorem dX10_restore_31 : decode cX10_restore 31 = .ok (.invokestatic 55, 3) := by decide +kernel
theorem dX10_restore_34 : decode cX10_restore 34 = .ok (.aload_n 0, 1) := by decide +kernel
theorem dX10_restore_35 : decode cX10_restore 35 = .ok (.iconst 0, 1) := by decide +kernel
theorem dX10_restore_36 : decode cX10_restore 36 = .ok (.putfield 52, 3) := by decide +kernel
theorem dX10_restore_39 : decode cX10_restore 39 = .ok (.aload_n 0, 1) := by decide +kernel
theorem dX10_restore_40 : decode cX10_restore 40 = .ok (.getfield 7, 3) := by decide +kernel
theorem dX10_restore_43 : decode cX10_restore 43 = .ok (.iconst 1, 1) := by decide +kernel
theorem dX10_restore_44 : decode cX10_restore 44 = .ok (.iaload, 1) := by decide +kernel
theorem dX10_restore_45 : decode cX10_restore 45 = .ok (.ireturn, 1) := by decide +kernel
