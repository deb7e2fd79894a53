theorem dX10_mean_15 : decode cX10_mean 15 = .ok (.invokestatic 308, 3) := by decide +kernel
theorem dX10_mean_18 : decode cX10_mean 18 = .ok (.ifCond .ne 7, 3) := by decide +kernel
theorem dX10_mean_21 : decode cX10_mean 21 = .ok (.sipush (-1000), 3) := by decide +kernel
theorem dX10_mean_24 : decode cX10_mean 24 = .ok (.ireturn, 1) := by decide +kernel
theorem dX10_mean_25 : decode cX10_mean 25 = .ok (.aload_n 0, 1) := by decide +kernel
theorem dX10_mean_26 : decode cX10_mean 26 = .ok (.invokevirtual 275, 3) := by decide +kernel
theorem dX10_mean_29 : decode cX10_mean 29 = .ok (.iconst 0, 1) := by decide +kernel
theorem dX10_mean_30 : decode cX10_mean 30 = .ok (.istore_n 3, 1) := by decide +kernel
theorem dX10_mean_31 : decode cX10_mean 31 = .ok (.iconst 0, 1) := by decide +kernel
theorem dX10_mean_32 : decode cX10_mean 32 = .ok (.istore 4, 2) := by decide +kernel
theorem dX10_mean_34 : decode cX10_mean 34 = .ok (.iconst 0, 1) := by decide +kernel
theorem dX10_mean_35 : decode cX10_mean 35 = .ok (.istore 5, 2) := by decide +kernel
theorem dX10_mean_37 : decode cX10_mean 37 = .ok (.iload 5, 2) := by decide +kernel
theorem dX10_mean_39 : decode cX10_mean 39 = .ok (.aload_n 0, 1) := by decide +kernel
theorem dX10_mean_40 : decode cX10_mean 40 = .ok (.invokevirtual 225, 3) := by decide +kernel
theorem dX10_mean_43 : decode cX10_mean 43 = .ok (.if_icmp .ge 48, 3) := by decide +kernel
theorem dX10_mean_46 : decode cX10_mean 46 = .ok (.aload_n 0, 1) := by decide +kernel
theorem dX10_mean_47 : decode cX10_mean 47 = .ok (.getfield 50, 3) := by decide +kernel
theorem dX10_mean_50 : decode cX10_mean 50 = .ok (.bipush 6, 2) := by decide +kernel
theorem dX10_mean_52 : decode cX10_mean 52 = .ok (.iload 5, 2) := by decide +kernel
theorem dX10_mean_54 : decode cX10_mean 54 = .ok (.imul, 1) := by decide +kernel
theorem dX10_mean_55 : decode cX10_mean 55 = .ok (.iload_n 1, 1) := by decide +kernel
theorem dX10_mean_56 : decode cX10_mean 56 = .ok (.iadd, 1) := by decide +kernel
theorem dX10_mean_57 : decode cX10_mean 57 = .ok (.iaload, 1) := by decide +kernel
theorem dX10_mean_58 : decode cX10_mean 58 = .ok (.sipush 10000, 3) := by decide +kernel
theorem dX10_mean_61 : decode cX10_mean 61 = .ok (.if_icmp .ne 6, 3) := by decide +kernel
theorem dX10_mean_64 : decode cX10_mean 64 = .ok (.goto 21, 3) := by decide +kernel
theorem dX10_mean_67 : decode cX10_mean 67 = .ok (.iload_n 3, 1) := by decide +kernel
theorem dX10_mean_68 : decode cX10_mean 68 = .ok (.aload_n 0, 1) := by decide +kernel
theorem dX10_mean_69 : decode cX10_mean 69 = .ok (.getfield 50, 3) := by decide +kernel
theorem dX10_mean_72 : decode cX10_mean 72 = .ok (.bipush 6, 2) := by decide +kernel
theorem dX10_mean_74 : decode cX10_mean 74 = .ok (.iload 5, 2) := by decide +kernel
theorem dX10_mean_76 : decode cX10_mean 76 = .ok (.imul, 1) := by decide +kernel
theorem dX10_mean_77 : decode cX10_mean 77 = .ok (.iload_n 1, 1) := by decide +kernel
theorem dX10_mean_78 : decode cX10_mean 78 = .ok (.iadd, 1) := by decide +kernel
theorem dX10_mean_79 : decode cX10_mean 79 = .ok (.iaload, 1) := by decide +kernel
theorem dX10_mean_80 : decode cX10_mean 80 = .ok (.iadd, 1) := by decide +kernel
theorem dX10_mean_81 : decode cX10_mean 81 = .ok (.istore_n 3, 1) := by decide +kernel
theorem dX10_mean_82 : decode cX10_mean 82 = .ok (.iinc 4 1, 3) := by decide +kernel
theorem dX10_mean_85 : decode cX10_mean 85 = .ok (.iinc 5 1, 3) := by decide +kernel
theorem dX10_mean_88 : decode cX10_mean 88 = .ok (.goto (-51), 3) := by decide +kernel
theorem dX10_mean_91 : decode cX10_mean 91 = .ok (.iload 4, 2) := by decide +kernel
theorem dX10_mean_93 : decode cX10_mean 93 = .ok (.ifCond .ne 15, 3) := by decide +kernel
theorem dX10_mean_96 : decode cX10_mean 96 = .ok (.iload_n 2, 1) := by decide +kernel
theorem dX10_mean_97 : decode cX10_mean 97 = .ok (.ifCond .ne 9, 3) := by decide +kernel
theorem dX10_mean_100 : decode cX10_mean 100 = .ok (.sipush 10000, 3) := by decide +kernel
theorem dX10_mean_103 : decode cX10_mean 103 = .ok (.goto 4, 3) := by decide +kernel
theorem dX10_mean_106 : decode cX10_mean 106 = .ok (.iconst 1, 1) := by decide +kernel
theorem dX10_mean_107 : decode cX10_mean 107 = .ok (.ireturn, 1) := by decide +kernel
theorem dX10_mean_108 : decode cX10_mean 108 = .ok (.iload_n 2, 1) := by decide +kernel
theorem dX10_mean_109 : decode cX10_mean 109 = .ok (.ifCond .ne 7, 3) := by decide +kernel
theorem dX10_mean_112 : decode cX10_mean 112 = .ok (.iload_n 3, 1) := by decide +kernel
theorem dX10_mean_113 : decode cX10_mean 113 = .ok (.goto 5, 3) := by decide +kernel
theorem dX10_mean_116 : decode cX10_mean 116 = .ok (.iload 4, 2) := by decide +kernel
theorem dX10_mean_118 : decode cX10_mean 118 = .ok (.iload_n 3, 1) := by decide +kernel
theorem dX10_mean_119 : decode cX10_mean 119 = .ok (.ifCond .ge 8, 3) := by decide +kernel
theorem dX10_mean_122 : decode cX10_mean 122 = .ok (.iload_n 3, 1) := by decide +kernel
theorem dX10_mean_123 : decode cX10_mean 123 = .ok (.ineg, 1) := by decide +kernel
theorem dX10_mean_124 : decode cX10_mean 124 = .ok (.goto 4, 3) := by decide +kernel
theorem dX10_mean_127 : decode cX10_mean 127 = .ok (.iload_n 3, 1) := by decide +kernel
theorem dX10_mean_128 : decode cX10_mean 128 = .ok (.iload 4, 2) := by decide +kernel
theorem dX10_mean_130 : decode cX10_mean 130 = .ok (.invokestatic 311, 3) := by decide +kernel
theorem dX10_mean_133 : decode cX10_mean 133 = .ok (.idiv, 1) := by decide +kernel
theorem dX10_mean_134 : decode cX10_mean 134 = .ok (.ireturn, 1) := by decide +kernel
theorem dX10_meet_0 : decode cX10_meet 0 = .ok (.aload_n 0, 1) := by decide +kernel
theorem dX10_meet_1 : decode cX10_meet 1 = .ok (.iconst 0, 1) := by decide +kernel
theorem dX10_meet_2 : decode cX10_meet 2 = .ok (.putfield 71, 3) := by decide +kernel
theorem dX10_meet_5 : decode cX10_meet 5 = .ok (.aload_n 0, 1) := by decide +kernel
theorem dX10_meet_6 : decode cX10_meet 6 = .ok (.iload_n 1, 1) := by decide +kernel
theorem dX10_meet_7 : decode cX10_meet 7 = .ok (.i2l, 1) := by decide +kernel
theorem dX10_meet_8 : decode cX10_meet 8 = .ok (.invokevirtual 267, 3) := by decide +kernel
theorem dX10_meet_11 : decode cX10_meet 11 = .ok (.ifCond .eq 12, 3) := by decide +kernel
theorem dX10_meet_14 : decode cX10_meet 14 = .ok (.aload_n 0, 1) := by decide +kernel
theorem dX10_meet_15 : decode cX10_meet 15 = .ok (.iload_n 2, 1) := by decide +kernel
theorem dX10_meet_16 : decode cX10_meet 16 = .ok (.i2l, 1) := by decide +kernel
theorem dX10_meet_17 : decode cX10_meet 17 = .ok (.invokevirtual 267, 3) := by decide +kernel
theorem dX10_meet_20 : decode cX10_meet 20 = .ok (.ifCond .ne 6, 3) := by decide +kernel
theorem dX10_meet_23 : decode cX10_meet 23 = .ok (.bipush (-2), 2) := by decide +kernel
theorem dX10_meet_25 : decode cX10_meet 25 = .ok (.ireturn, 1) := by decide +kernel
theorem dX10_meet_26 : decode cX10_meet 26 = .ok (.aload_n 0, 1) := by decide +kernel
theorem dX10_meet_27 : decode cX10_meet 27 = .ok (.invokevirtual 275, 3) := by decide +kernel
theorem dX10_meet_30 : decode cX10_meet 30 = .ok (.iconst 0, 1) := by decide +kernel
theorem dX10_meet_31 : decode cX10_meet 31 = .ok (.istore_n 3, 1) := by decide +kernel
theorem dX10_meet_32 : decode cX10_meet 32 = .ok (.iload_n 3, 1) := by decide +kernel
theorem dX10_meet_33 : decode cX10_meet 33 = .ok (.aload_n 0, 1) := by decide +kernel
theorem dX10_meet_34 : decode cX10_meet 34 = .ok (.invokevirtual 225, 3) := by decide +kernel
theorem dX10_meet_37 : decode cX10_meet 37 = .ok (.if_icmp .ge 36, 3) := by decide +kernel
theorem dX10_meet_40 : decode cX10_meet 40 = .ok (.aload_n 0, 1) := by decide +kernel
theorem dX10_meet_41 : decode cX10_meet 41 = .ok (.getfield 50, 3) := by decide +kernel
theorem dX10_meet_44 : decode cX10_meet 44 = .ok (.bipush 6, 2) := by decide +kernel
theorem dX10_meet_46 : decode cX10_meet 46 = .ok (.iload_n 3, 1) := by decide +kernel
theorem dX10_meet_47 : decode cX10_meet 47 = .ok (.imul, 1) := by decide +kernel
theorem dX10_meet_48 : decode cX10_meet 48 = .ok (.iload_n 1, 1) := by decide +kernel
theorem dX10_meet_49 : decode cX10_meet 49 = .ok (.iadd, 1) := by decide +kernel
theorem dX10_meet_50 : decode cX10_meet 50 = .ok (.iaload, 1) := by decide +kernel
theorem dX10_meet_51 : decode cX10_meet 51 = .ok (.aload_n 0, 1) := by decide +kernel
theorem dX10_meet_52 : decode cX10_meet 52 = .ok (.getfield 50, 3) := by decide +kernel
theorem dX10_meet_55 : decode cX10_meet 55 = .ok (.bipush 6, 2) := by decide +kernel
theorem dX10_meet_57 : decode cX10_meet 57 = .ok (.iload_n 3, 1) := by decide +kernel
theorem dX10_meet_58 : decode cX10_meet 58 = .ok (.imul, 1) := by decide +kernel
theorem dX10_meet_59 : decode cX10_meet 59 = .ok (.iload_n 2, 1) := by decide +kernel
theorem dX10_meet_60 : decode cX10_meet 60 = .ok (.iadd, 1) := by decide +kernel
theorem dX10_meet_61 : decode cX10_meet 61 = .ok (.iaload, 1) := by decide +kernel
theorem dX10_meet_62 : decode cX10_meet 62 = .ok (.if_icmp .ne 5, 3) := by decide +kernel
theorem dX10_meet_65 : decode cX10_meet 65 = .ok (.iload_n 3, 1) := by decide +kernel
theorem dX10_meet_66 : decode cX10_meet 66 = .ok (.ireturn, 1) := by decide +kernel
theorem dX10_meet_67 : decode cX10_meet 67 = .ok (.iinc 3 1, 3) := by decide +kernel
theorem dX10_meet_70 : decode cX10_meet 70 = .ok (.goto (-38), 3) := by decide +kernel
theorem dX10_meet_73 : decode cX10_meet 73 = .ok (.iconst (-1), 1) := by decide +kernel
theorem dX10_meet_74 : decode cX10_meet 74 = .ok (.ireturn, 1) := by decide +kernel
theorem dX10_mend_0 : decode cX10_mend 0 = .ok (.aload_n 0, 1) := by decide +kernel
theorem dX10_mend_1 : decode cX10_mend 1 = .ok (.iconst 0, 1) := by decide +kernel
theorem dX10_mend_2 : decode cX10_mend 2 = .ok (.putfield 71, 3) := by decide +kernel
theorem dX10_mend_5 : decode cX10_mend 5 = .ok (.aload_n 0, 1) := by decide +kernel
theorem dX10_mend_6 : decode cX10_mend 6 = .ok (.iload_n 1, 1) := by decide +kernel
theorem dX10_mend_7 : decode cX10_mend 7 = .ok (.i2l, 1) := by decide +kernel
theorem dX10_mend_8 : decode cX10_mend 8 = .ok (.invokevirtual 267, 3) := by decide +kernel
theorem dX10_mend_11 : decode cX10_mend 11 = .ok (.ifCond .eq 22, 3) := by decide +kernel
theorem dX10_mend_14 : decode cX10_mend 14 = .ok (.aload_n 0, 1) := by decide +kernel
theorem dX10_mend_15 : decode cX10_mend 15 = .ok (.iload_n 2, 1) := by decide +kernel
theorem dX10_mend_16 : decode cX10_mend 16 = .ok (.i2l, 1) := by decide +kernel
theorem dX10_mend_17 : decode cX10_mend 17 = .ok (.invokevirtual 272, 3) := by decide +kernel
theorem dX10_mend_20 : decode cX10_mend 20 = .ok (.ifCond .eq 13, 3) := by decide +kernel
theorem dX10_mend_23 : decode cX10_mend 23 = .ok (.aload_n 0, 1) := by decide +kernel
theorem dX10_mend_24 : decode cX10_mend 24 = .ok (.iconst 0, 1) := by decide +kernel
theorem dX10_mend_25 : decode cX10_mend 25 = .ok (.iload_n 1, 1) := by decide +kernel
theorem dX10_mend_26 : decode cX10_mend 26 = .ok (.iload_n 2, 1) := by decide +kernel
theorem dX10_mend_27 : decode cX10_mend 27 = .ok (.invokevirtual 436, 3) := by decide +kernel
theorem dX10_mend_30 : decode cX10_mend 30 = .ok (.goto 6, 3) := by decide +kernel
theorem dX10_mend_33 : decode cX10_mend 33 = .ok (.sipush (-1000), 3) := by decide +kernel
theorem dX10_mend_36 : decode cX10_mend 36 = .ok (.ireturn, 1) := by decide +kernel
theorem dX10_mended_0 : decode cX10_mended 0 = .ok (.aload_n 0, 1) := by decide +kernel
theorem dX10_mended_1 : decode cX10_mended 1 = .ok (.iconst 0, 1) := by decide +kernel
theorem dX10_mended_2 : decode cX10_mended 2 = .ok (.putfield 71, 3) := by decide +kernel
theorem dX10_mended_5 : decode cX10_mended 5 = .ok (.aload_n 0, 1) := by decide +kernel
theorem dX10_mended_6 : decode cX10_mended 6 = .ok (.iload_n 1, 1) := by decide +kernel
theorem dX10_mended_7 : decode cX10_mended 7 = .ok (.invokevirtual 334, 3) := by decide +kernel
theorem dX10_mended_10 : decode cX10_mended 10 = .ok (.ifCond .ne 6, 3) := by decide +kernel
theorem dX10_mended_13 : decode cX10_mended 13 = .ok (.bipush (-2), 2) := by decide +kernel
theorem dX10_mended_15 : decode cX10_mended 15 = .ok (.ireturn, 1) := by decide +kernel
theorem dX10_mended_16 : decode cX10_mended 16 = .ok (.aload_n 0, 1) := by decide +kernel
theorem dX10_mended_17 : decode cX10_mended 17 = .ok (.iload_n 1, 1) := by decide +kernel
theorem dX10_mended_18 : decode cX10_mended 18 = .ok (.iconst (-1), 1) := by decide +kernel
theorem dX10_mended_19 : decode cX10_mended 19 = .ok (.invokevirtual 337, 3) := by decide +kernel
theorem dX10_mended_22 : decode cX10_mended 22 = .ok (.aload_n 0, 1) := by decide +kernel
theorem dX10_mended_23 : decode cX10_mended 23 = .ok (.getfield 326, 3) := by decide +kernel
theorem dX10_mended_26 : decode cX10_mended 26 = .ok (.ireturn, 1) := by decide +kernel
theorem dX10_mends_0 : decode cX10_mends 0 = .ok (.aload_n 0, 1) := by decide +kernel
theorem dX10_mends_1 : decode cX10_mends 1 = .ok (.iconst 0, 1) := by decide +kernel
theorem dX10_mends_2 : decode cX10_mends 2 = .ok (.putfield 71, 3) := by decide +kernel
theorem dX10_mends_5 : decode cX10_mends 5 = .ok (.aload_n 0, 1) := by decide +kernel
theorem dX10_mends_6 : decode cX10_mends 6 = .ok (.iload_n 1, 1) := by decide +kernel
theorem dX10_mends_7 : decode cX10_mends 7 = .ok (.invokevirtual 334, 3) := by decide +kernel
theorem dX10_mends_10 : decode cX10_mends 10 = .ok (.ifCond .ne 6, 3) := by decide +kernel
theorem dX10_mends_13 : decode cX10_mends 13 = .ok (.bipush (-2), 2) := by decide +kernel
theorem dX10_mends_15 : decode cX10_mends 15 = .ok (.ireturn, 1) := by decide +kernel
theorem dX10_mends_16 : decode cX10_mends 16 = .ok (.aload_n 0, 1) := by decide +kernel
theorem dX10_mends_17 : decode cX10_mends 17 = .ok (.iload_n 1, 1) := by decide +kernel
theorem dX10_mends_18 : decode cX10_mends 18 = .ok (.iconst (-1), 1) := by decide +kernel
theorem dX10_mends_19 : decode cX10_mends 19 = .ok (.invokevirtual 337, 3) := by decide +kernel
theorem dX10_mends_22 : decode cX10_mends 22 = .ok (.aload_n 0, 1) := by decide +kernel
theorem dX10_mends_23 : decode cX10_mends 23 = .ok (.getfield 320, 3) := by decide +kernel
theorem dX10_mends_26 : decode cX10_mends 26 = .ok (.ireturn, 1) := by decide +kernel
theorem dX10_mendsFrom_0 : decode cX10_mendsFrom 0 = .ok (.aload_n 0, 1) := by decide +kernel
theorem dX10_mendsFrom_1 : decode cX10_mendsFrom 1 = .ok (.getfield 240, 3) := by decide +kernel
theorem dX10_mendsFrom_4 : decode cX10_mendsFrom 4 = .ok (.iload_n 1, 1) := by decide +kernel
theorem dX10_mendsFrom_5 : decode cX10_mendsFrom 5 = .ok (.if_icmp .ne 84, 3) := by decide +kernel
theorem dX10_mendsFrom_8 : decode cX10_mendsFrom 8 = .ok (.aload_n 0, 1) := by decide +kernel
theorem dX10_mendsFrom_9 : decode cX10_mendsFrom 9 = .ok (.invokevirtual 243, 3) := by decide +kernel
theorem dX10_mendsFrom_12 : decode cX10_mendsFrom 12 = .ok (.iload_n 3, 1) := by decide +kernel
theorem dX10_mendsFrom_13 : decode cX10_mendsFrom 13 = .ok (.iconst (-1), 1) := by decide +kernel
theorem dX10_mendsFrom_14 : decode cX10_mendsFrom 14 = .ok (.if_icmp .ne 10, 3) := by decide +kernel
theorem dX10_mendsFrom_17 : decode cX10_mendsFrom 17 = .ok (.aload_n 0, 1) := by decide +kernel
theorem dX10_mendsFrom_18 : decode cX10_mendsFrom 18 = .ok (.invokevirtual 285, 3) := by decide +kernel
theorem dX10_mendsFrom_21 : decode cX10_mendsFrom 21 = .ok (.goto 16, 3) := by decide +kernel
theorem dX10_mendsFrom_24 : decode cX10_mendsFrom 24 = .ok (.aload_n 0, 1) := by decide +kernel
theorem dX10_mendsFrom_25 : decode cX10_mendsFrom 25 = .ok (.iload_n 3, 1) := by decide +kernel
theorem dX10_mendsFrom_26 : decode cX10_mendsFrom 26 = .ok (.invokevirtual 314, 3) := by decide +kernel
theorem dX10_mendsFrom_29 : decode cX10_mendsFrom 29 = .ok (.ifCond .eq 7, 3) := by decide +kernel
theorem dX10_mendsFrom_32 : decode cX10_mendsFrom 32 = .ok (.iconst 0, 1) := by decide +kernel
theorem dX10_mendsFrom_33 : decode cX10_mendsFrom 33 = .ok (.goto 4, 3) := by decide +kernel
theorem dX10_mendsFrom_36 : decode cX10_mendsFrom 36 = .ok (.iconst 1, 1) := by decide +kernel
theorem dX10_mendsFrom_37 : decode cX10_mendsFrom 37 = .ok (.istore 4, 2) := by decide +kernel
theorem dX10_mendsFrom_39 : decode cX10_mendsFrom 39 = .ok (.iload 4, 2) := by decide +kernel
theorem dX10_mendsFrom_41 : decode cX10_mendsFrom 41 = .ok (.aload_n 0, 1) := by decide +kernel
theorem dX10_mendsFrom_42 : decode cX10_mendsFrom 42 = .ok (.getfield 320, 3) := by decide +kernel
theorem dX10_mendsFrom_45 : decode cX10_mendsFrom 45 = .ok (.if_icmp .lt 4, 3) := by decide +kernel
theorem dX10_mendsFrom_48 : decode cX10_mendsFrom 48 = .ok (.return_, 1) := by decide +kernel
theorem dX10_mendsFrom_49 : decode cX10_mendsFrom 49 = .ok (.aload_n 0, 1) := by decide +kernel
theorem dX10_mendsFrom_50 : decode cX10_mendsFrom 50 = .ok (.iload 4, 2) := by decide +kernel
theorem dX10_mendsFrom_52 : decode cX10_mendsFrom 52 = .ok (.putfield 320, 3) := by decide +kernel
theorem dX10_mendsFrom_55 : decode cX10_mendsFrom 55 = .ok (.aload_n 0, 1) := by decide +kernel
theorem dX10_mendsFrom_56 : decode cX10_mendsFrom 56 = .ok (.iload_n 1, 1) := by decide +kernel
theorem dX10_mendsFrom_57 : decode cX10_mendsFrom 57 = .ok (.putfield 323, 3) := by decide +kernel
theorem dX10_mendsFrom_60 : decode cX10_mendsFrom 60 = .ok (.aload_n 0, 1) := by decide +kernel
theorem dX10_mendsFrom_61 : decode cX10_mendsFrom 61 = .ok (.iload_n 1, 1) := by decide +kernel
theorem dX10_mendsFrom_62 : decode cX10_mendsFrom 62 = .ok (.ifCond .ne 7, 3) := by decide +kernel
theorem dX10_mendsFrom_65 : decode cX10_mendsFrom 65 = .ok (.iconst (-1), 1) := by decide +kernel
theorem dX10_mendsFrom_66 : decode cX10_mendsFrom 66 = .ok (.goto 19, 3) := by decide +kernel
theorem dX10_mendsFrom_69 : decode cX10_mendsFrom 69 = .ok (.bipush 10, 2) := by decide +kernel
theorem dX10_mendsFrom_71 : decode cX10_mendsFrom 71 = .ok (.aload_n 0, 1) := by decide +kernel
theorem dX10_mendsFrom_72 : decode cX10_mendsFrom 72 = .ok (.getfield 56, 3) := by decide +kernel
theorem dX10_mendsFrom_75 : decode cX10_mendsFrom 75 = .ok (.iconst 0, 1) := by decide +kernel
theorem dX10_mendsFrom_76 : decode cX10_mendsFrom 76 = .ok (.iaload, 1) := by decide +kernel
theorem dX10_mendsFrom_77 : decode cX10_mendsFrom 77 = .ok (.imul, 1) := by decide +kernel
theorem dX10_mendsFrom_78 : decode cX10_mendsFrom 78 = .ok (.aload_n 0, 1) := by decide +kernel
theorem dX10_mendsFrom_79 : decode cX10_mendsFrom 79 = .ok (.getfield 59, 3) := by decide +kernel
theorem dX10_mendsFrom_82 : decode cX10_mendsFrom 82 = .ok (.iconst 0, 1) := by decide +kernel
theorem dX10_mendsFrom_83 : decode cX10_mendsFrom 83 = .ok (.iaload, 1) := by decide +kernel
theorem dX10_mendsFrom_84 : decode cX10_mendsFrom 84 = .ok (.iadd, 1) := by decide +kernel
theorem dX10_mendsFrom_85 : decode cX10_mendsFrom 85 = .ok (.putfield 326, 3) := by decide +kernel
theorem dX10_mendsFrom_88 : decode cX10_mendsFrom 88 = .ok (.return_, 1) := by decide +kernel
theorem dX10_mendsFrom_89 : decode cX10_mendsFrom 89 = .ok (.iload_n 2, 1) := by decide +kernel
theorem dX10_mendsFrom_90 : decode cX10_mendsFrom 90 = .ok (.istore 4, 2) := by decide +kernel
theorem dX10_mendsFrom_92 : decode cX10_mendsFrom 92 = .ok (.iload 4, 2) := by decide +kernel
theorem dX10_mendsFrom_94 : decode cX10_mendsFrom 94 = .ok (.aload_n 0, 1) := by decide +kernel
theorem dX10_mendsFrom_95 : decode cX10_mendsFrom 95 = .ok (.invokevirtual 225, 3) := by decide +kernel
theorem dX10_mendsFrom_98 : decode cX10_mendsFrom 98 = .ok (.aload_n 0, 1) := by decide +kernel
theorem dX10_mendsFrom_99 : decode cX10_mendsFrom 99 = .ok (.invokevirtual 229, 3) := by decide +kernel
theorem dX10_mendsFrom_102 : decode cX10_mendsFrom 102 = .ok (.imul, 1) := by decide +kernel
theorem dX10_mendsFrom_103 : decode cX10_mendsFrom 103 = .ok (.if_icmp .ge 71, 3) := by decide +kernel
theorem dX10_mendsFrom_106 : decode cX10_mendsFrom 106 = .ok (.aload_n 0, 1) := by decide +kernel
theorem dX10_mendsFrom_107 : decode cX10_mendsFrom 107 = .ok (.getfield 56, 3) := by decide +kernel
theorem dX10_mendsFrom_110 : decode cX10_mendsFrom 110 = .ok (.aload_n 0, 1) := by decide +kernel
theorem dX10_mendsFrom_111 : decode cX10_mendsFrom 111 = .ok (.getfield 240, 3) := by decide +kernel
theorem dX10_mendsFrom_114 : decode cX10_mendsFrom 114 = .ok (.iload 4, 2) := by decide +kernel
theorem dX10_mendsFrom_116 : decode cX10_mendsFrom 116 = .ok (.aload_n 0, 1) := by decide +kernel
theorem dX10_mendsFrom_117 : decode cX10_mendsFrom 117 = .ok (.invokevirtual 229, 3) := by decide +kernel
theorem dX10_mendsFrom_120 : decode cX10_mendsFrom 120 = .ok (.idiv, 1) := by decide +kernel
theorem dX10_mendsFrom_121 : decode cX10_mendsFrom 121 = .ok (.iastore, 1) := by decide +kernel
theorem dX10_mendsFrom_122 : decode cX10_mendsFrom 122 = .ok (.aload_n 0, 1) := by decide +kernel
theorem dX10_mendsFrom_123 : decode cX10_mendsFrom 123 = .ok (.getfield 59, 3) := by decide +kernel
theorem dX10_mendsFrom_126 : decode cX10_mendsFrom 126 = .ok (.aload_n 0, 1) := by decide +kernel
theorem dX10_mendsFrom_127 : decode cX10_mendsFrom 127 = .ok (.getfield 240, 3) := by decide +kernel
theorem dX10_mendsFrom_130 : decode cX10_mendsFrom 130 = .ok (.iload 4, 2) := by decide +kernel
theorem dX10_mendsFrom_132 : decode cX10_mendsFrom 132 = .ok (.aload_n 0, 1) := by decide +kernel
theorem dX10_mendsFrom_133 : decode cX10_mendsFrom 133 = .ok (.invokevirtual 229, 3) := by decide +kernel
theorem dX10_mendsFrom_136 : decode cX10_mendsFrom 136 = .ok (.irem, 1) := by decide +kernel
theorem dX10_mendsFrom_137 : decode cX10_mendsFrom 137 = .ok (.iastore, 1) := by decide +kernel
theorem dX10_mendsFrom_138 : decode cX10_mendsFrom 138 = .ok (.aload_n 0, 1) := by decide +kernel
theorem dX10_mendsFrom_139 : decode cX10_mendsFrom 139 = .ok (.dup, 1) := by decide +kernel
theorem dX10_mendsFrom_140 : decode cX10_mendsFrom 140 = .ok (.getfield 240, 3) := by decide +kernel
theorem dX10_mendsFrom_143 : decode cX10_mendsFrom 143 = .ok (.iconst 1, 1) := by decide +kernel
theorem dX10_mendsFrom_144 : decode cX10_mendsFrom 144 = .ok (.iadd, 1) := by decide +kernel
theorem dX10_mendsFrom_145 : decode cX10_mendsFrom 145 = .ok (.putfield 240, 3) := by decide +kernel
theorem dX10_mendsFrom_148 : decode cX10_mendsFrom 148 = .ok (.aload_n 0, 1) := by decide +kernel
theorem dX10_mendsFrom_149 : decode cX10_mendsFrom 149 = .ok (.iload_n 1, 1) := by decide +kernel
theorem dX10_mendsFrom_150 : decode cX10_mendsFrom 150 = .ok (.iload 4, 2) := by decide +kernel
theorem dX10_mendsFrom_152 : decode cX10_mendsFrom 152 = .ok (.iconst 1, 1) := by decide +kernel
theorem dX10_mendsFrom_153 : decode cX10_mendsFrom 153 = .ok (.iadd, 1) := by decide +kernel
theorem dX10_mendsFrom_154 : decode cX10_mendsFrom 154 = .ok (.iload_n 3, 1) := by decide +kernel
theorem dX10_mendsFrom_155 : decode cX10_mendsFrom 155 = .ok (.invokevirtual 329, 3) := by decide +kernel
theorem dX10_mendsFrom_158 : decode cX10_mendsFrom 158 = .ok (.aload_n 0, 1) := by decide +kernel
theorem dX10_mendsFrom_159 : decode cX10_mendsFrom 159 = .ok (.dup, 1) := by decide +kernel
theorem dX10_mendsFrom_160 : decode cX10_mendsFrom 160 = .ok (.getfield 240, 3) := by decide +kernel
theorem dX10_mendsFrom_163 : decode cX10_mendsFrom 163 = .ok (.iconst 1, 1) := by decide +kernel
theorem dX10_mendsFrom_164 : decode cX10_mendsFrom 164 = .ok (.isub, 1) := by decide +kernel
theorem dX10_mendsFrom_165 : decode cX10_mendsFrom 165 = .ok (.putfield 240, 3) := by decide +kernel
theorem dX10_mendsFrom_168 : decode cX10_mendsFrom 168 = .ok (.iinc 4 1, 3) := by decide +kernel
theorem dX10_mendsFrom_171 : decode cX10_mendsFrom 171 = .ok (.goto (-79), 3) := by decide +kernel
theorem dX10_mendsFrom_174 : decode cX10_mendsFrom 174 = .ok (.return_, 1) := by decide +kernel
theorem dX10_middle_0 : decode cX10_middle 0 = .ok (.aload_n 0, 1) := by decide +kernel
theorem dX10_middle_1 : decode cX10_middle 1 = .ok (.iconst 0, 1) := by decide +kernel
theorem dX10_middle_2 : decode cX10_middle 2 = .ok (.putfield 71, 3) := by decide +kernel
theorem dX10_middle_5 : decode cX10_middle 5 = .ok (.aload_n 0, 1) := by decide +kernel
theorem dX10_middle_6 : decode cX10_middle 6 = .ok (.iload_n 1, 1) := by decide +kernel
theorem dX10_middle_7 : decode cX10_middle 7 = .ok (.i2l, 1) := by decide +kernel
theorem dX10_middle_8 : decode cX10_middle 8 = .ok (.invokevirtual 272, 3) := by decide +kernel
theorem dX10_middle_11 : decode cX10_middle 11 = .ok (.ifCond .ne 7, 3) := by decide +kernel
theorem dX10_middle_14 : decode cX10_middle 14 = .ok (.sipush (-1000), 3) := by decide +kernel
theorem dX10_middle_17 : decode cX10_middle 17 = .ok (.ireturn, 1) := by decide +kernel
theorem dX10_middle_18 : decode cX10_middle 18 = .ok (.aload_n 0, 1) := by decide +kernel
theorem dX10_middle_19 : decode cX10_middle 19 = .ok (.invokevirtual 275, 3) := by decide +kernel
theorem dX10_middle_22 : decode cX10_middle 22 = .ok (.aload_n 0, 1) := by decide +kernel
theorem dX10_middle_23 : decode cX10_middle 23 = .ok (.iload_n 1, 1) := by decide +kernel
theorem dX10_middle_24 : decode cX10_middle 24 = .ok (.invokevirtual 253, 3) := by decide +kernel
theorem dX10_middle_27 : decode cX10_middle 27 = .ok (.invokestatic 291, 3) := by decide +kernel
theorem dX10_middle_30 : decode cX10_middle 30 = .ok (.istore_n 2, 1) := by decide +kernel
theorem dX10_middle_31 : decode cX10_middle 31 = .ok (.iload_n 2, 1) := by decide +kernel
theorem dX10_middle_32 : decode cX10_middle 32 = .ok (.ifCond .ne 9, 3) := by decide +kernel
theorem dX10_middle_35 : decode cX10_middle 35 = .ok (.sipush 10000, 3) := by decide +kernel
theorem dX10_middle_38 : decode cX10_middle 38 = .ok (.goto 23, 3) := by decide +kernel
theorem dX10_middle_41 : decode cX10_middle 41 = .ok (.aload_n 0, 1) := by decide +kernel
theorem dX10_middle_42 : decode cX10_middle 42 = .ok (.getfield 50, 3) := by decide +kernel
theorem dX10_middle_45 : decode cX10_middle 45 = .ok (.bipush 6, 2) := by decide +kernel
theorem dX10_middle_47 : decode cX10_middle 47 = .ok (.iload_n 1, 1) := by decide +kernel
theorem dX10_middle_48 : decode cX10_middle 48 = .ok (.imul, 1) := by decide +kernel
theorem dX10_middle_49 : decode cX10_middle 49 = .ok (.aload_n 0, 1) := by decide +kernel
theorem dX10_middle_50 : decode cX10_middle 50 = .ok (.iload_n 1, 1) := by decide +kernel
theorem dX10_middle_51 : decode cX10_middle 51 = .ok (.iload_n 2, 1) := by decide +kernel
theorem dX10_middle_52 : decode cX10_middle 52 = .ok (.iconst 1, 1) := by decide +kernel
theorem dX10_middle_53 : decode cX10_middle 53 = .ok (.isub, 1) := by decide +kernel
theorem dX10_middle_54 : decode cX10_middle 54 = .ok (.iconst 2, 1) := by decide +kernel
theorem dX10_middle_55 : decode cX10_middle 55 = .ok (.idiv, 1) := by decide +kernel
theorem dX10_middle_56 : decode cX10_middle 56 = .ok (.invokevirtual 278, 3) := by decide +kernel
theorem dX10_middle_59 : decode cX10_middle 59 = .ok (.iadd, 1) := by decide +kernel
theorem dX10_middle_60 : decode cX10_middle 60 = .ok (.iaload, 1) := by decide +kernel
theorem dX10_middle_61 : decode cX10_middle 61 = .ok (.ireturn, 1) := by decide +kernel
theorem dX10_next_0 : decode cX10_next 0 = .ok (.aload_n 0, 1) := by decide +kernel
theorem dX10_next_1 : decode cX10_next 1 = .ok (.aload_n 0, 1) := by decide +kernel
theorem dX10_next_2 : decode cX10_next 2 = .ok (.getfield 95, 3) := by decide +kernel
theorem dX10_next_5 : decode cX10_next 5 = .ok (.bipush 32, 2) := by decide +kernel
theorem dX10_next_7 : decode cX10_next 7 = .ok (.bipush 32, 2) := by decide +kernel
theorem dX10_next_9 : decode cX10_next 9 = .ok (.invokevirtual 98, 3) := by decide +kernel
theorem dX10_next_12 : decode cX10_next 12 = .ok (.ifCond .ne 18, 3) := by decide +kernel
theorem dX10_next_15 : decode cX10_next 15 = .ok (.aload_n 0, 1) := by decide +kernel
theorem dX10_next_16 : decode cX10_next 16 = .ok (.aload_n 0, 1) := by decide +kernel
theorem dX10_next_17 : decode cX10_next 17 = .ok (.getfield 95, 3) := by decide +kernel
theorem dX10_next_20 : decode cX10_next 20 = .ok (.bipush 10, 2) := by decide +kernel
theorem dX10_next_22 : decode cX10_next 22 = .ok (.bipush 10, 2) := by decide +kernel
theorem dX10_next_24 : decode cX10_next 24 = .ok (.invokevirtual 98, 3) := by decide +kernel
theorem dX10_next_27 : decode cX10_next 27 = .ok (.ifCond .eq 16, 3) := by decide +kernel
theorem dX10_next_30 : decode cX10_next 30 = .ok (.aload_n 0, 1) := by decide +kernel
theorem dX10_next_31 : decode cX10_next 31 = .ok (.dup, 1) := by decide +kernel
theorem dX10_next_32 : decode cX10_next 32 = .ok (.getfield 95, 3) := by decide +kernel
theorem dX10_next_35 : decode cX10_next 35 = .ok (.iconst 1, 1) := by decide +kernel
theorem dX10_next_36 : decode cX10_next 36 = .ok (.iadd, 1) := by decide +kernel
theorem dX10_next_37 : decode cX10_next 37 = .ok (.putfield 95, 3) := by decide +kernel
theorem dX10_next_40 : decode cX10_next 40 = .ok (.goto (-40), 3) := by decide +kernel
theorem dX10_next_43 : decode cX10_next 43 = .ok (.aload_n 0, 1) := by decide +kernel
theorem dX10_next_44 : decode cX10_next 44 = .ok (.aload_n 0, 1) := by decide +kernel
theorem dX10_next_45 : decode cX10_next 45 = .ok (.getfield 95, 3) := by decide +kernel
theorem dX10_next_48 : decode cX10_next 48 = .ok (.putfield 102, 3) := by decide +kernel
theorem dX10_next_51 : decode cX10_next 51 = .ok (.aload_n 0, 1) := by decide +kernel
theorem dX10_next_52 : decode cX10_next 52 = .ok (.iconst 0, 1) := by decide +kernel
theorem dX10_next_53 : decode cX10_next 53 = .ok (.putfield 105, 3) := by decide +kernel
theorem dX10_next_56 : decode cX10_next 56 = .ok (.aload_n 0, 1) := by decide +kernel
theorem dX10_next_57 : decode cX10_next 57 = .ok (.lconst 0, 1) := by decide +kernel
theorem dX10_next_58 : decode cX10_next 58 = .ok (.putfield 108, 3) := by decide +kernel
theorem dX10_next_61 : decode cX10_next 61 = .ok (.aload_n 0, 1) := by decide +kernel
theorem dX10_next_62 : decode cX10_next 62 = .ok (.getfield 95, 3) := by decide +kernel
theorem dX10_next_65 : decode cX10_next 65 = .ok (.aload_n 0, 1) := by decide +kernel
theorem dX10_next_66 : decode cX10_next 66 = .ok (.getfield 88, 3) := by decide +kernel
theorem dX10_next_69 : decode cX10_next 69 = .ok (.if_icmp .ne 11, 3) := by decide +kernel
theorem dX10_next_72 : decode cX10_next 72 = .ok (.aload_n 0, 1) := by decide +kernel
theorem dX10_next_73 : decode cX10_next 73 = .ok (.iconst 0, 1) := by decide +kernel
theorem dX10_next_74 : decode cX10_next 74 = .ok (.putfield 112, 3) := by decide +kernel
theorem dX10_next_77 : decode cX10_next 77 = .ok (.goto 230, 3) := by decide +kernel
theorem dX10_next_80 : decode cX10_next 80 = .ok (.aload_n 0, 1) := by decide +kernel
theorem dX10_next_81 : decode cX10_next 81 = .ok (.aload_n 0, 1) := by decide +kernel
theorem dX10_next_82 : decode cX10_next 82 = .ok (.getfield 95, 3) := by decide +kernel
theorem dX10_next_85 : decode cX10_next 85 = .ok (.bipush 97, 2) := by decide +kernel
theorem dX10_next_87 : decode cX10_next 87 = .ok (.bipush 122, 2) := by decide +kernel
theorem dX10_next_89 : decode cX10_next 89 = .ok (.invokevirtual 98, 3) := by decide +kernel
theorem dX10_next_92 : decode cX10_next 92 = .ok (.ifCond .eq 96, 3) := by decide +kernel
theorem dX10_next_95 : decode cX10_next 95 = .ok (.aload_n 0, 1) := by decide +kernel
theorem dX10_next_96 : decode cX10_next 96 = .ok (.iconst 1, 1) := by decide +kernel
theorem dX10_next_97 : decode cX10_next 97 = .ok (.putfield 112, 3) := by decide +kernel
theorem dX10_next_100 : decode cX10_next 100 = .ok (.iconst 0, 1) := by decide +kernel
theorem dX10_next_101 : decode cX10_next 101 = .ok (.istore_n 1, 1) := by decide +kernel
theorem dX10_next_102 : decode cX10_next 102 = .ok (.aload_n 0, 1) := by decide +kernel
theorem dX10_next_103 : decode cX10_next 103 = .ok (.aload_n 0, 1) := by decide +kernel
theorem dX10_next_104 : decode cX10_next 104 = .ok (.getfield 95, 3) := by decide +kernel
theorem dX10_next_107 : decode cX10_next 107 = .ok (.bipush 97, 2) := by decide +kernel
theorem dX10_next_109 : decode cX10_next 109 = .ok (.bipush 122, 2) := by decide +kernel
theorem dX10_next_111 : decode cX10_next 111 = .ok (.invokevirtual 98, 3) := by decide +kernel
theorem dX10_next_114 : decode cX10_next 114 = .ok (.ifCond .eq 71, 3) := by decide +kernel
theorem dX10_next_117 : decode cX10_next 117 = .ok (.aload_n 0, 1) := by decide +kernel
theorem dX10_next_118 : decode cX10_next 118 = .ok (.iload_n 1, 1) := by decide +kernel
theorem dX10_next_119 : decode cX10_next 119 = .ok (.bipush 11, 2) := by decide +kernel
theorem dX10_next_121 : decode cX10_next 121 = .ok (.if_icmp .le 9, 3) := by decide +kernel
theorem dX10_next_124 : decode cX10_next 124 = .ok (.ldc2_w 115, 3) := by decide +kernel
theorem dX10_next_127 : decode cX10_next 127 = .ok (.goto 26, 3) := by decide +kernel
theorem dX10_next_130 : decode cX10_next 130 = .ok (.ldc2_w 117, 3) := by decide +kernel
theorem dX10_next_133 : decode cX10_next 133 = .ok (.aload_n 0, 1) := by decide +kernel
theorem dX10_next_134 : decode cX10_next 134 = .ok (.getfield 108, 3) := by decide +kernel
theorem dX10_next_137 : decode cX10_next 137 = .ok (.lmul, 1) := by decide +kernel
theorem dX10_next_138 : decode cX10_next 138 = .ok (.aload_n 0, 1) := by decide +kernel
theorem dX10_next_139 : decode cX10_next 139 = .ok (.getfield 23, 3) := by decide +kernel
theorem dX10_next_142 : decode cX10_next 142 = .ok (.aload_n 0, 1) := by decide +kernel
theorem dX10_next_143 : decode cX10_next 143 = .ok (.getfield 95, 3) := by decide +kernel
theorem dX10_next_146 : decode cX10_next 146 = .ok (.baload, 1) := by decide +kernel
theorem dX10_next_147 : decode cX10_next 147 = .ok (.i2l, 1) := by decide +kernel
theorem dX10_next_148 : decode cX10_next 148 = .ok (.ladd, 1) := by decide +kernel
theorem dX10_next_149 : decode cX10_next 149 = .ok (.ldc2_w 119, 3) := by decide +kernel
theorem dX10_next_152 : decode cX10_next 152 = .ok (.lsub, 1) := by decide +kernel
theorem dX10_next_153 : decode cX10_next 153 = .ok (.putfield 108, 3) := by decide +kernel
theorem dX10_next_156 : decode cX10_next 156 = .ok (.iload_n 1, 1) := by decide +kernel
theorem dX10_next_157 : decode cX10_next 157 = .ok (.bipush 11, 2) := by decide +kernel
theorem dX10_next_159 : decode cX10_next 159 = .ok (.if_icmp .le 10, 3) := by decide +kernel
theorem dX10_next_162 : decode cX10_next 162 = .ok (.aload_n 0, 1) := by decide +kernel
theorem dX10_next_163 : decode cX10_next 163 = .ok (.ldc2_w 115, 3) := by decide +kernel
theorem dX10_next_166 : decode cX10_next 166 = .ok (.putfield 108, 3) := by decide +kernel
theorem dX10_next_169 : decode cX10_next 169 = .ok (.aload_n 0, 1) := by decide +kernel
theorem dX10_next_170 : decode cX10_next 170 = .ok (.dup, 1) := by decide +kernel
theorem dX10_next_171 : decode cX10_next 171 = .ok (.getfield 95, 3) := by decide +kernel
theorem dX10_next_174 : decode cX10_next 174 = .ok (.iconst 1, 1) := by decide +kernel
theorem dX10_next_175 : decode cX10_next 175 = .ok (.iadd, 1) := by decide +kernel
theorem dX10_next_176 : decode cX10_next 176 = .ok (.putfield 95, 3) := by decide +kernel
theorem dX10_next_179 : decode cX10_next 179 = .ok (.iinc 1 1, 3) := by decide +kernel
theorem dX10_next_182 : decode cX10_next 182 = .ok (.goto (-80), 3) := by decide +kernel
theorem dX10_next_185 : decode cX10_next 185 = .ok (.goto 122, 3) := by decide +kernel
theorem dX10_next_188 : decode cX10_next 188 = .ok (.aload_n 0, 1) := by decide +kernel
theorem dX10_next_189 : decode cX10_next 189 = .ok (.aload_n 0, 1) := by decide +kernel
theorem dX10_next_190 : decode cX10_next 190 = .ok (.getfield 95, 3) := by decide +kernel
theorem dX10_next_193 : decode cX10_next 193 = .ok (.bipush 48, 2) := by decide +kernel
theorem dX10_next_195 : decode cX10_next 195 = .ok (.bipush 57, 2) := by decide +kernel
theorem dX10_next_197 : decode cX10_next 197 = .ok (.invokevirtual 98, 3) := by decide +kernel
theorem dX10_next_200 : decode cX10_next 200 = .ok (.ifCond .eq 74, 3) := by decide +kernel
theorem dX10_next_203 : decode cX10_next 203 = .ok (.aload_n 0, 1) := by decide +kernel
theorem dX10_next_204 : decode cX10_next 204 = .ok (.iconst 2, 1) := by decide +kernel
theorem dX10_next_205 : decode cX10_next 205 = .ok (.putfield 112, 3) := by decide +kernel
theorem dX10_next_208 : decode cX10_next 208 = .ok (.aload_n 0, 1) := by decide +kernel
theorem dX10_next_209 : decode cX10_next 209 = .ok (.aload_n 0, 1) := by decide +kernel
theorem dX10_next_210 : decode cX10_next 210 = .ok (.getfield 95, 3) := by decide +kernel
theorem dX10_next_213 : decode cX10_next 213 = .ok (.bipush 48, 2) := by decide +kernel
theorem dX10_next_215 : decode cX10_next 215 = .ok (.bipush 57, 2) := by decide +kernel
theorem dX10_next_217 : decode cX10_next 217 = .ok (.invokevirtual 98, 3) := by decide +kernel
theorem dX10_next_220 : decode cX10_next 220 = .ok (.ifCond .eq 87, 3) := by decide +kernel
theorem dX10_next_223 : decode cX10_next 223 = .ok (.aload_n 0, 1) := by decide +kernel
theorem dX10_next_224 : decode cX10_next 224 = .ok (.aload_n 0, 1) := by decide +kernel
theorem dX10_next_225 : decode cX10_next 225 = .ok (.getfield 105, 3) := by decide +kernel
theorem dX10_next_228 : decode cX10_next 228 = .ok (.ldc 121, 2) := by decide +kernel
theorem dX10_next_230 : decode cX10_next 230 = .ok (.if_icmp .le 8, 3) := by decide +kernel
theorem dX10_next_233 : decode cX10_next 233 = .ok (.ldc 122, 2) := by decide +kernel
theorem dX10_next_235 : decode cX10_next 235 = .ok (.goto 23, 3) := by decide +kernel
theorem dX10_next_238 : decode cX10_next 238 = .ok (.bipush 10, 2) := by decide +kernel
theorem dX10_next_240 : decode cX10_next 240 = .ok (.aload_n 0, 1) := by decide +kernel
theorem dX10_next_241 : decode cX10_next 241 = .ok (.getfield 105, 3) := by decide +kernel
theorem dX10_next_244 : decode cX10_next 244 = .ok (.imul, 1) := by decide +kernel
theorem dX10_next_245 : decode cX10_next 245 = .ok (.aload_n 0, 1) := by decide +kernel
theorem dX10_next_246 : decode cX10_next 246 = .ok (.getfield 23, 3) := by decide +kernel
theorem dX10_next_249 : decode cX10_next 249 = .ok (.aload_n 0, 1) := by decide +kernel
theorem dX10_next_250 : decode cX10_next 250 = .ok (.getfield 95, 3) := by decide +kernel
theorem dX10_next_253 : decode cX10_next 253 = .ok (.baload, 1) := by decide +kernel
theorem dX10_next_254 : decode cX10_next 254 = .ok (.iadd, 1) := by decide +kernel
theorem dX10_next_255 : decode cX10_next 255 = .ok (.bipush 48, 2) := by decide +kernel
theorem dX10_next_257 : decode cX10_next 257 = .ok (.isub, 1) := by decide +kernel
theorem dX10_next_258 : decode cX10_next 258 = .ok (.putfield 105, 3) := by decide +kernel
theorem dX10_next_261 : decode cX10_next 261 = .ok (.aload_n 0, 1) := by decide +kernel
theorem dX10_next_262 : decode cX10_next 262 = .ok (.dup, 1) := by decide +kernel
theorem dX10_next_263 : decode cX10_next 263 = .ok (.getfield 95, 3) := by decide +kernel
theorem dX10_next_266 : decode cX10_next 266 = .ok (.iconst 1, 1) := by decide +kernel
theorem dX10_next_267 : decode cX10_next 267 = .ok (.iadd, 1) := by decide +kernel
theorem dX10_next_268 : decode cX10_next 268 = .ok (.putfield 95, 3) := by decide +kernel
theorem dX10_next_271 : decode cX10_next 271 = .ok (.goto (-63), 3) := by decide +kernel
theorem dX10_next_274 : decode cX10_next 274 = .ok (.aload_n 0, 1) := by decide +kernel
theorem dX10_next_275 : decode cX10_next 275 = .ok (.aload_n 0, 1) := by decide +kernel
theorem dX10_next_276 : decode cX10_next 276 = .ok (.getfield 23, 3) := by decide +kernel
theorem dX10_next_279 : decode cX10_next 279 = .ok (.aload_n 0, 1) := by decide +kernel
theorem dX10_next_280 : decode cX10_next 280 = .ok (.getfield 95, 3) := by decide +kernel
theorem dX10_next_283 : decode cX10_next 283 = .ok (.baload, 1) := by decide +kernel
theorem dX10_next_284 : decode cX10_next 284 = .ok (.bipush 59, 2) := by decide +kernel
theorem dX10_next_286 : decode cX10_next 286 = .ok (.if_icmp .ne 7, 3) := by decide +kernel
theorem dX10_next_289 : decode cX10_next 289 = .ok (.iconst 3, 1) := by decide +kernel
theorem dX10_next_290 : decode cX10_next 290 = .ok (.goto 4, 3) := by decide +kernel
theorem dX10_next_293 : decode cX10_next 293 = .ok (.iconst 4, 1) := by decide +kernel
theorem dX10_next_294 : decode cX10_next 294 = .ok (.putfield 112, 3) := by decide +kernel
theorem dX10_next_297 : decode cX10_next 297 = .ok (.aload_n 0, 1) := by decide +kernel
theorem dX10_next_298 : decode cX10_next 298 = .ok (.dup, 1) := by decide +kernel
theorem dX10_next_299 : decode cX10_next 299 = .ok (.getfield 95, 3) := by decide +kernel
theorem dX10_next_302 : decode cX10_next 302 = .ok (.iconst 1, 1) := by decide +kernel
theorem dX10_next_303 : decode cX10_next 303 = .ok (.iadd, 1) := by decide +kernel
theorem dX10_next_304 : decode cX10_next 304 = .ok (.putfield 95, 3) := by decide +kernel
theorem dX10_next_307 : decode cX10_next 307 = .ok (.return_, 1) := by decide +kernel
theorem dX10_noon_0 : decode cX10_noon 0 = .ok (.aload_n 0, 1) := by decide +kernel
theorem dX10_noon_1 : decode cX10_noon 1 = .ok (.iconst 0, 1) := by decide +kernel
theorem dX10_noon_2 : decode cX10_noon 2 = .ok (.putfield 71, 3) := by decide +kernel
theorem dX10_noon_5 : decode cX10_noon 5 = .ok (.aload_n 0, 1) := by decide +kernel
theorem dX10_noon_6 : decode cX10_noon 6 = .ok (.iload_n 1, 1) := by decide +kernel
theorem dX10_noon_7 : decode cX10_noon 7 = .ok (.i2l, 1) := by decide +kernel
theorem dX10_noon_8 : decode cX10_noon 8 = .ok (.invokevirtual 272, 3) := by decide +kernel
theorem dX10_noon_11 : decode cX10_noon 11 = .ok (.ifCond .ne 7, 3) := by decide +kernel
theorem dX10_noon_14 : decode cX10_noon 14 = .ok (.sipush (-1000), 3) := by decide +kernel
theorem dX10_noon_17 : decode cX10_noon 17 = .ok (.ireturn, 1) := by decide +kernel
theorem dX10_noon_18 : decode cX10_noon 18 = .ok (.aload_n 0, 1) := by decide +kernel
theorem dX10_noon_19 : decode cX10_noon 19 = .ok (.invokevirtual 275, 3) := by decide +kernel
theorem dX10_noon_22 : decode cX10_noon 22 = .ok (.aload_n 0, 1) := by decide +kernel
theorem dX10_noon_23 : decode cX10_noon 23 = .ok (.iload_n 1, 1) := by decide +kernel
theorem dX10_noon_24 : decode cX10_noon 24 = .ok (.invokevirtual 259, 3) := by decide +kernel
theorem dX10_noon_27 : decode cX10_noon 27 = .ok (.ireturn, 1) := by decide +kernel
theorem dX10_noonOf_0 : decode cX10_noonOf 0 = .ok (.aload_n 0, 1) := by decide +kernel
theorem dX10_noonOf_1 : decode cX10_noonOf 1 = .ok (.iload_n 1, 1) := by decide +kernel
theorem dX10_noonOf_2 : decode cX10_noonOf 2 = .ok (.iload_n 2, 1) := by decide +kernel
theorem dX10_noonOf_3 : decode cX10_noonOf 3 = .ok (.invokevirtual 250, 3) := by decide +kernel
theorem dX10_noonOf_6 : decode cX10_noonOf 6 = .ok (.istore_n 3, 1) := by decide +kernel
theorem dX10_noonOf_7 : decode cX10_noonOf 7 = .ok (.iload_n 3, 1) := by decide +kernel
theorem dX10_noonOf_8 : decode cX10_noonOf 8 = .ok (.iconst (-1), 1) := by decide +kernel
theorem dX10_noonOf_9 : decode cX10_noonOf 9 = .ok (.if_icmp .ne 7, 3) := by decide +kernel
theorem dX10_noonOf_12 : decode cX10_noonOf 12 = .ok (.iconst 0, 1) := by decide +kernel
theorem dX10_noonOf_13 : decode cX10_noonOf 13 = .ok (.goto 14, 3) := by decide +kernel
theorem dX10_noonOf_16 : decode cX10_noonOf 16 = .ok (.aload_n 0, 1) := by decide +kernel
theorem dX10_noonOf_17 : decode cX10_noonOf 17 = .ok (.getfield 50, 3) := by decide +kernel
theorem dX10_noonOf_20 : decode cX10_noonOf 20 = .ok (.bipush 6, 2) := by decide +kernel
theorem dX10_noonOf_22 : decode cX10_noonOf 22 = .ok (.iload_n 1, 1) := by decide +kernel
theorem dX10_noonOf_23 : decode cX10_noonOf 23 = .ok (.imul, 1) := by decide +kernel
theorem dX10_noonOf_24 : decode cX10_noonOf 24 = .ok (.iload_n 3, 1) := by decide +kernel
theorem dX10_noonOf_25 : decode cX10_noonOf 25 = .ok (.iadd, 1) := by decide +kernel
theorem dX10_noonOf_26 : decode cX10_noonOf 26 = .ok (.iaload, 1) := by decide +kernel
theorem dX10_noonOf_27 : decode cX10_noonOf 27 = .ok (.ireturn, 1) := by decide +kernel
theorem dX10_noonOf__0 : decode cX10_noonOf_ 0 = .ok (.aload_n 0, 1) := by decide +kernel
theorem dX10_noonOf__1 : decode cX10_noonOf_ 1 = .ok (.iload_n 1, 1) := by decide +kernel
theorem dX10_noonOf__2 : decode cX10_noonOf_ 2 = .ok (.aload_n 0, 1) := by decide +kernel
theorem dX10_noonOf__3 : decode cX10_noonOf_ 3 = .ok (.iload_n 1, 1) := by decide +kernel
theorem dX10_noonOf__4 : decode cX10_noonOf_ 4 = .ok (.invokevirtual 253, 3) := by decide +kernel
theorem dX10_noonOf__7 : decode cX10_noonOf_ 7 = .ok (.invokevirtual 256, 3) := by decide +kernel
theorem dX10_noonOf__10 : decode cX10_noonOf_ 10 = .ok (.ireturn, 1) := by decide +kernel
theorem dX10_number_0 : decode cX10_number 0 = .ok (.aload_n 0, 1) := by decide +kernel
theorem dX10_number_1 : decode cX10_number 1 = .ok (.getfield 123, 3) := by decide +kernel
theorem dX10_number_4 : decode cX10_number 4 = .ok (.ifCond .eq 5, 3) := by decide +kernel
theorem dX10_number_7 : decode cX10_number 7 = .ok (.iload_n 1, 1) := by decide +kernel
theorem dX10_number_8 : decode cX10_number 8 = .ok (.ireturn, 1) := by decide +kernel
theorem dX10_number_9 : decode cX10_number 9 = .ok (.aload_n 0, 1) := by decide +kernel
theorem dX10_number_10 : decode cX10_number 10 = .ok (.getfield 112, 3) := by decide +kernel
theorem dX10_number_13 : decode cX10_number 13 = .ok (.iconst 2, 1) := by decide +kernel
theorem dX10_number_14 : decode cX10_number 14 = .ok (.if_icmp .eq 10, 3) := by decide +kernel
theorem dX10_number_17 : decode cX10_number 17 = .ok (.aload_n 0, 1) := by decide +kernel
theorem dX10_number_18 : decode cX10_number 18 = .ok (.iconst 1, 1) := by decide +kernel
theorem dX10_number_19 : decode cX10_number 19 = .ok (.invokevirtual 139, 3) := by decide +kernel
theorem dX10_number_22 : decode cX10_number 22 = .ok (.iload_n 1, 1) := by decide +kernel
theorem dX10_number_23 : decode cX10_number 23 = .ok (.ireturn, 1) := by decide +kernel
theorem dX10_number_24 : decode cX10_number 24 = .ok (.aload_n 0, 1) := by decide +kernel
theorem dX10_number_25 : decode cX10_number 25 = .ok (.getfield 105, 3) := by decide +kernel
theorem dX10_number_28 : decode cX10_number 28 = .ok (.i2l, 1) := by decide +kernel
theorem dX10_number_29 : decode cX10_number 29 = .ok (.iload_n 1, 1) := by decide +kernel
theorem dX10_number_30 : decode cX10_number 30 = .ok (.i2l, 1) := by decide +kernel
theorem dX10_number_31 : decode cX10_number 31 = .ok (.iload_n 2, 1) := by decide +kernel
theorem dX10_number_32 : decode cX10_number 32 = .ok (.i2l, 1) := by decide +kernel
theorem dX10_number_33 : decode cX10_number 33 = .ok (.invokestatic 76, 3) := by decide +kernel
theorem dX10_number_36 : decode cX10_number 36 = .ok (.ifCond .ne 10, 3) := by decide +kernel
theorem dX10_number_39 : decode cX10_number 39 = .ok (.aload_n 0, 1) := by decide +kernel
theorem dX10_number_40 : decode cX10_number 40 = .ok (.iconst 2, 1) := by decide +kernel
theorem dX10_number_41 : decode cX10_number 41 = .ok (.invokevirtual 139, 3) := by decide +kernel
theorem dX10_number_44 : decode cX10_number 44 = .ok (.iload_n 1, 1) := by decide +kernel
theorem dX10_number_45 : decode cX10_number 45 = .ok (.ireturn, 1) := by decide +kernel
theorem dX10_number_46 : decode cX10_number 46 = .ok (.aload_n 0, 1) := by decide +kernel
theorem dX10_number_47 : decode cX10_number 47 = .ok (.getfield 105, 3) := by decide +kernel
theorem dX10_number_50 : decode cX10_number 50 = .ok (.istore_n 3, 1) := by decide +kernel
theorem dX10_number_51 : decode cX10_number 51 = .ok (.aload_n 0, 1) := by decide +kernel
theorem dX10_number_52 : decode cX10_number 52 = .ok (.invokevirtual 133, 3) := by decide +kernel
theorem dX10_number_55 : decode cX10_number 55 = .ok (.iload_n 3, 1) := by decide +kernel
theorem dX10_number_56 : decode cX10_number 56 = .ok (.ireturn, 1) := by decide +kernel
theorem dX10_number__0 : decode cX10_number_ 0 = .ok (.aload_n 0, 1) := by decide +kernel
theorem dX10_number__1 : decode cX10_number_ 1 = .ok (.lload_n 1, 1) := by decide +kernel
theorem dX10_number__2 : decode cX10_number_ 2 = .ok (.invokevirtual 142, 3) := by decide +kernel
theorem dX10_number__5 : decode cX10_number_ 5 = .ok (.aload_n 0, 1) := by decide +kernel
theorem dX10_number__6 : decode cX10_number_ 6 = .ok (.iload_n 3, 1) := by decide +kernel
theorem dX10_number__7 : decode cX10_number_ 7 = .ok (.iload 4, 2) := by decide +kernel
theorem dX10_number__9 : decode cX10_number_ 9 = .ok (.invokevirtual 146, 3) := by decide +kernel
theorem dX10_number__12 : decode cX10_number_ 12 = .ok (.ireturn, 1) := by decide +kernel
theorem dX10_oil_0 : decode cX10_oil 0 = .ok (.aload_n 0, 1) := by decide +kernel
theorem dX10_oil_1 : decode cX10_oil 1 = .ok (.iconst 0, 1) := by decide +kernel
theorem dX10_oil_2 : decode cX10_oil 2 = .ok (.putfield 71, 3) := by decide +kernel
theorem dX10_oil_5 : decode cX10_oil 5 = .ok (.aload_n 0, 1) := by decide +kernel
theorem dX10_oil_6 : decode cX10_oil 6 = .ok (.iload_n 1, 1) := by decide +kernel
theorem dX10_oil_7 : decode cX10_oil 7 = .ok (.i2l, 1) := by decide +kernel
theorem dX10_oil_8 : decode cX10_oil 8 = .ok (.invokevirtual 267, 3) := by decide +kernel
theorem dX10_oil_11 : decode cX10_oil 11 = .ok (.ifCond .eq 22, 3) := by decide +kernel
theorem dX10_oil_14 : decode cX10_oil 14 = .ok (.aload_n 0, 1) := by decide +kernel
theorem dX10_oil_15 : decode cX10_oil 15 = .ok (.iload_n 2, 1) := by decide +kernel
theorem dX10_oil_16 : decode cX10_oil 16 = .ok (.i2l, 1) := by decide +kernel
theorem dX10_oil_17 : decode cX10_oil 17 = .ok (.invokevirtual 272, 3) := by decide +kernel
theorem dX10_oil_20 : decode cX10_oil 20 = .ok (.ifCond .eq 13, 3) := by decide +kernel
theorem dX10_oil_23 : decode cX10_oil 23 = .ok (.aload_n 0, 1) := by decide +kernel
theorem dX10_oil_24 : decode cX10_oil 24 = .ok (.iconst 1, 1) := by decide +kernel
theorem dX10_oil_25 : decode cX10_oil 25 = .ok (.iload_n 1, 1) := by decide +kernel
theorem dX10_oil_26 : decode cX10_oil 26 = .ok (.iload_n 2, 1) := by decide +kernel
theorem dX10_oil_27 : decode cX10_oil 27 = .ok (.invokevirtual 436, 3) := by decide +kernel
theorem dX10_oil_30 : decode cX10_oil 30 = .ok (.goto 6, 3) := by decide +kernel
theorem dX10_oil_33 : decode cX10_oil 33 = .ok (.sipush (-1000), 3) := by decide +kernel
theorem dX10_oil_36 : decode cX10_oil 36 = .ok (.ireturn, 1) := by decide +kernel
theorem dX10_order_0 : decode cX10_order 0 = .ok (.aload_n 0, 1) := by decide +kernel
theorem dX10_order_1 : decode cX10_order 1 = .ok (.iconst 0, 1) := by decide +kernel
theorem dX10_order_2 : decode cX10_order 2 = .ok (.putfield 71, 3) := by decide +kernel
theorem dX10_order_5 : decode cX10_order 5 = .ok (.aload_n 0, 1) := by decide +kernel
theorem dX10_order_6 : decode cX10_order 6 = .ok (.iload_n 1, 1) := by decide +kernel
theorem dX10_order_7 : decode cX10_order 7 = .ok (.i2l, 1) := by decide +kernel
theorem dX10_order_8 : decode cX10_order 8 = .ok (.invokevirtual 272, 3) := by decide +kernel
theorem dX10_order_11 : decode cX10_order 11 = .ok (.ifCond .ne 6, 3) := by decide +kernel
theorem dX10_order_14 : decode cX10_order 14 = .ok (.bipush (-2), 2) := by decide +kernel
theorem dX10_order_16 : decode cX10_order 16 = .ok (.ireturn, 1) := by decide +kernel
theorem dX10_order_17 : decode cX10_order 17 = .ok (.aload_n 0, 1) := by decide +kernel
theorem dX10_order_18 : decode cX10_order 18 = .ok (.invokevirtual 275, 3) := by decide +kernel
theorem dX10_order_21 : decode cX10_order 21 = .ok (.aload_n 0, 1) := by decide +kernel
theorem dX10_order_22 : decode cX10_order 22 = .ok (.iload_n 1, 1) := by decide +kernel
theorem dX10_order_23 : decode cX10_order 23 = .ok (.iload_n 2, 1) := by decide +kernel
theorem dX10_order_24 : decode cX10_order 24 = .ok (.invokevirtual 278, 3) := by decide +kernel
theorem dX10_order_27 : decode cX10_order 27 = .ok (.ireturn, 1) := by decide +kernel
theorem dX10_orderOf_0 : decode cX10_orderOf 0 = .ok (.aload_n 0, 1) := by decide +kernel
theorem dX10_orderOf_1 : decode cX10_orderOf 1 = .ok (.iload_n 1, 1) := by decide +kernel
theorem dX10_orderOf_2 : decode cX10_orderOf 2 = .ok (.invokevirtual 253, 3) := by decide +kernel
theorem dX10_orderOf_5 : decode cX10_orderOf 5 = .ok (.istore_n 3, 1) := by decide +kernel
theorem dX10_orderOf_6 : decode cX10_orderOf 6 = .ok (.iconst 0, 1) := by decide +kernel
theorem dX10_orderOf_7 : decode cX10_orderOf 7 = .ok (.istore 4, 2) := by decide +kernel
theorem dX10_orderOf_9 : decode cX10_orderOf 9 = .ok (.iload 4, 2) := by decide +kernel
theorem dX10_orderOf_11 : decode cX10_orderOf 11 = .ok (.aload_n 0, 1) := by decide +kernel
theorem dX10_orderOf_12 : decode cX10_orderOf 12 = .ok (.invokevirtual 229, 3) := by decide +kernel
theorem dX10_orderOf_15 : decode cX10_orderOf 15 = .ok (.if_icmp .ge 131, 3) := by decide +kernel
theorem dX10_orderOf_18 : decode cX10_orderOf 18 = .ok (.iload_n 3, 1) := by decide +kernel
theorem dX10_orderOf_19 : decode cX10_orderOf 19 = .ok (.iload 4, 2) := by decide +kernel
theorem dX10_orderOf_21 : decode cX10_orderOf 21 = .ok (.invokestatic 246, 3) := by decide +kernel
theorem dX10_orderOf_24 : decode cX10_orderOf 24 = .ok (.ifCond .ne 6, 3) := by decide +kernel
theorem dX10_orderOf_27 : decode cX10_orderOf 27 = .ok (.goto 113, 3) := by decide +kernel
theorem dX10_orderOf_30 : decode cX10_orderOf 30 = .ok (.iconst 0, 1) := by decide +kernel
theorem dX10_orderOf_31 : decode cX10_orderOf 31 = .ok (.istore 5, 2) := by decide +kernel
theorem dX10_orderOf_33 : decode cX10_orderOf 33 = .ok (.iconst 0, 1) := by decide +kernel
theorem dX10_orderOf_34 : decode cX10_orderOf 34 = .ok (.istore 6, 2) := by decide +kernel
theorem dX10_orderOf_36 : decode cX10_orderOf 36 = .ok (.iload 6, 2) := by decide +kernel
theorem dX10_orderOf_38 : decode cX10_orderOf 38 = .ok (.aload_n 0, 1) := by decide +kernel
theorem dX10_orderOf_39 : decode cX10_orderOf 39 = .ok (.invokevirtual 229, 3) := by decide +kernel
theorem dX10_orderOf_42 : decode cX10_orderOf 42 = .ok (.if_icmp .ge 89, 3) := by decide +kernel
theorem dX10_orderOf_45 : decode cX10_orderOf 45 = .ok (.iload 5, 2) := by decide +kernel
theorem dX10_orderOf_47 : decode cX10_orderOf 47 = .ok (.iload_n 3, 1) := by decide +kernel
theorem dX10_orderOf_48 : decode cX10_orderOf 48 = .ok (.iload 6, 2) := by decide +kernel
theorem dX10_orderOf_50 : decode cX10_orderOf 50 = .ok (.invokestatic 246, 3) := by decide +kernel
theorem dX10_orderOf_53 : decode cX10_orderOf 53 = .ok (.ifCond .eq 68, 3) := by decide +kernel
theorem dX10_orderOf_56 : decode cX10_orderOf 56 = .ok (.aload_n 0, 1) := by decide +kernel
theorem dX10_orderOf_57 : decode cX10_orderOf 57 = .ok (.getfield 50, 3) := by decide +kernel
theorem dX10_orderOf_60 : decode cX10_orderOf 60 = .ok (.bipush 6, 2) := by decide +kernel
theorem dX10_orderOf_62 : decode cX10_orderOf 62 = .ok (.iload_n 1, 1) := by decide +kernel
theorem dX10_orderOf_63 : decode cX10_orderOf 63 = .ok (.imul, 1) := by decide +kernel
theorem dX10_orderOf_64 : decode cX10_orderOf 64 = .ok (.iload 6, 2) := by decide +kernel
theorem dX10_orderOf_66 : decode cX10_orderOf 66 = .ok (.iadd, 1) := by decide +kernel
theorem dX10_orderOf_67 : decode cX10_orderOf 67 = .ok (.iaload, 1) := by decide +kernel
theorem dX10_orderOf_68 : decode cX10_orderOf 68 = .ok (.aload_n 0, 1) := by decide +kernel
theorem dX10_orderOf_69 : decode cX10_orderOf 69 = .ok (.getfield 50, 3) := by decide +kernel
theorem dX10_orderOf_72 : decode cX10_orderOf 72 = .ok (.bipush 6, 2) := by decide +kernel
theorem dX10_orderOf_74 : decode cX10_orderOf 74 = .ok (.iload_n 1, 1) := by decide +kernel
theorem dX10_orderOf_75 : decode cX10_orderOf 75 = .ok (.imul, 1) := by decide +kernel
theorem dX10_orderOf_76 : decode cX10_orderOf 76 = .ok (.iload 4, 2) := by decide +kernel
theorem dX10_orderOf_78 : decode cX10_orderOf 78 = .ok (.iadd, 1) := by decide +kernel
theorem dX10_orderOf_79 : decode cX10_orderOf 79 = .ok (.iaload, 1) := by decide +kernel
theorem dX10_orderOf_80 : decode cX10_orderOf 80 = .ok (.if_icmp .lt 37, 3) := by decide +kernel
theorem dX10_orderOf_83 : decode cX10_orderOf 83 = .ok (.aload_n 0, 1) := by decide +kernel
theorem dX10_orderOf_84 : decode cX10_orderOf 84 = .ok (.getfield 50, 3) := by decide +kernel
theorem dX10_orderOf_87 : decode cX10_orderOf 87 = .ok (.bipush 6, 2) := by decide +kernel
theorem dX10_orderOf_89 : decode cX10_orderOf 89 = .ok (.iload_n 1, 1) := by decide +kernel
theorem dX10_orderOf_90 : decode cX10_orderOf 90 = .ok (.imul, 1) := by decide +kernel
theorem dX10_orderOf_91 : decode cX10_orderOf 91 = .ok (.iload 6, 2) := by decide +kernel
theorem dX10_orderOf_93 : decode cX10_orderOf 93 = .ok (.iadd, 1) := by decide +kernel
theorem dX10_orderOf_94 : decode cX10_orderOf 94 = .ok (.iaload, 1) := by decide +kernel
theorem dX10_orderOf_95 : decode cX10_orderOf 95 = .ok (.aload_n 0, 1) := by decide +kernel
theorem dX10_orderOf_96 : decode cX10_orderOf 96 = .ok (.getfield 50, 3) := by decide +kernel
theorem dX10_orderOf_99 : decode cX10_orderOf 99 = .ok (.bipush 6, 2) := by decide +kernel
theorem dX10_orderOf_101 : decode cX10_orderOf 101 = .ok (.iload_n 1, 1) := by decide +kernel
theorem dX10_orderOf_102 : decode cX10_orderOf 102 = .ok (.imul, 1) := by decide +kernel
theorem dX10_orderOf_103 : decode cX10_orderOf 103 = .ok (.iload 4, 2) := by decide +kernel
theorem dX10_orderOf_105 : decode cX10_orderOf 105 = .ok (.iadd, 1) := by decide +kernel
theorem dX10_orderOf_106 : decode cX10_orderOf 106 = .ok (.iaload, 1) := by decide +kernel
theorem dX10_orderOf_107 : decode cX10_orderOf 107 = .ok (.if_icmp .ne 14, 3) := by decide +kernel
theorem dX10_orderOf_110 : decode cX10_orderOf 110 = .ok (.iload 6, 2) := by decide +kernel
theorem dX10_orderOf_112 : decode cX10_orderOf 112 = .ok (.iload 4, 2) := by decide +kernel
theorem dX10_orderOf_114 : decode cX10_orderOf 114 = .ok (.if_icmp .ge 7, 3) := by decide +kernel
theorem dX10_orderOf_117 : decode cX10_orderOf 117 = .ok (.iconst 1, 1) := by decide +kernel
theorem dX10_orderOf_118 : decode cX10_orderOf 118 = .ok (.goto 4, 3) := by decide +kernel
theorem dX10_orderOf_121 : decode cX10_orderOf 121 = .ok (.iconst 0, 1) := by decide +kernel
theorem dX10_orderOf_122 : decode cX10_orderOf 122 = .ok (.iadd, 1) := by decide +kernel
theorem dX10_orderOf_123 : decode cX10_orderOf 123 = .ok (.istore 5, 2) := by decide +kernel
theorem dX10_orderOf_125 : decode cX10_orderOf 125 = .ok (.iinc 6 1, 3) := by decide +kernel
theorem dX10_orderOf_128 : decode cX10_orderOf 128 = .ok (.goto (-92), 3) := by decide +kernel
theorem dX10_orderOf_131 : decode cX10_orderOf 131 = .ok (.iload 5, 2) := by decide +kernel
theorem dX10_orderOf_133 : decode cX10_orderOf 133 = .ok (.iload_n 2, 1) := by decide +kernel
theorem dX10_orderOf_134 : decode cX10_orderOf 134 = .ok (.if_icmp .ne 6, 3) := by decide +kernel
theorem dX10_orderOf_137 : decode cX10_orderOf 137 = .ok (.iload 4, 2) := by decide +kernel
theorem dX10_orderOf_139 : decode cX10_orderOf 139 = .ok (.ireturn, 1) := by decide +kernel
theorem dX10_orderOf_140 : decode cX10_orderOf 140 = .ok (.iinc 4 1, 3) := by decide +kernel
theorem dX10_orderOf_143 : decode cX10_orderOf 143 = .ok (.goto (-134), 3) := by decide +kernel
theorem dX10_orderOf_146 : decode cX10_orderOf 146 = .ok (.iconst (-1), 1) := by decide +kernel
theorem dX10_orderOf_147 : decode cX10_orderOf 147 = .ok (.ireturn, 1) := by decide +kernel
theorem dX10_passes_0 : decode cX10_passes 0 = .ok (.aload_n 0, 1) := by decide +kernel
theorem dX10_passes_1 : decode cX10_passes 1 = .ok (.iconst 0, 1) := by decide +kernel
theorem dX10_passes_2 : decode cX10_passes 2 = .ok (.putfield 71, 3) := by decide +kernel
theorem dX10_passes_5 : decode cX10_passes 5 = .ok (.aload_n 0, 1) := by decide +kernel
theorem dX10_passes_6 : decode cX10_passes 6 = .ok (.iload_n 1, 1) := by decide +kernel
theorem dX10_passes_7 : decode cX10_passes 7 = .ok (.i2l, 1) := by decide +kernel
theorem dX10_passes_8 : decode cX10_passes 8 = .ok (.invokevirtual 267, 3) := by decide +kernel
theorem dX10_passes_11 : decode cX10_passes 11 = .ok (.ifCond .eq 12, 3) := by decide +kernel
theorem dX10_passes_14 : decode cX10_passes 14 = .ok (.aload_n 0, 1) := by decide +kernel
theorem dX10_passes_15 : decode cX10_passes 15 = .ok (.iload_n 2, 1) := by decide +kernel
theorem dX10_passes_16 : decode cX10_passes 16 = .ok (.i2l, 1) := by decide +kernel
theorem dX10_passes_17 : decode cX10_passes 17 = .ok (.invokevirtual 267, 3) := by decide +kernel
theorem dX10_passes_20 : decode cX10_passes 20 = .ok (.ifCond .ne 6, 3) := by decide +kernel
theorem dX10_passes_23 : decode cX10_passes 23 = .ok (.bipush (-2), 2) := by decide +kernel
theorem dX10_passes_25 : decode cX10_passes 25 = .ok (.ireturn, 1) := by decide +kernel
theorem dX10_passes_26 : decode cX10_passes 26 = .ok (.aload_n 0, 1) := by decide +kernel
theorem dX10_passes_27 : decode cX10_passes 27 = .ok (.invokevirtual 275, 3) := by decide +kernel
theorem dX10_passes_30 : decode cX10_passes 30 = .ok (.iconst 0, 1) := by decide +kernel
theorem dX10_passes_31 : decode cX10_passes 31 = .ok (.istore_n 3, 1) := by decide +kernel
theorem dX10_passes_32 : decode cX10_passes 32 = .ok (.iconst 0, 1) := by decide +kernel
theorem dX10_passes_33 : decode cX10_passes 33 = .ok (.istore 4, 2) := by decide +kernel
theorem dX10_passes_35 : decode cX10_passes 35 = .ok (.iload 4, 2) := by decide +kernel
theorem dX10_passes_37 : decode cX10_passes 37 = .ok (.aload_n 0, 1) := by decide +kernel
theorem dX10_passes_38 : decode cX10_passes 38 = .ok (.invokevirtual 225, 3) := by decide +kernel
theorem dX10_passes_41 : decode cX10_passes 41 = .ok (.if_icmp .ge 47, 3) := by decide +kernel
theorem dX10_passes_44 : decode cX10_passes 44 = .ok (.iload_n 3, 1) := by decide +kernel
theorem dX10_passes_45 : decode cX10_passes 45 = .ok (.aload_n 0, 1) := by decide +kernel
theorem dX10_passes_46 : decode cX10_passes 46 = .ok (.getfield 50, 3) := by decide +kernel
theorem dX10_passes_49 : decode cX10_passes 49 = .ok (.bipush 6, 2) := by decide +kernel
theorem dX10_passes_51 : decode cX10_passes 51 = .ok (.iload 4, 2) := by decide +kernel
theorem dX10_passes_53 : decode cX10_passes 53 = .ok (.imul, 1) := by decide +kernel
theorem dX10_passes_54 : decode cX10_passes 54 = .ok (.iload_n 1, 1) := by decide +kernel
theorem dX10_passes_55 : decode cX10_passes 55 = .ok (.iadd, 1) := by decide +kernel
theorem dX10_passes_56 : decode cX10_passes 56 = .ok (.iaload, 1) := by decide +kernel
theorem dX10_passes_57 : decode cX10_passes 57 = .ok (.aload_n 0, 1) := by decide +kernel
theorem dX10_passes_58 : decode cX10_passes 58 = .ok (.getfield 50, 3) := by decide +kernel
theorem dX10_passes_61 : decode cX10_passes 61 = .ok (.bipush 6, 2) := by decide +kernel
theorem dX10_passes_63 : decode cX10_passes 63 = .ok (.iload 4, 2) := by decide +kernel
theorem dX10_passes_65 : decode cX10_passes 65 = .ok (.imul, 1) := by decide +kernel
theorem dX10_passes_66 : decode cX10_passes 66 = .ok (.iload_n 2, 1) := by decide +kernel
theorem dX10_passes_67 : decode cX10_passes 67 = .ok (.iadd, 1) := by decide +kernel
theorem dX10_passes_68 : decode cX10_passes 68 = .ok (.iaload, 1) := by decide +kernel
theorem dX10_passes_69 : decode cX10_passes 69 = .ok (.if_icmp .le 10, 3) := by decide +kernel
theorem dX10_passes_72 : decode cX10_passes 72 = .ok (.iconst 1, 1) := by decide +kernel
theorem dX10_passes_73 : decode cX10_passes 73 = .ok (.iload 4, 2) := by decide +kernel
theorem dX10_passes_75 : decode cX10_passes 75 = .ok (.ishl, 1) := by decide +kernel
theorem dX10_passes_76 : decode cX10_passes 76 = .ok (.goto 4, 3) := by decide +kernel
theorem dX10_passes_79 : decode cX10_passes 79 = .ok (.iconst 0, 1) := by decide +kernel
theorem dX10_passes_80 : decode cX10_passes 80 = .ok (.ior, 1) := by decide +kernel
theorem dX10_passes_81 : decode cX10_passes 81 = .ok (.istore_n 3, 1) := by decide +kernel
theorem dX10_passes_82 : decode cX10_passes 82 = .ok (.iinc 4 1, 3) := by decide +kernel
theorem dX10_passes_85 : decode cX10_passes 85 = .ok (.goto (-50), 3) := by decide +kernel
theorem dX10_passes_88 : decode cX10_passes 88 = .ok (.iload_n 3, 1) := by decide +kernel
theorem dX10_passes_89 : decode cX10_passes 89 = .ok (.ireturn, 1) := by decide +kernel
theorem dX10_paste_0 : decode cX10_paste 0 = .ok (.aload_n 0, 1) := by decide +kernel
theorem dX10_paste_1 : decode cX10_paste 1 = .ok (.iconst 0, 1) := by decide +kernel
theorem dX10_paste_2 : decode cX10_paste 2 = .ok (.putfield 71, 3) := by decide +kernel
theorem dX10_paste_5 : decode cX10_paste 5 = .ok (.iload_n 1, 1) := by decide +kernel
theorem dX10_paste_6 : decode cX10_paste 6 = .ok (.invokestatic 80, 3) := by decide +kernel
theorem dX10_paste_9 : decode cX10_paste 9 = .ok (.ifCond .eq 10, 3) := by decide +kernel
theorem dX10_paste_12 : decode cX10_paste 12 = .ok (.iload_n 3, 1) := by decide +kernel
theorem dX10_paste_13 : decode cX10_paste 13 = .ok (.invokestatic 80, 3) := by decide +kernel
theorem dX10_paste_16 : decode cX10_paste 16 = .ok (.ifCond .ne 6, 3) := by decide +kernel
theorem dX10_paste_19 : decode cX10_paste 19 = .ok (.bipush (-2), 2) := by decide +kernel
theorem dX10_paste_21 : decode cX10_paste 21 = .ok (.ireturn, 1) := by decide +kernel
theorem dX10_paste_22 : decode cX10_paste 22 = .ok (.aload_n 0, 1) := by decide +kernel
theorem dX10_paste_23 : decode cX10_paste 23 = .ok (.getfield 7, 3) := by decide +kernel
theorem dX10_paste_26 : decode cX10_paste 26 = .ok (.iload_n 1, 1) := by decide +kernel
theorem dX10_paste_27 : decode cX10_paste 27 = .ok (.iaload, 1) := by decide +kernel
theorem dX10_paste_28 : decode cX10_paste 28 = .ok (.iconst (-1), 1) := by decide +kernel
theorem dX10_paste_29 : decode cX10_paste 29 = .ok (.if_icmp .eq 13, 3) := by decide +kernel
theorem dX10_paste_32 : decode cX10_paste 32 = .ok (.aload_n 0, 1) := by decide +kernel
theorem dX10_paste_33 : decode cX10_paste 33 = .ok (.getfield 7, 3) := by decide +kernel
theorem dX10_paste_36 : decode cX10_paste 36 = .ok (.iload_n 3, 1) := by decide +kernel
theorem dX10_paste_37 : decode cX10_paste 37 = .ok (.iaload, 1) := by decide +kernel
theorem dX10_paste_38 : decode cX10_paste 38 = .ok (.iconst (-1), 1) := by decide +kernel
theorem dX10_paste_39 : decode cX10_paste 39 = .ok (.if_icmp .ne 6, 3) := by decide +kernel
theorem dX10_paste_42 : decode cX10_paste 42 = .ok (.bipush (-6), 2) := by decide +kernel
theorem dX10_paste_44 : decode cX10_paste 44 = .ok (.ireturn, 1) := by decide +kernel
theorem dX10_paste_45 : decode cX10_paste 45 = .ok (.aload_n 0, 1) := by decide +kernel
theorem dX10_paste_46 : decode cX10_paste 46 = .ok (.getfield 7, 3) := by decide +kernel
theorem dX10_paste_49 : decode cX10_paste 49 = .ok (.iload_n 1, 1) := by decide +kernel
theorem dX10_paste_50 : decode cX10_paste 50 = .ok (.iaload, 1) := by decide +kernel
theorem dX10_paste_51 : decode cX10_paste 51 = .ok (.aload_n 0, 1) := by decide +kernel
theorem dX10_paste_52 : decode cX10_paste 52 = .ok (.getfield 7, 3) := by decide +kernel
theorem dX10_paste_55 : decode cX10_paste 55 = .ok (.iload_n 3, 1) := by decide +kernel
theorem dX10_paste_56 : decode cX10_paste 56 = .ok (.iaload, 1) := by decide +kernel
theorem dX10_paste_57 : decode cX10_paste 57 = .ok (.if_icmp .eq 6, 3) := by decide +kernel
theorem dX10_paste_60 : decode cX10_paste 60 = .ok (.bipush (-8), 2) := by decide +kernel
theorem dX10_paste_62 : decode cX10_paste 62 = .ok (.ireturn, 1) := by decide +kernel
theorem dX10_paste_63 : decode cX10_paste 63 = .ok (.iload_n 2, 1) := by decide +kernel
theorem dX10_paste_64 : decode cX10_paste 64 = .ok (.ifCond .lt 48, 3) := by decide +kernel
theorem dX10_paste_67 : decode cX10_paste 67 = .ok (.iload 4, 2) := by decide +kernel
theorem dX10_paste_69 : decode cX10_paste 69 = .ok (.ifCond .lt 43, 3) := by decide +kernel
theorem dX10_paste_72 : decode cX10_paste 72 = .ok (.iload 5, 2) := by decide +kernel
theorem dX10_paste_74 : decode cX10_paste 74 = .ok (.ifCond .lt 38, 3) := by decide +kernel
theorem dX10_paste_77 : decode cX10_paste 77 = .ok (.iload_n 2, 1) := by decide +kernel
theorem dX10_paste_78 : decode cX10_paste 78 = .ok (.i2l, 1) := by decide +kernel
theorem dX10_paste_79 : decode cX10_paste 79 = .ok (.iload 5, 2) := by decide +kernel
theorem dX10_paste_81 : decode cX10_paste 81 = .ok (.i2l, 1) := by decide +kernel
theorem dX10_paste_82 : decode cX10_paste 82 = .ok (.ladd, 1) := by decide +kernel
theorem dX10_paste_83 : decode cX10_paste 83 = .ok (.aload_n 0, 1) := by decide +kernel
theorem dX10_paste_84 : decode cX10_paste 84 = .ok (.getfield 13, 3) := by decide +kernel
theorem dX10_paste_87 : decode cX10_paste 87 = .ok (.iload_n 1, 1) := by decide +kernel
theorem dX10_paste_88 : decode cX10_paste 88 = .ok (.iaload, 1) := by decide +kernel
theorem dX10_paste_89 : decode cX10_paste 89 = .ok (.i2l, 1) := by decide +kernel
theorem dX10_paste_90 : decode cX10_paste 90 = .ok (.lcmp, 1) := by decide +kernel
theorem dX10_paste_91 : decode cX10_paste 91 = .ok (.ifCond .gt 21, 3) := by decide +kernel
theorem dX10_paste_94 : decode cX10_paste 94 = .ok (.iload 4, 2) := by decide +kernel
theorem dX10_paste_96 : decode cX10_paste 96 = .ok (.i2l, 1) := by decide +kernel
theorem dX10_paste_97 : decode cX10_paste 97 = .ok (.iload 5, 2) := by decide +kernel
theorem dX10_paste_99 : decode cX10_paste 99 = .ok (.i2l, 1) := by decide +kernel
theorem dX10_paste_100 : decode cX10_paste 100 = .ok (.ladd, 1) := by decide +kernel
theorem dX10_paste_101 : decode cX10_paste 101 = .ok (.aload_n 0, 1) := by decide +kernel
theorem dX10_paste_102 : decode cX10_paste 102 = .ok (.getfield 13, 3) := by decide +kernel
theorem dX10_paste_105 : decode cX10_paste 105 = .ok (.iload_n 3, 1) := by decide +kernel
theorem dX10_paste_106 : decode cX10_paste 106 = .ok (.iaload, 1) := by decide +kernel
theorem dX10_paste_107 : decode cX10_paste 107 = .ok (.i2l, 1) := by decide +kernel
theorem dX10_paste_108 : decode cX10_paste 108 = .ok (.lcmp, 1) := by decide +kernel
theorem dX10_paste_109 : decode cX10_paste 109 = .ok (.ifCond .le 6, 3) := by decide +kernel
theorem dX10_paste_112 : decode cX10_paste 112 = .ok (.bipush (-7), 2) := by decide +kernel
theorem dX10_paste_114 : decode cX10_paste 114 = .ok (.ireturn, 1) := by decide +kernel
theorem dX10_paste_115 : decode cX10_paste 115 = .ok (.iconst 0, 1) := by decide +kernel
theorem dX10_paste_116 : decode cX10_paste 116 = .ok (.istore 6, 2) := by decide +kernel
theorem dX10_paste_118 : decode cX10_paste 118 = .ok (.iload 6, 2) := by decide +kernel
theorem dX10_paste_120 : decode cX10_paste 120 = .ok (.iload 5, 2) := by decide +kernel
theorem dX10_paste_122 : decode cX10_paste 122 = .ok (.if_icmp .ge 30, 3) := by decide +kernel
theorem dX10_paste_125 : decode cX10_paste 125 = .ok (.aload_n 0, 1) := by decide +kernel
theorem dX10_paste_126 : decode cX10_paste 126 = .ok (.getfield 20, 3) := by decide +kernel
theorem dX10_paste_129 : decode cX10_paste 129 = .ok (.iload 6, 2) := by decide +kernel
theorem dX10_paste_131 : decode cX10_paste 131 = .ok (.aload_n 0, 1) := by decide +kernel
theorem dX10_paste_132 : decode cX10_paste 132 = .ok (.getfield 16, 3) := by decide +kernel
theorem dX10_paste_135 : decode cX10_paste 135 = .ok (.bipush 60, 2) := by decide +kernel
theorem dX10_paste_137 : decode cX10_paste 137 = .ok (.iload_n 1, 1) := by decide +kernel
theorem dX10_paste_138 : decode cX10_paste 138 = .ok (.imul, 1) := by decide +kernel
theorem dX10_paste_139 : decode cX10_paste 139 = .ok (.iload_n 2, 1) := by decide +kernel
theorem dX10_paste_140 : decode cX10_paste 140 = .ok (.iadd, 1) := by decide +kernel
theorem dX10_paste_141 : decode cX10_paste 141 = .ok (.iload 6, 2) := by decide +kernel
theorem dX10_paste_143 : decode cX10_paste 143 = .ok (.iadd, 1) := by decide +kernel
theorem dX10_paste_144 : decode cX10_paste 144 = .ok (.laload, 1) := by decide +kernel
theorem dX10_paste_145 : decode cX10_paste 145 = .ok (.lastore, 1) := by decide +kernel
theorem dX10_paste_146 : decode cX10_paste 146 = .ok (.iinc 6 1, 3) := by decide +kernel
theorem dX10_paste_149 : decode cX10_paste 149 = .ok (.goto (-31), 3) := by decide +kernel
theorem dX10_paste_152 : decode cX10_paste 152 = .ok (.iconst 0, 1) := by decide +kernel
theorem dX10_paste_153 : decode cX10_paste 153 = .ok (.istore 6, 2) := by decide +kernel
theorem dX10_paste_155 : decode cX10_paste 155 = .ok (.iload 6, 2) := by decide +kernel
theorem dX10_paste_157 : decode cX10_paste 157 = .ok (.iload 5, 2) := by decide +kernel
theorem dX10_paste_159 : decode cX10_paste 159 = .ok (.if_icmp .ge 31, 3) := by decide +kernel
theorem dX10_paste_162 : decode cX10_paste 162 = .ok (.aload_n 0, 1) := by decide +kernel
theorem dX10_paste_163 : decode cX10_paste 163 = .ok (.getfield 16, 3) := by decide +kernel
theorem dX10_paste_166 : decode cX10_paste 166 = .ok (.bipush 60, 2) := by decide +kernel
theorem dX10_paste_168 : decode cX10_paste 168 = .ok (.iload_n 3, 1) := by decide +kernel
theorem dX10_paste_169 : decode cX10_paste 169 = .ok (.imul, 1) := by decide +kernel
theorem dX10_paste_170 : decode cX10_paste 170 = .ok (.iload 4, 2) := by decide +kernel
theorem dX10_paste_172 : decode cX10_paste 172 = .ok (.iadd, 1) := by decide +kernel
theorem dX10_paste_173 : decode cX10_paste 173 = .ok (.iload 6, 2) := by decide +kernel
theorem dX10_paste_175 : decode cX10_paste 175 = .ok (.iadd, 1) := by decide +kernel
theorem dX10_paste_176 : decode cX10_paste 176 = .ok (.aload_n 0, 1) := by decide +kernel
theorem dX10_paste_177 : decode cX10_paste 177 = .ok (.getfield 20, 3) := by decide +kernel
theorem dX10_paste_180 : decode cX10_paste 180 = .ok (.iload 6, 2) := by decide +kernel
theorem dX10_paste_182 : decode cX10_paste 182 = .ok (.laload, 1) := by decide +kernel
theorem dX10_paste_183 : decode cX10_paste 183 = .ok (.lastore, 1) := by decide +kernel
theorem dX10_paste_184 : decode cX10_paste 184 = .ok (.iinc 6 1, 3) := by decide +kernel
theorem dX10_paste_187 : decode cX10_paste 187 = .ok (.goto (-32), 3) := by decide +kernel
theorem dX10_paste_190 : decode cX10_paste 190 = .ok (.iconst 0, 1) := by decide +kernel
theorem dX10_paste_191 : decode cX10_paste 191 = .ok (.ireturn, 1) := by decide +kernel
theorem dX10_price_0 : decode cX10_price 0 = .ok (.aload_n 0, 1) := by decide +kernel
theorem dX10_price_1 : decode cX10_price 1 = .ok (.iconst 0, 1) := by decide +kernel
theorem dX10_price_2 : decode cX10_price 2 = .ok (.putfield 71, 3) := by decide +kernel
theorem dX10_price_5 : decode cX10_price 5 = .ok (.aload_n 0, 1) := by decide +kernel
theorem dX10_price_6 : decode cX10_price 6 = .ok (.iload_n 1, 1) := by decide +kernel
theorem dX10_price_7 : decode cX10_price 7 = .ok (.i2l, 1) := by decide +kernel
theorem dX10_price_8 : decode cX10_price 8 = .ok (.invokevirtual 267, 3) := by decide +kernel
theorem dX10_price_11 : decode cX10_price 11 = .ok (.ifCond .ne 7, 3) := by decide +kernel
theorem dX10_price_14 : decode cX10_price 14 = .ok (.ldc_w 300, 3) := by decide +kernel
theorem dX10_price_17 : decode cX10_price 17 = .ok (.ireturn, 1) := by decide +kernel
theorem dX10_price_18 : decode cX10_price 18 = .ok (.aload_n 0, 1) := by decide +kernel
theorem dX10_price_19 : decode cX10_price 19 = .ok (.invokevirtual 275, 3) := by decide +kernel
theorem dX10_price_22 : decode cX10_price 22 = .ok (.aload_n 0, 1) := by decide +kernel
theorem dX10_price_23 : decode cX10_price 23 = .ok (.invokevirtual 285, 3) := by decide +kernel
theorem dX10_price_26 : decode cX10_price 26 = .ok (.istore_n 2, 1) := by decide +kernel
theorem dX10_price_27 : decode cX10_price 27 = .ok (.aload_n 0, 1) := by decide +kernel
theorem dX10_price_28 : decode cX10_price 28 = .ok (.iload_n 1, 1) := by decide +kernel
theorem dX10_price_29 : decode cX10_price 29 = .ok (.invokevirtual 294, 3) := by decide +kernel
theorem dX10_price_32 : decode cX10_price 32 = .ok (.istore_n 3, 1) := by decide +kernel
theorem dX10_price_33 : decode cX10_price 33 = .ok (.iload_n 2, 1) := by decide +kernel
theorem dX10_price_34 : decode cX10_price 34 = .ok (.aload_n 0, 1) := by decide +kernel
theorem dX10_price_35 : decode cX10_price 35 = .ok (.iconst 1, 1) := by decide +kernel
theorem dX10_price_36 : decode cX10_price 36 = .ok (.iload_n 1, 1) := by decide +kernel
theorem dX10_price_37 : decode cX10_price 37 = .ok (.ishl, 1) := by decide +kernel
theorem dX10_price_38 : decode cX10_price 38 = .ok (.invokevirtual 297, 3) := by decide +kernel
theorem dX10_price_41 : decode cX10_price 41 = .ok (.isub, 1) := by decide +kernel
theorem dX10_price_42 : decode cX10_price 42 = .ok (.iload_n 3, 1) := by decide +kernel
theorem dX10_price_43 : decode cX10_price 43 = .ok (.isub, 1) := by decide +kernel
theorem dX10_price_44 : decode cX10_price 44 = .ok (.ireturn, 1) := by decide +kernel
theorem dX10_quorum_0 : decode cX10_quorum 0 = .ok (.aload_n 0, 1) := by decide +kernel
theorem dX10_quorum_1 : decode cX10_quorum 1 = .ok (.iconst 0, 1) := by decide +kernel
theorem dX10_quorum_2 : decode cX10_quorum 2 = .ok (.putfield 71, 3) := by decide +kernel
theorem dX10_quorum_5 : decode cX10_quorum 5 = .ok (.aload_n 0, 1) := by decide +kernel
theorem dX10_quorum_6 : decode cX10_quorum 6 = .ok (.iload_n 1, 1) := by decide +kernel
theorem dX10_quorum_7 : decode cX10_quorum 7 = .ok (.i2l, 1) := by decide +kernel
theorem dX10_quorum_8 : decode cX10_quorum 8 = .ok (.invokevirtual 272, 3) := by decide +kernel
theorem dX10_quorum_11 : decode cX10_quorum 11 = .ok (.ifCond .eq 15, 3) := by decide +kernel
theorem dX10_quorum_14 : decode cX10_quorum 14 = .ok (.iload_n 2, 1) := by decide +kernel
theorem dX10_quorum_15 : decode cX10_quorum 15 = .ok (.i2l, 1) := by decide +kernel
theorem dX10_quorum_16 : decode cX10_quorum 16 = .ok (.lconst 1, 1) := by decide +kernel
theorem dX10_quorum_17 : decode cX10_quorum 17 = .ok (.ldc2_w 354, 3) := by decide +kernel
theorem dX10_quorum_20 : decode cX10_quorum 20 = .ok (.invokestatic 76, 3) := by decide +kernel
theorem dX10_quorum_23 : decode cX10_quorum 23 = .ok (.ifCond .ne 6, 3) := by decide +kernel
theorem dX10_quorum_26 : decode cX10_quorum 26 = .ok (.bipush (-2), 2) := by decide +kernel
theorem dX10_quorum_28 : decode cX10_quorum 28 = .ok (.ireturn, 1) := by decide +kernel
theorem dX10_quorum_29 : decode cX10_quorum 29 = .ok (.aload_n 0, 1) := by decide +kernel
theorem dX10_quorum_30 : decode cX10_quorum 30 = .ok (.invokevirtual 275, 3) := by decide +kernel
theorem dX10_quorum_33 : decode cX10_quorum 33 = .ok (.aload_n 0, 1) := by decide +kernel
theorem dX10_quorum_34 : decode cX10_quorum 34 = .ok (.iload_n 1, 1) := by decide +kernel
theorem dX10_quorum_35 : decode cX10_quorum 35 = .ok (.iload_n 2, 1) := by decide +kernel
theorem dX10_quorum_36 : decode cX10_quorum 36 = .ok (.invokevirtual 356, 3) := by decide +kernel
theorem dX10_quorum_39 : decode cX10_quorum 39 = .ok (.ireturn, 1) := by decide +kernel
theorem dX10_quorumOf_0 : decode cX10_quorumOf 0 = .ok (.aload_n 0, 1) := by decide +kernel
theorem dX10_quorumOf_1 : decode cX10_quorumOf 1 = .ok (.iload_n 1, 1) := by decide +kernel
theorem dX10_quorumOf_2 : decode cX10_quorumOf 2 = .ok (.iload_n 2, 1) := by decide +kernel
theorem dX10_quorumOf_3 : decode cX10_quorumOf 3 = .ok (.iconst 1, 1) := by decide +kernel
theorem dX10_quorumOf_4 : decode cX10_quorumOf 4 = .ok (.isub, 1) := by decide +kernel
theorem dX10_quorumOf_5 : decode cX10_quorumOf 5 = .ok (.invokevirtual 278, 3) := by decide +kernel
theorem dX10_quorumOf_8 : decode cX10_quorumOf 8 = .ok (.istore_n 3, 1) := by decide +kernel
theorem dX10_quorumOf_9 : decode cX10_quorumOf 9 = .ok (.iload_n 3, 1) := by decide +kernel
theorem dX10_quorumOf_10 : decode cX10_quorumOf 10 = .ok (.iconst (-1), 1) := by decide +kernel
theorem dX10_quorumOf_11 : decode cX10_quorumOf 11 = .ok (.if_icmp .ne 9, 3) := by decide +kernel
theorem dX10_quorumOf_14 : decode cX10_quorumOf 14 = .ok (.sipush 10000, 3) := by decide +kernel
theorem dX10_quorumOf_17 : decode cX10_quorumOf 17 = .ok (.goto 14, 3) := by decide +kernel
theorem dX10_quorumOf_20 : decode cX10_quorumOf 20 = .ok (.aload_n 0, 1) := by decide +kernel
theorem dX10_quorumOf_21 : decode cX10_quorumOf 21 = .ok (.getfield 50, 3) := by decide +kernel
theorem dX10_quorumOf_24 : decode cX10_quorumOf 24 = .ok (.bipush 6, 2) := by decide +kernel
theorem dX10_quorumOf_26 : decode cX10_quorumOf 26 = .ok (.iload_n 1, 1) := by decide +kernel
theorem dX10_quorumOf_27 : decode cX10_quorumOf 27 = .ok (.imul, 1) := by decide +kernel
theorem dX10_quorumOf_28 : decode cX10_quorumOf 28 = .ok (.iload_n 3, 1) := by decide +kernel
theorem dX10_quorumOf_29 : decode cX10_quorumOf 29 = .ok (.iadd, 1) := by decide +kernel
theorem dX10_quorumOf_30 : decode cX10_quorumOf 30 = .ok (.iaload, 1) := by decide +kernel
theorem dX10_quorumOf_31 : decode cX10_quorumOf 31 = .ok (.ireturn, 1) := by decide +kernel
theorem dX10_race_0 : decode cX10_race 0 = .ok (.aload_n 0, 1) := by decide +kernel
theorem dX10_race_1 : decode cX10_race 1 = .ok (.iconst 0, 1) := by decide +kernel
theorem dX10_race_2 : decode cX10_race 2 = .ok (.putfield 71, 3) := by decide +kernel
theorem dX10_race_5 : decode cX10_race 5 = .ok (.aload_n 0, 1) := by decide +kernel
theorem dX10_race_6 : decode cX10_race 6 = .ok (.iload_n 1, 1) := by decide +kernel
theorem dX10_race_7 : decode cX10_race 7 = .ok (.iload_n 2, 1) := by decide +kernel
theorem dX10_race_8 : decode cX10_race 8 = .ok (.iload_n 3, 1) := by decide +kernel
theorem dX10_race_9 : decode cX10_race 9 = .ok (.invokevirtual 379, 3) := by decide +kernel
theorem dX10_race_12 : decode cX10_race 12 = .ok (.ifCond .ne 6, 3) := by decide +kernel
theorem dX10_race_15 : decode cX10_race 15 = .ok (.bipush (-2), 2) := by decide +kernel
theorem dX10_race_17 : decode cX10_race 17 = .ok (.ireturn, 1) := by decide +kernel
theorem dX10_race_18 : decode cX10_race 18 = .ok (.aload_n 0, 1) := by decide +kernel
theorem dX10_race_19 : decode cX10_race 19 = .ok (.iload_n 1, 1) := by decide +kernel
theorem dX10_race_20 : decode cX10_race 20 = .ok (.iload_n 2, 1) := by decide +kernel
theorem dX10_race_21 : decode cX10_race 21 = .ok (.iload_n 3, 1) := by decide +kernel
theorem dX10_race_22 : decode cX10_race 22 = .ok (.invokevirtual 382, 3) := by decide +kernel
theorem dX10_race_25 : decode cX10_race 25 = .ok (.aload_n 0, 1) := by decide +kernel
theorem dX10_race_26 : decode cX10_race 26 = .ok (.getfield 366, 3) := by decide +kernel
theorem dX10_race_29 : decode cX10_race 29 = .ok (.ifCond .ne 9, 3) := by decide +kernel
theorem dX10_race_32 : decode cX10_race 32 = .ok (.sipush 10000, 3) := by decide +kernel
theorem dX10_race_35 : decode cX10_race 35 = .ok (.goto 7, 3) := by decide +kernel
theorem dX10_race_38 : decode cX10_race 38 = .ok (.aload_n 0, 1) := by decide +kernel
theorem dX10_race_39 : decode cX10_race 39 = .ok (.getfield 372, 3) := by decide +kernel
theorem dX10_race_42 : decode cX10_race 42 = .ok (.ireturn, 1) := by decide +kernel
theorem dX10_racer_0 : decode cX10_racer 0 = .ok (.aload_n 0, 1) := by decide +kernel
theorem dX10_racer_1 : decode cX10_racer 1 = .ok (.getfield 50, 3) := by decide +kernel
theorem dX10_racer_4 : decode cX10_racer 4 = .ok (.bipush 6, 2) := by decide +kernel
theorem dX10_racer_6 : decode cX10_racer 6 = .ok (.iload 4, 2) := by decide +kernel
theorem dX10_racer_8 : decode cX10_racer 8 = .ok (.imul, 1) := by decide +kernel
theorem dX10_racer_9 : decode cX10_racer 9 = .ok (.iload_n 2, 1) := by decide +kernel
theorem dX10_racer_10 : decode cX10_racer 10 = .ok (.iadd, 1) := by decide +kernel
theorem dX10_racer_11 : decode cX10_racer 11 = .ok (.dup2, 1) := by decide +kernel
theorem dX10_racer_12 : decode cX10_racer 12 = .ok (.iaload, 1) := by decide +kernel
theorem dX10_racer_13 : decode cX10_racer 13 = .ok (.iload 5, 2) := by decide +kernel
theorem dX10_racer_15 : decode cX10_racer 15 = .ok (.iadd, 1) := by decide +kernel
theorem dX10_racer_16 : decode cX10_racer 16 = .ok (.iastore, 1) := by decide +kernel
theorem dX10_racer_17 : decode cX10_racer 17 = .ok (.aload_n 0, 1) := by decide +kernel
theorem dX10_racer_18 : decode cX10_racer 18 = .ok (.getfield 50, 3) := by decide +kernel
theorem dX10_racer_21 : decode cX10_racer 21 = .ok (.bipush 6, 2) := by decide +kernel
theorem dX10_racer_23 : decode cX10_racer 23 = .ok (.iload 4, 2) := by decide +kernel
theorem dX10_racer_25 : decode cX10_racer 25 = .ok (.imul, 1) := by decide +kernel
theorem dX10_racer_26 : decode cX10_racer 26 = .ok (.iload_n 3, 1) := by decide +kernel
theorem dX10_racer_27 : decode cX10_racer 27 = .ok (.iadd, 1) := by decide +kernel
theorem dX10_racer_28 : decode cX10_racer 28 = .ok (.dup2, 1) := by decide +kernel
theorem dX10_racer_29 : decode cX10_racer 29 = .ok (.iaload, 1) := by decide +kernel
theorem dX10_racer_30 : decode cX10_racer 30 = .ok (.iload 6, 2) := by decide +kernel
theorem dX10_racer_32 : decode cX10_racer 32 = .ok (.iadd, 1) := by decide +kernel
theorem dX10_racer_33 : decode cX10_racer 33 = .ok (.iastore, 1) := by decide +kernel
theorem dX10_racer_34 : decode cX10_racer 34 = .ok (.aload_n 0, 1) := by decide +kernel
theorem dX10_racer_35 : decode cX10_racer 35 = .ok (.iload 4, 2) := by decide +kernel
theorem dX10_racer_37 : decode cX10_racer 37 = .ok (.aload_n 0, 1) := by decide +kernel
theorem dX10_racer_38 : decode cX10_racer 38 = .ok (.iload 4, 2) := by decide +kernel
theorem dX10_racer_40 : decode cX10_racer 40 = .ok (.invokevirtual 253, 3) := by decide +kernel
theorem dX10_racer_43 : decode cX10_racer 43 = .ok (.invokevirtual 250, 3) := by decide +kernel
theorem dX10_racer_46 : decode cX10_racer 46 = .ok (.istore 7, 2) := by decide +kernel
theorem dX10_racer_48 : decode cX10_racer 48 = .ok (.aload_n 0, 1) := by decide +kernel
theorem dX10_racer_49 : decode cX10_racer 49 = .ok (.aload_n 0, 1) := by decide +kernel
theorem dX10_racer_50 : decode cX10_racer 50 = .ok (.iload 4, 2) := by decide +kernel
theorem dX10_racer_52 : decode cX10_racer 52 = .ok (.invokevirtual 259, 3) := by decide +kernel
theorem dX10_racer_55 : decode cX10_racer 55 = .ok (.putfield 359, 3) := by decide +kernel
theorem dX10_racer_58 : decode cX10_racer 58 = .ok (.aload_n 0, 1) := by decide +kernel
theorem dX10_racer_59 : decode cX10_racer 59 = .ok (.getfield 50, 3) := by decide +kernel
theorem dX10_racer_62 : decode cX10_racer 62 = .ok (.bipush 6, 2) := by decide +kernel
theorem dX10_racer_64 : decode cX10_racer 64 = .ok (.iload 4, 2) := by decide +kernel
theorem dX10_racer_66 : decode cX10_racer 66 = .ok (.imul, 1) := by decide +kernel
theorem dX10_racer_67 : decode cX10_racer 67 = .ok (.iload_n 2, 1) := by decide +kernel
theorem dX10_racer_68 : decode cX10_racer 68 = .ok (.iadd, 1) := by decide +kernel
theorem dX10_racer_69 : decode cX10_racer 69 = .ok (.dup2, 1) := by decide +kernel
theorem dX10_racer_70 : decode cX10_racer 70 = .ok (.iaload, 1) := by decide +kernel
theorem dX10_racer_71 : decode cX10_racer 71 = .ok (.iload 5, 2) := by decide +kernel
theorem dX10_racer_73 : decode cX10_racer 73 = .ok (.isub, 1) := by decide +kernel
theorem dX10_racer_74 : decode cX10_racer 74 = .ok (.iastore, 1) := by decide +kernel
theorem dX10_racer_75 : decode cX10_racer 75 = .ok (.aload_n 0, 1) := by decide +kernel
theorem dX10_racer_76 : decode cX10_racer 76 = .ok (.getfield 50, 3) := by decide +kernel
theorem dX10_racer_79 : decode cX10_racer 79 = .ok (.bipush 6, 2) := by decide +kernel
theorem dX10_racer_81 : decode cX10_racer 81 = .ok (.iload 4, 2) := by decide +kernel
theorem dX10_racer_83 : decode cX10_racer 83 = .ok (.imul, 1) := by decide +kernel
theorem dX10_racer_84 : decode cX10_racer 84 = .ok (.iload_n 3, 1) := by decide +kernel
theorem dX10_racer_85 : decode cX10_racer 85 = .ok (.iadd, 1) := by decide +kernel
theorem dX10_racer_86 : decode cX10_racer 86 = .ok (.dup2, 1) := by decide +kernel
theorem dX10_racer_87 : decode cX10_racer 87 = .ok (.iaload, 1) := by decide +kernel
theorem dX10_racer_88 : decode cX10_racer 88 = .ok (.iload 6, 2) := by decide +kernel
theorem dX10_racer_90 : decode cX10_racer 90 = .ok (.isub, 1) := by decide +kernel
theorem dX10_racer_91 : decode cX10_racer 91 = .ok (.iastore, 1) := by decide +kernel
theorem dX10_racer_92 : decode cX10_racer 92 = .ok (.iload_n 1, 1) := by decide +kernel
theorem dX10_racer_93 : decode cX10_racer 93 = .ok (.ifCond .ne 7, 3) := by decide +kernel
theorem dX10_racer_96 : decode cX10_racer 96 = .ok (.iload_n 2, 1) := by decide +kernel
theorem dX10_racer_97 : decode cX10_racer 97 = .ok (.goto 4, 3) := by decide +kernel
theorem dX10_racer_100 : decode cX10_racer 100 = .ok (.iload_n 3, 1) := by decide +kernel
theorem dX10_racer_101 : decode cX10_racer 101 = .ok (.istore 8, 2) := by decide +kernel
theorem dX10_racer_103 : decode cX10_racer 103 = .ok (.iload 7, 2) := by decide +kernel
theorem dX10_racer_105 : decode cX10_racer 105 = .ok (.iload 8, 2) := by decide +kernel
theorem dX10_racer_107 : decode cX10_racer 107 = .ok (.if_icmp .ne 17, 3) := by decide +kernel
theorem dX10_racer_110 : decode cX10_racer 110 = .ok (.aload_n 0, 1) := by decide +kernel
theorem dX10_racer_111 : decode cX10_racer 111 = .ok (.getfield 37, 3) := by decide +kernel
theorem dX10_racer_114 : decode cX10_racer 114 = .ok (.iconst 5, 1) := by decide +kernel
theorem dX10_racer_115 : decode cX10_racer 115 = .ok (.iload 8, 2) := by decide +kernel
theorem dX10_racer_117 : decode cX10_racer 117 = .ok (.imul, 1) := by decide +kernel
theorem dX10_racer_118 : decode cX10_racer 118 = .ok (.iconst 3, 1) := by decide +kernel
theorem dX10_racer_119 : decode cX10_racer 119 = .ok (.iadd, 1) := by decide +kernel
theorem dX10_racer_120 : decode cX10_racer 120 = .ok (.iaload, 1) := by decide +kernel
theorem dX10_racer_121 : decode cX10_racer 121 = .ok (.goto 4, 3) := by decide +kernel
theorem dX10_racer_124 : decode cX10_racer 124 = .ok (.iconst 0, 1) := by decide +kernel
theorem dX10_racer_125 : decode cX10_racer 125 = .ok (.bipush 10, 2) := by decide +kernel
theorem dX10_racer_127 : decode cX10_racer 127 = .ok (.iload_n 1, 1) := by decide +kernel
theorem dX10_racer_128 : decode cX10_racer 128 = .ok (.ifCond .ne 8, 3) := by decide +kernel
theorem dX10_racer_131 : decode cX10_racer 131 = .ok (.iload 5, 2) := by decide +kernel
theorem dX10_racer_133 : decode cX10_racer 133 = .ok (.goto 5, 3) := by decide +kernel
theorem dX10_racer_136 : decode cX10_racer 136 = .ok (.iload 6, 2) := by decide +kernel
theorem dX10_racer_138 : decode cX10_racer 138 = .ok (.imul, 1) := by decide +kernel
theorem dX10_racer_139 : decode cX10_racer 139 = .ok (.isub, 1) := by decide +kernel
theorem dX10_racer_140 : decode cX10_racer 140 = .ok (.ireturn, 1) := by decide +kernel
theorem dX10_rate_0 : decode cX10_rate 0 = .ok (.aload_n 0, 1) := by decide +kernel
theorem dX10_rate_1 : decode cX10_rate 1 = .ok (.iconst 0, 1) := by decide +kernel
theorem dX10_rate_2 : decode cX10_rate 2 = .ok (.putfield 71, 3) := by decide +kernel
theorem dX10_rate_5 : decode cX10_rate 5 = .ok (.aload_n 0, 1) := by decide +kernel
theorem dX10_rate_6 : decode cX10_rate 6 = .ok (.iload_n 1, 1) := by decide +kernel
theorem dX10_rate_7 : decode cX10_rate 7 = .ok (.i2l, 1) := by decide +kernel
theorem dX10_rate_8 : decode cX10_rate 8 = .ok (.invokevirtual 267, 3) := by decide +kernel
theorem dX10_rate_11 : decode cX10_rate 11 = .ok (.ifCond .eq 15, 3) := by decide +kernel
theorem dX10_rate_14 : decode cX10_rate 14 = .ok (.iload_n 2, 1) := by decide +kernel
theorem dX10_rate_15 : decode cX10_rate 15 = .ok (.i2l, 1) := by decide +kernel
theorem dX10_rate_16 : decode cX10_rate 16 = .ok (.lconst 0, 1) := by decide +kernel
theorem dX10_rate_17 : decode cX10_rate 17 = .ok (.ldc2_w 439, 3) := by decide +kernel
theorem dX10_rate_20 : decode cX10_rate 20 = .ok (.invokestatic 76, 3) := by decide +kernel
theorem dX10_rate_23 : decode cX10_rate 23 = .ok (.ifCond .ne 6, 3) := by decide +kernel
theorem dX10_rate_26 : decode cX10_rate 26 = .ok (.bipush (-2), 2) := by decide +kernel
theorem dX10_rate_28 : decode cX10_rate 28 = .ok (.ireturn, 1) := by decide +kernel
theorem dX10_rate_29 : decode cX10_rate 29 = .ok (.aload_n 0, 1) := by decide +kernel
theorem dX10_rate_30 : decode cX10_rate 30 = .ok (.getfield 34, 3) := by decide +kernel
theorem dX10_rate_33 : decode cX10_rate 33 = .ok (.iconst 5, 1) := by decide +kernel
theorem dX10_rate_34 : decode cX10_rate 34 = .ok (.iaload, 1) := by decide +kernel
theorem dX10_rate_35 : decode cX10_rate 35 = .ok (.ifCond .le 6, 3) := by decide +kernel
theorem dX10_rate_38 : decode cX10_rate 38 = .ok (.bipush (-5), 2) := by decide +kernel
theorem dX10_rate_40 : decode cX10_rate 40 = .ok (.ireturn, 1) := by decide +kernel
theorem dX10_rate_41 : decode cX10_rate 41 = .ok (.aload_n 0, 1) := by decide +kernel
theorem dX10_rate_42 : decode cX10_rate 42 = .ok (.getfield 37, 3) := by decide +kernel
theorem dX10_rate_45 : decode cX10_rate 45 = .ok (.iconst 5, 1) := by decide +kernel
theorem dX10_rate_46 : decode cX10_rate 46 = .ok (.iload_n 1, 1) := by decide +kernel
theorem dX10_rate_47 : decode cX10_rate 47 = .ok (.imul, 1) := by decide +kernel
theorem dX10_rate_48 : decode cX10_rate 48 = .ok (.iconst 3, 1) := by decide +kernel
theorem dX10_rate_49 : decode cX10_rate 49 = .ok (.iadd, 1) := by decide +kernel
theorem dX10_rate_50 : decode cX10_rate 50 = .ok (.iaload, 1) := by decide +kernel
theorem dX10_rate_51 : decode cX10_rate 51 = .ok (.istore_n 3, 1) := by decide +kernel
theorem dX10_rate_52 : decode cX10_rate 52 = .ok (.aload_n 0, 1) := by decide +kernel
theorem dX10_rate_53 : decode cX10_rate 53 = .ok (.getfield 37, 3) := by decide +kernel
theorem dX10_rate_56 : decode cX10_rate 56 = .ok (.iconst 5, 1) := by decide +kernel
theorem dX10_rate_57 : decode cX10_rate 57 = .ok (.iload_n 1, 1) := by decide +kernel
theorem dX10_rate_58 : decode cX10_rate 58 = .ok (.imul, 1) := by decide +kernel
theorem dX10_rate_59 : decode cX10_rate 59 = .ok (.iconst 3, 1) := by decide +kernel
theorem dX10_rate_60 : decode cX10_rate 60 = .ok (.iadd, 1) := by decide +kernel
theorem dX10_rate_61 : decode cX10_rate 61 = .ok (.iload_n 2, 1) := by decide +kernel
theorem dX10_rate_62 : decode cX10_rate 62 = .ok (.iastore, 1) := by decide +kernel
theorem dX10_rate_63 : decode cX10_rate 63 = .ok (.iload_n 3, 1) := by decide +kernel
theorem dX10_rate_64 : decode cX10_rate 64 = .ok (.ireturn, 1) := by decide +kernel
theorem dX10_register_0 : decode cX10_register 0 = .ok (.aload_n 0, 1) := by decide +kernel
theorem dX10_register_1 : decode cX10_register 1 = .ok (.iconst 0, 1) := by decide +kernel
theorem dX10_register_2 : decode cX10_register 2 = .ok (.putfield 71, 3) := by decide +kernel
theorem dX10_register_5 : decode cX10_register 5 = .ok (.aload_n 0, 1) := by decide +kernel
theorem dX10_register_6 : decode cX10_register 6 = .ok (.iload_n 1, 1) := by decide +kernel
theorem dX10_register_7 : decode cX10_register 7 = .ok (.i2l, 1) := by decide +kernel
theorem dX10_register_8 : decode cX10_register 8 = .ok (.invokevirtual 272, 3) := by decide +kernel
theorem dX10_register_11 : decode cX10_register 11 = .ok (.ifCond .ne 6, 3) := by decide +kernel
theorem dX10_register_14 : decode cX10_register 14 = .ok (.bipush (-2), 2) := by decide +kernel
theorem dX10_register_16 : decode cX10_register 16 = .ok (.ireturn, 1) := by decide +kernel
theorem dX10_register_17 : decode cX10_register 17 = .ok (.aload_n 0, 1) := by decide +kernel
theorem dX10_register_18 : decode cX10_register 18 = .ok (.invokevirtual 275, 3) := by decide +kernel
theorem dX10_register_21 : decode cX10_register 21 = .ok (.iconst 1, 1) := by decide +kernel
theorem dX10_register_22 : decode cX10_register 22 = .ok (.aload_n 0, 1) := by decide +kernel
theorem dX10_register_23 : decode cX10_register 23 = .ok (.invokevirtual 229, 3) := by decide +kernel
theorem dX10_register_26 : decode cX10_register 26 = .ok (.ishl, 1) := by decide +kernel
theorem dX10_register_27 : decode cX10_register 27 = .ok (.iconst 1, 1) := by decide +kernel
theorem dX10_register_28 : decode cX10_register 28 = .ok (.isub, 1) := by decide +kernel
theorem dX10_register_29 : decode cX10_register 29 = .ok (.aload_n 0, 1) := by decide +kernel
theorem dX10_register_30 : decode cX10_register 30 = .ok (.iload_n 1, 1) := by decide +kernel
theorem dX10_register_31 : decode cX10_register 31 = .ok (.invokevirtual 253, 3) := by decide +kernel
theorem dX10_register_34 : decode cX10_register 34 = .ok (.iconst (-1), 1) := by decide +kernel
theorem dX10_register_35 : decode cX10_register 35 = .ok (.ixor, 1) := by decide +kernel
theorem dX10_register_36 : decode cX10_register 36 = .ok (.iand, 1) := by decide +kernel
theorem dX10_register_37 : decode cX10_register 37 = .ok (.ireturn, 1) := by decide +kernel
theorem dX10_reign_0 : decode cX10_reign 0 = .ok (.aload_n 0, 1) := by decide +kernel
theorem dX10_reign_1 : decode cX10_reign 1 = .ok (.iconst 0, 1) := by decide +kernel
theorem dX10_reign_2 : decode cX10_reign 2 = .ok (.putfield 71, 3) := by decide +kernel
theorem dX10_reign_5 : decode cX10_reign 5 = .ok (.aload_n 0, 1) := by decide +kernel
theorem dX10_reign_6 : decode cX10_reign 6 = .ok (.iload_n 1, 1) := by decide +kernel
theorem dX10_reign_7 : decode cX10_reign 7 = .ok (.i2l, 1) := by decide +kernel
theorem dX10_reign_8 : decode cX10_reign 8 = .ok (.invokevirtual 267, 3) := by decide +kernel
theorem dX10_reign_11 : decode cX10_reign 11 = .ok (.ifCond .ne 6, 3) := by decide +kernel
theorem dX10_reign_14 : decode cX10_reign 14 = .ok (.bipush (-2), 2) := by decide +kernel
theorem dX10_reign_16 : decode cX10_reign 16 = .ok (.ireturn, 1) := by decide +kernel
theorem dX10_reign_17 : decode cX10_reign 17 = .ok (.aload_n 0, 1) := by decide +kernel
theorem dX10_reign_18 : decode cX10_reign 18 = .ok (.invokevirtual 275, 3) := by decide +kernel
theorem dX10_reign_21 : decode cX10_reign 21 = .ok (.aload_n 0, 1) := by decide +kernel
theorem dX10_reign_22 : decode cX10_reign 22 = .ok (.iload_n 1, 1) := by decide +kernel
theorem dX10_reign_23 : decode cX10_reign 23 = .ok (.invokevirtual 288, 3) := by decide +kernel
theorem dX10_reign_26 : decode cX10_reign 26 = .ok (.ireturn, 1) := by decide +kernel
theorem dX10_reignOf_0 : decode cX10_reignOf 0 = .ok (.iconst 0, 1) := by decide +kernel
theorem dX10_reignOf_1 : decode cX10_reignOf 1 = .ok (.istore_n 2, 1) := by decide +kernel
theorem dX10_reignOf_2 : decode cX10_reignOf 2 = .ok (.iconst 0, 1) := by decide +kernel
theorem dX10_reignOf_3 : decode cX10_reignOf 3 = .ok (.istore_n 3, 1) := by decide +kernel
theorem dX10_reignOf_4 : decode cX10_reignOf 4 = .ok (.iload_n 3, 1) := by decide +kernel
theorem dX10_reignOf_5 : decode cX10_reignOf 5 = .ok (.aload_n 0, 1) := by decide +kernel
theorem dX10_reignOf_6 : decode cX10_reignOf 6 = .ok (.invokevirtual 225, 3) := by decide +kernel
theorem dX10_reignOf_9 : decode cX10_reignOf 9 = .ok (.if_icmp .ge 33, 3) := by decide +kernel
theorem dX10_reignOf_12 : decode cX10_reignOf 12 = .ok (.iload_n 2, 1) := by decide +kernel
theorem dX10_reignOf_13 : decode cX10_reignOf 13 = .ok (.aload_n 0, 1) := by decide +kernel
theorem dX10_reignOf_14 : decode cX10_reignOf 14 = .ok (.iload_n 3, 1) := by decide +kernel
theorem dX10_reignOf_15 : decode cX10_reignOf 15 = .ok (.aload_n 0, 1) := by decide +kernel
theorem dX10_reignOf_16 : decode cX10_reignOf 16 = .ok (.iload_n 3, 1) := by decide +kernel
theorem dX10_reignOf_17 : decode cX10_reignOf 17 = .ok (.invokevirtual 253, 3) := by decide +kernel
theorem dX10_reignOf_20 : decode cX10_reignOf 20 = .ok (.invokevirtual 250, 3) := by decide +kernel
theorem dX10_reignOf_23 : decode cX10_reignOf 23 = .ok (.iload_n 1, 1) := by decide +kernel
theorem dX10_reignOf_24 : decode cX10_reignOf 24 = .ok (.if_icmp .ne 9, 3) := by decide +kernel
theorem dX10_reignOf_27 : decode cX10_reignOf 27 = .ok (.iconst 1, 1) := by decide +kernel
theorem dX10_reignOf_28 : decode cX10_reignOf 28 = .ok (.iload_n 3, 1) := by decide +kernel
theorem dX10_reignOf_29 : decode cX10_reignOf 29 = .ok (.ishl, 1) := by decide +kernel
theorem dX10_reignOf_30 : decode cX10_reignOf 30 = .ok (.goto 4, 3) := by decide +kernel
theorem dX10_reignOf_33 : decode cX10_reignOf 33 = .ok (.iconst 0, 1) := by decide +kernel
theorem dX10_reignOf_34 : decode cX10_reignOf 34 = .ok (.ior, 1) := by decide +kernel
theorem dX10_reignOf_35 : decode cX10_reignOf 35 = .ok (.istore_n 2, 1) := by decide +kernel
theorem dX10_reignOf_36 : decode cX10_reignOf 36 = .ok (.iinc 3 1, 3) := by decide +kernel
theorem dX10_reignOf_39 : decode cX10_reignOf 39 = .ok (.goto (-35), 3) := by decide +kernel
theorem dX10_reignOf_42 : decode cX10_reignOf 42 = .ok (.iload_n 2, 1) := by decide +kernel
theorem dX10_reignOf_43 : decode cX10_reignOf 43 = .ok (.ireturn, 1) := by decide +kernel
theorem dX10_rents_0 : decode cX10_rents 0 = .ok (.aload_n 0, 1) := by decide +kernel
theorem dX10_rents_1 : decode cX10_rents 1 = .ok (.iconst 0, 1) := by decide +kernel
theorem dX10_rents_2 : decode cX10_rents 2 = .ok (.putfield 71, 3) := by decide +kernel
theorem dX10_rents_5 : decode cX10_rents 5 = .ok (.aload_n 0, 1) := by decide +kernel
theorem dX10_rents_6 : decode cX10_rents 6 = .ok (.iload_n 1, 1) := by decide +kernel
theorem dX10_rents_7 : decode cX10_rents 7 = .ok (.i2l, 1) := by decide +kernel
theorem dX10_rents_8 : decode cX10_rents 8 = .ok (.invokevirtual 267, 3) := by decide +kernel
theorem dX10_rents_11 : decode cX10_rents 11 = .ok (.ifCond .ne 6, 3) := by decide +kernel
theorem dX10_rents_14 : decode cX10_rents 14 = .ok (.bipush (-2), 2) := by decide +kernel
theorem dX10_rents_16 : decode cX10_rents 16 = .ok (.ireturn, 1) := by decide +kernel
theorem dX10_rents_17 : decode cX10_rents 17 = .ok (.aload_n 0, 1) := by decide +kernel
theorem dX10_rents_18 : decode cX10_rents 18 = .ok (.invokevirtual 275, 3) := by decide +kernel
theorem dX10_rents_21 : decode cX10_rents 21 = .ok (.aload_n 0, 1) := by decide +kernel
theorem dX10_rents_22 : decode cX10_rents 22 = .ok (.iload_n 1, 1) := by decide +kernel
theorem dX10_rents_23 : decode cX10_rents 23 = .ok (.invokevirtual 294, 3) := by decide +kernel
theorem dX10_rents_26 : decode cX10_rents 26 = .ok (.ireturn, 1) := by decide +kernel
theorem dX10_rentsOf_0 : decode cX10_rentsOf 0 = .ok (.aload_n 0, 1) := by decide +kernel
theorem dX10_rentsOf_1 : decode cX10_rentsOf 1 = .ok (.getfield 37, 3) := by decide +kernel
theorem dX10_rentsOf_4 : decode cX10_rentsOf 4 = .ok (.iconst 5, 1) := by decide +kernel
theorem dX10_rentsOf_5 : decode cX10_rentsOf 5 = .ok (.iload_n 1, 1) := by decide +kernel
theorem dX10_rentsOf_6 : decode cX10_rentsOf 6 = .ok (.imul, 1) := by decide +kernel
theorem dX10_rentsOf_7 : decode cX10_rentsOf 7 = .ok (.iconst 3, 1) := by decide +kernel
theorem dX10_rentsOf_8 : decode cX10_rentsOf 8 = .ok (.iadd, 1) := by decide +kernel
theorem dX10_rentsOf_9 : decode cX10_rentsOf 9 = .ok (.iaload, 1) := by decide +kernel
theorem dX10_rentsOf_10 : decode cX10_rentsOf 10 = .ok (.aload_n 0, 1) := by decide +kernel
theorem dX10_rentsOf_11 : decode cX10_rentsOf 11 = .ok (.iload_n 1, 1) := by decide +kernel
theorem dX10_rentsOf_12 : decode cX10_rentsOf 12 = .ok (.invokevirtual 288, 3) := by decide +kernel
theorem dX10_rentsOf_15 : decode cX10_rentsOf 15 = .ok (.invokestatic 291, 3) := by decide +kernel
theorem dX10_rentsOf_18 : decode cX10_rentsOf 18 = .ok (.imul, 1) := by decide +kernel
theorem dX10_rentsOf_19 : decode cX10_rentsOf 19 = .ok (.ireturn, 1) := by decide +kernel
theorem dX10_rest_0 : decode cX10_rest 0 = .ok (.aload_n 0, 1) := by decide +kernel
theorem dX10_rest_1 : decode cX10_rest 1 = .ok (.iconst 0, 1) := by decide +kernel
theorem dX10_rest_2 : decode cX10_rest 2 = .ok (.putfield 71, 3) := by decide +kernel
theorem dX10_rest_5 : decode cX10_rest 5 = .ok (.aload_n 0, 1) := by decide +kernel
theorem dX10_rest_6 : decode cX10_rest 6 = .ok (.iload_n 1, 1) := by decide +kernel
theorem dX10_rest_7 : decode cX10_rest 7 = .ok (.iload_n 2, 1) := by decide +kernel
theorem dX10_rest_8 : decode cX10_rest 8 = .ok (.iload_n 3, 1) := by decide +kernel
theorem dX10_rest_9 : decode cX10_rest 9 = .ok (.invokevirtual 379, 3) := by decide +kernel
theorem dX10_rest_12 : decode cX10_rest 12 = .ok (.ifCond .ne 6, 3) := by decide +kernel
theorem dX10_rest_15 : decode cX10_rest 15 = .ok (.bipush (-2), 2) := by decide +kernel
theorem dX10_rest_17 : decode cX10_rest 17 = .ok (.ireturn, 1) := by decide +kernel
theorem dX10_rest_18 : decode cX10_rest 18 = .ok (.aload_n 0, 1) := by decide +kernel
theorem dX10_rest_19 : decode cX10_rest 19 = .ok (.iload_n 1, 1) := by decide +kernel
theorem dX10_rest_20 : decode cX10_rest 20 = .ok (.iload_n 2, 1) := by decide +kernel
theorem dX10_rest_21 : decode cX10_rest 21 = .ok (.iload_n 3, 1) := by decide +kernel
theorem dX10_rest_22 : decode cX10_rest 22 = .ok (.invokevirtual 382, 3) := by decide +kernel
theorem dX10_rest_25 : decode cX10_rest 25 = .ok (.aload_n 0, 1) := by decide +kernel
theorem dX10_rest_26 : decode cX10_rest 26 = .ok (.getfield 369, 3) := by decide +kernel
theorem dX10_rest_29 : decode cX10_rest 29 = .ok (.ireturn, 1) := by decide +kernel
theorem dX10_rests_0 : decode cX10_rests 0 = .ok (.aload_n 0, 1) := by decide +kernel
theorem dX10_rests_1 : decode cX10_rests 1 = .ok (.iconst 0, 1) := by decide +kernel
theorem dX10_rests_2 : decode cX10_rests 2 = .ok (.putfield 71, 3) := by decide +kernel
theorem dX10_rests_5 : decode cX10_rests 5 = .ok (.aload_n 0, 1) := by decide +kernel
theorem dX10_rests_6 : decode cX10_rests 6 = .ok (.iload_n 1, 1) := by decide +kernel
theorem dX10_rests_7 : decode cX10_rests 7 = .ok (.iload_n 2, 1) := by decide +kernel
theorem dX10_rests_8 : decode cX10_rests 8 = .ok (.iload_n 3, 1) := by decide +kernel
theorem dX10_rests_9 : decode cX10_rests 9 = .ok (.invokevirtual 379, 3) := by decide +kernel
theorem dX10_rests_12 : decode cX10_rests 12 = .ok (.ifCond .ne 6, 3) := by decide +kernel
theorem dX10_rests_15 : decode cX10_rests 15 = .ok (.bipush (-2), 2) := by decide +kernel
theorem dX10_rests_17 : decode cX10_rests 17 = .ok (.ireturn, 1) := by decide +kernel
theorem dX10_rests_18 : decode cX10_rests 18 = .ok (.aload_n 0, 1) := by decide +kernel
theorem dX10_rests_19 : decode cX10_rests 19 = .ok (.iload_n 1, 1) := by decide +kernel
theorem dX10_rests_20 : decode cX10_rests 20 = .ok (.iload_n 2, 1) := by decide +kernel
theorem dX10_rests_21 : decode cX10_rests 21 = .ok (.iload_n 3, 1) := by decide +kernel
theorem dX10_rests_22 : decode cX10_rests 22 = .ok (.invokevirtual 382, 3) := by decide +kernel
theorem dX10_rests_25 : decode cX10_rests 25 = .ok (.aload_n 0, 1) := by decide +kernel
theorem dX10_rests_26 : decode cX10_rests 26 = .ok (.getfield 366, 3) := by decide +kernel
theorem dX10_rests_29 : decode cX10_rests 29 = .ok (.ireturn, 1) := by decide +kernel
theorem dX10_round_0 : decode cX10_round 0 = .ok (.aload_n 0, 1) := by decide +kernel
theorem dX10_round_1 : decode cX10_round 1 = .ok (.iconst 0, 1) := by decide +kernel
theorem dX10_round_2 : decode cX10_round 2 = .ok (.putfield 71, 3) := by decide +kernel
theorem dX10_round_5 : decode cX10_round 5 = .ok (.aload_n 0, 1) := by decide +kernel
theorem dX10_round_6 : decode cX10_round 6 = .ok (.iload_n 1, 1) := by decide +kernel
theorem dX10_round_7 : decode cX10_round 7 = .ok (.i2l, 1) := by decide +kernel
theorem dX10_round_8 : decode cX10_round 8 = .ok (.invokevirtual 272, 3) := by decide +kernel
theorem dX10_round_11 : decode cX10_round 11 = .ok (.ifCond .ne 6, 3) := by decide +kernel
theorem dX10_round_14 : decode cX10_round 14 = .ok (.bipush (-2), 2) := by decide +kernel
theorem dX10_round_16 : decode cX10_round 16 = .ok (.ireturn, 1) := by decide +kernel
theorem dX10_round_17 : decode cX10_round 17 = .ok (.aload_n 0, 1) := by decide +kernel
theorem dX10_round_18 : decode cX10_round 18 = .ok (.invokevirtual 275, 3) := by decide +kernel
theorem dX10_round_21 : decode cX10_round 21 = .ok (.aload_n 0, 1) := by decide +kernel
theorem dX10_round_22 : decode cX10_round 22 = .ok (.iload_n 1, 1) := by decide +kernel
theorem dX10_round_23 : decode cX10_round 23 = .ok (.aload_n 0, 1) := by decide +kernel
theorem dX10_round_24 : decode cX10_round 24 = .ok (.getfield 34, 3) := by decide +kernel
theorem dX10_round_27 : decode cX10_round 27 = .ok (.iconst 1, 1) := by decide +kernel
theorem dX10_round_28 : decode cX10_round 28 = .ok (.iaload, 1) := by decide +kernel
theorem dX10_round_29 : decode cX10_round 29 = .ok (.invokevirtual 351, 3) := by decide +kernel
theorem dX10_round_32 : decode cX10_round 32 = .ok (.ireturn, 1) := by decide +kernel
theorem dX10_roundFrom_0 : decode cX10_roundFrom 0 = .ok (.iload_n 3, 1) := by decide +kernel
theorem dX10_roundFrom_1 : decode cX10_roundFrom 1 = .ok (.ifCond .ne 49, 3) := by decide +kernel
theorem dX10_roundFrom_4 : decode cX10_roundFrom 4 = .ok (.iload 5, 2) := by decide +kernel
theorem dX10_roundFrom_6 : decode cX10_roundFrom 6 = .ok (.aload_n 0, 1) := by decide +kernel
theorem dX10_roundFrom_7 : decode cX10_roundFrom 7 = .ok (.getfield 340, 3) := by decide +kernel
theorem dX10_roundFrom_10 : decode cX10_roundFrom 10 = .ok (.if_icmp .lt 4, 3) := by decide +kernel
theorem dX10_roundFrom_13 : decode cX10_roundFrom 13 = .ok (.return_, 1) := by decide +kernel
theorem dX10_roundFrom_14 : decode cX10_roundFrom 14 = .ok (.aload_n 0, 1) := by decide +kernel
theorem dX10_roundFrom_15 : decode cX10_roundFrom 15 = .ok (.iload 5, 2) := by decide +kernel
theorem dX10_roundFrom_17 : decode cX10_roundFrom 17 = .ok (.putfield 340, 3) := by decide +kernel
theorem dX10_roundFrom_20 : decode cX10_roundFrom 20 = .ok (.iconst 0, 1) := by decide +kernel
theorem dX10_roundFrom_21 : decode cX10_roundFrom 21 = .ok (.istore 6, 2) := by decide +kernel
theorem dX10_roundFrom_23 : decode cX10_roundFrom 23 = .ok (.iload 6, 2) := by decide +kernel
theorem dX10_roundFrom_25 : decode cX10_roundFrom 25 = .ok (.iload_n 2, 1) := by decide +kernel
theorem dX10_roundFrom_26 : decode cX10_roundFrom 26 = .ok (.if_icmp .ge 23, 3) := by decide +kernel
theorem dX10_roundFrom_29 : decode cX10_roundFrom 29 = .ok (.aload_n 0, 1) := by decide +kernel
theorem dX10_roundFrom_30 : decode cX10_roundFrom 30 = .ok (.getfield 65, 3) := by decide +kernel
theorem dX10_roundFrom_33 : decode cX10_roundFrom 33 = .ok (.iload 6, 2) := by decide +kernel
theorem dX10_roundFrom_35 : decode cX10_roundFrom 35 = .ok (.aload_n 0, 1) := by decide +kernel
theorem dX10_roundFrom_36 : decode cX10_roundFrom 36 = .ok (.getfield 62, 3) := by decide +kernel
theorem dX10_roundFrom_39 : decode cX10_roundFrom 39 = .ok (.iload 6, 2) := by decide +kernel
theorem dX10_roundFrom_41 : decode cX10_roundFrom 41 = .ok (.iaload, 1) := by decide +kernel
theorem dX10_roundFrom_42 : decode cX10_roundFrom 42 = .ok (.iastore, 1) := by decide +kernel
theorem dX10_roundFrom_43 : decode cX10_roundFrom 43 = .ok (.iinc 6 1, 3) := by decide +kernel
theorem dX10_roundFrom_46 : decode cX10_roundFrom 46 = .ok (.goto (-23), 3) := by decide +kernel
theorem dX10_roundFrom_49 : decode cX10_roundFrom 49 = .ok (.return_, 1) := by decide +kernel
theorem dX10_roundFrom_50 : decode cX10_roundFrom 50 = .ok (.iconst 0, 1) := by decide +kernel
theorem dX10_roundFrom_51 : decode cX10_roundFrom 51 = .ok (.istore 6, 2) := by decide +kernel
theorem dX10_roundFrom_53 : decode cX10_roundFrom 53 = .ok (.iload 6, 2) := by decide +kernel
theorem dX10_roundFrom_55 : decode cX10_roundFrom 55 = .ok (.aload_n 0, 1) := by decide +kernel
theorem dX10_roundFrom_56 : decode cX10_roundFrom 56 = .ok (.invokevirtual 229, 3) := by decide +kernel
theorem dX10_roundFrom_59 : decode cX10_roundFrom 59 = .ok (.if_icmp .ge 65, 3) := by decide +kernel
theorem dX10_roundFrom_62 : decode cX10_roundFrom 62 = .ok (.iload_n 3, 1) := by decide +kernel
theorem dX10_roundFrom_63 : decode cX10_roundFrom 63 = .ok (.iload 6, 2) := by decide +kernel
theorem dX10_roundFrom_65 : decode cX10_roundFrom 65 = .ok (.invokestatic 246, 3) := by decide +kernel
theorem dX10_roundFrom_68 : decode cX10_roundFrom 68 = .ok (.ifCond .ne 6, 3) := by decide +kernel
theorem dX10_roundFrom_71 : decode cX10_roundFrom 71 = .ok (.goto 47, 3) := by decide +kernel
theorem dX10_roundFrom_74 : decode cX10_roundFrom 74 = .ok (.aload_n 0, 1) := by decide +kernel
theorem dX10_roundFrom_75 : decode cX10_roundFrom 75 = .ok (.getfield 62, 3) := by decide +kernel
theorem dX10_roundFrom_78 : decode cX10_roundFrom 78 = .ok (.iload_n 2, 1) := by decide +kernel
theorem dX10_roundFrom_79 : decode cX10_roundFrom 79 = .ok (.iload 6, 2) := by decide +kernel
theorem dX10_roundFrom_81 : decode cX10_roundFrom 81 = .ok (.iastore, 1) := by decide +kernel
theorem dX10_roundFrom_82 : decode cX10_roundFrom 82 = .ok (.aload_n 0, 1) := by decide +kernel
theorem dX10_roundFrom_83 : decode cX10_roundFrom 83 = .ok (.iload_n 1, 1) := by decide +kernel
theorem dX10_roundFrom_84 : decode cX10_roundFrom 84 = .ok (.iload_n 2, 1) := by decide +kernel
theorem dX10_roundFrom_85 : decode cX10_roundFrom 85 = .ok (.iconst 1, 1) := by decide +kernel
theorem dX10_roundFrom_86 : decode cX10_roundFrom 86 = .ok (.iadd, 1) := by decide +kernel
theorem dX10_roundFrom_87 : decode cX10_roundFrom 87 = .ok (.iload_n 3, 1) := by decide +kernel
theorem dX10_roundFrom_88 : decode cX10_roundFrom 88 = .ok (.iconst 1, 1) := by decide +kernel
theorem dX10_roundFrom_89 : decode cX10_roundFrom 89 = .ok (.iload 6, 2) := by decide +kernel
theorem dX10_roundFrom_91 : decode cX10_roundFrom 91 = .ok (.ishl, 1) := by decide +kernel
theorem dX10_roundFrom_92 : decode cX10_roundFrom 92 = .ok (.iconst (-1), 1) := by decide +kernel
theorem dX10_roundFrom_93 : decode cX10_roundFrom 93 = .ok (.ixor, 1) := by decide +kernel
theorem dX10_roundFrom_94 : decode cX10_roundFrom 94 = .ok (.iand, 1) := by decide +kernel
theorem dX10_roundFrom_95 : decode cX10_roundFrom 95 = .ok (.aload_n 0, 1) := by decide +kernel
theorem dX10_roundFrom_96 : decode cX10_roundFrom 96 = .ok (.getfield 37, 3) := by decide +kernel
theorem dX10_roundFrom_99 : decode cX10_roundFrom 99 = .ok (.iconst 5, 1) := by decide +kernel
theorem dX10_roundFrom_100 : decode cX10_roundFrom 100 = .ok (.iload 6, 2) := by decide +kernel
theorem dX10_roundFrom_102 : decode cX10_roundFrom 102 = .ok (.imul, 1) := by decide +kernel
theorem dX10_roundFrom_103 : decode cX10_roundFrom 103 = .ok (.iaload, 1) := by decide +kernel
theorem dX10_roundFrom_104 : decode cX10_roundFrom 104 = .ok (.aload_n 0, 1) := by decide +kernel
theorem dX10_roundFrom_105 : decode cX10_roundFrom 105 = .ok (.iload_n 1, 1) := by decide +kernel
theorem dX10_roundFrom_106 : decode cX10_roundFrom 106 = .ok (.iload 4, 2) := by decide +kernel
theorem dX10_roundFrom_108 : decode cX10_roundFrom 108 = .ok (.iload 5, 2) := by decide +kernel
theorem dX10_roundFrom_110 : decode cX10_roundFrom 110 = .ok (.iload 6, 2) := by decide +kernel
theorem dX10_roundFrom_112 : decode cX10_roundFrom 112 = .ok (.invokevirtual 343, 3) := by decide +kernel
theorem dX10_roundFrom_115 : decode cX10_roundFrom 115 = .ok (.invokevirtual 347, 3) := by decide +kernel
theorem dX10_roundFrom_118 : decode cX10_roundFrom 118 = .ok (.iinc 6 1, 3) := by decide +kernel
theorem dX10_roundFrom_121 : decode cX10_roundFrom 121 = .ok (.goto (-68), 3) := by decide +kernel
theorem dX10_roundFrom_124 : decode cX10_roundFrom 124 = .ok (.return_, 1) := by decide +kernel
theorem dX10_roundOf_0 : decode cX10_roundOf 0 = .ok (.aload_n 0, 1) := by decide +kernel
theorem dX10_roundOf_1 : decode cX10_roundOf 1 = .ok (.ldc 121, 2) := by decide +kernel
theorem dX10_roundOf_3 : decode cX10_roundOf 3 = .ok (.putfield 340, 3) := by decide +kernel
theorem dX10_roundOf_6 : decode cX10_roundOf 6 = .ok (.aload_n 0, 1) := by decide +kernel
theorem dX10_roundOf_7 : decode cX10_roundOf 7 = .ok (.iload_n 1, 1) := by decide +kernel
theorem dX10_roundOf_8 : decode cX10_roundOf 8 = .ok (.iconst 0, 1) := by decide +kernel
theorem dX10_roundOf_9 : decode cX10_roundOf 9 = .ok (.aload_n 0, 1) := by decide +kernel
theorem dX10_roundOf_10 : decode cX10_roundOf 10 = .ok (.iload_n 1, 1) := by decide +kernel
theorem dX10_roundOf_11 : decode cX10_roundOf 11 = .ok (.invokevirtual 253, 3) := by decide +kernel
theorem dX10_roundOf_14 : decode cX10_roundOf 14 = .ok (.iload_n 2, 1) := by decide +kernel
theorem dX10_roundOf_15 : decode cX10_roundOf 15 = .ok (.iconst 0, 1) := by decide +kernel
theorem dX10_roundOf_16 : decode cX10_roundOf 16 = .ok (.invokevirtual 347, 3) := by decide +kernel
theorem dX10_roundOf_19 : decode cX10_roundOf 19 = .ok (.aload_n 0, 1) := by decide +kernel
theorem dX10_roundOf_20 : decode cX10_roundOf 20 = .ok (.getfield 340, 3) := by decide +kernel
theorem dX10_roundOf_23 : decode cX10_roundOf 23 = .ok (.sipush 10000, 3) := by decide +kernel
theorem dX10_roundOf_26 : decode cX10_roundOf 26 = .ok (.if_icmp .lt 9, 3) := by decide +kernel
theorem dX10_roundOf_29 : decode cX10_roundOf 29 = .ok (.sipush 10000, 3) := by decide +kernel
theorem dX10_roundOf_32 : decode cX10_roundOf 32 = .ok (.goto 7, 3) := by decide +kernel
theorem dX10_roundOf_35 : decode cX10_roundOf 35 = .ok (.aload_n 0, 1) := by decide +kernel
theorem dX10_roundOf_36 : decode cX10_roundOf 36 = .ok (.getfield 340, 3) := by decide +kernel
theorem dX10_roundOf_39 : decode cX10_roundOf 39 = .ok (.ireturn, 1) := by decide +kernel
theorem dX10_rounds_0 : decode cX10_rounds 0 = .ok (.aload_n 0, 1) := by decide +kernel
theorem dX10_rounds_1 : decode cX10_rounds 1 = .ok (.iconst 0, 1) := by decide +kernel
theorem dX10_rounds_2 : decode cX10_rounds 2 = .ok (.putfield 71, 3) := by decide +kernel
theorem dX10_rounds_5 : decode cX10_rounds 5 = .ok (.aload_n 0, 1) := by decide +kernel
theorem dX10_rounds_6 : decode cX10_rounds 6 = .ok (.iload_n 1, 1) := by decide +kernel
theorem dX10_rounds_7 : decode cX10_rounds 7 = .ok (.i2l, 1) := by decide +kernel
theorem dX10_rounds_8 : decode cX10_rounds 8 = .ok (.invokevirtual 272, 3) := by decide +kernel
theorem dX10_rounds_11 : decode cX10_rounds 11 = .ok (.ifCond .ne 6, 3) := by decide +kernel
theorem dX10_rounds_14 : decode cX10_rounds 14 = .ok (.bipush (-2), 2) := by decide +kernel
theorem dX10_rounds_16 : decode cX10_rounds 16 = .ok (.ireturn, 1) := by decide +kernel
theorem dX10_rounds_17 : decode cX10_rounds 17 = .ok (.aload_n 0, 1) := by decide +kernel
theorem dX10_rounds_18 : decode cX10_rounds 18 = .ok (.invokevirtual 275, 3) := by decide +kernel
theorem dX10_rounds_21 : decode cX10_rounds 21 = .ok (.aload_n 0, 1) := by decide +kernel
theorem dX10_rounds_22 : decode cX10_rounds 22 = .ok (.iload_n 1, 1) := by decide +kernel
theorem dX10_rounds_23 : decode cX10_rounds 23 = .ok (.aload_n 0, 1) := by decide +kernel
theorem dX10_rounds_24 : decode cX10_rounds 24 = .ok (.getfield 34, 3) := by decide +kernel
theorem dX10_rounds_27 : decode cX10_rounds 27 = .ok (.iconst 1, 1) := by decide +kernel
theorem dX10_rounds_28 : decode cX10_rounds 28 = .ok (.iaload, 1) := by decide +kernel
theorem dX10_rounds_29 : decode cX10_rounds 29 = .ok (.invokevirtual 351, 3) := by decide +kernel
theorem dX10_rounds_32 : decode cX10_rounds 32 = .ok (.sipush 10000, 3) := by decide +kernel
theorem dX10_rounds_35 : decode cX10_rounds 35 = .ok (.if_icmp .eq 23, 3) := by decide +kernel
theorem dX10_rounds_38 : decode cX10_rounds 38 = .ok (.iload_n 2, 1) := by decide +kernel
theorem dX10_rounds_39 : decode cX10_rounds 39 = .ok (.i2l, 1) := by decide +kernel
theorem dX10_rounds_40 : decode cX10_rounds 40 = .ok (.lconst 0, 1) := by decide +kernel
theorem dX10_rounds_41 : decode cX10_rounds 41 = .ok (.aload_n 0, 1) := by decide +kernel
theorem dX10_rounds_42 : decode cX10_rounds 42 = .ok (.iload_n 1, 1) := by decide +kernel
theorem dX10_rounds_43 : decode cX10_rounds 43 = .ok (.invokevirtual 253, 3) := by decide +kernel
theorem dX10_rounds_46 : decode cX10_rounds 46 = .ok (.invokestatic 291, 3) := by decide +kernel
theorem dX10_rounds_49 : decode cX10_rounds 49 = .ok (.iconst 1, 1) := by decide +kernel
theorem dX10_rounds_50 : decode cX10_rounds 50 = .ok (.isub, 1) := by decide +kernel
theorem dX10_rounds_51 : decode cX10_rounds 51 = .ok (.i2l, 1) := by decide +kernel
theorem dX10_rounds_52 : decode cX10_rounds 52 = .ok (.invokestatic 76, 3) := by decide +kernel
theorem dX10_rounds_55 : decode cX10_rounds 55 = .ok (.ifCond .ne 7, 3) := by decide +kernel
theorem dX10_rounds_58 : decode cX10_rounds 58 = .ok (.iconst (-1), 1) := by decide +kernel
theorem dX10_rounds_59 : decode cX10_rounds 59 = .ok (.goto 9, 3) := by decide +kernel
theorem dX10_rounds_62 : decode cX10_rounds 62 = .ok (.aload_n 0, 1) := by decide +kernel
theorem dX10_rounds_63 : decode cX10_rounds 63 = .ok (.getfield 65, 3) := by decide +kernel
theorem dX10_rounds_66 : decode cX10_rounds 66 = .ok (.iload_n 2, 1) := by decide +kernel
theorem dX10_rounds_67 : decode cX10_rounds 67 = .ok (.iaload, 1) := by decide +kernel
theorem dX10_rounds_68 : decode cX10_rounds 68 = .ok (.ireturn, 1) := by decide +kernel
theorem dX10_row_0 : decode cX10_row 0 = .ok (.aload_n 0, 1) := by decide +kernel
theorem dX10_row_1 : decode cX10_row 1 = .ok (.iconst 0, 1) := by decide +kernel
theorem dX10_row_2 : decode cX10_row 2 = .ok (.putfield 71, 3) := by decide +kernel
theorem dX10_row_5 : decode cX10_row 5 = .ok (.iload_n 1, 1) := by decide +kernel
theorem dX10_row_6 : decode cX10_row 6 = .ok (.invokestatic 80, 3) := by decide +kernel
theorem dX10_row_9 : decode cX10_row 9 = .ok (.ifCond .eq 21, 3) := by decide +kernel
theorem dX10_row_12 : decode cX10_row 12 = .ok (.iload_n 2, 1) := by decide +kernel
theorem dX10_row_13 : decode cX10_row 13 = .ok (.i2l, 1) := by decide +kernel
theorem dX10_row_14 : decode cX10_row 14 = .ok (.lconst 0, 1) := by decide +kernel
theorem dX10_row_15 : decode cX10_row 15 = .ok (.ldc2_w 74, 3) := by decide +kernel
theorem dX10_row_18 : decode cX10_row 18 = .ok (.invokestatic 76, 3) := by decide +kernel
theorem dX10_row_21 : decode cX10_row 21 = .ok (.ifCond .eq 9, 3) := by decide +kernel
theorem dX10_row_24 : decode cX10_row 24 = .ok (.iload_n 3, 1) := by decide +kernel
theorem dX10_row_25 : decode cX10_row 25 = .ok (.bipush 60, 2) := by decide +kernel
theorem dX10_row_27 : decode cX10_row 27 = .ok (.if_icmp .le 6, 3) := by decide +kernel
theorem dX10_row_30 : decode cX10_row 30 = .ok (.bipush (-2), 2) := by decide +kernel
theorem dX10_row_32 : decode cX10_row 32 = .ok (.ireturn, 1) := by decide +kernel
theorem dX10_row_33 : decode cX10_row 33 = .ok (.iload_n 3, 1) := by decide +kernel
theorem dX10_row_34 : decode cX10_row 34 = .ok (.ifCond .ge 6, 3) := by decide +kernel
theorem dX10_row_37 : decode cX10_row 37 = .ok (.bipush (-3), 2) := by decide +kernel
theorem dX10_row_39 : decode cX10_row 39 = .ok (.ireturn, 1) := by decide +kernel
theorem dX10_row_40 : decode cX10_row 40 = .ok (.aload_n 0, 1) := by decide +kernel
theorem dX10_row_41 : decode cX10_row 41 = .ok (.getfield 7, 3) := by decide +kernel
theorem dX10_row_44 : decode cX10_row 44 = .ok (.iload_n 1, 1) := by decide +kernel
theorem dX10_row_45 : decode cX10_row 45 = .ok (.iload_n 2, 1) := by decide +kernel
theorem dX10_row_46 : decode cX10_row 46 = .ok (.iastore, 1) := by decide +kernel
theorem dX10_row_47 : decode cX10_row 47 = .ok (.aload_n 0, 1) := by decide +kernel
theorem dX10_row_48 : decode cX10_row 48 = .ok (.getfield 13, 3) := by decide +kernel
theorem dX10_row_51 : decode cX10_row 51 = .ok (.iload_n 1, 1) := by decide +kernel
theorem dX10_row_52 : decode cX10_row 52 = .ok (.iload_n 3, 1) := by decide +kernel
theorem dX10_row_53 : decode cX10_row 53 = .ok (.iastore, 1) := by decide +kernel
theorem dX10_row_54 : decode cX10_row 54 = .ok (.iconst 0, 1) := by decide +kernel
theorem dX10_row_55 : decode cX10_row 55 = .ok (.istore 4, 2) := by decide +kernel
theorem dX10_row_57 : decode cX10_row 57 = .ok (.iload 4, 2) := by decide +kernel
theorem dX10_row_59 : decode cX10_row 59 = .ok (.iload_n 3, 1) := by decide +kernel
theorem dX10_row_60 : decode cX10_row 60 = .ok (.if_icmp .ge 22, 3) := by decide +kernel
theorem dX10_row_63 : decode cX10_row 63 = .ok (.aload_n 0, 1) := by decide +kernel
theorem dX10_row_64 : decode cX10_row 64 = .ok (.getfield 16, 3) := by decide +kernel
theorem dX10_row_67 : decode cX10_row 67 = .ok (.bipush 60, 2) := by decide +kernel
theorem dX10_row_69 : decode cX10_row 69 = .ok (.iload_n 1, 1) := by decide +kernel
theorem dX10_row_70 : decode cX10_row 70 = .ok (.imul, 1) := by decide +kernel
theorem dX10_row_71 : decode cX10_row 71 = .ok (.iload 4, 2) := by decide +kernel
theorem dX10_row_73 : decode cX10_row 73 = .ok (.iadd, 1) := by decide +kernel
theorem dX10_row_74 : decode cX10_row 74 = .ok (.lconst 0, 1) := by decide +kernel
theorem dX10_row_75 : decode cX10_row 75 = .ok (.lastore, 1) := by decide +kernel
theorem dX10_row_76 : decode cX10_row 76 = .ok (.iinc 4 1, 3) := by decide +kernel
theorem dX10_row_79 : decode cX10_row 79 = .ok (.goto (-22), 3) := by decide +kernel
theorem dX10_row_82 : decode cX10_row 82 = .ok (.iconst 0, 1) := by decide +kernel
theorem dX10_row_83 : decode cX10_row 83 = .ok (.ireturn, 1) := by decide +kernel
theorem dX10_runs_0 : decode cX10_runs 0 = .ok (.iconst 0, 1) := by decide +kernel
theorem dX10_runs_1 : decode cX10_runs 1 = .ok (.istore_n 1, 1) := by decide +kernel
theorem dX10_runs_2 : decode cX10_runs 2 = .ok (.iload_n 1, 1) := by decide +kernel
theorem dX10_runs_3 : decode cX10_runs 3 = .ok (.aload_n 0, 1) := by decide +kernel
theorem dX10_runs_4 : decode cX10_runs 4 = .ok (.invokevirtual 229, 3) := by decide +kernel
theorem dX10_runs_7 : decode cX10_runs 7 = .ok (.if_icmp .ge 325, 3) := by decide +kernel
theorem dX10_runs_10 : decode cX10_runs 10 = .ok (.aload_n 0, 1) := by decide +kernel
theorem dX10_runs_11 : decode cX10_runs 11 = .ok (.getfield 37, 3) := by decide +kernel
theorem dX10_runs_14 : decode cX10_runs 14 = .ok (.iconst 5, 1) := by decide +kernel
theorem dX10_runs_15 : decode cX10_runs 15 = .ok (.iload_n 1, 1) := by decide +kernel
theorem dX10_runs_16 : decode cX10_runs 16 = .ok (.imul, 1) := by decide +kernel
theorem dX10_runs_17 : decode cX10_runs 17 = .ok (.iconst 1, 1) := by decide +kernel
theorem dX10_runs_18 : decode cX10_runs 18 = .ok (.iadd, 1) := by decide +kernel
theorem dX10_runs_19 : decode cX10_runs 19 = .ok (.iaload, 1) := by decide +kernel
theorem dX10_runs_20 : decode cX10_runs 20 = .ok (.istore_n 2, 1) := by decide +kernel
theorem dX10_runs_21 : decode cX10_runs 21 = .ok (.aload_n 0, 1) := by decide +kernel
theorem dX10_runs_22 : decode cX10_runs 22 = .ok (.getfield 37, 3) := by decide +kernel
theorem dX10_runs_25 : decode cX10_runs 25 = .ok (.iconst 5, 1) := by decide +kernel
theorem dX10_runs_26 : decode cX10_runs 26 = .ok (.iload_n 1, 1) := by decide +kernel
theorem dX10_runs_27 : decode cX10_runs 27 = .ok (.imul, 1) := by decide +kernel
theorem dX10_runs_28 : decode cX10_runs 28 = .ok (.iconst 2, 1) := by decide +kernel
theorem dX10_runs_29 : decode cX10_runs 29 = .ok (.iadd, 1) := by decide +kernel
theorem dX10_runs_30 : decode cX10_runs 30 = .ok (.iaload, 1) := by decide +kernel
theorem dX10_runs_31 : decode cX10_runs 31 = .ok (.istore_n 3, 1) := by decide +kernel
theorem dX10_runs_32 : decode cX10_runs 32 = .ok (.iconst 1, 1) := by decide +kernel
theorem dX10_runs_33 : decode cX10_runs 33 = .ok (.istore 4, 2) := by decide +kernel
theorem dX10_runs_35 : decode cX10_runs 35 = .ok (.aload_n 0, 1) := by decide +kernel
theorem dX10_runs_36 : decode cX10_runs 36 = .ok (.getfield 37, 3) := by decide +kernel
theorem dX10_runs_39 : decode cX10_runs 39 = .ok (.iconst 5, 1) := by decide +kernel
theorem dX10_runs_40 : decode cX10_runs 40 = .ok (.iload_n 1, 1) := by decide +kernel
theorem dX10_runs_41 : decode cX10_runs 41 = .ok (.imul, 1) := by decide +kernel
theorem dX10_runs_42 : decode cX10_runs 42 = .ok (.iconst 4, 1) := by decide +kernel
theorem dX10_runs_43 : decode cX10_runs 43 = .ok (.iadd, 1) := by decide +kernel
theorem dX10_runs_44 : decode cX10_runs 44 = .ok (.iaload, 1) := by decide +kernel
theorem dX10_runs_45 : decode cX10_runs 45 = .ok (.iconst 1, 1) := by decide +kernel
theorem dX10_runs_46 : decode cX10_runs 46 = .ok (.if_icmp .ne 7, 3) := by decide +kernel
theorem dX10_runs_49 : decode cX10_runs 49 = .ok (.iconst 1, 1) := by decide +kernel
theorem dX10_runs_50 : decode cX10_runs 50 = .ok (.goto 4, 3) := by decide +kernel
theorem dX10_runs_53 : decode cX10_runs 53 = .ok (.iconst 0, 1) := by decide +kernel
theorem dX10_runs_54 : decode cX10_runs 54 = .ok (.istore 5, 2) := by decide +kernel
theorem dX10_runs_56 : decode cX10_runs 56 = .ok (.iconst 0, 1) := by decide +kernel
theorem dX10_runs_57 : decode cX10_runs 57 = .ok (.istore 6, 2) := by decide +kernel
theorem dX10_runs_59 : decode cX10_runs 59 = .ok (.iload 6, 2) := by decide +kernel
theorem dX10_runs_61 : decode cX10_runs 61 = .ok (.aload_n 0, 1) := by decide +kernel
theorem dX10_runs_62 : decode cX10_runs 62 = .ok (.invokevirtual 225, 3) := by decide +kernel
theorem dX10_runs_65 : decode cX10_runs 65 = .ok (.if_icmp .ge 261, 3) := by decide +kernel
theorem dX10_runs_68 : decode cX10_runs 68 = .ok (.iload_n 2, 1) := by decide +kernel
theorem dX10_runs_69 : decode cX10_runs 69 = .ok (.iload 6, 2) := by decide +kernel
theorem dX10_runs_71 : decode cX10_runs 71 = .ok (.ifCond .ne 7, 3) := by decide +kernel
theorem dX10_runs_74 : decode cX10_runs 74 = .ok (.iconst 0, 1) := by decide +kernel
theorem dX10_runs_75 : decode cX10_runs 75 = .ok (.goto 4, 3) := by decide +kernel
theorem dX10_runs_78 : decode cX10_runs 78 = .ok (.iload_n 3, 1) := by decide +kernel
theorem dX10_runs_79 : decode cX10_runs 79 = .ok (.iadd, 1) := by decide +kernel
theorem dX10_runs_80 : decode cX10_runs 80 = .ok (.istore_n 2, 1) := by decide +kernel
theorem dX10_runs_81 : decode cX10_runs 81 = .ok (.iconst 0, 1) := by decide +kernel
theorem dX10_runs_82 : decode cX10_runs 82 = .ok (.istore 7, 2) := by decide +kernel
theorem dX10_runs_84 : decode cX10_runs 84 = .ok (.iload 7, 2) := by decide +kernel
theorem dX10_runs_86 : decode cX10_runs 86 = .ok (.aload_n 0, 1) := by decide +kernel
theorem dX10_runs_87 : decode cX10_runs 87 = .ok (.getfield 34, 3) := by decide +kernel
theorem dX10_runs_90 : decode cX10_runs 90 = .ok (.iconst 5, 1) := by decide +kernel
theorem dX10_runs_91 : decode cX10_runs 91 = .ok (.iaload, 1) := by decide +kernel
theorem dX10_runs_92 : decode cX10_runs 92 = .ok (.if_icmp .ge 111, 3) := by decide +kernel
theorem dX10_runs_95 : decode cX10_runs 95 = .ok (.aload_n 0, 1) := by decide +kernel
theorem dX10_runs_96 : decode cX10_runs 96 = .ok (.getfield 43, 3) := by decide +kernel
theorem dX10_runs_99 : decode cX10_runs 99 = .ok (.iconst 3, 1) := by decide +kernel
theorem dX10_runs_100 : decode cX10_runs 100 = .ok (.iload 7, 2) := by decide +kernel
theorem dX10_runs_102 : decode cX10_runs 102 = .ok (.imul, 1) := by decide +kernel
theorem dX10_runs_103 : decode cX10_runs 103 = .ok (.iconst 1, 1) := by decide +kernel
theorem dX10_runs_104 : decode cX10_runs 104 = .ok (.iadd, 1) := by decide +kernel
theorem dX10_runs_105 : decode cX10_runs 105 = .ok (.iaload, 1) := by decide +kernel
theorem dX10_runs_106 : decode cX10_runs 106 = .ok (.iload_n 1, 1) := by decide +kernel
theorem dX10_runs_107 : decode cX10_runs 107 = .ok (.if_icmp .ne 90, 3) := by decide +kernel
theorem dX10_runs_110 : decode cX10_runs 110 = .ok (.aload_n 0, 1) := by decide +kernel
theorem dX10_runs_111 : decode cX10_runs 111 = .ok (.getfield 43, 3) := by decide +kernel
theorem dX10_runs_114 : decode cX10_runs 114 = .ok (.iconst 3, 1) := by decide +kernel
theorem dX10_runs_115 : decode cX10_runs 115 = .ok (.iload 7, 2) := by decide +kernel
theorem dX10_runs_117 : decode cX10_runs 117 = .ok (.imul, 1) := by decide +kernel
theorem dX10_runs_118 : decode cX10_runs 118 = .ok (.iconst 2, 1) := by decide +kernel
theorem dX10_runs_119 : decode cX10_runs 119 = .ok (.iadd, 1) := by decide +kernel
theorem dX10_runs_120 : decode cX10_runs 120 = .ok (.iaload, 1) := by decide +kernel
theorem dX10_runs_121 : decode cX10_runs 121 = .ok (.iload 6, 2) := by decide +kernel
theorem dX10_runs_123 : decode cX10_runs 123 = .ok (.if_icmp .eq 6, 3) := by decide +kernel
theorem dX10_runs_126 : decode cX10_runs 126 = .ok (.goto 71, 3) := by decide +kernel
theorem dX10_runs_129 : decode cX10_runs 129 = .ok (.aload_n 0, 1) := by decide +kernel
theorem dX10_runs_130 : decode cX10_runs 130 = .ok (.getfield 43, 3) := by decide +kernel
theorem dX10_runs_133 : decode cX10_runs 133 = .ok (.iconst 3, 1) := by decide +kernel
theorem dX10_runs_134 : decode cX10_runs 134 = .ok (.iload 7, 2) := by decide +kernel
theorem dX10_runs_136 : decode cX10_runs 136 = .ok (.imul, 1) := by decide +kernel
theorem dX10_runs_137 : decode cX10_runs 137 = .ok (.iaload, 1) := by decide +kernel
theorem dX10_runs_138 : decode cX10_runs 138 = .ok (.istore 8, 2) := by decide +kernel
theorem dX10_runs_140 : decode cX10_runs 140 = .ok (.iload 8, 2) := by decide +kernel
theorem dX10_runs_142 : decode cX10_runs 142 = .ok (.ifCond .ne 19, 3) := by decide +kernel
theorem dX10_runs_145 : decode cX10_runs 145 = .ok (.iconst 0, 1) := by decide +kernel
theorem dX10_runs_146 : decode cX10_runs 146 = .ok (.istore_n 2, 1) := by decide +kernel
theorem dX10_runs_147 : decode cX10_runs 147 = .ok (.aload_n 0, 1) := by decide +kernel
theorem dX10_runs_148 : decode cX10_runs 148 = .ok (.getfield 37, 3) := by decide +kernel
theorem dX10_runs_151 : decode cX10_runs 151 = .ok (.iconst 5, 1) := by decide +kernel
theorem dX10_runs_152 : decode cX10_runs 152 = .ok (.iload_n 1, 1) := by decide +kernel
theorem dX10_runs_153 : decode cX10_runs 153 = .ok (.imul, 1) := by decide +kernel
theorem dX10_runs_154 : decode cX10_runs 154 = .ok (.iconst 2, 1) := by decide +kernel
theorem dX10_runs_155 : decode cX10_runs 155 = .ok (.iadd, 1) := by decide +kernel
theorem dX10_runs_156 : decode cX10_runs 156 = .ok (.iaload, 1) := by decide +kernel
theorem dX10_runs_157 : decode cX10_runs 157 = .ok (.istore_n 3, 1) := by decide +kernel
theorem dX10_runs_158 : decode cX10_runs 158 = .ok (.iconst 1, 1) := by decide +kernel
theorem dX10_runs_159 : decode cX10_runs 159 = .ok (.istore 4, 2) := by decide +kernel
theorem dX10_runs_161 : decode cX10_runs 161 = .ok (.iload 8, 2) := by decide +kernel
theorem dX10_runs_163 : decode cX10_runs 163 = .ok (.iconst 1, 1) := by decide +kernel
theorem dX10_runs_164 : decode cX10_runs 164 = .ok (.if_icmp .ne 5, 3) := by decide +kernel
theorem dX10_runs_167 : decode cX10_runs 167 = .ok (.iconst 0, 1) := by decide +kernel
theorem dX10_runs_168 : decode cX10_runs 168 = .ok (.istore_n 3, 1) := by decide +kernel
theorem dX10_runs_169 : decode cX10_runs 169 = .ok (.iload 8, 2) := by decide +kernel
theorem dX10_runs_171 : decode cX10_runs 171 = .ok (.iconst 2, 1) := by decide +kernel
theorem dX10_runs_172 : decode cX10_runs 172 = .ok (.if_icmp .ne 6, 3) := by decide +kernel
theorem dX10_runs_175 : decode cX10_runs 175 = .ok (.iconst 0, 1) := by decide +kernel
theorem dX10_runs_176 : decode cX10_runs 176 = .ok (.istore 4, 2) := by decide +kernel
theorem dX10_runs_178 : decode cX10_runs 178 = .ok (.iload 8, 2) := by decide +kernel
theorem dX10_runs_180 : decode cX10_runs 180 = .ok (.iconst 2, 1) := by decide +kernel
theorem dX10_runs_181 : decode cX10_runs 181 = .ok (.if_icmp .le 16, 3) := by decide +kernel
theorem dX10_runs_184 : decode cX10_runs 184 = .ok (.iload 8, 2) := by decide +kernel
theorem dX10_runs_186 : decode cX10_runs 186 = .ok (.iconst 3, 1) := by decide +kernel
theorem dX10_runs_187 : decode cX10_runs 187 = .ok (.if_icmp .ne 7, 3) := by decide +kernel
theorem dX10_runs_190 : decode cX10_runs 190 = .ok (.iconst 1, 1) := by decide +kernel
theorem dX10_runs_191 : decode cX10_runs 191 = .ok (.goto 4, 3) := by decide +kernel
theorem dX10_runs_194 : decode cX10_runs 194 = .ok (.iconst 0, 1) := by decide +kernel
theorem dX10_runs_195 : decode cX10_runs 195 = .ok (.istore 5, 2) := by decide +kernel
theorem dX10_runs_197 : decode cX10_runs 197 = .ok (.iinc 7 1, 3) := by decide +kernel
theorem dX10_runs_200 : decode cX10_runs 200 = .ok (.goto (-116), 3) := by decide +kernel
theorem dX10_runs_203 : decode cX10_runs 203 = .ok (.iconst 0, 1) := by decide +kernel
theorem dX10_runs_204 : decode cX10_runs 204 = .ok (.istore 7, 2) := by decide +kernel
theorem dX10_runs_206 : decode cX10_runs 206 = .ok (.iload 7, 2) := by decide +kernel
theorem dX10_runs_208 : decode cX10_runs 208 = .ok (.aload_n 0, 1) := by decide +kernel
theorem dX10_runs_209 : decode cX10_runs 209 = .ok (.getfield 240, 3) := by decide +kernel
theorem dX10_runs_212 : decode cX10_runs 212 = .ok (.if_icmp .ge 51, 3) := by decide +kernel
theorem dX10_runs_215 : decode cX10_runs 215 = .ok (.aload_n 0, 1) := by decide +kernel
theorem dX10_runs_216 : decode cX10_runs 216 = .ok (.getfield 59, 3) := by decide +kernel
theorem dX10_runs_219 : decode cX10_runs 219 = .ok (.iload 7, 2) := by decide +kernel
theorem dX10_runs_221 : decode cX10_runs 221 = .ok (.iaload, 1) := by decide +kernel
theorem dX10_runs_222 : decode cX10_runs 222 = .ok (.iload_n 1, 1) := by decide +kernel
theorem dX10_runs_223 : decode cX10_runs 223 = .ok (.if_icmp .ne 34, 3) := by decide +kernel
theorem dX10_runs_226 : decode cX10_runs 226 = .ok (.aload_n 0, 1) := by decide +kernel
theorem dX10_runs_227 : decode cX10_runs 227 = .ok (.getfield 56, 3) := by decide +kernel
theorem dX10_runs_230 : decode cX10_runs 230 = .ok (.iload 7, 2) := by decide +kernel
theorem dX10_runs_232 : decode cX10_runs 232 = .ok (.iaload, 1) := by decide +kernel
theorem dX10_runs_233 : decode cX10_runs 233 = .ok (.iload 6, 2) := by decide +kernel
theorem dX10_runs_235 : decode cX10_runs 235 = .ok (.if_icmp .eq 6, 3) := by decide +kernel
theorem dX10_runs_238 : decode cX10_runs 238 = .ok (.goto 19, 3) := by decide +kernel
theorem dX10_runs_241 : decode cX10_runs 241 = .ok (.iconst 0, 1) := by decide +kernel
theorem dX10_runs_242 : decode cX10_runs 242 = .ok (.istore_n 2, 1) := by decide +kernel
theorem dX10_runs_243 : decode cX10_runs 243 = .ok (.aload_n 0, 1) := by decide +kernel
theorem dX10_runs_244 : decode cX10_runs 244 = .ok (.getfield 37, 3) := by decide +kernel
theorem dX10_runs_247 : decode cX10_runs 247 = .ok (.iconst 5, 1) := by decide +kernel
theorem dX10_runs_248 : decode cX10_runs 248 = .ok (.iload_n 1, 1) := by decide +kernel
theorem dX10_runs_249 : decode cX10_runs 249 = .ok (.imul, 1) := by decide +kernel
theorem dX10_runs_250 : decode cX10_runs 250 = .ok (.iconst 2, 1) := by decide +kernel
theorem dX10_runs_251 : decode cX10_runs 251 = .ok (.iadd, 1) := by decide +kernel
theorem dX10_runs_252 : decode cX10_runs 252 = .ok (.iaload, 1) := by decide +kernel
theorem dX10_runs_253 : decode cX10_runs 253 = .ok (.istore_n 3, 1) := by decide +kernel
theorem dX10_runs_254 : decode cX10_runs 254 = .ok (.iconst 1, 1) := by decide +kernel
theorem dX10_runs_255 : decode cX10_runs 255 = .ok (.istore 4, 2) := by decide +kernel
theorem dX10_runs_257 : decode cX10_runs 257 = .ok (.iinc 7 1, 3) := by decide +kernel
theorem dX10_runs_260 : decode cX10_runs 260 = .ok (.goto (-54), 3) := by decide +kernel
theorem dX10_runs_263 : decode cX10_runs 263 = .ok (.aload_n 0, 1) := by decide +kernel
theorem dX10_runs_264 : decode cX10_runs 264 = .ok (.getfield 50, 3) := by decide +kernel
theorem dX10_runs_267 : decode cX10_runs 267 = .ok (.bipush 6, 2) := by decide +kernel
theorem dX10_runs_269 : decode cX10_runs 269 = .ok (.iload 6, 2) := by decide +kernel
theorem dX10_runs_271 : decode cX10_runs 271 = .ok (.imul, 1) := by decide +kernel
theorem dX10_runs_272 : decode cX10_runs 272 = .ok (.iload_n 1, 1) := by decide +kernel
theorem dX10_runs_273 : decode cX10_runs 273 = .ok (.iadd, 1) := by decide +kernel
theorem dX10_runs_274 : decode cX10_runs 274 = .ok (.iload 4, 2) := by decide +kernel
theorem dX10_runs_276 : decode cX10_runs 276 = .ok (.ifCond .eq 7, 3) := by decide +kernel
theorem dX10_runs_279 : decode cX10_runs 279 = .ok (.iload_n 2, 1) := by decide +kernel
theorem dX10_runs_280 : decode cX10_runs 280 = .ok (.goto 6, 3) := by decide +kernel
theorem dX10_runs_283 : decode cX10_runs 283 = .ok (.sipush 10000, 3) := by decide +kernel
theorem dX10_runs_286 : decode cX10_runs 286 = .ok (.iastore, 1) := by decide +kernel
theorem dX10_runs_287 : decode cX10_runs 287 = .ok (.aload_n 0, 1) := by decide +kernel
theorem dX10_runs_288 : decode cX10_runs 288 = .ok (.getfield 53, 3) := by decide +kernel
theorem dX10_runs_291 : decode cX10_runs 291 = .ok (.bipush 6, 2) := by decide +kernel
theorem dX10_runs_293 : decode cX10_runs 293 = .ok (.iload 6, 2) := by decide +kernel
theorem dX10_runs_295 : decode cX10_runs 295 = .ok (.imul, 1) := by decide +kernel
theorem dX10_runs_296 : decode cX10_runs 296 = .ok (.iload_n 1, 1) := by decide +kernel
theorem dX10_runs_297 : decode cX10_runs 297 = .ok (.iadd, 1) := by decide +kernel
theorem dX10_runs_298 : decode cX10_runs 298 = .ok (.iload 5, 2) := by decide +kernel
theorem dX10_runs_300 : decode cX10_runs 300 = .ok (.ifCond .ne 18, 3) := by decide +kernel
theorem dX10_runs_303 : decode cX10_runs 303 = .ok (.aload_n 0, 1) := by decide +kernel
theorem dX10_runs_304 : decode cX10_runs 304 = .ok (.getfield 237, 3) := by decide +kernel
theorem dX10_runs_307 : decode cX10_runs 307 = .ok (.iload_n 1, 1) := by decide +kernel
theorem dX10_runs_308 : decode cX10_runs 308 = .ok (.invokestatic 246, 3) := by decide +kernel
theorem dX10_runs_311 : decode cX10_runs 311 = .ok (.ifCond .ne 7, 3) := by decide +kernel
theorem dX10_runs_314 : decode cX10_runs 314 = .ok (.iconst 1, 1) := by decide +kernel
theorem dX10_runs_315 : decode cX10_runs 315 = .ok (.goto 4, 3) := by decide +kernel
theorem dX10_runs_318 : decode cX10_runs 318 = .ok (.iconst 0, 1) := by decide +kernel
theorem dX10_runs_319 : decode cX10_runs 319 = .ok (.bastore, 1) := by decide +kernel
theorem dX10_runs_320 : decode cX10_runs 320 = .ok (.iinc 6 1, 3) := by decide +kernel
theorem dX10_runs_323 : decode cX10_runs 323 = .ok (.goto (-264), 3) := by decide +kernel
theorem dX10_runs_326 : decode cX10_runs 326 = .ok (.iinc 1 1, 3) := by decide +kernel
theorem dX10_runs_329 : decode cX10_runs 329 = .ok (.goto (-327), 3) := by decide +kernel
theorem dX10_runs_332 : decode cX10_runs 332 = .ok (.return_, 1) := by decide +kernel
theorem dX10_sizeOf_0 : decode cX10_sizeOf 0 = .ok (.iconst 0, 1) := by decide +kernel
theorem dX10_sizeOf_1 : decode cX10_sizeOf 1 = .ok (.istore_n 1, 1) := by decide +kernel
theorem dX10_sizeOf_2 : decode cX10_sizeOf 2 = .ok (.iload_n 0, 1) := by decide +kernel
theorem dX10_sizeOf_3 : decode cX10_sizeOf 3 = .ok (.istore_n 2, 1) := by decide +kernel
theorem dX10_sizeOf_4 : decode cX10_sizeOf 4 = .ok (.iload_n 2, 1) := by decide +kernel
theorem dX10_sizeOf_5 : decode cX10_sizeOf 5 = .ok (.ifCond .eq 15, 3) := by decide +kernel
theorem dX10_sizeOf_8 : decode cX10_sizeOf 8 = .ok (.iinc 1 1, 3) := by decide +kernel
theorem dX10_sizeOf_11 : decode cX10_sizeOf 11 = .ok (.iload_n 2, 1) := by decide +kernel
theorem dX10_sizeOf_12 : decode cX10_sizeOf 12 = .ok (.iload_n 2, 1) := by decide +kernel
theorem dX10_sizeOf_13 : decode cX10_sizeOf 13 = .ok (.iconst 1, 1) := by decide +kernel
theorem dX10_sizeOf_14 : decode cX10_sizeOf 14 = .ok (.isub, 1) := by decide +kernel
theorem dX10_sizeOf_15 : decode cX10_sizeOf 15 = .ok (.iand, 1) := by decide +kernel
theorem dX10_sizeOf_16 : decode cX10_sizeOf 16 = .ok (.istore_n 2, 1) := by decide +kernel
theorem dX10_sizeOf_17 : decode cX10_sizeOf 17 = .ok (.goto (-13), 3) := by decide +kernel
theorem dX10_sizeOf_20 : decode cX10_sizeOf 20 = .ok (.iload_n 1, 1) := by decide +kernel
theorem dX10_sizeOf_21 : decode cX10_sizeOf 21 = .ok (.ireturn, 1) := by decide +kernel
theorem dX10_slack_0 : decode cX10_slack 0 = .ok (.aload_n 0, 1) := by decide +kernel
theorem dX10_slack_1 : decode cX10_slack 1 = .ok (.iconst 0, 1) := by decide +kernel
theorem dX10_slack_2 : decode cX10_slack 2 = .ok (.putfield 71, 3) := by decide +kernel
theorem dX10_slack_5 : decode cX10_slack 5 = .ok (.aload_n 0, 1) := by decide +kernel
theorem dX10_slack_6 : decode cX10_slack 6 = .ok (.iload_n 1, 1) := by decide +kernel
theorem dX10_slack_7 : decode cX10_slack 7 = .ok (.i2l, 1) := by decide +kernel
theorem dX10_slack_8 : decode cX10_slack 8 = .ok (.invokevirtual 267, 3) := by decide +kernel
theorem dX10_slack_11 : decode cX10_slack 11 = .ok (.ifCond .eq 12, 3) := by decide +kernel
theorem dX10_slack_14 : decode cX10_slack 14 = .ok (.aload_n 0, 1) := by decide +kernel
theorem dX10_slack_15 : decode cX10_slack 15 = .ok (.iload_n 2, 1) := by decide +kernel
theorem dX10_slack_16 : decode cX10_slack 16 = .ok (.i2l, 1) := by decide +kernel
theorem dX10_slack_17 : decode cX10_slack 17 = .ok (.invokevirtual 272, 3) := by decide +kernel
theorem dX10_slack_20 : decode cX10_slack 20 = .ok (.ifCond .ne 6, 3) := by decide +kernel
theorem dX10_slack_23 : decode cX10_slack 23 = .ok (.bipush (-2), 2) := by decide +kernel
theorem dX10_slack_25 : decode cX10_slack 25 = .ok (.ireturn, 1) := by decide +kernel
theorem dX10_slack_26 : decode cX10_slack 26 = .ok (.aload_n 0, 1) := by decide +kernel
theorem dX10_slack_27 : decode cX10_slack 27 = .ok (.invokevirtual 275, 3) := by decide +kernel
theorem dX10_slack_30 : decode cX10_slack 30 = .ok (.aload_n 0, 1) := by decide +kernel
theorem dX10_slack_31 : decode cX10_slack 31 = .ok (.iload_n 2, 1) := by decide +kernel
theorem dX10_slack_32 : decode cX10_slack 32 = .ok (.invokevirtual 259, 3) := by decide +kernel
theorem dX10_slack_35 : decode cX10_slack 35 = .ok (.istore_n 3, 1) := by decide +kernel
theorem dX10_slack_36 : decode cX10_slack 36 = .ok (.iload_n 3, 1) := by decide +kernel
theorem dX10_slack_37 : decode cX10_slack 37 = .ok (.aload_n 0, 1) := by decide +kernel
theorem dX10_slack_38 : decode cX10_slack 38 = .ok (.getfield 50, 3) := by decide +kernel
theorem dX10_slack_41 : decode cX10_slack 41 = .ok (.bipush 6, 2) := by decide +kernel
theorem dX10_slack_43 : decode cX10_slack 43 = .ok (.iload_n 2, 1) := by decide +kernel
theorem dX10_slack_44 : decode cX10_slack 44 = .ok (.imul, 1) := by decide +kernel
theorem dX10_slack_45 : decode cX10_slack 45 = .ok (.iload_n 1, 1) := by decide +kernel
theorem dX10_slack_46 : decode cX10_slack 46 = .ok (.iadd, 1) := by decide +kernel
theorem dX10_slack_47 : decode cX10_slack 47 = .ok (.iaload, 1) := by decide +kernel
theorem dX10_slack_48 : decode cX10_slack 48 = .ok (.isub, 1) := by decide +kernel
theorem dX10_slack_49 : decode cX10_slack 49 = .ok (.istore 4, 2) := by decide +kernel
theorem dX10_slack_51 : decode cX10_slack 51 = .ok (.iload_n 3, 1) := by decide +kernel
theorem dX10_slack_52 : decode cX10_slack 52 = .ok (.sipush 10000, 3) := by decide +kernel
theorem dX10_slack_55 : decode cX10_slack 55 = .ok (.if_icmp .ne 9, 3) := by decide +kernel
theorem dX10_slack_58 : decode cX10_slack 58 = .ok (.sipush 10000, 3) := by decide +kernel
theorem dX10_slack_61 : decode cX10_slack 61 = .ok (.goto 14, 3) := by decide +kernel
theorem dX10_slack_64 : decode cX10_slack 64 = .ok (.iload 4, 2) := by decide +kernel
theorem dX10_slack_66 : decode cX10_slack 66 = .ok (.ifCond .ge 7, 3) := by decide +kernel
theorem dX10_slack_69 : decode cX10_slack 69 = .ok (.iconst 0, 1) := by decide +kernel
theorem dX10_slack_70 : decode cX10_slack 70 = .ok (.goto 5, 3) := by decide +kernel
theorem dX10_slack_73 : decode cX10_slack 73 = .ok (.iload 4, 2) := by decide +kernel
theorem dX10_slack_75 : decode cX10_slack 75 = .ok (.ireturn, 1) := by decide +kernel
theorem dX10_slowest_0 : decode cX10_slowest 0 = .ok (.aload_n 0, 1) := by decide +kernel
theorem dX10_slowest_1 : decode cX10_slowest 1 = .ok (.iconst 0, 1) := by decide +kernel
theorem dX10_slowest_2 : decode cX10_slowest 2 = .ok (.putfield 71, 3) := by decide +kernel
theorem dX10_slowest_5 : decode cX10_slowest 5 = .ok (.aload_n 0, 1) := by decide +kernel
theorem dX10_slowest_6 : decode cX10_slowest 6 = .ok (.iload_n 1, 1) := by decide +kernel
theorem dX10_slowest_7 : decode cX10_slowest 7 = .ok (.i2l, 1) := by decide +kernel
theorem dX10_slowest_8 : decode cX10_slowest 8 = .ok (.invokevirtual 272, 3) := by decide +kernel
theorem dX10_slowest_11 : decode cX10_slowest 11 = .ok (.ifCond .ne 6, 3) := by decide +kernel
theorem dX10_slowest_14 : decode cX10_slowest 14 = .ok (.bipush (-2), 2) := by decide +kernel
theorem dX10_slowest_16 : decode cX10_slowest 16 = .ok (.ireturn, 1) := by decide +kernel
theorem dX10_slowest_17 : decode cX10_slowest 17 = .ok (.aload_n 0, 1) := by decide +kernel
theorem dX10_slowest_18 : decode cX10_slowest 18 = .ok (.invokevirtual 275, 3) := by decide +kernel
theorem dX10_slowest_21 : decode cX10_slowest 21 = .ok (.aload_n 0, 1) := by decide +kernel
theorem dX10_slowest_22 : decode cX10_slowest 22 = .ok (.iload_n 1, 1) := by decide +kernel
theorem dX10_slowest_23 : decode cX10_slowest 23 = .ok (.aload_n 0, 1) := by decide +kernel
theorem dX10_slowest_24 : decode cX10_slowest 24 = .ok (.iload_n 1, 1) := by decide +kernel
theorem dX10_slowest_25 : decode cX10_slowest 25 = .ok (.invokevirtual 253, 3) := by decide +kernel
theorem dX10_slowest_28 : decode cX10_slowest 28 = .ok (.invokevirtual 250, 3) := by decide +kernel
theorem dX10_slowest_31 : decode cX10_slowest 31 = .ok (.ireturn, 1) := by decide +kernel
theorem dX10_spread_0 : decode cX10_spread 0 = .ok (.aload_n 0, 1) := by decide +kernel
theorem dX10_spread_1 : decode cX10_spread 1 = .ok (.iconst 0, 1) := by decide +kernel
theorem dX10_spread_2 : decode cX10_spread 2 = .ok (.putfield 71, 3) := by decide +kernel
theorem dX10_spread_5 : decode cX10_spread 5 = .ok (.aload_n 0, 1) := by decide +kernel
theorem dX10_spread_6 : decode cX10_spread 6 = .ok (.iload_n 1, 1) := by decide +kernel
theorem dX10_spread_7 : decode cX10_spread 7 = .ok (.i2l, 1) := by decide +kernel
theorem dX10_spread_8 : decode cX10_spread 8 = .ok (.invokevirtual 272, 3) := by decide +kernel
theorem dX10_spread_11 : decode cX10_spread 11 = .ok (.ifCond .ne 6, 3) := by decide +kernel
theorem dX10_spread_14 : decode cX10_spread 14 = .ok (.bipush (-2), 2) := by decide +kernel
theorem dX10_spread_16 : decode cX10_spread 16 = .ok (.ireturn, 1) := by decide +kernel
theorem dX10_spread_17 : decode cX10_spread 17 = .ok (.aload_n 0, 1) := by decide +kernel
theorem dX10_spread_18 : decode cX10_spread 18 = .ok (.invokevirtual 275, 3) := by decide +kernel
theorem dX10_spread_21 : decode cX10_spread 21 = .ok (.aload_n 0, 1) := by decide +kernel
theorem dX10_spread_22 : decode cX10_spread 22 = .ok (.iload_n 1, 1) := by decide +kernel
theorem dX10_spread_23 : decode cX10_spread 23 = .ok (.iconst 0, 1) := by decide +kernel
theorem dX10_spread_24 : decode cX10_spread 24 = .ok (.invokevirtual 278, 3) := by decide +kernel
theorem dX10_spread_27 : decode cX10_spread 27 = .ok (.istore_n 2, 1) := by decide +kernel
theorem dX10_spread_28 : decode cX10_spread 28 = .ok (.iload_n 2, 1) := by decide +kernel
theorem dX10_spread_29 : decode cX10_spread 29 = .ok (.iconst (-1), 1) := by decide +kernel
theorem dX10_spread_30 : decode cX10_spread 30 = .ok (.if_icmp .ne 5, 3) := by decide +kernel
theorem dX10_spread_33 : decode cX10_spread 33 = .ok (.iconst 0, 1) := by decide +kernel
theorem dX10_spread_34 : decode cX10_spread 34 = .ok (.ireturn, 1) := by decide +kernel
theorem dX10_spread_35 : decode cX10_spread 35 = .ok (.aload_n 0, 1) := by decide +kernel
theorem dX10_spread_36 : decode cX10_spread 36 = .ok (.iload_n 1, 1) := by decide +kernel
theorem dX10_spread_37 : decode cX10_spread 37 = .ok (.invokevirtual 259, 3) := by decide +kernel
theorem dX10_spread_40 : decode cX10_spread 40 = .ok (.istore_n 3, 1) := by decide +kernel
theorem dX10_spread_41 : decode cX10_spread 41 = .ok (.iload_n 3, 1) := by decide +kernel
theorem dX10_spread_42 : decode cX10_spread 42 = .ok (.sipush 10000, 3) := by decide +kernel
theorem dX10_spread_45 : decode cX10_spread 45 = .ok (.if_icmp .ne 9, 3) := by decide +kernel
theorem dX10_spread_48 : decode cX10_spread 48 = .ok (.sipush 10000, 3) := by decide +kernel
theorem dX10_spread_51 : decode cX10_spread 51 = .ok (.goto 16, 3) := by decide +kernel
theorem dX10_spread_54 : decode cX10_spread 54 = .ok (.iload_n 3, 1) := by decide +kernel
theorem dX10_spread_55 : decode cX10_spread 55 = .ok (.aload_n 0, 1) := by decide +kernel
theorem dX10_spread_56 : decode cX10_spread 56 = .ok (.getfield 50, 3) := by decide +kernel
theorem dX10_spread_59 : decode cX10_spread 59 = .ok (.bipush 6, 2) := by decide +kernel
theorem dX10_spread_61 : decode cX10_spread 61 = .ok (.iload_n 1, 1) := by decide +kernel
theorem dX10_spread_62 : decode cX10_spread 62 = .ok (.imul, 1) := by decide +kernel
theorem dX10_spread_63 : decode cX10_spread 63 = .ok (.iload_n 2, 1) := by decide +kernel
theorem dX10_spread_64 : decode cX10_spread 64 = .ok (.iadd, 1) := by decide +kernel
theorem dX10_spread_65 : decode cX10_spread 65 = .ok (.iaload, 1) := by decide +kernel
theorem dX10_spread_66 : decode cX10_spread 66 = .ok (.isub, 1) := by decide +kernel
theorem dX10_spread_67 : decode cX10_spread 67 = .ok (.ireturn, 1) := by decide +kernel
theorem dX10_steady_0 : decode cX10_steady 0 = .ok (.aload_n 0, 1) := by decide +kernel
theorem dX10_steady_1 : decode cX10_steady 1 = .ok (.iconst 0, 1) := by decide +kernel
theorem dX10_steady_2 : decode cX10_steady 2 = .ok (.putfield 71, 3) := by decide +kernel
theorem dX10_steady_5 : decode cX10_steady 5 = .ok (.aload_n 0, 1) := by decide +kernel
theorem dX10_steady_6 : decode cX10_steady 6 = .ok (.invokevirtual 232, 3) := by decide +kernel
theorem dX10_steady_9 : decode cX10_steady 9 = .ok (.ifCond .ne 6, 3) := by decide +kernel
theorem dX10_steady_12 : decode cX10_steady 12 = .ok (.bipush (-2), 2) := by decide +kernel
theorem dX10_steady_14 : decode cX10_steady 14 = .ok (.ireturn, 1) := by decide +kernel
theorem dX10_steady_15 : decode cX10_steady 15 = .ok (.aload_n 0, 1) := by decide +kernel
theorem dX10_steady_16 : decode cX10_steady 16 = .ok (.invokevirtual 275, 3) := by decide +kernel
theorem dX10_steady_19 : decode cX10_steady 19 = .ok (.iconst (-1), 1) := by decide +kernel
theorem dX10_steady_20 : decode cX10_steady 20 = .ok (.istore_n 1, 1) := by decide +kernel
theorem dX10_steady_21 : decode cX10_steady 21 = .ok (.ldc 121, 2) := by decide +kernel
theorem dX10_steady_23 : decode cX10_steady 23 = .ok (.istore_n 2, 1) := by decide +kernel
theorem dX10_steady_24 : decode cX10_steady 24 = .ok (.iconst 0, 1) := by decide +kernel
theorem dX10_steady_25 : decode cX10_steady 25 = .ok (.istore_n 3, 1) := by decide +kernel
theorem dX10_steady_26 : decode cX10_steady 26 = .ok (.iload_n 3, 1) := by decide +kernel
theorem dX10_steady_27 : decode cX10_steady 27 = .ok (.aload_n 0, 1) := by decide +kernel
theorem dX10_steady_28 : decode cX10_steady 28 = .ok (.invokevirtual 229, 3) := by decide +kernel
theorem dX10_steady_31 : decode cX10_steady 31 = .ok (.if_icmp .ge 102, 3) := by decide +kernel
theorem dX10_steady_34 : decode cX10_steady 34 = .ok (.ldc 121, 2) := by decide +kernel
theorem dX10_steady_36 : decode cX10_steady 36 = .ok (.istore 4, 2) := by decide +kernel
theorem dX10_steady_38 : decode cX10_steady 38 = .ok (.ldc_w 307, 3) := by decide +kernel
theorem dX10_steady_41 : decode cX10_steady 41 = .ok (.istore 5, 2) := by decide +kernel
theorem dX10_steady_43 : decode cX10_steady 43 = .ok (.iconst 0, 1) := by decide +kernel
theorem dX10_steady_44 : decode cX10_steady 44 = .ok (.istore 6, 2) := by decide +kernel
theorem dX10_steady_46 : decode cX10_steady 46 = .ok (.iload 6, 2) := by decide +kernel
theorem dX10_steady_48 : decode cX10_steady 48 = .ok (.aload_n 0, 1) := by decide +kernel
theorem dX10_steady_49 : decode cX10_steady 49 = .ok (.invokevirtual 225, 3) := by decide +kernel
theorem dX10_steady_52 : decode cX10_steady 52 = .ok (.if_icmp .ge 55, 3) := by decide +kernel
theorem dX10_steady_55 : decode cX10_steady 55 = .ok (.aload_n 0, 1) := by decide +kernel
theorem dX10_steady_56 : decode cX10_steady 56 = .ok (.getfield 50, 3) := by decide +kernel
theorem dX10_steady_59 : decode cX10_steady 59 = .ok (.bipush 6, 2) := by decide +kernel
theorem dX10_steady_61 : decode cX10_steady 61 = .ok (.iload 6, 2) := by decide +kernel
theorem dX10_steady_63 : decode cX10_steady 63 = .ok (.imul, 1) := by decide +kernel
theorem dX10_steady_64 : decode cX10_steady 64 = .ok (.iload_n 3, 1) := by decide +kernel
theorem dX10_steady_65 : decode cX10_steady 65 = .ok (.iadd, 1) := by decide +kernel
theorem dX10_steady_66 : decode cX10_steady 66 = .ok (.iaload, 1) := by decide +kernel
theorem dX10_steady_67 : decode cX10_steady 67 = .ok (.istore 7, 2) := by decide +kernel
theorem dX10_steady_69 : decode cX10_steady 69 = .ok (.iload 7, 2) := by decide +kernel
theorem dX10_steady_71 : decode cX10_steady 71 = .ok (.iload 4, 2) := by decide +kernel
theorem dX10_steady_73 : decode cX10_steady 73 = .ok (.if_icmp .ge 8, 3) := by decide +kernel
theorem dX10_steady_76 : decode cX10_steady 76 = .ok (.iload 7, 2) := by decide +kernel
theorem dX10_steady_78 : decode cX10_steady 78 = .ok (.goto 5, 3) := by decide +kernel
theorem dX10_steady_81 : decode cX10_steady 81 = .ok (.iload 4, 2) := by decide +kernel
theorem dX10_steady_83 : decode cX10_steady 83 = .ok (.istore 4, 2) := by decide +kernel
theorem dX10_steady_85 : decode cX10_steady 85 = .ok (.iload 7, 2) := by decide +kernel
theorem dX10_steady_87 : decode cX10_steady 87 = .ok (.iload 5, 2) := by decide +kernel
theorem dX10_steady_89 : decode cX10_steady 89 = .ok (.if_icmp .le 8, 3) := by decide +kernel
theorem dX10_steady_92 : decode cX10_steady 92 = .ok (.iload 7, 2) := by decide +kernel
theorem dX10_steady_94 : decode cX10_steady 94 = .ok (.goto 5, 3) := by decide +kernel
theorem dX10_steady_97 : decode cX10_steady 97 = .ok (.iload 5, 2) := by decide +kernel
theorem dX10_steady_99 : decode cX10_steady 99 = .ok (.istore 5, 2) := by decide +kernel
theorem dX10_steady_101 : decode cX10_steady 101 = .ok (.iinc 6 1, 3) := by decide +kernel
theorem dX10_steady_104 : decode cX10_steady 104 = .ok (.goto (-58), 3) := by decide +kernel
theorem dX10_steady_107 : decode cX10_steady 107 = .ok (.iload 5, 2) := by decide +kernel
theorem dX10_steady_109 : decode cX10_steady 109 = .ok (.iload 4, 2) := by decide +kernel
theorem dX10_steady_111 : decode cX10_steady 111 = .ok (.isub, 1) := by decide +kernel
theorem dX10_steady_112 : decode cX10_steady 112 = .ok (.iload_n 2, 1) := by decide +kernel
theorem dX10_steady_113 : decode cX10_steady 113 = .ok (.if_icmp .lt 6, 3) := by decide +kernel
theorem dX10_steady_116 : decode cX10_steady 116 = .ok (.goto 11, 3) := by decide +kernel
theorem dX10_steady_119 : decode cX10_steady 119 = .ok (.iload_n 3, 1) := by decide +kernel
theorem dX10_steady_120 : decode cX10_steady 120 = .ok (.istore_n 1, 1) := by decide +kernel
theorem dX10_steady_121 : decode cX10_steady 121 = .ok (.iload 5, 2) := by decide +kernel
theorem dX10_steady_123 : decode cX10_steady 123 = .ok (.iload 4, 2) := by decide +kernel
theorem dX10_steady_125 : decode cX10_steady 125 = .ok (.isub, 1) := by decide +kernel
theorem dX10_steady_126 : decode cX10_steady 126 = .ok (.istore_n 2, 1) := by decide +kernel
theorem dX10_steady_127 : decode cX10_steady 127 = .ok (.iinc 3 1, 3) := by decide +kernel
theorem dX10_steady_130 : decode cX10_steady 130 = .ok (.goto (-104), 3) := by decide +kernel
theorem dX10_steady_133 : decode cX10_steady 133 = .ok (.iload_n 1, 1) := by decide +kernel
theorem dX10_steady_134 : decode cX10_steady 134 = .ok (.ireturn, 1) := by decide +kernel
theorem dX10_stop_0 : decode cX10_stop 0 = .ok (.aload_n 0, 1) := by decide +kernel
theorem dX10_stop_1 : decode cX10_stop 1 = .ok (.iconst 0, 1) := by decide +kernel
theorem dX10_stop_2 : decode cX10_stop 2 = .ok (.putfield 71, 3) := by decide +kernel
theorem dX10_stop_5 : decode cX10_stop 5 = .ok (.aload_n 0, 1) := by decide +kernel
theorem dX10_stop_6 : decode cX10_stop 6 = .ok (.iload_n 1, 1) := by decide +kernel
theorem dX10_stop_7 : decode cX10_stop 7 = .ok (.i2l, 1) := by decide +kernel
theorem dX10_stop_8 : decode cX10_stop 8 = .ok (.invokevirtual 267, 3) := by decide +kernel
theorem dX10_stop_11 : decode cX10_stop 11 = .ok (.ifCond .eq 22, 3) := by decide +kernel
theorem dX10_stop_14 : decode cX10_stop 14 = .ok (.aload_n 0, 1) := by decide +kernel
theorem dX10_stop_15 : decode cX10_stop 15 = .ok (.iload_n 2, 1) := by decide +kernel
theorem dX10_stop_16 : decode cX10_stop 16 = .ok (.i2l, 1) := by decide +kernel
theorem dX10_stop_17 : decode cX10_stop 17 = .ok (.invokevirtual 272, 3) := by decide +kernel
theorem dX10_stop_20 : decode cX10_stop 20 = .ok (.ifCond .eq 13, 3) := by decide +kernel
theorem dX10_stop_23 : decode cX10_stop 23 = .ok (.aload_n 0, 1) := by decide +kernel
theorem dX10_stop_24 : decode cX10_stop 24 = .ok (.iconst 2, 1) := by decide +kernel
theorem dX10_stop_25 : decode cX10_stop 25 = .ok (.iload_n 1, 1) := by decide +kernel
theorem dX10_stop_26 : decode cX10_stop 26 = .ok (.iload_n 2, 1) := by decide +kernel
theorem dX10_stop_27 : decode cX10_stop 27 = .ok (.invokevirtual 436, 3) := by decide +kernel
theorem dX10_stop_30 : decode cX10_stop 30 = .ok (.goto 6, 3) := by decide +kernel
theorem dX10_stop_33 : decode cX10_stop 33 = .ok (.sipush (-1000), 3) := by decide +kernel
theorem dX10_stop_36 : decode cX10_stop 36 = .ok (.ireturn, 1) := by decide +kernel
theorem dX10_struck_0 : decode cX10_struck 0 = .ok (.aload_n 0, 1) := by decide +kernel
theorem dX10_struck_1 : decode cX10_struck 1 = .ok (.iconst 0, 1) := by decide +kernel
theorem dX10_struck_2 : decode cX10_struck 2 = .ok (.putfield 71, 3) := by decide +kernel
theorem dX10_struck_5 : decode cX10_struck 5 = .ok (.aload_n 0, 1) := by decide +kernel
theorem dX10_struck_6 : decode cX10_struck 6 = .ok (.iload_n 1, 1) := by decide +kernel
theorem dX10_struck_7 : decode cX10_struck 7 = .ok (.i2l, 1) := by decide +kernel
theorem dX10_struck_8 : decode cX10_struck 8 = .ok (.invokevirtual 272, 3) := by decide +kernel
theorem dX10_struck_11 : decode cX10_struck 11 = .ok (.ifCond .eq 17, 3) := by decide +kernel
theorem dX10_struck_14 : decode cX10_struck 14 = .ok (.iload_n 2, 1) := by decide +kernel
theorem dX10_struck_15 : decode cX10_struck 15 = .ok (.i2l, 1) := by decide +kernel
theorem dX10_struck_16 : decode cX10_struck 16 = .ok (.ldc2_w 281, 3) := by decide +kernel
theorem dX10_struck_19 : decode cX10_struck 19 = .ok (.ldc2_w 283, 3) := by decide +kernel
theorem dX10_struck_22 : decode cX10_struck 22 = .ok (.invokestatic 76, 3) := by decide +kernel
theorem dX10_struck_25 : decode cX10_struck 25 = .ok (.ifCond .ne 6, 3) := by decide +kernel
theorem dX10_struck_28 : decode cX10_struck 28 = .ok (.bipush (-2), 2) := by decide +kernel
theorem dX10_struck_30 : decode cX10_struck 30 = .ok (.ireturn, 1) := by decide +kernel
theorem dX10_struck_31 : decode cX10_struck 31 = .ok (.aload_n 0, 1) := by decide +kernel
theorem dX10_struck_32 : decode cX10_struck 32 = .ok (.invokevirtual 275, 3) := by decide +kernel
theorem dX10_struck_35 : decode cX10_struck 35 = .ok (.iconst 0, 1) := by decide +kernel
theorem dX10_struck_36 : decode cX10_struck 36 = .ok (.istore_n 3, 1) := by decide +kernel
theorem dX10_struck_37 : decode cX10_struck 37 = .ok (.iconst 0, 1) := by decide +kernel
theorem dX10_struck_38 : decode cX10_struck 38 = .ok (.istore 4, 2) := by decide +kernel
theorem dX10_struck_40 : decode cX10_struck 40 = .ok (.iload 4, 2) := by decide +kernel
theorem dX10_struck_42 : decode cX10_struck 42 = .ok (.aload_n 0, 1) := by decide +kernel
theorem dX10_struck_43 : decode cX10_struck 43 = .ok (.invokevirtual 229, 3) := by decide +kernel
theorem dX10_struck_46 : decode cX10_struck 46 = .ok (.if_icmp .ge 51, 3) := by decide +kernel
theorem dX10_struck_49 : decode cX10_struck 49 = .ok (.iload_n 3, 1) := by decide +kernel
theorem dX10_struck_50 : decode cX10_struck 50 = .ok (.aload_n 0, 1) := by decide +kernel
theorem dX10_struck_51 : decode cX10_struck 51 = .ok (.getfield 53, 3) := by decide +kernel
theorem dX10_struck_54 : decode cX10_struck 54 = .ok (.bipush 6, 2) := by decide +kernel
theorem dX10_struck_56 : decode cX10_struck 56 = .ok (.iload_n 1, 1) := by decide +kernel
theorem dX10_struck_57 : decode cX10_struck 57 = .ok (.imul, 1) := by decide +kernel
theorem dX10_struck_58 : decode cX10_struck 58 = .ok (.iload 4, 2) := by decide +kernel
theorem dX10_struck_60 : decode cX10_struck 60 = .ok (.iadd, 1) := by decide +kernel
theorem dX10_struck_61 : decode cX10_struck 61 = .ok (.baload, 1) := by decide +kernel
theorem dX10_struck_62 : decode cX10_struck 62 = .ok (.ifCond .eq 26, 3) := by decide +kernel
theorem dX10_struck_65 : decode cX10_struck 65 = .ok (.aload_n 0, 1) := by decide +kernel
theorem dX10_struck_66 : decode cX10_struck 66 = .ok (.getfield 50, 3) := by decide +kernel
theorem dX10_struck_69 : decode cX10_struck 69 = .ok (.bipush 6, 2) := by decide +kernel
theorem dX10_struck_71 : decode cX10_struck 71 = .ok (.iload_n 1, 1) := by decide +kernel
theorem dX10_struck_72 : decode cX10_struck 72 = .ok (.imul, 1) := by decide +kernel
theorem dX10_struck_73 : decode cX10_struck 73 = .ok (.iload 4, 2) := by decide +kernel
theorem dX10_struck_75 : decode cX10_struck 75 = .ok (.iadd, 1) := by decide +kernel
theorem dX10_struck_76 : decode cX10_struck 76 = .ok (.iaload, 1) := by decide +kernel
theorem dX10_struck_77 : decode cX10_struck 77 = .ok (.iload_n 2, 1) := by decide +kernel
theorem dX10_struck_78 : decode cX10_struck 78 = .ok (.if_icmp .gt 10, 3) := by decide +kernel
theorem dX10_struck_81 : decode cX10_struck 81 = .ok (.iconst 1, 1) := by decide +kernel
theorem dX10_struck_82 : decode cX10_struck 82 = .ok (.iload 4, 2) := by decide +kernel
theorem dX10_struck_84 : decode cX10_struck 84 = .ok (.ishl, 1) := by decide +kernel
theorem dX10_struck_85 : decode cX10_struck 85 = .ok (.goto 4, 3) := by decide +kernel
theorem dX10_struck_88 : decode cX10_struck 88 = .ok (.iconst 0, 1) := by decide +kernel
theorem dX10_struck_89 : decode cX10_struck 89 = .ok (.ior, 1) := by decide +kernel
theorem dX10_struck_90 : decode cX10_struck 90 = .ok (.istore_n 3, 1) := by decide +kernel
theorem dX10_struck_91 : decode cX10_struck 91 = .ok (.iinc 4 1, 3) := by decide +kernel
theorem dX10_struck_94 : decode cX10_struck 94 = .ok (.goto (-54), 3) := by decide +kernel
theorem dX10_struck_97 : decode cX10_struck 97 = .ok (.iload_n 3, 1) := by decide +kernel
theorem dX10_struck_98 : decode cX10_struck 98 = .ok (.ireturn, 1) := by decide +kernel
theorem dX10_sure_0 : decode cX10_sure 0 = .ok (.aload_n 0, 1) := by decide +kernel
theorem dX10_sure_1 : decode cX10_sure 1 = .ok (.iconst 0, 1) := by decide +kernel
theorem dX10_sure_2 : decode cX10_sure 2 = .ok (.putfield 71, 3) := by decide +kernel
theorem dX10_sure_5 : decode cX10_sure 5 = .ok (.aload_n 0, 1) := by decide +kernel
theorem dX10_sure_6 : decode cX10_sure 6 = .ok (.iload_n 1, 1) := by decide +kernel
theorem dX10_sure_7 : decode cX10_sure 7 = .ok (.i2l, 1) := by decide +kernel
theorem dX10_sure_8 : decode cX10_sure 8 = .ok (.invokevirtual 272, 3) := by decide +kernel
theorem dX10_sure_11 : decode cX10_sure 11 = .ok (.ifCond .eq 15, 3) := by decide +kernel
theorem dX10_sure_14 : decode cX10_sure 14 = .ok (.iload_n 2, 1) := by decide +kernel
theorem dX10_sure_15 : decode cX10_sure 15 = .ok (.i2l, 1) := by decide +kernel
theorem dX10_sure_16 : decode cX10_sure 16 = .ok (.lconst 0, 1) := by decide +kernel
theorem dX10_sure_17 : decode cX10_sure 17 = .ok (.ldc2_w 409, 3) := by decide +kernel
theorem dX10_sure_20 : decode cX10_sure 20 = .ok (.invokestatic 76, 3) := by decide +kernel
theorem dX10_sure_23 : decode cX10_sure 23 = .ok (.ifCond .ne 6, 3) := by decide +kernel
theorem dX10_sure_26 : decode cX10_sure 26 = .ok (.bipush (-2), 2) := by decide +kernel
theorem dX10_sure_28 : decode cX10_sure 28 = .ok (.ireturn, 1) := by decide +kernel
theorem dX10_sure_29 : decode cX10_sure 29 = .ok (.aload_n 0, 1) := by decide +kernel
theorem dX10_sure_30 : decode cX10_sure 30 = .ok (.invokevirtual 275, 3) := by decide +kernel
theorem dX10_sure_33 : decode cX10_sure 33 = .ok (.iconst 0, 1) := by decide +kernel
theorem dX10_sure_34 : decode cX10_sure 34 = .ok (.istore_n 3, 1) := by decide +kernel
theorem dX10_sure_35 : decode cX10_sure 35 = .ok (.iload_n 3, 1) := by decide +kernel
theorem dX10_sure_36 : decode cX10_sure 36 = .ok (.sipush 600, 3) := by decide +kernel
theorem dX10_sure_39 : decode cX10_sure 39 = .ok (.if_icmp .gt 34, 3) := by decide +kernel
theorem dX10_sure_42 : decode cX10_sure 42 = .ok (.ldc2_w 409, 3) := by decide +kernel
theorem dX10_sure_45 : decode cX10_sure 45 = .ok (.aload_n 0, 1) := by decide +kernel
theorem dX10_sure_46 : decode cX10_sure 46 = .ok (.iload_n 1, 1) := by decide +kernel
theorem dX10_sure_47 : decode cX10_sure 47 = .ok (.iload_n 3, 1) := by decide +kernel
theorem dX10_sure_48 : decode cX10_sure 48 = .ok (.invokevirtual 406, 3) := by decide +kernel
theorem dX10_sure_51 : decode cX10_sure 51 = .ok (.i2l, 1) := by decide +kernel
theorem dX10_sure_52 : decode cX10_sure 52 = .ok (.lmul, 1) := by decide +kernel
theorem dX10_sure_53 : decode cX10_sure 53 = .ok (.iload_n 2, 1) := by decide +kernel
theorem dX10_sure_54 : decode cX10_sure 54 = .ok (.i2l, 1) := by decide +kernel
theorem dX10_sure_55 : decode cX10_sure 55 = .ok (.aload_n 0, 1) := by decide +kernel
theorem dX10_sure_56 : decode cX10_sure 56 = .ok (.getfield 403, 3) := by decide +kernel
theorem dX10_sure_59 : decode cX10_sure 59 = .ok (.i2l, 1) := by decide +kernel
theorem dX10_sure_60 : decode cX10_sure 60 = .ok (.lmul, 1) := by decide +kernel
theorem dX10_sure_61 : decode cX10_sure 61 = .ok (.lcmp, 1) := by decide +kernel
theorem dX10_sure_62 : decode cX10_sure 62 = .ok (.ifCond .lt 5, 3) := by decide +kernel
theorem dX10_sure_65 : decode cX10_sure 65 = .ok (.iload_n 3, 1) := by decide +kernel
theorem dX10_sure_66 : decode cX10_sure 66 = .ok (.ireturn, 1) := by decide +kernel
theorem dX10_sure_67 : decode cX10_sure 67 = .ok (.iinc 3 1, 3) := by decide +kernel
theorem dX10_sure_70 : decode cX10_sure 70 = .ok (.goto (-35), 3) := by decide +kernel
theorem dX10_sure_73 : decode cX10_sure 73 = .ok (.iconst (-1), 1) := by decide +kernel
theorem dX10_sure_74 : decode cX10_sure 74 = .ok (.ireturn, 1) := by decide +kernel
theorem dX10_surely_0 : decode cX10_surely 0 = .ok (.aload_n 0, 1) := by decide +kernel
theorem dX10_surely_1 : decode cX10_surely 1 = .ok (.iconst 0, 1) := by decide +kernel
theorem dX10_surely_2 : decode cX10_surely 2 = .ok (.putfield 71, 3) := by decide +kernel
theorem dX10_surely_5 : decode cX10_surely 5 = .ok (.aload_n 0, 1) := by decide +kernel
theorem dX10_surely_6 : decode cX10_surely 6 = .ok (.iload_n 1, 1) := by decide +kernel
theorem dX10_surely_7 : decode cX10_surely 7 = .ok (.invokevirtual 394, 3) := by decide +kernel
theorem dX10_surely_10 : decode cX10_surely 10 = .ok (.istore_n 2, 1) := by decide +kernel
theorem dX10_surely_11 : decode cX10_surely 11 = .ok (.iload_n 2, 1) := by decide +kernel
theorem dX10_surely_12 : decode cX10_surely 12 = .ok (.ifCond .eq 5, 3) := by decide +kernel
theorem dX10_surely_15 : decode cX10_surely 15 = .ok (.iload_n 2, 1) := by decide +kernel
theorem dX10_surely_16 : decode cX10_surely 16 = .ok (.ireturn, 1) := by decide +kernel
theorem dX10_surely_17 : decode cX10_surely 17 = .ok (.aload_n 0, 1) := by decide +kernel
theorem dX10_surely_18 : decode cX10_surely 18 = .ok (.iload_n 1, 1) := by decide +kernel
theorem dX10_surely_19 : decode cX10_surely 19 = .ok (.invokevirtual 397, 3) := by decide +kernel
theorem dX10_surely_22 : decode cX10_surely 22 = .ok (.aload_n 0, 1) := by decide +kernel
theorem dX10_surely_23 : decode cX10_surely 23 = .ok (.getfield 385, 3) := by decide +kernel
theorem dX10_surely_26 : decode cX10_surely 26 = .ok (.ifCond .ne 5, 3) := by decide +kernel
theorem dX10_surely_29 : decode cX10_surely 29 = .ok (.iconst (-1), 1) := by decide +kernel
theorem dX10_surely_30 : decode cX10_surely 30 = .ok (.ireturn, 1) := by decide +kernel
theorem dX10_surely_31 : decode cX10_surely 31 = .ok (.iconst 0, 1) := by decide +kernel
theorem dX10_surely_32 : decode cX10_surely 32 = .ok (.istore_n 3, 1) := by decide +kernel
theorem dX10_surely_33 : decode cX10_surely 33 = .ok (.iconst 0, 1) := by decide +kernel
theorem dX10_surely_34 : decode cX10_surely 34 = .ok (.istore 4, 2) := by decide +kernel
theorem dX10_surely_36 : decode cX10_surely 36 = .ok (.iload 4, 2) := by decide +kernel
theorem dX10_surely_38 : decode cX10_surely 38 = .ok (.aload_n 0, 1) := by decide +kernel
theorem dX10_surely_39 : decode cX10_surely 39 = .ok (.invokevirtual 229, 3) := by decide +kernel
theorem dX10_surely_42 : decode cX10_surely 42 = .ok (.if_icmp .ge 34, 3) := by decide +kernel
theorem dX10_surely_45 : decode cX10_surely 45 = .ok (.iload_n 3, 1) := by decide +kernel
theorem dX10_surely_46 : decode cX10_surely 46 = .ok (.aload_n 0, 1) := by decide +kernel
theorem dX10_surely_47 : decode cX10_surely 47 = .ok (.getfield 68, 3) := by decide +kernel
theorem dX10_surely_50 : decode cX10_surely 50 = .ok (.iload 4, 2) := by decide +kernel
theorem dX10_surely_52 : decode cX10_surely 52 = .ok (.iaload, 1) := by decide +kernel
theorem dX10_surely_53 : decode cX10_surely 53 = .ok (.aload_n 0, 1) := by decide +kernel
theorem dX10_surely_54 : decode cX10_surely 54 = .ok (.getfield 385, 3) := by decide +kernel
theorem dX10_surely_57 : decode cX10_surely 57 = .ok (.if_icmp .ne 10, 3) := by decide +kernel
theorem dX10_surely_60 : decode cX10_surely 60 = .ok (.iconst 1, 1) := by decide +kernel
theorem dX10_surely_61 : decode cX10_surely 61 = .ok (.iload 4, 2) := by decide +kernel
theorem dX10_surely_63 : decode cX10_surely 63 = .ok (.ishl, 1) := by decide +kernel
theorem dX10_surely_64 : decode cX10_surely 64 = .ok (.goto 4, 3) := by decide +kernel
theorem dX10_surely_67 : decode cX10_surely 67 = .ok (.iconst 0, 1) := by decide +kernel
theorem dX10_surely_68 : decode cX10_surely 68 = .ok (.ior, 1) := by decide +kernel
theorem dX10_surely_69 : decode cX10_surely 69 = .ok (.istore_n 3, 1) := by decide +kernel
theorem dX10_surely_70 : decode cX10_surely 70 = .ok (.iinc 4 1, 3) := by decide +kernel
theorem dX10_surely_73 : decode cX10_surely 73 = .ok (.goto (-37), 3) := by decide +kernel
theorem dX10_surely_76 : decode cX10_surely 76 = .ok (.iload_n 3, 1) := by decide +kernel
theorem dX10_surely_77 : decode cX10_surely 77 = .ok (.ireturn, 1) := by decide +kernel
theorem dX10_takes_0 : decode cX10_takes 0 = .ok (.aload_n 0, 1) := by decide +kernel
theorem dX10_takes_1 : decode cX10_takes 1 = .ok (.lload_n 1, 1) := by decide +kernel
theorem dX10_takes_2 : decode cX10_takes 2 = .ok (.invokevirtual 129, 3) := by decide +kernel
theorem dX10_takes_5 : decode cX10_takes 5 = .ok (.ifCond .ne 5, 3) := by decide +kernel
theorem dX10_takes_8 : decode cX10_takes 8 = .ok (.iconst 0, 1) := by decide +kernel
theorem dX10_takes_9 : decode cX10_takes 9 = .ok (.ireturn, 1) := by decide +kernel
theorem dX10_takes_10 : decode cX10_takes 10 = .ok (.aload_n 0, 1) := by decide +kernel
theorem dX10_takes_11 : decode cX10_takes 11 = .ok (.invokevirtual 133, 3) := by decide +kernel
theorem dX10_takes_14 : decode cX10_takes 14 = .ok (.iconst 1, 1) := by decide +kernel
theorem dX10_takes_15 : decode cX10_takes 15 = .ok (.ireturn, 1) := by decide +kernel
theorem dX10_tells_0 : decode cX10_tells 0 = .ok (.aload_n 0, 1) := by decide +kernel
theorem dX10_tells_1 : decode cX10_tells 1 = .ok (.getfield 34, 3) := by decide +kernel
theorem dX10_tells_4 : decode cX10_tells 4 = .ok (.bipush 24, 2) := by decide +kernel
theorem dX10_tells_6 : decode cX10_tells 6 = .ok (.iload_n 1, 1) := by decide +kernel
theorem dX10_tells_7 : decode cX10_tells 7 = .ok (.iadd, 1) := by decide +kernel
theorem dX10_tells_8 : decode cX10_tells 8 = .ok (.iload_n 2, 1) := by decide +kernel
theorem dX10_tells_9 : decode cX10_tells 9 = .ok (.iastore, 1) := by decide +kernel
theorem dX10_tells_10 : decode cX10_tells 10 = .ok (.return_, 1) := by decide +kernel
theorem dX10_tolls_0 : decode cX10_tolls 0 = .ok (.aload_n 0, 1) := by decide +kernel
theorem dX10_tolls_1 : decode cX10_tolls 1 = .ok (.iconst 0, 1) := by decide +kernel
theorem dX10_tolls_2 : decode cX10_tolls 2 = .ok (.putfield 71, 3) := by decide +kernel
theorem dX10_tolls_5 : decode cX10_tolls 5 = .ok (.aload_n 0, 1) := by decide +kernel
theorem dX10_tolls_6 : decode cX10_tolls 6 = .ok (.iload_n 1, 1) := by decide +kernel
theorem dX10_tolls_7 : decode cX10_tolls 7 = .ok (.i2l, 1) := by decide +kernel
theorem dX10_tolls_8 : decode cX10_tolls 8 = .ok (.invokevirtual 272, 3) := by decide +kernel
theorem dX10_tolls_11 : decode cX10_tolls 11 = .ok (.ifCond .ne 6, 3) := by decide +kernel
theorem dX10_tolls_14 : decode cX10_tolls 14 = .ok (.bipush (-2), 2) := by decide +kernel
theorem dX10_tolls_16 : decode cX10_tolls 16 = .ok (.ireturn, 1) := by decide +kernel
theorem dX10_tolls_17 : decode cX10_tolls 17 = .ok (.aload_n 0, 1) := by decide +kernel
theorem dX10_tolls_18 : decode cX10_tolls 18 = .ok (.invokevirtual 275, 3) := by decide +kernel
theorem dX10_tolls_21 : decode cX10_tolls 21 = .ok (.iconst 0, 1) := by decide +kernel
theorem dX10_tolls_22 : decode cX10_tolls 22 = .ok (.istore_n 2, 1) := by decide +kernel
theorem dX10_tolls_23 : decode cX10_tolls 23 = .ok (.iconst 0, 1) := by decide +kernel
theorem dX10_tolls_24 : decode cX10_tolls 24 = .ok (.istore_n 3, 1) := by decide +kernel
theorem dX10_tolls_25 : decode cX10_tolls 25 = .ok (.iload_n 3, 1) := by decide +kernel
theorem dX10_tolls_26 : decode cX10_tolls 26 = .ok (.aload_n 0, 1) := by decide +kernel
theorem dX10_tolls_27 : decode cX10_tolls 27 = .ok (.invokevirtual 229, 3) := by decide +kernel
theorem dX10_tolls_30 : decode cX10_tolls 30 = .ok (.if_icmp .ge 96, 3) := by decide +kernel
theorem dX10_tolls_33 : decode cX10_tolls 33 = .ok (.aload_n 0, 1) := by decide +kernel
theorem dX10_tolls_34 : decode cX10_tolls 34 = .ok (.getfield 53, 3) := by decide +kernel
theorem dX10_tolls_37 : decode cX10_tolls 37 = .ok (.bipush 6, 2) := by decide +kernel
theorem dX10_tolls_39 : decode cX10_tolls 39 = .ok (.iload_n 1, 1) := by decide +kernel
theorem dX10_tolls_40 : decode cX10_tolls 40 = .ok (.imul, 1) := by decide +kernel
theorem dX10_tolls_41 : decode cX10_tolls 41 = .ok (.iload_n 3, 1) := by decide +kernel
theorem dX10_tolls_42 : decode cX10_tolls 42 = .ok (.iadd, 1) := by decide +kernel
theorem dX10_tolls_43 : decode cX10_tolls 43 = .ok (.baload, 1) := by decide +kernel
theorem dX10_tolls_44 : decode cX10_tolls 44 = .ok (.ifCond .eq 24, 3) := by decide +kernel
theorem dX10_tolls_47 : decode cX10_tolls 47 = .ok (.aload_n 0, 1) := by decide +kernel
theorem dX10_tolls_48 : decode cX10_tolls 48 = .ok (.getfield 50, 3) := by decide +kernel
theorem dX10_tolls_51 : decode cX10_tolls 51 = .ok (.bipush 6, 2) := by decide +kernel
theorem dX10_tolls_53 : decode cX10_tolls 53 = .ok (.iload_n 1, 1) := by decide +kernel
theorem dX10_tolls_54 : decode cX10_tolls 54 = .ok (.imul, 1) := by decide +kernel
theorem dX10_tolls_55 : decode cX10_tolls 55 = .ok (.iload_n 3, 1) := by decide +kernel
theorem dX10_tolls_56 : decode cX10_tolls 56 = .ok (.iadd, 1) := by decide +kernel
theorem dX10_tolls_57 : decode cX10_tolls 57 = .ok (.iaload, 1) := by decide +kernel
theorem dX10_tolls_58 : decode cX10_tolls 58 = .ok (.sipush 10000, 3) := by decide +kernel
theorem dX10_tolls_61 : decode cX10_tolls 61 = .ok (.if_icmp .eq 7, 3) := by decide +kernel
theorem dX10_tolls_64 : decode cX10_tolls 64 = .ok (.iconst 1, 1) := by decide +kernel
theorem dX10_tolls_65 : decode cX10_tolls 65 = .ok (.goto 4, 3) := by decide +kernel
theorem dX10_tolls_68 : decode cX10_tolls 68 = .ok (.iconst 0, 1) := by decide +kernel
theorem dX10_tolls_69 : decode cX10_tolls 69 = .ok (.istore 4, 2) := by decide +kernel
theorem dX10_tolls_71 : decode cX10_tolls 71 = .ok (.iconst 0, 1) := by decide +kernel
theorem dX10_tolls_72 : decode cX10_tolls 72 = .ok (.istore 5, 2) := by decide +kernel
theorem dX10_tolls_74 : decode cX10_tolls 74 = .ok (.iload 5, 2) := by decide +kernel
theorem dX10_tolls_76 : decode cX10_tolls 76 = .ok (.iload_n 3, 1) := by decide +kernel
theorem dX10_tolls_77 : decode cX10_tolls 77 = .ok (.if_icmp .ge 30, 3) := by decide +kernel
theorem dX10_tolls_80 : decode cX10_tolls 80 = .ok (.iload 4, 2) := by decide +kernel
theorem dX10_tolls_82 : decode cX10_tolls 82 = .ok (.aload_n 0, 1) := by decide +kernel
theorem dX10_tolls_83 : decode cX10_tolls 83 = .ok (.iload_n 1, 1) := by decide +kernel
theorem dX10_tolls_84 : decode cX10_tolls 84 = .ok (.iload_n 3, 1) := by decide +kernel
theorem dX10_tolls_85 : decode cX10_tolls 85 = .ok (.iload 5, 2) := by decide +kernel
theorem dX10_tolls_87 : decode cX10_tolls 87 = .ok (.invokevirtual 301, 3) := by decide +kernel
theorem dX10_tolls_90 : decode cX10_tolls 90 = .ok (.ifCond .ne 7, 3) := by decide +kernel
theorem dX10_tolls_93 : decode cX10_tolls 93 = .ok (.iconst 1, 1) := by decide +kernel
theorem dX10_tolls_94 : decode cX10_tolls 94 = .ok (.goto 4, 3) := by decide +kernel
theorem dX10_tolls_97 : decode cX10_tolls 97 = .ok (.iconst 0, 1) := by decide +kernel
theorem dX10_tolls_98 : decode cX10_tolls 98 = .ok (.iand, 1) := by decide +kernel
theorem dX10_tolls_99 : decode cX10_tolls 99 = .ok (.istore 4, 2) := by decide +kernel
theorem dX10_tolls_101 : decode cX10_tolls 101 = .ok (.iinc 5 1, 3) := by decide +kernel
theorem dX10_tolls_104 : decode cX10_tolls 104 = .ok (.goto (-30), 3) := by decide +kernel
theorem dX10_tolls_107 : decode cX10_tolls 107 = .ok (.iload_n 2, 1) := by decide +kernel
theorem dX10_tolls_108 : decode cX10_tolls 108 = .ok (.iload 4, 2) := by decide +kernel
theorem dX10_tolls_110 : decode cX10_tolls 110 = .ok (.ifCond .eq 7, 3) := by decide +kernel
theorem dX10_tolls_113 : decode cX10_tolls 113 = .ok (.iconst 1, 1) := by decide +kernel
theorem dX10_tolls_114 : decode cX10_tolls 114 = .ok (.goto 4, 3) := by decide +kernel
theorem dX10_tolls_117 : decode cX10_tolls 117 = .ok (.iconst 0, 1) := by decide +kernel
theorem dX10_tolls_118 : decode cX10_tolls 118 = .ok (.iadd, 1) := by decide +kernel
theorem dX10_tolls_119 : decode cX10_tolls 119 = .ok (.istore_n 2, 1) := by decide +kernel
theorem dX10_tolls_120 : decode cX10_tolls 120 = .ok (.iinc 3 1, 3) := by decide +kernel
theorem dX10_tolls_123 : decode cX10_tolls 123 = .ok (.goto (-98), 3) := by decide +kernel
theorem dX10_tolls_126 : decode cX10_tolls 126 = .ok (.iload_n 2, 1) := by decide +kernel
theorem dX10_tolls_127 : decode cX10_tolls 127 = .ok (.ireturn, 1) := by decide +kernel
theorem dX10_town_0 : decode cX10_town 0 = .ok (.aload_n 0, 1) := by decide +kernel
theorem dX10_town_1 : decode cX10_town 1 = .ok (.iconst 0, 1) := by decide +kernel
theorem dX10_town_2 : decode cX10_town 2 = .ok (.putfield 71, 3) := by decide +kernel
theorem dX10_town_5 : decode cX10_town 5 = .ok (.aload_n 0, 1) := by decide +kernel
theorem dX10_town_6 : decode cX10_town 6 = .ok (.invokevirtual 191, 3) := by decide +kernel
theorem dX10_town_9 : decode cX10_town 9 = .ok (.aload_n 0, 1) := by decide +kernel
theorem dX10_town_10 : decode cX10_town 10 = .ok (.invokevirtual 194, 3) := by decide +kernel
theorem dX10_town_13 : decode cX10_town 13 = .ok (.aload_n 0, 1) := by decide +kernel
theorem dX10_town_14 : decode cX10_town 14 = .ok (.invokevirtual 197, 3) := by decide +kernel
theorem dX10_town_17 : decode cX10_town 17 = .ok (.ifCond .eq 102, 3) := by decide +kernel
theorem dX10_town_20 : decode cX10_town 20 = .ok (.aload_n 0, 1) := by decide +kernel
theorem dX10_town_21 : decode cX10_town 21 = .ok (.getfield 112, 3) := by decide +kernel
theorem dX10_town_24 : decode cX10_town 24 = .ok (.ifCond .eq 95, 3) := by decide +kernel
theorem dX10_town_27 : decode cX10_town 27 = .ok (.aload_n 0, 1) := by decide +kernel
theorem dX10_town_28 : decode cX10_town 28 = .ok (.getfield 31, 3) := by decide +kernel
theorem dX10_town_31 : decode cX10_town 31 = .ok (.iconst 4, 1) := by decide +kernel
theorem dX10_town_32 : decode cX10_town 32 = .ok (.iaload, 1) := by decide +kernel
theorem dX10_town_33 : decode cX10_town 33 = .ok (.ifCond .ne 58, 3) := by decide +kernel
theorem dX10_town_36 : decode cX10_town 36 = .ok (.aload_n 0, 1) := by decide +kernel
theorem dX10_town_37 : decode cX10_town 37 = .ok (.ldc2_w 201, 3) := by decide +kernel
theorem dX10_town_40 : decode cX10_town 40 = .ok (.invokevirtual 142, 3) := by decide +kernel
theorem dX10_town_43 : decode cX10_town 43 = .ok (.aload_n 0, 1) := by decide +kernel
theorem dX10_town_44 : decode cX10_town 44 = .ok (.iconst 0, 1) := by decide +kernel
theorem dX10_town_45 : decode cX10_town 45 = .ok (.aload_n 0, 1) := by decide +kernel
theorem dX10_town_46 : decode cX10_town 46 = .ok (.ldc2_w 203, 3) := by decide +kernel
theorem dX10_town_49 : decode cX10_town 49 = .ok (.iconst 1, 1) := by decide +kernel
theorem dX10_town_50 : decode cX10_town 50 = .ok (.bipush 7, 2) := by decide +kernel
theorem dX10_town_52 : decode cX10_town 52 = .ok (.invokevirtual 159, 3) := by decide +kernel
theorem dX10_town_55 : decode cX10_town 55 = .ok (.invokevirtual 174, 3) := by decide +kernel
theorem dX10_town_58 : decode cX10_town 58 = .ok (.aload_n 0, 1) := by decide +kernel
theorem dX10_town_59 : decode cX10_town 59 = .ok (.iconst 1, 1) := by decide +kernel
theorem dX10_town_60 : decode cX10_town 60 = .ok (.aload_n 0, 1) := by decide +kernel
theorem dX10_town_61 : decode cX10_town 61 = .ok (.ldc2_w 205, 3) := by decide +kernel
theorem dX10_town_64 : decode cX10_town 64 = .ok (.iconst 0, 1) := by decide +kernel
theorem dX10_town_65 : decode cX10_town 65 = .ok (.bipush 9, 2) := by decide +kernel
theorem dX10_town_67 : decode cX10_town 67 = .ok (.invokevirtual 159, 3) := by decide +kernel
theorem dX10_town_70 : decode cX10_town 70 = .ok (.invokevirtual 174, 3) := by decide +kernel
theorem dX10_town_73 : decode cX10_town 73 = .ok (.aload_n 0, 1) := by decide +kernel
theorem dX10_town_74 : decode cX10_town 74 = .ok (.iconst 2, 1) := by decide +kernel
theorem dX10_town_75 : decode cX10_town 75 = .ok (.aload_n 0, 1) := by decide +kernel
theorem dX10_town_76 : decode cX10_town 76 = .ok (.ldc2_w 207, 3) := by decide +kernel
theorem dX10_town_79 : decode cX10_town 79 = .ok (.iconst 0, 1) := by decide +kernel
theorem dX10_town_80 : decode cX10_town 80 = .ok (.bipush 10, 2) := by decide +kernel
theorem dX10_town_82 : decode cX10_town 82 = .ok (.invokevirtual 159, 3) := by decide +kernel
theorem dX10_town_85 : decode cX10_town 85 = .ok (.invokevirtual 174, 3) := by decide +kernel
theorem dX10_town_88 : decode cX10_town 88 = .ok (.goto 7, 3) := by decide +kernel
theorem dX10_town_91 : decode cX10_town 91 = .ok (.aload_n 0, 1) := by decide +kernel
theorem dX10_town_92 : decode cX10_town 92 = .ok (.invokevirtual 209, 3) := by decide +kernel
theorem dX10_town_95 : decode cX10_town 95 = .ok (.aload_n 0, 1) := by decide +kernel
theorem dX10_town_96 : decode cX10_town 96 = .ok (.invokevirtual 197, 3) := by decide +kernel
theorem dX10_town_99 : decode cX10_town 99 = .ok (.ifCond .eq 7, 3) := by decide +kernel
theorem dX10_town_102 : decode cX10_town 102 = .ok (.aload_n 0, 1) := by decide +kernel
theorem dX10_town_103 : decode cX10_town 103 = .ok (.invokevirtual 212, 3) := by decide +kernel
theorem dX10_town_106 : decode cX10_town 106 = .ok (.aload_n 0, 1) := by decide +kernel
theorem dX10_town_107 : decode cX10_town 107 = .ok (.getfield 31, 3) := by decide +kernel
theorem dX10_town_110 : decode cX10_town 110 = .ok (.iconst 4, 1) := by decide +kernel
theorem dX10_town_111 : decode cX10_town 111 = .ok (.dup2, 1) := by decide +kernel
theorem dX10_town_112 : decode cX10_town 112 = .ok (.iaload, 1) := by decide +kernel
theorem dX10_town_113 : decode cX10_town 113 = .ok (.iconst 1, 1) := by decide +kernel
theorem dX10_town_114 : decode cX10_town 114 = .ok (.iadd, 1) := by decide +kernel
theorem dX10_town_115 : decode cX10_town 115 = .ok (.iastore, 1) := by decide +kernel
theorem dX10_town_116 : decode cX10_town 116 = .ok (.goto (-103), 3) := by decide +kernel
theorem dX10_town_119 : decode cX10_town 119 = .ok (.aload_n 0, 1) := by decide +kernel
theorem dX10_town_120 : decode cX10_town 120 = .ok (.invokevirtual 215, 3) := by decide +kernel
theorem dX10_town_123 : decode cX10_town 123 = .ok (.aload_n 0, 1) := by decide +kernel
theorem dX10_town_124 : decode cX10_town 124 = .ok (.getfield 123, 3) := by decide +kernel
theorem dX10_town_127 : decode cX10_town 127 = .ok (.ifCond .eq 6, 3) := by decide +kernel
theorem dX10_town_130 : decode cX10_town 130 = .ok (.bipush (-4), 2) := by decide +kernel
theorem dX10_town_132 : decode cX10_town 132 = .ok (.ireturn, 1) := by decide +kernel
theorem dX10_town_133 : decode cX10_town 133 = .ok (.aload_n 0, 1) := by decide +kernel
theorem dX10_town_134 : decode cX10_town 134 = .ok (.iconst 4, 1) := by decide +kernel
theorem dX10_town_135 : decode cX10_town 135 = .ok (.iconst 0, 1) := by decide +kernel
theorem dX10_town_136 : decode cX10_town 136 = .ok (.invokevirtual 218, 3) := by decide +kernel
theorem dX10_town_139 : decode cX10_town 139 = .ok (.aload_n 0, 1) := by decide +kernel
theorem dX10_town_140 : decode cX10_town 140 = .ok (.getfield 31, 3) := by decide +kernel
theorem dX10_town_143 : decode cX10_town 143 = .ok (.iconst 0, 1) := by decide +kernel
theorem dX10_town_144 : decode cX10_town 144 = .ok (.iaload, 1) := by decide +kernel
theorem dX10_town_145 : decode cX10_town 145 = .ok (.ireturn, 1) := by decide +kernel
theorem dX10_tradesWait_0 : decode cX10_tradesWait 0 = .ok (.iconst 0, 1) := by decide +kernel
theorem dX10_tradesWait_1 : decode cX10_tradesWait 1 = .ok (.istore_n 1, 1) := by decide +kernel
theorem dX10_tradesWait_2 : decode cX10_tradesWait 2 = .ok (.iconst 0, 1) := by decide +kernel
theorem dX10_tradesWait_3 : decode cX10_tradesWait 3 = .ok (.istore_n 2, 1) := by decide +kernel
theorem dX10_tradesWait_4 : decode cX10_tradesWait 4 = .ok (.iload_n 2, 1) := by decide +kernel
theorem dX10_tradesWait_5 : decode cX10_tradesWait 5 = .ok (.aload_n 0, 1) := by decide +kernel
theorem dX10_tradesWait_6 : decode cX10_tradesWait 6 = .ok (.getfield 34, 3) := by decide +kernel
theorem dX10_tradesWait_9 : decode cX10_tradesWait 9 = .ok (.iconst 4, 1) := by decide +kernel
theorem dX10_tradesWait_10 : decode cX10_tradesWait 10 = .ok (.iaload, 1) := by decide +kernel
theorem dX10_tradesWait_11 : decode cX10_tradesWait 11 = .ok (.if_icmp .ge 18, 3) := by decide +kernel
theorem dX10_tradesWait_14 : decode cX10_tradesWait 14 = .ok (.iload_n 1, 1) := by decide +kernel
theorem dX10_tradesWait_15 : decode cX10_tradesWait 15 = .ok (.aload_n 0, 1) := by decide +kernel
theorem dX10_tradesWait_16 : decode cX10_tradesWait 16 = .ok (.getfield 40, 3) := by decide +kernel
theorem dX10_tradesWait_19 : decode cX10_tradesWait 19 = .ok (.iload_n 2, 1) := by decide +kernel
theorem dX10_tradesWait_20 : decode cX10_tradesWait 20 = .ok (.iaload, 1) := by decide +kernel
theorem dX10_tradesWait_21 : decode cX10_tradesWait 21 = .ok (.iadd, 1) := by decide +kernel
theorem dX10_tradesWait_22 : decode cX10_tradesWait 22 = .ok (.istore_n 1, 1) := by decide +kernel
theorem dX10_tradesWait_23 : decode cX10_tradesWait 23 = .ok (.iinc 2 1, 3) := by decide +kernel
theorem dX10_tradesWait_26 : decode cX10_tradesWait 26 = .ok (.goto (-22), 3) := by decide +kernel
theorem dX10_tradesWait_29 : decode cX10_tradesWait 29 = .ok (.iload_n 1, 1) := by decide +kernel
theorem dX10_tradesWait_30 : decode cX10_tradesWait 30 = .ok (.ireturn, 1) := by decide +kernel
theorem dX10_under_0 : decode cX10_under 0 = .ok (.aload_n 0, 1) := by decide +kernel
theorem dX10_under_1 : decode cX10_under 1 = .ok (.iconst 0, 1) := by decide +kernel
theorem dX10_under_2 : decode cX10_under 2 = .ok (.putfield 71, 3) := by decide +kernel
theorem dX10_under_5 : decode cX10_under 5 = .ok (.aload_n 0, 1) := by decide +kernel
theorem dX10_under_6 : decode cX10_under 6 = .ok (.iload_n 1, 1) := by decide +kernel
theorem dX10_under_7 : decode cX10_under 7 = .ok (.invokevirtual 394, 3) := by decide +kernel
theorem dX10_under_10 : decode cX10_under 10 = .ok (.istore_n 2, 1) := by decide +kernel
theorem dX10_under_11 : decode cX10_under 11 = .ok (.iload_n 2, 1) := by decide +kernel
theorem dX10_under_12 : decode cX10_under 12 = .ok (.ifCond .eq 5, 3) := by decide +kernel
theorem dX10_under_15 : decode cX10_under 15 = .ok (.iload_n 2, 1) := by decide +kernel
theorem dX10_under_16 : decode cX10_under 16 = .ok (.ireturn, 1) := by decide +kernel
theorem dX10_under_17 : decode cX10_under 17 = .ok (.aload_n 0, 1) := by decide +kernel
theorem dX10_under_18 : decode cX10_under 18 = .ok (.invokevirtual 275, 3) := by decide +kernel
theorem dX10_under_21 : decode cX10_under 21 = .ok (.iconst 0, 1) := by decide +kernel
theorem dX10_under_22 : decode cX10_under 22 = .ok (.istore_n 3, 1) := by decide +kernel
theorem dX10_under_23 : decode cX10_under 23 = .ok (.iconst 0, 1) := by decide +kernel
theorem dX10_under_24 : decode cX10_under 24 = .ok (.istore 4, 2) := by decide +kernel
theorem dX10_under_26 : decode cX10_under 26 = .ok (.iload 4, 2) := by decide +kernel
theorem dX10_under_28 : decode cX10_under 28 = .ok (.bipush 60, 2) := by decide +kernel
theorem dX10_under_30 : decode cX10_under 30 = .ok (.if_icmp .gt 45, 3) := by decide +kernel
theorem dX10_under_33 : decode cX10_under 33 = .ok (.iconst 0, 1) := by decide +kernel
theorem dX10_under_34 : decode cX10_under 34 = .ok (.istore 5, 2) := by decide +kernel
theorem dX10_under_36 : decode cX10_under 36 = .ok (.iload 5, 2) := by decide +kernel
theorem dX10_under_38 : decode cX10_under 38 = .ok (.bipush 9, 2) := by decide +kernel
theorem dX10_under_40 : decode cX10_under 40 = .ok (.if_icmp .gt 29, 3) := by decide +kernel
theorem dX10_under_43 : decode cX10_under 43 = .ok (.iload_n 3, 1) := by decide +kernel
theorem dX10_under_44 : decode cX10_under 44 = .ok (.aload_n 0, 1) := by decide +kernel
theorem dX10_under_45 : decode cX10_under 45 = .ok (.iload_n 1, 1) := by decide +kernel
theorem dX10_under_46 : decode cX10_under 46 = .ok (.iload 4, 2) := by decide +kernel
theorem dX10_under_48 : decode cX10_under 48 = .ok (.iload 5, 2) := by decide +kernel
theorem dX10_under_50 : decode cX10_under 50 = .ok (.invokevirtual 400, 3) := by decide +kernel
theorem dX10_under_53 : decode cX10_under 53 = .ok (.ifCond .eq 7, 3) := by decide +kernel
theorem dX10_under_56 : decode cX10_under 56 = .ok (.iconst 1, 1) := by decide +kernel
theorem dX10_under_57 : decode cX10_under 57 = .ok (.goto 4, 3) := by decide +kernel
theorem dX10_under_60 : decode cX10_under 60 = .ok (.iconst 0, 1) := by decide +kernel
theorem dX10_under_61 : decode cX10_under 61 = .ok (.iadd, 1) := by decide +kernel
theorem dX10_under_62 : decode cX10_under 62 = .ok (.istore_n 3, 1) := by decide +kernel
theorem dX10_under_63 : decode cX10_under 63 = .ok (.iinc 5 1, 3) := by decide +kernel
theorem dX10_under_66 : decode cX10_under 66 = .ok (.goto (-30), 3) := by decide +kernel
theorem dX10_under_69 : decode cX10_under 69 = .ok (.iinc 4 1, 3) := by decide +kernel
theorem dX10_under_72 : decode cX10_under 72 = .ok (.goto (-46), 3) := by decide +kernel
theorem dX10_under_75 : decode cX10_under 75 = .ok (.iload_n 3, 1) := by decide +kernel
theorem dX10_under_76 : decode cX10_under 76 = .ok (.ireturn, 1) := by decide +kernel
theorem dX10_undo_0 : decode cX10_undo 0 = .ok (.aload_n 0, 1) := by decide +kernel
theorem dX10_undo_1 : decode cX10_undo 1 = .ok (.iconst 0, 1) := by decide +kernel
theorem dX10_undo_2 : decode cX10_undo 2 = .ok (.putfield 71, 3) := by decide +kernel
theorem dX10_undo_5 : decode cX10_undo 5 = .ok (.aload_n 0, 1) := by decide +kernel
theorem dX10_undo_6 : decode cX10_undo 6 = .ok (.invokevirtual 232, 3) := by decide +kernel
theorem dX10_undo_9 : decode cX10_undo 9 = .ok (.ifCond .ne 6, 3) := by decide +kernel
theorem dX10_undo_12 : decode cX10_undo 12 = .ok (.bipush (-2), 2) := by decide +kernel
theorem dX10_undo_14 : decode cX10_undo 14 = .ok (.ireturn, 1) := by decide +kernel
theorem dX10_undo_15 : decode cX10_undo 15 = .ok (.aload_n 0, 1) := by decide +kernel
theorem dX10_undo_16 : decode cX10_undo 16 = .ok (.getfield 34, 3) := by decide +kernel
theorem dX10_undo_19 : decode cX10_undo 19 = .ok (.iconst 5, 1) := by decide +kernel
theorem dX10_undo_20 : decode cX10_undo 20 = .ok (.iaload, 1) := by decide +kernel
theorem dX10_undo_21 : decode cX10_undo 21 = .ok (.ifCond .ne 6, 3) := by decide +kernel
theorem dX10_undo_24 : decode cX10_undo 24 = .ok (.bipush (-5), 2) := by decide +kernel
theorem dX10_undo_26 : decode cX10_undo 26 = .ok (.ireturn, 1) := by decide +kernel
theorem dX10_undo_27 : decode cX10_undo 27 = .ok (.aload_n 0, 1) := by decide +kernel
theorem dX10_undo_28 : decode cX10_undo 28 = .ok (.getfield 34, 3) := by decide +kernel
theorem dX10_undo_31 : decode cX10_undo 31 = .ok (.iconst 5, 1) := by decide +kernel
theorem dX10_undo_32 : decode cX10_undo 32 = .ok (.dup2, 1) := by decide +kernel
theorem dX10_undo_33 : decode cX10_undo 33 = .ok (.iaload, 1) := by decide +kernel
theorem dX10_undo_34 : decode cX10_undo 34 = .ok (.iconst 1, 1) := by decide +kernel
theorem dX10_undo_35 : decode cX10_undo 35 = .ok (.isub, 1) := by decide +kernel
theorem dX10_undo_36 : decode cX10_undo 36 = .ok (.iastore, 1) := by decide +kernel
theorem dX10_undo_37 : decode cX10_undo 37 = .ok (.aload_n 0, 1) := by decide +kernel
theorem dX10_undo_38 : decode cX10_undo 38 = .ok (.getfield 34, 3) := by decide +kernel
theorem dX10_undo_41 : decode cX10_undo 41 = .ok (.iconst 5, 1) := by decide +kernel
theorem dX10_undo_42 : decode cX10_undo 42 = .ok (.iaload, 1) := by decide +kernel
theorem dX10_undo_43 : decode cX10_undo 43 = .ok (.ireturn, 1) := by decide +kernel
theorem dX10_waitAll_0 : decode cX10_waitAll 0 = .ok (.iconst 0, 1) := by decide +kernel
theorem dX10_waitAll_1 : decode cX10_waitAll 1 = .ok (.istore_n 1, 1) := by decide +kernel
theorem dX10_waitAll_2 : decode cX10_waitAll 2 = .ok (.iconst 0, 1) := by decide +kernel
theorem dX10_waitAll_3 : decode cX10_waitAll 3 = .ok (.istore_n 2, 1) := by decide +kernel
theorem dX10_waitAll_4 : decode cX10_waitAll 4 = .ok (.iload_n 2, 1) := by decide +kernel
theorem dX10_waitAll_5 : decode cX10_waitAll 5 = .ok (.aload_n 0, 1) := by decide +kernel
theorem dX10_waitAll_6 : decode cX10_waitAll 6 = .ok (.invokevirtual 225, 3) := by decide +kernel
theorem dX10_waitAll_9 : decode cX10_waitAll 9 = .ok (.if_icmp .ge 17, 3) := by decide +kernel
theorem dX10_waitAll_12 : decode cX10_waitAll 12 = .ok (.iload_n 1, 1) := by decide +kernel
theorem dX10_waitAll_13 : decode cX10_waitAll 13 = .ok (.aload_n 0, 1) := by decide +kernel
theorem dX10_waitAll_14 : decode cX10_waitAll 14 = .ok (.iload_n 2, 1) := by decide +kernel
theorem dX10_waitAll_15 : decode cX10_waitAll 15 = .ok (.invokevirtual 264, 3) := by decide +kernel
theorem dX10_waitAll_18 : decode cX10_waitAll 18 = .ok (.iadd, 1) := by decide +kernel
theorem dX10_waitAll_19 : decode cX10_waitAll 19 = .ok (.istore_n 1, 1) := by decide +kernel
theorem dX10_waitAll_20 : decode cX10_waitAll 20 = .ok (.iinc 2 1, 3) := by decide +kernel
theorem dX10_waitAll_23 : decode cX10_waitAll 23 = .ok (.goto (-19), 3) := by decide +kernel
theorem dX10_waitAll_26 : decode cX10_waitAll 26 = .ok (.iload_n 1, 1) := by decide +kernel
theorem dX10_waitAll_27 : decode cX10_waitAll 27 = .ok (.ireturn, 1) := by decide +kernel
theorem dX10_waitOf_0 : decode cX10_waitOf 0 = .ok (.aload_n 0, 1) := by decide +kernel
theorem dX10_waitOf_1 : decode cX10_waitOf 1 = .ok (.iload_n 1, 1) := by decide +kernel
theorem dX10_waitOf_2 : decode cX10_waitOf 2 = .ok (.invokevirtual 259, 3) := by decide +kernel
theorem dX10_waitOf_5 : decode cX10_waitOf 5 = .ok (.istore_n 2, 1) := by decide +kernel
theorem dX10_waitOf_6 : decode cX10_waitOf 6 = .ok (.iload_n 2, 1) := by decide +kernel
theorem dX10_waitOf_7 : decode cX10_waitOf 7 = .ok (.sipush 10000, 3) := by decide +kernel
theorem dX10_waitOf_10 : decode cX10_waitOf 10 = .ok (.if_icmp .ne 9, 3) := by decide +kernel
theorem dX10_waitOf_13 : decode cX10_waitOf 13 = .ok (.sipush 600, 3) := by decide +kernel
theorem dX10_waitOf_16 : decode cX10_waitOf 16 = .ok (.goto 12, 3) := by decide +kernel
theorem dX10_waitOf_19 : decode cX10_waitOf 19 = .ok (.iload_n 2, 1) := by decide +kernel
theorem dX10_waitOf_20 : decode cX10_waitOf 20 = .ok (.ifCond .ge 7, 3) := by decide +kernel
theorem dX10_waitOf_23 : decode cX10_waitOf 23 = .ok (.iconst 0, 1) := by decide +kernel
theorem dX10_waitOf_24 : decode cX10_waitOf 24 = .ok (.goto 4, 3) := by decide +kernel
theorem dX10_waitOf_27 : decode cX10_waitOf 27 = .ok (.iload_n 2, 1) := by decide +kernel
theorem dX10_waitOf_28 : decode cX10_waitOf 28 = .ok (.aload_n 0, 1) := by decide +kernel
theorem dX10_waitOf_29 : decode cX10_waitOf 29 = .ok (.invokevirtual 261, 3) := by decide +kernel
theorem dX10_waitOf_32 : decode cX10_waitOf 32 = .ok (.imul, 1) := by decide +kernel
theorem dX10_waitOf_33 : decode cX10_waitOf 33 = .ok (.ireturn, 1) := by decide +kernel
theorem dX10_waitWithout_0 : decode cX10_waitWithout 0 = .ok (.aload_n 0, 1) := by decide +kernel
theorem dX10_waitWithout_1 : decode cX10_waitWithout 1 = .ok (.iload_n 1, 1) := by decide +kernel
theorem dX10_waitWithout_2 : decode cX10_waitWithout 2 = .ok (.putfield 237, 3) := by decide +kernel
theorem dX10_waitWithout_5 : decode cX10_waitWithout 5 = .ok (.aload_n 0, 1) := by decide +kernel
theorem dX10_waitWithout_6 : decode cX10_waitWithout 6 = .ok (.invokevirtual 243, 3) := by decide +kernel
theorem dX10_waitWithout_9 : decode cX10_waitWithout 9 = .ok (.aload_n 0, 1) := by decide +kernel
theorem dX10_waitWithout_10 : decode cX10_waitWithout 10 = .ok (.invokevirtual 285, 3) := by decide +kernel
theorem dX10_waitWithout_13 : decode cX10_waitWithout 13 = .ok (.istore_n 2, 1) := by decide +kernel
theorem dX10_waitWithout_14 : decode cX10_waitWithout 14 = .ok (.aload_n 0, 1) := by decide +kernel
theorem dX10_waitWithout_15 : decode cX10_waitWithout 15 = .ok (.iconst 0, 1) := by decide +kernel
theorem dX10_waitWithout_16 : decode cX10_waitWithout 16 = .ok (.putfield 237, 3) := by decide +kernel
theorem dX10_waitWithout_19 : decode cX10_waitWithout 19 = .ok (.iload_n 2, 1) := by decide +kernel
theorem dX10_waitWithout_20 : decode cX10_waitWithout 20 = .ok (.ireturn, 1) := by decide +kernel
theorem dX10_waits_0 : decode cX10_waits 0 = .ok (.aload_n 0, 1) := by decide +kernel
theorem dX10_waits_1 : decode cX10_waits 1 = .ok (.iconst 0, 1) := by decide +kernel
theorem dX10_waits_2 : decode cX10_waits 2 = .ok (.putfield 71, 3) := by decide +kernel
theorem dX10_waits_5 : decode cX10_waits 5 = .ok (.aload_n 0, 1) := by decide +kernel
theorem dX10_waits_6 : decode cX10_waits 6 = .ok (.invokevirtual 232, 3) := by decide +kernel
theorem dX10_waits_9 : decode cX10_waits 9 = .ok (.ifCond .ne 6, 3) := by decide +kernel
theorem dX10_waits_12 : decode cX10_waits 12 = .ok (.bipush (-2), 2) := by decide +kernel
theorem dX10_waits_14 : decode cX10_waits 14 = .ok (.ireturn, 1) := by decide +kernel
theorem dX10_waits_15 : decode cX10_waits 15 = .ok (.aload_n 0, 1) := by decide +kernel
theorem dX10_waits_16 : decode cX10_waits 16 = .ok (.invokevirtual 275, 3) := by decide +kernel
theorem dX10_waits_19 : decode cX10_waits 19 = .ok (.aload_n 0, 1) := by decide +kernel
theorem dX10_waits_20 : decode cX10_waits 20 = .ok (.invokevirtual 285, 3) := by decide +kernel
theorem dX10_waits_23 : decode cX10_waits 23 = .ok (.ireturn, 1) := by decide +kernel
theorem dX10_watch_0 : decode cX10_watch 0 = .ok (.aload_n 0, 1) := by decide +kernel
theorem dX10_watch_1 : decode cX10_watch 1 = .ok (.iconst 0, 1) := by decide +kernel
theorem dX10_watch_2 : decode cX10_watch 2 = .ok (.putfield 71, 3) := by decide +kernel
theorem dX10_watch_5 : decode cX10_watch 5 = .ok (.aload_n 0, 1) := by decide +kernel
theorem dX10_watch_6 : decode cX10_watch 6 = .ok (.iload_n 1, 1) := by decide +kernel
theorem dX10_watch_7 : decode cX10_watch 7 = .ok (.invokevirtual 304, 3) := by decide +kernel
theorem dX10_watch_10 : decode cX10_watch 10 = .ok (.ifCond .ne 6, 3) := by decide +kernel
theorem dX10_watch_13 : decode cX10_watch 13 = .ok (.bipush (-2), 2) := by decide +kernel
theorem dX10_watch_15 : decode cX10_watch 15 = .ok (.ireturn, 1) := by decide +kernel
theorem dX10_watch_16 : decode cX10_watch 16 = .ok (.aload_n 0, 1) := by decide +kernel
theorem dX10_watch_17 : decode cX10_watch 17 = .ok (.invokevirtual 275, 3) := by decide +kernel
theorem dX10_watch_20 : decode cX10_watch 20 = .ok (.iconst 0, 1) := by decide +kernel
theorem dX10_watch_21 : decode cX10_watch 21 = .ok (.istore_n 2, 1) := by decide +kernel
theorem dX10_watch_22 : decode cX10_watch 22 = .ok (.iconst 0, 1) := by decide +kernel
theorem dX10_watch_23 : decode cX10_watch 23 = .ok (.istore_n 3, 1) := by decide +kernel
theorem dX10_watch_24 : decode cX10_watch 24 = .ok (.iload_n 3, 1) := by decide +kernel
theorem dX10_watch_25 : decode cX10_watch 25 = .ok (.aload_n 0, 1) := by decide +kernel
theorem dX10_watch_26 : decode cX10_watch 26 = .ok (.invokevirtual 225, 3) := by decide +kernel
theorem dX10_watch_29 : decode cX10_watch 29 = .ok (.if_icmp .ge 28, 3) := by decide +kernel
theorem dX10_watch_32 : decode cX10_watch 32 = .ok (.iload_n 2, 1) := by decide +kernel
theorem dX10_watch_33 : decode cX10_watch 33 = .ok (.aload_n 0, 1) := by decide +kernel
theorem dX10_watch_34 : decode cX10_watch 34 = .ok (.iload_n 3, 1) := by decide +kernel
theorem dX10_watch_35 : decode cX10_watch 35 = .ok (.invokevirtual 259, 3) := by decide +kernel
theorem dX10_watch_38 : decode cX10_watch 38 = .ok (.iload_n 1, 1) := by decide +kernel
theorem dX10_watch_39 : decode cX10_watch 39 = .ok (.if_icmp .gt 9, 3) := by decide +kernel
theorem dX10_watch_42 : decode cX10_watch 42 = .ok (.iconst 1, 1) := by decide +kernel
theorem dX10_watch_43 : decode cX10_watch 43 = .ok (.iload_n 3, 1) := by decide +kernel
theorem dX10_watch_44 : decode cX10_watch 44 = .ok (.ishl, 1) := by decide +kernel
theorem dX10_watch_45 : decode cX10_watch 45 = .ok (.goto 4, 3) := by decide +kernel
theorem dX10_watch_48 : decode cX10_watch 48 = .ok (.iconst 0, 1) := by decide +kernel
theorem dX10_watch_49 : decode cX10_watch 49 = .ok (.ior, 1) := by decide +kernel
theorem dX10_watch_50 : decode cX10_watch 50 = .ok (.istore_n 2, 1) := by decide +kernel
theorem dX10_watch_51 : decode cX10_watch 51 = .ok (.iinc 3 1, 3) := by decide +kernel
theorem dX10_watch_54 : decode cX10_watch 54 = .ok (.goto (-30), 3) := by decide +kernel
theorem dX10_watch_57 : decode cX10_watch 57 = .ok (.iload_n 2, 1) := by decide +kernel
theorem dX10_watch_58 : decode cX10_watch 58 = .ok (.ireturn, 1) := by decide +kernel
theorem dX10_whyNot_0 : decode cX10_whyNot 0 = .ok (.iload_n 1, 1) := by decide +kernel
theorem dX10_whyNot_1 : decode cX10_whyNot 1 = .ok (.invokestatic 80, 3) := by decide +kernel
theorem dX10_whyNot_4 : decode cX10_whyNot 4 = .ok (.ifCond .eq 10, 3) := by decide +kernel
theorem dX10_whyNot_7 : decode cX10_whyNot 7 = .ok (.aload_n 0, 1) := by decide +kernel
theorem dX10_whyNot_8 : decode cX10_whyNot 8 = .ok (.invokevirtual 232, 3) := by decide +kernel
theorem dX10_whyNot_11 : decode cX10_whyNot 11 = .ok (.ifCond .ne 6, 3) := by decide +kernel
theorem dX10_whyNot_14 : decode cX10_whyNot 14 = .ok (.bipush (-2), 2) := by decide +kernel
theorem dX10_whyNot_16 : decode cX10_whyNot 16 = .ok (.ireturn, 1) := by decide +kernel
theorem dX10_whyNot_17 : decode cX10_whyNot 17 = .ok (.aload_n 0, 1) := by decide +kernel
theorem dX10_whyNot_18 : decode cX10_whyNot 18 = .ok (.getfield 7, 3) := by decide +kernel
theorem dX10_whyNot_21 : decode cX10_whyNot 21 = .ok (.iload_n 1, 1) := by decide +kernel
theorem dX10_whyNot_22 : decode cX10_whyNot 22 = .ok (.iaload, 1) := by decide +kernel
theorem dX10_whyNot_23 : decode cX10_whyNot 23 = .ok (.iconst (-1), 1) := by decide +kernel
theorem dX10_whyNot_24 : decode cX10_whyNot 24 = .ok (.if_icmp .ne 6, 3) := by decide +kernel
theorem dX10_whyNot_27 : decode cX10_whyNot 27 = .ok (.bipush (-6), 2) := by decide +kernel
theorem dX10_whyNot_29 : decode cX10_whyNot 29 = .ok (.ireturn, 1) := by decide +kernel
theorem dX10_whyNot_30 : decode cX10_whyNot 30 = .ok (.aload_n 0, 1) := by decide +kernel
theorem dX10_whyNot_31 : decode cX10_whyNot 31 = .ok (.getfield 13, 3) := by decide +kernel
theorem dX10_whyNot_34 : decode cX10_whyNot 34 = .ok (.iload_n 1, 1) := by decide +kernel
theorem dX10_whyNot_35 : decode cX10_whyNot 35 = .ok (.iaload, 1) := by decide +kernel
theorem dX10_whyNot_36 : decode cX10_whyNot 36 = .ok (.iconst 2, 1) := by decide +kernel
theorem dX10_whyNot_37 : decode cX10_whyNot 37 = .ok (.irem, 1) := by decide +kernel
theorem dX10_whyNot_38 : decode cX10_whyNot 38 = .ok (.ifCond .eq 6, 3) := by decide +kernel
theorem dX10_whyNot_41 : decode cX10_whyNot 41 = .ok (.bipush (-2), 2) := by decide +kernel
theorem dX10_whyNot_43 : decode cX10_whyNot 43 = .ok (.ireturn, 1) := by decide +kernel
theorem dX10_whyNot_44 : decode cX10_whyNot 44 = .ok (.iconst 0, 1) := by decide +kernel
theorem dX10_whyNot_45 : decode cX10_whyNot 45 = .ok (.istore_n 2, 1) := by decide +kernel
theorem dX10_whyNot_46 : decode cX10_whyNot 46 = .ok (.iload_n 2, 1) := by decide +kernel
theorem dX10_whyNot_47 : decode cX10_whyNot 47 = .ok (.aload_n 0, 1) := by decide +kernel
theorem dX10_whyNot_48 : decode cX10_whyNot 48 = .ok (.getfield 13, 3) := by decide +kernel
theorem dX10_whyNot_51 : decode cX10_whyNot 51 = .ok (.iload_n 1, 1) := by decide +kernel
theorem dX10_whyNot_52 : decode cX10_whyNot 52 = .ok (.iaload, 1) := by decide +kernel
theorem dX10_whyNot_53 : decode cX10_whyNot 53 = .ok (.if_icmp .ge 55, 3) := by decide +kernel
theorem dX10_whyNot_56 : decode cX10_whyNot 56 = .ok (.aload_n 0, 1) := by decide +kernel
theorem dX10_whyNot_57 : decode cX10_whyNot 57 = .ok (.aload_n 0, 1) := by decide +kernel
theorem dX10_whyNot_58 : decode cX10_whyNot 58 = .ok (.getfield 16, 3) := by decide +kernel
theorem dX10_whyNot_61 : decode cX10_whyNot 61 = .ok (.bipush 60, 2) := by decide +kernel
theorem dX10_whyNot_63 : decode cX10_whyNot 63 = .ok (.iload_n 1, 1) := by decide +kernel
theorem dX10_whyNot_64 : decode cX10_whyNot 64 = .ok (.imul, 1) := by decide +kernel
theorem dX10_whyNot_65 : decode cX10_whyNot 65 = .ok (.iload_n 2, 1) := by decide +kernel
theorem dX10_whyNot_66 : decode cX10_whyNot 66 = .ok (.iadd, 1) := by decide +kernel
theorem dX10_whyNot_67 : decode cX10_whyNot 67 = .ok (.laload, 1) := by decide +kernel
theorem dX10_whyNot_68 : decode cX10_whyNot 68 = .ok (.invokevirtual 272, 3) := by decide +kernel
theorem dX10_whyNot_71 : decode cX10_whyNot 71 = .ok (.ifCond .eq 28, 3) := by decide +kernel
theorem dX10_whyNot_74 : decode cX10_whyNot 74 = .ok (.aload_n 0, 1) := by decide +kernel
theorem dX10_whyNot_75 : decode cX10_whyNot 75 = .ok (.getfield 16, 3) := by decide +kernel
theorem dX10_whyNot_78 : decode cX10_whyNot 78 = .ok (.bipush 60, 2) := by decide +kernel
theorem dX10_whyNot_80 : decode cX10_whyNot 80 = .ok (.iload_n 1, 1) := by decide +kernel
theorem dX10_whyNot_81 : decode cX10_whyNot 81 = .ok (.imul, 1) := by decide +kernel
theorem dX10_whyNot_82 : decode cX10_whyNot 82 = .ok (.iload_n 2, 1) := by decide +kernel
theorem dX10_whyNot_83 : decode cX10_whyNot 83 = .ok (.iadd, 1) := by decide +kernel
theorem dX10_whyNot_84 : decode cX10_whyNot 84 = .ok (.iconst 1, 1) := by decide +kernel
theorem dX10_whyNot_85 : decode cX10_whyNot 85 = .ok (.iadd, 1) := by decide +kernel
theorem dX10_whyNot_86 : decode cX10_whyNot 86 = .ok (.laload, 1) := by decide +kernel
theorem dX10_whyNot_87 : decode cX10_whyNot 87 = .ok (.ldc2_w 281, 3) := by decide +kernel
theorem dX10_whyNot_90 : decode cX10_whyNot 90 = .ok (.ldc2_w 283, 3) := by decide +kernel
theorem dX10_whyNot_93 : decode cX10_whyNot 93 = .ok (.invokestatic 76, 3) := by decide +kernel
theorem dX10_whyNot_96 : decode cX10_whyNot 96 = .ok (.ifCond .ne 6, 3) := by decide +kernel
theorem dX10_whyNot_99 : decode cX10_whyNot 99 = .ok (.bipush (-2), 2) := by decide +kernel
theorem dX10_whyNot_101 : decode cX10_whyNot 101 = .ok (.ireturn, 1) := by decide +kernel
theorem dX10_whyNot_102 : decode cX10_whyNot 102 = .ok (.iinc 2 2, 3) := by decide +kernel
theorem dX10_whyNot_105 : decode cX10_whyNot 105 = .ok (.goto (-59), 3) := by decide +kernel
theorem dX10_whyNot_108 : decode cX10_whyNot 108 = .ok (.iconst 0, 1) := by decide +kernel
theorem dX10_whyNot_109 : decode cX10_whyNot 109 = .ok (.ireturn, 1) := by decide +kernel
theorem dX10_without_0 : decode cX10_without 0 = .ok (.aload_n 0, 1) := by decide +kernel
theorem dX10_without_1 : decode cX10_without 1 = .ok (.iconst 0, 1) := by decide +kernel
theorem dX10_without_2 : decode cX10_without 2 = .ok (.putfield 71, 3) := by decide +kernel
theorem dX10_without_5 : decode cX10_without 5 = .ok (.aload_n 0, 1) := by decide +kernel
theorem dX10_without_6 : decode cX10_without 6 = .ok (.iload_n 1, 1) := by decide +kernel
theorem dX10_without_7 : decode cX10_without 7 = .ok (.i2l, 1) := by decide +kernel
theorem dX10_without_8 : decode cX10_without 8 = .ok (.invokevirtual 267, 3) := by decide +kernel
theorem dX10_without_11 : decode cX10_without 11 = .ok (.ifCond .ne 6, 3) := by decide +kernel
theorem dX10_without_14 : decode cX10_without 14 = .ok (.bipush (-2), 2) := by decide +kernel
theorem dX10_without_16 : decode cX10_without 16 = .ok (.ireturn, 1) := by decide +kernel
theorem dX10_without_17 : decode cX10_without 17 = .ok (.aload_n 0, 1) := by decide +kernel
theorem dX10_without_18 : decode cX10_without 18 = .ok (.invokevirtual 275, 3) := by decide +kernel
theorem dX10_without_21 : decode cX10_without 21 = .ok (.aload_n 0, 1) := by decide +kernel
theorem dX10_without_22 : decode cX10_without 22 = .ok (.iconst 1, 1) := by decide +kernel
theorem dX10_without_23 : decode cX10_without 23 = .ok (.iload_n 1, 1) := by decide +kernel
theorem dX10_without_24 : decode cX10_without 24 = .ok (.ishl, 1) := by decide +kernel
theorem dX10_without_25 : decode cX10_without 25 = .ok (.invokevirtual 297, 3) := by decide +kernel
theorem dX10_without_28 : decode cX10_without 28 = .ok (.ireturn, 1) := by decide +kernel
theorem dX10_worst_0 : decode cX10_worst 0 = .ok (.aload_n 0, 1) := by decide +kernel
theorem dX10_worst_1 : decode cX10_worst 1 = .ok (.iconst 0, 1) := by decide +kernel
theorem dX10_worst_2 : decode cX10_worst 2 = .ok (.putfield 71, 3) := by decide +kernel
theorem dX10_worst_5 : decode cX10_worst 5 = .ok (.aload_n 0, 1) := by decide +kernel
theorem dX10_worst_6 : decode cX10_worst 6 = .ok (.invokevirtual 232, 3) := by decide +kernel
theorem dX10_worst_9 : decode cX10_worst 9 = .ok (.ifCond .ne 6, 3) := by decide +kernel
theorem dX10_worst_12 : decode cX10_worst 12 = .ok (.bipush (-2), 2) := by decide +kernel
theorem dX10_worst_14 : decode cX10_worst 14 = .ok (.ireturn, 1) := by decide +kernel
theorem dX10_worst_15 : decode cX10_worst 15 = .ok (.aload_n 0, 1) := by decide +kernel
theorem dX10_worst_16 : decode cX10_worst 16 = .ok (.invokevirtual 275, 3) := by decide +kernel
theorem dX10_worst_19 : decode cX10_worst 19 = .ok (.iconst (-1), 1) := by decide +kernel
theorem dX10_worst_20 : decode cX10_worst 20 = .ok (.istore_n 1, 1) := by decide +kernel
theorem dX10_worst_21 : decode cX10_worst 21 = .ok (.iconst 0, 1) := by decide +kernel
theorem dX10_worst_22 : decode cX10_worst 22 = .ok (.istore_n 2, 1) := by decide +kernel
theorem dX10_worst_23 : decode cX10_worst 23 = .ok (.iconst 0, 1) := by decide +kernel
theorem dX10_worst_24 : decode cX10_worst 24 = .ok (.istore_n 3, 1) := by decide +kernel
theorem dX10_worst_25 : decode cX10_worst 25 = .ok (.iload_n 3, 1) := by decide +kernel
theorem dX10_worst_26 : decode cX10_worst 26 = .ok (.aload_n 0, 1) := by decide +kernel
theorem dX10_worst_27 : decode cX10_worst 27 = .ok (.invokevirtual 225, 3) := by decide +kernel
theorem dX10_worst_30 : decode cX10_worst 30 = .ok (.if_icmp .ge 29, 3) := by decide +kernel
theorem dX10_worst_33 : decode cX10_worst 33 = .ok (.aload_n 0, 1) := by decide +kernel
theorem dX10_worst_34 : decode cX10_worst 34 = .ok (.iload_n 3, 1) := by decide +kernel
theorem dX10_worst_35 : decode cX10_worst 35 = .ok (.invokevirtual 264, 3) := by decide +kernel
theorem dX10_worst_38 : decode cX10_worst 38 = .ok (.iload_n 2, 1) := by decide +kernel
theorem dX10_worst_39 : decode cX10_worst 39 = .ok (.if_icmp .gt 6, 3) := by decide +kernel
theorem dX10_worst_42 : decode cX10_worst 42 = .ok (.goto 11, 3) := by decide +kernel
theorem dX10_worst_45 : decode cX10_worst 45 = .ok (.iload_n 3, 1) := by decide +kernel
theorem dX10_worst_46 : decode cX10_worst 46 = .ok (.istore_n 1, 1) := by decide +kernel
theorem dX10_worst_47 : decode cX10_worst 47 = .ok (.aload_n 0, 1) := by decide +kernel
theorem dX10_worst_48 : decode cX10_worst 48 = .ok (.iload_n 3, 1) := by decide +kernel
theorem dX10_worst_49 : decode cX10_worst 49 = .ok (.invokevirtual 264, 3) := by decide +kernel
theorem dX10_worst_52 : decode cX10_worst 52 = .ok (.istore_n 2, 1) := by decide +kernel
theorem dX10_worst_53 : decode cX10_worst 53 = .ok (.iinc 3 1, 3) := by decide +kernel
theorem dX10_worst_56 : decode cX10_worst 56 = .ok (.goto (-31), 3) := by decide +kernel
theorem dX10_worst_59 : decode cX10_worst 59 = .ok (.iload_n 1, 1) := by decide +kernel
theorem dX10_worst_60 : decode cX10_worst 60 = .ok (.ireturn, 1) := by decide +kernel
theorem dX10_write_0 : decode cX10_write 0 = .ok (.aload_n 0, 1) := by decide +kernel
theorem dX10_write_1 : decode cX10_write 1 = .ok (.iconst 0, 1) := by decide +kernel
theorem dX10_write_2 : decode cX10_write 2 = .ok (.putfield 71, 3) := by decide +kernel
theorem dX10_write_5 : decode cX10_write 5 = .ok (.iload_n 1, 1) := by decide +kernel
theorem dX10_write_6 : decode cX10_write 6 = .ok (.invokestatic 80, 3) := by decide +kernel
theorem dX10_write_9 : decode cX10_write 9 = .ok (.ifCond .ne 6, 3) := by decide +kernel
theorem dX10_write_12 : decode cX10_write 12 = .ok (.bipush (-2), 2) := by decide +kernel
theorem dX10_write_14 : decode cX10_write 14 = .ok (.ireturn, 1) := by decide +kernel
theorem dX10_write_15 : decode cX10_write 15 = .ok (.aload_n 0, 1) := by decide +kernel
theorem dX10_write_16 : decode cX10_write 16 = .ok (.getfield 7, 3) := by decide +kernel
theorem dX10_write_19 : decode cX10_write 19 = .ok (.iload_n 1, 1) := by decide +kernel
theorem dX10_write_20 : decode cX10_write 20 = .ok (.iaload, 1) := by decide +kernel
theorem dX10_write_21 : decode cX10_write 21 = .ok (.iconst (-1), 1) := by decide +kernel
theorem dX10_write_22 : decode cX10_write 22 = .ok (.if_icmp .ne 6, 3) := by decide +kernel
theorem dX10_write_25 : decode cX10_write 25 = .ok (.bipush (-6), 2) := by decide +kernel
theorem dX10_write_27 : decode cX10_write 27 = .ok (.ireturn, 1) := by decide +kernel
theorem dX10_write_28 : decode cX10_write 28 = .ok (.iload_n 2, 1) := by decide +kernel
theorem dX10_write_29 : decode cX10_write 29 = .ok (.i2l, 1) := by decide +kernel
theorem dX10_write_30 : decode cX10_write 30 = .ok (.lconst 0, 1) := by decide +kernel
theorem dX10_write_31 : decode cX10_write 31 = .ok (.aload_n 0, 1) := by decide +kernel
theorem dX10_write_32 : decode cX10_write 32 = .ok (.getfield 13, 3) := by decide +kernel
theorem dX10_write_35 : decode cX10_write 35 = .ok (.iload_n 1, 1) := by decide +kernel
theorem dX10_write_36 : decode cX10_write 36 = .ok (.iaload, 1) := by decide +kernel
theorem dX10_write_37 : decode cX10_write 37 = .ok (.iconst 1, 1) := by decide +kernel
theorem dX10_write_38 : decode cX10_write 38 = .ok (.isub, 1) := by decide +kernel
theorem dX10_write_39 : decode cX10_write 39 = .ok (.i2l, 1) := by decide +kernel
theorem dX10_write_40 : decode cX10_write 40 = .ok (.invokestatic 76, 3) := by decide +kernel
theorem dX10_write_43 : decode cX10_write 43 = .ok (.ifCond .ne 6, 3) := by decide +kernel
theorem dX10_write_46 : decode cX10_write 46 = .ok (.bipush (-7), 2) := by decide +kernel
theorem dX10_write_48 : decode cX10_write 48 = .ok (.ireturn, 1) := by decide +kernel
theorem dX10_write_49 : decode cX10_write 49 = .ok (.aload_n 0, 1) := by decide +kernel
theorem dX10_write_50 : decode cX10_write 50 = .ok (.getfield 16, 3) := by decide +kernel
theorem dX10_write_53 : decode cX10_write 53 = .ok (.bipush 60, 2) := by decide +kernel
theorem dX10_write_55 : decode cX10_write 55 = .ok (.iload_n 1, 1) := by decide +kernel
theorem dX10_write_56 : decode cX10_write 56 = .ok (.imul, 1) := by decide +kernel
theorem dX10_write_57 : decode cX10_write 57 = .ok (.iload_n 2, 1) := by decide +kernel
theorem dX10_write_58 : decode cX10_write 58 = .ok (.iadd, 1) := by decide +kernel
theorem dX10_write_59 : decode cX10_write 59 = .ok (.lload_n 3, 1) := by decide +kernel
theorem dX10_write_60 : decode cX10_write 60 = .ok (.aload_n 0, 1) := by decide +kernel
theorem dX10_write_61 : decode cX10_write 61 = .ok (.getfield 7, 3) := by decide +kernel
theorem dX10_write_64 : decode cX10_write 64 = .ok (.iload_n 1, 1) := by decide +kernel
theorem dX10_write_65 : decode cX10_write 65 = .ok (.iaload, 1) := by decide +kernel
theorem dX10_write_66 : decode cX10_write 66 = .ok (.invokestatic 84, 3) := by decide +kernel
theorem dX10_write_69 : decode cX10_write 69 = .ok (.lastore, 1) := by decide +kernel
theorem dX10_write_70 : decode cX10_write 70 = .ok (.iconst 0, 1) := by decide +kernel
theorem dX10_write_71 : decode cX10_write 71 = .ok (.ireturn, 1) := by decide +kernel
