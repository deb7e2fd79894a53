theorem dX8_noteSet_1 : decode cX8_noteSet 1 = .ok (.getfield 38, 3) := by decide +kernel
theorem dX8_noteSet_4 : decode cX8_noteSet 4 = .ok (.ifCond .eq 17, 3) := by decide +kernel
theorem dX8_noteSet_7 : decode cX8_noteSet 7 = .ok (.iload_n 1, 1) := by decide +kernel
theorem dX8_noteSet_8 : decode cX8_noteSet 8 = .ok (.invokestatic 71, 3) := by decide +kernel
theorem dX8_noteSet_11 : decode cX8_noteSet 11 = .ok (.aload_n 0, 1) := by decide +kernel
theorem dX8_noteSet_12 : decode cX8_noteSet 12 = .ok (.getfield 41, 3) := by decide +kernel
theorem dX8_noteSet_15 : decode cX8_noteSet 15 = .ok (.invokestatic 71, 3) := by decide +kernel
theorem dX8_noteSet_18 : decode cX8_noteSet 18 = .ok (.if_icmp .ge 8, 3) := by decide +kernel
theorem dX8_noteSet_21 : decode cX8_noteSet 21 = .ok (.aload_n 0, 1) := by decide +kernel
theorem dX8_noteSet_22 : decode cX8_noteSet 22 = .ok (.iload_n 1, 1) := by decide +kernel
theorem dX8_noteSet_23 : decode cX8_noteSet 23 = .ok (.putfield 41, 3) := by decide +kernel
theorem dX8_noteSet_26 : decode cX8_noteSet 26 = .ok (.aload_n 0, 1) := by decide +kernel
theorem dX8_noteSet_27 : decode cX8_noteSet 27 = .ok (.aload_n 0, 1) := by decide +kernel
theorem dX8_noteSet_28 : decode cX8_noteSet 28 = .ok (.getfield 38, 3) := by decide +kernel
theorem dX8_noteSet_31 : decode cX8_noteSet 31 = .ok (.ifCond .ne 7, 3) := by decide +kernel
theorem dX8_noteSet_34 : decode cX8_noteSet 34 = .ok (.iload_n 1, 1) := by decide +kernel
theorem dX8_noteSet_35 : decode cX8_noteSet 35 = .ok (.goto 9, 3) := by decide +kernel
theorem dX8_noteSet_38 : decode cX8_noteSet 38 = .ok (.aload_n 0, 1) := by decide +kernel
theorem dX8_noteSet_39 : decode cX8_noteSet 39 = .ok (.getfield 44, 3) := by decide +kernel
theorem dX8_noteSet_42 : decode cX8_noteSet 42 = .ok (.iload_n 1, 1) := by decide +kernel
theorem dX8_noteSet_43 : decode cX8_noteSet 43 = .ok (.iand, 1) := by decide +kernel
theorem dX8_noteSet_44 : decode cX8_noteSet 44 = .ok (.putfield 44, 3) := by decide +kernel
theorem dX8_noteSet_47 : decode cX8_noteSet 47 = .ok (.iconst 0, 1) := by decide +kernel
theorem dX8_noteSet_48 : decode cX8_noteSet 48 = .ok (.istore_n 2, 1) := by decide +kernel
theorem dX8_noteSet_49 : decode cX8_noteSet 49 = .ok (.iload_n 2, 1) := by decide +kernel
theorem dX8_noteSet_50 : decode cX8_noteSet 50 = .ok (.bipush 6, 2) := by decide +kernel
theorem dX8_noteSet_52 : decode cX8_noteSet 52 = .ok (.if_icmp .ge 23, 3) := by decide +kernel
theorem dX8_noteSet_55 : decode cX8_noteSet 55 = .ok (.aload_n 0, 1) := by decide +kernel
theorem dX8_noteSet_56 : decode cX8_noteSet 56 = .ok (.getfield 18, 3) := by decide +kernel
theorem dX8_noteSet_59 : decode cX8_noteSet 59 = .ok (.iload_n 2, 1) := by decide +kernel
theorem dX8_noteSet_60 : decode cX8_noteSet 60 = .ok (.dup2, 1) := by decide +kernel
theorem dX8_noteSet_61 : decode cX8_noteSet 61 = .ok (.iaload, 1) := by decide +kernel
theorem dX8_noteSet_62 : decode cX8_noteSet 62 = .ok (.iload_n 1, 1) := by decide +kernel
theorem dX8_noteSet_63 : decode cX8_noteSet 63 = .ok (.iload_n 2, 1) := by decide +kernel
theorem dX8_noteSet_64 : decode cX8_noteSet 64 = .ok (.ishr, 1) := by decide +kernel
theorem dX8_noteSet_65 : decode cX8_noteSet 65 = .ok (.iconst 1, 1) := by decide +kernel
theorem dX8_noteSet_66 : decode cX8_noteSet 66 = .ok (.iand, 1) := by decide +kernel
theorem dX8_noteSet_67 : decode cX8_noteSet 67 = .ok (.iadd, 1) := by decide +kernel
theorem dX8_noteSet_68 : decode cX8_noteSet 68 = .ok (.iastore, 1) := by decide +kernel
theorem dX8_noteSet_69 : decode cX8_noteSet 69 = .ok (.iinc 2 1, 3) := by decide +kernel
theorem dX8_noteSet_72 : decode cX8_noteSet 72 = .ok (.goto (-23), 3) := by decide +kernel
theorem dX8_noteSet_75 : decode cX8_noteSet 75 = .ok (.aload_n 0, 1) := by decide +kernel
theorem dX8_noteSet_76 : decode cX8_noteSet 76 = .ok (.dup, 1) := by decide +kernel
theorem dX8_noteSet_77 : decode cX8_noteSet 77 = .ok (.getfield 38, 3) := by decide +kernel
theorem dX8_noteSet_80 : decode cX8_noteSet 80 = .ok (.iconst 1, 1) := by decide +kernel
theorem dX8_noteSet_81 : decode cX8_noteSet 81 = .ok (.iadd, 1) := by decide +kernel
theorem dX8_noteSet_82 : decode cX8_noteSet 82 = .ok (.putfield 38, 3) := by decide +kernel
theorem dX8_noteSet_85 : decode cX8_noteSet 85 = .ok (.return_, 1) := by decide +kernel
theorem dX8_searchAway_0 : decode cX8_searchAway 0 = .ok (.aload_n 0, 1) := by decide +kernel
theorem dX8_searchAway_1 : decode cX8_searchAway 1 = .ok (.iconst 0, 1) := by decide +kernel
theorem dX8_searchAway_2 : decode cX8_searchAway 2 = .ok (.putfield 38, 3) := by decide +kernel
theorem dX8_searchAway_5 : decode cX8_searchAway 5 = .ok (.aload_n 0, 1) := by decide +kernel
theorem dX8_searchAway_6 : decode cX8_searchAway 6 = .ok (.iconst (-1), 1) := by decide +kernel
theorem dX8_searchAway_7 : decode cX8_searchAway 7 = .ok (.putfield 41, 3) := by decide +kernel
theorem dX8_searchAway_10 : decode cX8_searchAway 10 = .ok (.aload_n 0, 1) := by decide +kernel
theorem dX8_searchAway_11 : decode cX8_searchAway 11 = .ok (.iconst (-1), 1) := by decide +kernel
theorem dX8_searchAway_12 : decode cX8_searchAway 12 = .ok (.putfield 44, 3) := by decide +kernel
theorem dX8_searchAway_15 : decode cX8_searchAway 15 = .ok (.iconst 0, 1) := by decide +kernel
theorem dX8_searchAway_16 : decode cX8_searchAway 16 = .ok (.istore_n 2, 1) := by decide +kernel
theorem dX8_searchAway_17 : decode cX8_searchAway 17 = .ok (.iload_n 2, 1) := by decide +kernel
theorem dX8_searchAway_18 : decode cX8_searchAway 18 = .ok (.bipush 6, 2) := by decide +kernel
theorem dX8_searchAway_20 : decode cX8_searchAway 20 = .ok (.if_icmp .ge 16, 3) := by decide +kernel
theorem dX8_searchAway_23 : decode cX8_searchAway 23 = .ok (.aload_n 0, 1) := by decide +kernel
theorem dX8_searchAway_24 : decode cX8_searchAway 24 = .ok (.getfield 18, 3) := by decide +kernel
theorem dX8_searchAway_27 : decode cX8_searchAway 27 = .ok (.iload_n 2, 1) := by decide +kernel
theorem dX8_searchAway_28 : decode cX8_searchAway 28 = .ok (.iconst 0, 1) := by decide +kernel
theorem dX8_searchAway_29 : decode cX8_searchAway 29 = .ok (.iastore, 1) := by decide +kernel
theorem dX8_searchAway_30 : decode cX8_searchAway 30 = .ok (.iinc 2 1, 3) := by decide +kernel
theorem dX8_searchAway_33 : decode cX8_searchAway 33 = .ok (.goto (-16), 3) := by decide +kernel
theorem dX8_searchAway_36 : decode cX8_searchAway 36 = .ok (.iconst 0, 1) := by decide +kernel
theorem dX8_searchAway_37 : decode cX8_searchAway 37 = .ok (.istore_n 2, 1) := by decide +kernel
theorem dX8_searchAway_38 : decode cX8_searchAway 38 = .ok (.iconst 0, 1) := by decide +kernel
theorem dX8_searchAway_39 : decode cX8_searchAway 39 = .ok (.istore_n 3, 1) := by decide +kernel
theorem dX8_searchAway_40 : decode cX8_searchAway 40 = .ok (.iload_n 3, 1) := by decide +kernel
theorem dX8_searchAway_41 : decode cX8_searchAway 41 = .ok (.aload_n 1, 1) := by decide +kernel
theorem dX8_searchAway_42 : decode cX8_searchAway 42 = .ok (.getfield 47, 3) := by decide +kernel
theorem dX8_searchAway_45 : decode cX8_searchAway 45 = .ok (.if_icmp .ge 18, 3) := by decide +kernel
theorem dX8_searchAway_48 : decode cX8_searchAway 48 = .ok (.iload_n 2, 1) := by decide +kernel
theorem dX8_searchAway_49 : decode cX8_searchAway 49 = .ok (.aload_n 1, 1) := by decide +kernel
theorem dX8_searchAway_50 : decode cX8_searchAway 50 = .ok (.getfield 52, 3) := by decide +kernel
theorem dX8_searchAway_53 : decode cX8_searchAway 53 = .ok (.iload_n 3, 1) := by decide +kernel
theorem dX8_searchAway_54 : decode cX8_searchAway 54 = .ok (.iaload, 1) := by decide +kernel
theorem dX8_searchAway_55 : decode cX8_searchAway 55 = .ok (.ior, 1) := by decide +kernel
theorem dX8_searchAway_56 : decode cX8_searchAway 56 = .ok (.istore_n 2, 1) := by decide +kernel
theorem dX8_searchAway_57 : decode cX8_searchAway 57 = .ok (.iinc 3 1, 3) := by decide +kernel
theorem dX8_searchAway_60 : decode cX8_searchAway 60 = .ok (.goto (-20), 3) := by decide +kernel
theorem dX8_searchAway_63 : decode cX8_searchAway 63 = .ok (.iconst 0, 1) := by decide +kernel
theorem dX8_searchAway_64 : decode cX8_searchAway 64 = .ok (.istore_n 3, 1) := by decide +kernel
theorem dX8_searchAway_65 : decode cX8_searchAway 65 = .ok (.iload_n 3, 1) := by decide +kernel
theorem dX8_searchAway_66 : decode cX8_searchAway 66 = .ok (.bipush 64, 2) := by decide +kernel
theorem dX8_searchAway_68 : decode cX8_searchAway 68 = .ok (.if_icmp .ge 31, 3) := by decide +kernel
theorem dX8_searchAway_71 : decode cX8_searchAway 71 = .ok (.iload_n 3, 1) := by decide +kernel
theorem dX8_searchAway_72 : decode cX8_searchAway 72 = .ok (.iload_n 2, 1) := by decide +kernel
theorem dX8_searchAway_73 : decode cX8_searchAway 73 = .ok (.iconst (-1), 1) := by decide +kernel
theorem dX8_searchAway_74 : decode cX8_searchAway 74 = .ok (.ixor, 1) := by decide +kernel
theorem dX8_searchAway_75 : decode cX8_searchAway 75 = .ok (.iand, 1) := by decide +kernel
theorem dX8_searchAway_76 : decode cX8_searchAway 76 = .ok (.ifCond .ne 17, 3) := by decide +kernel
theorem dX8_searchAway_79 : decode cX8_searchAway 79 = .ok (.aload_n 0, 1) := by decide +kernel
theorem dX8_searchAway_80 : decode cX8_searchAway 80 = .ok (.aload_n 1, 1) := by decide +kernel
theorem dX8_searchAway_81 : decode cX8_searchAway 81 = .ok (.iload_n 3, 1) := by decide +kernel
theorem dX8_searchAway_82 : decode cX8_searchAway 82 = .ok (.invokevirtual 55, 3) := by decide +kernel
theorem dX8_searchAway_85 : decode cX8_searchAway 85 = .ok (.ifCond .eq 8, 3) := by decide +kernel
theorem dX8_searchAway_88 : decode cX8_searchAway 88 = .ok (.aload_n 0, 1) := by decide +kernel
theorem dX8_searchAway_89 : decode cX8_searchAway 89 = .ok (.iload_n 3, 1) := by decide +kernel
theorem dX8_searchAway_90 : decode cX8_searchAway 90 = .ok (.invokevirtual 59, 3) := by decide +kernel
theorem dX8_searchAway_93 : decode cX8_searchAway 93 = .ok (.iinc 3 1, 3) := by decide +kernel
theorem dX8_searchAway_96 : decode cX8_searchAway 96 = .ok (.goto (-31), 3) := by decide +kernel
theorem dX8_searchAway_99 : decode cX8_searchAway 99 = .ok (.return_, 1) := by decide +kernel
theorem dX8_searchUnder_0 : decode cX8_searchUnder 0 = .ok (.aload_n 0, 1) := by decide +kernel
theorem dX8_searchUnder_1 : decode cX8_searchUnder 1 = .ok (.iconst 0, 1) := by decide +kernel
theorem dX8_searchUnder_2 : decode cX8_searchUnder 2 = .ok (.putfield 83, 3) := by decide +kernel
theorem dX8_searchUnder_5 : decode cX8_searchUnder 5 = .ok (.aload_n 0, 1) := by decide +kernel
theorem dX8_searchUnder_6 : decode cX8_searchUnder 6 = .ok (.iconst (-1), 1) := by decide +kernel
theorem dX8_searchUnder_7 : decode cX8_searchUnder 7 = .ok (.putfield 86, 3) := by decide +kernel
theorem dX8_searchUnder_10 : decode cX8_searchUnder 10 = .ok (.iconst 0, 1) := by decide +kernel
theorem dX8_searchUnder_11 : decode cX8_searchUnder 11 = .ok (.istore_n 2, 1) := by decide +kernel
theorem dX8_searchUnder_12 : decode cX8_searchUnder 12 = .ok (.iload_n 2, 1) := by decide +kernel
theorem dX8_searchUnder_13 : decode cX8_searchUnder 13 = .ok (.bipush 60, 2) := by decide +kernel
theorem dX8_searchUnder_15 : decode cX8_searchUnder 15 = .ok (.if_icmp .gt 67, 3) := by decide +kernel
theorem dX8_searchUnder_18 : decode cX8_searchUnder 18 = .ok (.iconst 0, 1) := by decide +kernel
theorem dX8_searchUnder_19 : decode cX8_searchUnder 19 = .ok (.istore_n 3, 1) := by decide +kernel
theorem dX8_searchUnder_20 : decode cX8_searchUnder 20 = .ok (.iload_n 3, 1) := by decide +kernel
theorem dX8_searchUnder_21 : decode cX8_searchUnder 21 = .ok (.bipush 9, 2) := by decide +kernel
theorem dX8_searchUnder_23 : decode cX8_searchUnder 23 = .ok (.if_icmp .gt 53, 3) := by decide +kernel
theorem dX8_searchUnder_26 : decode cX8_searchUnder 26 = .ok (.aload_n 0, 1) := by decide +kernel
theorem dX8_searchUnder_27 : decode cX8_searchUnder 27 = .ok (.aload_n 1, 1) := by decide +kernel
theorem dX8_searchUnder_28 : decode cX8_searchUnder 28 = .ok (.iload_n 2, 1) := by decide +kernel
theorem dX8_searchUnder_29 : decode cX8_searchUnder 29 = .ok (.iload_n 3, 1) := by decide +kernel
theorem dX8_searchUnder_30 : decode cX8_searchUnder 30 = .ok (.invokevirtual 89, 3) := by decide +kernel
theorem dX8_searchUnder_33 : decode cX8_searchUnder 33 = .ok (.ifCond .eq 37, 3) := by decide +kernel
theorem dX8_searchUnder_36 : decode cX8_searchUnder 36 = .ok (.aload_n 0, 1) := by decide +kernel
theorem dX8_searchUnder_37 : decode cX8_searchUnder 37 = .ok (.aload_n 0, 1) := by decide +kernel
theorem dX8_searchUnder_38 : decode cX8_searchUnder 38 = .ok (.getfield 83, 3) := by decide +kernel
theorem dX8_searchUnder_41 : decode cX8_searchUnder 41 = .ok (.ifCond .ne 12, 3) := by decide +kernel
theorem dX8_searchUnder_44 : decode cX8_searchUnder 44 = .ok (.bipush 10, 2) := by decide +kernel
theorem dX8_searchUnder_46 : decode cX8_searchUnder 46 = .ok (.iload_n 2, 1) := by decide +kernel
theorem dX8_searchUnder_47 : decode cX8_searchUnder 47 = .ok (.imul, 1) := by decide +kernel
theorem dX8_searchUnder_48 : decode cX8_searchUnder 48 = .ok (.iload_n 3, 1) := by decide +kernel
theorem dX8_searchUnder_49 : decode cX8_searchUnder 49 = .ok (.iadd, 1) := by decide +kernel
theorem dX8_searchUnder_50 : decode cX8_searchUnder 50 = .ok (.goto 7, 3) := by decide +kernel
theorem dX8_searchUnder_53 : decode cX8_searchUnder 53 = .ok (.aload_n 0, 1) := by decide +kernel
theorem dX8_searchUnder_54 : decode cX8_searchUnder 54 = .ok (.getfield 86, 3) := by decide +kernel
theorem dX8_searchUnder_57 : decode cX8_searchUnder 57 = .ok (.putfield 86, 3) := by decide +kernel
theorem dX8_searchUnder_60 : decode cX8_searchUnder 60 = .ok (.aload_n 0, 1) := by decide +kernel
theorem dX8_searchUnder_61 : decode cX8_searchUnder 61 = .ok (.dup, 1) := by decide +kernel
theorem dX8_searchUnder_62 : decode cX8_searchUnder 62 = .ok (.getfield 83, 3) := by decide +kernel
theorem dX8_searchUnder_65 : decode cX8_searchUnder 65 = .ok (.iconst 1, 1) := by decide +kernel
theorem dX8_searchUnder_66 : decode cX8_searchUnder 66 = .ok (.iadd, 1) := by decide +kernel
theorem dX8_searchUnder_67 : decode cX8_searchUnder 67 = .ok (.putfield 83, 3) := by decide +kernel
theorem dX8_searchUnder_70 : decode cX8_searchUnder 70 = .ok (.iinc 3 1, 3) := by decide +kernel
theorem dX8_searchUnder_73 : decode cX8_searchUnder 73 = .ok (.goto (-53), 3) := by decide +kernel
theorem dX8_searchUnder_76 : decode cX8_searchUnder 76 = .ok (.iinc 2 1, 3) := by decide +kernel
theorem dX8_searchUnder_79 : decode cX8_searchUnder 79 = .ok (.goto (-67), 3) := by decide +kernel
theorem dX8_searchUnder_82 : decode cX8_searchUnder 82 = .ok (.return_, 1) := by decide +kernel
theorem dX9_act_0 : decode cX9_act 0 = .ok (.aload_n 0, 1) := by decide +kernel
theorem dX9_act_1 : decode cX9_act 1 = .ok (.getfield 19, 3) := by decide +kernel
theorem dX9_act_4 : decode cX9_act 4 = .ok (.iload_n 1, 1) := by decide +kernel
theorem dX9_act_5 : decode cX9_act 5 = .ok (.iload_n 2, 1) := by decide +kernel
theorem dX9_act_6 : decode cX9_act 6 = .ok (.iload_n 3, 1) := by decide +kernel
theorem dX9_act_7 : decode cX9_act 7 = .ok (.invokevirtual 403, 3) := by decide +kernel
theorem dX9_act_10 : decode cX9_act 10 = .ok (.aload_n 0, 1) := by decide +kernel
theorem dX9_act_11 : decode cX9_act 11 = .ok (.getfield 33, 3) := by decide +kernel
theorem dX9_act_14 : decode cX9_act 14 = .ok (.aload_n 0, 1) := by decide +kernel
theorem dX9_act_15 : decode cX9_act 15 = .ok (.getfield 19, 3) := by decide +kernel
theorem dX9_act_18 : decode cX9_act 18 = .ok (.invokevirtual 95, 3) := by decide +kernel
theorem dX9_act_21 : decode cX9_act 21 = .ok (.return_, 1) := by decide +kernel
theorem dX9_actOnLate_0 : decode cX9_actOnLate 0 = .ok (.aload_n 0, 1) := by decide +kernel
theorem dX9_actOnLate_1 : decode cX9_actOnLate 1 = .ok (.iload_n 2, 1) := by decide +kernel
theorem dX9_actOnLate_2 : decode cX9_actOnLate 2 = .ok (.invokevirtual 107, 3) := by decide +kernel
theorem dX9_actOnLate_5 : decode cX9_actOnLate 5 = .ok (.ifCond .eq 11, 3) := by decide +kernel
theorem dX9_actOnLate_8 : decode cX9_actOnLate 8 = .ok (.aload_n 0, 1) := by decide +kernel
theorem dX9_actOnLate_9 : decode cX9_actOnLate 9 = .ok (.iload_n 3, 1) := by decide +kernel
theorem dX9_actOnLate_10 : decode cX9_actOnLate 10 = .ok (.invokevirtual 127, 3) := by decide +kernel
theorem dX9_actOnLate_13 : decode cX9_actOnLate 13 = .ok (.ifCond .ne 7, 3) := by decide +kernel
theorem dX9_actOnLate_16 : decode cX9_actOnLate 16 = .ok (.sipush (-1000), 3) := by decide +kernel
theorem dX9_actOnLate_19 : decode cX9_actOnLate 19 = .ok (.ireturn, 1) := by decide +kernel
theorem dX9_actOnLate_20 : decode cX9_actOnLate 20 = .ok (.aload_n 0, 1) := by decide +kernel
theorem dX9_actOnLate_21 : decode cX9_actOnLate 21 = .ok (.getfield 19, 3) := by decide +kernel
theorem dX9_actOnLate_24 : decode cX9_actOnLate 24 = .ok (.getfield 321, 3) := by decide +kernel
theorem dX9_actOnLate_27 : decode cX9_actOnLate 27 = .ok (.bipush 40, 2) := by decide +kernel
theorem dX9_actOnLate_29 : decode cX9_actOnLate 29 = .ok (.if_icmp .lt 6, 3) := by decide +kernel
theorem dX9_actOnLate_32 : decode cX9_actOnLate 32 = .ok (.bipush (-5), 2) := by decide +kernel
theorem dX9_actOnLate_34 : decode cX9_actOnLate 34 = .ok (.ireturn, 1) := by decide +kernel
theorem dX9_actOnLate_35 : decode cX9_actOnLate 35 = .ok (.aload_n 0, 1) := by decide +kernel
theorem dX9_actOnLate_36 : decode cX9_actOnLate 36 = .ok (.getfield 33, 3) := by decide +kernel
theorem dX9_actOnLate_39 : decode cX9_actOnLate 39 = .ok (.getfield 130, 3) := by decide +kernel
theorem dX9_actOnLate_42 : decode cX9_actOnLate 42 = .ok (.iload_n 3, 1) := by decide +kernel
theorem dX9_actOnLate_43 : decode cX9_actOnLate 43 = .ok (.aaload, 1) := by decide +kernel
theorem dX9_actOnLate_44 : decode cX9_actOnLate 44 = .ok (.iload_n 2, 1) := by decide +kernel
theorem dX9_actOnLate_45 : decode cX9_actOnLate 45 = .ok (.iaload, 1) := by decide +kernel
theorem dX9_actOnLate_46 : decode cX9_actOnLate 46 = .ok (.istore 4, 2) := by decide +kernel
theorem dX9_actOnLate_48 : decode cX9_actOnLate 48 = .ok (.aload_n 0, 1) := by decide +kernel
theorem dX9_actOnLate_49 : decode cX9_actOnLate 49 = .ok (.iload_n 1, 1) := by decide +kernel
theorem dX9_actOnLate_50 : decode cX9_actOnLate 50 = .ok (.iload_n 2, 1) := by decide +kernel
theorem dX9_actOnLate_51 : decode cX9_actOnLate 51 = .ok (.iload_n 3, 1) := by decide +kernel
theorem dX9_actOnLate_52 : decode cX9_actOnLate 52 = .ok (.invokevirtual 324, 3) := by decide +kernel
theorem dX9_actOnLate_55 : decode cX9_actOnLate 55 = .ok (.iload 4, 2) := by decide +kernel
theorem dX9_actOnLate_57 : decode cX9_actOnLate 57 = .ok (.ireturn, 1) := by decide +kernel
theorem dX9_alarm_0 : decode cX9_alarm 0 = .ok (.iload_n 1, 1) := by decide +kernel
theorem dX9_alarm_1 : decode cX9_alarm 1 = .ok (.invokestatic 208, 3) := by decide +kernel
theorem dX9_alarm_4 : decode cX9_alarm 4 = .ok (.ifCond .eq 10, 3) := by decide +kernel
theorem dX9_alarm_7 : decode cX9_alarm 7 = .ok (.aload_n 0, 1) := by decide +kernel
theorem dX9_alarm_8 : decode cX9_alarm 8 = .ok (.invokevirtual 166, 3) := by decide +kernel
theorem dX9_alarm_11 : decode cX9_alarm 11 = .ok (.ifCond .ne 6, 3) := by decide +kernel
theorem dX9_alarm_14 : decode cX9_alarm 14 = .ok (.bipush (-2), 2) := by decide +kernel
theorem dX9_alarm_16 : decode cX9_alarm 16 = .ok (.ireturn, 1) := by decide +kernel
theorem dX9_alarm_17 : decode cX9_alarm 17 = .ok (.iconst 0, 1) := by decide +kernel
theorem dX9_alarm_18 : decode cX9_alarm 18 = .ok (.istore_n 2, 1) := by decide +kernel
theorem dX9_alarm_19 : decode cX9_alarm 19 = .ok (.iload_n 2, 1) := by decide +kernel
theorem dX9_alarm_20 : decode cX9_alarm 20 = .ok (.aload_n 0, 1) := by decide +kernel
theorem dX9_alarm_21 : decode cX9_alarm 21 = .ok (.getfield 33, 3) := by decide +kernel
theorem dX9_alarm_24 : decode cX9_alarm 24 = .ok (.getfield 173, 3) := by decide +kernel
theorem dX9_alarm_27 : decode cX9_alarm 27 = .ok (.if_icmp .ge 20, 3) := by decide +kernel
theorem dX9_alarm_30 : decode cX9_alarm 30 = .ok (.aload_n 0, 1) := by decide +kernel
theorem dX9_alarm_31 : decode cX9_alarm 31 = .ok (.iload_n 2, 1) := by decide +kernel
theorem dX9_alarm_32 : decode cX9_alarm 32 = .ok (.invokevirtual 134, 3) := by decide +kernel
theorem dX9_alarm_35 : decode cX9_alarm 35 = .ok (.iload_n 1, 1) := by decide +kernel
theorem dX9_alarm_36 : decode cX9_alarm 36 = .ok (.if_icmp .le 5, 3) := by decide +kernel
theorem dX9_alarm_39 : decode cX9_alarm 39 = .ok (.iload_n 2, 1) := by decide +kernel
theorem dX9_alarm_40 : decode cX9_alarm 40 = .ok (.ireturn, 1) := by decide +kernel
theorem dX9_alarm_41 : decode cX9_alarm 41 = .ok (.iinc 2 1, 3) := by decide +kernel
theorem dX9_alarm_44 : decode cX9_alarm 44 = .ok (.goto (-25), 3) := by decide +kernel
theorem dX9_alarm_47 : decode cX9_alarm 47 = .ok (.iconst (-1), 1) := by decide +kernel
theorem dX9_alarm_48 : decode cX9_alarm 48 = .ok (.ireturn, 1) := by decide +kernel
theorem dX9_anew_0 : decode cX9_anew 0 = .ok (.aload_n 0, 1) := by decide +kernel
theorem dX9_anew_1 : decode cX9_anew 1 = .ok (.invokevirtual 166, 3) := by decide +kernel
theorem dX9_anew_4 : decode cX9_anew 4 = .ok (.ifCond .ne 6, 3) := by decide +kernel
theorem dX9_anew_7 : decode cX9_anew 7 = .ok (.bipush (-2), 2) := by decide +kernel
theorem dX9_anew_9 : decode cX9_anew 9 = .ok (.ireturn, 1) := by decide +kernel
theorem dX9_anew_10 : decode cX9_anew 10 = .ok (.aload_n 0, 1) := by decide +kernel
theorem dX9_anew_11 : decode cX9_anew 11 = .ok (.getfield 19, 3) := by decide +kernel
theorem dX9_anew_14 : decode cX9_anew 14 = .ok (.getfield 321, 3) := by decide +kernel
theorem dX9_anew_17 : decode cX9_anew 17 = .ok (.istore_n 1, 1) := by decide +kernel
theorem dX9_anew_18 : decode cX9_anew 18 = .ok (.aload_n 0, 1) := by decide +kernel
theorem dX9_anew_19 : decode cX9_anew 19 = .ok (.getfield 19, 3) := by decide +kernel
theorem dX9_anew_22 : decode cX9_anew 22 = .ok (.iconst 0, 1) := by decide +kernel
theorem dX9_anew_23 : decode cX9_anew 23 = .ok (.putfield 321, 3) := by decide +kernel
theorem dX9_anew_26 : decode cX9_anew 26 = .ok (.aload_n 0, 1) := by decide +kernel
theorem dX9_anew_27 : decode cX9_anew 27 = .ok (.getfield 33, 3) := by decide +kernel
theorem dX9_anew_30 : decode cX9_anew 30 = .ok (.aload_n 0, 1) := by decide +kernel
theorem dX9_anew_31 : decode cX9_anew 31 = .ok (.getfield 19, 3) := by decide +kernel
theorem dX9_anew_34 : decode cX9_anew 34 = .ok (.invokevirtual 95, 3) := by decide +kernel
theorem dX9_anew_37 : decode cX9_anew 37 = .ok (.iload_n 1, 1) := by decide +kernel
theorem dX9_anew_38 : decode cX9_anew 38 = .ok (.ireturn, 1) := by decide +kernel
theorem dX9_ask_0 : decode cX9_ask 0 = .ok (.aload_n 0, 1) := by decide +kernel
theorem dX9_ask_1 : decode cX9_ask 1 = .ok (.iload_n 1, 1) := by decide +kernel
theorem dX9_ask_2 : decode cX9_ask 2 = .ok (.invokevirtual 280, 3) := by decide +kernel
theorem dX9_ask_5 : decode cX9_ask 5 = .ok (.istore_n 2, 1) := by decide +kernel
theorem dX9_ask_6 : decode cX9_ask 6 = .ok (.iload_n 2, 1) := by decide +kernel
theorem dX9_ask_7 : decode cX9_ask 7 = .ok (.ifCond .ne 13, 3) := by decide +kernel
theorem dX9_ask_10 : decode cX9_ask 10 = .ok (.aload_n 0, 1) := by decide +kernel
theorem dX9_ask_11 : decode cX9_ask 11 = .ok (.getfield 68, 3) := by decide +kernel
theorem dX9_ask_14 : decode cX9_ask 14 = .ok (.invokevirtual 292, 3) := by decide +kernel
theorem dX9_ask_17 : decode cX9_ask 17 = .ok (.goto 4, 3) := by decide +kernel
theorem dX9_ask_20 : decode cX9_ask 20 = .ok (.iload_n 2, 1) := by decide +kernel
theorem dX9_ask_21 : decode cX9_ask 21 = .ok (.ireturn, 1) := by decide +kernel
theorem dX9_away_0 : decode cX9_away 0 = .ok (.aload_n 0, 1) := by decide +kernel
theorem dX9_away_1 : decode cX9_away 1 = .ok (.iload_n 1, 1) := by decide +kernel
theorem dX9_away_2 : decode cX9_away 2 = .ok (.invokevirtual 280, 3) := by decide +kernel
theorem dX9_away_5 : decode cX9_away 5 = .ok (.istore_n 2, 1) := by decide +kernel
theorem dX9_away_6 : decode cX9_away 6 = .ok (.iload_n 2, 1) := by decide +kernel
theorem dX9_away_7 : decode cX9_away 7 = .ok (.ifCond .ne 13, 3) := by decide +kernel
theorem dX9_away_10 : decode cX9_away 10 = .ok (.aload_n 0, 1) := by decide +kernel
theorem dX9_away_11 : decode cX9_away 11 = .ok (.getfield 68, 3) := by decide +kernel
theorem dX9_away_14 : decode cX9_away 14 = .ok (.getfield 283, 3) := by decide +kernel
theorem dX9_away_17 : decode cX9_away 17 = .ok (.goto 4, 3) := by decide +kernel
theorem dX9_away_20 : decode cX9_away 20 = .ok (.iload_n 2, 1) := by decide +kernel
theorem dX9_away_21 : decode cX9_away 21 = .ok (.ireturn, 1) := by decide +kernel
theorem dX9_back_0 : decode cX9_back 0 = .ok (.iload_n 1, 1) := by decide +kernel
theorem dX9_back_1 : decode cX9_back 1 = .ok (.iconst 0, 1) := by decide +kernel
theorem dX9_back_2 : decode cX9_back 2 = .ok (.iconst 2, 1) := by decide +kernel
theorem dX9_back_3 : decode cX9_back 3 = .ok (.invokestatic 148, 3) := by decide +kernel
theorem dX9_back_6 : decode cX9_back 6 = .ok (.ifCond .ne 6, 3) := by decide +kernel
theorem dX9_back_9 : decode cX9_back 9 = .ok (.bipush (-2), 2) := by decide +kernel
theorem dX9_back_11 : decode cX9_back 11 = .ok (.ireturn, 1) := by decide +kernel
theorem dX9_back_12 : decode cX9_back 12 = .ok (.aload_n 0, 1) := by decide +kernel
theorem dX9_back_13 : decode cX9_back 13 = .ok (.getfield 354, 3) := by decide +kernel
theorem dX9_back_16 : decode cX9_back 16 = .ok (.iload_n 1, 1) := by decide +kernel
theorem dX9_back_17 : decode cX9_back 17 = .ok (.ishr, 1) := by decide +kernel
theorem dX9_back_18 : decode cX9_back 18 = .ok (.iconst 1, 1) := by decide +kernel
theorem dX9_back_19 : decode cX9_back 19 = .ok (.iand, 1) := by decide +kernel
theorem dX9_back_20 : decode cX9_back 20 = .ok (.ifCond .ne 6, 3) := by decide +kernel
theorem dX9_back_23 : decode cX9_back 23 = .ok (.bipush (-6), 2) := by decide +kernel
theorem dX9_back_25 : decode cX9_back 25 = .ok (.ireturn, 1) := by decide +kernel
theorem dX9_back_26 : decode cX9_back 26 = .ok (.aload_n 0, 1) := by decide +kernel
theorem dX9_back_27 : decode cX9_back 27 = .ok (.getfield 19, 3) := by decide +kernel
theorem dX9_back_30 : decode cX9_back 30 = .ok (.aload_n 0, 1) := by decide +kernel
theorem dX9_back_31 : decode cX9_back 31 = .ok (.getfield 26, 3) := by decide +kernel
theorem dX9_back_34 : decode cX9_back 34 = .ok (.iload_n 1, 1) := by decide +kernel
theorem dX9_back_35 : decode cX9_back 35 = .ok (.aaload, 1) := by decide +kernel
theorem dX9_back_36 : decode cX9_back 36 = .ok (.invokevirtual 91, 3) := by decide +kernel
theorem dX9_back_39 : decode cX9_back 39 = .ok (.aload_n 0, 1) := by decide +kernel
theorem dX9_back_40 : decode cX9_back 40 = .ok (.getfield 33, 3) := by decide +kernel
theorem dX9_back_43 : decode cX9_back 43 = .ok (.aload_n 0, 1) := by decide +kernel
theorem dX9_back_44 : decode cX9_back 44 = .ok (.getfield 19, 3) := by decide +kernel
theorem dX9_back_47 : decode cX9_back 47 = .ok (.invokevirtual 95, 3) := by decide +kernel
theorem dX9_back_50 : decode cX9_back 50 = .ok (.iconst 0, 1) := by decide +kernel
theorem dX9_back_51 : decode cX9_back 51 = .ok (.ireturn, 1) := by decide +kernel
theorem dX9_best_0 : decode cX9_best 0 = .ok (.aload_n 0, 1) := by decide +kernel
theorem dX9_best_1 : decode cX9_best 1 = .ok (.invokevirtual 166, 3) := by decide +kernel
theorem dX9_best_4 : decode cX9_best 4 = .ok (.ifCond .ne 6, 3) := by decide +kernel
theorem dX9_best_7 : decode cX9_best 7 = .ok (.bipush (-2), 2) := by decide +kernel
theorem dX9_best_9 : decode cX9_best 9 = .ok (.ireturn, 1) := by decide +kernel
theorem dX9_best_10 : decode cX9_best 10 = .ok (.iconst (-1), 1) := by decide +kernel
theorem dX9_best_11 : decode cX9_best 11 = .ok (.istore_n 1, 1) := by decide +kernel
theorem dX9_best_12 : decode cX9_best 12 = .ok (.aload_n 0, 1) := by decide +kernel
theorem dX9_best_13 : decode cX9_best 13 = .ok (.iconst 0, 1) := by decide +kernel
theorem dX9_best_14 : decode cX9_best 14 = .ok (.invokevirtual 170, 3) := by decide +kernel
theorem dX9_best_17 : decode cX9_best 17 = .ok (.istore_n 2, 1) := by decide +kernel
theorem dX9_best_18 : decode cX9_best 18 = .ok (.iconst 0, 1) := by decide +kernel
theorem dX9_best_19 : decode cX9_best 19 = .ok (.istore_n 3, 1) := by decide +kernel
theorem dX9_best_20 : decode cX9_best 20 = .ok (.iload_n 3, 1) := by decide +kernel
theorem dX9_best_21 : decode cX9_best 21 = .ok (.aload_n 0, 1) := by decide +kernel
theorem dX9_best_22 : decode cX9_best 22 = .ok (.getfield 33, 3) := by decide +kernel
theorem dX9_best_25 : decode cX9_best 25 = .ok (.getfield 182, 3) := by decide +kernel
theorem dX9_best_28 : decode cX9_best 28 = .ok (.if_icmp .ge 29, 3) := by decide +kernel
theorem dX9_best_31 : decode cX9_best 31 = .ok (.aload_n 0, 1) := by decide +kernel
theorem dX9_best_32 : decode cX9_best 32 = .ok (.iconst 1, 1) := by decide +kernel
theorem dX9_best_33 : decode cX9_best 33 = .ok (.iload_n 3, 1) := by decide +kernel
theorem dX9_best_34 : decode cX9_best 34 = .ok (.ishl, 1) := by decide +kernel
theorem dX9_best_35 : decode cX9_best 35 = .ok (.invokevirtual 170, 3) := by decide +kernel
theorem dX9_best_38 : decode cX9_best 38 = .ok (.istore 4, 2) := by decide +kernel
theorem dX9_best_40 : decode cX9_best 40 = .ok (.iload 4, 2) := by decide +kernel
theorem dX9_best_42 : decode cX9_best 42 = .ok (.iload_n 2, 1) := by decide +kernel
theorem dX9_best_43 : decode cX9_best 43 = .ok (.if_icmp .ge 8, 3) := by decide +kernel
theorem dX9_best_46 : decode cX9_best 46 = .ok (.iload 4, 2) := by decide +kernel
theorem dX9_best_48 : decode cX9_best 48 = .ok (.istore_n 2, 1) := by decide +kernel
theorem dX9_best_49 : decode cX9_best 49 = .ok (.iload_n 3, 1) := by decide +kernel
theorem dX9_best_50 : decode cX9_best 50 = .ok (.istore_n 1, 1) := by decide +kernel
theorem dX9_best_51 : decode cX9_best 51 = .ok (.iinc 3 1, 3) := by decide +kernel
theorem dX9_best_54 : decode cX9_best 54 = .ok (.goto (-34), 3) := by decide +kernel
theorem dX9_best_57 : decode cX9_best 57 = .ok (.iload_n 1, 1) := by decide +kernel
theorem dX9_best_58 : decode cX9_best 58 = .ok (.ireturn, 1) := by decide +kernel
theorem dX9_buries_0 : decode cX9_buries 0 = .ok (.iload_n 1, 1) := by decide +kernel
theorem dX9_buries_1 : decode cX9_buries 1 = .ok (.invokestatic 208, 3) := by decide +kernel
theorem dX9_buries_4 : decode cX9_buries 4 = .ok (.ifCond .eq 18, 3) := by decide +kernel
theorem dX9_buries_7 : decode cX9_buries 7 = .ok (.aload_n 0, 1) := by decide +kernel
theorem dX9_buries_8 : decode cX9_buries 8 = .ok (.invokevirtual 166, 3) := by decide +kernel
theorem dX9_buries_11 : decode cX9_buries 11 = .ok (.ifCond .eq 11, 3) := by decide +kernel
theorem dX9_buries_14 : decode cX9_buries 14 = .ok (.aload_n 0, 1) := by decide +kernel
theorem dX9_buries_15 : decode cX9_buries 15 = .ok (.iload_n 1, 1) := by decide +kernel
theorem dX9_buries_16 : decode cX9_buries 16 = .ok (.invokevirtual 218, 3) := by decide +kernel
theorem dX9_buries_19 : decode cX9_buries 19 = .ok (.goto 5, 3) := by decide +kernel
theorem dX9_buries_22 : decode cX9_buries 22 = .ok (.bipush (-2), 2) := by decide +kernel
theorem dX9_buries_24 : decode cX9_buries 24 = .ok (.ireturn, 1) := by decide +kernel
theorem dX9_bury_0 : decode cX9_bury 0 = .ok (.iload_n 1, 1) := by decide +kernel
theorem dX9_bury_1 : decode cX9_bury 1 = .ok (.invokestatic 208, 3) := by decide +kernel
theorem dX9_bury_4 : decode cX9_bury 4 = .ok (.ifCond .eq 21, 3) := by decide +kernel
theorem dX9_bury_7 : decode cX9_bury 7 = .ok (.aload_n 0, 1) := by decide +kernel
theorem dX9_bury_8 : decode cX9_bury 8 = .ok (.invokevirtual 166, 3) := by decide +kernel
theorem dX9_bury_11 : decode cX9_bury 11 = .ok (.ifCond .eq 14, 3) := by decide +kernel
theorem dX9_bury_14 : decode cX9_bury 14 = .ok (.aload_n 0, 1) := by decide +kernel
theorem dX9_bury_15 : decode cX9_bury 15 = .ok (.iload_n 1, 1) := by decide +kernel
theorem dX9_bury_16 : decode cX9_bury 16 = .ok (.invokevirtual 218, 3) := by decide +kernel
theorem dX9_bury_19 : decode cX9_bury 19 = .ok (.invokestatic 195, 3) := by decide +kernel
theorem dX9_bury_22 : decode cX9_bury 22 = .ok (.goto 5, 3) := by decide +kernel
theorem dX9_bury_25 : decode cX9_bury 25 = .ok (.bipush (-2), 2) := by decide +kernel
theorem dX9_bury_27 : decode cX9_bury 27 = .ok (.ireturn, 1) := by decide +kernel
theorem dX9_chance_0 : decode cX9_chance 0 = .ok (.aload_n 0, 1) := by decide +kernel
theorem dX9_chance_1 : decode cX9_chance 1 = .ok (.iload_n 1, 1) := by decide +kernel
theorem dX9_chance_2 : decode cX9_chance 2 = .ok (.invokevirtual 127, 3) := by decide +kernel
theorem dX9_chance_5 : decode cX9_chance 5 = .ok (.ifCond .eq 19, 3) := by decide +kernel
theorem dX9_chance_8 : decode cX9_chance 8 = .ok (.iload_n 2, 1) := by decide +kernel
theorem dX9_chance_9 : decode cX9_chance 9 = .ok (.invokestatic 208, 3) := by decide +kernel
theorem dX9_chance_12 : decode cX9_chance 12 = .ok (.ifCond .eq 12, 3) := by decide +kernel
theorem dX9_chance_15 : decode cX9_chance 15 = .ok (.iload_n 3, 1) := by decide +kernel
theorem dX9_chance_16 : decode cX9_chance 16 = .ok (.iconst 0, 1) := by decide +kernel
theorem dX9_chance_17 : decode cX9_chance 17 = .ok (.iconst 1, 1) := by decide +kernel
theorem dX9_chance_18 : decode cX9_chance 18 = .ok (.invokestatic 148, 3) := by decide +kernel
theorem dX9_chance_21 : decode cX9_chance 21 = .ok (.ifCond .ne 6, 3) := by decide +kernel
theorem dX9_chance_24 : decode cX9_chance 24 = .ok (.bipush (-2), 2) := by decide +kernel
theorem dX9_chance_26 : decode cX9_chance 26 = .ok (.ireturn, 1) := by decide +kernel
theorem dX9_chance_27 : decode cX9_chance 27 = .ok (.aload_n 0, 1) := by decide +kernel
theorem dX9_chance_28 : decode cX9_chance 28 = .ok (.getfield 75, 3) := by decide +kernel
theorem dX9_chance_31 : decode cX9_chance 31 = .ok (.aload_n 0, 1) := by decide +kernel
theorem dX9_chance_32 : decode cX9_chance 32 = .ok (.getfield 33, 3) := by decide +kernel
theorem dX9_chance_35 : decode cX9_chance 35 = .ok (.getfield 130, 3) := by decide +kernel
theorem dX9_chance_38 : decode cX9_chance 38 = .ok (.iload_n 1, 1) := by decide +kernel
theorem dX9_chance_39 : decode cX9_chance 39 = .ok (.aaload, 1) := by decide +kernel
theorem dX9_chance_40 : decode cX9_chance 40 = .ok (.aload_n 0, 1) := by decide +kernel
theorem dX9_chance_41 : decode cX9_chance 41 = .ok (.getfield 33, 3) := by decide +kernel
theorem dX9_chance_44 : decode cX9_chance 44 = .ok (.getfield 138, 3) := by decide +kernel
theorem dX9_chance_47 : decode cX9_chance 47 = .ok (.iload_n 1, 1) := by decide +kernel
theorem dX9_chance_48 : decode cX9_chance 48 = .ok (.iaload, 1) := by decide +kernel
theorem dX9_chance_49 : decode cX9_chance 49 = .ok (.aload_n 0, 1) := by decide +kernel
theorem dX9_chance_50 : decode cX9_chance 50 = .ok (.getfield 19, 3) := by decide +kernel
theorem dX9_chance_53 : decode cX9_chance 53 = .ok (.getfield 305, 3) := by decide +kernel
theorem dX9_chance_56 : decode cX9_chance 56 = .ok (.iload_n 2, 1) := by decide +kernel
theorem dX9_chance_57 : decode cX9_chance 57 = .ok (.invokevirtual 308, 3) := by decide +kernel
theorem dX9_chance_60 : decode cX9_chance 60 = .ok (.aload_n 0, 1) := by decide +kernel
theorem dX9_chance_61 : decode cX9_chance 61 = .ok (.getfield 75, 3) := by decide +kernel
theorem dX9_chance_64 : decode cX9_chance 64 = .ok (.getfield 312, 3) := by decide +kernel
theorem dX9_chance_67 : decode cX9_chance 67 = .ok (.aload_n 0, 1) := by decide +kernel
theorem dX9_chance_68 : decode cX9_chance 68 = .ok (.getfield 75, 3) := by decide +kernel
theorem dX9_chance_71 : decode cX9_chance 71 = .ok (.getfield 315, 3) := by decide +kernel
theorem dX9_chance_74 : decode cX9_chance 74 = .ok (.iload_n 3, 1) := by decide +kernel
theorem dX9_chance_75 : decode cX9_chance 75 = .ok (.invokestatic 214, 3) := by decide +kernel
theorem dX9_chance_78 : decode cX9_chance 78 = .ok (.ireturn, 1) := by decide +kernel
theorem dX9_chorus_0 : decode cX9_chorus 0 = .ok (.aload_n 0, 1) := by decide +kernel
theorem dX9_chorus_1 : decode cX9_chorus 1 = .ok (.iload_n 1, 1) := by decide +kernel
theorem dX9_chorus_2 : decode cX9_chorus 2 = .ok (.invokevirtual 127, 3) := by decide +kernel
theorem dX9_chorus_5 : decode cX9_chorus 5 = .ok (.ifCond .ne 6, 3) := by decide +kernel
theorem dX9_chorus_8 : decode cX9_chorus 8 = .ok (.bipush (-2), 2) := by decide +kernel
theorem dX9_chorus_10 : decode cX9_chorus 10 = .ok (.ireturn, 1) := by decide +kernel
theorem dX9_chorus_11 : decode cX9_chorus 11 = .ok (.iconst 0, 1) := by decide +kernel
theorem dX9_chorus_12 : decode cX9_chorus 12 = .ok (.istore_n 2, 1) := by decide +kernel
theorem dX9_chorus_13 : decode cX9_chorus 13 = .ok (.iconst 0, 1) := by decide +kernel
theorem dX9_chorus_14 : decode cX9_chorus 14 = .ok (.istore_n 3, 1) := by decide +kernel
theorem dX9_chorus_15 : decode cX9_chorus 15 = .ok (.iload_n 3, 1) := by decide +kernel
theorem dX9_chorus_16 : decode cX9_chorus 16 = .ok (.bipush 6, 2) := by decide +kernel
theorem dX9_chorus_18 : decode cX9_chorus 18 = .ok (.if_icmp .ge 38, 3) := by decide +kernel
theorem dX9_chorus_21 : decode cX9_chorus 21 = .ok (.aload_n 0, 1) := by decide +kernel
theorem dX9_chorus_22 : decode cX9_chorus 22 = .ok (.getfield 33, 3) := by decide +kernel
theorem dX9_chorus_25 : decode cX9_chorus 25 = .ok (.iload_n 3, 1) := by decide +kernel
theorem dX9_chorus_26 : decode cX9_chorus 26 = .ok (.iload_n 1, 1) := by decide +kernel
theorem dX9_chorus_27 : decode cX9_chorus 27 = .ok (.invokevirtual 189, 3) := by decide +kernel
theorem dX9_chorus_30 : decode cX9_chorus 30 = .ok (.ifCond .eq 20, 3) := by decide +kernel
theorem dX9_chorus_33 : decode cX9_chorus 33 = .ok (.iload_n 2, 1) := by decide +kernel
theorem dX9_chorus_34 : decode cX9_chorus 34 = .ok (.aload_n 0, 1) := by decide +kernel
theorem dX9_chorus_35 : decode cX9_chorus 35 = .ok (.getfield 33, 3) := by decide +kernel
theorem dX9_chorus_38 : decode cX9_chorus 38 = .ok (.iload_n 3, 1) := by decide +kernel
theorem dX9_chorus_39 : decode cX9_chorus 39 = .ok (.iload_n 1, 1) := by decide +kernel
theorem dX9_chorus_40 : decode cX9_chorus 40 = .ok (.invokevirtual 192, 3) := by decide +kernel
theorem dX9_chorus_43 : decode cX9_chorus 43 = .ok (.invokestatic 195, 3) := by decide +kernel
theorem dX9_chorus_46 : decode cX9_chorus 46 = .ok (.invokestatic 200, 3) := by decide +kernel
theorem dX9_chorus_49 : decode cX9_chorus 49 = .ok (.istore_n 2, 1) := by decide +kernel
theorem dX9_chorus_50 : decode cX9_chorus 50 = .ok (.iinc 3 1, 3) := by decide +kernel
theorem dX9_chorus_53 : decode cX9_chorus 53 = .ok (.goto (-38), 3) := by decide +kernel
theorem dX9_chorus_56 : decode cX9_chorus 56 = .ok (.iload_n 2, 1) := by decide +kernel
theorem dX9_chorus_57 : decode cX9_chorus 57 = .ok (.ireturn, 1) := by decide +kernel
theorem dX9_clock_0 : decode cX9_clock 0 = .ok (.aload_n 0, 1) := by decide +kernel
theorem dX9_clock_1 : decode cX9_clock 1 = .ok (.iload_n 1, 1) := by decide +kernel
theorem dX9_clock_2 : decode cX9_clock 2 = .ok (.invokevirtual 107, 3) := by decide +kernel
theorem dX9_clock_5 : decode cX9_clock 5 = .ok (.ifCond .ne 7, 3) := by decide +kernel
theorem dX9_clock_8 : decode cX9_clock 8 = .ok (.sipush (-1000), 3) := by decide +kernel
theorem dX9_clock_11 : decode cX9_clock 11 = .ok (.ireturn, 1) := by decide +kernel
theorem dX9_clock_12 : decode cX9_clock 12 = .ok (.iload_n 2, 1) := by decide +kernel
theorem dX9_clock_13 : decode cX9_clock 13 = .ok (.tableswitch 85 0 4 #[35, 45, 55, 65, 75], 35) := by decide +kernel
theorem dX9_clock_48 : decode cX9_clock 48 = .ok (.aload_n 0, 1) := by decide +kernel
theorem dX9_clock_49 : decode cX9_clock 49 = .ok (.getfield 19, 3) := by decide +kernel
theorem dX9_clock_52 : decode cX9_clock 52 = .ok (.getfield 111, 3) := by decide +kernel
theorem dX9_clock_55 : decode cX9_clock 55 = .ok (.iload_n 1, 1) := by decide +kernel
theorem dX9_clock_56 : decode cX9_clock 56 = .ok (.iaload, 1) := by decide +kernel
theorem dX9_clock_57 : decode cX9_clock 57 = .ok (.ireturn, 1) := by decide +kernel
theorem dX9_clock_58 : decode cX9_clock 58 = .ok (.aload_n 0, 1) := by decide +kernel
theorem dX9_clock_59 : decode cX9_clock 59 = .ok (.getfield 19, 3) := by decide +kernel
theorem dX9_clock_62 : decode cX9_clock 62 = .ok (.getfield 115, 3) := by decide +kernel
theorem dX9_clock_65 : decode cX9_clock 65 = .ok (.iload_n 1, 1) := by decide +kernel
theorem dX9_clock_66 : decode cX9_clock 66 = .ok (.iaload, 1) := by decide +kernel
theorem dX9_clock_67 : decode cX9_clock 67 = .ok (.ireturn, 1) := by decide +kernel
theorem dX9_clock_68 : decode cX9_clock 68 = .ok (.aload_n 0, 1) := by decide +kernel
theorem dX9_clock_69 : decode cX9_clock 69 = .ok (.getfield 19, 3) := by decide +kernel
theorem dX9_clock_72 : decode cX9_clock 72 = .ok (.getfield 118, 3) := by decide +kernel
theorem dX9_clock_75 : decode cX9_clock 75 = .ok (.iload_n 1, 1) := by decide +kernel
theorem dX9_clock_76 : decode cX9_clock 76 = .ok (.iaload, 1) := by decide +kernel
theorem dX9_clock_77 : decode cX9_clock 77 = .ok (.ireturn, 1) := by decide +kernel
theorem dX9_clock_78 : decode cX9_clock 78 = .ok (.aload_n 0, 1) := by decide +kernel
theorem dX9_clock_79 : decode cX9_clock 79 = .ok (.getfield 19, 3) := by decide +kernel
theorem dX9_clock_82 : decode cX9_clock 82 = .ok (.getfield 121, 3) := by decide +kernel
theorem dX9_clock_85 : decode cX9_clock 85 = .ok (.iload_n 1, 1) := by decide +kernel
theorem dX9_clock_86 : decode cX9_clock 86 = .ok (.iaload, 1) := by decide +kernel
theorem dX9_clock_87 : decode cX9_clock 87 = .ok (.ireturn, 1) := by decide +kernel
theorem dX9_clock_88 : decode cX9_clock 88 = .ok (.aload_n 0, 1) := by decide +kernel
theorem dX9_clock_89 : decode cX9_clock 89 = .ok (.getfield 19, 3) := by decide +kernel
theorem dX9_clock_92 : decode cX9_clock 92 = .ok (.getfield 124, 3) := by decide +kernel
theorem dX9_clock_95 : decode cX9_clock 95 = .ok (.iload_n 1, 1) := by decide +kernel
theorem dX9_clock_96 : decode cX9_clock 96 = .ok (.iaload, 1) := by decide +kernel
theorem dX9_clock_97 : decode cX9_clock 97 = .ok (.ireturn, 1) := by decide +kernel
theorem dX9_clock_98 : decode cX9_clock 98 = .ok (.sipush (-1000), 3) := by decide +kernel
theorem dX9_clock_101 : decode cX9_clock 101 = .ok (.ireturn, 1) := by decide +kernel
theorem dX9_costs_0 : decode cX9_costs 0 = .ok (.aload_n 0, 1) := by decide +kernel
theorem dX9_costs_1 : decode cX9_costs 1 = .ok (.iload_n 1, 1) := by decide +kernel
theorem dX9_costs_2 : decode cX9_costs 2 = .ok (.invokevirtual 127, 3) := by decide +kernel
theorem dX9_costs_5 : decode cX9_costs 5 = .ok (.ifCond .eq 20, 3) := by decide +kernel
theorem dX9_costs_8 : decode cX9_costs 8 = .ok (.aload_n 0, 1) := by decide +kernel
theorem dX9_costs_9 : decode cX9_costs 9 = .ok (.iload_n 1, 1) := by decide +kernel
theorem dX9_costs_10 : decode cX9_costs 10 = .ok (.aload_n 0, 1) := by decide +kernel
theorem dX9_costs_11 : decode cX9_costs 11 = .ok (.getfield 33, 3) := by decide +kernel
theorem dX9_costs_14 : decode cX9_costs 14 = .ok (.getfield 138, 3) := by decide +kernel
theorem dX9_costs_17 : decode cX9_costs 17 = .ok (.iload_n 1, 1) := by decide +kernel
theorem dX9_costs_18 : decode cX9_costs 18 = .ok (.iaload, 1) := by decide +kernel
theorem dX9_costs_19 : decode cX9_costs 19 = .ok (.invokevirtual 163, 3) := by decide +kernel
theorem dX9_costs_22 : decode cX9_costs 22 = .ok (.goto 5, 3) := by decide +kernel
theorem dX9_costs_25 : decode cX9_costs 25 = .ok (.bipush (-2), 2) := by decide +kernel
theorem dX9_costs_27 : decode cX9_costs 27 = .ok (.ireturn, 1) := by decide +kernel
theorem dX9_count_0 : decode cX9_count 0 = .ok (.iload_n 1, 1) := by decide +kernel
theorem dX9_count_1 : decode cX9_count 1 = .ok (.tableswitch 120 0 8 #[51, 59, 67, 75, 83, 91, 99, 107, 115], 51) := by decide +kernel
theorem dX9_count_52 : decode cX9_count 52 = .ok (.aload_n 0, 1) := by decide +kernel
theorem dX9_count_53 : decode cX9_count 53 = .ok (.getfield 19, 3) := by decide +kernel
theorem dX9_count_56 : decode cX9_count 56 = .ok (.getfield 346, 3) := by decide +kernel
theorem dX9_count_59 : decode cX9_count 59 = .ok (.ireturn, 1) := by decide +kernel
theorem dX9_count_60 : decode cX9_count 60 = .ok (.aload_n 0, 1) := by decide +kernel
theorem dX9_count_61 : decode cX9_count 61 = .ok (.getfield 19, 3) := by decide +kernel
theorem dX9_count_64 : decode cX9_count 64 = .ok (.getfield 238, 3) := by decide +kernel
theorem dX9_count_67 : decode cX9_count 67 = .ok (.ireturn, 1) := by decide +kernel
theorem dX9_count_68 : decode cX9_count 68 = .ok (.aload_n 0, 1) := by decide +kernel
theorem dX9_count_69 : decode cX9_count 69 = .ok (.getfield 19, 3) := by decide +kernel
theorem dX9_count_72 : decode cX9_count 72 = .ok (.getfield 305, 3) := by decide +kernel
theorem dX9_count_75 : decode cX9_count 75 = .ok (.ireturn, 1) := by decide +kernel
theorem dX9_count_76 : decode cX9_count 76 = .ok (.aload_n 0, 1) := by decide +kernel
theorem dX9_count_77 : decode cX9_count 77 = .ok (.getfield 19, 3) := by decide +kernel
theorem dX9_count_80 : decode cX9_count 80 = .ok (.getfield 347, 3) := by decide +kernel
theorem dX9_count_83 : decode cX9_count 83 = .ok (.ireturn, 1) := by decide +kernel
theorem dX9_count_84 : decode cX9_count 84 = .ok (.aload_n 0, 1) := by decide +kernel
theorem dX9_count_85 : decode cX9_count 85 = .ok (.getfield 19, 3) := by decide +kernel
theorem dX9_count_88 : decode cX9_count 88 = .ok (.getfield 348, 3) := by decide +kernel
theorem dX9_count_91 : decode cX9_count 91 = .ok (.ireturn, 1) := by decide +kernel
theorem dX9_count_92 : decode cX9_count 92 = .ok (.aload_n 0, 1) := by decide +kernel
theorem dX9_count_93 : decode cX9_count 93 = .ok (.getfield 19, 3) := by decide +kernel
theorem dX9_count_96 : decode cX9_count 96 = .ok (.getfield 321, 3) := by decide +kernel
theorem dX9_count_99 : decode cX9_count 99 = .ok (.ireturn, 1) := by decide +kernel
theorem dX9_count_100 : decode cX9_count 100 = .ok (.aload_n 0, 1) := by decide +kernel
theorem dX9_count_101 : decode cX9_count 101 = .ok (.getfield 19, 3) := by decide +kernel
theorem dX9_count_104 : decode cX9_count 104 = .ok (.getfield 98, 3) := by decide +kernel
theorem dX9_count_107 : decode cX9_count 107 = .ok (.ireturn, 1) := by decide +kernel
theorem dX9_count_108 : decode cX9_count 108 = .ok (.aload_n 0, 1) := by decide +kernel
theorem dX9_count_109 : decode cX9_count 109 = .ok (.getfield 10, 3) := by decide +kernel
theorem dX9_count_112 : decode cX9_count 112 = .ok (.getfield 79, 3) := by decide +kernel
theorem dX9_count_115 : decode cX9_count 115 = .ok (.ireturn, 1) := by decide +kernel
theorem dX9_count_116 : decode cX9_count 116 = .ok (.aload_n 0, 1) := by decide +kernel
theorem dX9_count_117 : decode cX9_count 117 = .ok (.invokevirtual 351, 3) := by decide +kernel
theorem dX9_count_120 : decode cX9_count 120 = .ok (.ireturn, 1) := by decide +kernel
theorem dX9_count_121 : decode cX9_count 121 = .ok (.iconst (-1), 1) := by decide +kernel
theorem dX9_count_122 : decode cX9_count 122 = .ok (.ireturn, 1) := by decide +kernel
theorem dX9_counts_0 : decode cX9_counts 0 = .ok (.aload_n 0, 1) := by decide +kernel
theorem dX9_counts_1 : decode cX9_counts 1 = .ok (.iload_n 1, 1) := by decide +kernel
theorem dX9_counts_2 : decode cX9_counts 2 = .ok (.invokevirtual 127, 3) := by decide +kernel
theorem dX9_counts_5 : decode cX9_counts 5 = .ok (.ifCond .eq 15, 3) := by decide +kernel
theorem dX9_counts_8 : decode cX9_counts 8 = .ok (.aload_n 0, 1) := by decide +kernel
theorem dX9_counts_9 : decode cX9_counts 9 = .ok (.getfield 33, 3) := by decide +kernel
theorem dX9_counts_12 : decode cX9_counts 12 = .ok (.getfield 138, 3) := by decide +kernel
theorem dX9_counts_15 : decode cX9_counts 15 = .ok (.iload_n 1, 1) := by decide +kernel
theorem dX9_counts_16 : decode cX9_counts 16 = .ok (.iaload, 1) := by decide +kernel
theorem dX9_counts_17 : decode cX9_counts 17 = .ok (.goto 5, 3) := by decide +kernel
theorem dX9_counts_20 : decode cX9_counts 20 = .ok (.bipush (-2), 2) := by decide +kernel
theorem dX9_counts_22 : decode cX9_counts 22 = .ok (.ireturn, 1) := by decide +kernel
theorem dX9_deals_0 : decode cX9_deals 0 = .ok (.aload_n 0, 1) := by decide +kernel
theorem dX9_deals_1 : decode cX9_deals 1 = .ok (.invokevirtual 166, 3) := by decide +kernel
theorem dX9_deals_4 : decode cX9_deals 4 = .ok (.ifCond .ne 6, 3) := by decide +kernel
theorem dX9_deals_7 : decode cX9_deals 7 = .ok (.bipush (-2), 2) := by decide +kernel
theorem dX9_deals_9 : decode cX9_deals 9 = .ok (.ireturn, 1) := by decide +kernel
theorem dX9_deals_10 : decode cX9_deals 10 = .ok (.iconst 0, 1) := by decide +kernel
theorem dX9_deals_11 : decode cX9_deals 11 = .ok (.istore_n 1, 1) := by decide +kernel
theorem dX9_deals_12 : decode cX9_deals 12 = .ok (.iconst 0, 1) := by decide +kernel
theorem dX9_deals_13 : decode cX9_deals 13 = .ok (.istore_n 2, 1) := by decide +kernel
theorem dX9_deals_14 : decode cX9_deals 14 = .ok (.iload_n 2, 1) := by decide +kernel
theorem dX9_deals_15 : decode cX9_deals 15 = .ok (.aload_n 0, 1) := by decide +kernel
theorem dX9_deals_16 : decode cX9_deals 16 = .ok (.getfield 33, 3) := by decide +kernel
theorem dX9_deals_19 : decode cX9_deals 19 = .ok (.getfield 182, 3) := by decide +kernel
theorem dX9_deals_22 : decode cX9_deals 22 = .ok (.if_icmp .ge 23, 3) := by decide +kernel
theorem dX9_deals_25 : decode cX9_deals 25 = .ok (.aload_n 0, 1) := by decide +kernel
theorem dX9_deals_26 : decode cX9_deals 26 = .ok (.iload_n 2, 1) := by decide +kernel
theorem dX9_deals_27 : decode cX9_deals 27 = .ok (.invokevirtual 185, 3) := by decide +kernel
theorem dX9_deals_30 : decode cX9_deals 30 = .ok (.ifCond .le 9, 3) := by decide +kernel
theorem dX9_deals_33 : decode cX9_deals 33 = .ok (.iload_n 1, 1) := by decide +kernel
theorem dX9_deals_34 : decode cX9_deals 34 = .ok (.iconst 1, 1) := by decide +kernel
theorem dX9_deals_35 : decode cX9_deals 35 = .ok (.iload_n 2, 1) := by decide +kernel
theorem dX9_deals_36 : decode cX9_deals 36 = .ok (.ishl, 1) := by decide +kernel
theorem dX9_deals_37 : decode cX9_deals 37 = .ok (.ior, 1) := by decide +kernel
theorem dX9_deals_38 : decode cX9_deals 38 = .ok (.istore_n 1, 1) := by decide +kernel
theorem dX9_deals_39 : decode cX9_deals 39 = .ok (.iinc 2 1, 3) := by decide +kernel
theorem dX9_deals_42 : decode cX9_deals 42 = .ok (.goto (-28), 3) := by decide +kernel
theorem dX9_deals_45 : decode cX9_deals 45 = .ok (.iload_n 1, 1) := by decide +kernel
theorem dX9_deals_46 : decode cX9_deals 46 = .ok (.ireturn, 1) := by decide +kernel
theorem dX9_drawn_0 : decode cX9_drawn 0 = .ok (.iload_n 1, 1) := by decide +kernel
theorem dX9_drawn_1 : decode cX9_drawn 1 = .ok (.iconst 0, 1) := by decide +kernel
theorem dX9_drawn_2 : decode cX9_drawn 2 = .ok (.ldc_w 328, 3) := by decide +kernel
theorem dX9_drawn_5 : decode cX9_drawn 5 = .ok (.invokestatic 148, 3) := by decide +kernel
theorem dX9_drawn_8 : decode cX9_drawn 8 = .ok (.ifCond .eq 19, 3) := by decide +kernel
theorem dX9_drawn_11 : decode cX9_drawn 11 = .ok (.iload_n 2, 1) := by decide +kernel
theorem dX9_drawn_12 : decode cX9_drawn 12 = .ok (.iconst 0, 1) := by decide +kernel
theorem dX9_drawn_13 : decode cX9_drawn 13 = .ok (.iconst 1, 1) := by decide +kernel
theorem dX9_drawn_14 : decode cX9_drawn 14 = .ok (.invokestatic 148, 3) := by decide +kernel
theorem dX9_drawn_17 : decode cX9_drawn 17 = .ok (.ifCond .eq 10, 3) := by decide +kernel
theorem dX9_drawn_20 : decode cX9_drawn 20 = .ok (.aload_n 0, 1) := by decide +kernel
theorem dX9_drawn_21 : decode cX9_drawn 21 = .ok (.invokevirtual 166, 3) := by decide +kernel
theorem dX9_drawn_24 : decode cX9_drawn 24 = .ok (.ifCond .ne 6, 3) := by decide +kernel
theorem dX9_drawn_27 : decode cX9_drawn 27 = .ok (.bipush (-2), 2) := by decide +kernel
theorem dX9_drawn_29 : decode cX9_drawn 29 = .ok (.ireturn, 1) := by decide +kernel
theorem dX9_drawn_30 : decode cX9_drawn 30 = .ok (.aload_n 0, 1) := by decide +kernel
theorem dX9_drawn_31 : decode cX9_drawn 31 = .ok (.getfield 75, 3) := by decide +kernel
theorem dX9_drawn_34 : decode cX9_drawn 34 = .ok (.iload_n 1, 1) := by decide +kernel
theorem dX9_drawn_35 : decode cX9_drawn 35 = .ok (.invokevirtual 329, 3) := by decide +kernel
theorem dX9_drawn_38 : decode cX9_drawn 38 = .ok (.iconst 0, 1) := by decide +kernel
theorem dX9_drawn_39 : decode cX9_drawn 39 = .ok (.istore_n 3, 1) := by decide +kernel
theorem dX9_drawn_40 : decode cX9_drawn 40 = .ok (.iconst 0, 1) := by decide +kernel
theorem dX9_drawn_41 : decode cX9_drawn 41 = .ok (.istore 4, 2) := by decide +kernel
theorem dX9_drawn_43 : decode cX9_drawn 43 = .ok (.iconst 0, 1) := by decide +kernel
theorem dX9_drawn_44 : decode cX9_drawn 44 = .ok (.istore 5, 2) := by decide +kernel
theorem dX9_drawn_46 : decode cX9_drawn 46 = .ok (.iload 5, 2) := by decide +kernel
theorem dX9_drawn_48 : decode cX9_drawn 48 = .ok (.aload_n 0, 1) := by decide +kernel
theorem dX9_drawn_49 : decode cX9_drawn 49 = .ok (.getfield 33, 3) := by decide +kernel
theorem dX9_drawn_52 : decode cX9_drawn 52 = .ok (.getfield 173, 3) := by decide +kernel
theorem dX9_drawn_55 : decode cX9_drawn 55 = .ok (.if_icmp .ge 88, 3) := by decide +kernel
theorem dX9_drawn_58 : decode cX9_drawn 58 = .ok (.aload_n 0, 1) := by decide +kernel
theorem dX9_drawn_59 : decode cX9_drawn 59 = .ok (.getfield 75, 3) := by decide +kernel
theorem dX9_drawn_62 : decode cX9_drawn 62 = .ok (.aload_n 0, 1) := by decide +kernel
theorem dX9_drawn_63 : decode cX9_drawn 63 = .ok (.getfield 33, 3) := by decide +kernel
theorem dX9_drawn_66 : decode cX9_drawn 66 = .ok (.getfield 130, 3) := by decide +kernel
theorem dX9_drawn_69 : decode cX9_drawn 69 = .ok (.iload 5, 2) := by decide +kernel
theorem dX9_drawn_71 : decode cX9_drawn 71 = .ok (.aaload, 1) := by decide +kernel
theorem dX9_drawn_72 : decode cX9_drawn 72 = .ok (.aload_n 0, 1) := by decide +kernel
theorem dX9_drawn_73 : decode cX9_drawn 73 = .ok (.getfield 33, 3) := by decide +kernel
theorem dX9_drawn_76 : decode cX9_drawn 76 = .ok (.getfield 138, 3) := by decide +kernel
theorem dX9_drawn_79 : decode cX9_drawn 79 = .ok (.iload 5, 2) := by decide +kernel
theorem dX9_drawn_81 : decode cX9_drawn 81 = .ok (.iaload, 1) := by decide +kernel
theorem dX9_drawn_82 : decode cX9_drawn 82 = .ok (.aload_n 0, 1) := by decide +kernel
theorem dX9_drawn_83 : decode cX9_drawn 83 = .ok (.getfield 19, 3) := by decide +kernel
theorem dX9_drawn_86 : decode cX9_drawn 86 = .ok (.getfield 305, 3) := by decide +kernel
theorem dX9_drawn_89 : decode cX9_drawn 89 = .ok (.invokevirtual 331, 3) := by decide +kernel
theorem dX9_drawn_92 : decode cX9_drawn 92 = .ok (.ifCond .eq 12, 3) := by decide +kernel
theorem dX9_drawn_95 : decode cX9_drawn 95 = .ok (.iload 4, 2) := by decide +kernel
theorem dX9_drawn_97 : decode cX9_drawn 97 = .ok (.iconst 1, 1) := by decide +kernel
theorem dX9_drawn_98 : decode cX9_drawn 98 = .ok (.iload 5, 2) := by decide +kernel
theorem dX9_drawn_100 : decode cX9_drawn 100 = .ok (.ishl, 1) := by decide +kernel
theorem dX9_drawn_101 : decode cX9_drawn 101 = .ok (.ior, 1) := by decide +kernel
theorem dX9_drawn_102 : decode cX9_drawn 102 = .ok (.istore 4, 2) := by decide +kernel
theorem dX9_drawn_104 : decode cX9_drawn 104 = .ok (.iload_n 3, 1) := by decide +kernel
theorem dX9_drawn_105 : decode cX9_drawn 105 = .ok (.aload_n 0, 1) := by decide +kernel
theorem dX9_drawn_106 : decode cX9_drawn 106 = .ok (.getfield 75, 3) := by decide +kernel
theorem dX9_drawn_109 : decode cX9_drawn 109 = .ok (.getfield 335, 3) := by decide +kernel
theorem dX9_drawn_112 : decode cX9_drawn 112 = .ok (.aload_n 0, 1) := by decide +kernel
theorem dX9_drawn_113 : decode cX9_drawn 113 = .ok (.getfield 33, 3) := by decide +kernel
theorem dX9_drawn_116 : decode cX9_drawn 116 = .ok (.getfield 138, 3) := by decide +kernel
theorem dX9_drawn_119 : decode cX9_drawn 119 = .ok (.iload 5, 2) := by decide +kernel
theorem dX9_drawn_121 : decode cX9_drawn 121 = .ok (.iaload, 1) := by decide +kernel
theorem dX9_drawn_122 : decode cX9_drawn 122 = .ok (.invokestatic 159, 3) := by decide +kernel
theorem dX9_drawn_125 : decode cX9_drawn 125 = .ok (.aload_n 0, 1) := by decide +kernel
theorem dX9_drawn_126 : decode cX9_drawn 126 = .ok (.getfield 19, 3) := by decide +kernel
theorem dX9_drawn_129 : decode cX9_drawn 129 = .ok (.getfield 337, 3) := by decide +kernel
theorem dX9_drawn_132 : decode cX9_drawn 132 = .ok (.invokestatic 340, 3) := by decide +kernel
theorem dX9_drawn_135 : decode cX9_drawn 135 = .ok (.iadd, 1) := by decide +kernel
theorem dX9_drawn_136 : decode cX9_drawn 136 = .ok (.istore_n 3, 1) := by decide +kernel
theorem dX9_drawn_137 : decode cX9_drawn 137 = .ok (.iinc 5 1, 3) := by decide +kernel
theorem dX9_drawn_140 : decode cX9_drawn 140 = .ok (.goto (-94), 3) := by decide +kernel
theorem dX9_drawn_143 : decode cX9_drawn 143 = .ok (.iload_n 2, 1) := by decide +kernel
theorem dX9_drawn_144 : decode cX9_drawn 144 = .ok (.ifCond .ne 7, 3) := by decide +kernel
theorem dX9_drawn_147 : decode cX9_drawn 147 = .ok (.iload_n 3, 1) := by decide +kernel
theorem dX9_drawn_148 : decode cX9_drawn 148 = .ok (.goto 5, 3) := by decide +kernel
theorem dX9_drawn_151 : decode cX9_drawn 151 = .ok (.iload 4, 2) := by decide +kernel
theorem dX9_drawn_153 : decode cX9_drawn 153 = .ok (.ireturn, 1) := by decide +kernel
theorem dX9_end_0 : decode cX9_end 0 = .ok (.iload_n 1, 1) := by decide +kernel
theorem dX9_end_1 : decode cX9_end 1 = .ok (.ifCond .lt 14, 3) := by decide +kernel
theorem dX9_end_4 : decode cX9_end 4 = .ok (.iload_n 1, 1) := by decide +kernel
theorem dX9_end_5 : decode cX9_end 5 = .ok (.aload_n 0, 1) := by decide +kernel
theorem dX9_end_6 : decode cX9_end 6 = .ok (.getfield 10, 3) := by decide +kernel
theorem dX9_end_9 : decode cX9_end 9 = .ok (.getfield 79, 3) := by decide +kernel
theorem dX9_end_12 : decode cX9_end 12 = .ok (.if_icmp .le 5, 3) := by decide +kernel
theorem dX9_end_15 : decode cX9_end 15 = .ok (.iconst (-1), 1) := by decide +kernel
theorem dX9_end_16 : decode cX9_end 16 = .ok (.ireturn, 1) := by decide +kernel
theorem dX9_end_17 : decode cX9_end 17 = .ok (.aload_n 0, 1) := by decide +kernel
theorem dX9_end_18 : decode cX9_end 18 = .ok (.getfield 10, 3) := by decide +kernel
theorem dX9_end_21 : decode cX9_end 21 = .ok (.iload_n 1, 1) := by decide +kernel
theorem dX9_end_22 : decode cX9_end 22 = .ok (.putfield 79, 3) := by decide +kernel
theorem dX9_end_25 : decode cX9_end 25 = .ok (.iload_n 1, 1) := by decide +kernel
theorem dX9_end_26 : decode cX9_end 26 = .ok (.ireturn, 1) := by decide +kernel
theorem dX9_enter_0 : decode cX9_enter 0 = .ok (.aload_n 0, 1) := by decide +kernel
theorem dX9_enter_1 : decode cX9_enter 1 = .ok (.iload_n 1, 1) := by decide +kernel
theorem dX9_enter_2 : decode cX9_enter 2 = .ok (.invokevirtual 107, 3) := by decide +kernel
theorem dX9_enter_5 : decode cX9_enter 5 = .ok (.ifCond .eq 20, 3) := by decide +kernel
theorem dX9_enter_8 : decode cX9_enter 8 = .ok (.aload_n 0, 1) := by decide +kernel
theorem dX9_enter_9 : decode cX9_enter 9 = .ok (.iload_n 2, 1) := by decide +kernel
theorem dX9_enter_10 : decode cX9_enter 10 = .ok (.invokevirtual 127, 3) := by decide +kernel
theorem dX9_enter_13 : decode cX9_enter 13 = .ok (.ifCond .eq 12, 3) := by decide +kernel
theorem dX9_enter_16 : decode cX9_enter 16 = .ok (.iload_n 3, 1) := by decide +kernel
theorem dX9_enter_17 : decode cX9_enter 17 = .ok (.iconst 0, 1) := by decide +kernel
theorem dX9_enter_18 : decode cX9_enter 18 = .ok (.iconst 1, 1) := by decide +kernel
theorem dX9_enter_19 : decode cX9_enter 19 = .ok (.invokestatic 148, 3) := by decide +kernel
theorem dX9_enter_22 : decode cX9_enter 22 = .ok (.ifCond .ne 6, 3) := by decide +kernel
theorem dX9_enter_25 : decode cX9_enter 25 = .ok (.bipush (-2), 2) := by decide +kernel
theorem dX9_enter_27 : decode cX9_enter 27 = .ok (.ireturn, 1) := by decide +kernel
theorem dX9_enter_28 : decode cX9_enter 28 = .ok (.aload_n 0, 1) := by decide +kernel
theorem dX9_enter_29 : decode cX9_enter 29 = .ok (.getfield 19, 3) := by decide +kernel
theorem dX9_enter_32 : decode cX9_enter 32 = .ok (.getfield 321, 3) := by decide +kernel
theorem dX9_enter_35 : decode cX9_enter 35 = .ok (.bipush 40, 2) := by decide +kernel
theorem dX9_enter_37 : decode cX9_enter 37 = .ok (.if_icmp .lt 6, 3) := by decide +kernel
theorem dX9_enter_40 : decode cX9_enter 40 = .ok (.bipush (-5), 2) := by decide +kernel
theorem dX9_enter_42 : decode cX9_enter 42 = .ok (.ireturn, 1) := by decide +kernel
theorem dX9_enter_43 : decode cX9_enter 43 = .ok (.aload_n 0, 1) := by decide +kernel
theorem dX9_enter_44 : decode cX9_enter 44 = .ok (.getfield 33, 3) := by decide +kernel
theorem dX9_enter_47 : decode cX9_enter 47 = .ok (.iload_n 1, 1) := by decide +kernel
theorem dX9_enter_48 : decode cX9_enter 48 = .ok (.iload_n 2, 1) := by decide +kernel
theorem dX9_enter_49 : decode cX9_enter 49 = .ok (.invokevirtual 152, 3) := by decide +kernel
theorem dX9_enter_52 : decode cX9_enter 52 = .ok (.ifCond .eq 7, 3) := by decide +kernel
theorem dX9_enter_55 : decode cX9_enter 55 = .ok (.iconst 0, 1) := by decide +kernel
theorem dX9_enter_56 : decode cX9_enter 56 = .ok (.goto 4, 3) := by decide +kernel
theorem dX9_enter_59 : decode cX9_enter 59 = .ok (.iconst 1, 1) := by decide +kernel
theorem dX9_enter_60 : decode cX9_enter 60 = .ok (.istore 4, 2) := by decide +kernel
theorem dX9_enter_62 : decode cX9_enter 62 = .ok (.aload_n 0, 1) := by decide +kernel
theorem dX9_enter_63 : decode cX9_enter 63 = .ok (.iload_n 3, 1) := by decide +kernel
theorem dX9_enter_64 : decode cX9_enter 64 = .ok (.iconst 1, 1) := by decide +kernel
theorem dX9_enter_65 : decode cX9_enter 65 = .ok (.if_icmp .ne 7, 3) := by decide +kernel
theorem dX9_enter_68 : decode cX9_enter 68 = .ok (.iconst 3, 1) := by decide +kernel
theorem dX9_enter_69 : decode cX9_enter 69 = .ok (.goto 4, 3) := by decide +kernel
theorem dX9_enter_72 : decode cX9_enter 72 = .ok (.iconst 4, 1) := by decide +kernel
theorem dX9_enter_73 : decode cX9_enter 73 = .ok (.iload_n 1, 1) := by decide +kernel
theorem dX9_enter_74 : decode cX9_enter 74 = .ok (.iload_n 2, 1) := by decide +kernel
theorem dX9_enter_75 : decode cX9_enter 75 = .ok (.invokevirtual 324, 3) := by decide +kernel
theorem dX9_enter_78 : decode cX9_enter 78 = .ok (.iload 4, 2) := by decide +kernel
theorem dX9_enter_80 : decode cX9_enter 80 = .ok (.ireturn, 1) := by decide +kernel
theorem dX9_fault_0 : decode cX9_fault 0 = .ok (.iload_n 1, 1) := by decide +kernel
theorem dX9_fault_1 : decode cX9_fault 1 = .ok (.lookupswitch 43 #[(0, 27), (1, 35)], 27) := by decide +kernel
theorem dX9_fault_28 : decode cX9_fault 28 = .ok (.aload_n 0, 1) := by decide +kernel
theorem dX9_fault_29 : decode cX9_fault 29 = .ok (.getfield 10, 3) := by decide +kernel
theorem dX9_fault_32 : decode cX9_fault 32 = .ok (.getfield 101, 3) := by decide +kernel
theorem dX9_fault_35 : decode cX9_fault 35 = .ok (.ireturn, 1) := by decide +kernel
theorem dX9_fault_36 : decode cX9_fault 36 = .ok (.aload_n 0, 1) := by decide +kernel
theorem dX9_fault_37 : decode cX9_fault 37 = .ok (.getfield 10, 3) := by decide +kernel
theorem dX9_fault_40 : decode cX9_fault 40 = .ok (.getfield 104, 3) := by decide +kernel
theorem dX9_fault_43 : decode cX9_fault 43 = .ok (.ireturn, 1) := by decide +kernel
theorem dX9_fault_44 : decode cX9_fault 44 = .ok (.iconst (-1), 1) := by decide +kernel
theorem dX9_fault_45 : decode cX9_fault 45 = .ok (.ireturn, 1) := by decide +kernel
theorem dX9_feed_0 : decode cX9_feed 0 = .ok (.aload_n 0, 1) := by decide +kernel
theorem dX9_feed_1 : decode cX9_feed 1 = .ok (.getfield 10, 3) := by decide +kernel
theorem dX9_feed_4 : decode cX9_feed 4 = .ok (.getfield 79, 3) := by decide +kernel
theorem dX9_feed_7 : decode cX9_feed 7 = .ok (.bipush 20, 2) := by decide +kernel
theorem dX9_feed_9 : decode cX9_feed 9 = .ok (.iadd, 1) := by decide +kernel
theorem dX9_feed_10 : decode cX9_feed 10 = .ok (.sipush 800, 3) := by decide +kernel
theorem dX9_feed_13 : decode cX9_feed 13 = .ok (.if_icmp .le 5, 3) := by decide +kernel
theorem dX9_feed_16 : decode cX9_feed 16 = .ok (.iconst (-1), 1) := by decide +kernel
theorem dX9_feed_17 : decode cX9_feed 17 = .ok (.ireturn, 1) := by decide +kernel
theorem dX9_feed_18 : decode cX9_feed 18 = .ok (.aload_n 0, 1) := by decide +kernel
theorem dX9_feed_19 : decode cX9_feed 19 = .ok (.getfield 10, 3) := by decide +kernel
theorem dX9_feed_22 : decode cX9_feed 22 = .ok (.iload_n 1, 1) := by decide +kernel
theorem dX9_feed_23 : decode cX9_feed 23 = .ok (.invokevirtual 83, 3) := by decide +kernel
theorem dX9_feed_26 : decode cX9_feed 26 = .ok (.aload_n 0, 1) := by decide +kernel
theorem dX9_feed_27 : decode cX9_feed 27 = .ok (.getfield 10, 3) := by decide +kernel
theorem dX9_feed_30 : decode cX9_feed 30 = .ok (.iload_n 2, 1) := by decide +kernel
theorem dX9_feed_31 : decode cX9_feed 31 = .ok (.invokevirtual 83, 3) := by decide +kernel
theorem dX9_feed_34 : decode cX9_feed 34 = .ok (.aload_n 0, 1) := by decide +kernel
theorem dX9_feed_35 : decode cX9_feed 35 = .ok (.getfield 10, 3) := by decide +kernel
theorem dX9_feed_38 : decode cX9_feed 38 = .ok (.iload_n 3, 1) := by decide +kernel
theorem dX9_feed_39 : decode cX9_feed 39 = .ok (.invokevirtual 83, 3) := by decide +kernel
theorem dX9_feed_42 : decode cX9_feed 42 = .ok (.aload_n 0, 1) := by decide +kernel
theorem dX9_feed_43 : decode cX9_feed 43 = .ok (.getfield 10, 3) := by decide +kernel
theorem dX9_feed_46 : decode cX9_feed 46 = .ok (.iload 4, 2) := by decide +kernel
theorem dX9_feed_48 : decode cX9_feed 48 = .ok (.invokevirtual 83, 3) := by decide +kernel
theorem dX9_feed_51 : decode cX9_feed 51 = .ok (.aload_n 0, 1) := by decide +kernel
theorem dX9_feed_52 : decode cX9_feed 52 = .ok (.getfield 10, 3) := by decide +kernel
theorem dX9_feed_55 : decode cX9_feed 55 = .ok (.iload 5, 2) := by decide +kernel
theorem dX9_feed_57 : decode cX9_feed 57 = .ok (.invokevirtual 83, 3) := by decide +kernel
theorem dX9_feed_60 : decode cX9_feed 60 = .ok (.aload_n 0, 1) := by decide +kernel
theorem dX9_feed_61 : decode cX9_feed 61 = .ok (.getfield 10, 3) := by decide +kernel
theorem dX9_feed_64 : decode cX9_feed 64 = .ok (.getfield 79, 3) := by decide +kernel
theorem dX9_feed_67 : decode cX9_feed 67 = .ok (.ireturn, 1) := by decide +kernel
theorem dX9_fewest_0 : decode cX9_fewest 0 = .ok (.iload_n 1, 1) := by decide +kernel
theorem dX9_fewest_1 : decode cX9_fewest 1 = .ok (.invokestatic 208, 3) := by decide +kernel
theorem dX9_fewest_4 : decode cX9_fewest 4 = .ok (.ifCond .eq 10, 3) := by decide +kernel
theorem dX9_fewest_7 : decode cX9_fewest 7 = .ok (.aload_n 0, 1) := by decide +kernel
theorem dX9_fewest_8 : decode cX9_fewest 8 = .ok (.invokevirtual 166, 3) := by decide +kernel
theorem dX9_fewest_11 : decode cX9_fewest 11 = .ok (.ifCond .ne 6, 3) := by decide +kernel
theorem dX9_fewest_14 : decode cX9_fewest 14 = .ok (.bipush (-2), 2) := by decide +kernel
theorem dX9_fewest_16 : decode cX9_fewest 16 = .ok (.ireturn, 1) := by decide +kernel
theorem dX9_fewest_17 : decode cX9_fewest 17 = .ok (.aload_n 0, 1) := by decide +kernel
theorem dX9_fewest_18 : decode cX9_fewest 18 = .ok (.getfield 47, 3) := by decide +kernel
theorem dX9_fewest_21 : decode cX9_fewest 21 = .ok (.aload_n 0, 1) := by decide +kernel
theorem dX9_fewest_22 : decode cX9_fewest 22 = .ok (.getfield 19, 3) := by decide +kernel
theorem dX9_fewest_25 : decode cX9_fewest 25 = .ok (.aload_n 0, 1) := by decide +kernel
theorem dX9_fewest_26 : decode cX9_fewest 26 = .ok (.getfield 33, 3) := by decide +kernel
theorem dX9_fewest_29 : decode cX9_fewest 29 = .ok (.iconst 3, 1) := by decide +kernel
theorem dX9_fewest_30 : decode cX9_fewest 30 = .ok (.iload_n 1, 1) := by decide +kernel
theorem dX9_fewest_31 : decode cX9_fewest 31 = .ok (.invokevirtual 221, 3) := by decide +kernel
theorem dX9_fewest_34 : decode cX9_fewest 34 = .ok (.aload_n 0, 1) := by decide +kernel
theorem dX9_fewest_35 : decode cX9_fewest 35 = .ok (.getfield 47, 3) := by decide +kernel
theorem dX9_fewest_38 : decode cX9_fewest 38 = .ok (.getfield 225, 3) := by decide +kernel
theorem dX9_fewest_41 : decode cX9_fewest 41 = .ok (.ifCond .ne 13, 3) := by decide +kernel
theorem dX9_fewest_44 : decode cX9_fewest 44 = .ok (.aload_n 0, 1) := by decide +kernel
theorem dX9_fewest_45 : decode cX9_fewest 45 = .ok (.getfield 47, 3) := by decide +kernel
theorem dX9_fewest_48 : decode cX9_fewest 48 = .ok (.getfield 231, 3) := by decide +kernel
theorem dX9_fewest_51 : decode cX9_fewest 51 = .ok (.goto 4, 3) := by decide +kernel
theorem dX9_fewest_54 : decode cX9_fewest 54 = .ok (.iconst (-1), 1) := by decide +kernel
theorem dX9_fewest_55 : decode cX9_fewest 55 = .ok (.ireturn, 1) := by decide +kernel
theorem dX9_floor_0 : decode cX9_floor 0 = .ok (.aload_n 0, 1) := by decide +kernel
theorem dX9_floor_1 : decode cX9_floor 1 = .ok (.iload_n 1, 1) := by decide +kernel
theorem dX9_floor_2 : decode cX9_floor 2 = .ok (.invokevirtual 296, 3) := by decide +kernel
theorem dX9_floor_5 : decode cX9_floor 5 = .ok (.istore_n 2, 1) := by decide +kernel
theorem dX9_floor_6 : decode cX9_floor 6 = .ok (.iload_n 2, 1) := by decide +kernel
theorem dX9_floor_7 : decode cX9_floor 7 = .ok (.ifCond .ne 13, 3) := by decide +kernel
theorem dX9_floor_10 : decode cX9_floor 10 = .ok (.aload_n 0, 1) := by decide +kernel
theorem dX9_floor_11 : decode cX9_floor 11 = .ok (.getfield 68, 3) := by decide +kernel
theorem dX9_floor_14 : decode cX9_floor 14 = .ok (.getfield 302, 3) := by decide +kernel
theorem dX9_floor_17 : decode cX9_floor 17 = .ok (.goto 4, 3) := by decide +kernel
theorem dX9_floor_20 : decode cX9_floor 20 = .ok (.iload_n 2, 1) := by decide +kernel
theorem dX9_floor_21 : decode cX9_floor 21 = .ok (.ireturn, 1) := by decide +kernel
theorem dX9_fraction_0 : decode cX9_fraction 0 = .ok (.iload_n 0, 1) := by decide +kernel
theorem dX9_fraction_1 : decode cX9_fraction 1 = .ok (.invokestatic 383, 3) := by decide +kernel
theorem dX9_fraction_4 : decode cX9_fraction 4 = .ok (.istore_n 3, 1) := by decide +kernel
theorem dX9_fraction_5 : decode cX9_fraction 5 = .ok (.iload_n 1, 1) := by decide +kernel
theorem dX9_fraction_6 : decode cX9_fraction 6 = .ok (.istore 4, 2) := by decide +kernel
theorem dX9_fraction_8 : decode cX9_fraction 8 = .ok (.iconst 0, 1) := by decide +kernel
theorem dX9_fraction_9 : decode cX9_fraction 9 = .ok (.istore 5, 2) := by decide +kernel
theorem dX9_fraction_11 : decode cX9_fraction 11 = .ok (.iload 5, 2) := by decide +kernel
theorem dX9_fraction_13 : decode cX9_fraction 13 = .ok (.bipush 64, 2) := by decide +kernel
theorem dX9_fraction_15 : decode cX9_fraction 15 = .ok (.if_icmp .ge 27, 3) := by decide +kernel
theorem dX9_fraction_18 : decode cX9_fraction 18 = .ok (.iload 4, 2) := by decide +kernel
theorem dX9_fraction_20 : decode cX9_fraction 20 = .ok (.ifCond .le 22, 3) := by decide +kernel
theorem dX9_fraction_23 : decode cX9_fraction 23 = .ok (.iload_n 3, 1) := by decide +kernel
theorem dX9_fraction_24 : decode cX9_fraction 24 = .ok (.iload 4, 2) := by decide +kernel
theorem dX9_fraction_26 : decode cX9_fraction 26 = .ok (.irem, 1) := by decide +kernel
theorem dX9_fraction_27 : decode cX9_fraction 27 = .ok (.istore 6, 2) := by decide +kernel
theorem dX9_fraction_29 : decode cX9_fraction 29 = .ok (.iload 4, 2) := by decide +kernel
theorem dX9_fraction_31 : decode cX9_fraction 31 = .ok (.istore_n 3, 1) := by decide +kernel
theorem dX9_fraction_32 : decode cX9_fraction 32 = .ok (.iload 6, 2) := by decide +kernel
theorem dX9_fraction_34 : decode cX9_fraction 34 = .ok (.istore 4, 2) := by decide +kernel
theorem dX9_fraction_36 : decode cX9_fraction 36 = .ok (.iinc 5 1, 3) := by decide +kernel
theorem dX9_fraction_39 : decode cX9_fraction 39 = .ok (.goto (-28), 3) := by decide +kernel
theorem dX9_fraction_42 : decode cX9_fraction 42 = .ok (.iload_n 3, 1) := by decide +kernel
theorem dX9_fraction_43 : decode cX9_fraction 43 = .ok (.iconst 1, 1) := by decide +kernel
theorem dX9_fraction_44 : decode cX9_fraction 44 = .ok (.if_icmp .ge 5, 3) := by decide +kernel
theorem dX9_fraction_47 : decode cX9_fraction 47 = .ok (.iconst 0, 1) := by decide +kernel
theorem dX9_fraction_48 : decode cX9_fraction 48 = .ok (.ireturn, 1) := by decide +kernel
theorem dX9_fraction_49 : decode cX9_fraction 49 = .ok (.iload_n 2, 1) := by decide +kernel
theorem dX9_fraction_50 : decode cX9_fraction 50 = .ok (.ifCond .ne 9, 3) := by decide +kernel
theorem dX9_fraction_53 : decode cX9_fraction 53 = .ok (.iload_n 0, 1) := by decide +kernel
theorem dX9_fraction_54 : decode cX9_fraction 54 = .ok (.iload_n 3, 1) := by decide +kernel
theorem dX9_fraction_55 : decode cX9_fraction 55 = .ok (.idiv, 1) := by decide +kernel
theorem dX9_fraction_56 : decode cX9_fraction 56 = .ok (.goto 6, 3) := by decide +kernel
theorem dX9_fraction_59 : decode cX9_fraction 59 = .ok (.iload_n 1, 1) := by decide +kernel
theorem dX9_fraction_60 : decode cX9_fraction 60 = .ok (.iload_n 3, 1) := by decide +kernel
theorem dX9_fraction_61 : decode cX9_fraction 61 = .ok (.idiv, 1) := by decide +kernel
theorem dX9_fraction_62 : decode cX9_fraction 62 = .ok (.ireturn, 1) := by decide +kernel
theorem dX9_gap_0 : decode cX9_gap 0 = .ok (.aload_n 0, 1) := by decide +kernel
theorem dX9_gap_1 : decode cX9_gap 1 = .ok (.iload_n 1, 1) := by decide +kernel
theorem dX9_gap_2 : decode cX9_gap 2 = .ok (.invokevirtual 127, 3) := by decide +kernel
theorem dX9_gap_5 : decode cX9_gap 5 = .ok (.ifCond .ne 6, 3) := by decide +kernel
theorem dX9_gap_8 : decode cX9_gap 8 = .ok (.bipush (-2), 2) := by decide +kernel
theorem dX9_gap_10 : decode cX9_gap 10 = .ok (.ireturn, 1) := by decide +kernel
theorem dX9_gap_11 : decode cX9_gap 11 = .ok (.aload_n 0, 1) := by decide +kernel
theorem dX9_gap_12 : decode cX9_gap 12 = .ok (.getfield 33, 3) := by decide +kernel
theorem dX9_gap_15 : decode cX9_gap 15 = .ok (.getfield 138, 3) := by decide +kernel
theorem dX9_gap_18 : decode cX9_gap 18 = .ok (.iload_n 1, 1) := by decide +kernel
theorem dX9_gap_19 : decode cX9_gap 19 = .ok (.iaload, 1) := by decide +kernel
theorem dX9_gap_20 : decode cX9_gap 20 = .ok (.ifCond .ne 5, 3) := by decide +kernel
theorem dX9_gap_23 : decode cX9_gap 23 = .ok (.iconst 0, 1) := by decide +kernel
theorem dX9_gap_24 : decode cX9_gap 24 = .ok (.ireturn, 1) := by decide +kernel
theorem dX9_gap_25 : decode cX9_gap 25 = .ok (.aload_n 0, 1) := by decide +kernel
theorem dX9_gap_26 : decode cX9_gap 26 = .ok (.iload_n 1, 1) := by decide +kernel
theorem dX9_gap_27 : decode cX9_gap 27 = .ok (.invokevirtual 134, 3) := by decide +kernel
theorem dX9_gap_30 : decode cX9_gap 30 = .ok (.istore_n 2, 1) := by decide +kernel
theorem dX9_gap_31 : decode cX9_gap 31 = .ok (.aload_n 0, 1) := by decide +kernel
theorem dX9_gap_32 : decode cX9_gap 32 = .ok (.getfield 33, 3) := by decide +kernel
theorem dX9_gap_35 : decode cX9_gap 35 = .ok (.getfield 130, 3) := by decide +kernel
theorem dX9_gap_38 : decode cX9_gap 38 = .ok (.iload_n 1, 1) := by decide +kernel
theorem dX9_gap_39 : decode cX9_gap 39 = .ok (.aaload, 1) := by decide +kernel
theorem dX9_gap_40 : decode cX9_gap 40 = .ok (.aload_n 0, 1) := by decide +kernel
theorem dX9_gap_41 : decode cX9_gap 41 = .ok (.iload_n 1, 1) := by decide +kernel
theorem dX9_gap_42 : decode cX9_gap 42 = .ok (.invokevirtual 156, 3) := by decide +kernel
theorem dX9_gap_45 : decode cX9_gap 45 = .ok (.invokestatic 159, 3) := by decide +kernel
theorem dX9_gap_48 : decode cX9_gap 48 = .ok (.istore_n 3, 1) := by decide +kernel
theorem dX9_gap_49 : decode cX9_gap 49 = .ok (.iload_n 2, 1) := by decide +kernel
theorem dX9_gap_50 : decode cX9_gap 50 = .ok (.sipush 10000, 3) := by decide +kernel
theorem dX9_gap_53 : decode cX9_gap 53 = .ok (.if_icmp .ne 18, 3) := by decide +kernel
theorem dX9_gap_56 : decode cX9_gap 56 = .ok (.iload_n 3, 1) := by decide +kernel
theorem dX9_gap_57 : decode cX9_gap 57 = .ok (.sipush 10000, 3) := by decide +kernel
theorem dX9_gap_60 : decode cX9_gap 60 = .ok (.if_icmp .ne 7, 3) := by decide +kernel
theorem dX9_gap_63 : decode cX9_gap 63 = .ok (.iconst 0, 1) := by decide +kernel
theorem dX9_gap_64 : decode cX9_gap 64 = .ok (.goto 6, 3) := by decide +kernel
theorem dX9_gap_67 : decode cX9_gap 67 = .ok (.sipush 10000, 3) := by decide +kernel
theorem dX9_gap_70 : decode cX9_gap 70 = .ok (.ireturn, 1) := by decide +kernel
theorem dX9_gap_71 : decode cX9_gap 71 = .ok (.iload_n 2, 1) := by decide +kernel
theorem dX9_gap_72 : decode cX9_gap 72 = .ok (.iload_n 3, 1) := by decide +kernel
theorem dX9_gap_73 : decode cX9_gap 73 = .ok (.isub, 1) := by decide +kernel
theorem dX9_gap_74 : decode cX9_gap 74 = .ok (.ireturn, 1) := by decide +kernel
theorem dX9_goes_0 : decode cX9_goes 0 = .ok (.aload_n 0, 1) := by decide +kernel
theorem dX9_goes_1 : decode cX9_goes 1 = .ok (.iload_n 2, 1) := by decide +kernel
theorem dX9_goes_2 : decode cX9_goes 2 = .ok (.invokevirtual 127, 3) := by decide +kernel
theorem dX9_goes_5 : decode cX9_goes 5 = .ok (.ifCond .eq 10, 3) := by decide +kernel
theorem dX9_goes_8 : decode cX9_goes 8 = .ok (.iload_n 1, 1) := by decide +kernel
theorem dX9_goes_9 : decode cX9_goes 9 = .ok (.invokestatic 253, 3) := by decide +kernel
theorem dX9_goes_12 : decode cX9_goes 12 = .ok (.ifCond .ne 6, 3) := by decide +kernel
theorem dX9_goes_15 : decode cX9_goes 15 = .ok (.bipush (-2), 2) := by decide +kernel
theorem dX9_goes_17 : decode cX9_goes 17 = .ok (.ireturn, 1) := by decide +kernel
theorem dX9_goes_18 : decode cX9_goes 18 = .ok (.aload_n 0, 1) := by decide +kernel
theorem dX9_goes_19 : decode cX9_goes 19 = .ok (.getfield 39, 3) := by decide +kernel
theorem dX9_goes_22 : decode cX9_goes 22 = .ok (.iload_n 1, 1) := by decide +kernel
theorem dX9_goes_23 : decode cX9_goes 23 = .ok (.aaload, 1) := by decide +kernel
theorem dX9_goes_24 : decode cX9_goes 24 = .ok (.astore_n 3, 1) := by decide +kernel
theorem dX9_goes_25 : decode cX9_goes 25 = .ok (.aload_n 3, 1) := by decide +kernel
theorem dX9_goes_26 : decode cX9_goes 26 = .ok (.invokevirtual 256, 3) := by decide +kernel
theorem dX9_goes_29 : decode cX9_goes 29 = .ok (.ifCond .ne 6, 3) := by decide +kernel
theorem dX9_goes_32 : decode cX9_goes 32 = .ok (.bipush (-6), 2) := by decide +kernel
theorem dX9_goes_34 : decode cX9_goes 34 = .ok (.ireturn, 1) := by decide +kernel
theorem dX9_goes_35 : decode cX9_goes 35 = .ok (.aload_n 3, 1) := by decide +kernel
theorem dX9_goes_36 : decode cX9_goes 36 = .ok (.aload_n 0, 1) := by decide +kernel
theorem dX9_goes_37 : decode cX9_goes 37 = .ok (.getfield 33, 3) := by decide +kernel
theorem dX9_goes_40 : decode cX9_goes 40 = .ok (.getfield 138, 3) := by decide +kernel
theorem dX9_goes_43 : decode cX9_goes 43 = .ok (.iload_n 2, 1) := by decide +kernel
theorem dX9_goes_44 : decode cX9_goes 44 = .ok (.iaload, 1) := by decide +kernel
theorem dX9_goes_45 : decode cX9_goes 45 = .ok (.invokestatic 259, 3) := by decide +kernel
theorem dX9_goes_48 : decode cX9_goes 48 = .ok (.ifCond .ne 6, 3) := by decide +kernel
theorem dX9_goes_51 : decode cX9_goes 51 = .ok (.bipush (-2), 2) := by decide +kernel
theorem dX9_goes_53 : decode cX9_goes 53 = .ok (.ireturn, 1) := by decide +kernel
theorem dX9_goes_54 : decode cX9_goes 54 = .ok (.aload_n 0, 1) := by decide +kernel
theorem dX9_goes_55 : decode cX9_goes 55 = .ok (.getfield 54, 3) := by decide +kernel
theorem dX9_goes_58 : decode cX9_goes 58 = .ok (.aload_n 0, 1) := by decide +kernel
theorem dX9_goes_59 : decode cX9_goes 59 = .ok (.getfield 19, 3) := by decide +kernel
theorem dX9_goes_62 : decode cX9_goes 62 = .ok (.aload_n 0, 1) := by decide +kernel
theorem dX9_goes_63 : decode cX9_goes 63 = .ok (.getfield 33, 3) := by decide +kernel
theorem dX9_goes_66 : decode cX9_goes 66 = .ok (.getfield 130, 3) := by decide +kernel
theorem dX9_goes_69 : decode cX9_goes 69 = .ok (.iload_n 2, 1) := by decide +kernel
theorem dX9_goes_70 : decode cX9_goes 70 = .ok (.aaload, 1) := by decide +kernel
theorem dX9_goes_71 : decode cX9_goes 71 = .ok (.invokevirtual 234, 3) := by decide +kernel
theorem dX9_goes_74 : decode cX9_goes 74 = .ok (.aload_n 0, 1) := by decide +kernel
theorem dX9_goes_75 : decode cX9_goes 75 = .ok (.getfield 54, 3) := by decide +kernel
theorem dX9_goes_78 : decode cX9_goes 78 = .ok (.aload_n 0, 1) := by decide +kernel
theorem dX9_goes_79 : decode cX9_goes 79 = .ok (.getfield 19, 3) := by decide +kernel
theorem dX9_goes_82 : decode cX9_goes 82 = .ok (.getfield 238, 3) := by decide +kernel
theorem dX9_goes_85 : decode cX9_goes 85 = .ok (.aload_n 3, 1) := by decide +kernel
theorem dX9_goes_86 : decode cX9_goes 86 = .ok (.invokevirtual 263, 3) := by decide +kernel
theorem dX9_goes_89 : decode cX9_goes 89 = .ok (.ireturn, 1) := by decide +kernel
theorem dX9_gone_0 : decode cX9_gone 0 = .ok (.aload_n 0, 1) := by decide +kernel
theorem dX9_gone_1 : decode cX9_gone 1 = .ok (.iload_n 1, 1) := by decide +kernel
theorem dX9_gone_2 : decode cX9_gone 2 = .ok (.invokevirtual 280, 3) := by decide +kernel
theorem dX9_gone_5 : decode cX9_gone 5 = .ok (.istore_n 2, 1) := by decide +kernel
theorem dX9_gone_6 : decode cX9_gone 6 = .ok (.iload_n 2, 1) := by decide +kernel
theorem dX9_gone_7 : decode cX9_gone 7 = .ok (.ifCond .ne 13, 3) := by decide +kernel
theorem dX9_gone_10 : decode cX9_gone 10 = .ok (.aload_n 0, 1) := by decide +kernel
theorem dX9_gone_11 : decode cX9_gone 11 = .ok (.getfield 68, 3) := by decide +kernel
theorem dX9_gone_14 : decode cX9_gone 14 = .ok (.getfield 286, 3) := by decide +kernel
theorem dX9_gone_17 : decode cX9_gone 17 = .ok (.goto 4, 3) := by decide +kernel
theorem dX9_gone_20 : decode cX9_gone 20 = .ok (.iload_n 2, 1) := by decide +kernel
theorem dX9_gone_21 : decode cX9_gone 21 = .ok (.ireturn, 1) := by decide +kernel
theorem dX9_hasRace_0 : decode cX9_hasRace 0 = .ok (.aload_n 0, 1) := by decide +kernel
theorem dX9_hasRace_1 : decode cX9_hasRace 1 = .ok (.iload_n 1, 1) := by decide +kernel
theorem dX9_hasRace_2 : decode cX9_hasRace 2 = .ok (.invokevirtual 107, 3) := by decide +kernel
theorem dX9_hasRace_5 : decode cX9_hasRace 5 = .ok (.ifCond .eq 24, 3) := by decide +kernel
theorem dX9_hasRace_8 : decode cX9_hasRace 8 = .ok (.aload_n 0, 1) := by decide +kernel
theorem dX9_hasRace_9 : decode cX9_hasRace 9 = .ok (.iload_n 2, 1) := by decide +kernel
theorem dX9_hasRace_10 : decode cX9_hasRace 10 = .ok (.invokevirtual 107, 3) := by decide +kernel
theorem dX9_hasRace_13 : decode cX9_hasRace 13 = .ok (.ifCond .eq 16, 3) := by decide +kernel
theorem dX9_hasRace_16 : decode cX9_hasRace 16 = .ok (.iload_n 1, 1) := by decide +kernel
theorem dX9_hasRace_17 : decode cX9_hasRace 17 = .ok (.iload_n 2, 1) := by decide +kernel
theorem dX9_hasRace_18 : decode cX9_hasRace 18 = .ok (.if_icmp .eq 11, 3) := by decide +kernel
theorem dX9_hasRace_21 : decode cX9_hasRace 21 = .ok (.aload_n 0, 1) := by decide +kernel
theorem dX9_hasRace_22 : decode cX9_hasRace 22 = .ok (.iload_n 3, 1) := by decide +kernel
theorem dX9_hasRace_23 : decode cX9_hasRace 23 = .ok (.invokevirtual 127, 3) := by decide +kernel
theorem dX9_hasRace_26 : decode cX9_hasRace 26 = .ok (.ifCond .ne 5, 3) := by decide +kernel
theorem dX9_hasRace_29 : decode cX9_hasRace 29 = .ok (.iconst 0, 1) := by decide +kernel
theorem dX9_hasRace_30 : decode cX9_hasRace 30 = .ok (.ireturn, 1) := by decide +kernel
theorem dX9_hasRace_31 : decode cX9_hasRace 31 = .ok (.aload_n 0, 1) := by decide +kernel
theorem dX9_hasRace_32 : decode cX9_hasRace 32 = .ok (.getfield 33, 3) := by decide +kernel
theorem dX9_hasRace_35 : decode cX9_hasRace 35 = .ok (.iload_n 1, 1) := by decide +kernel
theorem dX9_hasRace_36 : decode cX9_hasRace 36 = .ok (.iload_n 3, 1) := by decide +kernel
theorem dX9_hasRace_37 : decode cX9_hasRace 37 = .ok (.invokevirtual 189, 3) := by decide +kernel
theorem dX9_hasRace_40 : decode cX9_hasRace 40 = .ok (.ifCond .eq 15, 3) := by decide +kernel
theorem dX9_hasRace_43 : decode cX9_hasRace 43 = .ok (.aload_n 0, 1) := by decide +kernel
theorem dX9_hasRace_44 : decode cX9_hasRace 44 = .ok (.getfield 33, 3) := by decide +kernel
theorem dX9_hasRace_47 : decode cX9_hasRace 47 = .ok (.iload_n 2, 1) := by decide +kernel
theorem dX9_hasRace_48 : decode cX9_hasRace 48 = .ok (.iload_n 3, 1) := by decide +kernel
theorem dX9_hasRace_49 : decode cX9_hasRace 49 = .ok (.invokevirtual 189, 3) := by decide +kernel
theorem dX9_hasRace_52 : decode cX9_hasRace 52 = .ok (.ifCond .ne 5, 3) := by decide +kernel
theorem dX9_hasRace_55 : decode cX9_hasRace 55 = .ok (.iconst 0, 1) := by decide +kernel
theorem dX9_hasRace_56 : decode cX9_hasRace 56 = .ok (.ireturn, 1) := by decide +kernel
theorem dX9_hasRace_57 : decode cX9_hasRace 57 = .ok (.aload_n 0, 1) := by decide +kernel
theorem dX9_hasRace_58 : decode cX9_hasRace 58 = .ok (.getfield 61, 3) := by decide +kernel
theorem dX9_hasRace_61 : decode cX9_hasRace 61 = .ok (.aload_n 0, 1) := by decide +kernel
theorem dX9_hasRace_62 : decode cX9_hasRace 62 = .ok (.getfield 19, 3) := by decide +kernel
theorem dX9_hasRace_65 : decode cX9_hasRace 65 = .ok (.aload_n 0, 1) := by decide +kernel
theorem dX9_hasRace_66 : decode cX9_hasRace 66 = .ok (.getfield 33, 3) := by decide +kernel
theorem dX9_hasRace_69 : decode cX9_hasRace 69 = .ok (.getfield 130, 3) := by decide +kernel
theorem dX9_hasRace_72 : decode cX9_hasRace 72 = .ok (.iload_n 3, 1) := by decide +kernel
theorem dX9_hasRace_73 : decode cX9_hasRace 73 = .ok (.aaload, 1) := by decide +kernel
theorem dX9_hasRace_74 : decode cX9_hasRace 74 = .ok (.aload_n 0, 1) := by decide +kernel
theorem dX9_hasRace_75 : decode cX9_hasRace 75 = .ok (.getfield 33, 3) := by decide +kernel
theorem dX9_hasRace_78 : decode cX9_hasRace 78 = .ok (.getfield 138, 3) := by decide +kernel
theorem dX9_hasRace_81 : decode cX9_hasRace 81 = .ok (.iload_n 3, 1) := by decide +kernel
theorem dX9_hasRace_82 : decode cX9_hasRace 82 = .ok (.iaload, 1) := by decide +kernel
theorem dX9_hasRace_83 : decode cX9_hasRace 83 = .ok (.iload_n 1, 1) := by decide +kernel
theorem dX9_hasRace_84 : decode cX9_hasRace 84 = .ok (.iload_n 2, 1) := by decide +kernel
theorem dX9_hasRace_85 : decode cX9_hasRace 85 = .ok (.invokevirtual 386, 3) := by decide +kernel
theorem dX9_hasRace_88 : decode cX9_hasRace 88 = .ok (.iconst 1, 1) := by decide +kernel
theorem dX9_hasRace_89 : decode cX9_hasRace 89 = .ok (.ireturn, 1) := by decide +kernel
theorem dX9_hasTown_0 : decode cX9_hasTown 0 = .ok (.aload_n 0, 1) := by decide +kernel
theorem dX9_hasTown_1 : decode cX9_hasTown 1 = .ok (.getfield 19, 3) := by decide +kernel
theorem dX9_hasTown_4 : decode cX9_hasTown 4 = .ok (.getfield 98, 3) := by decide +kernel
theorem dX9_hasTown_7 : decode cX9_hasTown 7 = .ok (.ifCond .le 7, 3) := by decide +kernel
theorem dX9_hasTown_10 : decode cX9_hasTown 10 = .ok (.iconst 1, 1) := by decide +kernel
theorem dX9_hasTown_11 : decode cX9_hasTown 11 = .ok (.goto 4, 3) := by decide +kernel
theorem dX9_hasTown_14 : decode cX9_hasTown 14 = .ok (.iconst 0, 1) := by decide +kernel
theorem dX9_hasTown_15 : decode cX9_hasTown 15 = .ok (.ireturn, 1) := by decide +kernel
theorem dX9_hear_0 : decode cX9_hear 0 = .ok (.iload_n 1, 1) := by decide +kernel
theorem dX9_hear_1 : decode cX9_hear 1 = .ok (.invokestatic 253, 3) := by decide +kernel
theorem dX9_hear_4 : decode cX9_hear 4 = .ok (.ifCond .eq 10, 3) := by decide +kernel
theorem dX9_hear_7 : decode cX9_hear 7 = .ok (.aload_n 0, 1) := by decide +kernel
theorem dX9_hear_8 : decode cX9_hear 8 = .ok (.invokevirtual 166, 3) := by decide +kernel
theorem dX9_hear_11 : decode cX9_hear 11 = .ok (.ifCond .ne 6, 3) := by decide +kernel
theorem dX9_hear_14 : decode cX9_hear 14 = .ok (.bipush (-2), 2) := by decide +kernel
theorem dX9_hear_16 : decode cX9_hear 16 = .ok (.ireturn, 1) := by decide +kernel
theorem dX9_hear_17 : decode cX9_hear 17 = .ok (.aload_n 0, 1) := by decide +kernel
theorem dX9_hear_18 : decode cX9_hear 18 = .ok (.getfield 39, 3) := by decide +kernel
theorem dX9_hear_21 : decode cX9_hear 21 = .ok (.iload_n 1, 1) := by decide +kernel
theorem dX9_hear_22 : decode cX9_hear 22 = .ok (.aaload, 1) := by decide +kernel
theorem dX9_hear_23 : decode cX9_hear 23 = .ok (.invokevirtual 256, 3) := by decide +kernel
theorem dX9_hear_26 : decode cX9_hear 26 = .ok (.ifCond .ne 6, 3) := by decide +kernel
theorem dX9_hear_29 : decode cX9_hear 29 = .ok (.bipush (-6), 2) := by decide +kernel
theorem dX9_hear_31 : decode cX9_hear 31 = .ok (.ireturn, 1) := by decide +kernel
theorem dX9_hear_32 : decode cX9_hear 32 = .ok (.aload_n 0, 1) := by decide +kernel
theorem dX9_hear_33 : decode cX9_hear 33 = .ok (.getfield 68, 3) := by decide +kernel
theorem dX9_hear_36 : decode cX9_hear 36 = .ok (.aload_n 0, 1) := by decide +kernel
theorem dX9_hear_37 : decode cX9_hear 37 = .ok (.getfield 39, 3) := by decide +kernel
theorem dX9_hear_40 : decode cX9_hear 40 = .ok (.iload_n 1, 1) := by decide +kernel
theorem dX9_hear_41 : decode cX9_hear 41 = .ok (.aaload, 1) := by decide +kernel
theorem dX9_hear_42 : decode cX9_hear 42 = .ok (.aload_n 0, 1) := by decide +kernel
theorem dX9_hear_43 : decode cX9_hear 43 = .ok (.getfield 33, 3) := by decide +kernel
theorem dX9_hear_46 : decode cX9_hear 46 = .ok (.getfield 173, 3) := by decide +kernel
theorem dX9_hear_49 : decode cX9_hear 49 = .ok (.invokevirtual 400, 3) := by decide +kernel
theorem dX9_hear_52 : decode cX9_hear 52 = .ok (.ifCond .eq 7, 3) := by decide +kernel
theorem dX9_hear_55 : decode cX9_hear 55 = .ok (.iconst 0, 1) := by decide +kernel
theorem dX9_hear_56 : decode cX9_hear 56 = .ok (.goto 5, 3) := by decide +kernel
theorem dX9_hear_59 : decode cX9_hear 59 = .ok (.bipush (-2), 2) := by decide +kernel
theorem dX9_hear_61 : decode cX9_hear 61 = .ok (.ireturn, 1) := by decide +kernel
theorem dX9_heir_0 : decode cX9_heir 0 = .ok (.aload_n 0, 1) := by decide +kernel
theorem dX9_heir_1 : decode cX9_heir 1 = .ok (.iload_n 1, 1) := by decide +kernel
theorem dX9_heir_2 : decode cX9_heir 2 = .ok (.invokevirtual 127, 3) := by decide +kernel
theorem dX9_heir_5 : decode cX9_heir 5 = .ok (.ifCond .eq 23, 3) := by decide +kernel
theorem dX9_heir_8 : decode cX9_heir 8 = .ok (.aload_n 0, 1) := by decide +kernel
theorem dX9_heir_9 : decode cX9_heir 9 = .ok (.getfield 33, 3) := by decide +kernel
theorem dX9_heir_12 : decode cX9_heir 12 = .ok (.getfield 130, 3) := by decide +kernel
theorem dX9_heir_15 : decode cX9_heir 15 = .ok (.iload_n 1, 1) := by decide +kernel
theorem dX9_heir_16 : decode cX9_heir 16 = .ok (.aaload, 1) := by decide +kernel
theorem dX9_heir_17 : decode cX9_heir 17 = .ok (.aload_n 0, 1) := by decide +kernel
theorem dX9_heir_18 : decode cX9_heir 18 = .ok (.iload_n 1, 1) := by decide +kernel
theorem dX9_heir_19 : decode cX9_heir 19 = .ok (.invokevirtual 156, 3) := by decide +kernel
theorem dX9_heir_22 : decode cX9_heir 22 = .ok (.invokestatic 205, 3) := by decide +kernel
theorem dX9_heir_25 : decode cX9_heir 25 = .ok (.goto 5, 3) := by decide +kernel
theorem dX9_heir_28 : decode cX9_heir 28 = .ok (.bipush (-2), 2) := by decide +kernel
theorem dX9_heir_30 : decode cX9_heir 30 = .ok (.ireturn, 1) := by decide +kernel
theorem dX9_image_0 : decode cX9_image 0 = .ok (.iload_n 1, 1) := by decide +kernel
theorem dX9_image_1 : decode cX9_image 1 = .ok (.iconst 0, 1) := by decide +kernel
theorem dX9_image_2 : decode cX9_image 2 = .ok (.iconst 2, 1) := by decide +kernel
theorem dX9_image_3 : decode cX9_image 3 = .ok (.invokestatic 148, 3) := by decide +kernel
theorem dX9_image_6 : decode cX9_image 6 = .ok (.ifCond .ne 6, 3) := by decide +kernel
theorem dX9_image_9 : decode cX9_image 9 = .ok (.bipush (-2), 2) := by decide +kernel
theorem dX9_image_11 : decode cX9_image 11 = .ok (.ireturn, 1) := by decide +kernel
theorem dX9_image_12 : decode cX9_image 12 = .ok (.aload_n 0, 1) := by decide +kernel
theorem dX9_image_13 : decode cX9_image 13 = .ok (.getfield 26, 3) := by decide +kernel
theorem dX9_image_16 : decode cX9_image 16 = .ok (.iload_n 1, 1) := by decide +kernel
theorem dX9_image_17 : decode cX9_image 17 = .ok (.aaload, 1) := by decide +kernel
theorem dX9_image_18 : decode cX9_image 18 = .ok (.aload_n 0, 1) := by decide +kernel
theorem dX9_image_19 : decode cX9_image 19 = .ok (.getfield 19, 3) := by decide +kernel
theorem dX9_image_22 : decode cX9_image 22 = .ok (.invokevirtual 91, 3) := by decide +kernel
theorem dX9_image_25 : decode cX9_image 25 = .ok (.aload_n 0, 1) := by decide +kernel
theorem dX9_image_26 : decode cX9_image 26 = .ok (.dup, 1) := by decide +kernel
theorem dX9_image_27 : decode cX9_image 27 = .ok (.getfield 354, 3) := by decide +kernel
theorem dX9_image_30 : decode cX9_image 30 = .ok (.iconst 1, 1) := by decide +kernel
theorem dX9_image_31 : decode cX9_image 31 = .ok (.iload_n 1, 1) := by decide +kernel
theorem dX9_image_32 : decode cX9_image 32 = .ok (.ishl, 1) := by decide +kernel
theorem dX9_image_33 : decode cX9_image 33 = .ok (.ior, 1) := by decide +kernel
theorem dX9_image_34 : decode cX9_image 34 = .ok (.putfield 354, 3) := by decide +kernel
theorem dX9_image_37 : decode cX9_image 37 = .ok (.iconst 0, 1) := by decide +kernel
theorem dX9_image_38 : decode cX9_image 38 = .ok (.ireturn, 1) := by decide +kernel
theorem dX9_init_0 : decode cX9_init 0 = .ok (.aload_n 0, 1) := by decide +kernel
theorem dX9_init_1 : decode cX9_init 1 = .ok (.invokespecial 1, 3) := by decide +kernel
theorem dX9_init_4 : decode cX9_init 4 = .ok (.aload_n 0, 1) := by decide +kernel
theorem dX9_init_5 : decode cX9_init 5 = .ok (.new 7, 3) := by decide +kernel
theorem dX9_init_8 : decode cX9_init 8 = .ok (.dup, 1) := by decide +kernel
theorem dX9_init_9 : decode cX9_init 9 = .ok (.invokespecial 9, 3) := by decide +kernel
theorem dX9_init_12 : decode cX9_init 12 = .ok (.putfield 10, 3) := by decide +kernel
theorem dX9_init_15 : decode cX9_init 15 = .ok (.aload_n 0, 1) := by decide +kernel
theorem dX9_init_16 : decode cX9_init 16 = .ok (.new 16, 3) := by decide +kernel
theorem dX9_init_19 : decode cX9_init 19 = .ok (.dup, 1) := by decide +kernel
theorem dX9_init_20 : decode cX9_init 20 = .ok (.invokespecial 18, 3) := by decide +kernel
theorem dX9_init_23 : decode cX9_init 23 = .ok (.putfield 19, 3) := by decide +kernel
theorem dX9_init_26 : decode cX9_init 26 = .ok (.aload_n 0, 1) := by decide +kernel
theorem dX9_init_27 : decode cX9_init 27 = .ok (.new 16, 3) := by decide +kernel
theorem dX9_init_30 : decode cX9_init 30 = .ok (.dup, 1) := by decide +kernel
theorem dX9_init_31 : decode cX9_init 31 = .ok (.invokespecial 18, 3) := by decide +kernel
theorem dX9_init_34 : decode cX9_init 34 = .ok (.putfield 23, 3) := by decide +kernel
theorem dX9_init_37 : decode cX9_init 37 = .ok (.aload_n 0, 1) := by decide +kernel
theorem dX9_init_38 : decode cX9_init 38 = .ok (.iconst 3, 1) := by decide +kernel
theorem dX9_init_39 : decode cX9_init 39 = .ok (.anewarray 16, 3) := by decide +kernel
theorem dX9_init_42 : decode cX9_init 42 = .ok (.putfield 26, 3) := by decide +kernel
theorem dX9_init_45 : decode cX9_init 45 = .ok (.iconst 0, 1) := by decide +kernel
theorem dX9_init_46 : decode cX9_init 46 = .ok (.istore_n 1, 1) := by decide +kernel
theorem dX9_init_47 : decode cX9_init 47 = .ok (.iload_n 1, 1) := by decide +kernel
theorem dX9_init_48 : decode cX9_init 48 = .ok (.iconst 3, 1) := by decide +kernel
theorem dX9_init_49 : decode cX9_init 49 = .ok (.if_icmp .ge 22, 3) := by decide +kernel
theorem dX9_init_52 : decode cX9_init 52 = .ok (.aload_n 0, 1) := by decide +kernel
theorem dX9_init_53 : decode cX9_init 53 = .ok (.getfield 26, 3) := by decide +kernel
theorem dX9_init_56 : decode cX9_init 56 = .ok (.iload_n 1, 1) := by decide +kernel
theorem dX9_init_57 : decode cX9_init 57 = .ok (.new 16, 3) := by decide +kernel
theorem dX9_init_60 : decode cX9_init 60 = .ok (.dup, 1) := by decide +kernel
theorem dX9_init_61 : decode cX9_init 61 = .ok (.invokespecial 18, 3) := by decide +kernel
theorem dX9_init_64 : decode cX9_init 64 = .ok (.aastore, 1) := by decide +kernel
theorem dX9_init_65 : decode cX9_init 65 = .ok (.iinc 1 1, 3) := by decide +kernel
theorem dX9_init_68 : decode cX9_init 68 = .ok (.goto (-21), 3) := by decide +kernel
theorem dX9_init_71 : decode cX9_init 71 = .ok (.aload_n 0, 1) := by decide +kernel
theorem dX9_init_72 : decode cX9_init 72 = .ok (.new 30, 3) := by decide +kernel
theorem dX9_init_75 : decode cX9_init 75 = .ok (.dup, 1) := by decide +kernel
theorem dX9_init_76 : decode cX9_init 76 = .ok (.invokespecial 32, 3) := by decide +kernel
theorem dX9_init_79 : decode cX9_init 79 = .ok (.putfield 33, 3) := by decide +kernel
theorem dX9_init_82 : decode cX9_init 82 = .ok (.aload_n 0, 1) := by decide +kernel
theorem dX9_init_83 : decode cX9_init 83 = .ok (.iconst 4, 1) := by decide +kernel
theorem dX9_init_84 : decode cX9_init 84 = .ok (.anewarray 37, 3) := by decide +kernel
theorem dX9_init_87 : decode cX9_init 87 = .ok (.putfield 39, 3) := by decide +kernel
theorem dX9_init_90 : decode cX9_init 90 = .ok (.iconst 0, 1) := by decide +kernel
theorem dX9_init_91 : decode cX9_init 91 = .ok (.istore_n 1, 1) := by decide +kernel
theorem dX9_init_92 : decode cX9_init 92 = .ok (.iload_n 1, 1) := by decide +kernel
theorem dX9_init_93 : decode cX9_init 93 = .ok (.iconst 4, 1) := by decide +kernel
theorem dX9_init_94 : decode cX9_init 94 = .ok (.if_icmp .ge 22, 3) := by decide +kernel
theorem dX9_init_97 : decode cX9_init 97 = .ok (.aload_n 0, 1) := by decide +kernel
theorem dX9_init_98 : decode cX9_init 98 = .ok (.getfield 39, 3) := by decide +kernel
theorem dX9_init_101 : decode cX9_init 101 = .ok (.iload_n 1, 1) := by decide +kernel
theorem dX9_init_102 : decode cX9_init 102 = .ok (.new 37, 3) := by decide +kernel
theorem dX9_init_105 : decode cX9_init 105 = .ok (.dup, 1) := by decide +kernel
theorem dX9_init_106 : decode cX9_init 106 = .ok (.invokespecial 43, 3) := by decide +kernel
theorem dX9_init_109 : decode cX9_init 109 = .ok (.aastore, 1) := by decide +kernel
theorem dX9_init_110 : decode cX9_init 110 = .ok (.iinc 1 1, 3) := by decide +kernel
theorem dX9_init_113 : decode cX9_init 113 = .ok (.goto (-21), 3) := by decide +kernel
theorem dX9_init_116 : decode cX9_init 116 = .ok (.aload_n 0, 1) := by decide +kernel
theorem dX9_init_117 : decode cX9_init 117 = .ok (.new 44, 3) := by decide +kernel
theorem dX9_init_120 : decode cX9_init 120 = .ok (.dup, 1) := by decide +kernel
theorem dX9_init_121 : decode cX9_init 121 = .ok (.invokespecial 46, 3) := by decide +kernel
theorem dX9_init_124 : decode cX9_init 124 = .ok (.putfield 47, 3) := by decide +kernel
theorem dX9_init_127 : decode cX9_init 127 = .ok (.aload_n 0, 1) := by decide +kernel
theorem dX9_init_128 : decode cX9_init 128 = .ok (.new 51, 3) := by decide +kernel
theorem dX9_init_131 : decode cX9_init 131 = .ok (.dup, 1) := by decide +kernel
theorem dX9_init_132 : decode cX9_init 132 = .ok (.invokespecial 53, 3) := by decide +kernel
theorem dX9_init_135 : decode cX9_init 135 = .ok (.putfield 54, 3) := by decide +kernel
theorem dX9_init_138 : decode cX9_init 138 = .ok (.aload_n 0, 1) := by decide +kernel
theorem dX9_init_139 : decode cX9_init 139 = .ok (.new 58, 3) := by decide +kernel
theorem dX9_init_142 : decode cX9_init 142 = .ok (.dup, 1) := by decide +kernel
theorem dX9_init_143 : decode cX9_init 143 = .ok (.invokespecial 60, 3) := by decide +kernel
theorem dX9_init_146 : decode cX9_init 146 = .ok (.putfield 61, 3) := by decide +kernel
theorem dX9_init_149 : decode cX9_init 149 = .ok (.aload_n 0, 1) := by decide +kernel
theorem dX9_init_150 : decode cX9_init 150 = .ok (.new 65, 3) := by decide +kernel
theorem dX9_init_153 : decode cX9_init 153 = .ok (.dup, 1) := by decide +kernel
theorem dX9_init_154 : decode cX9_init 154 = .ok (.invokespecial 67, 3) := by decide +kernel
theorem dX9_init_157 : decode cX9_init 157 = .ok (.putfield 68, 3) := by decide +kernel
theorem dX9_init_160 : decode cX9_init 160 = .ok (.aload_n 0, 1) := by decide +kernel
theorem dX9_init_161 : decode cX9_init 161 = .ok (.new 72, 3) := by decide +kernel
theorem dX9_init_164 : decode cX9_init 164 = .ok (.dup, 1) := by decide +kernel
theorem dX9_init_165 : decode cX9_init 165 = .ok (.invokespecial 74, 3) := by decide +kernel
theorem dX9_init_168 : decode cX9_init 168 = .ok (.putfield 75, 3) := by decide +kernel
theorem dX9_init_171 : decode cX9_init 171 = .ok (.return_, 1) := by decide +kernel
theorem dX9_isClock_0 : decode cX9_isClock 0 = .ok (.iload_n 1, 1) := by decide +kernel
theorem dX9_isClock_1 : decode cX9_isClock 1 = .ok (.ifCond .lt 18, 3) := by decide +kernel
theorem dX9_isClock_4 : decode cX9_isClock 4 = .ok (.iload_n 1, 1) := by decide +kernel
theorem dX9_isClock_5 : decode cX9_isClock 5 = .ok (.aload_n 0, 1) := by decide +kernel
theorem dX9_isClock_6 : decode cX9_isClock 6 = .ok (.getfield 33, 3) := by decide +kernel
theorem dX9_isClock_9 : decode cX9_isClock 9 = .ok (.getfield 182, 3) := by decide +kernel
theorem dX9_isClock_12 : decode cX9_isClock 12 = .ok (.if_icmp .ge 7, 3) := by decide +kernel
theorem dX9_isClock_15 : decode cX9_isClock 15 = .ok (.iconst 1, 1) := by decide +kernel
theorem dX9_isClock_16 : decode cX9_isClock 16 = .ok (.goto 4, 3) := by decide +kernel
theorem dX9_isClock_19 : decode cX9_isClock 19 = .ok (.iconst 0, 1) := by decide +kernel
theorem dX9_isClock_20 : decode cX9_isClock 20 = .ok (.ireturn, 1) := by decide +kernel
theorem dX9_isDay_0 : decode cX9_isDay 0 = .ok (.iload_n 1, 1) := by decide +kernel
theorem dX9_isDay_1 : decode cX9_isDay 1 = .ok (.ifCond .lt 18, 3) := by decide +kernel
theorem dX9_isDay_4 : decode cX9_isDay 4 = .ok (.iload_n 1, 1) := by decide +kernel
theorem dX9_isDay_5 : decode cX9_isDay 5 = .ok (.aload_n 0, 1) := by decide +kernel
theorem dX9_isDay_6 : decode cX9_isDay 6 = .ok (.getfield 33, 3) := by decide +kernel
theorem dX9_isDay_9 : decode cX9_isDay 9 = .ok (.getfield 173, 3) := by decide +kernel
theorem dX9_isDay_12 : decode cX9_isDay 12 = .ok (.if_icmp .ge 7, 3) := by decide +kernel
theorem dX9_isDay_15 : decode cX9_isDay 15 = .ok (.iconst 1, 1) := by decide +kernel
theorem dX9_isDay_16 : decode cX9_isDay 16 = .ok (.goto 4, 3) := by decide +kernel
theorem dX9_isDay_19 : decode cX9_isDay 19 = .ok (.iconst 0, 1) := by decide +kernel
theorem dX9_isDay_20 : decode cX9_isDay 20 = .ok (.ireturn, 1) := by decide +kernel
theorem dX9_isMinute_0 : decode cX9_isMinute 0 = .ok (.iload_n 0, 1) := by decide +kernel
theorem dX9_isMinute_1 : decode cX9_isMinute 1 = .ok (.iconst 0, 1) := by decide +kernel
theorem dX9_isMinute_2 : decode cX9_isMinute 2 = .ok (.sipush 600, 3) := by decide +kernel
theorem dX9_isMinute_5 : decode cX9_isMinute 5 = .ok (.invokestatic 148, 3) := by decide +kernel
theorem dX9_isMinute_8 : decode cX9_isMinute 8 = .ok (.ireturn, 1) := by decide +kernel
theorem dX9_isSlot_0 : decode cX9_isSlot 0 = .ok (.iload_n 0, 1) := by decide +kernel
theorem dX9_isSlot_1 : decode cX9_isSlot 1 = .ok (.iconst 0, 1) := by decide +kernel
theorem dX9_isSlot_2 : decode cX9_isSlot 2 = .ok (.iconst 3, 1) := by decide +kernel
theorem dX9_isSlot_3 : decode cX9_isSlot 3 = .ok (.invokestatic 148, 3) := by decide +kernel
theorem dX9_isSlot_6 : decode cX9_isSlot 6 = .ok (.ireturn, 1) := by decide +kernel
theorem dX9_isWithin_0 : decode cX9_isWithin 0 = .ok (.iload_n 0, 1) := by decide +kernel
theorem dX9_isWithin_1 : decode cX9_isWithin 1 = .ok (.iload_n 1, 1) := by decide +kernel
theorem dX9_isWithin_2 : decode cX9_isWithin 2 = .ok (.if_icmp .lt 12, 3) := by decide +kernel
theorem dX9_isWithin_5 : decode cX9_isWithin 5 = .ok (.iload_n 0, 1) := by decide +kernel
theorem dX9_isWithin_6 : decode cX9_isWithin 6 = .ok (.iload_n 2, 1) := by decide +kernel
theorem dX9_isWithin_7 : decode cX9_isWithin 7 = .ok (.if_icmp .gt 7, 3) := by decide +kernel
theorem dX9_isWithin_10 : decode cX9_isWithin 10 = .ok (.iconst 1, 1) := by decide +kernel
theorem dX9_isWithin_11 : decode cX9_isWithin 11 = .ok (.goto 4, 3) := by decide +kernel
theorem dX9_isWithin_14 : decode cX9_isWithin 14 = .ok (.iconst 0, 1) := by decide +kernel
theorem dX9_isWithin_15 : decode cX9_isWithin 15 = .ok (.ireturn, 1) := by decide +kernel
theorem dX9_late_0 : decode cX9_late 0 = .ok (.aload_n 0, 1) := by decide +kernel
theorem dX9_late_1 : decode cX9_late 1 = .ok (.iload_n 1, 1) := by decide +kernel
theorem dX9_late_2 : decode cX9_late 2 = .ok (.invokevirtual 107, 3) := by decide +kernel
theorem dX9_late_5 : decode cX9_late 5 = .ok (.ifCond .eq 25, 3) := by decide +kernel
theorem dX9_late_8 : decode cX9_late 8 = .ok (.aload_n 0, 1) := by decide +kernel
theorem dX9_late_9 : decode cX9_late 9 = .ok (.iload_n 2, 1) := by decide +kernel
theorem dX9_late_10 : decode cX9_late 10 = .ok (.invokevirtual 127, 3) := by decide +kernel
theorem dX9_late_13 : decode cX9_late 13 = .ok (.ifCond .eq 17, 3) := by decide +kernel
theorem dX9_late_16 : decode cX9_late 16 = .ok (.aload_n 0, 1) := by decide +kernel
theorem dX9_late_17 : decode cX9_late 17 = .ok (.getfield 33, 3) := by decide +kernel
theorem dX9_late_20 : decode cX9_late 20 = .ok (.getfield 130, 3) := by decide +kernel
theorem dX9_late_23 : decode cX9_late 23 = .ok (.iload_n 2, 1) := by decide +kernel
theorem dX9_late_24 : decode cX9_late 24 = .ok (.aaload, 1) := by decide +kernel
theorem dX9_late_25 : decode cX9_late 25 = .ok (.iload_n 1, 1) := by decide +kernel
theorem dX9_late_26 : decode cX9_late 26 = .ok (.iaload, 1) := by decide +kernel
theorem dX9_late_27 : decode cX9_late 27 = .ok (.goto 6, 3) := by decide +kernel
theorem dX9_late_30 : decode cX9_late 30 = .ok (.sipush (-1000), 3) := by decide +kernel
theorem dX9_late_33 : decode cX9_late 33 = .ok (.ireturn, 1) := by decide +kernel
theorem dX9_law_0 : decode cX9_law 0 = .ok (.iload_n 1, 1) := by decide +kernel
theorem dX9_law_1 : decode cX9_law 1 = .ok (.invokestatic 208, 3) := by decide +kernel
theorem dX9_law_4 : decode cX9_law 4 = .ok (.ifCond .eq 10, 3) := by decide +kernel
theorem dX9_law_7 : decode cX9_law 7 = .ok (.aload_n 0, 1) := by decide +kernel
theorem dX9_law_8 : decode cX9_law 8 = .ok (.invokevirtual 166, 3) := by decide +kernel
theorem dX9_law_11 : decode cX9_law 11 = .ok (.ifCond .ne 6, 3) := by decide +kernel
theorem dX9_law_14 : decode cX9_law 14 = .ok (.bipush (-2), 2) := by decide +kernel
theorem dX9_law_16 : decode cX9_law 16 = .ok (.ireturn, 1) := by decide +kernel
theorem dX9_law_17 : decode cX9_law 17 = .ok (.bipush 6, 2) := by decide +kernel
theorem dX9_law_19 : decode cX9_law 19 = .ok (.istore_n 2, 1) := by decide +kernel
theorem dX9_law_20 : decode cX9_law 20 = .ok (.iconst 0, 1) := by decide +kernel
theorem dX9_law_21 : decode cX9_law 21 = .ok (.istore_n 3, 1) := by decide +kernel
theorem dX9_law_22 : decode cX9_law 22 = .ok (.iload_n 3, 1) := by decide +kernel
theorem dX9_law_23 : decode cX9_law 23 = .ok (.aload_n 0, 1) := by decide +kernel
theorem dX9_law_24 : decode cX9_law 24 = .ok (.getfield 33, 3) := by decide +kernel
theorem dX9_law_27 : decode cX9_law 27 = .ok (.getfield 173, 3) := by decide +kernel
theorem dX9_law_30 : decode cX9_law 30 = .ok (.if_icmp .ge 34, 3) := by decide +kernel
theorem dX9_law_33 : decode cX9_law 33 = .ok (.iload_n 2, 1) := by decide +kernel
theorem dX9_law_34 : decode cX9_law 34 = .ok (.ifCond .le 24, 3) := by decide +kernel
theorem dX9_law_37 : decode cX9_law 37 = .ok (.aload_n 0, 1) := by decide +kernel
theorem dX9_law_38 : decode cX9_law 38 = .ok (.getfield 33, 3) := by decide +kernel
theorem dX9_law_41 : decode cX9_law 41 = .ok (.iload_n 3, 1) := by decide +kernel
theorem dX9_law_42 : decode cX9_law 42 = .ok (.iload_n 2, 1) := by decide +kernel
theorem dX9_law_43 : decode cX9_law 43 = .ok (.iconst 1, 1) := by decide +kernel
theorem dX9_law_44 : decode cX9_law 44 = .ok (.isub, 1) := by decide +kernel
theorem dX9_law_45 : decode cX9_law 45 = .ok (.invokevirtual 267, 3) := by decide +kernel
theorem dX9_law_48 : decode cX9_law 48 = .ok (.iload_n 1, 1) := by decide +kernel
theorem dX9_law_49 : decode cX9_law 49 = .ok (.if_icmp .le 9, 3) := by decide +kernel
theorem dX9_law_52 : decode cX9_law 52 = .ok (.iinc 2 (-1), 3) := by decide +kernel
theorem dX9_law_55 : decode cX9_law 55 = .ok (.goto (-22), 3) := by decide +kernel
theorem dX9_law_58 : decode cX9_law 58 = .ok (.iinc 3 1, 3) := by decide +kernel
theorem dX9_law_61 : decode cX9_law 61 = .ok (.goto (-39), 3) := by decide +kernel
theorem dX9_law_64 : decode cX9_law 64 = .ok (.iload_n 2, 1) := by decide +kernel
theorem dX9_law_65 : decode cX9_law 65 = .ok (.ireturn, 1) := by decide +kernel
theorem dX9_likely_0 : decode cX9_likely 0 = .ok (.aload_n 0, 1) := by decide +kernel
theorem dX9_likely_1 : decode cX9_likely 1 = .ok (.iload_n 1, 1) := by decide +kernel
theorem dX9_likely_2 : decode cX9_likely 2 = .ok (.invokevirtual 127, 3) := by decide +kernel
theorem dX9_likely_5 : decode cX9_likely 5 = .ok (.ifCond .eq 11, 3) := by decide +kernel
theorem dX9_likely_8 : decode cX9_likely 8 = .ok (.aload_n 0, 1) := by decide +kernel
theorem dX9_likely_9 : decode cX9_likely 9 = .ok (.iload_n 1, 1) := by decide +kernel
theorem dX9_likely_10 : decode cX9_likely 10 = .ok (.invokevirtual 141, 3) := by decide +kernel
theorem dX9_likely_13 : decode cX9_likely 13 = .ok (.goto 5, 3) := by decide +kernel
theorem dX9_likely_16 : decode cX9_likely 16 = .ok (.bipush (-2), 2) := by decide +kernel
theorem dX9_likely_18 : decode cX9_likely 18 = .ok (.ireturn, 1) := by decide +kernel
theorem dX9_lodge_0 : decode cX9_lodge 0 = .ok (.aload_n 0, 1) := by decide +kernel
theorem dX9_lodge_1 : decode cX9_lodge 1 = .ok (.iload_n 1, 1) := by decide +kernel
theorem dX9_lodge_2 : decode cX9_lodge 2 = .ok (.invokevirtual 127, 3) := by decide +kernel
theorem dX9_lodge_5 : decode cX9_lodge 5 = .ok (.ifCond .ne 6, 3) := by decide +kernel
theorem dX9_lodge_8 : decode cX9_lodge 8 = .ok (.bipush (-2), 2) := by decide +kernel
theorem dX9_lodge_10 : decode cX9_lodge 10 = .ok (.ireturn, 1) := by decide +kernel
theorem dX9_lodge_11 : decode cX9_lodge 11 = .ok (.aload_n 0, 1) := by decide +kernel
theorem dX9_lodge_12 : decode cX9_lodge 12 = .ok (.getfield 54, 3) := by decide +kernel
theorem dX9_lodge_15 : decode cX9_lodge 15 = .ok (.aload_n 0, 1) := by decide +kernel
theorem dX9_lodge_16 : decode cX9_lodge 16 = .ok (.getfield 19, 3) := by decide +kernel
theorem dX9_lodge_19 : decode cX9_lodge 19 = .ok (.aload_n 0, 1) := by decide +kernel
theorem dX9_lodge_20 : decode cX9_lodge 20 = .ok (.getfield 33, 3) := by decide +kernel
theorem dX9_lodge_23 : decode cX9_lodge 23 = .ok (.getfield 130, 3) := by decide +kernel
theorem dX9_lodge_26 : decode cX9_lodge 26 = .ok (.iload_n 1, 1) := by decide +kernel
theorem dX9_lodge_27 : decode cX9_lodge 27 = .ok (.aaload, 1) := by decide +kernel
theorem dX9_lodge_28 : decode cX9_lodge 28 = .ok (.invokevirtual 234, 3) := by decide +kernel
theorem dX9_lodge_31 : decode cX9_lodge 31 = .ok (.iconst 0, 1) := by decide +kernel
theorem dX9_lodge_32 : decode cX9_lodge 32 = .ok (.istore_n 2, 1) := by decide +kernel
theorem dX9_lodge_33 : decode cX9_lodge 33 = .ok (.sipush 10000, 3) := by decide +kernel
theorem dX9_lodge_36 : decode cX9_lodge 36 = .ok (.istore_n 3, 1) := by decide +kernel
theorem dX9_lodge_37 : decode cX9_lodge 37 = .ok (.iconst 0, 1) := by decide +kernel
theorem dX9_lodge_38 : decode cX9_lodge 38 = .ok (.istore 4, 2) := by decide +kernel
theorem dX9_lodge_40 : decode cX9_lodge 40 = .ok (.iload 4, 2) := by decide +kernel
theorem dX9_lodge_42 : decode cX9_lodge 42 = .ok (.bipush 10, 2) := by decide +kernel
theorem dX9_lodge_44 : decode cX9_lodge 44 = .ok (.if_icmp .ge 49, 3) := by decide +kernel
theorem dX9_lodge_47 : decode cX9_lodge 47 = .ok (.aload_n 0, 1) := by decide +kernel
theorem dX9_lodge_48 : decode cX9_lodge 48 = .ok (.getfield 54, 3) := by decide +kernel
theorem dX9_lodge_51 : decode cX9_lodge 51 = .ok (.iload 4, 2) := by decide +kernel
theorem dX9_lodge_53 : decode cX9_lodge 53 = .ok (.aload_n 0, 1) := by decide +kernel
theorem dX9_lodge_54 : decode cX9_lodge 54 = .ok (.getfield 33, 3) := by decide +kernel
theorem dX9_lodge_57 : decode cX9_lodge 57 = .ok (.getfield 138, 3) := by decide +kernel
theorem dX9_lodge_60 : decode cX9_lodge 60 = .ok (.iload_n 1, 1) := by decide +kernel
theorem dX9_lodge_61 : decode cX9_lodge 61 = .ok (.iaload, 1) := by decide +kernel
theorem dX9_lodge_62 : decode cX9_lodge 62 = .ok (.invokevirtual 241, 3) := by decide +kernel
theorem dX9_lodge_65 : decode cX9_lodge 65 = .ok (.aload_n 0, 1) := by decide +kernel
theorem dX9_lodge_66 : decode cX9_lodge 66 = .ok (.getfield 54, 3) := by decide +kernel
theorem dX9_lodge_69 : decode cX9_lodge 69 = .ok (.getfield 244, 3) := by decide +kernel
theorem dX9_lodge_72 : decode cX9_lodge 72 = .ok (.iload_n 3, 1) := by decide +kernel
theorem dX9_lodge_73 : decode cX9_lodge 73 = .ok (.if_icmp .ge 14, 3) := by decide +kernel
theorem dX9_lodge_76 : decode cX9_lodge 76 = .ok (.aload_n 0, 1) := by decide +kernel
theorem dX9_lodge_77 : decode cX9_lodge 77 = .ok (.getfield 54, 3) := by decide +kernel
theorem dX9_lodge_80 : decode cX9_lodge 80 = .ok (.getfield 244, 3) := by decide +kernel
theorem dX9_lodge_83 : decode cX9_lodge 83 = .ok (.istore_n 3, 1) := by decide +kernel
theorem dX9_lodge_84 : decode cX9_lodge 84 = .ok (.iload 4, 2) := by decide +kernel
theorem dX9_lodge_86 : decode cX9_lodge 86 = .ok (.istore_n 2, 1) := by decide +kernel
theorem dX9_lodge_87 : decode cX9_lodge 87 = .ok (.iinc 4 1, 3) := by decide +kernel
theorem dX9_lodge_90 : decode cX9_lodge 90 = .ok (.goto (-50), 3) := by decide +kernel
theorem dX9_lodge_93 : decode cX9_lodge 93 = .ok (.iload_n 2, 1) := by decide +kernel
theorem dX9_lodge_94 : decode cX9_lodge 94 = .ok (.ireturn, 1) := by decide +kernel
theorem dX9_luck_0 : decode cX9_luck 0 = .ok (.iload_n 1, 1) := by decide +kernel
theorem dX9_luck_1 : decode cX9_luck 1 = .ok (.iconst 0, 1) := by decide +kernel
theorem dX9_luck_2 : decode cX9_luck 2 = .ok (.ldc_w 328, 3) := by decide +kernel
theorem dX9_luck_5 : decode cX9_luck 5 = .ok (.invokestatic 148, 3) := by decide +kernel
theorem dX9_luck_8 : decode cX9_luck 8 = .ok (.ifCond .eq 30, 3) := by decide +kernel
theorem dX9_luck_11 : decode cX9_luck 11 = .ok (.iload_n 2, 1) := by decide +kernel
theorem dX9_luck_12 : decode cX9_luck 12 = .ok (.iconst 1, 1) := by decide +kernel
theorem dX9_luck_13 : decode cX9_luck 13 = .ok (.bipush 20, 2) := by decide +kernel
theorem dX9_luck_15 : decode cX9_luck 15 = .ok (.invokestatic 148, 3) := by decide +kernel
theorem dX9_luck_18 : decode cX9_luck 18 = .ok (.ifCond .eq 20, 3) := by decide +kernel
theorem dX9_luck_21 : decode cX9_luck 21 = .ok (.aload_n 0, 1) := by decide +kernel
theorem dX9_luck_22 : decode cX9_luck 22 = .ok (.iload_n 3, 1) := by decide +kernel
theorem dX9_luck_23 : decode cX9_luck 23 = .ok (.invokevirtual 107, 3) := by decide +kernel
theorem dX9_luck_26 : decode cX9_luck 26 = .ok (.ifCond .eq 12, 3) := by decide +kernel
theorem dX9_luck_29 : decode cX9_luck 29 = .ok (.aload_n 0, 1) := by decide +kernel
theorem dX9_luck_30 : decode cX9_luck 30 = .ok (.iload 4, 2) := by decide +kernel
theorem dX9_luck_32 : decode cX9_luck 32 = .ok (.invokevirtual 127, 3) := by decide +kernel
theorem dX9_luck_35 : decode cX9_luck 35 = .ok (.ifCond .ne 6, 3) := by decide +kernel
theorem dX9_luck_38 : decode cX9_luck 38 = .ok (.bipush (-2), 2) := by decide +kernel
theorem dX9_luck_40 : decode cX9_luck 40 = .ok (.ireturn, 1) := by decide +kernel
theorem dX9_luck_41 : decode cX9_luck 41 = .ok (.iconst 0, 1) := by decide +kernel
theorem dX9_luck_42 : decode cX9_luck 42 = .ok (.istore 5, 2) := by decide +kernel
theorem dX9_luck_44 : decode cX9_luck 44 = .ok (.iconst 0, 1) := by decide +kernel
theorem dX9_luck_45 : decode cX9_luck 45 = .ok (.istore 6, 2) := by decide +kernel
theorem dX9_luck_47 : decode cX9_luck 47 = .ok (.iload 6, 2) := by decide +kernel
theorem dX9_luck_49 : decode cX9_luck 49 = .ok (.iload_n 2, 1) := by decide +kernel
theorem dX9_luck_50 : decode cX9_luck 50 = .ok (.if_icmp .ge 26, 3) := by decide +kernel
theorem dX9_luck_53 : decode cX9_luck 53 = .ok (.aload_n 0, 1) := by decide +kernel
theorem dX9_luck_54 : decode cX9_luck 54 = .ok (.iload_n 1, 1) := by decide +kernel
theorem dX9_luck_55 : decode cX9_luck 55 = .ok (.iload 6, 2) := by decide +kernel
theorem dX9_luck_57 : decode cX9_luck 57 = .ok (.iadd, 1) := by decide +kernel
theorem dX9_luck_58 : decode cX9_luck 58 = .ok (.iload 4, 2) := by decide +kernel
theorem dX9_luck_60 : decode cX9_luck 60 = .ok (.invokevirtual 343, 3) := by decide +kernel
theorem dX9_luck_63 : decode cX9_luck 63 = .ok (.iload_n 3, 1) := by decide +kernel
theorem dX9_luck_64 : decode cX9_luck 64 = .ok (.if_icmp .ne 6, 3) := by decide +kernel
theorem dX9_luck_67 : decode cX9_luck 67 = .ok (.iinc 5 1, 3) := by decide +kernel
theorem dX9_luck_70 : decode cX9_luck 70 = .ok (.iinc 6 1, 3) := by decide +kernel
theorem dX9_luck_73 : decode cX9_luck 73 = .ok (.goto (-26), 3) := by decide +kernel
theorem dX9_luck_76 : decode cX9_luck 76 = .ok (.iload 5, 2) := by decide +kernel
theorem dX9_luck_78 : decode cX9_luck 78 = .ok (.ireturn, 1) := by decide +kernel
theorem dX9_mean_0 : decode cX9_mean 0 = .ok (.aload_n 0, 1) := by decide +kernel
theorem dX9_mean_1 : decode cX9_mean 1 = .ok (.iload_n 1, 1) := by decide +kernel
theorem dX9_mean_2 : decode cX9_mean 2 = .ok (.invokevirtual 107, 3) := by decide +kernel
theorem dX9_mean_5 : decode cX9_mean 5 = .ok (.ifCond .eq 12, 3) := by decide +kernel
theorem dX9_mean_8 : decode cX9_mean 8 = .ok (.iload_n 2, 1) := by decide +kernel
theorem dX9_mean_9 : decode cX9_mean 9 = .ok (.iconst 0, 1) := by decide +kernel
theorem dX9_mean_10 : decode cX9_mean 10 = .ok (.iconst 1, 1) := by decide +kernel
theorem dX9_mean_11 : decode cX9_mean 11 = .ok (.invokestatic 148, 3) := by decide +kernel
theorem dX9_mean_14 : decode cX9_mean 14 = .ok (.ifCond .ne 7, 3) := by decide +kernel
theorem dX9_mean_17 : decode cX9_mean 17 = .ok (.sipush (-1000), 3) := by decide +kernel
theorem dX9_mean_20 : decode cX9_mean 20 = .ok (.ireturn, 1) := by decide +kernel
theorem dX9_mean_21 : decode cX9_mean 21 = .ok (.iconst 0, 1) := by decide +kernel
theorem dX9_mean_22 : decode cX9_mean 22 = .ok (.istore_n 3, 1) := by decide +kernel
theorem dX9_mean_23 : decode cX9_mean 23 = .ok (.iconst 0, 1) := by decide +kernel
theorem dX9_mean_24 : decode cX9_mean 24 = .ok (.istore 4, 2) := by decide +kernel
theorem dX9_mean_26 : decode cX9_mean 26 = .ok (.iconst 0, 1) := by decide +kernel
theorem dX9_mean_27 : decode cX9_mean 27 = .ok (.istore 5, 2) := by decide +kernel
theorem dX9_mean_29 : decode cX9_mean 29 = .ok (.iload 5, 2) := by decide +kernel
theorem dX9_mean_31 : decode cX9_mean 31 = .ok (.aload_n 0, 1) := by decide +kernel
theorem dX9_mean_32 : decode cX9_mean 32 = .ok (.getfield 33, 3) := by decide +kernel
theorem dX9_mean_35 : decode cX9_mean 35 = .ok (.getfield 173, 3) := by decide +kernel
theorem dX9_mean_38 : decode cX9_mean 38 = .ok (.if_icmp .ge 45, 3) := by decide +kernel
theorem dX9_mean_41 : decode cX9_mean 41 = .ok (.aload_n 0, 1) := by decide +kernel
theorem dX9_mean_42 : decode cX9_mean 42 = .ok (.getfield 33, 3) := by decide +kernel
theorem dX9_mean_45 : decode cX9_mean 45 = .ok (.getfield 130, 3) := by decide +kernel
theorem dX9_mean_48 : decode cX9_mean 48 = .ok (.iload 5, 2) := by decide +kernel
theorem dX9_mean_50 : decode cX9_mean 50 = .ok (.aaload, 1) := by decide +kernel
theorem dX9_mean_51 : decode cX9_mean 51 = .ok (.iload_n 1, 1) := by decide +kernel
theorem dX9_mean_52 : decode cX9_mean 52 = .ok (.iaload, 1) := by decide +kernel
theorem dX9_mean_53 : decode cX9_mean 53 = .ok (.sipush 10000, 3) := by decide +kernel
theorem dX9_mean_56 : decode cX9_mean 56 = .ok (.if_icmp .eq 21, 3) := by decide +kernel
theorem dX9_mean_59 : decode cX9_mean 59 = .ok (.iload_n 3, 1) := by decide +kernel
theorem dX9_mean_60 : decode cX9_mean 60 = .ok (.aload_n 0, 1) := by decide +kernel
theorem dX9_mean_61 : decode cX9_mean 61 = .ok (.getfield 33, 3) := by decide +kernel
theorem dX9_mean_64 : decode cX9_mean 64 = .ok (.getfield 130, 3) := by decide +kernel
theorem dX9_mean_67 : decode cX9_mean 67 = .ok (.iload 5, 2) := by decide +kernel
theorem dX9_mean_69 : decode cX9_mean 69 = .ok (.aaload, 1) := by decide +kernel
theorem dX9_mean_70 : decode cX9_mean 70 = .ok (.iload_n 1, 1) := by decide +kernel
theorem dX9_mean_71 : decode cX9_mean 71 = .ok (.iaload, 1) := by decide +kernel
theorem dX9_mean_72 : decode cX9_mean 72 = .ok (.iadd, 1) := by decide +kernel
theorem dX9_mean_73 : decode cX9_mean 73 = .ok (.istore_n 3, 1) := by decide +kernel
theorem dX9_mean_74 : decode cX9_mean 74 = .ok (.iinc 4 1, 3) := by decide +kernel
theorem dX9_mean_77 : decode cX9_mean 77 = .ok (.iinc 5 1, 3) := by decide +kernel
theorem dX9_mean_80 : decode cX9_mean 80 = .ok (.goto (-51), 3) := by decide +kernel
theorem dX9_mean_83 : decode cX9_mean 83 = .ok (.iload 4, 2) := by decide +kernel
theorem dX9_mean_85 : decode cX9_mean 85 = .ok (.ifCond .ne 14, 3) := by decide +kernel
theorem dX9_mean_88 : decode cX9_mean 88 = .ok (.sipush 10000, 3) := by decide +kernel
theorem dX9_mean_91 : decode cX9_mean 91 = .ok (.iconst 1, 1) := by decide +kernel
theorem dX9_mean_92 : decode cX9_mean 92 = .ok (.iload_n 2, 1) := by decide +kernel
theorem dX9_mean_93 : decode cX9_mean 93 = .ok (.invokestatic 214, 3) := by decide +kernel
theorem dX9_mean_96 : decode cX9_mean 96 = .ok (.goto 10, 3) := by decide +kernel
theorem dX9_mean_99 : decode cX9_mean 99 = .ok (.iload_n 3, 1) := by decide +kernel
theorem dX9_mean_100 : decode cX9_mean 100 = .ok (.iload 4, 2) := by decide +kernel
theorem dX9_mean_102 : decode cX9_mean 102 = .ok (.iload_n 2, 1) := by decide +kernel
theorem dX9_mean_103 : decode cX9_mean 103 = .ok (.invokestatic 214, 3) := by decide +kernel
theorem dX9_mean_106 : decode cX9_mean 106 = .ok (.ireturn, 1) := by decide +kernel
theorem dX9_meet_0 : decode cX9_meet 0 = .ok (.aload_n 0, 1) := by decide +kernel
theorem dX9_meet_1 : decode cX9_meet 1 = .ok (.iload_n 1, 1) := by decide +kernel
theorem dX9_meet_2 : decode cX9_meet 2 = .ok (.invokevirtual 107, 3) := by decide +kernel
theorem dX9_meet_5 : decode cX9_meet 5 = .ok (.ifCond .eq 11, 3) := by decide +kernel
theorem dX9_meet_8 : decode cX9_meet 8 = .ok (.aload_n 0, 1) := by decide +kernel
theorem dX9_meet_9 : decode cX9_meet 9 = .ok (.iload_n 2, 1) := by decide +kernel
theorem dX9_meet_10 : decode cX9_meet 10 = .ok (.invokevirtual 107, 3) := by decide +kernel
theorem dX9_meet_13 : decode cX9_meet 13 = .ok (.ifCond .ne 6, 3) := by decide +kernel
theorem dX9_meet_16 : decode cX9_meet 16 = .ok (.bipush (-2), 2) := by decide +kernel
theorem dX9_meet_18 : decode cX9_meet 18 = .ok (.ireturn, 1) := by decide +kernel
theorem dX9_meet_19 : decode cX9_meet 19 = .ok (.iconst 0, 1) := by decide +kernel
theorem dX9_meet_20 : decode cX9_meet 20 = .ok (.istore_n 3, 1) := by decide +kernel
theorem dX9_meet_21 : decode cX9_meet 21 = .ok (.iload_n 3, 1) := by decide +kernel
theorem dX9_meet_22 : decode cX9_meet 22 = .ok (.aload_n 0, 1) := by decide +kernel
theorem dX9_meet_23 : decode cX9_meet 23 = .ok (.getfield 33, 3) := by decide +kernel
theorem dX9_meet_26 : decode cX9_meet 26 = .ok (.getfield 173, 3) := by decide +kernel
theorem dX9_meet_29 : decode cX9_meet 29 = .ok (.if_icmp .ge 36, 3) := by decide +kernel
theorem dX9_meet_32 : decode cX9_meet 32 = .ok (.aload_n 0, 1) := by decide +kernel
theorem dX9_meet_33 : decode cX9_meet 33 = .ok (.getfield 33, 3) := by decide +kernel
theorem dX9_meet_36 : decode cX9_meet 36 = .ok (.getfield 130, 3) := by decide +kernel
theorem dX9_meet_39 : decode cX9_meet 39 = .ok (.iload_n 3, 1) := by decide +kernel
theorem dX9_meet_40 : decode cX9_meet 40 = .ok (.aaload, 1) := by decide +kernel
theorem dX9_meet_41 : decode cX9_meet 41 = .ok (.iload_n 1, 1) := by decide +kernel
theorem dX9_meet_42 : decode cX9_meet 42 = .ok (.iaload, 1) := by decide +kernel
theorem dX9_meet_43 : decode cX9_meet 43 = .ok (.aload_n 0, 1) := by decide +kernel
theorem dX9_meet_44 : decode cX9_meet 44 = .ok (.getfield 33, 3) := by decide +kernel
theorem dX9_meet_47 : decode cX9_meet 47 = .ok (.getfield 130, 3) := by decide +kernel
theorem dX9_meet_50 : decode cX9_meet 50 = .ok (.iload_n 3, 1) := by decide +kernel
theorem dX9_meet_51 : decode cX9_meet 51 = .ok (.aaload, 1) := by decide +kernel
theorem dX9_meet_52 : decode cX9_meet 52 = .ok (.iload_n 2, 1) := by decide +kernel
theorem dX9_meet_53 : decode cX9_meet 53 = .ok (.iaload, 1) := by decide +kernel
theorem dX9_meet_54 : decode cX9_meet 54 = .ok (.if_icmp .ne 5, 3) := by decide +kernel
theorem dX9_meet_57 : decode cX9_meet 57 = .ok (.iload_n 3, 1) := by decide +kernel
theorem dX9_meet_58 : decode cX9_meet 58 = .ok (.ireturn, 1) := by decide +kernel
theorem dX9_meet_59 : decode cX9_meet 59 = .ok (.iinc 3 1, 3) := by decide +kernel
theorem dX9_meet_62 : decode cX9_meet 62 = .ok (.goto (-41), 3) := by decide +kernel
theorem dX9_meet_65 : decode cX9_meet 65 = .ok (.iconst (-1), 1) := by decide +kernel
theorem dX9_meet_66 : decode cX9_meet 66 = .ok (.ireturn, 1) := by decide +kernel
theorem dX9_mend_0 : decode cX9_mend 0 = .ok (.aload_n 0, 1) := by decide +kernel
theorem dX9_mend_1 : decode cX9_mend 1 = .ok (.iconst 0, 1) := by decide +kernel
theorem dX9_mend_2 : decode cX9_mend 2 = .ok (.iload_n 1, 1) := by decide +kernel
theorem dX9_mend_3 : decode cX9_mend 3 = .ok (.iload_n 2, 1) := by decide +kernel
theorem dX9_mend_4 : decode cX9_mend 4 = .ok (.invokevirtual 318, 3) := by decide +kernel
theorem dX9_mend_7 : decode cX9_mend 7 = .ok (.ireturn, 1) := by decide +kernel
theorem dX9_mended_0 : decode cX9_mended 0 = .ok (.iload_n 1, 1) := by decide +kernel
theorem dX9_mended_1 : decode cX9_mended 1 = .ok (.iconst 0, 1) := by decide +kernel
theorem dX9_mended_2 : decode cX9_mended 2 = .ok (.iconst 3, 1) := by decide +kernel
theorem dX9_mended_3 : decode cX9_mended 3 = .ok (.invokestatic 148, 3) := by decide +kernel
theorem dX9_mended_6 : decode cX9_mended 6 = .ok (.ifCond .eq 10, 3) := by decide +kernel
theorem dX9_mended_9 : decode cX9_mended 9 = .ok (.aload_n 0, 1) := by decide +kernel
theorem dX9_mended_10 : decode cX9_mended 10 = .ok (.invokevirtual 166, 3) := by decide +kernel
theorem dX9_mended_13 : decode cX9_mended 13 = .ok (.ifCond .ne 6, 3) := by decide +kernel
theorem dX9_mended_16 : decode cX9_mended 16 = .ok (.bipush (-2), 2) := by decide +kernel
theorem dX9_mended_18 : decode cX9_mended 18 = .ok (.ireturn, 1) := by decide +kernel
theorem dX9_mended_19 : decode cX9_mended 19 = .ok (.aload_n 0, 1) := by decide +kernel
theorem dX9_mended_20 : decode cX9_mended 20 = .ok (.getfield 47, 3) := by decide +kernel
theorem dX9_mended_23 : decode cX9_mended 23 = .ok (.aload_n 0, 1) := by decide +kernel
theorem dX9_mended_24 : decode cX9_mended 24 = .ok (.getfield 19, 3) := by decide +kernel
theorem dX9_mended_27 : decode cX9_mended 27 = .ok (.aload_n 0, 1) := by decide +kernel
theorem dX9_mended_28 : decode cX9_mended 28 = .ok (.getfield 33, 3) := by decide +kernel
theorem dX9_mended_31 : decode cX9_mended 31 = .ok (.iload_n 1, 1) := by decide +kernel
theorem dX9_mended_32 : decode cX9_mended 32 = .ok (.iconst (-1), 1) := by decide +kernel
theorem dX9_mended_33 : decode cX9_mended 33 = .ok (.invokevirtual 221, 3) := by decide +kernel
theorem dX9_mended_36 : decode cX9_mended 36 = .ok (.aload_n 0, 1) := by decide +kernel
theorem dX9_mended_37 : decode cX9_mended 37 = .ok (.getfield 47, 3) := by decide +kernel
theorem dX9_mended_40 : decode cX9_mended 40 = .ok (.getfield 228, 3) := by decide +kernel
theorem dX9_mended_43 : decode cX9_mended 43 = .ok (.ireturn, 1) := by decide +kernel
theorem dX9_mends_0 : decode cX9_mends 0 = .ok (.iload_n 1, 1) := by decide +kernel
theorem dX9_mends_1 : decode cX9_mends 1 = .ok (.iconst 0, 1) := by decide +kernel
theorem dX9_mends_2 : decode cX9_mends 2 = .ok (.iconst 3, 1) := by decide +kernel
theorem dX9_mends_3 : decode cX9_mends 3 = .ok (.invokestatic 148, 3) := by decide +kernel
theorem dX9_mends_6 : decode cX9_mends 6 = .ok (.ifCond .eq 10, 3) := by decide +kernel
theorem dX9_mends_9 : decode cX9_mends 9 = .ok (.aload_n 0, 1) := by decide +kernel
theorem dX9_mends_10 : decode cX9_mends 10 = .ok (.invokevirtual 166, 3) := by decide +kernel
theorem dX9_mends_13 : decode cX9_mends 13 = .ok (.ifCond .ne 6, 3) := by decide +kernel
theorem dX9_mends_16 : decode cX9_mends 16 = .ok (.bipush (-2), 2) := by decide +kernel
theorem dX9_mends_18 : decode cX9_mends 18 = .ok (.ireturn, 1) := by decide +kernel
theorem dX9_mends_19 : decode cX9_mends 19 = .ok (.aload_n 0, 1) := by decide +kernel
theorem dX9_mends_20 : decode cX9_mends 20 = .ok (.getfield 47, 3) := by decide +kernel
theorem dX9_mends_23 : decode cX9_mends 23 = .ok (.aload_n 0, 1) := by decide +kernel
theorem dX9_mends_24 : decode cX9_mends 24 = .ok (.getfield 19, 3) := by decide +kernel
theorem dX9_mends_27 : decode cX9_mends 27 = .ok (.aload_n 0, 1) := by decide +kernel
theorem dX9_mends_28 : decode cX9_mends 28 = .ok (.getfield 33, 3) := by decide +kernel
theorem dX9_mends_31 : decode cX9_mends 31 = .ok (.iload_n 1, 1) := by decide +kernel
theorem dX9_mends_32 : decode cX9_mends 32 = .ok (.iconst (-1), 1) := by decide +kernel
theorem dX9_mends_33 : decode cX9_mends 33 = .ok (.invokevirtual 221, 3) := by decide +kernel
theorem dX9_mends_36 : decode cX9_mends 36 = .ok (.aload_n 0, 1) := by decide +kernel
theorem dX9_mends_37 : decode cX9_mends 37 = .ok (.getfield 47, 3) := by decide +kernel
theorem dX9_mends_40 : decode cX9_mends 40 = .ok (.getfield 225, 3) := by decide +kernel
theorem dX9_mends_43 : decode cX9_mends 43 = .ok (.ireturn, 1) := by decide +kernel
theorem dX9_middle_0 : decode cX9_middle 0 = .ok (.aload_n 0, 1) := by decide +kernel
theorem dX9_middle_1 : decode cX9_middle 1 = .ok (.iload_n 1, 1) := by decide +kernel
theorem dX9_middle_2 : decode cX9_middle 2 = .ok (.invokevirtual 127, 3) := by decide +kernel
theorem dX9_middle_5 : decode cX9_middle 5 = .ok (.ifCond .ne 7, 3) := by decide +kernel
theorem dX9_middle_8 : decode cX9_middle 8 = .ok (.sipush (-1000), 3) := by decide +kernel
theorem dX9_middle_11 : decode cX9_middle 11 = .ok (.ireturn, 1) := by decide +kernel
theorem dX9_middle_12 : decode cX9_middle 12 = .ok (.aload_n 0, 1) := by decide +kernel
theorem dX9_middle_13 : decode cX9_middle 13 = .ok (.getfield 33, 3) := by decide +kernel
theorem dX9_middle_16 : decode cX9_middle 16 = .ok (.getfield 138, 3) := by decide +kernel
theorem dX9_middle_19 : decode cX9_middle 19 = .ok (.iload_n 1, 1) := by decide +kernel
theorem dX9_middle_20 : decode cX9_middle 20 = .ok (.iaload, 1) := by decide +kernel
theorem dX9_middle_21 : decode cX9_middle 21 = .ok (.invokestatic 195, 3) := by decide +kernel
theorem dX9_middle_24 : decode cX9_middle 24 = .ok (.istore_n 2, 1) := by decide +kernel
theorem dX9_middle_25 : decode cX9_middle 25 = .ok (.iload_n 2, 1) := by decide +kernel
theorem dX9_middle_26 : decode cX9_middle 26 = .ok (.ifCond .ne 9, 3) := by decide +kernel
theorem dX9_middle_29 : decode cX9_middle 29 = .ok (.sipush 10000, 3) := by decide +kernel
theorem dX9_middle_32 : decode cX9_middle 32 = .ok (.goto 16, 3) := by decide +kernel
theorem dX9_middle_35 : decode cX9_middle 35 = .ok (.aload_n 0, 1) := by decide +kernel
theorem dX9_middle_36 : decode cX9_middle 36 = .ok (.getfield 33, 3) := by decide +kernel
theorem dX9_middle_39 : decode cX9_middle 39 = .ok (.iload_n 1, 1) := by decide +kernel
theorem dX9_middle_40 : decode cX9_middle 40 = .ok (.iload_n 2, 1) := by decide +kernel
theorem dX9_middle_41 : decode cX9_middle 41 = .ok (.iconst 1, 1) := by decide +kernel
theorem dX9_middle_42 : decode cX9_middle 42 = .ok (.isub, 1) := by decide +kernel
theorem dX9_middle_43 : decode cX9_middle 43 = .ok (.iconst 2, 1) := by decide +kernel
theorem dX9_middle_44 : decode cX9_middle 44 = .ok (.idiv, 1) := by decide +kernel
theorem dX9_middle_45 : decode cX9_middle 45 = .ok (.invokevirtual 267, 3) := by decide +kernel
theorem dX9_middle_48 : decode cX9_middle 48 = .ok (.ireturn, 1) := by decide +kernel
theorem dX9_noon_0 : decode cX9_noon 0 = .ok (.aload_n 0, 1) := by decide +kernel
theorem dX9_noon_1 : decode cX9_noon 1 = .ok (.iload_n 1, 1) := by decide +kernel
theorem dX9_noon_2 : decode cX9_noon 2 = .ok (.invokevirtual 127, 3) := by decide +kernel
theorem dX9_noon_5 : decode cX9_noon 5 = .ok (.ifCond .eq 11, 3) := by decide +kernel
theorem dX9_noon_8 : decode cX9_noon 8 = .ok (.aload_n 0, 1) := by decide +kernel
theorem dX9_noon_9 : decode cX9_noon 9 = .ok (.iload_n 1, 1) := by decide +kernel
theorem dX9_noon_10 : decode cX9_noon 10 = .ok (.invokevirtual 134, 3) := by decide +kernel
theorem dX9_noon_13 : decode cX9_noon 13 = .ok (.goto 6, 3) := by decide +kernel
theorem dX9_noon_16 : decode cX9_noon 16 = .ok (.sipush (-1000), 3) := by decide +kernel
theorem dX9_noon_19 : decode cX9_noon 19 = .ok (.ireturn, 1) := by decide +kernel
theorem dX9_noonOn_0 : decode cX9_noonOn 0 = .ok (.aload_n 0, 1) := by decide +kernel
theorem dX9_noonOn_1 : decode cX9_noonOn 1 = .ok (.getfield 33, 3) := by decide +kernel
theorem dX9_noonOn_4 : decode cX9_noonOn 4 = .ok (.getfield 130, 3) := by decide +kernel
theorem dX9_noonOn_7 : decode cX9_noonOn 7 = .ok (.iload_n 1, 1) := by decide +kernel
theorem dX9_noonOn_8 : decode cX9_noonOn 8 = .ok (.aaload, 1) := by decide +kernel
theorem dX9_noonOn_9 : decode cX9_noonOn 9 = .ok (.aload_n 0, 1) := by decide +kernel
theorem dX9_noonOn_10 : decode cX9_noonOn 10 = .ok (.getfield 33, 3) := by decide +kernel
theorem dX9_noonOn_13 : decode cX9_noonOn 13 = .ok (.getfield 138, 3) := by decide +kernel
theorem dX9_noonOn_16 : decode cX9_noonOn 16 = .ok (.iload_n 1, 1) := by decide +kernel
theorem dX9_noonOn_17 : decode cX9_noonOn 17 = .ok (.iaload, 1) := by decide +kernel
theorem dX9_noonOn_18 : decode cX9_noonOn 18 = .ok (.invokestatic 159, 3) := by decide +kernel
theorem dX9_noonOn_21 : decode cX9_noonOn 21 = .ok (.ireturn, 1) := by decide +kernel
theorem dX9_oil_0 : decode cX9_oil 0 = .ok (.aload_n 0, 1) := by decide +kernel
theorem dX9_oil_1 : decode cX9_oil 1 = .ok (.iconst 1, 1) := by decide +kernel
theorem dX9_oil_2 : decode cX9_oil 2 = .ok (.iload_n 1, 1) := by decide +kernel
theorem dX9_oil_3 : decode cX9_oil 3 = .ok (.iload_n 2, 1) := by decide +kernel
theorem dX9_oil_4 : decode cX9_oil 4 = .ok (.invokevirtual 318, 3) := by decide +kernel
theorem dX9_oil_7 : decode cX9_oil 7 = .ok (.ireturn, 1) := by decide +kernel
theorem dX9_order_0 : decode cX9_order 0 = .ok (.aload_n 0, 1) := by decide +kernel
theorem dX9_order_1 : decode cX9_order 1 = .ok (.iload_n 1, 1) := by decide +kernel
theorem dX9_order_2 : decode cX9_order 2 = .ok (.invokevirtual 127, 3) := by decide +kernel
theorem dX9_order_5 : decode cX9_order 5 = .ok (.ifCond .eq 15, 3) := by decide +kernel
theorem dX9_order_8 : decode cX9_order 8 = .ok (.aload_n 0, 1) := by decide +kernel
theorem dX9_order_9 : decode cX9_order 9 = .ok (.getfield 33, 3) := by decide +kernel
theorem dX9_order_12 : decode cX9_order 12 = .ok (.iload_n 1, 1) := by decide +kernel
theorem dX9_order_13 : decode cX9_order 13 = .ok (.iload_n 2, 1) := by decide +kernel
theorem dX9_order_14 : decode cX9_order 14 = .ok (.invokevirtual 144, 3) := by decide +kernel
theorem dX9_order_17 : decode cX9_order 17 = .ok (.goto 5, 3) := by decide +kernel
theorem dX9_order_20 : decode cX9_order 20 = .ok (.bipush (-2), 2) := by decide +kernel
theorem dX9_order_22 : decode cX9_order 22 = .ok (.ireturn, 1) := by decide +kernel
theorem dX9_passes_0 : decode cX9_passes 0 = .ok (.aload_n 0, 1) := by decide +kernel
theorem dX9_passes_1 : decode cX9_passes 1 = .ok (.iload_n 1, 1) := by decide +kernel
theorem dX9_passes_2 : decode cX9_passes 2 = .ok (.invokevirtual 107, 3) := by decide +kernel
theorem dX9_passes_5 : decode cX9_passes 5 = .ok (.ifCond .eq 11, 3) := by decide +kernel
theorem dX9_passes_8 : decode cX9_passes 8 = .ok (.aload_n 0, 1) := by decide +kernel
theorem dX9_passes_9 : decode cX9_passes 9 = .ok (.iload_n 2, 1) := by decide +kernel
theorem dX9_passes_10 : decode cX9_passes 10 = .ok (.invokevirtual 107, 3) := by decide +kernel
theorem dX9_passes_13 : decode cX9_passes 13 = .ok (.ifCond .ne 6, 3) := by decide +kernel
theorem dX9_passes_16 : decode cX9_passes 16 = .ok (.bipush (-2), 2) := by decide +kernel
theorem dX9_passes_18 : decode cX9_passes 18 = .ok (.ireturn, 1) := by decide +kernel
theorem dX9_passes_19 : decode cX9_passes 19 = .ok (.iconst 0, 1) := by decide +kernel
theorem dX9_passes_20 : decode cX9_passes 20 = .ok (.istore_n 3, 1) := by decide +kernel
theorem dX9_passes_21 : decode cX9_passes 21 = .ok (.iconst 0, 1) := by decide +kernel
theorem dX9_passes_22 : decode cX9_passes 22 = .ok (.istore 4, 2) := by decide +kernel
theorem dX9_passes_24 : decode cX9_passes 24 = .ok (.iload 4, 2) := by decide +kernel
theorem dX9_passes_26 : decode cX9_passes 26 = .ok (.aload_n 0, 1) := by decide +kernel
theorem dX9_passes_27 : decode cX9_passes 27 = .ok (.getfield 33, 3) := by decide +kernel
theorem dX9_passes_30 : decode cX9_passes 30 = .ok (.getfield 173, 3) := by decide +kernel
theorem dX9_passes_33 : decode cX9_passes 33 = .ok (.if_icmp .ge 43, 3) := by decide +kernel
theorem dX9_passes_36 : decode cX9_passes 36 = .ok (.aload_n 0, 1) := by decide +kernel
theorem dX9_passes_37 : decode cX9_passes 37 = .ok (.getfield 33, 3) := by decide +kernel
theorem dX9_passes_40 : decode cX9_passes 40 = .ok (.getfield 130, 3) := by decide +kernel
theorem dX9_passes_43 : decode cX9_passes 43 = .ok (.iload 4, 2) := by decide +kernel
theorem dX9_passes_45 : decode cX9_passes 45 = .ok (.aaload, 1) := by decide +kernel
theorem dX9_passes_46 : decode cX9_passes 46 = .ok (.iload_n 1, 1) := by decide +kernel
theorem dX9_passes_47 : decode cX9_passes 47 = .ok (.iaload, 1) := by decide +kernel
theorem dX9_passes_48 : decode cX9_passes 48 = .ok (.aload_n 0, 1) := by decide +kernel
theorem dX9_passes_49 : decode cX9_passes 49 = .ok (.getfield 33, 3) := by decide +kernel
theorem dX9_passes_52 : decode cX9_passes 52 = .ok (.getfield 130, 3) := by decide +kernel
theorem dX9_passes_55 : decode cX9_passes 55 = .ok (.iload 4, 2) := by decide +kernel
theorem dX9_passes_57 : decode cX9_passes 57 = .ok (.aaload, 1) := by decide +kernel
theorem dX9_passes_58 : decode cX9_passes 58 = .ok (.iload_n 2, 1) := by decide +kernel
theorem dX9_passes_59 : decode cX9_passes 59 = .ok (.iaload, 1) := by decide +kernel
theorem dX9_passes_60 : decode cX9_passes 60 = .ok (.if_icmp .le 10, 3) := by decide +kernel
theorem dX9_passes_63 : decode cX9_passes 63 = .ok (.iload_n 3, 1) := by decide +kernel
theorem dX9_passes_64 : decode cX9_passes 64 = .ok (.iconst 1, 1) := by decide +kernel
theorem dX9_passes_65 : decode cX9_passes 65 = .ok (.iload 4, 2) := by decide +kernel
theorem dX9_passes_67 : decode cX9_passes 67 = .ok (.ishl, 1) := by decide +kernel
theorem dX9_passes_68 : decode cX9_passes 68 = .ok (.ior, 1) := by decide +kernel
theorem dX9_passes_69 : decode cX9_passes 69 = .ok (.istore_n 3, 1) := by decide +kernel
theorem dX9_passes_70 : decode cX9_passes 70 = .ok (.iinc 4 1, 3) := by decide +kernel
theorem dX9_passes_73 : decode cX9_passes 73 = .ok (.goto (-49), 3) := by decide +kernel
theorem dX9_passes_76 : decode cX9_passes 76 = .ok (.iload_n 3, 1) := by decide +kernel
theorem dX9_passes_77 : decode cX9_passes 77 = .ok (.ireturn, 1) := by decide +kernel
theorem dX9_paste_0 : decode cX9_paste 0 = .ok (.iload_n 1, 1) := by decide +kernel
theorem dX9_paste_1 : decode cX9_paste 1 = .ok (.invokestatic 253, 3) := by decide +kernel
theorem dX9_paste_4 : decode cX9_paste 4 = .ok (.ifCond .eq 10, 3) := by decide +kernel
theorem dX9_paste_7 : decode cX9_paste 7 = .ok (.iload_n 3, 1) := by decide +kernel
theorem dX9_paste_8 : decode cX9_paste 8 = .ok (.invokestatic 253, 3) := by decide +kernel
theorem dX9_paste_11 : decode cX9_paste 11 = .ok (.ifCond .ne 6, 3) := by decide +kernel
theorem dX9_paste_14 : decode cX9_paste 14 = .ok (.bipush (-2), 2) := by decide +kernel
theorem dX9_paste_16 : decode cX9_paste 16 = .ok (.ireturn, 1) := by decide +kernel
theorem dX9_paste_17 : decode cX9_paste 17 = .ok (.aload_n 0, 1) := by decide +kernel
theorem dX9_paste_18 : decode cX9_paste 18 = .ok (.getfield 39, 3) := by decide +kernel
theorem dX9_paste_21 : decode cX9_paste 21 = .ok (.iload_n 1, 1) := by decide +kernel
theorem dX9_paste_22 : decode cX9_paste 22 = .ok (.aaload, 1) := by decide +kernel
theorem dX9_paste_23 : decode cX9_paste 23 = .ok (.astore 6, 2) := by decide +kernel
theorem dX9_paste_25 : decode cX9_paste 25 = .ok (.aload_n 0, 1) := by decide +kernel
theorem dX9_paste_26 : decode cX9_paste 26 = .ok (.getfield 39, 3) := by decide +kernel
theorem dX9_paste_29 : decode cX9_paste 29 = .ok (.iload_n 3, 1) := by decide +kernel
theorem dX9_paste_30 : decode cX9_paste 30 = .ok (.aaload, 1) := by decide +kernel
theorem dX9_paste_31 : decode cX9_paste 31 = .ok (.astore 7, 2) := by decide +kernel
theorem dX9_paste_33 : decode cX9_paste 33 = .ok (.aload 6, 2) := by decide +kernel
theorem dX9_paste_35 : decode cX9_paste 35 = .ok (.invokevirtual 256, 3) := by decide +kernel
theorem dX9_paste_38 : decode cX9_paste 38 = .ok (.ifCond .eq 11, 3) := by decide +kernel
theorem dX9_paste_41 : decode cX9_paste 41 = .ok (.aload 7, 2) := by decide +kernel
theorem dX9_paste_43 : decode cX9_paste 43 = .ok (.invokevirtual 256, 3) := by decide +kernel
theorem dX9_paste_46 : decode cX9_paste 46 = .ok (.ifCond .ne 6, 3) := by decide +kernel
theorem dX9_paste_49 : decode cX9_paste 49 = .ok (.bipush (-6), 2) := by decide +kernel
theorem dX9_paste_51 : decode cX9_paste 51 = .ok (.ireturn, 1) := by decide +kernel
theorem dX9_paste_52 : decode cX9_paste 52 = .ok (.aload 6, 2) := by decide +kernel
theorem dX9_paste_54 : decode cX9_paste 54 = .ok (.getfield 364, 3) := by decide +kernel
theorem dX9_paste_57 : decode cX9_paste 57 = .ok (.aload 7, 2) := by decide +kernel
theorem dX9_paste_59 : decode cX9_paste 59 = .ok (.getfield 364, 3) := by decide +kernel
theorem dX9_paste_62 : decode cX9_paste 62 = .ok (.if_icmp .eq 6, 3) := by decide +kernel
theorem dX9_paste_65 : decode cX9_paste 65 = .ok (.bipush (-8), 2) := by decide +kernel
theorem dX9_paste_67 : decode cX9_paste 67 = .ok (.ireturn, 1) := by decide +kernel
theorem dX9_paste_68 : decode cX9_paste 68 = .ok (.aload 6, 2) := by decide +kernel
theorem dX9_paste_70 : decode cX9_paste 70 = .ok (.iload_n 2, 1) := by decide +kernel
theorem dX9_paste_71 : decode cX9_paste 71 = .ok (.iload 5, 2) := by decide +kernel
theorem dX9_paste_73 : decode cX9_paste 73 = .ok (.invokevirtual 371, 3) := by decide +kernel
theorem dX9_paste_76 : decode cX9_paste 76 = .ok (.ifCond .eq 15, 3) := by decide +kernel
theorem dX9_paste_79 : decode cX9_paste 79 = .ok (.aload 7, 2) := by decide +kernel
theorem dX9_paste_81 : decode cX9_paste 81 = .ok (.iload 4, 2) := by decide +kernel
theorem dX9_paste_83 : decode cX9_paste 83 = .ok (.iload 5, 2) := by decide +kernel
theorem dX9_paste_85 : decode cX9_paste 85 = .ok (.invokevirtual 371, 3) := by decide +kernel
theorem dX9_paste_88 : decode cX9_paste 88 = .ok (.ifCond .ne 6, 3) := by decide +kernel
theorem dX9_paste_91 : decode cX9_paste 91 = .ok (.bipush (-7), 2) := by decide +kernel
theorem dX9_paste_93 : decode cX9_paste 93 = .ok (.ireturn, 1) := by decide +kernel
theorem dX9_paste_94 : decode cX9_paste 94 = .ok (.aload 6, 2) := by decide +kernel
theorem dX9_paste_96 : decode cX9_paste 96 = .ok (.getfield 360, 3) := by decide +kernel
theorem dX9_paste_99 : decode cX9_paste 99 = .ok (.iload_n 2, 1) := by decide +kernel
theorem dX9_paste_100 : decode cX9_paste 100 = .ok (.aload 7, 2) := by decide +kernel
theorem dX9_paste_102 : decode cX9_paste 102 = .ok (.getfield 360, 3) := by decide +kernel
theorem dX9_paste_105 : decode cX9_paste 105 = .ok (.iload 4, 2) := by decide +kernel
theorem dX9_paste_107 : decode cX9_paste 107 = .ok (.iload 5, 2) := by decide +kernel
theorem dX9_paste_109 : decode cX9_paste 109 = .ok (.invokestatic 374, 3) := by decide +kernel
theorem dX9_paste_112 : decode cX9_paste 112 = .ok (.iconst 0, 1) := by decide +kernel
theorem dX9_paste_113 : decode cX9_paste 113 = .ok (.ireturn, 1) := by decide +kernel
theorem dX9_price_0 : decode cX9_price 0 = .ok (.aload_n 0, 1) := by decide +kernel
theorem dX9_price_1 : decode cX9_price 1 = .ok (.iload_n 1, 1) := by decide +kernel
theorem dX9_price_2 : decode cX9_price 2 = .ok (.invokevirtual 107, 3) := by decide +kernel
theorem dX9_price_5 : decode cX9_price 5 = .ok (.ifCond .eq 11, 3) := by decide +kernel
theorem dX9_price_8 : decode cX9_price 8 = .ok (.aload_n 0, 1) := by decide +kernel
theorem dX9_price_9 : decode cX9_price 9 = .ok (.iload_n 1, 1) := by decide +kernel
theorem dX9_price_10 : decode cX9_price 10 = .ok (.invokevirtual 185, 3) := by decide +kernel
theorem dX9_price_13 : decode cX9_price 13 = .ok (.goto 5, 3) := by decide +kernel
theorem dX9_price_16 : decode cX9_price 16 = .ok (.ldc 188, 2) := by decide +kernel
theorem dX9_price_18 : decode cX9_price 18 = .ok (.ireturn, 1) := by decide +kernel
theorem dX9_priceOf_0 : decode cX9_priceOf 0 = .ok (.aload_n 0, 1) := by decide +kernel
theorem dX9_priceOf_1 : decode cX9_priceOf 1 = .ok (.iconst 0, 1) := by decide +kernel
theorem dX9_priceOf_2 : decode cX9_priceOf 2 = .ok (.invokevirtual 170, 3) := by decide +kernel
theorem dX9_priceOf_5 : decode cX9_priceOf 5 = .ok (.aload_n 0, 1) := by decide +kernel
theorem dX9_priceOf_6 : decode cX9_priceOf 6 = .ok (.iconst 1, 1) := by decide +kernel
theorem dX9_priceOf_7 : decode cX9_priceOf 7 = .ok (.iload_n 1, 1) := by decide +kernel
theorem dX9_priceOf_8 : decode cX9_priceOf 8 = .ok (.ishl, 1) := by decide +kernel
theorem dX9_priceOf_9 : decode cX9_priceOf 9 = .ok (.invokevirtual 170, 3) := by decide +kernel
theorem dX9_priceOf_12 : decode cX9_priceOf 12 = .ok (.isub, 1) := by decide +kernel
theorem dX9_priceOf_13 : decode cX9_priceOf 13 = .ok (.aload_n 0, 1) := by decide +kernel
theorem dX9_priceOf_14 : decode cX9_priceOf 14 = .ok (.iload_n 1, 1) := by decide +kernel
theorem dX9_priceOf_15 : decode cX9_priceOf 15 = .ok (.invokevirtual 179, 3) := by decide +kernel
theorem dX9_priceOf_18 : decode cX9_priceOf 18 = .ok (.isub, 1) := by decide +kernel
theorem dX9_priceOf_19 : decode cX9_priceOf 19 = .ok (.ireturn, 1) := by decide +kernel
theorem dX9_quorum_0 : decode cX9_quorum 0 = .ok (.aload_n 0, 1) := by decide +kernel
theorem dX9_quorum_1 : decode cX9_quorum 1 = .ok (.iload_n 1, 1) := by decide +kernel
theorem dX9_quorum_2 : decode cX9_quorum 2 = .ok (.invokevirtual 127, 3) := by decide +kernel
theorem dX9_quorum_5 : decode cX9_quorum 5 = .ok (.ifCond .eq 27, 3) := by decide +kernel
theorem dX9_quorum_8 : decode cX9_quorum 8 = .ok (.iload_n 2, 1) := by decide +kernel
theorem dX9_quorum_9 : decode cX9_quorum 9 = .ok (.iconst 1, 1) := by decide +kernel
theorem dX9_quorum_10 : decode cX9_quorum 10 = .ok (.bipush 6, 2) := by decide +kernel
theorem dX9_quorum_12 : decode cX9_quorum 12 = .ok (.invokestatic 148, 3) := by decide +kernel
theorem dX9_quorum_15 : decode cX9_quorum 15 = .ok (.ifCond .eq 17, 3) := by decide +kernel
theorem dX9_quorum_18 : decode cX9_quorum 18 = .ok (.aload_n 0, 1) := by decide +kernel
theorem dX9_quorum_19 : decode cX9_quorum 19 = .ok (.getfield 33, 3) := by decide +kernel
theorem dX9_quorum_22 : decode cX9_quorum 22 = .ok (.iload_n 1, 1) := by decide +kernel
theorem dX9_quorum_23 : decode cX9_quorum 23 = .ok (.iload_n 2, 1) := by decide +kernel
theorem dX9_quorum_24 : decode cX9_quorum 24 = .ok (.iconst 1, 1) := by decide +kernel
theorem dX9_quorum_25 : decode cX9_quorum 25 = .ok (.isub, 1) := by decide +kernel
theorem dX9_quorum_26 : decode cX9_quorum 26 = .ok (.invokevirtual 267, 3) := by decide +kernel
theorem dX9_quorum_29 : decode cX9_quorum 29 = .ok (.goto 5, 3) := by decide +kernel
theorem dX9_quorum_32 : decode cX9_quorum 32 = .ok (.bipush (-2), 2) := by decide +kernel
theorem dX9_quorum_34 : decode cX9_quorum 34 = .ok (.ireturn, 1) := by decide +kernel
theorem dX9_race_0 : decode cX9_race 0 = .ok (.aload_n 0, 1) := by decide +kernel
theorem dX9_race_1 : decode cX9_race 1 = .ok (.iload_n 1, 1) := by decide +kernel
theorem dX9_race_2 : decode cX9_race 2 = .ok (.iload_n 2, 1) := by decide +kernel
theorem dX9_race_3 : decode cX9_race 3 = .ok (.iload_n 3, 1) := by decide +kernel
theorem dX9_race_4 : decode cX9_race 4 = .ok (.invokevirtual 270, 3) := by decide +kernel
theorem dX9_race_7 : decode cX9_race 7 = .ok (.ifCond .eq 13, 3) := by decide +kernel
theorem dX9_race_10 : decode cX9_race 10 = .ok (.aload_n 0, 1) := by decide +kernel
theorem dX9_race_11 : decode cX9_race 11 = .ok (.getfield 61, 3) := by decide +kernel
theorem dX9_race_14 : decode cX9_race 14 = .ok (.getfield 277, 3) := by decide +kernel
theorem dX9_race_17 : decode cX9_race 17 = .ok (.goto 5, 3) := by decide +kernel
theorem dX9_race_20 : decode cX9_race 20 = .ok (.bipush (-2), 2) := by decide +kernel
theorem dX9_race_22 : decode cX9_race 22 = .ok (.ireturn, 1) := by decide +kernel
theorem dX9_rate_0 : decode cX9_rate 0 = .ok (.aload_n 0, 1) := by decide +kernel
theorem dX9_rate_1 : decode cX9_rate 1 = .ok (.iload_n 1, 1) := by decide +kernel
theorem dX9_rate_2 : decode cX9_rate 2 = .ok (.invokevirtual 107, 3) := by decide +kernel
theorem dX9_rate_5 : decode cX9_rate 5 = .ok (.ifCond .eq 14, 3) := by decide +kernel
theorem dX9_rate_8 : decode cX9_rate 8 = .ok (.iload_n 2, 1) := by decide +kernel
theorem dX9_rate_9 : decode cX9_rate 9 = .ok (.iconst 0, 1) := by decide +kernel
theorem dX9_rate_10 : decode cX9_rate 10 = .ok (.sipush 999, 3) := by decide +kernel
theorem dX9_rate_13 : decode cX9_rate 13 = .ok (.invokestatic 148, 3) := by decide +kernel
theorem dX9_rate_16 : decode cX9_rate 16 = .ok (.ifCond .ne 6, 3) := by decide +kernel
theorem dX9_rate_19 : decode cX9_rate 19 = .ok (.bipush (-2), 2) := by decide +kernel
theorem dX9_rate_21 : decode cX9_rate 21 = .ok (.ireturn, 1) := by decide +kernel
theorem dX9_rate_22 : decode cX9_rate 22 = .ok (.aload_n 0, 1) := by decide +kernel
theorem dX9_rate_23 : decode cX9_rate 23 = .ok (.getfield 19, 3) := by decide +kernel
theorem dX9_rate_26 : decode cX9_rate 26 = .ok (.getfield 321, 3) := by decide +kernel
theorem dX9_rate_29 : decode cX9_rate 29 = .ok (.ifCond .le 6, 3) := by decide +kernel
theorem dX9_rate_32 : decode cX9_rate 32 = .ok (.bipush (-5), 2) := by decide +kernel
theorem dX9_rate_34 : decode cX9_rate 34 = .ok (.ireturn, 1) := by decide +kernel
theorem dX9_rate_35 : decode cX9_rate 35 = .ok (.aload_n 0, 1) := by decide +kernel
theorem dX9_rate_36 : decode cX9_rate 36 = .ok (.getfield 19, 3) := by decide +kernel
theorem dX9_rate_39 : decode cX9_rate 39 = .ok (.getfield 121, 3) := by decide +kernel
theorem dX9_rate_42 : decode cX9_rate 42 = .ok (.iload_n 1, 1) := by decide +kernel
theorem dX9_rate_43 : decode cX9_rate 43 = .ok (.iaload, 1) := by decide +kernel
theorem dX9_rate_44 : decode cX9_rate 44 = .ok (.istore_n 3, 1) := by decide +kernel
theorem dX9_rate_45 : decode cX9_rate 45 = .ok (.aload_n 0, 1) := by decide +kernel
theorem dX9_rate_46 : decode cX9_rate 46 = .ok (.getfield 19, 3) := by decide +kernel
theorem dX9_rate_49 : decode cX9_rate 49 = .ok (.getfield 121, 3) := by decide +kernel
theorem dX9_rate_52 : decode cX9_rate 52 = .ok (.iload_n 1, 1) := by decide +kernel
theorem dX9_rate_53 : decode cX9_rate 53 = .ok (.iload_n 2, 1) := by decide +kernel
theorem dX9_rate_54 : decode cX9_rate 54 = .ok (.iastore, 1) := by decide +kernel
theorem dX9_rate_55 : decode cX9_rate 55 = .ok (.iload_n 3, 1) := by decide +kernel
theorem dX9_rate_56 : decode cX9_rate 56 = .ok (.ireturn, 1) := by decide +kernel
theorem dX9_register_0 : decode cX9_register 0 = .ok (.aload_n 0, 1) := by decide +kernel
theorem dX9_register_1 : decode cX9_register 1 = .ok (.iload_n 1, 1) := by decide +kernel
theorem dX9_register_2 : decode cX9_register 2 = .ok (.invokevirtual 127, 3) := by decide +kernel
theorem dX9_register_5 : decode cX9_register 5 = .ok (.ifCond .eq 29, 3) := by decide +kernel
theorem dX9_register_8 : decode cX9_register 8 = .ok (.iconst 1, 1) := by decide +kernel
theorem dX9_register_9 : decode cX9_register 9 = .ok (.aload_n 0, 1) := by decide +kernel
theorem dX9_register_10 : decode cX9_register 10 = .ok (.getfield 33, 3) := by decide +kernel
theorem dX9_register_13 : decode cX9_register 13 = .ok (.getfield 182, 3) := by decide +kernel
theorem dX9_register_16 : decode cX9_register 16 = .ok (.ishl, 1) := by decide +kernel
theorem dX9_register_17 : decode cX9_register 17 = .ok (.iconst 1, 1) := by decide +kernel
theorem dX9_register_18 : decode cX9_register 18 = .ok (.isub, 1) := by decide +kernel
theorem dX9_register_19 : decode cX9_register 19 = .ok (.aload_n 0, 1) := by decide +kernel
theorem dX9_register_20 : decode cX9_register 20 = .ok (.getfield 33, 3) := by decide +kernel
theorem dX9_register_23 : decode cX9_register 23 = .ok (.getfield 138, 3) := by decide +kernel
theorem dX9_register_26 : decode cX9_register 26 = .ok (.iload_n 1, 1) := by decide +kernel
theorem dX9_register_27 : decode cX9_register 27 = .ok (.iaload, 1) := by decide +kernel
theorem dX9_register_28 : decode cX9_register 28 = .ok (.iconst (-1), 1) := by decide +kernel
theorem dX9_register_29 : decode cX9_register 29 = .ok (.ixor, 1) := by decide +kernel
theorem dX9_register_30 : decode cX9_register 30 = .ok (.iand, 1) := by decide +kernel
theorem dX9_register_31 : decode cX9_register 31 = .ok (.goto 5, 3) := by decide +kernel
theorem dX9_register_34 : decode cX9_register 34 = .ok (.bipush (-2), 2) := by decide +kernel
theorem dX9_register_36 : decode cX9_register 36 = .ok (.ireturn, 1) := by decide +kernel
theorem dX9_reign_0 : decode cX9_reign 0 = .ok (.aload_n 0, 1) := by decide +kernel
theorem dX9_reign_1 : decode cX9_reign 1 = .ok (.iload_n 1, 1) := by decide +kernel
theorem dX9_reign_2 : decode cX9_reign 2 = .ok (.invokevirtual 107, 3) := by decide +kernel
theorem dX9_reign_5 : decode cX9_reign 5 = .ok (.ifCond .eq 11, 3) := by decide +kernel
theorem dX9_reign_8 : decode cX9_reign 8 = .ok (.aload_n 0, 1) := by decide +kernel
theorem dX9_reign_9 : decode cX9_reign 9 = .ok (.iload_n 1, 1) := by decide +kernel
theorem dX9_reign_10 : decode cX9_reign 10 = .ok (.invokevirtual 176, 3) := by decide +kernel
theorem dX9_reign_13 : decode cX9_reign 13 = .ok (.goto 5, 3) := by decide +kernel
theorem dX9_reign_16 : decode cX9_reign 16 = .ok (.bipush (-2), 2) := by decide +kernel
theorem dX9_reign_18 : decode cX9_reign 18 = .ok (.ireturn, 1) := by decide +kernel
theorem dX9_reignOf_0 : decode cX9_reignOf 0 = .ok (.iconst 0, 1) := by decide +kernel
theorem dX9_reignOf_1 : decode cX9_reignOf 1 = .ok (.istore_n 2, 1) := by decide +kernel
theorem dX9_reignOf_2 : decode cX9_reignOf 2 = .ok (.iconst 0, 1) := by decide +kernel
theorem dX9_reignOf_3 : decode cX9_reignOf 3 = .ok (.istore_n 3, 1) := by decide +kernel
theorem dX9_reignOf_4 : decode cX9_reignOf 4 = .ok (.iload_n 3, 1) := by decide +kernel
theorem dX9_reignOf_5 : decode cX9_reignOf 5 = .ok (.aload_n 0, 1) := by decide +kernel
theorem dX9_reignOf_6 : decode cX9_reignOf 6 = .ok (.getfield 33, 3) := by decide +kernel
theorem dX9_reignOf_9 : decode cX9_reignOf 9 = .ok (.getfield 173, 3) := by decide +kernel
theorem dX9_reignOf_12 : decode cX9_reignOf 12 = .ok (.if_icmp .ge 24, 3) := by decide +kernel
theorem dX9_reignOf_15 : decode cX9_reignOf 15 = .ok (.aload_n 0, 1) := by decide +kernel
theorem dX9_reignOf_16 : decode cX9_reignOf 16 = .ok (.iload_n 3, 1) := by decide +kernel
theorem dX9_reignOf_17 : decode cX9_reignOf 17 = .ok (.invokevirtual 141, 3) := by decide +kernel
theorem dX9_reignOf_20 : decode cX9_reignOf 20 = .ok (.iload_n 1, 1) := by decide +kernel
theorem dX9_reignOf_21 : decode cX9_reignOf 21 = .ok (.if_icmp .ne 9, 3) := by decide +kernel
theorem dX9_reignOf_24 : decode cX9_reignOf 24 = .ok (.iload_n 2, 1) := by decide +kernel
theorem dX9_reignOf_25 : decode cX9_reignOf 25 = .ok (.iconst 1, 1) := by decide +kernel
theorem dX9_reignOf_26 : decode cX9_reignOf 26 = .ok (.iload_n 3, 1) := by decide +kernel
theorem dX9_reignOf_27 : decode cX9_reignOf 27 = .ok (.ishl, 1) := by decide +kernel
theorem dX9_reignOf_28 : decode cX9_reignOf 28 = .ok (.ior, 1) := by decide +kernel
theorem dX9_reignOf_29 : decode cX9_reignOf 29 = .ok (.istore_n 2, 1) := by decide +kernel
theorem dX9_reignOf_30 : decode cX9_reignOf 30 = .ok (.iinc 3 1, 3) := by decide +kernel
theorem dX9_reignOf_33 : decode cX9_reignOf 33 = .ok (.goto (-29), 3) := by decide +kernel
theorem dX9_reignOf_36 : decode cX9_reignOf 36 = .ok (.iload_n 2, 1) := by decide +kernel
theorem dX9_reignOf_37 : decode cX9_reignOf 37 = .ok (.ireturn, 1) := by decide +kernel
theorem dX9_rents_0 : decode cX9_rents 0 = .ok (.aload_n 0, 1) := by decide +kernel
theorem dX9_rents_1 : decode cX9_rents 1 = .ok (.iload_n 1, 1) := by decide +kernel
theorem dX9_rents_2 : decode cX9_rents 2 = .ok (.invokevirtual 107, 3) := by decide +kernel
theorem dX9_rents_5 : decode cX9_rents 5 = .ok (.ifCond .eq 11, 3) := by decide +kernel
theorem dX9_rents_8 : decode cX9_rents 8 = .ok (.aload_n 0, 1) := by decide +kernel
theorem dX9_rents_9 : decode cX9_rents 9 = .ok (.iload_n 1, 1) := by decide +kernel
theorem dX9_rents_10 : decode cX9_rents 10 = .ok (.invokevirtual 179, 3) := by decide +kernel
theorem dX9_rents_13 : decode cX9_rents 13 = .ok (.goto 5, 3) := by decide +kernel
theorem dX9_rents_16 : decode cX9_rents 16 = .ok (.bipush (-2), 2) := by decide +kernel
theorem dX9_rents_18 : decode cX9_rents 18 = .ok (.ireturn, 1) := by decide +kernel
theorem dX9_rentsOf_0 : decode cX9_rentsOf 0 = .ok (.aload_n 0, 1) := by decide +kernel
theorem dX9_rentsOf_1 : decode cX9_rentsOf 1 = .ok (.getfield 19, 3) := by decide +kernel
theorem dX9_rentsOf_4 : decode cX9_rentsOf 4 = .ok (.getfield 121, 3) := by decide +kernel
theorem dX9_rentsOf_7 : decode cX9_rentsOf 7 = .ok (.iload_n 1, 1) := by decide +kernel
theorem dX9_rentsOf_8 : decode cX9_rentsOf 8 = .ok (.iaload, 1) := by decide +kernel
theorem dX9_rentsOf_9 : decode cX9_rentsOf 9 = .ok (.aload_n 0, 1) := by decide +kernel
theorem dX9_rentsOf_10 : decode cX9_rentsOf 10 = .ok (.iload_n 1, 1) := by decide +kernel
theorem dX9_rentsOf_11 : decode cX9_rentsOf 11 = .ok (.invokevirtual 176, 3) := by decide +kernel
theorem dX9_rentsOf_14 : decode cX9_rentsOf 14 = .ok (.invokestatic 195, 3) := by decide +kernel
theorem dX9_rentsOf_17 : decode cX9_rentsOf 17 = .ok (.imul, 1) := by decide +kernel
theorem dX9_rentsOf_18 : decode cX9_rentsOf 18 = .ok (.ireturn, 1) := by decide +kernel
theorem dX9_rest_0 : decode cX9_rest 0 = .ok (.aload_n 0, 1) := by decide +kernel
theorem dX9_rest_1 : decode cX9_rest 1 = .ok (.iload_n 1, 1) := by decide +kernel
theorem dX9_rest_2 : decode cX9_rest 2 = .ok (.iload_n 2, 1) := by decide +kernel
theorem dX9_rest_3 : decode cX9_rest 3 = .ok (.iload_n 3, 1) := by decide +kernel
theorem dX9_rest_4 : decode cX9_rest 4 = .ok (.invokevirtual 270, 3) := by decide +kernel
theorem dX9_rest_7 : decode cX9_rest 7 = .ok (.ifCond .eq 13, 3) := by decide +kernel
theorem dX9_rest_10 : decode cX9_rest 10 = .ok (.aload_n 0, 1) := by decide +kernel
theorem dX9_rest_11 : decode cX9_rest 11 = .ok (.getfield 61, 3) := by decide +kernel
theorem dX9_rest_14 : decode cX9_rest 14 = .ok (.getfield 276, 3) := by decide +kernel
theorem dX9_rest_17 : decode cX9_rest 17 = .ok (.goto 5, 3) := by decide +kernel
theorem dX9_rest_20 : decode cX9_rest 20 = .ok (.bipush (-2), 2) := by decide +kernel
theorem dX9_rest_22 : decode cX9_rest 22 = .ok (.ireturn, 1) := by decide +kernel
theorem dX9_rests_0 : decode cX9_rests 0 = .ok (.aload_n 0, 1) := by decide +kernel
theorem dX9_rests_1 : decode cX9_rests 1 = .ok (.iload_n 1, 1) := by decide +kernel
theorem dX9_rests_2 : decode cX9_rests 2 = .ok (.iload_n 2, 1) := by decide +kernel
theorem dX9_rests_3 : decode cX9_rests 3 = .ok (.iload_n 3, 1) := by decide +kernel
theorem dX9_rests_4 : decode cX9_rests 4 = .ok (.invokevirtual 270, 3) := by decide +kernel
theorem dX9_rests_7 : decode cX9_rests 7 = .ok (.ifCond .eq 13, 3) := by decide +kernel
theorem dX9_rests_10 : decode cX9_rests 10 = .ok (.aload_n 0, 1) := by decide +kernel
theorem dX9_rests_11 : decode cX9_rests 11 = .ok (.getfield 61, 3) := by decide +kernel
theorem dX9_rests_14 : decode cX9_rests 14 = .ok (.getfield 273, 3) := by decide +kernel
theorem dX9_rests_17 : decode cX9_rests 17 = .ok (.goto 5, 3) := by decide +kernel
theorem dX9_rests_20 : decode cX9_rests 20 = .ok (.bipush (-2), 2) := by decide +kernel
theorem dX9_rests_22 : decode cX9_rests 22 = .ok (.ireturn, 1) := by decide +kernel
theorem dX9_round_0 : decode cX9_round 0 = .ok (.aload_n 0, 1) := by decide +kernel
theorem dX9_round_1 : decode cX9_round 1 = .ok (.iload_n 1, 1) := by decide +kernel
theorem dX9_round_2 : decode cX9_round 2 = .ok (.invokevirtual 127, 3) := by decide +kernel
theorem dX9_round_5 : decode cX9_round 5 = .ok (.ifCond .ne 6, 3) := by decide +kernel
theorem dX9_round_8 : decode cX9_round 8 = .ok (.bipush (-2), 2) := by decide +kernel
theorem dX9_round_10 : decode cX9_round 10 = .ok (.ireturn, 1) := by decide +kernel
theorem dX9_round_11 : decode cX9_round 11 = .ok (.aload_n 0, 1) := by decide +kernel
theorem dX9_round_12 : decode cX9_round 12 = .ok (.getfield 54, 3) := by decide +kernel
theorem dX9_round_15 : decode cX9_round 15 = .ok (.aload_n 0, 1) := by decide +kernel
theorem dX9_round_16 : decode cX9_round 16 = .ok (.getfield 19, 3) := by decide +kernel
theorem dX9_round_19 : decode cX9_round 19 = .ok (.aload_n 0, 1) := by decide +kernel
theorem dX9_round_20 : decode cX9_round 20 = .ok (.getfield 33, 3) := by decide +kernel
theorem dX9_round_23 : decode cX9_round 23 = .ok (.getfield 130, 3) := by decide +kernel
theorem dX9_round_26 : decode cX9_round 26 = .ok (.iload_n 1, 1) := by decide +kernel
theorem dX9_round_27 : decode cX9_round 27 = .ok (.aaload, 1) := by decide +kernel
theorem dX9_round_28 : decode cX9_round 28 = .ok (.invokevirtual 234, 3) := by decide +kernel
theorem dX9_round_31 : decode cX9_round 31 = .ok (.aload_n 0, 1) := by decide +kernel
theorem dX9_round_32 : decode cX9_round 32 = .ok (.getfield 54, 3) := by decide +kernel
theorem dX9_round_35 : decode cX9_round 35 = .ok (.aload_n 0, 1) := by decide +kernel
theorem dX9_round_36 : decode cX9_round 36 = .ok (.getfield 19, 3) := by decide +kernel
theorem dX9_round_39 : decode cX9_round 39 = .ok (.getfield 238, 3) := by decide +kernel
theorem dX9_round_42 : decode cX9_round 42 = .ok (.aload_n 0, 1) := by decide +kernel
theorem dX9_round_43 : decode cX9_round 43 = .ok (.getfield 33, 3) := by decide +kernel
theorem dX9_round_46 : decode cX9_round 46 = .ok (.getfield 138, 3) := by decide +kernel
theorem dX9_round_49 : decode cX9_round 49 = .ok (.iload_n 1, 1) := by decide +kernel
theorem dX9_round_50 : decode cX9_round 50 = .ok (.iaload, 1) := by decide +kernel
theorem dX9_round_51 : decode cX9_round 51 = .ok (.invokevirtual 241, 3) := by decide +kernel
theorem dX9_round_54 : decode cX9_round 54 = .ok (.aload_n 0, 1) := by decide +kernel
theorem dX9_round_55 : decode cX9_round 55 = .ok (.getfield 54, 3) := by decide +kernel
theorem dX9_round_58 : decode cX9_round 58 = .ok (.getfield 244, 3) := by decide +kernel
theorem dX9_round_61 : decode cX9_round 61 = .ok (.ireturn, 1) := by decide +kernel
theorem dX9_rounds_0 : decode cX9_rounds 0 = .ok (.aload_n 0, 1) := by decide +kernel
theorem dX9_rounds_1 : decode cX9_rounds 1 = .ok (.iload_n 1, 1) := by decide +kernel
theorem dX9_rounds_2 : decode cX9_rounds 2 = .ok (.invokevirtual 127, 3) := by decide +kernel
theorem dX9_rounds_5 : decode cX9_rounds 5 = .ok (.ifCond .ne 6, 3) := by decide +kernel
theorem dX9_rounds_8 : decode cX9_rounds 8 = .ok (.bipush (-2), 2) := by decide +kernel
theorem dX9_rounds_10 : decode cX9_rounds 10 = .ok (.ireturn, 1) := by decide +kernel
theorem dX9_rounds_11 : decode cX9_rounds 11 = .ok (.aload_n 0, 1) := by decide +kernel
theorem dX9_rounds_12 : decode cX9_rounds 12 = .ok (.getfield 54, 3) := by decide +kernel
theorem dX9_rounds_15 : decode cX9_rounds 15 = .ok (.aload_n 0, 1) := by decide +kernel
theorem dX9_rounds_16 : decode cX9_rounds 16 = .ok (.getfield 19, 3) := by decide +kernel
theorem dX9_rounds_19 : decode cX9_rounds 19 = .ok (.aload_n 0, 1) := by decide +kernel
theorem dX9_rounds_20 : decode cX9_rounds 20 = .ok (.getfield 33, 3) := by decide +kernel
theorem dX9_rounds_23 : decode cX9_rounds 23 = .ok (.getfield 130, 3) := by decide +kernel
theorem dX9_rounds_26 : decode cX9_rounds 26 = .ok (.iload_n 1, 1) := by decide +kernel
theorem dX9_rounds_27 : decode cX9_rounds 27 = .ok (.aaload, 1) := by decide +kernel
theorem dX9_rounds_28 : decode cX9_rounds 28 = .ok (.invokevirtual 234, 3) := by decide +kernel
theorem dX9_rounds_31 : decode cX9_rounds 31 = .ok (.aload_n 0, 1) := by decide +kernel
theorem dX9_rounds_32 : decode cX9_rounds 32 = .ok (.getfield 54, 3) := by decide +kernel
theorem dX9_rounds_35 : decode cX9_rounds 35 = .ok (.aload_n 0, 1) := by decide +kernel
theorem dX9_rounds_36 : decode cX9_rounds 36 = .ok (.getfield 19, 3) := by decide +kernel
theorem dX9_rounds_39 : decode cX9_rounds 39 = .ok (.getfield 238, 3) := by decide +kernel
theorem dX9_rounds_42 : decode cX9_rounds 42 = .ok (.aload_n 0, 1) := by decide +kernel
theorem dX9_rounds_43 : decode cX9_rounds 43 = .ok (.getfield 33, 3) := by decide +kernel
theorem dX9_rounds_46 : decode cX9_rounds 46 = .ok (.getfield 138, 3) := by decide +kernel
theorem dX9_rounds_49 : decode cX9_rounds 49 = .ok (.iload_n 1, 1) := by decide +kernel
theorem dX9_rounds_50 : decode cX9_rounds 50 = .ok (.iaload, 1) := by decide +kernel
theorem dX9_rounds_51 : decode cX9_rounds 51 = .ok (.invokevirtual 241, 3) := by decide +kernel
theorem dX9_rounds_54 : decode cX9_rounds 54 = .ok (.iload_n 2, 1) := by decide +kernel
theorem dX9_rounds_55 : decode cX9_rounds 55 = .ok (.ifCond .lt 26, 3) := by decide +kernel
theorem dX9_rounds_58 : decode cX9_rounds 58 = .ok (.iload_n 2, 1) := by decide +kernel
theorem dX9_rounds_59 : decode cX9_rounds 59 = .ok (.aload_n 0, 1) := by decide +kernel
theorem dX9_rounds_60 : decode cX9_rounds 60 = .ok (.getfield 54, 3) := by decide +kernel
theorem dX9_rounds_63 : decode cX9_rounds 63 = .ok (.getfield 247, 3) := by decide +kernel
theorem dX9_rounds_66 : decode cX9_rounds 66 = .ok (.if_icmp .ge 15, 3) := by decide +kernel
theorem dX9_rounds_69 : decode cX9_rounds 69 = .ok (.aload_n 0, 1) := by decide +kernel
theorem dX9_rounds_70 : decode cX9_rounds 70 = .ok (.getfield 54, 3) := by decide +kernel
theorem dX9_rounds_73 : decode cX9_rounds 73 = .ok (.getfield 250, 3) := by decide +kernel
theorem dX9_rounds_76 : decode cX9_rounds 76 = .ok (.iload_n 2, 1) := by decide +kernel
theorem dX9_rounds_77 : decode cX9_rounds 77 = .ok (.iaload, 1) := by decide +kernel
theorem dX9_rounds_78 : decode cX9_rounds 78 = .ok (.goto 4, 3) := by decide +kernel
theorem dX9_rounds_81 : decode cX9_rounds 81 = .ok (.iconst (-1), 1) := by decide +kernel
theorem dX9_rounds_82 : decode cX9_rounds 82 = .ok (.ireturn, 1) := by decide +kernel
theorem dX9_row_0 : decode cX9_row 0 = .ok (.iload_n 1, 1) := by decide +kernel
theorem dX9_row_1 : decode cX9_row 1 = .ok (.invokestatic 253, 3) := by decide +kernel
theorem dX9_row_4 : decode cX9_row 4 = .ok (.ifCond .eq 18, 3) := by decide +kernel
theorem dX9_row_7 : decode cX9_row 7 = .ok (.iload_n 2, 1) := by decide +kernel
theorem dX9_row_8 : decode cX9_row 8 = .ok (.iconst 0, 1) := by decide +kernel
theorem dX9_row_9 : decode cX9_row 9 = .ok (.iconst 3, 1) := by decide +kernel
theorem dX9_row_10 : decode cX9_row 10 = .ok (.invokestatic 148, 3) := by decide +kernel
theorem dX9_row_13 : decode cX9_row 13 = .ok (.ifCond .eq 9, 3) := by decide +kernel
theorem dX9_row_16 : decode cX9_row 16 = .ok (.iload_n 3, 1) := by decide +kernel
theorem dX9_row_17 : decode cX9_row 17 = .ok (.bipush 60, 2) := by decide +kernel
theorem dX9_row_19 : decode cX9_row 19 = .ok (.if_icmp .le 6, 3) := by decide +kernel
theorem dX9_row_22 : decode cX9_row 22 = .ok (.bipush (-2), 2) := by decide +kernel
theorem dX9_row_24 : decode cX9_row 24 = .ok (.ireturn, 1) := by decide +kernel
theorem dX9_row_25 : decode cX9_row 25 = .ok (.iload_n 3, 1) := by decide +kernel
theorem dX9_row_26 : decode cX9_row 26 = .ok (.ifCond .ge 6, 3) := by decide +kernel
theorem dX9_row_29 : decode cX9_row 29 = .ok (.bipush (-3), 2) := by decide +kernel
theorem dX9_row_31 : decode cX9_row 31 = .ok (.ireturn, 1) := by decide +kernel
theorem dX9_row_32 : decode cX9_row 32 = .ok (.aload_n 0, 1) := by decide +kernel
theorem dX9_row_33 : decode cX9_row 33 = .ok (.getfield 39, 3) := by decide +kernel
theorem dX9_row_36 : decode cX9_row 36 = .ok (.iload_n 1, 1) := by decide +kernel
theorem dX9_row_37 : decode cX9_row 37 = .ok (.aaload, 1) := by decide +kernel
theorem dX9_row_38 : decode cX9_row 38 = .ok (.iload_n 2, 1) := by decide +kernel
theorem dX9_row_39 : decode cX9_row 39 = .ok (.iload_n 3, 1) := by decide +kernel
theorem dX9_row_40 : decode cX9_row 40 = .ok (.invokevirtual 357, 3) := by decide +kernel
theorem dX9_row_43 : decode cX9_row 43 = .ok (.iconst 0, 1) := by decide +kernel
theorem dX9_row_44 : decode cX9_row 44 = .ok (.ireturn, 1) := by decide +kernel
theorem dX9_rowsThere_0 : decode cX9_rowsThere 0 = .ok (.iconst 0, 1) := by decide +kernel
theorem dX9_rowsThere_1 : decode cX9_rowsThere 1 = .ok (.istore_n 1, 1) := by decide +kernel
theorem dX9_rowsThere_2 : decode cX9_rowsThere 2 = .ok (.iconst 0, 1) := by decide +kernel
theorem dX9_rowsThere_3 : decode cX9_rowsThere 3 = .ok (.istore_n 2, 1) := by decide +kernel
theorem dX9_rowsThere_4 : decode cX9_rowsThere 4 = .ok (.iload_n 2, 1) := by decide +kernel
theorem dX9_rowsThere_5 : decode cX9_rowsThere 5 = .ok (.iconst 4, 1) := by decide +kernel
theorem dX9_rowsThere_6 : decode cX9_rowsThere 6 = .ok (.if_icmp .ge 24, 3) := by decide +kernel
theorem dX9_rowsThere_9 : decode cX9_rowsThere 9 = .ok (.aload_n 0, 1) := by decide +kernel
theorem dX9_rowsThere_10 : decode cX9_rowsThere 10 = .ok (.getfield 39, 3) := by decide +kernel
theorem dX9_rowsThere_13 : decode cX9_rowsThere 13 = .ok (.iload_n 2, 1) := by decide +kernel
theorem dX9_rowsThere_14 : decode cX9_rowsThere 14 = .ok (.aaload, 1) := by decide +kernel
theorem dX9_rowsThere_15 : decode cX9_rowsThere 15 = .ok (.invokevirtual 256, 3) := by decide +kernel
theorem dX9_rowsThere_18 : decode cX9_rowsThere 18 = .ok (.ifCond .eq 6, 3) := by decide +kernel
theorem dX9_rowsThere_21 : decode cX9_rowsThere 21 = .ok (.iinc 1 1, 3) := by decide +kernel
theorem dX9_rowsThere_24 : decode cX9_rowsThere 24 = .ok (.iinc 2 1, 3) := by decide +kernel
theorem dX9_rowsThere_27 : decode cX9_rowsThere 27 = .ok (.goto (-23), 3) := by decide +kernel
theorem dX9_rowsThere_30 : decode cX9_rowsThere 30 = .ok (.iload_n 1, 1) := by decide +kernel
theorem dX9_rowsThere_31 : decode cX9_rowsThere 31 = .ok (.ireturn, 1) := by decide +kernel
theorem dX9_seekAway_0 : decode cX9_seekAway 0 = .ok (.aload_n 0, 1) := by decide +kernel
theorem dX9_seekAway_1 : decode cX9_seekAway 1 = .ok (.iload_n 1, 1) := by decide +kernel
theorem dX9_seekAway_2 : decode cX9_seekAway 2 = .ok (.invokevirtual 390, 3) := by decide +kernel
theorem dX9_seekAway_5 : decode cX9_seekAway 5 = .ok (.istore_n 2, 1) := by decide +kernel
theorem dX9_seekAway_6 : decode cX9_seekAway 6 = .ok (.iload_n 2, 1) := by decide +kernel
theorem dX9_seekAway_7 : decode cX9_seekAway 7 = .ok (.ifCond .ne 14, 3) := by decide +kernel
theorem dX9_seekAway_10 : decode cX9_seekAway 10 = .ok (.aload_n 0, 1) := by decide +kernel
theorem dX9_seekAway_11 : decode cX9_seekAway 11 = .ok (.getfield 68, 3) := by decide +kernel
theorem dX9_seekAway_14 : decode cX9_seekAway 14 = .ok (.aload_n 0, 1) := by decide +kernel
theorem dX9_seekAway_15 : decode cX9_seekAway 15 = .ok (.getfield 33, 3) := by decide +kernel
theorem dX9_seekAway_18 : decode cX9_seekAway 18 = .ok (.invokevirtual 393, 3) := by decide +kernel
theorem dX9_seekAway_21 : decode cX9_seekAway 21 = .ok (.iload_n 2, 1) := by decide +kernel
theorem dX9_seekAway_22 : decode cX9_seekAway 22 = .ok (.ireturn, 1) := by decide +kernel
theorem dX9_seekUnder_0 : decode cX9_seekUnder 0 = .ok (.aload_n 0, 1) := by decide +kernel
theorem dX9_seekUnder_1 : decode cX9_seekUnder 1 = .ok (.iload_n 1, 1) := by decide +kernel
theorem dX9_seekUnder_2 : decode cX9_seekUnder 2 = .ok (.invokevirtual 390, 3) := by decide +kernel
theorem dX9_seekUnder_5 : decode cX9_seekUnder 5 = .ok (.istore_n 2, 1) := by decide +kernel
theorem dX9_seekUnder_6 : decode cX9_seekUnder 6 = .ok (.iload_n 2, 1) := by decide +kernel
theorem dX9_seekUnder_7 : decode cX9_seekUnder 7 = .ok (.ifCond .ne 14, 3) := by decide +kernel
theorem dX9_seekUnder_10 : decode cX9_seekUnder 10 = .ok (.aload_n 0, 1) := by decide +kernel
theorem dX9_seekUnder_11 : decode cX9_seekUnder 11 = .ok (.getfield 68, 3) := by decide +kernel
theorem dX9_seekUnder_14 : decode cX9_seekUnder 14 = .ok (.aload_n 0, 1) := by decide +kernel
theorem dX9_seekUnder_15 : decode cX9_seekUnder 15 = .ok (.getfield 33, 3) := by decide +kernel
theorem dX9_seekUnder_18 : decode cX9_seekUnder 18 = .ok (.invokevirtual 397, 3) := by decide +kernel
theorem dX9_seekUnder_21 : decode cX9_seekUnder 21 = .ok (.iload_n 2, 1) := by decide +kernel
theorem dX9_seekUnder_22 : decode cX9_seekUnder 22 = .ok (.ireturn, 1) := by decide +kernel
theorem dX9_slack_0 : decode cX9_slack 0 = .ok (.aload_n 0, 1) := by decide +kernel
theorem dX9_slack_1 : decode cX9_slack 1 = .ok (.iload_n 1, 1) := by decide +kernel
theorem dX9_slack_2 : decode cX9_slack 2 = .ok (.invokevirtual 107, 3) := by decide +kernel
theorem dX9_slack_5 : decode cX9_slack 5 = .ok (.ifCond .eq 11, 3) := by decide +kernel
theorem dX9_slack_8 : decode cX9_slack 8 = .ok (.aload_n 0, 1) := by decide +kernel
theorem dX9_slack_9 : decode cX9_slack 9 = .ok (.iload_n 2, 1) := by decide +kernel
theorem dX9_slack_10 : decode cX9_slack 10 = .ok (.invokevirtual 127, 3) := by decide +kernel
theorem dX9_slack_13 : decode cX9_slack 13 = .ok (.ifCond .ne 6, 3) := by decide +kernel
theorem dX9_slack_16 : decode cX9_slack 16 = .ok (.bipush (-2), 2) := by decide +kernel
theorem dX9_slack_18 : decode cX9_slack 18 = .ok (.ireturn, 1) := by decide +kernel
theorem dX9_slack_19 : decode cX9_slack 19 = .ok (.aload_n 0, 1) := by decide +kernel
theorem dX9_slack_20 : decode cX9_slack 20 = .ok (.iload_n 2, 1) := by decide +kernel
theorem dX9_slack_21 : decode cX9_slack 21 = .ok (.invokevirtual 134, 3) := by decide +kernel
theorem dX9_slack_24 : decode cX9_slack 24 = .ok (.istore_n 3, 1) := by decide +kernel
theorem dX9_slack_25 : decode cX9_slack 25 = .ok (.iload_n 3, 1) := by decide +kernel
theorem dX9_slack_26 : decode cX9_slack 26 = .ok (.sipush 10000, 3) := by decide +kernel
theorem dX9_slack_29 : decode cX9_slack 29 = .ok (.if_icmp .ne 9, 3) := by decide +kernel
theorem dX9_slack_32 : decode cX9_slack 32 = .ok (.sipush 10000, 3) := by decide +kernel
theorem dX9_slack_35 : decode cX9_slack 35 = .ok (.goto 20, 3) := by decide +kernel
theorem dX9_slack_38 : decode cX9_slack 38 = .ok (.iconst 0, 1) := by decide +kernel
theorem dX9_slack_39 : decode cX9_slack 39 = .ok (.iload_n 3, 1) := by decide +kernel
theorem dX9_slack_40 : decode cX9_slack 40 = .ok (.aload_n 0, 1) := by decide +kernel
theorem dX9_slack_41 : decode cX9_slack 41 = .ok (.getfield 33, 3) := by decide +kernel
theorem dX9_slack_44 : decode cX9_slack 44 = .ok (.getfield 130, 3) := by decide +kernel
theorem dX9_slack_47 : decode cX9_slack 47 = .ok (.iload_n 2, 1) := by decide +kernel
theorem dX9_slack_48 : decode cX9_slack 48 = .ok (.aaload, 1) := by decide +kernel
theorem dX9_slack_49 : decode cX9_slack 49 = .ok (.iload_n 1, 1) := by decide +kernel
theorem dX9_slack_50 : decode cX9_slack 50 = .ok (.iaload, 1) := by decide +kernel
theorem dX9_slack_51 : decode cX9_slack 51 = .ok (.isub, 1) := by decide +kernel
theorem dX9_slack_52 : decode cX9_slack 52 = .ok (.invokestatic 200, 3) := by decide +kernel
theorem dX9_slack_55 : decode cX9_slack 55 = .ok (.ireturn, 1) := by decide +kernel
theorem dX9_slowest_0 : decode cX9_slowest 0 = .ok (.aload_n 0, 1) := by decide +kernel
theorem dX9_slowest_1 : decode cX9_slowest 1 = .ok (.iload_n 1, 1) := by decide +kernel
theorem dX9_slowest_2 : decode cX9_slowest 2 = .ok (.invokevirtual 127, 3) := by decide +kernel
theorem dX9_slowest_5 : decode cX9_slowest 5 = .ok (.ifCond .eq 11, 3) := by decide +kernel
theorem dX9_slowest_8 : decode cX9_slowest 8 = .ok (.aload_n 0, 1) := by decide +kernel
theorem dX9_slowest_9 : decode cX9_slowest 9 = .ok (.iload_n 1, 1) := by decide +kernel
theorem dX9_slowest_10 : decode cX9_slowest 10 = .ok (.invokevirtual 141, 3) := by decide +kernel
theorem dX9_slowest_13 : decode cX9_slowest 13 = .ok (.goto 5, 3) := by decide +kernel
theorem dX9_slowest_16 : decode cX9_slowest 16 = .ok (.bipush (-2), 2) := by decide +kernel
theorem dX9_slowest_18 : decode cX9_slowest 18 = .ok (.ireturn, 1) := by decide +kernel
theorem dX9_slowestDrawn_0 : decode cX9_slowestDrawn 0 = .ok (.aload_n 0, 1) := by decide +kernel
theorem dX9_slowestDrawn_1 : decode cX9_slowestDrawn 1 = .ok (.getfield 75, 3) := by decide +kernel
theorem dX9_slowestDrawn_4 : decode cX9_slowestDrawn 4 = .ok (.iload_n 1, 1) := by decide +kernel
theorem dX9_slowestDrawn_5 : decode cX9_slowestDrawn 5 = .ok (.invokevirtual 329, 3) := by decide +kernel
theorem dX9_slowestDrawn_8 : decode cX9_slowestDrawn 8 = .ok (.iconst 0, 1) := by decide +kernel
theorem dX9_slowestDrawn_9 : decode cX9_slowestDrawn 9 = .ok (.istore_n 3, 1) := by decide +kernel
theorem dX9_slowestDrawn_10 : decode cX9_slowestDrawn 10 = .ok (.iload_n 3, 1) := by decide +kernel
theorem dX9_slowestDrawn_11 : decode cX9_slowestDrawn 11 = .ok (.iload_n 2, 1) := by decide +kernel
theorem dX9_slowestDrawn_12 : decode cX9_slowestDrawn 12 = .ok (.if_icmp .gt 42, 3) := by decide +kernel
theorem dX9_slowestDrawn_15 : decode cX9_slowestDrawn 15 = .ok (.aload_n 0, 1) := by decide +kernel
theorem dX9_slowestDrawn_16 : decode cX9_slowestDrawn 16 = .ok (.getfield 75, 3) := by decide +kernel
theorem dX9_slowestDrawn_19 : decode cX9_slowestDrawn 19 = .ok (.aload_n 0, 1) := by decide +kernel
theorem dX9_slowestDrawn_20 : decode cX9_slowestDrawn 20 = .ok (.getfield 33, 3) := by decide +kernel
theorem dX9_slowestDrawn_23 : decode cX9_slowestDrawn 23 = .ok (.getfield 130, 3) := by decide +kernel
theorem dX9_slowestDrawn_26 : decode cX9_slowestDrawn 26 = .ok (.iload_n 3, 1) := by decide +kernel
theorem dX9_slowestDrawn_27 : decode cX9_slowestDrawn 27 = .ok (.aaload, 1) := by decide +kernel
theorem dX9_slowestDrawn_28 : decode cX9_slowestDrawn 28 = .ok (.aload_n 0, 1) := by decide +kernel
theorem dX9_slowestDrawn_29 : decode cX9_slowestDrawn 29 = .ok (.getfield 33, 3) := by decide +kernel
theorem dX9_slowestDrawn_32 : decode cX9_slowestDrawn 32 = .ok (.getfield 138, 3) := by decide +kernel
theorem dX9_slowestDrawn_35 : decode cX9_slowestDrawn 35 = .ok (.iload_n 3, 1) := by decide +kernel
theorem dX9_slowestDrawn_36 : decode cX9_slowestDrawn 36 = .ok (.iaload, 1) := by decide +kernel
theorem dX9_slowestDrawn_37 : decode cX9_slowestDrawn 37 = .ok (.aload_n 0, 1) := by decide +kernel
theorem dX9_slowestDrawn_38 : decode cX9_slowestDrawn 38 = .ok (.getfield 19, 3) := by decide +kernel
theorem dX9_slowestDrawn_41 : decode cX9_slowestDrawn 41 = .ok (.getfield 305, 3) := by decide +kernel
theorem dX9_slowestDrawn_44 : decode cX9_slowestDrawn 44 = .ok (.invokevirtual 331, 3) := by decide +kernel
theorem dX9_slowestDrawn_47 : decode cX9_slowestDrawn 47 = .ok (.pop, 1) := by decide +kernel
theorem dX9_slowestDrawn_48 : decode cX9_slowestDrawn 48 = .ok (.iinc 3 1, 3) := by decide +kernel
theorem dX9_slowestDrawn_51 : decode cX9_slowestDrawn 51 = .ok (.goto (-41), 3) := by decide +kernel
theorem dX9_slowestDrawn_54 : decode cX9_slowestDrawn 54 = .ok (.aload_n 0, 1) := by decide +kernel
theorem dX9_slowestDrawn_55 : decode cX9_slowestDrawn 55 = .ok (.getfield 75, 3) := by decide +kernel
theorem dX9_slowestDrawn_58 : decode cX9_slowestDrawn 58 = .ok (.getfield 335, 3) := by decide +kernel
theorem dX9_slowestDrawn_61 : decode cX9_slowestDrawn 61 = .ok (.aload_n 0, 1) := by decide +kernel
theorem dX9_slowestDrawn_62 : decode cX9_slowestDrawn 62 = .ok (.getfield 33, 3) := by decide +kernel
theorem dX9_slowestDrawn_65 : decode cX9_slowestDrawn 65 = .ok (.getfield 138, 3) := by decide +kernel
theorem dX9_slowestDrawn_68 : decode cX9_slowestDrawn 68 = .ok (.iload_n 2, 1) := by decide +kernel
theorem dX9_slowestDrawn_69 : decode cX9_slowestDrawn 69 = .ok (.iaload, 1) := by decide +kernel
theorem dX9_slowestDrawn_70 : decode cX9_slowestDrawn 70 = .ok (.invokestatic 205, 3) := by decide +kernel
theorem dX9_slowestDrawn_73 : decode cX9_slowestDrawn 73 = .ok (.ireturn, 1) := by decide +kernel
theorem dX9_slowestOn_0 : decode cX9_slowestOn 0 = .ok (.aload_n 0, 1) := by decide +kernel
theorem dX9_slowestOn_1 : decode cX9_slowestOn 1 = .ok (.getfield 33, 3) := by decide +kernel
theorem dX9_slowestOn_4 : decode cX9_slowestOn 4 = .ok (.getfield 130, 3) := by decide +kernel
theorem dX9_slowestOn_7 : decode cX9_slowestOn 7 = .ok (.iload_n 1, 1) := by decide +kernel
theorem dX9_slowestOn_8 : decode cX9_slowestOn 8 = .ok (.aaload, 1) := by decide +kernel
theorem dX9_slowestOn_9 : decode cX9_slowestOn 9 = .ok (.aload_n 0, 1) := by decide +kernel
theorem dX9_slowestOn_10 : decode cX9_slowestOn 10 = .ok (.getfield 33, 3) := by decide +kernel
theorem dX9_slowestOn_13 : decode cX9_slowestOn 13 = .ok (.getfield 138, 3) := by decide +kernel
theorem dX9_slowestOn_16 : decode cX9_slowestOn 16 = .ok (.iload_n 1, 1) := by decide +kernel
theorem dX9_slowestOn_17 : decode cX9_slowestOn 17 = .ok (.iaload, 1) := by decide +kernel
theorem dX9_slowestOn_18 : decode cX9_slowestOn 18 = .ok (.invokestatic 205, 3) := by decide +kernel
theorem dX9_slowestOn_21 : decode cX9_slowestOn 21 = .ok (.ireturn, 1) := by decide +kernel
theorem dX9_spread_0 : decode cX9_spread 0 = .ok (.aload_n 0, 1) := by decide +kernel
theorem dX9_spread_1 : decode cX9_spread 1 = .ok (.iload_n 1, 1) := by decide +kernel
theorem dX9_spread_2 : decode cX9_spread 2 = .ok (.invokevirtual 127, 3) := by decide +kernel
theorem dX9_spread_5 : decode cX9_spread 5 = .ok (.ifCond .ne 6, 3) := by decide +kernel
theorem dX9_spread_8 : decode cX9_spread 8 = .ok (.bipush (-2), 2) := by decide +kernel
theorem dX9_spread_10 : decode cX9_spread 10 = .ok (.ireturn, 1) := by decide +kernel
theorem dX9_spread_11 : decode cX9_spread 11 = .ok (.aload_n 0, 1) := by decide +kernel
theorem dX9_spread_12 : decode cX9_spread 12 = .ok (.getfield 33, 3) := by decide +kernel
theorem dX9_spread_15 : decode cX9_spread 15 = .ok (.iload_n 1, 1) := by decide +kernel
theorem dX9_spread_16 : decode cX9_spread 16 = .ok (.iconst 0, 1) := by decide +kernel
theorem dX9_spread_17 : decode cX9_spread 17 = .ok (.invokevirtual 144, 3) := by decide +kernel
theorem dX9_spread_20 : decode cX9_spread 20 = .ok (.istore_n 2, 1) := by decide +kernel
theorem dX9_spread_21 : decode cX9_spread 21 = .ok (.iload_n 2, 1) := by decide +kernel
theorem dX9_spread_22 : decode cX9_spread 22 = .ok (.iconst (-1), 1) := by decide +kernel
theorem dX9_spread_23 : decode cX9_spread 23 = .ok (.if_icmp .ne 5, 3) := by decide +kernel
theorem dX9_spread_26 : decode cX9_spread 26 = .ok (.iconst 0, 1) := by decide +kernel
theorem dX9_spread_27 : decode cX9_spread 27 = .ok (.ireturn, 1) := by decide +kernel
theorem dX9_spread_28 : decode cX9_spread 28 = .ok (.aload_n 0, 1) := by decide +kernel
theorem dX9_spread_29 : decode cX9_spread 29 = .ok (.iload_n 1, 1) := by decide +kernel
theorem dX9_spread_30 : decode cX9_spread 30 = .ok (.invokevirtual 134, 3) := by decide +kernel
theorem dX9_spread_33 : decode cX9_spread 33 = .ok (.istore_n 3, 1) := by decide +kernel
theorem dX9_spread_34 : decode cX9_spread 34 = .ok (.iload_n 3, 1) := by decide +kernel
theorem dX9_spread_35 : decode cX9_spread 35 = .ok (.sipush 10000, 3) := by decide +kernel
theorem dX9_spread_38 : decode cX9_spread 38 = .ok (.if_icmp .ne 9, 3) := by decide +kernel
theorem dX9_spread_41 : decode cX9_spread 41 = .ok (.sipush 10000, 3) := by decide +kernel
theorem dX9_spread_44 : decode cX9_spread 44 = .ok (.goto 16, 3) := by decide +kernel
theorem dX9_spread_47 : decode cX9_spread 47 = .ok (.iload_n 3, 1) := by decide +kernel
theorem dX9_spread_48 : decode cX9_spread 48 = .ok (.aload_n 0, 1) := by decide +kernel
theorem dX9_spread_49 : decode cX9_spread 49 = .ok (.getfield 33, 3) := by decide +kernel
theorem dX9_spread_52 : decode cX9_spread 52 = .ok (.getfield 130, 3) := by decide +kernel
theorem dX9_spread_55 : decode cX9_spread 55 = .ok (.iload_n 1, 1) := by decide +kernel
theorem dX9_spread_56 : decode cX9_spread 56 = .ok (.aaload, 1) := by decide +kernel
theorem dX9_spread_57 : decode cX9_spread 57 = .ok (.iload_n 2, 1) := by decide +kernel
theorem dX9_spread_58 : decode cX9_spread 58 = .ok (.iaload, 1) := by decide +kernel
theorem dX9_spread_59 : decode cX9_spread 59 = .ok (.isub, 1) := by decide +kernel
theorem dX9_spread_60 : decode cX9_spread 60 = .ok (.ireturn, 1) := by decide +kernel
theorem dX9_steady_0 : decode cX9_steady 0 = .ok (.aload_n 0, 1) := by decide +kernel
theorem dX9_steady_1 : decode cX9_steady 1 = .ok (.invokevirtual 166, 3) := by decide +kernel
theorem dX9_steady_4 : decode cX9_steady 4 = .ok (.ifCond .ne 6, 3) := by decide +kernel
theorem dX9_steady_7 : decode cX9_steady 7 = .ok (.bipush (-2), 2) := by decide +kernel
theorem dX9_steady_9 : decode cX9_steady 9 = .ok (.ireturn, 1) := by decide +kernel
theorem dX9_steady_10 : decode cX9_steady 10 = .ok (.iconst (-1), 1) := by decide +kernel
theorem dX9_steady_11 : decode cX9_steady 11 = .ok (.istore_n 1, 1) := by decide +kernel
theorem dX9_steady_12 : decode cX9_steady 12 = .ok (.iconst 0, 1) := by decide +kernel
theorem dX9_steady_13 : decode cX9_steady 13 = .ok (.istore_n 2, 1) := by decide +kernel
theorem dX9_steady_14 : decode cX9_steady 14 = .ok (.iconst 0, 1) := by decide +kernel
theorem dX9_steady_15 : decode cX9_steady 15 = .ok (.istore_n 3, 1) := by decide +kernel
theorem dX9_steady_16 : decode cX9_steady 16 = .ok (.iload_n 3, 1) := by decide +kernel
theorem dX9_steady_17 : decode cX9_steady 17 = .ok (.aload_n 0, 1) := by decide +kernel
theorem dX9_steady_18 : decode cX9_steady 18 = .ok (.getfield 33, 3) := by decide +kernel
theorem dX9_steady_21 : decode cX9_steady 21 = .ok (.getfield 182, 3) := by decide +kernel
theorem dX9_steady_24 : decode cX9_steady 24 = .ok (.if_icmp .ge 32, 3) := by decide +kernel
theorem dX9_steady_27 : decode cX9_steady 27 = .ok (.aload_n 0, 1) := by decide +kernel
theorem dX9_steady_28 : decode cX9_steady 28 = .ok (.iload_n 3, 1) := by decide +kernel
theorem dX9_steady_29 : decode cX9_steady 29 = .ok (.invokevirtual 211, 3) := by decide +kernel
theorem dX9_steady_32 : decode cX9_steady 32 = .ok (.istore 4, 2) := by decide +kernel
theorem dX9_steady_34 : decode cX9_steady 34 = .ok (.iload_n 1, 1) := by decide +kernel
theorem dX9_steady_35 : decode cX9_steady 35 = .ok (.iconst (-1), 1) := by decide +kernel
theorem dX9_steady_36 : decode cX9_steady 36 = .ok (.if_icmp .eq 9, 3) := by decide +kernel
theorem dX9_steady_39 : decode cX9_steady 39 = .ok (.iload 4, 2) := by decide +kernel
theorem dX9_steady_41 : decode cX9_steady 41 = .ok (.iload_n 2, 1) := by decide +kernel
theorem dX9_steady_42 : decode cX9_steady 42 = .ok (.if_icmp .ge 8, 3) := by decide +kernel
theorem dX9_steady_45 : decode cX9_steady 45 = .ok (.iload 4, 2) := by decide +kernel
theorem dX9_steady_47 : decode cX9_steady 47 = .ok (.istore_n 2, 1) := by decide +kernel
theorem dX9_steady_48 : decode cX9_steady 48 = .ok (.iload_n 3, 1) := by decide +kernel
theorem dX9_steady_49 : decode cX9_steady 49 = .ok (.istore_n 1, 1) := by decide +kernel
theorem dX9_steady_50 : decode cX9_steady 50 = .ok (.iinc 3 1, 3) := by decide +kernel
theorem dX9_steady_53 : decode cX9_steady 53 = .ok (.goto (-37), 3) := by decide +kernel
theorem dX9_steady_56 : decode cX9_steady 56 = .ok (.iload_n 1, 1) := by decide +kernel
theorem dX9_steady_57 : decode cX9_steady 57 = .ok (.ireturn, 1) := by decide +kernel
theorem dX9_stop_0 : decode cX9_stop 0 = .ok (.aload_n 0, 1) := by decide +kernel
theorem dX9_stop_1 : decode cX9_stop 1 = .ok (.iconst 2, 1) := by decide +kernel
theorem dX9_stop_2 : decode cX9_stop 2 = .ok (.iload_n 1, 1) := by decide +kernel
theorem dX9_stop_3 : decode cX9_stop 3 = .ok (.iload_n 2, 1) := by decide +kernel
theorem dX9_stop_4 : decode cX9_stop 4 = .ok (.invokevirtual 318, 3) := by decide +kernel
theorem dX9_stop_7 : decode cX9_stop 7 = .ok (.ireturn, 1) := by decide +kernel
theorem dX9_struck_0 : decode cX9_struck 0 = .ok (.aload_n 0, 1) := by decide +kernel
theorem dX9_struck_1 : decode cX9_struck 1 = .ok (.iload_n 1, 1) := by decide +kernel
theorem dX9_struck_2 : decode cX9_struck 2 = .ok (.invokevirtual 127, 3) := by decide +kernel
theorem dX9_struck_5 : decode cX9_struck 5 = .ok (.ifCond .eq 16, 3) := by decide +kernel
theorem dX9_struck_8 : decode cX9_struck 8 = .ok (.iload_n 2, 1) := by decide +kernel
theorem dX9_struck_9 : decode cX9_struck 9 = .ok (.sipush (-1000), 3) := by decide +kernel
theorem dX9_struck_12 : decode cX9_struck 12 = .ok (.sipush 1000, 3) := by decide +kernel
theorem dX9_struck_15 : decode cX9_struck 15 = .ok (.invokestatic 148, 3) := by decide +kernel
theorem dX9_struck_18 : decode cX9_struck 18 = .ok (.ifCond .ne 6, 3) := by decide +kernel
theorem dX9_struck_21 : decode cX9_struck 21 = .ok (.bipush (-2), 2) := by decide +kernel
theorem dX9_struck_23 : decode cX9_struck 23 = .ok (.ireturn, 1) := by decide +kernel
theorem dX9_struck_24 : decode cX9_struck 24 = .ok (.iconst 0, 1) := by decide +kernel
theorem dX9_struck_25 : decode cX9_struck 25 = .ok (.istore_n 3, 1) := by decide +kernel
theorem dX9_struck_26 : decode cX9_struck 26 = .ok (.iconst 0, 1) := by decide +kernel
theorem dX9_struck_27 : decode cX9_struck 27 = .ok (.istore 4, 2) := by decide +kernel
theorem dX9_struck_29 : decode cX9_struck 29 = .ok (.iload 4, 2) := by decide +kernel
theorem dX9_struck_31 : decode cX9_struck 31 = .ok (.bipush 6, 2) := by decide +kernel
theorem dX9_struck_33 : decode cX9_struck 33 = .ok (.if_icmp .ge 45, 3) := by decide +kernel
theorem dX9_struck_36 : decode cX9_struck 36 = .ok (.aload_n 0, 1) := by decide +kernel
theorem dX9_struck_37 : decode cX9_struck 37 = .ok (.getfield 33, 3) := by decide +kernel
theorem dX9_struck_40 : decode cX9_struck 40 = .ok (.iload 4, 2) := by decide +kernel
theorem dX9_struck_42 : decode cX9_struck 42 = .ok (.iload_n 1, 1) := by decide +kernel
theorem dX9_struck_43 : decode cX9_struck 43 = .ok (.invokevirtual 152, 3) := by decide +kernel
theorem dX9_struck_46 : decode cX9_struck 46 = .ok (.ifCond .eq 26, 3) := by decide +kernel
theorem dX9_struck_49 : decode cX9_struck 49 = .ok (.aload_n 0, 1) := by decide +kernel
theorem dX9_struck_50 : decode cX9_struck 50 = .ok (.getfield 33, 3) := by decide +kernel
theorem dX9_struck_53 : decode cX9_struck 53 = .ok (.getfield 130, 3) := by decide +kernel
theorem dX9_struck_56 : decode cX9_struck 56 = .ok (.iload_n 1, 1) := by decide +kernel
theorem dX9_struck_57 : decode cX9_struck 57 = .ok (.aaload, 1) := by decide +kernel
theorem dX9_struck_58 : decode cX9_struck 58 = .ok (.iload 4, 2) := by decide +kernel
theorem dX9_struck_60 : decode cX9_struck 60 = .ok (.iaload, 1) := by decide +kernel
theorem dX9_struck_61 : decode cX9_struck 61 = .ok (.iload_n 2, 1) := by decide +kernel
theorem dX9_struck_62 : decode cX9_struck 62 = .ok (.if_icmp .gt 10, 3) := by decide +kernel
theorem dX9_struck_65 : decode cX9_struck 65 = .ok (.iload_n 3, 1) := by decide +kernel
theorem dX9_struck_66 : decode cX9_struck 66 = .ok (.iconst 1, 1) := by decide +kernel
theorem dX9_struck_67 : decode cX9_struck 67 = .ok (.iload 4, 2) := by decide +kernel
theorem dX9_struck_69 : decode cX9_struck 69 = .ok (.ishl, 1) := by decide +kernel
theorem dX9_struck_70 : decode cX9_struck 70 = .ok (.ior, 1) := by decide +kernel
theorem dX9_struck_71 : decode cX9_struck 71 = .ok (.istore_n 3, 1) := by decide +kernel
theorem dX9_struck_72 : decode cX9_struck 72 = .ok (.iinc 4 1, 3) := by decide +kernel
theorem dX9_struck_75 : decode cX9_struck 75 = .ok (.goto (-46), 3) := by decide +kernel
theorem dX9_struck_78 : decode cX9_struck 78 = .ok (.iload_n 3, 1) := by decide +kernel
theorem dX9_struck_79 : decode cX9_struck 79 = .ok (.ireturn, 1) := by decide +kernel
theorem dX9_sure_0 : decode cX9_sure 0 = .ok (.aload_n 0, 1) := by decide +kernel
theorem dX9_sure_1 : decode cX9_sure 1 = .ok (.iload_n 1, 1) := by decide +kernel
theorem dX9_sure_2 : decode cX9_sure 2 = .ok (.invokevirtual 127, 3) := by decide +kernel
theorem dX9_sure_5 : decode cX9_sure 5 = .ok (.ifCond .eq 13, 3) := by decide +kernel
theorem dX9_sure_8 : decode cX9_sure 8 = .ok (.iload_n 2, 1) := by decide +kernel
theorem dX9_sure_9 : decode cX9_sure 9 = .ok (.iconst 0, 1) := by decide +kernel
theorem dX9_sure_10 : decode cX9_sure 10 = .ok (.bipush 100, 2) := by decide +kernel
theorem dX9_sure_12 : decode cX9_sure 12 = .ok (.invokestatic 148, 3) := by decide +kernel
theorem dX9_sure_15 : decode cX9_sure 15 = .ok (.ifCond .ne 6, 3) := by decide +kernel
theorem dX9_sure_18 : decode cX9_sure 18 = .ok (.bipush (-2), 2) := by decide +kernel
theorem dX9_sure_20 : decode cX9_sure 20 = .ok (.ireturn, 1) := by decide +kernel
theorem dX9_sure_21 : decode cX9_sure 21 = .ok (.iconst 0, 1) := by decide +kernel
theorem dX9_sure_22 : decode cX9_sure 22 = .ok (.istore_n 3, 1) := by decide +kernel
theorem dX9_sure_23 : decode cX9_sure 23 = .ok (.iload_n 3, 1) := by decide +kernel
theorem dX9_sure_24 : decode cX9_sure 24 = .ok (.sipush 600, 3) := by decide +kernel
theorem dX9_sure_27 : decode cX9_sure 27 = .ok (.if_icmp .gt 66, 3) := by decide +kernel
theorem dX9_sure_30 : decode cX9_sure 30 = .ok (.aload_n 0, 1) := by decide +kernel
theorem dX9_sure_31 : decode cX9_sure 31 = .ok (.getfield 75, 3) := by decide +kernel
theorem dX9_sure_34 : decode cX9_sure 34 = .ok (.aload_n 0, 1) := by decide +kernel
theorem dX9_sure_35 : decode cX9_sure 35 = .ok (.getfield 33, 3) := by decide +kernel
theorem dX9_sure_38 : decode cX9_sure 38 = .ok (.getfield 130, 3) := by decide +kernel
theorem dX9_sure_41 : decode cX9_sure 41 = .ok (.iload_n 1, 1) := by decide +kernel
theorem dX9_sure_42 : decode cX9_sure 42 = .ok (.aaload, 1) := by decide +kernel
theorem dX9_sure_43 : decode cX9_sure 43 = .ok (.aload_n 0, 1) := by decide +kernel
theorem dX9_sure_44 : decode cX9_sure 44 = .ok (.getfield 33, 3) := by decide +kernel
theorem dX9_sure_47 : decode cX9_sure 47 = .ok (.getfield 138, 3) := by decide +kernel
theorem dX9_sure_50 : decode cX9_sure 50 = .ok (.iload_n 1, 1) := by decide +kernel
theorem dX9_sure_51 : decode cX9_sure 51 = .ok (.iaload, 1) := by decide +kernel
theorem dX9_sure_52 : decode cX9_sure 52 = .ok (.aload_n 0, 1) := by decide +kernel
theorem dX9_sure_53 : decode cX9_sure 53 = .ok (.getfield 19, 3) := by decide +kernel
theorem dX9_sure_56 : decode cX9_sure 56 = .ok (.getfield 305, 3) := by decide +kernel
theorem dX9_sure_59 : decode cX9_sure 59 = .ok (.iload_n 3, 1) := by decide +kernel
theorem dX9_sure_60 : decode cX9_sure 60 = .ok (.invokevirtual 308, 3) := by decide +kernel
theorem dX9_sure_63 : decode cX9_sure 63 = .ok (.bipush 100, 2) := by decide +kernel
theorem dX9_sure_65 : decode cX9_sure 65 = .ok (.aload_n 0, 1) := by decide +kernel
theorem dX9_sure_66 : decode cX9_sure 66 = .ok (.getfield 75, 3) := by decide +kernel
theorem dX9_sure_69 : decode cX9_sure 69 = .ok (.getfield 312, 3) := by decide +kernel
theorem dX9_sure_72 : decode cX9_sure 72 = .ok (.imul, 1) := by decide +kernel
theorem dX9_sure_73 : decode cX9_sure 73 = .ok (.iload_n 2, 1) := by decide +kernel
theorem dX9_sure_74 : decode cX9_sure 74 = .ok (.aload_n 0, 1) := by decide +kernel
theorem dX9_sure_75 : decode cX9_sure 75 = .ok (.getfield 75, 3) := by decide +kernel
theorem dX9_sure_78 : decode cX9_sure 78 = .ok (.getfield 315, 3) := by decide +kernel
theorem dX9_sure_81 : decode cX9_sure 81 = .ok (.imul, 1) := by decide +kernel
theorem dX9_sure_82 : decode cX9_sure 82 = .ok (.if_icmp .lt 5, 3) := by decide +kernel
theorem dX9_sure_85 : decode cX9_sure 85 = .ok (.iload_n 3, 1) := by decide +kernel
theorem dX9_sure_86 : decode cX9_sure 86 = .ok (.ireturn, 1) := by decide +kernel
theorem dX9_sure_87 : decode cX9_sure 87 = .ok (.iinc 3 1, 3) := by decide +kernel
theorem dX9_sure_90 : decode cX9_sure 90 = .ok (.goto (-67), 3) := by decide +kernel
theorem dX9_sure_93 : decode cX9_sure 93 = .ok (.iconst (-1), 1) := by decide +kernel
theorem dX9_sure_94 : decode cX9_sure 94 = .ok (.ireturn, 1) := by decide +kernel
theorem dX9_surely_0 : decode cX9_surely 0 = .ok (.aload_n 0, 1) := by decide +kernel
theorem dX9_surely_1 : decode cX9_surely 1 = .ok (.iload_n 1, 1) := by decide +kernel
theorem dX9_surely_2 : decode cX9_surely 2 = .ok (.invokevirtual 280, 3) := by decide +kernel
theorem dX9_surely_5 : decode cX9_surely 5 = .ok (.istore_n 2, 1) := by decide +kernel
theorem dX9_surely_6 : decode cX9_surely 6 = .ok (.iload_n 2, 1) := by decide +kernel
theorem dX9_surely_7 : decode cX9_surely 7 = .ok (.ifCond .ne 13, 3) := by decide +kernel
theorem dX9_surely_10 : decode cX9_surely 10 = .ok (.aload_n 0, 1) := by decide +kernel
theorem dX9_surely_11 : decode cX9_surely 11 = .ok (.getfield 68, 3) := by decide +kernel
theorem dX9_surely_14 : decode cX9_surely 14 = .ok (.getfield 289, 3) := by decide +kernel
theorem dX9_surely_17 : decode cX9_surely 17 = .ok (.goto 4, 3) := by decide +kernel
theorem dX9_surely_20 : decode cX9_surely 20 = .ok (.iload_n 2, 1) := by decide +kernel
theorem dX9_surely_21 : decode cX9_surely 21 = .ok (.ireturn, 1) := by decide +kernel
theorem dX9_swing_0 : decode cX9_swing 0 = .ok (.aload_n 0, 1) := by decide +kernel
theorem dX9_swing_1 : decode cX9_swing 1 = .ok (.getfield 33, 3) := by decide +kernel
theorem dX9_swing_4 : decode cX9_swing 4 = .ok (.getfield 130, 3) := by decide +kernel
theorem dX9_swing_7 : decode cX9_swing 7 = .ok (.iconst 0, 1) := by decide +kernel
theorem dX9_swing_8 : decode cX9_swing 8 = .ok (.aaload, 1) := by decide +kernel
theorem dX9_swing_9 : decode cX9_swing 9 = .ok (.iload_n 1, 1) := by decide +kernel
theorem dX9_swing_10 : decode cX9_swing 10 = .ok (.iaload, 1) := by decide +kernel
theorem dX9_swing_11 : decode cX9_swing 11 = .ok (.istore_n 2, 1) := by decide +kernel
theorem dX9_swing_12 : decode cX9_swing 12 = .ok (.iload_n 2, 1) := by decide +kernel
theorem dX9_swing_13 : decode cX9_swing 13 = .ok (.istore_n 3, 1) := by decide +kernel
theorem dX9_swing_14 : decode cX9_swing 14 = .ok (.iconst 1, 1) := by decide +kernel
theorem dX9_swing_15 : decode cX9_swing 15 = .ok (.istore 4, 2) := by decide +kernel
theorem dX9_swing_17 : decode cX9_swing 17 = .ok (.iload 4, 2) := by decide +kernel
theorem dX9_swing_19 : decode cX9_swing 19 = .ok (.aload_n 0, 1) := by decide +kernel
theorem dX9_swing_20 : decode cX9_swing 20 = .ok (.getfield 33, 3) := by decide +kernel
theorem dX9_swing_23 : decode cX9_swing 23 = .ok (.getfield 173, 3) := by decide +kernel
theorem dX9_swing_26 : decode cX9_swing 26 = .ok (.if_icmp .ge 43, 3) := by decide +kernel
theorem dX9_swing_29 : decode cX9_swing 29 = .ok (.iload_n 2, 1) := by decide +kernel
theorem dX9_swing_30 : decode cX9_swing 30 = .ok (.aload_n 0, 1) := by decide +kernel
theorem dX9_swing_31 : decode cX9_swing 31 = .ok (.getfield 33, 3) := by decide +kernel
theorem dX9_swing_34 : decode cX9_swing 34 = .ok (.getfield 130, 3) := by decide +kernel
theorem dX9_swing_37 : decode cX9_swing 37 = .ok (.iload 4, 2) := by decide +kernel
theorem dX9_swing_39 : decode cX9_swing 39 = .ok (.aaload, 1) := by decide +kernel
theorem dX9_swing_40 : decode cX9_swing 40 = .ok (.iload_n 1, 1) := by decide +kernel
theorem dX9_swing_41 : decode cX9_swing 41 = .ok (.iaload, 1) := by decide +kernel
theorem dX9_swing_42 : decode cX9_swing 42 = .ok (.invokestatic 380, 3) := by decide +kernel
theorem dX9_swing_45 : decode cX9_swing 45 = .ok (.istore_n 2, 1) := by decide +kernel
theorem dX9_swing_46 : decode cX9_swing 46 = .ok (.iload_n 3, 1) := by decide +kernel
theorem dX9_swing_47 : decode cX9_swing 47 = .ok (.aload_n 0, 1) := by decide +kernel
theorem dX9_swing_48 : decode cX9_swing 48 = .ok (.getfield 33, 3) := by decide +kernel
theorem dX9_swing_51 : decode cX9_swing 51 = .ok (.getfield 130, 3) := by decide +kernel
theorem dX9_swing_54 : decode cX9_swing 54 = .ok (.iload 4, 2) := by decide +kernel
theorem dX9_swing_56 : decode cX9_swing 56 = .ok (.aaload, 1) := by decide +kernel
theorem dX9_swing_57 : decode cX9_swing 57 = .ok (.iload_n 1, 1) := by decide +kernel
theorem dX9_swing_58 : decode cX9_swing 58 = .ok (.iaload, 1) := by decide +kernel
theorem dX9_swing_59 : decode cX9_swing 59 = .ok (.invokestatic 200, 3) := by decide +kernel
theorem dX9_swing_62 : decode cX9_swing 62 = .ok (.istore_n 3, 1) := by decide +kernel
theorem dX9_swing_63 : decode cX9_swing 63 = .ok (.iinc 4 1, 3) := by decide +kernel
theorem dX9_swing_66 : decode cX9_swing 66 = .ok (.goto (-49), 3) := by decide +kernel
theorem dX9_swing_69 : decode cX9_swing 69 = .ok (.iload_n 3, 1) := by decide +kernel
theorem dX9_swing_70 : decode cX9_swing 70 = .ok (.iload_n 2, 1) := by decide +kernel
theorem dX9_swing_71 : decode cX9_swing 71 = .ok (.isub, 1) := by decide +kernel
theorem dX9_swing_72 : decode cX9_swing 72 = .ok (.ireturn, 1) := by decide +kernel
theorem dX9_tolls_0 : decode cX9_tolls 0 = .ok (.aload_n 0, 1) := by decide +kernel
theorem dX9_tolls_1 : decode cX9_tolls 1 = .ok (.iload_n 1, 1) := by decide +kernel
theorem dX9_tolls_2 : decode cX9_tolls 2 = .ok (.invokevirtual 127, 3) := by decide +kernel
theorem dX9_tolls_5 : decode cX9_tolls 5 = .ok (.ifCond .ne 6, 3) := by decide +kernel
theorem dX9_tolls_8 : decode cX9_tolls 8 = .ok (.bipush (-2), 2) := by decide +kernel
theorem dX9_tolls_10 : decode cX9_tolls 10 = .ok (.ireturn, 1) := by decide +kernel
theorem dX9_tolls_11 : decode cX9_tolls 11 = .ok (.iconst 0, 1) := by decide +kernel
theorem dX9_tolls_12 : decode cX9_tolls 12 = .ok (.istore_n 2, 1) := by decide +kernel
theorem dX9_tolls_13 : decode cX9_tolls 13 = .ok (.iconst 0, 1) := by decide +kernel
theorem dX9_tolls_14 : decode cX9_tolls 14 = .ok (.istore_n 3, 1) := by decide +kernel
theorem dX9_tolls_15 : decode cX9_tolls 15 = .ok (.iload_n 3, 1) := by decide +kernel
theorem dX9_tolls_16 : decode cX9_tolls 16 = .ok (.bipush 6, 2) := by decide +kernel
theorem dX9_tolls_18 : decode cX9_tolls 18 = .ok (.if_icmp .ge 46, 3) := by decide +kernel
theorem dX9_tolls_21 : decode cX9_tolls 21 = .ok (.iconst 1, 1) := by decide +kernel
theorem dX9_tolls_22 : decode cX9_tolls 22 = .ok (.iload_n 3, 1) := by decide +kernel
theorem dX9_tolls_23 : decode cX9_tolls 23 = .ok (.ishl, 1) := by decide +kernel
theorem dX9_tolls_24 : decode cX9_tolls 24 = .ok (.iconst 1, 1) := by decide +kernel
theorem dX9_tolls_25 : decode cX9_tolls 25 = .ok (.isub, 1) := by decide +kernel
theorem dX9_tolls_26 : decode cX9_tolls 26 = .ok (.istore 4, 2) := by decide +kernel
theorem dX9_tolls_28 : decode cX9_tolls 28 = .ok (.aload_n 0, 1) := by decide +kernel
theorem dX9_tolls_29 : decode cX9_tolls 29 = .ok (.getfield 33, 3) := by decide +kernel
theorem dX9_tolls_32 : decode cX9_tolls 32 = .ok (.iload_n 3, 1) := by decide +kernel
theorem dX9_tolls_33 : decode cX9_tolls 33 = .ok (.iload_n 1, 1) := by decide +kernel
theorem dX9_tolls_34 : decode cX9_tolls 34 = .ok (.invokevirtual 189, 3) := by decide +kernel
theorem dX9_tolls_37 : decode cX9_tolls 37 = .ok (.ifCond .eq 21, 3) := by decide +kernel
theorem dX9_tolls_40 : decode cX9_tolls 40 = .ok (.aload_n 0, 1) := by decide +kernel
theorem dX9_tolls_41 : decode cX9_tolls 41 = .ok (.getfield 33, 3) := by decide +kernel
theorem dX9_tolls_44 : decode cX9_tolls 44 = .ok (.iload_n 3, 1) := by decide +kernel
theorem dX9_tolls_45 : decode cX9_tolls 45 = .ok (.iload_n 1, 1) := by decide +kernel
theorem dX9_tolls_46 : decode cX9_tolls 46 = .ok (.invokevirtual 192, 3) := by decide +kernel
theorem dX9_tolls_49 : decode cX9_tolls 49 = .ok (.iload 4, 2) := by decide +kernel
theorem dX9_tolls_51 : decode cX9_tolls 51 = .ok (.iand, 1) := by decide +kernel
theorem dX9_tolls_52 : decode cX9_tolls 52 = .ok (.ifCond .ne 6, 3) := by decide +kernel
theorem dX9_tolls_55 : decode cX9_tolls 55 = .ok (.iinc 2 1, 3) := by decide +kernel
theorem dX9_tolls_58 : decode cX9_tolls 58 = .ok (.iinc 3 1, 3) := by decide +kernel
theorem dX9_tolls_61 : decode cX9_tolls 61 = .ok (.goto (-46), 3) := by decide +kernel
theorem dX9_tolls_64 : decode cX9_tolls 64 = .ok (.iload_n 2, 1) := by decide +kernel
theorem dX9_tolls_65 : decode cX9_tolls 65 = .ok (.ireturn, 1) := by decide +kernel
theorem dX9_tooLate_0 : decode cX9_tooLate 0 = .ok (.iconst 0, 1) := by decide +kernel
theorem dX9_tooLate_1 : decode cX9_tooLate 1 = .ok (.istore_n 2, 1) := by decide +kernel
theorem dX9_tooLate_2 : decode cX9_tooLate 2 = .ok (.iconst 0, 1) := by decide +kernel
theorem dX9_tooLate_3 : decode cX9_tooLate 3 = .ok (.istore_n 3, 1) := by decide +kernel
theorem dX9_tooLate_4 : decode cX9_tooLate 4 = .ok (.iload_n 3, 1) := by decide +kernel
theorem dX9_tooLate_5 : decode cX9_tooLate 5 = .ok (.aload_n 0, 1) := by decide +kernel
theorem dX9_tooLate_6 : decode cX9_tooLate 6 = .ok (.getfield 33, 3) := by decide +kernel
theorem dX9_tooLate_9 : decode cX9_tooLate 9 = .ok (.getfield 173, 3) := by decide +kernel
theorem dX9_tooLate_12 : decode cX9_tooLate 12 = .ok (.if_icmp .ge 61, 3) := by decide +kernel
theorem dX9_tooLate_15 : decode cX9_tooLate 15 = .ok (.iconst 0, 1) := by decide +kernel
theorem dX9_tooLate_16 : decode cX9_tooLate 16 = .ok (.istore 4, 2) := by decide +kernel
theorem dX9_tooLate_18 : decode cX9_tooLate 18 = .ok (.iload 4, 2) := by decide +kernel
theorem dX9_tooLate_20 : decode cX9_tooLate 20 = .ok (.bipush 6, 2) := by decide +kernel
theorem dX9_tooLate_22 : decode cX9_tooLate 22 = .ok (.if_icmp .ge 45, 3) := by decide +kernel
theorem dX9_tooLate_25 : decode cX9_tooLate 25 = .ok (.aload_n 0, 1) := by decide +kernel
theorem dX9_tooLate_26 : decode cX9_tooLate 26 = .ok (.getfield 33, 3) := by decide +kernel
theorem dX9_tooLate_29 : decode cX9_tooLate 29 = .ok (.iload 4, 2) := by decide +kernel
theorem dX9_tooLate_31 : decode cX9_tooLate 31 = .ok (.iload_n 3, 1) := by decide +kernel
theorem dX9_tooLate_32 : decode cX9_tooLate 32 = .ok (.invokevirtual 152, 3) := by decide +kernel
theorem dX9_tooLate_35 : decode cX9_tooLate 35 = .ok (.ifCond .eq 26, 3) := by decide +kernel
theorem dX9_tooLate_38 : decode cX9_tooLate 38 = .ok (.aload_n 0, 1) := by decide +kernel
theorem dX9_tooLate_39 : decode cX9_tooLate 39 = .ok (.getfield 33, 3) := by decide +kernel
theorem dX9_tooLate_42 : decode cX9_tooLate 42 = .ok (.getfield 130, 3) := by decide +kernel
theorem dX9_tooLate_45 : decode cX9_tooLate 45 = .ok (.iload_n 3, 1) := by decide +kernel
theorem dX9_tooLate_46 : decode cX9_tooLate 46 = .ok (.aaload, 1) := by decide +kernel
theorem dX9_tooLate_47 : decode cX9_tooLate 47 = .ok (.iload 4, 2) := by decide +kernel
theorem dX9_tooLate_49 : decode cX9_tooLate 49 = .ok (.iaload, 1) := by decide +kernel
theorem dX9_tooLate_50 : decode cX9_tooLate 50 = .ok (.iload_n 1, 1) := by decide +kernel
theorem dX9_tooLate_51 : decode cX9_tooLate 51 = .ok (.if_icmp .le 10, 3) := by decide +kernel
theorem dX9_tooLate_54 : decode cX9_tooLate 54 = .ok (.iload_n 2, 1) := by decide +kernel
theorem dX9_tooLate_55 : decode cX9_tooLate 55 = .ok (.iconst 1, 1) := by decide +kernel
theorem dX9_tooLate_56 : decode cX9_tooLate 56 = .ok (.iload 4, 2) := by decide +kernel
theorem dX9_tooLate_58 : decode cX9_tooLate 58 = .ok (.ishl, 1) := by decide +kernel
theorem dX9_tooLate_59 : decode cX9_tooLate 59 = .ok (.ior, 1) := by decide +kernel
theorem dX9_tooLate_60 : decode cX9_tooLate 60 = .ok (.istore_n 2, 1) := by decide +kernel
theorem dX9_tooLate_61 : decode cX9_tooLate 61 = .ok (.iinc 4 1, 3) := by decide +kernel
theorem dX9_tooLate_64 : decode cX9_tooLate 64 = .ok (.goto (-46), 3) := by decide +kernel
theorem dX9_tooLate_67 : decode cX9_tooLate 67 = .ok (.iinc 3 1, 3) := by decide +kernel
theorem dX9_tooLate_70 : decode cX9_tooLate 70 = .ok (.goto (-66), 3) := by decide +kernel
theorem dX9_tooLate_73 : decode cX9_tooLate 73 = .ok (.iload_n 2, 1) := by decide +kernel
theorem dX9_tooLate_74 : decode cX9_tooLate 74 = .ok (.ireturn, 1) := by decide +kernel
theorem dX9_town_0 : decode cX9_town 0 = .ok (.aload_n 0, 1) := by decide +kernel
theorem dX9_town_1 : decode cX9_town 1 = .ok (.getfield 10, 3) := by decide +kernel
theorem dX9_town_4 : decode cX9_town 4 = .ok (.aload_n 0, 1) := by decide +kernel
theorem dX9_town_5 : decode cX9_town 5 = .ok (.getfield 23, 3) := by decide +kernel
theorem dX9_town_8 : decode cX9_town 8 = .ok (.invokevirtual 87, 3) := by decide +kernel
theorem dX9_town_11 : decode cX9_town 11 = .ok (.ifCond .ne 6, 3) := by decide +kernel
theorem dX9_town_14 : decode cX9_town 14 = .ok (.bipush (-4), 2) := by decide +kernel
theorem dX9_town_16 : decode cX9_town 16 = .ok (.ireturn, 1) := by decide +kernel
theorem dX9_town_17 : decode cX9_town 17 = .ok (.aload_n 0, 1) := by decide +kernel
theorem dX9_town_18 : decode cX9_town 18 = .ok (.getfield 10, 3) := by decide +kernel
theorem dX9_town_21 : decode cX9_town 21 = .ok (.iconst 0, 1) := by decide +kernel
theorem dX9_town_22 : decode cX9_town 22 = .ok (.putfield 79, 3) := by decide +kernel
theorem dX9_town_25 : decode cX9_town 25 = .ok (.aload_n 0, 1) := by decide +kernel
theorem dX9_town_26 : decode cX9_town 26 = .ok (.getfield 19, 3) := by decide +kernel
theorem dX9_town_29 : decode cX9_town 29 = .ok (.aload_n 0, 1) := by decide +kernel
theorem dX9_town_30 : decode cX9_town 30 = .ok (.getfield 23, 3) := by decide +kernel
theorem dX9_town_33 : decode cX9_town 33 = .ok (.invokevirtual 91, 3) := by decide +kernel
theorem dX9_town_36 : decode cX9_town 36 = .ok (.aload_n 0, 1) := by decide +kernel
theorem dX9_town_37 : decode cX9_town 37 = .ok (.getfield 33, 3) := by decide +kernel
theorem dX9_town_40 : decode cX9_town 40 = .ok (.aload_n 0, 1) := by decide +kernel
theorem dX9_town_41 : decode cX9_town 41 = .ok (.getfield 19, 3) := by decide +kernel
theorem dX9_town_44 : decode cX9_town 44 = .ok (.invokevirtual 95, 3) := by decide +kernel
theorem dX9_town_47 : decode cX9_town 47 = .ok (.aload_n 0, 1) := by decide +kernel
theorem dX9_town_48 : decode cX9_town 48 = .ok (.getfield 19, 3) := by decide +kernel
theorem dX9_town_51 : decode cX9_town 51 = .ok (.getfield 98, 3) := by decide +kernel
theorem dX9_town_54 : decode cX9_town 54 = .ok (.ireturn, 1) := by decide +kernel
theorem dX9_under_0 : decode cX9_under 0 = .ok (.aload_n 0, 1) := by decide +kernel
theorem dX9_under_1 : decode cX9_under 1 = .ok (.iload_n 1, 1) := by decide +kernel
theorem dX9_under_2 : decode cX9_under 2 = .ok (.invokevirtual 296, 3) := by decide +kernel
theorem dX9_under_5 : decode cX9_under 5 = .ok (.istore_n 2, 1) := by decide +kernel
theorem dX9_under_6 : decode cX9_under 6 = .ok (.iload_n 2, 1) := by decide +kernel
theorem dX9_under_7 : decode cX9_under 7 = .ok (.ifCond .ne 13, 3) := by decide +kernel
theorem dX9_under_10 : decode cX9_under 10 = .ok (.aload_n 0, 1) := by decide +kernel
theorem dX9_under_11 : decode cX9_under 11 = .ok (.getfield 68, 3) := by decide +kernel
theorem dX9_under_14 : decode cX9_under 14 = .ok (.getfield 299, 3) := by decide +kernel
theorem dX9_under_17 : decode cX9_under 17 = .ok (.goto 4, 3) := by decide +kernel
theorem dX9_under_20 : decode cX9_under 20 = .ok (.iload_n 2, 1) := by decide +kernel
theorem dX9_under_21 : decode cX9_under 21 = .ok (.ireturn, 1) := by decide +kernel
theorem dX9_undo_0 : decode cX9_undo 0 = .ok (.aload_n 0, 1) := by decide +kernel
theorem dX9_undo_1 : decode cX9_undo 1 = .ok (.invokevirtual 166, 3) := by decide +kernel
theorem dX9_undo_4 : decode cX9_undo 4 = .ok (.ifCond .ne 6, 3) := by decide +kernel
theorem dX9_undo_7 : decode cX9_undo 7 = .ok (.bipush (-2), 2) := by decide +kernel
theorem dX9_undo_9 : decode cX9_undo 9 = .ok (.ireturn, 1) := by decide +kernel
theorem dX9_undo_10 : decode cX9_undo 10 = .ok (.aload_n 0, 1) := by decide +kernel
theorem dX9_undo_11 : decode cX9_undo 11 = .ok (.getfield 19, 3) := by decide +kernel
theorem dX9_undo_14 : decode cX9_undo 14 = .ok (.getfield 321, 3) := by decide +kernel
theorem dX9_undo_17 : decode cX9_undo 17 = .ok (.ifCond .ne 6, 3) := by decide +kernel
theorem dX9_undo_20 : decode cX9_undo 20 = .ok (.bipush (-5), 2) := by decide +kernel
theorem dX9_undo_22 : decode cX9_undo 22 = .ok (.ireturn, 1) := by decide +kernel
theorem dX9_undo_23 : decode cX9_undo 23 = .ok (.aload_n 0, 1) := by decide +kernel
theorem dX9_undo_24 : decode cX9_undo 24 = .ok (.getfield 19, 3) := by decide +kernel
theorem dX9_undo_27 : decode cX9_undo 27 = .ok (.dup, 1) := by decide +kernel
theorem dX9_undo_28 : decode cX9_undo 28 = .ok (.getfield 321, 3) := by decide +kernel
theorem dX9_undo_31 : decode cX9_undo 31 = .ok (.iconst 1, 1) := by decide +kernel
theorem dX9_undo_32 : decode cX9_undo 32 = .ok (.isub, 1) := by decide +kernel
theorem dX9_undo_33 : decode cX9_undo 33 = .ok (.putfield 321, 3) := by decide +kernel
theorem dX9_undo_36 : decode cX9_undo 36 = .ok (.aload_n 0, 1) := by decide +kernel
theorem dX9_undo_37 : decode cX9_undo 37 = .ok (.getfield 33, 3) := by decide +kernel
theorem dX9_undo_40 : decode cX9_undo 40 = .ok (.aload_n 0, 1) := by decide +kernel
theorem dX9_undo_41 : decode cX9_undo 41 = .ok (.getfield 19, 3) := by decide +kernel
theorem dX9_undo_44 : decode cX9_undo 44 = .ok (.invokevirtual 95, 3) := by decide +kernel
theorem dX9_undo_47 : decode cX9_undo 47 = .ok (.aload_n 0, 1) := by decide +kernel
theorem dX9_undo_48 : decode cX9_undo 48 = .ok (.getfield 19, 3) := by decide +kernel
theorem dX9_undo_51 : decode cX9_undo 51 = .ok (.getfield 321, 3) := by decide +kernel
theorem dX9_undo_54 : decode cX9_undo 54 = .ok (.ireturn, 1) := by decide +kernel
theorem dX9_waitOn_0 : decode cX9_waitOn 0 = .ok (.aload_n 0, 1) := by decide +kernel
theorem dX9_waitOn_1 : decode cX9_waitOn 1 = .ok (.getfield 33, 3) := by decide +kernel
theorem dX9_waitOn_4 : decode cX9_waitOn 4 = .ok (.getfield 130, 3) := by decide +kernel
theorem dX9_waitOn_7 : decode cX9_waitOn 7 = .ok (.iload_n 1, 1) := by decide +kernel
theorem dX9_waitOn_8 : decode cX9_waitOn 8 = .ok (.aaload, 1) := by decide +kernel
theorem dX9_waitOn_9 : decode cX9_waitOn 9 = .ok (.iload_n 2, 1) := by decide +kernel
theorem dX9_waitOn_10 : decode cX9_waitOn 10 = .ok (.invokestatic 159, 3) := by decide +kernel
theorem dX9_waitOn_13 : decode cX9_waitOn 13 = .ok (.aload_n 0, 1) := by decide +kernel
theorem dX9_waitOn_14 : decode cX9_waitOn 14 = .ok (.getfield 19, 3) := by decide +kernel
theorem dX9_waitOn_17 : decode cX9_waitOn 17 = .ok (.getfield 337, 3) := by decide +kernel
theorem dX9_waitOn_20 : decode cX9_waitOn 20 = .ok (.invokestatic 340, 3) := by decide +kernel
theorem dX9_waitOn_23 : decode cX9_waitOn 23 = .ok (.ireturn, 1) := by decide +kernel
theorem dX9_waitWithout_0 : decode cX9_waitWithout 0 = .ok (.iconst 0, 1) := by decide +kernel
theorem dX9_waitWithout_1 : decode cX9_waitWithout 1 = .ok (.istore_n 2, 1) := by decide +kernel
theorem dX9_waitWithout_2 : decode cX9_waitWithout 2 = .ok (.iconst 0, 1) := by decide +kernel
theorem dX9_waitWithout_3 : decode cX9_waitWithout 3 = .ok (.istore_n 3, 1) := by decide +kernel
theorem dX9_waitWithout_4 : decode cX9_waitWithout 4 = .ok (.iload_n 3, 1) := by decide +kernel
theorem dX9_waitWithout_5 : decode cX9_waitWithout 5 = .ok (.aload_n 0, 1) := by decide +kernel
theorem dX9_waitWithout_6 : decode cX9_waitWithout 6 = .ok (.getfield 33, 3) := by decide +kernel
theorem dX9_waitWithout_9 : decode cX9_waitWithout 9 = .ok (.getfield 173, 3) := by decide +kernel
theorem dX9_waitWithout_12 : decode cX9_waitWithout 12 = .ok (.if_icmp .ge 30, 3) := by decide +kernel
theorem dX9_waitWithout_15 : decode cX9_waitWithout 15 = .ok (.iload_n 2, 1) := by decide +kernel
theorem dX9_waitWithout_16 : decode cX9_waitWithout 16 = .ok (.aload_n 0, 1) := by decide +kernel
theorem dX9_waitWithout_17 : decode cX9_waitWithout 17 = .ok (.iload_n 3, 1) := by decide +kernel
theorem dX9_waitWithout_18 : decode cX9_waitWithout 18 = .ok (.aload_n 0, 1) := by decide +kernel
theorem dX9_waitWithout_19 : decode cX9_waitWithout 19 = .ok (.getfield 33, 3) := by decide +kernel
theorem dX9_waitWithout_22 : decode cX9_waitWithout 22 = .ok (.getfield 138, 3) := by decide +kernel
theorem dX9_waitWithout_25 : decode cX9_waitWithout 25 = .ok (.iload_n 3, 1) := by decide +kernel
theorem dX9_waitWithout_26 : decode cX9_waitWithout 26 = .ok (.iaload, 1) := by decide +kernel
theorem dX9_waitWithout_27 : decode cX9_waitWithout 27 = .ok (.iload_n 1, 1) := by decide +kernel
theorem dX9_waitWithout_28 : decode cX9_waitWithout 28 = .ok (.iconst (-1), 1) := by decide +kernel
theorem dX9_waitWithout_29 : decode cX9_waitWithout 29 = .ok (.ixor, 1) := by decide +kernel
theorem dX9_waitWithout_30 : decode cX9_waitWithout 30 = .ok (.iand, 1) := by decide +kernel
theorem dX9_waitWithout_31 : decode cX9_waitWithout 31 = .ok (.invokevirtual 163, 3) := by decide +kernel
theorem dX9_waitWithout_34 : decode cX9_waitWithout 34 = .ok (.iadd, 1) := by decide +kernel
theorem dX9_waitWithout_35 : decode cX9_waitWithout 35 = .ok (.istore_n 2, 1) := by decide +kernel
theorem dX9_waitWithout_36 : decode cX9_waitWithout 36 = .ok (.iinc 3 1, 3) := by decide +kernel
theorem dX9_waitWithout_39 : decode cX9_waitWithout 39 = .ok (.goto (-35), 3) := by decide +kernel
theorem dX9_waitWithout_42 : decode cX9_waitWithout 42 = .ok (.iload_n 2, 1) := by decide +kernel
theorem dX9_waitWithout_43 : decode cX9_waitWithout 43 = .ok (.ireturn, 1) := by decide +kernel
theorem dX9_waits_0 : decode cX9_waits 0 = .ok (.aload_n 0, 1) := by decide +kernel
theorem dX9_waits_1 : decode cX9_waits 1 = .ok (.invokevirtual 166, 3) := by decide +kernel
theorem dX9_waits_4 : decode cX9_waits 4 = .ok (.ifCond .eq 11, 3) := by decide +kernel
theorem dX9_waits_7 : decode cX9_waits 7 = .ok (.aload_n 0, 1) := by decide +kernel
theorem dX9_waits_8 : decode cX9_waits 8 = .ok (.iconst 0, 1) := by decide +kernel
theorem dX9_waits_9 : decode cX9_waits 9 = .ok (.invokevirtual 170, 3) := by decide +kernel
theorem dX9_waits_12 : decode cX9_waits 12 = .ok (.goto 5, 3) := by decide +kernel
theorem dX9_waits_15 : decode cX9_waits 15 = .ok (.bipush (-2), 2) := by decide +kernel
theorem dX9_waits_17 : decode cX9_waits 17 = .ok (.ireturn, 1) := by decide +kernel
theorem dX9_watch_0 : decode cX9_watch 0 = .ok (.iload_n 1, 1) := by decide +kernel
theorem dX9_watch_1 : decode cX9_watch 1 = .ok (.invokestatic 208, 3) := by decide +kernel
theorem dX9_watch_4 : decode cX9_watch 4 = .ok (.ifCond .eq 10, 3) := by decide +kernel
theorem dX9_watch_7 : decode cX9_watch 7 = .ok (.aload_n 0, 1) := by decide +kernel
theorem dX9_watch_8 : decode cX9_watch 8 = .ok (.invokevirtual 166, 3) := by decide +kernel
theorem dX9_watch_11 : decode cX9_watch 11 = .ok (.ifCond .ne 6, 3) := by decide +kernel
theorem dX9_watch_14 : decode cX9_watch 14 = .ok (.bipush (-2), 2) := by decide +kernel
theorem dX9_watch_16 : decode cX9_watch 16 = .ok (.ireturn, 1) := by decide +kernel
theorem dX9_watch_17 : decode cX9_watch 17 = .ok (.iconst 0, 1) := by decide +kernel
theorem dX9_watch_18 : decode cX9_watch 18 = .ok (.istore_n 2, 1) := by decide +kernel
theorem dX9_watch_19 : decode cX9_watch 19 = .ok (.iconst 0, 1) := by decide +kernel
theorem dX9_watch_20 : decode cX9_watch 20 = .ok (.istore_n 3, 1) := by decide +kernel
theorem dX9_watch_21 : decode cX9_watch 21 = .ok (.iload_n 3, 1) := by decide +kernel
theorem dX9_watch_22 : decode cX9_watch 22 = .ok (.aload_n 0, 1) := by decide +kernel
theorem dX9_watch_23 : decode cX9_watch 23 = .ok (.getfield 33, 3) := by decide +kernel
theorem dX9_watch_26 : decode cX9_watch 26 = .ok (.getfield 173, 3) := by decide +kernel
theorem dX9_watch_29 : decode cX9_watch 29 = .ok (.if_icmp .ge 24, 3) := by decide +kernel
theorem dX9_watch_32 : decode cX9_watch 32 = .ok (.aload_n 0, 1) := by decide +kernel
theorem dX9_watch_33 : decode cX9_watch 33 = .ok (.iload_n 3, 1) := by decide +kernel
theorem dX9_watch_34 : decode cX9_watch 34 = .ok (.invokevirtual 134, 3) := by decide +kernel
theorem dX9_watch_37 : decode cX9_watch 37 = .ok (.iload_n 1, 1) := by decide +kernel
theorem dX9_watch_38 : decode cX9_watch 38 = .ok (.if_icmp .gt 9, 3) := by decide +kernel
theorem dX9_watch_41 : decode cX9_watch 41 = .ok (.iload_n 2, 1) := by decide +kernel
theorem dX9_watch_42 : decode cX9_watch 42 = .ok (.iconst 1, 1) := by decide +kernel
theorem dX9_watch_43 : decode cX9_watch 43 = .ok (.iload_n 3, 1) := by decide +kernel
theorem dX9_watch_44 : decode cX9_watch 44 = .ok (.ishl, 1) := by decide +kernel
theorem dX9_watch_45 : decode cX9_watch 45 = .ok (.ior, 1) := by decide +kernel
theorem dX9_watch_46 : decode cX9_watch 46 = .ok (.istore_n 2, 1) := by decide +kernel
theorem dX9_watch_47 : decode cX9_watch 47 = .ok (.iinc 3 1, 3) := by decide +kernel
theorem dX9_watch_50 : decode cX9_watch 50 = .ok (.goto (-29), 3) := by decide +kernel
theorem dX9_watch_53 : decode cX9_watch 53 = .ok (.iload_n 2, 1) := by decide +kernel
theorem dX9_watch_54 : decode cX9_watch 54 = .ok (.ireturn, 1) := by decide +kernel
theorem dX9_without_0 : decode cX9_without 0 = .ok (.aload_n 0, 1) := by decide +kernel
theorem dX9_without_1 : decode cX9_without 1 = .ok (.iload_n 1, 1) := by decide +kernel
theorem dX9_without_2 : decode cX9_without 2 = .ok (.invokevirtual 107, 3) := by decide +kernel
theorem dX9_without_5 : decode cX9_without 5 = .ok (.ifCond .eq 13, 3) := by decide +kernel
theorem dX9_without_8 : decode cX9_without 8 = .ok (.aload_n 0, 1) := by decide +kernel
theorem dX9_without_9 : decode cX9_without 9 = .ok (.iconst 1, 1) := by decide +kernel
theorem dX9_without_10 : decode cX9_without 10 = .ok (.iload_n 1, 1) := by decide +kernel
theorem dX9_without_11 : decode cX9_without 11 = .ok (.ishl, 1) := by decide +kernel
theorem dX9_without_12 : decode cX9_without 12 = .ok (.invokevirtual 170, 3) := by decide +kernel
theorem dX9_without_15 : decode cX9_without 15 = .ok (.goto 5, 3) := by decide +kernel
theorem dX9_without_18 : decode cX9_without 18 = .ok (.bipush (-2), 2) := by decide +kernel
theorem dX9_without_20 : decode cX9_without 20 = .ok (.ireturn, 1) := by decide +kernel
theorem dX9_withoutSlowest_0 : decode cX9_withoutSlowest 0 = .ok (.aload_n 0, 1) := by decide +kernel
theorem dX9_withoutSlowest_1 : decode cX9_withoutSlowest 1 = .ok (.iload_n 1, 1) := by decide +kernel
theorem dX9_withoutSlowest_2 : decode cX9_withoutSlowest 2 = .ok (.invokevirtual 141, 3) := by decide +kernel
theorem dX9_withoutSlowest_5 : decode cX9_withoutSlowest 5 = .ok (.istore_n 2, 1) := by decide +kernel
theorem dX9_withoutSlowest_6 : decode cX9_withoutSlowest 6 = .ok (.iload_n 2, 1) := by decide +kernel
theorem dX9_withoutSlowest_7 : decode cX9_withoutSlowest 7 = .ok (.iconst (-1), 1) := by decide +kernel
theorem dX9_withoutSlowest_8 : decode cX9_withoutSlowest 8 = .ok (.if_icmp .ne 7, 3) := by decide +kernel
theorem dX9_withoutSlowest_11 : decode cX9_withoutSlowest 11 = .ok (.iconst 0, 1) := by decide +kernel
theorem dX9_withoutSlowest_12 : decode cX9_withoutSlowest 12 = .ok (.goto 18, 3) := by decide +kernel
theorem dX9_withoutSlowest_15 : decode cX9_withoutSlowest 15 = .ok (.aload_n 0, 1) := by decide +kernel
theorem dX9_withoutSlowest_16 : decode cX9_withoutSlowest 16 = .ok (.getfield 33, 3) := by decide +kernel
theorem dX9_withoutSlowest_19 : decode cX9_withoutSlowest 19 = .ok (.getfield 138, 3) := by decide +kernel
theorem dX9_withoutSlowest_22 : decode cX9_withoutSlowest 22 = .ok (.iload_n 1, 1) := by decide +kernel
theorem dX9_withoutSlowest_23 : decode cX9_withoutSlowest 23 = .ok (.iaload, 1) := by decide +kernel
theorem dX9_withoutSlowest_24 : decode cX9_withoutSlowest 24 = .ok (.iconst 1, 1) := by decide +kernel
theorem dX9_withoutSlowest_25 : decode cX9_withoutSlowest 25 = .ok (.iload_n 2, 1) := by decide +kernel
theorem dX9_withoutSlowest_26 : decode cX9_withoutSlowest 26 = .ok (.ishl, 1) := by decide +kernel
theorem dX9_withoutSlowest_27 : decode cX9_withoutSlowest 27 = .ok (.iconst (-1), 1) := by decide +kernel
theorem dX9_withoutSlowest_28 : decode cX9_withoutSlowest 28 = .ok (.ixor, 1) := by decide +kernel
theorem dX9_withoutSlowest_29 : decode cX9_withoutSlowest 29 = .ok (.iand, 1) := by decide +kernel
theorem dX9_withoutSlowest_30 : decode cX9_withoutSlowest 30 = .ok (.ireturn, 1) := by decide +kernel
theorem dX9_worst_0 : decode cX9_worst 0 = .ok (.aload_n 0, 1) := by decide +kernel
theorem dX9_worst_1 : decode cX9_worst 1 = .ok (.invokevirtual 166, 3) := by decide +kernel
theorem dX9_worst_4 : decode cX9_worst 4 = .ok (.ifCond .ne 6, 3) := by decide +kernel
theorem dX9_worst_7 : decode cX9_worst 7 = .ok (.bipush (-2), 2) := by decide +kernel
theorem dX9_worst_9 : decode cX9_worst 9 = .ok (.ireturn, 1) := by decide +kernel
theorem dX9_worst_10 : decode cX9_worst 10 = .ok (.iconst (-1), 1) := by decide +kernel
theorem dX9_worst_11 : decode cX9_worst 11 = .ok (.istore_n 1, 1) := by decide +kernel
theorem dX9_worst_12 : decode cX9_worst 12 = .ok (.iconst 0, 1) := by decide +kernel
theorem dX9_worst_13 : decode cX9_worst 13 = .ok (.istore_n 2, 1) := by decide +kernel
theorem dX9_worst_14 : decode cX9_worst 14 = .ok (.iconst 0, 1) := by decide +kernel
theorem dX9_worst_15 : decode cX9_worst 15 = .ok (.istore_n 3, 1) := by decide +kernel
theorem dX9_worst_16 : decode cX9_worst 16 = .ok (.iload_n 3, 1) := by decide +kernel
theorem dX9_worst_17 : decode cX9_worst 17 = .ok (.aload_n 0, 1) := by decide +kernel
theorem dX9_worst_18 : decode cX9_worst 18 = .ok (.getfield 33, 3) := by decide +kernel
theorem dX9_worst_21 : decode cX9_worst 21 = .ok (.getfield 173, 3) := by decide +kernel
theorem dX9_worst_24 : decode cX9_worst 24 = .ok (.if_icmp .ge 36, 3) := by decide +kernel
theorem dX9_worst_27 : decode cX9_worst 27 = .ok (.aload_n 0, 1) := by decide +kernel
theorem dX9_worst_28 : decode cX9_worst 28 = .ok (.iload_n 3, 1) := by decide +kernel
theorem dX9_worst_29 : decode cX9_worst 29 = .ok (.aload_n 0, 1) := by decide +kernel
theorem dX9_worst_30 : decode cX9_worst 30 = .ok (.getfield 33, 3) := by decide +kernel
theorem dX9_worst_33 : decode cX9_worst 33 = .ok (.getfield 138, 3) := by decide +kernel
theorem dX9_worst_36 : decode cX9_worst 36 = .ok (.iload_n 3, 1) := by decide +kernel
theorem dX9_worst_37 : decode cX9_worst 37 = .ok (.iaload, 1) := by decide +kernel
theorem dX9_worst_38 : decode cX9_worst 38 = .ok (.invokevirtual 163, 3) := by decide +kernel
theorem dX9_worst_41 : decode cX9_worst 41 = .ok (.istore 4, 2) := by decide +kernel
theorem dX9_worst_43 : decode cX9_worst 43 = .ok (.iload 4, 2) := by decide +kernel
theorem dX9_worst_45 : decode cX9_worst 45 = .ok (.iload_n 2, 1) := by decide +kernel
theorem dX9_worst_46 : decode cX9_worst 46 = .ok (.if_icmp .le 8, 3) := by decide +kernel
theorem dX9_worst_49 : decode cX9_worst 49 = .ok (.iload 4, 2) := by decide +kernel
theorem dX9_worst_51 : decode cX9_worst 51 = .ok (.istore_n 2, 1) := by decide +kernel
theorem dX9_worst_52 : decode cX9_worst 52 = .ok (.iload_n 3, 1) := by decide +kernel
theorem dX9_worst_53 : decode cX9_worst 53 = .ok (.istore_n 1, 1) := by decide +kernel
theorem dX9_worst_54 : decode cX9_worst 54 = .ok (.iinc 3 1, 3) := by decide +kernel
theorem dX9_worst_57 : decode cX9_worst 57 = .ok (.goto (-41), 3) := by decide +kernel
theorem dX9_worst_60 : decode cX9_worst 60 = .ok (.iload_n 1, 1) := by decide +kernel
theorem dX9_worst_61 : decode cX9_worst 61 = .ok (.ireturn, 1) := by decide +kernel
theorem dX9_write_0 : decode cX9_write 0 = .ok (.iload_n 1, 1) := by decide +kernel
theorem dX9_write_1 : decode cX9_write 1 = .ok (.invokestatic 253, 3) := by decide +kernel
theorem dX9_write_4 : decode cX9_write 4 = .ok (.ifCond .ne 6, 3) := by decide +kernel
theorem dX9_write_7 : decode cX9_write 7 = .ok (.bipush (-2), 2) := by decide +kernel
theorem dX9_write_9 : decode cX9_write 9 = .ok (.ireturn, 1) := by decide +kernel
theorem dX9_write_10 : decode cX9_write 10 = .ok (.aload_n 0, 1) := by decide +kernel
theorem dX9_write_11 : decode cX9_write 11 = .ok (.getfield 39, 3) := by decide +kernel
theorem dX9_write_14 : decode cX9_write 14 = .ok (.iload_n 1, 1) := by decide +kernel
theorem dX9_write_15 : decode cX9_write 15 = .ok (.aaload, 1) := by decide +kernel
theorem dX9_write_16 : decode cX9_write 16 = .ok (.astore 5, 2) := by decide +kernel
theorem dX9_write_18 : decode cX9_write 18 = .ok (.aload 5, 2) := by decide +kernel
theorem dX9_write_20 : decode cX9_write 20 = .ok (.invokevirtual 256, 3) := by decide +kernel
theorem dX9_write_23 : decode cX9_write 23 = .ok (.ifCond .ne 6, 3) := by decide +kernel
theorem dX9_write_26 : decode cX9_write 26 = .ok (.bipush (-6), 2) := by decide +kernel
theorem dX9_write_28 : decode cX9_write 28 = .ok (.ireturn, 1) := by decide +kernel
theorem dX9_write_29 : decode cX9_write 29 = .ok (.iload_n 2, 1) := by decide +kernel
theorem dX9_write_30 : decode cX9_write 30 = .ok (.ifCond .lt 12, 3) := by decide +kernel
theorem dX9_write_33 : decode cX9_write 33 = .ok (.iload_n 2, 1) := by decide +kernel
theorem dX9_write_34 : decode cX9_write 34 = .ok (.aload 5, 2) := by decide +kernel
theorem dX9_write_36 : decode cX9_write 36 = .ok (.getfield 359, 3) := by decide +kernel
theorem dX9_write_39 : decode cX9_write 39 = .ok (.if_icmp .lt 6, 3) := by decide +kernel
theorem dX9_write_42 : decode cX9_write 42 = .ok (.bipush (-7), 2) := by decide +kernel
theorem dX9_write_44 : decode cX9_write 44 = .ok (.ireturn, 1) := by decide +kernel
theorem dX9_write_45 : decode cX9_write 45 = .ok (.aload 5, 2) := by decide +kernel
theorem dX9_write_47 : decode cX9_write 47 = .ok (.getfield 360, 3) := by decide +kernel
theorem dX9_write_50 : decode cX9_write 50 = .ok (.iload_n 2, 1) := by decide +kernel
theorem dX9_write_51 : decode cX9_write 51 = .ok (.lload_n 3, 1) := by decide +kernel
theorem dX9_write_52 : decode cX9_write 52 = .ok (.aload 5, 2) := by decide +kernel
theorem dX9_write_54 : decode cX9_write 54 = .ok (.getfield 364, 3) := by decide +kernel
theorem dX9_write_57 : decode cX9_write 57 = .ok (.invokestatic 367, 3) := by decide +kernel
theorem dX9_write_60 : decode cX9_write 60 = .ok (.lastore, 1) := by decide +kernel
theorem dX9_write_61 : decode cX9_write 61 = .ok (.iconst 0, 1) := by decide +kernel
theorem dX9_write_62 : decode cX9_write 62 = .ok (.ireturn, 1) := by decide +kernel
theorem dX10_acts_0 : decode cX10_acts 0 = .ok (.aload_n 0, 1) := by decide +kernel
theorem dX10_acts_1 : decode cX10_acts 1 = .ok (.getfield 34, 3) := by decide +kernel
theorem dX10_acts_4 : decode cX10_acts 4 = .ok (.iconst 5, 1) := by decide +kernel
theorem dX10_acts_5 : decode cX10_acts 5 = .ok (.iaload, 1) := by decide +kernel
theorem dX10_acts_6 : decode cX10_acts 6 = .ok (.bipush 40, 2) := by decide +kernel
theorem dX10_acts_8 : decode cX10_acts 8 = .ok (.if_icmp .ne 6, 3) := by decide +kernel
theorem dX10_acts_11 : decode cX10_acts 11 = .ok (.bipush (-5), 2) := by decide +kernel
theorem dX10_acts_13 : decode cX10_acts 13 = .ok (.ireturn, 1) := by decide +kernel
theorem dX10_acts_14 : decode cX10_acts 14 = .ok (.aload_n 0, 1) := by decide +kernel
theorem dX10_acts_15 : decode cX10_acts 15 = .ok (.invokevirtual 275, 3) := by decide +kernel
theorem dX10_acts_18 : decode cX10_acts 18 = .ok (.aload_n 0, 1) := by decide +kernel
theorem dX10_acts_19 : decode cX10_acts 19 = .ok (.getfield 43, 3) := by decide +kernel
theorem dX10_acts_22 : decode cX10_acts 22 = .ok (.iconst 3, 1) := by decide +kernel
theorem dX10_acts_23 : decode cX10_acts 23 = .ok (.aload_n 0, 1) := by decide +kernel
theorem dX10_acts_24 : decode cX10_acts 24 = .ok (.getfield 34, 3) := by decide +kernel
theorem dX10_acts_27 : decode cX10_acts 27 = .ok (.iconst 5, 1) := by decide +kernel
theorem dX10_acts_28 : decode cX10_acts 28 = .ok (.iaload, 1) := by decide +kernel
theorem dX10_acts_29 : decode cX10_acts 29 = .ok (.imul, 1) := by decide +kernel
theorem dX10_acts_30 : decode cX10_acts 30 = .ok (.iload_n 1, 1) := by decide +kernel
theorem dX10_acts_31 : decode cX10_acts 31 = .ok (.iastore, 1) := by decide +kernel
theorem dX10_acts_32 : decode cX10_acts 32 = .ok (.aload_n 0, 1) := by decide +kernel
theorem dX10_acts_33 : decode cX10_acts 33 = .ok (.getfield 43, 3) := by decide +kernel
theorem dX10_acts_36 : decode cX10_acts 36 = .ok (.iconst 3, 1) := by decide +kernel
theorem dX10_acts_37 : decode cX10_acts 37 = .ok (.aload_n 0, 1) := by decide +kernel
theorem dX10_acts_38 : decode cX10_acts 38 = .ok (.getfield 34, 3) := by decide +kernel
theorem dX10_acts_41 : decode cX10_acts 41 = .ok (.iconst 5, 1) := by decide +kernel
theorem dX10_acts_42 : decode cX10_acts 42 = .ok (.iaload, 1) := by decide +kernel
theorem dX10_acts_43 : decode cX10_acts 43 = .ok (.imul, 1) := by decide +kernel
theorem dX10_acts_44 : decode cX10_acts 44 = .ok (.iconst 1, 1) := by decide +kernel
theorem dX10_acts_45 : decode cX10_acts 45 = .ok (.iadd, 1) := by decide +kernel
theorem dX10_acts_46 : decode cX10_acts 46 = .ok (.iload_n 2, 1) := by decide +kernel
theorem dX10_acts_47 : decode cX10_acts 47 = .ok (.iastore, 1) := by decide +kernel
theorem dX10_acts_48 : decode cX10_acts 48 = .ok (.aload_n 0, 1) := by decide +kernel
theorem dX10_acts_49 : decode cX10_acts 49 = .ok (.getfield 43, 3) := by decide +kernel
theorem dX10_acts_52 : decode cX10_acts 52 = .ok (.iconst 3, 1) := by decide +kernel
theorem dX10_acts_53 : decode cX10_acts 53 = .ok (.aload_n 0, 1) := by decide +kernel
theorem dX10_acts_54 : decode cX10_acts 54 = .ok (.getfield 34, 3) := by decide +kernel
theorem dX10_acts_57 : decode cX10_acts 57 = .ok (.iconst 5, 1) := by decide +kernel
theorem dX10_acts_58 : decode cX10_acts 58 = .ok (.iaload, 1) := by decide +kernel
theorem dX10_acts_59 : decode cX10_acts 59 = .ok (.imul, 1) := by decide +kernel
theorem dX10_acts_60 : decode cX10_acts 60 = .ok (.iconst 2, 1) := by decide +kernel
theorem dX10_acts_61 : decode cX10_acts 61 = .ok (.iadd, 1) := by decide +kernel
theorem dX10_acts_62 : decode cX10_acts 62 = .ok (.iload_n 3, 1) := by decide +kernel
theorem dX10_acts_63 : decode cX10_acts 63 = .ok (.iastore, 1) := by decide +kernel
theorem dX10_acts_64 : decode cX10_acts 64 = .ok (.aload_n 0, 1) := by decide +kernel
theorem dX10_acts_65 : decode cX10_acts 65 = .ok (.getfield 34, 3) := by decide +kernel
theorem dX10_acts_68 : decode cX10_acts 68 = .ok (.iconst 5, 1) := by decide +kernel
theorem dX10_acts_69 : decode cX10_acts 69 = .ok (.dup2, 1) := by decide +kernel
theorem dX10_acts_70 : decode cX10_acts 70 = .ok (.iaload, 1) := by decide +kernel
theorem dX10_acts_71 : decode cX10_acts 71 = .ok (.iconst 1, 1) := by decide +kernel
theorem dX10_acts_72 : decode cX10_acts 72 = .ok (.iadd, 1) := by decide +kernel
theorem dX10_acts_73 : decode cX10_acts 73 = .ok (.iastore, 1) := by decide +kernel
theorem dX10_acts_74 : decode cX10_acts 74 = .ok (.iload_n 1, 1) := by decide +kernel
theorem dX10_acts_75 : decode cX10_acts 75 = .ok (.iconst 2, 1) := by decide +kernel
theorem dX10_acts_76 : decode cX10_acts 76 = .ok (.if_icmp .le 25, 3) := by decide +kernel
theorem dX10_acts_79 : decode cX10_acts 79 = .ok (.aload_n 0, 1) := by decide +kernel
theorem dX10_acts_80 : decode cX10_acts 80 = .ok (.getfield 53, 3) := by decide +kernel
theorem dX10_acts_83 : decode cX10_acts 83 = .ok (.bipush 6, 2) := by decide +kernel
theorem dX10_acts_85 : decode cX10_acts 85 = .ok (.iload_n 3, 1) := by decide +kernel
theorem dX10_acts_86 : decode cX10_acts 86 = .ok (.imul, 1) := by decide +kernel
theorem dX10_acts_87 : decode cX10_acts 87 = .ok (.iload_n 2, 1) := by decide +kernel
theorem dX10_acts_88 : decode cX10_acts 88 = .ok (.iadd, 1) := by decide +kernel
theorem dX10_acts_89 : decode cX10_acts 89 = .ok (.baload, 1) := by decide +kernel
theorem dX10_acts_90 : decode cX10_acts 90 = .ok (.ifCond .eq 7, 3) := by decide +kernel
theorem dX10_acts_93 : decode cX10_acts 93 = .ok (.iconst 0, 1) := by decide +kernel
theorem dX10_acts_94 : decode cX10_acts 94 = .ok (.goto 18, 3) := by decide +kernel
theorem dX10_acts_97 : decode cX10_acts 97 = .ok (.iconst 1, 1) := by decide +kernel
theorem dX10_acts_98 : decode cX10_acts 98 = .ok (.goto 14, 3) := by decide +kernel
theorem dX10_acts_101 : decode cX10_acts 101 = .ok (.aload_n 0, 1) := by decide +kernel
theorem dX10_acts_102 : decode cX10_acts 102 = .ok (.getfield 50, 3) := by decide +kernel
theorem dX10_acts_105 : decode cX10_acts 105 = .ok (.bipush 6, 2) := by decide +kernel
theorem dX10_acts_107 : decode cX10_acts 107 = .ok (.iload_n 3, 1) := by decide +kernel
theorem dX10_acts_108 : decode cX10_acts 108 = .ok (.imul, 1) := by decide +kernel
theorem dX10_acts_109 : decode cX10_acts 109 = .ok (.iload_n 2, 1) := by decide +kernel
theorem dX10_acts_110 : decode cX10_acts 110 = .ok (.iadd, 1) := by decide +kernel
theorem dX10_acts_111 : decode cX10_acts 111 = .ok (.iaload, 1) := by decide +kernel
theorem dX10_acts_112 : decode cX10_acts 112 = .ok (.ireturn, 1) := by decide +kernel
theorem dX10_alarm_0 : decode cX10_alarm 0 = .ok (.aload_n 0, 1) := by decide +kernel
theorem dX10_alarm_1 : decode cX10_alarm 1 = .ok (.iconst 0, 1) := by decide +kernel
theorem dX10_alarm_2 : decode cX10_alarm 2 = .ok (.putfield 71, 3) := by decide +kernel
theorem dX10_alarm_5 : decode cX10_alarm 5 = .ok (.aload_n 0, 1) := by decide +kernel
theorem dX10_alarm_6 : decode cX10_alarm 6 = .ok (.iload_n 1, 1) := by decide +kernel
theorem dX10_alarm_7 : decode cX10_alarm 7 = .ok (.invokevirtual 304, 3) := by decide +kernel
theorem dX10_alarm_10 : decode cX10_alarm 10 = .ok (.ifCond .ne 6, 3) := by decide +kernel
theorem dX10_alarm_13 : decode cX10_alarm 13 = .ok (.bipush (-2), 2) := by decide +kernel
theorem dX10_alarm_15 : decode cX10_alarm 15 = .ok (.ireturn, 1) := by decide +kernel
theorem dX10_alarm_16 : decode cX10_alarm 16 = .ok (.aload_n 0, 1) := by decide +kernel
theorem dX10_alarm_17 : decode cX10_alarm 17 = .ok (.invokevirtual 275, 3) := by decide +kernel
