theorem dX10_alarm_20 : decode cX10_alarm 20 = .ok (.iconst 0, 1) := by decide +kernel
theorem dX10_alarm_21 : decode cX10_alarm 21 = .ok (.istore_n 2, 1) := by decide +kernel
theorem dX10_alarm_22 : decode cX10_alarm 22 = .ok (.iload_n 2, 1) := by decide +kernel
theorem dX10_alarm_23 : decode cX10_alarm 23 = .ok (.aload_n 0, 1) := by decide +kernel
theorem dX10_alarm_24 : decode cX10_alarm 24 = .ok (.invokevirtual 225, 3) := by decide +kernel
theorem dX10_alarm_27 : decode cX10_alarm 27 = .ok (.if_icmp .ge 20, 3) := by decide +kernel
theorem dX10_alarm_30 : decode cX10_alarm 30 = .ok (.aload_n 0, 1) := by decide +kernel
theorem dX10_alarm_31 : decode cX10_alarm 31 = .ok (.iload_n 2, 1) := by decide +kernel
theorem dX10_alarm_32 : decode cX10_alarm 32 = .ok (.invokevirtual 259, 3) := by decide +kernel
theorem dX10_alarm_35 : decode cX10_alarm 35 = .ok (.iload_n 1, 1) := by decide +kernel
theorem dX10_alarm_36 : decode cX10_alarm 36 = .ok (.if_icmp .le 5, 3) := by decide +kernel
theorem dX10_alarm_39 : decode cX10_alarm 39 = .ok (.iload_n 2, 1) := by decide +kernel
theorem dX10_alarm_40 : decode cX10_alarm 40 = .ok (.ireturn, 1) := by decide +kernel
theorem dX10_alarm_41 : decode cX10_alarm 41 = .ok (.iinc 2 1, 3) := by decide +kernel
theorem dX10_alarm_44 : decode cX10_alarm 44 = .ok (.goto (-22), 3) := by decide +kernel
theorem dX10_alarm_47 : decode cX10_alarm 47 = .ok (.iconst (-1), 1) := by decide +kernel
theorem dX10_alarm_48 : decode cX10_alarm 48 = .ok (.ireturn, 1) := by decide +kernel
theorem dX10_anew_0 : decode cX10_anew 0 = .ok (.aload_n 0, 1) := by decide +kernel
theorem dX10_anew_1 : decode cX10_anew 1 = .ok (.iconst 0, 1) := by decide +kernel
theorem dX10_anew_2 : decode cX10_anew 2 = .ok (.putfield 71, 3) := by decide +kernel
theorem dX10_anew_5 : decode cX10_anew 5 = .ok (.aload_n 0, 1) := by decide +kernel
theorem dX10_anew_6 : decode cX10_anew 6 = .ok (.invokevirtual 232, 3) := by decide +kernel
theorem dX10_anew_9 : decode cX10_anew 9 = .ok (.ifCond .ne 6, 3) := by decide +kernel
theorem dX10_anew_12 : decode cX10_anew 12 = .ok (.bipush (-2), 2) := by decide +kernel
theorem dX10_anew_14 : decode cX10_anew 14 = .ok (.ireturn, 1) := by decide +kernel
theorem dX10_anew_15 : decode cX10_anew 15 = .ok (.aload_n 0, 1) := by decide +kernel
theorem dX10_anew_16 : decode cX10_anew 16 = .ok (.getfield 34, 3) := by decide +kernel
theorem dX10_anew_19 : decode cX10_anew 19 = .ok (.iconst 5, 1) := by decide +kernel
theorem dX10_anew_20 : decode cX10_anew 20 = .ok (.iaload, 1) := by decide +kernel
theorem dX10_anew_21 : decode cX10_anew 21 = .ok (.istore_n 1, 1) := by decide +kernel
theorem dX10_anew_22 : decode cX10_anew 22 = .ok (.aload_n 0, 1) := by decide +kernel
theorem dX10_anew_23 : decode cX10_anew 23 = .ok (.getfield 34, 3) := by decide +kernel
theorem dX10_anew_26 : decode cX10_anew 26 = .ok (.iconst 5, 1) := by decide +kernel
theorem dX10_anew_27 : decode cX10_anew 27 = .ok (.iconst 0, 1) := by decide +kernel
theorem dX10_anew_28 : decode cX10_anew 28 = .ok (.iastore, 1) := by decide +kernel
theorem dX10_anew_29 : decode cX10_anew 29 = .ok (.iload_n 1, 1) := by decide +kernel
theorem dX10_anew_30 : decode cX10_anew 30 = .ok (.ireturn, 1) := by decide +kernel
theorem dX10_ask_0 : decode cX10_ask 0 = .ok (.aload_n 0, 1) := by decide +kernel
theorem dX10_ask_1 : decode cX10_ask 1 = .ok (.iconst 0, 1) := by decide +kernel
theorem dX10_ask_2 : decode cX10_ask 2 = .ok (.putfield 71, 3) := by decide +kernel
theorem dX10_ask_5 : decode cX10_ask 5 = .ok (.aload_n 0, 1) := by decide +kernel
theorem dX10_ask_6 : decode cX10_ask 6 = .ok (.iload_n 1, 1) := by decide +kernel
theorem dX10_ask_7 : decode cX10_ask 7 = .ok (.invokevirtual 394, 3) := by decide +kernel
theorem dX10_ask_10 : decode cX10_ask 10 = .ok (.istore_n 2, 1) := by decide +kernel
theorem dX10_ask_11 : decode cX10_ask 11 = .ok (.iload_n 2, 1) := by decide +kernel
theorem dX10_ask_12 : decode cX10_ask 12 = .ok (.ifCond .eq 5, 3) := by decide +kernel
theorem dX10_ask_15 : decode cX10_ask 15 = .ok (.iload_n 2, 1) := by decide +kernel
theorem dX10_ask_16 : decode cX10_ask 16 = .ok (.ireturn, 1) := by decide +kernel
theorem dX10_ask_17 : decode cX10_ask 17 = .ok (.aload_n 0, 1) := by decide +kernel
theorem dX10_ask_18 : decode cX10_ask 18 = .ok (.iload_n 1, 1) := by decide +kernel
theorem dX10_ask_19 : decode cX10_ask 19 = .ok (.invokevirtual 397, 3) := by decide +kernel
theorem dX10_ask_22 : decode cX10_ask 22 = .ok (.iconst (-1), 1) := by decide +kernel
theorem dX10_ask_23 : decode cX10_ask 23 = .ok (.istore_n 3, 1) := by decide +kernel
theorem dX10_ask_24 : decode cX10_ask 24 = .ok (.aload_n 0, 1) := by decide +kernel
theorem dX10_ask_25 : decode cX10_ask 25 = .ok (.getfield 385, 3) := by decide +kernel
theorem dX10_ask_28 : decode cX10_ask 28 = .ok (.istore 4, 2) := by decide +kernel
theorem dX10_ask_30 : decode cX10_ask 30 = .ok (.iconst 0, 1) := by decide +kernel
theorem dX10_ask_31 : decode cX10_ask 31 = .ok (.istore 5, 2) := by decide +kernel
theorem dX10_ask_33 : decode cX10_ask 33 = .ok (.iload 5, 2) := by decide +kernel
theorem dX10_ask_35 : decode cX10_ask 35 = .ok (.aload_n 0, 1) := by decide +kernel
theorem dX10_ask_36 : decode cX10_ask 36 = .ok (.invokevirtual 229, 3) := by decide +kernel
theorem dX10_ask_39 : decode cX10_ask 39 = .ok (.if_icmp .ge 72, 3) := by decide +kernel
theorem dX10_ask_42 : decode cX10_ask 42 = .ok (.aload_n 0, 1) := by decide +kernel
theorem dX10_ask_43 : decode cX10_ask 43 = .ok (.getfield 68, 3) := by decide +kernel
theorem dX10_ask_46 : decode cX10_ask 46 = .ok (.iload 5, 2) := by decide +kernel
theorem dX10_ask_48 : decode cX10_ask 48 = .ok (.iaload, 1) := by decide +kernel
theorem dX10_ask_49 : decode cX10_ask 49 = .ok (.aload_n 0, 1) := by decide +kernel
theorem dX10_ask_50 : decode cX10_ask 50 = .ok (.getfield 385, 3) := by decide +kernel
theorem dX10_ask_53 : decode cX10_ask 53 = .ok (.aload_n 0, 1) := by decide +kernel
theorem dX10_ask_54 : decode cX10_ask 54 = .ok (.getfield 68, 3) := by decide +kernel
theorem dX10_ask_57 : decode cX10_ask 57 = .ok (.iload 5, 2) := by decide +kernel
theorem dX10_ask_59 : decode cX10_ask 59 = .ok (.iaload, 1) := by decide +kernel
theorem dX10_ask_60 : decode cX10_ask 60 = .ok (.isub, 1) := by decide +kernel
theorem dX10_ask_61 : decode cX10_ask 61 = .ok (.if_icmp .le 13, 3) := by decide +kernel
theorem dX10_ask_64 : decode cX10_ask 64 = .ok (.aload_n 0, 1) := by decide +kernel
theorem dX10_ask_65 : decode cX10_ask 65 = .ok (.getfield 68, 3) := by decide +kernel
theorem dX10_ask_68 : decode cX10_ask 68 = .ok (.iload 5, 2) := by decide +kernel
theorem dX10_ask_70 : decode cX10_ask 70 = .ok (.iaload, 1) := by decide +kernel
theorem dX10_ask_71 : decode cX10_ask 71 = .ok (.goto 15, 3) := by decide +kernel
theorem dX10_ask_74 : decode cX10_ask 74 = .ok (.aload_n 0, 1) := by decide +kernel
theorem dX10_ask_75 : decode cX10_ask 75 = .ok (.getfield 385, 3) := by decide +kernel
theorem dX10_ask_78 : decode cX10_ask 78 = .ok (.aload_n 0, 1) := by decide +kernel
theorem dX10_ask_79 : decode cX10_ask 79 = .ok (.getfield 68, 3) := by decide +kernel
theorem dX10_ask_82 : decode cX10_ask 82 = .ok (.iload 5, 2) := by decide +kernel
theorem dX10_ask_84 : decode cX10_ask 84 = .ok (.iaload, 1) := by decide +kernel
theorem dX10_ask_85 : decode cX10_ask 85 = .ok (.isub, 1) := by decide +kernel
theorem dX10_ask_86 : decode cX10_ask 86 = .ok (.istore 6, 2) := by decide +kernel
theorem dX10_ask_88 : decode cX10_ask 88 = .ok (.iload 6, 2) := by decide +kernel
theorem dX10_ask_90 : decode cX10_ask 90 = .ok (.iload 4, 2) := by decide +kernel
theorem dX10_ask_92 : decode cX10_ask 92 = .ok (.if_icmp .lt 6, 3) := by decide +kernel
theorem dX10_ask_95 : decode cX10_ask 95 = .ok (.goto 10, 3) := by decide +kernel
theorem dX10_ask_98 : decode cX10_ask 98 = .ok (.iload 5, 2) := by decide +kernel
theorem dX10_ask_100 : decode cX10_ask 100 = .ok (.istore_n 3, 1) := by decide +kernel
theorem dX10_ask_101 : decode cX10_ask 101 = .ok (.iload 6, 2) := by decide +kernel
theorem dX10_ask_103 : decode cX10_ask 103 = .ok (.istore 4, 2) := by decide +kernel
theorem dX10_ask_105 : decode cX10_ask 105 = .ok (.iinc 5 1, 3) := by decide +kernel
theorem dX10_ask_108 : decode cX10_ask 108 = .ok (.goto (-75), 3) := by decide +kernel
theorem dX10_ask_111 : decode cX10_ask 111 = .ok (.iload_n 3, 1) := by decide +kernel
theorem dX10_ask_112 : decode cX10_ask 112 = .ok (.ireturn, 1) := by decide +kernel
theorem dX10_asks_0 : decode cX10_asks 0 = .ok (.aload_n 0, 1) := by decide +kernel
theorem dX10_asks_1 : decode cX10_asks 1 = .ok (.lload_n 1, 1) := by decide +kernel
theorem dX10_asks_2 : decode cX10_asks 2 = .ok (.invokevirtual 136, 3) := by decide +kernel
theorem dX10_asks_5 : decode cX10_asks 5 = .ok (.ifCond .ne 8, 3) := by decide +kernel
theorem dX10_asks_8 : decode cX10_asks 8 = .ok (.aload_n 0, 1) := by decide +kernel
theorem dX10_asks_9 : decode cX10_asks 9 = .ok (.iconst 1, 1) := by decide +kernel
theorem dX10_asks_10 : decode cX10_asks 10 = .ok (.invokevirtual 139, 3) := by decide +kernel
theorem dX10_asks_13 : decode cX10_asks 13 = .ok (.return_, 1) := by decide +kernel
theorem dX10_away_0 : decode cX10_away 0 = .ok (.aload_n 0, 1) := by decide +kernel
theorem dX10_away_1 : decode cX10_away 1 = .ok (.iconst 0, 1) := by decide +kernel
theorem dX10_away_2 : decode cX10_away 2 = .ok (.putfield 71, 3) := by decide +kernel
theorem dX10_away_5 : decode cX10_away 5 = .ok (.aload_n 0, 1) := by decide +kernel
theorem dX10_away_6 : decode cX10_away 6 = .ok (.iload_n 1, 1) := by decide +kernel
theorem dX10_away_7 : decode cX10_away 7 = .ok (.invokevirtual 394, 3) := by decide +kernel
theorem dX10_away_10 : decode cX10_away 10 = .ok (.istore_n 2, 1) := by decide +kernel
theorem dX10_away_11 : decode cX10_away 11 = .ok (.iload_n 2, 1) := by decide +kernel
theorem dX10_away_12 : decode cX10_away 12 = .ok (.ifCond .eq 5, 3) := by decide +kernel
theorem dX10_away_15 : decode cX10_away 15 = .ok (.iload_n 2, 1) := by decide +kernel
theorem dX10_away_16 : decode cX10_away 16 = .ok (.ireturn, 1) := by decide +kernel
theorem dX10_away_17 : decode cX10_away 17 = .ok (.aload_n 0, 1) := by decide +kernel
theorem dX10_away_18 : decode cX10_away 18 = .ok (.iload_n 1, 1) := by decide +kernel
theorem dX10_away_19 : decode cX10_away 19 = .ok (.invokevirtual 397, 3) := by decide +kernel
theorem dX10_away_22 : decode cX10_away 22 = .ok (.aload_n 0, 1) := by decide +kernel
theorem dX10_away_23 : decode cX10_away 23 = .ok (.getfield 385, 3) := by decide +kernel
theorem dX10_away_26 : decode cX10_away 26 = .ok (.ireturn, 1) := by decide +kernel
theorem dX10_back_0 : decode cX10_back 0 = .ok (.aload_n 0, 1) := by decide +kernel
theorem dX10_back_1 : decode cX10_back 1 = .ok (.iconst 0, 1) := by decide +kernel
theorem dX10_back_2 : decode cX10_back 2 = .ok (.putfield 71, 3) := by decide +kernel
theorem dX10_back_5 : decode cX10_back 5 = .ok (.iload_n 1, 1) := by decide +kernel
theorem dX10_back_6 : decode cX10_back 6 = .ok (.i2l, 1) := by decide +kernel
theorem dX10_back_7 : decode cX10_back 7 = .ok (.lconst 0, 1) := by decide +kernel
theorem dX10_back_8 : decode cX10_back 8 = .ok (.ldc2_w 443, 3) := by decide +kernel
theorem dX10_back_11 : decode cX10_back 11 = .ok (.invokestatic 76, 3) := by decide +kernel
theorem dX10_back_14 : decode cX10_back 14 = .ok (.ifCond .ne 6, 3) := by decide +kernel
theorem dX10_back_17 : decode cX10_back 17 = .ok (.bipush (-2), 2) := by decide +kernel
theorem dX10_back_19 : decode cX10_back 19 = .ok (.ireturn, 1) := by decide +kernel
theorem dX10_back_20 : decode cX10_back 20 = .ok (.aload_n 0, 1) := by decide +kernel
theorem dX10_back_21 : decode cX10_back 21 = .ok (.getfield 46, 3) := by decide +kernel
theorem dX10_back_24 : decode cX10_back 24 = .ok (.iload_n 1, 1) := by decide +kernel
theorem dX10_back_25 : decode cX10_back 25 = .ok (.baload, 1) := by decide +kernel
theorem dX10_back_26 : decode cX10_back 26 = .ok (.ifCond .ne 6, 3) := by decide +kernel
theorem dX10_back_29 : decode cX10_back 29 = .ok (.bipush (-6), 2) := by decide +kernel
theorem dX10_back_31 : decode cX10_back 31 = .ok (.ireturn, 1) := by decide +kernel
theorem dX10_back_32 : decode cX10_back 32 = .ok (.aload_n 0, 1) := by decide +kernel
theorem dX10_back_33 : decode cX10_back 33 = .ok (.iconst 1, 1) := by decide +kernel
theorem dX10_back_34 : decode cX10_back 34 = .ok (.iload_n 1, 1) := by decide +kernel
theorem dX10_back_35 : decode cX10_back 35 = .ok (.iadd, 1) := by decide +kernel
theorem dX10_back_36 : decode cX10_back 36 = .ok (.iconst 0, 1) := by decide +kernel
theorem dX10_back_37 : decode cX10_back 37 = .ok (.invokevirtual 218, 3) := by decide +kernel
theorem dX10_back_40 : decode cX10_back 40 = .ok (.iconst 0, 1) := by decide +kernel
theorem dX10_back_41 : decode cX10_back 41 = .ok (.ireturn, 1) := by decide +kernel
theorem dX10_begins_0 : decode cX10_begins 0 = .ok (.aload_n 0, 1) := by decide +kernel
theorem dX10_begins_1 : decode cX10_begins 1 = .ok (.iconst 0, 1) := by decide +kernel
theorem dX10_begins_2 : decode cX10_begins 2 = .ok (.putfield 123, 3) := by decide +kernel
theorem dX10_begins_5 : decode cX10_begins 5 = .ok (.aload_n 0, 1) := by decide +kernel
theorem dX10_begins_6 : decode cX10_begins 6 = .ok (.iconst (-1), 1) := by decide +kernel
theorem dX10_begins_7 : decode cX10_begins 7 = .ok (.putfield 126, 3) := by decide +kernel
theorem dX10_begins_10 : decode cX10_begins 10 = .ok (.aload_n 0, 1) := by decide +kernel
theorem dX10_begins_11 : decode cX10_begins 11 = .ok (.iconst 0, 1) := by decide +kernel
theorem dX10_begins_12 : decode cX10_begins 12 = .ok (.putfield 95, 3) := by decide +kernel
theorem dX10_begins_15 : decode cX10_begins 15 = .ok (.aload_n 0, 1) := by decide +kernel
theorem dX10_begins_16 : decode cX10_begins 16 = .ok (.invokevirtual 133, 3) := by decide +kernel
theorem dX10_begins_19 : decode cX10_begins 19 = .ok (.return_, 1) := by decide +kernel
theorem dX10_best_0 : decode cX10_best 0 = .ok (.aload_n 0, 1) := by decide +kernel
theorem dX10_best_1 : decode cX10_best 1 = .ok (.iconst 0, 1) := by decide +kernel
theorem dX10_best_2 : decode cX10_best 2 = .ok (.putfield 71, 3) := by decide +kernel
theorem dX10_best_5 : decode cX10_best 5 = .ok (.aload_n 0, 1) := by decide +kernel
theorem dX10_best_6 : decode cX10_best 6 = .ok (.invokevirtual 232, 3) := by decide +kernel
theorem dX10_best_9 : decode cX10_best 9 = .ok (.ifCond .ne 6, 3) := by decide +kernel
theorem dX10_best_12 : decode cX10_best 12 = .ok (.bipush (-2), 2) := by decide +kernel
theorem dX10_best_14 : decode cX10_best 14 = .ok (.ireturn, 1) := by decide +kernel
theorem dX10_best_15 : decode cX10_best 15 = .ok (.aload_n 0, 1) := by decide +kernel
theorem dX10_best_16 : decode cX10_best 16 = .ok (.invokevirtual 275, 3) := by decide +kernel
theorem dX10_best_19 : decode cX10_best 19 = .ok (.iconst (-1), 1) := by decide +kernel
theorem dX10_best_20 : decode cX10_best 20 = .ok (.istore_n 1, 1) := by decide +kernel
theorem dX10_best_21 : decode cX10_best 21 = .ok (.aload_n 0, 1) := by decide +kernel
theorem dX10_best_22 : decode cX10_best 22 = .ok (.invokevirtual 285, 3) := by decide +kernel
theorem dX10_best_25 : decode cX10_best 25 = .ok (.istore_n 2, 1) := by decide +kernel
theorem dX10_best_26 : decode cX10_best 26 = .ok (.iconst 0, 1) := by decide +kernel
theorem dX10_best_27 : decode cX10_best 27 = .ok (.istore_n 3, 1) := by decide +kernel
theorem dX10_best_28 : decode cX10_best 28 = .ok (.iload_n 3, 1) := by decide +kernel
theorem dX10_best_29 : decode cX10_best 29 = .ok (.aload_n 0, 1) := by decide +kernel
theorem dX10_best_30 : decode cX10_best 30 = .ok (.invokevirtual 229, 3) := by decide +kernel
theorem dX10_best_33 : decode cX10_best 33 = .ok (.if_icmp .ge 32, 3) := by decide +kernel
theorem dX10_best_36 : decode cX10_best 36 = .ok (.aload_n 0, 1) := by decide +kernel
theorem dX10_best_37 : decode cX10_best 37 = .ok (.iconst 1, 1) := by decide +kernel
theorem dX10_best_38 : decode cX10_best 38 = .ok (.iload_n 3, 1) := by decide +kernel
theorem dX10_best_39 : decode cX10_best 39 = .ok (.ishl, 1) := by decide +kernel
theorem dX10_best_40 : decode cX10_best 40 = .ok (.invokevirtual 297, 3) := by decide +kernel
theorem dX10_best_43 : decode cX10_best 43 = .ok (.istore 4, 2) := by decide +kernel
theorem dX10_best_45 : decode cX10_best 45 = .ok (.iload 4, 2) := by decide +kernel
theorem dX10_best_47 : decode cX10_best 47 = .ok (.iload_n 2, 1) := by decide +kernel
theorem dX10_best_48 : decode cX10_best 48 = .ok (.if_icmp .lt 6, 3) := by decide +kernel
theorem dX10_best_51 : decode cX10_best 51 = .ok (.goto 8, 3) := by decide +kernel
theorem dX10_best_54 : decode cX10_best 54 = .ok (.iload_n 3, 1) := by decide +kernel
theorem dX10_best_55 : decode cX10_best 55 = .ok (.istore_n 1, 1) := by decide +kernel
theorem dX10_best_56 : decode cX10_best 56 = .ok (.iload 4, 2) := by decide +kernel
theorem dX10_best_58 : decode cX10_best 58 = .ok (.istore_n 2, 1) := by decide +kernel
theorem dX10_best_59 : decode cX10_best 59 = .ok (.iinc 3 1, 3) := by decide +kernel
theorem dX10_best_62 : decode cX10_best 62 = .ok (.goto (-34), 3) := by decide +kernel
theorem dX10_best_65 : decode cX10_best 65 = .ok (.iload_n 1, 1) := by decide +kernel
theorem dX10_best_66 : decode cX10_best 66 = .ok (.ireturn, 1) := by decide +kernel
theorem dX10_buries_0 : decode cX10_buries 0 = .ok (.aload_n 0, 1) := by decide +kernel
theorem dX10_buries_1 : decode cX10_buries 1 = .ok (.iconst 0, 1) := by decide +kernel
theorem dX10_buries_2 : decode cX10_buries 2 = .ok (.putfield 71, 3) := by decide +kernel
theorem dX10_buries_5 : decode cX10_buries 5 = .ok (.aload_n 0, 1) := by decide +kernel
theorem dX10_buries_6 : decode cX10_buries 6 = .ok (.iload_n 1, 1) := by decide +kernel
theorem dX10_buries_7 : decode cX10_buries 7 = .ok (.invokevirtual 304, 3) := by decide +kernel
theorem dX10_buries_10 : decode cX10_buries 10 = .ok (.ifCond .eq 11, 3) := by decide +kernel
theorem dX10_buries_13 : decode cX10_buries 13 = .ok (.aload_n 0, 1) := by decide +kernel
theorem dX10_buries_14 : decode cX10_buries 14 = .ok (.iload_n 1, 1) := by decide +kernel
theorem dX10_buries_15 : decode cX10_buries 15 = .ok (.invokevirtual 317, 3) := by decide +kernel
theorem dX10_buries_18 : decode cX10_buries 18 = .ok (.goto 5, 3) := by decide +kernel
theorem dX10_buries_21 : decode cX10_buries 21 = .ok (.bipush (-2), 2) := by decide +kernel
theorem dX10_buries_23 : decode cX10_buries 23 = .ok (.ireturn, 1) := by decide +kernel
theorem dX10_buriesOf_0 : decode cX10_buriesOf 0 = .ok (.aload_n 0, 1) := by decide +kernel
theorem dX10_buriesOf_1 : decode cX10_buriesOf 1 = .ok (.invokevirtual 275, 3) := by decide +kernel
theorem dX10_buriesOf_4 : decode cX10_buriesOf 4 = .ok (.iconst (-1), 1) := by decide +kernel
theorem dX10_buriesOf_5 : decode cX10_buriesOf 5 = .ok (.istore_n 2, 1) := by decide +kernel
theorem dX10_buriesOf_6 : decode cX10_buriesOf 6 = .ok (.iconst 0, 1) := by decide +kernel
theorem dX10_buriesOf_7 : decode cX10_buriesOf 7 = .ok (.istore_n 3, 1) := by decide +kernel
theorem dX10_buriesOf_8 : decode cX10_buriesOf 8 = .ok (.iload_n 3, 1) := by decide +kernel
theorem dX10_buriesOf_9 : decode cX10_buriesOf 9 = .ok (.iconst 1, 1) := by decide +kernel
theorem dX10_buriesOf_10 : decode cX10_buriesOf 10 = .ok (.aload_n 0, 1) := by decide +kernel
theorem dX10_buriesOf_11 : decode cX10_buriesOf 11 = .ok (.invokevirtual 229, 3) := by decide +kernel
theorem dX10_buriesOf_14 : decode cX10_buriesOf 14 = .ok (.ishl, 1) := by decide +kernel
theorem dX10_buriesOf_15 : decode cX10_buriesOf 15 = .ok (.if_icmp .ge 47, 3) := by decide +kernel
theorem dX10_buriesOf_18 : decode cX10_buriesOf 18 = .ok (.iload_n 2, 1) := by decide +kernel
theorem dX10_buriesOf_19 : decode cX10_buriesOf 19 = .ok (.iconst (-1), 1) := by decide +kernel
theorem dX10_buriesOf_20 : decode cX10_buriesOf 20 = .ok (.if_icmp .eq 17, 3) := by decide +kernel
theorem dX10_buriesOf_23 : decode cX10_buriesOf 23 = .ok (.iload_n 3, 1) := by decide +kernel
theorem dX10_buriesOf_24 : decode cX10_buriesOf 24 = .ok (.invokestatic 291, 3) := by decide +kernel
theorem dX10_buriesOf_27 : decode cX10_buriesOf 27 = .ok (.iload_n 2, 1) := by decide +kernel
theorem dX10_buriesOf_28 : decode cX10_buriesOf 28 = .ok (.invokestatic 291, 3) := by decide +kernel
theorem dX10_buriesOf_31 : decode cX10_buriesOf 31 = .ok (.if_icmp .lt 6, 3) := by decide +kernel
theorem dX10_buriesOf_34 : decode cX10_buriesOf 34 = .ok (.goto 22, 3) := by decide +kernel
theorem dX10_buriesOf_37 : decode cX10_buriesOf 37 = .ok (.aload_n 0, 1) := by decide +kernel
theorem dX10_buriesOf_38 : decode cX10_buriesOf 38 = .ok (.iload_n 3, 1) := by decide +kernel
theorem dX10_buriesOf_39 : decode cX10_buriesOf 39 = .ok (.putfield 237, 3) := by decide +kernel
theorem dX10_buriesOf_42 : decode cX10_buriesOf 42 = .ok (.aload_n 0, 1) := by decide +kernel
theorem dX10_buriesOf_43 : decode cX10_buriesOf 43 = .ok (.invokevirtual 243, 3) := by decide +kernel
theorem dX10_buriesOf_46 : decode cX10_buriesOf 46 = .ok (.aload_n 0, 1) := by decide +kernel
theorem dX10_buriesOf_47 : decode cX10_buriesOf 47 = .ok (.iload_n 1, 1) := by decide +kernel
theorem dX10_buriesOf_48 : decode cX10_buriesOf 48 = .ok (.invokevirtual 314, 3) := by decide +kernel
theorem dX10_buriesOf_51 : decode cX10_buriesOf 51 = .ok (.ifCond .eq 5, 3) := by decide +kernel
theorem dX10_buriesOf_54 : decode cX10_buriesOf 54 = .ok (.iload_n 3, 1) := by decide +kernel
theorem dX10_buriesOf_55 : decode cX10_buriesOf 55 = .ok (.istore_n 2, 1) := by decide +kernel
theorem dX10_buriesOf_56 : decode cX10_buriesOf 56 = .ok (.iinc 3 1, 3) := by decide +kernel
theorem dX10_buriesOf_59 : decode cX10_buriesOf 59 = .ok (.goto (-51), 3) := by decide +kernel
theorem dX10_buriesOf_62 : decode cX10_buriesOf 62 = .ok (.iload_n 2, 1) := by decide +kernel
theorem dX10_buriesOf_63 : decode cX10_buriesOf 63 = .ok (.ireturn, 1) := by decide +kernel
theorem dX10_bury_0 : decode cX10_bury 0 = .ok (.aload_n 0, 1) := by decide +kernel
theorem dX10_bury_1 : decode cX10_bury 1 = .ok (.iconst 0, 1) := by decide +kernel
theorem dX10_bury_2 : decode cX10_bury 2 = .ok (.putfield 71, 3) := by decide +kernel
theorem dX10_bury_5 : decode cX10_bury 5 = .ok (.aload_n 0, 1) := by decide +kernel
theorem dX10_bury_6 : decode cX10_bury 6 = .ok (.iload_n 1, 1) := by decide +kernel
theorem dX10_bury_7 : decode cX10_bury 7 = .ok (.invokevirtual 304, 3) := by decide +kernel
theorem dX10_bury_10 : decode cX10_bury 10 = .ok (.ifCond .eq 14, 3) := by decide +kernel
theorem dX10_bury_13 : decode cX10_bury 13 = .ok (.aload_n 0, 1) := by decide +kernel
theorem dX10_bury_14 : decode cX10_bury 14 = .ok (.iload_n 1, 1) := by decide +kernel
theorem dX10_bury_15 : decode cX10_bury 15 = .ok (.invokevirtual 317, 3) := by decide +kernel
theorem dX10_bury_18 : decode cX10_bury 18 = .ok (.invokestatic 291, 3) := by decide +kernel
theorem dX10_bury_21 : decode cX10_bury 21 = .ok (.goto 5, 3) := by decide +kernel
theorem dX10_bury_24 : decode cX10_bury 24 = .ok (.bipush (-2), 2) := by decide +kernel
theorem dX10_bury_26 : decode cX10_bury 26 = .ok (.ireturn, 1) := by decide +kernel
theorem dX10_chance_0 : decode cX10_chance 0 = .ok (.aload_n 0, 1) := by decide +kernel
theorem dX10_chance_1 : decode cX10_chance 1 = .ok (.iconst 0, 1) := by decide +kernel
theorem dX10_chance_2 : decode cX10_chance 2 = .ok (.putfield 71, 3) := by decide +kernel
theorem dX10_chance_5 : decode cX10_chance 5 = .ok (.aload_n 0, 1) := by decide +kernel
theorem dX10_chance_6 : decode cX10_chance 6 = .ok (.iload_n 1, 1) := by decide +kernel
theorem dX10_chance_7 : decode cX10_chance 7 = .ok (.i2l, 1) := by decide +kernel
theorem dX10_chance_8 : decode cX10_chance 8 = .ok (.invokevirtual 272, 3) := by decide +kernel
theorem dX10_chance_11 : decode cX10_chance 11 = .ok (.ifCond .eq 18, 3) := by decide +kernel
theorem dX10_chance_14 : decode cX10_chance 14 = .ok (.aload_n 0, 1) := by decide +kernel
theorem dX10_chance_15 : decode cX10_chance 15 = .ok (.iload_n 2, 1) := by decide +kernel
theorem dX10_chance_16 : decode cX10_chance 16 = .ok (.invokevirtual 304, 3) := by decide +kernel
theorem dX10_chance_19 : decode cX10_chance 19 = .ok (.ifCond .eq 10, 3) := by decide +kernel
theorem dX10_chance_22 : decode cX10_chance 22 = .ok (.iload_n 3, 1) := by decide +kernel
theorem dX10_chance_23 : decode cX10_chance 23 = .ok (.invokestatic 308, 3) := by decide +kernel
theorem dX10_chance_26 : decode cX10_chance 26 = .ok (.ifCond .ne 6, 3) := by decide +kernel
theorem dX10_chance_29 : decode cX10_chance 29 = .ok (.bipush (-2), 2) := by decide +kernel
theorem dX10_chance_31 : decode cX10_chance 31 = .ok (.ireturn, 1) := by decide +kernel
theorem dX10_chance_32 : decode cX10_chance 32 = .ok (.aload_n 0, 1) := by decide +kernel
theorem dX10_chance_33 : decode cX10_chance 33 = .ok (.invokevirtual 275, 3) := by decide +kernel
theorem dX10_chance_36 : decode cX10_chance 36 = .ok (.aload_n 0, 1) := by decide +kernel
theorem dX10_chance_37 : decode cX10_chance 37 = .ok (.iload_n 1, 1) := by decide +kernel
theorem dX10_chance_38 : decode cX10_chance 38 = .ok (.iload_n 2, 1) := by decide +kernel
theorem dX10_chance_39 : decode cX10_chance 39 = .ok (.invokevirtual 406, 3) := by decide +kernel
theorem dX10_chance_42 : decode cX10_chance 42 = .ok (.istore 4, 2) := by decide +kernel
theorem dX10_chance_44 : decode cX10_chance 44 = .ok (.iload_n 3, 1) := by decide +kernel
theorem dX10_chance_45 : decode cX10_chance 45 = .ok (.ifCond .ne 8, 3) := by decide +kernel
theorem dX10_chance_48 : decode cX10_chance 48 = .ok (.iload 4, 2) := by decide +kernel
theorem dX10_chance_50 : decode cX10_chance 50 = .ok (.goto 7, 3) := by decide +kernel
theorem dX10_chance_53 : decode cX10_chance 53 = .ok (.aload_n 0, 1) := by decide +kernel
theorem dX10_chance_54 : decode cX10_chance 54 = .ok (.getfield 403, 3) := by decide +kernel
theorem dX10_chance_57 : decode cX10_chance 57 = .ok (.iload 4, 2) := by decide +kernel
theorem dX10_chance_59 : decode cX10_chance 59 = .ok (.aload_n 0, 1) := by decide +kernel
theorem dX10_chance_60 : decode cX10_chance 60 = .ok (.getfield 403, 3) := by decide +kernel
theorem dX10_chance_63 : decode cX10_chance 63 = .ok (.invokestatic 311, 3) := by decide +kernel
theorem dX10_chance_66 : decode cX10_chance 66 = .ok (.idiv, 1) := by decide +kernel
theorem dX10_chance_67 : decode cX10_chance 67 = .ok (.ireturn, 1) := by decide +kernel
theorem dX10_chanceOf_0 : decode cX10_chanceOf 0 = .ok (.iconst 1, 1) := by decide +kernel
theorem dX10_chanceOf_1 : decode cX10_chanceOf 1 = .ok (.istore_n 3, 1) := by decide +kernel
theorem dX10_chanceOf_2 : decode cX10_chanceOf 2 = .ok (.aload_n 0, 1) := by decide +kernel
theorem dX10_chanceOf_3 : decode cX10_chanceOf 3 = .ok (.iconst 1, 1) := by decide +kernel
theorem dX10_chanceOf_4 : decode cX10_chanceOf 4 = .ok (.putfield 403, 3) := by decide +kernel
theorem dX10_chanceOf_7 : decode cX10_chanceOf 7 = .ok (.iconst 0, 1) := by decide +kernel
theorem dX10_chanceOf_8 : decode cX10_chanceOf 8 = .ok (.istore 4, 2) := by decide +kernel
theorem dX10_chanceOf_10 : decode cX10_chanceOf 10 = .ok (.iload 4, 2) := by decide +kernel
theorem dX10_chanceOf_12 : decode cX10_chanceOf 12 = .ok (.aload_n 0, 1) := by decide +kernel
theorem dX10_chanceOf_13 : decode cX10_chanceOf 13 = .ok (.invokevirtual 229, 3) := by decide +kernel
theorem dX10_chanceOf_16 : decode cX10_chanceOf 16 = .ok (.if_icmp .ge 107, 3) := by decide +kernel
theorem dX10_chanceOf_19 : decode cX10_chanceOf 19 = .ok (.aload_n 0, 1) := by decide +kernel
theorem dX10_chanceOf_20 : decode cX10_chanceOf 20 = .ok (.getfield 53, 3) := by decide +kernel
theorem dX10_chanceOf_23 : decode cX10_chanceOf 23 = .ok (.bipush 6, 2) := by decide +kernel
theorem dX10_chanceOf_25 : decode cX10_chanceOf 25 = .ok (.iload_n 1, 1) := by decide +kernel
theorem dX10_chanceOf_26 : decode cX10_chanceOf 26 = .ok (.imul, 1) := by decide +kernel
theorem dX10_chanceOf_27 : decode cX10_chanceOf 27 = .ok (.iload 4, 2) := by decide +kernel
theorem dX10_chanceOf_29 : decode cX10_chanceOf 29 = .ok (.iadd, 1) := by decide +kernel
theorem dX10_chanceOf_30 : decode cX10_chanceOf 30 = .ok (.baload, 1) := by decide +kernel
theorem dX10_chanceOf_31 : decode cX10_chanceOf 31 = .ok (.ifCond .ne 6, 3) := by decide +kernel
theorem dX10_chanceOf_34 : decode cX10_chanceOf 34 = .ok (.goto 83, 3) := by decide +kernel
theorem dX10_chanceOf_37 : decode cX10_chanceOf 37 = .ok (.aload_n 0, 1) := by decide +kernel
theorem dX10_chanceOf_38 : decode cX10_chanceOf 38 = .ok (.getfield 50, 3) := by decide +kernel
theorem dX10_chanceOf_41 : decode cX10_chanceOf 41 = .ok (.bipush 6, 2) := by decide +kernel
theorem dX10_chanceOf_43 : decode cX10_chanceOf 43 = .ok (.iload_n 1, 1) := by decide +kernel
theorem dX10_chanceOf_44 : decode cX10_chanceOf 44 = .ok (.imul, 1) := by decide +kernel
theorem dX10_chanceOf_45 : decode cX10_chanceOf 45 = .ok (.iload 4, 2) := by decide +kernel
theorem dX10_chanceOf_47 : decode cX10_chanceOf 47 = .ok (.iadd, 1) := by decide +kernel
theorem dX10_chanceOf_48 : decode cX10_chanceOf 48 = .ok (.iaload, 1) := by decide +kernel
theorem dX10_chanceOf_49 : decode cX10_chanceOf 49 = .ok (.istore 5, 2) := by decide +kernel
theorem dX10_chanceOf_51 : decode cX10_chanceOf 51 = .ok (.iload 5, 2) := by decide +kernel
theorem dX10_chanceOf_53 : decode cX10_chanceOf 53 = .ok (.sipush 10000, 3) := by decide +kernel
theorem dX10_chanceOf_56 : decode cX10_chanceOf 56 = .ok (.if_icmp .ne 8, 3) := by decide +kernel
theorem dX10_chanceOf_59 : decode cX10_chanceOf 59 = .ok (.iconst 0, 1) := by decide +kernel
theorem dX10_chanceOf_60 : decode cX10_chanceOf 60 = .ok (.istore_n 3, 1) := by decide +kernel
theorem dX10_chanceOf_61 : decode cX10_chanceOf 61 = .ok (.goto 56, 3) := by decide +kernel
theorem dX10_chanceOf_64 : decode cX10_chanceOf 64 = .ok (.aload_n 0, 1) := by decide +kernel
theorem dX10_chanceOf_65 : decode cX10_chanceOf 65 = .ok (.dup, 1) := by decide +kernel
theorem dX10_chanceOf_66 : decode cX10_chanceOf 66 = .ok (.getfield 403, 3) := by decide +kernel
theorem dX10_chanceOf_69 : decode cX10_chanceOf 69 = .ok (.bipush 10, 2) := by decide +kernel
theorem dX10_chanceOf_71 : decode cX10_chanceOf 71 = .ok (.imul, 1) := by decide +kernel
theorem dX10_chanceOf_72 : decode cX10_chanceOf 72 = .ok (.putfield 403, 3) := by decide +kernel
theorem dX10_chanceOf_75 : decode cX10_chanceOf 75 = .ok (.iload_n 3, 1) := by decide +kernel
theorem dX10_chanceOf_76 : decode cX10_chanceOf 76 = .ok (.iload 5, 2) := by decide +kernel
theorem dX10_chanceOf_78 : decode cX10_chanceOf 78 = .ok (.iload_n 2, 1) := by decide +kernel
theorem dX10_chanceOf_79 : decode cX10_chanceOf 79 = .ok (.if_icmp .gt 15, 3) := by decide +kernel
theorem dX10_chanceOf_82 : decode cX10_chanceOf 82 = .ok (.bipush 10, 2) := by decide +kernel
theorem dX10_chanceOf_84 : decode cX10_chanceOf 84 = .ok (.aload_n 0, 1) := by decide +kernel
theorem dX10_chanceOf_85 : decode cX10_chanceOf 85 = .ok (.getfield 34, 3) := by decide +kernel
theorem dX10_chanceOf_88 : decode cX10_chanceOf 88 = .ok (.iconst 2, 1) := by decide +kernel
theorem dX10_chanceOf_89 : decode cX10_chanceOf 89 = .ok (.iaload, 1) := by decide +kernel
theorem dX10_chanceOf_90 : decode cX10_chanceOf 90 = .ok (.isub, 1) := by decide +kernel
theorem dX10_chanceOf_91 : decode cX10_chanceOf 91 = .ok (.goto 4, 3) := by decide +kernel
theorem dX10_chanceOf_94 : decode cX10_chanceOf 94 = .ok (.iconst 0, 1) := by decide +kernel
theorem dX10_chanceOf_95 : decode cX10_chanceOf 95 = .ok (.iload 5, 2) := by decide +kernel
theorem dX10_chanceOf_97 : decode cX10_chanceOf 97 = .ok (.bipush 30, 2) := by decide +kernel
theorem dX10_chanceOf_99 : decode cX10_chanceOf 99 = .ok (.iadd, 1) := by decide +kernel
theorem dX10_chanceOf_100 : decode cX10_chanceOf 100 = .ok (.iload_n 2, 1) := by decide +kernel
theorem dX10_chanceOf_101 : decode cX10_chanceOf 101 = .ok (.if_icmp .gt 12, 3) := by decide +kernel
theorem dX10_chanceOf_104 : decode cX10_chanceOf 104 = .ok (.aload_n 0, 1) := by decide +kernel
theorem dX10_chanceOf_105 : decode cX10_chanceOf 105 = .ok (.getfield 34, 3) := by decide +kernel
theorem dX10_chanceOf_108 : decode cX10_chanceOf 108 = .ok (.iconst 2, 1) := by decide +kernel
theorem dX10_chanceOf_109 : decode cX10_chanceOf 109 = .ok (.iaload, 1) := by decide +kernel
theorem dX10_chanceOf_110 : decode cX10_chanceOf 110 = .ok (.goto 4, 3) := by decide +kernel
theorem dX10_chanceOf_113 : decode cX10_chanceOf 113 = .ok (.iconst 0, 1) := by decide +kernel
theorem dX10_chanceOf_114 : decode cX10_chanceOf 114 = .ok (.iadd, 1) := by decide +kernel
theorem dX10_chanceOf_115 : decode cX10_chanceOf 115 = .ok (.imul, 1) := by decide +kernel
theorem dX10_chanceOf_116 : decode cX10_chanceOf 116 = .ok (.istore_n 3, 1) := by decide +kernel
theorem dX10_chanceOf_117 : decode cX10_chanceOf 117 = .ok (.iinc 4 1, 3) := by decide +kernel
theorem dX10_chanceOf_120 : decode cX10_chanceOf 120 = .ok (.goto (-110), 3) := by decide +kernel
theorem dX10_chanceOf_123 : decode cX10_chanceOf 123 = .ok (.iload_n 3, 1) := by decide +kernel
theorem dX10_chanceOf_124 : decode cX10_chanceOf 124 = .ok (.ireturn, 1) := by decide +kernel
theorem dX10_chorus_0 : decode cX10_chorus 0 = .ok (.aload_n 0, 1) := by decide +kernel
theorem dX10_chorus_1 : decode cX10_chorus 1 = .ok (.iconst 0, 1) := by decide +kernel
theorem dX10_chorus_2 : decode cX10_chorus 2 = .ok (.putfield 71, 3) := by decide +kernel
theorem dX10_chorus_5 : decode cX10_chorus 5 = .ok (.aload_n 0, 1) := by decide +kernel
theorem dX10_chorus_6 : decode cX10_chorus 6 = .ok (.iload_n 1, 1) := by decide +kernel
theorem dX10_chorus_7 : decode cX10_chorus 7 = .ok (.i2l, 1) := by decide +kernel
theorem dX10_chorus_8 : decode cX10_chorus 8 = .ok (.invokevirtual 272, 3) := by decide +kernel
theorem dX10_chorus_11 : decode cX10_chorus 11 = .ok (.ifCond .ne 6, 3) := by decide +kernel
theorem dX10_chorus_14 : decode cX10_chorus 14 = .ok (.bipush (-2), 2) := by decide +kernel
theorem dX10_chorus_16 : decode cX10_chorus 16 = .ok (.ireturn, 1) := by decide +kernel
theorem dX10_chorus_17 : decode cX10_chorus 17 = .ok (.aload_n 0, 1) := by decide +kernel
theorem dX10_chorus_18 : decode cX10_chorus 18 = .ok (.invokevirtual 275, 3) := by decide +kernel
theorem dX10_chorus_21 : decode cX10_chorus 21 = .ok (.iconst 0, 1) := by decide +kernel
theorem dX10_chorus_22 : decode cX10_chorus 22 = .ok (.istore_n 2, 1) := by decide +kernel
theorem dX10_chorus_23 : decode cX10_chorus 23 = .ok (.iconst 0, 1) := by decide +kernel
theorem dX10_chorus_24 : decode cX10_chorus 24 = .ok (.istore_n 3, 1) := by decide +kernel
theorem dX10_chorus_25 : decode cX10_chorus 25 = .ok (.iload_n 3, 1) := by decide +kernel
theorem dX10_chorus_26 : decode cX10_chorus 26 = .ok (.aload_n 0, 1) := by decide +kernel
theorem dX10_chorus_27 : decode cX10_chorus 27 = .ok (.invokevirtual 229, 3) := by decide +kernel
theorem dX10_chorus_30 : decode cX10_chorus 30 = .ok (.if_icmp .ge 98, 3) := by decide +kernel
theorem dX10_chorus_33 : decode cX10_chorus 33 = .ok (.aload_n 0, 1) := by decide +kernel
theorem dX10_chorus_34 : decode cX10_chorus 34 = .ok (.getfield 53, 3) := by decide +kernel
theorem dX10_chorus_37 : decode cX10_chorus 37 = .ok (.bipush 6, 2) := by decide +kernel
theorem dX10_chorus_39 : decode cX10_chorus 39 = .ok (.iload_n 1, 1) := by decide +kernel
theorem dX10_chorus_40 : decode cX10_chorus 40 = .ok (.imul, 1) := by decide +kernel
theorem dX10_chorus_41 : decode cX10_chorus 41 = .ok (.iload_n 3, 1) := by decide +kernel
theorem dX10_chorus_42 : decode cX10_chorus 42 = .ok (.iadd, 1) := by decide +kernel
theorem dX10_chorus_43 : decode cX10_chorus 43 = .ok (.baload, 1) := by decide +kernel
theorem dX10_chorus_44 : decode cX10_chorus 44 = .ok (.ifCond .eq 78, 3) := by decide +kernel
theorem dX10_chorus_47 : decode cX10_chorus 47 = .ok (.aload_n 0, 1) := by decide +kernel
theorem dX10_chorus_48 : decode cX10_chorus 48 = .ok (.getfield 50, 3) := by decide +kernel
theorem dX10_chorus_51 : decode cX10_chorus 51 = .ok (.bipush 6, 2) := by decide +kernel
theorem dX10_chorus_53 : decode cX10_chorus 53 = .ok (.iload_n 1, 1) := by decide +kernel
theorem dX10_chorus_54 : decode cX10_chorus 54 = .ok (.imul, 1) := by decide +kernel
theorem dX10_chorus_55 : decode cX10_chorus 55 = .ok (.iload_n 3, 1) := by decide +kernel
theorem dX10_chorus_56 : decode cX10_chorus 56 = .ok (.iadd, 1) := by decide +kernel
theorem dX10_chorus_57 : decode cX10_chorus 57 = .ok (.iaload, 1) := by decide +kernel
theorem dX10_chorus_58 : decode cX10_chorus 58 = .ok (.sipush 10000, 3) := by decide +kernel
theorem dX10_chorus_61 : decode cX10_chorus 61 = .ok (.if_icmp .ne 6, 3) := by decide +kernel
theorem dX10_chorus_64 : decode cX10_chorus 64 = .ok (.goto 58, 3) := by decide +kernel
theorem dX10_chorus_67 : decode cX10_chorus 67 = .ok (.iconst 0, 1) := by decide +kernel
theorem dX10_chorus_68 : decode cX10_chorus 68 = .ok (.istore 4, 2) := by decide +kernel
theorem dX10_chorus_70 : decode cX10_chorus 70 = .ok (.iconst 0, 1) := by decide +kernel
theorem dX10_chorus_71 : decode cX10_chorus 71 = .ok (.istore 5, 2) := by decide +kernel
theorem dX10_chorus_73 : decode cX10_chorus 73 = .ok (.iload 5, 2) := by decide +kernel
theorem dX10_chorus_75 : decode cX10_chorus 75 = .ok (.aload_n 0, 1) := by decide +kernel
theorem dX10_chorus_76 : decode cX10_chorus 76 = .ok (.invokevirtual 229, 3) := by decide +kernel
theorem dX10_chorus_79 : decode cX10_chorus 79 = .ok (.if_icmp .ge 30, 3) := by decide +kernel
theorem dX10_chorus_82 : decode cX10_chorus 82 = .ok (.iload 4, 2) := by decide +kernel
theorem dX10_chorus_84 : decode cX10_chorus 84 = .ok (.aload_n 0, 1) := by decide +kernel
theorem dX10_chorus_85 : decode cX10_chorus 85 = .ok (.iload_n 1, 1) := by decide +kernel
theorem dX10_chorus_86 : decode cX10_chorus 86 = .ok (.iload_n 3, 1) := by decide +kernel
theorem dX10_chorus_87 : decode cX10_chorus 87 = .ok (.iload 5, 2) := by decide +kernel
theorem dX10_chorus_89 : decode cX10_chorus 89 = .ok (.invokevirtual 301, 3) := by decide +kernel
theorem dX10_chorus_92 : decode cX10_chorus 92 = .ok (.ifCond .eq 7, 3) := by decide +kernel
theorem dX10_chorus_95 : decode cX10_chorus 95 = .ok (.iconst 1, 1) := by decide +kernel
theorem dX10_chorus_96 : decode cX10_chorus 96 = .ok (.goto 4, 3) := by decide +kernel
theorem dX10_chorus_99 : decode cX10_chorus 99 = .ok (.iconst 0, 1) := by decide +kernel
theorem dX10_chorus_100 : decode cX10_chorus 100 = .ok (.iadd, 1) := by decide +kernel
theorem dX10_chorus_101 : decode cX10_chorus 101 = .ok (.istore 4, 2) := by decide +kernel
theorem dX10_chorus_103 : decode cX10_chorus 103 = .ok (.iinc 5 1, 3) := by decide +kernel
theorem dX10_chorus_106 : decode cX10_chorus 106 = .ok (.goto (-33), 3) := by decide +kernel
theorem dX10_chorus_109 : decode cX10_chorus 109 = .ok (.iload 4, 2) := by decide +kernel
theorem dX10_chorus_111 : decode cX10_chorus 111 = .ok (.iload_n 2, 1) := by decide +kernel
theorem dX10_chorus_112 : decode cX10_chorus 112 = .ok (.if_icmp .le 8, 3) := by decide +kernel
theorem dX10_chorus_115 : decode cX10_chorus 115 = .ok (.iload 4, 2) := by decide +kernel
theorem dX10_chorus_117 : decode cX10_chorus 117 = .ok (.goto 4, 3) := by decide +kernel
theorem dX10_chorus_120 : decode cX10_chorus 120 = .ok (.iload_n 2, 1) := by decide +kernel
theorem dX10_chorus_121 : decode cX10_chorus 121 = .ok (.istore_n 2, 1) := by decide +kernel
theorem dX10_chorus_122 : decode cX10_chorus 122 = .ok (.iinc 3 1, 3) := by decide +kernel
theorem dX10_chorus_125 : decode cX10_chorus 125 = .ok (.goto (-100), 3) := by decide +kernel
theorem dX10_chorus_128 : decode cX10_chorus 128 = .ok (.iload_n 2, 1) := by decide +kernel
theorem dX10_chorus_129 : decode cX10_chorus 129 = .ok (.ireturn, 1) := by decide +kernel
theorem dX10_clears_0 : decode cX10_clears 0 = .ok (.aload_n 0, 1) := by decide +kernel
theorem dX10_clears_1 : decode cX10_clears 1 = .ok (.getfield 31, 3) := by decide +kernel
theorem dX10_clears_4 : decode cX10_clears 4 = .ok (.iconst 4, 1) := by decide +kernel
theorem dX10_clears_5 : decode cX10_clears 5 = .ok (.iconst 0, 1) := by decide +kernel
theorem dX10_clears_6 : decode cX10_clears 6 = .ok (.iastore, 1) := by decide +kernel
theorem dX10_clears_7 : decode cX10_clears 7 = .ok (.iconst 0, 1) := by decide +kernel
theorem dX10_clears_8 : decode cX10_clears 8 = .ok (.istore_n 1, 1) := by decide +kernel
theorem dX10_clears_9 : decode cX10_clears 9 = .ok (.iload_n 1, 1) := by decide +kernel
theorem dX10_clears_10 : decode cX10_clears 10 = .ok (.bipush 6, 2) := by decide +kernel
theorem dX10_clears_12 : decode cX10_clears 12 = .ok (.if_icmp .ge 15, 3) := by decide +kernel
theorem dX10_clears_15 : decode cX10_clears 15 = .ok (.aload_n 0, 1) := by decide +kernel
theorem dX10_clears_16 : decode cX10_clears 16 = .ok (.iload_n 1, 1) := by decide +kernel
theorem dX10_clears_17 : decode cX10_clears 17 = .ok (.iconst 0, 1) := by decide +kernel
theorem dX10_clears_18 : decode cX10_clears 18 = .ok (.invokevirtual 174, 3) := by decide +kernel
theorem dX10_clears_21 : decode cX10_clears 21 = .ok (.iinc 1 1, 3) := by decide +kernel
theorem dX10_clears_24 : decode cX10_clears 24 = .ok (.goto (-15), 3) := by decide +kernel
theorem dX10_clears_27 : decode cX10_clears 27 = .ok (.return_, 1) := by decide +kernel
theorem dX10_clock_0 : decode cX10_clock 0 = .ok (.aload_n 0, 1) := by decide +kernel
theorem dX10_clock_1 : decode cX10_clock 1 = .ok (.iconst 0, 1) := by decide +kernel
theorem dX10_clock_2 : decode cX10_clock 2 = .ok (.putfield 71, 3) := by decide +kernel
theorem dX10_clock_5 : decode cX10_clock 5 = .ok (.aload_n 0, 1) := by decide +kernel
theorem dX10_clock_6 : decode cX10_clock 6 = .ok (.iload_n 1, 1) := by decide +kernel
theorem dX10_clock_7 : decode cX10_clock 7 = .ok (.i2l, 1) := by decide +kernel
theorem dX10_clock_8 : decode cX10_clock 8 = .ok (.invokevirtual 267, 3) := by decide +kernel
theorem dX10_clock_11 : decode cX10_clock 11 = .ok (.ifCond .eq 28, 3) := by decide +kernel
theorem dX10_clock_14 : decode cX10_clock 14 = .ok (.iload_n 2, 1) := by decide +kernel
theorem dX10_clock_15 : decode cX10_clock 15 = .ok (.i2l, 1) := by decide +kernel
theorem dX10_clock_16 : decode cX10_clock 16 = .ok (.lconst 0, 1) := by decide +kernel
theorem dX10_clock_17 : decode cX10_clock 17 = .ok (.ldc2_w 270, 3) := by decide +kernel
theorem dX10_clock_20 : decode cX10_clock 20 = .ok (.invokestatic 76, 3) := by decide +kernel
theorem dX10_clock_23 : decode cX10_clock 23 = .ok (.ifCond .eq 16, 3) := by decide +kernel
theorem dX10_clock_26 : decode cX10_clock 26 = .ok (.aload_n 0, 1) := by decide +kernel
theorem dX10_clock_27 : decode cX10_clock 27 = .ok (.getfield 37, 3) := by decide +kernel
theorem dX10_clock_30 : decode cX10_clock 30 = .ok (.iconst 5, 1) := by decide +kernel
theorem dX10_clock_31 : decode cX10_clock 31 = .ok (.iload_n 1, 1) := by decide +kernel
theorem dX10_clock_32 : decode cX10_clock 32 = .ok (.imul, 1) := by decide +kernel
theorem dX10_clock_33 : decode cX10_clock 33 = .ok (.iload_n 2, 1) := by decide +kernel
theorem dX10_clock_34 : decode cX10_clock 34 = .ok (.iadd, 1) := by decide +kernel
theorem dX10_clock_35 : decode cX10_clock 35 = .ok (.iaload, 1) := by decide +kernel
theorem dX10_clock_36 : decode cX10_clock 36 = .ok (.goto 6, 3) := by decide +kernel
theorem dX10_clock_39 : decode cX10_clock 39 = .ok (.sipush (-1000), 3) := by decide +kernel
theorem dX10_clock_42 : decode cX10_clock 42 = .ok (.ireturn, 1) := by decide +kernel
theorem dX10_clockLine_0 : decode cX10_clockLine 0 = .ok (.iconst 5, 1) := by decide +kernel
theorem dX10_clockLine_1 : decode cX10_clockLine 1 = .ok (.bipush 24, 2) := by decide +kernel
theorem dX10_clockLine_3 : decode cX10_clockLine 3 = .ok (.aload_n 0, 1) := by decide +kernel
theorem dX10_clockLine_4 : decode cX10_clockLine 4 = .ok (.iconst 3, 1) := by decide +kernel
theorem dX10_clockLine_5 : decode cX10_clockLine 5 = .ok (.invokevirtual 153, 3) := by decide +kernel
theorem dX10_clockLine_8 : decode cX10_clockLine 8 = .ok (.iadd, 1) := by decide +kernel
theorem dX10_clockLine_9 : decode cX10_clockLine 9 = .ok (.imul, 1) := by decide +kernel
theorem dX10_clockLine_10 : decode cX10_clockLine 10 = .ok (.istore_n 1, 1) := by decide +kernel
theorem dX10_clockLine_11 : decode cX10_clockLine 11 = .ok (.aload_n 0, 1) := by decide +kernel
theorem dX10_clockLine_12 : decode cX10_clockLine 12 = .ok (.getfield 37, 3) := by decide +kernel
theorem dX10_clockLine_15 : decode cX10_clockLine 15 = .ok (.iload_n 1, 1) := by decide +kernel
theorem dX10_clockLine_16 : decode cX10_clockLine 16 = .ok (.aload_n 0, 1) := by decide +kernel
theorem dX10_clockLine_17 : decode cX10_clockLine 17 = .ok (.ldc2_w 157, 3) := by decide +kernel
theorem dX10_clockLine_20 : decode cX10_clockLine 20 = .ok (.iconst 0, 1) := by decide +kernel
theorem dX10_clockLine_21 : decode cX10_clockLine 21 = .ok (.bipush 9, 2) := by decide +kernel
theorem dX10_clockLine_23 : decode cX10_clockLine 23 = .ok (.invokevirtual 159, 3) := by decide +kernel
theorem dX10_clockLine_26 : decode cX10_clockLine 26 = .ok (.iastore, 1) := by decide +kernel
theorem dX10_clockLine_27 : decode cX10_clockLine 27 = .ok (.aload_n 0, 1) := by decide +kernel
theorem dX10_clockLine_28 : decode cX10_clockLine 28 = .ok (.getfield 123, 3) := by decide +kernel
theorem dX10_clockLine_31 : decode cX10_clockLine 31 = .ok (.ifCond .ne 17, 3) := by decide +kernel
theorem dX10_clockLine_34 : decode cX10_clockLine 34 = .ok (.aload_n 0, 1) := by decide +kernel
theorem dX10_clockLine_35 : decode cX10_clockLine 35 = .ok (.ldc2_w 162, 3) := by decide +kernel
theorem dX10_clockLine_38 : decode cX10_clockLine 38 = .ok (.invokevirtual 136, 3) := by decide +kernel
theorem dX10_clockLine_41 : decode cX10_clockLine 41 = .ok (.ifCond .eq 7, 3) := by decide +kernel
theorem dX10_clockLine_44 : decode cX10_clockLine 44 = .ok (.iconst 1, 1) := by decide +kernel
theorem dX10_clockLine_45 : decode cX10_clockLine 45 = .ok (.goto 4, 3) := by decide +kernel
theorem dX10_clockLine_48 : decode cX10_clockLine 48 = .ok (.iconst 0, 1) := by decide +kernel
theorem dX10_clockLine_49 : decode cX10_clockLine 49 = .ok (.istore_n 2, 1) := by decide +kernel
theorem dX10_clockLine_50 : decode cX10_clockLine 50 = .ok (.iload_n 2, 1) := by decide +kernel
theorem dX10_clockLine_51 : decode cX10_clockLine 51 = .ok (.ifCond .ne 10, 3) := by decide +kernel
theorem dX10_clockLine_54 : decode cX10_clockLine 54 = .ok (.aload_n 0, 1) := by decide +kernel
theorem dX10_clockLine_55 : decode cX10_clockLine 55 = .ok (.ldc2_w 164, 3) := by decide +kernel
theorem dX10_clockLine_58 : decode cX10_clockLine 58 = .ok (.invokevirtual 142, 3) := by decide +kernel
theorem dX10_clockLine_61 : decode cX10_clockLine 61 = .ok (.aload_n 0, 1) := by decide +kernel
theorem dX10_clockLine_62 : decode cX10_clockLine 62 = .ok (.iconst 0, 1) := by decide +kernel
theorem dX10_clockLine_63 : decode cX10_clockLine 63 = .ok (.bipush 60, 2) := by decide +kernel
theorem dX10_clockLine_65 : decode cX10_clockLine 65 = .ok (.invokevirtual 146, 3) := by decide +kernel
theorem dX10_clockLine_68 : decode cX10_clockLine 68 = .ok (.istore_n 3, 1) := by decide +kernel
theorem dX10_clockLine_69 : decode cX10_clockLine 69 = .ok (.aload_n 0, 1) := by decide +kernel
theorem dX10_clockLine_70 : decode cX10_clockLine 70 = .ok (.getfield 37, 3) := by decide +kernel
theorem dX10_clockLine_73 : decode cX10_clockLine 73 = .ok (.iload_n 1, 1) := by decide +kernel
theorem dX10_clockLine_74 : decode cX10_clockLine 74 = .ok (.iconst 1, 1) := by decide +kernel
theorem dX10_clockLine_75 : decode cX10_clockLine 75 = .ok (.iadd, 1) := by decide +kernel
theorem dX10_clockLine_76 : decode cX10_clockLine 76 = .ok (.iload_n 2, 1) := by decide +kernel
theorem dX10_clockLine_77 : decode cX10_clockLine 77 = .ok (.ifCond .eq 8, 3) := by decide +kernel
theorem dX10_clockLine_80 : decode cX10_clockLine 80 = .ok (.iload_n 3, 1) := by decide +kernel
theorem dX10_clockLine_81 : decode cX10_clockLine 81 = .ok (.ineg, 1) := by decide +kernel
theorem dX10_clockLine_82 : decode cX10_clockLine 82 = .ok (.goto 4, 3) := by decide +kernel
theorem dX10_clockLine_85 : decode cX10_clockLine 85 = .ok (.iload_n 3, 1) := by decide +kernel
theorem dX10_clockLine_86 : decode cX10_clockLine 86 = .ok (.iastore, 1) := by decide +kernel
theorem dX10_clockLine_87 : decode cX10_clockLine 87 = .ok (.aload_n 0, 1) := by decide +kernel
theorem dX10_clockLine_88 : decode cX10_clockLine 88 = .ok (.getfield 123, 3) := by decide +kernel
theorem dX10_clockLine_91 : decode cX10_clockLine 91 = .ok (.ifCond .ne 17, 3) := by decide +kernel
theorem dX10_clockLine_94 : decode cX10_clockLine 94 = .ok (.aload_n 0, 1) := by decide +kernel
theorem dX10_clockLine_95 : decode cX10_clockLine 95 = .ok (.ldc2_w 166, 3) := by decide +kernel
theorem dX10_clockLine_98 : decode cX10_clockLine 98 = .ok (.invokevirtual 136, 3) := by decide +kernel
theorem dX10_clockLine_101 : decode cX10_clockLine 101 = .ok (.ifCond .eq 7, 3) := by decide +kernel
theorem dX10_clockLine_104 : decode cX10_clockLine 104 = .ok (.iconst 1, 1) := by decide +kernel
theorem dX10_clockLine_105 : decode cX10_clockLine 105 = .ok (.goto 4, 3) := by decide +kernel
theorem dX10_clockLine_108 : decode cX10_clockLine 108 = .ok (.iconst 0, 1) := by decide +kernel
theorem dX10_clockLine_109 : decode cX10_clockLine 109 = .ok (.istore 4, 2) := by decide +kernel
theorem dX10_clockLine_111 : decode cX10_clockLine 111 = .ok (.iload 4, 2) := by decide +kernel
theorem dX10_clockLine_113 : decode cX10_clockLine 113 = .ok (.ifCond .ne 10, 3) := by decide +kernel
theorem dX10_clockLine_116 : decode cX10_clockLine 116 = .ok (.aload_n 0, 1) := by decide +kernel
theorem dX10_clockLine_117 : decode cX10_clockLine 117 = .ok (.ldc2_w 168, 3) := by decide +kernel
theorem dX10_clockLine_120 : decode cX10_clockLine 120 = .ok (.invokevirtual 142, 3) := by decide +kernel
theorem dX10_clockLine_123 : decode cX10_clockLine 123 = .ok (.aload_n 0, 1) := by decide +kernel
theorem dX10_clockLine_124 : decode cX10_clockLine 124 = .ok (.iconst 0, 1) := by decide +kernel
theorem dX10_clockLine_125 : decode cX10_clockLine 125 = .ok (.bipush 9, 2) := by decide +kernel
theorem dX10_clockLine_127 : decode cX10_clockLine 127 = .ok (.invokevirtual 146, 3) := by decide +kernel
theorem dX10_clockLine_130 : decode cX10_clockLine 130 = .ok (.istore 5, 2) := by decide +kernel
theorem dX10_clockLine_132 : decode cX10_clockLine 132 = .ok (.aload_n 0, 1) := by decide +kernel
theorem dX10_clockLine_133 : decode cX10_clockLine 133 = .ok (.getfield 37, 3) := by decide +kernel
theorem dX10_clockLine_136 : decode cX10_clockLine 136 = .ok (.iload_n 1, 1) := by decide +kernel
theorem dX10_clockLine_137 : decode cX10_clockLine 137 = .ok (.iconst 2, 1) := by decide +kernel
theorem dX10_clockLine_138 : decode cX10_clockLine 138 = .ok (.iadd, 1) := by decide +kernel
theorem dX10_clockLine_139 : decode cX10_clockLine 139 = .ok (.iload 4, 2) := by decide +kernel
theorem dX10_clockLine_141 : decode cX10_clockLine 141 = .ok (.ifCond .eq 9, 3) := by decide +kernel
theorem dX10_clockLine_144 : decode cX10_clockLine 144 = .ok (.iload 5, 2) := by decide +kernel
theorem dX10_clockLine_146 : decode cX10_clockLine 146 = .ok (.ineg, 1) := by decide +kernel
theorem dX10_clockLine_147 : decode cX10_clockLine 147 = .ok (.goto 5, 3) := by decide +kernel
theorem dX10_clockLine_150 : decode cX10_clockLine 150 = .ok (.iload 5, 2) := by decide +kernel
theorem dX10_clockLine_152 : decode cX10_clockLine 152 = .ok (.iastore, 1) := by decide +kernel
theorem dX10_clockLine_153 : decode cX10_clockLine 153 = .ok (.aload_n 0, 1) := by decide +kernel
theorem dX10_clockLine_154 : decode cX10_clockLine 154 = .ok (.getfield 37, 3) := by decide +kernel
theorem dX10_clockLine_157 : decode cX10_clockLine 157 = .ok (.iload_n 1, 1) := by decide +kernel
theorem dX10_clockLine_158 : decode cX10_clockLine 158 = .ok (.iconst 3, 1) := by decide +kernel
theorem dX10_clockLine_159 : decode cX10_clockLine 159 = .ok (.iadd, 1) := by decide +kernel
theorem dX10_clockLine_160 : decode cX10_clockLine 160 = .ok (.aload_n 0, 1) := by decide +kernel
theorem dX10_clockLine_161 : decode cX10_clockLine 161 = .ok (.ldc2_w 170, 3) := by decide +kernel
theorem dX10_clockLine_164 : decode cX10_clockLine 164 = .ok (.iconst 0, 1) := by decide +kernel
theorem dX10_clockLine_165 : decode cX10_clockLine 165 = .ok (.sipush 999, 3) := by decide +kernel
theorem dX10_clockLine_168 : decode cX10_clockLine 168 = .ok (.invokevirtual 159, 3) := by decide +kernel
theorem dX10_clockLine_171 : decode cX10_clockLine 171 = .ok (.iastore, 1) := by decide +kernel
theorem dX10_clockLine_172 : decode cX10_clockLine 172 = .ok (.aload_n 0, 1) := by decide +kernel
theorem dX10_clockLine_173 : decode cX10_clockLine 173 = .ok (.getfield 37, 3) := by decide +kernel
theorem dX10_clockLine_176 : decode cX10_clockLine 176 = .ok (.iload_n 1, 1) := by decide +kernel
theorem dX10_clockLine_177 : decode cX10_clockLine 177 = .ok (.iconst 4, 1) := by decide +kernel
theorem dX10_clockLine_178 : decode cX10_clockLine 178 = .ok (.iadd, 1) := by decide +kernel
theorem dX10_clockLine_179 : decode cX10_clockLine 179 = .ok (.aload_n 0, 1) := by decide +kernel
theorem dX10_clockLine_180 : decode cX10_clockLine 180 = .ok (.getfield 123, 3) := by decide +kernel
theorem dX10_clockLine_183 : decode cX10_clockLine 183 = .ok (.ifCond .ne 17, 3) := by decide +kernel
theorem dX10_clockLine_186 : decode cX10_clockLine 186 = .ok (.aload_n 0, 1) := by decide +kernel
theorem dX10_clockLine_187 : decode cX10_clockLine 187 = .ok (.ldc2_w 172, 3) := by decide +kernel
theorem dX10_clockLine_190 : decode cX10_clockLine 190 = .ok (.invokevirtual 136, 3) := by decide +kernel
theorem dX10_clockLine_193 : decode cX10_clockLine 193 = .ok (.ifCond .eq 7, 3) := by decide +kernel
theorem dX10_clockLine_196 : decode cX10_clockLine 196 = .ok (.iconst 1, 1) := by decide +kernel
theorem dX10_clockLine_197 : decode cX10_clockLine 197 = .ok (.goto 4, 3) := by decide +kernel
theorem dX10_clockLine_200 : decode cX10_clockLine 200 = .ok (.iconst 0, 1) := by decide +kernel
theorem dX10_clockLine_201 : decode cX10_clockLine 201 = .ok (.iastore, 1) := by decide +kernel
theorem dX10_clockLine_202 : decode cX10_clockLine 202 = .ok (.aload_n 0, 1) := by decide +kernel
theorem dX10_clockLine_203 : decode cX10_clockLine 203 = .ok (.iconst 3, 1) := by decide +kernel
theorem dX10_clockLine_204 : decode cX10_clockLine 204 = .ok (.aload_n 0, 1) := by decide +kernel
theorem dX10_clockLine_205 : decode cX10_clockLine 205 = .ok (.iconst 3, 1) := by decide +kernel
theorem dX10_clockLine_206 : decode cX10_clockLine 206 = .ok (.invokevirtual 153, 3) := by decide +kernel
theorem dX10_clockLine_209 : decode cX10_clockLine 209 = .ok (.iconst 1, 1) := by decide +kernel
theorem dX10_clockLine_210 : decode cX10_clockLine 210 = .ok (.iadd, 1) := by decide +kernel
theorem dX10_clockLine_211 : decode cX10_clockLine 211 = .ok (.invokevirtual 174, 3) := by decide +kernel
theorem dX10_clockLine_214 : decode cX10_clockLine 214 = .ok (.return_, 1) := by decide +kernel
theorem dX10_clocks_0 : decode cX10_clocks 0 = .ok (.aload_n 0, 1) := by decide +kernel
theorem dX10_clocks_1 : decode cX10_clocks 1 = .ok (.getfield 34, 3) := by decide +kernel
theorem dX10_clocks_4 : decode cX10_clocks 4 = .ok (.iconst 3, 1) := by decide +kernel
theorem dX10_clocks_5 : decode cX10_clocks 5 = .ok (.iaload, 1) := by decide +kernel
theorem dX10_clocks_6 : decode cX10_clocks 6 = .ok (.ireturn, 1) := by decide +kernel
theorem dX10_common_0 : decode cX10_common 0 = .ok (.iload_n 1, 1) := by decide +kernel
theorem dX10_common_1 : decode cX10_common 1 = .ok (.ifCond .ne 7, 3) := by decide +kernel
theorem dX10_common_4 : decode cX10_common 4 = .ok (.iload_n 0, 1) := by decide +kernel
theorem dX10_common_5 : decode cX10_common 5 = .ok (.goto 10, 3) := by decide +kernel
theorem dX10_common_8 : decode cX10_common 8 = .ok (.iload_n 1, 1) := by decide +kernel
theorem dX10_common_9 : decode cX10_common 9 = .ok (.iload_n 0, 1) := by decide +kernel
theorem dX10_common_10 : decode cX10_common 10 = .ok (.iload_n 1, 1) := by decide +kernel
theorem dX10_common_11 : decode cX10_common 11 = .ok (.irem, 1) := by decide +kernel
theorem dX10_common_12 : decode cX10_common 12 = .ok (.invokestatic 311, 3) := by decide +kernel
theorem dX10_common_15 : decode cX10_common 15 = .ok (.ireturn, 1) := by decide +kernel
theorem dX10_copyRow_0 : decode cX10_copyRow 0 = .ok (.iconst 0, 1) := by decide +kernel
theorem dX10_copyRow_1 : decode cX10_copyRow 1 = .ok (.istore 4, 2) := by decide +kernel
theorem dX10_copyRow_3 : decode cX10_copyRow 3 = .ok (.iload 4, 2) := by decide +kernel
theorem dX10_copyRow_5 : decode cX10_copyRow 5 = .ok (.iload_n 1, 1) := by decide +kernel
theorem dX10_copyRow_6 : decode cX10_copyRow 6 = .ok (.if_icmp .ge 25, 3) := by decide +kernel
theorem dX10_copyRow_9 : decode cX10_copyRow 9 = .ok (.aload_n 0, 1) := by decide +kernel
theorem dX10_copyRow_10 : decode cX10_copyRow 10 = .ok (.iload_n 1, 1) := by decide +kernel
theorem dX10_copyRow_11 : decode cX10_copyRow 11 = .ok (.iload_n 3, 1) := by decide +kernel
theorem dX10_copyRow_12 : decode cX10_copyRow 12 = .ok (.imul, 1) := by decide +kernel
theorem dX10_copyRow_13 : decode cX10_copyRow 13 = .ok (.iload 4, 2) := by decide +kernel
theorem dX10_copyRow_15 : decode cX10_copyRow 15 = .ok (.iadd, 1) := by decide +kernel
theorem dX10_copyRow_16 : decode cX10_copyRow 16 = .ok (.aload_n 0, 1) := by decide +kernel
theorem dX10_copyRow_17 : decode cX10_copyRow 17 = .ok (.iload_n 1, 1) := by decide +kernel
theorem dX10_copyRow_18 : decode cX10_copyRow 18 = .ok (.iload_n 2, 1) := by decide +kernel
theorem dX10_copyRow_19 : decode cX10_copyRow 19 = .ok (.imul, 1) := by decide +kernel
theorem dX10_copyRow_20 : decode cX10_copyRow 20 = .ok (.iload 4, 2) := by decide +kernel
theorem dX10_copyRow_22 : decode cX10_copyRow 22 = .ok (.iadd, 1) := by decide +kernel
theorem dX10_copyRow_23 : decode cX10_copyRow 23 = .ok (.iaload, 1) := by decide +kernel
theorem dX10_copyRow_24 : decode cX10_copyRow 24 = .ok (.iastore, 1) := by decide +kernel
theorem dX10_copyRow_25 : decode cX10_copyRow 25 = .ok (.iinc 4 1, 3) := by decide +kernel
theorem dX10_copyRow_28 : decode cX10_copyRow 28 = .ok (.goto (-25), 3) := by decide +kernel
theorem dX10_copyRow_31 : decode cX10_copyRow 31 = .ok (.return_, 1) := by decide +kernel
theorem dX10_copyTown_0 : decode cX10_copyTown 0 = .ok (.aload_n 0, 1) := by decide +kernel
theorem dX10_copyTown_1 : decode cX10_copyTown 1 = .ok (.getfield 31, 3) := by decide +kernel
theorem dX10_copyTown_4 : decode cX10_copyTown 4 = .ok (.iconst 1, 1) := by decide +kernel
theorem dX10_copyTown_5 : decode cX10_copyTown 5 = .ok (.iload_n 1, 1) := by decide +kernel
theorem dX10_copyTown_6 : decode cX10_copyTown 6 = .ok (.iload_n 2, 1) := by decide +kernel
theorem dX10_copyTown_7 : decode cX10_copyTown 7 = .ok (.invokestatic 221, 3) := by decide +kernel
theorem dX10_copyTown_10 : decode cX10_copyTown 10 = .ok (.aload_n 0, 1) := by decide +kernel
theorem dX10_copyTown_11 : decode cX10_copyTown 11 = .ok (.getfield 34, 3) := by decide +kernel
theorem dX10_copyTown_14 : decode cX10_copyTown 14 = .ok (.bipush 6, 2) := by decide +kernel
theorem dX10_copyTown_16 : decode cX10_copyTown 16 = .ok (.iload_n 1, 1) := by decide +kernel
theorem dX10_copyTown_17 : decode cX10_copyTown 17 = .ok (.iload_n 2, 1) := by decide +kernel
theorem dX10_copyTown_18 : decode cX10_copyTown 18 = .ok (.invokestatic 221, 3) := by decide +kernel
theorem dX10_copyTown_21 : decode cX10_copyTown 21 = .ok (.aload_n 0, 1) := by decide +kernel
theorem dX10_copyTown_22 : decode cX10_copyTown 22 = .ok (.getfield 37, 3) := by decide +kernel
theorem dX10_copyTown_25 : decode cX10_copyTown 25 = .ok (.bipush 30, 2) := by decide +kernel
theorem dX10_copyTown_27 : decode cX10_copyTown 27 = .ok (.iload_n 1, 1) := by decide +kernel
theorem dX10_copyTown_28 : decode cX10_copyTown 28 = .ok (.iload_n 2, 1) := by decide +kernel
theorem dX10_copyTown_29 : decode cX10_copyTown 29 = .ok (.invokestatic 221, 3) := by decide +kernel
theorem dX10_copyTown_32 : decode cX10_copyTown 32 = .ok (.aload_n 0, 1) := by decide +kernel
theorem dX10_copyTown_33 : decode cX10_copyTown 33 = .ok (.getfield 40, 3) := by decide +kernel
theorem dX10_copyTown_36 : decode cX10_copyTown 36 = .ok (.iconst 5, 1) := by decide +kernel
theorem dX10_copyTown_37 : decode cX10_copyTown 37 = .ok (.iload_n 1, 1) := by decide +kernel
theorem dX10_copyTown_38 : decode cX10_copyTown 38 = .ok (.iload_n 2, 1) := by decide +kernel
theorem dX10_copyTown_39 : decode cX10_copyTown 39 = .ok (.invokestatic 221, 3) := by decide +kernel
theorem dX10_copyTown_42 : decode cX10_copyTown 42 = .ok (.aload_n 0, 1) := by decide +kernel
theorem dX10_copyTown_43 : decode cX10_copyTown 43 = .ok (.getfield 43, 3) := by decide +kernel
theorem dX10_copyTown_46 : decode cX10_copyTown 46 = .ok (.bipush 120, 2) := by decide +kernel
theorem dX10_copyTown_48 : decode cX10_copyTown 48 = .ok (.iload_n 1, 1) := by decide +kernel
theorem dX10_copyTown_49 : decode cX10_copyTown 49 = .ok (.iload_n 2, 1) := by decide +kernel
theorem dX10_copyTown_50 : decode cX10_copyTown 50 = .ok (.invokestatic 221, 3) := by decide +kernel
theorem dX10_copyTown_53 : decode cX10_copyTown 53 = .ok (.return_, 1) := by decide +kernel
theorem dX10_costs_0 : decode cX10_costs 0 = .ok (.aload_n 0, 1) := by decide +kernel
theorem dX10_costs_1 : decode cX10_costs 1 = .ok (.iconst 0, 1) := by decide +kernel
theorem dX10_costs_2 : decode cX10_costs 2 = .ok (.putfield 71, 3) := by decide +kernel
theorem dX10_costs_5 : decode cX10_costs 5 = .ok (.aload_n 0, 1) := by decide +kernel
theorem dX10_costs_6 : decode cX10_costs 6 = .ok (.iload_n 1, 1) := by decide +kernel
theorem dX10_costs_7 : decode cX10_costs 7 = .ok (.i2l, 1) := by decide +kernel
theorem dX10_costs_8 : decode cX10_costs 8 = .ok (.invokevirtual 272, 3) := by decide +kernel
theorem dX10_costs_11 : decode cX10_costs 11 = .ok (.ifCond .ne 6, 3) := by decide +kernel
theorem dX10_costs_14 : decode cX10_costs 14 = .ok (.bipush (-2), 2) := by decide +kernel
theorem dX10_costs_16 : decode cX10_costs 16 = .ok (.ireturn, 1) := by decide +kernel
theorem dX10_costs_17 : decode cX10_costs 17 = .ok (.aload_n 0, 1) := by decide +kernel
theorem dX10_costs_18 : decode cX10_costs 18 = .ok (.invokevirtual 275, 3) := by decide +kernel
theorem dX10_costs_21 : decode cX10_costs 21 = .ok (.aload_n 0, 1) := by decide +kernel
theorem dX10_costs_22 : decode cX10_costs 22 = .ok (.iload_n 1, 1) := by decide +kernel
theorem dX10_costs_23 : decode cX10_costs 23 = .ok (.invokevirtual 264, 3) := by decide +kernel
theorem dX10_costs_26 : decode cX10_costs 26 = .ok (.ireturn, 1) := by decide +kernel
theorem dX10_count_0 : decode cX10_count 0 = .ok (.aload_n 0, 1) := by decide +kernel
theorem dX10_count_1 : decode cX10_count 1 = .ok (.iconst 0, 1) := by decide +kernel
theorem dX10_count_2 : decode cX10_count 2 = .ok (.putfield 71, 3) := by decide +kernel
theorem dX10_count_5 : decode cX10_count 5 = .ok (.iload_n 1, 1) := by decide +kernel
theorem dX10_count_6 : decode cX10_count 6 = .ok (.i2l, 1) := by decide +kernel
theorem dX10_count_7 : decode cX10_count 7 = .ok (.lconst 0, 1) := by decide +kernel
theorem dX10_count_8 : decode cX10_count 8 = .ok (.ldc2_w 441, 3) := by decide +kernel
theorem dX10_count_11 : decode cX10_count 11 = .ok (.invokestatic 76, 3) := by decide +kernel
theorem dX10_count_14 : decode cX10_count 14 = .ok (.ifCond .eq 10, 3) := by decide +kernel
theorem dX10_count_17 : decode cX10_count 17 = .ok (.aload_n 0, 1) := by decide +kernel
theorem dX10_count_18 : decode cX10_count 18 = .ok (.getfield 34, 3) := by decide +kernel
theorem dX10_count_21 : decode cX10_count 21 = .ok (.iload_n 1, 1) := by decide +kernel
theorem dX10_count_22 : decode cX10_count 22 = .ok (.iaload, 1) := by decide +kernel
theorem dX10_count_23 : decode cX10_count 23 = .ok (.ireturn, 1) := by decide +kernel
theorem dX10_count_24 : decode cX10_count 24 = .ok (.iconst 0, 1) := by decide +kernel
theorem dX10_count_25 : decode cX10_count 25 = .ok (.istore_n 2, 1) := by decide +kernel
theorem dX10_count_26 : decode cX10_count 26 = .ok (.iload_n 1, 1) := by decide +kernel
theorem dX10_count_27 : decode cX10_count 27 = .ok (.tableswitch 70 6 8 #[25, 32, 37], 25) := by decide +kernel
theorem dX10_count_52 : decode cX10_count 52 = .ok (.aload_n 0, 1) := by decide +kernel
theorem dX10_count_53 : decode cX10_count 53 = .ok (.getfield 31, 3) := by decide +kernel
theorem dX10_count_56 : decode cX10_count 56 = .ok (.iconst 0, 1) := by decide +kernel
theorem dX10_count_57 : decode cX10_count 57 = .ok (.iaload, 1) := by decide +kernel
theorem dX10_count_58 : decode cX10_count 58 = .ok (.ireturn, 1) := by decide +kernel
theorem dX10_count_59 : decode cX10_count 59 = .ok (.aload_n 0, 1) := by decide +kernel
theorem dX10_count_60 : decode cX10_count 60 = .ok (.getfield 88, 3) := by decide +kernel
theorem dX10_count_63 : decode cX10_count 63 = .ok (.ireturn, 1) := by decide +kernel
theorem dX10_count_64 : decode cX10_count 64 = .ok (.iconst 0, 1) := by decide +kernel
theorem dX10_count_65 : decode cX10_count 65 = .ok (.istore_n 3, 1) := by decide +kernel
theorem dX10_count_66 : decode cX10_count 66 = .ok (.iload_n 3, 1) := by decide +kernel
theorem dX10_count_67 : decode cX10_count 67 = .ok (.iconst 4, 1) := by decide +kernel
theorem dX10_count_68 : decode cX10_count 68 = .ok (.if_icmp .ge 27, 3) := by decide +kernel
theorem dX10_count_71 : decode cX10_count 71 = .ok (.iload_n 2, 1) := by decide +kernel
theorem dX10_count_72 : decode cX10_count 72 = .ok (.aload_n 0, 1) := by decide +kernel
theorem dX10_count_73 : decode cX10_count 73 = .ok (.getfield 7, 3) := by decide +kernel
theorem dX10_count_76 : decode cX10_count 76 = .ok (.iload_n 3, 1) := by decide +kernel
theorem dX10_count_77 : decode cX10_count 77 = .ok (.iaload, 1) := by decide +kernel
theorem dX10_count_78 : decode cX10_count 78 = .ok (.iconst (-1), 1) := by decide +kernel
theorem dX10_count_79 : decode cX10_count 79 = .ok (.if_icmp .ne 7, 3) := by decide +kernel
theorem dX10_count_82 : decode cX10_count 82 = .ok (.iconst 0, 1) := by decide +kernel
theorem dX10_count_83 : decode cX10_count 83 = .ok (.goto 4, 3) := by decide +kernel
theorem dX10_count_86 : decode cX10_count 86 = .ok (.iconst 1, 1) := by decide +kernel
theorem dX10_count_87 : decode cX10_count 87 = .ok (.iadd, 1) := by decide +kernel
theorem dX10_count_88 : decode cX10_count 88 = .ok (.istore_n 2, 1) := by decide +kernel
theorem dX10_count_89 : decode cX10_count 89 = .ok (.iinc 3 1, 3) := by decide +kernel
theorem dX10_count_92 : decode cX10_count 92 = .ok (.goto (-26), 3) := by decide +kernel
theorem dX10_count_95 : decode cX10_count 95 = .ok (.iload_n 2, 1) := by decide +kernel
theorem dX10_count_96 : decode cX10_count 96 = .ok (.ireturn, 1) := by decide +kernel
theorem dX10_count_97 : decode cX10_count 97 = .ok (.iconst (-1), 1) := by decide +kernel
theorem dX10_count_98 : decode cX10_count 98 = .ok (.ireturn, 1) := by decide +kernel
theorem dX10_counts_0 : decode cX10_counts 0 = .ok (.aload_n 0, 1) := by decide +kernel
theorem dX10_counts_1 : decode cX10_counts 1 = .ok (.iconst 0, 1) := by decide +kernel
theorem dX10_counts_2 : decode cX10_counts 2 = .ok (.putfield 71, 3) := by decide +kernel
theorem dX10_counts_5 : decode cX10_counts 5 = .ok (.aload_n 0, 1) := by decide +kernel
theorem dX10_counts_6 : decode cX10_counts 6 = .ok (.iload_n 1, 1) := by decide +kernel
theorem dX10_counts_7 : decode cX10_counts 7 = .ok (.i2l, 1) := by decide +kernel
theorem dX10_counts_8 : decode cX10_counts 8 = .ok (.invokevirtual 272, 3) := by decide +kernel
theorem dX10_counts_11 : decode cX10_counts 11 = .ok (.ifCond .ne 6, 3) := by decide +kernel
theorem dX10_counts_14 : decode cX10_counts 14 = .ok (.bipush (-2), 2) := by decide +kernel
theorem dX10_counts_16 : decode cX10_counts 16 = .ok (.ireturn, 1) := by decide +kernel
theorem dX10_counts_17 : decode cX10_counts 17 = .ok (.aload_n 0, 1) := by decide +kernel
theorem dX10_counts_18 : decode cX10_counts 18 = .ok (.invokevirtual 275, 3) := by decide +kernel
theorem dX10_counts_21 : decode cX10_counts 21 = .ok (.aload_n 0, 1) := by decide +kernel
theorem dX10_counts_22 : decode cX10_counts 22 = .ok (.iload_n 1, 1) := by decide +kernel
theorem dX10_counts_23 : decode cX10_counts 23 = .ok (.invokevirtual 253, 3) := by decide +kernel
theorem dX10_counts_26 : decode cX10_counts 26 = .ok (.ireturn, 1) := by decide +kernel
theorem dX10_countsOf_0 : decode cX10_countsOf 0 = .ok (.iconst 0, 1) := by decide +kernel
theorem dX10_countsOf_1 : decode cX10_countsOf 1 = .ok (.istore_n 2, 1) := by decide +kernel
theorem dX10_countsOf_2 : decode cX10_countsOf 2 = .ok (.iconst 0, 1) := by decide +kernel
theorem dX10_countsOf_3 : decode cX10_countsOf 3 = .ok (.istore_n 3, 1) := by decide +kernel
theorem dX10_countsOf_4 : decode cX10_countsOf 4 = .ok (.iload_n 3, 1) := by decide +kernel
theorem dX10_countsOf_5 : decode cX10_countsOf 5 = .ok (.aload_n 0, 1) := by decide +kernel
theorem dX10_countsOf_6 : decode cX10_countsOf 6 = .ok (.invokevirtual 229, 3) := by decide +kernel
theorem dX10_countsOf_9 : decode cX10_countsOf 9 = .ok (.if_icmp .ge 33, 3) := by decide +kernel
theorem dX10_countsOf_12 : decode cX10_countsOf 12 = .ok (.iload_n 2, 1) := by decide +kernel
theorem dX10_countsOf_13 : decode cX10_countsOf 13 = .ok (.aload_n 0, 1) := by decide +kernel
theorem dX10_countsOf_14 : decode cX10_countsOf 14 = .ok (.getfield 53, 3) := by decide +kernel
theorem dX10_countsOf_17 : decode cX10_countsOf 17 = .ok (.bipush 6, 2) := by decide +kernel
theorem dX10_countsOf_19 : decode cX10_countsOf 19 = .ok (.iload_n 1, 1) := by decide +kernel
theorem dX10_countsOf_20 : decode cX10_countsOf 20 = .ok (.imul, 1) := by decide +kernel
theorem dX10_countsOf_21 : decode cX10_countsOf 21 = .ok (.iload_n 3, 1) := by decide +kernel
theorem dX10_countsOf_22 : decode cX10_countsOf 22 = .ok (.iadd, 1) := by decide +kernel
theorem dX10_countsOf_23 : decode cX10_countsOf 23 = .ok (.baload, 1) := by decide +kernel
theorem dX10_countsOf_24 : decode cX10_countsOf 24 = .ok (.ifCond .eq 9, 3) := by decide +kernel
theorem dX10_countsOf_27 : decode cX10_countsOf 27 = .ok (.iconst 1, 1) := by decide +kernel
theorem dX10_countsOf_28 : decode cX10_countsOf 28 = .ok (.iload_n 3, 1) := by decide +kernel
theorem dX10_countsOf_29 : decode cX10_countsOf 29 = .ok (.ishl, 1) := by decide +kernel
theorem dX10_countsOf_30 : decode cX10_countsOf 30 = .ok (.goto 4, 3) := by decide +kernel
theorem dX10_countsOf_33 : decode cX10_countsOf 33 = .ok (.iconst 0, 1) := by decide +kernel
theorem dX10_countsOf_34 : decode cX10_countsOf 34 = .ok (.ior, 1) := by decide +kernel
theorem dX10_countsOf_35 : decode cX10_countsOf 35 = .ok (.istore_n 2, 1) := by decide +kernel
theorem dX10_countsOf_36 : decode cX10_countsOf 36 = .ok (.iinc 3 1, 3) := by decide +kernel
theorem dX10_countsOf_39 : decode cX10_countsOf 39 = .ok (.goto (-35), 3) := by decide +kernel
theorem dX10_countsOf_42 : decode cX10_countsOf 42 = .ok (.iload_n 2, 1) := by decide +kernel
theorem dX10_countsOf_43 : decode cX10_countsOf 43 = .ok (.ireturn, 1) := by decide +kernel
theorem dX10_cut_0 : decode cX10_cut 0 = .ok (.iload_n 2, 1) := by decide +kernel
theorem dX10_cut_1 : decode cX10_cut 1 = .ok (.ifCond .ne 10, 3) := by decide +kernel
theorem dX10_cut_4 : decode cX10_cut 4 = .ok (.lload_n 0, 1) := by decide +kernel
theorem dX10_cut_5 : decode cX10_cut 5 = .ok (.l2i, 1) := by decide +kernel
theorem dX10_cut_6 : decode cX10_cut 6 = .ok (.i2b, 1) := by decide +kernel
theorem dX10_cut_7 : decode cX10_cut 7 = .ok (.i2l, 1) := by decide +kernel
theorem dX10_cut_8 : decode cX10_cut 8 = .ok (.goto 27, 3) := by decide +kernel
theorem dX10_cut_11 : decode cX10_cut 11 = .ok (.iload_n 2, 1) := by decide +kernel
theorem dX10_cut_12 : decode cX10_cut 12 = .ok (.iconst 1, 1) := by decide +kernel
theorem dX10_cut_13 : decode cX10_cut 13 = .ok (.if_icmp .ne 10, 3) := by decide +kernel
theorem dX10_cut_16 : decode cX10_cut 16 = .ok (.lload_n 0, 1) := by decide +kernel
theorem dX10_cut_17 : decode cX10_cut 17 = .ok (.l2i, 1) := by decide +kernel
theorem dX10_cut_18 : decode cX10_cut 18 = .ok (.i2s, 1) := by decide +kernel
theorem dX10_cut_19 : decode cX10_cut 19 = .ok (.i2l, 1) := by decide +kernel
theorem dX10_cut_20 : decode cX10_cut 20 = .ok (.goto 15, 3) := by decide +kernel
theorem dX10_cut_23 : decode cX10_cut 23 = .ok (.iload_n 2, 1) := by decide +kernel
theorem dX10_cut_24 : decode cX10_cut 24 = .ok (.iconst 2, 1) := by decide +kernel
theorem dX10_cut_25 : decode cX10_cut 25 = .ok (.if_icmp .ne 9, 3) := by decide +kernel
theorem dX10_cut_28 : decode cX10_cut 28 = .ok (.lload_n 0, 1) := by decide +kernel
theorem dX10_cut_29 : decode cX10_cut 29 = .ok (.l2i, 1) := by decide +kernel
theorem dX10_cut_30 : decode cX10_cut 30 = .ok (.i2l, 1) := by decide +kernel
theorem dX10_cut_31 : decode cX10_cut 31 = .ok (.goto 4, 3) := by decide +kernel
theorem dX10_cut_34 : decode cX10_cut 34 = .ok (.lload_n 0, 1) := by decide +kernel
theorem dX10_cut_35 : decode cX10_cut 35 = .ok (.lreturn, 1) := by decide +kernel
theorem dX10_days_0 : decode cX10_days 0 = .ok (.aload_n 0, 1) := by decide +kernel
theorem dX10_days_1 : decode cX10_days 1 = .ok (.getfield 34, 3) := by decide +kernel
theorem dX10_days_4 : decode cX10_days 4 = .ok (.iconst 0, 1) := by decide +kernel
theorem dX10_days_5 : decode cX10_days 5 = .ok (.iaload, 1) := by decide +kernel
theorem dX10_days_6 : decode cX10_days 6 = .ok (.ireturn, 1) := by decide +kernel
theorem dX10_deals_0 : decode cX10_deals 0 = .ok (.aload_n 0, 1) := by decide +kernel
theorem dX10_deals_1 : decode cX10_deals 1 = .ok (.iconst 0, 1) := by decide +kernel
theorem dX10_deals_2 : decode cX10_deals 2 = .ok (.putfield 71, 3) := by decide +kernel
theorem dX10_deals_5 : decode cX10_deals 5 = .ok (.aload_n 0, 1) := by decide +kernel
theorem dX10_deals_6 : decode cX10_deals 6 = .ok (.invokevirtual 232, 3) := by decide +kernel
theorem dX10_deals_9 : decode cX10_deals 9 = .ok (.ifCond .ne 6, 3) := by decide +kernel
theorem dX10_deals_12 : decode cX10_deals 12 = .ok (.bipush (-2), 2) := by decide +kernel
theorem dX10_deals_14 : decode cX10_deals 14 = .ok (.ireturn, 1) := by decide +kernel
theorem dX10_deals_15 : decode cX10_deals 15 = .ok (.iconst 0, 1) := by decide +kernel
theorem dX10_deals_16 : decode cX10_deals 16 = .ok (.istore_n 1, 1) := by decide +kernel
theorem dX10_deals_17 : decode cX10_deals 17 = .ok (.iconst 0, 1) := by decide +kernel
theorem dX10_deals_18 : decode cX10_deals 18 = .ok (.istore_n 2, 1) := by decide +kernel
theorem dX10_deals_19 : decode cX10_deals 19 = .ok (.iload_n 2, 1) := by decide +kernel
theorem dX10_deals_20 : decode cX10_deals 20 = .ok (.aload_n 0, 1) := by decide +kernel
theorem dX10_deals_21 : decode cX10_deals 21 = .ok (.invokevirtual 229, 3) := by decide +kernel
theorem dX10_deals_24 : decode cX10_deals 24 = .ok (.if_icmp .ge 49, 3) := by decide +kernel
theorem dX10_deals_27 : decode cX10_deals 27 = .ok (.aload_n 0, 1) := by decide +kernel
theorem dX10_deals_28 : decode cX10_deals 28 = .ok (.invokevirtual 275, 3) := by decide +kernel
theorem dX10_deals_31 : decode cX10_deals 31 = .ok (.aload_n 0, 1) := by decide +kernel
theorem dX10_deals_32 : decode cX10_deals 32 = .ok (.invokevirtual 285, 3) := by decide +kernel
theorem dX10_deals_35 : decode cX10_deals 35 = .ok (.istore_n 3, 1) := by decide +kernel
theorem dX10_deals_36 : decode cX10_deals 36 = .ok (.aload_n 0, 1) := by decide +kernel
theorem dX10_deals_37 : decode cX10_deals 37 = .ok (.iload_n 2, 1) := by decide +kernel
theorem dX10_deals_38 : decode cX10_deals 38 = .ok (.invokevirtual 294, 3) := by decide +kernel
theorem dX10_deals_41 : decode cX10_deals 41 = .ok (.istore 4, 2) := by decide +kernel
theorem dX10_deals_43 : decode cX10_deals 43 = .ok (.iload_n 1, 1) := by decide +kernel
theorem dX10_deals_44 : decode cX10_deals 44 = .ok (.iload_n 3, 1) := by decide +kernel
theorem dX10_deals_45 : decode cX10_deals 45 = .ok (.aload_n 0, 1) := by decide +kernel
theorem dX10_deals_46 : decode cX10_deals 46 = .ok (.iconst 1, 1) := by decide +kernel
theorem dX10_deals_47 : decode cX10_deals 47 = .ok (.iload_n 2, 1) := by decide +kernel
theorem dX10_deals_48 : decode cX10_deals 48 = .ok (.ishl, 1) := by decide +kernel
theorem dX10_deals_49 : decode cX10_deals 49 = .ok (.invokevirtual 297, 3) := by decide +kernel
theorem dX10_deals_52 : decode cX10_deals 52 = .ok (.isub, 1) := by decide +kernel
theorem dX10_deals_53 : decode cX10_deals 53 = .ok (.iload 4, 2) := by decide +kernel
theorem dX10_deals_55 : decode cX10_deals 55 = .ok (.if_icmp .le 9, 3) := by decide +kernel
theorem dX10_deals_58 : decode cX10_deals 58 = .ok (.iconst 1, 1) := by decide +kernel
theorem dX10_deals_59 : decode cX10_deals 59 = .ok (.iload_n 2, 1) := by decide +kernel
theorem dX10_deals_60 : decode cX10_deals 60 = .ok (.ishl, 1) := by decide +kernel
theorem dX10_deals_61 : decode cX10_deals 61 = .ok (.goto 4, 3) := by decide +kernel
theorem dX10_deals_64 : decode cX10_deals 64 = .ok (.iconst 0, 1) := by decide +kernel
theorem dX10_deals_65 : decode cX10_deals 65 = .ok (.ior, 1) := by decide +kernel
theorem dX10_deals_66 : decode cX10_deals 66 = .ok (.istore_n 1, 1) := by decide +kernel
theorem dX10_deals_67 : decode cX10_deals 67 = .ok (.iinc 2 1, 3) := by decide +kernel
theorem dX10_deals_70 : decode cX10_deals 70 = .ok (.goto (-51), 3) := by decide +kernel
theorem dX10_deals_73 : decode cX10_deals 73 = .ok (.iload_n 1, 1) := by decide +kernel
theorem dX10_deals_74 : decode cX10_deals 74 = .ok (.ireturn, 1) := by decide +kernel
theorem dX10_drawn_0 : decode cX10_drawn 0 = .ok (.aload_n 0, 1) := by decide +kernel
theorem dX10_drawn_1 : decode cX10_drawn 1 = .ok (.iconst 0, 1) := by decide +kernel
theorem dX10_drawn_2 : decode cX10_drawn 2 = .ok (.putfield 71, 3) := by decide +kernel
theorem dX10_drawn_5 : decode cX10_drawn 5 = .ok (.aload_n 0, 1) := by decide +kernel
theorem dX10_drawn_6 : decode cX10_drawn 6 = .ok (.invokevirtual 232, 3) := by decide +kernel
theorem dX10_drawn_9 : decode cX10_drawn 9 = .ok (.ifCond .eq 17, 3) := by decide +kernel
theorem dX10_drawn_12 : decode cX10_drawn 12 = .ok (.iload_n 1, 1) := by decide +kernel
theorem dX10_drawn_13 : decode cX10_drawn 13 = .ok (.invokestatic 427, 3) := by decide +kernel
theorem dX10_drawn_16 : decode cX10_drawn 16 = .ok (.ifCond .eq 10, 3) := by decide +kernel
theorem dX10_drawn_19 : decode cX10_drawn 19 = .ok (.iload_n 2, 1) := by decide +kernel
theorem dX10_drawn_20 : decode cX10_drawn 20 = .ok (.invokestatic 308, 3) := by decide +kernel
theorem dX10_drawn_23 : decode cX10_drawn 23 = .ok (.ifCond .ne 6, 3) := by decide +kernel
theorem dX10_drawn_26 : decode cX10_drawn 26 = .ok (.bipush (-2), 2) := by decide +kernel
theorem dX10_drawn_28 : decode cX10_drawn 28 = .ok (.ireturn, 1) := by decide +kernel
theorem dX10_drawn_29 : decode cX10_drawn 29 = .ok (.aload_n 0, 1) := by decide +kernel
theorem dX10_drawn_30 : decode cX10_drawn 30 = .ok (.iload_n 1, 1) := by decide +kernel
theorem dX10_drawn_31 : decode cX10_drawn 31 = .ok (.i2l, 1) := by decide +kernel
theorem dX10_drawn_32 : decode cX10_drawn 32 = .ok (.invokevirtual 430, 3) := by decide +kernel
theorem dX10_drawn_35 : decode cX10_drawn 35 = .ok (.istore_n 3, 1) := by decide +kernel
theorem dX10_drawn_36 : decode cX10_drawn 36 = .ok (.iload_n 2, 1) := by decide +kernel
theorem dX10_drawn_37 : decode cX10_drawn 37 = .ok (.ifCond .ne 10, 3) := by decide +kernel
theorem dX10_drawn_40 : decode cX10_drawn 40 = .ok (.aload_n 0, 1) := by decide +kernel
theorem dX10_drawn_41 : decode cX10_drawn 41 = .ok (.invokevirtual 285, 3) := by decide +kernel
theorem dX10_drawn_44 : decode cX10_drawn 44 = .ok (.goto 4, 3) := by decide +kernel
theorem dX10_drawn_47 : decode cX10_drawn 47 = .ok (.iload_n 3, 1) := by decide +kernel
theorem dX10_drawn_48 : decode cX10_drawn 48 = .ok (.ireturn, 1) := by decide +kernel
theorem dX10_draws_0 : decode cX10_draws 0 = .ok (.aload_n 0, 1) := by decide +kernel
theorem dX10_draws_1 : decode cX10_draws 1 = .ok (.invokevirtual 275, 3) := by decide +kernel
theorem dX10_draws_4 : decode cX10_draws 4 = .ok (.lload_n 1, 1) := by decide +kernel
theorem dX10_draws_5 : decode cX10_draws 5 = .ok (.lstore_n 3, 1) := by decide +kernel
theorem dX10_draws_6 : decode cX10_draws 6 = .ok (.iconst 0, 1) := by decide +kernel
theorem dX10_draws_7 : decode cX10_draws 7 = .ok (.istore 5, 2) := by decide +kernel
theorem dX10_draws_9 : decode cX10_draws 9 = .ok (.iconst 0, 1) := by decide +kernel
theorem dX10_draws_10 : decode cX10_draws 10 = .ok (.istore 6, 2) := by decide +kernel
theorem dX10_draws_12 : decode cX10_draws 12 = .ok (.iload 6, 2) := by decide +kernel
theorem dX10_draws_14 : decode cX10_draws 14 = .ok (.aload_n 0, 1) := by decide +kernel
theorem dX10_draws_15 : decode cX10_draws 15 = .ok (.invokevirtual 225, 3) := by decide +kernel
theorem dX10_draws_18 : decode cX10_draws 18 = .ok (.if_icmp .ge 129, 3) := by decide +kernel
theorem dX10_draws_21 : decode cX10_draws 21 = .ok (.iconst 0, 1) := by decide +kernel
theorem dX10_draws_22 : decode cX10_draws 22 = .ok (.istore 7, 2) := by decide +kernel
theorem dX10_draws_24 : decode cX10_draws 24 = .ok (.iload 7, 2) := by decide +kernel
theorem dX10_draws_26 : decode cX10_draws 26 = .ok (.aload_n 0, 1) := by decide +kernel
theorem dX10_draws_27 : decode cX10_draws 27 = .ok (.invokevirtual 229, 3) := by decide +kernel
theorem dX10_draws_30 : decode cX10_draws 30 = .ok (.if_icmp .ge 111, 3) := by decide +kernel
theorem dX10_draws_33 : decode cX10_draws 33 = .ok (.aload_n 0, 1) := by decide +kernel
theorem dX10_draws_34 : decode cX10_draws 34 = .ok (.getfield 53, 3) := by decide +kernel
theorem dX10_draws_37 : decode cX10_draws 37 = .ok (.bipush 6, 2) := by decide +kernel
theorem dX10_draws_39 : decode cX10_draws 39 = .ok (.iload 6, 2) := by decide +kernel
theorem dX10_draws_41 : decode cX10_draws 41 = .ok (.imul, 1) := by decide +kernel
theorem dX10_draws_42 : decode cX10_draws 42 = .ok (.iload 7, 2) := by decide +kernel
theorem dX10_draws_44 : decode cX10_draws 44 = .ok (.iadd, 1) := by decide +kernel
theorem dX10_draws_45 : decode cX10_draws 45 = .ok (.baload, 1) := by decide +kernel
theorem dX10_draws_46 : decode cX10_draws 46 = .ok (.ifCond .eq 89, 3) := by decide +kernel
theorem dX10_draws_49 : decode cX10_draws 49 = .ok (.aload_n 0, 1) := by decide +kernel
theorem dX10_draws_50 : decode cX10_draws 50 = .ok (.getfield 50, 3) := by decide +kernel
theorem dX10_draws_53 : decode cX10_draws 53 = .ok (.bipush 6, 2) := by decide +kernel
theorem dX10_draws_55 : decode cX10_draws 55 = .ok (.iload 6, 2) := by decide +kernel
theorem dX10_draws_57 : decode cX10_draws 57 = .ok (.imul, 1) := by decide +kernel
theorem dX10_draws_58 : decode cX10_draws 58 = .ok (.iload 7, 2) := by decide +kernel
theorem dX10_draws_60 : decode cX10_draws 60 = .ok (.iadd, 1) := by decide +kernel
theorem dX10_draws_61 : decode cX10_draws 61 = .ok (.iaload, 1) := by decide +kernel
theorem dX10_draws_62 : decode cX10_draws 62 = .ok (.sipush 10000, 3) := by decide +kernel
theorem dX10_draws_65 : decode cX10_draws 65 = .ok (.if_icmp .ne 6, 3) := by decide +kernel
theorem dX10_draws_68 : decode cX10_draws 68 = .ok (.goto 67, 3) := by decide +kernel
theorem dX10_draws_71 : decode cX10_draws 71 = .ok (.ldc2_w 415, 3) := by decide +kernel
theorem dX10_draws_74 : decode cX10_draws 74 = .ok (.lload_n 3, 1) := by decide +kernel
theorem dX10_draws_75 : decode cX10_draws 75 = .ok (.lmul, 1) := by decide +kernel
theorem dX10_draws_76 : decode cX10_draws 76 = .ok (.ldc2_w 417, 3) := by decide +kernel
theorem dX10_draws_79 : decode cX10_draws 79 = .ok (.ladd, 1) := by decide +kernel
theorem dX10_draws_80 : decode cX10_draws 80 = .ok (.ldc2_w 419, 3) := by decide +kernel
theorem dX10_draws_83 : decode cX10_draws 83 = .ok (.lrem, 1) := by decide +kernel
theorem dX10_draws_84 : decode cX10_draws 84 = .ok (.lstore_n 3, 1) := by decide +kernel
theorem dX10_draws_85 : decode cX10_draws 85 = .ok (.lload_n 3, 1) := by decide +kernel
theorem dX10_draws_86 : decode cX10_draws 86 = .ok (.ldc2_w 421, 3) := by decide +kernel
theorem dX10_draws_89 : decode cX10_draws 89 = .ok (.ldiv, 1) := by decide +kernel
theorem dX10_draws_90 : decode cX10_draws 90 = .ok (.ldc2_w 423, 3) := by decide +kernel
theorem dX10_draws_93 : decode cX10_draws 93 = .ok (.lrem, 1) := by decide +kernel
theorem dX10_draws_94 : decode cX10_draws 94 = .ok (.aload_n 0, 1) := by decide +kernel
theorem dX10_draws_95 : decode cX10_draws 95 = .ok (.getfield 34, 3) := by decide +kernel
theorem dX10_draws_98 : decode cX10_draws 98 = .ok (.iconst 2, 1) := by decide +kernel
theorem dX10_draws_99 : decode cX10_draws 99 = .ok (.iaload, 1) := by decide +kernel
theorem dX10_draws_100 : decode cX10_draws 100 = .ok (.i2l, 1) := by decide +kernel
theorem dX10_draws_101 : decode cX10_draws 101 = .ok (.lcmp, 1) := by decide +kernel
theorem dX10_draws_102 : decode cX10_draws 102 = .ok (.ifCond .lt 6, 3) := by decide +kernel
theorem dX10_draws_105 : decode cX10_draws 105 = .ok (.goto 30, 3) := by decide +kernel
theorem dX10_draws_108 : decode cX10_draws 108 = .ok (.aload_n 0, 1) := by decide +kernel
theorem dX10_draws_109 : decode cX10_draws 109 = .ok (.getfield 50, 3) := by decide +kernel
theorem dX10_draws_112 : decode cX10_draws 112 = .ok (.bipush 6, 2) := by decide +kernel
theorem dX10_draws_114 : decode cX10_draws 114 = .ok (.iload 6, 2) := by decide +kernel
theorem dX10_draws_116 : decode cX10_draws 116 = .ok (.imul, 1) := by decide +kernel
theorem dX10_draws_117 : decode cX10_draws 117 = .ok (.iload 7, 2) := by decide +kernel
theorem dX10_draws_119 : decode cX10_draws 119 = .ok (.iadd, 1) := by decide +kernel
theorem dX10_draws_120 : decode cX10_draws 120 = .ok (.dup2, 1) := by decide +kernel
theorem dX10_draws_121 : decode cX10_draws 121 = .ok (.iaload, 1) := by decide +kernel
theorem dX10_draws_122 : decode cX10_draws 122 = .ok (.bipush 30, 2) := by decide +kernel
theorem dX10_draws_124 : decode cX10_draws 124 = .ok (.iadd, 1) := by decide +kernel
theorem dX10_draws_125 : decode cX10_draws 125 = .ok (.iastore, 1) := by decide +kernel
theorem dX10_draws_126 : decode cX10_draws 126 = .ok (.iload 5, 2) := by decide +kernel
theorem dX10_draws_128 : decode cX10_draws 128 = .ok (.iconst 1, 1) := by decide +kernel
theorem dX10_draws_129 : decode cX10_draws 129 = .ok (.iload 6, 2) := by decide +kernel
theorem dX10_draws_131 : decode cX10_draws 131 = .ok (.ishl, 1) := by decide +kernel
theorem dX10_draws_132 : decode cX10_draws 132 = .ok (.ior, 1) := by decide +kernel
theorem dX10_draws_133 : decode cX10_draws 133 = .ok (.istore 5, 2) := by decide +kernel
theorem dX10_draws_135 : decode cX10_draws 135 = .ok (.iinc 7 1, 3) := by decide +kernel
theorem dX10_draws_138 : decode cX10_draws 138 = .ok (.goto (-114), 3) := by decide +kernel
theorem dX10_draws_141 : decode cX10_draws 141 = .ok (.iinc 6 1, 3) := by decide +kernel
theorem dX10_draws_144 : decode cX10_draws 144 = .ok (.goto (-132), 3) := by decide +kernel
theorem dX10_draws_147 : decode cX10_draws 147 = .ok (.iload 5, 2) := by decide +kernel
theorem dX10_draws_149 : decode cX10_draws 149 = .ok (.ireturn, 1) := by decide +kernel
theorem dX10_end_0 : decode cX10_end 0 = .ok (.aload_n 0, 1) := by decide +kernel
theorem dX10_end_1 : decode cX10_end 1 = .ok (.iconst 0, 1) := by decide +kernel
theorem dX10_end_2 : decode cX10_end 2 = .ok (.putfield 71, 3) := by decide +kernel
theorem dX10_end_5 : decode cX10_end 5 = .ok (.iload_n 1, 1) := by decide +kernel
theorem dX10_end_6 : decode cX10_end 6 = .ok (.i2l, 1) := by decide +kernel
theorem dX10_end_7 : decode cX10_end 7 = .ok (.lconst 0, 1) := by decide +kernel
theorem dX10_end_8 : decode cX10_end 8 = .ok (.aload_n 0, 1) := by decide +kernel
theorem dX10_end_9 : decode cX10_end 9 = .ok (.getfield 88, 3) := by decide +kernel
theorem dX10_end_12 : decode cX10_end 12 = .ok (.i2l, 1) := by decide +kernel
theorem dX10_end_13 : decode cX10_end 13 = .ok (.invokestatic 76, 3) := by decide +kernel
theorem dX10_end_16 : decode cX10_end 16 = .ok (.ifCond .ne 5, 3) := by decide +kernel
theorem dX10_end_19 : decode cX10_end 19 = .ok (.iconst (-1), 1) := by decide +kernel
theorem dX10_end_20 : decode cX10_end 20 = .ok (.ireturn, 1) := by decide +kernel
theorem dX10_end_21 : decode cX10_end 21 = .ok (.aload_n 0, 1) := by decide +kernel
theorem dX10_end_22 : decode cX10_end 22 = .ok (.iload_n 1, 1) := by decide +kernel
theorem dX10_end_23 : decode cX10_end 23 = .ok (.putfield 88, 3) := by decide +kernel
theorem dX10_end_26 : decode cX10_end 26 = .ok (.iload_n 1, 1) := by decide +kernel
theorem dX10_end_27 : decode cX10_end 27 = .ok (.ireturn, 1) := by decide +kernel
theorem dX10_ends_0 : decode cX10_ends 0 = .ok (.aload_n 0, 1) := by decide +kernel
theorem dX10_ends_1 : decode cX10_ends 1 = .ok (.getfield 112, 3) := by decide +kernel
theorem dX10_ends_4 : decode cX10_ends 4 = .ok (.iconst 3, 1) := by decide +kernel
theorem dX10_ends_5 : decode cX10_ends 5 = .ok (.if_icmp .eq 8, 3) := by decide +kernel
theorem dX10_ends_8 : decode cX10_ends 8 = .ok (.aload_n 0, 1) := by decide +kernel
theorem dX10_ends_9 : decode cX10_ends 9 = .ok (.iconst 1, 1) := by decide +kernel
theorem dX10_ends_10 : decode cX10_ends 10 = .ok (.invokevirtual 139, 3) := by decide +kernel
theorem dX10_ends_13 : decode cX10_ends 13 = .ok (.aload_n 0, 1) := by decide +kernel
theorem dX10_ends_14 : decode cX10_ends 14 = .ok (.getfield 123, 3) := by decide +kernel
theorem dX10_ends_17 : decode cX10_ends 17 = .ok (.ifCond .ne 7, 3) := by decide +kernel
theorem dX10_ends_20 : decode cX10_ends 20 = .ok (.aload_n 0, 1) := by decide +kernel
theorem dX10_ends_21 : decode cX10_ends 21 = .ok (.invokevirtual 133, 3) := by decide +kernel
theorem dX10_ends_24 : decode cX10_ends 24 = .ok (.return_, 1) := by decide +kernel
theorem dX10_enter_0 : decode cX10_enter 0 = .ok (.aload_n 0, 1) := by decide +kernel
theorem dX10_enter_1 : decode cX10_enter 1 = .ok (.iconst 0, 1) := by decide +kernel
theorem dX10_enter_2 : decode cX10_enter 2 = .ok (.putfield 71, 3) := by decide +kernel
theorem dX10_enter_5 : decode cX10_enter 5 = .ok (.aload_n 0, 1) := by decide +kernel
theorem dX10_enter_6 : decode cX10_enter 6 = .ok (.iload_n 1, 1) := by decide +kernel
theorem dX10_enter_7 : decode cX10_enter 7 = .ok (.i2l, 1) := by decide +kernel
theorem dX10_enter_8 : decode cX10_enter 8 = .ok (.invokevirtual 267, 3) := by decide +kernel
theorem dX10_enter_11 : decode cX10_enter 11 = .ok (.ifCond .eq 38, 3) := by decide +kernel
theorem dX10_enter_14 : decode cX10_enter 14 = .ok (.aload_n 0, 1) := by decide +kernel
theorem dX10_enter_15 : decode cX10_enter 15 = .ok (.iload_n 2, 1) := by decide +kernel
theorem dX10_enter_16 : decode cX10_enter 16 = .ok (.i2l, 1) := by decide +kernel
theorem dX10_enter_17 : decode cX10_enter 17 = .ok (.invokevirtual 272, 3) := by decide +kernel
theorem dX10_enter_20 : decode cX10_enter 20 = .ok (.ifCond .eq 29, 3) := by decide +kernel
theorem dX10_enter_23 : decode cX10_enter 23 = .ok (.iload_n 3, 1) := by decide +kernel
theorem dX10_enter_24 : decode cX10_enter 24 = .ok (.invokestatic 308, 3) := by decide +kernel
theorem dX10_enter_27 : decode cX10_enter 27 = .ok (.ifCond .eq 22, 3) := by decide +kernel
theorem dX10_enter_30 : decode cX10_enter 30 = .ok (.aload_n 0, 1) := by decide +kernel
theorem dX10_enter_31 : decode cX10_enter 31 = .ok (.iload_n 3, 1) := by decide +kernel
theorem dX10_enter_32 : decode cX10_enter 32 = .ok (.iconst 1, 1) := by decide +kernel
theorem dX10_enter_33 : decode cX10_enter 33 = .ok (.if_icmp .ne 7, 3) := by decide +kernel
theorem dX10_enter_36 : decode cX10_enter 36 = .ok (.iconst 3, 1) := by decide +kernel
theorem dX10_enter_37 : decode cX10_enter 37 = .ok (.goto 4, 3) := by decide +kernel
theorem dX10_enter_40 : decode cX10_enter 40 = .ok (.iconst 4, 1) := by decide +kernel
theorem dX10_enter_41 : decode cX10_enter 41 = .ok (.iload_n 1, 1) := by decide +kernel
theorem dX10_enter_42 : decode cX10_enter 42 = .ok (.iload_n 2, 1) := by decide +kernel
theorem dX10_enter_43 : decode cX10_enter 43 = .ok (.invokevirtual 436, 3) := by decide +kernel
theorem dX10_enter_46 : decode cX10_enter 46 = .ok (.goto 5, 3) := by decide +kernel
theorem dX10_enter_49 : decode cX10_enter 49 = .ok (.bipush (-2), 2) := by decide +kernel
theorem dX10_enter_51 : decode cX10_enter 51 = .ok (.ireturn, 1) := by decide +kernel
theorem dX10_fails_0 : decode cX10_fails 0 = .ok (.aload_n 0, 1) := by decide +kernel
theorem dX10_fails_1 : decode cX10_fails 1 = .ok (.getfield 123, 3) := by decide +kernel
theorem dX10_fails_4 : decode cX10_fails 4 = .ok (.ifCond .eq 4, 3) := by decide +kernel
theorem dX10_fails_7 : decode cX10_fails 7 = .ok (.return_, 1) := by decide +kernel
theorem dX10_fails_8 : decode cX10_fails 8 = .ok (.aload_n 0, 1) := by decide +kernel
theorem dX10_fails_9 : decode cX10_fails 9 = .ok (.iload_n 1, 1) := by decide +kernel
theorem dX10_fails_10 : decode cX10_fails 10 = .ok (.putfield 123, 3) := by decide +kernel
theorem dX10_fails_13 : decode cX10_fails 13 = .ok (.aload_n 0, 1) := by decide +kernel
theorem dX10_fails_14 : decode cX10_fails 14 = .ok (.aload_n 0, 1) := by decide +kernel
theorem dX10_fails_15 : decode cX10_fails 15 = .ok (.getfield 102, 3) := by decide +kernel
theorem dX10_fails_18 : decode cX10_fails 18 = .ok (.putfield 126, 3) := by decide +kernel
theorem dX10_fails_21 : decode cX10_fails 21 = .ok (.return_, 1) := by decide +kernel
theorem dX10_fault_0 : decode cX10_fault 0 = .ok (.aload_n 0, 1) := by decide +kernel
theorem dX10_fault_1 : decode cX10_fault 1 = .ok (.iconst 0, 1) := by decide +kernel
theorem dX10_fault_2 : decode cX10_fault 2 = .ok (.putfield 71, 3) := by decide +kernel
theorem dX10_fault_5 : decode cX10_fault 5 = .ok (.iload_n 1, 1) := by decide +kernel
theorem dX10_fault_6 : decode cX10_fault 6 = .ok (.ifCond .ne 10, 3) := by decide +kernel
theorem dX10_fault_9 : decode cX10_fault 9 = .ok (.aload_n 0, 1) := by decide +kernel
theorem dX10_fault_10 : decode cX10_fault 10 = .ok (.getfield 150, 3) := by decide +kernel
theorem dX10_fault_13 : decode cX10_fault 13 = .ok (.goto 16, 3) := by decide +kernel
theorem dX10_fault_16 : decode cX10_fault 16 = .ok (.iload_n 1, 1) := by decide +kernel
theorem dX10_fault_17 : decode cX10_fault 17 = .ok (.iconst 1, 1) := by decide +kernel
theorem dX10_fault_18 : decode cX10_fault 18 = .ok (.if_icmp .ne 10, 3) := by decide +kernel
theorem dX10_fault_21 : decode cX10_fault 21 = .ok (.aload_n 0, 1) := by decide +kernel
theorem dX10_fault_22 : decode cX10_fault 22 = .ok (.getfield 27, 3) := by decide +kernel
theorem dX10_fault_25 : decode cX10_fault 25 = .ok (.goto 4, 3) := by decide +kernel
theorem dX10_fault_28 : decode cX10_fault 28 = .ok (.iconst (-1), 1) := by decide +kernel
theorem dX10_fault_29 : decode cX10_fault 29 = .ok (.ireturn, 1) := by decide +kernel
theorem dX10_feed_0 : decode cX10_feed 0 = .ok (.aload_n 0, 1) := by decide +kernel
theorem dX10_feed_1 : decode cX10_feed 1 = .ok (.iconst 0, 1) := by decide +kernel
theorem dX10_feed_2 : decode cX10_feed 2 = .ok (.putfield 71, 3) := by decide +kernel
theorem dX10_feed_5 : decode cX10_feed 5 = .ok (.aload_n 0, 1) := by decide +kernel
theorem dX10_feed_6 : decode cX10_feed 6 = .ok (.getfield 88, 3) := by decide +kernel
theorem dX10_feed_9 : decode cX10_feed 9 = .ok (.bipush 20, 2) := by decide +kernel
theorem dX10_feed_11 : decode cX10_feed 11 = .ok (.iadd, 1) := by decide +kernel
theorem dX10_feed_12 : decode cX10_feed 12 = .ok (.sipush 800, 3) := by decide +kernel
theorem dX10_feed_15 : decode cX10_feed 15 = .ok (.if_icmp .le 5, 3) := by decide +kernel
theorem dX10_feed_18 : decode cX10_feed 18 = .ok (.iconst (-1), 1) := by decide +kernel
theorem dX10_feed_19 : decode cX10_feed 19 = .ok (.ireturn, 1) := by decide +kernel
theorem dX10_feed_20 : decode cX10_feed 20 = .ok (.aload_n 0, 1) := by decide +kernel
theorem dX10_feed_21 : decode cX10_feed 21 = .ok (.iload_n 1, 1) := by decide +kernel
theorem dX10_feed_22 : decode cX10_feed 22 = .ok (.invokevirtual 91, 3) := by decide +kernel
theorem dX10_feed_25 : decode cX10_feed 25 = .ok (.aload_n 0, 1) := by decide +kernel
theorem dX10_feed_26 : decode cX10_feed 26 = .ok (.iload_n 2, 1) := by decide +kernel
theorem dX10_feed_27 : decode cX10_feed 27 = .ok (.invokevirtual 91, 3) := by decide +kernel
theorem dX10_feed_30 : decode cX10_feed 30 = .ok (.aload_n 0, 1) := by decide +kernel
theorem dX10_feed_31 : decode cX10_feed 31 = .ok (.iload_n 3, 1) := by decide +kernel
theorem dX10_feed_32 : decode cX10_feed 32 = .ok (.invokevirtual 91, 3) := by decide +kernel
theorem dX10_feed_35 : decode cX10_feed 35 = .ok (.aload_n 0, 1) := by decide +kernel
theorem dX10_feed_36 : decode cX10_feed 36 = .ok (.iload 4, 2) := by decide +kernel
theorem dX10_feed_38 : decode cX10_feed 38 = .ok (.invokevirtual 91, 3) := by decide +kernel
theorem dX10_feed_41 : decode cX10_feed 41 = .ok (.aload_n 0, 1) := by decide +kernel
theorem dX10_feed_42 : decode cX10_feed 42 = .ok (.iload 5, 2) := by decide +kernel
theorem dX10_feed_44 : decode cX10_feed 44 = .ok (.invokevirtual 91, 3) := by decide +kernel
theorem dX10_feed_47 : decode cX10_feed 47 = .ok (.aload_n 0, 1) := by decide +kernel
theorem dX10_feed_48 : decode cX10_feed 48 = .ok (.getfield 88, 3) := by decide +kernel
theorem dX10_feed_51 : decode cX10_feed 51 = .ok (.ireturn, 1) := by decide +kernel
theorem dX10_fewest_0 : decode cX10_fewest 0 = .ok (.aload_n 0, 1) := by decide +kernel
theorem dX10_fewest_1 : decode cX10_fewest 1 = .ok (.iconst 0, 1) := by decide +kernel
theorem dX10_fewest_2 : decode cX10_fewest 2 = .ok (.putfield 71, 3) := by decide +kernel
theorem dX10_fewest_5 : decode cX10_fewest 5 = .ok (.aload_n 0, 1) := by decide +kernel
theorem dX10_fewest_6 : decode cX10_fewest 6 = .ok (.iload_n 1, 1) := by decide +kernel
theorem dX10_fewest_7 : decode cX10_fewest 7 = .ok (.invokevirtual 304, 3) := by decide +kernel
theorem dX10_fewest_10 : decode cX10_fewest 10 = .ok (.ifCond .ne 6, 3) := by decide +kernel
theorem dX10_fewest_13 : decode cX10_fewest 13 = .ok (.bipush (-2), 2) := by decide +kernel
theorem dX10_fewest_15 : decode cX10_fewest 15 = .ok (.ireturn, 1) := by decide +kernel
theorem dX10_fewest_16 : decode cX10_fewest 16 = .ok (.aload_n 0, 1) := by decide +kernel
theorem dX10_fewest_17 : decode cX10_fewest 17 = .ok (.iconst 3, 1) := by decide +kernel
theorem dX10_fewest_18 : decode cX10_fewest 18 = .ok (.iload_n 1, 1) := by decide +kernel
theorem dX10_fewest_19 : decode cX10_fewest 19 = .ok (.invokevirtual 337, 3) := by decide +kernel
theorem dX10_fewest_22 : decode cX10_fewest 22 = .ok (.aload_n 0, 1) := by decide +kernel
theorem dX10_fewest_23 : decode cX10_fewest 23 = .ok (.getfield 323, 3) := by decide +kernel
theorem dX10_fewest_26 : decode cX10_fewest 26 = .ok (.ireturn, 1) := by decide +kernel
theorem dX10_floor_0 : decode cX10_floor 0 = .ok (.aload_n 0, 1) := by decide +kernel
theorem dX10_floor_1 : decode cX10_floor 1 = .ok (.iconst 0, 1) := by decide +kernel
theorem dX10_floor_2 : decode cX10_floor 2 = .ok (.putfield 71, 3) := by decide +kernel
theorem dX10_floor_5 : decode cX10_floor 5 = .ok (.aload_n 0, 1) := by decide +kernel
theorem dX10_floor_6 : decode cX10_floor 6 = .ok (.iload_n 1, 1) := by decide +kernel
theorem dX10_floor_7 : decode cX10_floor 7 = .ok (.invokevirtual 394, 3) := by decide +kernel
theorem dX10_floor_10 : decode cX10_floor 10 = .ok (.istore_n 2, 1) := by decide +kernel
theorem dX10_floor_11 : decode cX10_floor 11 = .ok (.iload_n 2, 1) := by decide +kernel
theorem dX10_floor_12 : decode cX10_floor 12 = .ok (.ifCond .eq 5, 3) := by decide +kernel
theorem dX10_floor_15 : decode cX10_floor 15 = .ok (.iload_n 2, 1) := by decide +kernel
theorem dX10_floor_16 : decode cX10_floor 16 = .ok (.ireturn, 1) := by decide +kernel
theorem dX10_floor_17 : decode cX10_floor 17 = .ok (.aload_n 0, 1) := by decide +kernel
theorem dX10_floor_18 : decode cX10_floor 18 = .ok (.invokevirtual 275, 3) := by decide +kernel
theorem dX10_floor_21 : decode cX10_floor 21 = .ok (.iconst 0, 1) := by decide +kernel
theorem dX10_floor_22 : decode cX10_floor 22 = .ok (.istore_n 3, 1) := by decide +kernel
theorem dX10_floor_23 : decode cX10_floor 23 = .ok (.iload_n 3, 1) := by decide +kernel
theorem dX10_floor_24 : decode cX10_floor 24 = .ok (.bipush 60, 2) := by decide +kernel
theorem dX10_floor_26 : decode cX10_floor 26 = .ok (.if_icmp .gt 44, 3) := by decide +kernel
theorem dX10_floor_29 : decode cX10_floor 29 = .ok (.iconst 0, 1) := by decide +kernel
theorem dX10_floor_30 : decode cX10_floor 30 = .ok (.istore 4, 2) := by decide +kernel
theorem dX10_floor_32 : decode cX10_floor 32 = .ok (.iload 4, 2) := by decide +kernel
theorem dX10_floor_34 : decode cX10_floor 34 = .ok (.bipush 9, 2) := by decide +kernel
theorem dX10_floor_36 : decode cX10_floor 36 = .ok (.if_icmp .gt 28, 3) := by decide +kernel
theorem dX10_floor_39 : decode cX10_floor 39 = .ok (.aload_n 0, 1) := by decide +kernel
theorem dX10_floor_40 : decode cX10_floor 40 = .ok (.iload_n 1, 1) := by decide +kernel
theorem dX10_floor_41 : decode cX10_floor 41 = .ok (.iload_n 3, 1) := by decide +kernel
theorem dX10_floor_42 : decode cX10_floor 42 = .ok (.iload 4, 2) := by decide +kernel
theorem dX10_floor_44 : decode cX10_floor 44 = .ok (.invokevirtual 400, 3) := by decide +kernel
theorem dX10_floor_47 : decode cX10_floor 47 = .ok (.ifCond .eq 11, 3) := by decide +kernel
theorem dX10_floor_50 : decode cX10_floor 50 = .ok (.bipush 10, 2) := by decide +kernel
theorem dX10_floor_52 : decode cX10_floor 52 = .ok (.iload_n 3, 1) := by decide +kernel
theorem dX10_floor_53 : decode cX10_floor 53 = .ok (.imul, 1) := by decide +kernel
theorem dX10_floor_54 : decode cX10_floor 54 = .ok (.iload 4, 2) := by decide +kernel
theorem dX10_floor_56 : decode cX10_floor 56 = .ok (.iadd, 1) := by decide +kernel
theorem dX10_floor_57 : decode cX10_floor 57 = .ok (.ireturn, 1) := by decide +kernel
theorem dX10_floor_58 : decode cX10_floor 58 = .ok (.iinc 4 1, 3) := by decide +kernel
theorem dX10_floor_61 : decode cX10_floor 61 = .ok (.goto (-29), 3) := by decide +kernel
theorem dX10_floor_64 : decode cX10_floor 64 = .ok (.iinc 3 1, 3) := by decide +kernel
theorem dX10_floor_67 : decode cX10_floor 67 = .ok (.goto (-44), 3) := by decide +kernel
theorem dX10_floor_70 : decode cX10_floor 70 = .ok (.iconst (-1), 1) := by decide +kernel
theorem dX10_floor_71 : decode cX10_floor 71 = .ok (.ireturn, 1) := by decide +kernel
theorem dX10_four_0 : decode cX10_four 0 = .ok (.bipush 24, 2) := by decide +kernel
theorem dX10_four_2 : decode cX10_four 2 = .ok (.istore_n 2, 1) := by decide +kernel
theorem dX10_four_3 : decode cX10_four 3 = .ok (.iload_n 2, 1) := by decide +kernel
theorem dX10_four_4 : decode cX10_four 4 = .ok (.ifCond .lt 32, 3) := by decide +kernel
theorem dX10_four_7 : decode cX10_four 7 = .ok (.aload_n 0, 1) := by decide +kernel
theorem dX10_four_8 : decode cX10_four 8 = .ok (.getfield 23, 3) := by decide +kernel
theorem dX10_four_11 : decode cX10_four 11 = .ok (.aload_n 0, 1) := by decide +kernel
theorem dX10_four_12 : decode cX10_four 12 = .ok (.getfield 88, 3) := by decide +kernel
theorem dX10_four_15 : decode cX10_four 15 = .ok (.iload_n 1, 1) := by decide +kernel
theorem dX10_four_16 : decode cX10_four 16 = .ok (.iload_n 2, 1) := by decide +kernel
theorem dX10_four_17 : decode cX10_four 17 = .ok (.ishr, 1) := by decide +kernel
theorem dX10_four_18 : decode cX10_four 18 = .ok (.i2b, 1) := by decide +kernel
theorem dX10_four_19 : decode cX10_four 19 = .ok (.bastore, 1) := by decide +kernel
theorem dX10_four_20 : decode cX10_four 20 = .ok (.aload_n 0, 1) := by decide +kernel
theorem dX10_four_21 : decode cX10_four 21 = .ok (.dup, 1) := by decide +kernel
theorem dX10_four_22 : decode cX10_four 22 = .ok (.getfield 88, 3) := by decide +kernel
theorem dX10_four_25 : decode cX10_four 25 = .ok (.iconst 1, 1) := by decide +kernel
theorem dX10_four_26 : decode cX10_four 26 = .ok (.iadd, 1) := by decide +kernel
theorem dX10_four_27 : decode cX10_four 27 = .ok (.putfield 88, 3) := by decide +kernel
theorem dX10_four_30 : decode cX10_four 30 = .ok (.iinc 2 (-8), 3) := by decide +kernel
theorem dX10_four_33 : decode cX10_four 33 = .ok (.goto (-30), 3) := by decide +kernel
theorem dX10_four_36 : decode cX10_four 36 = .ok (.return_, 1) := by decide +kernel
theorem dX10_gap_0 : decode cX10_gap 0 = .ok (.aload_n 0, 1) := by decide +kernel
theorem dX10_gap_1 : decode cX10_gap 1 = .ok (.iconst 0, 1) := by decide +kernel
theorem dX10_gap_2 : decode cX10_gap 2 = .ok (.putfield 71, 3) := by decide +kernel
theorem dX10_gap_5 : decode cX10_gap 5 = .ok (.aload_n 0, 1) := by decide +kernel
theorem dX10_gap_6 : decode cX10_gap 6 = .ok (.iload_n 1, 1) := by decide +kernel
theorem dX10_gap_7 : decode cX10_gap 7 = .ok (.i2l, 1) := by decide +kernel
theorem dX10_gap_8 : decode cX10_gap 8 = .ok (.invokevirtual 272, 3) := by decide +kernel
theorem dX10_gap_11 : decode cX10_gap 11 = .ok (.ifCond .ne 6, 3) := by decide +kernel
theorem dX10_gap_14 : decode cX10_gap 14 = .ok (.bipush (-2), 2) := by decide +kernel
theorem dX10_gap_16 : decode cX10_gap 16 = .ok (.ireturn, 1) := by decide +kernel
theorem dX10_gap_17 : decode cX10_gap 17 = .ok (.aload_n 0, 1) := by decide +kernel
theorem dX10_gap_18 : decode cX10_gap 18 = .ok (.invokevirtual 275, 3) := by decide +kernel
theorem dX10_gap_21 : decode cX10_gap 21 = .ok (.aload_n 0, 1) := by decide +kernel
theorem dX10_gap_22 : decode cX10_gap 22 = .ok (.iload_n 1, 1) := by decide +kernel
theorem dX10_gap_23 : decode cX10_gap 23 = .ok (.invokevirtual 253, 3) := by decide +kernel
theorem dX10_gap_26 : decode cX10_gap 26 = .ok (.istore_n 2, 1) := by decide +kernel
theorem dX10_gap_27 : decode cX10_gap 27 = .ok (.iload_n 2, 1) := by decide +kernel
theorem dX10_gap_28 : decode cX10_gap 28 = .ok (.ifCond .ne 5, 3) := by decide +kernel
theorem dX10_gap_31 : decode cX10_gap 31 = .ok (.iconst 0, 1) := by decide +kernel
theorem dX10_gap_32 : decode cX10_gap 32 = .ok (.ireturn, 1) := by decide +kernel
theorem dX10_gap_33 : decode cX10_gap 33 = .ok (.aload_n 0, 1) := by decide +kernel
theorem dX10_gap_34 : decode cX10_gap 34 = .ok (.iload_n 1, 1) := by decide +kernel
theorem dX10_gap_35 : decode cX10_gap 35 = .ok (.iload_n 2, 1) := by decide +kernel
theorem dX10_gap_36 : decode cX10_gap 36 = .ok (.invokevirtual 256, 3) := by decide +kernel
theorem dX10_gap_39 : decode cX10_gap 39 = .ok (.istore_n 3, 1) := by decide +kernel
theorem dX10_gap_40 : decode cX10_gap 40 = .ok (.aload_n 0, 1) := by decide +kernel
theorem dX10_gap_41 : decode cX10_gap 41 = .ok (.iload_n 1, 1) := by decide +kernel
theorem dX10_gap_42 : decode cX10_gap 42 = .ok (.iload_n 2, 1) := by decide +kernel
theorem dX10_gap_43 : decode cX10_gap 43 = .ok (.iconst 1, 1) := by decide +kernel
theorem dX10_gap_44 : decode cX10_gap 44 = .ok (.aload_n 0, 1) := by decide +kernel
theorem dX10_gap_45 : decode cX10_gap 45 = .ok (.iload_n 1, 1) := by decide +kernel
theorem dX10_gap_46 : decode cX10_gap 46 = .ok (.iload_n 2, 1) := by decide +kernel
theorem dX10_gap_47 : decode cX10_gap 47 = .ok (.invokevirtual 250, 3) := by decide +kernel
theorem dX10_gap_50 : decode cX10_gap 50 = .ok (.ishl, 1) := by decide +kernel
theorem dX10_gap_51 : decode cX10_gap 51 = .ok (.iconst (-1), 1) := by decide +kernel
theorem dX10_gap_52 : decode cX10_gap 52 = .ok (.ixor, 1) := by decide +kernel
theorem dX10_gap_53 : decode cX10_gap 53 = .ok (.iand, 1) := by decide +kernel
theorem dX10_gap_54 : decode cX10_gap 54 = .ok (.invokevirtual 256, 3) := by decide +kernel
theorem dX10_gap_57 : decode cX10_gap 57 = .ok (.istore 4, 2) := by decide +kernel
theorem dX10_gap_59 : decode cX10_gap 59 = .ok (.iload_n 3, 1) := by decide +kernel
theorem dX10_gap_60 : decode cX10_gap 60 = .ok (.sipush 10000, 3) := by decide +kernel
theorem dX10_gap_63 : decode cX10_gap 63 = .ok (.if_icmp .eq 10, 3) := by decide +kernel
theorem dX10_gap_66 : decode cX10_gap 66 = .ok (.iload_n 3, 1) := by decide +kernel
theorem dX10_gap_67 : decode cX10_gap 67 = .ok (.iload 4, 2) := by decide +kernel
theorem dX10_gap_69 : decode cX10_gap 69 = .ok (.isub, 1) := by decide +kernel
theorem dX10_gap_70 : decode cX10_gap 70 = .ok (.goto 18, 3) := by decide +kernel
theorem dX10_gap_73 : decode cX10_gap 73 = .ok (.iload 4, 2) := by decide +kernel
theorem dX10_gap_75 : decode cX10_gap 75 = .ok (.sipush 10000, 3) := by decide +kernel
theorem dX10_gap_78 : decode cX10_gap 78 = .ok (.if_icmp .ne 7, 3) := by decide +kernel
theorem dX10_gap_81 : decode cX10_gap 81 = .ok (.iconst 0, 1) := by decide +kernel
theorem dX10_gap_82 : decode cX10_gap 82 = .ok (.goto 6, 3) := by decide +kernel
theorem dX10_gap_85 : decode cX10_gap 85 = .ok (.sipush 10000, 3) := by decide +kernel
theorem dX10_gap_88 : decode cX10_gap 88 = .ok (.ireturn, 1) := by decide +kernel
theorem dX10_goes_0 : decode cX10_goes 0 = .ok (.aload_n 0, 1) := by decide +kernel
theorem dX10_goes_1 : decode cX10_goes 1 = .ok (.iconst 0, 1) := by decide +kernel
theorem dX10_goes_2 : decode cX10_goes 2 = .ok (.putfield 71, 3) := by decide +kernel
theorem dX10_goes_5 : decode cX10_goes 5 = .ok (.iload_n 1, 1) := by decide +kernel
theorem dX10_goes_6 : decode cX10_goes 6 = .ok (.invokestatic 80, 3) := by decide +kernel
theorem dX10_goes_9 : decode cX10_goes 9 = .ok (.ifCond .eq 19, 3) := by decide +kernel
theorem dX10_goes_12 : decode cX10_goes 12 = .ok (.aload_n 0, 1) := by decide +kernel
theorem dX10_goes_13 : decode cX10_goes 13 = .ok (.invokevirtual 232, 3) := by decide +kernel
theorem dX10_goes_16 : decode cX10_goes 16 = .ok (.ifCond .eq 12, 3) := by decide +kernel
theorem dX10_goes_19 : decode cX10_goes 19 = .ok (.aload_n 0, 1) := by decide +kernel
theorem dX10_goes_20 : decode cX10_goes 20 = .ok (.iload_n 2, 1) := by decide +kernel
theorem dX10_goes_21 : decode cX10_goes 21 = .ok (.i2l, 1) := by decide +kernel
theorem dX10_goes_22 : decode cX10_goes 22 = .ok (.invokevirtual 272, 3) := by decide +kernel
theorem dX10_goes_25 : decode cX10_goes 25 = .ok (.ifCond .ne 6, 3) := by decide +kernel
theorem dX10_goes_28 : decode cX10_goes 28 = .ok (.bipush (-2), 2) := by decide +kernel
theorem dX10_goes_30 : decode cX10_goes 30 = .ok (.ireturn, 1) := by decide +kernel
theorem dX10_goes_31 : decode cX10_goes 31 = .ok (.aload_n 0, 1) := by decide +kernel
theorem dX10_goes_32 : decode cX10_goes 32 = .ok (.getfield 7, 3) := by decide +kernel
theorem dX10_goes_35 : decode cX10_goes 35 = .ok (.iload_n 1, 1) := by decide +kernel
theorem dX10_goes_36 : decode cX10_goes 36 = .ok (.iaload, 1) := by decide +kernel
theorem dX10_goes_37 : decode cX10_goes 37 = .ok (.iconst (-1), 1) := by decide +kernel
theorem dX10_goes_38 : decode cX10_goes 38 = .ok (.if_icmp .ne 6, 3) := by decide +kernel
theorem dX10_goes_41 : decode cX10_goes 41 = .ok (.bipush (-6), 2) := by decide +kernel
theorem dX10_goes_43 : decode cX10_goes 43 = .ok (.ireturn, 1) := by decide +kernel
theorem dX10_goes_44 : decode cX10_goes 44 = .ok (.aload_n 0, 1) := by decide +kernel
theorem dX10_goes_45 : decode cX10_goes 45 = .ok (.invokevirtual 275, 3) := by decide +kernel
theorem dX10_goes_48 : decode cX10_goes 48 = .ok (.aload_n 0, 1) := by decide +kernel
theorem dX10_goes_49 : decode cX10_goes 49 = .ok (.iload_n 2, 1) := by decide +kernel
theorem dX10_goes_50 : decode cX10_goes 50 = .ok (.invokevirtual 253, 3) := by decide +kernel
theorem dX10_goes_53 : decode cX10_goes 53 = .ok (.istore_n 3, 1) := by decide +kernel
theorem dX10_goes_54 : decode cX10_goes 54 = .ok (.aload_n 0, 1) := by decide +kernel
theorem dX10_goes_55 : decode cX10_goes 55 = .ok (.getfield 13, 3) := by decide +kernel
theorem dX10_goes_58 : decode cX10_goes 58 = .ok (.iload_n 1, 1) := by decide +kernel
theorem dX10_goes_59 : decode cX10_goes 59 = .ok (.iaload, 1) := by decide +kernel
theorem dX10_goes_60 : decode cX10_goes 60 = .ok (.iload_n 3, 1) := by decide +kernel
theorem dX10_goes_61 : decode cX10_goes 61 = .ok (.invokestatic 291, 3) := by decide +kernel
theorem dX10_goes_64 : decode cX10_goes 64 = .ok (.if_icmp .eq 6, 3) := by decide +kernel
theorem dX10_goes_67 : decode cX10_goes 67 = .ok (.bipush (-2), 2) := by decide +kernel
theorem dX10_goes_69 : decode cX10_goes 69 = .ok (.ireturn, 1) := by decide +kernel
theorem dX10_goes_70 : decode cX10_goes 70 = .ok (.aload_n 0, 1) := by decide +kernel
theorem dX10_goes_71 : decode cX10_goes 71 = .ok (.getfield 34, 3) := by decide +kernel
theorem dX10_goes_74 : decode cX10_goes 74 = .ok (.iconst 1, 1) := by decide +kernel
theorem dX10_goes_75 : decode cX10_goes 75 = .ok (.iaload, 1) := by decide +kernel
theorem dX10_goes_76 : decode cX10_goes 76 = .ok (.istore 4, 2) := by decide +kernel
theorem dX10_goes_78 : decode cX10_goes 78 = .ok (.iconst 0, 1) := by decide +kernel
theorem dX10_goes_79 : decode cX10_goes 79 = .ok (.istore 5, 2) := by decide +kernel
theorem dX10_goes_81 : decode cX10_goes 81 = .ok (.iconst 0, 1) := by decide +kernel
theorem dX10_goes_82 : decode cX10_goes 82 = .ok (.istore 6, 2) := by decide +kernel
theorem dX10_goes_84 : decode cX10_goes 84 = .ok (.iload 6, 2) := by decide +kernel
theorem dX10_goes_86 : decode cX10_goes 86 = .ok (.aload_n 0, 1) := by decide +kernel
theorem dX10_goes_87 : decode cX10_goes 87 = .ok (.getfield 13, 3) := by decide +kernel
theorem dX10_goes_90 : decode cX10_goes 90 = .ok (.iload_n 1, 1) := by decide +kernel
theorem dX10_goes_91 : decode cX10_goes 91 = .ok (.iaload, 1) := by decide +kernel
theorem dX10_goes_92 : decode cX10_goes 92 = .ok (.if_icmp .ge 81, 3) := by decide +kernel
theorem dX10_goes_95 : decode cX10_goes 95 = .ok (.aload_n 0, 1) := by decide +kernel
theorem dX10_goes_96 : decode cX10_goes 96 = .ok (.getfield 16, 3) := by decide +kernel
theorem dX10_goes_99 : decode cX10_goes 99 = .ok (.bipush 60, 2) := by decide +kernel
theorem dX10_goes_101 : decode cX10_goes 101 = .ok (.iload_n 1, 1) := by decide +kernel
theorem dX10_goes_102 : decode cX10_goes 102 = .ok (.imul, 1) := by decide +kernel
theorem dX10_goes_103 : decode cX10_goes 103 = .ok (.iload 6, 2) := by decide +kernel
theorem dX10_goes_105 : decode cX10_goes 105 = .ok (.iadd, 1) := by decide +kernel
theorem dX10_goes_106 : decode cX10_goes 106 = .ok (.laload, 1) := by decide +kernel
theorem dX10_goes_107 : decode cX10_goes 107 = .ok (.lstore 7, 2) := by decide +kernel
theorem dX10_goes_109 : decode cX10_goes 109 = .ok (.aload_n 0, 1) := by decide +kernel
theorem dX10_goes_110 : decode cX10_goes 110 = .ok (.lload 7, 2) := by decide +kernel
theorem dX10_goes_112 : decode cX10_goes 112 = .ok (.invokevirtual 267, 3) := by decide +kernel
theorem dX10_goes_115 : decode cX10_goes 115 = .ok (.ifCond .eq 13, 3) := by decide +kernel
theorem dX10_goes_118 : decode cX10_goes 118 = .ok (.iload_n 3, 1) := by decide +kernel
theorem dX10_goes_119 : decode cX10_goes 119 = .ok (.lload 7, 2) := by decide +kernel
theorem dX10_goes_121 : decode cX10_goes 121 = .ok (.l2i, 1) := by decide +kernel
theorem dX10_goes_122 : decode cX10_goes 122 = .ok (.invokestatic 246, 3) := by decide +kernel
theorem dX10_goes_125 : decode cX10_goes 125 = .ok (.ifCond .ne 6, 3) := by decide +kernel
theorem dX10_goes_128 : decode cX10_goes 128 = .ok (.bipush (-2), 2) := by decide +kernel
theorem dX10_goes_130 : decode cX10_goes 130 = .ok (.ireturn, 1) := by decide +kernel
theorem dX10_goes_131 : decode cX10_goes 131 = .ok (.iload_n 3, 1) := by decide +kernel
theorem dX10_goes_132 : decode cX10_goes 132 = .ok (.iconst 1, 1) := by decide +kernel
theorem dX10_goes_133 : decode cX10_goes 133 = .ok (.lload 7, 2) := by decide +kernel
theorem dX10_goes_135 : decode cX10_goes 135 = .ok (.l2i, 1) := by decide +kernel
theorem dX10_goes_136 : decode cX10_goes 136 = .ok (.ishl, 1) := by decide +kernel
theorem dX10_goes_137 : decode cX10_goes 137 = .ok (.iconst (-1), 1) := by decide +kernel
theorem dX10_goes_138 : decode cX10_goes 138 = .ok (.ixor, 1) := by decide +kernel
theorem dX10_goes_139 : decode cX10_goes 139 = .ok (.iand, 1) := by decide +kernel
theorem dX10_goes_140 : decode cX10_goes 140 = .ok (.istore_n 3, 1) := by decide +kernel
theorem dX10_goes_141 : decode cX10_goes 141 = .ok (.aload_n 0, 1) := by decide +kernel
theorem dX10_goes_142 : decode cX10_goes 142 = .ok (.iload_n 2, 1) := by decide +kernel
theorem dX10_goes_143 : decode cX10_goes 143 = .ok (.iload 4, 2) := by decide +kernel
theorem dX10_goes_145 : decode cX10_goes 145 = .ok (.iload 5, 2) := by decide +kernel
theorem dX10_goes_147 : decode cX10_goes 147 = .ok (.lload 7, 2) := by decide +kernel
theorem dX10_goes_149 : decode cX10_goes 149 = .ok (.l2i, 1) := by decide +kernel
theorem dX10_goes_150 : decode cX10_goes 150 = .ok (.invokevirtual 343, 3) := by decide +kernel
theorem dX10_goes_153 : decode cX10_goes 153 = .ok (.istore 5, 2) := by decide +kernel
theorem dX10_goes_155 : decode cX10_goes 155 = .ok (.aload_n 0, 1) := by decide +kernel
theorem dX10_goes_156 : decode cX10_goes 156 = .ok (.getfield 37, 3) := by decide +kernel
theorem dX10_goes_159 : decode cX10_goes 159 = .ok (.iconst 5, 1) := by decide +kernel
theorem dX10_goes_160 : decode cX10_goes 160 = .ok (.lload 7, 2) := by decide +kernel
theorem dX10_goes_162 : decode cX10_goes 162 = .ok (.l2i, 1) := by decide +kernel
theorem dX10_goes_163 : decode cX10_goes 163 = .ok (.imul, 1) := by decide +kernel
theorem dX10_goes_164 : decode cX10_goes 164 = .ok (.iaload, 1) := by decide +kernel
theorem dX10_goes_165 : decode cX10_goes 165 = .ok (.istore 4, 2) := by decide +kernel
theorem dX10_goes_167 : decode cX10_goes 167 = .ok (.iinc 6 1, 3) := by decide +kernel
theorem dX10_goes_170 : decode cX10_goes 170 = .ok (.goto (-86), 3) := by decide +kernel
theorem dX10_goes_173 : decode cX10_goes 173 = .ok (.iload 5, 2) := by decide +kernel
theorem dX10_goes_175 : decode cX10_goes 175 = .ok (.sipush 10000, 3) := by decide +kernel
theorem dX10_goes_178 : decode cX10_goes 178 = .ok (.if_icmp .lt 9, 3) := by decide +kernel
theorem dX10_goes_181 : decode cX10_goes 181 = .ok (.sipush 10000, 3) := by decide +kernel
theorem dX10_goes_184 : decode cX10_goes 184 = .ok (.goto 5, 3) := by decide +kernel
theorem dX10_goes_187 : decode cX10_goes 187 = .ok (.iload 5, 2) := by decide +kernel
theorem dX10_goes_189 : decode cX10_goes 189 = .ok (.ireturn, 1) := by decide +kernel
theorem dX10_gone_0 : decode cX10_gone 0 = .ok (.aload_n 0, 1) := by decide +kernel
theorem dX10_gone_1 : decode cX10_gone 1 = .ok (.iconst 0, 1) := by decide +kernel
theorem dX10_gone_2 : decode cX10_gone 2 = .ok (.putfield 71, 3) := by decide +kernel
theorem dX10_gone_5 : decode cX10_gone 5 = .ok (.aload_n 0, 1) := by decide +kernel
theorem dX10_gone_6 : decode cX10_gone 6 = .ok (.iload_n 1, 1) := by decide +kernel
theorem dX10_gone_7 : decode cX10_gone 7 = .ok (.invokevirtual 394, 3) := by decide +kernel
theorem dX10_gone_10 : decode cX10_gone 10 = .ok (.istore_n 2, 1) := by decide +kernel
theorem dX10_gone_11 : decode cX10_gone 11 = .ok (.iload_n 2, 1) := by decide +kernel
theorem dX10_gone_12 : decode cX10_gone 12 = .ok (.ifCond .eq 5, 3) := by decide +kernel
theorem dX10_gone_15 : decode cX10_gone 15 = .ok (.iload_n 2, 1) := by decide +kernel
theorem dX10_gone_16 : decode cX10_gone 16 = .ok (.ireturn, 1) := by decide +kernel
theorem dX10_gone_17 : decode cX10_gone 17 = .ok (.aload_n 0, 1) := by decide +kernel
theorem dX10_gone_18 : decode cX10_gone 18 = .ok (.iload_n 1, 1) := by decide +kernel
theorem dX10_gone_19 : decode cX10_gone 19 = .ok (.invokevirtual 397, 3) := by decide +kernel
theorem dX10_gone_22 : decode cX10_gone 22 = .ok (.aload_n 0, 1) := by decide +kernel
theorem dX10_gone_23 : decode cX10_gone 23 = .ok (.getfield 388, 3) := by decide +kernel
theorem dX10_gone_26 : decode cX10_gone 26 = .ok (.ireturn, 1) := by decide +kernel
theorem dX10_hasRead_0 : decode cX10_hasRead 0 = .ok (.aload_n 0, 1) := by decide +kernel
theorem dX10_hasRead_1 : decode cX10_hasRead 1 = .ok (.getfield 34, 3) := by decide +kernel
theorem dX10_hasRead_4 : decode cX10_hasRead 4 = .ok (.bipush 24, 2) := by decide +kernel
theorem dX10_hasRead_6 : decode cX10_hasRead 6 = .ok (.iload_n 1, 1) := by decide +kernel
theorem dX10_hasRead_7 : decode cX10_hasRead 7 = .ok (.iadd, 1) := by decide +kernel
theorem dX10_hasRead_8 : decode cX10_hasRead 8 = .ok (.iaload, 1) := by decide +kernel
theorem dX10_hasRead_9 : decode cX10_hasRead 9 = .ok (.ireturn, 1) := by decide +kernel
theorem dX10_hears_0 : decode cX10_hears 0 = .ok (.iload_n 3, 1) := by decide +kernel
theorem dX10_hears_1 : decode cX10_hears 1 = .ok (.aload_n 0, 1) := by decide +kernel
theorem dX10_hears_2 : decode cX10_hears 2 = .ok (.getfield 37, 3) := by decide +kernel
theorem dX10_hears_5 : decode cX10_hears 5 = .ok (.iconst 5, 1) := by decide +kernel
theorem dX10_hears_6 : decode cX10_hears 6 = .ok (.iload 4, 2) := by decide +kernel
theorem dX10_hears_8 : decode cX10_hears 8 = .ok (.imul, 1) := by decide +kernel
theorem dX10_hears_9 : decode cX10_hears 9 = .ok (.iaload, 1) := by decide +kernel
theorem dX10_hears_10 : decode cX10_hears 10 = .ok (.iload_n 2, 1) := by decide +kernel
theorem dX10_hears_11 : decode cX10_hears 11 = .ok (.if_icmp .le 17, 3) := by decide +kernel
theorem dX10_hears_14 : decode cX10_hears 14 = .ok (.aload_n 0, 1) := by decide +kernel
theorem dX10_hears_15 : decode cX10_hears 15 = .ok (.getfield 37, 3) := by decide +kernel
theorem dX10_hears_18 : decode cX10_hears 18 = .ok (.iconst 5, 1) := by decide +kernel
theorem dX10_hears_19 : decode cX10_hears 19 = .ok (.iload 4, 2) := by decide +kernel
theorem dX10_hears_21 : decode cX10_hears 21 = .ok (.imul, 1) := by decide +kernel
theorem dX10_hears_22 : decode cX10_hears 22 = .ok (.iaload, 1) := by decide +kernel
theorem dX10_hears_23 : decode cX10_hears 23 = .ok (.iload_n 2, 1) := by decide +kernel
theorem dX10_hears_24 : decode cX10_hears 24 = .ok (.isub, 1) := by decide +kernel
theorem dX10_hears_25 : decode cX10_hears 25 = .ok (.goto 14, 3) := by decide +kernel
theorem dX10_hears_28 : decode cX10_hears 28 = .ok (.iload_n 2, 1) := by decide +kernel
theorem dX10_hears_29 : decode cX10_hears 29 = .ok (.aload_n 0, 1) := by decide +kernel
theorem dX10_hears_30 : decode cX10_hears 30 = .ok (.getfield 37, 3) := by decide +kernel
theorem dX10_hears_33 : decode cX10_hears 33 = .ok (.iconst 5, 1) := by decide +kernel
theorem dX10_hears_34 : decode cX10_hears 34 = .ok (.iload 4, 2) := by decide +kernel
theorem dX10_hears_36 : decode cX10_hears 36 = .ok (.imul, 1) := by decide +kernel
theorem dX10_hears_37 : decode cX10_hears 37 = .ok (.iaload, 1) := by decide +kernel
theorem dX10_hears_38 : decode cX10_hears 38 = .ok (.isub, 1) := by decide +kernel
theorem dX10_hears_39 : decode cX10_hears 39 = .ok (.iadd, 1) := by decide +kernel
theorem dX10_hears_40 : decode cX10_hears 40 = .ok (.istore 5, 2) := by decide +kernel
theorem dX10_hears_42 : decode cX10_hears 42 = .ok (.iload 5, 2) := by decide +kernel
theorem dX10_hears_44 : decode cX10_hears 44 = .ok (.aload_n 0, 1) := by decide +kernel
theorem dX10_hears_45 : decode cX10_hears 45 = .ok (.getfield 50, 3) := by decide +kernel
theorem dX10_hears_48 : decode cX10_hears 48 = .ok (.bipush 6, 2) := by decide +kernel
theorem dX10_hears_50 : decode cX10_hears 50 = .ok (.iload_n 1, 1) := by decide +kernel
theorem dX10_hears_51 : decode cX10_hears 51 = .ok (.imul, 1) := by decide +kernel
theorem dX10_hears_52 : decode cX10_hears 52 = .ok (.iload 4, 2) := by decide +kernel
theorem dX10_hears_54 : decode cX10_hears 54 = .ok (.iadd, 1) := by decide +kernel
theorem dX10_hears_55 : decode cX10_hears 55 = .ok (.iaload, 1) := by decide +kernel
theorem dX10_hears_56 : decode cX10_hears 56 = .ok (.if_icmp .le 8, 3) := by decide +kernel
theorem dX10_hears_59 : decode cX10_hears 59 = .ok (.iload 5, 2) := by decide +kernel
theorem dX10_hears_61 : decode cX10_hears 61 = .ok (.goto 15, 3) := by decide +kernel
theorem dX10_hears_64 : decode cX10_hears 64 = .ok (.aload_n 0, 1) := by decide +kernel
theorem dX10_hears_65 : decode cX10_hears 65 = .ok (.getfield 50, 3) := by decide +kernel
theorem dX10_hears_68 : decode cX10_hears 68 = .ok (.bipush 6, 2) := by decide +kernel
theorem dX10_hears_70 : decode cX10_hears 70 = .ok (.iload_n 1, 1) := by decide +kernel
theorem dX10_hears_71 : decode cX10_hears 71 = .ok (.imul, 1) := by decide +kernel
theorem dX10_hears_72 : decode cX10_hears 72 = .ok (.iload 4, 2) := by decide +kernel
theorem dX10_hears_74 : decode cX10_hears 74 = .ok (.iadd, 1) := by decide +kernel
theorem dX10_hears_75 : decode cX10_hears 75 = .ok (.iaload, 1) := by decide +kernel
theorem dX10_hears_76 : decode cX10_hears 76 = .ok (.ireturn, 1) := by decide +kernel
theorem dX10_heir_0 : decode cX10_heir 0 = .ok (.aload_n 0, 1) := by decide +kernel
theorem dX10_heir_1 : decode cX10_heir 1 = .ok (.iconst 0, 1) := by decide +kernel
theorem dX10_heir_2 : decode cX10_heir 2 = .ok (.putfield 71, 3) := by decide +kernel
theorem dX10_heir_5 : decode cX10_heir 5 = .ok (.aload_n 0, 1) := by decide +kernel
theorem dX10_heir_6 : decode cX10_heir 6 = .ok (.iload_n 1, 1) := by decide +kernel
theorem dX10_heir_7 : decode cX10_heir 7 = .ok (.i2l, 1) := by decide +kernel
theorem dX10_heir_8 : decode cX10_heir 8 = .ok (.invokevirtual 272, 3) := by decide +kernel
theorem dX10_heir_11 : decode cX10_heir 11 = .ok (.ifCond .ne 6, 3) := by decide +kernel
theorem dX10_heir_14 : decode cX10_heir 14 = .ok (.bipush (-2), 2) := by decide +kernel
theorem dX10_heir_16 : decode cX10_heir 16 = .ok (.ireturn, 1) := by decide +kernel
theorem dX10_heir_17 : decode cX10_heir 17 = .ok (.aload_n 0, 1) := by decide +kernel
theorem dX10_heir_18 : decode cX10_heir 18 = .ok (.invokevirtual 275, 3) := by decide +kernel
theorem dX10_heir_21 : decode cX10_heir 21 = .ok (.aload_n 0, 1) := by decide +kernel
theorem dX10_heir_22 : decode cX10_heir 22 = .ok (.iload_n 1, 1) := by decide +kernel
theorem dX10_heir_23 : decode cX10_heir 23 = .ok (.invokevirtual 253, 3) := by decide +kernel
theorem dX10_heir_26 : decode cX10_heir 26 = .ok (.istore_n 2, 1) := by decide +kernel
theorem dX10_heir_27 : decode cX10_heir 27 = .ok (.iload_n 2, 1) := by decide +kernel
theorem dX10_heir_28 : decode cX10_heir 28 = .ok (.ifCond .ne 7, 3) := by decide +kernel
theorem dX10_heir_31 : decode cX10_heir 31 = .ok (.iconst (-1), 1) := by decide +kernel
theorem dX10_heir_32 : decode cX10_heir 32 = .ok (.goto 20, 3) := by decide +kernel
theorem dX10_heir_35 : decode cX10_heir 35 = .ok (.aload_n 0, 1) := by decide +kernel
theorem dX10_heir_36 : decode cX10_heir 36 = .ok (.iload_n 1, 1) := by decide +kernel
theorem dX10_heir_37 : decode cX10_heir 37 = .ok (.iload_n 2, 1) := by decide +kernel
theorem dX10_heir_38 : decode cX10_heir 38 = .ok (.iconst 1, 1) := by decide +kernel
theorem dX10_heir_39 : decode cX10_heir 39 = .ok (.aload_n 0, 1) := by decide +kernel
theorem dX10_heir_40 : decode cX10_heir 40 = .ok (.iload_n 1, 1) := by decide +kernel
theorem dX10_heir_41 : decode cX10_heir 41 = .ok (.iload_n 2, 1) := by decide +kernel
theorem dX10_heir_42 : decode cX10_heir 42 = .ok (.invokevirtual 250, 3) := by decide +kernel
theorem dX10_heir_45 : decode cX10_heir 45 = .ok (.ishl, 1) := by decide +kernel
theorem dX10_heir_46 : decode cX10_heir 46 = .ok (.iconst (-1), 1) := by decide +kernel
theorem dX10_heir_47 : decode cX10_heir 47 = .ok (.ixor, 1) := by decide +kernel
theorem dX10_heir_48 : decode cX10_heir 48 = .ok (.iand, 1) := by decide +kernel
theorem dX10_heir_49 : decode cX10_heir 49 = .ok (.invokevirtual 250, 3) := by decide +kernel
theorem dX10_heir_52 : decode cX10_heir 52 = .ok (.ireturn, 1) := by decide +kernel
theorem dX10_image_0 : decode cX10_image 0 = .ok (.aload_n 0, 1) := by decide +kernel
theorem dX10_image_1 : decode cX10_image 1 = .ok (.iconst 0, 1) := by decide +kernel
theorem dX10_image_2 : decode cX10_image 2 = .ok (.putfield 71, 3) := by decide +kernel
theorem dX10_image_5 : decode cX10_image 5 = .ok (.iload_n 1, 1) := by decide +kernel
theorem dX10_image_6 : decode cX10_image 6 = .ok (.i2l, 1) := by decide +kernel
theorem dX10_image_7 : decode cX10_image 7 = .ok (.lconst 0, 1) := by decide +kernel
theorem dX10_image_8 : decode cX10_image 8 = .ok (.ldc2_w 443, 3) := by decide +kernel
theorem dX10_image_11 : decode cX10_image 11 = .ok (.invokestatic 76, 3) := by decide +kernel
theorem dX10_image_14 : decode cX10_image 14 = .ok (.ifCond .ne 6, 3) := by decide +kernel
theorem dX10_image_17 : decode cX10_image 17 = .ok (.bipush (-2), 2) := by decide +kernel
theorem dX10_image_19 : decode cX10_image 19 = .ok (.ireturn, 1) := by decide +kernel
theorem dX10_image_20 : decode cX10_image 20 = .ok (.aload_n 0, 1) := by decide +kernel
theorem dX10_image_21 : decode cX10_image 21 = .ok (.iconst 0, 1) := by decide +kernel
theorem dX10_image_22 : decode cX10_image 22 = .ok (.iconst 1, 1) := by decide +kernel
theorem dX10_image_23 : decode cX10_image 23 = .ok (.iload_n 1, 1) := by decide +kernel
theorem dX10_image_24 : decode cX10_image 24 = .ok (.iadd, 1) := by decide +kernel
theorem dX10_image_25 : decode cX10_image 25 = .ok (.invokevirtual 218, 3) := by decide +kernel
theorem dX10_image_28 : decode cX10_image 28 = .ok (.aload_n 0, 1) := by decide +kernel
theorem dX10_image_29 : decode cX10_image 29 = .ok (.getfield 46, 3) := by decide +kernel
theorem dX10_image_32 : decode cX10_image 32 = .ok (.iload_n 1, 1) := by decide +kernel
theorem dX10_image_33 : decode cX10_image 33 = .ok (.iconst 1, 1) := by decide +kernel
theorem dX10_image_34 : decode cX10_image 34 = .ok (.bastore, 1) := by decide +kernel
theorem dX10_image_35 : decode cX10_image 35 = .ok (.iconst 0, 1) := by decide +kernel
theorem dX10_image_36 : decode cX10_image 36 = .ok (.ireturn, 1) := by decide +kernel
theorem dX10_in_0 : decode cX10_in 0 = .ok (.lload_n 0, 1) := by decide +kernel
theorem dX10_in_1 : decode cX10_in 1 = .ok (.lload_n 2, 1) := by decide +kernel
theorem dX10_in_2 : decode cX10_in 2 = .ok (.lcmp, 1) := by decide +kernel
theorem dX10_in_3 : decode cX10_in 3 = .ok (.ifCond .lt 14, 3) := by decide +kernel
theorem dX10_in_6 : decode cX10_in 6 = .ok (.lload_n 0, 1) := by decide +kernel
theorem dX10_in_7 : decode cX10_in 7 = .ok (.lload 4, 2) := by decide +kernel
theorem dX10_in_9 : decode cX10_in 9 = .ok (.lcmp, 1) := by decide +kernel
theorem dX10_in_10 : decode cX10_in 10 = .ok (.ifCond .gt 7, 3) := by decide +kernel
theorem dX10_in_13 : decode cX10_in 13 = .ok (.iconst 1, 1) := by decide +kernel
theorem dX10_in_14 : decode cX10_in 14 = .ok (.goto 4, 3) := by decide +kernel
theorem dX10_in_17 : decode cX10_in 17 = .ok (.iconst 0, 1) := by decide +kernel
theorem dX10_in_18 : decode cX10_in 18 = .ok (.ireturn, 1) := by decide +kernel
theorem dX10_init_0 : decode cX10_init 0 = .ok (.aload_n 0, 1) := by decide +kernel
theorem dX10_init_1 : decode cX10_init 1 = .ok (.invokespecial 1, 3) := by decide +kernel
theorem dX10_init_4 : decode cX10_init 4 = .ok (.aload_n 0, 1) := by decide +kernel
theorem dX10_init_5 : decode cX10_init 5 = .ok (.iconst 4, 1) := by decide +kernel
theorem dX10_init_6 : decode cX10_init 6 = .ok (.newarray .int, 2) := by decide +kernel
theorem dX10_init_8 : decode cX10_init 8 = .ok (.putfield 7, 3) := by decide +kernel
theorem dX10_init_11 : decode cX10_init 11 = .ok (.aload_n 0, 1) := by decide +kernel
theorem dX10_init_12 : decode cX10_init 12 = .ok (.iconst 4, 1) := by decide +kernel
theorem dX10_init_13 : decode cX10_init 13 = .ok (.newarray .int, 2) := by decide +kernel
theorem dX10_init_15 : decode cX10_init 15 = .ok (.putfield 13, 3) := by decide +kernel
theorem dX10_init_18 : decode cX10_init 18 = .ok (.aload_n 0, 1) := by decide +kernel
theorem dX10_init_19 : decode cX10_init 19 = .ok (.sipush 240, 3) := by decide +kernel
theorem dX10_init_22 : decode cX10_init 22 = .ok (.newarray .long, 2) := by decide +kernel
theorem dX10_init_24 : decode cX10_init 24 = .ok (.putfield 16, 3) := by decide +kernel
theorem dX10_init_27 : decode cX10_init 27 = .ok (.aload_n 0, 1) := by decide +kernel
theorem dX10_init_28 : decode cX10_init 28 = .ok (.bipush 60, 2) := by decide +kernel
theorem dX10_init_30 : decode cX10_init 30 = .ok (.newarray .long, 2) := by decide +kernel
theorem dX10_init_32 : decode cX10_init 32 = .ok (.putfield 20, 3) := by decide +kernel
theorem dX10_init_35 : decode cX10_init 35 = .ok (.aload_n 0, 1) := by decide +kernel
theorem dX10_init_36 : decode cX10_init 36 = .ok (.sipush 800, 3) := by decide +kernel
theorem dX10_init_39 : decode cX10_init 39 = .ok (.newarray .byte, 2) := by decide +kernel
theorem dX10_init_41 : decode cX10_init 41 = .ok (.putfield 23, 3) := by decide +kernel
theorem dX10_init_44 : decode cX10_init 44 = .ok (.aload_n 0, 1) := by decide +kernel
theorem dX10_init_45 : decode cX10_init 45 = .ok (.iconst (-1), 1) := by decide +kernel
theorem dX10_init_46 : decode cX10_init 46 = .ok (.putfield 27, 3) := by decide +kernel
theorem dX10_init_49 : decode cX10_init 49 = .ok (.aload_n 0, 1) := by decide +kernel
theorem dX10_init_50 : decode cX10_init 50 = .ok (.iconst 5, 1) := by decide +kernel
theorem dX10_init_51 : decode cX10_init 51 = .ok (.newarray .int, 2) := by decide +kernel
theorem dX10_init_53 : decode cX10_init 53 = .ok (.putfield 31, 3) := by decide +kernel
theorem dX10_init_56 : decode cX10_init 56 = .ok (.aload_n 0, 1) := by decide +kernel
theorem dX10_init_57 : decode cX10_init 57 = .ok (.bipush 30, 2) := by decide +kernel
theorem dX10_init_59 : decode cX10_init 59 = .ok (.newarray .int, 2) := by decide +kernel
theorem dX10_init_61 : decode cX10_init 61 = .ok (.putfield 34, 3) := by decide +kernel
theorem dX10_init_64 : decode cX10_init 64 = .ok (.aload_n 0, 1) := by decide +kernel
theorem dX10_init_65 : decode cX10_init 65 = .ok (.sipush 150, 3) := by decide +kernel
theorem dX10_init_68 : decode cX10_init 68 = .ok (.newarray .int, 2) := by decide +kernel
theorem dX10_init_70 : decode cX10_init 70 = .ok (.putfield 37, 3) := by decide +kernel
theorem dX10_init_73 : decode cX10_init 73 = .ok (.aload_n 0, 1) := by decide +kernel
theorem dX10_init_74 : decode cX10_init 74 = .ok (.bipush 25, 2) := by decide +kernel
theorem dX10_init_76 : decode cX10_init 76 = .ok (.newarray .int, 2) := by decide +kernel
theorem dX10_init_78 : decode cX10_init 78 = .ok (.putfield 40, 3) := by decide +kernel
theorem dX10_init_81 : decode cX10_init 81 = .ok (.aload_n 0, 1) := by decide +kernel
theorem dX10_init_82 : decode cX10_init 82 = .ok (.sipush 600, 3) := by decide +kernel
theorem dX10_init_85 : decode cX10_init 85 = .ok (.newarray .int, 2) := by decide +kernel
theorem dX10_init_87 : decode cX10_init 87 = .ok (.putfield 43, 3) := by decide +kernel
theorem dX10_init_90 : decode cX10_init 90 = .ok (.aload_n 0, 1) := by decide +kernel
theorem dX10_init_91 : decode cX10_init 91 = .ok (.iconst 3, 1) := by decide +kernel
theorem dX10_init_92 : decode cX10_init 92 = .ok (.newarray .boolean, 2) := by decide +kernel
theorem dX10_init_94 : decode cX10_init 94 = .ok (.putfield 46, 3) := by decide +kernel
theorem dX10_init_97 : decode cX10_init 97 = .ok (.aload_n 0, 1) := by decide +kernel
theorem dX10_init_98 : decode cX10_init 98 = .ok (.bipush 42, 2) := by decide +kernel
theorem dX10_init_100 : decode cX10_init 100 = .ok (.newarray .int, 2) := by decide +kernel
theorem dX10_init_102 : decode cX10_init 102 = .ok (.putfield 50, 3) := by decide +kernel
theorem dX10_init_105 : decode cX10_init 105 = .ok (.aload_n 0, 1) := by decide +kernel
theorem dX10_init_106 : decode cX10_init 106 = .ok (.bipush 42, 2) := by decide +kernel
theorem dX10_init_108 : decode cX10_init 108 = .ok (.newarray .boolean, 2) := by decide +kernel
theorem dX10_init_110 : decode cX10_init 110 = .ok (.putfield 53, 3) := by decide +kernel
theorem dX10_init_113 : decode cX10_init 113 = .ok (.aload_n 0, 1) := by decide +kernel
theorem dX10_init_114 : decode cX10_init 114 = .ok (.iconst 3, 1) := by decide +kernel
theorem dX10_init_115 : decode cX10_init 115 = .ok (.newarray .int, 2) := by decide +kernel
theorem dX10_init_117 : decode cX10_init 117 = .ok (.putfield 56, 3) := by decide +kernel
theorem dX10_init_120 : decode cX10_init 120 = .ok (.aload_n 0, 1) := by decide +kernel
theorem dX10_init_121 : decode cX10_init 121 = .ok (.iconst 3, 1) := by decide +kernel
theorem dX10_init_122 : decode cX10_init 122 = .ok (.newarray .int, 2) := by decide +kernel
theorem dX10_init_124 : decode cX10_init 124 = .ok (.putfield 59, 3) := by decide +kernel
theorem dX10_init_127 : decode cX10_init 127 = .ok (.aload_n 0, 1) := by decide +kernel
theorem dX10_init_128 : decode cX10_init 128 = .ok (.bipush 6, 2) := by decide +kernel
theorem dX10_init_130 : decode cX10_init 130 = .ok (.newarray .int, 2) := by decide +kernel
theorem dX10_init_132 : decode cX10_init 132 = .ok (.putfield 62, 3) := by decide +kernel
theorem dX10_init_135 : decode cX10_init 135 = .ok (.aload_n 0, 1) := by decide +kernel
theorem dX10_init_136 : decode cX10_init 136 = .ok (.bipush 6, 2) := by decide +kernel
theorem dX10_init_138 : decode cX10_init 138 = .ok (.newarray .int, 2) := by decide +kernel
theorem dX10_init_140 : decode cX10_init 140 = .ok (.putfield 65, 3) := by decide +kernel
theorem dX10_init_143 : decode cX10_init 143 = .ok (.aload_n 0, 1) := by decide +kernel
theorem dX10_init_144 : decode cX10_init 144 = .ok (.bipush 6, 2) := by decide +kernel
theorem dX10_init_146 : decode cX10_init 146 = .ok (.newarray .int, 2) := by decide +kernel
theorem dX10_init_148 : decode cX10_init 148 = .ok (.putfield 68, 3) := by decide +kernel
theorem dX10_init_151 : decode cX10_init 151 = .ok (.iconst 0, 1) := by decide +kernel
theorem dX10_init_152 : decode cX10_init 152 = .ok (.istore_n 1, 1) := by decide +kernel
theorem dX10_init_153 : decode cX10_init 153 = .ok (.iload_n 1, 1) := by decide +kernel
theorem dX10_init_154 : decode cX10_init 154 = .ok (.iconst 4, 1) := by decide +kernel
theorem dX10_init_155 : decode cX10_init 155 = .ok (.if_icmp .ge 16, 3) := by decide +kernel
theorem dX10_init_158 : decode cX10_init 158 = .ok (.aload_n 0, 1) := by decide +kernel
theorem dX10_init_159 : decode cX10_init 159 = .ok (.getfield 7, 3) := by decide +kernel
theorem dX10_init_162 : decode cX10_init 162 = .ok (.iload_n 1, 1) := by decide +kernel
theorem dX10_init_163 : decode cX10_init 163 = .ok (.iconst (-1), 1) := by decide +kernel
theorem dX10_init_164 : decode cX10_init 164 = .ok (.iastore, 1) := by decide +kernel
theorem dX10_init_165 : decode cX10_init 165 = .ok (.iinc 1 1, 3) := by decide +kernel
theorem dX10_init_168 : decode cX10_init 168 = .ok (.goto (-15), 3) := by decide +kernel
theorem dX10_init_171 : decode cX10_init 171 = .ok (.return_, 1) := by decide +kernel
theorem dX10_is_0 : decode cX10_is 0 = .ok (.aload_n 0, 1) := by decide +kernel
theorem dX10_is_1 : decode cX10_is 1 = .ok (.getfield 123, 3) := by decide +kernel
theorem dX10_is_4 : decode cX10_is 4 = .ok (.ifCond .ne 24, 3) := by decide +kernel
theorem dX10_is_7 : decode cX10_is 7 = .ok (.aload_n 0, 1) := by decide +kernel
theorem dX10_is_8 : decode cX10_is 8 = .ok (.getfield 112, 3) := by decide +kernel
theorem dX10_is_11 : decode cX10_is 11 = .ok (.iconst 1, 1) := by decide +kernel
theorem dX10_is_12 : decode cX10_is 12 = .ok (.if_icmp .ne 16, 3) := by decide +kernel
theorem dX10_is_15 : decode cX10_is 15 = .ok (.aload_n 0, 1) := by decide +kernel
theorem dX10_is_16 : decode cX10_is 16 = .ok (.getfield 108, 3) := by decide +kernel
theorem dX10_is_19 : decode cX10_is 19 = .ok (.lload_n 1, 1) := by decide +kernel
theorem dX10_is_20 : decode cX10_is 20 = .ok (.lcmp, 1) := by decide +kernel
theorem dX10_is_21 : decode cX10_is 21 = .ok (.ifCond .ne 7, 3) := by decide +kernel
theorem dX10_is_24 : decode cX10_is 24 = .ok (.iconst 1, 1) := by decide +kernel
theorem dX10_is_25 : decode cX10_is 25 = .ok (.goto 4, 3) := by decide +kernel
theorem dX10_is_28 : decode cX10_is 28 = .ok (.iconst 0, 1) := by decide +kernel
theorem dX10_is_29 : decode cX10_is 29 = .ok (.ireturn, 1) := by decide +kernel
theorem dX10_isBit_0 : decode cX10_isBit 0 = .ok (.iload_n 0, 1) := by decide +kernel
theorem dX10_isBit_1 : decode cX10_isBit 1 = .ok (.iload_n 1, 1) := by decide +kernel
theorem dX10_isBit_2 : decode cX10_isBit 2 = .ok (.ishr, 1) := by decide +kernel
theorem dX10_isBit_3 : decode cX10_isBit 3 = .ok (.iconst 1, 1) := by decide +kernel
theorem dX10_isBit_4 : decode cX10_isBit 4 = .ok (.iand, 1) := by decide +kernel
theorem dX10_isBit_5 : decode cX10_isBit 5 = .ok (.iconst 1, 1) := by decide +kernel
theorem dX10_isBit_6 : decode cX10_isBit 6 = .ok (.if_icmp .ne 7, 3) := by decide +kernel
theorem dX10_isBit_9 : decode cX10_isBit 9 = .ok (.iconst 1, 1) := by decide +kernel
theorem dX10_isBit_10 : decode cX10_isBit 10 = .ok (.goto 4, 3) := by decide +kernel
theorem dX10_isBit_13 : decode cX10_isBit 13 = .ok (.iconst 0, 1) := by decide +kernel
theorem dX10_isBit_14 : decode cX10_isBit 14 = .ok (.ireturn, 1) := by decide +kernel
theorem dX10_isBy_0 : decode cX10_isBy 0 = .ok (.iconst 0, 1) := by decide +kernel
theorem dX10_isBy_1 : decode cX10_isBy 1 = .ok (.istore_n 2, 1) := by decide +kernel
theorem dX10_isBy_2 : decode cX10_isBy 2 = .ok (.iload_n 2, 1) := by decide +kernel
theorem dX10_isBy_3 : decode cX10_isBy 3 = .ok (.aload_n 0, 1) := by decide +kernel
theorem dX10_isBy_4 : decode cX10_isBy 4 = .ok (.invokevirtual 225, 3) := by decide +kernel
theorem dX10_isBy_7 : decode cX10_isBy 7 = .ok (.if_icmp .ge 20, 3) := by decide +kernel
theorem dX10_isBy_10 : decode cX10_isBy 10 = .ok (.aload_n 0, 1) := by decide +kernel
theorem dX10_isBy_11 : decode cX10_isBy 11 = .ok (.iload_n 2, 1) := by decide +kernel
theorem dX10_isBy_12 : decode cX10_isBy 12 = .ok (.invokevirtual 259, 3) := by decide +kernel
theorem dX10_isBy_15 : decode cX10_isBy 15 = .ok (.iload_n 1, 1) := by decide +kernel
theorem dX10_isBy_16 : decode cX10_isBy 16 = .ok (.if_icmp .le 5, 3) := by decide +kernel
theorem dX10_isBy_19 : decode cX10_isBy 19 = .ok (.iconst 0, 1) := by decide +kernel
theorem dX10_isBy_20 : decode cX10_isBy 20 = .ok (.ireturn, 1) := by decide +kernel
theorem dX10_isBy_21 : decode cX10_isBy 21 = .ok (.iinc 2 1, 3) := by decide +kernel
theorem dX10_isBy_24 : decode cX10_isBy 24 = .ok (.goto (-22), 3) := by decide +kernel
theorem dX10_isBy_27 : decode cX10_isBy 27 = .ok (.iconst 1, 1) := by decide +kernel
theorem dX10_isBy_28 : decode cX10_isBy 28 = .ok (.ireturn, 1) := by decide +kernel
theorem dX10_isByte_0 : decode cX10_isByte 0 = .ok (.iload_n 1, 1) := by decide +kernel
theorem dX10_isByte_1 : decode cX10_isByte 1 = .ok (.aload_n 0, 1) := by decide +kernel
theorem dX10_isByte_2 : decode cX10_isByte 2 = .ok (.getfield 88, 3) := by decide +kernel
theorem dX10_isByte_5 : decode cX10_isByte 5 = .ok (.if_icmp .ge 27, 3) := by decide +kernel
theorem dX10_isByte_8 : decode cX10_isByte 8 = .ok (.aload_n 0, 1) := by decide +kernel
theorem dX10_isByte_9 : decode cX10_isByte 9 = .ok (.getfield 23, 3) := by decide +kernel
theorem dX10_isByte_12 : decode cX10_isByte 12 = .ok (.iload_n 1, 1) := by decide +kernel
theorem dX10_isByte_13 : decode cX10_isByte 13 = .ok (.baload, 1) := by decide +kernel
theorem dX10_isByte_14 : decode cX10_isByte 14 = .ok (.iload_n 2, 1) := by decide +kernel
theorem dX10_isByte_15 : decode cX10_isByte 15 = .ok (.if_icmp .lt 17, 3) := by decide +kernel
theorem dX10_isByte_18 : decode cX10_isByte 18 = .ok (.aload_n 0, 1) := by decide +kernel
theorem dX10_isByte_19 : decode cX10_isByte 19 = .ok (.getfield 23, 3) := by decide +kernel
theorem dX10_isByte_22 : decode cX10_isByte 22 = .ok (.iload_n 1, 1) := by decide +kernel
theorem dX10_isByte_23 : decode cX10_isByte 23 = .ok (.baload, 1) := by decide +kernel
theorem dX10_isByte_24 : decode cX10_isByte 24 = .ok (.iload_n 3, 1) := by decide +kernel
theorem dX10_isByte_25 : decode cX10_isByte 25 = .ok (.if_icmp .gt 7, 3) := by decide +kernel
theorem dX10_isByte_28 : decode cX10_isByte 28 = .ok (.iconst 1, 1) := by decide +kernel
theorem dX10_isByte_29 : decode cX10_isByte 29 = .ok (.goto 4, 3) := by decide +kernel
theorem dX10_isByte_32 : decode cX10_isByte 32 = .ok (.iconst 0, 1) := by decide +kernel
theorem dX10_isByte_33 : decode cX10_isByte 33 = .ok (.ireturn, 1) := by decide +kernel
theorem dX10_isClock_0 : decode cX10_isClock 0 = .ok (.lload_n 1, 1) := by decide +kernel
theorem dX10_isClock_1 : decode cX10_isClock 1 = .ok (.lconst 0, 1) := by decide +kernel
theorem dX10_isClock_2 : decode cX10_isClock 2 = .ok (.aload_n 0, 1) := by decide +kernel
theorem dX10_isClock_3 : decode cX10_isClock 3 = .ok (.invokevirtual 229, 3) := by decide +kernel
theorem dX10_isClock_6 : decode cX10_isClock 6 = .ok (.i2l, 1) := by decide +kernel
theorem dX10_isClock_7 : decode cX10_isClock 7 = .ok (.lconst 1, 1) := by decide +kernel
theorem dX10_isClock_8 : decode cX10_isClock 8 = .ok (.lsub, 1) := by decide +kernel
theorem dX10_isClock_9 : decode cX10_isClock 9 = .ok (.invokestatic 76, 3) := by decide +kernel
theorem dX10_isClock_12 : decode cX10_isClock 12 = .ok (.ireturn, 1) := by decide +kernel
theorem dX10_isDay_0 : decode cX10_isDay 0 = .ok (.lload_n 1, 1) := by decide +kernel
theorem dX10_isDay_1 : decode cX10_isDay 1 = .ok (.lconst 0, 1) := by decide +kernel
theorem dX10_isDay_2 : decode cX10_isDay 2 = .ok (.aload_n 0, 1) := by decide +kernel
theorem dX10_isDay_3 : decode cX10_isDay 3 = .ok (.invokevirtual 225, 3) := by decide +kernel
theorem dX10_isDay_6 : decode cX10_isDay 6 = .ok (.i2l, 1) := by decide +kernel
theorem dX10_isDay_7 : decode cX10_isDay 7 = .ok (.lconst 1, 1) := by decide +kernel
theorem dX10_isDay_8 : decode cX10_isDay 8 = .ok (.lsub, 1) := by decide +kernel
theorem dX10_isDay_9 : decode cX10_isDay 9 = .ok (.invokestatic 76, 3) := by decide +kernel
theorem dX10_isDay_12 : decode cX10_isDay 12 = .ok (.ireturn, 1) := by decide +kernel
theorem dX10_isGood_0 : decode cX10_isGood 0 = .ok (.aload_n 0, 1) := by decide +kernel
theorem dX10_isGood_1 : decode cX10_isGood 1 = .ok (.getfield 123, 3) := by decide +kernel
theorem dX10_isGood_4 : decode cX10_isGood 4 = .ok (.ifCond .ne 7, 3) := by decide +kernel
theorem dX10_isGood_7 : decode cX10_isGood 7 = .ok (.iconst 1, 1) := by decide +kernel
theorem dX10_isGood_8 : decode cX10_isGood 8 = .ok (.goto 4, 3) := by decide +kernel
theorem dX10_isGood_11 : decode cX10_isGood 11 = .ok (.iconst 0, 1) := by decide +kernel
theorem dX10_isGood_12 : decode cX10_isGood 12 = .ok (.ireturn, 1) := by decide +kernel
theorem dX10_isHalf_0 : decode cX10_isHalf 0 = .ok (.iload_n 0, 1) := by decide +kernel
theorem dX10_isHalf_1 : decode cX10_isHalf 1 = .ok (.i2l, 1) := by decide +kernel
theorem dX10_isHalf_2 : decode cX10_isHalf 2 = .ok (.lconst 0, 1) := by decide +kernel
theorem dX10_isHalf_3 : decode cX10_isHalf 3 = .ok (.lconst 1, 1) := by decide +kernel
theorem dX10_isHalf_4 : decode cX10_isHalf 4 = .ok (.invokestatic 76, 3) := by decide +kernel
theorem dX10_isHalf_7 : decode cX10_isHalf 7 = .ok (.ireturn, 1) := by decide +kernel
theorem dX10_isLong_0 : decode cX10_isLong 0 = .ok (.aload_n 0, 1) := by decide +kernel
theorem dX10_isLong_1 : decode cX10_isLong 1 = .ok (.invokevirtual 232, 3) := by decide +kernel
theorem dX10_isLong_4 : decode cX10_isLong 4 = .ok (.ifCond .eq 19, 3) := by decide +kernel
theorem dX10_isLong_7 : decode cX10_isLong 7 = .ok (.iload_n 1, 1) := by decide +kernel
theorem dX10_isLong_8 : decode cX10_isLong 8 = .ok (.i2l, 1) := by decide +kernel
theorem dX10_isLong_9 : decode cX10_isLong 9 = .ok (.lconst 0, 1) := by decide +kernel
theorem dX10_isLong_10 : decode cX10_isLong 10 = .ok (.ldc2_w 235, 3) := by decide +kernel
theorem dX10_isLong_13 : decode cX10_isLong 13 = .ok (.invokestatic 76, 3) := by decide +kernel
theorem dX10_isLong_16 : decode cX10_isLong 16 = .ok (.ifCond .eq 7, 3) := by decide +kernel
theorem dX10_isLong_19 : decode cX10_isLong 19 = .ok (.iconst 1, 1) := by decide +kernel
theorem dX10_isLong_20 : decode cX10_isLong 20 = .ok (.goto 4, 3) := by decide +kernel
theorem dX10_isLong_23 : decode cX10_isLong 23 = .ok (.iconst 0, 1) := by decide +kernel
theorem dX10_isLong_24 : decode cX10_isLong 24 = .ok (.ireturn, 1) := by decide +kernel
theorem dX10_isMends_0 : decode cX10_isMends 0 = .ok (.aload_n 0, 1) := by decide +kernel
theorem dX10_isMends_1 : decode cX10_isMends 1 = .ok (.invokevirtual 232, 3) := by decide +kernel
theorem dX10_isMends_4 : decode cX10_isMends 4 = .ok (.ifCond .eq 19, 3) := by decide +kernel
theorem dX10_isMends_7 : decode cX10_isMends 7 = .ok (.iload_n 1, 1) := by decide +kernel
theorem dX10_isMends_8 : decode cX10_isMends 8 = .ok (.i2l, 1) := by decide +kernel
theorem dX10_isMends_9 : decode cX10_isMends 9 = .ok (.lconst 0, 1) := by decide +kernel
theorem dX10_isMends_10 : decode cX10_isMends 10 = .ok (.ldc2_w 74, 3) := by decide +kernel
theorem dX10_isMends_13 : decode cX10_isMends 13 = .ok (.invokestatic 76, 3) := by decide +kernel
theorem dX10_isMends_16 : decode cX10_isMends 16 = .ok (.ifCond .eq 7, 3) := by decide +kernel
theorem dX10_isMends_19 : decode cX10_isMends 19 = .ok (.iconst 1, 1) := by decide +kernel
theorem dX10_isMends_20 : decode cX10_isMends 20 = .ok (.goto 4, 3) := by decide +kernel
theorem dX10_isMends_23 : decode cX10_isMends 23 = .ok (.iconst 0, 1) := by decide +kernel
theorem dX10_isMends_24 : decode cX10_isMends 24 = .ok (.ireturn, 1) := by decide +kernel
theorem dX10_isOver_0 : decode cX10_isOver 0 = .ok (.aload_n 0, 1) := by decide +kernel
theorem dX10_isOver_1 : decode cX10_isOver 1 = .ok (.iconst 0, 1) := by decide +kernel
theorem dX10_isOver_2 : decode cX10_isOver 2 = .ok (.putfield 88, 3) := by decide +kernel
theorem dX10_isOver_5 : decode cX10_isOver 5 = .ok (.aload_n 0, 1) := by decide +kernel
theorem dX10_isOver_6 : decode cX10_isOver 6 = .ok (.aload_n 0, 1) := by decide +kernel
theorem dX10_isOver_7 : decode cX10_isOver 7 = .ok (.getfield 123, 3) := by decide +kernel
theorem dX10_isOver_10 : decode cX10_isOver 10 = .ok (.putfield 150, 3) := by decide +kernel
theorem dX10_isOver_13 : decode cX10_isOver 13 = .ok (.aload_n 0, 1) := by decide +kernel
theorem dX10_isOver_14 : decode cX10_isOver 14 = .ok (.aload_n 0, 1) := by decide +kernel
theorem dX10_isOver_15 : decode cX10_isOver 15 = .ok (.getfield 123, 3) := by decide +kernel
theorem dX10_isOver_18 : decode cX10_isOver 18 = .ok (.ifCond .ne 7, 3) := by decide +kernel
theorem dX10_isOver_21 : decode cX10_isOver 21 = .ok (.iconst (-1), 1) := by decide +kernel
theorem dX10_isOver_22 : decode cX10_isOver 22 = .ok (.goto 7, 3) := by decide +kernel
theorem dX10_isOver_25 : decode cX10_isOver 25 = .ok (.aload_n 0, 1) := by decide +kernel
theorem dX10_isOver_26 : decode cX10_isOver 26 = .ok (.getfield 126, 3) := by decide +kernel
theorem dX10_isOver_29 : decode cX10_isOver 29 = .ok (.putfield 27, 3) := by decide +kernel
theorem dX10_isOver_32 : decode cX10_isOver 32 = .ok (.return_, 1) := by decide +kernel
theorem dX10_isRace_0 : decode cX10_isRace 0 = .ok (.aload_n 0, 1) := by decide +kernel
theorem dX10_isRace_1 : decode cX10_isRace 1 = .ok (.iload_n 1, 1) := by decide +kernel
theorem dX10_isRace_2 : decode cX10_isRace 2 = .ok (.i2l, 1) := by decide +kernel
theorem dX10_isRace_3 : decode cX10_isRace 3 = .ok (.invokevirtual 267, 3) := by decide +kernel
theorem dX10_isRace_6 : decode cX10_isRace 6 = .ok (.ifCond .eq 26, 3) := by decide +kernel
theorem dX10_isRace_9 : decode cX10_isRace 9 = .ok (.aload_n 0, 1) := by decide +kernel
theorem dX10_isRace_10 : decode cX10_isRace 10 = .ok (.iload_n 2, 1) := by decide +kernel
theorem dX10_isRace_11 : decode cX10_isRace 11 = .ok (.i2l, 1) := by decide +kernel
theorem dX10_isRace_12 : decode cX10_isRace 12 = .ok (.invokevirtual 267, 3) := by decide +kernel
theorem dX10_isRace_15 : decode cX10_isRace 15 = .ok (.ifCond .eq 17, 3) := by decide +kernel
theorem dX10_isRace_18 : decode cX10_isRace 18 = .ok (.iload_n 1, 1) := by decide +kernel
theorem dX10_isRace_19 : decode cX10_isRace 19 = .ok (.iload_n 2, 1) := by decide +kernel
theorem dX10_isRace_20 : decode cX10_isRace 20 = .ok (.if_icmp .eq 12, 3) := by decide +kernel
theorem dX10_isRace_23 : decode cX10_isRace 23 = .ok (.aload_n 0, 1) := by decide +kernel
theorem dX10_isRace_24 : decode cX10_isRace 24 = .ok (.iload_n 3, 1) := by decide +kernel
theorem dX10_isRace_25 : decode cX10_isRace 25 = .ok (.i2l, 1) := by decide +kernel
theorem dX10_isRace_26 : decode cX10_isRace 26 = .ok (.invokevirtual 272, 3) := by decide +kernel
theorem dX10_isRace_29 : decode cX10_isRace 29 = .ok (.ifCond .ne 5, 3) := by decide +kernel
theorem dX10_isRace_32 : decode cX10_isRace 32 = .ok (.iconst 0, 1) := by decide +kernel
theorem dX10_isRace_33 : decode cX10_isRace 33 = .ok (.ireturn, 1) := by decide +kernel
theorem dX10_isRace_34 : decode cX10_isRace 34 = .ok (.aload_n 0, 1) := by decide +kernel
theorem dX10_isRace_35 : decode cX10_isRace 35 = .ok (.invokevirtual 275, 3) := by decide +kernel
theorem dX10_isRace_38 : decode cX10_isRace 38 = .ok (.aload_n 0, 1) := by decide +kernel
theorem dX10_isRace_39 : decode cX10_isRace 39 = .ok (.getfield 53, 3) := by decide +kernel
theorem dX10_isRace_42 : decode cX10_isRace 42 = .ok (.bipush 6, 2) := by decide +kernel
theorem dX10_isRace_44 : decode cX10_isRace 44 = .ok (.iload_n 3, 1) := by decide +kernel
theorem dX10_isRace_45 : decode cX10_isRace 45 = .ok (.imul, 1) := by decide +kernel
theorem dX10_isRace_46 : decode cX10_isRace 46 = .ok (.iload_n 1, 1) := by decide +kernel
theorem dX10_isRace_47 : decode cX10_isRace 47 = .ok (.iadd, 1) := by decide +kernel
theorem dX10_isRace_48 : decode cX10_isRace 48 = .ok (.baload, 1) := by decide +kernel
theorem dX10_isRace_49 : decode cX10_isRace 49 = .ok (.ifCond .eq 55, 3) := by decide +kernel
theorem dX10_isRace_52 : decode cX10_isRace 52 = .ok (.aload_n 0, 1) := by decide +kernel
theorem dX10_isRace_53 : decode cX10_isRace 53 = .ok (.getfield 53, 3) := by decide +kernel
theorem dX10_isRace_56 : decode cX10_isRace 56 = .ok (.bipush 6, 2) := by decide +kernel
theorem dX10_isRace_58 : decode cX10_isRace 58 = .ok (.iload_n 3, 1) := by decide +kernel
theorem dX10_isRace_59 : decode cX10_isRace 59 = .ok (.imul, 1) := by decide +kernel
theorem dX10_isRace_60 : decode cX10_isRace 60 = .ok (.iload_n 2, 1) := by decide +kernel
theorem dX10_isRace_61 : decode cX10_isRace 61 = .ok (.iadd, 1) := by decide +kernel
theorem dX10_isRace_62 : decode cX10_isRace 62 = .ok (.baload, 1) := by decide +kernel
theorem dX10_isRace_63 : decode cX10_isRace 63 = .ok (.ifCond .eq 41, 3) := by decide +kernel
theorem dX10_isRace_66 : decode cX10_isRace 66 = .ok (.aload_n 0, 1) := by decide +kernel
theorem dX10_isRace_67 : decode cX10_isRace 67 = .ok (.getfield 50, 3) := by decide +kernel
theorem dX10_isRace_70 : decode cX10_isRace 70 = .ok (.bipush 6, 2) := by decide +kernel
theorem dX10_isRace_72 : decode cX10_isRace 72 = .ok (.iload_n 3, 1) := by decide +kernel
theorem dX10_isRace_73 : decode cX10_isRace 73 = .ok (.imul, 1) := by decide +kernel
theorem dX10_isRace_74 : decode cX10_isRace 74 = .ok (.iload_n 1, 1) := by decide +kernel
theorem dX10_isRace_75 : decode cX10_isRace 75 = .ok (.iadd, 1) := by decide +kernel
theorem dX10_isRace_76 : decode cX10_isRace 76 = .ok (.iaload, 1) := by decide +kernel
theorem dX10_isRace_77 : decode cX10_isRace 77 = .ok (.sipush 10000, 3) := by decide +kernel
theorem dX10_isRace_80 : decode cX10_isRace 80 = .ok (.if_icmp .eq 24, 3) := by decide +kernel
theorem dX10_isRace_83 : decode cX10_isRace 83 = .ok (.aload_n 0, 1) := by decide +kernel
theorem dX10_isRace_84 : decode cX10_isRace 84 = .ok (.getfield 50, 3) := by decide +kernel
theorem dX10_isRace_87 : decode cX10_isRace 87 = .ok (.bipush 6, 2) := by decide +kernel
theorem dX10_isRace_89 : decode cX10_isRace 89 = .ok (.iload_n 3, 1) := by decide +kernel
theorem dX10_isRace_90 : decode cX10_isRace 90 = .ok (.imul, 1) := by decide +kernel
theorem dX10_isRace_91 : decode cX10_isRace 91 = .ok (.iload_n 2, 1) := by decide +kernel
theorem dX10_isRace_92 : decode cX10_isRace 92 = .ok (.iadd, 1) := by decide +kernel
theorem dX10_isRace_93 : decode cX10_isRace 93 = .ok (.iaload, 1) := by decide +kernel
theorem dX10_isRace_94 : decode cX10_isRace 94 = .ok (.sipush 10000, 3) := by decide +kernel
theorem dX10_isRace_97 : decode cX10_isRace 97 = .ok (.if_icmp .eq 7, 3) := by decide +kernel
theorem dX10_isRace_100 : decode cX10_isRace 100 = .ok (.iconst 1, 1) := by decide +kernel
theorem dX10_isRace_101 : decode cX10_isRace 101 = .ok (.goto 4, 3) := by decide +kernel
theorem dX10_isRace_104 : decode cX10_isRace 104 = .ok (.iconst 0, 1) := by decide +kernel
theorem dX10_isRace_105 : decode cX10_isRace 105 = .ok (.ireturn, 1) := by decide +kernel
theorem dX10_isRest_0 : decode cX10_isRest 0 = .ok (.aload_n 0, 1) := by decide +kernel
theorem dX10_isRest_1 : decode cX10_isRest 1 = .ok (.iconst 0, 1) := by decide +kernel
theorem dX10_isRest_2 : decode cX10_isRest 2 = .ok (.iload_n 1, 1) := by decide +kernel
theorem dX10_isRest_3 : decode cX10_isRest 3 = .ok (.iload_n 2, 1) := by decide +kernel
theorem dX10_isRest_4 : decode cX10_isRest 4 = .ok (.iload_n 3, 1) := by decide +kernel
theorem dX10_isRest_5 : decode cX10_isRest 5 = .ok (.iload 4, 2) := by decide +kernel
theorem dX10_isRest_7 : decode cX10_isRest 7 = .ok (.iload 5, 2) := by decide +kernel
theorem dX10_isRest_9 : decode cX10_isRest 9 = .ok (.invokevirtual 362, 3) := by decide +kernel
theorem dX10_isRest_12 : decode cX10_isRest 12 = .ok (.istore 6, 2) := by decide +kernel
theorem dX10_isRest_14 : decode cX10_isRest 14 = .ok (.aload_n 0, 1) := by decide +kernel
theorem dX10_isRest_15 : decode cX10_isRest 15 = .ok (.iconst 1, 1) := by decide +kernel
theorem dX10_isRest_16 : decode cX10_isRest 16 = .ok (.iload_n 1, 1) := by decide +kernel
theorem dX10_isRest_17 : decode cX10_isRest 17 = .ok (.iload_n 2, 1) := by decide +kernel
theorem dX10_isRest_18 : decode cX10_isRest 18 = .ok (.iload_n 3, 1) := by decide +kernel
theorem dX10_isRest_19 : decode cX10_isRest 19 = .ok (.iload 4, 2) := by decide +kernel
theorem dX10_isRest_21 : decode cX10_isRest 21 = .ok (.iload 5, 2) := by decide +kernel
theorem dX10_isRest_23 : decode cX10_isRest 23 = .ok (.invokevirtual 362, 3) := by decide +kernel
theorem dX10_isRest_26 : decode cX10_isRest 26 = .ok (.istore 7, 2) := by decide +kernel
theorem dX10_isRest_28 : decode cX10_isRest 28 = .ok (.iconst 0, 1) := by decide +kernel
theorem dX10_isRest_29 : decode cX10_isRest 29 = .ok (.istore 8, 2) := by decide +kernel
theorem dX10_isRest_31 : decode cX10_isRest 31 = .ok (.iload 8, 2) := by decide +kernel
theorem dX10_isRest_33 : decode cX10_isRest 33 = .ok (.iconst 5, 1) := by decide +kernel
theorem dX10_isRest_34 : decode cX10_isRest 34 = .ok (.if_icmp .gt 45, 3) := by decide +kernel
theorem dX10_isRest_37 : decode cX10_isRest 37 = .ok (.aload_n 0, 1) := by decide +kernel
theorem dX10_isRest_38 : decode cX10_isRest 38 = .ok (.iconst 0, 1) := by decide +kernel
theorem dX10_isRest_39 : decode cX10_isRest 39 = .ok (.iload_n 1, 1) := by decide +kernel
theorem dX10_isRest_40 : decode cX10_isRest 40 = .ok (.iload_n 2, 1) := by decide +kernel
theorem dX10_isRest_41 : decode cX10_isRest 41 = .ok (.iload_n 3, 1) := by decide +kernel
theorem dX10_isRest_42 : decode cX10_isRest 42 = .ok (.iload 8, 2) := by decide +kernel
theorem dX10_isRest_44 : decode cX10_isRest 44 = .ok (.iload 5, 2) := by decide +kernel
theorem dX10_isRest_46 : decode cX10_isRest 46 = .ok (.invokevirtual 362, 3) := by decide +kernel
theorem dX10_isRest_49 : decode cX10_isRest 49 = .ok (.iload 6, 2) := by decide +kernel
theorem dX10_isRest_51 : decode cX10_isRest 51 = .ok (.if_icmp .gt 20, 3) := by decide +kernel
theorem dX10_isRest_54 : decode cX10_isRest 54 = .ok (.aload_n 0, 1) := by decide +kernel
theorem dX10_isRest_55 : decode cX10_isRest 55 = .ok (.iconst 1, 1) := by decide +kernel
theorem dX10_isRest_56 : decode cX10_isRest 56 = .ok (.iload_n 1, 1) := by decide +kernel
theorem dX10_isRest_57 : decode cX10_isRest 57 = .ok (.iload_n 2, 1) := by decide +kernel
theorem dX10_isRest_58 : decode cX10_isRest 58 = .ok (.iload_n 3, 1) := by decide +kernel
theorem dX10_isRest_59 : decode cX10_isRest 59 = .ok (.iload 4, 2) := by decide +kernel
theorem dX10_isRest_61 : decode cX10_isRest 61 = .ok (.iload 8, 2) := by decide +kernel
theorem dX10_isRest_63 : decode cX10_isRest 63 = .ok (.invokevirtual 362, 3) := by decide +kernel
theorem dX10_isRest_66 : decode cX10_isRest 66 = .ok (.iload 7, 2) := by decide +kernel
theorem dX10_isRest_68 : decode cX10_isRest 68 = .ok (.if_icmp .le 5, 3) := by decide +kernel
theorem dX10_isRest_71 : decode cX10_isRest 71 = .ok (.iconst 0, 1) := by decide +kernel
theorem dX10_isRest_72 : decode cX10_isRest 72 = .ok (.ireturn, 1) := by decide +kernel
theorem dX10_isRest_73 : decode cX10_isRest 73 = .ok (.iinc 8 1, 3) := by decide +kernel
theorem dX10_isRest_76 : decode cX10_isRest 76 = .ok (.goto (-45), 3) := by decide +kernel
theorem dX10_isRest_79 : decode cX10_isRest 79 = .ok (.iconst 1, 1) := by decide +kernel
theorem dX10_isRest_80 : decode cX10_isRest 80 = .ok (.ireturn, 1) := by decide +kernel
theorem dX10_isRoom_0 : decode cX10_isRoom 0 = .ok (.iload_n 1, 1) := by decide +kernel
theorem dX10_isRoom_1 : decode cX10_isRoom 1 = .ok (.ifCond .eq 17, 3) := by decide +kernel
theorem dX10_isRoom_4 : decode cX10_isRoom 4 = .ok (.aload_n 0, 1) := by decide +kernel
theorem dX10_isRoom_5 : decode cX10_isRoom 5 = .ok (.iload_n 2, 1) := by decide +kernel
theorem dX10_isRoom_6 : decode cX10_isRoom 6 = .ok (.invokevirtual 153, 3) := by decide +kernel
theorem dX10_isRoom_9 : decode cX10_isRoom 9 = .ok (.iload_n 3, 1) := by decide +kernel
theorem dX10_isRoom_10 : decode cX10_isRoom 10 = .ok (.if_icmp .ne 8, 3) := by decide +kernel
theorem dX10_isRoom_13 : decode cX10_isRoom 13 = .ok (.aload_n 0, 1) := by decide +kernel
theorem dX10_isRoom_14 : decode cX10_isRoom 14 = .ok (.iconst 3, 1) := by decide +kernel
theorem dX10_isRoom_15 : decode cX10_isRoom 15 = .ok (.invokevirtual 139, 3) := by decide +kernel
theorem dX10_isRoom_18 : decode cX10_isRoom 18 = .ok (.iload_n 1, 1) := by decide +kernel
theorem dX10_isRoom_19 : decode cX10_isRoom 19 = .ok (.ifCond .eq 14, 3) := by decide +kernel
theorem dX10_isRoom_22 : decode cX10_isRoom 22 = .ok (.aload_n 0, 1) := by decide +kernel
theorem dX10_isRoom_23 : decode cX10_isRoom 23 = .ok (.getfield 123, 3) := by decide +kernel
theorem dX10_isRoom_26 : decode cX10_isRoom 26 = .ok (.ifCond .ne 7, 3) := by decide +kernel
theorem dX10_isRoom_29 : decode cX10_isRoom 29 = .ok (.aload_n 0, 1) := by decide +kernel
theorem dX10_isRoom_30 : decode cX10_isRoom 30 = .ok (.invokevirtual 133, 3) := by decide +kernel
theorem dX10_isRoom_33 : decode cX10_isRoom 33 = .ok (.iload_n 1, 1) := by decide +kernel
theorem dX10_isRoom_34 : decode cX10_isRoom 34 = .ok (.ifCond .eq 14, 3) := by decide +kernel
theorem dX10_isRoom_37 : decode cX10_isRoom 37 = .ok (.aload_n 0, 1) := by decide +kernel
theorem dX10_isRoom_38 : decode cX10_isRoom 38 = .ok (.getfield 123, 3) := by decide +kernel
theorem dX10_isRoom_41 : decode cX10_isRoom 41 = .ok (.ifCond .ne 7, 3) := by decide +kernel
theorem dX10_isRoom_44 : decode cX10_isRoom 44 = .ok (.iconst 1, 1) := by decide +kernel
theorem dX10_isRoom_45 : decode cX10_isRoom 45 = .ok (.goto 4, 3) := by decide +kernel
theorem dX10_isRoom_48 : decode cX10_isRoom 48 = .ok (.iconst 0, 1) := by decide +kernel
theorem dX10_isRoom_49 : decode cX10_isRoom 49 = .ok (.ireturn, 1) := by decide +kernel
theorem dX10_isSeed_0 : decode cX10_isSeed 0 = .ok (.iload_n 0, 1) := by decide +kernel
theorem dX10_isSeed_1 : decode cX10_isSeed 1 = .ok (.i2l, 1) := by decide +kernel
theorem dX10_isSeed_2 : decode cX10_isSeed 2 = .ok (.lconst 0, 1) := by decide +kernel
theorem dX10_isSeed_3 : decode cX10_isSeed 3 = .ok (.ldc2_w 425, 3) := by decide +kernel
theorem dX10_isSeed_6 : decode cX10_isSeed 6 = .ok (.invokestatic 76, 3) := by decide +kernel
theorem dX10_isSeed_9 : decode cX10_isSeed 9 = .ok (.ireturn, 1) := by decide +kernel
theorem dX10_isSlot_0 : decode cX10_isSlot 0 = .ok (.iload_n 0, 1) := by decide +kernel
theorem dX10_isSlot_1 : decode cX10_isSlot 1 = .ok (.i2l, 1) := by decide +kernel
theorem dX10_isSlot_2 : decode cX10_isSlot 2 = .ok (.lconst 0, 1) := by decide +kernel
theorem dX10_isSlot_3 : decode cX10_isSlot 3 = .ok (.ldc2_w 74, 3) := by decide +kernel
theorem dX10_isSlot_6 : decode cX10_isSlot 6 = .ok (.invokestatic 76, 3) := by decide +kernel
theorem dX10_isSlot_9 : decode cX10_isSlot 9 = .ok (.ireturn, 1) := by decide +kernel
theorem dX10_isTogether_0 : decode cX10_isTogether 0 = .ok (.aload_n 0, 1) := by decide +kernel
theorem dX10_isTogether_1 : decode cX10_isTogether 1 = .ok (.getfield 53, 3) := by decide +kernel
theorem dX10_isTogether_4 : decode cX10_isTogether 4 = .ok (.bipush 6, 2) := by decide +kernel
theorem dX10_isTogether_6 : decode cX10_isTogether 6 = .ok (.iload_n 1, 1) := by decide +kernel
theorem dX10_isTogether_7 : decode cX10_isTogether 7 = .ok (.imul, 1) := by decide +kernel
theorem dX10_isTogether_8 : decode cX10_isTogether 8 = .ok (.iload_n 3, 1) := by decide +kernel
theorem dX10_isTogether_9 : decode cX10_isTogether 9 = .ok (.iadd, 1) := by decide +kernel
theorem dX10_isTogether_10 : decode cX10_isTogether 10 = .ok (.baload, 1) := by decide +kernel
theorem dX10_isTogether_11 : decode cX10_isTogether 11 = .ok (.ifCond .eq 32, 3) := by decide +kernel
theorem dX10_isTogether_14 : decode cX10_isTogether 14 = .ok (.aload_n 0, 1) := by decide +kernel
theorem dX10_isTogether_15 : decode cX10_isTogether 15 = .ok (.getfield 50, 3) := by decide +kernel
theorem dX10_isTogether_18 : decode cX10_isTogether 18 = .ok (.bipush 6, 2) := by decide +kernel
theorem dX10_isTogether_20 : decode cX10_isTogether 20 = .ok (.iload_n 1, 1) := by decide +kernel
theorem dX10_isTogether_21 : decode cX10_isTogether 21 = .ok (.imul, 1) := by decide +kernel
theorem dX10_isTogether_22 : decode cX10_isTogether 22 = .ok (.iload_n 3, 1) := by decide +kernel
theorem dX10_isTogether_23 : decode cX10_isTogether 23 = .ok (.iadd, 1) := by decide +kernel
theorem dX10_isTogether_24 : decode cX10_isTogether 24 = .ok (.iaload, 1) := by decide +kernel
theorem dX10_isTogether_25 : decode cX10_isTogether 25 = .ok (.aload_n 0, 1) := by decide +kernel
theorem dX10_isTogether_26 : decode cX10_isTogether 26 = .ok (.getfield 50, 3) := by decide +kernel
theorem dX10_isTogether_29 : decode cX10_isTogether 29 = .ok (.bipush 6, 2) := by decide +kernel
theorem dX10_isTogether_31 : decode cX10_isTogether 31 = .ok (.iload_n 1, 1) := by decide +kernel
theorem dX10_isTogether_32 : decode cX10_isTogether 32 = .ok (.imul, 1) := by decide +kernel
theorem dX10_isTogether_33 : decode cX10_isTogether 33 = .ok (.iload_n 2, 1) := by decide +kernel
theorem dX10_isTogether_34 : decode cX10_isTogether 34 = .ok (.iadd, 1) := by decide +kernel
theorem dX10_isTogether_35 : decode cX10_isTogether 35 = .ok (.iaload, 1) := by decide +kernel
theorem dX10_isTogether_36 : decode cX10_isTogether 36 = .ok (.if_icmp .ne 7, 3) := by decide +kernel
theorem dX10_isTogether_39 : decode cX10_isTogether 39 = .ok (.iconst 1, 1) := by decide +kernel
theorem dX10_isTogether_40 : decode cX10_isTogether 40 = .ok (.goto 4, 3) := by decide +kernel
theorem dX10_isTogether_43 : decode cX10_isTogether 43 = .ok (.iconst 0, 1) := by decide +kernel
theorem dX10_isTogether_44 : decode cX10_isTogether 44 = .ok (.ireturn, 1) := by decide +kernel
theorem dX10_isTown_0 : decode cX10_isTown 0 = .ok (.aload_n 0, 1) := by decide +kernel
theorem dX10_isTown_1 : decode cX10_isTown 1 = .ok (.getfield 31, 3) := by decide +kernel
theorem dX10_isTown_4 : decode cX10_isTown 4 = .ok (.iconst 0, 1) := by decide +kernel
theorem dX10_isTown_5 : decode cX10_isTown 5 = .ok (.iaload, 1) := by decide +kernel
theorem dX10_isTown_6 : decode cX10_isTown 6 = .ok (.ifCond .le 7, 3) := by decide +kernel
theorem dX10_isTown_9 : decode cX10_isTown 9 = .ok (.iconst 1, 1) := by decide +kernel
theorem dX10_isTown_10 : decode cX10_isTown 10 = .ok (.goto 4, 3) := by decide +kernel
theorem dX10_isTown_13 : decode cX10_isTown 13 = .ok (.iconst 0, 1) := by decide +kernel
theorem dX10_isTown_14 : decode cX10_isTown 14 = .ok (.ireturn, 1) := by decide +kernel
theorem dX10_isUnder_0 : decode cX10_isUnder 0 = .ok (.iconst 0, 1) := by decide +kernel
theorem dX10_isUnder_1 : decode cX10_isUnder 1 = .ok (.istore 4, 2) := by decide +kernel
theorem dX10_isUnder_3 : decode cX10_isUnder 3 = .ok (.iload 4, 2) := by decide +kernel
theorem dX10_isUnder_5 : decode cX10_isUnder 5 = .ok (.aload_n 0, 1) := by decide +kernel
theorem dX10_isUnder_6 : decode cX10_isUnder 6 = .ok (.getfield 13, 3) := by decide +kernel
theorem dX10_isUnder_9 : decode cX10_isUnder 9 = .ok (.iload_n 1, 1) := by decide +kernel
theorem dX10_isUnder_10 : decode cX10_isUnder 10 = .ok (.iaload, 1) := by decide +kernel
theorem dX10_isUnder_11 : decode cX10_isUnder 11 = .ok (.if_icmp .ge 88, 3) := by decide +kernel
theorem dX10_isUnder_14 : decode cX10_isUnder 14 = .ok (.aload_n 0, 1) := by decide +kernel
theorem dX10_isUnder_15 : decode cX10_isUnder 15 = .ok (.getfield 16, 3) := by decide +kernel
theorem dX10_isUnder_18 : decode cX10_isUnder 18 = .ok (.bipush 60, 2) := by decide +kernel
theorem dX10_isUnder_20 : decode cX10_isUnder 20 = .ok (.iload_n 1, 1) := by decide +kernel
theorem dX10_isUnder_21 : decode cX10_isUnder 21 = .ok (.imul, 1) := by decide +kernel
theorem dX10_isUnder_22 : decode cX10_isUnder 22 = .ok (.iload 4, 2) := by decide +kernel
theorem dX10_isUnder_24 : decode cX10_isUnder 24 = .ok (.iadd, 1) := by decide +kernel
theorem dX10_isUnder_25 : decode cX10_isUnder 25 = .ok (.laload, 1) := by decide +kernel
theorem dX10_isUnder_26 : decode cX10_isUnder 26 = .ok (.l2i, 1) := by decide +kernel
theorem dX10_isUnder_27 : decode cX10_isUnder 27 = .ok (.istore 5, 2) := by decide +kernel
theorem dX10_isUnder_29 : decode cX10_isUnder 29 = .ok (.iload_n 2, 1) := by decide +kernel
theorem dX10_isUnder_30 : decode cX10_isUnder 30 = .ok (.iload_n 3, 1) := by decide +kernel
theorem dX10_isUnder_31 : decode cX10_isUnder 31 = .ok (.iload 5, 2) := by decide +kernel
theorem dX10_isUnder_33 : decode cX10_isUnder 33 = .ok (.imul, 1) := by decide +kernel
theorem dX10_isUnder_34 : decode cX10_isUnder 34 = .ok (.iadd, 1) := by decide +kernel
theorem dX10_isUnder_35 : decode cX10_isUnder 35 = .ok (.istore 6, 2) := by decide +kernel
theorem dX10_isUnder_37 : decode cX10_isUnder 37 = .ok (.aload_n 0, 1) := by decide +kernel
theorem dX10_isUnder_38 : decode cX10_isUnder 38 = .ok (.iload 5, 2) := by decide +kernel
theorem dX10_isUnder_40 : decode cX10_isUnder 40 = .ok (.invokevirtual 253, 3) := by decide +kernel
theorem dX10_isUnder_43 : decode cX10_isUnder 43 = .ok (.ifCond .eq 14, 3) := by decide +kernel
theorem dX10_isUnder_46 : decode cX10_isUnder 46 = .ok (.aload_n 0, 1) := by decide +kernel
theorem dX10_isUnder_47 : decode cX10_isUnder 47 = .ok (.iload 5, 2) := by decide +kernel
theorem dX10_isUnder_49 : decode cX10_isUnder 49 = .ok (.invokevirtual 259, 3) := by decide +kernel
theorem dX10_isUnder_52 : decode cX10_isUnder 52 = .ok (.iload 6, 2) := by decide +kernel
theorem dX10_isUnder_54 : decode cX10_isUnder 54 = .ok (.if_icmp .ge 8, 3) := by decide +kernel
theorem dX10_isUnder_57 : decode cX10_isUnder 57 = .ok (.iload 6, 2) := by decide +kernel
theorem dX10_isUnder_59 : decode cX10_isUnder 59 = .ok (.goto 9, 3) := by decide +kernel
theorem dX10_isUnder_62 : decode cX10_isUnder 62 = .ok (.aload_n 0, 1) := by decide +kernel
theorem dX10_isUnder_63 : decode cX10_isUnder 63 = .ok (.iload 5, 2) := by decide +kernel
theorem dX10_isUnder_65 : decode cX10_isUnder 65 = .ok (.invokevirtual 259, 3) := by decide +kernel
theorem dX10_isUnder_68 : decode cX10_isUnder 68 = .ok (.istore 7, 2) := by decide +kernel
theorem dX10_isUnder_70 : decode cX10_isUnder 70 = .ok (.iload 7, 2) := by decide +kernel
theorem dX10_isUnder_72 : decode cX10_isUnder 72 = .ok (.i2l, 1) := by decide +kernel
theorem dX10_isUnder_73 : decode cX10_isUnder 73 = .ok (.aload_n 0, 1) := by decide +kernel
theorem dX10_isUnder_74 : decode cX10_isUnder 74 = .ok (.getfield 16, 3) := by decide +kernel
theorem dX10_isUnder_77 : decode cX10_isUnder 77 = .ok (.bipush 60, 2) := by decide +kernel
theorem dX10_isUnder_79 : decode cX10_isUnder 79 = .ok (.iload_n 1, 1) := by decide +kernel
theorem dX10_isUnder_80 : decode cX10_isUnder 80 = .ok (.imul, 1) := by decide +kernel
theorem dX10_isUnder_81 : decode cX10_isUnder 81 = .ok (.iload 4, 2) := by decide +kernel
theorem dX10_isUnder_83 : decode cX10_isUnder 83 = .ok (.iadd, 1) := by decide +kernel
theorem dX10_isUnder_84 : decode cX10_isUnder 84 = .ok (.iconst 1, 1) := by decide +kernel
theorem dX10_isUnder_85 : decode cX10_isUnder 85 = .ok (.iadd, 1) := by decide +kernel
theorem dX10_isUnder_86 : decode cX10_isUnder 86 = .ok (.laload, 1) := by decide +kernel
theorem dX10_isUnder_87 : decode cX10_isUnder 87 = .ok (.lcmp, 1) := by decide +kernel
theorem dX10_isUnder_88 : decode cX10_isUnder 88 = .ok (.ifCond .eq 5, 3) := by decide +kernel
theorem dX10_isUnder_91 : decode cX10_isUnder 91 = .ok (.iconst 0, 1) := by decide +kernel
theorem dX10_isUnder_92 : decode cX10_isUnder 92 = .ok (.ireturn, 1) := by decide +kernel
theorem dX10_isUnder_93 : decode cX10_isUnder 93 = .ok (.iinc 4 2, 3) := by decide +kernel
theorem dX10_isUnder_96 : decode cX10_isUnder 96 = .ok (.goto (-93), 3) := by decide +kernel
theorem dX10_isUnder_99 : decode cX10_isUnder 99 = .ok (.iconst 1, 1) := by decide +kernel
theorem dX10_isUnder_100 : decode cX10_isUnder 100 = .ok (.ireturn, 1) := by decide +kernel
theorem dX10_lastBy_0 : decode cX10_lastBy 0 = .ok (.iconst 0, 1) := by decide +kernel
theorem dX10_lastBy_1 : decode cX10_lastBy 1 = .ok (.istore 4, 2) := by decide +kernel
theorem dX10_lastBy_3 : decode cX10_lastBy 3 = .ok (.iload 4, 2) := by decide +kernel
theorem dX10_lastBy_5 : decode cX10_lastBy 5 = .ok (.aload_n 0, 1) := by decide +kernel
theorem dX10_lastBy_6 : decode cX10_lastBy 6 = .ok (.invokevirtual 229, 3) := by decide +kernel
theorem dX10_lastBy_9 : decode cX10_lastBy 9 = .ok (.if_icmp .ge 39, 3) := by decide +kernel
theorem dX10_lastBy_12 : decode cX10_lastBy 12 = .ok (.aload_n 0, 1) := by decide +kernel
theorem dX10_lastBy_13 : decode cX10_lastBy 13 = .ok (.getfield 50, 3) := by decide +kernel
theorem dX10_lastBy_16 : decode cX10_lastBy 16 = .ok (.bipush 6, 2) := by decide +kernel
theorem dX10_lastBy_18 : decode cX10_lastBy 18 = .ok (.iload_n 1, 1) := by decide +kernel
theorem dX10_lastBy_19 : decode cX10_lastBy 19 = .ok (.imul, 1) := by decide +kernel
theorem dX10_lastBy_20 : decode cX10_lastBy 20 = .ok (.iload 4, 2) := by decide +kernel
theorem dX10_lastBy_22 : decode cX10_lastBy 22 = .ok (.iadd, 1) := by decide +kernel
theorem dX10_lastBy_23 : decode cX10_lastBy 23 = .ok (.dup2, 1) := by decide +kernel
theorem dX10_lastBy_24 : decode cX10_lastBy 24 = .ok (.iaload, 1) := by decide +kernel
theorem dX10_lastBy_25 : decode cX10_lastBy 25 = .ok (.iload_n 3, 1) := by decide +kernel
theorem dX10_lastBy_26 : decode cX10_lastBy 26 = .ok (.iload 4, 2) := by decide +kernel
theorem dX10_lastBy_28 : decode cX10_lastBy 28 = .ok (.invokestatic 246, 3) := by decide +kernel
theorem dX10_lastBy_31 : decode cX10_lastBy 31 = .ok (.ifCond .eq 8, 3) := by decide +kernel
theorem dX10_lastBy_34 : decode cX10_lastBy 34 = .ok (.bipush 30, 2) := by decide +kernel
theorem dX10_lastBy_36 : decode cX10_lastBy 36 = .ok (.goto 4, 3) := by decide +kernel
theorem dX10_lastBy_39 : decode cX10_lastBy 39 = .ok (.iconst 0, 1) := by decide +kernel
theorem dX10_lastBy_40 : decode cX10_lastBy 40 = .ok (.iadd, 1) := by decide +kernel
theorem dX10_lastBy_41 : decode cX10_lastBy 41 = .ok (.iastore, 1) := by decide +kernel
theorem dX10_lastBy_42 : decode cX10_lastBy 42 = .ok (.iinc 4 1, 3) := by decide +kernel
theorem dX10_lastBy_45 : decode cX10_lastBy 45 = .ok (.goto (-42), 3) := by decide +kernel
theorem dX10_lastBy_48 : decode cX10_lastBy 48 = .ok (.aload_n 0, 1) := by decide +kernel
theorem dX10_lastBy_49 : decode cX10_lastBy 49 = .ok (.iload_n 1, 1) := by decide +kernel
theorem dX10_lastBy_50 : decode cX10_lastBy 50 = .ok (.iload_n 2, 1) := by decide +kernel
theorem dX10_lastBy_51 : decode cX10_lastBy 51 = .ok (.invokevirtual 250, 3) := by decide +kernel
theorem dX10_lastBy_54 : decode cX10_lastBy 54 = .ok (.istore 4, 2) := by decide +kernel
theorem dX10_lastBy_56 : decode cX10_lastBy 56 = .ok (.iconst 0, 1) := by decide +kernel
theorem dX10_lastBy_57 : decode cX10_lastBy 57 = .ok (.istore 5, 2) := by decide +kernel
theorem dX10_lastBy_59 : decode cX10_lastBy 59 = .ok (.iload 5, 2) := by decide +kernel
theorem dX10_lastBy_61 : decode cX10_lastBy 61 = .ok (.aload_n 0, 1) := by decide +kernel
theorem dX10_lastBy_62 : decode cX10_lastBy 62 = .ok (.invokevirtual 229, 3) := by decide +kernel
theorem dX10_lastBy_65 : decode cX10_lastBy 65 = .ok (.if_icmp .ge 39, 3) := by decide +kernel
theorem dX10_lastBy_68 : decode cX10_lastBy 68 = .ok (.aload_n 0, 1) := by decide +kernel
theorem dX10_lastBy_69 : decode cX10_lastBy 69 = .ok (.getfield 50, 3) := by decide +kernel
theorem dX10_lastBy_72 : decode cX10_lastBy 72 = .ok (.bipush 6, 2) := by decide +kernel
theorem dX10_lastBy_74 : decode cX10_lastBy 74 = .ok (.iload_n 1, 1) := by decide +kernel
theorem dX10_lastBy_75 : decode cX10_lastBy 75 = .ok (.imul, 1) := by decide +kernel
theorem dX10_lastBy_76 : decode cX10_lastBy 76 = .ok (.iload 5, 2) := by decide +kernel
theorem dX10_lastBy_78 : decode cX10_lastBy 78 = .ok (.iadd, 1) := by decide +kernel
theorem dX10_lastBy_79 : decode cX10_lastBy 79 = .ok (.dup2, 1) := by decide +kernel
theorem dX10_lastBy_80 : decode cX10_lastBy 80 = .ok (.iaload, 1) := by decide +kernel
theorem dX10_lastBy_81 : decode cX10_lastBy 81 = .ok (.iload_n 3, 1) := by decide +kernel
theorem dX10_lastBy_82 : decode cX10_lastBy 82 = .ok (.iload 5, 2) := by decide +kernel
theorem dX10_lastBy_84 : decode cX10_lastBy 84 = .ok (.invokestatic 246, 3) := by decide +kernel
theorem dX10_lastBy_87 : decode cX10_lastBy 87 = .ok (.ifCond .eq 8, 3) := by decide +kernel
theorem dX10_lastBy_90 : decode cX10_lastBy 90 = .ok (.bipush 30, 2) := by decide +kernel
theorem dX10_lastBy_92 : decode cX10_lastBy 92 = .ok (.goto 4, 3) := by decide +kernel
theorem dX10_lastBy_95 : decode cX10_lastBy 95 = .ok (.iconst 0, 1) := by decide +kernel
theorem dX10_lastBy_96 : decode cX10_lastBy 96 = .ok (.isub, 1) := by decide +kernel
theorem dX10_lastBy_97 : decode cX10_lastBy 97 = .ok (.iastore, 1) := by decide +kernel
theorem dX10_lastBy_98 : decode cX10_lastBy 98 = .ok (.iinc 5 1, 3) := by decide +kernel
theorem dX10_lastBy_101 : decode cX10_lastBy 101 = .ok (.goto (-42), 3) := by decide +kernel
theorem dX10_lastBy_104 : decode cX10_lastBy 104 = .ok (.iload 4, 2) := by decide +kernel
theorem dX10_lastBy_106 : decode cX10_lastBy 106 = .ok (.ireturn, 1) := by decide +kernel
theorem dX10_lastOf_0 : decode cX10_lastOf 0 = .ok (.iconst (-1), 1) := by decide +kernel
theorem dX10_lastOf_1 : decode cX10_lastOf 1 = .ok (.istore_n 3, 1) := by decide +kernel
theorem dX10_lastOf_2 : decode cX10_lastOf 2 = .ok (.iconst 0, 1) := by decide +kernel
theorem dX10_lastOf_3 : decode cX10_lastOf 3 = .ok (.istore 4, 2) := by decide +kernel
theorem dX10_lastOf_5 : decode cX10_lastOf 5 = .ok (.iload 4, 2) := by decide +kernel
theorem dX10_lastOf_7 : decode cX10_lastOf 7 = .ok (.aload_n 0, 1) := by decide +kernel
theorem dX10_lastOf_8 : decode cX10_lastOf 8 = .ok (.invokevirtual 229, 3) := by decide +kernel
theorem dX10_lastOf_11 : decode cX10_lastOf 11 = .ok (.if_icmp .ge 52, 3) := by decide +kernel
theorem dX10_lastOf_14 : decode cX10_lastOf 14 = .ok (.iload_n 2, 1) := by decide +kernel
theorem dX10_lastOf_15 : decode cX10_lastOf 15 = .ok (.iload 4, 2) := by decide +kernel
theorem dX10_lastOf_17 : decode cX10_lastOf 17 = .ok (.invokestatic 246, 3) := by decide +kernel
theorem dX10_lastOf_20 : decode cX10_lastOf 20 = .ok (.ifCond .eq 37, 3) := by decide +kernel
theorem dX10_lastOf_23 : decode cX10_lastOf 23 = .ok (.iload_n 3, 1) := by decide +kernel
theorem dX10_lastOf_24 : decode cX10_lastOf 24 = .ok (.iconst (-1), 1) := by decide +kernel
theorem dX10_lastOf_25 : decode cX10_lastOf 25 = .ok (.if_icmp .eq 29, 3) := by decide +kernel
theorem dX10_lastOf_28 : decode cX10_lastOf 28 = .ok (.aload_n 0, 1) := by decide +kernel
theorem dX10_lastOf_29 : decode cX10_lastOf 29 = .ok (.getfield 50, 3) := by decide +kernel
theorem dX10_lastOf_32 : decode cX10_lastOf 32 = .ok (.bipush 6, 2) := by decide +kernel
theorem dX10_lastOf_34 : decode cX10_lastOf 34 = .ok (.iload_n 1, 1) := by decide +kernel
theorem dX10_lastOf_35 : decode cX10_lastOf 35 = .ok (.imul, 1) := by decide +kernel
theorem dX10_lastOf_36 : decode cX10_lastOf 36 = .ok (.iload 4, 2) := by decide +kernel
theorem dX10_lastOf_38 : decode cX10_lastOf 38 = .ok (.iadd, 1) := by decide +kernel
theorem dX10_lastOf_39 : decode cX10_lastOf 39 = .ok (.iaload, 1) := by decide +kernel
theorem dX10_lastOf_40 : decode cX10_lastOf 40 = .ok (.aload_n 0, 1) := by decide +kernel
theorem dX10_lastOf_41 : decode cX10_lastOf 41 = .ok (.getfield 50, 3) := by decide +kernel
theorem dX10_lastOf_44 : decode cX10_lastOf 44 = .ok (.bipush 6, 2) := by decide +kernel
theorem dX10_lastOf_46 : decode cX10_lastOf 46 = .ok (.iload_n 1, 1) := by decide +kernel
theorem dX10_lastOf_47 : decode cX10_lastOf 47 = .ok (.imul, 1) := by decide +kernel
theorem dX10_lastOf_48 : decode cX10_lastOf 48 = .ok (.iload_n 3, 1) := by decide +kernel
theorem dX10_lastOf_49 : decode cX10_lastOf 49 = .ok (.iadd, 1) := by decide +kernel
theorem dX10_lastOf_50 : decode cX10_lastOf 50 = .ok (.iaload, 1) := by decide +kernel
theorem dX10_lastOf_51 : decode cX10_lastOf 51 = .ok (.if_icmp .le 6, 3) := by decide +kernel
theorem dX10_lastOf_54 : decode cX10_lastOf 54 = .ok (.iload 4, 2) := by decide +kernel
theorem dX10_lastOf_56 : decode cX10_lastOf 56 = .ok (.istore_n 3, 1) := by decide +kernel
theorem dX10_lastOf_57 : decode cX10_lastOf 57 = .ok (.iinc 4 1, 3) := by decide +kernel
theorem dX10_lastOf_60 : decode cX10_lastOf 60 = .ok (.goto (-55), 3) := by decide +kernel
theorem dX10_lastOf_63 : decode cX10_lastOf 63 = .ok (.iload_n 3, 1) := by decide +kernel
theorem dX10_lastOf_64 : decode cX10_lastOf 64 = .ok (.ireturn, 1) := by decide +kernel
theorem dX10_late_0 : decode cX10_late 0 = .ok (.aload_n 0, 1) := by decide +kernel
theorem dX10_late_1 : decode cX10_late 1 = .ok (.iconst 0, 1) := by decide +kernel
theorem dX10_late_2 : decode cX10_late 2 = .ok (.putfield 71, 3) := by decide +kernel
theorem dX10_late_5 : decode cX10_late 5 = .ok (.aload_n 0, 1) := by decide +kernel
theorem dX10_late_6 : decode cX10_late 6 = .ok (.iload_n 1, 1) := by decide +kernel
theorem dX10_late_7 : decode cX10_late 7 = .ok (.i2l, 1) := by decide +kernel
theorem dX10_late_8 : decode cX10_late 8 = .ok (.invokevirtual 267, 3) := by decide +kernel
theorem dX10_late_11 : decode cX10_late 11 = .ok (.ifCond .eq 12, 3) := by decide +kernel
theorem dX10_late_14 : decode cX10_late 14 = .ok (.aload_n 0, 1) := by decide +kernel
theorem dX10_late_15 : decode cX10_late 15 = .ok (.iload_n 2, 1) := by decide +kernel
theorem dX10_late_16 : decode cX10_late 16 = .ok (.i2l, 1) := by decide +kernel
theorem dX10_late_17 : decode cX10_late 17 = .ok (.invokevirtual 272, 3) := by decide +kernel
theorem dX10_late_20 : decode cX10_late 20 = .ok (.ifCond .ne 7, 3) := by decide +kernel
theorem dX10_late_23 : decode cX10_late 23 = .ok (.sipush (-1000), 3) := by decide +kernel
theorem dX10_late_26 : decode cX10_late 26 = .ok (.ireturn, 1) := by decide +kernel
theorem dX10_late_27 : decode cX10_late 27 = .ok (.aload_n 0, 1) := by decide +kernel
theorem dX10_late_28 : decode cX10_late 28 = .ok (.invokevirtual 275, 3) := by decide +kernel
theorem dX10_late_31 : decode cX10_late 31 = .ok (.aload_n 0, 1) := by decide +kernel
theorem dX10_late_32 : decode cX10_late 32 = .ok (.getfield 50, 3) := by decide +kernel
theorem dX10_late_35 : decode cX10_late 35 = .ok (.bipush 6, 2) := by decide +kernel
theorem dX10_late_37 : decode cX10_late 37 = .ok (.iload_n 2, 1) := by decide +kernel
theorem dX10_late_38 : decode cX10_late 38 = .ok (.imul, 1) := by decide +kernel
theorem dX10_late_39 : decode cX10_late 39 = .ok (.iload_n 1, 1) := by decide +kernel
theorem dX10_late_40 : decode cX10_late 40 = .ok (.iadd, 1) := by decide +kernel
theorem dX10_late_41 : decode cX10_late 41 = .ok (.iaload, 1) := by decide +kernel
theorem dX10_late_42 : decode cX10_late 42 = .ok (.ireturn, 1) := by decide +kernel
theorem dX10_law_0 : decode cX10_law 0 = .ok (.aload_n 0, 1) := by decide +kernel
theorem dX10_law_1 : decode cX10_law 1 = .ok (.iconst 0, 1) := by decide +kernel
theorem dX10_law_2 : decode cX10_law 2 = .ok (.putfield 71, 3) := by decide +kernel
theorem dX10_law_5 : decode cX10_law 5 = .ok (.aload_n 0, 1) := by decide +kernel
theorem dX10_law_6 : decode cX10_law 6 = .ok (.iload_n 1, 1) := by decide +kernel
theorem dX10_law_7 : decode cX10_law 7 = .ok (.invokevirtual 304, 3) := by decide +kernel
theorem dX10_law_10 : decode cX10_law 10 = .ok (.ifCond .ne 6, 3) := by decide +kernel
theorem dX10_law_13 : decode cX10_law 13 = .ok (.bipush (-2), 2) := by decide +kernel
theorem dX10_law_15 : decode cX10_law 15 = .ok (.ireturn, 1) := by decide +kernel
theorem dX10_law_16 : decode cX10_law 16 = .ok (.aload_n 0, 1) := by decide +kernel
theorem dX10_law_17 : decode cX10_law 17 = .ok (.invokevirtual 275, 3) := by decide +kernel
theorem dX10_law_20 : decode cX10_law 20 = .ok (.bipush 6, 2) := by decide +kernel
theorem dX10_law_22 : decode cX10_law 22 = .ok (.istore_n 2, 1) := by decide +kernel
theorem dX10_law_23 : decode cX10_law 23 = .ok (.iload_n 2, 1) := by decide +kernel
theorem dX10_law_24 : decode cX10_law 24 = .ok (.ifCond .le 54, 3) := by decide +kernel
theorem dX10_law_27 : decode cX10_law 27 = .ok (.iconst 1, 1) := by decide +kernel
theorem dX10_law_28 : decode cX10_law 28 = .ok (.istore_n 3, 1) := by decide +kernel
theorem dX10_law_29 : decode cX10_law 29 = .ok (.iconst 0, 1) := by decide +kernel
theorem dX10_law_30 : decode cX10_law 30 = .ok (.istore 4, 2) := by decide +kernel
theorem dX10_law_32 : decode cX10_law 32 = .ok (.iload 4, 2) := by decide +kernel
theorem dX10_law_34 : decode cX10_law 34 = .ok (.aload_n 0, 1) := by decide +kernel
theorem dX10_law_35 : decode cX10_law 35 = .ok (.invokevirtual 225, 3) := by decide +kernel
theorem dX10_law_38 : decode cX10_law 38 = .ok (.if_icmp .ge 28, 3) := by decide +kernel
theorem dX10_law_41 : decode cX10_law 41 = .ok (.iload_n 3, 1) := by decide +kernel
theorem dX10_law_42 : decode cX10_law 42 = .ok (.aload_n 0, 1) := by decide +kernel
theorem dX10_law_43 : decode cX10_law 43 = .ok (.iload 4, 2) := by decide +kernel
theorem dX10_law_45 : decode cX10_law 45 = .ok (.iload_n 2, 1) := by decide +kernel
theorem dX10_law_46 : decode cX10_law 46 = .ok (.invokevirtual 356, 3) := by decide +kernel
theorem dX10_law_49 : decode cX10_law 49 = .ok (.iload_n 1, 1) := by decide +kernel
theorem dX10_law_50 : decode cX10_law 50 = .ok (.if_icmp .gt 7, 3) := by decide +kernel
theorem dX10_law_53 : decode cX10_law 53 = .ok (.iconst 1, 1) := by decide +kernel
theorem dX10_law_54 : decode cX10_law 54 = .ok (.goto 4, 3) := by decide +kernel
theorem dX10_law_57 : decode cX10_law 57 = .ok (.iconst 0, 1) := by decide +kernel
theorem dX10_law_58 : decode cX10_law 58 = .ok (.iand, 1) := by decide +kernel
theorem dX10_law_59 : decode cX10_law 59 = .ok (.istore_n 3, 1) := by decide +kernel
theorem dX10_law_60 : decode cX10_law 60 = .ok (.iinc 4 1, 3) := by decide +kernel
theorem dX10_law_63 : decode cX10_law 63 = .ok (.goto (-31), 3) := by decide +kernel
theorem dX10_law_66 : decode cX10_law 66 = .ok (.iload_n 3, 1) := by decide +kernel
theorem dX10_law_67 : decode cX10_law 67 = .ok (.ifCond .eq 5, 3) := by decide +kernel
theorem dX10_law_70 : decode cX10_law 70 = .ok (.iload_n 2, 1) := by decide +kernel
theorem dX10_law_71 : decode cX10_law 71 = .ok (.ireturn, 1) := by decide +kernel
theorem dX10_law_72 : decode cX10_law 72 = .ok (.iinc 2 (-1), 3) := by decide +kernel
theorem dX10_law_75 : decode cX10_law 75 = .ok (.goto (-52), 3) := by decide +kernel
theorem dX10_law_78 : decode cX10_law 78 = .ok (.iconst 0, 1) := by decide +kernel
theorem dX10_law_79 : decode cX10_law 79 = .ok (.ireturn, 1) := by decide +kernel
theorem dX10_lays_0 : decode cX10_lays 0 = .ok (.aload_n 0, 1) := by decide +kernel
theorem dX10_lays_1 : decode cX10_lays 1 = .ok (.iconst 0, 1) := by decide +kernel
theorem dX10_lays_2 : decode cX10_lays 2 = .ok (.putfield 237, 3) := by decide +kernel
theorem dX10_lays_5 : decode cX10_lays 5 = .ok (.aload_n 0, 1) := by decide +kernel
theorem dX10_lays_6 : decode cX10_lays 6 = .ok (.iconst 0, 1) := by decide +kernel
theorem dX10_lays_7 : decode cX10_lays 7 = .ok (.putfield 240, 3) := by decide +kernel
theorem dX10_lays_10 : decode cX10_lays 10 = .ok (.aload_n 0, 1) := by decide +kernel
theorem dX10_lays_11 : decode cX10_lays 11 = .ok (.invokevirtual 243, 3) := by decide +kernel
theorem dX10_lays_14 : decode cX10_lays 14 = .ok (.return_, 1) := by decide +kernel
theorem dX10_laysAway_0 : decode cX10_laysAway 0 = .ok (.aload_n 0, 1) := by decide +kernel
theorem dX10_laysAway_1 : decode cX10_laysAway 1 = .ok (.invokevirtual 275, 3) := by decide +kernel
theorem dX10_laysAway_4 : decode cX10_laysAway 4 = .ok (.aload_n 0, 1) := by decide +kernel
theorem dX10_laysAway_5 : decode cX10_laysAway 5 = .ok (.iconst 0, 1) := by decide +kernel
theorem dX10_laysAway_6 : decode cX10_laysAway 6 = .ok (.putfield 385, 3) := by decide +kernel
theorem dX10_laysAway_9 : decode cX10_laysAway 9 = .ok (.aload_n 0, 1) := by decide +kernel
theorem dX10_laysAway_10 : decode cX10_laysAway 10 = .ok (.iconst (-1), 1) := by decide +kernel
theorem dX10_laysAway_11 : decode cX10_laysAway 11 = .ok (.putfield 388, 3) := by decide +kernel
theorem dX10_laysAway_14 : decode cX10_laysAway 14 = .ok (.iconst 0, 1) := by decide +kernel
theorem dX10_laysAway_15 : decode cX10_laysAway 15 = .ok (.istore_n 2, 1) := by decide +kernel
theorem dX10_laysAway_16 : decode cX10_laysAway 16 = .ok (.iload_n 2, 1) := by decide +kernel
theorem dX10_laysAway_17 : decode cX10_laysAway 17 = .ok (.bipush 6, 2) := by decide +kernel
theorem dX10_laysAway_19 : decode cX10_laysAway 19 = .ok (.if_icmp .ge 16, 3) := by decide +kernel
theorem dX10_laysAway_22 : decode cX10_laysAway 22 = .ok (.aload_n 0, 1) := by decide +kernel
theorem dX10_laysAway_23 : decode cX10_laysAway 23 = .ok (.getfield 68, 3) := by decide +kernel
theorem dX10_laysAway_26 : decode cX10_laysAway 26 = .ok (.iload_n 2, 1) := by decide +kernel
theorem dX10_laysAway_27 : decode cX10_laysAway 27 = .ok (.iconst 0, 1) := by decide +kernel
theorem dX10_laysAway_28 : decode cX10_laysAway 28 = .ok (.iastore, 1) := by decide +kernel
theorem dX10_laysAway_29 : decode cX10_laysAway 29 = .ok (.iinc 2 1, 3) := by decide +kernel
theorem dX10_laysAway_32 : decode cX10_laysAway 32 = .ok (.goto (-16), 3) := by decide +kernel
theorem dX10_laysAway_35 : decode cX10_laysAway 35 = .ok (.iconst 0, 1) := by decide +kernel
theorem dX10_laysAway_36 : decode cX10_laysAway 36 = .ok (.istore_n 2, 1) := by decide +kernel
theorem dX10_laysAway_37 : decode cX10_laysAway 37 = .ok (.iconst 0, 1) := by decide +kernel
theorem dX10_laysAway_38 : decode cX10_laysAway 38 = .ok (.istore_n 3, 1) := by decide +kernel
theorem dX10_laysAway_39 : decode cX10_laysAway 39 = .ok (.iload_n 3, 1) := by decide +kernel
theorem dX10_laysAway_40 : decode cX10_laysAway 40 = .ok (.aload_n 0, 1) := by decide +kernel
theorem dX10_laysAway_41 : decode cX10_laysAway 41 = .ok (.invokevirtual 229, 3) := by decide +kernel
theorem dX10_laysAway_44 : decode cX10_laysAway 44 = .ok (.if_icmp .ge 27, 3) := by decide +kernel
theorem dX10_laysAway_47 : decode cX10_laysAway 47 = .ok (.iload_n 2, 1) := by decide +kernel
theorem dX10_laysAway_48 : decode cX10_laysAway 48 = .ok (.aload_n 0, 1) := by decide +kernel
theorem dX10_laysAway_49 : decode cX10_laysAway 49 = .ok (.iload_n 3, 1) := by decide +kernel
theorem dX10_laysAway_50 : decode cX10_laysAway 50 = .ok (.invokevirtual 391, 3) := by decide +kernel
theorem dX10_laysAway_53 : decode cX10_laysAway 53 = .ok (.ifCond .eq 9, 3) := by decide +kernel
theorem dX10_laysAway_56 : decode cX10_laysAway 56 = .ok (.iconst 1, 1) := by decide +kernel
theorem dX10_laysAway_57 : decode cX10_laysAway 57 = .ok (.iload_n 3, 1) := by decide +kernel
theorem dX10_laysAway_58 : decode cX10_laysAway 58 = .ok (.ishl, 1) := by decide +kernel
theorem dX10_laysAway_59 : decode cX10_laysAway 59 = .ok (.goto 4, 3) := by decide +kernel
theorem dX10_laysAway_62 : decode cX10_laysAway 62 = .ok (.iconst 0, 1) := by decide +kernel
theorem dX10_laysAway_63 : decode cX10_laysAway 63 = .ok (.ior, 1) := by decide +kernel
theorem dX10_laysAway_64 : decode cX10_laysAway 64 = .ok (.istore_n 2, 1) := by decide +kernel
theorem dX10_laysAway_65 : decode cX10_laysAway 65 = .ok (.iinc 3 1, 3) := by decide +kernel
theorem dX10_laysAway_68 : decode cX10_laysAway 68 = .ok (.goto (-29), 3) := by decide +kernel
theorem dX10_laysAway_71 : decode cX10_laysAway 71 = .ok (.iconst 0, 1) := by decide +kernel
theorem dX10_laysAway_72 : decode cX10_laysAway 72 = .ok (.istore_n 3, 1) := by decide +kernel
theorem dX10_laysAway_73 : decode cX10_laysAway 73 = .ok (.iload_n 3, 1) := by decide +kernel
theorem dX10_laysAway_74 : decode cX10_laysAway 74 = .ok (.iload_n 2, 1) := by decide +kernel
theorem dX10_laysAway_75 : decode cX10_laysAway 75 = .ok (.if_icmp .gt 190, 3) := by decide +kernel
theorem dX10_laysAway_78 : decode cX10_laysAway 78 = .ok (.iload_n 3, 1) := by decide +kernel
theorem dX10_laysAway_79 : decode cX10_laysAway 79 = .ok (.iload_n 2, 1) := by decide +kernel
theorem dX10_laysAway_80 : decode cX10_laysAway 80 = .ok (.iconst (-1), 1) := by decide +kernel
theorem dX10_laysAway_81 : decode cX10_laysAway 81 = .ok (.ixor, 1) := by decide +kernel
theorem dX10_laysAway_82 : decode cX10_laysAway 82 = .ok (.iand, 1) := by decide +kernel
theorem dX10_laysAway_83 : decode cX10_laysAway 83 = .ok (.ifCond .eq 6, 3) := by decide +kernel
theorem dX10_laysAway_86 : decode cX10_laysAway 86 = .ok (.goto 173, 3) := by decide +kernel
theorem dX10_laysAway_89 : decode cX10_laysAway 89 = .ok (.iconst 1, 1) := by decide +kernel
theorem dX10_laysAway_90 : decode cX10_laysAway 90 = .ok (.istore 4, 2) := by decide +kernel
theorem dX10_laysAway_92 : decode cX10_laysAway 92 = .ok (.iconst 0, 1) := by decide +kernel
theorem dX10_laysAway_93 : decode cX10_laysAway 93 = .ok (.istore 5, 2) := by decide +kernel
theorem dX10_laysAway_95 : decode cX10_laysAway 95 = .ok (.iload 5, 2) := by decide +kernel
theorem dX10_laysAway_97 : decode cX10_laysAway 97 = .ok (.aload_n 0, 1) := by decide +kernel
theorem dX10_laysAway_98 : decode cX10_laysAway 98 = .ok (.getfield 13, 3) := by decide +kernel
theorem dX10_laysAway_101 : decode cX10_laysAway 101 = .ok (.iload_n 1, 1) := by decide +kernel
theorem dX10_laysAway_102 : decode cX10_laysAway 102 = .ok (.iaload, 1) := by decide +kernel
theorem dX10_laysAway_103 : decode cX10_laysAway 103 = .ok (.if_icmp .ge 69, 3) := by decide +kernel
theorem dX10_laysAway_106 : decode cX10_laysAway 106 = .ok (.aload_n 0, 1) := by decide +kernel
theorem dX10_laysAway_107 : decode cX10_laysAway 107 = .ok (.getfield 16, 3) := by decide +kernel
theorem dX10_laysAway_110 : decode cX10_laysAway 110 = .ok (.bipush 60, 2) := by decide +kernel
theorem dX10_laysAway_112 : decode cX10_laysAway 112 = .ok (.iload_n 1, 1) := by decide +kernel
theorem dX10_laysAway_113 : decode cX10_laysAway 113 = .ok (.imul, 1) := by decide +kernel
theorem dX10_laysAway_114 : decode cX10_laysAway 114 = .ok (.iload 5, 2) := by decide +kernel
theorem dX10_laysAway_116 : decode cX10_laysAway 116 = .ok (.iadd, 1) := by decide +kernel
theorem dX10_laysAway_117 : decode cX10_laysAway 117 = .ok (.laload, 1) := by decide +kernel
theorem dX10_laysAway_118 : decode cX10_laysAway 118 = .ok (.l2i, 1) := by decide +kernel
theorem dX10_laysAway_119 : decode cX10_laysAway 119 = .ok (.istore 6, 2) := by decide +kernel
theorem dX10_laysAway_121 : decode cX10_laysAway 121 = .ok (.iload 4, 2) := by decide +kernel
theorem dX10_laysAway_123 : decode cX10_laysAway 123 = .ok (.aload_n 0, 1) := by decide +kernel
theorem dX10_laysAway_124 : decode cX10_laysAway 124 = .ok (.iload 6, 2) := by decide +kernel
theorem dX10_laysAway_126 : decode cX10_laysAway 126 = .ok (.aload_n 0, 1) := by decide +kernel
theorem dX10_laysAway_127 : decode cX10_laysAway 127 = .ok (.iload 6, 2) := by decide +kernel
theorem dX10_laysAway_129 : decode cX10_laysAway 129 = .ok (.invokevirtual 253, 3) := by decide +kernel
theorem dX10_laysAway_132 : decode cX10_laysAway 132 = .ok (.iload_n 3, 1) := by decide +kernel
theorem dX10_laysAway_133 : decode cX10_laysAway 133 = .ok (.iconst (-1), 1) := by decide +kernel
theorem dX10_laysAway_134 : decode cX10_laysAway 134 = .ok (.ixor, 1) := by decide +kernel
theorem dX10_laysAway_135 : decode cX10_laysAway 135 = .ok (.iand, 1) := by decide +kernel
theorem dX10_laysAway_136 : decode cX10_laysAway 136 = .ok (.invokevirtual 256, 3) := by decide +kernel
theorem dX10_laysAway_139 : decode cX10_laysAway 139 = .ok (.i2l, 1) := by decide +kernel
theorem dX10_laysAway_140 : decode cX10_laysAway 140 = .ok (.aload_n 0, 1) := by decide +kernel
theorem dX10_laysAway_141 : decode cX10_laysAway 141 = .ok (.getfield 16, 3) := by decide +kernel
theorem dX10_laysAway_144 : decode cX10_laysAway 144 = .ok (.bipush 60, 2) := by decide +kernel
theorem dX10_laysAway_146 : decode cX10_laysAway 146 = .ok (.iload_n 1, 1) := by decide +kernel
theorem dX10_laysAway_147 : decode cX10_laysAway 147 = .ok (.imul, 1) := by decide +kernel
theorem dX10_laysAway_148 : decode cX10_laysAway 148 = .ok (.iload 5, 2) := by decide +kernel
theorem dX10_laysAway_150 : decode cX10_laysAway 150 = .ok (.iadd, 1) := by decide +kernel
theorem dX10_laysAway_151 : decode cX10_laysAway 151 = .ok (.iconst 1, 1) := by decide +kernel
theorem dX10_laysAway_152 : decode cX10_laysAway 152 = .ok (.iadd, 1) := by decide +kernel
theorem dX10_laysAway_153 : decode cX10_laysAway 153 = .ok (.laload, 1) := by decide +kernel
theorem dX10_laysAway_154 : decode cX10_laysAway 154 = .ok (.lcmp, 1) := by decide +kernel
theorem dX10_laysAway_155 : decode cX10_laysAway 155 = .ok (.ifCond .ne 7, 3) := by decide +kernel
theorem dX10_laysAway_158 : decode cX10_laysAway 158 = .ok (.iconst 1, 1) := by decide +kernel
theorem dX10_laysAway_159 : decode cX10_laysAway 159 = .ok (.goto 4, 3) := by decide +kernel
theorem dX10_laysAway_162 : decode cX10_laysAway 162 = .ok (.iconst 0, 1) := by decide +kernel
theorem dX10_laysAway_163 : decode cX10_laysAway 163 = .ok (.iand, 1) := by decide +kernel
theorem dX10_laysAway_164 : decode cX10_laysAway 164 = .ok (.istore 4, 2) := by decide +kernel
theorem dX10_laysAway_166 : decode cX10_laysAway 166 = .ok (.iinc 5 2, 3) := by decide +kernel
theorem dX10_laysAway_169 : decode cX10_laysAway 169 = .ok (.goto (-74), 3) := by decide +kernel
theorem dX10_laysAway_172 : decode cX10_laysAway 172 = .ok (.iload 4, 2) := by decide +kernel
theorem dX10_laysAway_174 : decode cX10_laysAway 174 = .ok (.ifCond .ne 6, 3) := by decide +kernel
theorem dX10_laysAway_177 : decode cX10_laysAway 177 = .ok (.goto 82, 3) := by decide +kernel
theorem dX10_laysAway_180 : decode cX10_laysAway 180 = .ok (.aload_n 0, 1) := by decide +kernel
theorem dX10_laysAway_181 : decode cX10_laysAway 181 = .ok (.dup, 1) := by decide +kernel
theorem dX10_laysAway_182 : decode cX10_laysAway 182 = .ok (.getfield 385, 3) := by decide +kernel
theorem dX10_laysAway_185 : decode cX10_laysAway 185 = .ok (.iconst 1, 1) := by decide +kernel
theorem dX10_laysAway_186 : decode cX10_laysAway 186 = .ok (.iadd, 1) := by decide +kernel
theorem dX10_laysAway_187 : decode cX10_laysAway 187 = .ok (.putfield 385, 3) := by decide +kernel
theorem dX10_laysAway_190 : decode cX10_laysAway 190 = .ok (.aload_n 0, 1) := by decide +kernel
theorem dX10_laysAway_191 : decode cX10_laysAway 191 = .ok (.getfield 388, 3) := by decide +kernel
theorem dX10_laysAway_194 : decode cX10_laysAway 194 = .ok (.iconst (-1), 1) := by decide +kernel
theorem dX10_laysAway_195 : decode cX10_laysAway 195 = .ok (.if_icmp .eq 17, 3) := by decide +kernel
theorem dX10_laysAway_198 : decode cX10_laysAway 198 = .ok (.iload_n 3, 1) := by decide +kernel
theorem dX10_laysAway_199 : decode cX10_laysAway 199 = .ok (.invokestatic 291, 3) := by decide +kernel
theorem dX10_laysAway_202 : decode cX10_laysAway 202 = .ok (.aload_n 0, 1) := by decide +kernel
theorem dX10_laysAway_203 : decode cX10_laysAway 203 = .ok (.getfield 388, 3) := by decide +kernel
theorem dX10_laysAway_206 : decode cX10_laysAway 206 = .ok (.invokestatic 291, 3) := by decide +kernel
theorem dX10_laysAway_209 : decode cX10_laysAway 209 = .ok (.if_icmp .ge 8, 3) := by decide +kernel
theorem dX10_laysAway_212 : decode cX10_laysAway 212 = .ok (.aload_n 0, 1) := by decide +kernel
theorem dX10_laysAway_213 : decode cX10_laysAway 213 = .ok (.iload_n 3, 1) := by decide +kernel
theorem dX10_laysAway_214 : decode cX10_laysAway 214 = .ok (.putfield 388, 3) := by decide +kernel
theorem dX10_laysAway_217 : decode cX10_laysAway 217 = .ok (.iconst 0, 1) := by decide +kernel
theorem dX10_laysAway_218 : decode cX10_laysAway 218 = .ok (.istore 5, 2) := by decide +kernel
theorem dX10_laysAway_220 : decode cX10_laysAway 220 = .ok (.iload 5, 2) := by decide +kernel
theorem dX10_laysAway_222 : decode cX10_laysAway 222 = .ok (.aload_n 0, 1) := by decide +kernel
theorem dX10_laysAway_223 : decode cX10_laysAway 223 = .ok (.invokevirtual 229, 3) := by decide +kernel
theorem dX10_laysAway_226 : decode cX10_laysAway 226 = .ok (.if_icmp .ge 33, 3) := by decide +kernel
theorem dX10_laysAway_229 : decode cX10_laysAway 229 = .ok (.aload_n 0, 1) := by decide +kernel
theorem dX10_laysAway_230 : decode cX10_laysAway 230 = .ok (.getfield 68, 3) := by decide +kernel
theorem dX10_laysAway_233 : decode cX10_laysAway 233 = .ok (.iload 5, 2) := by decide +kernel
theorem dX10_laysAway_235 : decode cX10_laysAway 235 = .ok (.dup2, 1) := by decide +kernel
theorem dX10_laysAway_236 : decode cX10_laysAway 236 = .ok (.iaload, 1) := by decide +kernel
theorem dX10_laysAway_237 : decode cX10_laysAway 237 = .ok (.iload_n 3, 1) := by decide +kernel
theorem dX10_laysAway_238 : decode cX10_laysAway 238 = .ok (.iload 5, 2) := by decide +kernel
theorem dX10_laysAway_240 : decode cX10_laysAway 240 = .ok (.invokestatic 246, 3) := by decide +kernel
theorem dX10_laysAway_243 : decode cX10_laysAway 243 = .ok (.ifCond .eq 7, 3) := by decide +kernel
theorem dX10_laysAway_246 : decode cX10_laysAway 246 = .ok (.iconst 1, 1) := by decide +kernel
theorem dX10_laysAway_247 : decode cX10_laysAway 247 = .ok (.goto 4, 3) := by decide +kernel
theorem dX10_laysAway_250 : decode cX10_laysAway 250 = .ok (.iconst 0, 1) := by decide +kernel
theorem dX10_laysAway_251 : decode cX10_laysAway 251 = .ok (.iadd, 1) := by decide +kernel
theorem dX10_laysAway_252 : decode cX10_laysAway 252 = .ok (.iastore, 1) := by decide +kernel
theorem dX10_laysAway_253 : decode cX10_laysAway 253 = .ok (.iinc 5 1, 3) := by decide +kernel
theorem dX10_laysAway_256 : decode cX10_laysAway 256 = .ok (.goto (-36), 3) := by decide +kernel
theorem dX10_laysAway_259 : decode cX10_laysAway 259 = .ok (.iinc 3 1, 3) := by decide +kernel
theorem dX10_laysAway_262 : decode cX10_laysAway 262 = .ok (.goto (-189), 3) := by decide +kernel
theorem dX10_laysAway_265 : decode cX10_laysAway 265 = .ok (.return_, 1) := by decide +kernel
theorem dX10_laysMends_0 : decode cX10_laysMends 0 = .ok (.aload_n 0, 1) := by decide +kernel
theorem dX10_laysMends_1 : decode cX10_laysMends 1 = .ok (.invokevirtual 275, 3) := by decide +kernel
theorem dX10_laysMends_4 : decode cX10_laysMends 4 = .ok (.aload_n 0, 1) := by decide +kernel
theorem dX10_laysMends_5 : decode cX10_laysMends 5 = .ok (.ldc_w 333, 3) := by decide +kernel
theorem dX10_laysMends_8 : decode cX10_laysMends 8 = .ok (.putfield 320, 3) := by decide +kernel
theorem dX10_laysMends_11 : decode cX10_laysMends 11 = .ok (.iload_n 2, 1) := by decide +kernel
theorem dX10_laysMends_12 : decode cX10_laysMends 12 = .ok (.iconst (-1), 1) := by decide +kernel
theorem dX10_laysMends_13 : decode cX10_laysMends 13 = .ok (.if_icmp .eq 8, 3) := by decide +kernel
theorem dX10_laysMends_16 : decode cX10_laysMends 16 = .ok (.aload_n 0, 1) := by decide +kernel
theorem dX10_laysMends_17 : decode cX10_laysMends 17 = .ok (.iconst 1, 1) := by decide +kernel
theorem dX10_laysMends_18 : decode cX10_laysMends 18 = .ok (.putfield 320, 3) := by decide +kernel
theorem dX10_laysMends_21 : decode cX10_laysMends 21 = .ok (.aload_n 0, 1) := by decide +kernel
theorem dX10_laysMends_22 : decode cX10_laysMends 22 = .ok (.iconst (-1), 1) := by decide +kernel
theorem dX10_laysMends_23 : decode cX10_laysMends 23 = .ok (.putfield 323, 3) := by decide +kernel
theorem dX10_laysMends_26 : decode cX10_laysMends 26 = .ok (.aload_n 0, 1) := by decide +kernel
theorem dX10_laysMends_27 : decode cX10_laysMends 27 = .ok (.iconst (-1), 1) := by decide +kernel
theorem dX10_laysMends_28 : decode cX10_laysMends 28 = .ok (.putfield 326, 3) := by decide +kernel
theorem dX10_laysMends_31 : decode cX10_laysMends 31 = .ok (.iconst 0, 1) := by decide +kernel
theorem dX10_laysMends_32 : decode cX10_laysMends 32 = .ok (.istore_n 3, 1) := by decide +kernel
theorem dX10_laysMends_33 : decode cX10_laysMends 33 = .ok (.iload_n 3, 1) := by decide +kernel
theorem dX10_laysMends_34 : decode cX10_laysMends 34 = .ok (.iload_n 1, 1) := by decide +kernel
theorem dX10_laysMends_35 : decode cX10_laysMends 35 = .ok (.if_icmp .gt 16, 3) := by decide +kernel
theorem dX10_laysMends_38 : decode cX10_laysMends 38 = .ok (.aload_n 0, 1) := by decide +kernel
theorem dX10_laysMends_39 : decode cX10_laysMends 39 = .ok (.iload_n 3, 1) := by decide +kernel
theorem dX10_laysMends_40 : decode cX10_laysMends 40 = .ok (.iconst 0, 1) := by decide +kernel
theorem dX10_laysMends_41 : decode cX10_laysMends 41 = .ok (.iload_n 2, 1) := by decide +kernel
theorem dX10_laysMends_42 : decode cX10_laysMends 42 = .ok (.invokevirtual 329, 3) := by decide +kernel
theorem dX10_laysMends_45 : decode cX10_laysMends 45 = .ok (.iinc 3 1, 3) := by decide +kernel
theorem dX10_laysMends_48 : decode cX10_laysMends 48 = .ok (.goto (-15), 3) := by decide +kernel
theorem dX10_laysMends_51 : decode cX10_laysMends 51 = .ok (.return_, 1) := by decide +kernel
theorem dX10_laysRests_0 : decode cX10_laysRests 0 = .ok (.aload_n 0, 1) := by decide +kernel
theorem dX10_laysRests_1 : decode cX10_laysRests 1 = .ok (.iconst 0, 1) := by decide +kernel
theorem dX10_laysRests_2 : decode cX10_laysRests 2 = .ok (.putfield 366, 3) := by decide +kernel
theorem dX10_laysRests_5 : decode cX10_laysRests 5 = .ok (.aload_n 0, 1) := by decide +kernel
theorem dX10_laysRests_6 : decode cX10_laysRests 6 = .ok (.iconst (-1), 1) := by decide +kernel
theorem dX10_laysRests_7 : decode cX10_laysRests 7 = .ok (.putfield 369, 3) := by decide +kernel
theorem dX10_laysRests_10 : decode cX10_laysRests 10 = .ok (.aload_n 0, 1) := by decide +kernel
theorem dX10_laysRests_11 : decode cX10_laysRests 11 = .ok (.sipush (-1000), 3) := by decide +kernel
theorem dX10_laysRests_14 : decode cX10_laysRests 14 = .ok (.putfield 372, 3) := by decide +kernel
theorem dX10_laysRests_17 : decode cX10_laysRests 17 = .ok (.iconst 0, 1) := by decide +kernel
theorem dX10_laysRests_18 : decode cX10_laysRests 18 = .ok (.istore 4, 2) := by decide +kernel
theorem dX10_laysRests_20 : decode cX10_laysRests 20 = .ok (.iload 4, 2) := by decide +kernel
theorem dX10_laysRests_22 : decode cX10_laysRests 22 = .ok (.iconst 5, 1) := by decide +kernel
theorem dX10_laysRests_23 : decode cX10_laysRests 23 = .ok (.if_icmp .gt 109, 3) := by decide +kernel
theorem dX10_laysRests_26 : decode cX10_laysRests 26 = .ok (.iconst 0, 1) := by decide +kernel
theorem dX10_laysRests_27 : decode cX10_laysRests 27 = .ok (.istore 5, 2) := by decide +kernel
theorem dX10_laysRests_29 : decode cX10_laysRests 29 = .ok (.iload 5, 2) := by decide +kernel
theorem dX10_laysRests_31 : decode cX10_laysRests 31 = .ok (.iconst 5, 1) := by decide +kernel
theorem dX10_laysRests_32 : decode cX10_laysRests 32 = .ok (.if_icmp .gt 94, 3) := by decide +kernel
theorem dX10_laysRests_35 : decode cX10_laysRests 35 = .ok (.aload_n 0, 1) := by decide +kernel
theorem dX10_laysRests_36 : decode cX10_laysRests 36 = .ok (.iload_n 1, 1) := by decide +kernel
theorem dX10_laysRests_37 : decode cX10_laysRests 37 = .ok (.iload_n 2, 1) := by decide +kernel
theorem dX10_laysRests_38 : decode cX10_laysRests 38 = .ok (.iload_n 3, 1) := by decide +kernel
theorem dX10_laysRests_39 : decode cX10_laysRests 39 = .ok (.iload 4, 2) := by decide +kernel
theorem dX10_laysRests_41 : decode cX10_laysRests 41 = .ok (.iload 5, 2) := by decide +kernel
theorem dX10_laysRests_43 : decode cX10_laysRests 43 = .ok (.invokevirtual 375, 3) := by decide +kernel
theorem dX10_laysRests_46 : decode cX10_laysRests 46 = .ok (.ifCond .ne 6, 3) := by decide +kernel
theorem dX10_laysRests_49 : decode cX10_laysRests 49 = .ok (.goto 71, 3) := by decide +kernel
theorem dX10_laysRests_52 : decode cX10_laysRests 52 = .ok (.aload_n 0, 1) := by decide +kernel
theorem dX10_laysRests_53 : decode cX10_laysRests 53 = .ok (.getfield 366, 3) := by decide +kernel
theorem dX10_laysRests_56 : decode cX10_laysRests 56 = .ok (.ifCond .ne 15, 3) := by decide +kernel
theorem dX10_laysRests_59 : decode cX10_laysRests 59 = .ok (.aload_n 0, 1) := by decide +kernel
theorem dX10_laysRests_60 : decode cX10_laysRests 60 = .ok (.bipush 10, 2) := by decide +kernel
theorem dX10_laysRests_62 : decode cX10_laysRests 62 = .ok (.iload 4, 2) := by decide +kernel
theorem dX10_laysRests_64 : decode cX10_laysRests 64 = .ok (.imul, 1) := by decide +kernel
theorem dX10_laysRests_65 : decode cX10_laysRests 65 = .ok (.iload 5, 2) := by decide +kernel
theorem dX10_laysRests_67 : decode cX10_laysRests 67 = .ok (.iadd, 1) := by decide +kernel
theorem dX10_laysRests_68 : decode cX10_laysRests 68 = .ok (.putfield 369, 3) := by decide +kernel
theorem dX10_laysRests_71 : decode cX10_laysRests 71 = .ok (.aload_n 0, 1) := by decide +kernel
theorem dX10_laysRests_72 : decode cX10_laysRests 72 = .ok (.dup, 1) := by decide +kernel
theorem dX10_laysRests_73 : decode cX10_laysRests 73 = .ok (.getfield 366, 3) := by decide +kernel
theorem dX10_laysRests_76 : decode cX10_laysRests 76 = .ok (.iconst 1, 1) := by decide +kernel
theorem dX10_laysRests_77 : decode cX10_laysRests 77 = .ok (.iadd, 1) := by decide +kernel
theorem dX10_laysRests_78 : decode cX10_laysRests 78 = .ok (.putfield 366, 3) := by decide +kernel
theorem dX10_laysRests_81 : decode cX10_laysRests 81 = .ok (.aload_n 0, 1) := by decide +kernel
theorem dX10_laysRests_82 : decode cX10_laysRests 82 = .ok (.iconst 0, 1) := by decide +kernel
theorem dX10_laysRests_83 : decode cX10_laysRests 83 = .ok (.iload_n 1, 1) := by decide +kernel
theorem dX10_laysRests_84 : decode cX10_laysRests 84 = .ok (.iload_n 2, 1) := by decide +kernel
theorem dX10_laysRests_85 : decode cX10_laysRests 85 = .ok (.iload_n 3, 1) := by decide +kernel
theorem dX10_laysRests_86 : decode cX10_laysRests 86 = .ok (.iload 4, 2) := by decide +kernel
theorem dX10_laysRests_88 : decode cX10_laysRests 88 = .ok (.iload 5, 2) := by decide +kernel
theorem dX10_laysRests_90 : decode cX10_laysRests 90 = .ok (.invokevirtual 362, 3) := by decide +kernel
theorem dX10_laysRests_93 : decode cX10_laysRests 93 = .ok (.pop, 1) := by decide +kernel
theorem dX10_laysRests_94 : decode cX10_laysRests 94 = .ok (.aload_n 0, 1) := by decide +kernel
theorem dX10_laysRests_95 : decode cX10_laysRests 95 = .ok (.aload_n 0, 1) := by decide +kernel
theorem dX10_laysRests_96 : decode cX10_laysRests 96 = .ok (.getfield 359, 3) := by decide +kernel
theorem dX10_laysRests_99 : decode cX10_laysRests 99 = .ok (.aload_n 0, 1) := by decide +kernel
theorem dX10_laysRests_100 : decode cX10_laysRests 100 = .ok (.getfield 372, 3) := by decide +kernel
theorem dX10_laysRests_103 : decode cX10_laysRests 103 = .ok (.if_icmp .le 10, 3) := by decide +kernel
theorem dX10_laysRests_106 : decode cX10_laysRests 106 = .ok (.aload_n 0, 1) := by decide +kernel
theorem dX10_laysRests_107 : decode cX10_laysRests 107 = .ok (.getfield 359, 3) := by decide +kernel
theorem dX10_laysRests_110 : decode cX10_laysRests 110 = .ok (.goto 7, 3) := by decide +kernel
theorem dX10_laysRests_113 : decode cX10_laysRests 113 = .ok (.aload_n 0, 1) := by decide +kernel
theorem dX10_laysRests_114 : decode cX10_laysRests 114 = .ok (.getfield 372, 3) := by decide +kernel
theorem dX10_laysRests_117 : decode cX10_laysRests 117 = .ok (.putfield 372, 3) := by decide +kernel
theorem dX10_laysRests_120 : decode cX10_laysRests 120 = .ok (.iinc 5 1, 3) := by decide +kernel
theorem dX10_laysRests_123 : decode cX10_laysRests 123 = .ok (.goto (-94), 3) := by decide +kernel
theorem dX10_laysRests_126 : decode cX10_laysRests 126 = .ok (.iinc 4 1, 3) := by decide +kernel
theorem dX10_laysRests_129 : decode cX10_laysRests 129 = .ok (.goto (-109), 3) := by decide +kernel
theorem dX10_laysRests_132 : decode cX10_laysRests 132 = .ok (.return_, 1) := by decide +kernel
theorem dX10_likely_0 : decode cX10_likely 0 = .ok (.aload_n 0, 1) := by decide +kernel
theorem dX10_likely_1 : decode cX10_likely 1 = .ok (.iconst 0, 1) := by decide +kernel
theorem dX10_likely_2 : decode cX10_likely 2 = .ok (.putfield 71, 3) := by decide +kernel
theorem dX10_likely_5 : decode cX10_likely 5 = .ok (.aload_n 0, 1) := by decide +kernel
theorem dX10_likely_6 : decode cX10_likely 6 = .ok (.iload_n 1, 1) := by decide +kernel
theorem dX10_likely_7 : decode cX10_likely 7 = .ok (.i2l, 1) := by decide +kernel
theorem dX10_likely_8 : decode cX10_likely 8 = .ok (.invokevirtual 272, 3) := by decide +kernel
theorem dX10_likely_11 : decode cX10_likely 11 = .ok (.ifCond .ne 6, 3) := by decide +kernel
theorem dX10_likely_14 : decode cX10_likely 14 = .ok (.bipush (-2), 2) := by decide +kernel
theorem dX10_likely_16 : decode cX10_likely 16 = .ok (.ireturn, 1) := by decide +kernel
theorem dX10_likely_17 : decode cX10_likely 17 = .ok (.aload_n 0, 1) := by decide +kernel
theorem dX10_likely_18 : decode cX10_likely 18 = .ok (.invokevirtual 275, 3) := by decide +kernel
theorem dX10_likely_21 : decode cX10_likely 21 = .ok (.aload_n 0, 1) := by decide +kernel
theorem dX10_likely_22 : decode cX10_likely 22 = .ok (.iload_n 1, 1) := by decide +kernel
theorem dX10_likely_23 : decode cX10_likely 23 = .ok (.invokevirtual 253, 3) := by decide +kernel
theorem dX10_likely_26 : decode cX10_likely 26 = .ok (.istore_n 2, 1) := by decide +kernel
theorem dX10_likely_27 : decode cX10_likely 27 = .ok (.iload_n 2, 1) := by decide +kernel
theorem dX10_likely_28 : decode cX10_likely 28 = .ok (.ifCond .ne 5, 3) := by decide +kernel
theorem dX10_likely_31 : decode cX10_likely 31 = .ok (.iconst (-1), 1) := by decide +kernel
theorem dX10_likely_32 : decode cX10_likely 32 = .ok (.ireturn, 1) := by decide +kernel
theorem dX10_likely_33 : decode cX10_likely 33 = .ok (.iconst 0, 1) := by decide +kernel
theorem dX10_likely_34 : decode cX10_likely 34 = .ok (.istore_n 3, 1) := by decide +kernel
theorem dX10_likely_35 : decode cX10_likely 35 = .ok (.iload_n 3, 1) := by decide +kernel
theorem dX10_likely_36 : decode cX10_likely 36 = .ok (.bipush 6, 2) := by decide +kernel
theorem dX10_likely_38 : decode cX10_likely 38 = .ok (.if_icmp .ge 16, 3) := by decide +kernel
theorem dX10_likely_41 : decode cX10_likely 41 = .ok (.aload_n 0, 1) := by decide +kernel
theorem dX10_likely_42 : decode cX10_likely 42 = .ok (.getfield 68, 3) := by decide +kernel
theorem dX10_likely_45 : decode cX10_likely 45 = .ok (.iload_n 3, 1) := by decide +kernel
theorem dX10_likely_46 : decode cX10_likely 46 = .ok (.iconst 0, 1) := by decide +kernel
theorem dX10_likely_47 : decode cX10_likely 47 = .ok (.iastore, 1) := by decide +kernel
theorem dX10_likely_48 : decode cX10_likely 48 = .ok (.iinc 3 1, 3) := by decide +kernel
theorem dX10_likely_51 : decode cX10_likely 51 = .ok (.goto (-16), 3) := by decide +kernel
theorem dX10_likely_54 : decode cX10_likely 54 = .ok (.iconst 0, 1) := by decide +kernel
theorem dX10_likely_55 : decode cX10_likely 55 = .ok (.istore_n 3, 1) := by decide +kernel
theorem dX10_likely_56 : decode cX10_likely 56 = .ok (.iload_n 3, 1) := by decide +kernel
theorem dX10_likely_57 : decode cX10_likely 57 = .ok (.iconst 1, 1) := by decide +kernel
theorem dX10_likely_58 : decode cX10_likely 58 = .ok (.aload_n 0, 1) := by decide +kernel
theorem dX10_likely_59 : decode cX10_likely 59 = .ok (.invokevirtual 229, 3) := by decide +kernel
theorem dX10_likely_62 : decode cX10_likely 62 = .ok (.ishl, 1) := by decide +kernel
theorem dX10_likely_63 : decode cX10_likely 63 = .ok (.if_icmp .ge 148, 3) := by decide +kernel
theorem dX10_likely_66 : decode cX10_likely 66 = .ok (.iconst 1, 1) := by decide +kernel
theorem dX10_likely_67 : decode cX10_likely 67 = .ok (.istore 4, 2) := by decide +kernel
theorem dX10_likely_69 : decode cX10_likely 69 = .ok (.iconst 1, 1) := by decide +kernel
theorem dX10_likely_70 : decode cX10_likely 70 = .ok (.istore 5, 2) := by decide +kernel
theorem dX10_likely_72 : decode cX10_likely 72 = .ok (.iconst 0, 1) := by decide +kernel
theorem dX10_likely_73 : decode cX10_likely 73 = .ok (.istore 6, 2) := by decide +kernel
theorem dX10_likely_75 : decode cX10_likely 75 = .ok (.iload 6, 2) := by decide +kernel
theorem dX10_likely_77 : decode cX10_likely 77 = .ok (.aload_n 0, 1) := by decide +kernel
theorem dX10_likely_78 : decode cX10_likely 78 = .ok (.invokevirtual 229, 3) := by decide +kernel
theorem dX10_likely_81 : decode cX10_likely 81 = .ok (.if_icmp .ge 102, 3) := by decide +kernel
theorem dX10_likely_84 : decode cX10_likely 84 = .ok (.iload_n 2, 1) := by decide +kernel
theorem dX10_likely_85 : decode cX10_likely 85 = .ok (.iload 6, 2) := by decide +kernel
theorem dX10_likely_87 : decode cX10_likely 87 = .ok (.invokestatic 246, 3) := by decide +kernel
theorem dX10_likely_90 : decode cX10_likely 90 = .ok (.ifCond .eq 25, 3) := by decide +kernel
theorem dX10_likely_93 : decode cX10_likely 93 = .ok (.aload_n 0, 1) := by decide +kernel
theorem dX10_likely_94 : decode cX10_likely 94 = .ok (.getfield 50, 3) := by decide +kernel
theorem dX10_likely_97 : decode cX10_likely 97 = .ok (.bipush 6, 2) := by decide +kernel
theorem dX10_likely_99 : decode cX10_likely 99 = .ok (.iload_n 1, 1) := by decide +kernel
theorem dX10_likely_100 : decode cX10_likely 100 = .ok (.imul, 1) := by decide +kernel
theorem dX10_likely_101 : decode cX10_likely 101 = .ok (.iload 6, 2) := by decide +kernel
theorem dX10_likely_103 : decode cX10_likely 103 = .ok (.iadd, 1) := by decide +kernel
theorem dX10_likely_104 : decode cX10_likely 104 = .ok (.iaload, 1) := by decide +kernel
theorem dX10_likely_105 : decode cX10_likely 105 = .ok (.sipush 10000, 3) := by decide +kernel
theorem dX10_likely_108 : decode cX10_likely 108 = .ok (.if_icmp .eq 7, 3) := by decide +kernel
theorem dX10_likely_111 : decode cX10_likely 111 = .ok (.iconst 1, 1) := by decide +kernel
theorem dX10_likely_112 : decode cX10_likely 112 = .ok (.goto 4, 3) := by decide +kernel
theorem dX10_likely_115 : decode cX10_likely 115 = .ok (.iconst 0, 1) := by decide +kernel
theorem dX10_likely_116 : decode cX10_likely 116 = .ok (.istore 7, 2) := by decide +kernel
theorem dX10_likely_118 : decode cX10_likely 118 = .ok (.iload 7, 2) := by decide +kernel
theorem dX10_likely_120 : decode cX10_likely 120 = .ok (.ifCond .ne 25, 3) := by decide +kernel
theorem dX10_likely_123 : decode cX10_likely 123 = .ok (.iload 5, 2) := by decide +kernel
theorem dX10_likely_125 : decode cX10_likely 125 = .ok (.iload_n 3, 1) := by decide +kernel
theorem dX10_likely_126 : decode cX10_likely 126 = .ok (.iload 6, 2) := by decide +kernel
theorem dX10_likely_128 : decode cX10_likely 128 = .ok (.invokestatic 246, 3) := by decide +kernel
theorem dX10_likely_131 : decode cX10_likely 131 = .ok (.ifCond .ne 7, 3) := by decide +kernel
theorem dX10_likely_134 : decode cX10_likely 134 = .ok (.iconst 1, 1) := by decide +kernel
theorem dX10_likely_135 : decode cX10_likely 135 = .ok (.goto 4, 3) := by decide +kernel
theorem dX10_likely_138 : decode cX10_likely 138 = .ok (.iconst 0, 1) := by decide +kernel
theorem dX10_likely_139 : decode cX10_likely 139 = .ok (.iand, 1) := by decide +kernel
theorem dX10_likely_140 : decode cX10_likely 140 = .ok (.istore 5, 2) := by decide +kernel
theorem dX10_likely_142 : decode cX10_likely 142 = .ok (.goto 35, 3) := by decide +kernel
theorem dX10_likely_145 : decode cX10_likely 145 = .ok (.iload 4, 2) := by decide +kernel
theorem dX10_likely_147 : decode cX10_likely 147 = .ok (.iload_n 3, 1) := by decide +kernel
theorem dX10_likely_148 : decode cX10_likely 148 = .ok (.iload 6, 2) := by decide +kernel
theorem dX10_likely_150 : decode cX10_likely 150 = .ok (.invokestatic 246, 3) := by decide +kernel
theorem dX10_likely_153 : decode cX10_likely 153 = .ok (.ifCond .eq 12, 3) := by decide +kernel
theorem dX10_likely_156 : decode cX10_likely 156 = .ok (.aload_n 0, 1) := by decide +kernel
theorem dX10_likely_157 : decode cX10_likely 157 = .ok (.getfield 34, 3) := by decide +kernel
theorem dX10_likely_160 : decode cX10_likely 160 = .ok (.iconst 2, 1) := by decide +kernel
theorem dX10_likely_161 : decode cX10_likely 161 = .ok (.iaload, 1) := by decide +kernel
theorem dX10_likely_162 : decode cX10_likely 162 = .ok (.goto 12, 3) := by decide +kernel
theorem dX10_likely_165 : decode cX10_likely 165 = .ok (.bipush 10, 2) := by decide +kernel
theorem dX10_likely_167 : decode cX10_likely 167 = .ok (.aload_n 0, 1) := by decide +kernel
theorem dX10_likely_168 : decode cX10_likely 168 = .ok (.getfield 34, 3) := by decide +kernel
theorem dX10_likely_171 : decode cX10_likely 171 = .ok (.iconst 2, 1) := by decide +kernel
theorem dX10_likely_172 : decode cX10_likely 172 = .ok (.iaload, 1) := by decide +kernel
theorem dX10_likely_173 : decode cX10_likely 173 = .ok (.isub, 1) := by decide +kernel
theorem dX10_likely_174 : decode cX10_likely 174 = .ok (.imul, 1) := by decide +kernel
theorem dX10_likely_175 : decode cX10_likely 175 = .ok (.istore 4, 2) := by decide +kernel
theorem dX10_likely_177 : decode cX10_likely 177 = .ok (.iinc 6 1, 3) := by decide +kernel
theorem dX10_likely_180 : decode cX10_likely 180 = .ok (.goto (-105), 3) := by decide +kernel
theorem dX10_likely_183 : decode cX10_likely 183 = .ok (.iload 5, 2) := by decide +kernel
theorem dX10_likely_185 : decode cX10_likely 185 = .ok (.ifCond .eq 20, 3) := by decide +kernel
theorem dX10_likely_188 : decode cX10_likely 188 = .ok (.aload_n 0, 1) := by decide +kernel
theorem dX10_likely_189 : decode cX10_likely 189 = .ok (.getfield 68, 3) := by decide +kernel
theorem dX10_likely_192 : decode cX10_likely 192 = .ok (.aload_n 0, 1) := by decide +kernel
theorem dX10_likely_193 : decode cX10_likely 193 = .ok (.iload_n 1, 1) := by decide +kernel
theorem dX10_likely_194 : decode cX10_likely 194 = .ok (.iload_n 2, 1) := by decide +kernel
theorem dX10_likely_195 : decode cX10_likely 195 = .ok (.iload_n 3, 1) := by decide +kernel
theorem dX10_likely_196 : decode cX10_likely 196 = .ok (.invokevirtual 411, 3) := by decide +kernel
theorem dX10_likely_199 : decode cX10_likely 199 = .ok (.dup2, 1) := by decide +kernel
theorem dX10_likely_200 : decode cX10_likely 200 = .ok (.iaload, 1) := by decide +kernel
theorem dX10_likely_201 : decode cX10_likely 201 = .ok (.iload 4, 2) := by decide +kernel
theorem dX10_likely_203 : decode cX10_likely 203 = .ok (.iadd, 1) := by decide +kernel
theorem dX10_likely_204 : decode cX10_likely 204 = .ok (.iastore, 1) := by decide +kernel
theorem dX10_likely_205 : decode cX10_likely 205 = .ok (.iinc 3 1, 3) := by decide +kernel
theorem dX10_likely_208 : decode cX10_likely 208 = .ok (.goto (-152), 3) := by decide +kernel
theorem dX10_likely_211 : decode cX10_likely 211 = .ok (.iconst (-1), 1) := by decide +kernel
theorem dX10_likely_212 : decode cX10_likely 212 = .ok (.istore_n 3, 1) := by decide +kernel
theorem dX10_likely_213 : decode cX10_likely 213 = .ok (.iconst 0, 1) := by decide +kernel
theorem dX10_likely_214 : decode cX10_likely 214 = .ok (.istore 4, 2) := by decide +kernel
theorem dX10_likely_216 : decode cX10_likely 216 = .ok (.iload 4, 2) := by decide +kernel
theorem dX10_likely_218 : decode cX10_likely 218 = .ok (.aload_n 0, 1) := by decide +kernel
theorem dX10_likely_219 : decode cX10_likely 219 = .ok (.invokevirtual 229, 3) := by decide +kernel
theorem dX10_likely_222 : decode cX10_likely 222 = .ok (.if_icmp .ge 42, 3) := by decide +kernel
theorem dX10_likely_225 : decode cX10_likely 225 = .ok (.iload_n 2, 1) := by decide +kernel
theorem dX10_likely_226 : decode cX10_likely 226 = .ok (.iload 4, 2) := by decide +kernel
theorem dX10_likely_228 : decode cX10_likely 228 = .ok (.invokestatic 246, 3) := by decide +kernel
theorem dX10_likely_231 : decode cX10_likely 231 = .ok (.ifCond .eq 27, 3) := by decide +kernel
theorem dX10_likely_234 : decode cX10_likely 234 = .ok (.iload_n 3, 1) := by decide +kernel
theorem dX10_likely_235 : decode cX10_likely 235 = .ok (.iconst (-1), 1) := by decide +kernel
theorem dX10_likely_236 : decode cX10_likely 236 = .ok (.if_icmp .eq 19, 3) := by decide +kernel
theorem dX10_likely_239 : decode cX10_likely 239 = .ok (.aload_n 0, 1) := by decide +kernel
theorem dX10_likely_240 : decode cX10_likely 240 = .ok (.getfield 68, 3) := by decide +kernel
theorem dX10_likely_243 : decode cX10_likely 243 = .ok (.iload 4, 2) := by decide +kernel
theorem dX10_likely_245 : decode cX10_likely 245 = .ok (.iaload, 1) := by decide +kernel
theorem dX10_likely_246 : decode cX10_likely 246 = .ok (.aload_n 0, 1) := by decide +kernel
theorem dX10_likely_247 : decode cX10_likely 247 = .ok (.getfield 68, 3) := by decide +kernel
theorem dX10_likely_250 : decode cX10_likely 250 = .ok (.iload_n 3, 1) := by decide +kernel
theorem dX10_likely_251 : decode cX10_likely 251 = .ok (.iaload, 1) := by decide +kernel
theorem dX10_likely_252 : decode cX10_likely 252 = .ok (.if_icmp .le 6, 3) := by decide +kernel
theorem dX10_likely_255 : decode cX10_likely 255 = .ok (.iload 4, 2) := by decide +kernel
theorem dX10_likely_257 : decode cX10_likely 257 = .ok (.istore_n 3, 1) := by decide +kernel
theorem dX10_likely_258 : decode cX10_likely 258 = .ok (.iinc 4 1, 3) := by decide +kernel
theorem dX10_likely_261 : decode cX10_likely 261 = .ok (.goto (-45), 3) := by decide +kernel
theorem dX10_likely_264 : decode cX10_likely 264 = .ok (.iload_n 3, 1) := by decide +kernel
theorem dX10_likely_265 : decode cX10_likely 265 = .ok (.ireturn, 1) := by decide +kernel
theorem dX10_line_0 : decode cX10_line 0 = .ok (.aload_n 0, 1) := by decide +kernel
theorem dX10_line_1 : decode cX10_line 1 = .ok (.aload_n 0, 1) := by decide +kernel
theorem dX10_line_2 : decode cX10_line 2 = .ok (.ldc2_w 178, 3) := by decide +kernel
theorem dX10_line_5 : decode cX10_line 5 = .ok (.invokevirtual 129, 3) := by decide +kernel
theorem dX10_line_8 : decode cX10_line 8 = .ok (.iconst 3, 1) := by decide +kernel
theorem dX10_line_9 : decode cX10_line 9 = .ok (.bipush 6, 2) := by decide +kernel
theorem dX10_line_11 : decode cX10_line 11 = .ok (.invokevirtual 180, 3) := by decide +kernel
theorem dX10_line_14 : decode cX10_line 14 = .ok (.ifCond .eq 10, 3) := by decide +kernel
theorem dX10_line_17 : decode cX10_line 17 = .ok (.aload_n 0, 1) := by decide +kernel
theorem dX10_line_18 : decode cX10_line 18 = .ok (.invokevirtual 184, 3) := by decide +kernel
theorem dX10_line_21 : decode cX10_line 21 = .ok (.goto 76, 3) := by decide +kernel
theorem dX10_line_24 : decode cX10_line 24 = .ok (.aload_n 0, 1) := by decide +kernel
theorem dX10_line_25 : decode cX10_line 25 = .ok (.getfield 123, 3) := by decide +kernel
theorem dX10_line_28 : decode cX10_line 28 = .ok (.ifCond .ne 57, 3) := by decide +kernel
theorem dX10_line_31 : decode cX10_line 31 = .ok (.aload_n 0, 1) := by decide +kernel
theorem dX10_line_32 : decode cX10_line 32 = .ok (.aload_n 0, 1) := by decide +kernel
theorem dX10_line_33 : decode cX10_line 33 = .ok (.ldc2_w 187, 3) := by decide +kernel
theorem dX10_line_36 : decode cX10_line 36 = .ok (.invokevirtual 129, 3) := by decide +kernel
theorem dX10_line_39 : decode cX10_line 39 = .ok (.iconst 4, 1) := by decide +kernel
theorem dX10_line_40 : decode cX10_line 40 = .ok (.iconst 5, 1) := by decide +kernel
theorem dX10_line_41 : decode cX10_line 41 = .ok (.invokevirtual 180, 3) := by decide +kernel
theorem dX10_line_44 : decode cX10_line 44 = .ok (.ifCond .eq 41, 3) := by decide +kernel
theorem dX10_line_47 : decode cX10_line 47 = .ok (.aload_n 0, 1) := by decide +kernel
theorem dX10_line_48 : decode cX10_line 48 = .ok (.getfield 40, 3) := by decide +kernel
theorem dX10_line_51 : decode cX10_line 51 = .ok (.bipush 20, 2) := by decide +kernel
theorem dX10_line_53 : decode cX10_line 53 = .ok (.aload_n 0, 1) := by decide +kernel
theorem dX10_line_54 : decode cX10_line 54 = .ok (.iconst 4, 1) := by decide +kernel
theorem dX10_line_55 : decode cX10_line 55 = .ok (.invokevirtual 153, 3) := by decide +kernel
theorem dX10_line_58 : decode cX10_line 58 = .ok (.iadd, 1) := by decide +kernel
theorem dX10_line_59 : decode cX10_line 59 = .ok (.aload_n 0, 1) := by decide +kernel
theorem dX10_line_60 : decode cX10_line 60 = .ok (.ldc2_w 189, 3) := by decide +kernel
theorem dX10_line_63 : decode cX10_line 63 = .ok (.iconst 0, 1) := by decide +kernel
theorem dX10_line_64 : decode cX10_line 64 = .ok (.bipush 99, 2) := by decide +kernel
theorem dX10_line_66 : decode cX10_line 66 = .ok (.invokevirtual 159, 3) := by decide +kernel
theorem dX10_line_69 : decode cX10_line 69 = .ok (.iastore, 1) := by decide +kernel
theorem dX10_line_70 : decode cX10_line 70 = .ok (.aload_n 0, 1) := by decide +kernel
theorem dX10_line_71 : decode cX10_line 71 = .ok (.iconst 4, 1) := by decide +kernel
theorem dX10_line_72 : decode cX10_line 72 = .ok (.aload_n 0, 1) := by decide +kernel
theorem dX10_line_73 : decode cX10_line 73 = .ok (.iconst 4, 1) := by decide +kernel
theorem dX10_line_74 : decode cX10_line 74 = .ok (.invokevirtual 153, 3) := by decide +kernel
theorem dX10_line_77 : decode cX10_line 77 = .ok (.iconst 1, 1) := by decide +kernel
theorem dX10_line_78 : decode cX10_line 78 = .ok (.iadd, 1) := by decide +kernel
theorem dX10_line_79 : decode cX10_line 79 = .ok (.invokevirtual 174, 3) := by decide +kernel
theorem dX10_line_82 : decode cX10_line 82 = .ok (.goto 15, 3) := by decide +kernel
theorem dX10_line_85 : decode cX10_line 85 = .ok (.aload_n 0, 1) := by decide +kernel
theorem dX10_line_86 : decode cX10_line 86 = .ok (.getfield 123, 3) := by decide +kernel
theorem dX10_line_89 : decode cX10_line 89 = .ok (.ifCond .ne 8, 3) := by decide +kernel
theorem dX10_line_92 : decode cX10_line 92 = .ok (.aload_n 0, 1) := by decide +kernel
theorem dX10_line_93 : decode cX10_line 93 = .ok (.iconst 1, 1) := by decide +kernel
theorem dX10_line_94 : decode cX10_line 94 = .ok (.invokevirtual 139, 3) := by decide +kernel
theorem dX10_line_97 : decode cX10_line 97 = .ok (.return_, 1) := by decide +kernel
theorem dX10_lodge_0 : decode cX10_lodge 0 = .ok (.aload_n 0, 1) := by decide +kernel
theorem dX10_lodge_1 : decode cX10_lodge 1 = .ok (.iconst 0, 1) := by decide +kernel
theorem dX10_lodge_2 : decode cX10_lodge 2 = .ok (.putfield 71, 3) := by decide +kernel
theorem dX10_lodge_5 : decode cX10_lodge 5 = .ok (.aload_n 0, 1) := by decide +kernel
theorem dX10_lodge_6 : decode cX10_lodge 6 = .ok (.iload_n 1, 1) := by decide +kernel
theorem dX10_lodge_7 : decode cX10_lodge 7 = .ok (.i2l, 1) := by decide +kernel
theorem dX10_lodge_8 : decode cX10_lodge 8 = .ok (.invokevirtual 272, 3) := by decide +kernel
theorem dX10_lodge_11 : decode cX10_lodge 11 = .ok (.ifCond .ne 6, 3) := by decide +kernel
theorem dX10_lodge_14 : decode cX10_lodge 14 = .ok (.bipush (-2), 2) := by decide +kernel
theorem dX10_lodge_16 : decode cX10_lodge 16 = .ok (.ireturn, 1) := by decide +kernel
theorem dX10_lodge_17 : decode cX10_lodge 17 = .ok (.aload_n 0, 1) := by decide +kernel
theorem dX10_lodge_18 : decode cX10_lodge 18 = .ok (.invokevirtual 275, 3) := by decide +kernel
theorem dX10_lodge_21 : decode cX10_lodge 21 = .ok (.iconst 0, 1) := by decide +kernel
theorem dX10_lodge_22 : decode cX10_lodge 22 = .ok (.istore_n 2, 1) := by decide +kernel
theorem dX10_lodge_23 : decode cX10_lodge 23 = .ok (.aload_n 0, 1) := by decide +kernel
theorem dX10_lodge_24 : decode cX10_lodge 24 = .ok (.iload_n 1, 1) := by decide +kernel
theorem dX10_lodge_25 : decode cX10_lodge 25 = .ok (.iconst 0, 1) := by decide +kernel
theorem dX10_lodge_26 : decode cX10_lodge 26 = .ok (.invokevirtual 351, 3) := by decide +kernel
theorem dX10_lodge_29 : decode cX10_lodge 29 = .ok (.istore_n 3, 1) := by decide +kernel
theorem dX10_lodge_30 : decode cX10_lodge 30 = .ok (.iconst 1, 1) := by decide +kernel
theorem dX10_lodge_31 : decode cX10_lodge 31 = .ok (.istore 4, 2) := by decide +kernel
theorem dX10_lodge_33 : decode cX10_lodge 33 = .ok (.iload 4, 2) := by decide +kernel
theorem dX10_lodge_35 : decode cX10_lodge 35 = .ok (.bipush 10, 2) := by decide +kernel
theorem dX10_lodge_37 : decode cX10_lodge 37 = .ok (.if_icmp .ge 33, 3) := by decide +kernel
theorem dX10_lodge_40 : decode cX10_lodge 40 = .ok (.aload_n 0, 1) := by decide +kernel
theorem dX10_lodge_41 : decode cX10_lodge 41 = .ok (.iload_n 1, 1) := by decide +kernel
theorem dX10_lodge_42 : decode cX10_lodge 42 = .ok (.iload 4, 2) := by decide +kernel
theorem dX10_lodge_44 : decode cX10_lodge 44 = .ok (.invokevirtual 351, 3) := by decide +kernel
theorem dX10_lodge_47 : decode cX10_lodge 47 = .ok (.istore 5, 2) := by decide +kernel
theorem dX10_lodge_49 : decode cX10_lodge 49 = .ok (.iload 5, 2) := by decide +kernel
theorem dX10_lodge_51 : decode cX10_lodge 51 = .ok (.iload_n 3, 1) := by decide +kernel
theorem dX10_lodge_52 : decode cX10_lodge 52 = .ok (.if_icmp .lt 6, 3) := by decide +kernel
theorem dX10_lodge_55 : decode cX10_lodge 55 = .ok (.goto 9, 3) := by decide +kernel
theorem dX10_lodge_58 : decode cX10_lodge 58 = .ok (.iload 4, 2) := by decide +kernel
theorem dX10_lodge_60 : decode cX10_lodge 60 = .ok (.istore_n 2, 1) := by decide +kernel
theorem dX10_lodge_61 : decode cX10_lodge 61 = .ok (.iload 5, 2) := by decide +kernel
theorem dX10_lodge_63 : decode cX10_lodge 63 = .ok (.istore_n 3, 1) := by decide +kernel
theorem dX10_lodge_64 : decode cX10_lodge 64 = .ok (.iinc 4 1, 3) := by decide +kernel
theorem dX10_lodge_67 : decode cX10_lodge 67 = .ok (.goto (-34), 3) := by decide +kernel
theorem dX10_lodge_70 : decode cX10_lodge 70 = .ok (.iload_n 2, 1) := by decide +kernel
theorem dX10_lodge_71 : decode cX10_lodge 71 = .ok (.ireturn, 1) := by decide +kernel
theorem dX10_luck_0 : decode cX10_luck 0 = .ok (.aload_n 0, 1) := by decide +kernel
theorem dX10_luck_1 : decode cX10_luck 1 = .ok (.iconst 0, 1) := by decide +kernel
theorem dX10_luck_2 : decode cX10_luck 2 = .ok (.putfield 71, 3) := by decide +kernel
theorem dX10_luck_5 : decode cX10_luck 5 = .ok (.iload_n 1, 1) := by decide +kernel
theorem dX10_luck_6 : decode cX10_luck 6 = .ok (.invokestatic 427, 3) := by decide +kernel
theorem dX10_luck_9 : decode cX10_luck 9 = .ok (.ifCond .eq 34, 3) := by decide +kernel
theorem dX10_luck_12 : decode cX10_luck 12 = .ok (.iload_n 2, 1) := by decide +kernel
theorem dX10_luck_13 : decode cX10_luck 13 = .ok (.i2l, 1) := by decide +kernel
theorem dX10_luck_14 : decode cX10_luck 14 = .ok (.lconst 1, 1) := by decide +kernel
theorem dX10_luck_15 : decode cX10_luck 15 = .ok (.ldc2_w 434, 3) := by decide +kernel
theorem dX10_luck_18 : decode cX10_luck 18 = .ok (.invokestatic 76, 3) := by decide +kernel
theorem dX10_luck_21 : decode cX10_luck 21 = .ok (.ifCond .eq 22, 3) := by decide +kernel
theorem dX10_luck_24 : decode cX10_luck 24 = .ok (.aload_n 0, 1) := by decide +kernel
theorem dX10_luck_25 : decode cX10_luck 25 = .ok (.iload_n 3, 1) := by decide +kernel
theorem dX10_luck_26 : decode cX10_luck 26 = .ok (.i2l, 1) := by decide +kernel
theorem dX10_luck_27 : decode cX10_luck 27 = .ok (.invokevirtual 267, 3) := by decide +kernel
theorem dX10_luck_30 : decode cX10_luck 30 = .ok (.ifCond .eq 13, 3) := by decide +kernel
theorem dX10_luck_33 : decode cX10_luck 33 = .ok (.aload_n 0, 1) := by decide +kernel
theorem dX10_luck_34 : decode cX10_luck 34 = .ok (.iload 4, 2) := by decide +kernel
theorem dX10_luck_36 : decode cX10_luck 36 = .ok (.i2l, 1) := by decide +kernel
theorem dX10_luck_37 : decode cX10_luck 37 = .ok (.invokevirtual 272, 3) := by decide +kernel
theorem dX10_luck_40 : decode cX10_luck 40 = .ok (.ifCond .ne 6, 3) := by decide +kernel
theorem dX10_luck_43 : decode cX10_luck 43 = .ok (.bipush (-2), 2) := by decide +kernel
theorem dX10_luck_45 : decode cX10_luck 45 = .ok (.ireturn, 1) := by decide +kernel
theorem dX10_luck_46 : decode cX10_luck 46 = .ok (.iconst 0, 1) := by decide +kernel
theorem dX10_luck_47 : decode cX10_luck 47 = .ok (.istore 5, 2) := by decide +kernel
theorem dX10_luck_49 : decode cX10_luck 49 = .ok (.iconst 0, 1) := by decide +kernel
theorem dX10_luck_50 : decode cX10_luck 50 = .ok (.istore 6, 2) := by decide +kernel
theorem dX10_luck_52 : decode cX10_luck 52 = .ok (.iload 6, 2) := by decide +kernel
theorem dX10_luck_54 : decode cX10_luck 54 = .ok (.iload_n 2, 1) := by decide +kernel
theorem dX10_luck_55 : decode cX10_luck 55 = .ok (.if_icmp .ge 46, 3) := by decide +kernel
theorem dX10_luck_58 : decode cX10_luck 58 = .ok (.aload_n 0, 1) := by decide +kernel
theorem dX10_luck_59 : decode cX10_luck 59 = .ok (.iload_n 1, 1) := by decide +kernel
theorem dX10_luck_60 : decode cX10_luck 60 = .ok (.i2l, 1) := by decide +kernel
theorem dX10_luck_61 : decode cX10_luck 61 = .ok (.iload 6, 2) := by decide +kernel
theorem dX10_luck_63 : decode cX10_luck 63 = .ok (.i2l, 1) := by decide +kernel
theorem dX10_luck_64 : decode cX10_luck 64 = .ok (.ladd, 1) := by decide +kernel
theorem dX10_luck_65 : decode cX10_luck 65 = .ok (.invokevirtual 430, 3) := by decide +kernel
theorem dX10_luck_68 : decode cX10_luck 68 = .ok (.pop, 1) := by decide +kernel
theorem dX10_luck_69 : decode cX10_luck 69 = .ok (.iload 5, 2) := by decide +kernel
theorem dX10_luck_71 : decode cX10_luck 71 = .ok (.aload_n 0, 1) := by decide +kernel
theorem dX10_luck_72 : decode cX10_luck 72 = .ok (.iload 4, 2) := by decide +kernel
theorem dX10_luck_74 : decode cX10_luck 74 = .ok (.aload_n 0, 1) := by decide +kernel
theorem dX10_luck_75 : decode cX10_luck 75 = .ok (.iload 4, 2) := by decide +kernel
theorem dX10_luck_77 : decode cX10_luck 77 = .ok (.invokevirtual 253, 3) := by decide +kernel
theorem dX10_luck_80 : decode cX10_luck 80 = .ok (.invokevirtual 250, 3) := by decide +kernel
theorem dX10_luck_83 : decode cX10_luck 83 = .ok (.iload_n 3, 1) := by decide +kernel
theorem dX10_luck_84 : decode cX10_luck 84 = .ok (.if_icmp .ne 7, 3) := by decide +kernel
theorem dX10_luck_87 : decode cX10_luck 87 = .ok (.iconst 1, 1) := by decide +kernel
theorem dX10_luck_88 : decode cX10_luck 88 = .ok (.goto 4, 3) := by decide +kernel
theorem dX10_luck_91 : decode cX10_luck 91 = .ok (.iconst 0, 1) := by decide +kernel
theorem dX10_luck_92 : decode cX10_luck 92 = .ok (.iadd, 1) := by decide +kernel
theorem dX10_luck_93 : decode cX10_luck 93 = .ok (.istore 5, 2) := by decide +kernel
theorem dX10_luck_95 : decode cX10_luck 95 = .ok (.iinc 6 1, 3) := by decide +kernel
theorem dX10_luck_98 : decode cX10_luck 98 = .ok (.goto (-46), 3) := by decide +kernel
theorem dX10_luck_101 : decode cX10_luck 101 = .ok (.iload 5, 2) := by decide +kernel
theorem dX10_luck_103 : decode cX10_luck 103 = .ok (.ireturn, 1) := by decide +kernel
theorem dX10_mayBeAway_0 : decode cX10_mayBeAway 0 = .ok (.iconst 0, 1) := by decide +kernel
theorem dX10_mayBeAway_1 : decode cX10_mayBeAway 1 = .ok (.istore_n 2, 1) := by decide +kernel
theorem dX10_mayBeAway_2 : decode cX10_mayBeAway 2 = .ok (.iload_n 2, 1) := by decide +kernel
theorem dX10_mayBeAway_3 : decode cX10_mayBeAway 3 = .ok (.aload_n 0, 1) := by decide +kernel
theorem dX10_mayBeAway_4 : decode cX10_mayBeAway 4 = .ok (.invokevirtual 225, 3) := by decide +kernel
theorem dX10_mayBeAway_7 : decode cX10_mayBeAway 7 = .ok (.if_icmp .ge 25, 3) := by decide +kernel
theorem dX10_mayBeAway_10 : decode cX10_mayBeAway 10 = .ok (.aload_n 0, 1) := by decide +kernel
theorem dX10_mayBeAway_11 : decode cX10_mayBeAway 11 = .ok (.getfield 53, 3) := by decide +kernel
theorem dX10_mayBeAway_14 : decode cX10_mayBeAway 14 = .ok (.bipush 6, 2) := by decide +kernel
theorem dX10_mayBeAway_16 : decode cX10_mayBeAway 16 = .ok (.iload_n 2, 1) := by decide +kernel
theorem dX10_mayBeAway_17 : decode cX10_mayBeAway 17 = .ok (.imul, 1) := by decide +kernel
theorem dX10_mayBeAway_18 : decode cX10_mayBeAway 18 = .ok (.iload_n 1, 1) := by decide +kernel
theorem dX10_mayBeAway_19 : decode cX10_mayBeAway 19 = .ok (.iadd, 1) := by decide +kernel
theorem dX10_mayBeAway_20 : decode cX10_mayBeAway 20 = .ok (.baload, 1) := by decide +kernel
theorem dX10_mayBeAway_21 : decode cX10_mayBeAway 21 = .ok (.ifCond .eq 5, 3) := by decide +kernel
theorem dX10_mayBeAway_24 : decode cX10_mayBeAway 24 = .ok (.iconst 1, 1) := by decide +kernel
theorem dX10_mayBeAway_25 : decode cX10_mayBeAway 25 = .ok (.ireturn, 1) := by decide +kernel
theorem dX10_mayBeAway_26 : decode cX10_mayBeAway 26 = .ok (.iinc 2 1, 3) := by decide +kernel
theorem dX10_mayBeAway_29 : decode cX10_mayBeAway 29 = .ok (.goto (-27), 3) := by decide +kernel
theorem dX10_mayBeAway_32 : decode cX10_mayBeAway 32 = .ok (.iconst 0, 1) := by decide +kernel
theorem dX10_mayBeAway_33 : decode cX10_mayBeAway 33 = .ok (.ireturn, 1) := by decide +kernel
theorem dX10_mean_0 : decode cX10_mean 0 = .ok (.aload_n 0, 1) := by decide +kernel
theorem dX10_mean_1 : decode cX10_mean 1 = .ok (.iconst 0, 1) := by decide +kernel
theorem dX10_mean_2 : decode cX10_mean 2 = .ok (.putfield 71, 3) := by decide +kernel
theorem dX10_mean_5 : decode cX10_mean 5 = .ok (.aload_n 0, 1) := by decide +kernel
theorem dX10_mean_6 : decode cX10_mean 6 = .ok (.iload_n 1, 1) := by decide +kernel
theorem dX10_mean_7 : decode cX10_mean 7 = .ok (.i2l, 1) := by decide +kernel
theorem dX10_mean_8 : decode cX10_mean 8 = .ok (.invokevirtual 267, 3) := by decide +kernel
theorem dX10_mean_11 : decode cX10_mean 11 = .ok (.ifCond .eq 10, 3) := by decide +kernel
theorem dX10_mean_14 : decode cX10_mean 14 = .ok (.iload_n 2, 1) := by decide +kernel
