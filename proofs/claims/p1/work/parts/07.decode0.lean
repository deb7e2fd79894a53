theorem dX0_init_0 : decode cX0_init 0 = .ok (.aload_n 0, 1) := by decide +kernel
theorem dX0_init_1 : decode cX0_init 1 = .ok (.invokespecial 3, 3) := by decide +kernel
theorem dX0_init_4 : decode cX0_init 4 = .ok (.aload_n 0, 1) := by decide +kernel
theorem dX0_init_5 : decode cX0_init 5 = .ok (.bipush 6, 2) := by decide +kernel
theorem dX0_init_7 : decode cX0_init 7 = .ok (.newarray .int, 2) := by decide +kernel
theorem dX0_init_9 : decode cX0_init 9 = .ok (.putfield 9, 3) := by decide +kernel
theorem dX0_init_12 : decode cX0_init 12 = .ok (.aload_n 0, 1) := by decide +kernel
theorem dX0_init_13 : decode cX0_init 13 = .ok (.bipush 6, 2) := by decide +kernel
theorem dX0_init_15 : decode cX0_init 15 = .ok (.newarray .int, 2) := by decide +kernel
theorem dX0_init_17 : decode cX0_init 17 = .ok (.putfield 15, 3) := by decide +kernel
theorem dX0_init_20 : decode cX0_init 20 = .ok (.aload_n 0, 1) := by decide +kernel
theorem dX0_init_21 : decode cX0_init 21 = .ok (.bipush 6, 2) := by decide +kernel
theorem dX0_init_23 : decode cX0_init 23 = .ok (.newarray .int, 2) := by decide +kernel
theorem dX0_init_25 : decode cX0_init 25 = .ok (.putfield 18, 3) := by decide +kernel
theorem dX0_init_28 : decode cX0_init 28 = .ok (.aload_n 0, 1) := by decide +kernel
theorem dX0_init_29 : decode cX0_init 29 = .ok (.bipush 6, 2) := by decide +kernel
theorem dX0_init_31 : decode cX0_init 31 = .ok (.newarray .int, 2) := by decide +kernel
theorem dX0_init_33 : decode cX0_init 33 = .ok (.putfield 21, 3) := by decide +kernel
theorem dX0_init_36 : decode cX0_init 36 = .ok (.return_, 1) := by decide +kernel
theorem dX1_init_0 : decode cX1_init 0 = .ok (.aload_n 0, 1) := by decide +kernel
theorem dX1_init_1 : decode cX1_init 1 = .ok (.invokespecial 3, 3) := by decide +kernel
theorem dX1_init_4 : decode cX1_init 4 = .ok (.aload_n 0, 1) := by decide +kernel
theorem dX1_init_5 : decode cX1_init 5 = .ok (.bipush 7, 2) := by decide +kernel
theorem dX1_init_7 : decode cX1_init 7 = .ok (.newarray .int, 2) := by decide +kernel
theorem dX1_init_9 : decode cX1_init 9 = .ok (.putfield 9, 3) := by decide +kernel
theorem dX1_init_12 : decode cX1_init 12 = .ok (.aload_n 0, 1) := by decide +kernel
theorem dX1_init_13 : decode cX1_init 13 = .ok (.bipush 49, 2) := by decide +kernel
theorem dX1_init_15 : decode cX1_init 15 = .ok (.bipush 6, 2) := by decide +kernel
theorem dX1_init_17 : decode cX1_init 17 = .ok (.multianewarray 15 2, 4) := by decide +kernel
theorem dX1_init_21 : decode cX1_init 21 = .ok (.putfield 17, 3) := by decide +kernel
theorem dX1_init_24 : decode cX1_init 24 = .ok (.aload_n 0, 1) := by decide +kernel
theorem dX1_init_25 : decode cX1_init 25 = .ok (.bipush 21, 2) := by decide +kernel
theorem dX1_init_27 : decode cX1_init 27 = .ok (.bipush 6, 2) := by decide +kernel
theorem dX1_init_29 : decode cX1_init 29 = .ok (.multianewarray 15 2, 4) := by decide +kernel
theorem dX1_init_33 : decode cX1_init 33 = .ok (.putfield 20, 3) := by decide +kernel
theorem dX1_init_36 : decode cX1_init 36 = .ok (.aload_n 0, 1) := by decide +kernel
theorem dX1_init_37 : decode cX1_init 37 = .ok (.bipush 7, 2) := by decide +kernel
theorem dX1_init_39 : decode cX1_init 39 = .ok (.newarray .int, 2) := by decide +kernel
theorem dX1_init_41 : decode cX1_init 41 = .ok (.putfield 23, 3) := by decide +kernel
theorem dX1_init_44 : decode cX1_init 44 = .ok (.aload_n 0, 1) := by decide +kernel
theorem dX1_init_45 : decode cX1_init 45 = .ok (.bipush 7, 2) := by decide +kernel
theorem dX1_init_47 : decode cX1_init 47 = .ok (.newarray .int, 2) := by decide +kernel
theorem dX1_init_49 : decode cX1_init 49 = .ok (.putfield 26, 3) := by decide +kernel
theorem dX1_init_52 : decode cX1_init 52 = .ok (.aload_n 0, 1) := by decide +kernel
theorem dX1_init_53 : decode cX1_init 53 = .ok (.bipush 7, 2) := by decide +kernel
theorem dX1_init_55 : decode cX1_init 55 = .ok (.newarray .int, 2) := by decide +kernel
theorem dX1_init_57 : decode cX1_init 57 = .ok (.putfield 29, 3) := by decide +kernel
theorem dX1_init_60 : decode cX1_init 60 = .ok (.aload_n 0, 1) := by decide +kernel
theorem dX1_init_61 : decode cX1_init 61 = .ok (.bipush 7, 2) := by decide +kernel
theorem dX1_init_63 : decode cX1_init 63 = .ok (.newarray .int, 2) := by decide +kernel
theorem dX1_init_65 : decode cX1_init 65 = .ok (.putfield 32, 3) := by decide +kernel
theorem dX1_init_68 : decode cX1_init 68 = .ok (.return_, 1) := by decide +kernel
theorem dX10_alarm_0 : decode cX10_alarm 0 = .ok (.aload_n 0, 1) := by decide +kernel
theorem dX10_alarm_1 : decode cX10_alarm 1 = .ok (.iconst 0, 1) := by decide +kernel
theorem dX10_alarm_2 : decode cX10_alarm 2 = .ok (.putfield 71, 3) := by decide +kernel
theorem dX10_alarm_5 : decode cX10_alarm 5 = .ok (.aload_n 0, 1) := by decide +kernel
theorem dX10_alarm_6 : decode cX10_alarm 6 = .ok (.iload_n 1, 1) := by decide +kernel
theorem dX10_alarm_7 : decode cX10_alarm 7 = .ok (.invokevirtual 304, 3) := by decide +kernel
theorem dX10_alarm_10 : decode cX10_alarm 10 = .ok (.ifCond .ne 6, 3) := by decide +kernel
theorem dX10_alarm_13 : decode cX10_alarm 13 = .ok (.bipush (-2), 2) := by decide +kernel
theorem dX10_alarm_15 : decode cX10_alarm 15 = .ok (.ireturn, 1) := by decide +kernel
theorem dX10_anew_0 : decode cX10_anew 0 = .ok (.aload_n 0, 1) := by decide +kernel
theorem dX10_anew_1 : decode cX10_anew 1 = .ok (.iconst 0, 1) := by decide +kernel
theorem dX10_anew_2 : decode cX10_anew 2 = .ok (.putfield 71, 3) := by decide +kernel
theorem dX10_anew_5 : decode cX10_anew 5 = .ok (.aload_n 0, 1) := by decide +kernel
theorem dX10_anew_6 : decode cX10_anew 6 = .ok (.invokevirtual 232, 3) := by decide +kernel
theorem dX10_anew_9 : decode cX10_anew 9 = .ok (.ifCond .ne 6, 3) := by decide +kernel
theorem dX10_anew_12 : decode cX10_anew 12 = .ok (.bipush (-2), 2) := by decide +kernel
theorem dX10_anew_14 : decode cX10_anew 14 = .ok (.ireturn, 1) := by decide +kernel
theorem dX10_ask_0 : decode cX10_ask 0 = .ok (.aload_n 0, 1) := by decide +kernel
theorem dX10_ask_1 : decode cX10_ask 1 = .ok (.iconst 0, 1) := by decide +kernel
theorem dX10_ask_2 : decode cX10_ask 2 = .ok (.putfield 71, 3) := by decide +kernel
theorem dX10_ask_5 : decode cX10_ask 5 = .ok (.aload_n 0, 1) := by decide +kernel
theorem dX10_ask_6 : decode cX10_ask 6 = .ok (.iload_n 1, 1) := by decide +kernel
theorem dX10_ask_7 : decode cX10_ask 7 = .ok (.invokevirtual 394, 3) := by decide +kernel
theorem dX10_ask_10 : decode cX10_ask 10 = .ok (.istore_n 2, 1) := by decide +kernel
theorem dX10_ask_11 : decode cX10_ask 11 = .ok (.iload_n 2, 1) := by decide +kernel
theorem dX10_ask_12 : decode cX10_ask 12 = .ok (.ifCond .eq 5, 3) := by decide +kernel
theorem dX10_ask_15 : decode cX10_ask 15 = .ok (.iload_n 2, 1) := by decide +kernel
theorem dX10_ask_16 : decode cX10_ask 16 = .ok (.ireturn, 1) := by decide +kernel
theorem dX10_away_0 : decode cX10_away 0 = .ok (.aload_n 0, 1) := by decide +kernel
theorem dX10_away_1 : decode cX10_away 1 = .ok (.iconst 0, 1) := by decide +kernel
theorem dX10_away_2 : decode cX10_away 2 = .ok (.putfield 71, 3) := by decide +kernel
theorem dX10_away_5 : decode cX10_away 5 = .ok (.aload_n 0, 1) := by decide +kernel
theorem dX10_away_6 : decode cX10_away 6 = .ok (.iload_n 1, 1) := by decide +kernel
theorem dX10_away_7 : decode cX10_away 7 = .ok (.invokevirtual 394, 3) := by decide +kernel
theorem dX10_away_10 : decode cX10_away 10 = .ok (.istore_n 2, 1) := by decide +kernel
theorem dX10_away_11 : decode cX10_away 11 = .ok (.iload_n 2, 1) := by decide +kernel
theorem dX10_away_12 : decode cX10_away 12 = .ok (.ifCond .eq 5, 3) := by decide +kernel
theorem dX10_away_15 : decode cX10_away 15 = .ok (.iload_n 2, 1) := by decide +kernel
theorem dX10_away_16 : decode cX10_away 16 = .ok (.ireturn, 1) := by decide +kernel
theorem dX10_back_0 : decode cX10_back 0 = .ok (.aload_n 0, 1) := by decide +kernel
theorem dX10_back_1 : decode cX10_back 1 = .ok (.iconst 0, 1) := by decide +kernel
theorem dX10_back_2 : decode cX10_back 2 = .ok (.putfield 71, 3) := by decide +kernel
theorem dX10_back_5 : decode cX10_back 5 = .ok (.iload_n 1, 1) := by decide +kernel
theorem dX10_back_6 : decode cX10_back 6 = .ok (.i2l, 1) := by decide +kernel
theorem dX10_back_7 : decode cX10_back 7 = .ok (.lconst 0, 1) := by decide +kernel
theorem dX10_back_8 : decode cX10_back 8 = .ok (.ldc2_w 443, 3) := by decide +kernel
theorem dX10_back_11 : decode cX10_back 11 = .ok (.invokestatic 76, 3) := by decide +kernel
theorem dX10_back_14 : decode cX10_back 14 = .ok (.ifCond .ne 6, 3) := by decide +kernel
theorem dX10_back_17 : decode cX10_back 17 = .ok (.bipush (-2), 2) := by decide +kernel
theorem dX10_back_19 : decode cX10_back 19 = .ok (.ireturn, 1) := by decide +kernel
theorem dX10_back_20 : decode cX10_back 20 = .ok (.aload_n 0, 1) := by decide +kernel
theorem dX10_back_21 : decode cX10_back 21 = .ok (.getfield 46, 3) := by decide +kernel
theorem dX10_back_24 : decode cX10_back 24 = .ok (.iload_n 1, 1) := by decide +kernel
theorem dX10_back_25 : decode cX10_back 25 = .ok (.baload, 1) := by decide +kernel
theorem dX10_back_26 : decode cX10_back 26 = .ok (.ifCond .ne 6, 3) := by decide +kernel
theorem dX10_back_29 : decode cX10_back 29 = .ok (.bipush (-6), 2) := by decide +kernel
theorem dX10_back_31 : decode cX10_back 31 = .ok (.ireturn, 1) := by decide +kernel
theorem dX10_begins_0 : decode cX10_begins 0 = .ok (.aload_n 0, 1) := by decide +kernel
theorem dX10_begins_1 : decode cX10_begins 1 = .ok (.iconst 0, 1) := by decide +kernel
theorem dX10_begins_2 : decode cX10_begins 2 = .ok (.putfield 123, 3) := by decide +kernel
theorem dX10_begins_5 : decode cX10_begins 5 = .ok (.aload_n 0, 1) := by decide +kernel
theorem dX10_begins_6 : decode cX10_begins 6 = .ok (.iconst (-1), 1) := by decide +kernel
theorem dX10_begins_7 : decode cX10_begins 7 = .ok (.putfield 126, 3) := by decide +kernel
theorem dX10_begins_10 : decode cX10_begins 10 = .ok (.aload_n 0, 1) := by decide +kernel
theorem dX10_begins_11 : decode cX10_begins 11 = .ok (.iconst 0, 1) := by decide +kernel
theorem dX10_begins_12 : decode cX10_begins 12 = .ok (.putfield 95, 3) := by decide +kernel
theorem dX10_begins_15 : decode cX10_begins 15 = .ok (.aload_n 0, 1) := by decide +kernel
theorem dX10_begins_16 : decode cX10_begins 16 = .ok (.invokevirtual 133, 3) := by decide +kernel
theorem dX10_begins_19 : decode cX10_begins 19 = .ok (.return_, 1) := by decide +kernel
theorem dX10_best_0 : decode cX10_best 0 = .ok (.aload_n 0, 1) := by decide +kernel
theorem dX10_best_1 : decode cX10_best 1 = .ok (.iconst 0, 1) := by decide +kernel
theorem dX10_best_2 : decode cX10_best 2 = .ok (.putfield 71, 3) := by decide +kernel
theorem dX10_best_5 : decode cX10_best 5 = .ok (.aload_n 0, 1) := by decide +kernel
theorem dX10_best_6 : decode cX10_best 6 = .ok (.invokevirtual 232, 3) := by decide +kernel
theorem dX10_best_9 : decode cX10_best 9 = .ok (.ifCond .ne 6, 3) := by decide +kernel
theorem dX10_best_12 : decode cX10_best 12 = .ok (.bipush (-2), 2) := by decide +kernel
theorem dX10_best_14 : decode cX10_best 14 = .ok (.ireturn, 1) := by decide +kernel
theorem dX10_buries_0 : decode cX10_buries 0 = .ok (.aload_n 0, 1) := by decide +kernel
theorem dX10_buries_1 : decode cX10_buries 1 = .ok (.iconst 0, 1) := by decide +kernel
theorem dX10_buries_2 : decode cX10_buries 2 = .ok (.putfield 71, 3) := by decide +kernel
theorem dX10_buries_5 : decode cX10_buries 5 = .ok (.aload_n 0, 1) := by decide +kernel
theorem dX10_buries_6 : decode cX10_buries 6 = .ok (.iload_n 1, 1) := by decide +kernel
theorem dX10_buries_7 : decode cX10_buries 7 = .ok (.invokevirtual 304, 3) := by decide +kernel
theorem dX10_buries_10 : decode cX10_buries 10 = .ok (.ifCond .eq 11, 3) := by decide +kernel
theorem dX10_buries_21 : decode cX10_buries 21 = .ok (.bipush (-2), 2) := by decide +kernel
theorem dX10_buries_23 : decode cX10_buries 23 = .ok (.ireturn, 1) := by decide +kernel
theorem dX10_bury_0 : decode cX10_bury 0 = .ok (.aload_n 0, 1) := by decide +kernel
theorem dX10_bury_1 : decode cX10_bury 1 = .ok (.iconst 0, 1) := by decide +kernel
theorem dX10_bury_2 : decode cX10_bury 2 = .ok (.putfield 71, 3) := by decide +kernel
theorem dX10_bury_5 : decode cX10_bury 5 = .ok (.aload_n 0, 1) := by decide +kernel
theorem dX10_bury_6 : decode cX10_bury 6 = .ok (.iload_n 1, 1) := by decide +kernel
theorem dX10_bury_7 : decode cX10_bury 7 = .ok (.invokevirtual 304, 3) := by decide +kernel
theorem dX10_bury_10 : decode cX10_bury 10 = .ok (.ifCond .eq 14, 3) := by decide +kernel
theorem dX10_bury_24 : decode cX10_bury 24 = .ok (.bipush (-2), 2) := by decide +kernel
theorem dX10_bury_26 : decode cX10_bury 26 = .ok (.ireturn, 1) := by decide +kernel
theorem dX10_chance_0 : decode cX10_chance 0 = .ok (.aload_n 0, 1) := by decide +kernel
theorem dX10_chance_1 : decode cX10_chance 1 = .ok (.iconst 0, 1) := by decide +kernel
theorem dX10_chance_2 : decode cX10_chance 2 = .ok (.putfield 71, 3) := by decide +kernel
theorem dX10_chance_5 : decode cX10_chance 5 = .ok (.aload_n 0, 1) := by decide +kernel
theorem dX10_chance_6 : decode cX10_chance 6 = .ok (.iload_n 1, 1) := by decide +kernel
theorem dX10_chance_7 : decode cX10_chance 7 = .ok (.i2l, 1) := by decide +kernel
theorem dX10_chance_8 : decode cX10_chance 8 = .ok (.invokevirtual 272, 3) := by decide +kernel
theorem dX10_chance_11 : decode cX10_chance 11 = .ok (.ifCond .eq 18, 3) := by decide +kernel
theorem dX10_chance_29 : decode cX10_chance 29 = .ok (.bipush (-2), 2) := by decide +kernel
theorem dX10_chance_31 : decode cX10_chance 31 = .ok (.ireturn, 1) := by decide +kernel
theorem dX10_chorus_0 : decode cX10_chorus 0 = .ok (.aload_n 0, 1) := by decide +kernel
theorem dX10_chorus_1 : decode cX10_chorus 1 = .ok (.iconst 0, 1) := by decide +kernel
theorem dX10_chorus_2 : decode cX10_chorus 2 = .ok (.putfield 71, 3) := by decide +kernel
theorem dX10_chorus_5 : decode cX10_chorus 5 = .ok (.aload_n 0, 1) := by decide +kernel
theorem dX10_chorus_6 : decode cX10_chorus 6 = .ok (.iload_n 1, 1) := by decide +kernel
theorem dX10_chorus_7 : decode cX10_chorus 7 = .ok (.i2l, 1) := by decide +kernel
theorem dX10_chorus_8 : decode cX10_chorus 8 = .ok (.invokevirtual 272, 3) := by decide +kernel
theorem dX10_chorus_11 : decode cX10_chorus 11 = .ok (.ifCond .ne 6, 3) := by decide +kernel
theorem dX10_chorus_14 : decode cX10_chorus 14 = .ok (.bipush (-2), 2) := by decide +kernel
theorem dX10_chorus_16 : decode cX10_chorus 16 = .ok (.ireturn, 1) := by decide +kernel
theorem dX10_clears_0 : decode cX10_clears 0 = .ok (.aload_n 0, 1) := by decide +kernel
theorem dX10_clears_1 : decode cX10_clears 1 = .ok (.getfield 31, 3) := by decide +kernel
theorem dX10_clears_4 : decode cX10_clears 4 = .ok (.iconst 4, 1) := by decide +kernel
theorem dX10_clears_5 : decode cX10_clears 5 = .ok (.iconst 0, 1) := by decide +kernel
theorem dX10_clears_6 : decode cX10_clears 6 = .ok (.iastore, 1) := by decide +kernel
theorem dX10_clears_7 : decode cX10_clears 7 = .ok (.iconst 0, 1) := by decide +kernel
theorem dX10_clears_8 : decode cX10_clears 8 = .ok (.istore_n 1, 1) := by decide +kernel
theorem dX10_clears_9 : decode cX10_clears 9 = .ok (.iload_n 1, 1) := by decide +kernel
theorem dX10_clears_10 : decode cX10_clears 10 = .ok (.bipush 6, 2) := by decide +kernel
theorem dX10_clears_12 : decode cX10_clears 12 = .ok (.if_icmp .ge 15, 3) := by decide +kernel
theorem dX10_clears_15 : decode cX10_clears 15 = .ok (.aload_n 0, 1) := by decide +kernel
theorem dX10_clears_16 : decode cX10_clears 16 = .ok (.iload_n 1, 1) := by decide +kernel
theorem dX10_clears_17 : decode cX10_clears 17 = .ok (.iconst 0, 1) := by decide +kernel
theorem dX10_clears_18 : decode cX10_clears 18 = .ok (.invokevirtual 174, 3) := by decide +kernel
theorem dX10_clears_21 : decode cX10_clears 21 = .ok (.iinc 1 1, 3) := by decide +kernel
theorem dX10_clears_24 : decode cX10_clears 24 = .ok (.goto (-15), 3) := by decide +kernel
theorem dX10_clears_27 : decode cX10_clears 27 = .ok (.return_, 1) := by decide +kernel
theorem dX10_clock_0 : decode cX10_clock 0 = .ok (.aload_n 0, 1) := by decide +kernel
theorem dX10_clock_1 : decode cX10_clock 1 = .ok (.iconst 0, 1) := by decide +kernel
theorem dX10_clock_2 : decode cX10_clock 2 = .ok (.putfield 71, 3) := by decide +kernel
theorem dX10_clock_5 : decode cX10_clock 5 = .ok (.aload_n 0, 1) := by decide +kernel
theorem dX10_clock_6 : decode cX10_clock 6 = .ok (.iload_n 1, 1) := by decide +kernel
theorem dX10_clock_7 : decode cX10_clock 7 = .ok (.i2l, 1) := by decide +kernel
theorem dX10_clock_8 : decode cX10_clock 8 = .ok (.invokevirtual 267, 3) := by decide +kernel
theorem dX10_clock_11 : decode cX10_clock 11 = .ok (.ifCond .eq 28, 3) := by decide +kernel
theorem dX10_clock_39 : decode cX10_clock 39 = .ok (.sipush (-1000), 3) := by decide +kernel
theorem dX10_clock_42 : decode cX10_clock 42 = .ok (.ireturn, 1) := by decide +kernel
theorem dX10_clocks_0 : decode cX10_clocks 0 = .ok (.aload_n 0, 1) := by decide +kernel
theorem dX10_clocks_1 : decode cX10_clocks 1 = .ok (.getfield 34, 3) := by decide +kernel
theorem dX10_clocks_4 : decode cX10_clocks 4 = .ok (.iconst 3, 1) := by decide +kernel
theorem dX10_clocks_5 : decode cX10_clocks 5 = .ok (.iaload, 1) := by decide +kernel
theorem dX10_clocks_6 : decode cX10_clocks 6 = .ok (.ireturn, 1) := by decide +kernel
theorem dX10_copyRow_0 : decode cX10_copyRow 0 = .ok (.iconst 0, 1) := by decide +kernel
theorem dX10_copyRow_1 : decode cX10_copyRow 1 = .ok (.istore 4, 2) := by decide +kernel
theorem dX10_copyRow_3 : decode cX10_copyRow 3 = .ok (.iload 4, 2) := by decide +kernel
theorem dX10_copyRow_5 : decode cX10_copyRow 5 = .ok (.iload_n 1, 1) := by decide +kernel
theorem dX10_copyRow_6 : decode cX10_copyRow 6 = .ok (.if_icmp .ge 25, 3) := by decide +kernel
theorem dX10_copyRow_9 : decode cX10_copyRow 9 = .ok (.aload_n 0, 1) := by decide +kernel
theorem dX10_copyRow_10 : decode cX10_copyRow 10 = .ok (.iload_n 1, 1) := by decide +kernel
theorem dX10_copyRow_11 : decode cX10_copyRow 11 = .ok (.iload_n 3, 1) := by decide +kernel
theorem dX10_copyRow_12 : decode cX10_copyRow 12 = .ok (.imul, 1) := by decide +kernel
theorem dX10_copyRow_13 : decode cX10_copyRow 13 = .ok (.iload 4, 2) := by decide +kernel
theorem dX10_copyRow_15 : decode cX10_copyRow 15 = .ok (.iadd, 1) := by decide +kernel
theorem dX10_copyRow_16 : decode cX10_copyRow 16 = .ok (.aload_n 0, 1) := by decide +kernel
theorem dX10_copyRow_17 : decode cX10_copyRow 17 = .ok (.iload_n 1, 1) := by decide +kernel
theorem dX10_copyRow_18 : decode cX10_copyRow 18 = .ok (.iload_n 2, 1) := by decide +kernel
theorem dX10_copyRow_19 : decode cX10_copyRow 19 = .ok (.imul, 1) := by decide +kernel
theorem dX10_copyRow_20 : decode cX10_copyRow 20 = .ok (.iload 4, 2) := by decide +kernel
theorem dX10_copyRow_22 : decode cX10_copyRow 22 = .ok (.iadd, 1) := by decide +kernel
theorem dX10_copyRow_23 : decode cX10_copyRow 23 = .ok (.iaload, 1) := by decide +kernel
theorem dX10_copyRow_24 : decode cX10_copyRow 24 = .ok (.iastore, 1) := by decide +kernel
theorem dX10_copyRow_25 : decode cX10_copyRow 25 = .ok (.iinc 4 1, 3) := by decide +kernel
theorem dX10_copyRow_28 : decode cX10_copyRow 28 = .ok (.goto (-25), 3) := by decide +kernel
theorem dX10_copyRow_31 : decode cX10_copyRow 31 = .ok (.return_, 1) := by decide +kernel
theorem dX10_copyTown_0 : decode cX10_copyTown 0 = .ok (.aload_n 0, 1) := by decide +kernel
theorem dX10_copyTown_1 : decode cX10_copyTown 1 = .ok (.getfield 31, 3) := by decide +kernel
theorem dX10_copyTown_4 : decode cX10_copyTown 4 = .ok (.iconst 1, 1) := by decide +kernel
theorem dX10_copyTown_5 : decode cX10_copyTown 5 = .ok (.iload_n 1, 1) := by decide +kernel
theorem dX10_copyTown_6 : decode cX10_copyTown 6 = .ok (.iload_n 2, 1) := by decide +kernel
theorem dX10_copyTown_7 : decode cX10_copyTown 7 = .ok (.invokestatic 221, 3) := by decide +kernel
theorem dX10_copyTown_10 : decode cX10_copyTown 10 = .ok (.aload_n 0, 1) := by decide +kernel
theorem dX10_copyTown_11 : decode cX10_copyTown 11 = .ok (.getfield 34, 3) := by decide +kernel
theorem dX10_copyTown_14 : decode cX10_copyTown 14 = .ok (.bipush 6, 2) := by decide +kernel
theorem dX10_copyTown_16 : decode cX10_copyTown 16 = .ok (.iload_n 1, 1) := by decide +kernel
theorem dX10_copyTown_17 : decode cX10_copyTown 17 = .ok (.iload_n 2, 1) := by decide +kernel
theorem dX10_copyTown_18 : decode cX10_copyTown 18 = .ok (.invokestatic 221, 3) := by decide +kernel
theorem dX10_copyTown_21 : decode cX10_copyTown 21 = .ok (.aload_n 0, 1) := by decide +kernel
theorem dX10_copyTown_22 : decode cX10_copyTown 22 = .ok (.getfield 37, 3) := by decide +kernel
theorem dX10_copyTown_25 : decode cX10_copyTown 25 = .ok (.bipush 30, 2) := by decide +kernel
theorem dX10_copyTown_27 : decode cX10_copyTown 27 = .ok (.iload_n 1, 1) := by decide +kernel
theorem dX10_copyTown_28 : decode cX10_copyTown 28 = .ok (.iload_n 2, 1) := by decide +kernel
theorem dX10_copyTown_29 : decode cX10_copyTown 29 = .ok (.invokestatic 221, 3) := by decide +kernel
theorem dX10_copyTown_32 : decode cX10_copyTown 32 = .ok (.aload_n 0, 1) := by decide +kernel
theorem dX10_copyTown_33 : decode cX10_copyTown 33 = .ok (.getfield 40, 3) := by decide +kernel
theorem dX10_copyTown_36 : decode cX10_copyTown 36 = .ok (.iconst 5, 1) := by decide +kernel
theorem dX10_copyTown_37 : decode cX10_copyTown 37 = .ok (.iload_n 1, 1) := by decide +kernel
theorem dX10_copyTown_38 : decode cX10_copyTown 38 = .ok (.iload_n 2, 1) := by decide +kernel
theorem dX10_copyTown_39 : decode cX10_copyTown 39 = .ok (.invokestatic 221, 3) := by decide +kernel
theorem dX10_copyTown_42 : decode cX10_copyTown 42 = .ok (.aload_n 0, 1) := by decide +kernel
theorem dX10_copyTown_43 : decode cX10_copyTown 43 = .ok (.getfield 43, 3) := by decide +kernel
theorem dX10_copyTown_46 : decode cX10_copyTown 46 = .ok (.bipush 120, 2) := by decide +kernel
theorem dX10_copyTown_48 : decode cX10_copyTown 48 = .ok (.iload_n 1, 1) := by decide +kernel
theorem dX10_copyTown_49 : decode cX10_copyTown 49 = .ok (.iload_n 2, 1) := by decide +kernel
theorem dX10_copyTown_50 : decode cX10_copyTown 50 = .ok (.invokestatic 221, 3) := by decide +kernel
theorem dX10_copyTown_53 : decode cX10_copyTown 53 = .ok (.return_, 1) := by decide +kernel
theorem dX10_costs_0 : decode cX10_costs 0 = .ok (.aload_n 0, 1) := by decide +kernel
theorem dX10_costs_1 : decode cX10_costs 1 = .ok (.iconst 0, 1) := by decide +kernel
theorem dX10_costs_2 : decode cX10_costs 2 = .ok (.putfield 71, 3) := by decide +kernel
theorem dX10_costs_5 : decode cX10_costs 5 = .ok (.aload_n 0, 1) := by decide +kernel
theorem dX10_costs_6 : decode cX10_costs 6 = .ok (.iload_n 1, 1) := by decide +kernel
theorem dX10_costs_7 : decode cX10_costs 7 = .ok (.i2l, 1) := by decide +kernel
theorem dX10_costs_8 : decode cX10_costs 8 = .ok (.invokevirtual 272, 3) := by decide +kernel
theorem dX10_costs_11 : decode cX10_costs 11 = .ok (.ifCond .ne 6, 3) := by decide +kernel
theorem dX10_costs_14 : decode cX10_costs 14 = .ok (.bipush (-2), 2) := by decide +kernel
theorem dX10_costs_16 : decode cX10_costs 16 = .ok (.ireturn, 1) := by decide +kernel
theorem dX10_count_0 : decode cX10_count 0 = .ok (.aload_n 0, 1) := by decide +kernel
theorem dX10_count_1 : decode cX10_count 1 = .ok (.iconst 0, 1) := by decide +kernel
theorem dX10_count_2 : decode cX10_count 2 = .ok (.putfield 71, 3) := by decide +kernel
theorem dX10_count_5 : decode cX10_count 5 = .ok (.iload_n 1, 1) := by decide +kernel
theorem dX10_count_6 : decode cX10_count 6 = .ok (.i2l, 1) := by decide +kernel
theorem dX10_count_7 : decode cX10_count 7 = .ok (.lconst 0, 1) := by decide +kernel
theorem dX10_count_8 : decode cX10_count 8 = .ok (.ldc2_w 441, 3) := by decide +kernel
theorem dX10_count_11 : decode cX10_count 11 = .ok (.invokestatic 76, 3) := by decide +kernel
theorem dX10_count_14 : decode cX10_count 14 = .ok (.ifCond .eq 10, 3) := by decide +kernel
theorem dX10_count_17 : decode cX10_count 17 = .ok (.aload_n 0, 1) := by decide +kernel
theorem dX10_count_18 : decode cX10_count 18 = .ok (.getfield 34, 3) := by decide +kernel
theorem dX10_count_21 : decode cX10_count 21 = .ok (.iload_n 1, 1) := by decide +kernel
theorem dX10_count_22 : decode cX10_count 22 = .ok (.iaload, 1) := by decide +kernel
theorem dX10_count_23 : decode cX10_count 23 = .ok (.ireturn, 1) := by decide +kernel
theorem dX10_count_24 : decode cX10_count 24 = .ok (.iconst 0, 1) := by decide +kernel
theorem dX10_count_25 : decode cX10_count 25 = .ok (.istore_n 2, 1) := by decide +kernel
theorem dX10_count_26 : decode cX10_count 26 = .ok (.iload_n 1, 1) := by decide +kernel
theorem dX10_count_27 : decode cX10_count 27 = .ok (.tableswitch 70 6 8 #[25, 32, 37], 25) := by decide +kernel
theorem dX10_count_52 : decode cX10_count 52 = .ok (.aload_n 0, 1) := by decide +kernel
theorem dX10_count_53 : decode cX10_count 53 = .ok (.getfield 31, 3) := by decide +kernel
theorem dX10_count_56 : decode cX10_count 56 = .ok (.iconst 0, 1) := by decide +kernel
theorem dX10_count_57 : decode cX10_count 57 = .ok (.iaload, 1) := by decide +kernel
theorem dX10_count_58 : decode cX10_count 58 = .ok (.ireturn, 1) := by decide +kernel
theorem dX10_count_59 : decode cX10_count 59 = .ok (.aload_n 0, 1) := by decide +kernel
theorem dX10_count_60 : decode cX10_count 60 = .ok (.getfield 88, 3) := by decide +kernel
theorem dX10_count_63 : decode cX10_count 63 = .ok (.ireturn, 1) := by decide +kernel
theorem dX10_count_64 : decode cX10_count 64 = .ok (.iconst 0, 1) := by decide +kernel
theorem dX10_count_65 : decode cX10_count 65 = .ok (.istore_n 3, 1) := by decide +kernel
theorem dX10_count_66 : decode cX10_count 66 = .ok (.iload_n 3, 1) := by decide +kernel
theorem dX10_count_67 : decode cX10_count 67 = .ok (.iconst 4, 1) := by decide +kernel
theorem dX10_count_68 : decode cX10_count 68 = .ok (.if_icmp .ge 27, 3) := by decide +kernel
theorem dX10_count_71 : decode cX10_count 71 = .ok (.iload_n 2, 1) := by decide +kernel
theorem dX10_count_72 : decode cX10_count 72 = .ok (.aload_n 0, 1) := by decide +kernel
theorem dX10_count_73 : decode cX10_count 73 = .ok (.getfield 7, 3) := by decide +kernel
theorem dX10_count_76 : decode cX10_count 76 = .ok (.iload_n 3, 1) := by decide +kernel
theorem dX10_count_77 : decode cX10_count 77 = .ok (.iaload, 1) := by decide +kernel
theorem dX10_count_78 : decode cX10_count 78 = .ok (.iconst (-1), 1) := by decide +kernel
theorem dX10_count_79 : decode cX10_count 79 = .ok (.if_icmp .ne 7, 3) := by decide +kernel
theorem dX10_count_82 : decode cX10_count 82 = .ok (.iconst 0, 1) := by decide +kernel
theorem dX10_count_83 : decode cX10_count 83 = .ok (.goto 4, 3) := by decide +kernel
theorem dX10_count_87 : decode cX10_count 87 = .ok (.iadd, 1) := by decide +kernel
theorem dX10_count_88 : decode cX10_count 88 = .ok (.istore_n 2, 1) := by decide +kernel
theorem dX10_count_89 : decode cX10_count 89 = .ok (.iinc 3 1, 3) := by decide +kernel
theorem dX10_count_92 : decode cX10_count 92 = .ok (.goto (-26), 3) := by decide +kernel
theorem dX10_count_95 : decode cX10_count 95 = .ok (.iload_n 2, 1) := by decide +kernel
theorem dX10_count_96 : decode cX10_count 96 = .ok (.ireturn, 1) := by decide +kernel
theorem dX10_count_97 : decode cX10_count 97 = .ok (.iconst (-1), 1) := by decide +kernel
theorem dX10_count_98 : decode cX10_count 98 = .ok (.ireturn, 1) := by decide +kernel
theorem dX10_counts_0 : decode cX10_counts 0 = .ok (.aload_n 0, 1) := by decide +kernel
theorem dX10_counts_1 : decode cX10_counts 1 = .ok (.iconst 0, 1) := by decide +kernel
theorem dX10_counts_2 : decode cX10_counts 2 = .ok (.putfield 71, 3) := by decide +kernel
theorem dX10_counts_5 : decode cX10_counts 5 = .ok (.aload_n 0, 1) := by decide +kernel
theorem dX10_counts_6 : decode cX10_counts 6 = .ok (.iload_n 1, 1) := by decide +kernel
theorem dX10_counts_7 : decode cX10_counts 7 = .ok (.i2l, 1) := by decide +kernel
theorem dX10_counts_8 : decode cX10_counts 8 = .ok (.invokevirtual 272, 3) := by decide +kernel
theorem dX10_counts_11 : decode cX10_counts 11 = .ok (.ifCond .ne 6, 3) := by decide +kernel
theorem dX10_counts_14 : decode cX10_counts 14 = .ok (.bipush (-2), 2) := by decide +kernel
theorem dX10_counts_16 : decode cX10_counts 16 = .ok (.ireturn, 1) := by decide +kernel
theorem dX10_days_0 : decode cX10_days 0 = .ok (.aload_n 0, 1) := by decide +kernel
theorem dX10_days_1 : decode cX10_days 1 = .ok (.getfield 34, 3) := by decide +kernel
theorem dX10_days_4 : decode cX10_days 4 = .ok (.iconst 0, 1) := by decide +kernel
theorem dX10_days_5 : decode cX10_days 5 = .ok (.iaload, 1) := by decide +kernel
theorem dX10_days_6 : decode cX10_days 6 = .ok (.ireturn, 1) := by decide +kernel
theorem dX10_deals_0 : decode cX10_deals 0 = .ok (.aload_n 0, 1) := by decide +kernel
theorem dX10_deals_1 : decode cX10_deals 1 = .ok (.iconst 0, 1) := by decide +kernel
theorem dX10_deals_2 : decode cX10_deals 2 = .ok (.putfield 71, 3) := by decide +kernel
theorem dX10_deals_5 : decode cX10_deals 5 = .ok (.aload_n 0, 1) := by decide +kernel
theorem dX10_deals_6 : decode cX10_deals 6 = .ok (.invokevirtual 232, 3) := by decide +kernel
theorem dX10_deals_9 : decode cX10_deals 9 = .ok (.ifCond .ne 6, 3) := by decide +kernel
theorem dX10_deals_12 : decode cX10_deals 12 = .ok (.bipush (-2), 2) := by decide +kernel
theorem dX10_deals_14 : decode cX10_deals 14 = .ok (.ireturn, 1) := by decide +kernel
theorem dX10_drawn_0 : decode cX10_drawn 0 = .ok (.aload_n 0, 1) := by decide +kernel
theorem dX10_drawn_1 : decode cX10_drawn 1 = .ok (.iconst 0, 1) := by decide +kernel
theorem dX10_drawn_2 : decode cX10_drawn 2 = .ok (.putfield 71, 3) := by decide +kernel
theorem dX10_drawn_5 : decode cX10_drawn 5 = .ok (.aload_n 0, 1) := by decide +kernel
theorem dX10_drawn_6 : decode cX10_drawn 6 = .ok (.invokevirtual 232, 3) := by decide +kernel
theorem dX10_drawn_9 : decode cX10_drawn 9 = .ok (.ifCond .eq 17, 3) := by decide +kernel
theorem dX10_drawn_26 : decode cX10_drawn 26 = .ok (.bipush (-2), 2) := by decide +kernel
theorem dX10_drawn_28 : decode cX10_drawn 28 = .ok (.ireturn, 1) := by decide +kernel
theorem dX10_end_0 : decode cX10_end 0 = .ok (.aload_n 0, 1) := by decide +kernel
theorem dX10_end_1 : decode cX10_end 1 = .ok (.iconst 0, 1) := by decide +kernel
theorem dX10_end_2 : decode cX10_end 2 = .ok (.putfield 71, 3) := by decide +kernel
theorem dX10_end_5 : decode cX10_end 5 = .ok (.iload_n 1, 1) := by decide +kernel
theorem dX10_end_6 : decode cX10_end 6 = .ok (.i2l, 1) := by decide +kernel
theorem dX10_end_7 : decode cX10_end 7 = .ok (.lconst 0, 1) := by decide +kernel
theorem dX10_end_8 : decode cX10_end 8 = .ok (.aload_n 0, 1) := by decide +kernel
theorem dX10_end_9 : decode cX10_end 9 = .ok (.getfield 88, 3) := by decide +kernel
theorem dX10_end_12 : decode cX10_end 12 = .ok (.i2l, 1) := by decide +kernel
theorem dX10_end_13 : decode cX10_end 13 = .ok (.invokestatic 76, 3) := by decide +kernel
theorem dX10_end_16 : decode cX10_end 16 = .ok (.ifCond .ne 5, 3) := by decide +kernel
theorem dX10_end_19 : decode cX10_end 19 = .ok (.iconst (-1), 1) := by decide +kernel
theorem dX10_end_20 : decode cX10_end 20 = .ok (.ireturn, 1) := by decide +kernel
theorem dX10_end_21 : decode cX10_end 21 = .ok (.aload_n 0, 1) := by decide +kernel
theorem dX10_end_22 : decode cX10_end 22 = .ok (.iload_n 1, 1) := by decide +kernel
theorem dX10_end_23 : decode cX10_end 23 = .ok (.putfield 88, 3) := by decide +kernel
theorem dX10_end_26 : decode cX10_end 26 = .ok (.iload_n 1, 1) := by decide +kernel
theorem dX10_end_27 : decode cX10_end 27 = .ok (.ireturn, 1) := by decide +kernel
theorem dX10_enter_0 : decode cX10_enter 0 = .ok (.aload_n 0, 1) := by decide +kernel
theorem dX10_enter_1 : decode cX10_enter 1 = .ok (.iconst 0, 1) := by decide +kernel
theorem dX10_enter_2 : decode cX10_enter 2 = .ok (.putfield 71, 3) := by decide +kernel
theorem dX10_enter_5 : decode cX10_enter 5 = .ok (.aload_n 0, 1) := by decide +kernel
theorem dX10_enter_6 : decode cX10_enter 6 = .ok (.iload_n 1, 1) := by decide +kernel
theorem dX10_enter_7 : decode cX10_enter 7 = .ok (.i2l, 1) := by decide +kernel
theorem dX10_enter_8 : decode cX10_enter 8 = .ok (.invokevirtual 267, 3) := by decide +kernel
theorem dX10_enter_11 : decode cX10_enter 11 = .ok (.ifCond .eq 38, 3) := by decide +kernel
theorem dX10_enter_49 : decode cX10_enter 49 = .ok (.bipush (-2), 2) := by decide +kernel
theorem dX10_enter_51 : decode cX10_enter 51 = .ok (.ireturn, 1) := by decide +kernel
theorem dX10_fault_0 : decode cX10_fault 0 = .ok (.aload_n 0, 1) := by decide +kernel
theorem dX10_fault_1 : decode cX10_fault 1 = .ok (.iconst 0, 1) := by decide +kernel
theorem dX10_fault_2 : decode cX10_fault 2 = .ok (.putfield 71, 3) := by decide +kernel
theorem dX10_fault_5 : decode cX10_fault 5 = .ok (.iload_n 1, 1) := by decide +kernel
theorem dX10_fault_6 : decode cX10_fault 6 = .ok (.ifCond .ne 10, 3) := by decide +kernel
theorem dX10_fault_9 : decode cX10_fault 9 = .ok (.aload_n 0, 1) := by decide +kernel
theorem dX10_fault_10 : decode cX10_fault 10 = .ok (.getfield 150, 3) := by decide +kernel
theorem dX10_fault_13 : decode cX10_fault 13 = .ok (.goto 16, 3) := by decide +kernel
theorem dX10_fault_16 : decode cX10_fault 16 = .ok (.iload_n 1, 1) := by decide +kernel
theorem dX10_fault_17 : decode cX10_fault 17 = .ok (.iconst 1, 1) := by decide +kernel
theorem dX10_fault_18 : decode cX10_fault 18 = .ok (.if_icmp .ne 10, 3) := by decide +kernel
theorem dX10_fault_21 : decode cX10_fault 21 = .ok (.aload_n 0, 1) := by decide +kernel
theorem dX10_fault_22 : decode cX10_fault 22 = .ok (.getfield 27, 3) := by decide +kernel
theorem dX10_fault_25 : decode cX10_fault 25 = .ok (.goto 4, 3) := by decide +kernel
theorem dX10_fault_28 : decode cX10_fault 28 = .ok (.iconst (-1), 1) := by decide +kernel
theorem dX10_fault_29 : decode cX10_fault 29 = .ok (.ireturn, 1) := by decide +kernel
theorem dX10_feed_0 : decode cX10_feed 0 = .ok (.aload_n 0, 1) := by decide +kernel
theorem dX10_feed_1 : decode cX10_feed 1 = .ok (.iconst 0, 1) := by decide +kernel
theorem dX10_feed_2 : decode cX10_feed 2 = .ok (.putfield 71, 3) := by decide +kernel
theorem dX10_feed_5 : decode cX10_feed 5 = .ok (.aload_n 0, 1) := by decide +kernel
theorem dX10_feed_6 : decode cX10_feed 6 = .ok (.getfield 88, 3) := by decide +kernel
theorem dX10_feed_9 : decode cX10_feed 9 = .ok (.bipush 20, 2) := by decide +kernel
theorem dX10_feed_11 : decode cX10_feed 11 = .ok (.iadd, 1) := by decide +kernel
theorem dX10_feed_12 : decode cX10_feed 12 = .ok (.sipush 800, 3) := by decide +kernel
theorem dX10_feed_15 : decode cX10_feed 15 = .ok (.if_icmp .le 5, 3) := by decide +kernel
theorem dX10_feed_20 : decode cX10_feed 20 = .ok (.aload_n 0, 1) := by decide +kernel
theorem dX10_feed_21 : decode cX10_feed 21 = .ok (.iload_n 1, 1) := by decide +kernel
theorem dX10_feed_22 : decode cX10_feed 22 = .ok (.invokevirtual 91, 3) := by decide +kernel
theorem dX10_feed_25 : decode cX10_feed 25 = .ok (.aload_n 0, 1) := by decide +kernel
theorem dX10_feed_26 : decode cX10_feed 26 = .ok (.iload_n 2, 1) := by decide +kernel
theorem dX10_feed_27 : decode cX10_feed 27 = .ok (.invokevirtual 91, 3) := by decide +kernel
theorem dX10_feed_30 : decode cX10_feed 30 = .ok (.aload_n 0, 1) := by decide +kernel
theorem dX10_feed_31 : decode cX10_feed 31 = .ok (.iload_n 3, 1) := by decide +kernel
theorem dX10_feed_32 : decode cX10_feed 32 = .ok (.invokevirtual 91, 3) := by decide +kernel
theorem dX10_feed_35 : decode cX10_feed 35 = .ok (.aload_n 0, 1) := by decide +kernel
theorem dX10_feed_36 : decode cX10_feed 36 = .ok (.iload 4, 2) := by decide +kernel
theorem dX10_feed_38 : decode cX10_feed 38 = .ok (.invokevirtual 91, 3) := by decide +kernel
theorem dX10_feed_41 : decode cX10_feed 41 = .ok (.aload_n 0, 1) := by decide +kernel
theorem dX10_feed_42 : decode cX10_feed 42 = .ok (.iload 5, 2) := by decide +kernel
theorem dX10_feed_44 : decode cX10_feed 44 = .ok (.invokevirtual 91, 3) := by decide +kernel
theorem dX10_feed_47 : decode cX10_feed 47 = .ok (.aload_n 0, 1) := by decide +kernel
theorem dX10_feed_48 : decode cX10_feed 48 = .ok (.getfield 88, 3) := by decide +kernel
theorem dX10_feed_51 : decode cX10_feed 51 = .ok (.ireturn, 1) := by decide +kernel
theorem dX10_fewest_0 : decode cX10_fewest 0 = .ok (.aload_n 0, 1) := by decide +kernel
theorem dX10_fewest_1 : decode cX10_fewest 1 = .ok (.iconst 0, 1) := by decide +kernel
theorem dX10_fewest_2 : decode cX10_fewest 2 = .ok (.putfield 71, 3) := by decide +kernel
theorem dX10_fewest_5 : decode cX10_fewest 5 = .ok (.aload_n 0, 1) := by decide +kernel
theorem dX10_fewest_6 : decode cX10_fewest 6 = .ok (.iload_n 1, 1) := by decide +kernel
theorem dX10_fewest_7 : decode cX10_fewest 7 = .ok (.invokevirtual 304, 3) := by decide +kernel
theorem dX10_fewest_10 : decode cX10_fewest 10 = .ok (.ifCond .ne 6, 3) := by decide +kernel
theorem dX10_fewest_13 : decode cX10_fewest 13 = .ok (.bipush (-2), 2) := by decide +kernel
theorem dX10_fewest_15 : decode cX10_fewest 15 = .ok (.ireturn, 1) := by decide +kernel
theorem dX10_floor_0 : decode cX10_floor 0 = .ok (.aload_n 0, 1) := by decide +kernel
theorem dX10_floor_1 : decode cX10_floor 1 = .ok (.iconst 0, 1) := by decide +kernel
theorem dX10_floor_2 : decode cX10_floor 2 = .ok (.putfield 71, 3) := by decide +kernel
theorem dX10_floor_5 : decode cX10_floor 5 = .ok (.aload_n 0, 1) := by decide +kernel
theorem dX10_floor_6 : decode cX10_floor 6 = .ok (.iload_n 1, 1) := by decide +kernel
theorem dX10_floor_7 : decode cX10_floor 7 = .ok (.invokevirtual 394, 3) := by decide +kernel
theorem dX10_floor_10 : decode cX10_floor 10 = .ok (.istore_n 2, 1) := by decide +kernel
theorem dX10_floor_11 : decode cX10_floor 11 = .ok (.iload_n 2, 1) := by decide +kernel
theorem dX10_floor_12 : decode cX10_floor 12 = .ok (.ifCond .eq 5, 3) := by decide +kernel
theorem dX10_floor_15 : decode cX10_floor 15 = .ok (.iload_n 2, 1) := by decide +kernel
theorem dX10_floor_16 : decode cX10_floor 16 = .ok (.ireturn, 1) := by decide +kernel
theorem dX10_four_0 : decode cX10_four 0 = .ok (.bipush 24, 2) := by decide +kernel
theorem dX10_four_2 : decode cX10_four 2 = .ok (.istore_n 2, 1) := by decide +kernel
theorem dX10_four_3 : decode cX10_four 3 = .ok (.iload_n 2, 1) := by decide +kernel
theorem dX10_four_4 : decode cX10_four 4 = .ok (.ifCond .lt 32, 3) := by decide +kernel
theorem dX10_four_7 : decode cX10_four 7 = .ok (.aload_n 0, 1) := by decide +kernel
theorem dX10_four_8 : decode cX10_four 8 = .ok (.getfield 23, 3) := by decide +kernel
theorem dX10_four_11 : decode cX10_four 11 = .ok (.aload_n 0, 1) := by decide +kernel
theorem dX10_four_12 : decode cX10_four 12 = .ok (.getfield 88, 3) := by decide +kernel
theorem dX10_four_15 : decode cX10_four 15 = .ok (.iload_n 1, 1) := by decide +kernel
theorem dX10_four_16 : decode cX10_four 16 = .ok (.iload_n 2, 1) := by decide +kernel
theorem dX10_four_17 : decode cX10_four 17 = .ok (.ishr, 1) := by decide +kernel
theorem dX10_four_18 : decode cX10_four 18 = .ok (.i2b, 1) := by decide +kernel
theorem dX10_four_19 : decode cX10_four 19 = .ok (.bastore, 1) := by decide +kernel
theorem dX10_four_20 : decode cX10_four 20 = .ok (.aload_n 0, 1) := by decide +kernel
theorem dX10_four_21 : decode cX10_four 21 = .ok (.dup, 1) := by decide +kernel
theorem dX10_four_22 : decode cX10_four 22 = .ok (.getfield 88, 3) := by decide +kernel
theorem dX10_four_25 : decode cX10_four 25 = .ok (.iconst 1, 1) := by decide +kernel
theorem dX10_four_26 : decode cX10_four 26 = .ok (.iadd, 1) := by decide +kernel
theorem dX10_four_27 : decode cX10_four 27 = .ok (.putfield 88, 3) := by decide +kernel
theorem dX10_four_30 : decode cX10_four 30 = .ok (.iinc 2 (-8), 3) := by decide +kernel
theorem dX10_four_33 : decode cX10_four 33 = .ok (.goto (-30), 3) := by decide +kernel
theorem dX10_four_36 : decode cX10_four 36 = .ok (.return_, 1) := by decide +kernel
theorem dX10_gap_0 : decode cX10_gap 0 = .ok (.aload_n 0, 1) := by decide +kernel
theorem dX10_gap_1 : decode cX10_gap 1 = .ok (.iconst 0, 1) := by decide +kernel
theorem dX10_gap_2 : decode cX10_gap 2 = .ok (.putfield 71, 3) := by decide +kernel
theorem dX10_gap_5 : decode cX10_gap 5 = .ok (.aload_n 0, 1) := by decide +kernel
theorem dX10_gap_6 : decode cX10_gap 6 = .ok (.iload_n 1, 1) := by decide +kernel
theorem dX10_gap_7 : decode cX10_gap 7 = .ok (.i2l, 1) := by decide +kernel
theorem dX10_gap_8 : decode cX10_gap 8 = .ok (.invokevirtual 272, 3) := by decide +kernel
theorem dX10_gap_11 : decode cX10_gap 11 = .ok (.ifCond .ne 6, 3) := by decide +kernel
theorem dX10_gap_14 : decode cX10_gap 14 = .ok (.bipush (-2), 2) := by decide +kernel
theorem dX10_gap_16 : decode cX10_gap 16 = .ok (.ireturn, 1) := by decide +kernel
theorem dX10_goes_0 : decode cX10_goes 0 = .ok (.aload_n 0, 1) := by decide +kernel
theorem dX10_goes_1 : decode cX10_goes 1 = .ok (.iconst 0, 1) := by decide +kernel
theorem dX10_goes_2 : decode cX10_goes 2 = .ok (.putfield 71, 3) := by decide +kernel
theorem dX10_goes_5 : decode cX10_goes 5 = .ok (.iload_n 1, 1) := by decide +kernel
theorem dX10_goes_6 : decode cX10_goes 6 = .ok (.invokestatic 80, 3) := by decide +kernel
theorem dX10_goes_9 : decode cX10_goes 9 = .ok (.ifCond .eq 19, 3) := by decide +kernel
theorem dX10_goes_12 : decode cX10_goes 12 = .ok (.aload_n 0, 1) := by decide +kernel
theorem dX10_goes_13 : decode cX10_goes 13 = .ok (.invokevirtual 232, 3) := by decide +kernel
theorem dX10_goes_16 : decode cX10_goes 16 = .ok (.ifCond .eq 12, 3) := by decide +kernel
theorem dX10_goes_28 : decode cX10_goes 28 = .ok (.bipush (-2), 2) := by decide +kernel
theorem dX10_goes_30 : decode cX10_goes 30 = .ok (.ireturn, 1) := by decide +kernel
theorem dX10_gone_0 : decode cX10_gone 0 = .ok (.aload_n 0, 1) := by decide +kernel
theorem dX10_gone_1 : decode cX10_gone 1 = .ok (.iconst 0, 1) := by decide +kernel
theorem dX10_gone_2 : decode cX10_gone 2 = .ok (.putfield 71, 3) := by decide +kernel
theorem dX10_gone_5 : decode cX10_gone 5 = .ok (.aload_n 0, 1) := by decide +kernel
theorem dX10_gone_6 : decode cX10_gone 6 = .ok (.iload_n 1, 1) := by decide +kernel
theorem dX10_gone_7 : decode cX10_gone 7 = .ok (.invokevirtual 394, 3) := by decide +kernel
theorem dX10_gone_10 : decode cX10_gone 10 = .ok (.istore_n 2, 1) := by decide +kernel
theorem dX10_gone_11 : decode cX10_gone 11 = .ok (.iload_n 2, 1) := by decide +kernel
theorem dX10_gone_12 : decode cX10_gone 12 = .ok (.ifCond .eq 5, 3) := by decide +kernel
theorem dX10_gone_15 : decode cX10_gone 15 = .ok (.iload_n 2, 1) := by decide +kernel
theorem dX10_gone_16 : decode cX10_gone 16 = .ok (.ireturn, 1) := by decide +kernel
theorem dX10_heir_0 : decode cX10_heir 0 = .ok (.aload_n 0, 1) := by decide +kernel
theorem dX10_heir_1 : decode cX10_heir 1 = .ok (.iconst 0, 1) := by decide +kernel
theorem dX10_heir_2 : decode cX10_heir 2 = .ok (.putfield 71, 3) := by decide +kernel
theorem dX10_heir_5 : decode cX10_heir 5 = .ok (.aload_n 0, 1) := by decide +kernel
theorem dX10_heir_6 : decode cX10_heir 6 = .ok (.iload_n 1, 1) := by decide +kernel
theorem dX10_heir_7 : decode cX10_heir 7 = .ok (.i2l, 1) := by decide +kernel
theorem dX10_heir_8 : decode cX10_heir 8 = .ok (.invokevirtual 272, 3) := by decide +kernel
theorem dX10_heir_11 : decode cX10_heir 11 = .ok (.ifCond .ne 6, 3) := by decide +kernel
theorem dX10_heir_14 : decode cX10_heir 14 = .ok (.bipush (-2), 2) := by decide +kernel
theorem dX10_heir_16 : decode cX10_heir 16 = .ok (.ireturn, 1) := by decide +kernel
theorem dX10_image_0 : decode cX10_image 0 = .ok (.aload_n 0, 1) := by decide +kernel
theorem dX10_image_1 : decode cX10_image 1 = .ok (.iconst 0, 1) := by decide +kernel
theorem dX10_image_2 : decode cX10_image 2 = .ok (.putfield 71, 3) := by decide +kernel
theorem dX10_image_5 : decode cX10_image 5 = .ok (.iload_n 1, 1) := by decide +kernel
