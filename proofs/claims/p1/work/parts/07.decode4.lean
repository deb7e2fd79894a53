theorem dX9_init_128 : decode cX9_init 128 = .ok (.new 51, 3) := by decide +kernel
theorem dX9_init_131 : decode cX9_init 131 = .ok (.dup, 1) := by decide +kernel
theorem dX9_init_132 : decode cX9_init 132 = .ok (.invokespecial 53, 3) := by decide +kernel
theorem dX9_init_135 : decode cX9_init 135 = .ok (.putfield 54, 3) := by decide +kernel
theorem dX9_init_138 : decode cX9_init 138 = .ok (.aload_n 0, 1) := by decide +kernel
theorem dX9_init_139 : decode cX9_init 139 = .ok (.new 58, 3) := by decide +kernel
theorem dX9_init_142 : decode cX9_init 142 = .ok (.dup, 1) := by decide +kernel
theorem dX9_init_143 : decode cX9_init 143 = .ok (.invokespecial 60, 3) := by decide +kernel
theorem dX9_init_146 : decode cX9_init 146 = .ok (.putfield 61, 3) := by decide +kernel
theorem dX9_init_149 : decode cX9_init 149 = .ok (.aload_n 0, 1) := by decide +kernel
theorem dX9_init_150 : decode cX9_init 150 = .ok (.new 65, 3) := by decide +kernel
theorem dX9_init_153 : decode cX9_init 153 = .ok (.dup, 1) := by decide +kernel
theorem dX9_init_154 : decode cX9_init 154 = .ok (.invokespecial 67, 3) := by decide +kernel
theorem dX9_init_157 : decode cX9_init 157 = .ok (.putfield 68, 3) := by decide +kernel
theorem dX9_init_160 : decode cX9_init 160 = .ok (.aload_n 0, 1) := by decide +kernel
theorem dX9_init_161 : decode cX9_init 161 = .ok (.new 72, 3) := by decide +kernel
theorem dX9_init_164 : decode cX9_init 164 = .ok (.dup, 1) := by decide +kernel
theorem dX9_init_165 : decode cX9_init 165 = .ok (.invokespecial 74, 3) := by decide +kernel
theorem dX9_init_168 : decode cX9_init 168 = .ok (.putfield 75, 3) := by decide +kernel
theorem dX9_init_171 : decode cX9_init 171 = .ok (.return_, 1) := by decide +kernel
theorem dX9_isClock_0 : decode cX9_isClock 0 = .ok (.iload_n 1, 1) := by decide +kernel
theorem dX9_isClock_1 : decode cX9_isClock 1 = .ok (.ifCond .lt 18, 3) := by decide +kernel
theorem dX9_isClock_4 : decode cX9_isClock 4 = .ok (.iload_n 1, 1) := by decide +kernel
theorem dX9_isClock_5 : decode cX9_isClock 5 = .ok (.aload_n 0, 1) := by decide +kernel
theorem dX9_isClock_6 : decode cX9_isClock 6 = .ok (.getfield 33, 3) := by decide +kernel
theorem dX9_isClock_9 : decode cX9_isClock 9 = .ok (.getfield 182, 3) := by decide +kernel
theorem dX9_isClock_12 : decode cX9_isClock 12 = .ok (.if_icmp .ge 7, 3) := by decide +kernel
theorem dX9_isClock_19 : decode cX9_isClock 19 = .ok (.iconst 0, 1) := by decide +kernel
theorem dX9_isClock_20 : decode cX9_isClock 20 = .ok (.ireturn, 1) := by decide +kernel
theorem dX9_isDay_0 : decode cX9_isDay 0 = .ok (.iload_n 1, 1) := by decide +kernel
theorem dX9_isDay_1 : decode cX9_isDay 1 = .ok (.ifCond .lt 18, 3) := by decide +kernel
theorem dX9_isDay_4 : decode cX9_isDay 4 = .ok (.iload_n 1, 1) := by decide +kernel
theorem dX9_isDay_5 : decode cX9_isDay 5 = .ok (.aload_n 0, 1) := by decide +kernel
theorem dX9_isDay_6 : decode cX9_isDay 6 = .ok (.getfield 33, 3) := by decide +kernel
theorem dX9_isDay_9 : decode cX9_isDay 9 = .ok (.getfield 173, 3) := by decide +kernel
theorem dX9_isDay_12 : decode cX9_isDay 12 = .ok (.if_icmp .ge 7, 3) := by decide +kernel
theorem dX9_isDay_19 : decode cX9_isDay 19 = .ok (.iconst 0, 1) := by decide +kernel
theorem dX9_isDay_20 : decode cX9_isDay 20 = .ok (.ireturn, 1) := by decide +kernel
theorem dX9_isMinute_0 : decode cX9_isMinute 0 = .ok (.iload_n 0, 1) := by decide +kernel
theorem dX9_isMinute_1 : decode cX9_isMinute 1 = .ok (.iconst 0, 1) := by decide +kernel
theorem dX9_isMinute_2 : decode cX9_isMinute 2 = .ok (.sipush 600, 3) := by decide +kernel
theorem dX9_isMinute_5 : decode cX9_isMinute 5 = .ok (.invokestatic 148, 3) := by decide +kernel
theorem dX9_isMinute_8 : decode cX9_isMinute 8 = .ok (.ireturn, 1) := by decide +kernel
theorem dX9_isSlot_0 : decode cX9_isSlot 0 = .ok (.iload_n 0, 1) := by decide +kernel
theorem dX9_isSlot_1 : decode cX9_isSlot 1 = .ok (.iconst 0, 1) := by decide +kernel
theorem dX9_isSlot_2 : decode cX9_isSlot 2 = .ok (.iconst 3, 1) := by decide +kernel
theorem dX9_isSlot_3 : decode cX9_isSlot 3 = .ok (.invokestatic 148, 3) := by decide +kernel
theorem dX9_isSlot_6 : decode cX9_isSlot 6 = .ok (.ireturn, 1) := by decide +kernel
theorem dX9_isWithin_0 : decode cX9_isWithin 0 = .ok (.iload_n 0, 1) := by decide +kernel
theorem dX9_isWithin_1 : decode cX9_isWithin 1 = .ok (.iload_n 1, 1) := by decide +kernel
theorem dX9_isWithin_2 : decode cX9_isWithin 2 = .ok (.if_icmp .lt 12, 3) := by decide +kernel
theorem dX9_isWithin_5 : decode cX9_isWithin 5 = .ok (.iload_n 0, 1) := by decide +kernel
theorem dX9_isWithin_6 : decode cX9_isWithin 6 = .ok (.iload_n 2, 1) := by decide +kernel
theorem dX9_isWithin_7 : decode cX9_isWithin 7 = .ok (.if_icmp .gt 7, 3) := by decide +kernel
theorem dX9_isWithin_10 : decode cX9_isWithin 10 = .ok (.iconst 1, 1) := by decide +kernel
theorem dX9_isWithin_11 : decode cX9_isWithin 11 = .ok (.goto 4, 3) := by decide +kernel
theorem dX9_isWithin_14 : decode cX9_isWithin 14 = .ok (.iconst 0, 1) := by decide +kernel
theorem dX9_isWithin_15 : decode cX9_isWithin 15 = .ok (.ireturn, 1) := by decide +kernel
theorem dX9_late_0 : decode cX9_late 0 = .ok (.aload_n 0, 1) := by decide +kernel
theorem dX9_late_1 : decode cX9_late 1 = .ok (.iload_n 1, 1) := by decide +kernel
theorem dX9_late_2 : decode cX9_late 2 = .ok (.invokevirtual 107, 3) := by decide +kernel
theorem dX9_late_5 : decode cX9_late 5 = .ok (.ifCond .eq 25, 3) := by decide +kernel
theorem dX9_late_30 : decode cX9_late 30 = .ok (.sipush (-1000), 3) := by decide +kernel
theorem dX9_late_33 : decode cX9_late 33 = .ok (.ireturn, 1) := by decide +kernel
theorem dX9_law_0 : decode cX9_law 0 = .ok (.iload_n 1, 1) := by decide +kernel
theorem dX9_law_1 : decode cX9_law 1 = .ok (.invokestatic 208, 3) := by decide +kernel
theorem dX9_law_4 : decode cX9_law 4 = .ok (.ifCond .eq 10, 3) := by decide +kernel
theorem dX9_law_7 : decode cX9_law 7 = .ok (.aload_n 0, 1) := by decide +kernel
theorem dX9_law_8 : decode cX9_law 8 = .ok (.invokevirtual 166, 3) := by decide +kernel
theorem dX9_law_11 : decode cX9_law 11 = .ok (.ifCond .ne 6, 3) := by decide +kernel
theorem dX9_law_14 : decode cX9_law 14 = .ok (.bipush (-2), 2) := by decide +kernel
theorem dX9_law_16 : decode cX9_law 16 = .ok (.ireturn, 1) := by decide +kernel
theorem dX9_likely_0 : decode cX9_likely 0 = .ok (.aload_n 0, 1) := by decide +kernel
theorem dX9_likely_1 : decode cX9_likely 1 = .ok (.iload_n 1, 1) := by decide +kernel
theorem dX9_likely_2 : decode cX9_likely 2 = .ok (.invokevirtual 127, 3) := by decide +kernel
theorem dX9_likely_5 : decode cX9_likely 5 = .ok (.ifCond .eq 11, 3) := by decide +kernel
theorem dX9_likely_16 : decode cX9_likely 16 = .ok (.bipush (-2), 2) := by decide +kernel
theorem dX9_likely_18 : decode cX9_likely 18 = .ok (.ireturn, 1) := by decide +kernel
theorem dX9_lodge_0 : decode cX9_lodge 0 = .ok (.aload_n 0, 1) := by decide +kernel
theorem dX9_lodge_1 : decode cX9_lodge 1 = .ok (.iload_n 1, 1) := by decide +kernel
theorem dX9_lodge_2 : decode cX9_lodge 2 = .ok (.invokevirtual 127, 3) := by decide +kernel
theorem dX9_lodge_5 : decode cX9_lodge 5 = .ok (.ifCond .ne 6, 3) := by decide +kernel
theorem dX9_lodge_8 : decode cX9_lodge 8 = .ok (.bipush (-2), 2) := by decide +kernel
theorem dX9_lodge_10 : decode cX9_lodge 10 = .ok (.ireturn, 1) := by decide +kernel
theorem dX9_luck_0 : decode cX9_luck 0 = .ok (.iload_n 1, 1) := by decide +kernel
theorem dX9_luck_1 : decode cX9_luck 1 = .ok (.iconst 0, 1) := by decide +kernel
theorem dX9_luck_2 : decode cX9_luck 2 = .ok (.ldc_w 328, 3) := by decide +kernel
theorem dX9_luck_5 : decode cX9_luck 5 = .ok (.invokestatic 148, 3) := by decide +kernel
theorem dX9_luck_8 : decode cX9_luck 8 = .ok (.ifCond .eq 30, 3) := by decide +kernel
theorem dX9_luck_11 : decode cX9_luck 11 = .ok (.iload_n 2, 1) := by decide +kernel
theorem dX9_luck_12 : decode cX9_luck 12 = .ok (.iconst 1, 1) := by decide +kernel
theorem dX9_luck_13 : decode cX9_luck 13 = .ok (.bipush 20, 2) := by decide +kernel
theorem dX9_luck_15 : decode cX9_luck 15 = .ok (.invokestatic 148, 3) := by decide +kernel
theorem dX9_luck_18 : decode cX9_luck 18 = .ok (.ifCond .eq 20, 3) := by decide +kernel
theorem dX9_luck_21 : decode cX9_luck 21 = .ok (.aload_n 0, 1) := by decide +kernel
theorem dX9_luck_22 : decode cX9_luck 22 = .ok (.iload_n 3, 1) := by decide +kernel
theorem dX9_luck_23 : decode cX9_luck 23 = .ok (.invokevirtual 107, 3) := by decide +kernel
theorem dX9_luck_26 : decode cX9_luck 26 = .ok (.ifCond .eq 12, 3) := by decide +kernel
theorem dX9_luck_38 : decode cX9_luck 38 = .ok (.bipush (-2), 2) := by decide +kernel
theorem dX9_luck_40 : decode cX9_luck 40 = .ok (.ireturn, 1) := by decide +kernel
theorem dX9_mean_0 : decode cX9_mean 0 = .ok (.aload_n 0, 1) := by decide +kernel
theorem dX9_mean_1 : decode cX9_mean 1 = .ok (.iload_n 1, 1) := by decide +kernel
theorem dX9_mean_2 : decode cX9_mean 2 = .ok (.invokevirtual 107, 3) := by decide +kernel
theorem dX9_mean_5 : decode cX9_mean 5 = .ok (.ifCond .eq 12, 3) := by decide +kernel
theorem dX9_mean_17 : decode cX9_mean 17 = .ok (.sipush (-1000), 3) := by decide +kernel
theorem dX9_mean_20 : decode cX9_mean 20 = .ok (.ireturn, 1) := by decide +kernel
theorem dX9_meet_0 : decode cX9_meet 0 = .ok (.aload_n 0, 1) := by decide +kernel
theorem dX9_meet_1 : decode cX9_meet 1 = .ok (.iload_n 1, 1) := by decide +kernel
theorem dX9_meet_2 : decode cX9_meet 2 = .ok (.invokevirtual 107, 3) := by decide +kernel
theorem dX9_meet_5 : decode cX9_meet 5 = .ok (.ifCond .eq 11, 3) := by decide +kernel
theorem dX9_meet_16 : decode cX9_meet 16 = .ok (.bipush (-2), 2) := by decide +kernel
theorem dX9_meet_18 : decode cX9_meet 18 = .ok (.ireturn, 1) := by decide +kernel
theorem dX9_mend_0 : decode cX9_mend 0 = .ok (.aload_n 0, 1) := by decide +kernel
theorem dX9_mend_1 : decode cX9_mend 1 = .ok (.iconst 0, 1) := by decide +kernel
theorem dX9_mend_2 : decode cX9_mend 2 = .ok (.iload_n 1, 1) := by decide +kernel
theorem dX9_mend_3 : decode cX9_mend 3 = .ok (.iload_n 2, 1) := by decide +kernel
theorem dX9_mend_4 : decode cX9_mend 4 = .ok (.invokevirtual 318, 3) := by decide +kernel
theorem dX9_mend_7 : decode cX9_mend 7 = .ok (.ireturn, 1) := by decide +kernel
theorem dX9_mended_0 : decode cX9_mended 0 = .ok (.iload_n 1, 1) := by decide +kernel
theorem dX9_mended_1 : decode cX9_mended 1 = .ok (.iconst 0, 1) := by decide +kernel
theorem dX9_mended_2 : decode cX9_mended 2 = .ok (.iconst 3, 1) := by decide +kernel
theorem dX9_mended_3 : decode cX9_mended 3 = .ok (.invokestatic 148, 3) := by decide +kernel
theorem dX9_mended_6 : decode cX9_mended 6 = .ok (.ifCond .eq 10, 3) := by decide +kernel
theorem dX9_mended_9 : decode cX9_mended 9 = .ok (.aload_n 0, 1) := by decide +kernel
theorem dX9_mended_10 : decode cX9_mended 10 = .ok (.invokevirtual 166, 3) := by decide +kernel
theorem dX9_mended_13 : decode cX9_mended 13 = .ok (.ifCond .ne 6, 3) := by decide +kernel
theorem dX9_mended_16 : decode cX9_mended 16 = .ok (.bipush (-2), 2) := by decide +kernel
theorem dX9_mended_18 : decode cX9_mended 18 = .ok (.ireturn, 1) := by decide +kernel
theorem dX9_mends_0 : decode cX9_mends 0 = .ok (.iload_n 1, 1) := by decide +kernel
theorem dX9_mends_1 : decode cX9_mends 1 = .ok (.iconst 0, 1) := by decide +kernel
theorem dX9_mends_2 : decode cX9_mends 2 = .ok (.iconst 3, 1) := by decide +kernel
theorem dX9_mends_3 : decode cX9_mends 3 = .ok (.invokestatic 148, 3) := by decide +kernel
theorem dX9_mends_6 : decode cX9_mends 6 = .ok (.ifCond .eq 10, 3) := by decide +kernel
theorem dX9_mends_9 : decode cX9_mends 9 = .ok (.aload_n 0, 1) := by decide +kernel
theorem dX9_mends_10 : decode cX9_mends 10 = .ok (.invokevirtual 166, 3) := by decide +kernel
theorem dX9_mends_13 : decode cX9_mends 13 = .ok (.ifCond .ne 6, 3) := by decide +kernel
theorem dX9_mends_16 : decode cX9_mends 16 = .ok (.bipush (-2), 2) := by decide +kernel
theorem dX9_mends_18 : decode cX9_mends 18 = .ok (.ireturn, 1) := by decide +kernel
theorem dX9_middle_0 : decode cX9_middle 0 = .ok (.aload_n 0, 1) := by decide +kernel
theorem dX9_middle_1 : decode cX9_middle 1 = .ok (.iload_n 1, 1) := by decide +kernel
theorem dX9_middle_2 : decode cX9_middle 2 = .ok (.invokevirtual 127, 3) := by decide +kernel
theorem dX9_middle_5 : decode cX9_middle 5 = .ok (.ifCond .ne 7, 3) := by decide +kernel
theorem dX9_middle_8 : decode cX9_middle 8 = .ok (.sipush (-1000), 3) := by decide +kernel
theorem dX9_middle_11 : decode cX9_middle 11 = .ok (.ireturn, 1) := by decide +kernel
theorem dX9_noon_0 : decode cX9_noon 0 = .ok (.aload_n 0, 1) := by decide +kernel
theorem dX9_noon_1 : decode cX9_noon 1 = .ok (.iload_n 1, 1) := by decide +kernel
theorem dX9_noon_2 : decode cX9_noon 2 = .ok (.invokevirtual 127, 3) := by decide +kernel
theorem dX9_noon_5 : decode cX9_noon 5 = .ok (.ifCond .eq 11, 3) := by decide +kernel
theorem dX9_noon_16 : decode cX9_noon 16 = .ok (.sipush (-1000), 3) := by decide +kernel
theorem dX9_noon_19 : decode cX9_noon 19 = .ok (.ireturn, 1) := by decide +kernel
theorem dX9_oil_0 : decode cX9_oil 0 = .ok (.aload_n 0, 1) := by decide +kernel
theorem dX9_oil_1 : decode cX9_oil 1 = .ok (.iconst 1, 1) := by decide +kernel
theorem dX9_oil_2 : decode cX9_oil 2 = .ok (.iload_n 1, 1) := by decide +kernel
theorem dX9_oil_3 : decode cX9_oil 3 = .ok (.iload_n 2, 1) := by decide +kernel
theorem dX9_oil_4 : decode cX9_oil 4 = .ok (.invokevirtual 318, 3) := by decide +kernel
theorem dX9_oil_7 : decode cX9_oil 7 = .ok (.ireturn, 1) := by decide +kernel
theorem dX9_order_0 : decode cX9_order 0 = .ok (.aload_n 0, 1) := by decide +kernel
theorem dX9_order_1 : decode cX9_order 1 = .ok (.iload_n 1, 1) := by decide +kernel
theorem dX9_order_2 : decode cX9_order 2 = .ok (.invokevirtual 127, 3) := by decide +kernel
theorem dX9_order_5 : decode cX9_order 5 = .ok (.ifCond .eq 15, 3) := by decide +kernel
theorem dX9_order_20 : decode cX9_order 20 = .ok (.bipush (-2), 2) := by decide +kernel
theorem dX9_order_22 : decode cX9_order 22 = .ok (.ireturn, 1) := by decide +kernel
theorem dX9_passes_0 : decode cX9_passes 0 = .ok (.aload_n 0, 1) := by decide +kernel
theorem dX9_passes_1 : decode cX9_passes 1 = .ok (.iload_n 1, 1) := by decide +kernel
theorem dX9_passes_2 : decode cX9_passes 2 = .ok (.invokevirtual 107, 3) := by decide +kernel
theorem dX9_passes_5 : decode cX9_passes 5 = .ok (.ifCond .eq 11, 3) := by decide +kernel
theorem dX9_passes_16 : decode cX9_passes 16 = .ok (.bipush (-2), 2) := by decide +kernel
theorem dX9_passes_18 : decode cX9_passes 18 = .ok (.ireturn, 1) := by decide +kernel
theorem dX9_paste_0 : decode cX9_paste 0 = .ok (.iload_n 1, 1) := by decide +kernel
theorem dX9_paste_1 : decode cX9_paste 1 = .ok (.invokestatic 253, 3) := by decide +kernel
theorem dX9_paste_4 : decode cX9_paste 4 = .ok (.ifCond .eq 10, 3) := by decide +kernel
theorem dX9_paste_7 : decode cX9_paste 7 = .ok (.iload_n 3, 1) := by decide +kernel
theorem dX9_paste_8 : decode cX9_paste 8 = .ok (.invokestatic 253, 3) := by decide +kernel
theorem dX9_paste_11 : decode cX9_paste 11 = .ok (.ifCond .ne 6, 3) := by decide +kernel
theorem dX9_paste_14 : decode cX9_paste 14 = .ok (.bipush (-2), 2) := by decide +kernel
theorem dX9_paste_16 : decode cX9_paste 16 = .ok (.ireturn, 1) := by decide +kernel
theorem dX9_paste_17 : decode cX9_paste 17 = .ok (.aload_n 0, 1) := by decide +kernel
theorem dX9_paste_18 : decode cX9_paste 18 = .ok (.getfield 39, 3) := by decide +kernel
theorem dX9_paste_21 : decode cX9_paste 21 = .ok (.iload_n 1, 1) := by decide +kernel
theorem dX9_paste_22 : decode cX9_paste 22 = .ok (.aaload, 1) := by decide +kernel
theorem dX9_paste_23 : decode cX9_paste 23 = .ok (.astore 6, 2) := by decide +kernel
theorem dX9_paste_25 : decode cX9_paste 25 = .ok (.aload_n 0, 1) := by decide +kernel
theorem dX9_paste_26 : decode cX9_paste 26 = .ok (.getfield 39, 3) := by decide +kernel
theorem dX9_paste_29 : decode cX9_paste 29 = .ok (.iload_n 3, 1) := by decide +kernel
theorem dX9_paste_30 : decode cX9_paste 30 = .ok (.aaload, 1) := by decide +kernel
theorem dX9_paste_31 : decode cX9_paste 31 = .ok (.astore 7, 2) := by decide +kernel
theorem dX9_paste_33 : decode cX9_paste 33 = .ok (.aload 6, 2) := by decide +kernel
theorem dX9_paste_35 : decode cX9_paste 35 = .ok (.invokevirtual 256, 3) := by decide +kernel
theorem dX9_paste_38 : decode cX9_paste 38 = .ok (.ifCond .eq 11, 3) := by decide +kernel
theorem dX9_paste_49 : decode cX9_paste 49 = .ok (.bipush (-6), 2) := by decide +kernel
theorem dX9_paste_51 : decode cX9_paste 51 = .ok (.ireturn, 1) := by decide +kernel
theorem dX9_price_0 : decode cX9_price 0 = .ok (.aload_n 0, 1) := by decide +kernel
theorem dX9_price_1 : decode cX9_price 1 = .ok (.iload_n 1, 1) := by decide +kernel
theorem dX9_price_2 : decode cX9_price 2 = .ok (.invokevirtual 107, 3) := by decide +kernel
theorem dX9_price_5 : decode cX9_price 5 = .ok (.ifCond .eq 11, 3) := by decide +kernel
theorem dX9_price_16 : decode cX9_price 16 = .ok (.ldc 188, 2) := by decide +kernel
theorem dX9_price_18 : decode cX9_price 18 = .ok (.ireturn, 1) := by decide +kernel
theorem dX9_quorum_0 : decode cX9_quorum 0 = .ok (.aload_n 0, 1) := by decide +kernel
theorem dX9_quorum_1 : decode cX9_quorum 1 = .ok (.iload_n 1, 1) := by decide +kernel
theorem dX9_quorum_2 : decode cX9_quorum 2 = .ok (.invokevirtual 127, 3) := by decide +kernel
theorem dX9_quorum_5 : decode cX9_quorum 5 = .ok (.ifCond .eq 27, 3) := by decide +kernel
theorem dX9_quorum_32 : decode cX9_quorum 32 = .ok (.bipush (-2), 2) := by decide +kernel
theorem dX9_quorum_34 : decode cX9_quorum 34 = .ok (.ireturn, 1) := by decide +kernel
theorem dX9_race_0 : decode cX9_race 0 = .ok (.aload_n 0, 1) := by decide +kernel
theorem dX9_race_1 : decode cX9_race 1 = .ok (.iload_n 1, 1) := by decide +kernel
theorem dX9_race_2 : decode cX9_race 2 = .ok (.iload_n 2, 1) := by decide +kernel
theorem dX9_race_3 : decode cX9_race 3 = .ok (.iload_n 3, 1) := by decide +kernel
theorem dX9_race_4 : decode cX9_race 4 = .ok (.invokevirtual 270, 3) := by decide +kernel
theorem dX9_race_7 : decode cX9_race 7 = .ok (.ifCond .eq 13, 3) := by decide +kernel
theorem dX9_race_20 : decode cX9_race 20 = .ok (.bipush (-2), 2) := by decide +kernel
theorem dX9_race_22 : decode cX9_race 22 = .ok (.ireturn, 1) := by decide +kernel
theorem dX9_rate_0 : decode cX9_rate 0 = .ok (.aload_n 0, 1) := by decide +kernel
theorem dX9_rate_1 : decode cX9_rate 1 = .ok (.iload_n 1, 1) := by decide +kernel
theorem dX9_rate_2 : decode cX9_rate 2 = .ok (.invokevirtual 107, 3) := by decide +kernel
theorem dX9_rate_5 : decode cX9_rate 5 = .ok (.ifCond .eq 14, 3) := by decide +kernel
theorem dX9_rate_19 : decode cX9_rate 19 = .ok (.bipush (-2), 2) := by decide +kernel
theorem dX9_rate_21 : decode cX9_rate 21 = .ok (.ireturn, 1) := by decide +kernel
theorem dX9_register_0 : decode cX9_register 0 = .ok (.aload_n 0, 1) := by decide +kernel
theorem dX9_register_1 : decode cX9_register 1 = .ok (.iload_n 1, 1) := by decide +kernel
theorem dX9_register_2 : decode cX9_register 2 = .ok (.invokevirtual 127, 3) := by decide +kernel
theorem dX9_register_5 : decode cX9_register 5 = .ok (.ifCond .eq 29, 3) := by decide +kernel
theorem dX9_register_34 : decode cX9_register 34 = .ok (.bipush (-2), 2) := by decide +kernel
theorem dX9_register_36 : decode cX9_register 36 = .ok (.ireturn, 1) := by decide +kernel
theorem dX9_reign_0 : decode cX9_reign 0 = .ok (.aload_n 0, 1) := by decide +kernel
theorem dX9_reign_1 : decode cX9_reign 1 = .ok (.iload_n 1, 1) := by decide +kernel
theorem dX9_reign_2 : decode cX9_reign 2 = .ok (.invokevirtual 107, 3) := by decide +kernel
theorem dX9_reign_5 : decode cX9_reign 5 = .ok (.ifCond .eq 11, 3) := by decide +kernel
theorem dX9_reign_16 : decode cX9_reign 16 = .ok (.bipush (-2), 2) := by decide +kernel
theorem dX9_reign_18 : decode cX9_reign 18 = .ok (.ireturn, 1) := by decide +kernel
theorem dX9_rents_0 : decode cX9_rents 0 = .ok (.aload_n 0, 1) := by decide +kernel
theorem dX9_rents_1 : decode cX9_rents 1 = .ok (.iload_n 1, 1) := by decide +kernel
theorem dX9_rents_2 : decode cX9_rents 2 = .ok (.invokevirtual 107, 3) := by decide +kernel
theorem dX9_rents_5 : decode cX9_rents 5 = .ok (.ifCond .eq 11, 3) := by decide +kernel
theorem dX9_rents_16 : decode cX9_rents 16 = .ok (.bipush (-2), 2) := by decide +kernel
theorem dX9_rents_18 : decode cX9_rents 18 = .ok (.ireturn, 1) := by decide +kernel
theorem dX9_rest_0 : decode cX9_rest 0 = .ok (.aload_n 0, 1) := by decide +kernel
theorem dX9_rest_1 : decode cX9_rest 1 = .ok (.iload_n 1, 1) := by decide +kernel
theorem dX9_rest_2 : decode cX9_rest 2 = .ok (.iload_n 2, 1) := by decide +kernel
theorem dX9_rest_3 : decode cX9_rest 3 = .ok (.iload_n 3, 1) := by decide +kernel
theorem dX9_rest_4 : decode cX9_rest 4 = .ok (.invokevirtual 270, 3) := by decide +kernel
theorem dX9_rest_7 : decode cX9_rest 7 = .ok (.ifCond .eq 13, 3) := by decide +kernel
theorem dX9_rest_20 : decode cX9_rest 20 = .ok (.bipush (-2), 2) := by decide +kernel
theorem dX9_rest_22 : decode cX9_rest 22 = .ok (.ireturn, 1) := by decide +kernel
theorem dX9_rests_0 : decode cX9_rests 0 = .ok (.aload_n 0, 1) := by decide +kernel
theorem dX9_rests_1 : decode cX9_rests 1 = .ok (.iload_n 1, 1) := by decide +kernel
theorem dX9_rests_2 : decode cX9_rests 2 = .ok (.iload_n 2, 1) := by decide +kernel
theorem dX9_rests_3 : decode cX9_rests 3 = .ok (.iload_n 3, 1) := by decide +kernel
theorem dX9_rests_4 : decode cX9_rests 4 = .ok (.invokevirtual 270, 3) := by decide +kernel
theorem dX9_rests_7 : decode cX9_rests 7 = .ok (.ifCond .eq 13, 3) := by decide +kernel
theorem dX9_rests_20 : decode cX9_rests 20 = .ok (.bipush (-2), 2) := by decide +kernel
theorem dX9_rests_22 : decode cX9_rests 22 = .ok (.ireturn, 1) := by decide +kernel
theorem dX9_round_0 : decode cX9_round 0 = .ok (.aload_n 0, 1) := by decide +kernel
theorem dX9_round_1 : decode cX9_round 1 = .ok (.iload_n 1, 1) := by decide +kernel
theorem dX9_round_2 : decode cX9_round 2 = .ok (.invokevirtual 127, 3) := by decide +kernel
theorem dX9_round_5 : decode cX9_round 5 = .ok (.ifCond .ne 6, 3) := by decide +kernel
theorem dX9_round_8 : decode cX9_round 8 = .ok (.bipush (-2), 2) := by decide +kernel
theorem dX9_round_10 : decode cX9_round 10 = .ok (.ireturn, 1) := by decide +kernel
theorem dX9_rounds_0 : decode cX9_rounds 0 = .ok (.aload_n 0, 1) := by decide +kernel
theorem dX9_rounds_1 : decode cX9_rounds 1 = .ok (.iload_n 1, 1) := by decide +kernel
theorem dX9_rounds_2 : decode cX9_rounds 2 = .ok (.invokevirtual 127, 3) := by decide +kernel
theorem dX9_rounds_5 : decode cX9_rounds 5 = .ok (.ifCond .ne 6, 3) := by decide +kernel
theorem dX9_rounds_8 : decode cX9_rounds 8 = .ok (.bipush (-2), 2) := by decide +kernel
theorem dX9_rounds_10 : decode cX9_rounds 10 = .ok (.ireturn, 1) := by decide +kernel
theorem dX9_row_0 : decode cX9_row 0 = .ok (.iload_n 1, 1) := by decide +kernel
theorem dX9_row_1 : decode cX9_row 1 = .ok (.invokestatic 253, 3) := by decide +kernel
theorem dX9_row_4 : decode cX9_row 4 = .ok (.ifCond .eq 18, 3) := by decide +kernel
theorem dX9_row_7 : decode cX9_row 7 = .ok (.iload_n 2, 1) := by decide +kernel
theorem dX9_row_8 : decode cX9_row 8 = .ok (.iconst 0, 1) := by decide +kernel
theorem dX9_row_9 : decode cX9_row 9 = .ok (.iconst 3, 1) := by decide +kernel
theorem dX9_row_10 : decode cX9_row 10 = .ok (.invokestatic 148, 3) := by decide +kernel
theorem dX9_row_13 : decode cX9_row 13 = .ok (.ifCond .eq 9, 3) := by decide +kernel
theorem dX9_row_16 : decode cX9_row 16 = .ok (.iload_n 3, 1) := by decide +kernel
theorem dX9_row_17 : decode cX9_row 17 = .ok (.bipush 60, 2) := by decide +kernel
theorem dX9_row_19 : decode cX9_row 19 = .ok (.if_icmp .le 6, 3) := by decide +kernel
theorem dX9_row_22 : decode cX9_row 22 = .ok (.bipush (-2), 2) := by decide +kernel
theorem dX9_row_24 : decode cX9_row 24 = .ok (.ireturn, 1) := by decide +kernel
theorem dX9_row_25 : decode cX9_row 25 = .ok (.iload_n 3, 1) := by decide +kernel
theorem dX9_row_26 : decode cX9_row 26 = .ok (.ifCond .ge 6, 3) := by decide +kernel
theorem dX9_row_29 : decode cX9_row 29 = .ok (.bipush (-3), 2) := by decide +kernel
theorem dX9_row_31 : decode cX9_row 31 = .ok (.ireturn, 1) := by decide +kernel
theorem dX9_row_32 : decode cX9_row 32 = .ok (.aload_n 0, 1) := by decide +kernel
theorem dX9_row_33 : decode cX9_row 33 = .ok (.getfield 39, 3) := by decide +kernel
theorem dX9_row_36 : decode cX9_row 36 = .ok (.iload_n 1, 1) := by decide +kernel
theorem dX9_row_37 : decode cX9_row 37 = .ok (.aaload, 1) := by decide +kernel
theorem dX9_row_38 : decode cX9_row 38 = .ok (.iload_n 2, 1) := by decide +kernel
theorem dX9_row_39 : decode cX9_row 39 = .ok (.iload_n 3, 1) := by decide +kernel
theorem dX9_row_40 : decode cX9_row 40 = .ok (.invokevirtual 357, 3) := by decide +kernel
theorem dX9_row_43 : decode cX9_row 43 = .ok (.iconst 0, 1) := by decide +kernel
theorem dX9_row_44 : decode cX9_row 44 = .ok (.ireturn, 1) := by decide +kernel
theorem dX9_rowsThere_0 : decode cX9_rowsThere 0 = .ok (.iconst 0, 1) := by decide +kernel
theorem dX9_rowsThere_1 : decode cX9_rowsThere 1 = .ok (.istore_n 1, 1) := by decide +kernel
theorem dX9_rowsThere_2 : decode cX9_rowsThere 2 = .ok (.iconst 0, 1) := by decide +kernel
theorem dX9_rowsThere_3 : decode cX9_rowsThere 3 = .ok (.istore_n 2, 1) := by decide +kernel
theorem dX9_rowsThere_4 : decode cX9_rowsThere 4 = .ok (.iload_n 2, 1) := by decide +kernel
theorem dX9_rowsThere_5 : decode cX9_rowsThere 5 = .ok (.iconst 4, 1) := by decide +kernel
theorem dX9_rowsThere_6 : decode cX9_rowsThere 6 = .ok (.if_icmp .ge 24, 3) := by decide +kernel
theorem dX9_rowsThere_9 : decode cX9_rowsThere 9 = .ok (.aload_n 0, 1) := by decide +kernel
theorem dX9_rowsThere_10 : decode cX9_rowsThere 10 = .ok (.getfield 39, 3) := by decide +kernel
theorem dX9_rowsThere_13 : decode cX9_rowsThere 13 = .ok (.iload_n 2, 1) := by decide +kernel
theorem dX9_rowsThere_14 : decode cX9_rowsThere 14 = .ok (.aaload, 1) := by decide +kernel
theorem dX9_rowsThere_15 : decode cX9_rowsThere 15 = .ok (.invokevirtual 256, 3) := by decide +kernel
theorem dX9_rowsThere_18 : decode cX9_rowsThere 18 = .ok (.ifCond .eq 6, 3) := by decide +kernel
theorem dX9_rowsThere_24 : decode cX9_rowsThere 24 = .ok (.iinc 2 1, 3) := by decide +kernel
theorem dX9_rowsThere_27 : decode cX9_rowsThere 27 = .ok (.goto (-23), 3) := by decide +kernel
theorem dX9_rowsThere_30 : decode cX9_rowsThere 30 = .ok (.iload_n 1, 1) := by decide +kernel
theorem dX9_rowsThere_31 : decode cX9_rowsThere 31 = .ok (.ireturn, 1) := by decide +kernel
theorem dX9_seekAway_0 : decode cX9_seekAway 0 = .ok (.aload_n 0, 1) := by decide +kernel
theorem dX9_seekAway_1 : decode cX9_seekAway 1 = .ok (.iload_n 1, 1) := by decide +kernel
theorem dX9_seekAway_2 : decode cX9_seekAway 2 = .ok (.invokevirtual 390, 3) := by decide +kernel
theorem dX9_seekAway_5 : decode cX9_seekAway 5 = .ok (.istore_n 2, 1) := by decide +kernel
theorem dX9_seekAway_6 : decode cX9_seekAway 6 = .ok (.iload_n 2, 1) := by decide +kernel
theorem dX9_seekAway_7 : decode cX9_seekAway 7 = .ok (.ifCond .ne 14, 3) := by decide +kernel
theorem dX9_seekAway_21 : decode cX9_seekAway 21 = .ok (.iload_n 2, 1) := by decide +kernel
theorem dX9_seekAway_22 : decode cX9_seekAway 22 = .ok (.ireturn, 1) := by decide +kernel
theorem dX9_seekUnder_0 : decode cX9_seekUnder 0 = .ok (.aload_n 0, 1) := by decide +kernel
theorem dX9_seekUnder_1 : decode cX9_seekUnder 1 = .ok (.iload_n 1, 1) := by decide +kernel
theorem dX9_seekUnder_2 : decode cX9_seekUnder 2 = .ok (.invokevirtual 390, 3) := by decide +kernel
theorem dX9_seekUnder_5 : decode cX9_seekUnder 5 = .ok (.istore_n 2, 1) := by decide +kernel
theorem dX9_seekUnder_6 : decode cX9_seekUnder 6 = .ok (.iload_n 2, 1) := by decide +kernel
theorem dX9_seekUnder_7 : decode cX9_seekUnder 7 = .ok (.ifCond .ne 14, 3) := by decide +kernel
theorem dX9_seekUnder_21 : decode cX9_seekUnder 21 = .ok (.iload_n 2, 1) := by decide +kernel
theorem dX9_seekUnder_22 : decode cX9_seekUnder 22 = .ok (.ireturn, 1) := by decide +kernel
theorem dX9_slack_0 : decode cX9_slack 0 = .ok (.aload_n 0, 1) := by decide +kernel
theorem dX9_slack_1 : decode cX9_slack 1 = .ok (.iload_n 1, 1) := by decide +kernel
theorem dX9_slack_2 : decode cX9_slack 2 = .ok (.invokevirtual 107, 3) := by decide +kernel
theorem dX9_slack_5 : decode cX9_slack 5 = .ok (.ifCond .eq 11, 3) := by decide +kernel
theorem dX9_slack_16 : decode cX9_slack 16 = .ok (.bipush (-2), 2) := by decide +kernel
theorem dX9_slack_18 : decode cX9_slack 18 = .ok (.ireturn, 1) := by decide +kernel
theorem dX9_slowest_0 : decode cX9_slowest 0 = .ok (.aload_n 0, 1) := by decide +kernel
theorem dX9_slowest_1 : decode cX9_slowest 1 = .ok (.iload_n 1, 1) := by decide +kernel
theorem dX9_slowest_2 : decode cX9_slowest 2 = .ok (.invokevirtual 127, 3) := by decide +kernel
theorem dX9_slowest_5 : decode cX9_slowest 5 = .ok (.ifCond .eq 11, 3) := by decide +kernel
theorem dX9_slowest_16 : decode cX9_slowest 16 = .ok (.bipush (-2), 2) := by decide +kernel
theorem dX9_slowest_18 : decode cX9_slowest 18 = .ok (.ireturn, 1) := by decide +kernel
theorem dX9_spread_0 : decode cX9_spread 0 = .ok (.aload_n 0, 1) := by decide +kernel
theorem dX9_spread_1 : decode cX9_spread 1 = .ok (.iload_n 1, 1) := by decide +kernel
theorem dX9_spread_2 : decode cX9_spread 2 = .ok (.invokevirtual 127, 3) := by decide +kernel
theorem dX9_spread_5 : decode cX9_spread 5 = .ok (.ifCond .ne 6, 3) := by decide +kernel
theorem dX9_spread_8 : decode cX9_spread 8 = .ok (.bipush (-2), 2) := by decide +kernel
theorem dX9_spread_10 : decode cX9_spread 10 = .ok (.ireturn, 1) := by decide +kernel
theorem dX9_steady_0 : decode cX9_steady 0 = .ok (.aload_n 0, 1) := by decide +kernel
theorem dX9_steady_1 : decode cX9_steady 1 = .ok (.invokevirtual 166, 3) := by decide +kernel
theorem dX9_steady_4 : decode cX9_steady 4 = .ok (.ifCond .ne 6, 3) := by decide +kernel
theorem dX9_steady_7 : decode cX9_steady 7 = .ok (.bipush (-2), 2) := by decide +kernel
theorem dX9_steady_9 : decode cX9_steady 9 = .ok (.ireturn, 1) := by decide +kernel
theorem dX9_stop_0 : decode cX9_stop 0 = .ok (.aload_n 0, 1) := by decide +kernel
theorem dX9_stop_1 : decode cX9_stop 1 = .ok (.iconst 2, 1) := by decide +kernel
theorem dX9_stop_2 : decode cX9_stop 2 = .ok (.iload_n 1, 1) := by decide +kernel
theorem dX9_stop_3 : decode cX9_stop 3 = .ok (.iload_n 2, 1) := by decide +kernel
theorem dX9_stop_4 : decode cX9_stop 4 = .ok (.invokevirtual 318, 3) := by decide +kernel
theorem dX9_stop_7 : decode cX9_stop 7 = .ok (.ireturn, 1) := by decide +kernel
theorem dX9_struck_0 : decode cX9_struck 0 = .ok (.aload_n 0, 1) := by decide +kernel
theorem dX9_struck_1 : decode cX9_struck 1 = .ok (.iload_n 1, 1) := by decide +kernel
theorem dX9_struck_2 : decode cX9_struck 2 = .ok (.invokevirtual 127, 3) := by decide +kernel
theorem dX9_struck_5 : decode cX9_struck 5 = .ok (.ifCond .eq 16, 3) := by decide +kernel
theorem dX9_struck_21 : decode cX9_struck 21 = .ok (.bipush (-2), 2) := by decide +kernel
theorem dX9_struck_23 : decode cX9_struck 23 = .ok (.ireturn, 1) := by decide +kernel
theorem dX9_sure_0 : decode cX9_sure 0 = .ok (.aload_n 0, 1) := by decide +kernel
theorem dX9_sure_1 : decode cX9_sure 1 = .ok (.iload_n 1, 1) := by decide +kernel
theorem dX9_sure_2 : decode cX9_sure 2 = .ok (.invokevirtual 127, 3) := by decide +kernel
theorem dX9_sure_5 : decode cX9_sure 5 = .ok (.ifCond .eq 13, 3) := by decide +kernel
theorem dX9_sure_18 : decode cX9_sure 18 = .ok (.bipush (-2), 2) := by decide +kernel
theorem dX9_sure_20 : decode cX9_sure 20 = .ok (.ireturn, 1) := by decide +kernel
theorem dX9_surely_0 : decode cX9_surely 0 = .ok (.aload_n 0, 1) := by decide +kernel
theorem dX9_surely_1 : decode cX9_surely 1 = .ok (.iload_n 1, 1) := by decide +kernel
theorem dX9_surely_2 : decode cX9_surely 2 = .ok (.invokevirtual 280, 3) := by decide +kernel
theorem dX9_surely_5 : decode cX9_surely 5 = .ok (.istore_n 2, 1) := by decide +kernel
theorem dX9_surely_6 : decode cX9_surely 6 = .ok (.iload_n 2, 1) := by decide +kernel
theorem dX9_surely_7 : decode cX9_surely 7 = .ok (.ifCond .ne 13, 3) := by decide +kernel
theorem dX9_surely_20 : decode cX9_surely 20 = .ok (.iload_n 2, 1) := by decide +kernel
theorem dX9_surely_21 : decode cX9_surely 21 = .ok (.ireturn, 1) := by decide +kernel
theorem dX9_tolls_0 : decode cX9_tolls 0 = .ok (.aload_n 0, 1) := by decide +kernel
theorem dX9_tolls_1 : decode cX9_tolls 1 = .ok (.iload_n 1, 1) := by decide +kernel
theorem dX9_tolls_2 : decode cX9_tolls 2 = .ok (.invokevirtual 127, 3) := by decide +kernel
theorem dX9_tolls_5 : decode cX9_tolls 5 = .ok (.ifCond .ne 6, 3) := by decide +kernel
theorem dX9_tolls_8 : decode cX9_tolls 8 = .ok (.bipush (-2), 2) := by decide +kernel
theorem dX9_tolls_10 : decode cX9_tolls 10 = .ok (.ireturn, 1) := by decide +kernel
theorem dX9_town_0 : decode cX9_town 0 = .ok (.aload_n 0, 1) := by decide +kernel
theorem dX9_town_1 : decode cX9_town 1 = .ok (.getfield 10, 3) := by decide +kernel
theorem dX9_town_4 : decode cX9_town 4 = .ok (.aload_n 0, 1) := by decide +kernel
theorem dX9_town_5 : decode cX9_town 5 = .ok (.getfield 23, 3) := by decide +kernel
theorem dX9_town_8 : decode cX9_town 8 = .ok (.invokevirtual 87, 3) := by decide +kernel
theorem dX9_town_11 : decode cX9_town 11 = .ok (.ifCond .ne 6, 3) := by decide +kernel
theorem dX9_town_17 : decode cX9_town 17 = .ok (.aload_n 0, 1) := by decide +kernel
theorem dX9_town_18 : decode cX9_town 18 = .ok (.getfield 10, 3) := by decide +kernel
theorem dX9_town_21 : decode cX9_town 21 = .ok (.iconst 0, 1) := by decide +kernel
theorem dX9_town_22 : decode cX9_town 22 = .ok (.putfield 79, 3) := by decide +kernel
theorem dX9_town_25 : decode cX9_town 25 = .ok (.aload_n 0, 1) := by decide +kernel
theorem dX9_town_26 : decode cX9_town 26 = .ok (.getfield 19, 3) := by decide +kernel
theorem dX9_town_29 : decode cX9_town 29 = .ok (.aload_n 0, 1) := by decide +kernel
theorem dX9_town_30 : decode cX9_town 30 = .ok (.getfield 23, 3) := by decide +kernel
theorem dX9_town_33 : decode cX9_town 33 = .ok (.invokevirtual 91, 3) := by decide +kernel
theorem dX9_town_36 : decode cX9_town 36 = .ok (.aload_n 0, 1) := by decide +kernel
theorem dX9_town_37 : decode cX9_town 37 = .ok (.getfield 33, 3) := by decide +kernel
theorem dX9_town_40 : decode cX9_town 40 = .ok (.aload_n 0, 1) := by decide +kernel
theorem dX9_town_41 : decode cX9_town 41 = .ok (.getfield 19, 3) := by decide +kernel
theorem dX9_town_44 : decode cX9_town 44 = .ok (.invokevirtual 95, 3) := by decide +kernel
theorem dX9_town_47 : decode cX9_town 47 = .ok (.aload_n 0, 1) := by decide +kernel
theorem dX9_town_48 : decode cX9_town 48 = .ok (.getfield 19, 3) := by decide +kernel
theorem dX9_town_51 : decode cX9_town 51 = .ok (.getfield 98, 3) := by decide +kernel
theorem dX9_town_54 : decode cX9_town 54 = .ok (.ireturn, 1) := by decide +kernel
theorem dX9_under_0 : decode cX9_under 0 = .ok (.aload_n 0, 1) := by decide +kernel
theorem dX9_under_1 : decode cX9_under 1 = .ok (.iload_n 1, 1) := by decide +kernel
theorem dX9_under_2 : decode cX9_under 2 = .ok (.invokevirtual 296, 3) := by decide +kernel
theorem dX9_under_5 : decode cX9_under 5 = .ok (.istore_n 2, 1) := by decide +kernel
theorem dX9_under_6 : decode cX9_under 6 = .ok (.iload_n 2, 1) := by decide +kernel
theorem dX9_under_7 : decode cX9_under 7 = .ok (.ifCond .ne 13, 3) := by decide +kernel
theorem dX9_under_20 : decode cX9_under 20 = .ok (.iload_n 2, 1) := by decide +kernel
theorem dX9_under_21 : decode cX9_under 21 = .ok (.ireturn, 1) := by decide +kernel
theorem dX9_undo_0 : decode cX9_undo 0 = .ok (.aload_n 0, 1) := by decide +kernel
theorem dX9_undo_1 : decode cX9_undo 1 = .ok (.invokevirtual 166, 3) := by decide +kernel
theorem dX9_undo_4 : decode cX9_undo 4 = .ok (.ifCond .ne 6, 3) := by decide +kernel
theorem dX9_undo_7 : decode cX9_undo 7 = .ok (.bipush (-2), 2) := by decide +kernel
theorem dX9_undo_9 : decode cX9_undo 9 = .ok (.ireturn, 1) := by decide +kernel
theorem dX9_waits_0 : decode cX9_waits 0 = .ok (.aload_n 0, 1) := by decide +kernel
theorem dX9_waits_1 : decode cX9_waits 1 = .ok (.invokevirtual 166, 3) := by decide +kernel
theorem dX9_waits_4 : decode cX9_waits 4 = .ok (.ifCond .eq 11, 3) := by decide +kernel
theorem dX9_waits_15 : decode cX9_waits 15 = .ok (.bipush (-2), 2) := by decide +kernel
theorem dX9_waits_17 : decode cX9_waits 17 = .ok (.ireturn, 1) := by decide +kernel
theorem dX9_watch_0 : decode cX9_watch 0 = .ok (.iload_n 1, 1) := by decide +kernel
theorem dX9_watch_1 : decode cX9_watch 1 = .ok (.invokestatic 208, 3) := by decide +kernel
theorem dX9_watch_4 : decode cX9_watch 4 = .ok (.ifCond .eq 10, 3) := by decide +kernel
theorem dX9_watch_7 : decode cX9_watch 7 = .ok (.aload_n 0, 1) := by decide +kernel
theorem dX9_watch_8 : decode cX9_watch 8 = .ok (.invokevirtual 166, 3) := by decide +kernel
theorem dX9_watch_11 : decode cX9_watch 11 = .ok (.ifCond .ne 6, 3) := by decide +kernel
theorem dX9_watch_14 : decode cX9_watch 14 = .ok (.bipush (-2), 2) := by decide +kernel
theorem dX9_watch_16 : decode cX9_watch 16 = .ok (.ireturn, 1) := by decide +kernel
theorem dX9_without_0 : decode cX9_without 0 = .ok (.aload_n 0, 1) := by decide +kernel
theorem dX9_without_1 : decode cX9_without 1 = .ok (.iload_n 1, 1) := by decide +kernel
theorem dX9_without_2 : decode cX9_without 2 = .ok (.invokevirtual 107, 3) := by decide +kernel
theorem dX9_without_5 : decode cX9_without 5 = .ok (.ifCond .eq 13, 3) := by decide +kernel
theorem dX9_without_18 : decode cX9_without 18 = .ok (.bipush (-2), 2) := by decide +kernel
theorem dX9_without_20 : decode cX9_without 20 = .ok (.ireturn, 1) := by decide +kernel
theorem dX9_worst_0 : decode cX9_worst 0 = .ok (.aload_n 0, 1) := by decide +kernel
theorem dX9_worst_1 : decode cX9_worst 1 = .ok (.invokevirtual 166, 3) := by decide +kernel
theorem dX9_worst_4 : decode cX9_worst 4 = .ok (.ifCond .ne 6, 3) := by decide +kernel
theorem dX9_worst_7 : decode cX9_worst 7 = .ok (.bipush (-2), 2) := by decide +kernel
theorem dX9_worst_9 : decode cX9_worst 9 = .ok (.ireturn, 1) := by decide +kernel
theorem dX9_write_0 : decode cX9_write 0 = .ok (.iload_n 1, 1) := by decide +kernel
theorem dX9_write_1 : decode cX9_write 1 = .ok (.invokestatic 253, 3) := by decide +kernel
theorem dX9_write_4 : decode cX9_write 4 = .ok (.ifCond .ne 6, 3) := by decide +kernel
theorem dX9_write_7 : decode cX9_write 7 = .ok (.bipush (-2), 2) := by decide +kernel
theorem dX9_write_9 : decode cX9_write 9 = .ok (.ireturn, 1) := by decide +kernel
theorem dX9_write_10 : decode cX9_write 10 = .ok (.aload_n 0, 1) := by decide +kernel
theorem dX9_write_11 : decode cX9_write 11 = .ok (.getfield 39, 3) := by decide +kernel
theorem dX9_write_14 : decode cX9_write 14 = .ok (.iload_n 1, 1) := by decide +kernel
theorem dX9_write_15 : decode cX9_write 15 = .ok (.aaload, 1) := by decide +kernel
theorem dX9_write_16 : decode cX9_write 16 = .ok (.astore 5, 2) := by decide +kernel
theorem dX9_write_18 : decode cX9_write 18 = .ok (.aload 5, 2) := by decide +kernel
theorem dX9_write_20 : decode cX9_write 20 = .ok (.invokevirtual 256, 3) := by decide +kernel
theorem dX9_write_23 : decode cX9_write 23 = .ok (.ifCond .ne 6, 3) := by decide +kernel
theorem dX9_write_26 : decode cX9_write 26 = .ok (.bipush (-6), 2) := by decide +kernel
theorem dX9_write_28 : decode cX9_write 28 = .ok (.ireturn, 1) := by decide +kernel
