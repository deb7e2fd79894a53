theorem dX9_mended_18 : decode cX9_mended 18 = .ok (.ireturn, 1) := by decide +kernel
theorem dX10_mended_0 : decode cX10_mended 0 = .ok (.aload_n 0, 1) := by decide +kernel
theorem dX10_mended_1 : decode cX10_mended 1 = .ok (.iconst 0, 1) := by decide +kernel
theorem dX10_mended_2 : decode cX10_mended 2 = .ok (.putfield 71, 3) := by decide +kernel
theorem dX10_mended_5 : decode cX10_mended 5 = .ok (.aload_n 0, 1) := by decide +kernel
theorem dX10_mended_6 : decode cX10_mended 6 = .ok (.iload_n 1, 1) := by decide +kernel
theorem dX10_mended_7 : decode cX10_mended 7 = .ok (.invokevirtual 334, 3) := by decide +kernel
theorem dX10_mended_10 : decode cX10_mended 10 = .ok (.ifCond .ne 6, 3) := by decide +kernel
theorem dX10_mended_13 : decode cX10_mended 13 = .ok (.bipush (-2), 2) := by decide +kernel
theorem dX10_mended_15 : decode cX10_mended 15 = .ok (.ireturn, 1) := by decide +kernel
theorem dX9_mended_9 : decode cX9_mended 9 = .ok (.aload_n 0, 1) := by decide +kernel
theorem dX9_mended_10 : decode cX9_mended 10 = .ok (.invokevirtual 166, 3) := by decide +kernel
theorem dX9_mended_13 : decode cX9_mended 13 = .ok (.ifCond .ne 6, 3) := by decide +kernel
theorem dX9_fewest_0 : decode cX9_fewest 0 = .ok (.iload_n 1, 1) := by decide +kernel
theorem dX9_fewest_1 : decode cX9_fewest 1 = .ok (.invokestatic 208, 3) := by decide +kernel
theorem dX9_fewest_4 : decode cX9_fewest 4 = .ok (.ifCond .eq 10, 3) := by decide +kernel
theorem dX9_fewest_14 : decode cX9_fewest 14 = .ok (.bipush (-2), 2) := by decide +kernel
theorem dX9_fewest_16 : decode cX9_fewest 16 = .ok (.ireturn, 1) := by decide +kernel
theorem dX10_fewest_0 : decode cX10_fewest 0 = .ok (.aload_n 0, 1) := by decide +kernel
theorem dX10_fewest_1 : decode cX10_fewest 1 = .ok (.iconst 0, 1) := by decide +kernel
theorem dX10_fewest_2 : decode cX10_fewest 2 = .ok (.putfield 71, 3) := by decide +kernel
theorem dX10_fewest_5 : decode cX10_fewest 5 = .ok (.aload_n 0, 1) := by decide +kernel
theorem dX10_fewest_6 : decode cX10_fewest 6 = .ok (.iload_n 1, 1) := by decide +kernel
theorem dX10_fewest_7 : decode cX10_fewest 7 = .ok (.invokevirtual 304, 3) := by decide +kernel
theorem dX10_fewest_10 : decode cX10_fewest 10 = .ok (.ifCond .ne 6, 3) := by decide +kernel
theorem dX10_fewest_13 : decode cX10_fewest 13 = .ok (.bipush (-2), 2) := by decide +kernel
theorem dX10_fewest_15 : decode cX10_fewest 15 = .ok (.ireturn, 1) := by decide +kernel
theorem dX9_fewest_7 : decode cX9_fewest 7 = .ok (.aload_n 0, 1) := by decide +kernel
theorem dX9_fewest_8 : decode cX9_fewest 8 = .ok (.invokevirtual 166, 3) := by decide +kernel
theorem dX9_fewest_11 : decode cX9_fewest 11 = .ok (.ifCond .ne 6, 3) := by decide +kernel
theorem dX9_round_0 : decode cX9_round 0 = .ok (.aload_n 0, 1) := by decide +kernel
theorem dX9_round_1 : decode cX9_round 1 = .ok (.iload_n 1, 1) := by decide +kernel
theorem dX9_round_2 : decode cX9_round 2 = .ok (.invokevirtual 127, 3) := by decide +kernel
theorem dX9_round_5 : decode cX9_round 5 = .ok (.ifCond .ne 6, 3) := by decide +kernel
theorem dX9_round_8 : decode cX9_round 8 = .ok (.bipush (-2), 2) := by decide +kernel
theorem dX9_round_10 : decode cX9_round 10 = .ok (.ireturn, 1) := by decide +kernel
theorem dX10_round_0 : decode cX10_round 0 = .ok (.aload_n 0, 1) := by decide +kernel
theorem dX10_round_1 : decode cX10_round 1 = .ok (.iconst 0, 1) := by decide +kernel
theorem dX10_round_2 : decode cX10_round 2 = .ok (.putfield 71, 3) := by decide +kernel
theorem dX10_round_5 : decode cX10_round 5 = .ok (.aload_n 0, 1) := by decide +kernel
theorem dX10_round_6 : decode cX10_round 6 = .ok (.iload_n 1, 1) := by decide +kernel
theorem dX10_round_7 : decode cX10_round 7 = .ok (.i2l, 1) := by decide +kernel
theorem dX10_round_8 : decode cX10_round 8 = .ok (.invokevirtual 272, 3) := by decide +kernel
theorem dX10_round_11 : decode cX10_round 11 = .ok (.ifCond .ne 6, 3) := by decide +kernel
theorem dX10_round_14 : decode cX10_round 14 = .ok (.bipush (-2), 2) := by decide +kernel
theorem dX10_round_16 : decode cX10_round 16 = .ok (.ireturn, 1) := by decide +kernel
theorem dX9_rounds_0 : decode cX9_rounds 0 = .ok (.aload_n 0, 1) := by decide +kernel
theorem dX9_rounds_1 : decode cX9_rounds 1 = .ok (.iload_n 1, 1) := by decide +kernel
theorem dX9_rounds_2 : decode cX9_rounds 2 = .ok (.invokevirtual 127, 3) := by decide +kernel
theorem dX9_rounds_5 : decode cX9_rounds 5 = .ok (.ifCond .ne 6, 3) := by decide +kernel
theorem dX9_rounds_8 : decode cX9_rounds 8 = .ok (.bipush (-2), 2) := by decide +kernel
theorem dX9_rounds_10 : decode cX9_rounds 10 = .ok (.ireturn, 1) := by decide +kernel
theorem dX10_rounds_0 : decode cX10_rounds 0 = .ok (.aload_n 0, 1) := by decide +kernel
theorem dX10_rounds_1 : decode cX10_rounds 1 = .ok (.iconst 0, 1) := by decide +kernel
theorem dX10_rounds_2 : decode cX10_rounds 2 = .ok (.putfield 71, 3) := by decide +kernel
theorem dX10_rounds_5 : decode cX10_rounds 5 = .ok (.aload_n 0, 1) := by decide +kernel
theorem dX10_rounds_6 : decode cX10_rounds 6 = .ok (.iload_n 1, 1) := by decide +kernel
theorem dX10_rounds_7 : decode cX10_rounds 7 = .ok (.i2l, 1) := by decide +kernel
theorem dX10_rounds_8 : decode cX10_rounds 8 = .ok (.invokevirtual 272, 3) := by decide +kernel
theorem dX10_rounds_11 : decode cX10_rounds 11 = .ok (.ifCond .ne 6, 3) := by decide +kernel
theorem dX10_rounds_14 : decode cX10_rounds 14 = .ok (.bipush (-2), 2) := by decide +kernel
theorem dX10_rounds_16 : decode cX10_rounds 16 = .ok (.ireturn, 1) := by decide +kernel
theorem dX9_goes_0 : decode cX9_goes 0 = .ok (.aload_n 0, 1) := by decide +kernel
theorem dX9_goes_1 : decode cX9_goes 1 = .ok (.iload_n 2, 1) := by decide +kernel
theorem dX9_goes_2 : decode cX9_goes 2 = .ok (.invokevirtual 127, 3) := by decide +kernel
theorem dX9_goes_5 : decode cX9_goes 5 = .ok (.ifCond .eq 10, 3) := by decide +kernel
theorem dX9_goes_15 : decode cX9_goes 15 = .ok (.bipush (-2), 2) := by decide +kernel
theorem dX9_goes_17 : decode cX9_goes 17 = .ok (.ireturn, 1) := by decide +kernel
theorem dX10_goes_0 : decode cX10_goes 0 = .ok (.aload_n 0, 1) := by decide +kernel
theorem dX10_goes_1 : decode cX10_goes 1 = .ok (.iconst 0, 1) := by decide +kernel
theorem dX10_goes_2 : decode cX10_goes 2 = .ok (.putfield 71, 3) := by decide +kernel
theorem dX10_goes_5 : decode cX10_goes 5 = .ok (.iload_n 1, 1) := by decide +kernel
theorem dX10_goes_6 : decode cX10_goes 6 = .ok (.invokestatic 80, 3) := by decide +kernel
theorem dX10_isSlot_0 : decode cX10_isSlot 0 = .ok (.iload_n 0, 1) := by decide +kernel
theorem dX10_isSlot_1 : decode cX10_isSlot 1 = .ok (.i2l, 1) := by decide +kernel
theorem dX10_isSlot_2 : decode cX10_isSlot 2 = .ok (.lconst 0, 1) := by decide +kernel
theorem dX10_isSlot_3 : decode cX10_isSlot 3 = .ok (.ldc2_w 74, 3) := by decide +kernel
theorem dX10_isSlot_6 : decode cX10_isSlot 6 = .ok (.invokestatic 76, 3) := by decide +kernel
theorem dX10_isSlot_9 : decode cX10_isSlot 9 = .ok (.ireturn, 1) := by decide +kernel
theorem dX10_goes_9 : decode cX10_goes 9 = .ok (.ifCond .eq 19, 3) := by decide +kernel
theorem dX10_goes_28 : decode cX10_goes 28 = .ok (.bipush (-2), 2) := by decide +kernel
theorem dX10_goes_30 : decode cX10_goes 30 = .ok (.ireturn, 1) := by decide +kernel
theorem dX10_goes_12 : decode cX10_goes 12 = .ok (.aload_n 0, 1) := by decide +kernel
theorem dX10_goes_13 : decode cX10_goes 13 = .ok (.invokevirtual 232, 3) := by decide +kernel
theorem dX10_goes_16 : decode cX10_goes 16 = .ok (.ifCond .eq 12, 3) := by decide +kernel
theorem dX9_lodge_0 : decode cX9_lodge 0 = .ok (.aload_n 0, 1) := by decide +kernel
theorem dX9_lodge_1 : decode cX9_lodge 1 = .ok (.iload_n 1, 1) := by decide +kernel
theorem dX9_lodge_2 : decode cX9_lodge 2 = .ok (.invokevirtual 127, 3) := by decide +kernel
theorem dX9_lodge_5 : decode cX9_lodge 5 = .ok (.ifCond .ne 6, 3) := by decide +kernel
theorem dX9_lodge_8 : decode cX9_lodge 8 = .ok (.bipush (-2), 2) := by decide +kernel
theorem dX9_lodge_10 : decode cX9_lodge 10 = .ok (.ireturn, 1) := by decide +kernel
theorem dX10_lodge_0 : decode cX10_lodge 0 = .ok (.aload_n 0, 1) := by decide +kernel
theorem dX10_lodge_1 : decode cX10_lodge 1 = .ok (.iconst 0, 1) := by decide +kernel
theorem dX10_lodge_2 : decode cX10_lodge 2 = .ok (.putfield 71, 3) := by decide +kernel
theorem dX10_lodge_5 : decode cX10_lodge 5 = .ok (.aload_n 0, 1) := by decide +kernel
theorem dX10_lodge_6 : decode cX10_lodge 6 = .ok (.iload_n 1, 1) := by decide +kernel
theorem dX10_lodge_7 : decode cX10_lodge 7 = .ok (.i2l, 1) := by decide +kernel
theorem dX10_lodge_8 : decode cX10_lodge 8 = .ok (.invokevirtual 272, 3) := by decide +kernel
theorem dX10_lodge_11 : decode cX10_lodge 11 = .ok (.ifCond .ne 6, 3) := by decide +kernel
theorem dX10_lodge_14 : decode cX10_lodge 14 = .ok (.bipush (-2), 2) := by decide +kernel
theorem dX10_lodge_16 : decode cX10_lodge 16 = .ok (.ireturn, 1) := by decide +kernel
theorem dX9_quorum_0 : decode cX9_quorum 0 = .ok (.aload_n 0, 1) := by decide +kernel
theorem dX9_quorum_1 : decode cX9_quorum 1 = .ok (.iload_n 1, 1) := by decide +kernel
theorem dX9_quorum_2 : decode cX9_quorum 2 = .ok (.invokevirtual 127, 3) := by decide +kernel
theorem dX9_quorum_5 : decode cX9_quorum 5 = .ok (.ifCond .eq 27, 3) := by decide +kernel
theorem dX9_quorum_32 : decode cX9_quorum 32 = .ok (.bipush (-2), 2) := by decide +kernel
theorem dX9_quorum_34 : decode cX9_quorum 34 = .ok (.ireturn, 1) := by decide +kernel
theorem dX10_quorum_0 : decode cX10_quorum 0 = .ok (.aload_n 0, 1) := by decide +kernel
theorem dX10_quorum_1 : decode cX10_quorum 1 = .ok (.iconst 0, 1) := by decide +kernel
theorem dX10_quorum_2 : decode cX10_quorum 2 = .ok (.putfield 71, 3) := by decide +kernel
theorem dX10_quorum_5 : decode cX10_quorum 5 = .ok (.aload_n 0, 1) := by decide +kernel
theorem dX10_quorum_6 : decode cX10_quorum 6 = .ok (.iload_n 1, 1) := by decide +kernel
theorem dX10_quorum_7 : decode cX10_quorum 7 = .ok (.i2l, 1) := by decide +kernel
theorem dX10_quorum_8 : decode cX10_quorum 8 = .ok (.invokevirtual 272, 3) := by decide +kernel
theorem dX10_quorum_11 : decode cX10_quorum 11 = .ok (.ifCond .eq 15, 3) := by decide +kernel
theorem dX10_quorum_26 : decode cX10_quorum 26 = .ok (.bipush (-2), 2) := by decide +kernel
theorem dX10_quorum_28 : decode cX10_quorum 28 = .ok (.ireturn, 1) := by decide +kernel
theorem dX9_law_0 : decode cX9_law 0 = .ok (.iload_n 1, 1) := by decide +kernel
theorem dX9_law_1 : decode cX9_law 1 = .ok (.invokestatic 208, 3) := by decide +kernel
theorem dX9_law_4 : decode cX9_law 4 = .ok (.ifCond .eq 10, 3) := by decide +kernel
theorem dX9_law_14 : decode cX9_law 14 = .ok (.bipush (-2), 2) := by decide +kernel
theorem dX9_law_16 : decode cX9_law 16 = .ok (.ireturn, 1) := by decide +kernel
theorem dX10_law_0 : decode cX10_law 0 = .ok (.aload_n 0, 1) := by decide +kernel
theorem dX10_law_1 : decode cX10_law 1 = .ok (.iconst 0, 1) := by decide +kernel
theorem dX10_law_2 : decode cX10_law 2 = .ok (.putfield 71, 3) := by decide +kernel
theorem dX10_law_5 : decode cX10_law 5 = .ok (.aload_n 0, 1) := by decide +kernel
theorem dX10_law_6 : decode cX10_law 6 = .ok (.iload_n 1, 1) := by decide +kernel
theorem dX10_law_7 : decode cX10_law 7 = .ok (.invokevirtual 304, 3) := by decide +kernel
theorem dX10_law_10 : decode cX10_law 10 = .ok (.ifCond .ne 6, 3) := by decide +kernel
theorem dX10_law_13 : decode cX10_law 13 = .ok (.bipush (-2), 2) := by decide +kernel
theorem dX10_law_15 : decode cX10_law 15 = .ok (.ireturn, 1) := by decide +kernel
theorem dX9_law_7 : decode cX9_law 7 = .ok (.aload_n 0, 1) := by decide +kernel
theorem dX9_law_8 : decode cX9_law 8 = .ok (.invokevirtual 166, 3) := by decide +kernel
theorem dX9_law_11 : decode cX9_law 11 = .ok (.ifCond .ne 6, 3) := by decide +kernel
theorem dX9_middle_0 : decode cX9_middle 0 = .ok (.aload_n 0, 1) := by decide +kernel
theorem dX9_middle_1 : decode cX9_middle 1 = .ok (.iload_n 1, 1) := by decide +kernel
theorem dX9_middle_2 : decode cX9_middle 2 = .ok (.invokevirtual 127, 3) := by decide +kernel
theorem dX9_middle_5 : decode cX9_middle 5 = .ok (.ifCond .ne 7, 3) := by decide +kernel
theorem dX9_middle_8 : decode cX9_middle 8 = .ok (.sipush (-1000), 3) := by decide +kernel
theorem dX9_middle_11 : decode cX9_middle 11 = .ok (.ireturn, 1) := by decide +kernel
theorem dX10_middle_0 : decode cX10_middle 0 = .ok (.aload_n 0, 1) := by decide +kernel
theorem dX10_middle_1 : decode cX10_middle 1 = .ok (.iconst 0, 1) := by decide +kernel
theorem dX10_middle_2 : decode cX10_middle 2 = .ok (.putfield 71, 3) := by decide +kernel
theorem dX10_middle_5 : decode cX10_middle 5 = .ok (.aload_n 0, 1) := by decide +kernel
theorem dX10_middle_6 : decode cX10_middle 6 = .ok (.iload_n 1, 1) := by decide +kernel
theorem dX10_middle_7 : decode cX10_middle 7 = .ok (.i2l, 1) := by decide +kernel
theorem dX10_middle_8 : decode cX10_middle 8 = .ok (.invokevirtual 272, 3) := by decide +kernel
theorem dX10_middle_11 : decode cX10_middle 11 = .ok (.ifCond .ne 7, 3) := by decide +kernel
theorem dX10_middle_14 : decode cX10_middle 14 = .ok (.sipush (-1000), 3) := by decide +kernel
theorem dX10_middle_17 : decode cX10_middle 17 = .ok (.ireturn, 1) := by decide +kernel
theorem dX9_rests_0 : decode cX9_rests 0 = .ok (.aload_n 0, 1) := by decide +kernel
theorem dX9_rests_1 : decode cX9_rests 1 = .ok (.iload_n 1, 1) := by decide +kernel
theorem dX9_rests_2 : decode cX9_rests 2 = .ok (.iload_n 2, 1) := by decide +kernel
theorem dX9_rests_3 : decode cX9_rests 3 = .ok (.iload_n 3, 1) := by decide +kernel
theorem dX9_rests_4 : decode cX9_rests 4 = .ok (.invokevirtual 270, 3) := by decide +kernel
theorem dX9_hasRace_0 : decode cX9_hasRace 0 = .ok (.aload_n 0, 1) := by decide +kernel
theorem dX9_hasRace_1 : decode cX9_hasRace 1 = .ok (.iload_n 1, 1) := by decide +kernel
theorem dX9_hasRace_2 : decode cX9_hasRace 2 = .ok (.invokevirtual 107, 3) := by decide +kernel
theorem dX9_hasRace_5 : decode cX9_hasRace 5 = .ok (.ifCond .eq 24, 3) := by decide +kernel
theorem dX9_hasRace_29 : decode cX9_hasRace 29 = .ok (.iconst 0, 1) := by decide +kernel
theorem dX9_hasRace_30 : decode cX9_hasRace 30 = .ok (.ireturn, 1) := by decide +kernel
theorem dX9_rests_7 : decode cX9_rests 7 = .ok (.ifCond .eq 13, 3) := by decide +kernel
theorem dX9_rests_20 : decode cX9_rests 20 = .ok (.bipush (-2), 2) := by decide +kernel
theorem dX9_rests_22 : decode cX9_rests 22 = .ok (.ireturn, 1) := by decide +kernel
theorem dX10_rests_0 : decode cX10_rests 0 = .ok (.aload_n 0, 1) := by decide +kernel
theorem dX10_rests_1 : decode cX10_rests 1 = .ok (.iconst 0, 1) := by decide +kernel
theorem dX10_rests_2 : decode cX10_rests 2 = .ok (.putfield 71, 3) := by decide +kernel
theorem dX10_rests_5 : decode cX10_rests 5 = .ok (.aload_n 0, 1) := by decide +kernel
theorem dX10_rests_6 : decode cX10_rests 6 = .ok (.iload_n 1, 1) := by decide +kernel
theorem dX10_rests_7 : decode cX10_rests 7 = .ok (.iload_n 2, 1) := by decide +kernel
theorem dX10_rests_8 : decode cX10_rests 8 = .ok (.iload_n 3, 1) := by decide +kernel
theorem dX10_rests_9 : decode cX10_rests 9 = .ok (.invokevirtual 379, 3) := by decide +kernel
theorem dX10_isRace_0 : decode cX10_isRace 0 = .ok (.aload_n 0, 1) := by decide +kernel
theorem dX10_isRace_1 : decode cX10_isRace 1 = .ok (.iload_n 1, 1) := by decide +kernel
theorem dX10_isRace_2 : decode cX10_isRace 2 = .ok (.i2l, 1) := by decide +kernel
theorem dX10_isRace_3 : decode cX10_isRace 3 = .ok (.invokevirtual 267, 3) := by decide +kernel
theorem dX10_isRace_6 : decode cX10_isRace 6 = .ok (.ifCond .eq 26, 3) := by decide +kernel
theorem dX10_isRace_32 : decode cX10_isRace 32 = .ok (.iconst 0, 1) := by decide +kernel
theorem dX10_isRace_33 : decode cX10_isRace 33 = .ok (.ireturn, 1) := by decide +kernel
theorem dX10_rests_12 : decode cX10_rests 12 = .ok (.ifCond .ne 6, 3) := by decide +kernel
theorem dX10_rests_15 : decode cX10_rests 15 = .ok (.bipush (-2), 2) := by decide +kernel
theorem dX10_rests_17 : decode cX10_rests 17 = .ok (.ireturn, 1) := by decide +kernel
theorem dX9_rest_0 : decode cX9_rest 0 = .ok (.aload_n 0, 1) := by decide +kernel
theorem dX9_rest_1 : decode cX9_rest 1 = .ok (.iload_n 1, 1) := by decide +kernel
theorem dX9_rest_2 : decode cX9_rest 2 = .ok (.iload_n 2, 1) := by decide +kernel
theorem dX9_rest_3 : decode cX9_rest 3 = .ok (.iload_n 3, 1) := by decide +kernel
theorem dX9_rest_4 : decode cX9_rest 4 = .ok (.invokevirtual 270, 3) := by decide +kernel
theorem dX9_rest_7 : decode cX9_rest 7 = .ok (.ifCond .eq 13, 3) := by decide +kernel
theorem dX9_rest_20 : decode cX9_rest 20 = .ok (.bipush (-2), 2) := by decide +kernel
theorem dX9_rest_22 : decode cX9_rest 22 = .ok (.ireturn, 1) := by decide +kernel
theorem dX10_rest_0 : decode cX10_rest 0 = .ok (.aload_n 0, 1) := by decide +kernel
theorem dX10_rest_1 : decode cX10_rest 1 = .ok (.iconst 0, 1) := by decide +kernel
theorem dX10_rest_2 : decode cX10_rest 2 = .ok (.putfield 71, 3) := by decide +kernel
theorem dX10_rest_5 : decode cX10_rest 5 = .ok (.aload_n 0, 1) := by decide +kernel
theorem dX10_rest_6 : decode cX10_rest 6 = .ok (.iload_n 1, 1) := by decide +kernel
theorem dX10_rest_7 : decode cX10_rest 7 = .ok (.iload_n 2, 1) := by decide +kernel
theorem dX10_rest_8 : decode cX10_rest 8 = .ok (.iload_n 3, 1) := by decide +kernel
theorem dX10_rest_9 : decode cX10_rest 9 = .ok (.invokevirtual 379, 3) := by decide +kernel
theorem dX10_rest_12 : decode cX10_rest 12 = .ok (.ifCond .ne 6, 3) := by decide +kernel
theorem dX10_rest_15 : decode cX10_rest 15 = .ok (.bipush (-2), 2) := by decide +kernel
theorem dX10_rest_17 : decode cX10_rest 17 = .ok (.ireturn, 1) := by decide +kernel
theorem dX9_race_0 : decode cX9_race 0 = .ok (.aload_n 0, 1) := by decide +kernel
theorem dX9_race_1 : decode cX9_race 1 = .ok (.iload_n 1, 1) := by decide +kernel
theorem dX9_race_2 : decode cX9_race 2 = .ok (.iload_n 2, 1) := by decide +kernel
theorem dX9_race_3 : decode cX9_race 3 = .ok (.iload_n 3, 1) := by decide +kernel
theorem dX9_race_4 : decode cX9_race 4 = .ok (.invokevirtual 270, 3) := by decide +kernel
theorem dX9_race_7 : decode cX9_race 7 = .ok (.ifCond .eq 13, 3) := by decide +kernel
theorem dX9_race_20 : decode cX9_race 20 = .ok (.bipush (-2), 2) := by decide +kernel
theorem dX9_race_22 : decode cX9_race 22 = .ok (.ireturn, 1) := by decide +kernel
theorem dX10_race_0 : decode cX10_race 0 = .ok (.aload_n 0, 1) := by decide +kernel
theorem dX10_race_1 : decode cX10_race 1 = .ok (.iconst 0, 1) := by decide +kernel
theorem dX10_race_2 : decode cX10_race 2 = .ok (.putfield 71, 3) := by decide +kernel
theorem dX10_race_5 : decode cX10_race 5 = .ok (.aload_n 0, 1) := by decide +kernel
theorem dX10_race_6 : decode cX10_race 6 = .ok (.iload_n 1, 1) := by decide +kernel
theorem dX10_race_7 : decode cX10_race 7 = .ok (.iload_n 2, 1) := by decide +kernel
theorem dX10_race_8 : decode cX10_race 8 = .ok (.iload_n 3, 1) := by decide +kernel
theorem dX10_race_9 : decode cX10_race 9 = .ok (.invokevirtual 379, 3) := by decide +kernel
theorem dX10_race_12 : decode cX10_race 12 = .ok (.ifCond .ne 6, 3) := by decide +kernel
theorem dX10_race_15 : decode cX10_race 15 = .ok (.bipush (-2), 2) := by decide +kernel
theorem dX10_race_17 : decode cX10_race 17 = .ok (.ireturn, 1) := by decide +kernel
theorem dX9_away_0 : decode cX9_away 0 = .ok (.aload_n 0, 1) := by decide +kernel
theorem dX9_away_1 : decode cX9_away 1 = .ok (.iload_n 1, 1) := by decide +kernel
theorem dX9_away_2 : decode cX9_away 2 = .ok (.invokevirtual 280, 3) := by decide +kernel
theorem dX9_seekAway_0 : decode cX9_seekAway 0 = .ok (.aload_n 0, 1) := by decide +kernel
theorem dX9_seekAway_1 : decode cX9_seekAway 1 = .ok (.iload_n 1, 1) := by decide +kernel
theorem dX9_seekAway_2 : decode cX9_seekAway 2 = .ok (.invokevirtual 390, 3) := by decide +kernel
theorem dX9_hear_0 : decode cX9_hear 0 = .ok (.iload_n 1, 1) := by decide +kernel
theorem dX9_hear_1 : decode cX9_hear 1 = .ok (.invokestatic 253, 3) := by decide +kernel
theorem dX9_isSlot_0 : decode cX9_isSlot 0 = .ok (.iload_n 0, 1) := by decide +kernel
theorem dX9_isSlot_1 : decode cX9_isSlot 1 = .ok (.iconst 0, 1) := by decide +kernel
theorem dX9_isSlot_2 : decode cX9_isSlot 2 = .ok (.iconst 3, 1) := by decide +kernel
theorem dX9_isSlot_3 : decode cX9_isSlot 3 = .ok (.invokestatic 148, 3) := by decide +kernel
theorem dX9_isSlot_6 : decode cX9_isSlot 6 = .ok (.ireturn, 1) := by decide +kernel
theorem dX9_hear_4 : decode cX9_hear 4 = .ok (.ifCond .eq 10, 3) := by decide +kernel
theorem dX9_hear_14 : decode cX9_hear 14 = .ok (.bipush (-2), 2) := by decide +kernel
theorem dX9_hear_16 : decode cX9_hear 16 = .ok (.ireturn, 1) := by decide +kernel
theorem dX9_seekAway_5 : decode cX9_seekAway 5 = .ok (.istore_n 2, 1) := by decide +kernel
theorem dX9_seekAway_6 : decode cX9_seekAway 6 = .ok (.iload_n 2, 1) := by decide +kernel
theorem dX9_seekAway_7 : decode cX9_seekAway 7 = .ok (.ifCond .ne 14, 3) := by decide +kernel
theorem dX9_seekAway_21 : decode cX9_seekAway 21 = .ok (.iload_n 2, 1) := by decide +kernel
theorem dX9_seekAway_22 : decode cX9_seekAway 22 = .ok (.ireturn, 1) := by decide +kernel
theorem dX9_away_5 : decode cX9_away 5 = .ok (.istore_n 2, 1) := by decide +kernel
theorem dX9_away_6 : decode cX9_away 6 = .ok (.iload_n 2, 1) := by decide +kernel
theorem dX9_away_7 : decode cX9_away 7 = .ok (.ifCond .ne 13, 3) := by decide +kernel
theorem dX9_away_20 : decode cX9_away 20 = .ok (.iload_n 2, 1) := by decide +kernel
theorem dX9_away_21 : decode cX9_away 21 = .ok (.ireturn, 1) := by decide +kernel
theorem dX10_away_0 : decode cX10_away 0 = .ok (.aload_n 0, 1) := by decide +kernel
theorem dX10_away_1 : decode cX10_away 1 = .ok (.iconst 0, 1) := by decide +kernel
theorem dX10_away_2 : decode cX10_away 2 = .ok (.putfield 71, 3) := by decide +kernel
theorem dX10_away_5 : decode cX10_away 5 = .ok (.aload_n 0, 1) := by decide +kernel
theorem dX10_away_6 : decode cX10_away 6 = .ok (.iload_n 1, 1) := by decide +kernel
theorem dX10_away_7 : decode cX10_away 7 = .ok (.invokevirtual 394, 3) := by decide +kernel
theorem dX10_whyNot_0 : decode cX10_whyNot 0 = .ok (.iload_n 1, 1) := by decide +kernel
theorem dX10_whyNot_1 : decode cX10_whyNot 1 = .ok (.invokestatic 80, 3) := by decide +kernel
theorem dX10_whyNot_4 : decode cX10_whyNot 4 = .ok (.ifCond .eq 10, 3) := by decide +kernel
theorem dX10_whyNot_14 : decode cX10_whyNot 14 = .ok (.bipush (-2), 2) := by decide +kernel
theorem dX10_whyNot_16 : decode cX10_whyNot 16 = .ok (.ireturn, 1) := by decide +kernel
theorem dX10_away_10 : decode cX10_away 10 = .ok (.istore_n 2, 1) := by decide +kernel
theorem dX10_away_11 : decode cX10_away 11 = .ok (.iload_n 2, 1) := by decide +kernel
theorem dX10_away_12 : decode cX10_away 12 = .ok (.ifCond .eq 5, 3) := by decide +kernel
theorem dX10_away_15 : decode cX10_away 15 = .ok (.iload_n 2, 1) := by decide +kernel
theorem dX10_away_16 : decode cX10_away 16 = .ok (.ireturn, 1) := by decide +kernel
theorem dX9_hear_7 : decode cX9_hear 7 = .ok (.aload_n 0, 1) := by decide +kernel
theorem dX9_hear_8 : decode cX9_hear 8 = .ok (.invokevirtual 166, 3) := by decide +kernel
theorem dX9_hear_11 : decode cX9_hear 11 = .ok (.ifCond .ne 6, 3) := by decide +kernel
theorem dX10_whyNot_7 : decode cX10_whyNot 7 = .ok (.aload_n 0, 1) := by decide +kernel
theorem dX10_whyNot_8 : decode cX10_whyNot 8 = .ok (.invokevirtual 232, 3) := by decide +kernel
theorem dX10_whyNot_11 : decode cX10_whyNot 11 = .ok (.ifCond .ne 6, 3) := by decide +kernel
theorem dX9_gone_0 : decode cX9_gone 0 = .ok (.aload_n 0, 1) := by decide +kernel
theorem dX9_gone_1 : decode cX9_gone 1 = .ok (.iload_n 1, 1) := by decide +kernel
theorem dX9_gone_2 : decode cX9_gone 2 = .ok (.invokevirtual 280, 3) := by decide +kernel
theorem dX9_gone_5 : decode cX9_gone 5 = .ok (.istore_n 2, 1) := by decide +kernel
theorem dX9_gone_6 : decode cX9_gone 6 = .ok (.iload_n 2, 1) := by decide +kernel
theorem dX9_gone_7 : decode cX9_gone 7 = .ok (.ifCond .ne 13, 3) := by decide +kernel
theorem dX9_gone_20 : decode cX9_gone 20 = .ok (.iload_n 2, 1) := by decide +kernel
theorem dX9_gone_21 : decode cX9_gone 21 = .ok (.ireturn, 1) := by decide +kernel
theorem dX10_gone_0 : decode cX10_gone 0 = .ok (.aload_n 0, 1) := by decide +kernel
theorem dX10_gone_1 : decode cX10_gone 1 = .ok (.iconst 0, 1) := by decide +kernel
theorem dX10_gone_2 : decode cX10_gone 2 = .ok (.putfield 71, 3) := by decide +kernel
theorem dX10_gone_5 : decode cX10_gone 5 = .ok (.aload_n 0, 1) := by decide +kernel
theorem dX10_gone_6 : decode cX10_gone 6 = .ok (.iload_n 1, 1) := by decide +kernel
theorem dX10_gone_7 : decode cX10_gone 7 = .ok (.invokevirtual 394, 3) := by decide +kernel
theorem dX10_gone_10 : decode cX10_gone 10 = .ok (.istore_n 2, 1) := by decide +kernel
theorem dX10_gone_11 : decode cX10_gone 11 = .ok (.iload_n 2, 1) := by decide +kernel
theorem dX10_gone_12 : decode cX10_gone 12 = .ok (.ifCond .eq 5, 3) := by decide +kernel
theorem dX10_gone_15 : decode cX10_gone 15 = .ok (.iload_n 2, 1) := by decide +kernel
theorem dX10_gone_16 : decode cX10_gone 16 = .ok (.ireturn, 1) := by decide +kernel
theorem dX9_surely_0 : decode cX9_surely 0 = .ok (.aload_n 0, 1) := by decide +kernel
theorem dX9_surely_1 : decode cX9_surely 1 = .ok (.iload_n 1, 1) := by decide +kernel
theorem dX9_surely_2 : decode cX9_surely 2 = .ok (.invokevirtual 280, 3) := by decide +kernel
theorem dX9_surely_5 : decode cX9_surely 5 = .ok (.istore_n 2, 1) := by decide +kernel
theorem dX9_surely_6 : decode cX9_surely 6 = .ok (.iload_n 2, 1) := by decide +kernel
theorem dX9_surely_7 : decode cX9_surely 7 = .ok (.ifCond .ne 13, 3) := by decide +kernel
theorem dX9_surely_20 : decode cX9_surely 20 = .ok (.iload_n 2, 1) := by decide +kernel
theorem dX9_surely_21 : decode cX9_surely 21 = .ok (.ireturn, 1) := by decide +kernel
theorem dX10_surely_0 : decode cX10_surely 0 = .ok (.aload_n 0, 1) := by decide +kernel
theorem dX10_surely_1 : decode cX10_surely 1 = .ok (.iconst 0, 1) := by decide +kernel
theorem dX10_surely_2 : decode cX10_surely 2 = .ok (.putfield 71, 3) := by decide +kernel
theorem dX10_surely_5 : decode cX10_surely 5 = .ok (.aload_n 0, 1) := by decide +kernel
theorem dX10_surely_6 : decode cX10_surely 6 = .ok (.iload_n 1, 1) := by decide +kernel
theorem dX10_surely_7 : decode cX10_surely 7 = .ok (.invokevirtual 394, 3) := by decide +kernel
theorem dX10_surely_10 : decode cX10_surely 10 = .ok (.istore_n 2, 1) := by decide +kernel
theorem dX10_surely_11 : decode cX10_surely 11 = .ok (.iload_n 2, 1) := by decide +kernel
theorem dX10_surely_12 : decode cX10_surely 12 = .ok (.ifCond .eq 5, 3) := by decide +kernel
theorem dX10_surely_15 : decode cX10_surely 15 = .ok (.iload_n 2, 1) := by decide +kernel
theorem dX10_surely_16 : decode cX10_surely 16 = .ok (.ireturn, 1) := by decide +kernel
theorem dX9_ask_0 : decode cX9_ask 0 = .ok (.aload_n 0, 1) := by decide +kernel
theorem dX9_ask_1 : decode cX9_ask 1 = .ok (.iload_n 1, 1) := by decide +kernel
theorem dX9_ask_2 : decode cX9_ask 2 = .ok (.invokevirtual 280, 3) := by decide +kernel
theorem dX9_ask_5 : decode cX9_ask 5 = .ok (.istore_n 2, 1) := by decide +kernel
theorem dX9_ask_6 : decode cX9_ask 6 = .ok (.iload_n 2, 1) := by decide +kernel
theorem dX9_ask_7 : decode cX9_ask 7 = .ok (.ifCond .ne 13, 3) := by decide +kernel
theorem dX9_ask_20 : decode cX9_ask 20 = .ok (.iload_n 2, 1) := by decide +kernel
theorem dX9_ask_21 : decode cX9_ask 21 = .ok (.ireturn, 1) := by decide +kernel
theorem dX10_ask_0 : decode cX10_ask 0 = .ok (.aload_n 0, 1) := by decide +kernel
theorem dX10_ask_1 : decode cX10_ask 1 = .ok (.iconst 0, 1) := by decide +kernel
theorem dX10_ask_2 : decode cX10_ask 2 = .ok (.putfield 71, 3) := by decide +kernel
theorem dX10_ask_5 : decode cX10_ask 5 = .ok (.aload_n 0, 1) := by decide +kernel
theorem dX10_ask_6 : decode cX10_ask 6 = .ok (.iload_n 1, 1) := by decide +kernel
theorem dX10_ask_7 : decode cX10_ask 7 = .ok (.invokevirtual 394, 3) := by decide +kernel
theorem dX10_ask_10 : decode cX10_ask 10 = .ok (.istore_n 2, 1) := by decide +kernel
theorem dX10_ask_11 : decode cX10_ask 11 = .ok (.iload_n 2, 1) := by decide +kernel
theorem dX10_ask_12 : decode cX10_ask 12 = .ok (.ifCond .eq 5, 3) := by decide +kernel
theorem dX10_ask_15 : decode cX10_ask 15 = .ok (.iload_n 2, 1) := by decide +kernel
theorem dX10_ask_16 : decode cX10_ask 16 = .ok (.ireturn, 1) := by decide +kernel
theorem dX9_under_0 : decode cX9_under 0 = .ok (.aload_n 0, 1) := by decide +kernel
theorem dX9_under_1 : decode cX9_under 1 = .ok (.iload_n 1, 1) := by decide +kernel
theorem dX9_under_2 : decode cX9_under 2 = .ok (.invokevirtual 296, 3) := by decide +kernel
theorem dX9_seekUnder_0 : decode cX9_seekUnder 0 = .ok (.aload_n 0, 1) := by decide +kernel
theorem dX9_seekUnder_1 : decode cX9_seekUnder 1 = .ok (.iload_n 1, 1) := by decide +kernel
theorem dX9_seekUnder_2 : decode cX9_seekUnder 2 = .ok (.invokevirtual 390, 3) := by decide +kernel
theorem dX9_seekUnder_5 : decode cX9_seekUnder 5 = .ok (.istore_n 2, 1) := by decide +kernel
theorem dX9_seekUnder_6 : decode cX9_seekUnder 6 = .ok (.iload_n 2, 1) := by decide +kernel
theorem dX9_seekUnder_7 : decode cX9_seekUnder 7 = .ok (.ifCond .ne 14, 3) := by decide +kernel
theorem dX9_seekUnder_21 : decode cX9_seekUnder 21 = .ok (.iload_n 2, 1) := by decide +kernel
theorem dX9_seekUnder_22 : decode cX9_seekUnder 22 = .ok (.ireturn, 1) := by decide +kernel
theorem dX9_under_5 : decode cX9_under 5 = .ok (.istore_n 2, 1) := by decide +kernel
theorem dX9_under_6 : decode cX9_under 6 = .ok (.iload_n 2, 1) := by decide +kernel
theorem dX9_under_7 : decode cX9_under 7 = .ok (.ifCond .ne 13, 3) := by decide +kernel
theorem dX9_under_20 : decode cX9_under 20 = .ok (.iload_n 2, 1) := by decide +kernel
theorem dX9_under_21 : decode cX9_under 21 = .ok (.ireturn, 1) := by decide +kernel
theorem dX10_under_0 : decode cX10_under 0 = .ok (.aload_n 0, 1) := by decide +kernel
theorem dX10_under_1 : decode cX10_under 1 = .ok (.iconst 0, 1) := by decide +kernel
theorem dX10_under_2 : decode cX10_under 2 = .ok (.putfield 71, 3) := by decide +kernel
theorem dX10_under_5 : decode cX10_under 5 = .ok (.aload_n 0, 1) := by decide +kernel
theorem dX10_under_6 : decode cX10_under 6 = .ok (.iload_n 1, 1) := by decide +kernel
theorem dX10_under_7 : decode cX10_under 7 = .ok (.invokevirtual 394, 3) := by decide +kernel
theorem dX10_under_10 : decode cX10_under 10 = .ok (.istore_n 2, 1) := by decide +kernel
theorem dX10_under_11 : decode cX10_under 11 = .ok (.iload_n 2, 1) := by decide +kernel
theorem dX10_under_12 : decode cX10_under 12 = .ok (.ifCond .eq 5, 3) := by decide +kernel
theorem dX10_under_15 : decode cX10_under 15 = .ok (.iload_n 2, 1) := by decide +kernel
theorem dX10_under_16 : decode cX10_under 16 = .ok (.ireturn, 1) := by decide +kernel
theorem dX9_floor_0 : decode cX9_floor 0 = .ok (.aload_n 0, 1) := by decide +kernel
theorem dX9_floor_1 : decode cX9_floor 1 = .ok (.iload_n 1, 1) := by decide +kernel
theorem dX9_floor_2 : decode cX9_floor 2 = .ok (.invokevirtual 296, 3) := by decide +kernel
theorem dX9_floor_5 : decode cX9_floor 5 = .ok (.istore_n 2, 1) := by decide +kernel
theorem dX9_floor_6 : decode cX9_floor 6 = .ok (.iload_n 2, 1) := by decide +kernel
theorem dX9_floor_7 : decode cX9_floor 7 = .ok (.ifCond .ne 13, 3) := by decide +kernel
theorem dX9_floor_20 : decode cX9_floor 20 = .ok (.iload_n 2, 1) := by decide +kernel
theorem dX9_floor_21 : decode cX9_floor 21 = .ok (.ireturn, 1) := by decide +kernel
theorem dX10_floor_0 : decode cX10_floor 0 = .ok (.aload_n 0, 1) := by decide +kernel
theorem dX10_floor_1 : decode cX10_floor 1 = .ok (.iconst 0, 1) := by decide +kernel
theorem dX10_floor_2 : decode cX10_floor 2 = .ok (.putfield 71, 3) := by decide +kernel
theorem dX10_floor_5 : decode cX10_floor 5 = .ok (.aload_n 0, 1) := by decide +kernel
theorem dX10_floor_6 : decode cX10_floor 6 = .ok (.iload_n 1, 1) := by decide +kernel
theorem dX10_floor_7 : decode cX10_floor 7 = .ok (.invokevirtual 394, 3) := by decide +kernel
theorem dX10_floor_10 : decode cX10_floor 10 = .ok (.istore_n 2, 1) := by decide +kernel
theorem dX10_floor_11 : decode cX10_floor 11 = .ok (.iload_n 2, 1) := by decide +kernel
theorem dX10_floor_12 : decode cX10_floor 12 = .ok (.ifCond .eq 5, 3) := by decide +kernel
theorem dX10_floor_15 : decode cX10_floor 15 = .ok (.iload_n 2, 1) := by decide +kernel
theorem dX10_floor_16 : decode cX10_floor 16 = .ok (.ireturn, 1) := by decide +kernel
theorem dX9_chance_0 : decode cX9_chance 0 = .ok (.aload_n 0, 1) := by decide +kernel
theorem dX9_chance_1 : decode cX9_chance 1 = .ok (.iload_n 1, 1) := by decide +kernel
theorem dX9_chance_2 : decode cX9_chance 2 = .ok (.invokevirtual 127, 3) := by decide +kernel
theorem dX9_chance_5 : decode cX9_chance 5 = .ok (.ifCond .eq 19, 3) := by decide +kernel
theorem dX9_chance_24 : decode cX9_chance 24 = .ok (.bipush (-2), 2) := by decide +kernel
theorem dX9_chance_26 : decode cX9_chance 26 = .ok (.ireturn, 1) := by decide +kernel
theorem dX10_chance_0 : decode cX10_chance 0 = .ok (.aload_n 0, 1) := by decide +kernel
theorem dX10_chance_1 : decode cX10_chance 1 = .ok (.iconst 0, 1) := by decide +kernel
theorem dX10_chance_2 : decode cX10_chance 2 = .ok (.putfield 71, 3) := by decide +kernel
theorem dX10_chance_5 : decode cX10_chance 5 = .ok (.aload_n 0, 1) := by decide +kernel
theorem dX10_chance_6 : decode cX10_chance 6 = .ok (.iload_n 1, 1) := by decide +kernel
theorem dX10_chance_7 : decode cX10_chance 7 = .ok (.i2l, 1) := by decide +kernel
theorem dX10_chance_8 : decode cX10_chance 8 = .ok (.invokevirtual 272, 3) := by decide +kernel
theorem dX10_chance_11 : decode cX10_chance 11 = .ok (.ifCond .eq 18, 3) := by decide +kernel
theorem dX10_chance_29 : decode cX10_chance 29 = .ok (.bipush (-2), 2) := by decide +kernel
theorem dX10_chance_31 : decode cX10_chance 31 = .ok (.ireturn, 1) := by decide +kernel
theorem dX9_sure_0 : decode cX9_sure 0 = .ok (.aload_n 0, 1) := by decide +kernel
theorem dX9_sure_1 : decode cX9_sure 1 = .ok (.iload_n 1, 1) := by decide +kernel
theorem dX9_sure_2 : decode cX9_sure 2 = .ok (.invokevirtual 127, 3) := by decide +kernel
theorem dX9_sure_5 : decode cX9_sure 5 = .ok (.ifCond .eq 13, 3) := by decide +kernel
theorem dX9_sure_18 : decode cX9_sure 18 = .ok (.bipush (-2), 2) := by decide +kernel
theorem dX9_sure_20 : decode cX9_sure 20 = .ok (.ireturn, 1) := by decide +kernel
theorem dX10_sure_0 : decode cX10_sure 0 = .ok (.aload_n 0, 1) := by decide +kernel
theorem dX10_sure_1 : decode cX10_sure 1 = .ok (.iconst 0, 1) := by decide +kernel
theorem dX10_sure_2 : decode cX10_sure 2 = .ok (.putfield 71, 3) := by decide +kernel
theorem dX10_sure_5 : decode cX10_sure 5 = .ok (.aload_n 0, 1) := by decide +kernel
theorem dX10_sure_6 : decode cX10_sure 6 = .ok (.iload_n 1, 1) := by decide +kernel
theorem dX10_sure_7 : decode cX10_sure 7 = .ok (.i2l, 1) := by decide +kernel
theorem dX10_sure_8 : decode cX10_sure 8 = .ok (.invokevirtual 272, 3) := by decide +kernel
theorem dX10_sure_11 : decode cX10_sure 11 = .ok (.ifCond .eq 15, 3) := by decide +kernel
theorem dX10_sure_26 : decode cX10_sure 26 = .ok (.bipush (-2), 2) := by decide +kernel
theorem dX10_sure_28 : decode cX10_sure 28 = .ok (.ireturn, 1) := by decide +kernel
theorem dX9_likely_0 : decode cX9_likely 0 = .ok (.aload_n 0, 1) := by decide +kernel
theorem dX9_likely_1 : decode cX9_likely 1 = .ok (.iload_n 1, 1) := by decide +kernel
theorem dX9_likely_2 : decode cX9_likely 2 = .ok (.invokevirtual 127, 3) := by decide +kernel
theorem dX9_likely_5 : decode cX9_likely 5 = .ok (.ifCond .eq 11, 3) := by decide +kernel
theorem dX9_likely_16 : decode cX9_likely 16 = .ok (.bipush (-2), 2) := by decide +kernel
theorem dX9_likely_18 : decode cX9_likely 18 = .ok (.ireturn, 1) := by decide +kernel
theorem dX10_likely_0 : decode cX10_likely 0 = .ok (.aload_n 0, 1) := by decide +kernel
theorem dX10_likely_1 : decode cX10_likely 1 = .ok (.iconst 0, 1) := by decide +kernel
theorem dX10_likely_2 : decode cX10_likely 2 = .ok (.putfield 71, 3) := by decide +kernel
theorem dX10_likely_5 : decode cX10_likely 5 = .ok (.aload_n 0, 1) := by decide +kernel
theorem dX10_likely_6 : decode cX10_likely 6 = .ok (.iload_n 1, 1) := by decide +kernel
theorem dX10_likely_7 : decode cX10_likely 7 = .ok (.i2l, 1) := by decide +kernel
theorem dX10_likely_8 : decode cX10_likely 8 = .ok (.invokevirtual 272, 3) := by decide +kernel
theorem dX10_likely_11 : decode cX10_likely 11 = .ok (.ifCond .ne 6, 3) := by decide +kernel
theorem dX10_likely_14 : decode cX10_likely 14 = .ok (.bipush (-2), 2) := by decide +kernel
theorem dX10_likely_16 : decode cX10_likely 16 = .ok (.ireturn, 1) := by decide +kernel
theorem dX9_mend_0 : decode cX9_mend 0 = .ok (.aload_n 0, 1) := by decide +kernel
theorem dX9_mend_1 : decode cX9_mend 1 = .ok (.iconst 0, 1) := by decide +kernel
theorem dX9_mend_2 : decode cX9_mend 2 = .ok (.iload_n 1, 1) := by decide +kernel
theorem dX9_mend_3 : decode cX9_mend 3 = .ok (.iload_n 2, 1) := by decide +kernel
theorem dX9_mend_4 : decode cX9_mend 4 = .ok (.invokevirtual 318, 3) := by decide +kernel
theorem dX9_actOnLate_0 : decode cX9_actOnLate 0 = .ok (.aload_n 0, 1) := by decide +kernel
theorem dX9_actOnLate_1 : decode cX9_actOnLate 1 = .ok (.iload_n 2, 1) := by decide +kernel
theorem dX9_actOnLate_2 : decode cX9_actOnLate 2 = .ok (.invokevirtual 107, 3) := by decide +kernel
theorem dX9_actOnLate_5 : decode cX9_actOnLate 5 = .ok (.ifCond .eq 11, 3) := by decide +kernel
theorem dX9_actOnLate_16 : decode cX9_actOnLate 16 = .ok (.sipush (-1000), 3) := by decide +kernel
theorem dX9_actOnLate_19 : decode cX9_actOnLate 19 = .ok (.ireturn, 1) := by decide +kernel
theorem dX9_mend_7 : decode cX9_mend 7 = .ok (.ireturn, 1) := by decide +kernel
theorem dX10_mend_0 : decode cX10_mend 0 = .ok (.aload_n 0, 1) := by decide +kernel
theorem dX10_mend_1 : decode cX10_mend 1 = .ok (.iconst 0, 1) := by decide +kernel
theorem dX10_mend_2 : decode cX10_mend 2 = .ok (.putfield 71, 3) := by decide +kernel
theorem dX10_mend_5 : decode cX10_mend 5 = .ok (.aload_n 0, 1) := by decide +kernel
theorem dX10_mend_6 : decode cX10_mend 6 = .ok (.iload_n 1, 1) := by decide +kernel
theorem dX10_mend_7 : decode cX10_mend 7 = .ok (.i2l, 1) := by decide +kernel
theorem dX10_mend_8 : decode cX10_mend 8 = .ok (.invokevirtual 267, 3) := by decide +kernel
theorem dX10_mend_11 : decode cX10_mend 11 = .ok (.ifCond .eq 22, 3) := by decide +kernel
theorem dX10_mend_33 : decode cX10_mend 33 = .ok (.sipush (-1000), 3) := by decide +kernel
theorem dX10_mend_36 : decode cX10_mend 36 = .ok (.ireturn, 1) := by decide +kernel
theorem dX9_oil_0 : decode cX9_oil 0 = .ok (.aload_n 0, 1) := by decide +kernel
theorem dX9_oil_1 : decode cX9_oil 1 = .ok (.iconst 1, 1) := by decide +kernel
theorem dX9_oil_2 : decode cX9_oil 2 = .ok (.iload_n 1, 1) := by decide +kernel
theorem dX9_oil_3 : decode cX9_oil 3 = .ok (.iload_n 2, 1) := by decide +kernel
theorem dX9_oil_4 : decode cX9_oil 4 = .ok (.invokevirtual 318, 3) := by decide +kernel
theorem dX9_oil_7 : decode cX9_oil 7 = .ok (.ireturn, 1) := by decide +kernel
theorem dX10_oil_0 : decode cX10_oil 0 = .ok (.aload_n 0, 1) := by decide +kernel
theorem dX10_oil_1 : decode cX10_oil 1 = .ok (.iconst 0, 1) := by decide +kernel
theorem dX10_oil_2 : decode cX10_oil 2 = .ok (.putfield 71, 3) := by decide +kernel
theorem dX10_oil_5 : decode cX10_oil 5 = .ok (.aload_n 0, 1) := by decide +kernel
theorem dX10_oil_6 : decode cX10_oil 6 = .ok (.iload_n 1, 1) := by decide +kernel
theorem dX10_oil_7 : decode cX10_oil 7 = .ok (.i2l, 1) := by decide +kernel
theorem dX10_oil_8 : decode cX10_oil 8 = .ok (.invokevirtual 267, 3) := by decide +kernel
theorem dX10_oil_11 : decode cX10_oil 11 = .ok (.ifCond .eq 22, 3) := by decide +kernel
theorem dX10_oil_33 : decode cX10_oil 33 = .ok (.sipush (-1000), 3) := by decide +kernel
theorem dX10_oil_36 : decode cX10_oil 36 = .ok (.ireturn, 1) := by decide +kernel
theorem dX9_stop_0 : decode cX9_stop 0 = .ok (.aload_n 0, 1) := by decide +kernel
theorem dX9_stop_1 : decode cX9_stop 1 = .ok (.iconst 2, 1) := by decide +kernel
theorem dX9_stop_2 : decode cX9_stop 2 = .ok (.iload_n 1, 1) := by decide +kernel
theorem dX9_stop_3 : decode cX9_stop 3 = .ok (.iload_n 2, 1) := by decide +kernel
theorem dX9_stop_4 : decode cX9_stop 4 = .ok (.invokevirtual 318, 3) := by decide +kernel
theorem dX9_stop_7 : decode cX9_stop 7 = .ok (.ireturn, 1) := by decide +kernel
theorem dX10_stop_0 : decode cX10_stop 0 = .ok (.aload_n 0, 1) := by decide +kernel
theorem dX10_stop_1 : decode cX10_stop 1 = .ok (.iconst 0, 1) := by decide +kernel
theorem dX10_stop_2 : decode cX10_stop 2 = .ok (.putfield 71, 3) := by decide +kernel
theorem dX10_stop_5 : decode cX10_stop 5 = .ok (.aload_n 0, 1) := by decide +kernel
theorem dX10_stop_6 : decode cX10_stop 6 = .ok (.iload_n 1, 1) := by decide +kernel
theorem dX10_stop_7 : decode cX10_stop 7 = .ok (.i2l, 1) := by decide +kernel
theorem dX10_stop_8 : decode cX10_stop 8 = .ok (.invokevirtual 267, 3) := by decide +kernel
theorem dX10_stop_11 : decode cX10_stop 11 = .ok (.ifCond .eq 22, 3) := by decide +kernel
theorem dX10_stop_33 : decode cX10_stop 33 = .ok (.sipush (-1000), 3) := by decide +kernel
theorem dX10_stop_36 : decode cX10_stop 36 = .ok (.ireturn, 1) := by decide +kernel
theorem dX9_enter_0 : decode cX9_enter 0 = .ok (.aload_n 0, 1) := by decide +kernel
theorem dX9_enter_1 : decode cX9_enter 1 = .ok (.iload_n 1, 1) := by decide +kernel
theorem dX9_enter_2 : decode cX9_enter 2 = .ok (.invokevirtual 107, 3) := by decide +kernel
theorem dX9_enter_5 : decode cX9_enter 5 = .ok (.ifCond .eq 20, 3) := by decide +kernel
theorem dX9_enter_25 : decode cX9_enter 25 = .ok (.bipush (-2), 2) := by decide +kernel
theorem dX9_enter_27 : decode cX9_enter 27 = .ok (.ireturn, 1) := by decide +kernel
theorem dX10_enter_0 : decode cX10_enter 0 = .ok (.aload_n 0, 1) := by decide +kernel
theorem dX10_enter_1 : decode cX10_enter 1 = .ok (.iconst 0, 1) := by decide +kernel
theorem dX10_enter_2 : decode cX10_enter 2 = .ok (.putfield 71, 3) := by decide +kernel
theorem dX10_enter_5 : decode cX10_enter 5 = .ok (.aload_n 0, 1) := by decide +kernel
theorem dX10_enter_6 : decode cX10_enter 6 = .ok (.iload_n 1, 1) := by decide +kernel
theorem dX10_enter_7 : decode cX10_enter 7 = .ok (.i2l, 1) := by decide +kernel
theorem dX10_enter_8 : decode cX10_enter 8 = .ok (.invokevirtual 267, 3) := by decide +kernel
theorem dX10_enter_11 : decode cX10_enter 11 = .ok (.ifCond .eq 38, 3) := by decide +kernel
theorem dX10_enter_49 : decode cX10_enter 49 = .ok (.bipush (-2), 2) := by decide +kernel
theorem dX10_enter_51 : decode cX10_enter 51 = .ok (.ireturn, 1) := by decide +kernel
theorem dX9_undo_0 : decode cX9_undo 0 = .ok (.aload_n 0, 1) := by decide +kernel
theorem dX9_undo_1 : decode cX9_undo 1 = .ok (.invokevirtual 166, 3) := by decide +kernel
theorem dX9_undo_4 : decode cX9_undo 4 = .ok (.ifCond .ne 6, 3) := by decide +kernel
theorem dX9_undo_7 : decode cX9_undo 7 = .ok (.bipush (-2), 2) := by decide +kernel
theorem dX9_undo_9 : decode cX9_undo 9 = .ok (.ireturn, 1) := by decide +kernel
theorem dX10_undo_0 : decode cX10_undo 0 = .ok (.aload_n 0, 1) := by decide +kernel
theorem dX10_undo_1 : decode cX10_undo 1 = .ok (.iconst 0, 1) := by decide +kernel
theorem dX10_undo_2 : decode cX10_undo 2 = .ok (.putfield 71, 3) := by decide +kernel
theorem dX10_undo_5 : decode cX10_undo 5 = .ok (.aload_n 0, 1) := by decide +kernel
theorem dX10_undo_6 : decode cX10_undo 6 = .ok (.invokevirtual 232, 3) := by decide +kernel
theorem dX10_undo_9 : decode cX10_undo 9 = .ok (.ifCond .ne 6, 3) := by decide +kernel
