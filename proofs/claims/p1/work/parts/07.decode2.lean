theorem dX10_days_5 : decode cX10_days 5 = .ok (.iaload, 1) := by decide +kernel
theorem dX10_days_6 : decode cX10_days 6 = .ok (.ireturn, 1) := by decide +kernel
theorem dX10_isDay_6 : decode cX10_isDay 6 = .ok (.i2l, 1) := by decide +kernel
theorem dX10_isDay_7 : decode cX10_isDay 7 = .ok (.lconst 1, 1) := by decide +kernel
theorem dX10_isDay_8 : decode cX10_isDay 8 = .ok (.lsub, 1) := by decide +kernel
theorem dX10_isDay_9 : decode cX10_isDay 9 = .ok (.invokestatic 76, 3) := by decide +kernel
theorem dX10_isDay_12 : decode cX10_isDay 12 = .ok (.ireturn, 1) := by decide +kernel
theorem dX10_noon_11 : decode cX10_noon 11 = .ok (.ifCond .ne 7, 3) := by decide +kernel
theorem dX10_noon_14 : decode cX10_noon 14 = .ok (.sipush (-1000), 3) := by decide +kernel
theorem dX10_noon_17 : decode cX10_noon 17 = .ok (.ireturn, 1) := by decide +kernel
theorem dX9_counts_0 : decode cX9_counts 0 = .ok (.aload_n 0, 1) := by decide +kernel
theorem dX9_counts_1 : decode cX9_counts 1 = .ok (.iload_n 1, 1) := by decide +kernel
theorem dX9_counts_2 : decode cX9_counts 2 = .ok (.invokevirtual 127, 3) := by decide +kernel
theorem dX9_counts_5 : decode cX9_counts 5 = .ok (.ifCond .eq 15, 3) := by decide +kernel
theorem dX9_counts_20 : decode cX9_counts 20 = .ok (.bipush (-2), 2) := by decide +kernel
theorem dX9_counts_22 : decode cX9_counts 22 = .ok (.ireturn, 1) := by decide +kernel
theorem dX10_counts_0 : decode cX10_counts 0 = .ok (.aload_n 0, 1) := by decide +kernel
theorem dX10_counts_1 : decode cX10_counts 1 = .ok (.iconst 0, 1) := by decide +kernel
theorem dX10_counts_2 : decode cX10_counts 2 = .ok (.putfield 71, 3) := by decide +kernel
theorem dX10_counts_5 : decode cX10_counts 5 = .ok (.aload_n 0, 1) := by decide +kernel
theorem dX10_counts_6 : decode cX10_counts 6 = .ok (.iload_n 1, 1) := by decide +kernel
theorem dX10_counts_7 : decode cX10_counts 7 = .ok (.i2l, 1) := by decide +kernel
theorem dX10_counts_8 : decode cX10_counts 8 = .ok (.invokevirtual 272, 3) := by decide +kernel
theorem dX10_counts_11 : decode cX10_counts 11 = .ok (.ifCond .ne 6, 3) := by decide +kernel
theorem dX10_counts_14 : decode cX10_counts 14 = .ok (.bipush (-2), 2) := by decide +kernel
theorem dX10_counts_16 : decode cX10_counts 16 = .ok (.ireturn, 1) := by decide +kernel
theorem dX9_slowest_0 : decode cX9_slowest 0 = .ok (.aload_n 0, 1) := by decide +kernel
theorem dX9_slowest_1 : decode cX9_slowest 1 = .ok (.iload_n 1, 1) := by decide +kernel
theorem dX9_slowest_2 : decode cX9_slowest 2 = .ok (.invokevirtual 127, 3) := by decide +kernel
theorem dX9_slowest_5 : decode cX9_slowest 5 = .ok (.ifCond .eq 11, 3) := by decide +kernel
theorem dX9_slowest_16 : decode cX9_slowest 16 = .ok (.bipush (-2), 2) := by decide +kernel
theorem dX9_slowest_18 : decode cX9_slowest 18 = .ok (.ireturn, 1) := by decide +kernel
theorem dX10_slowest_0 : decode cX10_slowest 0 = .ok (.aload_n 0, 1) := by decide +kernel
theorem dX10_slowest_1 : decode cX10_slowest 1 = .ok (.iconst 0, 1) := by decide +kernel
theorem dX10_slowest_2 : decode cX10_slowest 2 = .ok (.putfield 71, 3) := by decide +kernel
theorem dX10_slowest_5 : decode cX10_slowest 5 = .ok (.aload_n 0, 1) := by decide +kernel
theorem dX10_slowest_6 : decode cX10_slowest 6 = .ok (.iload_n 1, 1) := by decide +kernel
theorem dX10_slowest_7 : decode cX10_slowest 7 = .ok (.i2l, 1) := by decide +kernel
theorem dX10_slowest_8 : decode cX10_slowest 8 = .ok (.invokevirtual 272, 3) := by decide +kernel
theorem dX10_slowest_11 : decode cX10_slowest 11 = .ok (.ifCond .ne 6, 3) := by decide +kernel
theorem dX10_slowest_14 : decode cX10_slowest 14 = .ok (.bipush (-2), 2) := by decide +kernel
theorem dX10_slowest_16 : decode cX10_slowest 16 = .ok (.ireturn, 1) := by decide +kernel
theorem dX9_order_0 : decode cX9_order 0 = .ok (.aload_n 0, 1) := by decide +kernel
theorem dX9_order_1 : decode cX9_order 1 = .ok (.iload_n 1, 1) := by decide +kernel
theorem dX9_order_2 : decode cX9_order 2 = .ok (.invokevirtual 127, 3) := by decide +kernel
theorem dX9_order_5 : decode cX9_order 5 = .ok (.ifCond .eq 15, 3) := by decide +kernel
theorem dX9_order_20 : decode cX9_order 20 = .ok (.bipush (-2), 2) := by decide +kernel
theorem dX9_order_22 : decode cX9_order 22 = .ok (.ireturn, 1) := by decide +kernel
theorem dX10_order_0 : decode cX10_order 0 = .ok (.aload_n 0, 1) := by decide +kernel
theorem dX10_order_1 : decode cX10_order 1 = .ok (.iconst 0, 1) := by decide +kernel
theorem dX10_order_2 : decode cX10_order 2 = .ok (.putfield 71, 3) := by decide +kernel
theorem dX10_order_5 : decode cX10_order 5 = .ok (.aload_n 0, 1) := by decide +kernel
theorem dX10_order_6 : decode cX10_order 6 = .ok (.iload_n 1, 1) := by decide +kernel
theorem dX10_order_7 : decode cX10_order 7 = .ok (.i2l, 1) := by decide +kernel
theorem dX10_order_8 : decode cX10_order 8 = .ok (.invokevirtual 272, 3) := by decide +kernel
theorem dX10_order_11 : decode cX10_order 11 = .ok (.ifCond .ne 6, 3) := by decide +kernel
theorem dX10_order_14 : decode cX10_order 14 = .ok (.bipush (-2), 2) := by decide +kernel
theorem dX10_order_16 : decode cX10_order 16 = .ok (.ireturn, 1) := by decide +kernel
theorem dX9_struck_0 : decode cX9_struck 0 = .ok (.aload_n 0, 1) := by decide +kernel
theorem dX9_struck_1 : decode cX9_struck 1 = .ok (.iload_n 1, 1) := by decide +kernel
theorem dX9_struck_2 : decode cX9_struck 2 = .ok (.invokevirtual 127, 3) := by decide +kernel
theorem dX9_struck_5 : decode cX9_struck 5 = .ok (.ifCond .eq 16, 3) := by decide +kernel
theorem dX9_struck_21 : decode cX9_struck 21 = .ok (.bipush (-2), 2) := by decide +kernel
theorem dX9_struck_23 : decode cX9_struck 23 = .ok (.ireturn, 1) := by decide +kernel
theorem dX10_struck_0 : decode cX10_struck 0 = .ok (.aload_n 0, 1) := by decide +kernel
theorem dX10_struck_1 : decode cX10_struck 1 = .ok (.iconst 0, 1) := by decide +kernel
theorem dX10_struck_2 : decode cX10_struck 2 = .ok (.putfield 71, 3) := by decide +kernel
theorem dX10_struck_5 : decode cX10_struck 5 = .ok (.aload_n 0, 1) := by decide +kernel
theorem dX10_struck_6 : decode cX10_struck 6 = .ok (.iload_n 1, 1) := by decide +kernel
theorem dX10_struck_7 : decode cX10_struck 7 = .ok (.i2l, 1) := by decide +kernel
theorem dX10_struck_8 : decode cX10_struck 8 = .ok (.invokevirtual 272, 3) := by decide +kernel
theorem dX10_struck_11 : decode cX10_struck 11 = .ok (.ifCond .eq 17, 3) := by decide +kernel
theorem dX10_struck_28 : decode cX10_struck 28 = .ok (.bipush (-2), 2) := by decide +kernel
theorem dX10_struck_30 : decode cX10_struck 30 = .ok (.ireturn, 1) := by decide +kernel
theorem dX9_gap_0 : decode cX9_gap 0 = .ok (.aload_n 0, 1) := by decide +kernel
theorem dX9_gap_1 : decode cX9_gap 1 = .ok (.iload_n 1, 1) := by decide +kernel
theorem dX9_gap_2 : decode cX9_gap 2 = .ok (.invokevirtual 127, 3) := by decide +kernel
theorem dX9_gap_5 : decode cX9_gap 5 = .ok (.ifCond .ne 6, 3) := by decide +kernel
theorem dX9_gap_8 : decode cX9_gap 8 = .ok (.bipush (-2), 2) := by decide +kernel
theorem dX9_gap_10 : decode cX9_gap 10 = .ok (.ireturn, 1) := by decide +kernel
theorem dX10_gap_0 : decode cX10_gap 0 = .ok (.aload_n 0, 1) := by decide +kernel
theorem dX10_gap_1 : decode cX10_gap 1 = .ok (.iconst 0, 1) := by decide +kernel
theorem dX10_gap_2 : decode cX10_gap 2 = .ok (.putfield 71, 3) := by decide +kernel
theorem dX10_gap_5 : decode cX10_gap 5 = .ok (.aload_n 0, 1) := by decide +kernel
theorem dX10_gap_6 : decode cX10_gap 6 = .ok (.iload_n 1, 1) := by decide +kernel
theorem dX10_gap_7 : decode cX10_gap 7 = .ok (.i2l, 1) := by decide +kernel
theorem dX10_gap_8 : decode cX10_gap 8 = .ok (.invokevirtual 272, 3) := by decide +kernel
theorem dX10_gap_11 : decode cX10_gap 11 = .ok (.ifCond .ne 6, 3) := by decide +kernel
theorem dX10_gap_14 : decode cX10_gap 14 = .ok (.bipush (-2), 2) := by decide +kernel
theorem dX10_gap_16 : decode cX10_gap 16 = .ok (.ireturn, 1) := by decide +kernel
theorem dX9_costs_0 : decode cX9_costs 0 = .ok (.aload_n 0, 1) := by decide +kernel
theorem dX9_costs_1 : decode cX9_costs 1 = .ok (.iload_n 1, 1) := by decide +kernel
theorem dX9_costs_2 : decode cX9_costs 2 = .ok (.invokevirtual 127, 3) := by decide +kernel
theorem dX9_costs_5 : decode cX9_costs 5 = .ok (.ifCond .eq 20, 3) := by decide +kernel
theorem dX9_costs_25 : decode cX9_costs 25 = .ok (.bipush (-2), 2) := by decide +kernel
theorem dX9_costs_27 : decode cX9_costs 27 = .ok (.ireturn, 1) := by decide +kernel
theorem dX10_costs_0 : decode cX10_costs 0 = .ok (.aload_n 0, 1) := by decide +kernel
theorem dX10_costs_1 : decode cX10_costs 1 = .ok (.iconst 0, 1) := by decide +kernel
theorem dX10_costs_2 : decode cX10_costs 2 = .ok (.putfield 71, 3) := by decide +kernel
theorem dX10_costs_5 : decode cX10_costs 5 = .ok (.aload_n 0, 1) := by decide +kernel
theorem dX10_costs_6 : decode cX10_costs 6 = .ok (.iload_n 1, 1) := by decide +kernel
theorem dX10_costs_7 : decode cX10_costs 7 = .ok (.i2l, 1) := by decide +kernel
theorem dX10_costs_8 : decode cX10_costs 8 = .ok (.invokevirtual 272, 3) := by decide +kernel
theorem dX10_costs_11 : decode cX10_costs 11 = .ok (.ifCond .ne 6, 3) := by decide +kernel
theorem dX10_costs_14 : decode cX10_costs 14 = .ok (.bipush (-2), 2) := by decide +kernel
theorem dX10_costs_16 : decode cX10_costs 16 = .ok (.ireturn, 1) := by decide +kernel
theorem dX9_waits_0 : decode cX9_waits 0 = .ok (.aload_n 0, 1) := by decide +kernel
theorem dX9_waits_1 : decode cX9_waits 1 = .ok (.invokevirtual 166, 3) := by decide +kernel
theorem dX9_hasTown_0 : decode cX9_hasTown 0 = .ok (.aload_n 0, 1) := by decide +kernel
theorem dX9_hasTown_1 : decode cX9_hasTown 1 = .ok (.getfield 19, 3) := by decide +kernel
theorem dX9_hasTown_4 : decode cX9_hasTown 4 = .ok (.getfield 98, 3) := by decide +kernel
theorem dX9_hasTown_7 : decode cX9_hasTown 7 = .ok (.ifCond .le 7, 3) := by decide +kernel
theorem dX9_hasTown_14 : decode cX9_hasTown 14 = .ok (.iconst 0, 1) := by decide +kernel
theorem dX9_hasTown_15 : decode cX9_hasTown 15 = .ok (.ireturn, 1) := by decide +kernel
theorem dX9_waits_4 : decode cX9_waits 4 = .ok (.ifCond .eq 11, 3) := by decide +kernel
theorem dX9_waits_15 : decode cX9_waits 15 = .ok (.bipush (-2), 2) := by decide +kernel
theorem dX9_waits_17 : decode cX9_waits 17 = .ok (.ireturn, 1) := by decide +kernel
theorem dX10_waits_0 : decode cX10_waits 0 = .ok (.aload_n 0, 1) := by decide +kernel
theorem dX10_waits_1 : decode cX10_waits 1 = .ok (.iconst 0, 1) := by decide +kernel
theorem dX10_waits_2 : decode cX10_waits 2 = .ok (.putfield 71, 3) := by decide +kernel
theorem dX10_waits_5 : decode cX10_waits 5 = .ok (.aload_n 0, 1) := by decide +kernel
theorem dX10_waits_6 : decode cX10_waits 6 = .ok (.invokevirtual 232, 3) := by decide +kernel
theorem dX10_isTown_0 : decode cX10_isTown 0 = .ok (.aload_n 0, 1) := by decide +kernel
theorem dX10_isTown_1 : decode cX10_isTown 1 = .ok (.getfield 31, 3) := by decide +kernel
theorem dX10_isTown_4 : decode cX10_isTown 4 = .ok (.iconst 0, 1) := by decide +kernel
theorem dX10_isTown_5 : decode cX10_isTown 5 = .ok (.iaload, 1) := by decide +kernel
theorem dX10_isTown_6 : decode cX10_isTown 6 = .ok (.ifCond .le 7, 3) := by decide +kernel
theorem dX10_isTown_13 : decode cX10_isTown 13 = .ok (.iconst 0, 1) := by decide +kernel
theorem dX10_isTown_14 : decode cX10_isTown 14 = .ok (.ireturn, 1) := by decide +kernel
theorem dX10_waits_9 : decode cX10_waits 9 = .ok (.ifCond .ne 6, 3) := by decide +kernel
theorem dX10_waits_12 : decode cX10_waits 12 = .ok (.bipush (-2), 2) := by decide +kernel
theorem dX10_waits_14 : decode cX10_waits 14 = .ok (.ireturn, 1) := by decide +kernel
theorem dX9_worst_0 : decode cX9_worst 0 = .ok (.aload_n 0, 1) := by decide +kernel
theorem dX9_worst_1 : decode cX9_worst 1 = .ok (.invokevirtual 166, 3) := by decide +kernel
theorem dX9_worst_4 : decode cX9_worst 4 = .ok (.ifCond .ne 6, 3) := by decide +kernel
theorem dX9_worst_7 : decode cX9_worst 7 = .ok (.bipush (-2), 2) := by decide +kernel
theorem dX9_worst_9 : decode cX9_worst 9 = .ok (.ireturn, 1) := by decide +kernel
theorem dX10_worst_0 : decode cX10_worst 0 = .ok (.aload_n 0, 1) := by decide +kernel
theorem dX10_worst_1 : decode cX10_worst 1 = .ok (.iconst 0, 1) := by decide +kernel
theorem dX10_worst_2 : decode cX10_worst 2 = .ok (.putfield 71, 3) := by decide +kernel
theorem dX10_worst_5 : decode cX10_worst 5 = .ok (.aload_n 0, 1) := by decide +kernel
theorem dX10_worst_6 : decode cX10_worst 6 = .ok (.invokevirtual 232, 3) := by decide +kernel
theorem dX10_worst_9 : decode cX10_worst 9 = .ok (.ifCond .ne 6, 3) := by decide +kernel
theorem dX10_worst_12 : decode cX10_worst 12 = .ok (.bipush (-2), 2) := by decide +kernel
theorem dX10_worst_14 : decode cX10_worst 14 = .ok (.ireturn, 1) := by decide +kernel
theorem dX9_reign_0 : decode cX9_reign 0 = .ok (.aload_n 0, 1) := by decide +kernel
theorem dX9_reign_1 : decode cX9_reign 1 = .ok (.iload_n 1, 1) := by decide +kernel
theorem dX9_reign_2 : decode cX9_reign 2 = .ok (.invokevirtual 107, 3) := by decide +kernel
theorem dX9_reign_5 : decode cX9_reign 5 = .ok (.ifCond .eq 11, 3) := by decide +kernel
theorem dX9_reign_16 : decode cX9_reign 16 = .ok (.bipush (-2), 2) := by decide +kernel
theorem dX9_reign_18 : decode cX9_reign 18 = .ok (.ireturn, 1) := by decide +kernel
theorem dX10_reign_0 : decode cX10_reign 0 = .ok (.aload_n 0, 1) := by decide +kernel
theorem dX10_reign_1 : decode cX10_reign 1 = .ok (.iconst 0, 1) := by decide +kernel
theorem dX10_reign_2 : decode cX10_reign 2 = .ok (.putfield 71, 3) := by decide +kernel
theorem dX10_reign_5 : decode cX10_reign 5 = .ok (.aload_n 0, 1) := by decide +kernel
theorem dX10_reign_6 : decode cX10_reign 6 = .ok (.iload_n 1, 1) := by decide +kernel
theorem dX10_reign_7 : decode cX10_reign 7 = .ok (.i2l, 1) := by decide +kernel
theorem dX10_reign_8 : decode cX10_reign 8 = .ok (.invokevirtual 267, 3) := by decide +kernel
theorem dX10_reign_11 : decode cX10_reign 11 = .ok (.ifCond .ne 6, 3) := by decide +kernel
theorem dX10_reign_14 : decode cX10_reign 14 = .ok (.bipush (-2), 2) := by decide +kernel
theorem dX10_reign_16 : decode cX10_reign 16 = .ok (.ireturn, 1) := by decide +kernel
theorem dX9_rents_0 : decode cX9_rents 0 = .ok (.aload_n 0, 1) := by decide +kernel
theorem dX9_rents_1 : decode cX9_rents 1 = .ok (.iload_n 1, 1) := by decide +kernel
theorem dX9_rents_2 : decode cX9_rents 2 = .ok (.invokevirtual 107, 3) := by decide +kernel
theorem dX9_rents_5 : decode cX9_rents 5 = .ok (.ifCond .eq 11, 3) := by decide +kernel
theorem dX9_rents_16 : decode cX9_rents 16 = .ok (.bipush (-2), 2) := by decide +kernel
theorem dX9_rents_18 : decode cX9_rents 18 = .ok (.ireturn, 1) := by decide +kernel
theorem dX10_rents_0 : decode cX10_rents 0 = .ok (.aload_n 0, 1) := by decide +kernel
theorem dX10_rents_1 : decode cX10_rents 1 = .ok (.iconst 0, 1) := by decide +kernel
theorem dX10_rents_2 : decode cX10_rents 2 = .ok (.putfield 71, 3) := by decide +kernel
theorem dX10_rents_5 : decode cX10_rents 5 = .ok (.aload_n 0, 1) := by decide +kernel
theorem dX10_rents_6 : decode cX10_rents 6 = .ok (.iload_n 1, 1) := by decide +kernel
theorem dX10_rents_7 : decode cX10_rents 7 = .ok (.i2l, 1) := by decide +kernel
theorem dX10_rents_8 : decode cX10_rents 8 = .ok (.invokevirtual 267, 3) := by decide +kernel
theorem dX10_rents_11 : decode cX10_rents 11 = .ok (.ifCond .ne 6, 3) := by decide +kernel
theorem dX10_rents_14 : decode cX10_rents 14 = .ok (.bipush (-2), 2) := by decide +kernel
theorem dX10_rents_16 : decode cX10_rents 16 = .ok (.ireturn, 1) := by decide +kernel
theorem dX9_without_0 : decode cX9_without 0 = .ok (.aload_n 0, 1) := by decide +kernel
theorem dX9_without_1 : decode cX9_without 1 = .ok (.iload_n 1, 1) := by decide +kernel
theorem dX9_without_2 : decode cX9_without 2 = .ok (.invokevirtual 107, 3) := by decide +kernel
theorem dX9_without_5 : decode cX9_without 5 = .ok (.ifCond .eq 13, 3) := by decide +kernel
theorem dX9_without_18 : decode cX9_without 18 = .ok (.bipush (-2), 2) := by decide +kernel
theorem dX9_without_20 : decode cX9_without 20 = .ok (.ireturn, 1) := by decide +kernel
theorem dX10_without_0 : decode cX10_without 0 = .ok (.aload_n 0, 1) := by decide +kernel
theorem dX10_without_1 : decode cX10_without 1 = .ok (.iconst 0, 1) := by decide +kernel
theorem dX10_without_2 : decode cX10_without 2 = .ok (.putfield 71, 3) := by decide +kernel
theorem dX10_without_5 : decode cX10_without 5 = .ok (.aload_n 0, 1) := by decide +kernel
theorem dX10_without_6 : decode cX10_without 6 = .ok (.iload_n 1, 1) := by decide +kernel
theorem dX10_without_7 : decode cX10_without 7 = .ok (.i2l, 1) := by decide +kernel
theorem dX10_without_8 : decode cX10_without 8 = .ok (.invokevirtual 267, 3) := by decide +kernel
theorem dX10_without_11 : decode cX10_without 11 = .ok (.ifCond .ne 6, 3) := by decide +kernel
theorem dX10_without_14 : decode cX10_without 14 = .ok (.bipush (-2), 2) := by decide +kernel
theorem dX10_without_16 : decode cX10_without 16 = .ok (.ireturn, 1) := by decide +kernel
theorem dX9_best_0 : decode cX9_best 0 = .ok (.aload_n 0, 1) := by decide +kernel
theorem dX9_best_1 : decode cX9_best 1 = .ok (.invokevirtual 166, 3) := by decide +kernel
theorem dX9_best_4 : decode cX9_best 4 = .ok (.ifCond .ne 6, 3) := by decide +kernel
theorem dX9_best_7 : decode cX9_best 7 = .ok (.bipush (-2), 2) := by decide +kernel
theorem dX9_best_9 : decode cX9_best 9 = .ok (.ireturn, 1) := by decide +kernel
theorem dX10_best_0 : decode cX10_best 0 = .ok (.aload_n 0, 1) := by decide +kernel
theorem dX10_best_1 : decode cX10_best 1 = .ok (.iconst 0, 1) := by decide +kernel
theorem dX10_best_2 : decode cX10_best 2 = .ok (.putfield 71, 3) := by decide +kernel
theorem dX10_best_5 : decode cX10_best 5 = .ok (.aload_n 0, 1) := by decide +kernel
theorem dX10_best_6 : decode cX10_best 6 = .ok (.invokevirtual 232, 3) := by decide +kernel
theorem dX10_best_9 : decode cX10_best 9 = .ok (.ifCond .ne 6, 3) := by decide +kernel
theorem dX10_best_12 : decode cX10_best 12 = .ok (.bipush (-2), 2) := by decide +kernel
theorem dX10_best_14 : decode cX10_best 14 = .ok (.ireturn, 1) := by decide +kernel
theorem dX9_deals_0 : decode cX9_deals 0 = .ok (.aload_n 0, 1) := by decide +kernel
theorem dX9_deals_1 : decode cX9_deals 1 = .ok (.invokevirtual 166, 3) := by decide +kernel
theorem dX9_deals_4 : decode cX9_deals 4 = .ok (.ifCond .ne 6, 3) := by decide +kernel
theorem dX9_deals_7 : decode cX9_deals 7 = .ok (.bipush (-2), 2) := by decide +kernel
theorem dX9_deals_9 : decode cX9_deals 9 = .ok (.ireturn, 1) := by decide +kernel
theorem dX10_deals_0 : decode cX10_deals 0 = .ok (.aload_n 0, 1) := by decide +kernel
theorem dX10_deals_1 : decode cX10_deals 1 = .ok (.iconst 0, 1) := by decide +kernel
theorem dX10_deals_2 : decode cX10_deals 2 = .ok (.putfield 71, 3) := by decide +kernel
theorem dX10_deals_5 : decode cX10_deals 5 = .ok (.aload_n 0, 1) := by decide +kernel
theorem dX10_deals_6 : decode cX10_deals 6 = .ok (.invokevirtual 232, 3) := by decide +kernel
theorem dX10_deals_9 : decode cX10_deals 9 = .ok (.ifCond .ne 6, 3) := by decide +kernel
theorem dX10_deals_12 : decode cX10_deals 12 = .ok (.bipush (-2), 2) := by decide +kernel
theorem dX10_deals_14 : decode cX10_deals 14 = .ok (.ireturn, 1) := by decide +kernel
theorem dX9_price_0 : decode cX9_price 0 = .ok (.aload_n 0, 1) := by decide +kernel
theorem dX9_price_1 : decode cX9_price 1 = .ok (.iload_n 1, 1) := by decide +kernel
theorem dX9_price_2 : decode cX9_price 2 = .ok (.invokevirtual 107, 3) := by decide +kernel
theorem dX9_price_5 : decode cX9_price 5 = .ok (.ifCond .eq 11, 3) := by decide +kernel
theorem dX9_price_16 : decode cX9_price 16 = .ok (.ldc 188, 2) := by decide +kernel
theorem dX9_price_18 : decode cX9_price 18 = .ok (.ireturn, 1) := by decide +kernel
theorem dX10_price_0 : decode cX10_price 0 = .ok (.aload_n 0, 1) := by decide +kernel
theorem dX10_price_1 : decode cX10_price 1 = .ok (.iconst 0, 1) := by decide +kernel
theorem dX10_price_2 : decode cX10_price 2 = .ok (.putfield 71, 3) := by decide +kernel
theorem dX10_price_5 : decode cX10_price 5 = .ok (.aload_n 0, 1) := by decide +kernel
theorem dX10_price_6 : decode cX10_price 6 = .ok (.iload_n 1, 1) := by decide +kernel
theorem dX10_price_7 : decode cX10_price 7 = .ok (.i2l, 1) := by decide +kernel
theorem dX10_price_8 : decode cX10_price 8 = .ok (.invokevirtual 267, 3) := by decide +kernel
theorem dX10_price_11 : decode cX10_price 11 = .ok (.ifCond .ne 7, 3) := by decide +kernel
theorem dX10_price_14 : decode cX10_price 14 = .ok (.ldc_w 300, 3) := by decide +kernel
theorem dX10_price_17 : decode cX10_price 17 = .ok (.ireturn, 1) := by decide +kernel
theorem dX9_chorus_0 : decode cX9_chorus 0 = .ok (.aload_n 0, 1) := by decide +kernel
theorem dX9_chorus_1 : decode cX9_chorus 1 = .ok (.iload_n 1, 1) := by decide +kernel
theorem dX9_chorus_2 : decode cX9_chorus 2 = .ok (.invokevirtual 127, 3) := by decide +kernel
theorem dX9_chorus_5 : decode cX9_chorus 5 = .ok (.ifCond .ne 6, 3) := by decide +kernel
theorem dX9_chorus_8 : decode cX9_chorus 8 = .ok (.bipush (-2), 2) := by decide +kernel
theorem dX9_chorus_10 : decode cX9_chorus 10 = .ok (.ireturn, 1) := by decide +kernel
theorem dX10_chorus_0 : decode cX10_chorus 0 = .ok (.aload_n 0, 1) := by decide +kernel
theorem dX10_chorus_1 : decode cX10_chorus 1 = .ok (.iconst 0, 1) := by decide +kernel
theorem dX10_chorus_2 : decode cX10_chorus 2 = .ok (.putfield 71, 3) := by decide +kernel
theorem dX10_chorus_5 : decode cX10_chorus 5 = .ok (.aload_n 0, 1) := by decide +kernel
theorem dX10_chorus_6 : decode cX10_chorus 6 = .ok (.iload_n 1, 1) := by decide +kernel
theorem dX10_chorus_7 : decode cX10_chorus 7 = .ok (.i2l, 1) := by decide +kernel
theorem dX10_chorus_8 : decode cX10_chorus 8 = .ok (.invokevirtual 272, 3) := by decide +kernel
theorem dX10_chorus_11 : decode cX10_chorus 11 = .ok (.ifCond .ne 6, 3) := by decide +kernel
theorem dX10_chorus_14 : decode cX10_chorus 14 = .ok (.bipush (-2), 2) := by decide +kernel
theorem dX10_chorus_16 : decode cX10_chorus 16 = .ok (.ireturn, 1) := by decide +kernel
theorem dX9_tolls_0 : decode cX9_tolls 0 = .ok (.aload_n 0, 1) := by decide +kernel
theorem dX9_tolls_1 : decode cX9_tolls 1 = .ok (.iload_n 1, 1) := by decide +kernel
theorem dX9_tolls_2 : decode cX9_tolls 2 = .ok (.invokevirtual 127, 3) := by decide +kernel
theorem dX9_tolls_5 : decode cX9_tolls 5 = .ok (.ifCond .ne 6, 3) := by decide +kernel
theorem dX9_tolls_8 : decode cX9_tolls 8 = .ok (.bipush (-2), 2) := by decide +kernel
theorem dX9_tolls_10 : decode cX9_tolls 10 = .ok (.ireturn, 1) := by decide +kernel
theorem dX10_tolls_0 : decode cX10_tolls 0 = .ok (.aload_n 0, 1) := by decide +kernel
theorem dX10_tolls_1 : decode cX10_tolls 1 = .ok (.iconst 0, 1) := by decide +kernel
theorem dX10_tolls_2 : decode cX10_tolls 2 = .ok (.putfield 71, 3) := by decide +kernel
theorem dX10_tolls_5 : decode cX10_tolls 5 = .ok (.aload_n 0, 1) := by decide +kernel
theorem dX10_tolls_6 : decode cX10_tolls 6 = .ok (.iload_n 1, 1) := by decide +kernel
theorem dX10_tolls_7 : decode cX10_tolls 7 = .ok (.i2l, 1) := by decide +kernel
theorem dX10_tolls_8 : decode cX10_tolls 8 = .ok (.invokevirtual 272, 3) := by decide +kernel
theorem dX10_tolls_11 : decode cX10_tolls 11 = .ok (.ifCond .ne 6, 3) := by decide +kernel
theorem dX10_tolls_14 : decode cX10_tolls 14 = .ok (.bipush (-2), 2) := by decide +kernel
theorem dX10_tolls_16 : decode cX10_tolls 16 = .ok (.ireturn, 1) := by decide +kernel
theorem dX9_register_0 : decode cX9_register 0 = .ok (.aload_n 0, 1) := by decide +kernel
theorem dX9_register_1 : decode cX9_register 1 = .ok (.iload_n 1, 1) := by decide +kernel
theorem dX9_register_2 : decode cX9_register 2 = .ok (.invokevirtual 127, 3) := by decide +kernel
theorem dX9_register_5 : decode cX9_register 5 = .ok (.ifCond .eq 29, 3) := by decide +kernel
theorem dX9_register_34 : decode cX9_register 34 = .ok (.bipush (-2), 2) := by decide +kernel
theorem dX9_register_36 : decode cX9_register 36 = .ok (.ireturn, 1) := by decide +kernel
theorem dX10_register_0 : decode cX10_register 0 = .ok (.aload_n 0, 1) := by decide +kernel
theorem dX10_register_1 : decode cX10_register 1 = .ok (.iconst 0, 1) := by decide +kernel
theorem dX10_register_2 : decode cX10_register 2 = .ok (.putfield 71, 3) := by decide +kernel
theorem dX10_register_5 : decode cX10_register 5 = .ok (.aload_n 0, 1) := by decide +kernel
theorem dX10_register_6 : decode cX10_register 6 = .ok (.iload_n 1, 1) := by decide +kernel
theorem dX10_register_7 : decode cX10_register 7 = .ok (.i2l, 1) := by decide +kernel
theorem dX10_register_8 : decode cX10_register 8 = .ok (.invokevirtual 272, 3) := by decide +kernel
theorem dX10_register_11 : decode cX10_register 11 = .ok (.ifCond .ne 6, 3) := by decide +kernel
theorem dX10_register_14 : decode cX10_register 14 = .ok (.bipush (-2), 2) := by decide +kernel
theorem dX10_register_16 : decode cX10_register 16 = .ok (.ireturn, 1) := by decide +kernel
theorem dX9_heir_0 : decode cX9_heir 0 = .ok (.aload_n 0, 1) := by decide +kernel
theorem dX9_heir_1 : decode cX9_heir 1 = .ok (.iload_n 1, 1) := by decide +kernel
theorem dX9_heir_2 : decode cX9_heir 2 = .ok (.invokevirtual 127, 3) := by decide +kernel
theorem dX9_heir_5 : decode cX9_heir 5 = .ok (.ifCond .eq 23, 3) := by decide +kernel
theorem dX9_heir_28 : decode cX9_heir 28 = .ok (.bipush (-2), 2) := by decide +kernel
theorem dX9_heir_30 : decode cX9_heir 30 = .ok (.ireturn, 1) := by decide +kernel
theorem dX10_heir_0 : decode cX10_heir 0 = .ok (.aload_n 0, 1) := by decide +kernel
theorem dX10_heir_1 : decode cX10_heir 1 = .ok (.iconst 0, 1) := by decide +kernel
theorem dX10_heir_2 : decode cX10_heir 2 = .ok (.putfield 71, 3) := by decide +kernel
theorem dX10_heir_5 : decode cX10_heir 5 = .ok (.aload_n 0, 1) := by decide +kernel
theorem dX10_heir_6 : decode cX10_heir 6 = .ok (.iload_n 1, 1) := by decide +kernel
theorem dX10_heir_7 : decode cX10_heir 7 = .ok (.i2l, 1) := by decide +kernel
theorem dX10_heir_8 : decode cX10_heir 8 = .ok (.invokevirtual 272, 3) := by decide +kernel
theorem dX10_heir_11 : decode cX10_heir 11 = .ok (.ifCond .ne 6, 3) := by decide +kernel
theorem dX10_heir_14 : decode cX10_heir 14 = .ok (.bipush (-2), 2) := by decide +kernel
theorem dX10_heir_16 : decode cX10_heir 16 = .ok (.ireturn, 1) := by decide +kernel
theorem dX9_watch_0 : decode cX9_watch 0 = .ok (.iload_n 1, 1) := by decide +kernel
theorem dX9_watch_1 : decode cX9_watch 1 = .ok (.invokestatic 208, 3) := by decide +kernel
theorem dX9_isMinute_0 : decode cX9_isMinute 0 = .ok (.iload_n 0, 1) := by decide +kernel
theorem dX9_isMinute_1 : decode cX9_isMinute 1 = .ok (.iconst 0, 1) := by decide +kernel
theorem dX9_isMinute_2 : decode cX9_isMinute 2 = .ok (.sipush 600, 3) := by decide +kernel
theorem dX9_isMinute_5 : decode cX9_isMinute 5 = .ok (.invokestatic 148, 3) := by decide +kernel
theorem dX9_isMinute_8 : decode cX9_isMinute 8 = .ok (.ireturn, 1) := by decide +kernel
theorem dX9_watch_4 : decode cX9_watch 4 = .ok (.ifCond .eq 10, 3) := by decide +kernel
theorem dX9_watch_14 : decode cX9_watch 14 = .ok (.bipush (-2), 2) := by decide +kernel
theorem dX9_watch_16 : decode cX9_watch 16 = .ok (.ireturn, 1) := by decide +kernel
theorem dX10_watch_0 : decode cX10_watch 0 = .ok (.aload_n 0, 1) := by decide +kernel
theorem dX10_watch_1 : decode cX10_watch 1 = .ok (.iconst 0, 1) := by decide +kernel
theorem dX10_watch_2 : decode cX10_watch 2 = .ok (.putfield 71, 3) := by decide +kernel
theorem dX10_watch_5 : decode cX10_watch 5 = .ok (.aload_n 0, 1) := by decide +kernel
theorem dX10_watch_6 : decode cX10_watch 6 = .ok (.iload_n 1, 1) := by decide +kernel
theorem dX10_watch_7 : decode cX10_watch 7 = .ok (.invokevirtual 304, 3) := by decide +kernel
theorem dX10_isLong_0 : decode cX10_isLong 0 = .ok (.aload_n 0, 1) := by decide +kernel
theorem dX10_isLong_1 : decode cX10_isLong 1 = .ok (.invokevirtual 232, 3) := by decide +kernel
theorem dX10_isLong_4 : decode cX10_isLong 4 = .ok (.ifCond .eq 19, 3) := by decide +kernel
theorem dX10_isLong_23 : decode cX10_isLong 23 = .ok (.iconst 0, 1) := by decide +kernel
theorem dX10_isLong_24 : decode cX10_isLong 24 = .ok (.ireturn, 1) := by decide +kernel
theorem dX10_watch_10 : decode cX10_watch 10 = .ok (.ifCond .ne 6, 3) := by decide +kernel
theorem dX10_watch_13 : decode cX10_watch 13 = .ok (.bipush (-2), 2) := by decide +kernel
theorem dX10_watch_15 : decode cX10_watch 15 = .ok (.ireturn, 1) := by decide +kernel
theorem dX9_watch_7 : decode cX9_watch 7 = .ok (.aload_n 0, 1) := by decide +kernel
theorem dX9_watch_8 : decode cX9_watch 8 = .ok (.invokevirtual 166, 3) := by decide +kernel
theorem dX9_watch_11 : decode cX9_watch 11 = .ok (.ifCond .ne 6, 3) := by decide +kernel
theorem dX9_alarm_0 : decode cX9_alarm 0 = .ok (.iload_n 1, 1) := by decide +kernel
theorem dX9_alarm_1 : decode cX9_alarm 1 = .ok (.invokestatic 208, 3) := by decide +kernel
theorem dX9_alarm_4 : decode cX9_alarm 4 = .ok (.ifCond .eq 10, 3) := by decide +kernel
theorem dX9_alarm_14 : decode cX9_alarm 14 = .ok (.bipush (-2), 2) := by decide +kernel
theorem dX9_alarm_16 : decode cX9_alarm 16 = .ok (.ireturn, 1) := by decide +kernel
theorem dX10_alarm_0 : decode cX10_alarm 0 = .ok (.aload_n 0, 1) := by decide +kernel
theorem dX10_alarm_1 : decode cX10_alarm 1 = .ok (.iconst 0, 1) := by decide +kernel
theorem dX10_alarm_2 : decode cX10_alarm 2 = .ok (.putfield 71, 3) := by decide +kernel
theorem dX10_alarm_5 : decode cX10_alarm 5 = .ok (.aload_n 0, 1) := by decide +kernel
theorem dX10_alarm_6 : decode cX10_alarm 6 = .ok (.iload_n 1, 1) := by decide +kernel
theorem dX10_alarm_7 : decode cX10_alarm 7 = .ok (.invokevirtual 304, 3) := by decide +kernel
theorem dX10_alarm_10 : decode cX10_alarm 10 = .ok (.ifCond .ne 6, 3) := by decide +kernel
theorem dX10_alarm_13 : decode cX10_alarm 13 = .ok (.bipush (-2), 2) := by decide +kernel
theorem dX10_alarm_15 : decode cX10_alarm 15 = .ok (.ireturn, 1) := by decide +kernel
theorem dX9_alarm_7 : decode cX9_alarm 7 = .ok (.aload_n 0, 1) := by decide +kernel
theorem dX9_alarm_8 : decode cX9_alarm 8 = .ok (.invokevirtual 166, 3) := by decide +kernel
theorem dX9_alarm_11 : decode cX9_alarm 11 = .ok (.ifCond .ne 6, 3) := by decide +kernel
theorem dX9_meet_0 : decode cX9_meet 0 = .ok (.aload_n 0, 1) := by decide +kernel
theorem dX9_meet_1 : decode cX9_meet 1 = .ok (.iload_n 1, 1) := by decide +kernel
theorem dX9_meet_2 : decode cX9_meet 2 = .ok (.invokevirtual 107, 3) := by decide +kernel
theorem dX9_meet_5 : decode cX9_meet 5 = .ok (.ifCond .eq 11, 3) := by decide +kernel
theorem dX9_meet_16 : decode cX9_meet 16 = .ok (.bipush (-2), 2) := by decide +kernel
theorem dX9_meet_18 : decode cX9_meet 18 = .ok (.ireturn, 1) := by decide +kernel
theorem dX10_meet_0 : decode cX10_meet 0 = .ok (.aload_n 0, 1) := by decide +kernel
theorem dX10_meet_1 : decode cX10_meet 1 = .ok (.iconst 0, 1) := by decide +kernel
theorem dX10_meet_2 : decode cX10_meet 2 = .ok (.putfield 71, 3) := by decide +kernel
theorem dX10_meet_5 : decode cX10_meet 5 = .ok (.aload_n 0, 1) := by decide +kernel
theorem dX10_meet_6 : decode cX10_meet 6 = .ok (.iload_n 1, 1) := by decide +kernel
theorem dX10_meet_7 : decode cX10_meet 7 = .ok (.i2l, 1) := by decide +kernel
theorem dX10_meet_8 : decode cX10_meet 8 = .ok (.invokevirtual 267, 3) := by decide +kernel
theorem dX10_meet_11 : decode cX10_meet 11 = .ok (.ifCond .eq 12, 3) := by decide +kernel
theorem dX10_meet_23 : decode cX10_meet 23 = .ok (.bipush (-2), 2) := by decide +kernel
theorem dX10_meet_25 : decode cX10_meet 25 = .ok (.ireturn, 1) := by decide +kernel
theorem dX9_passes_0 : decode cX9_passes 0 = .ok (.aload_n 0, 1) := by decide +kernel
theorem dX9_passes_1 : decode cX9_passes 1 = .ok (.iload_n 1, 1) := by decide +kernel
theorem dX9_passes_2 : decode cX9_passes 2 = .ok (.invokevirtual 107, 3) := by decide +kernel
theorem dX9_passes_5 : decode cX9_passes 5 = .ok (.ifCond .eq 11, 3) := by decide +kernel
theorem dX9_passes_16 : decode cX9_passes 16 = .ok (.bipush (-2), 2) := by decide +kernel
theorem dX9_passes_18 : decode cX9_passes 18 = .ok (.ireturn, 1) := by decide +kernel
theorem dX10_passes_0 : decode cX10_passes 0 = .ok (.aload_n 0, 1) := by decide +kernel
theorem dX10_passes_1 : decode cX10_passes 1 = .ok (.iconst 0, 1) := by decide +kernel
theorem dX10_passes_2 : decode cX10_passes 2 = .ok (.putfield 71, 3) := by decide +kernel
theorem dX10_passes_5 : decode cX10_passes 5 = .ok (.aload_n 0, 1) := by decide +kernel
theorem dX10_passes_6 : decode cX10_passes 6 = .ok (.iload_n 1, 1) := by decide +kernel
theorem dX10_passes_7 : decode cX10_passes 7 = .ok (.i2l, 1) := by decide +kernel
theorem dX10_passes_8 : decode cX10_passes 8 = .ok (.invokevirtual 267, 3) := by decide +kernel
theorem dX10_passes_11 : decode cX10_passes 11 = .ok (.ifCond .eq 12, 3) := by decide +kernel
theorem dX10_passes_23 : decode cX10_passes 23 = .ok (.bipush (-2), 2) := by decide +kernel
theorem dX10_passes_25 : decode cX10_passes 25 = .ok (.ireturn, 1) := by decide +kernel
theorem dX9_slack_0 : decode cX9_slack 0 = .ok (.aload_n 0, 1) := by decide +kernel
theorem dX9_slack_1 : decode cX9_slack 1 = .ok (.iload_n 1, 1) := by decide +kernel
theorem dX9_slack_2 : decode cX9_slack 2 = .ok (.invokevirtual 107, 3) := by decide +kernel
theorem dX9_slack_5 : decode cX9_slack 5 = .ok (.ifCond .eq 11, 3) := by decide +kernel
theorem dX9_slack_16 : decode cX9_slack 16 = .ok (.bipush (-2), 2) := by decide +kernel
theorem dX9_slack_18 : decode cX9_slack 18 = .ok (.ireturn, 1) := by decide +kernel
theorem dX10_slack_0 : decode cX10_slack 0 = .ok (.aload_n 0, 1) := by decide +kernel
theorem dX10_slack_1 : decode cX10_slack 1 = .ok (.iconst 0, 1) := by decide +kernel
theorem dX10_slack_2 : decode cX10_slack 2 = .ok (.putfield 71, 3) := by decide +kernel
theorem dX10_slack_5 : decode cX10_slack 5 = .ok (.aload_n 0, 1) := by decide +kernel
theorem dX10_slack_6 : decode cX10_slack 6 = .ok (.iload_n 1, 1) := by decide +kernel
theorem dX10_slack_7 : decode cX10_slack 7 = .ok (.i2l, 1) := by decide +kernel
theorem dX10_slack_8 : decode cX10_slack 8 = .ok (.invokevirtual 267, 3) := by decide +kernel
theorem dX10_slack_11 : decode cX10_slack 11 = .ok (.ifCond .eq 12, 3) := by decide +kernel
theorem dX10_slack_23 : decode cX10_slack 23 = .ok (.bipush (-2), 2) := by decide +kernel
theorem dX10_slack_25 : decode cX10_slack 25 = .ok (.ireturn, 1) := by decide +kernel
theorem dX9_spread_0 : decode cX9_spread 0 = .ok (.aload_n 0, 1) := by decide +kernel
theorem dX9_spread_1 : decode cX9_spread 1 = .ok (.iload_n 1, 1) := by decide +kernel
theorem dX9_spread_2 : decode cX9_spread 2 = .ok (.invokevirtual 127, 3) := by decide +kernel
theorem dX9_spread_5 : decode cX9_spread 5 = .ok (.ifCond .ne 6, 3) := by decide +kernel
theorem dX9_spread_8 : decode cX9_spread 8 = .ok (.bipush (-2), 2) := by decide +kernel
theorem dX9_spread_10 : decode cX9_spread 10 = .ok (.ireturn, 1) := by decide +kernel
theorem dX10_spread_0 : decode cX10_spread 0 = .ok (.aload_n 0, 1) := by decide +kernel
theorem dX10_spread_1 : decode cX10_spread 1 = .ok (.iconst 0, 1) := by decide +kernel
theorem dX10_spread_2 : decode cX10_spread 2 = .ok (.putfield 71, 3) := by decide +kernel
theorem dX10_spread_5 : decode cX10_spread 5 = .ok (.aload_n 0, 1) := by decide +kernel
theorem dX10_spread_6 : decode cX10_spread 6 = .ok (.iload_n 1, 1) := by decide +kernel
theorem dX10_spread_7 : decode cX10_spread 7 = .ok (.i2l, 1) := by decide +kernel
theorem dX10_spread_8 : decode cX10_spread 8 = .ok (.invokevirtual 272, 3) := by decide +kernel
theorem dX10_spread_11 : decode cX10_spread 11 = .ok (.ifCond .ne 6, 3) := by decide +kernel
theorem dX10_spread_14 : decode cX10_spread 14 = .ok (.bipush (-2), 2) := by decide +kernel
theorem dX10_spread_16 : decode cX10_spread 16 = .ok (.ireturn, 1) := by decide +kernel
theorem dX9_steady_0 : decode cX9_steady 0 = .ok (.aload_n 0, 1) := by decide +kernel
theorem dX9_steady_1 : decode cX9_steady 1 = .ok (.invokevirtual 166, 3) := by decide +kernel
theorem dX9_steady_4 : decode cX9_steady 4 = .ok (.ifCond .ne 6, 3) := by decide +kernel
theorem dX9_steady_7 : decode cX9_steady 7 = .ok (.bipush (-2), 2) := by decide +kernel
theorem dX9_steady_9 : decode cX9_steady 9 = .ok (.ireturn, 1) := by decide +kernel
theorem dX10_steady_0 : decode cX10_steady 0 = .ok (.aload_n 0, 1) := by decide +kernel
theorem dX10_steady_1 : decode cX10_steady 1 = .ok (.iconst 0, 1) := by decide +kernel
theorem dX10_steady_2 : decode cX10_steady 2 = .ok (.putfield 71, 3) := by decide +kernel
theorem dX10_steady_5 : decode cX10_steady 5 = .ok (.aload_n 0, 1) := by decide +kernel
theorem dX10_steady_6 : decode cX10_steady 6 = .ok (.invokevirtual 232, 3) := by decide +kernel
theorem dX10_steady_9 : decode cX10_steady 9 = .ok (.ifCond .ne 6, 3) := by decide +kernel
theorem dX10_steady_12 : decode cX10_steady 12 = .ok (.bipush (-2), 2) := by decide +kernel
theorem dX10_steady_14 : decode cX10_steady 14 = .ok (.ireturn, 1) := by decide +kernel
theorem dX9_mean_0 : decode cX9_mean 0 = .ok (.aload_n 0, 1) := by decide +kernel
theorem dX9_mean_1 : decode cX9_mean 1 = .ok (.iload_n 1, 1) := by decide +kernel
theorem dX9_mean_2 : decode cX9_mean 2 = .ok (.invokevirtual 107, 3) := by decide +kernel
theorem dX9_mean_5 : decode cX9_mean 5 = .ok (.ifCond .eq 12, 3) := by decide +kernel
theorem dX9_mean_17 : decode cX9_mean 17 = .ok (.sipush (-1000), 3) := by decide +kernel
theorem dX9_mean_20 : decode cX9_mean 20 = .ok (.ireturn, 1) := by decide +kernel
theorem dX10_mean_0 : decode cX10_mean 0 = .ok (.aload_n 0, 1) := by decide +kernel
theorem dX10_mean_1 : decode cX10_mean 1 = .ok (.iconst 0, 1) := by decide +kernel
theorem dX10_mean_2 : decode cX10_mean 2 = .ok (.putfield 71, 3) := by decide +kernel
theorem dX10_mean_5 : decode cX10_mean 5 = .ok (.aload_n 0, 1) := by decide +kernel
theorem dX10_mean_6 : decode cX10_mean 6 = .ok (.iload_n 1, 1) := by decide +kernel
theorem dX10_mean_7 : decode cX10_mean 7 = .ok (.i2l, 1) := by decide +kernel
theorem dX10_mean_8 : decode cX10_mean 8 = .ok (.invokevirtual 267, 3) := by decide +kernel
theorem dX10_mean_11 : decode cX10_mean 11 = .ok (.ifCond .eq 10, 3) := by decide +kernel
theorem dX10_mean_21 : decode cX10_mean 21 = .ok (.sipush (-1000), 3) := by decide +kernel
theorem dX10_mean_24 : decode cX10_mean 24 = .ok (.ireturn, 1) := by decide +kernel
theorem dX9_bury_0 : decode cX9_bury 0 = .ok (.iload_n 1, 1) := by decide +kernel
theorem dX9_bury_1 : decode cX9_bury 1 = .ok (.invokestatic 208, 3) := by decide +kernel
theorem dX9_bury_4 : decode cX9_bury 4 = .ok (.ifCond .eq 21, 3) := by decide +kernel
theorem dX9_bury_25 : decode cX9_bury 25 = .ok (.bipush (-2), 2) := by decide +kernel
theorem dX9_bury_27 : decode cX9_bury 27 = .ok (.ireturn, 1) := by decide +kernel
theorem dX10_bury_0 : decode cX10_bury 0 = .ok (.aload_n 0, 1) := by decide +kernel
theorem dX10_bury_1 : decode cX10_bury 1 = .ok (.iconst 0, 1) := by decide +kernel
theorem dX10_bury_2 : decode cX10_bury 2 = .ok (.putfield 71, 3) := by decide +kernel
theorem dX10_bury_5 : decode cX10_bury 5 = .ok (.aload_n 0, 1) := by decide +kernel
theorem dX10_bury_6 : decode cX10_bury 6 = .ok (.iload_n 1, 1) := by decide +kernel
theorem dX10_bury_7 : decode cX10_bury 7 = .ok (.invokevirtual 304, 3) := by decide +kernel
theorem dX10_bury_10 : decode cX10_bury 10 = .ok (.ifCond .eq 14, 3) := by decide +kernel
theorem dX10_bury_24 : decode cX10_bury 24 = .ok (.bipush (-2), 2) := by decide +kernel
theorem dX10_bury_26 : decode cX10_bury 26 = .ok (.ireturn, 1) := by decide +kernel
theorem dX9_bury_7 : decode cX9_bury 7 = .ok (.aload_n 0, 1) := by decide +kernel
theorem dX9_bury_8 : decode cX9_bury 8 = .ok (.invokevirtual 166, 3) := by decide +kernel
theorem dX9_bury_11 : decode cX9_bury 11 = .ok (.ifCond .eq 14, 3) := by decide +kernel
theorem dX9_buries_0 : decode cX9_buries 0 = .ok (.iload_n 1, 1) := by decide +kernel
theorem dX9_buries_1 : decode cX9_buries 1 = .ok (.invokestatic 208, 3) := by decide +kernel
theorem dX9_buries_4 : decode cX9_buries 4 = .ok (.ifCond .eq 18, 3) := by decide +kernel
theorem dX9_buries_22 : decode cX9_buries 22 = .ok (.bipush (-2), 2) := by decide +kernel
theorem dX9_buries_24 : decode cX9_buries 24 = .ok (.ireturn, 1) := by decide +kernel
theorem dX10_buries_0 : decode cX10_buries 0 = .ok (.aload_n 0, 1) := by decide +kernel
theorem dX10_buries_1 : decode cX10_buries 1 = .ok (.iconst 0, 1) := by decide +kernel
theorem dX10_buries_2 : decode cX10_buries 2 = .ok (.putfield 71, 3) := by decide +kernel
theorem dX10_buries_5 : decode cX10_buries 5 = .ok (.aload_n 0, 1) := by decide +kernel
theorem dX10_buries_6 : decode cX10_buries 6 = .ok (.iload_n 1, 1) := by decide +kernel
theorem dX10_buries_7 : decode cX10_buries 7 = .ok (.invokevirtual 304, 3) := by decide +kernel
theorem dX10_buries_10 : decode cX10_buries 10 = .ok (.ifCond .eq 11, 3) := by decide +kernel
theorem dX10_buries_21 : decode cX10_buries 21 = .ok (.bipush (-2), 2) := by decide +kernel
theorem dX10_buries_23 : decode cX10_buries 23 = .ok (.ireturn, 1) := by decide +kernel
theorem dX9_buries_7 : decode cX9_buries 7 = .ok (.aload_n 0, 1) := by decide +kernel
theorem dX9_buries_8 : decode cX9_buries 8 = .ok (.invokevirtual 166, 3) := by decide +kernel
theorem dX9_buries_11 : decode cX9_buries 11 = .ok (.ifCond .eq 11, 3) := by decide +kernel
theorem dX9_mends_0 : decode cX9_mends 0 = .ok (.iload_n 1, 1) := by decide +kernel
theorem dX9_mends_1 : decode cX9_mends 1 = .ok (.iconst 0, 1) := by decide +kernel
theorem dX9_mends_2 : decode cX9_mends 2 = .ok (.iconst 3, 1) := by decide +kernel
theorem dX9_mends_3 : decode cX9_mends 3 = .ok (.invokestatic 148, 3) := by decide +kernel
theorem dX9_mends_6 : decode cX9_mends 6 = .ok (.ifCond .eq 10, 3) := by decide +kernel
theorem dX9_mends_16 : decode cX9_mends 16 = .ok (.bipush (-2), 2) := by decide +kernel
theorem dX9_mends_18 : decode cX9_mends 18 = .ok (.ireturn, 1) := by decide +kernel
theorem dX10_mends_0 : decode cX10_mends 0 = .ok (.aload_n 0, 1) := by decide +kernel
theorem dX10_mends_1 : decode cX10_mends 1 = .ok (.iconst 0, 1) := by decide +kernel
theorem dX10_mends_2 : decode cX10_mends 2 = .ok (.putfield 71, 3) := by decide +kernel
theorem dX10_mends_5 : decode cX10_mends 5 = .ok (.aload_n 0, 1) := by decide +kernel
theorem dX10_mends_6 : decode cX10_mends 6 = .ok (.iload_n 1, 1) := by decide +kernel
theorem dX10_mends_7 : decode cX10_mends 7 = .ok (.invokevirtual 334, 3) := by decide +kernel
theorem dX10_isMends_0 : decode cX10_isMends 0 = .ok (.aload_n 0, 1) := by decide +kernel
theorem dX10_isMends_1 : decode cX10_isMends 1 = .ok (.invokevirtual 232, 3) := by decide +kernel
theorem dX10_isMends_4 : decode cX10_isMends 4 = .ok (.ifCond .eq 19, 3) := by decide +kernel
theorem dX10_isMends_23 : decode cX10_isMends 23 = .ok (.iconst 0, 1) := by decide +kernel
theorem dX10_isMends_24 : decode cX10_isMends 24 = .ok (.ireturn, 1) := by decide +kernel
theorem dX10_mends_10 : decode cX10_mends 10 = .ok (.ifCond .ne 6, 3) := by decide +kernel
theorem dX10_mends_13 : decode cX10_mends 13 = .ok (.bipush (-2), 2) := by decide +kernel
theorem dX10_mends_15 : decode cX10_mends 15 = .ok (.ireturn, 1) := by decide +kernel
theorem dX9_mends_9 : decode cX9_mends 9 = .ok (.aload_n 0, 1) := by decide +kernel
theorem dX9_mends_10 : decode cX9_mends 10 = .ok (.invokevirtual 166, 3) := by decide +kernel
theorem dX9_mends_13 : decode cX9_mends 13 = .ok (.ifCond .ne 6, 3) := by decide +kernel
theorem dX9_mended_0 : decode cX9_mended 0 = .ok (.iload_n 1, 1) := by decide +kernel
theorem dX9_mended_1 : decode cX9_mended 1 = .ok (.iconst 0, 1) := by decide +kernel
theorem dX9_mended_2 : decode cX9_mended 2 = .ok (.iconst 3, 1) := by decide +kernel
theorem dX9_mended_3 : decode cX9_mended 3 = .ok (.invokestatic 148, 3) := by decide +kernel
theorem dX9_mended_6 : decode cX9_mended 6 = .ok (.ifCond .eq 10, 3) := by decide +kernel
theorem dX9_mended_16 : decode cX9_mended 16 = .ok (.bipush (-2), 2) := by decide +kernel
