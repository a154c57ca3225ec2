theorem dL_age_0 : decode method_3_code 0 = .ok (.aload_n 0, 1) := by decide +kernel
theorem dL_age_1 : decode method_3_code 1 = .ok (.iload_n 1, 1) := by decide +kernel
theorem dL_age_2 : decode method_3_code 2 = .ok (.iload_n 2, 1) := by decide +kernel
theorem dL_age_3 : decode method_3_code 3 = .ok (.iload_n 3, 1) := by decide +kernel
theorem dL_age_4 : decode method_3_code 4 = .ok (.iload 4, 2) := by decide +kernel
theorem dL_age_6 : decode method_3_code 6 = .ok (.iload 5, 2) := by decide +kernel
theorem dL_age_8 : decode method_3_code 8 = .ok (.invokevirtual 7, 3) := by decide +kernel
theorem dL_age_11 : decode method_3_code 11 = .ok (.goto 11, 3) := by decide +kernel
theorem dL_age_14 : decode method_3_code 14 = .ok (.astore 6, 2) := by decide +kernel
theorem dL_age_16 : decode method_3_code 16 = .ok (.iconst 1, 1) := by decide +kernel
theorem dL_age_17 : decode method_3_code 17 = .ok (.ireturn, 1) := by decide +kernel
theorem dL_age_18 : decode method_3_code 18 = .ok (.astore 6, 2) := by decide +kernel
theorem dL_age_20 : decode method_3_code 20 = .ok (.iconst 2, 1) := by decide +kernel
theorem dL_age_21 : decode method_3_code 21 = .ok (.ireturn, 1) := by decide +kernel
theorem dL_age_22 : decode method_3_code 22 = .ok (.iconst 0, 1) := by decide +kernel
theorem dL_age_23 : decode method_3_code 23 = .ok (.ireturn, 1) := by decide +kernel
theorem dL_young_0 : decode method_4_code 0 = .ok (.aload_n 2, 1) := by decide +kernel
theorem dL_young_1 : decode method_4_code 1 = .ok (.iconst 0, 1) := by decide +kernel
theorem dL_young_2 : decode method_4_code 2 = .ok (.aload_n 0, 1) := by decide +kernel
theorem dL_young_3 : decode method_4_code 3 = .ok (.iload_n 1, 1) := by decide +kernel
theorem dL_young_4 : decode method_4_code 4 = .ok (.invokevirtual 17, 3) := by decide +kernel
theorem dL_young_7 : decode method_4_code 7 = .ok (.i2l, 1) := by decide +kernel
theorem dL_young_8 : decode method_4_code 8 = .ok (.lastore, 1) := by decide +kernel
theorem dL_young_9 : decode method_4_code 9 = .ok (.goto 6, 3) := by decide +kernel
theorem dL_young_12 : decode method_4_code 12 = .ok (.astore_n 3, 1) := by decide +kernel
theorem dL_young_13 : decode method_4_code 13 = .ok (.iconst 1, 1) := by decide +kernel
theorem dL_young_14 : decode method_4_code 14 = .ok (.ireturn, 1) := by decide +kernel
theorem dL_young_15 : decode method_4_code 15 = .ok (.iconst 0, 1) := by decide +kernel
theorem dL_young_16 : decode method_4_code 16 = .ok (.ireturn, 1) := by decide +kernel
theorem dL_rule_0 : decode method_5_code 0 = .ok (.aload 4, 2) := by decide +kernel
theorem dL_rule_2 : decode method_5_code 2 = .ok (.iconst 0, 1) := by decide +kernel
theorem dL_rule_3 : decode method_5_code 3 = .ok (.aload_n 0, 1) := by decide +kernel
theorem dL_rule_4 : decode method_5_code 4 = .ok (.iload_n 1, 1) := by decide +kernel
theorem dL_rule_5 : decode method_5_code 5 = .ok (.iload_n 2, 1) := by decide +kernel
theorem dL_rule_6 : decode method_5_code 6 = .ok (.iload_n 3, 1) := by decide +kernel
theorem dL_rule_7 : decode method_5_code 7 = .ok (.invokevirtual 21, 3) := by decide +kernel
theorem dL_rule_10 : decode method_5_code 10 = .ok (.i2l, 1) := by decide +kernel
theorem dL_rule_11 : decode method_5_code 11 = .ok (.lastore, 1) := by decide +kernel
theorem dL_rule_12 : decode method_5_code 12 = .ok (.goto 11, 3) := by decide +kernel
theorem dL_rule_15 : decode method_5_code 15 = .ok (.astore 5, 2) := by decide +kernel
theorem dL_rule_17 : decode method_5_code 17 = .ok (.iconst 1, 1) := by decide +kernel
theorem dL_rule_18 : decode method_5_code 18 = .ok (.ireturn, 1) := by decide +kernel
theorem dL_rule_19 : decode method_5_code 19 = .ok (.astore 5, 2) := by decide +kernel
theorem dL_rule_21 : decode method_5_code 21 = .ok (.iconst 2, 1) := by decide +kernel
theorem dL_rule_22 : decode method_5_code 22 = .ok (.ireturn, 1) := by decide +kernel
theorem dL_rule_23 : decode method_5_code 23 = .ok (.iconst 0, 1) := by decide +kernel
theorem dL_rule_24 : decode method_5_code 24 = .ok (.ireturn, 1) := by decide +kernel
theorem dL_change_0 : decode method_6_code 0 = .ok (.aload_n 2, 1) := by decide +kernel
theorem dL_change_1 : decode method_6_code 1 = .ok (.iconst 0, 1) := by decide +kernel
theorem dL_change_2 : decode method_6_code 2 = .ok (.aload_n 0, 1) := by decide +kernel
theorem dL_change_3 : decode method_6_code 3 = .ok (.iload_n 1, 1) := by decide +kernel
theorem dL_change_4 : decode method_6_code 4 = .ok (.invokevirtual 27, 3) := by decide +kernel
theorem dL_change_7 : decode method_6_code 7 = .ok (.i2l, 1) := by decide +kernel
theorem dL_change_8 : decode method_6_code 8 = .ok (.lastore, 1) := by decide +kernel
theorem dL_change_9 : decode method_6_code 9 = .ok (.goto 6, 3) := by decide +kernel
theorem dL_change_12 : decode method_6_code 12 = .ok (.astore_n 3, 1) := by decide +kernel
theorem dL_change_13 : decode method_6_code 13 = .ok (.iconst 1, 1) := by decide +kernel
theorem dL_change_14 : decode method_6_code 14 = .ok (.ireturn, 1) := by decide +kernel
theorem dL_change_15 : decode method_6_code 15 = .ok (.iconst 0, 1) := by decide +kernel
theorem dL_change_16 : decode method_6_code 16 = .ok (.ireturn, 1) := by decide +kernel
theorem dL_error_0 : decode method_7_code 0 = .ok (.aload_n 0, 1) := by decide +kernel
theorem dL_error_1 : decode method_7_code 1 = .ok (.iload_n 1, 1) := by decide +kernel
theorem dL_error_2 : decode method_7_code 2 = .ok (.iload_n 2, 1) := by decide +kernel
theorem dL_error_3 : decode method_7_code 3 = .ok (.invokevirtual 30, 3) := by decide +kernel
theorem dL_error_6 : decode method_7_code 6 = .ok (.goto 6, 3) := by decide +kernel
theorem dL_error_9 : decode method_7_code 9 = .ok (.astore_n 3, 1) := by decide +kernel
theorem dL_error_10 : decode method_7_code 10 = .ok (.iconst 1, 1) := by decide +kernel
theorem dL_error_11 : decode method_7_code 11 = .ok (.ireturn, 1) := by decide +kernel
theorem dL_error_12 : decode method_7_code 12 = .ok (.iconst 0, 1) := by decide +kernel
theorem dL_error_13 : decode method_7_code 13 = .ok (.ireturn, 1) := by decide +kernel
theorem dL_mark_0 : decode method_8_code 0 = .ok (.aload_n 2, 1) := by decide +kernel
theorem dL_mark_1 : decode method_8_code 1 = .ok (.iconst 0, 1) := by decide +kernel
theorem dL_mark_2 : decode method_8_code 2 = .ok (.aload_n 0, 1) := by decide +kernel
theorem dL_mark_3 : decode method_8_code 3 = .ok (.iload_n 1, 1) := by decide +kernel
theorem dL_mark_4 : decode method_8_code 4 = .ok (.invokevirtual 34, 3) := by decide +kernel
theorem dL_mark_7 : decode method_8_code 7 = .ok (.i2l, 1) := by decide +kernel
theorem dL_mark_8 : decode method_8_code 8 = .ok (.lastore, 1) := by decide +kernel
theorem dL_mark_9 : decode method_8_code 9 = .ok (.goto 6, 3) := by decide +kernel
theorem dL_mark_12 : decode method_8_code 12 = .ok (.astore_n 3, 1) := by decide +kernel
theorem dL_mark_13 : decode method_8_code 13 = .ok (.iconst 1, 1) := by decide +kernel
theorem dL_mark_14 : decode method_8_code 14 = .ok (.ireturn, 1) := by decide +kernel
theorem dL_mark_15 : decode method_8_code 15 = .ok (.iconst 0, 1) := by decide +kernel
theorem dL_mark_16 : decode method_8_code 16 = .ok (.ireturn, 1) := by decide +kernel
theorem dL_run_0 : decode method_9_code 0 = .ok (.aload 4, 2) := by decide +kernel
theorem dL_run_2 : decode method_9_code 2 = .ok (.iconst 0, 1) := by decide +kernel
theorem dL_run_3 : decode method_9_code 3 = .ok (.aload_n 0, 1) := by decide +kernel
theorem dL_run_4 : decode method_9_code 4 = .ok (.iload_n 1, 1) := by decide +kernel
theorem dL_run_5 : decode method_9_code 5 = .ok (.iload_n 2, 1) := by decide +kernel
theorem dL_run_6 : decode method_9_code 6 = .ok (.iload_n 3, 1) := by decide +kernel
theorem dL_run_7 : decode method_9_code 7 = .ok (.invokevirtual 37, 3) := by decide +kernel
theorem dL_run_10 : decode method_9_code 10 = .ok (.i2l, 1) := by decide +kernel
theorem dL_run_11 : decode method_9_code 11 = .ok (.lastore, 1) := by decide +kernel
theorem dL_run_12 : decode method_9_code 12 = .ok (.goto 11, 3) := by decide +kernel
theorem dL_run_15 : decode method_9_code 15 = .ok (.astore 5, 2) := by decide +kernel
theorem dL_run_17 : decode method_9_code 17 = .ok (.iconst 1, 1) := by decide +kernel
theorem dL_run_18 : decode method_9_code 18 = .ok (.ireturn, 1) := by decide +kernel
theorem dL_run_19 : decode method_9_code 19 = .ok (.astore 5, 2) := by decide +kernel
theorem dL_run_21 : decode method_9_code 21 = .ok (.iconst 2, 1) := by decide +kernel
theorem dL_run_22 : decode method_9_code 22 = .ok (.ireturn, 1) := by decide +kernel
theorem dL_run_23 : decode method_9_code 23 = .ok (.iconst 0, 1) := by decide +kernel
theorem dL_run_24 : decode method_9_code 24 = .ok (.ireturn, 1) := by decide +kernel
theorem dL_told_0 : decode method_10_code 0 = .ok (.aload 4, 2) := by decide +kernel
theorem dL_told_2 : decode method_10_code 2 = .ok (.iconst 0, 1) := by decide +kernel
theorem dL_told_3 : decode method_10_code 3 = .ok (.aload_n 0, 1) := by decide +kernel
theorem dL_told_4 : decode method_10_code 4 = .ok (.iload_n 1, 1) := by decide +kernel
theorem dL_told_5 : decode method_10_code 5 = .ok (.iload_n 2, 1) := by decide +kernel
theorem dL_told_6 : decode method_10_code 6 = .ok (.iload_n 3, 1) := by decide +kernel
theorem dL_told_7 : decode method_10_code 7 = .ok (.invokevirtual 40, 3) := by decide +kernel
theorem dL_told_10 : decode method_10_code 10 = .ok (.lastore, 1) := by decide +kernel
theorem dL_told_11 : decode method_10_code 11 = .ok (.goto 11, 3) := by decide +kernel
theorem dL_told_14 : decode method_10_code 14 = .ok (.astore 5, 2) := by decide +kernel
theorem dL_told_16 : decode method_10_code 16 = .ok (.iconst 1, 1) := by decide +kernel
theorem dL_told_17 : decode method_10_code 17 = .ok (.ireturn, 1) := by decide +kernel
theorem dL_told_18 : decode method_10_code 18 = .ok (.astore 5, 2) := by decide +kernel
theorem dL_told_20 : decode method_10_code 20 = .ok (.iconst 2, 1) := by decide +kernel
theorem dL_told_21 : decode method_10_code 21 = .ok (.ireturn, 1) := by decide +kernel
theorem dL_told_22 : decode method_10_code 22 = .ok (.iconst 0, 1) := by decide +kernel
theorem dL_told_23 : decode method_10_code 23 = .ok (.ireturn, 1) := by decide +kernel
theorem dL_below_0 : decode method_11_code 0 = .ok (.aload_n 3, 1) := by decide +kernel
theorem dL_below_1 : decode method_11_code 1 = .ok (.iconst 0, 1) := by decide +kernel
theorem dL_below_2 : decode method_11_code 2 = .ok (.aload_n 0, 1) := by decide +kernel
theorem dL_below_3 : decode method_11_code 3 = .ok (.iload_n 1, 1) := by decide +kernel
theorem dL_below_4 : decode method_11_code 4 = .ok (.iload_n 2, 1) := by decide +kernel
theorem dL_below_5 : decode method_11_code 5 = .ok (.invokevirtual 44, 3) := by decide +kernel
theorem dL_below_8 : decode method_11_code 8 = .ok (.i2l, 1) := by decide +kernel
theorem dL_below_9 : decode method_11_code 9 = .ok (.lastore, 1) := by decide +kernel
theorem dL_below_10 : decode method_11_code 10 = .ok (.goto 11, 3) := by decide +kernel
theorem dL_below_13 : decode method_11_code 13 = .ok (.astore 4, 2) := by decide +kernel
theorem dL_below_15 : decode method_11_code 15 = .ok (.iconst 1, 1) := by decide +kernel
theorem dL_below_16 : decode method_11_code 16 = .ok (.ireturn, 1) := by decide +kernel
theorem dL_below_17 : decode method_11_code 17 = .ok (.astore 4, 2) := by decide +kernel
theorem dL_below_19 : decode method_11_code 19 = .ok (.iconst 2, 1) := by decide +kernel
theorem dL_below_20 : decode method_11_code 20 = .ok (.ireturn, 1) := by decide +kernel
theorem dL_below_21 : decode method_11_code 21 = .ok (.iconst 0, 1) := by decide +kernel
theorem dL_below_22 : decode method_11_code 22 = .ok (.ireturn, 1) := by decide +kernel
theorem dL_steady_0 : decode method_12_code 0 = .ok (.aload_n 2, 1) := by decide +kernel
theorem dL_steady_1 : decode method_12_code 1 = .ok (.iconst 0, 1) := by decide +kernel
theorem dL_steady_2 : decode method_12_code 2 = .ok (.aload_n 0, 1) := by decide +kernel
theorem dL_steady_3 : decode method_12_code 3 = .ok (.iload_n 1, 1) := by decide +kernel
theorem dL_steady_4 : decode method_12_code 4 = .ok (.invokevirtual 48, 3) := by decide +kernel
theorem dL_steady_7 : decode method_12_code 7 = .ok (.lastore, 1) := by decide +kernel
theorem dL_steady_8 : decode method_12_code 8 = .ok (.goto 9, 3) := by decide +kernel
theorem dL_steady_11 : decode method_12_code 11 = .ok (.astore_n 3, 1) := by decide +kernel
theorem dL_steady_12 : decode method_12_code 12 = .ok (.iconst 1, 1) := by decide +kernel
theorem dL_steady_13 : decode method_12_code 13 = .ok (.ireturn, 1) := by decide +kernel
theorem dL_steady_14 : decode method_12_code 14 = .ok (.astore_n 3, 1) := by decide +kernel
theorem dL_steady_15 : decode method_12_code 15 = .ok (.iconst 2, 1) := by decide +kernel
theorem dL_steady_16 : decode method_12_code 16 = .ok (.ireturn, 1) := by decide +kernel
theorem dL_steady_17 : decode method_12_code 17 = .ok (.iconst 0, 1) := by decide +kernel
theorem dL_steady_18 : decode method_12_code 18 = .ok (.ireturn, 1) := by decide +kernel
theorem dL_recovers_0 : decode method_13_code 0 = .ok (.aload_n 3, 1) := by decide +kernel
theorem dL_recovers_1 : decode method_13_code 1 = .ok (.iconst 0, 1) := by decide +kernel
theorem dL_recovers_2 : decode method_13_code 2 = .ok (.aload_n 0, 1) := by decide +kernel
theorem dL_recovers_3 : decode method_13_code 3 = .ok (.iload_n 1, 1) := by decide +kernel
theorem dL_recovers_4 : decode method_13_code 4 = .ok (.iload_n 2, 1) := by decide +kernel
theorem dL_recovers_5 : decode method_13_code 5 = .ok (.invokevirtual 52, 3) := by decide +kernel
theorem dL_recovers_8 : decode method_13_code 8 = .ok (.i2l, 1) := by decide +kernel
theorem dL_recovers_9 : decode method_13_code 9 = .ok (.lastore, 1) := by decide +kernel
theorem dL_recovers_10 : decode method_13_code 10 = .ok (.goto 15, 3) := by decide +kernel
theorem dL_recovers_13 : decode method_13_code 13 = .ok (.astore 4, 2) := by decide +kernel
theorem dL_recovers_15 : decode method_13_code 15 = .ok (.iconst 1, 1) := by decide +kernel
theorem dL_recovers_16 : decode method_13_code 16 = .ok (.ireturn, 1) := by decide +kernel
theorem dL_recovers_17 : decode method_13_code 17 = .ok (.astore 4, 2) := by decide +kernel
theorem dL_recovers_19 : decode method_13_code 19 = .ok (.iconst 2, 1) := by decide +kernel
theorem dL_recovers_20 : decode method_13_code 20 = .ok (.ireturn, 1) := by decide +kernel
theorem dL_recovers_21 : decode method_13_code 21 = .ok (.astore 4, 2) := by decide +kernel
theorem dL_recovers_23 : decode method_13_code 23 = .ok (.iconst 3, 1) := by decide +kernel
theorem dL_recovers_24 : decode method_13_code 24 = .ok (.ireturn, 1) := by decide +kernel
theorem dL_recovers_25 : decode method_13_code 25 = .ok (.iconst 0, 1) := by decide +kernel
theorem dL_recovers_26 : decode method_13_code 26 = .ok (.ireturn, 1) := by decide +kernel
theorem dL_rank_0 : decode method_14_code 0 = .ok (.aload_n 3, 1) := by decide +kernel
theorem dL_rank_1 : decode method_14_code 1 = .ok (.iconst 0, 1) := by decide +kernel
theorem dL_rank_2 : decode method_14_code 2 = .ok (.aload_n 0, 1) := by decide +kernel
theorem dL_rank_3 : decode method_14_code 3 = .ok (.iload_n 1, 1) := by decide +kernel
theorem dL_rank_4 : decode method_14_code 4 = .ok (.iload_n 2, 1) := by decide +kernel
theorem dL_rank_5 : decode method_14_code 5 = .ok (.invokevirtual 55, 3) := by decide +kernel
theorem dL_rank_8 : decode method_14_code 8 = .ok (.lastore, 1) := by decide +kernel
theorem dL_rank_9 : decode method_14_code 9 = .ok (.goto 11, 3) := by decide +kernel
theorem dL_rank_12 : decode method_14_code 12 = .ok (.astore 4, 2) := by decide +kernel
theorem dL_rank_14 : decode method_14_code 14 = .ok (.iconst 1, 1) := by decide +kernel
theorem dL_rank_15 : decode method_14_code 15 = .ok (.ireturn, 1) := by decide +kernel
theorem dL_rank_16 : decode method_14_code 16 = .ok (.astore 4, 2) := by decide +kernel
theorem dL_rank_18 : decode method_14_code 18 = .ok (.iconst 2, 1) := by decide +kernel
theorem dL_rank_19 : decode method_14_code 19 = .ok (.ireturn, 1) := by decide +kernel
theorem dL_rank_20 : decode method_14_code 20 = .ok (.iconst 0, 1) := by decide +kernel
theorem dL_rank_21 : decode method_14_code 21 = .ok (.ireturn, 1) := by decide +kernel
theorem dL_mean_0 : decode method_15_code 0 = .ok (.aload_n 3, 1) := by decide +kernel
theorem dL_mean_1 : decode method_15_code 1 = .ok (.iconst 0, 1) := by decide +kernel
theorem dL_mean_2 : decode method_15_code 2 = .ok (.aload_n 0, 1) := by decide +kernel
theorem dL_mean_3 : decode method_15_code 3 = .ok (.iload_n 1, 1) := by decide +kernel
theorem dL_mean_4 : decode method_15_code 4 = .ok (.iload_n 2, 1) := by decide +kernel
theorem dL_mean_5 : decode method_15_code 5 = .ok (.invokevirtual 59, 3) := by decide +kernel
theorem dL_mean_8 : decode method_15_code 8 = .ok (.lastore, 1) := by decide +kernel
theorem dL_mean_9 : decode method_15_code 9 = .ok (.goto 11, 3) := by decide +kernel
theorem dL_mean_12 : decode method_15_code 12 = .ok (.astore 4, 2) := by decide +kernel
theorem dL_mean_14 : decode method_15_code 14 = .ok (.iconst 1, 1) := by decide +kernel
theorem dL_mean_15 : decode method_15_code 15 = .ok (.ireturn, 1) := by decide +kernel
theorem dL_mean_16 : decode method_15_code 16 = .ok (.astore 4, 2) := by decide +kernel
theorem dL_mean_18 : decode method_15_code 18 = .ok (.iconst 2, 1) := by decide +kernel
theorem dL_mean_19 : decode method_15_code 19 = .ok (.ireturn, 1) := by decide +kernel
theorem dL_mean_20 : decode method_15_code 20 = .ok (.iconst 0, 1) := by decide +kernel
theorem dL_mean_21 : decode method_15_code 21 = .ok (.ireturn, 1) := by decide +kernel
theorem dL_table_0 : decode method_16_code 0 = .ok (.aload_n 2, 1) := by decide +kernel
theorem dL_table_1 : decode method_16_code 1 = .ok (.iconst 0, 1) := by decide +kernel
theorem dL_table_2 : decode method_16_code 2 = .ok (.aload_n 0, 1) := by decide +kernel
theorem dL_table_3 : decode method_16_code 3 = .ok (.iload_n 1, 1) := by decide +kernel
theorem dL_table_4 : decode method_16_code 4 = .ok (.invokevirtual 62, 3) := by decide +kernel
theorem dL_table_7 : decode method_16_code 7 = .ok (.lastore, 1) := by decide +kernel
theorem dL_table_8 : decode method_16_code 8 = .ok (.goto 9, 3) := by decide +kernel
theorem dL_table_11 : decode method_16_code 11 = .ok (.astore_n 3, 1) := by decide +kernel
theorem dL_table_12 : decode method_16_code 12 = .ok (.iconst 1, 1) := by decide +kernel
theorem dL_table_13 : decode method_16_code 13 = .ok (.ireturn, 1) := by decide +kernel
theorem dL_table_14 : decode method_16_code 14 = .ok (.astore_n 3, 1) := by decide +kernel
theorem dL_table_15 : decode method_16_code 15 = .ok (.iconst 2, 1) := by decide +kernel
theorem dL_table_16 : decode method_16_code 16 = .ok (.ireturn, 1) := by decide +kernel
theorem dL_table_17 : decode method_16_code 17 = .ok (.iconst 0, 1) := by decide +kernel
theorem dL_table_18 : decode method_16_code 18 = .ok (.ireturn, 1) := by decide +kernel
theorem dL_top_0 : decode method_17_code 0 = .ok (.aload_n 1, 1) := by decide +kernel
theorem dL_top_1 : decode method_17_code 1 = .ok (.iconst 0, 1) := by decide +kernel
theorem dL_top_2 : decode method_17_code 2 = .ok (.aload_n 0, 1) := by decide +kernel
theorem dL_top_3 : decode method_17_code 3 = .ok (.invokevirtual 65, 3) := by decide +kernel
theorem dL_top_6 : decode method_17_code 6 = .ok (.i2l, 1) := by decide +kernel
theorem dL_top_7 : decode method_17_code 7 = .ok (.lastore, 1) := by decide +kernel
theorem dL_top_8 : decode method_17_code 8 = .ok (.goto 6, 3) := by decide +kernel
theorem dL_top_11 : decode method_17_code 11 = .ok (.astore_n 2, 1) := by decide +kernel
theorem dL_top_12 : decode method_17_code 12 = .ok (.iconst 1, 1) := by decide +kernel
theorem dL_top_13 : decode method_17_code 13 = .ok (.ireturn, 1) := by decide +kernel
theorem dL_top_14 : decode method_17_code 14 = .ok (.iconst 0, 1) := by decide +kernel
theorem dL_top_15 : decode method_17_code 15 = .ok (.ireturn, 1) := by decide +kernel
