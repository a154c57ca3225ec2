theorem dO_init_0 : decode prog_1_method_1_code 0 = .ok (.aload_n 0, 1) := by decide +kernel
theorem dO_init_1 : decode prog_1_method_1_code 1 = .ok (.invokespecial 1, 3) := by decide +kernel
theorem dO_init_4 : decode prog_1_method_1_code 4 = .ok (.aload_n 0, 1) := by decide +kernel
theorem dO_init_5 : decode prog_1_method_1_code 5 = .ok (.new 7, 3) := by decide +kernel
theorem dO_init_8 : decode prog_1_method_1_code 8 = .ok (.dup, 1) := by decide +kernel
theorem dO_init_9 : decode prog_1_method_1_code 9 = .ok (.invokespecial 9, 3) := by decide +kernel
theorem dO_init_12 : decode prog_1_method_1_code 12 = .ok (.putfield 10, 3) := by decide +kernel
theorem dO_init_15 : decode prog_1_method_1_code 15 = .ok (.aload_n 0, 1) := by decide +kernel
theorem dO_init_16 : decode prog_1_method_1_code 16 = .ok (.bipush 6, 2) := by decide +kernel
theorem dO_init_18 : decode prog_1_method_1_code 18 = .ok (.newarray .int, 2) := by decide +kernel
theorem dO_init_20 : decode prog_1_method_1_code 20 = .ok (.putfield 16, 3) := by decide +kernel
theorem dO_init_23 : decode prog_1_method_1_code 23 = .ok (.aload_n 0, 1) := by decide +kernel
theorem dO_init_24 : decode prog_1_method_1_code 24 = .ok (.bipush 6, 2) := by decide +kernel
theorem dO_init_26 : decode prog_1_method_1_code 26 = .ok (.newarray .int, 2) := by decide +kernel
theorem dO_init_28 : decode prog_1_method_1_code 28 = .ok (.putfield 20, 3) := by decide +kernel
theorem dO_init_31 : decode prog_1_method_1_code 31 = .ok (.aload_n 0, 1) := by decide +kernel
theorem dO_init_32 : decode prog_1_method_1_code 32 = .ok (.bipush 6, 2) := by decide +kernel
theorem dO_init_34 : decode prog_1_method_1_code 34 = .ok (.newarray .int, 2) := by decide +kernel
theorem dO_init_36 : decode prog_1_method_1_code 36 = .ok (.putfield 23, 3) := by decide +kernel
theorem dO_init_39 : decode prog_1_method_1_code 39 = .ok (.aload_n 0, 1) := by decide +kernel
theorem dO_init_40 : decode prog_1_method_1_code 40 = .ok (.sipush 1000, 3) := by decide +kernel
theorem dO_init_43 : decode prog_1_method_1_code 43 = .ok (.putfield 26, 3) := by decide +kernel
theorem dO_init_46 : decode prog_1_method_1_code 46 = .ok (.aload_n 0, 1) := by decide +kernel
theorem dO_init_47 : decode prog_1_method_1_code 47 = .ok (.new 30, 3) := by decide +kernel
theorem dO_init_50 : decode prog_1_method_1_code 50 = .ok (.dup, 1) := by decide +kernel
theorem dO_init_51 : decode prog_1_method_1_code 51 = .ok (.invokespecial 32, 3) := by decide +kernel
theorem dO_init_54 : decode prog_1_method_1_code 54 = .ok (.putfield 33, 3) := by decide +kernel
theorem dO_init_57 : decode prog_1_method_1_code 57 = .ok (.aload_n 0, 1) := by decide +kernel
theorem dO_init_58 : decode prog_1_method_1_code 58 = .ok (.new 30, 3) := by decide +kernel
theorem dO_init_61 : decode prog_1_method_1_code 61 = .ok (.dup, 1) := by decide +kernel
theorem dO_init_62 : decode prog_1_method_1_code 62 = .ok (.invokespecial 32, 3) := by decide +kernel
theorem dO_init_65 : decode prog_1_method_1_code 65 = .ok (.putfield 37, 3) := by decide +kernel
theorem dO_init_68 : decode prog_1_method_1_code 68 = .ok (.aload_n 0, 1) := by decide +kernel
theorem dO_init_69 : decode prog_1_method_1_code 69 = .ok (.bipush 16, 2) := by decide +kernel
theorem dO_init_71 : decode prog_1_method_1_code 71 = .ok (.newarray .long, 2) := by decide +kernel
theorem dO_init_73 : decode prog_1_method_1_code 73 = .ok (.putfield 40, 3) := by decide +kernel
theorem dO_init_76 : decode prog_1_method_1_code 76 = .ok (.return_, 1) := by decide +kernel
theorem dO_age_0 : decode prog_1_method_2_code 0 = .ok (.iload_n 1, 1) := by decide +kernel
theorem dO_age_1 : decode prog_1_method_2_code 1 = .ok (.iconst 0, 1) := by decide +kernel
theorem dO_age_2 : decode prog_1_method_2_code 2 = .ok (.iconst 5, 1) := by decide +kernel
theorem dO_age_3 : decode prog_1_method_2_code 3 = .ok (.invokestatic 44, 3) := by decide +kernel
theorem dO_age_6 : decode prog_1_method_2_code 6 = .ok (.iload_n 2, 1) := by decide +kernel
theorem dO_age_7 : decode prog_1_method_2_code 7 = .ok (.iconst 0, 1) := by decide +kernel
theorem dO_age_8 : decode prog_1_method_2_code 8 = .ok (.ldc 48, 2) := by decide +kernel
theorem dO_age_10 : decode prog_1_method_2_code 10 = .ok (.invokestatic 49, 3) := by decide +kernel
theorem dO_age_13 : decode prog_1_method_2_code 13 = .ok (.iload_n 3, 1) := by decide +kernel
theorem dO_age_14 : decode prog_1_method_2_code 14 = .ok (.iconst 0, 1) := by decide +kernel
theorem dO_age_15 : decode prog_1_method_2_code 15 = .ok (.sipush 10000, 3) := by decide +kernel
theorem dO_age_18 : decode prog_1_method_2_code 18 = .ok (.invokestatic 49, 3) := by decide +kernel
theorem dO_age_21 : decode prog_1_method_2_code 21 = .ok (.iload 4, 2) := by decide +kernel
theorem dO_age_23 : decode prog_1_method_2_code 23 = .ok (.iconst 0, 1) := by decide +kernel
theorem dO_age_24 : decode prog_1_method_2_code 24 = .ok (.sipush 1000, 3) := by decide +kernel
theorem dO_age_27 : decode prog_1_method_2_code 27 = .ok (.invokestatic 49, 3) := by decide +kernel
theorem dO_age_30 : decode prog_1_method_2_code 30 = .ok (.iload 5, 2) := by decide +kernel
theorem dO_age_32 : decode prog_1_method_2_code 32 = .ok (.iconst 0, 1) := by decide +kernel
theorem dO_age_33 : decode prog_1_method_2_code 33 = .ok (.sipush 1000, 3) := by decide +kernel
theorem dO_age_36 : decode prog_1_method_2_code 36 = .ok (.invokestatic 49, 3) := by decide +kernel
theorem dO_age_39 : decode prog_1_method_2_code 39 = .ok (.aload_n 0, 1) := by decide +kernel
theorem dO_age_40 : decode prog_1_method_2_code 40 = .ok (.getfield 10, 3) := by decide +kernel
theorem dO_age_43 : decode prog_1_method_2_code 43 = .ok (.iload_n 1, 1) := by decide +kernel
theorem dO_age_44 : decode prog_1_method_2_code 44 = .ok (.iload_n 2, 1) := by decide +kernel
theorem dO_age_45 : decode prog_1_method_2_code 45 = .ok (.iload_n 3, 1) := by decide +kernel
theorem dO_age_46 : decode prog_1_method_2_code 46 = .ok (.iload 4, 2) := by decide +kernel
theorem dO_age_48 : decode prog_1_method_2_code 48 = .ok (.iload 5, 2) := by decide +kernel
theorem dO_age_50 : decode prog_1_method_2_code 50 = .ok (.invokevirtual 52, 3) := by decide +kernel
theorem dO_age_53 : decode prog_1_method_2_code 53 = .ok (.return_, 1) := by decide +kernel
theorem dO_young_0 : decode prog_1_method_3_code 0 = .ok (.iload_n 1, 1) := by decide +kernel
theorem dO_young_1 : decode prog_1_method_3_code 1 = .ok (.iconst 0, 1) := by decide +kernel
theorem dO_young_2 : decode prog_1_method_3_code 2 = .ok (.ldc 48, 2) := by decide +kernel
theorem dO_young_4 : decode prog_1_method_3_code 4 = .ok (.invokestatic 49, 3) := by decide +kernel
theorem dO_young_7 : decode prog_1_method_3_code 7 = .ok (.aload_n 0, 1) := by decide +kernel
theorem dO_young_8 : decode prog_1_method_3_code 8 = .ok (.getfield 56, 3) := by decide +kernel
theorem dO_young_11 : decode prog_1_method_3_code 11 = .ok (.istore_n 2, 1) := by decide +kernel
theorem dO_young_12 : decode prog_1_method_3_code 12 = .ok (.aload_n 0, 1) := by decide +kernel
theorem dO_young_13 : decode prog_1_method_3_code 13 = .ok (.iload_n 1, 1) := by decide +kernel
theorem dO_young_14 : decode prog_1_method_3_code 14 = .ok (.putfield 56, 3) := by decide +kernel
theorem dO_young_17 : decode prog_1_method_3_code 17 = .ok (.iload_n 2, 1) := by decide +kernel
theorem dO_young_18 : decode prog_1_method_3_code 18 = .ok (.ireturn, 1) := by decide +kernel
theorem dO_rule_0 : decode prog_1_method_4_code 0 = .ok (.iload_n 2, 1) := by decide +kernel
theorem dO_rule_1 : decode prog_1_method_4_code 1 = .ok (.iconst 0, 1) := by decide +kernel
theorem dO_rule_2 : decode prog_1_method_4_code 2 = .ok (.ldc 59, 2) := by decide +kernel
theorem dO_rule_4 : decode prog_1_method_4_code 4 = .ok (.invokestatic 49, 3) := by decide +kernel
theorem dO_rule_7 : decode prog_1_method_4_code 7 = .ok (.iload_n 1, 1) := by decide +kernel
theorem dO_rule_8 : decode prog_1_method_4_code 8 = .ok (.iconst 0, 1) := by decide +kernel
theorem dO_rule_9 : decode prog_1_method_4_code 9 = .ok (.iload_n 2, 1) := by decide +kernel
theorem dO_rule_10 : decode prog_1_method_4_code 10 = .ok (.invokestatic 49, 3) := by decide +kernel
theorem dO_rule_13 : decode prog_1_method_4_code 13 = .ok (.iload_n 3, 1) := by decide +kernel
theorem dO_rule_14 : decode prog_1_method_4_code 14 = .ok (.iconst 0, 1) := by decide +kernel
theorem dO_rule_15 : decode prog_1_method_4_code 15 = .ok (.sipush 900, 3) := by decide +kernel
theorem dO_rule_18 : decode prog_1_method_4_code 18 = .ok (.invokestatic 49, 3) := by decide +kernel
theorem dO_rule_21 : decode prog_1_method_4_code 21 = .ok (.aload_n 0, 1) := by decide +kernel
theorem dO_rule_22 : decode prog_1_method_4_code 22 = .ok (.getfield 60, 3) := by decide +kernel
theorem dO_rule_25 : decode prog_1_method_4_code 25 = .ok (.bipush 6, 2) := by decide +kernel
theorem dO_rule_27 : decode prog_1_method_4_code 27 = .ok (.if_icmp .lt 13, 3) := by decide +kernel
theorem dO_rule_30 : decode prog_1_method_4_code 30 = .ok (.new 63, 3) := by decide +kernel
theorem dO_rule_33 : decode prog_1_method_4_code 33 = .ok (.dup, 1) := by decide +kernel
theorem dO_rule_34 : decode prog_1_method_4_code 34 = .ok (.ldc 65, 2) := by decide +kernel
theorem dO_rule_36 : decode prog_1_method_4_code 36 = .ok (.invokespecial 67, 3) := by decide +kernel
theorem dO_rule_39 : decode prog_1_method_4_code 39 = .ok (.athrow, 1) := by decide +kernel
theorem dO_rule_40 : decode prog_1_method_4_code 40 = .ok (.aload_n 0, 1) := by decide +kernel
theorem dO_rule_41 : decode prog_1_method_4_code 41 = .ok (.getfield 60, 3) := by decide +kernel
theorem dO_rule_44 : decode prog_1_method_4_code 44 = .ok (.istore 4, 2) := by decide +kernel
theorem dO_rule_46 : decode prog_1_method_4_code 46 = .ok (.aload_n 0, 1) := by decide +kernel
theorem dO_rule_47 : decode prog_1_method_4_code 47 = .ok (.getfield 16, 3) := by decide +kernel
theorem dO_rule_50 : decode prog_1_method_4_code 50 = .ok (.iload 4, 2) := by decide +kernel
theorem dO_rule_52 : decode prog_1_method_4_code 52 = .ok (.iload_n 1, 1) := by decide +kernel
theorem dO_rule_53 : decode prog_1_method_4_code 53 = .ok (.iastore, 1) := by decide +kernel
theorem dO_rule_54 : decode prog_1_method_4_code 54 = .ok (.aload_n 0, 1) := by decide +kernel
theorem dO_rule_55 : decode prog_1_method_4_code 55 = .ok (.getfield 20, 3) := by decide +kernel
theorem dO_rule_58 : decode prog_1_method_4_code 58 = .ok (.iload 4, 2) := by decide +kernel
theorem dO_rule_60 : decode prog_1_method_4_code 60 = .ok (.iload_n 2, 1) := by decide +kernel
theorem dO_rule_61 : decode prog_1_method_4_code 61 = .ok (.iastore, 1) := by decide +kernel
theorem dO_rule_62 : decode prog_1_method_4_code 62 = .ok (.aload_n 0, 1) := by decide +kernel
theorem dO_rule_63 : decode prog_1_method_4_code 63 = .ok (.getfield 23, 3) := by decide +kernel
theorem dO_rule_66 : decode prog_1_method_4_code 66 = .ok (.iload 4, 2) := by decide +kernel
theorem dO_rule_68 : decode prog_1_method_4_code 68 = .ok (.iload_n 3, 1) := by decide +kernel
theorem dO_rule_69 : decode prog_1_method_4_code 69 = .ok (.iastore, 1) := by decide +kernel
theorem dO_rule_70 : decode prog_1_method_4_code 70 = .ok (.aload_n 0, 1) := by decide +kernel
theorem dO_rule_71 : decode prog_1_method_4_code 71 = .ok (.iload 4, 2) := by decide +kernel
theorem dO_rule_73 : decode prog_1_method_4_code 73 = .ok (.iconst 1, 1) := by decide +kernel
theorem dO_rule_74 : decode prog_1_method_4_code 74 = .ok (.iadd, 1) := by decide +kernel
theorem dO_rule_75 : decode prog_1_method_4_code 75 = .ok (.putfield 60, 3) := by decide +kernel
theorem dO_rule_78 : decode prog_1_method_4_code 78 = .ok (.iload 4, 2) := by decide +kernel
theorem dO_rule_80 : decode prog_1_method_4_code 80 = .ok (.ireturn, 1) := by decide +kernel
theorem dO_change_0 : decode prog_1_method_5_code 0 = .ok (.iload_n 1, 1) := by decide +kernel
theorem dO_change_1 : decode prog_1_method_5_code 1 = .ok (.iconst 0, 1) := by decide +kernel
theorem dO_change_2 : decode prog_1_method_5_code 2 = .ok (.sipush 1000, 3) := by decide +kernel
theorem dO_change_5 : decode prog_1_method_5_code 5 = .ok (.invokestatic 49, 3) := by decide +kernel
theorem dO_change_8 : decode prog_1_method_5_code 8 = .ok (.aload_n 0, 1) := by decide +kernel
theorem dO_change_9 : decode prog_1_method_5_code 9 = .ok (.getfield 26, 3) := by decide +kernel
theorem dO_change_12 : decode prog_1_method_5_code 12 = .ok (.istore_n 2, 1) := by decide +kernel
theorem dO_change_13 : decode prog_1_method_5_code 13 = .ok (.aload_n 0, 1) := by decide +kernel
theorem dO_change_14 : decode prog_1_method_5_code 14 = .ok (.iload_n 1, 1) := by decide +kernel
theorem dO_change_15 : decode prog_1_method_5_code 15 = .ok (.putfield 26, 3) := by decide +kernel
theorem dO_change_18 : decode prog_1_method_5_code 18 = .ok (.iload_n 2, 1) := by decide +kernel
theorem dO_change_19 : decode prog_1_method_5_code 19 = .ok (.ireturn, 1) := by decide +kernel
theorem dO_error_0 : decode prog_1_method_6_code 0 = .ok (.iload_n 1, 1) := by decide +kernel
theorem dO_error_1 : decode prog_1_method_6_code 1 = .ok (.iconst 0, 1) := by decide +kernel
theorem dO_error_2 : decode prog_1_method_6_code 2 = .ok (.bipush 50, 2) := by decide +kernel
theorem dO_error_4 : decode prog_1_method_6_code 4 = .ok (.invokestatic 49, 3) := by decide +kernel
theorem dO_error_7 : decode prog_1_method_6_code 7 = .ok (.iload_n 2, 1) := by decide +kernel
theorem dO_error_8 : decode prog_1_method_6_code 8 = .ok (.iconst 0, 1) := by decide +kernel
theorem dO_error_9 : decode prog_1_method_6_code 9 = .ok (.iconst 3, 1) := by decide +kernel
theorem dO_error_10 : decode prog_1_method_6_code 10 = .ok (.invokestatic 49, 3) := by decide +kernel
theorem dO_error_13 : decode prog_1_method_6_code 13 = .ok (.aload_n 0, 1) := by decide +kernel
theorem dO_error_14 : decode prog_1_method_6_code 14 = .ok (.iload_n 1, 1) := by decide +kernel
theorem dO_error_15 : decode prog_1_method_6_code 15 = .ok (.putfield 70, 3) := by decide +kernel
theorem dO_error_18 : decode prog_1_method_6_code 18 = .ok (.aload_n 0, 1) := by decide +kernel
theorem dO_error_19 : decode prog_1_method_6_code 19 = .ok (.iload_n 2, 1) := by decide +kernel
theorem dO_error_20 : decode prog_1_method_6_code 20 = .ok (.putfield 73, 3) := by decide +kernel
theorem dO_error_23 : decode prog_1_method_6_code 23 = .ok (.return_, 1) := by decide +kernel
theorem dO_mark_0 : decode prog_1_method_7_code 0 = .ok (.iload_n 1, 1) := by decide +kernel
theorem dO_mark_1 : decode prog_1_method_7_code 1 = .ok (.iconst 0, 1) := by decide +kernel
theorem dO_mark_2 : decode prog_1_method_7_code 2 = .ok (.ldc 76, 2) := by decide +kernel
theorem dO_mark_4 : decode prog_1_method_7_code 4 = .ok (.invokestatic 49, 3) := by decide +kernel
theorem dO_mark_7 : decode prog_1_method_7_code 7 = .ok (.aload_n 0, 1) := by decide +kernel
theorem dO_mark_8 : decode prog_1_method_7_code 8 = .ok (.getfield 77, 3) := by decide +kernel
theorem dO_mark_11 : decode prog_1_method_7_code 11 = .ok (.istore_n 2, 1) := by decide +kernel
theorem dO_mark_12 : decode prog_1_method_7_code 12 = .ok (.aload_n 0, 1) := by decide +kernel
theorem dO_mark_13 : decode prog_1_method_7_code 13 = .ok (.iload_n 1, 1) := by decide +kernel
theorem dO_mark_14 : decode prog_1_method_7_code 14 = .ok (.putfield 77, 3) := by decide +kernel
theorem dO_mark_17 : decode prog_1_method_7_code 17 = .ok (.iload_n 2, 1) := by decide +kernel
theorem dO_mark_18 : decode prog_1_method_7_code 18 = .ok (.ireturn, 1) := by decide +kernel
theorem dO_run_0 : decode prog_1_method_9_code 0 = .ok (.iload_n 1, 1) := by decide +kernel
theorem dO_run_1 : decode prog_1_method_9_code 1 = .ok (.iconst 0, 1) := by decide +kernel
theorem dO_run_2 : decode prog_1_method_9_code 2 = .ok (.aload_n 0, 1) := by decide +kernel
theorem dO_run_3 : decode prog_1_method_9_code 3 = .ok (.getfield 60, 3) := by decide +kernel
theorem dO_run_6 : decode prog_1_method_9_code 6 = .ok (.iconst 1, 1) := by decide +kernel
theorem dO_run_7 : decode prog_1_method_9_code 7 = .ok (.isub, 1) := by decide +kernel
theorem dO_run_8 : decode prog_1_method_9_code 8 = .ok (.invokestatic 44, 3) := by decide +kernel
theorem dO_run_11 : decode prog_1_method_9_code 11 = .ok (.iload_n 2, 1) := by decide +kernel
theorem dO_run_12 : decode prog_1_method_9_code 12 = .ok (.iconst 1, 1) := by decide +kernel
theorem dO_run_13 : decode prog_1_method_9_code 13 = .ok (.bipush 20, 2) := by decide +kernel
theorem dO_run_15 : decode prog_1_method_9_code 15 = .ok (.invokestatic 49, 3) := by decide +kernel
theorem dO_run_18 : decode prog_1_method_9_code 18 = .ok (.iload_n 3, 1) := by decide +kernel
theorem dO_run_19 : decode prog_1_method_9_code 19 = .ok (.iconst 1, 1) := by decide +kernel
theorem dO_run_20 : decode prog_1_method_9_code 20 = .ok (.bipush 16, 2) := by decide +kernel
theorem dO_run_22 : decode prog_1_method_9_code 22 = .ok (.invokestatic 49, 3) := by decide +kernel
theorem dO_run_25 : decode prog_1_method_9_code 25 = .ok (.aload_n 0, 1) := by decide +kernel
theorem dO_run_26 : decode prog_1_method_9_code 26 = .ok (.iload_n 1, 1) := by decide +kernel
theorem dO_run_27 : decode prog_1_method_9_code 27 = .ok (.putfield 81, 3) := by decide +kernel
theorem dO_run_30 : decode prog_1_method_9_code 30 = .ok (.aload_n 0, 1) := by decide +kernel
theorem dO_run_31 : decode prog_1_method_9_code 31 = .ok (.iload_n 2, 1) := by decide +kernel
theorem dO_run_32 : decode prog_1_method_9_code 32 = .ok (.putfield 84, 3) := by decide +kernel
theorem dO_run_35 : decode prog_1_method_9_code 35 = .ok (.aload_n 0, 1) := by decide +kernel
theorem dO_run_36 : decode prog_1_method_9_code 36 = .ok (.iload_n 3, 1) := by decide +kernel
theorem dO_run_37 : decode prog_1_method_9_code 37 = .ok (.putfield 87, 3) := by decide +kernel
theorem dO_run_40 : decode prog_1_method_9_code 40 = .ok (.aload_n 0, 1) := by decide +kernel
theorem dO_run_41 : decode prog_1_method_9_code 41 = .ok (.dup, 1) := by decide +kernel
theorem dO_run_42 : decode prog_1_method_9_code 42 = .ok (.getfield 90, 3) := by decide +kernel
theorem dO_run_45 : decode prog_1_method_9_code 45 = .ok (.iconst 1, 1) := by decide +kernel
theorem dO_run_46 : decode prog_1_method_9_code 46 = .ok (.iadd, 1) := by decide +kernel
theorem dO_run_47 : decode prog_1_method_9_code 47 = .ok (.putfield 90, 3) := by decide +kernel
theorem dO_run_50 : decode prog_1_method_9_code 50 = .ok (.aload_n 0, 1) := by decide +kernel
theorem dO_run_51 : decode prog_1_method_9_code 51 = .ok (.aload_n 0, 1) := by decide +kernel
theorem dO_run_52 : decode prog_1_method_9_code 52 = .ok (.getfield 33, 3) := by decide +kernel
theorem dO_run_55 : decode prog_1_method_9_code 55 = .ok (.aload_n 0, 1) := by decide +kernel
theorem dO_run_56 : decode prog_1_method_9_code 56 = .ok (.getfield 23, 3) := by decide +kernel
theorem dO_run_59 : decode prog_1_method_9_code 59 = .ok (.iload_n 1, 1) := by decide +kernel
theorem dO_run_60 : decode prog_1_method_9_code 60 = .ok (.iaload, 1) := by decide +kernel
theorem dO_run_61 : decode prog_1_method_9_code 61 = .ok (.invokevirtual 93, 3) := by decide +kernel
theorem dO_run_64 : decode prog_1_method_9_code 64 = .ok (.aload_n 0, 1) := by decide +kernel
theorem dO_run_65 : decode prog_1_method_9_code 65 = .ok (.invokevirtual 97, 3) := by decide +kernel
theorem dO_run_68 : decode prog_1_method_9_code 68 = .ok (.ireturn, 1) := by decide +kernel
theorem dO_told_0 : decode prog_1_method_10_code 0 = .ok (.aload_n 0, 1) := by decide +kernel
theorem dO_told_1 : decode prog_1_method_10_code 1 = .ok (.invokevirtual 101, 3) := by decide +kernel
theorem dO_told_4 : decode prog_1_method_10_code 4 = .ok (.iload_n 1, 1) := by decide +kernel
theorem dO_told_5 : decode prog_1_method_10_code 5 = .ok (.iconst 0, 1) := by decide +kernel
theorem dO_told_6 : decode prog_1_method_10_code 6 = .ok (.aload_n 0, 1) := by decide +kernel
theorem dO_told_7 : decode prog_1_method_10_code 7 = .ok (.getfield 87, 3) := by decide +kernel
theorem dO_told_10 : decode prog_1_method_10_code 10 = .ok (.iconst 1, 1) := by decide +kernel
theorem dO_told_11 : decode prog_1_method_10_code 11 = .ok (.isub, 1) := by decide +kernel
theorem dO_told_12 : decode prog_1_method_10_code 12 = .ok (.invokestatic 44, 3) := by decide +kernel
theorem dO_told_15 : decode prog_1_method_10_code 15 = .ok (.iload_n 2, 1) := by decide +kernel
theorem dO_told_16 : decode prog_1_method_10_code 16 = .ok (.iconst 1, 1) := by decide +kernel
theorem dO_told_17 : decode prog_1_method_10_code 17 = .ok (.aload_n 0, 1) := by decide +kernel
theorem dO_told_18 : decode prog_1_method_10_code 18 = .ok (.getfield 84, 3) := by decide +kernel
theorem dO_told_21 : decode prog_1_method_10_code 21 = .ok (.invokestatic 44, 3) := by decide +kernel
theorem dO_told_24 : decode prog_1_method_10_code 24 = .ok (.iload_n 3, 1) := by decide +kernel
theorem dO_told_25 : decode prog_1_method_10_code 25 = .ok (.iconst 0, 1) := by decide +kernel
theorem dO_told_26 : decode prog_1_method_10_code 26 = .ok (.iconst 3, 1) := by decide +kernel
theorem dO_told_27 : decode prog_1_method_10_code 27 = .ok (.invokestatic 44, 3) := by decide +kernel
theorem dO_told_30 : decode prog_1_method_10_code 30 = .ok (.aload_n 0, 1) := by decide +kernel
theorem dO_told_31 : decode prog_1_method_10_code 31 = .ok (.getfield 33, 3) := by decide +kernel
theorem dO_told_34 : decode prog_1_method_10_code 34 = .ok (.iload_n 3, 1) := by decide +kernel
theorem dO_told_35 : decode prog_1_method_10_code 35 = .ok (.iload_n 1, 1) := by decide +kernel
theorem dO_told_36 : decode prog_1_method_10_code 36 = .ok (.iload_n 2, 1) := by decide +kernel
theorem dO_told_37 : decode prog_1_method_10_code 37 = .ok (.invokevirtual 104, 3) := by decide +kernel
theorem dO_told_40 : decode prog_1_method_10_code 40 = .ok (.lreturn, 1) := by decide +kernel
theorem dO_below_0 : decode prog_1_method_11_code 0 = .ok (.aload_n 0, 1) := by decide +kernel
theorem dO_below_1 : decode prog_1_method_11_code 1 = .ok (.invokevirtual 101, 3) := by decide +kernel
theorem dO_below_4 : decode prog_1_method_11_code 4 = .ok (.iload_n 1, 1) := by decide +kernel
theorem dO_below_5 : decode prog_1_method_11_code 5 = .ok (.iconst 1, 1) := by decide +kernel
theorem dO_below_6 : decode prog_1_method_11_code 6 = .ok (.aload_n 0, 1) := by decide +kernel
theorem dO_below_7 : decode prog_1_method_11_code 7 = .ok (.getfield 84, 3) := by decide +kernel
theorem dO_below_10 : decode prog_1_method_11_code 10 = .ok (.invokestatic 44, 3) := by decide +kernel
theorem dO_below_13 : decode prog_1_method_11_code 13 = .ok (.iload_n 2, 1) := by decide +kernel
theorem dO_below_14 : decode prog_1_method_11_code 14 = .ok (.iconst 0, 1) := by decide +kernel
theorem dO_below_15 : decode prog_1_method_11_code 15 = .ok (.iconst 1, 1) := by decide +kernel
theorem dO_below_16 : decode prog_1_method_11_code 16 = .ok (.invokestatic 44, 3) := by decide +kernel
theorem dO_below_19 : decode prog_1_method_11_code 19 = .ok (.iconst 0, 1) := by decide +kernel
theorem dO_below_20 : decode prog_1_method_11_code 20 = .ok (.istore_n 3, 1) := by decide +kernel
theorem dO_below_21 : decode prog_1_method_11_code 21 = .ok (.iconst 0, 1) := by decide +kernel
theorem dO_below_22 : decode prog_1_method_11_code 22 = .ok (.istore 4, 2) := by decide +kernel
theorem dO_below_24 : decode prog_1_method_11_code 24 = .ok (.iload 4, 2) := by decide +kernel
theorem dO_below_26 : decode prog_1_method_11_code 26 = .ok (.aload_n 0, 1) := by decide +kernel
theorem dO_below_27 : decode prog_1_method_11_code 27 = .ok (.getfield 87, 3) := by decide +kernel
theorem dO_below_30 : decode prog_1_method_11_code 30 = .ok (.if_icmp .ge 22, 3) := by decide +kernel
theorem dO_below_33 : decode prog_1_method_11_code 33 = .ok (.aload_n 0, 1) := by decide +kernel
theorem dO_below_34 : decode prog_1_method_11_code 34 = .ok (.iload 4, 2) := by decide +kernel
theorem dO_below_36 : decode prog_1_method_11_code 36 = .ok (.iload_n 1, 1) := by decide +kernel
theorem dO_below_37 : decode prog_1_method_11_code 37 = .ok (.invokevirtual 108, 3) := by decide +kernel
theorem dO_below_40 : decode prog_1_method_11_code 40 = .ok (.ifCond .eq 6, 3) := by decide +kernel
theorem dO_below_43 : decode prog_1_method_11_code 43 = .ok (.iinc 3 1, 3) := by decide +kernel
theorem dO_below_46 : decode prog_1_method_11_code 46 = .ok (.iinc 4 1, 3) := by decide +kernel
theorem dO_below_49 : decode prog_1_method_11_code 49 = .ok (.goto (-25), 3) := by decide +kernel
theorem dO_below_52 : decode prog_1_method_11_code 52 = .ok (.iload_n 3, 1) := by decide +kernel
theorem dO_below_53 : decode prog_1_method_11_code 53 = .ok (.i2l, 1) := by decide +kernel
theorem dO_below_54 : decode prog_1_method_11_code 54 = .ok (.aload_n 0, 1) := by decide +kernel
theorem dO_below_55 : decode prog_1_method_11_code 55 = .ok (.getfield 87, 3) := by decide +kernel
theorem dO_below_58 : decode prog_1_method_11_code 58 = .ok (.i2l, 1) := by decide +kernel
theorem dO_below_59 : decode prog_1_method_11_code 59 = .ok (.iload_n 2, 1) := by decide +kernel
theorem dO_below_60 : decode prog_1_method_11_code 60 = .ok (.invokestatic 112, 3) := by decide +kernel
theorem dO_below_63 : decode prog_1_method_11_code 63 = .ok (.l2i, 1) := by decide +kernel
theorem dO_below_64 : decode prog_1_method_11_code 64 = .ok (.ireturn, 1) := by decide +kernel
theorem dO_steady_0 : decode prog_1_method_12_code 0 = .ok (.aload_n 0, 1) := by decide +kernel
theorem dO_steady_1 : decode prog_1_method_12_code 1 = .ok (.invokevirtual 101, 3) := by decide +kernel
theorem dO_steady_4 : decode prog_1_method_12_code 4 = .ok (.iload_n 1, 1) := by decide +kernel
theorem dO_steady_5 : decode prog_1_method_12_code 5 = .ok (.iconst 0, 1) := by decide +kernel
theorem dO_steady_6 : decode prog_1_method_12_code 6 = .ok (.aload_n 0, 1) := by decide +kernel
theorem dO_steady_7 : decode prog_1_method_12_code 7 = .ok (.getfield 87, 3) := by decide +kernel
theorem dO_steady_10 : decode prog_1_method_12_code 10 = .ok (.iconst 1, 1) := by decide +kernel
theorem dO_steady_11 : decode prog_1_method_12_code 11 = .ok (.isub, 1) := by decide +kernel
theorem dO_steady_12 : decode prog_1_method_12_code 12 = .ok (.invokestatic 44, 3) := by decide +kernel
theorem dO_steady_15 : decode prog_1_method_12_code 15 = .ok (.lconst 0, 1) := by decide +kernel
theorem dO_steady_16 : decode prog_1_method_12_code 16 = .ok (.lstore_n 2, 1) := by decide +kernel
theorem dO_steady_17 : decode prog_1_method_12_code 17 = .ok (.iconst 2, 1) := by decide +kernel
theorem dO_steady_18 : decode prog_1_method_12_code 18 = .ok (.istore 4, 2) := by decide +kernel
theorem dO_steady_20 : decode prog_1_method_12_code 20 = .ok (.iload 4, 2) := by decide +kernel
theorem dO_steady_22 : decode prog_1_method_12_code 22 = .ok (.aload_n 0, 1) := by decide +kernel
theorem dO_steady_23 : decode prog_1_method_12_code 23 = .ok (.getfield 84, 3) := by decide +kernel
theorem dO_steady_26 : decode prog_1_method_12_code 26 = .ok (.if_icmp .gt 40, 3) := by decide +kernel
theorem dO_steady_29 : decode prog_1_method_12_code 29 = .ok (.lload_n 2, 1) := by decide +kernel
theorem dO_steady_30 : decode prog_1_method_12_code 30 = .ok (.aload_n 0, 1) := by decide +kernel
theorem dO_steady_31 : decode prog_1_method_12_code 31 = .ok (.getfield 33, 3) := by decide +kernel
theorem dO_steady_34 : decode prog_1_method_12_code 34 = .ok (.iconst 1, 1) := by decide +kernel
theorem dO_steady_35 : decode prog_1_method_12_code 35 = .ok (.iload_n 1, 1) := by decide +kernel
theorem dO_steady_36 : decode prog_1_method_12_code 36 = .ok (.iload 4, 2) := by decide +kernel
theorem dO_steady_38 : decode prog_1_method_12_code 38 = .ok (.invokevirtual 104, 3) := by decide +kernel
theorem dO_steady_41 : decode prog_1_method_12_code 41 = .ok (.aload_n 0, 1) := by decide +kernel
theorem dO_steady_42 : decode prog_1_method_12_code 42 = .ok (.getfield 33, 3) := by decide +kernel
theorem dO_steady_45 : decode prog_1_method_12_code 45 = .ok (.iconst 1, 1) := by decide +kernel
theorem dO_steady_46 : decode prog_1_method_12_code 46 = .ok (.iload_n 1, 1) := by decide +kernel
theorem dO_steady_47 : decode prog_1_method_12_code 47 = .ok (.iload 4, 2) := by decide +kernel
theorem dO_steady_49 : decode prog_1_method_12_code 49 = .ok (.iconst 1, 1) := by decide +kernel
theorem dO_steady_50 : decode prog_1_method_12_code 50 = .ok (.isub, 1) := by decide +kernel
theorem dO_steady_51 : decode prog_1_method_12_code 51 = .ok (.invokevirtual 104, 3) := by decide +kernel
theorem dO_steady_54 : decode prog_1_method_12_code 54 = .ok (.lsub, 1) := by decide +kernel
theorem dO_steady_55 : decode prog_1_method_12_code 55 = .ok (.invokestatic 116, 3) := by decide +kernel
theorem dO_steady_58 : decode prog_1_method_12_code 58 = .ok (.ladd, 1) := by decide +kernel
theorem dO_steady_59 : decode prog_1_method_12_code 59 = .ok (.lstore_n 2, 1) := by decide +kernel
theorem dO_steady_60 : decode prog_1_method_12_code 60 = .ok (.iinc 4 1, 3) := by decide +kernel
theorem dO_steady_63 : decode prog_1_method_12_code 63 = .ok (.goto (-43), 3) := by decide +kernel
theorem dO_steady_66 : decode prog_1_method_12_code 66 = .ok (.lload_n 2, 1) := by decide +kernel
theorem dO_steady_67 : decode prog_1_method_12_code 67 = .ok (.lreturn, 1) := by decide +kernel
theorem dO_recovers_0 : decode prog_1_method_13_code 0 = .ok (.aload_n 0, 1) := by decide +kernel
theorem dO_recovers_1 : decode prog_1_method_13_code 1 = .ok (.invokevirtual 101, 3) := by decide +kernel
theorem dO_recovers_4 : decode prog_1_method_13_code 4 = .ok (.iload_n 1, 1) := by decide +kernel
theorem dO_recovers_5 : decode prog_1_method_13_code 5 = .ok (.iconst 0, 1) := by decide +kernel
theorem dO_recovers_6 : decode prog_1_method_13_code 6 = .ok (.aload_n 0, 1) := by decide +kernel
theorem dO_recovers_7 : decode prog_1_method_13_code 7 = .ok (.getfield 87, 3) := by decide +kernel
theorem dO_recovers_10 : decode prog_1_method_13_code 10 = .ok (.iconst 1, 1) := by decide +kernel
theorem dO_recovers_11 : decode prog_1_method_13_code 11 = .ok (.isub, 1) := by decide +kernel
theorem dO_recovers_12 : decode prog_1_method_13_code 12 = .ok (.invokestatic 44, 3) := by decide +kernel
theorem dO_recovers_15 : decode prog_1_method_13_code 15 = .ok (.iload_n 2, 1) := by decide +kernel
theorem dO_recovers_16 : decode prog_1_method_13_code 16 = .ok (.iconst 1, 1) := by decide +kernel
theorem dO_recovers_17 : decode prog_1_method_13_code 17 = .ok (.bipush 20, 2) := by decide +kernel
theorem dO_recovers_19 : decode prog_1_method_13_code 19 = .ok (.invokestatic 49, 3) := by decide +kernel
theorem dO_recovers_22 : decode prog_1_method_13_code 22 = .ok (.iconst 0, 1) := by decide +kernel
theorem dO_recovers_23 : decode prog_1_method_13_code 23 = .ok (.istore_n 3, 1) := by decide +kernel
theorem dO_recovers_24 : decode prog_1_method_13_code 24 = .ok (.iconst 1, 1) := by decide +kernel
theorem dO_recovers_25 : decode prog_1_method_13_code 25 = .ok (.istore 4, 2) := by decide +kernel
theorem dO_recovers_27 : decode prog_1_method_13_code 27 = .ok (.iload 4, 2) := by decide +kernel
theorem dO_recovers_29 : decode prog_1_method_13_code 29 = .ok (.aload_n 0, 1) := by decide +kernel
theorem dO_recovers_30 : decode prog_1_method_13_code 30 = .ok (.getfield 84, 3) := by decide +kernel
theorem dO_recovers_33 : decode prog_1_method_13_code 33 = .ok (.if_icmp .gt 39, 3) := by decide +kernel
theorem dO_recovers_36 : decode prog_1_method_13_code 36 = .ok (.aload_n 0, 1) := by decide +kernel
theorem dO_recovers_37 : decode prog_1_method_13_code 37 = .ok (.iload_n 1, 1) := by decide +kernel
theorem dO_recovers_38 : decode prog_1_method_13_code 38 = .ok (.iload 4, 2) := by decide +kernel
theorem dO_recovers_40 : decode prog_1_method_13_code 40 = .ok (.invokevirtual 108, 3) := by decide +kernel
theorem dO_recovers_43 : decode prog_1_method_13_code 43 = .ok (.ifCond .eq 7, 3) := by decide +kernel
theorem dO_recovers_46 : decode prog_1_method_13_code 46 = .ok (.iconst 0, 1) := by decide +kernel
theorem dO_recovers_47 : decode prog_1_method_13_code 47 = .ok (.goto 6, 3) := by decide +kernel
theorem dO_recovers_50 : decode prog_1_method_13_code 50 = .ok (.iload_n 3, 1) := by decide +kernel
theorem dO_recovers_51 : decode prog_1_method_13_code 51 = .ok (.iconst 1, 1) := by decide +kernel
theorem dO_recovers_52 : decode prog_1_method_13_code 52 = .ok (.iadd, 1) := by decide +kernel
theorem dO_recovers_53 : decode prog_1_method_13_code 53 = .ok (.istore_n 3, 1) := by decide +kernel
theorem dO_recovers_54 : decode prog_1_method_13_code 54 = .ok (.iload_n 3, 1) := by decide +kernel
theorem dO_recovers_55 : decode prog_1_method_13_code 55 = .ok (.iload_n 2, 1) := by decide +kernel
theorem dO_recovers_56 : decode prog_1_method_13_code 56 = .ok (.if_icmp .ne 10, 3) := by decide +kernel
theorem dO_recovers_59 : decode prog_1_method_13_code 59 = .ok (.iload 4, 2) := by decide +kernel
theorem dO_recovers_61 : decode prog_1_method_13_code 61 = .ok (.iload_n 2, 1) := by decide +kernel
theorem dO_recovers_62 : decode prog_1_method_13_code 62 = .ok (.isub, 1) := by decide +kernel
theorem dO_recovers_63 : decode prog_1_method_13_code 63 = .ok (.iconst 1, 1) := by decide +kernel
theorem dO_recovers_64 : decode prog_1_method_13_code 64 = .ok (.iadd, 1) := by decide +kernel
theorem dO_recovers_65 : decode prog_1_method_13_code 65 = .ok (.ireturn, 1) := by decide +kernel
theorem dO_recovers_66 : decode prog_1_method_13_code 66 = .ok (.iinc 4 1, 3) := by decide +kernel
theorem dO_recovers_69 : decode prog_1_method_13_code 69 = .ok (.goto (-42), 3) := by decide +kernel
theorem dO_recovers_72 : decode prog_1_method_13_code 72 = .ok (.iconst (-1), 1) := by decide +kernel
theorem dO_recovers_73 : decode prog_1_method_13_code 73 = .ok (.ireturn, 1) := by decide +kernel
theorem dO_rank_0 : decode prog_1_method_14_code 0 = .ok (.aload_n 0, 1) := by decide +kernel
theorem dO_rank_1 : decode prog_1_method_14_code 1 = .ok (.invokevirtual 101, 3) := by decide +kernel
theorem dO_rank_4 : decode prog_1_method_14_code 4 = .ok (.iload_n 1, 1) := by decide +kernel
theorem dO_rank_5 : decode prog_1_method_14_code 5 = .ok (.iconst 1, 1) := by decide +kernel
theorem dO_rank_6 : decode prog_1_method_14_code 6 = .ok (.aload_n 0, 1) := by decide +kernel
theorem dO_rank_7 : decode prog_1_method_14_code 7 = .ok (.getfield 84, 3) := by decide +kernel
theorem dO_rank_10 : decode prog_1_method_14_code 10 = .ok (.invokestatic 44, 3) := by decide +kernel
theorem dO_rank_13 : decode prog_1_method_14_code 13 = .ok (.iload_n 2, 1) := by decide +kernel
theorem dO_rank_14 : decode prog_1_method_14_code 14 = .ok (.iconst 0, 1) := by decide +kernel
theorem dO_rank_15 : decode prog_1_method_14_code 15 = .ok (.aload_n 0, 1) := by decide +kernel
theorem dO_rank_16 : decode prog_1_method_14_code 16 = .ok (.getfield 87, 3) := by decide +kernel
theorem dO_rank_19 : decode prog_1_method_14_code 19 = .ok (.iconst 1, 1) := by decide +kernel
theorem dO_rank_20 : decode prog_1_method_14_code 20 = .ok (.isub, 1) := by decide +kernel
theorem dO_rank_21 : decode prog_1_method_14_code 21 = .ok (.invokestatic 44, 3) := by decide +kernel
theorem dO_rank_24 : decode prog_1_method_14_code 24 = .ok (.iconst 0, 1) := by decide +kernel
theorem dO_rank_25 : decode prog_1_method_14_code 25 = .ok (.istore_n 3, 1) := by decide +kernel
theorem dO_rank_26 : decode prog_1_method_14_code 26 = .ok (.iload_n 3, 1) := by decide +kernel
theorem dO_rank_27 : decode prog_1_method_14_code 27 = .ok (.aload_n 0, 1) := by decide +kernel
theorem dO_rank_28 : decode prog_1_method_14_code 28 = .ok (.getfield 87, 3) := by decide +kernel
theorem dO_rank_31 : decode prog_1_method_14_code 31 = .ok (.if_icmp .ge 24, 3) := by decide +kernel
theorem dO_rank_34 : decode prog_1_method_14_code 34 = .ok (.aload_n 0, 1) := by decide +kernel
theorem dO_rank_35 : decode prog_1_method_14_code 35 = .ok (.iload_n 3, 1) := by decide +kernel
theorem dO_rank_36 : decode prog_1_method_14_code 36 = .ok (.aload_n 0, 1) := by decide +kernel
theorem dO_rank_37 : decode prog_1_method_14_code 37 = .ok (.getfield 33, 3) := by decide +kernel
theorem dO_rank_40 : decode prog_1_method_14_code 40 = .ok (.iconst 0, 1) := by decide +kernel
theorem dO_rank_41 : decode prog_1_method_14_code 41 = .ok (.iload_n 3, 1) := by decide +kernel
theorem dO_rank_42 : decode prog_1_method_14_code 42 = .ok (.iload_n 1, 1) := by decide +kernel
theorem dO_rank_43 : decode prog_1_method_14_code 43 = .ok (.invokevirtual 104, 3) := by decide +kernel
theorem dO_rank_46 : decode prog_1_method_14_code 46 = .ok (.invokevirtual 122, 3) := by decide +kernel
theorem dO_rank_49 : decode prog_1_method_14_code 49 = .ok (.iinc 3 1, 3) := by decide +kernel
theorem dO_rank_52 : decode prog_1_method_14_code 52 = .ok (.goto (-26), 3) := by decide +kernel
theorem dO_rank_55 : decode prog_1_method_14_code 55 = .ok (.aload_n 0, 1) := by decide +kernel
theorem dO_rank_56 : decode prog_1_method_14_code 56 = .ok (.getfield 40, 3) := by decide +kernel
theorem dO_rank_59 : decode prog_1_method_14_code 59 = .ok (.iload_n 2, 1) := by decide +kernel
theorem dO_rank_60 : decode prog_1_method_14_code 60 = .ok (.laload, 1) := by decide +kernel
theorem dO_rank_61 : decode prog_1_method_14_code 61 = .ok (.lreturn, 1) := by decide +kernel
theorem dO_mean_0 : decode prog_1_method_15_code 0 = .ok (.aload_n 0, 1) := by decide +kernel
theorem dO_mean_1 : decode prog_1_method_15_code 1 = .ok (.invokevirtual 101, 3) := by decide +kernel
theorem dO_mean_4 : decode prog_1_method_15_code 4 = .ok (.iload_n 1, 1) := by decide +kernel
theorem dO_mean_5 : decode prog_1_method_15_code 5 = .ok (.iconst 0, 1) := by decide +kernel
theorem dO_mean_6 : decode prog_1_method_15_code 6 = .ok (.iconst 1, 1) := by decide +kernel
theorem dO_mean_7 : decode prog_1_method_15_code 7 = .ok (.invokestatic 44, 3) := by decide +kernel
theorem dO_mean_10 : decode prog_1_method_15_code 10 = .ok (.iload_n 2, 1) := by decide +kernel
theorem dO_mean_11 : decode prog_1_method_15_code 11 = .ok (.iconst 0, 1) := by decide +kernel
theorem dO_mean_12 : decode prog_1_method_15_code 12 = .ok (.iconst 1, 1) := by decide +kernel
theorem dO_mean_13 : decode prog_1_method_15_code 13 = .ok (.invokestatic 44, 3) := by decide +kernel
theorem dO_mean_16 : decode prog_1_method_15_code 16 = .ok (.iload_n 1, 1) := by decide +kernel
theorem dO_mean_17 : decode prog_1_method_15_code 17 = .ok (.ifCond .ne 28, 3) := by decide +kernel
theorem dO_mean_20 : decode prog_1_method_15_code 20 = .ok (.aload_n 0, 1) := by decide +kernel
theorem dO_mean_21 : decode prog_1_method_15_code 21 = .ok (.aload_n 0, 1) := by decide +kernel
theorem dO_mean_22 : decode prog_1_method_15_code 22 = .ok (.getfield 33, 3) := by decide +kernel
theorem dO_mean_25 : decode prog_1_method_15_code 25 = .ok (.iconst 1, 1) := by decide +kernel
theorem dO_mean_26 : decode prog_1_method_15_code 26 = .ok (.iconst 1, 1) := by decide +kernel
theorem dO_mean_27 : decode prog_1_method_15_code 27 = .ok (.invokevirtual 126, 3) := by decide +kernel
theorem dO_mean_30 : decode prog_1_method_15_code 30 = .ok (.aload_n 0, 1) := by decide +kernel
theorem dO_mean_31 : decode prog_1_method_15_code 31 = .ok (.getfield 87, 3) := by decide +kernel
theorem dO_mean_34 : decode prog_1_method_15_code 34 = .ok (.aload_n 0, 1) := by decide +kernel
theorem dO_mean_35 : decode prog_1_method_15_code 35 = .ok (.getfield 84, 3) := by decide +kernel
theorem dO_mean_38 : decode prog_1_method_15_code 38 = .ok (.imul, 1) := by decide +kernel
theorem dO_mean_39 : decode prog_1_method_15_code 39 = .ok (.i2l, 1) := by decide +kernel
theorem dO_mean_40 : decode prog_1_method_15_code 40 = .ok (.iload_n 2, 1) := by decide +kernel
theorem dO_mean_41 : decode prog_1_method_15_code 41 = .ok (.invokestatic 112, 3) := by decide +kernel
theorem dO_mean_44 : decode prog_1_method_15_code 44 = .ok (.lreturn, 1) := by decide +kernel
theorem dO_mean_45 : decode prog_1_method_15_code 45 = .ok (.aload_n 0, 1) := by decide +kernel
theorem dO_mean_46 : decode prog_1_method_15_code 46 = .ok (.aload_n 0, 1) := by decide +kernel
theorem dO_mean_47 : decode prog_1_method_15_code 47 = .ok (.getfield 33, 3) := by decide +kernel
theorem dO_mean_50 : decode prog_1_method_15_code 50 = .ok (.iconst 0, 1) := by decide +kernel
theorem dO_mean_51 : decode prog_1_method_15_code 51 = .ok (.aload_n 0, 1) := by decide +kernel
theorem dO_mean_52 : decode prog_1_method_15_code 52 = .ok (.getfield 84, 3) := by decide +kernel
theorem dO_mean_55 : decode prog_1_method_15_code 55 = .ok (.invokevirtual 126, 3) := by decide +kernel
theorem dO_mean_58 : decode prog_1_method_15_code 58 = .ok (.aload_n 0, 1) := by decide +kernel
theorem dO_mean_59 : decode prog_1_method_15_code 59 = .ok (.getfield 87, 3) := by decide +kernel
theorem dO_mean_62 : decode prog_1_method_15_code 62 = .ok (.i2l, 1) := by decide +kernel
theorem dO_mean_63 : decode prog_1_method_15_code 63 = .ok (.iload_n 2, 1) := by decide +kernel
theorem dO_mean_64 : decode prog_1_method_15_code 64 = .ok (.invokestatic 112, 3) := by decide +kernel
theorem dO_mean_67 : decode prog_1_method_15_code 67 = .ok (.lreturn, 1) := by decide +kernel
theorem dO_table_0 : decode prog_1_method_16_code 0 = .ok (.aload_n 0, 1) := by decide +kernel
theorem dO_table_1 : decode prog_1_method_16_code 1 = .ok (.invokevirtual 101, 3) := by decide +kernel
theorem dO_table_4 : decode prog_1_method_16_code 4 = .ok (.iload_n 1, 1) := by decide +kernel
theorem dO_table_5 : decode prog_1_method_16_code 5 = .ok (.iconst 0, 1) := by decide +kernel
theorem dO_table_6 : decode prog_1_method_16_code 6 = .ok (.bipush 18, 2) := by decide +kernel
theorem dO_table_8 : decode prog_1_method_16_code 8 = .ok (.invokestatic 44, 3) := by decide +kernel
theorem dO_table_11 : decode prog_1_method_16_code 11 = .ok (.aload_n 0, 1) := by decide +kernel
theorem dO_table_12 : decode prog_1_method_16_code 12 = .ok (.bipush 50, 2) := by decide +kernel
theorem dO_table_14 : decode prog_1_method_16_code 14 = .ok (.iload_n 1, 1) := by decide +kernel
theorem dO_table_15 : decode prog_1_method_16_code 15 = .ok (.imul, 1) := by decide +kernel
theorem dO_table_16 : decode prog_1_method_16_code 16 = .ok (.invokevirtual 130, 3) := by decide +kernel
theorem dO_table_19 : decode prog_1_method_16_code 19 = .ok (.lreturn, 1) := by decide +kernel
theorem dO_top_0 : decode prog_1_method_17_code 0 = .ok (.aload_n 0, 1) := by decide +kernel
theorem dO_top_1 : decode prog_1_method_17_code 1 = .ok (.invokevirtual 101, 3) := by decide +kernel
theorem dO_top_4 : decode prog_1_method_17_code 4 = .ok (.iconst 0, 1) := by decide +kernel
theorem dO_top_5 : decode prog_1_method_17_code 5 = .ok (.istore_n 1, 1) := by decide +kernel
theorem dO_top_6 : decode prog_1_method_17_code 6 = .ok (.aload_n 0, 1) := by decide +kernel
theorem dO_top_7 : decode prog_1_method_17_code 7 = .ok (.iconst 0, 1) := by decide +kernel
theorem dO_top_8 : decode prog_1_method_17_code 8 = .ok (.invokevirtual 130, 3) := by decide +kernel
theorem dO_top_11 : decode prog_1_method_17_code 11 = .ok (.lstore_n 2, 1) := by decide +kernel
theorem dO_top_12 : decode prog_1_method_17_code 12 = .ok (.iconst 1, 1) := by decide +kernel
theorem dO_top_13 : decode prog_1_method_17_code 13 = .ok (.istore 4, 2) := by decide +kernel
theorem dO_top_15 : decode prog_1_method_17_code 15 = .ok (.iload 4, 2) := by decide +kernel
theorem dO_top_17 : decode prog_1_method_17_code 17 = .ok (.bipush 19, 2) := by decide +kernel
theorem dO_top_19 : decode prog_1_method_17_code 19 = .ok (.if_icmp .ge 33, 3) := by decide +kernel
theorem dO_top_22 : decode prog_1_method_17_code 22 = .ok (.aload_n 0, 1) := by decide +kernel
theorem dO_top_23 : decode prog_1_method_17_code 23 = .ok (.bipush 50, 2) := by decide +kernel
theorem dO_top_25 : decode prog_1_method_17_code 25 = .ok (.iload 4, 2) := by decide +kernel
theorem dO_top_27 : decode prog_1_method_17_code 27 = .ok (.imul, 1) := by decide +kernel
theorem dO_top_28 : decode prog_1_method_17_code 28 = .ok (.invokevirtual 130, 3) := by decide +kernel
theorem dO_top_31 : decode prog_1_method_17_code 31 = .ok (.lstore 5, 2) := by decide +kernel
theorem dO_top_33 : decode prog_1_method_17_code 33 = .ok (.lload 5, 2) := by decide +kernel
theorem dO_top_35 : decode prog_1_method_17_code 35 = .ok (.lload_n 2, 1) := by decide +kernel
theorem dO_top_36 : decode prog_1_method_17_code 36 = .ok (.lcmp, 1) := by decide +kernel
theorem dO_top_37 : decode prog_1_method_17_code 37 = .ok (.ifCond .le 9, 3) := by decide +kernel
theorem dO_top_40 : decode prog_1_method_17_code 40 = .ok (.iload 4, 2) := by decide +kernel
theorem dO_top_42 : decode prog_1_method_17_code 42 = .ok (.istore_n 1, 1) := by decide +kernel
theorem dO_top_43 : decode prog_1_method_17_code 43 = .ok (.lload 5, 2) := by decide +kernel
theorem dO_top_45 : decode prog_1_method_17_code 45 = .ok (.lstore_n 2, 1) := by decide +kernel
theorem dO_top_46 : decode prog_1_method_17_code 46 = .ok (.iinc 4 1, 3) := by decide +kernel
theorem dO_top_49 : decode prog_1_method_17_code 49 = .ok (.goto (-34), 3) := by decide +kernel
theorem dO_top_52 : decode prog_1_method_17_code 52 = .ok (.iload_n 1, 1) := by decide +kernel
theorem dO_top_53 : decode prog_1_method_17_code 53 = .ok (.ireturn, 1) := by decide +kernel
theorem dO_count_0 : decode prog_1_method_18_code 0 = .ok (.iload_n 1, 1) := by decide +kernel
theorem dO_count_1 : decode prog_1_method_18_code 1 = .ok (.tableswitch 51 0 3 #[31, 36, 41, 46], 31) := by decide +kernel
theorem dO_count_32 : decode prog_1_method_18_code 32 = .ok (.aload_n 0, 1) := by decide +kernel
theorem dO_count_33 : decode prog_1_method_18_code 33 = .ok (.getfield 60, 3) := by decide +kernel
theorem dO_count_36 : decode prog_1_method_18_code 36 = .ok (.ireturn, 1) := by decide +kernel
theorem dO_count_37 : decode prog_1_method_18_code 37 = .ok (.aload_n 0, 1) := by decide +kernel
theorem dO_count_38 : decode prog_1_method_18_code 38 = .ok (.getfield 84, 3) := by decide +kernel
theorem dO_count_41 : decode prog_1_method_18_code 41 = .ok (.ireturn, 1) := by decide +kernel
theorem dO_count_42 : decode prog_1_method_18_code 42 = .ok (.aload_n 0, 1) := by decide +kernel
theorem dO_count_43 : decode prog_1_method_18_code 43 = .ok (.getfield 87, 3) := by decide +kernel
theorem dO_count_46 : decode prog_1_method_18_code 46 = .ok (.ireturn, 1) := by decide +kernel
theorem dO_count_47 : decode prog_1_method_18_code 47 = .ok (.aload_n 0, 1) := by decide +kernel
theorem dO_count_48 : decode prog_1_method_18_code 48 = .ok (.getfield 90, 3) := by decide +kernel
theorem dO_count_51 : decode prog_1_method_18_code 51 = .ok (.ireturn, 1) := by decide +kernel
theorem dO_count_52 : decode prog_1_method_18_code 52 = .ok (.iconst (-1), 1) := by decide +kernel
theorem dO_count_53 : decode prog_1_method_18_code 53 = .ok (.ireturn, 1) := by decide +kernel
theorem dO_requireRun_0 : decode prog_1_method_33_code 0 = .ok (.aload_n 0, 1) := by decide +kernel
theorem dO_requireRun_1 : decode prog_1_method_33_code 1 = .ok (.getfield 90, 3) := by decide +kernel
theorem dO_requireRun_4 : decode prog_1_method_33_code 4 = .ok (.ifCond .ne 13, 3) := by decide +kernel
theorem dO_requireRun_7 : decode prog_1_method_33_code 7 = .ok (.new 63, 3) := by decide +kernel
theorem dO_requireRun_10 : decode prog_1_method_33_code 10 = .ok (.dup, 1) := by decide +kernel
theorem dO_requireRun_11 : decode prog_1_method_33_code 11 = .ok (.ldc 202, 2) := by decide +kernel
theorem dO_requireRun_13 : decode prog_1_method_33_code 13 = .ok (.invokespecial 67, 3) := by decide +kernel
theorem dO_requireRun_16 : decode prog_1_method_33_code 16 = .ok (.athrow, 1) := by decide +kernel
theorem dO_requireRun_17 : decode prog_1_method_33_code 17 = .ok (.return_, 1) := by decide +kernel
theorem dO_requirePlace_0 : decode prog_1_method_34_code 0 = .ok (.iload_n 0, 1) := by decide +kernel
theorem dO_requirePlace_1 : decode prog_1_method_34_code 1 = .ok (.iload_n 1, 1) := by decide +kernel
theorem dO_requirePlace_2 : decode prog_1_method_34_code 2 = .ok (.if_icmp .lt 8, 3) := by decide +kernel
theorem dO_requirePlace_5 : decode prog_1_method_34_code 5 = .ok (.iload_n 0, 1) := by decide +kernel
theorem dO_requirePlace_6 : decode prog_1_method_34_code 6 = .ok (.iload_n 2, 1) := by decide +kernel
theorem dO_requirePlace_7 : decode prog_1_method_34_code 7 = .ok (.if_icmp .le 13, 3) := by decide +kernel
theorem dO_requirePlace_10 : decode prog_1_method_34_code 10 = .ok (.new 204, 3) := by decide +kernel
theorem dO_requirePlace_13 : decode prog_1_method_34_code 13 = .ok (.dup, 1) := by decide +kernel
theorem dO_requirePlace_14 : decode prog_1_method_34_code 14 = .ok (.ldc 206, 2) := by decide +kernel
theorem dO_requirePlace_16 : decode prog_1_method_34_code 16 = .ok (.invokespecial 208, 3) := by decide +kernel
theorem dO_requirePlace_19 : decode prog_1_method_34_code 19 = .ok (.athrow, 1) := by decide +kernel
theorem dO_requirePlace_20 : decode prog_1_method_34_code 20 = .ok (.return_, 1) := by decide +kernel
theorem dO_requireNumber_0 : decode prog_1_method_35_code 0 = .ok (.iload_n 0, 1) := by decide +kernel
theorem dO_requireNumber_1 : decode prog_1_method_35_code 1 = .ok (.iload_n 1, 1) := by decide +kernel
theorem dO_requireNumber_2 : decode prog_1_method_35_code 2 = .ok (.if_icmp .lt 8, 3) := by decide +kernel
theorem dO_requireNumber_5 : decode prog_1_method_35_code 5 = .ok (.iload_n 0, 1) := by decide +kernel
theorem dO_requireNumber_6 : decode prog_1_method_35_code 6 = .ok (.iload_n 2, 1) := by decide +kernel
theorem dO_requireNumber_7 : decode prog_1_method_35_code 7 = .ok (.if_icmp .le 13, 3) := by decide +kernel
theorem dO_requireNumber_10 : decode prog_1_method_35_code 10 = .ok (.new 209, 3) := by decide +kernel
theorem dO_requireNumber_13 : decode prog_1_method_35_code 13 = .ok (.dup, 1) := by decide +kernel
theorem dO_requireNumber_14 : decode prog_1_method_35_code 14 = .ok (.ldc 211, 2) := by decide +kernel
theorem dO_requireNumber_16 : decode prog_1_method_35_code 16 = .ok (.invokespecial 213, 3) := by decide +kernel
theorem dO_requireNumber_19 : decode prog_1_method_35_code 19 = .ok (.athrow, 1) := by decide +kernel
theorem dO_requireNumber_20 : decode prog_1_method_35_code 20 = .ok (.return_, 1) := by decide +kernel
