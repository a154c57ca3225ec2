theorem dM_thrown_0 : decode prog_5_method_2_code 0 = .ok (.aload_n 0, 1) := by decide +kernel
theorem dM_thrown_1 : decode prog_5_method_2_code 1 = .ok (.getfield 51, 3) := by decide +kernel
theorem dM_thrown_4 : decode prog_5_method_2_code 4 = .ok (.ireturn, 1) := by decide +kernel
theorem dM_isIn_0 : decode prog_5_method_3_code 0 = .ok (.iload_n 0, 1) := by decide +kernel
theorem dM_isIn_1 : decode prog_5_method_3_code 1 = .ok (.iload_n 1, 1) := by decide +kernel
theorem dM_isIn_2 : decode prog_5_method_3_code 2 = .ok (.if_icmp .lt 12, 3) := by decide +kernel
theorem dM_isIn_5 : decode prog_5_method_3_code 5 = .ok (.iload_n 0, 1) := by decide +kernel
theorem dM_isIn_6 : decode prog_5_method_3_code 6 = .ok (.iload_n 2, 1) := by decide +kernel
theorem dM_isIn_7 : decode prog_5_method_3_code 7 = .ok (.if_icmp .gt 7, 3) := by decide +kernel
theorem dM_isIn_10 : decode prog_5_method_3_code 10 = .ok (.iconst 1, 1) := by decide +kernel
theorem dM_isIn_11 : decode prog_5_method_3_code 11 = .ok (.goto 4, 3) := by decide +kernel
theorem dM_isIn_14 : decode prog_5_method_3_code 14 = .ok (.iconst 0, 1) := by decide +kernel
theorem dM_isIn_15 : decode prog_5_method_3_code 15 = .ok (.ireturn, 1) := by decide +kernel
theorem dM_age_0 : decode prog_5_method_4_code 0 = .ok (.iload_n 2, 1) := by decide +kernel
theorem dM_age_1 : decode prog_5_method_4_code 1 = .ok (.iconst 0, 1) := by decide +kernel
theorem dM_age_2 : decode prog_5_method_4_code 2 = .ok (.ldc 54, 2) := by decide +kernel
theorem dM_age_4 : decode prog_5_method_4_code 4 = .ok (.invokestatic 55, 3) := by decide +kernel
theorem dM_age_7 : decode prog_5_method_4_code 7 = .ok (.ifCond .eq 42, 3) := by decide +kernel
theorem dM_age_10 : decode prog_5_method_4_code 10 = .ok (.iload_n 3, 1) := by decide +kernel
theorem dM_age_11 : decode prog_5_method_4_code 11 = .ok (.iconst 0, 1) := by decide +kernel
theorem dM_age_12 : decode prog_5_method_4_code 12 = .ok (.sipush 10000, 3) := by decide +kernel
theorem dM_age_15 : decode prog_5_method_4_code 15 = .ok (.invokestatic 55, 3) := by decide +kernel
theorem dM_age_18 : decode prog_5_method_4_code 18 = .ok (.ifCond .eq 31, 3) := by decide +kernel
theorem dM_age_21 : decode prog_5_method_4_code 21 = .ok (.iload 4, 2) := by decide +kernel
theorem dM_age_23 : decode prog_5_method_4_code 23 = .ok (.iconst 0, 1) := by decide +kernel
theorem dM_age_24 : decode prog_5_method_4_code 24 = .ok (.sipush 1000, 3) := by decide +kernel
theorem dM_age_27 : decode prog_5_method_4_code 27 = .ok (.invokestatic 55, 3) := by decide +kernel
theorem dM_age_30 : decode prog_5_method_4_code 30 = .ok (.ifCond .eq 19, 3) := by decide +kernel
theorem dM_age_33 : decode prog_5_method_4_code 33 = .ok (.iload 5, 2) := by decide +kernel
theorem dM_age_35 : decode prog_5_method_4_code 35 = .ok (.iconst 0, 1) := by decide +kernel
theorem dM_age_36 : decode prog_5_method_4_code 36 = .ok (.sipush 1000, 3) := by decide +kernel
theorem dM_age_39 : decode prog_5_method_4_code 39 = .ok (.invokestatic 55, 3) := by decide +kernel
theorem dM_age_42 : decode prog_5_method_4_code 42 = .ok (.ifCond .eq 7, 3) := by decide +kernel
theorem dM_age_45 : decode prog_5_method_4_code 45 = .ok (.iconst 1, 1) := by decide +kernel
theorem dM_age_46 : decode prog_5_method_4_code 46 = .ok (.goto 4, 3) := by decide +kernel
theorem dM_age_49 : decode prog_5_method_4_code 49 = .ok (.iconst 0, 1) := by decide +kernel
theorem dM_age_50 : decode prog_5_method_4_code 50 = .ok (.istore 6, 2) := by decide +kernel
theorem dM_age_52 : decode prog_5_method_4_code 52 = .ok (.aload_n 0, 1) := by decide +kernel
theorem dM_age_53 : decode prog_5_method_4_code 53 = .ok (.iload_n 1, 1) := by decide +kernel
theorem dM_age_54 : decode prog_5_method_4_code 54 = .ok (.iconst 0, 1) := by decide +kernel
theorem dM_age_55 : decode prog_5_method_4_code 55 = .ok (.iconst 5, 1) := by decide +kernel
theorem dM_age_56 : decode prog_5_method_4_code 56 = .ok (.invokestatic 55, 3) := by decide +kernel
theorem dM_age_59 : decode prog_5_method_4_code 59 = .ok (.ifCond .ne 7, 3) := by decide +kernel
theorem dM_age_62 : decode prog_5_method_4_code 62 = .ok (.iconst 1, 1) := by decide +kernel
theorem dM_age_63 : decode prog_5_method_4_code 63 = .ok (.goto 13, 3) := by decide +kernel
theorem dM_age_66 : decode prog_5_method_4_code 66 = .ok (.iload 6, 2) := by decide +kernel
theorem dM_age_68 : decode prog_5_method_4_code 68 = .ok (.ifCond .ne 7, 3) := by decide +kernel
theorem dM_age_71 : decode prog_5_method_4_code 71 = .ok (.iconst 2, 1) := by decide +kernel
theorem dM_age_72 : decode prog_5_method_4_code 72 = .ok (.goto 4, 3) := by decide +kernel
theorem dM_age_75 : decode prog_5_method_4_code 75 = .ok (.iconst 0, 1) := by decide +kernel
theorem dM_age_76 : decode prog_5_method_4_code 76 = .ok (.putfield 51, 3) := by decide +kernel
theorem dM_age_79 : decode prog_5_method_4_code 79 = .ok (.aload_n 0, 1) := by decide +kernel
theorem dM_age_80 : decode prog_5_method_4_code 80 = .ok (.getfield 51, 3) := by decide +kernel
theorem dM_age_83 : decode prog_5_method_4_code 83 = .ok (.ifCond .ne 37, 3) := by decide +kernel
theorem dM_age_86 : decode prog_5_method_4_code 86 = .ok (.aload_n 0, 1) := by decide +kernel
theorem dM_age_87 : decode prog_5_method_4_code 87 = .ok (.getfield 7, 3) := by decide +kernel
theorem dM_age_90 : decode prog_5_method_4_code 90 = .ok (.iload_n 1, 1) := by decide +kernel
theorem dM_age_91 : decode prog_5_method_4_code 91 = .ok (.iload_n 2, 1) := by decide +kernel
theorem dM_age_92 : decode prog_5_method_4_code 92 = .ok (.i2l, 1) := by decide +kernel
theorem dM_age_93 : decode prog_5_method_4_code 93 = .ok (.lastore, 1) := by decide +kernel
theorem dM_age_94 : decode prog_5_method_4_code 94 = .ok (.aload_n 0, 1) := by decide +kernel
theorem dM_age_95 : decode prog_5_method_4_code 95 = .ok (.getfield 13, 3) := by decide +kernel
theorem dM_age_98 : decode prog_5_method_4_code 98 = .ok (.iload_n 1, 1) := by decide +kernel
theorem dM_age_99 : decode prog_5_method_4_code 99 = .ok (.iload_n 3, 1) := by decide +kernel
theorem dM_age_100 : decode prog_5_method_4_code 100 = .ok (.i2l, 1) := by decide +kernel
theorem dM_age_101 : decode prog_5_method_4_code 101 = .ok (.lastore, 1) := by decide +kernel
theorem dM_age_102 : decode prog_5_method_4_code 102 = .ok (.aload_n 0, 1) := by decide +kernel
theorem dM_age_103 : decode prog_5_method_4_code 103 = .ok (.getfield 16, 3) := by decide +kernel
theorem dM_age_106 : decode prog_5_method_4_code 106 = .ok (.iload_n 1, 1) := by decide +kernel
theorem dM_age_107 : decode prog_5_method_4_code 107 = .ok (.iload 4, 2) := by decide +kernel
theorem dM_age_109 : decode prog_5_method_4_code 109 = .ok (.i2l, 1) := by decide +kernel
theorem dM_age_110 : decode prog_5_method_4_code 110 = .ok (.lastore, 1) := by decide +kernel
theorem dM_age_111 : decode prog_5_method_4_code 111 = .ok (.aload_n 0, 1) := by decide +kernel
theorem dM_age_112 : decode prog_5_method_4_code 112 = .ok (.getfield 19, 3) := by decide +kernel
theorem dM_age_115 : decode prog_5_method_4_code 115 = .ok (.iload_n 1, 1) := by decide +kernel
theorem dM_age_116 : decode prog_5_method_4_code 116 = .ok (.iload 5, 2) := by decide +kernel
theorem dM_age_118 : decode prog_5_method_4_code 118 = .ok (.i2l, 1) := by decide +kernel
theorem dM_age_119 : decode prog_5_method_4_code 119 = .ok (.lastore, 1) := by decide +kernel
theorem dM_age_120 : decode prog_5_method_4_code 120 = .ok (.return_, 1) := by decide +kernel
theorem dM_young_0 : decode prog_5_method_5_code 0 = .ok (.aload_n 0, 1) := by decide +kernel
theorem dM_young_1 : decode prog_5_method_5_code 1 = .ok (.iload_n 1, 1) := by decide +kernel
theorem dM_young_2 : decode prog_5_method_5_code 2 = .ok (.iconst 0, 1) := by decide +kernel
theorem dM_young_3 : decode prog_5_method_5_code 3 = .ok (.ldc 54, 2) := by decide +kernel
theorem dM_young_5 : decode prog_5_method_5_code 5 = .ok (.invokestatic 55, 3) := by decide +kernel
theorem dM_young_8 : decode prog_5_method_5_code 8 = .ok (.ifCond .ne 7, 3) := by decide +kernel
theorem dM_young_11 : decode prog_5_method_5_code 11 = .ok (.iconst 1, 1) := by decide +kernel
theorem dM_young_12 : decode prog_5_method_5_code 12 = .ok (.goto 4, 3) := by decide +kernel
theorem dM_young_15 : decode prog_5_method_5_code 15 = .ok (.iconst 0, 1) := by decide +kernel
theorem dM_young_16 : decode prog_5_method_5_code 16 = .ok (.putfield 51, 3) := by decide +kernel
theorem dM_young_19 : decode prog_5_method_5_code 19 = .ok (.aload_n 0, 1) := by decide +kernel
theorem dM_young_20 : decode prog_5_method_5_code 20 = .ok (.getfield 59, 3) := by decide +kernel
theorem dM_young_23 : decode prog_5_method_5_code 23 = .ok (.istore_n 2, 1) := by decide +kernel
theorem dM_young_24 : decode prog_5_method_5_code 24 = .ok (.aload_n 0, 1) := by decide +kernel
theorem dM_young_25 : decode prog_5_method_5_code 25 = .ok (.aload_n 0, 1) := by decide +kernel
theorem dM_young_26 : decode prog_5_method_5_code 26 = .ok (.getfield 51, 3) := by decide +kernel
theorem dM_young_29 : decode prog_5_method_5_code 29 = .ok (.ifCond .ne 7, 3) := by decide +kernel
theorem dM_young_32 : decode prog_5_method_5_code 32 = .ok (.iload_n 1, 1) := by decide +kernel
theorem dM_young_33 : decode prog_5_method_5_code 33 = .ok (.goto 7, 3) := by decide +kernel
theorem dM_young_36 : decode prog_5_method_5_code 36 = .ok (.aload_n 0, 1) := by decide +kernel
theorem dM_young_37 : decode prog_5_method_5_code 37 = .ok (.getfield 59, 3) := by decide +kernel
theorem dM_young_40 : decode prog_5_method_5_code 40 = .ok (.putfield 59, 3) := by decide +kernel
theorem dM_young_43 : decode prog_5_method_5_code 43 = .ok (.aload_n 0, 1) := by decide +kernel
theorem dM_young_44 : decode prog_5_method_5_code 44 = .ok (.getfield 51, 3) := by decide +kernel
theorem dM_young_47 : decode prog_5_method_5_code 47 = .ok (.ifCond .le 7, 3) := by decide +kernel
theorem dM_young_50 : decode prog_5_method_5_code 50 = .ok (.iconst 0, 1) := by decide +kernel
theorem dM_young_51 : decode prog_5_method_5_code 51 = .ok (.goto 4, 3) := by decide +kernel
theorem dM_young_54 : decode prog_5_method_5_code 54 = .ok (.iload_n 2, 1) := by decide +kernel
theorem dM_young_55 : decode prog_5_method_5_code 55 = .ok (.ireturn, 1) := by decide +kernel
theorem dM_rule_0 : decode prog_5_method_6_code 0 = .ok (.iload_n 1, 1) := by decide +kernel
theorem dM_rule_1 : decode prog_5_method_6_code 1 = .ok (.iconst 0, 1) := by decide +kernel
theorem dM_rule_2 : decode prog_5_method_6_code 2 = .ok (.ldc 62, 2) := by decide +kernel
theorem dM_rule_4 : decode prog_5_method_6_code 4 = .ok (.invokestatic 55, 3) := by decide +kernel
theorem dM_rule_7 : decode prog_5_method_6_code 7 = .ok (.ifCond .eq 33, 3) := by decide +kernel
theorem dM_rule_10 : decode prog_5_method_6_code 10 = .ok (.iload_n 2, 1) := by decide +kernel
theorem dM_rule_11 : decode prog_5_method_6_code 11 = .ok (.iconst 0, 1) := by decide +kernel
theorem dM_rule_12 : decode prog_5_method_6_code 12 = .ok (.ldc 62, 2) := by decide +kernel
theorem dM_rule_14 : decode prog_5_method_6_code 14 = .ok (.invokestatic 55, 3) := by decide +kernel
theorem dM_rule_17 : decode prog_5_method_6_code 17 = .ok (.ifCond .eq 23, 3) := by decide +kernel
theorem dM_rule_20 : decode prog_5_method_6_code 20 = .ok (.iload_n 1, 1) := by decide +kernel
theorem dM_rule_21 : decode prog_5_method_6_code 21 = .ok (.iload_n 2, 1) := by decide +kernel
theorem dM_rule_22 : decode prog_5_method_6_code 22 = .ok (.if_icmp .gt 18, 3) := by decide +kernel
theorem dM_rule_25 : decode prog_5_method_6_code 25 = .ok (.iload_n 3, 1) := by decide +kernel
theorem dM_rule_26 : decode prog_5_method_6_code 26 = .ok (.iconst 0, 1) := by decide +kernel
theorem dM_rule_27 : decode prog_5_method_6_code 27 = .ok (.sipush 900, 3) := by decide +kernel
theorem dM_rule_30 : decode prog_5_method_6_code 30 = .ok (.invokestatic 55, 3) := by decide +kernel
theorem dM_rule_33 : decode prog_5_method_6_code 33 = .ok (.ifCond .eq 7, 3) := by decide +kernel
theorem dM_rule_36 : decode prog_5_method_6_code 36 = .ok (.iconst 1, 1) := by decide +kernel
theorem dM_rule_37 : decode prog_5_method_6_code 37 = .ok (.goto 4, 3) := by decide +kernel
theorem dM_rule_40 : decode prog_5_method_6_code 40 = .ok (.iconst 0, 1) := by decide +kernel
theorem dM_rule_41 : decode prog_5_method_6_code 41 = .ok (.istore 4, 2) := by decide +kernel
theorem dM_rule_43 : decode prog_5_method_6_code 43 = .ok (.aload_n 0, 1) := by decide +kernel
theorem dM_rule_44 : decode prog_5_method_6_code 44 = .ok (.iload 4, 2) := by decide +kernel
theorem dM_rule_46 : decode prog_5_method_6_code 46 = .ok (.ifCond .ne 7, 3) := by decide +kernel
theorem dM_rule_49 : decode prog_5_method_6_code 49 = .ok (.iconst 1, 1) := by decide +kernel
theorem dM_rule_50 : decode prog_5_method_6_code 50 = .ok (.goto 17, 3) := by decide +kernel
theorem dM_rule_53 : decode prog_5_method_6_code 53 = .ok (.aload_n 0, 1) := by decide +kernel
theorem dM_rule_54 : decode prog_5_method_6_code 54 = .ok (.getfield 63, 3) := by decide +kernel
theorem dM_rule_57 : decode prog_5_method_6_code 57 = .ok (.bipush 6, 2) := by decide +kernel
theorem dM_rule_59 : decode prog_5_method_6_code 59 = .ok (.if_icmp .ne 7, 3) := by decide +kernel
theorem dM_rule_62 : decode prog_5_method_6_code 62 = .ok (.iconst 2, 1) := by decide +kernel
theorem dM_rule_63 : decode prog_5_method_6_code 63 = .ok (.goto 4, 3) := by decide +kernel
theorem dM_rule_66 : decode prog_5_method_6_code 66 = .ok (.iconst 0, 1) := by decide +kernel
theorem dM_rule_67 : decode prog_5_method_6_code 67 = .ok (.putfield 51, 3) := by decide +kernel
theorem dM_rule_70 : decode prog_5_method_6_code 70 = .ok (.aload_n 0, 1) := by decide +kernel
theorem dM_rule_71 : decode prog_5_method_6_code 71 = .ok (.getfield 51, 3) := by decide +kernel
theorem dM_rule_74 : decode prog_5_method_6_code 74 = .ok (.ifCond .le 5, 3) := by decide +kernel
theorem dM_rule_77 : decode prog_5_method_6_code 77 = .ok (.iconst 0, 1) := by decide +kernel
theorem dM_rule_78 : decode prog_5_method_6_code 78 = .ok (.ireturn, 1) := by decide +kernel
theorem dM_rule_79 : decode prog_5_method_6_code 79 = .ok (.aload_n 0, 1) := by decide +kernel
theorem dM_rule_80 : decode prog_5_method_6_code 80 = .ok (.getfield 22, 3) := by decide +kernel
theorem dM_rule_83 : decode prog_5_method_6_code 83 = .ok (.aload_n 0, 1) := by decide +kernel
theorem dM_rule_84 : decode prog_5_method_6_code 84 = .ok (.getfield 63, 3) := by decide +kernel
theorem dM_rule_87 : decode prog_5_method_6_code 87 = .ok (.iload_n 1, 1) := by decide +kernel
theorem dM_rule_88 : decode prog_5_method_6_code 88 = .ok (.i2l, 1) := by decide +kernel
theorem dM_rule_89 : decode prog_5_method_6_code 89 = .ok (.lastore, 1) := by decide +kernel
theorem dM_rule_90 : decode prog_5_method_6_code 90 = .ok (.aload_n 0, 1) := by decide +kernel
theorem dM_rule_91 : decode prog_5_method_6_code 91 = .ok (.getfield 25, 3) := by decide +kernel
theorem dM_rule_94 : decode prog_5_method_6_code 94 = .ok (.aload_n 0, 1) := by decide +kernel
theorem dM_rule_95 : decode prog_5_method_6_code 95 = .ok (.getfield 63, 3) := by decide +kernel
theorem dM_rule_98 : decode prog_5_method_6_code 98 = .ok (.iload_n 2, 1) := by decide +kernel
theorem dM_rule_99 : decode prog_5_method_6_code 99 = .ok (.i2l, 1) := by decide +kernel
theorem dM_rule_100 : decode prog_5_method_6_code 100 = .ok (.lastore, 1) := by decide +kernel
theorem dM_rule_101 : decode prog_5_method_6_code 101 = .ok (.aload_n 0, 1) := by decide +kernel
theorem dM_rule_102 : decode prog_5_method_6_code 102 = .ok (.getfield 28, 3) := by decide +kernel
theorem dM_rule_105 : decode prog_5_method_6_code 105 = .ok (.aload_n 0, 1) := by decide +kernel
theorem dM_rule_106 : decode prog_5_method_6_code 106 = .ok (.getfield 63, 3) := by decide +kernel
theorem dM_rule_109 : decode prog_5_method_6_code 109 = .ok (.iload_n 3, 1) := by decide +kernel
theorem dM_rule_110 : decode prog_5_method_6_code 110 = .ok (.iastore, 1) := by decide +kernel
theorem dM_rule_111 : decode prog_5_method_6_code 111 = .ok (.aload_n 0, 1) := by decide +kernel
theorem dM_rule_112 : decode prog_5_method_6_code 112 = .ok (.dup, 1) := by decide +kernel
theorem dM_rule_113 : decode prog_5_method_6_code 113 = .ok (.getfield 63, 3) := by decide +kernel
theorem dM_rule_116 : decode prog_5_method_6_code 116 = .ok (.iconst 1, 1) := by decide +kernel
theorem dM_rule_117 : decode prog_5_method_6_code 117 = .ok (.iadd, 1) := by decide +kernel
theorem dM_rule_118 : decode prog_5_method_6_code 118 = .ok (.putfield 63, 3) := by decide +kernel
theorem dM_rule_121 : decode prog_5_method_6_code 121 = .ok (.aload_n 0, 1) := by decide +kernel
theorem dM_rule_122 : decode prog_5_method_6_code 122 = .ok (.getfield 63, 3) := by decide +kernel
theorem dM_rule_125 : decode prog_5_method_6_code 125 = .ok (.iconst 1, 1) := by decide +kernel
theorem dM_rule_126 : decode prog_5_method_6_code 126 = .ok (.isub, 1) := by decide +kernel
theorem dM_rule_127 : decode prog_5_method_6_code 127 = .ok (.ireturn, 1) := by decide +kernel
theorem dM_change_0 : decode prog_5_method_7_code 0 = .ok (.aload_n 0, 1) := by decide +kernel
theorem dM_change_1 : decode prog_5_method_7_code 1 = .ok (.iload_n 1, 1) := by decide +kernel
theorem dM_change_2 : decode prog_5_method_7_code 2 = .ok (.iconst 0, 1) := by decide +kernel
theorem dM_change_3 : decode prog_5_method_7_code 3 = .ok (.sipush 1000, 3) := by decide +kernel
theorem dM_change_6 : decode prog_5_method_7_code 6 = .ok (.invokestatic 55, 3) := by decide +kernel
theorem dM_change_9 : decode prog_5_method_7_code 9 = .ok (.ifCond .ne 7, 3) := by decide +kernel
theorem dM_change_12 : decode prog_5_method_7_code 12 = .ok (.iconst 1, 1) := by decide +kernel
theorem dM_change_13 : decode prog_5_method_7_code 13 = .ok (.goto 4, 3) := by decide +kernel
theorem dM_change_16 : decode prog_5_method_7_code 16 = .ok (.iconst 0, 1) := by decide +kernel
theorem dM_change_17 : decode prog_5_method_7_code 17 = .ok (.putfield 51, 3) := by decide +kernel
theorem dM_change_20 : decode prog_5_method_7_code 20 = .ok (.aload_n 0, 1) := by decide +kernel
theorem dM_change_21 : decode prog_5_method_7_code 21 = .ok (.getfield 32, 3) := by decide +kernel
theorem dM_change_24 : decode prog_5_method_7_code 24 = .ok (.istore_n 2, 1) := by decide +kernel
theorem dM_change_25 : decode prog_5_method_7_code 25 = .ok (.aload_n 0, 1) := by decide +kernel
theorem dM_change_26 : decode prog_5_method_7_code 26 = .ok (.aload_n 0, 1) := by decide +kernel
theorem dM_change_27 : decode prog_5_method_7_code 27 = .ok (.getfield 51, 3) := by decide +kernel
theorem dM_change_30 : decode prog_5_method_7_code 30 = .ok (.ifCond .ne 7, 3) := by decide +kernel
theorem dM_change_33 : decode prog_5_method_7_code 33 = .ok (.iload_n 1, 1) := by decide +kernel
theorem dM_change_34 : decode prog_5_method_7_code 34 = .ok (.goto 7, 3) := by decide +kernel
theorem dM_change_37 : decode prog_5_method_7_code 37 = .ok (.aload_n 0, 1) := by decide +kernel
theorem dM_change_38 : decode prog_5_method_7_code 38 = .ok (.getfield 32, 3) := by decide +kernel
theorem dM_change_41 : decode prog_5_method_7_code 41 = .ok (.putfield 32, 3) := by decide +kernel
theorem dM_change_44 : decode prog_5_method_7_code 44 = .ok (.aload_n 0, 1) := by decide +kernel
theorem dM_change_45 : decode prog_5_method_7_code 45 = .ok (.getfield 51, 3) := by decide +kernel
theorem dM_change_48 : decode prog_5_method_7_code 48 = .ok (.ifCond .le 7, 3) := by decide +kernel
theorem dM_change_51 : decode prog_5_method_7_code 51 = .ok (.iconst 0, 1) := by decide +kernel
theorem dM_change_52 : decode prog_5_method_7_code 52 = .ok (.goto 4, 3) := by decide +kernel
theorem dM_change_55 : decode prog_5_method_7_code 55 = .ok (.iload_n 2, 1) := by decide +kernel
theorem dM_change_56 : decode prog_5_method_7_code 56 = .ok (.ireturn, 1) := by decide +kernel
theorem dM_error_0 : decode prog_5_method_8_code 0 = .ok (.aload_n 0, 1) := by decide +kernel
theorem dM_error_1 : decode prog_5_method_8_code 1 = .ok (.iload_n 1, 1) := by decide +kernel
theorem dM_error_2 : decode prog_5_method_8_code 2 = .ok (.iconst 0, 1) := by decide +kernel
theorem dM_error_3 : decode prog_5_method_8_code 3 = .ok (.bipush 50, 2) := by decide +kernel
theorem dM_error_5 : decode prog_5_method_8_code 5 = .ok (.invokestatic 55, 3) := by decide +kernel
theorem dM_error_8 : decode prog_5_method_8_code 8 = .ok (.ifCond .eq 12, 3) := by decide +kernel
theorem dM_error_11 : decode prog_5_method_8_code 11 = .ok (.iload_n 2, 1) := by decide +kernel
theorem dM_error_12 : decode prog_5_method_8_code 12 = .ok (.iconst 0, 1) := by decide +kernel
theorem dM_error_13 : decode prog_5_method_8_code 13 = .ok (.iconst 3, 1) := by decide +kernel
theorem dM_error_14 : decode prog_5_method_8_code 14 = .ok (.invokestatic 55, 3) := by decide +kernel
theorem dM_error_17 : decode prog_5_method_8_code 17 = .ok (.ifCond .ne 7, 3) := by decide +kernel
theorem dM_error_20 : decode prog_5_method_8_code 20 = .ok (.iconst 1, 1) := by decide +kernel
theorem dM_error_21 : decode prog_5_method_8_code 21 = .ok (.goto 4, 3) := by decide +kernel
theorem dM_error_24 : decode prog_5_method_8_code 24 = .ok (.iconst 0, 1) := by decide +kernel
theorem dM_error_25 : decode prog_5_method_8_code 25 = .ok (.putfield 51, 3) := by decide +kernel
theorem dM_error_28 : decode prog_5_method_8_code 28 = .ok (.aload_n 0, 1) := by decide +kernel
theorem dM_error_29 : decode prog_5_method_8_code 29 = .ok (.getfield 51, 3) := by decide +kernel
theorem dM_error_32 : decode prog_5_method_8_code 32 = .ok (.ifCond .ne 13, 3) := by decide +kernel
theorem dM_error_35 : decode prog_5_method_8_code 35 = .ok (.aload_n 0, 1) := by decide +kernel
theorem dM_error_36 : decode prog_5_method_8_code 36 = .ok (.iload_n 1, 1) := by decide +kernel
theorem dM_error_37 : decode prog_5_method_8_code 37 = .ok (.putfield 66, 3) := by decide +kernel
theorem dM_error_40 : decode prog_5_method_8_code 40 = .ok (.aload_n 0, 1) := by decide +kernel
theorem dM_error_41 : decode prog_5_method_8_code 41 = .ok (.iload_n 2, 1) := by decide +kernel
theorem dM_error_42 : decode prog_5_method_8_code 42 = .ok (.putfield 69, 3) := by decide +kernel
theorem dM_error_45 : decode prog_5_method_8_code 45 = .ok (.return_, 1) := by decide +kernel
theorem dM_mark_0 : decode prog_5_method_9_code 0 = .ok (.aload_n 0, 1) := by decide +kernel
theorem dM_mark_1 : decode prog_5_method_9_code 1 = .ok (.iload_n 1, 1) := by decide +kernel
theorem dM_mark_2 : decode prog_5_method_9_code 2 = .ok (.ifCond .ge 7, 3) := by decide +kernel
theorem dM_mark_5 : decode prog_5_method_9_code 5 = .ok (.iconst 1, 1) := by decide +kernel
theorem dM_mark_6 : decode prog_5_method_9_code 6 = .ok (.goto 4, 3) := by decide +kernel
theorem dM_mark_9 : decode prog_5_method_9_code 9 = .ok (.iconst 0, 1) := by decide +kernel
theorem dM_mark_10 : decode prog_5_method_9_code 10 = .ok (.putfield 51, 3) := by decide +kernel
theorem dM_mark_13 : decode prog_5_method_9_code 13 = .ok (.aload_n 0, 1) := by decide +kernel
theorem dM_mark_14 : decode prog_5_method_9_code 14 = .ok (.getfield 72, 3) := by decide +kernel
theorem dM_mark_17 : decode prog_5_method_9_code 17 = .ok (.istore_n 2, 1) := by decide +kernel
theorem dM_mark_18 : decode prog_5_method_9_code 18 = .ok (.aload_n 0, 1) := by decide +kernel
theorem dM_mark_19 : decode prog_5_method_9_code 19 = .ok (.aload_n 0, 1) := by decide +kernel
theorem dM_mark_20 : decode prog_5_method_9_code 20 = .ok (.getfield 51, 3) := by decide +kernel
theorem dM_mark_23 : decode prog_5_method_9_code 23 = .ok (.ifCond .ne 7, 3) := by decide +kernel
theorem dM_mark_26 : decode prog_5_method_9_code 26 = .ok (.iload_n 1, 1) := by decide +kernel
theorem dM_mark_27 : decode prog_5_method_9_code 27 = .ok (.goto 7, 3) := by decide +kernel
theorem dM_mark_30 : decode prog_5_method_9_code 30 = .ok (.aload_n 0, 1) := by decide +kernel
theorem dM_mark_31 : decode prog_5_method_9_code 31 = .ok (.getfield 72, 3) := by decide +kernel
theorem dM_mark_34 : decode prog_5_method_9_code 34 = .ok (.putfield 72, 3) := by decide +kernel
theorem dM_mark_37 : decode prog_5_method_9_code 37 = .ok (.aload_n 0, 1) := by decide +kernel
theorem dM_mark_38 : decode prog_5_method_9_code 38 = .ok (.getfield 51, 3) := by decide +kernel
theorem dM_mark_41 : decode prog_5_method_9_code 41 = .ok (.ifCond .le 7, 3) := by decide +kernel
theorem dM_mark_44 : decode prog_5_method_9_code 44 = .ok (.iconst 0, 1) := by decide +kernel
theorem dM_mark_45 : decode prog_5_method_9_code 45 = .ok (.goto 4, 3) := by decide +kernel
theorem dM_mark_48 : decode prog_5_method_9_code 48 = .ok (.iload_n 2, 1) := by decide +kernel
theorem dM_mark_49 : decode prog_5_method_9_code 49 = .ok (.ireturn, 1) := by decide +kernel
theorem dM_drawn_0 : decode prog_5_method_10_code 0 = .ok (.bipush 31, 2) := by decide +kernel
theorem dM_drawn_2 : decode prog_5_method_10_code 2 = .ok (.iload_n 0, 1) := by decide +kernel
theorem dM_drawn_3 : decode prog_5_method_10_code 3 = .ok (.imul, 1) := by decide +kernel
theorem dM_drawn_4 : decode prog_5_method_10_code 4 = .ok (.bipush 7, 2) := by decide +kernel
theorem dM_drawn_6 : decode prog_5_method_10_code 6 = .ok (.iload_n 1, 1) := by decide +kernel
theorem dM_drawn_7 : decode prog_5_method_10_code 7 = .ok (.imul, 1) := by decide +kernel
theorem dM_drawn_8 : decode prog_5_method_10_code 8 = .ok (.iadd, 1) := by decide +kernel
theorem dM_drawn_9 : decode prog_5_method_10_code 9 = .ok (.iload_n 2, 1) := by decide +kernel
theorem dM_drawn_10 : decode prog_5_method_10_code 10 = .ok (.iadd, 1) := by decide +kernel
theorem dM_drawn_11 : decode prog_5_method_10_code 11 = .ok (.istore_n 3, 1) := by decide +kernel
theorem dM_drawn_12 : decode prog_5_method_10_code 12 = .ok (.iconst 0, 1) := by decide +kernel
theorem dM_drawn_13 : decode prog_5_method_10_code 13 = .ok (.istore 4, 2) := by decide +kernel
theorem dM_drawn_15 : decode prog_5_method_10_code 15 = .ok (.iload 4, 2) := by decide +kernel
theorem dM_drawn_17 : decode prog_5_method_10_code 17 = .ok (.iconst 2, 1) := by decide +kernel
theorem dM_drawn_18 : decode prog_5_method_10_code 18 = .ok (.if_icmp .ge 18, 3) := by decide +kernel
theorem dM_drawn_21 : decode prog_5_method_10_code 21 = .ok (.iload_n 3, 1) := by decide +kernel
theorem dM_drawn_22 : decode prog_5_method_10_code 22 = .ok (.ldc 75, 2) := by decide +kernel
theorem dM_drawn_24 : decode prog_5_method_10_code 24 = .ok (.imul, 1) := by decide +kernel
theorem dM_drawn_25 : decode prog_5_method_10_code 25 = .ok (.sipush 12345, 3) := by decide +kernel
theorem dM_drawn_28 : decode prog_5_method_10_code 28 = .ok (.iadd, 1) := by decide +kernel
theorem dM_drawn_29 : decode prog_5_method_10_code 29 = .ok (.istore_n 3, 1) := by decide +kernel
theorem dM_drawn_30 : decode prog_5_method_10_code 30 = .ok (.iinc 4 1, 3) := by decide +kernel
theorem dM_drawn_33 : decode prog_5_method_10_code 33 = .ok (.goto (-18), 3) := by decide +kernel
theorem dM_drawn_36 : decode prog_5_method_10_code 36 = .ok (.iload_n 3, 1) := by decide +kernel
theorem dM_drawn_37 : decode prog_5_method_10_code 37 = .ok (.bipush 16, 2) := by decide +kernel
theorem dM_drawn_39 : decode prog_5_method_10_code 39 = .ok (.iushr, 1) := by decide +kernel
theorem dM_drawn_40 : decode prog_5_method_10_code 40 = .ok (.ireturn, 1) := by decide +kernel
theorem dM_draw_0 : decode prog_5_method_11_code 0 = .ok (.aload_n 0, 1) := by decide +kernel
theorem dM_draw_1 : decode prog_5_method_11_code 1 = .ok (.iconst 0, 1) := by decide +kernel
theorem dM_draw_2 : decode prog_5_method_11_code 2 = .ok (.putfield 51, 3) := by decide +kernel
theorem dM_draw_5 : decode prog_5_method_11_code 5 = .ok (.iload_n 1, 1) := by decide +kernel
theorem dM_draw_6 : decode prog_5_method_11_code 6 = .ok (.iload_n 2, 1) := by decide +kernel
theorem dM_draw_7 : decode prog_5_method_11_code 7 = .ok (.iload_n 3, 1) := by decide +kernel
theorem dM_draw_8 : decode prog_5_method_11_code 8 = .ok (.invokestatic 76, 3) := by decide +kernel
theorem dM_draw_11 : decode prog_5_method_11_code 11 = .ok (.ireturn, 1) := by decide +kernel
theorem dM_allowed_0 : decode prog_5_method_12_code 0 = .ok (.lload_n 3, 1) := by decide +kernel
theorem dM_allowed_1 : decode prog_5_method_12_code 1 = .ok (.aload_n 0, 1) := by decide +kernel
theorem dM_allowed_2 : decode prog_5_method_12_code 2 = .ok (.getfield 22, 3) := by decide +kernel
theorem dM_allowed_5 : decode prog_5_method_12_code 5 = .ok (.iload_n 1, 1) := by decide +kernel
theorem dM_allowed_6 : decode prog_5_method_12_code 6 = .ok (.laload, 1) := by decide +kernel
theorem dM_allowed_7 : decode prog_5_method_12_code 7 = .ok (.lcmp, 1) := by decide +kernel
theorem dM_allowed_8 : decode prog_5_method_12_code 8 = .ok (.ifCond .ge 5, 3) := by decide +kernel
theorem dM_allowed_11 : decode prog_5_method_12_code 11 = .ok (.lconst 0, 1) := by decide +kernel
theorem dM_allowed_12 : decode prog_5_method_12_code 12 = .ok (.lreturn, 1) := by decide +kernel
theorem dM_allowed_13 : decode prog_5_method_12_code 13 = .ok (.lload_n 3, 1) := by decide +kernel
theorem dM_allowed_14 : decode prog_5_method_12_code 14 = .ok (.aload_n 0, 1) := by decide +kernel
theorem dM_allowed_15 : decode prog_5_method_12_code 15 = .ok (.getfield 25, 3) := by decide +kernel
theorem dM_allowed_18 : decode prog_5_method_12_code 18 = .ok (.iload_n 1, 1) := by decide +kernel
theorem dM_allowed_19 : decode prog_5_method_12_code 19 = .ok (.laload, 1) := by decide +kernel
theorem dM_allowed_20 : decode prog_5_method_12_code 20 = .ok (.lcmp, 1) := by decide +kernel
theorem dM_allowed_21 : decode prog_5_method_12_code 21 = .ok (.ifCond .lt 6, 3) := by decide +kernel
theorem dM_allowed_24 : decode prog_5_method_12_code 24 = .ok (.iload_n 2, 1) := by decide +kernel
theorem dM_allowed_25 : decode prog_5_method_12_code 25 = .ok (.i2l, 1) := by decide +kernel
theorem dM_allowed_26 : decode prog_5_method_12_code 26 = .ok (.lreturn, 1) := by decide +kernel
theorem dM_allowed_27 : decode prog_5_method_12_code 27 = .ok (.iload_n 2, 1) := by decide +kernel
theorem dM_allowed_28 : decode prog_5_method_12_code 28 = .ok (.i2l, 1) := by decide +kernel
theorem dM_allowed_29 : decode prog_5_method_12_code 29 = .ok (.lload_n 3, 1) := by decide +kernel
theorem dM_allowed_30 : decode prog_5_method_12_code 30 = .ok (.aload_n 0, 1) := by decide +kernel
theorem dM_allowed_31 : decode prog_5_method_12_code 31 = .ok (.getfield 22, 3) := by decide +kernel
theorem dM_allowed_34 : decode prog_5_method_12_code 34 = .ok (.iload_n 1, 1) := by decide +kernel
theorem dM_allowed_35 : decode prog_5_method_12_code 35 = .ok (.laload, 1) := by decide +kernel
theorem dM_allowed_36 : decode prog_5_method_12_code 36 = .ok (.lsub, 1) := by decide +kernel
theorem dM_allowed_37 : decode prog_5_method_12_code 37 = .ok (.lmul, 1) := by decide +kernel
theorem dM_allowed_38 : decode prog_5_method_12_code 38 = .ok (.aload_n 0, 1) := by decide +kernel
theorem dM_allowed_39 : decode prog_5_method_12_code 39 = .ok (.getfield 25, 3) := by decide +kernel
theorem dM_allowed_42 : decode prog_5_method_12_code 42 = .ok (.iload_n 1, 1) := by decide +kernel
theorem dM_allowed_43 : decode prog_5_method_12_code 43 = .ok (.laload, 1) := by decide +kernel
theorem dM_allowed_44 : decode prog_5_method_12_code 44 = .ok (.aload_n 0, 1) := by decide +kernel
theorem dM_allowed_45 : decode prog_5_method_12_code 45 = .ok (.getfield 22, 3) := by decide +kernel
theorem dM_allowed_48 : decode prog_5_method_12_code 48 = .ok (.iload_n 1, 1) := by decide +kernel
theorem dM_allowed_49 : decode prog_5_method_12_code 49 = .ok (.laload, 1) := by decide +kernel
theorem dM_allowed_50 : decode prog_5_method_12_code 50 = .ok (.lsub, 1) := by decide +kernel
theorem dM_allowed_51 : decode prog_5_method_12_code 51 = .ok (.ldiv, 1) := by decide +kernel
theorem dM_allowed_52 : decode prog_5_method_12_code 52 = .ok (.lreturn, 1) := by decide +kernel
theorem dM_year_0 : decode prog_5_method_13_code 0 = .ok (.iload_n 1, 1) := by decide +kernel
theorem dM_year_1 : decode prog_5_method_13_code 1 = .ok (.iload_n 2, 1) := by decide +kernel
theorem dM_year_2 : decode prog_5_method_13_code 2 = .ok (.iadd, 1) := by decide +kernel
theorem dM_year_3 : decode prog_5_method_13_code 3 = .ok (.istore 6, 2) := by decide +kernel
theorem dM_year_5 : decode prog_5_method_13_code 5 = .ok (.lconst 0, 1) := by decide +kernel
theorem dM_year_6 : decode prog_5_method_13_code 6 = .ok (.lstore 7, 2) := by decide +kernel
theorem dM_year_8 : decode prog_5_method_13_code 8 = .ok (.aload_n 0, 1) := by decide +kernel
theorem dM_year_9 : decode prog_5_method_13_code 9 = .ok (.getfield 36, 3) := by decide +kernel
theorem dM_year_12 : decode prog_5_method_13_code 12 = .ok (.iload 6, 2) := by decide +kernel
theorem dM_year_14 : decode prog_5_method_13_code 14 = .ok (.lconst 0, 1) := by decide +kernel
theorem dM_year_15 : decode prog_5_method_13_code 15 = .ok (.lastore, 1) := by decide +kernel
theorem dM_year_16 : decode prog_5_method_13_code 16 = .ok (.iconst 0, 1) := by decide +kernel
theorem dM_year_17 : decode prog_5_method_13_code 17 = .ok (.istore 9, 2) := by decide +kernel
theorem dM_year_19 : decode prog_5_method_13_code 19 = .ok (.iload 9, 2) := by decide +kernel
theorem dM_year_21 : decode prog_5_method_13_code 21 = .ok (.bipush 6, 2) := by decide +kernel
theorem dM_year_23 : decode prog_5_method_13_code 23 = .ok (.if_icmp .ge 71, 3) := by decide +kernel
theorem dM_year_26 : decode prog_5_method_13_code 26 = .ok (.aload_n 0, 1) := by decide +kernel
theorem dM_year_27 : decode prog_5_method_13_code 27 = .ok (.getfield 36, 3) := by decide +kernel
theorem dM_year_30 : decode prog_5_method_13_code 30 = .ok (.iload 6, 2) := by decide +kernel
theorem dM_year_32 : decode prog_5_method_13_code 32 = .ok (.aload_n 0, 1) := by decide +kernel
theorem dM_year_33 : decode prog_5_method_13_code 33 = .ok (.getfield 36, 3) := by decide +kernel
theorem dM_year_36 : decode prog_5_method_13_code 36 = .ok (.iload 6, 2) := by decide +kernel
theorem dM_year_38 : decode prog_5_method_13_code 38 = .ok (.laload, 1) := by decide +kernel
theorem dM_year_39 : decode prog_5_method_13_code 39 = .ok (.aload_n 0, 1) := by decide +kernel
theorem dM_year_40 : decode prog_5_method_13_code 40 = .ok (.getfield 48, 3) := by decide +kernel
theorem dM_year_43 : decode prog_5_method_13_code 43 = .ok (.iload 9, 2) := by decide +kernel
theorem dM_year_45 : decode prog_5_method_13_code 45 = .ok (.laload, 1) := by decide +kernel
theorem dM_year_46 : decode prog_5_method_13_code 46 = .ok (.aload_n 0, 1) := by decide +kernel
theorem dM_year_47 : decode prog_5_method_13_code 47 = .ok (.getfield 13, 3) := by decide +kernel
theorem dM_year_50 : decode prog_5_method_13_code 50 = .ok (.iload 9, 2) := by decide +kernel
theorem dM_year_52 : decode prog_5_method_13_code 52 = .ok (.laload, 1) := by decide +kernel
theorem dM_year_53 : decode prog_5_method_13_code 53 = .ok (.lmul, 1) := by decide +kernel
theorem dM_year_54 : decode prog_5_method_13_code 54 = .ok (.aload_n 0, 1) := by decide +kernel
theorem dM_year_55 : decode prog_5_method_13_code 55 = .ok (.getfield 16, 3) := by decide +kernel
theorem dM_year_58 : decode prog_5_method_13_code 58 = .ok (.iload 9, 2) := by decide +kernel
theorem dM_year_60 : decode prog_5_method_13_code 60 = .ok (.laload, 1) := by decide +kernel
theorem dM_year_61 : decode prog_5_method_13_code 61 = .ok (.lmul, 1) := by decide +kernel
theorem dM_year_62 : decode prog_5_method_13_code 62 = .ok (.ldc2_w 80, 3) := by decide +kernel
theorem dM_year_65 : decode prog_5_method_13_code 65 = .ok (.ldiv, 1) := by decide +kernel
theorem dM_year_66 : decode prog_5_method_13_code 66 = .ok (.ladd, 1) := by decide +kernel
theorem dM_year_67 : decode prog_5_method_13_code 67 = .ok (.lastore, 1) := by decide +kernel
theorem dM_year_68 : decode prog_5_method_13_code 68 = .ok (.lload 7, 2) := by decide +kernel
theorem dM_year_70 : decode prog_5_method_13_code 70 = .ok (.aload_n 0, 1) := by decide +kernel
theorem dM_year_71 : decode prog_5_method_13_code 71 = .ok (.getfield 48, 3) := by decide +kernel
theorem dM_year_74 : decode prog_5_method_13_code 74 = .ok (.iload 9, 2) := by decide +kernel
theorem dM_year_76 : decode prog_5_method_13_code 76 = .ok (.laload, 1) := by decide +kernel
theorem dM_year_77 : decode prog_5_method_13_code 77 = .ok (.aload_n 0, 1) := by decide +kernel
theorem dM_year_78 : decode prog_5_method_13_code 78 = .ok (.getfield 13, 3) := by decide +kernel
theorem dM_year_81 : decode prog_5_method_13_code 81 = .ok (.iload 9, 2) := by decide +kernel
theorem dM_year_83 : decode prog_5_method_13_code 83 = .ok (.laload, 1) := by decide +kernel
theorem dM_year_84 : decode prog_5_method_13_code 84 = .ok (.lmul, 1) := by decide +kernel
theorem dM_year_85 : decode prog_5_method_13_code 85 = .ok (.ladd, 1) := by decide +kernel
theorem dM_year_86 : decode prog_5_method_13_code 86 = .ok (.lstore 7, 2) := by decide +kernel
theorem dM_year_88 : decode prog_5_method_13_code 88 = .ok (.iinc 9 1, 3) := by decide +kernel
theorem dM_year_91 : decode prog_5_method_13_code 91 = .ok (.goto (-72), 3) := by decide +kernel
theorem dM_year_94 : decode prog_5_method_13_code 94 = .ok (.iload_n 2, 1) := by decide +kernel
theorem dM_year_95 : decode prog_5_method_13_code 95 = .ok (.aload_n 0, 1) := by decide +kernel
theorem dM_year_96 : decode prog_5_method_13_code 96 = .ok (.getfield 69, 3) := by decide +kernel
theorem dM_year_99 : decode prog_5_method_13_code 99 = .ok (.isub, 1) := by decide +kernel
theorem dM_year_100 : decode prog_5_method_13_code 100 = .ok (.iconst 1, 1) := by decide +kernel
theorem dM_year_101 : decode prog_5_method_13_code 101 = .ok (.if_icmp .ge 7, 3) := by decide +kernel
theorem dM_year_104 : decode prog_5_method_13_code 104 = .ok (.iconst 1, 1) := by decide +kernel
theorem dM_year_105 : decode prog_5_method_13_code 105 = .ok (.goto 9, 3) := by decide +kernel
theorem dM_year_108 : decode prog_5_method_13_code 108 = .ok (.iload_n 2, 1) := by decide +kernel
theorem dM_year_109 : decode prog_5_method_13_code 109 = .ok (.aload_n 0, 1) := by decide +kernel
theorem dM_year_110 : decode prog_5_method_13_code 110 = .ok (.getfield 69, 3) := by decide +kernel
theorem dM_year_113 : decode prog_5_method_13_code 113 = .ok (.isub, 1) := by decide +kernel
theorem dM_year_114 : decode prog_5_method_13_code 114 = .ok (.istore 9, 2) := by decide +kernel
theorem dM_year_116 : decode prog_5_method_13_code 116 = .ok (.iload_n 3, 1) := by decide +kernel
theorem dM_year_117 : decode prog_5_method_13_code 117 = .ok (.iload_n 2, 1) := by decide +kernel
theorem dM_year_118 : decode prog_5_method_13_code 118 = .ok (.iconst 1, 1) := by decide +kernel
theorem dM_year_119 : decode prog_5_method_13_code 119 = .ok (.invokestatic 76, 3) := by decide +kernel
theorem dM_year_122 : decode prog_5_method_13_code 122 = .ok (.iconst 2, 1) := by decide +kernel
theorem dM_year_123 : decode prog_5_method_13_code 123 = .ok (.aload_n 0, 1) := by decide +kernel
theorem dM_year_124 : decode prog_5_method_13_code 124 = .ok (.getfield 66, 3) := by decide +kernel
theorem dM_year_127 : decode prog_5_method_13_code 127 = .ok (.imul, 1) := by decide +kernel
theorem dM_year_128 : decode prog_5_method_13_code 128 = .ok (.iconst 1, 1) := by decide +kernel
theorem dM_year_129 : decode prog_5_method_13_code 129 = .ok (.iadd, 1) := by decide +kernel
theorem dM_year_130 : decode prog_5_method_13_code 130 = .ok (.irem, 1) := by decide +kernel
theorem dM_year_131 : decode prog_5_method_13_code 131 = .ok (.aload_n 0, 1) := by decide +kernel
theorem dM_year_132 : decode prog_5_method_13_code 132 = .ok (.getfield 66, 3) := by decide +kernel
theorem dM_year_135 : decode prog_5_method_13_code 135 = .ok (.isub, 1) := by decide +kernel
theorem dM_year_136 : decode prog_5_method_13_code 136 = .ok (.istore 10, 2) := by decide +kernel
theorem dM_year_138 : decode prog_5_method_13_code 138 = .ok (.aload_n 0, 1) := by decide +kernel
theorem dM_year_139 : decode prog_5_method_13_code 139 = .ok (.getfield 45, 3) := by decide +kernel
theorem dM_year_142 : decode prog_5_method_13_code 142 = .ok (.iload 6, 2) := by decide +kernel
theorem dM_year_144 : decode prog_5_method_13_code 144 = .ok (.aload_n 0, 1) := by decide +kernel
theorem dM_year_145 : decode prog_5_method_13_code 145 = .ok (.getfield 36, 3) := by decide +kernel
theorem dM_year_148 : decode prog_5_method_13_code 148 = .ok (.iload_n 1, 1) := by decide +kernel
theorem dM_year_149 : decode prog_5_method_13_code 149 = .ok (.iload 9, 2) := by decide +kernel
theorem dM_year_151 : decode prog_5_method_13_code 151 = .ok (.iadd, 1) := by decide +kernel
theorem dM_year_152 : decode prog_5_method_13_code 152 = .ok (.laload, 1) := by decide +kernel
theorem dM_year_153 : decode prog_5_method_13_code 153 = .ok (.bipush 100, 2) := by decide +kernel
theorem dM_year_155 : decode prog_5_method_13_code 155 = .ok (.iload 10, 2) := by decide +kernel
theorem dM_year_157 : decode prog_5_method_13_code 157 = .ok (.iadd, 1) := by decide +kernel
theorem dM_year_158 : decode prog_5_method_13_code 158 = .ok (.i2l, 1) := by decide +kernel
theorem dM_year_159 : decode prog_5_method_13_code 159 = .ok (.lmul, 1) := by decide +kernel
theorem dM_year_160 : decode prog_5_method_13_code 160 = .ok (.ldc2_w 82, 3) := by decide +kernel
theorem dM_year_163 : decode prog_5_method_13_code 163 = .ok (.ldiv, 1) := by decide +kernel
theorem dM_year_164 : decode prog_5_method_13_code 164 = .ok (.lastore, 1) := by decide +kernel
theorem dM_year_165 : decode prog_5_method_13_code 165 = .ok (.lload 7, 2) := by decide +kernel
theorem dM_year_167 : decode prog_5_method_13_code 167 = .ok (.aload_n 0, 1) := by decide +kernel
theorem dM_year_168 : decode prog_5_method_13_code 168 = .ok (.iload 4, 2) := by decide +kernel
theorem dM_year_170 : decode prog_5_method_13_code 170 = .ok (.iload 5, 2) := by decide +kernel
theorem dM_year_172 : decode prog_5_method_13_code 172 = .ok (.aload_n 0, 1) := by decide +kernel
theorem dM_year_173 : decode prog_5_method_13_code 173 = .ok (.getfield 45, 3) := by decide +kernel
theorem dM_year_176 : decode prog_5_method_13_code 176 = .ok (.iload 6, 2) := by decide +kernel
theorem dM_year_178 : decode prog_5_method_13_code 178 = .ok (.laload, 1) := by decide +kernel
theorem dM_year_179 : decode prog_5_method_13_code 179 = .ok (.invokevirtual 84, 3) := by decide +kernel
theorem dM_year_182 : decode prog_5_method_13_code 182 = .ok (.lmul, 1) := by decide +kernel
theorem dM_year_183 : decode prog_5_method_13_code 183 = .ok (.ldc2_w 80, 3) := by decide +kernel
theorem dM_year_186 : decode prog_5_method_13_code 186 = .ok (.ldiv, 1) := by decide +kernel
theorem dM_year_187 : decode prog_5_method_13_code 187 = .ok (.lstore 11, 2) := by decide +kernel
theorem dM_year_189 : decode prog_5_method_13_code 189 = .ok (.iload_n 2, 1) := by decide +kernel
theorem dM_year_190 : decode prog_5_method_13_code 190 = .ok (.iconst 1, 1) := by decide +kernel
theorem dM_year_191 : decode prog_5_method_13_code 191 = .ok (.if_icmp .le 84, 3) := by decide +kernel
theorem dM_year_194 : decode prog_5_method_13_code 194 = .ok (.aload_n 0, 1) := by decide +kernel
theorem dM_year_195 : decode prog_5_method_13_code 195 = .ok (.getfield 32, 3) := by decide +kernel
theorem dM_year_198 : decode prog_5_method_13_code 198 = .ok (.sipush 1000, 3) := by decide +kernel
theorem dM_year_201 : decode prog_5_method_13_code 201 = .ok (.if_icmp .ge 74, 3) := by decide +kernel
theorem dM_year_204 : decode prog_5_method_13_code 204 = .ok (.aload_n 0, 1) := by decide +kernel
theorem dM_year_205 : decode prog_5_method_13_code 205 = .ok (.getfield 42, 3) := by decide +kernel
theorem dM_year_208 : decode prog_5_method_13_code 208 = .ok (.iload 6, 2) := by decide +kernel
theorem dM_year_210 : decode prog_5_method_13_code 210 = .ok (.iconst 1, 1) := by decide +kernel
theorem dM_year_211 : decode prog_5_method_13_code 211 = .ok (.isub, 1) := by decide +kernel
theorem dM_year_212 : decode prog_5_method_13_code 212 = .ok (.laload, 1) := by decide +kernel
theorem dM_year_213 : decode prog_5_method_13_code 213 = .ok (.lstore 13, 2) := by decide +kernel
theorem dM_year_215 : decode prog_5_method_13_code 215 = .ok (.lload 13, 2) := by decide +kernel
theorem dM_year_217 : decode prog_5_method_13_code 217 = .ok (.aload_n 0, 1) := by decide +kernel
theorem dM_year_218 : decode prog_5_method_13_code 218 = .ok (.getfield 32, 3) := by decide +kernel
theorem dM_year_221 : decode prog_5_method_13_code 221 = .ok (.i2l, 1) := by decide +kernel
theorem dM_year_222 : decode prog_5_method_13_code 222 = .ok (.lmul, 1) := by decide +kernel
theorem dM_year_223 : decode prog_5_method_13_code 223 = .ok (.ldc2_w 80, 3) := by decide +kernel
theorem dM_year_226 : decode prog_5_method_13_code 226 = .ok (.ldiv, 1) := by decide +kernel
theorem dM_year_227 : decode prog_5_method_13_code 227 = .ok (.lstore 15, 2) := by decide +kernel
theorem dM_year_229 : decode prog_5_method_13_code 229 = .ok (.lload 11, 2) := by decide +kernel
theorem dM_year_231 : decode prog_5_method_13_code 231 = .ok (.lload 13, 2) := by decide +kernel
theorem dM_year_233 : decode prog_5_method_13_code 233 = .ok (.lload 15, 2) := by decide +kernel
theorem dM_year_235 : decode prog_5_method_13_code 235 = .ok (.ladd, 1) := by decide +kernel
theorem dM_year_236 : decode prog_5_method_13_code 236 = .ok (.lcmp, 1) := by decide +kernel
theorem dM_year_237 : decode prog_5_method_13_code 237 = .ok (.ifCond .le 11, 3) := by decide +kernel
theorem dM_year_240 : decode prog_5_method_13_code 240 = .ok (.lload 13, 2) := by decide +kernel
theorem dM_year_242 : decode prog_5_method_13_code 242 = .ok (.lload 15, 2) := by decide +kernel
theorem dM_year_244 : decode prog_5_method_13_code 244 = .ok (.ladd, 1) := by decide +kernel
theorem dM_year_245 : decode prog_5_method_13_code 245 = .ok (.goto 5, 3) := by decide +kernel
theorem dM_year_248 : decode prog_5_method_13_code 248 = .ok (.lload 11, 2) := by decide +kernel
theorem dM_year_250 : decode prog_5_method_13_code 250 = .ok (.lstore 11, 2) := by decide +kernel
theorem dM_year_252 : decode prog_5_method_13_code 252 = .ok (.lload 11, 2) := by decide +kernel
theorem dM_year_254 : decode prog_5_method_13_code 254 = .ok (.lload 13, 2) := by decide +kernel
theorem dM_year_256 : decode prog_5_method_13_code 256 = .ok (.lload 15, 2) := by decide +kernel
theorem dM_year_258 : decode prog_5_method_13_code 258 = .ok (.lsub, 1) := by decide +kernel
theorem dM_year_259 : decode prog_5_method_13_code 259 = .ok (.lcmp, 1) := by decide +kernel
theorem dM_year_260 : decode prog_5_method_13_code 260 = .ok (.ifCond .ge 11, 3) := by decide +kernel
theorem dM_year_263 : decode prog_5_method_13_code 263 = .ok (.lload 13, 2) := by decide +kernel
theorem dM_year_265 : decode prog_5_method_13_code 265 = .ok (.lload 15, 2) := by decide +kernel
theorem dM_year_267 : decode prog_5_method_13_code 267 = .ok (.lsub, 1) := by decide +kernel
theorem dM_year_268 : decode prog_5_method_13_code 268 = .ok (.goto 5, 3) := by decide +kernel
theorem dM_year_271 : decode prog_5_method_13_code 271 = .ok (.lload 11, 2) := by decide +kernel
theorem dM_year_273 : decode prog_5_method_13_code 273 = .ok (.lstore 11, 2) := by decide +kernel
theorem dM_year_275 : decode prog_5_method_13_code 275 = .ok (.lload 11, 2) := by decide +kernel
theorem dM_year_277 : decode prog_5_method_13_code 277 = .ok (.lload 7, 2) := by decide +kernel
theorem dM_year_279 : decode prog_5_method_13_code 279 = .ok (.lcmp, 1) := by decide +kernel
theorem dM_year_280 : decode prog_5_method_13_code 280 = .ok (.ifCond .le 8, 3) := by decide +kernel
theorem dM_year_283 : decode prog_5_method_13_code 283 = .ok (.lload 7, 2) := by decide +kernel
theorem dM_year_285 : decode prog_5_method_13_code 285 = .ok (.goto 5, 3) := by decide +kernel
theorem dM_year_288 : decode prog_5_method_13_code 288 = .ok (.lload 11, 2) := by decide +kernel
theorem dM_year_290 : decode prog_5_method_13_code 290 = .ok (.lstore 11, 2) := by decide +kernel
theorem dM_year_292 : decode prog_5_method_13_code 292 = .ok (.aload_n 0, 1) := by decide +kernel
theorem dM_year_293 : decode prog_5_method_13_code 293 = .ok (.getfield 42, 3) := by decide +kernel
theorem dM_year_296 : decode prog_5_method_13_code 296 = .ok (.iload 6, 2) := by decide +kernel
theorem dM_year_298 : decode prog_5_method_13_code 298 = .ok (.lload 11, 2) := by decide +kernel
theorem dM_year_300 : decode prog_5_method_13_code 300 = .ok (.lastore, 1) := by decide +kernel
theorem dM_year_301 : decode prog_5_method_13_code 301 = .ok (.aload_n 0, 1) := by decide +kernel
theorem dM_year_302 : decode prog_5_method_13_code 302 = .ok (.getfield 39, 3) := by decide +kernel
theorem dM_year_305 : decode prog_5_method_13_code 305 = .ok (.iload 6, 2) := by decide +kernel
theorem dM_year_307 : decode prog_5_method_13_code 307 = .ok (.lconst 0, 1) := by decide +kernel
theorem dM_year_308 : decode prog_5_method_13_code 308 = .ok (.lastore, 1) := by decide +kernel
theorem dM_year_309 : decode prog_5_method_13_code 309 = .ok (.iconst 0, 1) := by decide +kernel
theorem dM_year_310 : decode prog_5_method_13_code 310 = .ok (.istore 13, 2) := by decide +kernel
theorem dM_year_312 : decode prog_5_method_13_code 312 = .ok (.iload 13, 2) := by decide +kernel
theorem dM_year_314 : decode prog_5_method_13_code 314 = .ok (.bipush 6, 2) := by decide +kernel
theorem dM_year_316 : decode prog_5_method_13_code 316 = .ok (.if_icmp .ge 96, 3) := by decide +kernel
theorem dM_year_319 : decode prog_5_method_13_code 319 = .ok (.lload 7, 2) := by decide +kernel
theorem dM_year_321 : decode prog_5_method_13_code 321 = .ok (.lconst 0, 1) := by decide +kernel
theorem dM_year_322 : decode prog_5_method_13_code 322 = .ok (.lcmp, 1) := by decide +kernel
theorem dM_year_323 : decode prog_5_method_13_code 323 = .ok (.ifCond .ne 7, 3) := by decide +kernel
theorem dM_year_326 : decode prog_5_method_13_code 326 = .ok (.lconst 0, 1) := by decide +kernel
theorem dM_year_327 : decode prog_5_method_13_code 327 = .ok (.goto 16, 3) := by decide +kernel
theorem dM_year_330 : decode prog_5_method_13_code 330 = .ok (.aload_n 0, 1) := by decide +kernel
theorem dM_year_331 : decode prog_5_method_13_code 331 = .ok (.getfield 48, 3) := by decide +kernel
theorem dM_year_334 : decode prog_5_method_13_code 334 = .ok (.iload 13, 2) := by decide +kernel
theorem dM_year_336 : decode prog_5_method_13_code 336 = .ok (.laload, 1) := by decide +kernel
theorem dM_year_337 : decode prog_5_method_13_code 337 = .ok (.lload 11, 2) := by decide +kernel
theorem dM_year_339 : decode prog_5_method_13_code 339 = .ok (.lmul, 1) := by decide +kernel
theorem dM_year_340 : decode prog_5_method_13_code 340 = .ok (.lload 7, 2) := by decide +kernel
theorem dM_year_342 : decode prog_5_method_13_code 342 = .ok (.ldiv, 1) := by decide +kernel
theorem dM_year_343 : decode prog_5_method_13_code 343 = .ok (.lstore 14, 2) := by decide +kernel
theorem dM_year_345 : decode prog_5_method_13_code 345 = .ok (.aload_n 0, 1) := by decide +kernel
theorem dM_year_346 : decode prog_5_method_13_code 346 = .ok (.getfield 39, 3) := by decide +kernel
theorem dM_year_349 : decode prog_5_method_13_code 349 = .ok (.iload 6, 2) := by decide +kernel
theorem dM_year_351 : decode prog_5_method_13_code 351 = .ok (.aload_n 0, 1) := by decide +kernel
theorem dM_year_352 : decode prog_5_method_13_code 352 = .ok (.getfield 39, 3) := by decide +kernel
theorem dM_year_355 : decode prog_5_method_13_code 355 = .ok (.iload 6, 2) := by decide +kernel
theorem dM_year_357 : decode prog_5_method_13_code 357 = .ok (.laload, 1) := by decide +kernel
theorem dM_year_358 : decode prog_5_method_13_code 358 = .ok (.lload 14, 2) := by decide +kernel
theorem dM_year_360 : decode prog_5_method_13_code 360 = .ok (.aload_n 0, 1) := by decide +kernel
theorem dM_year_361 : decode prog_5_method_13_code 361 = .ok (.getfield 13, 3) := by decide +kernel
theorem dM_year_364 : decode prog_5_method_13_code 364 = .ok (.iload 13, 2) := by decide +kernel
theorem dM_year_366 : decode prog_5_method_13_code 366 = .ok (.laload, 1) := by decide +kernel
theorem dM_year_367 : decode prog_5_method_13_code 367 = .ok (.lmul, 1) := by decide +kernel
theorem dM_year_368 : decode prog_5_method_13_code 368 = .ok (.ladd, 1) := by decide +kernel
theorem dM_year_369 : decode prog_5_method_13_code 369 = .ok (.lastore, 1) := by decide +kernel
theorem dM_year_370 : decode prog_5_method_13_code 370 = .ok (.aload_n 0, 1) := by decide +kernel
theorem dM_year_371 : decode prog_5_method_13_code 371 = .ok (.getfield 48, 3) := by decide +kernel
theorem dM_year_374 : decode prog_5_method_13_code 374 = .ok (.iload 13, 2) := by decide +kernel
theorem dM_year_376 : decode prog_5_method_13_code 376 = .ok (.laload, 1) := by decide +kernel
theorem dM_year_377 : decode prog_5_method_13_code 377 = .ok (.lload 14, 2) := by decide +kernel
theorem dM_year_379 : decode prog_5_method_13_code 379 = .ok (.lsub, 1) := by decide +kernel
theorem dM_year_380 : decode prog_5_method_13_code 380 = .ok (.lstore 16, 2) := by decide +kernel
theorem dM_year_382 : decode prog_5_method_13_code 382 = .ok (.aload_n 0, 1) := by decide +kernel
theorem dM_year_383 : decode prog_5_method_13_code 383 = .ok (.getfield 48, 3) := by decide +kernel
theorem dM_year_386 : decode prog_5_method_13_code 386 = .ok (.iload 13, 2) := by decide +kernel
theorem dM_year_388 : decode prog_5_method_13_code 388 = .ok (.lload 16, 2) := by decide +kernel
theorem dM_year_390 : decode prog_5_method_13_code 390 = .ok (.lload 16, 2) := by decide +kernel
theorem dM_year_392 : decode prog_5_method_13_code 392 = .ok (.aload_n 0, 1) := by decide +kernel
theorem dM_year_393 : decode prog_5_method_13_code 393 = .ok (.getfield 19, 3) := by decide +kernel
theorem dM_year_396 : decode prog_5_method_13_code 396 = .ok (.iload 13, 2) := by decide +kernel
theorem dM_year_398 : decode prog_5_method_13_code 398 = .ok (.laload, 1) := by decide +kernel
theorem dM_year_399 : decode prog_5_method_13_code 399 = .ok (.lmul, 1) := by decide +kernel
theorem dM_year_400 : decode prog_5_method_13_code 400 = .ok (.ldc2_w 80, 3) := by decide +kernel
theorem dM_year_403 : decode prog_5_method_13_code 403 = .ok (.ldiv, 1) := by decide +kernel
theorem dM_year_404 : decode prog_5_method_13_code 404 = .ok (.lsub, 1) := by decide +kernel
theorem dM_year_405 : decode prog_5_method_13_code 405 = .ok (.lastore, 1) := by decide +kernel
theorem dM_year_406 : decode prog_5_method_13_code 406 = .ok (.iinc 13 1, 3) := by decide +kernel
theorem dM_year_409 : decode prog_5_method_13_code 409 = .ok (.goto (-97), 3) := by decide +kernel
theorem dM_year_412 : decode prog_5_method_13_code 412 = .ok (.aload_n 0, 1) := by decide +kernel
theorem dM_year_413 : decode prog_5_method_13_code 413 = .ok (.getfield 48, 3) := by decide +kernel
theorem dM_year_416 : decode prog_5_method_13_code 416 = .ok (.iconst 5, 1) := by decide +kernel
theorem dM_year_417 : decode prog_5_method_13_code 417 = .ok (.aload_n 0, 1) := by decide +kernel
theorem dM_year_418 : decode prog_5_method_13_code 418 = .ok (.getfield 48, 3) := by decide +kernel
theorem dM_year_421 : decode prog_5_method_13_code 421 = .ok (.iconst 5, 1) := by decide +kernel
theorem dM_year_422 : decode prog_5_method_13_code 422 = .ok (.laload, 1) := by decide +kernel
theorem dM_year_423 : decode prog_5_method_13_code 423 = .ok (.aload_n 0, 1) := by decide +kernel
theorem dM_year_424 : decode prog_5_method_13_code 424 = .ok (.getfield 48, 3) := by decide +kernel
theorem dM_year_427 : decode prog_5_method_13_code 427 = .ok (.iconst 4, 1) := by decide +kernel
theorem dM_year_428 : decode prog_5_method_13_code 428 = .ok (.laload, 1) := by decide +kernel
theorem dM_year_429 : decode prog_5_method_13_code 429 = .ok (.ladd, 1) := by decide +kernel
theorem dM_year_430 : decode prog_5_method_13_code 430 = .ok (.lastore, 1) := by decide +kernel
theorem dM_year_431 : decode prog_5_method_13_code 431 = .ok (.iconst 4, 1) := by decide +kernel
theorem dM_year_432 : decode prog_5_method_13_code 432 = .ok (.istore 13, 2) := by decide +kernel
theorem dM_year_434 : decode prog_5_method_13_code 434 = .ok (.iload 13, 2) := by decide +kernel
theorem dM_year_436 : decode prog_5_method_13_code 436 = .ok (.ifCond .le 25, 3) := by decide +kernel
theorem dM_year_439 : decode prog_5_method_13_code 439 = .ok (.aload_n 0, 1) := by decide +kernel
theorem dM_year_440 : decode prog_5_method_13_code 440 = .ok (.getfield 48, 3) := by decide +kernel
theorem dM_year_443 : decode prog_5_method_13_code 443 = .ok (.iload 13, 2) := by decide +kernel
theorem dM_year_445 : decode prog_5_method_13_code 445 = .ok (.aload_n 0, 1) := by decide +kernel
theorem dM_year_446 : decode prog_5_method_13_code 446 = .ok (.getfield 48, 3) := by decide +kernel
theorem dM_year_449 : decode prog_5_method_13_code 449 = .ok (.iload 13, 2) := by decide +kernel
theorem dM_year_451 : decode prog_5_method_13_code 451 = .ok (.iconst 1, 1) := by decide +kernel
theorem dM_year_452 : decode prog_5_method_13_code 452 = .ok (.isub, 1) := by decide +kernel
theorem dM_year_453 : decode prog_5_method_13_code 453 = .ok (.laload, 1) := by decide +kernel
theorem dM_year_454 : decode prog_5_method_13_code 454 = .ok (.lastore, 1) := by decide +kernel
theorem dM_year_455 : decode prog_5_method_13_code 455 = .ok (.iinc 13 (-1), 3) := by decide +kernel
theorem dM_year_458 : decode prog_5_method_13_code 458 = .ok (.goto (-24), 3) := by decide +kernel
theorem dM_year_461 : decode prog_5_method_13_code 461 = .ok (.aload_n 0, 1) := by decide +kernel
theorem dM_year_462 : decode prog_5_method_13_code 462 = .ok (.getfield 48, 3) := by decide +kernel
theorem dM_year_465 : decode prog_5_method_13_code 465 = .ok (.iconst 0, 1) := by decide +kernel
theorem dM_year_466 : decode prog_5_method_13_code 466 = .ok (.aload_n 0, 1) := by decide +kernel
theorem dM_year_467 : decode prog_5_method_13_code 467 = .ok (.getfield 59, 3) := by decide +kernel
theorem dM_year_470 : decode prog_5_method_13_code 470 = .ok (.i2l, 1) := by decide +kernel
theorem dM_year_471 : decode prog_5_method_13_code 471 = .ok (.bipush 50, 2) := by decide +kernel
theorem dM_year_473 : decode prog_5_method_13_code 473 = .ok (.iload_n 3, 1) := by decide +kernel
theorem dM_year_474 : decode prog_5_method_13_code 474 = .ok (.iload_n 2, 1) := by decide +kernel
theorem dM_year_475 : decode prog_5_method_13_code 475 = .ok (.iconst 0, 1) := by decide +kernel
theorem dM_year_476 : decode prog_5_method_13_code 476 = .ok (.invokestatic 76, 3) := by decide +kernel
theorem dM_year_479 : decode prog_5_method_13_code 479 = .ok (.bipush 101, 2) := by decide +kernel
theorem dM_year_481 : decode prog_5_method_13_code 481 = .ok (.irem, 1) := by decide +kernel
theorem dM_year_482 : decode prog_5_method_13_code 482 = .ok (.iadd, 1) := by decide +kernel
theorem dM_year_483 : decode prog_5_method_13_code 483 = .ok (.i2l, 1) := by decide +kernel
theorem dM_year_484 : decode prog_5_method_13_code 484 = .ok (.lmul, 1) := by decide +kernel
theorem dM_year_485 : decode prog_5_method_13_code 485 = .ok (.ldc2_w 82, 3) := by decide +kernel
theorem dM_year_488 : decode prog_5_method_13_code 488 = .ok (.ldiv, 1) := by decide +kernel
theorem dM_year_489 : decode prog_5_method_13_code 489 = .ok (.lastore, 1) := by decide +kernel
theorem dM_year_490 : decode prog_5_method_13_code 490 = .ok (.return_, 1) := by decide +kernel
theorem dM_go_0 : decode prog_5_method_14_code 0 = .ok (.iconst 0, 1) := by decide +kernel
theorem dM_go_1 : decode prog_5_method_14_code 1 = .ok (.istore 6, 2) := by decide +kernel
theorem dM_go_3 : decode prog_5_method_14_code 3 = .ok (.iload 6, 2) := by decide +kernel
theorem dM_go_5 : decode prog_5_method_14_code 5 = .ok (.iload 5, 2) := by decide +kernel
theorem dM_go_7 : decode prog_5_method_14_code 7 = .ok (.if_icmp .ge 72, 3) := by decide +kernel
theorem dM_go_10 : decode prog_5_method_14_code 10 = .ok (.iconst 0, 1) := by decide +kernel
theorem dM_go_11 : decode prog_5_method_14_code 11 = .ok (.istore 7, 2) := by decide +kernel
theorem dM_go_13 : decode prog_5_method_14_code 13 = .ok (.iload 7, 2) := by decide +kernel
theorem dM_go_15 : decode prog_5_method_14_code 15 = .ok (.bipush 6, 2) := by decide +kernel
theorem dM_go_17 : decode prog_5_method_14_code 17 = .ok (.if_icmp .ge 23, 3) := by decide +kernel
theorem dM_go_20 : decode prog_5_method_14_code 20 = .ok (.aload_n 0, 1) := by decide +kernel
theorem dM_go_21 : decode prog_5_method_14_code 21 = .ok (.getfield 48, 3) := by decide +kernel
theorem dM_go_24 : decode prog_5_method_14_code 24 = .ok (.iload 7, 2) := by decide +kernel
theorem dM_go_26 : decode prog_5_method_14_code 26 = .ok (.aload_n 0, 1) := by decide +kernel
theorem dM_go_27 : decode prog_5_method_14_code 27 = .ok (.getfield 7, 3) := by decide +kernel
theorem dM_go_30 : decode prog_5_method_14_code 30 = .ok (.iload 7, 2) := by decide +kernel
theorem dM_go_32 : decode prog_5_method_14_code 32 = .ok (.laload, 1) := by decide +kernel
theorem dM_go_33 : decode prog_5_method_14_code 33 = .ok (.lastore, 1) := by decide +kernel
theorem dM_go_34 : decode prog_5_method_14_code 34 = .ok (.iinc 7 1, 3) := by decide +kernel
theorem dM_go_37 : decode prog_5_method_14_code 37 = .ok (.goto (-24), 3) := by decide +kernel
theorem dM_go_40 : decode prog_5_method_14_code 40 = .ok (.iconst 1, 1) := by decide +kernel
theorem dM_go_41 : decode prog_5_method_14_code 41 = .ok (.istore 7, 2) := by decide +kernel
theorem dM_go_43 : decode prog_5_method_14_code 43 = .ok (.iload 7, 2) := by decide +kernel
theorem dM_go_45 : decode prog_5_method_14_code 45 = .ok (.iload 4, 2) := by decide +kernel
theorem dM_go_47 : decode prog_5_method_14_code 47 = .ok (.if_icmp .gt 26, 3) := by decide +kernel
theorem dM_go_50 : decode prog_5_method_14_code 50 = .ok (.aload_n 0, 1) := by decide +kernel
theorem dM_go_51 : decode prog_5_method_14_code 51 = .ok (.iload_n 1, 1) := by decide +kernel
theorem dM_go_52 : decode prog_5_method_14_code 52 = .ok (.bipush 21, 2) := by decide +kernel
theorem dM_go_54 : decode prog_5_method_14_code 54 = .ok (.iload 6, 2) := by decide +kernel
theorem dM_go_56 : decode prog_5_method_14_code 56 = .ok (.imul, 1) := by decide +kernel
theorem dM_go_57 : decode prog_5_method_14_code 57 = .ok (.iadd, 1) := by decide +kernel
theorem dM_go_58 : decode prog_5_method_14_code 58 = .ok (.iload 7, 2) := by decide +kernel
theorem dM_go_60 : decode prog_5_method_14_code 60 = .ok (.iload 6, 2) := by decide +kernel
theorem dM_go_62 : decode prog_5_method_14_code 62 = .ok (.iload_n 2, 1) := by decide +kernel
theorem dM_go_63 : decode prog_5_method_14_code 63 = .ok (.iload_n 3, 1) := by decide +kernel
theorem dM_go_64 : decode prog_5_method_14_code 64 = .ok (.invokevirtual 88, 3) := by decide +kernel
theorem dM_go_67 : decode prog_5_method_14_code 67 = .ok (.iinc 7 1, 3) := by decide +kernel
theorem dM_go_70 : decode prog_5_method_14_code 70 = .ok (.goto (-27), 3) := by decide +kernel
theorem dM_go_73 : decode prog_5_method_14_code 73 = .ok (.iinc 6 1, 3) := by decide +kernel
theorem dM_go_76 : decode prog_5_method_14_code 76 = .ok (.goto (-73), 3) := by decide +kernel
theorem dM_go_79 : decode prog_5_method_14_code 79 = .ok (.return_, 1) := by decide +kernel
