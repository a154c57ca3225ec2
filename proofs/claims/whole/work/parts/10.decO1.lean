theorem dO_draw_0 : decode prog_1_method_8_code 0 = .ok (.bipush 31, 2) := by decide +kernel
theorem dO_draw_2 : decode prog_1_method_8_code 2 = .ok (.iload_n 1, 1) := by decide +kernel
theorem dO_draw_3 : decode prog_1_method_8_code 3 = .ok (.imul, 1) := by decide +kernel
theorem dO_draw_4 : decode prog_1_method_8_code 4 = .ok (.bipush 7, 2) := by decide +kernel
theorem dO_draw_6 : decode prog_1_method_8_code 6 = .ok (.iload_n 2, 1) := by decide +kernel
theorem dO_draw_7 : decode prog_1_method_8_code 7 = .ok (.imul, 1) := by decide +kernel
theorem dO_draw_8 : decode prog_1_method_8_code 8 = .ok (.iadd, 1) := by decide +kernel
theorem dO_draw_9 : decode prog_1_method_8_code 9 = .ok (.iload_n 3, 1) := by decide +kernel
theorem dO_draw_10 : decode prog_1_method_8_code 10 = .ok (.iadd, 1) := by decide +kernel
theorem dO_draw_11 : decode prog_1_method_8_code 11 = .ok (.istore 4, 2) := by decide +kernel
theorem dO_draw_13 : decode prog_1_method_8_code 13 = .ok (.iload 4, 2) := by decide +kernel
theorem dO_draw_15 : decode prog_1_method_8_code 15 = .ok (.ldc 80, 2) := by decide +kernel
theorem dO_draw_17 : decode prog_1_method_8_code 17 = .ok (.imul, 1) := by decide +kernel
theorem dO_draw_18 : decode prog_1_method_8_code 18 = .ok (.sipush 12345, 3) := by decide +kernel
theorem dO_draw_21 : decode prog_1_method_8_code 21 = .ok (.iadd, 1) := by decide +kernel
theorem dO_draw_22 : decode prog_1_method_8_code 22 = .ok (.istore 4, 2) := by decide +kernel
theorem dO_draw_24 : decode prog_1_method_8_code 24 = .ok (.iload 4, 2) := by decide +kernel
theorem dO_draw_26 : decode prog_1_method_8_code 26 = .ok (.ldc 80, 2) := by decide +kernel
theorem dO_draw_28 : decode prog_1_method_8_code 28 = .ok (.imul, 1) := by decide +kernel
theorem dO_draw_29 : decode prog_1_method_8_code 29 = .ok (.sipush 12345, 3) := by decide +kernel
theorem dO_draw_32 : decode prog_1_method_8_code 32 = .ok (.iadd, 1) := by decide +kernel
theorem dO_draw_33 : decode prog_1_method_8_code 33 = .ok (.istore 4, 2) := by decide +kernel
theorem dO_draw_35 : decode prog_1_method_8_code 35 = .ok (.iload 4, 2) := by decide +kernel
theorem dO_draw_37 : decode prog_1_method_8_code 37 = .ok (.bipush 16, 2) := by decide +kernel
theorem dO_draw_39 : decode prog_1_method_8_code 39 = .ok (.iushr, 1) := by decide +kernel
theorem dO_draw_40 : decode prog_1_method_8_code 40 = .ok (.ireturn, 1) := by decide +kernel
theorem dO_runAllSeeds_0 : decode prog_1_method_19_code 0 = .ok (.iconst 0, 1) := by decide +kernel
theorem dO_runAllSeeds_1 : decode prog_1_method_19_code 1 = .ok (.istore_n 3, 1) := by decide +kernel
theorem dO_runAllSeeds_2 : decode prog_1_method_19_code 2 = .ok (.iload_n 3, 1) := by decide +kernel
theorem dO_runAllSeeds_3 : decode prog_1_method_19_code 3 = .ok (.aload_n 0, 1) := by decide +kernel
theorem dO_runAllSeeds_4 : decode prog_1_method_19_code 4 = .ok (.getfield 87, 3) := by decide +kernel
theorem dO_runAllSeeds_7 : decode prog_1_method_19_code 7 = .ok (.if_icmp .ge 43, 3) := by decide +kernel
theorem dO_runAllSeeds_10 : decode prog_1_method_19_code 10 = .ok (.aload_n 0, 1) := by decide +kernel
theorem dO_runAllSeeds_11 : decode prog_1_method_19_code 11 = .ok (.getfield 10, 3) := by decide +kernel
theorem dO_runAllSeeds_14 : decode prog_1_method_19_code 14 = .ok (.invokevirtual 134, 3) := by decide +kernel
theorem dO_runAllSeeds_17 : decode prog_1_method_19_code 17 = .ok (.iconst 1, 1) := by decide +kernel
theorem dO_runAllSeeds_18 : decode prog_1_method_19_code 18 = .ok (.istore 4, 2) := by decide +kernel
theorem dO_runAllSeeds_20 : decode prog_1_method_19_code 20 = .ok (.iload 4, 2) := by decide +kernel
theorem dO_runAllSeeds_22 : decode prog_1_method_19_code 22 = .ok (.aload_n 0, 1) := by decide +kernel
theorem dO_runAllSeeds_23 : decode prog_1_method_19_code 23 = .ok (.getfield 84, 3) := by decide +kernel
theorem dO_runAllSeeds_26 : decode prog_1_method_19_code 26 = .ok (.if_icmp .gt 18, 3) := by decide +kernel
theorem dO_runAllSeeds_29 : decode prog_1_method_19_code 29 = .ok (.aload_n 0, 1) := by decide +kernel
theorem dO_runAllSeeds_30 : decode prog_1_method_19_code 30 = .ok (.aload_n 1, 1) := by decide +kernel
theorem dO_runAllSeeds_31 : decode prog_1_method_19_code 31 = .ok (.iload_n 2, 1) := by decide +kernel
theorem dO_runAllSeeds_32 : decode prog_1_method_19_code 32 = .ok (.iload_n 3, 1) := by decide +kernel
theorem dO_runAllSeeds_33 : decode prog_1_method_19_code 33 = .ok (.iload 4, 2) := by decide +kernel
theorem dO_runAllSeeds_35 : decode prog_1_method_19_code 35 = .ok (.invokevirtual 137, 3) := by decide +kernel
theorem dO_runAllSeeds_38 : decode prog_1_method_19_code 38 = .ok (.iinc 4 1, 3) := by decide +kernel
theorem dO_runAllSeeds_41 : decode prog_1_method_19_code 41 = .ok (.goto (-21), 3) := by decide +kernel
theorem dO_runAllSeeds_44 : decode prog_1_method_19_code 44 = .ok (.iinc 3 1, 3) := by decide +kernel
theorem dO_runAllSeeds_47 : decode prog_1_method_19_code 47 = .ok (.goto (-45), 3) := by decide +kernel
theorem dO_runAllSeeds_50 : decode prog_1_method_19_code 50 = .ok (.return_, 1) := by decide +kernel
theorem dO_runYear_0 : decode prog_1_method_20_code 0 = .ok (.aload_n 1, 1) := by decide +kernel
theorem dO_runYear_1 : decode prog_1_method_20_code 1 = .ok (.iconst 0, 1) := by decide +kernel
theorem dO_runYear_2 : decode prog_1_method_20_code 2 = .ok (.iload_n 3, 1) := by decide +kernel
theorem dO_runYear_3 : decode prog_1_method_20_code 3 = .ok (.iload 4, 2) := by decide +kernel
theorem dO_runYear_5 : decode prog_1_method_20_code 5 = .ok (.aload_n 0, 1) := by decide +kernel
theorem dO_runYear_6 : decode prog_1_method_20_code 6 = .ok (.getfield 10, 3) := by decide +kernel
theorem dO_runYear_9 : decode prog_1_method_20_code 9 = .ok (.invokevirtual 141, 3) := by decide +kernel
theorem dO_runYear_12 : decode prog_1_method_20_code 12 = .ok (.invokevirtual 145, 3) := by decide +kernel
theorem dO_runYear_15 : decode prog_1_method_20_code 15 = .ok (.aload_n 0, 1) := by decide +kernel
theorem dO_runYear_16 : decode prog_1_method_20_code 16 = .ok (.aload_n 1, 1) := by decide +kernel
theorem dO_runYear_17 : decode prog_1_method_20_code 17 = .ok (.iload_n 3, 1) := by decide +kernel
theorem dO_runYear_18 : decode prog_1_method_20_code 18 = .ok (.iload 4, 2) := by decide +kernel
theorem dO_runYear_20 : decode prog_1_method_20_code 20 = .ok (.invokevirtual 149, 3) := by decide +kernel
theorem dO_runYear_23 : decode prog_1_method_20_code 23 = .ok (.lstore 5, 2) := by decide +kernel
theorem dO_runYear_25 : decode prog_1_method_20_code 25 = .ok (.aload_n 1, 1) := by decide +kernel
theorem dO_runYear_26 : decode prog_1_method_20_code 26 = .ok (.iconst 3, 1) := by decide +kernel
theorem dO_runYear_27 : decode prog_1_method_20_code 27 = .ok (.iload_n 3, 1) := by decide +kernel
theorem dO_runYear_28 : decode prog_1_method_20_code 28 = .ok (.iload 4, 2) := by decide +kernel
theorem dO_runYear_30 : decode prog_1_method_20_code 30 = .ok (.lload 5, 2) := by decide +kernel
theorem dO_runYear_32 : decode prog_1_method_20_code 32 = .ok (.invokevirtual 145, 3) := by decide +kernel
theorem dO_runYear_35 : decode prog_1_method_20_code 35 = .ok (.aload_n 0, 1) := by decide +kernel
theorem dO_runYear_36 : decode prog_1_method_20_code 36 = .ok (.getfield 10, 3) := by decide +kernel
theorem dO_runYear_39 : decode prog_1_method_20_code 39 = .ok (.invokevirtual 152, 3) := by decide +kernel
theorem dO_runYear_42 : decode prog_1_method_20_code 42 = .ok (.lstore 7, 2) := by decide +kernel
theorem dO_runYear_44 : decode prog_1_method_20_code 44 = .ok (.lload 7, 2) := by decide +kernel
theorem dO_runYear_46 : decode prog_1_method_20_code 46 = .ok (.aload_n 0, 1) := by decide +kernel
theorem dO_runYear_47 : decode prog_1_method_20_code 47 = .ok (.lload 5, 2) := by decide +kernel
theorem dO_runYear_49 : decode prog_1_method_20_code 49 = .ok (.iload_n 2, 1) := by decide +kernel
theorem dO_runYear_50 : decode prog_1_method_20_code 50 = .ok (.invokevirtual 155, 3) := by decide +kernel
theorem dO_runYear_53 : decode prog_1_method_20_code 53 = .ok (.lmul, 1) := by decide +kernel
theorem dO_runYear_54 : decode prog_1_method_20_code 54 = .ok (.ldc2_w 159, 3) := by decide +kernel
theorem dO_runYear_57 : decode prog_1_method_20_code 57 = .ok (.ldiv, 1) := by decide +kernel
theorem dO_runYear_58 : decode prog_1_method_20_code 58 = .ok (.lstore 9, 2) := by decide +kernel
theorem dO_runYear_60 : decode prog_1_method_20_code 60 = .ok (.aload_n 0, 1) := by decide +kernel
theorem dO_runYear_61 : decode prog_1_method_20_code 61 = .ok (.aload_n 1, 1) := by decide +kernel
theorem dO_runYear_62 : decode prog_1_method_20_code 62 = .ok (.lload 9, 2) := by decide +kernel
theorem dO_runYear_64 : decode prog_1_method_20_code 64 = .ok (.iload_n 3, 1) := by decide +kernel
theorem dO_runYear_65 : decode prog_1_method_20_code 65 = .ok (.iload 4, 2) := by decide +kernel
theorem dO_runYear_67 : decode prog_1_method_20_code 67 = .ok (.invokevirtual 161, 3) := by decide +kernel
theorem dO_runYear_70 : decode prog_1_method_20_code 70 = .ok (.lload 7, 2) := by decide +kernel
theorem dO_runYear_72 : decode prog_1_method_20_code 72 = .ok (.invokestatic 165, 3) := by decide +kernel
theorem dO_runYear_75 : decode prog_1_method_20_code 75 = .ok (.lstore 11, 2) := by decide +kernel
theorem dO_runYear_77 : decode prog_1_method_20_code 77 = .ok (.aload_n 1, 1) := by decide +kernel
theorem dO_runYear_78 : decode prog_1_method_20_code 78 = .ok (.iconst 2, 1) := by decide +kernel
theorem dO_runYear_79 : decode prog_1_method_20_code 79 = .ok (.iload_n 3, 1) := by decide +kernel
theorem dO_runYear_80 : decode prog_1_method_20_code 80 = .ok (.iload 4, 2) := by decide +kernel
theorem dO_runYear_82 : decode prog_1_method_20_code 82 = .ok (.lload 11, 2) := by decide +kernel
theorem dO_runYear_84 : decode prog_1_method_20_code 84 = .ok (.invokevirtual 145, 3) := by decide +kernel
theorem dO_runYear_87 : decode prog_1_method_20_code 87 = .ok (.aload_n 1, 1) := by decide +kernel
theorem dO_runYear_88 : decode prog_1_method_20_code 88 = .ok (.iconst 1, 1) := by decide +kernel
theorem dO_runYear_89 : decode prog_1_method_20_code 89 = .ok (.iload_n 3, 1) := by decide +kernel
theorem dO_runYear_90 : decode prog_1_method_20_code 90 = .ok (.iload 4, 2) := by decide +kernel
theorem dO_runYear_92 : decode prog_1_method_20_code 92 = .ok (.aload_n 0, 1) := by decide +kernel
theorem dO_runYear_93 : decode prog_1_method_20_code 93 = .ok (.getfield 10, 3) := by decide +kernel
theorem dO_runYear_96 : decode prog_1_method_20_code 96 = .ok (.lload 11, 2) := by decide +kernel
theorem dO_runYear_98 : decode prog_1_method_20_code 98 = .ok (.lload 7, 2) := by decide +kernel
theorem dO_runYear_100 : decode prog_1_method_20_code 100 = .ok (.invokevirtual 169, 3) := by decide +kernel
theorem dO_runYear_103 : decode prog_1_method_20_code 103 = .ok (.invokevirtual 145, 3) := by decide +kernel
theorem dO_runYear_106 : decode prog_1_method_20_code 106 = .ok (.aload_n 0, 1) := by decide +kernel
theorem dO_runYear_107 : decode prog_1_method_20_code 107 = .ok (.getfield 10, 3) := by decide +kernel
theorem dO_runYear_110 : decode prog_1_method_20_code 110 = .ok (.invokevirtual 172, 3) := by decide +kernel
theorem dO_runYear_113 : decode prog_1_method_20_code 113 = .ok (.aload_n 0, 1) := by decide +kernel
theorem dO_runYear_114 : decode prog_1_method_20_code 114 = .ok (.getfield 10, 3) := by decide +kernel
theorem dO_runYear_117 : decode prog_1_method_20_code 117 = .ok (.aload_n 0, 1) := by decide +kernel
theorem dO_runYear_118 : decode prog_1_method_20_code 118 = .ok (.iload_n 3, 1) := by decide +kernel
theorem dO_runYear_119 : decode prog_1_method_20_code 119 = .ok (.iload 4, 2) := by decide +kernel
theorem dO_runYear_121 : decode prog_1_method_20_code 121 = .ok (.invokevirtual 175, 3) := by decide +kernel
theorem dO_runYear_124 : decode prog_1_method_20_code 124 = .ok (.invokevirtual 179, 3) := by decide +kernel
theorem dO_runYear_127 : decode prog_1_method_20_code 127 = .ok (.return_, 1) := by decide +kernel
theorem dO_massSeen_0 : decode prog_1_method_21_code 0 = .ok (.iconst 1, 1) := by decide +kernel
theorem dO_massSeen_1 : decode prog_1_method_21_code 1 = .ok (.iload_n 3, 1) := by decide +kernel
theorem dO_massSeen_2 : decode prog_1_method_21_code 2 = .ok (.aload_n 0, 1) := by decide +kernel
theorem dO_massSeen_3 : decode prog_1_method_21_code 3 = .ok (.getfield 73, 3) := by decide +kernel
theorem dO_massSeen_6 : decode prog_1_method_21_code 6 = .ok (.isub, 1) := by decide +kernel
theorem dO_massSeen_7 : decode prog_1_method_21_code 7 = .ok (.invokestatic 183, 3) := by decide +kernel
theorem dO_massSeen_10 : decode prog_1_method_21_code 10 = .ok (.istore 4, 2) := by decide +kernel
theorem dO_massSeen_12 : decode prog_1_method_21_code 12 = .ok (.bipush 100, 2) := by decide +kernel
theorem dO_massSeen_14 : decode prog_1_method_21_code 14 = .ok (.aload_n 0, 1) := by decide +kernel
theorem dO_massSeen_15 : decode prog_1_method_21_code 15 = .ok (.getfield 70, 3) := by decide +kernel
theorem dO_massSeen_18 : decode prog_1_method_21_code 18 = .ok (.isub, 1) := by decide +kernel
theorem dO_massSeen_19 : decode prog_1_method_21_code 19 = .ok (.aload_n 0, 1) := by decide +kernel
theorem dO_massSeen_20 : decode prog_1_method_21_code 20 = .ok (.iload_n 2, 1) := by decide +kernel
theorem dO_massSeen_21 : decode prog_1_method_21_code 21 = .ok (.iload_n 3, 1) := by decide +kernel
theorem dO_massSeen_22 : decode prog_1_method_21_code 22 = .ok (.iconst 1, 1) := by decide +kernel
theorem dO_massSeen_23 : decode prog_1_method_21_code 23 = .ok (.invokevirtual 187, 3) := by decide +kernel
theorem dO_massSeen_26 : decode prog_1_method_21_code 26 = .ok (.iconst 2, 1) := by decide +kernel
theorem dO_massSeen_27 : decode prog_1_method_21_code 27 = .ok (.aload_n 0, 1) := by decide +kernel
theorem dO_massSeen_28 : decode prog_1_method_21_code 28 = .ok (.getfield 70, 3) := by decide +kernel
theorem dO_massSeen_31 : decode prog_1_method_21_code 31 = .ok (.imul, 1) := by decide +kernel
theorem dO_massSeen_32 : decode prog_1_method_21_code 32 = .ok (.iconst 1, 1) := by decide +kernel
theorem dO_massSeen_33 : decode prog_1_method_21_code 33 = .ok (.iadd, 1) := by decide +kernel
theorem dO_massSeen_34 : decode prog_1_method_21_code 34 = .ok (.irem, 1) := by decide +kernel
theorem dO_massSeen_35 : decode prog_1_method_21_code 35 = .ok (.iadd, 1) := by decide +kernel
theorem dO_massSeen_36 : decode prog_1_method_21_code 36 = .ok (.istore 5, 2) := by decide +kernel
theorem dO_massSeen_38 : decode prog_1_method_21_code 38 = .ok (.aload_n 1, 1) := by decide +kernel
theorem dO_massSeen_39 : decode prog_1_method_21_code 39 = .ok (.iconst 0, 1) := by decide +kernel
theorem dO_massSeen_40 : decode prog_1_method_21_code 40 = .ok (.iload_n 2, 1) := by decide +kernel
theorem dO_massSeen_41 : decode prog_1_method_21_code 41 = .ok (.iload 4, 2) := by decide +kernel
theorem dO_massSeen_43 : decode prog_1_method_21_code 43 = .ok (.invokevirtual 104, 3) := by decide +kernel
theorem dO_massSeen_46 : decode prog_1_method_21_code 46 = .ok (.iload 5, 2) := by decide +kernel
theorem dO_massSeen_48 : decode prog_1_method_21_code 48 = .ok (.i2l, 1) := by decide +kernel
theorem dO_massSeen_49 : decode prog_1_method_21_code 49 = .ok (.lmul, 1) := by decide +kernel
theorem dO_massSeen_50 : decode prog_1_method_21_code 50 = .ok (.ldc2_w 191, 3) := by decide +kernel
theorem dO_massSeen_53 : decode prog_1_method_21_code 53 = .ok (.ldiv, 1) := by decide +kernel
theorem dO_massSeen_54 : decode prog_1_method_21_code 54 = .ok (.lreturn, 1) := by decide +kernel
theorem dO_rateAllowed_0 : decode prog_1_method_22_code 0 = .ok (.aload_n 0, 1) := by decide +kernel
theorem dO_rateAllowed_1 : decode prog_1_method_22_code 1 = .ok (.getfield 16, 3) := by decide +kernel
theorem dO_rateAllowed_4 : decode prog_1_method_22_code 4 = .ok (.aload_n 0, 1) := by decide +kernel
theorem dO_rateAllowed_5 : decode prog_1_method_22_code 5 = .ok (.getfield 81, 3) := by decide +kernel
theorem dO_rateAllowed_8 : decode prog_1_method_22_code 8 = .ok (.iaload, 1) := by decide +kernel
theorem dO_rateAllowed_9 : decode prog_1_method_22_code 9 = .ok (.i2l, 1) := by decide +kernel
theorem dO_rateAllowed_10 : decode prog_1_method_22_code 10 = .ok (.lstore 4, 2) := by decide +kernel
theorem dO_rateAllowed_12 : decode prog_1_method_22_code 12 = .ok (.aload_n 0, 1) := by decide +kernel
theorem dO_rateAllowed_13 : decode prog_1_method_22_code 13 = .ok (.getfield 20, 3) := by decide +kernel
theorem dO_rateAllowed_16 : decode prog_1_method_22_code 16 = .ok (.aload_n 0, 1) := by decide +kernel
theorem dO_rateAllowed_17 : decode prog_1_method_22_code 17 = .ok (.getfield 81, 3) := by decide +kernel
theorem dO_rateAllowed_20 : decode prog_1_method_22_code 20 = .ok (.iaload, 1) := by decide +kernel
theorem dO_rateAllowed_21 : decode prog_1_method_22_code 21 = .ok (.i2l, 1) := by decide +kernel
theorem dO_rateAllowed_22 : decode prog_1_method_22_code 22 = .ok (.lstore 6, 2) := by decide +kernel
theorem dO_rateAllowed_24 : decode prog_1_method_22_code 24 = .ok (.lload_n 1, 1) := by decide +kernel
theorem dO_rateAllowed_25 : decode prog_1_method_22_code 25 = .ok (.lload 4, 2) := by decide +kernel
theorem dO_rateAllowed_27 : decode prog_1_method_22_code 27 = .ok (.lcmp, 1) := by decide +kernel
theorem dO_rateAllowed_28 : decode prog_1_method_22_code 28 = .ok (.ifCond .ge 5, 3) := by decide +kernel
theorem dO_rateAllowed_31 : decode prog_1_method_22_code 31 = .ok (.lconst 0, 1) := by decide +kernel
theorem dO_rateAllowed_32 : decode prog_1_method_22_code 32 = .ok (.lreturn, 1) := by decide +kernel
theorem dO_rateAllowed_33 : decode prog_1_method_22_code 33 = .ok (.lload_n 1, 1) := by decide +kernel
theorem dO_rateAllowed_34 : decode prog_1_method_22_code 34 = .ok (.lload 6, 2) := by decide +kernel
theorem dO_rateAllowed_36 : decode prog_1_method_22_code 36 = .ok (.lcmp, 1) := by decide +kernel
theorem dO_rateAllowed_37 : decode prog_1_method_22_code 37 = .ok (.ifCond .lt 6, 3) := by decide +kernel
theorem dO_rateAllowed_40 : decode prog_1_method_22_code 40 = .ok (.iload_n 3, 1) := by decide +kernel
theorem dO_rateAllowed_41 : decode prog_1_method_22_code 41 = .ok (.i2l, 1) := by decide +kernel
theorem dO_rateAllowed_42 : decode prog_1_method_22_code 42 = .ok (.lreturn, 1) := by decide +kernel
theorem dO_rateAllowed_43 : decode prog_1_method_22_code 43 = .ok (.iload_n 3, 1) := by decide +kernel
theorem dO_rateAllowed_44 : decode prog_1_method_22_code 44 = .ok (.i2l, 1) := by decide +kernel
theorem dO_rateAllowed_45 : decode prog_1_method_22_code 45 = .ok (.lload_n 1, 1) := by decide +kernel
theorem dO_rateAllowed_46 : decode prog_1_method_22_code 46 = .ok (.lload 4, 2) := by decide +kernel
theorem dO_rateAllowed_48 : decode prog_1_method_22_code 48 = .ok (.lsub, 1) := by decide +kernel
theorem dO_rateAllowed_49 : decode prog_1_method_22_code 49 = .ok (.lmul, 1) := by decide +kernel
theorem dO_rateAllowed_50 : decode prog_1_method_22_code 50 = .ok (.lload 6, 2) := by decide +kernel
theorem dO_rateAllowed_52 : decode prog_1_method_22_code 52 = .ok (.lload 4, 2) := by decide +kernel
theorem dO_rateAllowed_54 : decode prog_1_method_22_code 54 = .ok (.lsub, 1) := by decide +kernel
theorem dO_rateAllowed_55 : decode prog_1_method_22_code 55 = .ok (.ldiv, 1) := by decide +kernel
theorem dO_rateAllowed_56 : decode prog_1_method_22_code 56 = .ok (.lreturn, 1) := by decide +kernel
theorem dO_limitChange_0 : decode prog_1_method_23_code 0 = .ok (.iload 5, 2) := by decide +kernel
theorem dO_limitChange_2 : decode prog_1_method_23_code 2 = .ok (.iconst 2, 1) := by decide +kernel
theorem dO_limitChange_3 : decode prog_1_method_23_code 3 = .ok (.if_icmp .lt 13, 3) := by decide +kernel
theorem dO_limitChange_6 : decode prog_1_method_23_code 6 = .ok (.aload_n 0, 1) := by decide +kernel
theorem dO_limitChange_7 : decode prog_1_method_23_code 7 = .ok (.getfield 26, 3) := by decide +kernel
theorem dO_limitChange_10 : decode prog_1_method_23_code 10 = .ok (.sipush 1000, 3) := by decide +kernel
theorem dO_limitChange_13 : decode prog_1_method_23_code 13 = .ok (.if_icmp .lt 5, 3) := by decide +kernel
theorem dO_limitChange_16 : decode prog_1_method_23_code 16 = .ok (.lload_n 2, 1) := by decide +kernel
theorem dO_limitChange_17 : decode prog_1_method_23_code 17 = .ok (.lreturn, 1) := by decide +kernel
theorem dO_limitChange_18 : decode prog_1_method_23_code 18 = .ok (.aload_n 1, 1) := by decide +kernel
theorem dO_limitChange_19 : decode prog_1_method_23_code 19 = .ok (.iconst 2, 1) := by decide +kernel
theorem dO_limitChange_20 : decode prog_1_method_23_code 20 = .ok (.iload 4, 2) := by decide +kernel
theorem dO_limitChange_22 : decode prog_1_method_23_code 22 = .ok (.iload 5, 2) := by decide +kernel
theorem dO_limitChange_24 : decode prog_1_method_23_code 24 = .ok (.iconst 1, 1) := by decide +kernel
theorem dO_limitChange_25 : decode prog_1_method_23_code 25 = .ok (.isub, 1) := by decide +kernel
theorem dO_limitChange_26 : decode prog_1_method_23_code 26 = .ok (.invokevirtual 104, 3) := by decide +kernel
theorem dO_limitChange_29 : decode prog_1_method_23_code 29 = .ok (.lstore 6, 2) := by decide +kernel
theorem dO_limitChange_31 : decode prog_1_method_23_code 31 = .ok (.lload 6, 2) := by decide +kernel
theorem dO_limitChange_33 : decode prog_1_method_23_code 33 = .ok (.aload_n 0, 1) := by decide +kernel
theorem dO_limitChange_34 : decode prog_1_method_23_code 34 = .ok (.getfield 26, 3) := by decide +kernel
theorem dO_limitChange_37 : decode prog_1_method_23_code 37 = .ok (.i2l, 1) := by decide +kernel
theorem dO_limitChange_38 : decode prog_1_method_23_code 38 = .ok (.lmul, 1) := by decide +kernel
theorem dO_limitChange_39 : decode prog_1_method_23_code 39 = .ok (.ldc2_w 159, 3) := by decide +kernel
theorem dO_limitChange_42 : decode prog_1_method_23_code 42 = .ok (.ldiv, 1) := by decide +kernel
theorem dO_limitChange_43 : decode prog_1_method_23_code 43 = .ok (.lstore 8, 2) := by decide +kernel
theorem dO_limitChange_45 : decode prog_1_method_23_code 45 = .ok (.lload 6, 2) := by decide +kernel
theorem dO_limitChange_47 : decode prog_1_method_23_code 47 = .ok (.lload 8, 2) := by decide +kernel
theorem dO_limitChange_49 : decode prog_1_method_23_code 49 = .ok (.lsub, 1) := by decide +kernel
theorem dO_limitChange_50 : decode prog_1_method_23_code 50 = .ok (.lload 6, 2) := by decide +kernel
theorem dO_limitChange_52 : decode prog_1_method_23_code 52 = .ok (.lload 8, 2) := by decide +kernel
theorem dO_limitChange_54 : decode prog_1_method_23_code 54 = .ok (.ladd, 1) := by decide +kernel
theorem dO_limitChange_55 : decode prog_1_method_23_code 55 = .ok (.lload_n 2, 1) := by decide +kernel
theorem dO_limitChange_56 : decode prog_1_method_23_code 56 = .ok (.invokestatic 165, 3) := by decide +kernel
theorem dO_limitChange_59 : decode prog_1_method_23_code 59 = .ok (.invokestatic 193, 3) := by decide +kernel
theorem dO_limitChange_62 : decode prog_1_method_23_code 62 = .ok (.lreturn, 1) := by decide +kernel
theorem dO_youngBorn_0 : decode prog_1_method_24_code 0 = .ok (.aload_n 0, 1) := by decide +kernel
theorem dO_youngBorn_1 : decode prog_1_method_24_code 1 = .ok (.getfield 56, 3) := by decide +kernel
theorem dO_youngBorn_4 : decode prog_1_method_24_code 4 = .ok (.i2l, 1) := by decide +kernel
theorem dO_youngBorn_5 : decode prog_1_method_24_code 5 = .ok (.bipush 50, 2) := by decide +kernel
theorem dO_youngBorn_7 : decode prog_1_method_24_code 7 = .ok (.aload_n 0, 1) := by decide +kernel
theorem dO_youngBorn_8 : decode prog_1_method_24_code 8 = .ok (.iload_n 1, 1) := by decide +kernel
theorem dO_youngBorn_9 : decode prog_1_method_24_code 9 = .ok (.iload_n 2, 1) := by decide +kernel
theorem dO_youngBorn_10 : decode prog_1_method_24_code 10 = .ok (.iconst 0, 1) := by decide +kernel
theorem dO_youngBorn_11 : decode prog_1_method_24_code 11 = .ok (.invokevirtual 187, 3) := by decide +kernel
theorem dO_youngBorn_14 : decode prog_1_method_24_code 14 = .ok (.bipush 101, 2) := by decide +kernel
theorem dO_youngBorn_16 : decode prog_1_method_24_code 16 = .ok (.irem, 1) := by decide +kernel
theorem dO_youngBorn_17 : decode prog_1_method_24_code 17 = .ok (.iadd, 1) := by decide +kernel
theorem dO_youngBorn_18 : decode prog_1_method_24_code 18 = .ok (.i2l, 1) := by decide +kernel
theorem dO_youngBorn_19 : decode prog_1_method_24_code 19 = .ok (.lmul, 1) := by decide +kernel
theorem dO_youngBorn_20 : decode prog_1_method_24_code 20 = .ok (.ldc2_w 191, 3) := by decide +kernel
theorem dO_youngBorn_23 : decode prog_1_method_24_code 23 = .ok (.ldiv, 1) := by decide +kernel
theorem dO_youngBorn_24 : decode prog_1_method_24_code 24 = .ok (.lreturn, 1) := by decide +kernel
theorem dO_caughtAtRate_0 : decode prog_1_method_25_code 0 = .ok (.aload_n 0, 1) := by decide +kernel
theorem dO_caughtAtRate_1 : decode prog_1_method_25_code 1 = .ok (.aload_n 0, 1) := by decide +kernel
theorem dO_caughtAtRate_2 : decode prog_1_method_25_code 2 = .ok (.getfield 37, 3) := by decide +kernel
theorem dO_caughtAtRate_5 : decode prog_1_method_25_code 5 = .ok (.iload_n 1, 1) := by decide +kernel
theorem dO_caughtAtRate_6 : decode prog_1_method_25_code 6 = .ok (.invokevirtual 93, 3) := by decide +kernel
theorem dO_caughtAtRate_9 : decode prog_1_method_25_code 9 = .ok (.aload_n 0, 1) := by decide +kernel
theorem dO_caughtAtRate_10 : decode prog_1_method_25_code 10 = .ok (.aload_n 0, 1) := by decide +kernel
theorem dO_caughtAtRate_11 : decode prog_1_method_25_code 11 = .ok (.getfield 37, 3) := by decide +kernel
theorem dO_caughtAtRate_14 : decode prog_1_method_25_code 14 = .ok (.iconst 1, 1) := by decide +kernel
theorem dO_caughtAtRate_15 : decode prog_1_method_25_code 15 = .ok (.iconst 1, 1) := by decide +kernel
theorem dO_caughtAtRate_16 : decode prog_1_method_25_code 16 = .ok (.invokevirtual 126, 3) := by decide +kernel
theorem dO_caughtAtRate_19 : decode prog_1_method_25_code 19 = .ok (.lreturn, 1) := by decide +kernel
theorem dO_sumOf_0 : decode prog_1_method_26_code 0 = .ok (.lconst 0, 1) := by decide +kernel
theorem dO_sumOf_1 : decode prog_1_method_26_code 1 = .ok (.lstore 4, 2) := by decide +kernel
theorem dO_sumOf_3 : decode prog_1_method_26_code 3 = .ok (.iconst 0, 1) := by decide +kernel
theorem dO_sumOf_4 : decode prog_1_method_26_code 4 = .ok (.istore 6, 2) := by decide +kernel
theorem dO_sumOf_6 : decode prog_1_method_26_code 6 = .ok (.iload 6, 2) := by decide +kernel
theorem dO_sumOf_8 : decode prog_1_method_26_code 8 = .ok (.aload_n 0, 1) := by decide +kernel
theorem dO_sumOf_9 : decode prog_1_method_26_code 9 = .ok (.getfield 87, 3) := by decide +kernel
theorem dO_sumOf_12 : decode prog_1_method_26_code 12 = .ok (.if_icmp .ge 41, 3) := by decide +kernel
theorem dO_sumOf_15 : decode prog_1_method_26_code 15 = .ok (.iload_n 3, 1) := by decide +kernel
theorem dO_sumOf_16 : decode prog_1_method_26_code 16 = .ok (.istore 7, 2) := by decide +kernel
theorem dO_sumOf_18 : decode prog_1_method_26_code 18 = .ok (.iload 7, 2) := by decide +kernel
theorem dO_sumOf_20 : decode prog_1_method_26_code 20 = .ok (.aload_n 0, 1) := by decide +kernel
theorem dO_sumOf_21 : decode prog_1_method_26_code 21 = .ok (.getfield 84, 3) := by decide +kernel
theorem dO_sumOf_24 : decode prog_1_method_26_code 24 = .ok (.if_icmp .gt 23, 3) := by decide +kernel
theorem dO_sumOf_27 : decode prog_1_method_26_code 27 = .ok (.lload 4, 2) := by decide +kernel
theorem dO_sumOf_29 : decode prog_1_method_26_code 29 = .ok (.aload_n 1, 1) := by decide +kernel
theorem dO_sumOf_30 : decode prog_1_method_26_code 30 = .ok (.iload_n 2, 1) := by decide +kernel
theorem dO_sumOf_31 : decode prog_1_method_26_code 31 = .ok (.iload 6, 2) := by decide +kernel
theorem dO_sumOf_33 : decode prog_1_method_26_code 33 = .ok (.iload 7, 2) := by decide +kernel
theorem dO_sumOf_35 : decode prog_1_method_26_code 35 = .ok (.invokevirtual 104, 3) := by decide +kernel
theorem dO_sumOf_38 : decode prog_1_method_26_code 38 = .ok (.ladd, 1) := by decide +kernel
theorem dO_sumOf_39 : decode prog_1_method_26_code 39 = .ok (.lstore 4, 2) := by decide +kernel
theorem dO_sumOf_41 : decode prog_1_method_26_code 41 = .ok (.iinc 7 1, 3) := by decide +kernel
theorem dO_sumOf_44 : decode prog_1_method_26_code 44 = .ok (.goto (-26), 3) := by decide +kernel
theorem dO_sumOf_47 : decode prog_1_method_26_code 47 = .ok (.iinc 6 1, 3) := by decide +kernel
theorem dO_sumOf_50 : decode prog_1_method_26_code 50 = .ok (.goto (-44), 3) := by decide +kernel
theorem dO_sumOf_53 : decode prog_1_method_26_code 53 = .ok (.lload 4, 2) := by decide +kernel
theorem dO_sumOf_55 : decode prog_1_method_26_code 55 = .ok (.lreturn, 1) := by decide +kernel
theorem dO_isBelowMark_0 : decode prog_1_method_27_code 0 = .ok (.aload_n 0, 1) := by decide +kernel
theorem dO_isBelowMark_1 : decode prog_1_method_27_code 1 = .ok (.getfield 33, 3) := by decide +kernel
theorem dO_isBelowMark_4 : decode prog_1_method_27_code 4 = .ok (.iconst 0, 1) := by decide +kernel
theorem dO_isBelowMark_5 : decode prog_1_method_27_code 5 = .ok (.iload_n 1, 1) := by decide +kernel
theorem dO_isBelowMark_6 : decode prog_1_method_27_code 6 = .ok (.iload_n 2, 1) := by decide +kernel
theorem dO_isBelowMark_7 : decode prog_1_method_27_code 7 = .ok (.invokevirtual 104, 3) := by decide +kernel
theorem dO_isBelowMark_10 : decode prog_1_method_27_code 10 = .ok (.aload_n 0, 1) := by decide +kernel
theorem dO_isBelowMark_11 : decode prog_1_method_27_code 11 = .ok (.getfield 77, 3) := by decide +kernel
theorem dO_isBelowMark_14 : decode prog_1_method_27_code 14 = .ok (.i2l, 1) := by decide +kernel
theorem dO_isBelowMark_15 : decode prog_1_method_27_code 15 = .ok (.lcmp, 1) := by decide +kernel
theorem dO_isBelowMark_16 : decode prog_1_method_27_code 16 = .ok (.ifCond .ge 7, 3) := by decide +kernel
theorem dO_isBelowMark_19 : decode prog_1_method_27_code 19 = .ok (.iconst 1, 1) := by decide +kernel
theorem dO_isBelowMark_20 : decode prog_1_method_27_code 20 = .ok (.goto 4, 3) := by decide +kernel
theorem dO_isBelowMark_23 : decode prog_1_method_27_code 23 = .ok (.iconst 0, 1) := by decide +kernel
theorem dO_isBelowMark_24 : decode prog_1_method_27_code 24 = .ok (.ireturn, 1) := by decide +kernel
theorem dO_seedsEverBelowMark_0 : decode prog_1_method_28_code 0 = .ok (.iconst 0, 1) := by decide +kernel
theorem dO_seedsEverBelowMark_1 : decode prog_1_method_28_code 1 = .ok (.istore_n 1, 1) := by decide +kernel
theorem dO_seedsEverBelowMark_2 : decode prog_1_method_28_code 2 = .ok (.iconst 0, 1) := by decide +kernel
theorem dO_seedsEverBelowMark_3 : decode prog_1_method_28_code 3 = .ok (.istore_n 2, 1) := by decide +kernel
theorem dO_seedsEverBelowMark_4 : decode prog_1_method_28_code 4 = .ok (.iload_n 2, 1) := by decide +kernel
theorem dO_seedsEverBelowMark_5 : decode prog_1_method_28_code 5 = .ok (.aload_n 0, 1) := by decide +kernel
theorem dO_seedsEverBelowMark_6 : decode prog_1_method_28_code 6 = .ok (.getfield 87, 3) := by decide +kernel
theorem dO_seedsEverBelowMark_9 : decode prog_1_method_28_code 9 = .ok (.if_icmp .ge 20, 3) := by decide +kernel
theorem dO_seedsEverBelowMark_12 : decode prog_1_method_28_code 12 = .ok (.aload_n 0, 1) := by decide +kernel
theorem dO_seedsEverBelowMark_13 : decode prog_1_method_28_code 13 = .ok (.iload_n 2, 1) := by decide +kernel
theorem dO_seedsEverBelowMark_14 : decode prog_1_method_28_code 14 = .ok (.invokevirtual 195, 3) := by decide +kernel
theorem dO_seedsEverBelowMark_17 : decode prog_1_method_28_code 17 = .ok (.ifCond .eq 6, 3) := by decide +kernel
theorem dO_seedsEverBelowMark_20 : decode prog_1_method_28_code 20 = .ok (.iinc 1 1, 3) := by decide +kernel
theorem dO_seedsEverBelowMark_23 : decode prog_1_method_28_code 23 = .ok (.iinc 2 1, 3) := by decide +kernel
theorem dO_seedsEverBelowMark_26 : decode prog_1_method_28_code 26 = .ok (.goto (-22), 3) := by decide +kernel
theorem dO_seedsEverBelowMark_29 : decode prog_1_method_28_code 29 = .ok (.iload_n 1, 1) := by decide +kernel
theorem dO_seedsEverBelowMark_30 : decode prog_1_method_28_code 30 = .ok (.ireturn, 1) := by decide +kernel
theorem dO_isEverBelowMark_0 : decode prog_1_method_29_code 0 = .ok (.iconst 1, 1) := by decide +kernel
theorem dO_isEverBelowMark_1 : decode prog_1_method_29_code 1 = .ok (.istore_n 2, 1) := by decide +kernel
theorem dO_isEverBelowMark_2 : decode prog_1_method_29_code 2 = .ok (.iload_n 2, 1) := by decide +kernel
theorem dO_isEverBelowMark_3 : decode prog_1_method_29_code 3 = .ok (.aload_n 0, 1) := by decide +kernel
theorem dO_isEverBelowMark_4 : decode prog_1_method_29_code 4 = .ok (.getfield 84, 3) := by decide +kernel
theorem dO_isEverBelowMark_7 : decode prog_1_method_29_code 7 = .ok (.if_icmp .gt 20, 3) := by decide +kernel
theorem dO_isEverBelowMark_10 : decode prog_1_method_29_code 10 = .ok (.aload_n 0, 1) := by decide +kernel
theorem dO_isEverBelowMark_11 : decode prog_1_method_29_code 11 = .ok (.iload_n 1, 1) := by decide +kernel
theorem dO_isEverBelowMark_12 : decode prog_1_method_29_code 12 = .ok (.iload_n 2, 1) := by decide +kernel
theorem dO_isEverBelowMark_13 : decode prog_1_method_29_code 13 = .ok (.invokevirtual 108, 3) := by decide +kernel
theorem dO_isEverBelowMark_16 : decode prog_1_method_29_code 16 = .ok (.ifCond .eq 5, 3) := by decide +kernel
theorem dO_isEverBelowMark_19 : decode prog_1_method_29_code 19 = .ok (.iconst 1, 1) := by decide +kernel
theorem dO_isEverBelowMark_20 : decode prog_1_method_29_code 20 = .ok (.ireturn, 1) := by decide +kernel
theorem dO_isEverBelowMark_21 : decode prog_1_method_29_code 21 = .ok (.iinc 2 1, 3) := by decide +kernel
theorem dO_isEverBelowMark_24 : decode prog_1_method_29_code 24 = .ok (.goto (-22), 3) := by decide +kernel
theorem dO_isEverBelowMark_27 : decode prog_1_method_29_code 27 = .ok (.iconst 0, 1) := by decide +kernel
theorem dO_isEverBelowMark_28 : decode prog_1_method_29_code 28 = .ok (.ireturn, 1) := by decide +kernel
theorem dO_putInOrder_0 : decode prog_1_method_30_code 0 = .ok (.iload_n 1, 1) := by decide +kernel
theorem dO_putInOrder_1 : decode prog_1_method_30_code 1 = .ok (.istore 4, 2) := by decide +kernel
theorem dO_putInOrder_3 : decode prog_1_method_30_code 3 = .ok (.iload 4, 2) := by decide +kernel
theorem dO_putInOrder_5 : decode prog_1_method_30_code 5 = .ok (.ifCond .le 39, 3) := by decide +kernel
theorem dO_putInOrder_8 : decode prog_1_method_30_code 8 = .ok (.aload_n 0, 1) := by decide +kernel
theorem dO_putInOrder_9 : decode prog_1_method_30_code 9 = .ok (.getfield 40, 3) := by decide +kernel
theorem dO_putInOrder_12 : decode prog_1_method_30_code 12 = .ok (.iload 4, 2) := by decide +kernel
theorem dO_putInOrder_14 : decode prog_1_method_30_code 14 = .ok (.iconst 1, 1) := by decide +kernel
theorem dO_putInOrder_15 : decode prog_1_method_30_code 15 = .ok (.isub, 1) := by decide +kernel
theorem dO_putInOrder_16 : decode prog_1_method_30_code 16 = .ok (.laload, 1) := by decide +kernel
theorem dO_putInOrder_17 : decode prog_1_method_30_code 17 = .ok (.lload_n 2, 1) := by decide +kernel
theorem dO_putInOrder_18 : decode prog_1_method_30_code 18 = .ok (.lcmp, 1) := by decide +kernel
theorem dO_putInOrder_19 : decode prog_1_method_30_code 19 = .ok (.ifCond .le 25, 3) := by decide +kernel
theorem dO_putInOrder_22 : decode prog_1_method_30_code 22 = .ok (.aload_n 0, 1) := by decide +kernel
theorem dO_putInOrder_23 : decode prog_1_method_30_code 23 = .ok (.getfield 40, 3) := by decide +kernel
theorem dO_putInOrder_26 : decode prog_1_method_30_code 26 = .ok (.iload 4, 2) := by decide +kernel
theorem dO_putInOrder_28 : decode prog_1_method_30_code 28 = .ok (.aload_n 0, 1) := by decide +kernel
theorem dO_putInOrder_29 : decode prog_1_method_30_code 29 = .ok (.getfield 40, 3) := by decide +kernel
theorem dO_putInOrder_32 : decode prog_1_method_30_code 32 = .ok (.iload 4, 2) := by decide +kernel
theorem dO_putInOrder_34 : decode prog_1_method_30_code 34 = .ok (.iconst 1, 1) := by decide +kernel
theorem dO_putInOrder_35 : decode prog_1_method_30_code 35 = .ok (.isub, 1) := by decide +kernel
theorem dO_putInOrder_36 : decode prog_1_method_30_code 36 = .ok (.laload, 1) := by decide +kernel
theorem dO_putInOrder_37 : decode prog_1_method_30_code 37 = .ok (.lastore, 1) := by decide +kernel
theorem dO_putInOrder_38 : decode prog_1_method_30_code 38 = .ok (.iinc 4 (-1), 3) := by decide +kernel
theorem dO_putInOrder_41 : decode prog_1_method_30_code 41 = .ok (.goto (-38), 3) := by decide +kernel
theorem dO_putInOrder_44 : decode prog_1_method_30_code 44 = .ok (.aload_n 0, 1) := by decide +kernel
theorem dO_putInOrder_45 : decode prog_1_method_30_code 45 = .ok (.getfield 40, 3) := by decide +kernel
theorem dO_putInOrder_48 : decode prog_1_method_30_code 48 = .ok (.iload 4, 2) := by decide +kernel
theorem dO_putInOrder_50 : decode prog_1_method_30_code 50 = .ok (.lload_n 2, 1) := by decide +kernel
theorem dO_putInOrder_51 : decode prog_1_method_30_code 51 = .ok (.lastore, 1) := by decide +kernel
theorem dO_putInOrder_52 : decode prog_1_method_30_code 52 = .ok (.return_, 1) := by decide +kernel
theorem dO_partOfFraction_0 : decode prog_1_method_31_code 0 = .ok (.lconst 1, 1) := by decide +kernel
theorem dO_partOfFraction_1 : decode prog_1_method_31_code 1 = .ok (.lload_n 0, 1) := by decide +kernel
theorem dO_partOfFraction_2 : decode prog_1_method_31_code 2 = .ok (.lload_n 2, 1) := by decide +kernel
theorem dO_partOfFraction_3 : decode prog_1_method_31_code 3 = .ok (.invokestatic 199, 3) := by decide +kernel
theorem dO_partOfFraction_6 : decode prog_1_method_31_code 6 = .ok (.invokestatic 193, 3) := by decide +kernel
theorem dO_partOfFraction_9 : decode prog_1_method_31_code 9 = .ok (.lstore 5, 2) := by decide +kernel
theorem dO_partOfFraction_11 : decode prog_1_method_31_code 11 = .ok (.iload 4, 2) := by decide +kernel
theorem dO_partOfFraction_13 : decode prog_1_method_31_code 13 = .ok (.ifCond .ne 7, 3) := by decide +kernel
theorem dO_partOfFraction_16 : decode prog_1_method_31_code 16 = .ok (.lload_n 0, 1) := by decide +kernel
theorem dO_partOfFraction_17 : decode prog_1_method_31_code 17 = .ok (.goto 4, 3) := by decide +kernel
theorem dO_partOfFraction_20 : decode prog_1_method_31_code 20 = .ok (.lload_n 2, 1) := by decide +kernel
theorem dO_partOfFraction_21 : decode prog_1_method_31_code 21 = .ok (.lload 5, 2) := by decide +kernel
theorem dO_partOfFraction_23 : decode prog_1_method_31_code 23 = .ok (.ldiv, 1) := by decide +kernel
theorem dO_partOfFraction_24 : decode prog_1_method_31_code 24 = .ok (.lreturn, 1) := by decide +kernel
theorem dO_commonDivisor_0 : decode prog_1_method_32_code 0 = .ok (.lload_n 0, 1) := by decide +kernel
theorem dO_commonDivisor_1 : decode prog_1_method_32_code 1 = .ok (.lstore 4, 2) := by decide +kernel
theorem dO_commonDivisor_3 : decode prog_1_method_32_code 3 = .ok (.lload_n 2, 1) := by decide +kernel
theorem dO_commonDivisor_4 : decode prog_1_method_32_code 4 = .ok (.lstore 6, 2) := by decide +kernel
theorem dO_commonDivisor_6 : decode prog_1_method_32_code 6 = .ok (.iconst 0, 1) := by decide +kernel
theorem dO_commonDivisor_7 : decode prog_1_method_32_code 7 = .ok (.istore 8, 2) := by decide +kernel
theorem dO_commonDivisor_9 : decode prog_1_method_32_code 9 = .ok (.iload 8, 2) := by decide +kernel
theorem dO_commonDivisor_11 : decode prog_1_method_32_code 11 = .ok (.sipush 200, 3) := by decide +kernel
theorem dO_commonDivisor_14 : decode prog_1_method_32_code 14 = .ok (.if_icmp .ge 31, 3) := by decide +kernel
theorem dO_commonDivisor_17 : decode prog_1_method_32_code 17 = .ok (.lload 6, 2) := by decide +kernel
theorem dO_commonDivisor_19 : decode prog_1_method_32_code 19 = .ok (.lconst 0, 1) := by decide +kernel
theorem dO_commonDivisor_20 : decode prog_1_method_32_code 20 = .ok (.lcmp, 1) := by decide +kernel
theorem dO_commonDivisor_21 : decode prog_1_method_32_code 21 = .ok (.ifCond .eq 24, 3) := by decide +kernel
theorem dO_commonDivisor_24 : decode prog_1_method_32_code 24 = .ok (.lload 4, 2) := by decide +kernel
theorem dO_commonDivisor_26 : decode prog_1_method_32_code 26 = .ok (.lload 6, 2) := by decide +kernel
theorem dO_commonDivisor_28 : decode prog_1_method_32_code 28 = .ok (.lrem, 1) := by decide +kernel
theorem dO_commonDivisor_29 : decode prog_1_method_32_code 29 = .ok (.lstore 9, 2) := by decide +kernel
theorem dO_commonDivisor_31 : decode prog_1_method_32_code 31 = .ok (.lload 6, 2) := by decide +kernel
theorem dO_commonDivisor_33 : decode prog_1_method_32_code 33 = .ok (.lstore 4, 2) := by decide +kernel
theorem dO_commonDivisor_35 : decode prog_1_method_32_code 35 = .ok (.lload 9, 2) := by decide +kernel
theorem dO_commonDivisor_37 : decode prog_1_method_32_code 37 = .ok (.lstore 6, 2) := by decide +kernel
theorem dO_commonDivisor_39 : decode prog_1_method_32_code 39 = .ok (.iinc 8 1, 3) := by decide +kernel
theorem dO_commonDivisor_42 : decode prog_1_method_32_code 42 = .ok (.goto (-33), 3) := by decide +kernel
theorem dO_commonDivisor_45 : decode prog_1_method_32_code 45 = .ok (.lload 4, 2) := by decide +kernel
theorem dO_commonDivisor_47 : decode prog_1_method_32_code 47 = .ok (.lreturn, 1) := by decide +kernel
