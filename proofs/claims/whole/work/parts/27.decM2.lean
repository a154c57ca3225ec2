theorem dM_init_0 : decode prog_5_method_1_code 0 = .ok (.aload_n 0, 1) := by decide +kernel
theorem dM_init_1 : decode prog_5_method_1_code 1 = .ok (.invokespecial 1, 3) := by decide +kernel
theorem dM_init_4 : decode prog_5_method_1_code 4 = .ok (.aload_n 0, 1) := by decide +kernel
theorem dM_init_5 : decode prog_5_method_1_code 5 = .ok (.bipush 6, 2) := by decide +kernel
theorem dM_init_7 : decode prog_5_method_1_code 7 = .ok (.newarray .long, 2) := by decide +kernel
theorem dM_init_9 : decode prog_5_method_1_code 9 = .ok (.putfield 7, 3) := by decide +kernel
theorem dM_init_12 : decode prog_5_method_1_code 12 = .ok (.aload_n 0, 1) := by decide +kernel
theorem dM_init_13 : decode prog_5_method_1_code 13 = .ok (.bipush 6, 2) := by decide +kernel
theorem dM_init_15 : decode prog_5_method_1_code 15 = .ok (.newarray .long, 2) := by decide +kernel
theorem dM_init_17 : decode prog_5_method_1_code 17 = .ok (.putfield 13, 3) := by decide +kernel
theorem dM_init_20 : decode prog_5_method_1_code 20 = .ok (.aload_n 0, 1) := by decide +kernel
theorem dM_init_21 : decode prog_5_method_1_code 21 = .ok (.bipush 6, 2) := by decide +kernel
theorem dM_init_23 : decode prog_5_method_1_code 23 = .ok (.newarray .long, 2) := by decide +kernel
theorem dM_init_25 : decode prog_5_method_1_code 25 = .ok (.putfield 16, 3) := by decide +kernel
theorem dM_init_28 : decode prog_5_method_1_code 28 = .ok (.aload_n 0, 1) := by decide +kernel
theorem dM_init_29 : decode prog_5_method_1_code 29 = .ok (.bipush 6, 2) := by decide +kernel
theorem dM_init_31 : decode prog_5_method_1_code 31 = .ok (.newarray .long, 2) := by decide +kernel
theorem dM_init_33 : decode prog_5_method_1_code 33 = .ok (.putfield 19, 3) := by decide +kernel
theorem dM_init_36 : decode prog_5_method_1_code 36 = .ok (.aload_n 0, 1) := by decide +kernel
theorem dM_init_37 : decode prog_5_method_1_code 37 = .ok (.bipush 6, 2) := by decide +kernel
theorem dM_init_39 : decode prog_5_method_1_code 39 = .ok (.newarray .long, 2) := by decide +kernel
theorem dM_init_41 : decode prog_5_method_1_code 41 = .ok (.putfield 22, 3) := by decide +kernel
theorem dM_init_44 : decode prog_5_method_1_code 44 = .ok (.aload_n 0, 1) := by decide +kernel
theorem dM_init_45 : decode prog_5_method_1_code 45 = .ok (.bipush 6, 2) := by decide +kernel
theorem dM_init_47 : decode prog_5_method_1_code 47 = .ok (.newarray .long, 2) := by decide +kernel
theorem dM_init_49 : decode prog_5_method_1_code 49 = .ok (.putfield 25, 3) := by decide +kernel
theorem dM_init_52 : decode prog_5_method_1_code 52 = .ok (.aload_n 0, 1) := by decide +kernel
theorem dM_init_53 : decode prog_5_method_1_code 53 = .ok (.bipush 6, 2) := by decide +kernel
theorem dM_init_55 : decode prog_5_method_1_code 55 = .ok (.newarray .int, 2) := by decide +kernel
theorem dM_init_57 : decode prog_5_method_1_code 57 = .ok (.putfield 28, 3) := by decide +kernel
theorem dM_init_60 : decode prog_5_method_1_code 60 = .ok (.aload_n 0, 1) := by decide +kernel
theorem dM_init_61 : decode prog_5_method_1_code 61 = .ok (.sipush 1000, 3) := by decide +kernel
theorem dM_init_64 : decode prog_5_method_1_code 64 = .ok (.putfield 32, 3) := by decide +kernel
theorem dM_init_67 : decode prog_5_method_1_code 67 = .ok (.aload_n 0, 1) := by decide +kernel
theorem dM_init_68 : decode prog_5_method_1_code 68 = .ok (.sipush 672, 3) := by decide +kernel
theorem dM_init_71 : decode prog_5_method_1_code 71 = .ok (.newarray .long, 2) := by decide +kernel
theorem dM_init_73 : decode prog_5_method_1_code 73 = .ok (.putfield 36, 3) := by decide +kernel
theorem dM_init_76 : decode prog_5_method_1_code 76 = .ok (.aload_n 0, 1) := by decide +kernel
theorem dM_init_77 : decode prog_5_method_1_code 77 = .ok (.sipush 672, 3) := by decide +kernel
theorem dM_init_80 : decode prog_5_method_1_code 80 = .ok (.newarray .long, 2) := by decide +kernel
theorem dM_init_82 : decode prog_5_method_1_code 82 = .ok (.putfield 39, 3) := by decide +kernel
theorem dM_init_85 : decode prog_5_method_1_code 85 = .ok (.aload_n 0, 1) := by decide +kernel
theorem dM_init_86 : decode prog_5_method_1_code 86 = .ok (.sipush 672, 3) := by decide +kernel
theorem dM_init_89 : decode prog_5_method_1_code 89 = .ok (.newarray .long, 2) := by decide +kernel
theorem dM_init_91 : decode prog_5_method_1_code 91 = .ok (.putfield 42, 3) := by decide +kernel
theorem dM_init_94 : decode prog_5_method_1_code 94 = .ok (.aload_n 0, 1) := by decide +kernel
theorem dM_init_95 : decode prog_5_method_1_code 95 = .ok (.sipush 672, 3) := by decide +kernel
theorem dM_init_98 : decode prog_5_method_1_code 98 = .ok (.newarray .long, 2) := by decide +kernel
theorem dM_init_100 : decode prog_5_method_1_code 100 = .ok (.putfield 45, 3) := by decide +kernel
theorem dM_init_103 : decode prog_5_method_1_code 103 = .ok (.aload_n 0, 1) := by decide +kernel
theorem dM_init_104 : decode prog_5_method_1_code 104 = .ok (.bipush 6, 2) := by decide +kernel
theorem dM_init_106 : decode prog_5_method_1_code 106 = .ok (.newarray .long, 2) := by decide +kernel
theorem dM_init_108 : decode prog_5_method_1_code 108 = .ok (.putfield 48, 3) := by decide +kernel
theorem dM_init_111 : decode prog_5_method_1_code 111 = .ok (.return_, 1) := by decide +kernel
theorem dM_run_0 : decode prog_5_method_15_code 0 = .ok (.aload_n 0, 1) := by decide +kernel
theorem dM_run_1 : decode prog_5_method_15_code 1 = .ok (.iload_n 1, 1) := by decide +kernel
theorem dM_run_2 : decode prog_5_method_15_code 2 = .ok (.iconst 0, 1) := by decide +kernel
theorem dM_run_3 : decode prog_5_method_15_code 3 = .ok (.aload_n 0, 1) := by decide +kernel
theorem dM_run_4 : decode prog_5_method_15_code 4 = .ok (.getfield 63, 3) := by decide +kernel
theorem dM_run_7 : decode prog_5_method_15_code 7 = .ok (.iconst 1, 1) := by decide +kernel
theorem dM_run_8 : decode prog_5_method_15_code 8 = .ok (.isub, 1) := by decide +kernel
theorem dM_run_9 : decode prog_5_method_15_code 9 = .ok (.invokestatic 55, 3) := by decide +kernel
theorem dM_run_12 : decode prog_5_method_15_code 12 = .ok (.ifCond .ne 7, 3) := by decide +kernel
theorem dM_run_15 : decode prog_5_method_15_code 15 = .ok (.iconst 1, 1) := by decide +kernel
theorem dM_run_16 : decode prog_5_method_15_code 16 = .ok (.goto 28, 3) := by decide +kernel
theorem dM_run_19 : decode prog_5_method_15_code 19 = .ok (.iload_n 2, 1) := by decide +kernel
theorem dM_run_20 : decode prog_5_method_15_code 20 = .ok (.iconst 1, 1) := by decide +kernel
theorem dM_run_21 : decode prog_5_method_15_code 21 = .ok (.bipush 20, 2) := by decide +kernel
theorem dM_run_23 : decode prog_5_method_15_code 23 = .ok (.invokestatic 55, 3) := by decide +kernel
theorem dM_run_26 : decode prog_5_method_15_code 26 = .ok (.ifCond .eq 13, 3) := by decide +kernel
theorem dM_run_29 : decode prog_5_method_15_code 29 = .ok (.iload_n 3, 1) := by decide +kernel
theorem dM_run_30 : decode prog_5_method_15_code 30 = .ok (.iconst 1, 1) := by decide +kernel
theorem dM_run_31 : decode prog_5_method_15_code 31 = .ok (.bipush 16, 2) := by decide +kernel
theorem dM_run_33 : decode prog_5_method_15_code 33 = .ok (.invokestatic 55, 3) := by decide +kernel
theorem dM_run_36 : decode prog_5_method_15_code 36 = .ok (.ifCond .ne 7, 3) := by decide +kernel
theorem dM_run_39 : decode prog_5_method_15_code 39 = .ok (.iconst 2, 1) := by decide +kernel
theorem dM_run_40 : decode prog_5_method_15_code 40 = .ok (.goto 4, 3) := by decide +kernel
theorem dM_run_43 : decode prog_5_method_15_code 43 = .ok (.iconst 0, 1) := by decide +kernel
theorem dM_run_44 : decode prog_5_method_15_code 44 = .ok (.putfield 51, 3) := by decide +kernel
theorem dM_run_47 : decode prog_5_method_15_code 47 = .ok (.aload_n 0, 1) := by decide +kernel
theorem dM_run_48 : decode prog_5_method_15_code 48 = .ok (.getfield 51, 3) := by decide +kernel
theorem dM_run_51 : decode prog_5_method_15_code 51 = .ok (.ifCond .le 5, 3) := by decide +kernel
theorem dM_run_54 : decode prog_5_method_15_code 54 = .ok (.iconst 0, 1) := by decide +kernel
theorem dM_run_55 : decode prog_5_method_15_code 55 = .ok (.ireturn, 1) := by decide +kernel
theorem dM_run_56 : decode prog_5_method_15_code 56 = .ok (.aload_n 0, 1) := by decide +kernel
theorem dM_run_57 : decode prog_5_method_15_code 57 = .ok (.iload_n 1, 1) := by decide +kernel
theorem dM_run_58 : decode prog_5_method_15_code 58 = .ok (.putfield 92, 3) := by decide +kernel
theorem dM_run_61 : decode prog_5_method_15_code 61 = .ok (.aload_n 0, 1) := by decide +kernel
theorem dM_run_62 : decode prog_5_method_15_code 62 = .ok (.iload_n 2, 1) := by decide +kernel
theorem dM_run_63 : decode prog_5_method_15_code 63 = .ok (.putfield 95, 3) := by decide +kernel
theorem dM_run_66 : decode prog_5_method_15_code 66 = .ok (.aload_n 0, 1) := by decide +kernel
theorem dM_run_67 : decode prog_5_method_15_code 67 = .ok (.iload_n 3, 1) := by decide +kernel
theorem dM_run_68 : decode prog_5_method_15_code 68 = .ok (.putfield 98, 3) := by decide +kernel
theorem dM_run_71 : decode prog_5_method_15_code 71 = .ok (.aload_n 0, 1) := by decide +kernel
theorem dM_run_72 : decode prog_5_method_15_code 72 = .ok (.dup, 1) := by decide +kernel
theorem dM_run_73 : decode prog_5_method_15_code 73 = .ok (.getfield 101, 3) := by decide +kernel
theorem dM_run_76 : decode prog_5_method_15_code 76 = .ok (.iconst 1, 1) := by decide +kernel
theorem dM_run_77 : decode prog_5_method_15_code 77 = .ok (.iadd, 1) := by decide +kernel
theorem dM_run_78 : decode prog_5_method_15_code 78 = .ok (.putfield 101, 3) := by decide +kernel
theorem dM_run_81 : decode prog_5_method_15_code 81 = .ok (.aload_n 0, 1) := by decide +kernel
theorem dM_run_82 : decode prog_5_method_15_code 82 = .ok (.iconst 0, 1) := by decide +kernel
theorem dM_run_83 : decode prog_5_method_15_code 83 = .ok (.iload_n 1, 1) := by decide +kernel
theorem dM_run_84 : decode prog_5_method_15_code 84 = .ok (.aload_n 0, 1) := by decide +kernel
theorem dM_run_85 : decode prog_5_method_15_code 85 = .ok (.getfield 28, 3) := by decide +kernel
theorem dM_run_88 : decode prog_5_method_15_code 88 = .ok (.iload_n 1, 1) := by decide +kernel
theorem dM_run_89 : decode prog_5_method_15_code 89 = .ok (.iaload, 1) := by decide +kernel
theorem dM_run_90 : decode prog_5_method_15_code 90 = .ok (.iload_n 2, 1) := by decide +kernel
theorem dM_run_91 : decode prog_5_method_15_code 91 = .ok (.iload_n 3, 1) := by decide +kernel
theorem dM_run_92 : decode prog_5_method_15_code 92 = .ok (.invokevirtual 104, 3) := by decide +kernel
theorem dM_run_95 : decode prog_5_method_15_code 95 = .ok (.iconst 0, 1) := by decide +kernel
theorem dM_run_96 : decode prog_5_method_15_code 96 = .ok (.istore 4, 2) := by decide +kernel
theorem dM_run_98 : decode prog_5_method_15_code 98 = .ok (.iconst 0, 1) := by decide +kernel
theorem dM_run_99 : decode prog_5_method_15_code 99 = .ok (.istore 5, 2) := by decide +kernel
theorem dM_run_101 : decode prog_5_method_15_code 101 = .ok (.iload 5, 2) := by decide +kernel
theorem dM_run_103 : decode prog_5_method_15_code 103 = .ok (.iload_n 3, 1) := by decide +kernel
theorem dM_run_104 : decode prog_5_method_15_code 104 = .ok (.if_icmp .ge 77, 3) := by decide +kernel
theorem dM_run_107 : decode prog_5_method_15_code 107 = .ok (.iconst 0, 1) := by decide +kernel
theorem dM_run_108 : decode prog_5_method_15_code 108 = .ok (.istore 6, 2) := by decide +kernel
theorem dM_run_110 : decode prog_5_method_15_code 110 = .ok (.iconst 1, 1) := by decide +kernel
theorem dM_run_111 : decode prog_5_method_15_code 111 = .ok (.istore 7, 2) := by decide +kernel
theorem dM_run_113 : decode prog_5_method_15_code 113 = .ok (.iload 7, 2) := by decide +kernel
theorem dM_run_115 : decode prog_5_method_15_code 115 = .ok (.iload_n 2, 1) := by decide +kernel
theorem dM_run_116 : decode prog_5_method_15_code 116 = .ok (.if_icmp .gt 43, 3) := by decide +kernel
theorem dM_run_119 : decode prog_5_method_15_code 119 = .ok (.iload 6, 2) := by decide +kernel
theorem dM_run_121 : decode prog_5_method_15_code 121 = .ok (.ifCond .ne 25, 3) := by decide +kernel
theorem dM_run_124 : decode prog_5_method_15_code 124 = .ok (.aload_n 0, 1) := by decide +kernel
theorem dM_run_125 : decode prog_5_method_15_code 125 = .ok (.getfield 36, 3) := by decide +kernel
theorem dM_run_128 : decode prog_5_method_15_code 128 = .ok (.bipush 21, 2) := by decide +kernel
theorem dM_run_130 : decode prog_5_method_15_code 130 = .ok (.iload 5, 2) := by decide +kernel
theorem dM_run_132 : decode prog_5_method_15_code 132 = .ok (.imul, 1) := by decide +kernel
theorem dM_run_133 : decode prog_5_method_15_code 133 = .ok (.iload 7, 2) := by decide +kernel
theorem dM_run_135 : decode prog_5_method_15_code 135 = .ok (.iadd, 1) := by decide +kernel
theorem dM_run_136 : decode prog_5_method_15_code 136 = .ok (.laload, 1) := by decide +kernel
theorem dM_run_137 : decode prog_5_method_15_code 137 = .ok (.aload_n 0, 1) := by decide +kernel
theorem dM_run_138 : decode prog_5_method_15_code 138 = .ok (.getfield 72, 3) := by decide +kernel
theorem dM_run_141 : decode prog_5_method_15_code 141 = .ok (.i2l, 1) := by decide +kernel
theorem dM_run_142 : decode prog_5_method_15_code 142 = .ok (.lcmp, 1) := by decide +kernel
theorem dM_run_143 : decode prog_5_method_15_code 143 = .ok (.ifCond .ge 7, 3) := by decide +kernel
theorem dM_run_146 : decode prog_5_method_15_code 146 = .ok (.iconst 1, 1) := by decide +kernel
theorem dM_run_147 : decode prog_5_method_15_code 147 = .ok (.goto 4, 3) := by decide +kernel
theorem dM_run_150 : decode prog_5_method_15_code 150 = .ok (.iconst 0, 1) := by decide +kernel
theorem dM_run_151 : decode prog_5_method_15_code 151 = .ok (.istore 6, 2) := by decide +kernel
theorem dM_run_153 : decode prog_5_method_15_code 153 = .ok (.iinc 7 1, 3) := by decide +kernel
theorem dM_run_156 : decode prog_5_method_15_code 156 = .ok (.goto (-43), 3) := by decide +kernel
theorem dM_run_159 : decode prog_5_method_15_code 159 = .ok (.iload 6, 2) := by decide +kernel
theorem dM_run_161 : decode prog_5_method_15_code 161 = .ok (.ifCond .eq 10, 3) := by decide +kernel
theorem dM_run_164 : decode prog_5_method_15_code 164 = .ok (.iload 4, 2) := by decide +kernel
theorem dM_run_166 : decode prog_5_method_15_code 166 = .ok (.iconst 1, 1) := by decide +kernel
theorem dM_run_167 : decode prog_5_method_15_code 167 = .ok (.iadd, 1) := by decide +kernel
theorem dM_run_168 : decode prog_5_method_15_code 168 = .ok (.goto 5, 3) := by decide +kernel
theorem dM_run_171 : decode prog_5_method_15_code 171 = .ok (.iload 4, 2) := by decide +kernel
theorem dM_run_173 : decode prog_5_method_15_code 173 = .ok (.istore 4, 2) := by decide +kernel
theorem dM_run_175 : decode prog_5_method_15_code 175 = .ok (.iinc 5 1, 3) := by decide +kernel
theorem dM_run_178 : decode prog_5_method_15_code 178 = .ok (.goto (-77), 3) := by decide +kernel
theorem dM_run_181 : decode prog_5_method_15_code 181 = .ok (.iload 4, 2) := by decide +kernel
theorem dM_run_183 : decode prog_5_method_15_code 183 = .ok (.ireturn, 1) := by decide +kernel
theorem dM_noYear_0 : decode prog_5_method_16_code 0 = .ok (.iload_n 1, 1) := by decide +kernel
theorem dM_noYear_1 : decode prog_5_method_16_code 1 = .ok (.iconst 1, 1) := by decide +kernel
theorem dM_noYear_2 : decode prog_5_method_16_code 2 = .ok (.aload_n 0, 1) := by decide +kernel
theorem dM_noYear_3 : decode prog_5_method_16_code 3 = .ok (.getfield 95, 3) := by decide +kernel
theorem dM_noYear_6 : decode prog_5_method_16_code 6 = .ok (.invokestatic 55, 3) := by decide +kernel
theorem dM_noYear_9 : decode prog_5_method_16_code 9 = .ok (.ifCond .ne 7, 3) := by decide +kernel
theorem dM_noYear_12 : decode prog_5_method_16_code 12 = .ok (.iconst 1, 1) := by decide +kernel
theorem dM_noYear_13 : decode prog_5_method_16_code 13 = .ok (.goto 4, 3) := by decide +kernel
theorem dM_noYear_16 : decode prog_5_method_16_code 16 = .ok (.iconst 0, 1) := by decide +kernel
theorem dM_noYear_17 : decode prog_5_method_16_code 17 = .ok (.ireturn, 1) := by decide +kernel
theorem dM_noSeed_0 : decode prog_5_method_17_code 0 = .ok (.iload_n 1, 1) := by decide +kernel
theorem dM_noSeed_1 : decode prog_5_method_17_code 1 = .ok (.iconst 0, 1) := by decide +kernel
theorem dM_noSeed_2 : decode prog_5_method_17_code 2 = .ok (.aload_n 0, 1) := by decide +kernel
theorem dM_noSeed_3 : decode prog_5_method_17_code 3 = .ok (.getfield 98, 3) := by decide +kernel
theorem dM_noSeed_6 : decode prog_5_method_17_code 6 = .ok (.iconst 1, 1) := by decide +kernel
theorem dM_noSeed_7 : decode prog_5_method_17_code 7 = .ok (.isub, 1) := by decide +kernel
theorem dM_noSeed_8 : decode prog_5_method_17_code 8 = .ok (.invokestatic 55, 3) := by decide +kernel
theorem dM_noSeed_11 : decode prog_5_method_17_code 11 = .ok (.ifCond .ne 7, 3) := by decide +kernel
theorem dM_noSeed_14 : decode prog_5_method_17_code 14 = .ok (.iconst 1, 1) := by decide +kernel
theorem dM_noSeed_15 : decode prog_5_method_17_code 15 = .ok (.goto 4, 3) := by decide +kernel
theorem dM_noSeed_18 : decode prog_5_method_17_code 18 = .ok (.iconst 0, 1) := by decide +kernel
theorem dM_noSeed_19 : decode prog_5_method_17_code 19 = .ok (.ireturn, 1) := by decide +kernel
theorem dM_told_0 : decode prog_5_method_18_code 0 = .ok (.aload_n 0, 1) := by decide +kernel
theorem dM_told_1 : decode prog_5_method_18_code 1 = .ok (.aload_n 0, 1) := by decide +kernel
theorem dM_told_2 : decode prog_5_method_18_code 2 = .ok (.getfield 101, 3) := by decide +kernel
theorem dM_told_5 : decode prog_5_method_18_code 5 = .ok (.ifCond .ne 7, 3) := by decide +kernel
theorem dM_told_8 : decode prog_5_method_18_code 8 = .ok (.iconst 1, 1) := by decide +kernel
theorem dM_told_9 : decode prog_5_method_18_code 9 = .ok (.goto 33, 3) := by decide +kernel
theorem dM_told_12 : decode prog_5_method_18_code 12 = .ok (.aload_n 0, 1) := by decide +kernel
theorem dM_told_13 : decode prog_5_method_18_code 13 = .ok (.iload_n 1, 1) := by decide +kernel
theorem dM_told_14 : decode prog_5_method_18_code 14 = .ok (.invokevirtual 107, 3) := by decide +kernel
theorem dM_told_17 : decode prog_5_method_18_code 17 = .ok (.ifCond .ne 20, 3) := by decide +kernel
theorem dM_told_20 : decode prog_5_method_18_code 20 = .ok (.aload_n 0, 1) := by decide +kernel
theorem dM_told_21 : decode prog_5_method_18_code 21 = .ok (.iload_n 2, 1) := by decide +kernel
theorem dM_told_22 : decode prog_5_method_18_code 22 = .ok (.invokevirtual 111, 3) := by decide +kernel
theorem dM_told_25 : decode prog_5_method_18_code 25 = .ok (.ifCond .ne 12, 3) := by decide +kernel
theorem dM_told_28 : decode prog_5_method_18_code 28 = .ok (.iload_n 3, 1) := by decide +kernel
theorem dM_told_29 : decode prog_5_method_18_code 29 = .ok (.iconst 0, 1) := by decide +kernel
theorem dM_told_30 : decode prog_5_method_18_code 30 = .ok (.iconst 3, 1) := by decide +kernel
theorem dM_told_31 : decode prog_5_method_18_code 31 = .ok (.invokestatic 55, 3) := by decide +kernel
theorem dM_told_34 : decode prog_5_method_18_code 34 = .ok (.ifCond .ne 7, 3) := by decide +kernel
theorem dM_told_37 : decode prog_5_method_18_code 37 = .ok (.iconst 2, 1) := by decide +kernel
theorem dM_told_38 : decode prog_5_method_18_code 38 = .ok (.goto 4, 3) := by decide +kernel
theorem dM_told_41 : decode prog_5_method_18_code 41 = .ok (.iconst 0, 1) := by decide +kernel
theorem dM_told_42 : decode prog_5_method_18_code 42 = .ok (.putfield 51, 3) := by decide +kernel
theorem dM_told_45 : decode prog_5_method_18_code 45 = .ok (.aload_n 0, 1) := by decide +kernel
theorem dM_told_46 : decode prog_5_method_18_code 46 = .ok (.getfield 51, 3) := by decide +kernel
theorem dM_told_49 : decode prog_5_method_18_code 49 = .ok (.ifCond .le 5, 3) := by decide +kernel
theorem dM_told_52 : decode prog_5_method_18_code 52 = .ok (.lconst 0, 1) := by decide +kernel
theorem dM_told_53 : decode prog_5_method_18_code 53 = .ok (.lreturn, 1) := by decide +kernel
theorem dM_told_54 : decode prog_5_method_18_code 54 = .ok (.bipush 21, 2) := by decide +kernel
theorem dM_told_56 : decode prog_5_method_18_code 56 = .ok (.iload_n 1, 1) := by decide +kernel
theorem dM_told_57 : decode prog_5_method_18_code 57 = .ok (.imul, 1) := by decide +kernel
theorem dM_told_58 : decode prog_5_method_18_code 58 = .ok (.iload_n 2, 1) := by decide +kernel
theorem dM_told_59 : decode prog_5_method_18_code 59 = .ok (.iadd, 1) := by decide +kernel
theorem dM_told_60 : decode prog_5_method_18_code 60 = .ok (.istore 4, 2) := by decide +kernel
theorem dM_told_62 : decode prog_5_method_18_code 62 = .ok (.iload_n 3, 1) := by decide +kernel
theorem dM_told_63 : decode prog_5_method_18_code 63 = .ok (.ifCond .ne 13, 3) := by decide +kernel
theorem dM_told_66 : decode prog_5_method_18_code 66 = .ok (.aload_n 0, 1) := by decide +kernel
theorem dM_told_67 : decode prog_5_method_18_code 67 = .ok (.getfield 36, 3) := by decide +kernel
theorem dM_told_70 : decode prog_5_method_18_code 70 = .ok (.iload 4, 2) := by decide +kernel
theorem dM_told_72 : decode prog_5_method_18_code 72 = .ok (.laload, 1) := by decide +kernel
theorem dM_told_73 : decode prog_5_method_18_code 73 = .ok (.goto 40, 3) := by decide +kernel
theorem dM_told_76 : decode prog_5_method_18_code 76 = .ok (.iload_n 3, 1) := by decide +kernel
theorem dM_told_77 : decode prog_5_method_18_code 77 = .ok (.iconst 1, 1) := by decide +kernel
theorem dM_told_78 : decode prog_5_method_18_code 78 = .ok (.if_icmp .ne 13, 3) := by decide +kernel
theorem dM_told_81 : decode prog_5_method_18_code 81 = .ok (.aload_n 0, 1) := by decide +kernel
theorem dM_told_82 : decode prog_5_method_18_code 82 = .ok (.getfield 39, 3) := by decide +kernel
theorem dM_told_85 : decode prog_5_method_18_code 85 = .ok (.iload 4, 2) := by decide +kernel
theorem dM_told_87 : decode prog_5_method_18_code 87 = .ok (.laload, 1) := by decide +kernel
theorem dM_told_88 : decode prog_5_method_18_code 88 = .ok (.goto 25, 3) := by decide +kernel
theorem dM_told_91 : decode prog_5_method_18_code 91 = .ok (.iload_n 3, 1) := by decide +kernel
theorem dM_told_92 : decode prog_5_method_18_code 92 = .ok (.iconst 2, 1) := by decide +kernel
theorem dM_told_93 : decode prog_5_method_18_code 93 = .ok (.if_icmp .ne 13, 3) := by decide +kernel
theorem dM_told_96 : decode prog_5_method_18_code 96 = .ok (.aload_n 0, 1) := by decide +kernel
theorem dM_told_97 : decode prog_5_method_18_code 97 = .ok (.getfield 42, 3) := by decide +kernel
theorem dM_told_100 : decode prog_5_method_18_code 100 = .ok (.iload 4, 2) := by decide +kernel
theorem dM_told_102 : decode prog_5_method_18_code 102 = .ok (.laload, 1) := by decide +kernel
theorem dM_told_103 : decode prog_5_method_18_code 103 = .ok (.goto 10, 3) := by decide +kernel
theorem dM_told_106 : decode prog_5_method_18_code 106 = .ok (.aload_n 0, 1) := by decide +kernel
theorem dM_told_107 : decode prog_5_method_18_code 107 = .ok (.getfield 45, 3) := by decide +kernel
theorem dM_told_110 : decode prog_5_method_18_code 110 = .ok (.iload 4, 2) := by decide +kernel
theorem dM_told_112 : decode prog_5_method_18_code 112 = .ok (.laload, 1) := by decide +kernel
theorem dM_told_113 : decode prog_5_method_18_code 113 = .ok (.lreturn, 1) := by decide +kernel
theorem dM_part_0 : decode prog_5_method_19_code 0 = .ok (.lload_n 0, 1) := by decide +kernel
theorem dM_part_1 : decode prog_5_method_19_code 1 = .ok (.lstore 5, 2) := by decide +kernel
theorem dM_part_3 : decode prog_5_method_19_code 3 = .ok (.lload_n 2, 1) := by decide +kernel
theorem dM_part_4 : decode prog_5_method_19_code 4 = .ok (.lstore 7, 2) := by decide +kernel
theorem dM_part_6 : decode prog_5_method_19_code 6 = .ok (.lload 5, 2) := by decide +kernel
theorem dM_part_8 : decode prog_5_method_19_code 8 = .ok (.lconst 0, 1) := by decide +kernel
theorem dM_part_9 : decode prog_5_method_19_code 9 = .ok (.lcmp, 1) := by decide +kernel
theorem dM_part_10 : decode prog_5_method_19_code 10 = .ok (.ifCond .eq 21, 3) := by decide +kernel
theorem dM_part_13 : decode prog_5_method_19_code 13 = .ok (.lload 7, 2) := by decide +kernel
theorem dM_part_15 : decode prog_5_method_19_code 15 = .ok (.lload 5, 2) := by decide +kernel
theorem dM_part_17 : decode prog_5_method_19_code 17 = .ok (.lrem, 1) := by decide +kernel
theorem dM_part_18 : decode prog_5_method_19_code 18 = .ok (.lstore 9, 2) := by decide +kernel
theorem dM_part_20 : decode prog_5_method_19_code 20 = .ok (.lload 5, 2) := by decide +kernel
theorem dM_part_22 : decode prog_5_method_19_code 22 = .ok (.lstore 7, 2) := by decide +kernel
theorem dM_part_24 : decode prog_5_method_19_code 24 = .ok (.lload 9, 2) := by decide +kernel
theorem dM_part_26 : decode prog_5_method_19_code 26 = .ok (.lstore 5, 2) := by decide +kernel
theorem dM_part_28 : decode prog_5_method_19_code 28 = .ok (.goto (-22), 3) := by decide +kernel
theorem dM_part_31 : decode prog_5_method_19_code 31 = .ok (.iload 4, 2) := by decide +kernel
theorem dM_part_33 : decode prog_5_method_19_code 33 = .ok (.ifCond .ne 10, 3) := by decide +kernel
theorem dM_part_36 : decode prog_5_method_19_code 36 = .ok (.lload_n 0, 1) := by decide +kernel
theorem dM_part_37 : decode prog_5_method_19_code 37 = .ok (.lload 7, 2) := by decide +kernel
theorem dM_part_39 : decode prog_5_method_19_code 39 = .ok (.ldiv, 1) := by decide +kernel
theorem dM_part_40 : decode prog_5_method_19_code 40 = .ok (.goto 7, 3) := by decide +kernel
theorem dM_part_43 : decode prog_5_method_19_code 43 = .ok (.lload_n 2, 1) := by decide +kernel
theorem dM_part_44 : decode prog_5_method_19_code 44 = .ok (.lload 7, 2) := by decide +kernel
theorem dM_part_46 : decode prog_5_method_19_code 46 = .ok (.ldiv, 1) := by decide +kernel
theorem dM_part_47 : decode prog_5_method_19_code 47 = .ok (.lreturn, 1) := by decide +kernel
theorem dM_below_0 : decode prog_5_method_20_code 0 = .ok (.aload_n 0, 1) := by decide +kernel
theorem dM_below_1 : decode prog_5_method_20_code 1 = .ok (.aload_n 0, 1) := by decide +kernel
theorem dM_below_2 : decode prog_5_method_20_code 2 = .ok (.getfield 101, 3) := by decide +kernel
theorem dM_below_5 : decode prog_5_method_20_code 5 = .ok (.ifCond .ne 7, 3) := by decide +kernel
theorem dM_below_8 : decode prog_5_method_20_code 8 = .ok (.iconst 1, 1) := by decide +kernel
theorem dM_below_9 : decode prog_5_method_20_code 9 = .ok (.goto 25, 3) := by decide +kernel
theorem dM_below_12 : decode prog_5_method_20_code 12 = .ok (.aload_n 0, 1) := by decide +kernel
theorem dM_below_13 : decode prog_5_method_20_code 13 = .ok (.iload_n 1, 1) := by decide +kernel
theorem dM_below_14 : decode prog_5_method_20_code 14 = .ok (.invokevirtual 111, 3) := by decide +kernel
theorem dM_below_17 : decode prog_5_method_20_code 17 = .ok (.ifCond .ne 12, 3) := by decide +kernel
theorem dM_below_20 : decode prog_5_method_20_code 20 = .ok (.iload_n 2, 1) := by decide +kernel
theorem dM_below_21 : decode prog_5_method_20_code 21 = .ok (.iconst 0, 1) := by decide +kernel
theorem dM_below_22 : decode prog_5_method_20_code 22 = .ok (.iconst 1, 1) := by decide +kernel
theorem dM_below_23 : decode prog_5_method_20_code 23 = .ok (.invokestatic 55, 3) := by decide +kernel
theorem dM_below_26 : decode prog_5_method_20_code 26 = .ok (.ifCond .ne 7, 3) := by decide +kernel
theorem dM_below_29 : decode prog_5_method_20_code 29 = .ok (.iconst 2, 1) := by decide +kernel
theorem dM_below_30 : decode prog_5_method_20_code 30 = .ok (.goto 4, 3) := by decide +kernel
theorem dM_below_33 : decode prog_5_method_20_code 33 = .ok (.iconst 0, 1) := by decide +kernel
theorem dM_below_34 : decode prog_5_method_20_code 34 = .ok (.putfield 51, 3) := by decide +kernel
theorem dM_below_37 : decode prog_5_method_20_code 37 = .ok (.iconst 0, 1) := by decide +kernel
theorem dM_below_38 : decode prog_5_method_20_code 38 = .ok (.istore_n 3, 1) := by decide +kernel
theorem dM_below_39 : decode prog_5_method_20_code 39 = .ok (.iconst 0, 1) := by decide +kernel
theorem dM_below_40 : decode prog_5_method_20_code 40 = .ok (.istore 4, 2) := by decide +kernel
theorem dM_below_42 : decode prog_5_method_20_code 42 = .ok (.iload 4, 2) := by decide +kernel
theorem dM_below_44 : decode prog_5_method_20_code 44 = .ok (.aload_n 0, 1) := by decide +kernel
theorem dM_below_45 : decode prog_5_method_20_code 45 = .ok (.getfield 98, 3) := by decide +kernel
theorem dM_below_48 : decode prog_5_method_20_code 48 = .ok (.if_icmp .ge 45, 3) := by decide +kernel
theorem dM_below_51 : decode prog_5_method_20_code 51 = .ok (.aload_n 0, 1) := by decide +kernel
theorem dM_below_52 : decode prog_5_method_20_code 52 = .ok (.getfield 51, 3) := by decide +kernel
theorem dM_below_55 : decode prog_5_method_20_code 55 = .ok (.ifCond .ne 38, 3) := by decide +kernel
theorem dM_below_58 : decode prog_5_method_20_code 58 = .ok (.aload_n 0, 1) := by decide +kernel
theorem dM_below_59 : decode prog_5_method_20_code 59 = .ok (.getfield 36, 3) := by decide +kernel
theorem dM_below_62 : decode prog_5_method_20_code 62 = .ok (.bipush 21, 2) := by decide +kernel
theorem dM_below_64 : decode prog_5_method_20_code 64 = .ok (.iload 4, 2) := by decide +kernel
theorem dM_below_66 : decode prog_5_method_20_code 66 = .ok (.imul, 1) := by decide +kernel
theorem dM_below_67 : decode prog_5_method_20_code 67 = .ok (.iload_n 1, 1) := by decide +kernel
theorem dM_below_68 : decode prog_5_method_20_code 68 = .ok (.iadd, 1) := by decide +kernel
theorem dM_below_69 : decode prog_5_method_20_code 69 = .ok (.laload, 1) := by decide +kernel
theorem dM_below_70 : decode prog_5_method_20_code 70 = .ok (.aload_n 0, 1) := by decide +kernel
theorem dM_below_71 : decode prog_5_method_20_code 71 = .ok (.getfield 72, 3) := by decide +kernel
theorem dM_below_74 : decode prog_5_method_20_code 74 = .ok (.i2l, 1) := by decide +kernel
theorem dM_below_75 : decode prog_5_method_20_code 75 = .ok (.lcmp, 1) := by decide +kernel
theorem dM_below_76 : decode prog_5_method_20_code 76 = .ok (.ifCond .ge 9, 3) := by decide +kernel
theorem dM_below_79 : decode prog_5_method_20_code 79 = .ok (.iload_n 3, 1) := by decide +kernel
theorem dM_below_80 : decode prog_5_method_20_code 80 = .ok (.iconst 1, 1) := by decide +kernel
theorem dM_below_81 : decode prog_5_method_20_code 81 = .ok (.iadd, 1) := by decide +kernel
theorem dM_below_82 : decode prog_5_method_20_code 82 = .ok (.goto 4, 3) := by decide +kernel
theorem dM_below_85 : decode prog_5_method_20_code 85 = .ok (.iload_n 3, 1) := by decide +kernel
theorem dM_below_86 : decode prog_5_method_20_code 86 = .ok (.istore_n 3, 1) := by decide +kernel
theorem dM_below_87 : decode prog_5_method_20_code 87 = .ok (.iinc 4 1, 3) := by decide +kernel
theorem dM_below_90 : decode prog_5_method_20_code 90 = .ok (.goto (-48), 3) := by decide +kernel
theorem dM_below_93 : decode prog_5_method_20_code 93 = .ok (.aload_n 0, 1) := by decide +kernel
theorem dM_below_94 : decode prog_5_method_20_code 94 = .ok (.getfield 51, 3) := by decide +kernel
theorem dM_below_97 : decode prog_5_method_20_code 97 = .ok (.ifCond .le 7, 3) := by decide +kernel
theorem dM_below_100 : decode prog_5_method_20_code 100 = .ok (.iconst 0, 1) := by decide +kernel
theorem dM_below_101 : decode prog_5_method_20_code 101 = .ok (.goto 15, 3) := by decide +kernel
theorem dM_below_104 : decode prog_5_method_20_code 104 = .ok (.iload_n 3, 1) := by decide +kernel
theorem dM_below_105 : decode prog_5_method_20_code 105 = .ok (.i2l, 1) := by decide +kernel
theorem dM_below_106 : decode prog_5_method_20_code 106 = .ok (.aload_n 0, 1) := by decide +kernel
theorem dM_below_107 : decode prog_5_method_20_code 107 = .ok (.getfield 98, 3) := by decide +kernel
theorem dM_below_110 : decode prog_5_method_20_code 110 = .ok (.i2l, 1) := by decide +kernel
theorem dM_below_111 : decode prog_5_method_20_code 111 = .ok (.iload_n 2, 1) := by decide +kernel
theorem dM_below_112 : decode prog_5_method_20_code 112 = .ok (.invokestatic 114, 3) := by decide +kernel
theorem dM_below_115 : decode prog_5_method_20_code 115 = .ok (.l2i, 1) := by decide +kernel
theorem dM_below_116 : decode prog_5_method_20_code 116 = .ok (.ireturn, 1) := by decide +kernel
theorem dM_steady_0 : decode prog_5_method_21_code 0 = .ok (.aload_n 0, 1) := by decide +kernel
theorem dM_steady_1 : decode prog_5_method_21_code 1 = .ok (.aload_n 0, 1) := by decide +kernel
theorem dM_steady_2 : decode prog_5_method_21_code 2 = .ok (.getfield 101, 3) := by decide +kernel
theorem dM_steady_5 : decode prog_5_method_21_code 5 = .ok (.ifCond .ne 7, 3) := by decide +kernel
theorem dM_steady_8 : decode prog_5_method_21_code 8 = .ok (.iconst 1, 1) := by decide +kernel
theorem dM_steady_9 : decode prog_5_method_21_code 9 = .ok (.goto 16, 3) := by decide +kernel
theorem dM_steady_12 : decode prog_5_method_21_code 12 = .ok (.aload_n 0, 1) := by decide +kernel
theorem dM_steady_13 : decode prog_5_method_21_code 13 = .ok (.iload_n 1, 1) := by decide +kernel
theorem dM_steady_14 : decode prog_5_method_21_code 14 = .ok (.invokevirtual 107, 3) := by decide +kernel
theorem dM_steady_17 : decode prog_5_method_21_code 17 = .ok (.ifCond .eq 7, 3) := by decide +kernel
theorem dM_steady_20 : decode prog_5_method_21_code 20 = .ok (.iconst 2, 1) := by decide +kernel
theorem dM_steady_21 : decode prog_5_method_21_code 21 = .ok (.goto 4, 3) := by decide +kernel
theorem dM_steady_24 : decode prog_5_method_21_code 24 = .ok (.iconst 0, 1) := by decide +kernel
theorem dM_steady_25 : decode prog_5_method_21_code 25 = .ok (.putfield 51, 3) := by decide +kernel
theorem dM_steady_28 : decode prog_5_method_21_code 28 = .ok (.lconst 0, 1) := by decide +kernel
theorem dM_steady_29 : decode prog_5_method_21_code 29 = .ok (.lstore_n 2, 1) := by decide +kernel
theorem dM_steady_30 : decode prog_5_method_21_code 30 = .ok (.iconst 2, 1) := by decide +kernel
theorem dM_steady_31 : decode prog_5_method_21_code 31 = .ok (.istore 4, 2) := by decide +kernel
theorem dM_steady_33 : decode prog_5_method_21_code 33 = .ok (.iload 4, 2) := by decide +kernel
theorem dM_steady_35 : decode prog_5_method_21_code 35 = .ok (.aload_n 0, 1) := by decide +kernel
theorem dM_steady_36 : decode prog_5_method_21_code 36 = .ok (.getfield 95, 3) := by decide +kernel
theorem dM_steady_39 : decode prog_5_method_21_code 39 = .ok (.if_icmp .gt 63, 3) := by decide +kernel
theorem dM_steady_42 : decode prog_5_method_21_code 42 = .ok (.aload_n 0, 1) := by decide +kernel
theorem dM_steady_43 : decode prog_5_method_21_code 43 = .ok (.getfield 51, 3) := by decide +kernel
theorem dM_steady_46 : decode prog_5_method_21_code 46 = .ok (.ifCond .ne 56, 3) := by decide +kernel
theorem dM_steady_49 : decode prog_5_method_21_code 49 = .ok (.aload_n 0, 1) := by decide +kernel
theorem dM_steady_50 : decode prog_5_method_21_code 50 = .ok (.getfield 39, 3) := by decide +kernel
theorem dM_steady_53 : decode prog_5_method_21_code 53 = .ok (.bipush 21, 2) := by decide +kernel
theorem dM_steady_55 : decode prog_5_method_21_code 55 = .ok (.iload_n 1, 1) := by decide +kernel
theorem dM_steady_56 : decode prog_5_method_21_code 56 = .ok (.imul, 1) := by decide +kernel
theorem dM_steady_57 : decode prog_5_method_21_code 57 = .ok (.iload 4, 2) := by decide +kernel
theorem dM_steady_59 : decode prog_5_method_21_code 59 = .ok (.iadd, 1) := by decide +kernel
theorem dM_steady_60 : decode prog_5_method_21_code 60 = .ok (.laload, 1) := by decide +kernel
theorem dM_steady_61 : decode prog_5_method_21_code 61 = .ok (.aload_n 0, 1) := by decide +kernel
theorem dM_steady_62 : decode prog_5_method_21_code 62 = .ok (.getfield 39, 3) := by decide +kernel
theorem dM_steady_65 : decode prog_5_method_21_code 65 = .ok (.bipush 21, 2) := by decide +kernel
theorem dM_steady_67 : decode prog_5_method_21_code 67 = .ok (.iload_n 1, 1) := by decide +kernel
theorem dM_steady_68 : decode prog_5_method_21_code 68 = .ok (.imul, 1) := by decide +kernel
theorem dM_steady_69 : decode prog_5_method_21_code 69 = .ok (.iload 4, 2) := by decide +kernel
theorem dM_steady_71 : decode prog_5_method_21_code 71 = .ok (.iadd, 1) := by decide +kernel
theorem dM_steady_72 : decode prog_5_method_21_code 72 = .ok (.iconst 1, 1) := by decide +kernel
theorem dM_steady_73 : decode prog_5_method_21_code 73 = .ok (.isub, 1) := by decide +kernel
theorem dM_steady_74 : decode prog_5_method_21_code 74 = .ok (.laload, 1) := by decide +kernel
theorem dM_steady_75 : decode prog_5_method_21_code 75 = .ok (.lsub, 1) := by decide +kernel
theorem dM_steady_76 : decode prog_5_method_21_code 76 = .ok (.lstore 5, 2) := by decide +kernel
theorem dM_steady_78 : decode prog_5_method_21_code 78 = .ok (.lload_n 2, 1) := by decide +kernel
theorem dM_steady_79 : decode prog_5_method_21_code 79 = .ok (.lload 5, 2) := by decide +kernel
theorem dM_steady_81 : decode prog_5_method_21_code 81 = .ok (.lconst 0, 1) := by decide +kernel
theorem dM_steady_82 : decode prog_5_method_21_code 82 = .ok (.lcmp, 1) := by decide +kernel
theorem dM_steady_83 : decode prog_5_method_21_code 83 = .ok (.ifCond .ge 9, 3) := by decide +kernel
theorem dM_steady_86 : decode prog_5_method_21_code 86 = .ok (.lload 5, 2) := by decide +kernel
theorem dM_steady_88 : decode prog_5_method_21_code 88 = .ok (.lneg, 1) := by decide +kernel
theorem dM_steady_89 : decode prog_5_method_21_code 89 = .ok (.goto 5, 3) := by decide +kernel
theorem dM_steady_92 : decode prog_5_method_21_code 92 = .ok (.lload 5, 2) := by decide +kernel
theorem dM_steady_94 : decode prog_5_method_21_code 94 = .ok (.ladd, 1) := by decide +kernel
theorem dM_steady_95 : decode prog_5_method_21_code 95 = .ok (.lstore_n 2, 1) := by decide +kernel
theorem dM_steady_96 : decode prog_5_method_21_code 96 = .ok (.iinc 4 1, 3) := by decide +kernel
theorem dM_steady_99 : decode prog_5_method_21_code 99 = .ok (.goto (-66), 3) := by decide +kernel
theorem dM_steady_102 : decode prog_5_method_21_code 102 = .ok (.lload_n 2, 1) := by decide +kernel
theorem dM_steady_103 : decode prog_5_method_21_code 103 = .ok (.lreturn, 1) := by decide +kernel
theorem dM_recovers_0 : decode prog_5_method_22_code 0 = .ok (.aload_n 0, 1) := by decide +kernel
theorem dM_recovers_1 : decode prog_5_method_22_code 1 = .ok (.aload_n 0, 1) := by decide +kernel
theorem dM_recovers_2 : decode prog_5_method_22_code 2 = .ok (.getfield 101, 3) := by decide +kernel
theorem dM_recovers_5 : decode prog_5_method_22_code 5 = .ok (.ifCond .ne 7, 3) := by decide +kernel
theorem dM_recovers_8 : decode prog_5_method_22_code 8 = .ok (.iconst 1, 1) := by decide +kernel
theorem dM_recovers_9 : decode prog_5_method_22_code 9 = .ok (.goto 30, 3) := by decide +kernel
theorem dM_recovers_12 : decode prog_5_method_22_code 12 = .ok (.aload_n 0, 1) := by decide +kernel
theorem dM_recovers_13 : decode prog_5_method_22_code 13 = .ok (.iload_n 1, 1) := by decide +kernel
theorem dM_recovers_14 : decode prog_5_method_22_code 14 = .ok (.invokevirtual 107, 3) := by decide +kernel
theorem dM_recovers_17 : decode prog_5_method_22_code 17 = .ok (.ifCond .eq 7, 3) := by decide +kernel
theorem dM_recovers_20 : decode prog_5_method_22_code 20 = .ok (.iconst 2, 1) := by decide +kernel
theorem dM_recovers_21 : decode prog_5_method_22_code 21 = .ok (.goto 18, 3) := by decide +kernel
theorem dM_recovers_24 : decode prog_5_method_22_code 24 = .ok (.iload_n 2, 1) := by decide +kernel
theorem dM_recovers_25 : decode prog_5_method_22_code 25 = .ok (.iconst 1, 1) := by decide +kernel
theorem dM_recovers_26 : decode prog_5_method_22_code 26 = .ok (.bipush 20, 2) := by decide +kernel
theorem dM_recovers_28 : decode prog_5_method_22_code 28 = .ok (.invokestatic 55, 3) := by decide +kernel
theorem dM_recovers_31 : decode prog_5_method_22_code 31 = .ok (.ifCond .ne 7, 3) := by decide +kernel
theorem dM_recovers_34 : decode prog_5_method_22_code 34 = .ok (.iconst 3, 1) := by decide +kernel
theorem dM_recovers_35 : decode prog_5_method_22_code 35 = .ok (.goto 4, 3) := by decide +kernel
theorem dM_recovers_38 : decode prog_5_method_22_code 38 = .ok (.iconst 0, 1) := by decide +kernel
theorem dM_recovers_39 : decode prog_5_method_22_code 39 = .ok (.putfield 51, 3) := by decide +kernel
theorem dM_recovers_42 : decode prog_5_method_22_code 42 = .ok (.iconst 1, 1) := by decide +kernel
theorem dM_recovers_43 : decode prog_5_method_22_code 43 = .ok (.istore_n 3, 1) := by decide +kernel
theorem dM_recovers_44 : decode prog_5_method_22_code 44 = .ok (.iload_n 3, 1) := by decide +kernel
theorem dM_recovers_45 : decode prog_5_method_22_code 45 = .ok (.iload_n 2, 1) := by decide +kernel
theorem dM_recovers_46 : decode prog_5_method_22_code 46 = .ok (.iadd, 1) := by decide +kernel
theorem dM_recovers_47 : decode prog_5_method_22_code 47 = .ok (.iconst 1, 1) := by decide +kernel
theorem dM_recovers_48 : decode prog_5_method_22_code 48 = .ok (.isub, 1) := by decide +kernel
theorem dM_recovers_49 : decode prog_5_method_22_code 49 = .ok (.aload_n 0, 1) := by decide +kernel
theorem dM_recovers_50 : decode prog_5_method_22_code 50 = .ok (.getfield 95, 3) := by decide +kernel
theorem dM_recovers_53 : decode prog_5_method_22_code 53 = .ok (.if_icmp .gt 76, 3) := by decide +kernel
theorem dM_recovers_56 : decode prog_5_method_22_code 56 = .ok (.aload_n 0, 1) := by decide +kernel
theorem dM_recovers_57 : decode prog_5_method_22_code 57 = .ok (.getfield 51, 3) := by decide +kernel
theorem dM_recovers_60 : decode prog_5_method_22_code 60 = .ok (.ifCond .ne 69, 3) := by decide +kernel
theorem dM_recovers_63 : decode prog_5_method_22_code 63 = .ok (.iconst 1, 1) := by decide +kernel
theorem dM_recovers_64 : decode prog_5_method_22_code 64 = .ok (.istore 4, 2) := by decide +kernel
theorem dM_recovers_66 : decode prog_5_method_22_code 66 = .ok (.iload_n 3, 1) := by decide +kernel
theorem dM_recovers_67 : decode prog_5_method_22_code 67 = .ok (.istore 5, 2) := by decide +kernel
theorem dM_recovers_69 : decode prog_5_method_22_code 69 = .ok (.iload 5, 2) := by decide +kernel
theorem dM_recovers_71 : decode prog_5_method_22_code 71 = .ok (.iload_n 3, 1) := by decide +kernel
theorem dM_recovers_72 : decode prog_5_method_22_code 72 = .ok (.iload_n 2, 1) := by decide +kernel
theorem dM_recovers_73 : decode prog_5_method_22_code 73 = .ok (.iadd, 1) := by decide +kernel
theorem dM_recovers_74 : decode prog_5_method_22_code 74 = .ok (.if_icmp .ge 42, 3) := by decide +kernel
theorem dM_recovers_77 : decode prog_5_method_22_code 77 = .ok (.iload 4, 2) := by decide +kernel
theorem dM_recovers_79 : decode prog_5_method_22_code 79 = .ok (.ifCond .eq 28, 3) := by decide +kernel
theorem dM_recovers_82 : decode prog_5_method_22_code 82 = .ok (.aload_n 0, 1) := by decide +kernel
theorem dM_recovers_83 : decode prog_5_method_22_code 83 = .ok (.getfield 36, 3) := by decide +kernel
theorem dM_recovers_86 : decode prog_5_method_22_code 86 = .ok (.bipush 21, 2) := by decide +kernel
theorem dM_recovers_88 : decode prog_5_method_22_code 88 = .ok (.iload_n 1, 1) := by decide +kernel
theorem dM_recovers_89 : decode prog_5_method_22_code 89 = .ok (.imul, 1) := by decide +kernel
theorem dM_recovers_90 : decode prog_5_method_22_code 90 = .ok (.iload 5, 2) := by decide +kernel
theorem dM_recovers_92 : decode prog_5_method_22_code 92 = .ok (.iadd, 1) := by decide +kernel
theorem dM_recovers_93 : decode prog_5_method_22_code 93 = .ok (.laload, 1) := by decide +kernel
theorem dM_recovers_94 : decode prog_5_method_22_code 94 = .ok (.aload_n 0, 1) := by decide +kernel
theorem dM_recovers_95 : decode prog_5_method_22_code 95 = .ok (.getfield 72, 3) := by decide +kernel
theorem dM_recovers_98 : decode prog_5_method_22_code 98 = .ok (.i2l, 1) := by decide +kernel
theorem dM_recovers_99 : decode prog_5_method_22_code 99 = .ok (.lcmp, 1) := by decide +kernel
theorem dM_recovers_100 : decode prog_5_method_22_code 100 = .ok (.ifCond .lt 7, 3) := by decide +kernel
theorem dM_recovers_103 : decode prog_5_method_22_code 103 = .ok (.iconst 1, 1) := by decide +kernel
theorem dM_recovers_104 : decode prog_5_method_22_code 104 = .ok (.goto 4, 3) := by decide +kernel
theorem dM_recovers_107 : decode prog_5_method_22_code 107 = .ok (.iconst 0, 1) := by decide +kernel
theorem dM_recovers_108 : decode prog_5_method_22_code 108 = .ok (.istore 4, 2) := by decide +kernel
theorem dM_recovers_110 : decode prog_5_method_22_code 110 = .ok (.iinc 5 1, 3) := by decide +kernel
theorem dM_recovers_113 : decode prog_5_method_22_code 113 = .ok (.goto (-44), 3) := by decide +kernel
theorem dM_recovers_116 : decode prog_5_method_22_code 116 = .ok (.iload 4, 2) := by decide +kernel
theorem dM_recovers_118 : decode prog_5_method_22_code 118 = .ok (.ifCond .eq 5, 3) := by decide +kernel
theorem dM_recovers_121 : decode prog_5_method_22_code 121 = .ok (.iload_n 3, 1) := by decide +kernel
theorem dM_recovers_122 : decode prog_5_method_22_code 122 = .ok (.ireturn, 1) := by decide +kernel
theorem dM_recovers_123 : decode prog_5_method_22_code 123 = .ok (.iinc 3 1, 3) := by decide +kernel
theorem dM_recovers_126 : decode prog_5_method_22_code 126 = .ok (.goto (-82), 3) := by decide +kernel
theorem dM_recovers_129 : decode prog_5_method_22_code 129 = .ok (.aload_n 0, 1) := by decide +kernel
theorem dM_recovers_130 : decode prog_5_method_22_code 130 = .ok (.getfield 51, 3) := by decide +kernel
theorem dM_recovers_133 : decode prog_5_method_22_code 133 = .ok (.ifCond .le 7, 3) := by decide +kernel
theorem dM_recovers_136 : decode prog_5_method_22_code 136 = .ok (.iconst 0, 1) := by decide +kernel
theorem dM_recovers_137 : decode prog_5_method_22_code 137 = .ok (.goto 4, 3) := by decide +kernel
theorem dM_recovers_140 : decode prog_5_method_22_code 140 = .ok (.iconst (-1), 1) := by decide +kernel
theorem dM_recovers_141 : decode prog_5_method_22_code 141 = .ok (.ireturn, 1) := by decide +kernel
theorem dM_rank_0 : decode prog_5_method_23_code 0 = .ok (.aload_n 0, 1) := by decide +kernel
theorem dM_rank_1 : decode prog_5_method_23_code 1 = .ok (.aload_n 0, 1) := by decide +kernel
theorem dM_rank_2 : decode prog_5_method_23_code 2 = .ok (.getfield 101, 3) := by decide +kernel
theorem dM_rank_5 : decode prog_5_method_23_code 5 = .ok (.ifCond .ne 7, 3) := by decide +kernel
theorem dM_rank_8 : decode prog_5_method_23_code 8 = .ok (.iconst 1, 1) := by decide +kernel
theorem dM_rank_9 : decode prog_5_method_23_code 9 = .ok (.goto 24, 3) := by decide +kernel
theorem dM_rank_12 : decode prog_5_method_23_code 12 = .ok (.aload_n 0, 1) := by decide +kernel
theorem dM_rank_13 : decode prog_5_method_23_code 13 = .ok (.iload_n 1, 1) := by decide +kernel
theorem dM_rank_14 : decode prog_5_method_23_code 14 = .ok (.invokevirtual 111, 3) := by decide +kernel
theorem dM_rank_17 : decode prog_5_method_23_code 17 = .ok (.ifCond .ne 11, 3) := by decide +kernel
theorem dM_rank_20 : decode prog_5_method_23_code 20 = .ok (.aload_n 0, 1) := by decide +kernel
theorem dM_rank_21 : decode prog_5_method_23_code 21 = .ok (.iload_n 2, 1) := by decide +kernel
theorem dM_rank_22 : decode prog_5_method_23_code 22 = .ok (.invokevirtual 107, 3) := by decide +kernel
theorem dM_rank_25 : decode prog_5_method_23_code 25 = .ok (.ifCond .eq 7, 3) := by decide +kernel
theorem dM_rank_28 : decode prog_5_method_23_code 28 = .ok (.iconst 2, 1) := by decide +kernel
theorem dM_rank_29 : decode prog_5_method_23_code 29 = .ok (.goto 4, 3) := by decide +kernel
theorem dM_rank_32 : decode prog_5_method_23_code 32 = .ok (.iconst 0, 1) := by decide +kernel
theorem dM_rank_33 : decode prog_5_method_23_code 33 = .ok (.putfield 51, 3) := by decide +kernel
theorem dM_rank_36 : decode prog_5_method_23_code 36 = .ok (.iconst 0, 1) := by decide +kernel
theorem dM_rank_37 : decode prog_5_method_23_code 37 = .ok (.istore_n 3, 1) := by decide +kernel
theorem dM_rank_38 : decode prog_5_method_23_code 38 = .ok (.iload_n 3, 1) := by decide +kernel
theorem dM_rank_39 : decode prog_5_method_23_code 39 = .ok (.aload_n 0, 1) := by decide +kernel
theorem dM_rank_40 : decode prog_5_method_23_code 40 = .ok (.getfield 98, 3) := by decide +kernel
theorem dM_rank_43 : decode prog_5_method_23_code 43 = .ok (.if_icmp .ge 112, 3) := by decide +kernel
theorem dM_rank_46 : decode prog_5_method_23_code 46 = .ok (.aload_n 0, 1) := by decide +kernel
theorem dM_rank_47 : decode prog_5_method_23_code 47 = .ok (.getfield 51, 3) := by decide +kernel
theorem dM_rank_50 : decode prog_5_method_23_code 50 = .ok (.ifCond .ne 105, 3) := by decide +kernel
theorem dM_rank_53 : decode prog_5_method_23_code 53 = .ok (.iconst 0, 1) := by decide +kernel
theorem dM_rank_54 : decode prog_5_method_23_code 54 = .ok (.istore 4, 2) := by decide +kernel
theorem dM_rank_56 : decode prog_5_method_23_code 56 = .ok (.iconst 0, 1) := by decide +kernel
theorem dM_rank_57 : decode prog_5_method_23_code 57 = .ok (.istore 5, 2) := by decide +kernel
theorem dM_rank_59 : decode prog_5_method_23_code 59 = .ok (.iload 5, 2) := by decide +kernel
theorem dM_rank_61 : decode prog_5_method_23_code 61 = .ok (.aload_n 0, 1) := by decide +kernel
theorem dM_rank_62 : decode prog_5_method_23_code 62 = .ok (.getfield 98, 3) := by decide +kernel
theorem dM_rank_65 : decode prog_5_method_23_code 65 = .ok (.if_icmp .ge 66, 3) := by decide +kernel
theorem dM_rank_68 : decode prog_5_method_23_code 68 = .ok (.aload_n 0, 1) := by decide +kernel
theorem dM_rank_69 : decode prog_5_method_23_code 69 = .ok (.getfield 36, 3) := by decide +kernel
theorem dM_rank_72 : decode prog_5_method_23_code 72 = .ok (.bipush 21, 2) := by decide +kernel
theorem dM_rank_74 : decode prog_5_method_23_code 74 = .ok (.iload 5, 2) := by decide +kernel
theorem dM_rank_76 : decode prog_5_method_23_code 76 = .ok (.imul, 1) := by decide +kernel
theorem dM_rank_77 : decode prog_5_method_23_code 77 = .ok (.iload_n 1, 1) := by decide +kernel
theorem dM_rank_78 : decode prog_5_method_23_code 78 = .ok (.iadd, 1) := by decide +kernel
theorem dM_rank_79 : decode prog_5_method_23_code 79 = .ok (.laload, 1) := by decide +kernel
theorem dM_rank_80 : decode prog_5_method_23_code 80 = .ok (.aload_n 0, 1) := by decide +kernel
theorem dM_rank_81 : decode prog_5_method_23_code 81 = .ok (.getfield 36, 3) := by decide +kernel
theorem dM_rank_84 : decode prog_5_method_23_code 84 = .ok (.bipush 21, 2) := by decide +kernel
theorem dM_rank_86 : decode prog_5_method_23_code 86 = .ok (.iload_n 3, 1) := by decide +kernel
theorem dM_rank_87 : decode prog_5_method_23_code 87 = .ok (.imul, 1) := by decide +kernel
theorem dM_rank_88 : decode prog_5_method_23_code 88 = .ok (.iload_n 1, 1) := by decide +kernel
theorem dM_rank_89 : decode prog_5_method_23_code 89 = .ok (.iadd, 1) := by decide +kernel
theorem dM_rank_90 : decode prog_5_method_23_code 90 = .ok (.laload, 1) := by decide +kernel
theorem dM_rank_91 : decode prog_5_method_23_code 91 = .ok (.lsub, 1) := by decide +kernel
theorem dM_rank_92 : decode prog_5_method_23_code 92 = .ok (.lstore 6, 2) := by decide +kernel
theorem dM_rank_94 : decode prog_5_method_23_code 94 = .ok (.lload 6, 2) := by decide +kernel
theorem dM_rank_96 : decode prog_5_method_23_code 96 = .ok (.lconst 0, 1) := by decide +kernel
theorem dM_rank_97 : decode prog_5_method_23_code 97 = .ok (.lcmp, 1) := by decide +kernel
theorem dM_rank_98 : decode prog_5_method_23_code 98 = .ok (.ifCond .lt 16, 3) := by decide +kernel
theorem dM_rank_101 : decode prog_5_method_23_code 101 = .ok (.lload 6, 2) := by decide +kernel
theorem dM_rank_103 : decode prog_5_method_23_code 103 = .ok (.lconst 0, 1) := by decide +kernel
theorem dM_rank_104 : decode prog_5_method_23_code 104 = .ok (.lcmp, 1) := by decide +kernel
theorem dM_rank_105 : decode prog_5_method_23_code 105 = .ok (.ifCond .ne 16, 3) := by decide +kernel
theorem dM_rank_108 : decode prog_5_method_23_code 108 = .ok (.iload 5, 2) := by decide +kernel
theorem dM_rank_110 : decode prog_5_method_23_code 110 = .ok (.iload_n 3, 1) := by decide +kernel
theorem dM_rank_111 : decode prog_5_method_23_code 111 = .ok (.if_icmp .ge 10, 3) := by decide +kernel
theorem dM_rank_114 : decode prog_5_method_23_code 114 = .ok (.iload 4, 2) := by decide +kernel
theorem dM_rank_116 : decode prog_5_method_23_code 116 = .ok (.iconst 1, 1) := by decide +kernel
theorem dM_rank_117 : decode prog_5_method_23_code 117 = .ok (.iadd, 1) := by decide +kernel
theorem dM_rank_118 : decode prog_5_method_23_code 118 = .ok (.goto 5, 3) := by decide +kernel
theorem dM_rank_121 : decode prog_5_method_23_code 121 = .ok (.iload 4, 2) := by decide +kernel
theorem dM_rank_123 : decode prog_5_method_23_code 123 = .ok (.istore 4, 2) := by decide +kernel
theorem dM_rank_125 : decode prog_5_method_23_code 125 = .ok (.iinc 5 1, 3) := by decide +kernel
theorem dM_rank_128 : decode prog_5_method_23_code 128 = .ok (.goto (-69), 3) := by decide +kernel
theorem dM_rank_131 : decode prog_5_method_23_code 131 = .ok (.iload 4, 2) := by decide +kernel
theorem dM_rank_133 : decode prog_5_method_23_code 133 = .ok (.iload_n 2, 1) := by decide +kernel
theorem dM_rank_134 : decode prog_5_method_23_code 134 = .ok (.if_icmp .ne 15, 3) := by decide +kernel
theorem dM_rank_137 : decode prog_5_method_23_code 137 = .ok (.aload_n 0, 1) := by decide +kernel
theorem dM_rank_138 : decode prog_5_method_23_code 138 = .ok (.getfield 36, 3) := by decide +kernel
theorem dM_rank_141 : decode prog_5_method_23_code 141 = .ok (.bipush 21, 2) := by decide +kernel
theorem dM_rank_143 : decode prog_5_method_23_code 143 = .ok (.iload_n 3, 1) := by decide +kernel
theorem dM_rank_144 : decode prog_5_method_23_code 144 = .ok (.imul, 1) := by decide +kernel
theorem dM_rank_145 : decode prog_5_method_23_code 145 = .ok (.iload_n 1, 1) := by decide +kernel
theorem dM_rank_146 : decode prog_5_method_23_code 146 = .ok (.iadd, 1) := by decide +kernel
theorem dM_rank_147 : decode prog_5_method_23_code 147 = .ok (.laload, 1) := by decide +kernel
theorem dM_rank_148 : decode prog_5_method_23_code 148 = .ok (.lreturn, 1) := by decide +kernel
theorem dM_rank_149 : decode prog_5_method_23_code 149 = .ok (.iinc 3 1, 3) := by decide +kernel
theorem dM_rank_152 : decode prog_5_method_23_code 152 = .ok (.goto (-114), 3) := by decide +kernel
theorem dM_rank_155 : decode prog_5_method_23_code 155 = .ok (.lconst 0, 1) := by decide +kernel
theorem dM_rank_156 : decode prog_5_method_23_code 156 = .ok (.lreturn, 1) := by decide +kernel
theorem dM_allCaught_0 : decode prog_5_method_24_code 0 = .ok (.lconst 0, 1) := by decide +kernel
theorem dM_allCaught_1 : decode prog_5_method_24_code 1 = .ok (.lstore_n 2, 1) := by decide +kernel
theorem dM_allCaught_2 : decode prog_5_method_24_code 2 = .ok (.iconst 0, 1) := by decide +kernel
theorem dM_allCaught_3 : decode prog_5_method_24_code 3 = .ok (.istore 4, 2) := by decide +kernel
theorem dM_allCaught_5 : decode prog_5_method_24_code 5 = .ok (.iload 4, 2) := by decide +kernel
theorem dM_allCaught_7 : decode prog_5_method_24_code 7 = .ok (.aload_n 0, 1) := by decide +kernel
theorem dM_allCaught_8 : decode prog_5_method_24_code 8 = .ok (.getfield 98, 3) := by decide +kernel
theorem dM_allCaught_11 : decode prog_5_method_24_code 11 = .ok (.if_icmp .ge 45, 3) := by decide +kernel
theorem dM_allCaught_14 : decode prog_5_method_24_code 14 = .ok (.iconst 1, 1) := by decide +kernel
theorem dM_allCaught_15 : decode prog_5_method_24_code 15 = .ok (.istore 5, 2) := by decide +kernel
theorem dM_allCaught_17 : decode prog_5_method_24_code 17 = .ok (.iload 5, 2) := by decide +kernel
theorem dM_allCaught_19 : decode prog_5_method_24_code 19 = .ok (.aload_n 0, 1) := by decide +kernel
theorem dM_allCaught_20 : decode prog_5_method_24_code 20 = .ok (.getfield 95, 3) := by decide +kernel
theorem dM_allCaught_23 : decode prog_5_method_24_code 23 = .ok (.if_icmp .gt 27, 3) := by decide +kernel
theorem dM_allCaught_26 : decode prog_5_method_24_code 26 = .ok (.lload_n 2, 1) := by decide +kernel
theorem dM_allCaught_27 : decode prog_5_method_24_code 27 = .ok (.aload_n 0, 1) := by decide +kernel
theorem dM_allCaught_28 : decode prog_5_method_24_code 28 = .ok (.getfield 39, 3) := by decide +kernel
theorem dM_allCaught_31 : decode prog_5_method_24_code 31 = .ok (.iload_n 1, 1) := by decide +kernel
theorem dM_allCaught_32 : decode prog_5_method_24_code 32 = .ok (.bipush 21, 2) := by decide +kernel
theorem dM_allCaught_34 : decode prog_5_method_24_code 34 = .ok (.iload 4, 2) := by decide +kernel
theorem dM_allCaught_36 : decode prog_5_method_24_code 36 = .ok (.imul, 1) := by decide +kernel
theorem dM_allCaught_37 : decode prog_5_method_24_code 37 = .ok (.iadd, 1) := by decide +kernel
theorem dM_allCaught_38 : decode prog_5_method_24_code 38 = .ok (.iload 5, 2) := by decide +kernel
theorem dM_allCaught_40 : decode prog_5_method_24_code 40 = .ok (.iadd, 1) := by decide +kernel
theorem dM_allCaught_41 : decode prog_5_method_24_code 41 = .ok (.laload, 1) := by decide +kernel
theorem dM_allCaught_42 : decode prog_5_method_24_code 42 = .ok (.ladd, 1) := by decide +kernel
theorem dM_allCaught_43 : decode prog_5_method_24_code 43 = .ok (.lstore_n 2, 1) := by decide +kernel
theorem dM_allCaught_44 : decode prog_5_method_24_code 44 = .ok (.iinc 5 1, 3) := by decide +kernel
theorem dM_allCaught_47 : decode prog_5_method_24_code 47 = .ok (.goto (-30), 3) := by decide +kernel
theorem dM_allCaught_50 : decode prog_5_method_24_code 50 = .ok (.iinc 4 1, 3) := by decide +kernel
theorem dM_allCaught_53 : decode prog_5_method_24_code 53 = .ok (.goto (-48), 3) := by decide +kernel
theorem dM_allCaught_56 : decode prog_5_method_24_code 56 = .ok (.lload_n 2, 1) := by decide +kernel
theorem dM_allCaught_57 : decode prog_5_method_24_code 57 = .ok (.lreturn, 1) := by decide +kernel
theorem dM_mean_0 : decode prog_5_method_25_code 0 = .ok (.aload_n 0, 1) := by decide +kernel
theorem dM_mean_1 : decode prog_5_method_25_code 1 = .ok (.aload_n 0, 1) := by decide +kernel
theorem dM_mean_2 : decode prog_5_method_25_code 2 = .ok (.getfield 101, 3) := by decide +kernel
theorem dM_mean_5 : decode prog_5_method_25_code 5 = .ok (.ifCond .ne 7, 3) := by decide +kernel
theorem dM_mean_8 : decode prog_5_method_25_code 8 = .ok (.iconst 1, 1) := by decide +kernel
theorem dM_mean_9 : decode prog_5_method_25_code 9 = .ok (.goto 26, 3) := by decide +kernel
theorem dM_mean_12 : decode prog_5_method_25_code 12 = .ok (.iload_n 1, 1) := by decide +kernel
theorem dM_mean_13 : decode prog_5_method_25_code 13 = .ok (.iconst 0, 1) := by decide +kernel
theorem dM_mean_14 : decode prog_5_method_25_code 14 = .ok (.iconst 1, 1) := by decide +kernel
theorem dM_mean_15 : decode prog_5_method_25_code 15 = .ok (.invokestatic 55, 3) := by decide +kernel
theorem dM_mean_18 : decode prog_5_method_25_code 18 = .ok (.ifCond .eq 12, 3) := by decide +kernel
theorem dM_mean_21 : decode prog_5_method_25_code 21 = .ok (.iload_n 2, 1) := by decide +kernel
theorem dM_mean_22 : decode prog_5_method_25_code 22 = .ok (.iconst 0, 1) := by decide +kernel
theorem dM_mean_23 : decode prog_5_method_25_code 23 = .ok (.iconst 1, 1) := by decide +kernel
theorem dM_mean_24 : decode prog_5_method_25_code 24 = .ok (.invokestatic 55, 3) := by decide +kernel
theorem dM_mean_27 : decode prog_5_method_25_code 27 = .ok (.ifCond .ne 7, 3) := by decide +kernel
theorem dM_mean_30 : decode prog_5_method_25_code 30 = .ok (.iconst 2, 1) := by decide +kernel
theorem dM_mean_31 : decode prog_5_method_25_code 31 = .ok (.goto 4, 3) := by decide +kernel
theorem dM_mean_34 : decode prog_5_method_25_code 34 = .ok (.iconst 0, 1) := by decide +kernel
theorem dM_mean_35 : decode prog_5_method_25_code 35 = .ok (.putfield 51, 3) := by decide +kernel
theorem dM_mean_38 : decode prog_5_method_25_code 38 = .ok (.aload_n 0, 1) := by decide +kernel
theorem dM_mean_39 : decode prog_5_method_25_code 39 = .ok (.getfield 51, 3) := by decide +kernel
theorem dM_mean_42 : decode prog_5_method_25_code 42 = .ok (.ifCond .le 5, 3) := by decide +kernel
theorem dM_mean_45 : decode prog_5_method_25_code 45 = .ok (.lconst 0, 1) := by decide +kernel
theorem dM_mean_46 : decode prog_5_method_25_code 46 = .ok (.lreturn, 1) := by decide +kernel
theorem dM_mean_47 : decode prog_5_method_25_code 47 = .ok (.iload_n 1, 1) := by decide +kernel
theorem dM_mean_48 : decode prog_5_method_25_code 48 = .ok (.ifCond .ne 24, 3) := by decide +kernel
theorem dM_mean_51 : decode prog_5_method_25_code 51 = .ok (.aload_n 0, 1) := by decide +kernel
theorem dM_mean_52 : decode prog_5_method_25_code 52 = .ok (.iconst 0, 1) := by decide +kernel
theorem dM_mean_53 : decode prog_5_method_25_code 53 = .ok (.invokevirtual 118, 3) := by decide +kernel
theorem dM_mean_56 : decode prog_5_method_25_code 56 = .ok (.aload_n 0, 1) := by decide +kernel
theorem dM_mean_57 : decode prog_5_method_25_code 57 = .ok (.getfield 98, 3) := by decide +kernel
theorem dM_mean_60 : decode prog_5_method_25_code 60 = .ok (.i2l, 1) := by decide +kernel
theorem dM_mean_61 : decode prog_5_method_25_code 61 = .ok (.aload_n 0, 1) := by decide +kernel
theorem dM_mean_62 : decode prog_5_method_25_code 62 = .ok (.getfield 95, 3) := by decide +kernel
theorem dM_mean_65 : decode prog_5_method_25_code 65 = .ok (.i2l, 1) := by decide +kernel
theorem dM_mean_66 : decode prog_5_method_25_code 66 = .ok (.lmul, 1) := by decide +kernel
theorem dM_mean_67 : decode prog_5_method_25_code 67 = .ok (.iload_n 2, 1) := by decide +kernel
theorem dM_mean_68 : decode prog_5_method_25_code 68 = .ok (.invokestatic 114, 3) := by decide +kernel
theorem dM_mean_71 : decode prog_5_method_25_code 71 = .ok (.lreturn, 1) := by decide +kernel
theorem dM_mean_72 : decode prog_5_method_25_code 72 = .ok (.lconst 0, 1) := by decide +kernel
theorem dM_mean_73 : decode prog_5_method_25_code 73 = .ok (.lstore_n 3, 1) := by decide +kernel
theorem dM_mean_74 : decode prog_5_method_25_code 74 = .ok (.iconst 0, 1) := by decide +kernel
theorem dM_mean_75 : decode prog_5_method_25_code 75 = .ok (.istore 5, 2) := by decide +kernel
theorem dM_mean_77 : decode prog_5_method_25_code 77 = .ok (.iload 5, 2) := by decide +kernel
theorem dM_mean_79 : decode prog_5_method_25_code 79 = .ok (.aload_n 0, 1) := by decide +kernel
theorem dM_mean_80 : decode prog_5_method_25_code 80 = .ok (.getfield 98, 3) := by decide +kernel
theorem dM_mean_83 : decode prog_5_method_25_code 83 = .ok (.if_icmp .ge 27, 3) := by decide +kernel
theorem dM_mean_86 : decode prog_5_method_25_code 86 = .ok (.lload_n 3, 1) := by decide +kernel
theorem dM_mean_87 : decode prog_5_method_25_code 87 = .ok (.aload_n 0, 1) := by decide +kernel
theorem dM_mean_88 : decode prog_5_method_25_code 88 = .ok (.getfield 36, 3) := by decide +kernel
theorem dM_mean_91 : decode prog_5_method_25_code 91 = .ok (.bipush 21, 2) := by decide +kernel
theorem dM_mean_93 : decode prog_5_method_25_code 93 = .ok (.iload 5, 2) := by decide +kernel
theorem dM_mean_95 : decode prog_5_method_25_code 95 = .ok (.imul, 1) := by decide +kernel
theorem dM_mean_96 : decode prog_5_method_25_code 96 = .ok (.aload_n 0, 1) := by decide +kernel
theorem dM_mean_97 : decode prog_5_method_25_code 97 = .ok (.getfield 95, 3) := by decide +kernel
theorem dM_mean_100 : decode prog_5_method_25_code 100 = .ok (.iadd, 1) := by decide +kernel
theorem dM_mean_101 : decode prog_5_method_25_code 101 = .ok (.laload, 1) := by decide +kernel
theorem dM_mean_102 : decode prog_5_method_25_code 102 = .ok (.ladd, 1) := by decide +kernel
theorem dM_mean_103 : decode prog_5_method_25_code 103 = .ok (.lstore_n 3, 1) := by decide +kernel
theorem dM_mean_104 : decode prog_5_method_25_code 104 = .ok (.iinc 5 1, 3) := by decide +kernel
theorem dM_mean_107 : decode prog_5_method_25_code 107 = .ok (.goto (-30), 3) := by decide +kernel
theorem dM_mean_110 : decode prog_5_method_25_code 110 = .ok (.lload_n 3, 1) := by decide +kernel
theorem dM_mean_111 : decode prog_5_method_25_code 111 = .ok (.aload_n 0, 1) := by decide +kernel
theorem dM_mean_112 : decode prog_5_method_25_code 112 = .ok (.getfield 98, 3) := by decide +kernel
theorem dM_mean_115 : decode prog_5_method_25_code 115 = .ok (.i2l, 1) := by decide +kernel
theorem dM_mean_116 : decode prog_5_method_25_code 116 = .ok (.iload_n 2, 1) := by decide +kernel
theorem dM_mean_117 : decode prog_5_method_25_code 117 = .ok (.invokestatic 114, 3) := by decide +kernel
theorem dM_mean_120 : decode prog_5_method_25_code 120 = .ok (.lreturn, 1) := by decide +kernel
theorem dM_tableOf_0 : decode prog_5_method_26_code 0 = .ok (.aload_n 0, 1) := by decide +kernel
theorem dM_tableOf_1 : decode prog_5_method_26_code 1 = .ok (.sipush 336, 3) := by decide +kernel
theorem dM_tableOf_4 : decode prog_5_method_26_code 4 = .ok (.aload_n 0, 1) := by decide +kernel
theorem dM_tableOf_5 : decode prog_5_method_26_code 5 = .ok (.getfield 92, 3) := by decide +kernel
theorem dM_tableOf_8 : decode prog_5_method_26_code 8 = .ok (.bipush 50, 2) := by decide +kernel
theorem dM_tableOf_10 : decode prog_5_method_26_code 10 = .ok (.iload_n 1, 1) := by decide +kernel
theorem dM_tableOf_11 : decode prog_5_method_26_code 11 = .ok (.imul, 1) := by decide +kernel
theorem dM_tableOf_12 : decode prog_5_method_26_code 12 = .ok (.aload_n 0, 1) := by decide +kernel
theorem dM_tableOf_13 : decode prog_5_method_26_code 13 = .ok (.getfield 95, 3) := by decide +kernel
theorem dM_tableOf_16 : decode prog_5_method_26_code 16 = .ok (.aload_n 0, 1) := by decide +kernel
theorem dM_tableOf_17 : decode prog_5_method_26_code 17 = .ok (.getfield 98, 3) := by decide +kernel
theorem dM_tableOf_20 : decode prog_5_method_26_code 20 = .ok (.invokevirtual 104, 3) := by decide +kernel
theorem dM_tableOf_23 : decode prog_5_method_26_code 23 = .ok (.aload_n 0, 1) := by decide +kernel
theorem dM_tableOf_24 : decode prog_5_method_26_code 24 = .ok (.sipush 336, 3) := by decide +kernel
theorem dM_tableOf_27 : decode prog_5_method_26_code 27 = .ok (.invokevirtual 118, 3) := by decide +kernel
theorem dM_tableOf_30 : decode prog_5_method_26_code 30 = .ok (.lreturn, 1) := by decide +kernel
theorem dM_table_0 : decode prog_5_method_27_code 0 = .ok (.aload_n 0, 1) := by decide +kernel
theorem dM_table_1 : decode prog_5_method_27_code 1 = .ok (.aload_n 0, 1) := by decide +kernel
theorem dM_table_2 : decode prog_5_method_27_code 2 = .ok (.getfield 101, 3) := by decide +kernel
theorem dM_table_5 : decode prog_5_method_27_code 5 = .ok (.ifCond .ne 7, 3) := by decide +kernel
theorem dM_table_8 : decode prog_5_method_27_code 8 = .ok (.iconst 1, 1) := by decide +kernel
theorem dM_table_9 : decode prog_5_method_27_code 9 = .ok (.goto 18, 3) := by decide +kernel
theorem dM_table_12 : decode prog_5_method_27_code 12 = .ok (.iload_n 1, 1) := by decide +kernel
theorem dM_table_13 : decode prog_5_method_27_code 13 = .ok (.iconst 0, 1) := by decide +kernel
theorem dM_table_14 : decode prog_5_method_27_code 14 = .ok (.bipush 18, 2) := by decide +kernel
theorem dM_table_16 : decode prog_5_method_27_code 16 = .ok (.invokestatic 55, 3) := by decide +kernel
theorem dM_table_19 : decode prog_5_method_27_code 19 = .ok (.ifCond .ne 7, 3) := by decide +kernel
theorem dM_table_22 : decode prog_5_method_27_code 22 = .ok (.iconst 2, 1) := by decide +kernel
theorem dM_table_23 : decode prog_5_method_27_code 23 = .ok (.goto 4, 3) := by decide +kernel
theorem dM_table_26 : decode prog_5_method_27_code 26 = .ok (.iconst 0, 1) := by decide +kernel
theorem dM_table_27 : decode prog_5_method_27_code 27 = .ok (.putfield 51, 3) := by decide +kernel
theorem dM_table_30 : decode prog_5_method_27_code 30 = .ok (.aload_n 0, 1) := by decide +kernel
theorem dM_table_31 : decode prog_5_method_27_code 31 = .ok (.getfield 51, 3) := by decide +kernel
theorem dM_table_34 : decode prog_5_method_27_code 34 = .ok (.ifCond .le 7, 3) := by decide +kernel
theorem dM_table_37 : decode prog_5_method_27_code 37 = .ok (.lconst 0, 1) := by decide +kernel
theorem dM_table_38 : decode prog_5_method_27_code 38 = .ok (.goto 8, 3) := by decide +kernel
theorem dM_table_41 : decode prog_5_method_27_code 41 = .ok (.aload_n 0, 1) := by decide +kernel
theorem dM_table_42 : decode prog_5_method_27_code 42 = .ok (.iload_n 1, 1) := by decide +kernel
theorem dM_table_43 : decode prog_5_method_27_code 43 = .ok (.invokevirtual 122, 3) := by decide +kernel
theorem dM_table_46 : decode prog_5_method_27_code 46 = .ok (.lreturn, 1) := by decide +kernel
theorem dM_top_0 : decode prog_5_method_28_code 0 = .ok (.aload_n 0, 1) := by decide +kernel
theorem dM_top_1 : decode prog_5_method_28_code 1 = .ok (.aload_n 0, 1) := by decide +kernel
theorem dM_top_2 : decode prog_5_method_28_code 2 = .ok (.getfield 101, 3) := by decide +kernel
theorem dM_top_5 : decode prog_5_method_28_code 5 = .ok (.ifCond .ne 7, 3) := by decide +kernel
theorem dM_top_8 : decode prog_5_method_28_code 8 = .ok (.iconst 1, 1) := by decide +kernel
theorem dM_top_9 : decode prog_5_method_28_code 9 = .ok (.goto 4, 3) := by decide +kernel
theorem dM_top_12 : decode prog_5_method_28_code 12 = .ok (.iconst 0, 1) := by decide +kernel
theorem dM_top_13 : decode prog_5_method_28_code 13 = .ok (.putfield 51, 3) := by decide +kernel
theorem dM_top_16 : decode prog_5_method_28_code 16 = .ok (.iconst 0, 1) := by decide +kernel
theorem dM_top_17 : decode prog_5_method_28_code 17 = .ok (.istore_n 1, 1) := by decide +kernel
theorem dM_top_18 : decode prog_5_method_28_code 18 = .ok (.ldc2_w 125, 3) := by decide +kernel
theorem dM_top_21 : decode prog_5_method_28_code 21 = .ok (.lstore_n 2, 1) := by decide +kernel
theorem dM_top_22 : decode prog_5_method_28_code 22 = .ok (.iconst 0, 1) := by decide +kernel
theorem dM_top_23 : decode prog_5_method_28_code 23 = .ok (.istore 4, 2) := by decide +kernel
theorem dM_top_25 : decode prog_5_method_28_code 25 = .ok (.iload 4, 2) := by decide +kernel
theorem dM_top_27 : decode prog_5_method_28_code 27 = .ok (.bipush 18, 2) := by decide +kernel
theorem dM_top_29 : decode prog_5_method_28_code 29 = .ok (.if_icmp .gt 52, 3) := by decide +kernel
theorem dM_top_32 : decode prog_5_method_28_code 32 = .ok (.aload_n 0, 1) := by decide +kernel
theorem dM_top_33 : decode prog_5_method_28_code 33 = .ok (.getfield 51, 3) := by decide +kernel
theorem dM_top_36 : decode prog_5_method_28_code 36 = .ok (.ifCond .ne 45, 3) := by decide +kernel
theorem dM_top_39 : decode prog_5_method_28_code 39 = .ok (.aload_n 0, 1) := by decide +kernel
theorem dM_top_40 : decode prog_5_method_28_code 40 = .ok (.iload 4, 2) := by decide +kernel
theorem dM_top_42 : decode prog_5_method_28_code 42 = .ok (.invokevirtual 122, 3) := by decide +kernel
theorem dM_top_45 : decode prog_5_method_28_code 45 = .ok (.lstore 5, 2) := by decide +kernel
theorem dM_top_47 : decode prog_5_method_28_code 47 = .ok (.lload 5, 2) := by decide +kernel
theorem dM_top_49 : decode prog_5_method_28_code 49 = .ok (.lload_n 2, 1) := by decide +kernel
theorem dM_top_50 : decode prog_5_method_28_code 50 = .ok (.lcmp, 1) := by decide +kernel
theorem dM_top_51 : decode prog_5_method_28_code 51 = .ok (.ifCond .le 8, 3) := by decide +kernel
theorem dM_top_54 : decode prog_5_method_28_code 54 = .ok (.iload 4, 2) := by decide +kernel
theorem dM_top_56 : decode prog_5_method_28_code 56 = .ok (.goto 4, 3) := by decide +kernel
theorem dM_top_59 : decode prog_5_method_28_code 59 = .ok (.iload_n 1, 1) := by decide +kernel
theorem dM_top_60 : decode prog_5_method_28_code 60 = .ok (.istore_n 1, 1) := by decide +kernel
theorem dM_top_61 : decode prog_5_method_28_code 61 = .ok (.lload 5, 2) := by decide +kernel
theorem dM_top_63 : decode prog_5_method_28_code 63 = .ok (.lload_n 2, 1) := by decide +kernel
theorem dM_top_64 : decode prog_5_method_28_code 64 = .ok (.lcmp, 1) := by decide +kernel
theorem dM_top_65 : decode prog_5_method_28_code 65 = .ok (.ifCond .le 8, 3) := by decide +kernel
theorem dM_top_68 : decode prog_5_method_28_code 68 = .ok (.lload 5, 2) := by decide +kernel
theorem dM_top_70 : decode prog_5_method_28_code 70 = .ok (.goto 4, 3) := by decide +kernel
theorem dM_top_73 : decode prog_5_method_28_code 73 = .ok (.lload_n 2, 1) := by decide +kernel
theorem dM_top_74 : decode prog_5_method_28_code 74 = .ok (.lstore_n 2, 1) := by decide +kernel
theorem dM_top_75 : decode prog_5_method_28_code 75 = .ok (.iinc 4 1, 3) := by decide +kernel
theorem dM_top_78 : decode prog_5_method_28_code 78 = .ok (.goto (-53), 3) := by decide +kernel
theorem dM_top_81 : decode prog_5_method_28_code 81 = .ok (.iload_n 1, 1) := by decide +kernel
theorem dM_top_82 : decode prog_5_method_28_code 82 = .ok (.ireturn, 1) := by decide +kernel
theorem dM_count_0 : decode prog_5_method_29_code 0 = .ok (.aload_n 0, 1) := by decide +kernel
theorem dM_count_1 : decode prog_5_method_29_code 1 = .ok (.iconst 0, 1) := by decide +kernel
theorem dM_count_2 : decode prog_5_method_29_code 2 = .ok (.putfield 51, 3) := by decide +kernel
theorem dM_count_5 : decode prog_5_method_29_code 5 = .ok (.iload_n 1, 1) := by decide +kernel
theorem dM_count_6 : decode prog_5_method_29_code 6 = .ok (.tableswitch 50 0 3 #[30, 35, 40, 45], 30) := by decide +kernel
theorem dM_count_36 : decode prog_5_method_29_code 36 = .ok (.aload_n 0, 1) := by decide +kernel
theorem dM_count_37 : decode prog_5_method_29_code 37 = .ok (.getfield 63, 3) := by decide +kernel
theorem dM_count_40 : decode prog_5_method_29_code 40 = .ok (.ireturn, 1) := by decide +kernel
theorem dM_count_41 : decode prog_5_method_29_code 41 = .ok (.aload_n 0, 1) := by decide +kernel
theorem dM_count_42 : decode prog_5_method_29_code 42 = .ok (.getfield 95, 3) := by decide +kernel
theorem dM_count_45 : decode prog_5_method_29_code 45 = .ok (.ireturn, 1) := by decide +kernel
theorem dM_count_46 : decode prog_5_method_29_code 46 = .ok (.aload_n 0, 1) := by decide +kernel
theorem dM_count_47 : decode prog_5_method_29_code 47 = .ok (.getfield 98, 3) := by decide +kernel
theorem dM_count_50 : decode prog_5_method_29_code 50 = .ok (.ireturn, 1) := by decide +kernel
theorem dM_count_51 : decode prog_5_method_29_code 51 = .ok (.aload_n 0, 1) := by decide +kernel
theorem dM_count_52 : decode prog_5_method_29_code 52 = .ok (.getfield 101, 3) := by decide +kernel
theorem dM_count_55 : decode prog_5_method_29_code 55 = .ok (.ireturn, 1) := by decide +kernel
theorem dM_count_56 : decode prog_5_method_29_code 56 = .ok (.iconst (-1), 1) := by decide +kernel
theorem dM_count_57 : decode prog_5_method_29_code 57 = .ok (.ireturn, 1) := by decide +kernel
