theorem dS_init_0 : decode prog_2_method_1_code 0 = .ok (.aload_n 0, 1) := by decide +kernel
theorem dS_init_1 : decode prog_2_method_1_code 1 = .ok (.invokespecial 3, 3) := by decide +kernel
theorem dS_init_4 : decode prog_2_method_1_code 4 = .ok (.aload_n 0, 1) := by decide +kernel
theorem dS_init_5 : decode prog_2_method_1_code 5 = .ok (.bipush 6, 2) := by decide +kernel
theorem dS_init_7 : decode prog_2_method_1_code 7 = .ok (.newarray .int, 2) := by decide +kernel
theorem dS_init_9 : decode prog_2_method_1_code 9 = .ok (.putfield 9, 3) := by decide +kernel
theorem dS_init_12 : decode prog_2_method_1_code 12 = .ok (.aload_n 0, 1) := by decide +kernel
theorem dS_init_13 : decode prog_2_method_1_code 13 = .ok (.bipush 6, 2) := by decide +kernel
theorem dS_init_15 : decode prog_2_method_1_code 15 = .ok (.newarray .int, 2) := by decide +kernel
theorem dS_init_17 : decode prog_2_method_1_code 17 = .ok (.putfield 15, 3) := by decide +kernel
theorem dS_init_20 : decode prog_2_method_1_code 20 = .ok (.aload_n 0, 1) := by decide +kernel
theorem dS_init_21 : decode prog_2_method_1_code 21 = .ok (.bipush 6, 2) := by decide +kernel
theorem dS_init_23 : decode prog_2_method_1_code 23 = .ok (.newarray .int, 2) := by decide +kernel
theorem dS_init_25 : decode prog_2_method_1_code 25 = .ok (.putfield 18, 3) := by decide +kernel
theorem dS_init_28 : decode prog_2_method_1_code 28 = .ok (.aload_n 0, 1) := by decide +kernel
theorem dS_init_29 : decode prog_2_method_1_code 29 = .ok (.bipush 6, 2) := by decide +kernel
theorem dS_init_31 : decode prog_2_method_1_code 31 = .ok (.newarray .int, 2) := by decide +kernel
theorem dS_init_33 : decode prog_2_method_1_code 33 = .ok (.putfield 21, 3) := by decide +kernel
theorem dS_init_36 : decode prog_2_method_1_code 36 = .ok (.aload_n 0, 1) := by decide +kernel
theorem dS_init_37 : decode prog_2_method_1_code 37 = .ok (.bipush 6, 2) := by decide +kernel
theorem dS_init_39 : decode prog_2_method_1_code 39 = .ok (.newarray .long, 2) := by decide +kernel
theorem dS_init_41 : decode prog_2_method_1_code 41 = .ok (.putfield 24, 3) := by decide +kernel
theorem dS_init_44 : decode prog_2_method_1_code 44 = .ok (.return_, 1) := by decide +kernel
theorem dS_setAge_0 : decode prog_2_method_2_code 0 = .ok (.aload_n 0, 1) := by decide +kernel
theorem dS_setAge_1 : decode prog_2_method_2_code 1 = .ok (.getfield 9, 3) := by decide +kernel
theorem dS_setAge_4 : decode prog_2_method_2_code 4 = .ok (.iload_n 1, 1) := by decide +kernel
theorem dS_setAge_5 : decode prog_2_method_2_code 5 = .ok (.iload_n 2, 1) := by decide +kernel
theorem dS_setAge_6 : decode prog_2_method_2_code 6 = .ok (.iastore, 1) := by decide +kernel
theorem dS_setAge_7 : decode prog_2_method_2_code 7 = .ok (.aload_n 0, 1) := by decide +kernel
theorem dS_setAge_8 : decode prog_2_method_2_code 8 = .ok (.getfield 15, 3) := by decide +kernel
theorem dS_setAge_11 : decode prog_2_method_2_code 11 = .ok (.iload_n 1, 1) := by decide +kernel
theorem dS_setAge_12 : decode prog_2_method_2_code 12 = .ok (.iload_n 3, 1) := by decide +kernel
theorem dS_setAge_13 : decode prog_2_method_2_code 13 = .ok (.iastore, 1) := by decide +kernel
theorem dS_setAge_14 : decode prog_2_method_2_code 14 = .ok (.aload_n 0, 1) := by decide +kernel
theorem dS_setAge_15 : decode prog_2_method_2_code 15 = .ok (.getfield 18, 3) := by decide +kernel
theorem dS_setAge_18 : decode prog_2_method_2_code 18 = .ok (.iload_n 1, 1) := by decide +kernel
theorem dS_setAge_19 : decode prog_2_method_2_code 19 = .ok (.iload 4, 2) := by decide +kernel
theorem dS_setAge_21 : decode prog_2_method_2_code 21 = .ok (.iastore, 1) := by decide +kernel
theorem dS_setAge_22 : decode prog_2_method_2_code 22 = .ok (.aload_n 0, 1) := by decide +kernel
theorem dS_setAge_23 : decode prog_2_method_2_code 23 = .ok (.getfield 21, 3) := by decide +kernel
theorem dS_setAge_26 : decode prog_2_method_2_code 26 = .ok (.iload_n 1, 1) := by decide +kernel
theorem dS_setAge_27 : decode prog_2_method_2_code 27 = .ok (.iload 5, 2) := by decide +kernel
theorem dS_setAge_29 : decode prog_2_method_2_code 29 = .ok (.iastore, 1) := by decide +kernel
theorem dS_setAge_30 : decode prog_2_method_2_code 30 = .ok (.return_, 1) := by decide +kernel
theorem dS_begin_0 : decode prog_2_method_3_code 0 = .ok (.iconst 0, 1) := by decide +kernel
theorem dS_begin_1 : decode prog_2_method_3_code 1 = .ok (.istore_n 1, 1) := by decide +kernel
theorem dS_begin_2 : decode prog_2_method_3_code 2 = .ok (.iload_n 1, 1) := by decide +kernel
theorem dS_begin_3 : decode prog_2_method_3_code 3 = .ok (.bipush 6, 2) := by decide +kernel
theorem dS_begin_5 : decode prog_2_method_3_code 5 = .ok (.if_icmp .ge 22, 3) := by decide +kernel
theorem dS_begin_8 : decode prog_2_method_3_code 8 = .ok (.aload_n 0, 1) := by decide +kernel
theorem dS_begin_9 : decode prog_2_method_3_code 9 = .ok (.getfield 24, 3) := by decide +kernel
theorem dS_begin_12 : decode prog_2_method_3_code 12 = .ok (.iload_n 1, 1) := by decide +kernel
theorem dS_begin_13 : decode prog_2_method_3_code 13 = .ok (.aload_n 0, 1) := by decide +kernel
theorem dS_begin_14 : decode prog_2_method_3_code 14 = .ok (.getfield 9, 3) := by decide +kernel
theorem dS_begin_17 : decode prog_2_method_3_code 17 = .ok (.iload_n 1, 1) := by decide +kernel
theorem dS_begin_18 : decode prog_2_method_3_code 18 = .ok (.iaload, 1) := by decide +kernel
theorem dS_begin_19 : decode prog_2_method_3_code 19 = .ok (.i2l, 1) := by decide +kernel
theorem dS_begin_20 : decode prog_2_method_3_code 20 = .ok (.lastore, 1) := by decide +kernel
theorem dS_begin_21 : decode prog_2_method_3_code 21 = .ok (.iinc 1 1, 3) := by decide +kernel
theorem dS_begin_24 : decode prog_2_method_3_code 24 = .ok (.goto (-22), 3) := by decide +kernel
theorem dS_begin_27 : decode prog_2_method_3_code 27 = .ok (.return_, 1) := by decide +kernel
theorem dS_ripeMass_0 : decode prog_2_method_4_code 0 = .ok (.lconst 0, 1) := by decide +kernel
theorem dS_ripeMass_1 : decode prog_2_method_4_code 1 = .ok (.lstore_n 1, 1) := by decide +kernel
theorem dS_ripeMass_2 : decode prog_2_method_4_code 2 = .ok (.iconst 0, 1) := by decide +kernel
theorem dS_ripeMass_3 : decode prog_2_method_4_code 3 = .ok (.istore_n 3, 1) := by decide +kernel
theorem dS_ripeMass_4 : decode prog_2_method_4_code 4 = .ok (.iload_n 3, 1) := by decide +kernel
theorem dS_ripeMass_5 : decode prog_2_method_4_code 5 = .ok (.bipush 6, 2) := by decide +kernel
theorem dS_ripeMass_7 : decode prog_2_method_4_code 7 = .ok (.if_icmp .ge 38, 3) := by decide +kernel
theorem dS_ripeMass_10 : decode prog_2_method_4_code 10 = .ok (.lload_n 1, 1) := by decide +kernel
theorem dS_ripeMass_11 : decode prog_2_method_4_code 11 = .ok (.aload_n 0, 1) := by decide +kernel
theorem dS_ripeMass_12 : decode prog_2_method_4_code 12 = .ok (.getfield 24, 3) := by decide +kernel
theorem dS_ripeMass_15 : decode prog_2_method_4_code 15 = .ok (.iload_n 3, 1) := by decide +kernel
theorem dS_ripeMass_16 : decode prog_2_method_4_code 16 = .ok (.laload, 1) := by decide +kernel
theorem dS_ripeMass_17 : decode prog_2_method_4_code 17 = .ok (.aload_n 0, 1) := by decide +kernel
theorem dS_ripeMass_18 : decode prog_2_method_4_code 18 = .ok (.getfield 15, 3) := by decide +kernel
theorem dS_ripeMass_21 : decode prog_2_method_4_code 21 = .ok (.iload_n 3, 1) := by decide +kernel
theorem dS_ripeMass_22 : decode prog_2_method_4_code 22 = .ok (.iaload, 1) := by decide +kernel
theorem dS_ripeMass_23 : decode prog_2_method_4_code 23 = .ok (.i2l, 1) := by decide +kernel
theorem dS_ripeMass_24 : decode prog_2_method_4_code 24 = .ok (.lmul, 1) := by decide +kernel
theorem dS_ripeMass_25 : decode prog_2_method_4_code 25 = .ok (.aload_n 0, 1) := by decide +kernel
theorem dS_ripeMass_26 : decode prog_2_method_4_code 26 = .ok (.getfield 18, 3) := by decide +kernel
theorem dS_ripeMass_29 : decode prog_2_method_4_code 29 = .ok (.iload_n 3, 1) := by decide +kernel
theorem dS_ripeMass_30 : decode prog_2_method_4_code 30 = .ok (.iaload, 1) := by decide +kernel
theorem dS_ripeMass_31 : decode prog_2_method_4_code 31 = .ok (.i2l, 1) := by decide +kernel
theorem dS_ripeMass_32 : decode prog_2_method_4_code 32 = .ok (.lmul, 1) := by decide +kernel
theorem dS_ripeMass_33 : decode prog_2_method_4_code 33 = .ok (.ldc2_w 28, 3) := by decide +kernel
theorem dS_ripeMass_36 : decode prog_2_method_4_code 36 = .ok (.ldiv, 1) := by decide +kernel
theorem dS_ripeMass_37 : decode prog_2_method_4_code 37 = .ok (.ladd, 1) := by decide +kernel
theorem dS_ripeMass_38 : decode prog_2_method_4_code 38 = .ok (.lstore_n 1, 1) := by decide +kernel
theorem dS_ripeMass_39 : decode prog_2_method_4_code 39 = .ok (.iinc 3 1, 3) := by decide +kernel
theorem dS_ripeMass_42 : decode prog_2_method_4_code 42 = .ok (.goto (-38), 3) := by decide +kernel
theorem dS_ripeMass_45 : decode prog_2_method_4_code 45 = .ok (.lload_n 1, 1) := by decide +kernel
theorem dS_ripeMass_46 : decode prog_2_method_4_code 46 = .ok (.lreturn, 1) := by decide +kernel
theorem dS_totalMass_0 : decode prog_2_method_5_code 0 = .ok (.lconst 0, 1) := by decide +kernel
theorem dS_totalMass_1 : decode prog_2_method_5_code 1 = .ok (.lstore_n 1, 1) := by decide +kernel
theorem dS_totalMass_2 : decode prog_2_method_5_code 2 = .ok (.iconst 0, 1) := by decide +kernel
theorem dS_totalMass_3 : decode prog_2_method_5_code 3 = .ok (.istore_n 3, 1) := by decide +kernel
theorem dS_totalMass_4 : decode prog_2_method_5_code 4 = .ok (.iload_n 3, 1) := by decide +kernel
theorem dS_totalMass_5 : decode prog_2_method_5_code 5 = .ok (.bipush 6, 2) := by decide +kernel
theorem dS_totalMass_7 : decode prog_2_method_5_code 7 = .ok (.if_icmp .ge 26, 3) := by decide +kernel
theorem dS_totalMass_10 : decode prog_2_method_5_code 10 = .ok (.lload_n 1, 1) := by decide +kernel
theorem dS_totalMass_11 : decode prog_2_method_5_code 11 = .ok (.aload_n 0, 1) := by decide +kernel
theorem dS_totalMass_12 : decode prog_2_method_5_code 12 = .ok (.getfield 24, 3) := by decide +kernel
theorem dS_totalMass_15 : decode prog_2_method_5_code 15 = .ok (.iload_n 3, 1) := by decide +kernel
theorem dS_totalMass_16 : decode prog_2_method_5_code 16 = .ok (.laload, 1) := by decide +kernel
theorem dS_totalMass_17 : decode prog_2_method_5_code 17 = .ok (.aload_n 0, 1) := by decide +kernel
theorem dS_totalMass_18 : decode prog_2_method_5_code 18 = .ok (.getfield 15, 3) := by decide +kernel
theorem dS_totalMass_21 : decode prog_2_method_5_code 21 = .ok (.iload_n 3, 1) := by decide +kernel
theorem dS_totalMass_22 : decode prog_2_method_5_code 22 = .ok (.iaload, 1) := by decide +kernel
theorem dS_totalMass_23 : decode prog_2_method_5_code 23 = .ok (.i2l, 1) := by decide +kernel
theorem dS_totalMass_24 : decode prog_2_method_5_code 24 = .ok (.lmul, 1) := by decide +kernel
theorem dS_totalMass_25 : decode prog_2_method_5_code 25 = .ok (.ladd, 1) := by decide +kernel
theorem dS_totalMass_26 : decode prog_2_method_5_code 26 = .ok (.lstore_n 1, 1) := by decide +kernel
theorem dS_totalMass_27 : decode prog_2_method_5_code 27 = .ok (.iinc 3 1, 3) := by decide +kernel
theorem dS_totalMass_30 : decode prog_2_method_5_code 30 = .ok (.goto (-26), 3) := by decide +kernel
theorem dS_totalMass_33 : decode prog_2_method_5_code 33 = .ok (.lload_n 1, 1) := by decide +kernel
theorem dS_totalMass_34 : decode prog_2_method_5_code 34 = .ok (.lreturn, 1) := by decide +kernel
theorem dS_takeOut_0 : decode prog_2_method_6_code 0 = .ok (.lload_n 3, 1) := by decide +kernel
theorem dS_takeOut_1 : decode prog_2_method_6_code 1 = .ok (.lconst 0, 1) := by decide +kernel
theorem dS_takeOut_2 : decode prog_2_method_6_code 2 = .ok (.lcmp, 1) := by decide +kernel
theorem dS_takeOut_3 : decode prog_2_method_6_code 3 = .ok (.ifCond .gt 5, 3) := by decide +kernel
theorem dS_takeOut_6 : decode prog_2_method_6_code 6 = .ok (.lconst 0, 1) := by decide +kernel
theorem dS_takeOut_7 : decode prog_2_method_6_code 7 = .ok (.lreturn, 1) := by decide +kernel
theorem dS_takeOut_8 : decode prog_2_method_6_code 8 = .ok (.lconst 0, 1) := by decide +kernel
theorem dS_takeOut_9 : decode prog_2_method_6_code 9 = .ok (.lstore 5, 2) := by decide +kernel
theorem dS_takeOut_11 : decode prog_2_method_6_code 11 = .ok (.iconst 0, 1) := by decide +kernel
theorem dS_takeOut_12 : decode prog_2_method_6_code 12 = .ok (.istore 7, 2) := by decide +kernel
theorem dS_takeOut_14 : decode prog_2_method_6_code 14 = .ok (.iload 7, 2) := by decide +kernel
theorem dS_takeOut_16 : decode prog_2_method_6_code 16 = .ok (.bipush 6, 2) := by decide +kernel
theorem dS_takeOut_18 : decode prog_2_method_6_code 18 = .ok (.if_icmp .ge 50, 3) := by decide +kernel
theorem dS_takeOut_21 : decode prog_2_method_6_code 21 = .ok (.aload_n 0, 1) := by decide +kernel
theorem dS_takeOut_22 : decode prog_2_method_6_code 22 = .ok (.getfield 24, 3) := by decide +kernel
theorem dS_takeOut_25 : decode prog_2_method_6_code 25 = .ok (.iload 7, 2) := by decide +kernel
theorem dS_takeOut_27 : decode prog_2_method_6_code 27 = .ok (.laload, 1) := by decide +kernel
theorem dS_takeOut_28 : decode prog_2_method_6_code 28 = .ok (.lload_n 1, 1) := by decide +kernel
theorem dS_takeOut_29 : decode prog_2_method_6_code 29 = .ok (.lmul, 1) := by decide +kernel
theorem dS_takeOut_30 : decode prog_2_method_6_code 30 = .ok (.lload_n 3, 1) := by decide +kernel
theorem dS_takeOut_31 : decode prog_2_method_6_code 31 = .ok (.ldiv, 1) := by decide +kernel
theorem dS_takeOut_32 : decode prog_2_method_6_code 32 = .ok (.lstore 8, 2) := by decide +kernel
theorem dS_takeOut_34 : decode prog_2_method_6_code 34 = .ok (.aload_n 0, 1) := by decide +kernel
theorem dS_takeOut_35 : decode prog_2_method_6_code 35 = .ok (.getfield 24, 3) := by decide +kernel
theorem dS_takeOut_38 : decode prog_2_method_6_code 38 = .ok (.iload 7, 2) := by decide +kernel
theorem dS_takeOut_40 : decode prog_2_method_6_code 40 = .ok (.dup2, 1) := by decide +kernel
theorem dS_takeOut_41 : decode prog_2_method_6_code 41 = .ok (.laload, 1) := by decide +kernel
theorem dS_takeOut_42 : decode prog_2_method_6_code 42 = .ok (.lload 8, 2) := by decide +kernel
theorem dS_takeOut_44 : decode prog_2_method_6_code 44 = .ok (.lsub, 1) := by decide +kernel
theorem dS_takeOut_45 : decode prog_2_method_6_code 45 = .ok (.lastore, 1) := by decide +kernel
theorem dS_takeOut_46 : decode prog_2_method_6_code 46 = .ok (.lload 5, 2) := by decide +kernel
theorem dS_takeOut_48 : decode prog_2_method_6_code 48 = .ok (.lload 8, 2) := by decide +kernel
theorem dS_takeOut_50 : decode prog_2_method_6_code 50 = .ok (.aload_n 0, 1) := by decide +kernel
theorem dS_takeOut_51 : decode prog_2_method_6_code 51 = .ok (.getfield 15, 3) := by decide +kernel
theorem dS_takeOut_54 : decode prog_2_method_6_code 54 = .ok (.iload 7, 2) := by decide +kernel
theorem dS_takeOut_56 : decode prog_2_method_6_code 56 = .ok (.iaload, 1) := by decide +kernel
theorem dS_takeOut_57 : decode prog_2_method_6_code 57 = .ok (.i2l, 1) := by decide +kernel
theorem dS_takeOut_58 : decode prog_2_method_6_code 58 = .ok (.lmul, 1) := by decide +kernel
theorem dS_takeOut_59 : decode prog_2_method_6_code 59 = .ok (.ladd, 1) := by decide +kernel
theorem dS_takeOut_60 : decode prog_2_method_6_code 60 = .ok (.lstore 5, 2) := by decide +kernel
theorem dS_takeOut_62 : decode prog_2_method_6_code 62 = .ok (.iinc 7 1, 3) := by decide +kernel
theorem dS_takeOut_65 : decode prog_2_method_6_code 65 = .ok (.goto (-51), 3) := by decide +kernel
theorem dS_takeOut_68 : decode prog_2_method_6_code 68 = .ok (.lload 5, 2) := by decide +kernel
theorem dS_takeOut_70 : decode prog_2_method_6_code 70 = .ok (.lreturn, 1) := by decide +kernel
theorem dS_loseDead_0 : decode prog_2_method_7_code 0 = .ok (.iconst 0, 1) := by decide +kernel
theorem dS_loseDead_1 : decode prog_2_method_7_code 1 = .ok (.istore_n 1, 1) := by decide +kernel
theorem dS_loseDead_2 : decode prog_2_method_7_code 2 = .ok (.iload_n 1, 1) := by decide +kernel
theorem dS_loseDead_3 : decode prog_2_method_7_code 3 = .ok (.bipush 6, 2) := by decide +kernel
theorem dS_loseDead_5 : decode prog_2_method_7_code 5 = .ok (.if_icmp .ge 36, 3) := by decide +kernel
theorem dS_loseDead_8 : decode prog_2_method_7_code 8 = .ok (.aload_n 0, 1) := by decide +kernel
theorem dS_loseDead_9 : decode prog_2_method_7_code 9 = .ok (.getfield 24, 3) := by decide +kernel
theorem dS_loseDead_12 : decode prog_2_method_7_code 12 = .ok (.iload_n 1, 1) := by decide +kernel
theorem dS_loseDead_13 : decode prog_2_method_7_code 13 = .ok (.dup2, 1) := by decide +kernel
theorem dS_loseDead_14 : decode prog_2_method_7_code 14 = .ok (.laload, 1) := by decide +kernel
theorem dS_loseDead_15 : decode prog_2_method_7_code 15 = .ok (.aload_n 0, 1) := by decide +kernel
theorem dS_loseDead_16 : decode prog_2_method_7_code 16 = .ok (.getfield 24, 3) := by decide +kernel
theorem dS_loseDead_19 : decode prog_2_method_7_code 19 = .ok (.iload_n 1, 1) := by decide +kernel
theorem dS_loseDead_20 : decode prog_2_method_7_code 20 = .ok (.laload, 1) := by decide +kernel
theorem dS_loseDead_21 : decode prog_2_method_7_code 21 = .ok (.aload_n 0, 1) := by decide +kernel
theorem dS_loseDead_22 : decode prog_2_method_7_code 22 = .ok (.getfield 21, 3) := by decide +kernel
theorem dS_loseDead_25 : decode prog_2_method_7_code 25 = .ok (.iload_n 1, 1) := by decide +kernel
theorem dS_loseDead_26 : decode prog_2_method_7_code 26 = .ok (.iaload, 1) := by decide +kernel
theorem dS_loseDead_27 : decode prog_2_method_7_code 27 = .ok (.i2l, 1) := by decide +kernel
theorem dS_loseDead_28 : decode prog_2_method_7_code 28 = .ok (.lmul, 1) := by decide +kernel
theorem dS_loseDead_29 : decode prog_2_method_7_code 29 = .ok (.ldc2_w 28, 3) := by decide +kernel
theorem dS_loseDead_32 : decode prog_2_method_7_code 32 = .ok (.ldiv, 1) := by decide +kernel
theorem dS_loseDead_33 : decode prog_2_method_7_code 33 = .ok (.lsub, 1) := by decide +kernel
theorem dS_loseDead_34 : decode prog_2_method_7_code 34 = .ok (.lastore, 1) := by decide +kernel
theorem dS_loseDead_35 : decode prog_2_method_7_code 35 = .ok (.iinc 1 1, 3) := by decide +kernel
theorem dS_loseDead_38 : decode prog_2_method_7_code 38 = .ok (.goto (-36), 3) := by decide +kernel
theorem dS_loseDead_41 : decode prog_2_method_7_code 41 = .ok (.return_, 1) := by decide +kernel
theorem dS_growOlder_0 : decode prog_2_method_8_code 0 = .ok (.iconst 5, 1) := by decide +kernel
theorem dS_growOlder_1 : decode prog_2_method_8_code 1 = .ok (.istore_n 3, 1) := by decide +kernel
theorem dS_growOlder_2 : decode prog_2_method_8_code 2 = .ok (.aload_n 0, 1) := by decide +kernel
theorem dS_growOlder_3 : decode prog_2_method_8_code 3 = .ok (.getfield 24, 3) := by decide +kernel
theorem dS_growOlder_6 : decode prog_2_method_8_code 6 = .ok (.iload_n 3, 1) := by decide +kernel
theorem dS_growOlder_7 : decode prog_2_method_8_code 7 = .ok (.dup2, 1) := by decide +kernel
theorem dS_growOlder_8 : decode prog_2_method_8_code 8 = .ok (.laload, 1) := by decide +kernel
theorem dS_growOlder_9 : decode prog_2_method_8_code 9 = .ok (.aload_n 0, 1) := by decide +kernel
theorem dS_growOlder_10 : decode prog_2_method_8_code 10 = .ok (.getfield 24, 3) := by decide +kernel
theorem dS_growOlder_13 : decode prog_2_method_8_code 13 = .ok (.iload_n 3, 1) := by decide +kernel
theorem dS_growOlder_14 : decode prog_2_method_8_code 14 = .ok (.iconst 1, 1) := by decide +kernel
theorem dS_growOlder_15 : decode prog_2_method_8_code 15 = .ok (.isub, 1) := by decide +kernel
theorem dS_growOlder_16 : decode prog_2_method_8_code 16 = .ok (.laload, 1) := by decide +kernel
theorem dS_growOlder_17 : decode prog_2_method_8_code 17 = .ok (.ladd, 1) := by decide +kernel
theorem dS_growOlder_18 : decode prog_2_method_8_code 18 = .ok (.lastore, 1) := by decide +kernel
theorem dS_growOlder_19 : decode prog_2_method_8_code 19 = .ok (.iload_n 3, 1) := by decide +kernel
theorem dS_growOlder_20 : decode prog_2_method_8_code 20 = .ok (.iconst 1, 1) := by decide +kernel
theorem dS_growOlder_21 : decode prog_2_method_8_code 21 = .ok (.isub, 1) := by decide +kernel
theorem dS_growOlder_22 : decode prog_2_method_8_code 22 = .ok (.istore 4, 2) := by decide +kernel
theorem dS_growOlder_24 : decode prog_2_method_8_code 24 = .ok (.iload 4, 2) := by decide +kernel
theorem dS_growOlder_26 : decode prog_2_method_8_code 26 = .ok (.ifCond .le 25, 3) := by decide +kernel
theorem dS_growOlder_29 : decode prog_2_method_8_code 29 = .ok (.aload_n 0, 1) := by decide +kernel
theorem dS_growOlder_30 : decode prog_2_method_8_code 30 = .ok (.getfield 24, 3) := by decide +kernel
theorem dS_growOlder_33 : decode prog_2_method_8_code 33 = .ok (.iload 4, 2) := by decide +kernel
theorem dS_growOlder_35 : decode prog_2_method_8_code 35 = .ok (.aload_n 0, 1) := by decide +kernel
theorem dS_growOlder_36 : decode prog_2_method_8_code 36 = .ok (.getfield 24, 3) := by decide +kernel
theorem dS_growOlder_39 : decode prog_2_method_8_code 39 = .ok (.iload 4, 2) := by decide +kernel
theorem dS_growOlder_41 : decode prog_2_method_8_code 41 = .ok (.iconst 1, 1) := by decide +kernel
theorem dS_growOlder_42 : decode prog_2_method_8_code 42 = .ok (.isub, 1) := by decide +kernel
theorem dS_growOlder_43 : decode prog_2_method_8_code 43 = .ok (.laload, 1) := by decide +kernel
theorem dS_growOlder_44 : decode prog_2_method_8_code 44 = .ok (.lastore, 1) := by decide +kernel
theorem dS_growOlder_45 : decode prog_2_method_8_code 45 = .ok (.iinc 4 (-1), 3) := by decide +kernel
theorem dS_growOlder_48 : decode prog_2_method_8_code 48 = .ok (.goto (-24), 3) := by decide +kernel
theorem dS_growOlder_51 : decode prog_2_method_8_code 51 = .ok (.aload_n 0, 1) := by decide +kernel
theorem dS_growOlder_52 : decode prog_2_method_8_code 52 = .ok (.getfield 24, 3) := by decide +kernel
theorem dS_growOlder_55 : decode prog_2_method_8_code 55 = .ok (.iconst 0, 1) := by decide +kernel
theorem dS_growOlder_56 : decode prog_2_method_8_code 56 = .ok (.lload_n 1, 1) := by decide +kernel
theorem dS_growOlder_57 : decode prog_2_method_8_code 57 = .ok (.lastore, 1) := by decide +kernel
theorem dS_growOlder_58 : decode prog_2_method_8_code 58 = .ok (.return_, 1) := by decide +kernel
theorem dY_init_0 : decode prog_3_method_1_code 0 = .ok (.aload_n 0, 1) := by decide +kernel
theorem dY_init_1 : decode prog_3_method_1_code 1 = .ok (.invokespecial 3, 3) := by decide +kernel
theorem dY_init_4 : decode prog_3_method_1_code 4 = .ok (.aload_n 0, 1) := by decide +kernel
theorem dY_init_5 : decode prog_3_method_1_code 5 = .ok (.iconst 4, 1) := by decide +kernel
theorem dY_init_6 : decode prog_3_method_1_code 6 = .ok (.sipush 320, 3) := by decide +kernel
theorem dY_init_9 : decode prog_3_method_1_code 9 = .ok (.multianewarray 9 2, 4) := by decide +kernel
theorem dY_init_13 : decode prog_3_method_1_code 13 = .ok (.putfield 11, 3) := by decide +kernel
theorem dY_init_16 : decode prog_3_method_1_code 16 = .ok (.return_, 1) := by decide +kernel
theorem dY_get_0 : decode prog_3_method_2_code 0 = .ok (.aload_n 0, 1) := by decide +kernel
theorem dY_get_1 : decode prog_3_method_2_code 1 = .ok (.getfield 11, 3) := by decide +kernel
theorem dY_get_4 : decode prog_3_method_2_code 4 = .ok (.iload_n 1, 1) := by decide +kernel
theorem dY_get_5 : decode prog_3_method_2_code 5 = .ok (.aaload, 1) := by decide +kernel
theorem dY_get_6 : decode prog_3_method_2_code 6 = .ok (.iload_n 2, 1) := by decide +kernel
theorem dY_get_7 : decode prog_3_method_2_code 7 = .ok (.bipush 20, 2) := by decide +kernel
theorem dY_get_9 : decode prog_3_method_2_code 9 = .ok (.imul, 1) := by decide +kernel
theorem dY_get_10 : decode prog_3_method_2_code 10 = .ok (.iload_n 3, 1) := by decide +kernel
theorem dY_get_11 : decode prog_3_method_2_code 11 = .ok (.iadd, 1) := by decide +kernel
theorem dY_get_12 : decode prog_3_method_2_code 12 = .ok (.iconst 1, 1) := by decide +kernel
theorem dY_get_13 : decode prog_3_method_2_code 13 = .ok (.isub, 1) := by decide +kernel
theorem dY_get_14 : decode prog_3_method_2_code 14 = .ok (.laload, 1) := by decide +kernel
theorem dY_get_15 : decode prog_3_method_2_code 15 = .ok (.lreturn, 1) := by decide +kernel
theorem dY_put_0 : decode prog_3_method_3_code 0 = .ok (.aload_n 0, 1) := by decide +kernel
theorem dY_put_1 : decode prog_3_method_3_code 1 = .ok (.getfield 11, 3) := by decide +kernel
theorem dY_put_4 : decode prog_3_method_3_code 4 = .ok (.iload_n 1, 1) := by decide +kernel
theorem dY_put_5 : decode prog_3_method_3_code 5 = .ok (.aaload, 1) := by decide +kernel
theorem dY_put_6 : decode prog_3_method_3_code 6 = .ok (.iload_n 2, 1) := by decide +kernel
theorem dY_put_7 : decode prog_3_method_3_code 7 = .ok (.bipush 20, 2) := by decide +kernel
theorem dY_put_9 : decode prog_3_method_3_code 9 = .ok (.imul, 1) := by decide +kernel
theorem dY_put_10 : decode prog_3_method_3_code 10 = .ok (.iload_n 3, 1) := by decide +kernel
theorem dY_put_11 : decode prog_3_method_3_code 11 = .ok (.iadd, 1) := by decide +kernel
theorem dY_put_12 : decode prog_3_method_3_code 12 = .ok (.iconst 1, 1) := by decide +kernel
theorem dY_put_13 : decode prog_3_method_3_code 13 = .ok (.isub, 1) := by decide +kernel
theorem dY_put_14 : decode prog_3_method_3_code 14 = .ok (.lload 4, 2) := by decide +kernel
theorem dY_put_16 : decode prog_3_method_3_code 16 = .ok (.lastore, 1) := by decide +kernel
theorem dY_put_17 : decode prog_3_method_3_code 17 = .ok (.return_, 1) := by decide +kernel
