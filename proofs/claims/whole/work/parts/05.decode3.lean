theorem dX12_stateNumber_40 : decode cX12_stateNumber 40 = .ok (.iaload, 1) := by decide +kernel
theorem dX12_stateNumber_41 : decode cX12_stateNumber 41 = .ok (.iadd, 1) := by decide +kernel
theorem dX12_stateNumber_42 : decode cX12_stateNumber 42 = .ok (.istore_n 1, 1) := by decide +kernel
theorem dX12_stateNumber_43 : decode cX12_stateNumber 43 = .ok (.iinc 2 (-1), 3) := by decide +kernel
theorem dX12_stateNumber_46 : decode cX12_stateNumber 46 = .ok (.goto (-32), 3) := by decide +kernel
theorem dX12_stateNumber_49 : decode cX12_stateNumber 49 = .ok (.iload_n 1, 1) := by decide +kernel
theorem dX12_stateNumber_50 : decode cX12_stateNumber 50 = .ok (.ireturn, 1) := by decide +kernel
theorem dX12_be_0 : decode cX12_be 0 = .ok (.iload_n 1, 1) := by decide +kernel
theorem dX12_be_1 : decode cX12_be 1 = .ok (.istore_n 2, 1) := by decide +kernel
theorem dX12_be_2 : decode cX12_be 2 = .ok (.iconst 0, 1) := by decide +kernel
theorem dX12_be_3 : decode cX12_be 3 = .ok (.istore_n 3, 1) := by decide +kernel
theorem dX12_be_4 : decode cX12_be 4 = .ok (.iload_n 3, 1) := by decide +kernel
theorem dX12_be_5 : decode cX12_be 5 = .ok (.aload_n 0, 1) := by decide +kernel
theorem dX12_be_6 : decode cX12_be 6 = .ok (.getfield 16, 3) := by decide +kernel
theorem dX12_be_9 : decode cX12_be 9 = .ok (.aload_n 0, 1) := by decide +kernel
theorem dX12_be_10 : decode cX12_be 10 = .ok (.getfield 197, 3) := by decide +kernel
theorem dX12_be_13 : decode cX12_be 13 = .ok (.iaload, 1) := by decide +kernel
theorem dX12_be_14 : decode cX12_be 14 = .ok (.if_icmp .ge 41, 3) := by decide +kernel
theorem dX12_be_17 : decode cX12_be 17 = .ok (.aload_n 0, 1) := by decide +kernel
theorem dX12_be_18 : decode cX12_be 18 = .ok (.getfield 23, 3) := by decide +kernel
theorem dX12_be_21 : decode cX12_be 21 = .ok (.iconst 4, 1) := by decide +kernel
theorem dX12_be_22 : decode cX12_be 22 = .ok (.aload_n 0, 1) := by decide +kernel
theorem dX12_be_23 : decode cX12_be 23 = .ok (.getfield 197, 3) := by decide +kernel
theorem dX12_be_26 : decode cX12_be 26 = .ok (.imul, 1) := by decide +kernel
theorem dX12_be_27 : decode cX12_be 27 = .ok (.iload_n 3, 1) := by decide +kernel
theorem dX12_be_28 : decode cX12_be 28 = .ok (.iadd, 1) := by decide +kernel
theorem dX12_be_29 : decode cX12_be 29 = .ok (.iaload, 1) := by decide +kernel
theorem dX12_be_30 : decode cX12_be 30 = .ok (.iconst 1, 1) := by decide +kernel
theorem dX12_be_31 : decode cX12_be 31 = .ok (.iadd, 1) := by decide +kernel
theorem dX12_be_32 : decode cX12_be 32 = .ok (.istore 4, 2) := by decide +kernel
theorem dX12_be_34 : decode cX12_be 34 = .ok (.aload_n 0, 1) := by decide +kernel
theorem dX12_be_35 : decode cX12_be 35 = .ok (.getfield 62, 3) := by decide +kernel
theorem dX12_be_38 : decode cX12_be 38 = .ok (.iload_n 3, 1) := by decide +kernel
theorem dX12_be_39 : decode cX12_be 39 = .ok (.iload_n 2, 1) := by decide +kernel
theorem dX12_be_40 : decode cX12_be 40 = .ok (.iload 4, 2) := by decide +kernel
theorem dX12_be_42 : decode cX12_be 42 = .ok (.irem, 1) := by decide +kernel
theorem dX12_be_43 : decode cX12_be 43 = .ok (.iastore, 1) := by decide +kernel
theorem dX12_be_44 : decode cX12_be 44 = .ok (.iload_n 2, 1) := by decide +kernel
theorem dX12_be_45 : decode cX12_be 45 = .ok (.iload 4, 2) := by decide +kernel
theorem dX12_be_47 : decode cX12_be 47 = .ok (.idiv, 1) := by decide +kernel
theorem dX12_be_48 : decode cX12_be 48 = .ok (.istore_n 2, 1) := by decide +kernel
theorem dX12_be_49 : decode cX12_be 49 = .ok (.iinc 3 1, 3) := by decide +kernel
theorem dX12_be_52 : decode cX12_be 52 = .ok (.goto (-48), 3) := by decide +kernel
theorem dX12_be_55 : decode cX12_be 55 = .ok (.return_, 1) := by decide +kernel
theorem dX12_powerOf_0 : decode cX12_powerOf 0 = .ok (.lconst 1, 1) := by decide +kernel
theorem dX12_powerOf_1 : decode cX12_powerOf 1 = .ok (.lstore 4, 2) := by decide +kernel
theorem dX12_powerOf_3 : decode cX12_powerOf 3 = .ok (.iconst 0, 1) := by decide +kernel
theorem dX12_powerOf_4 : decode cX12_powerOf 4 = .ok (.istore 6, 2) := by decide +kernel
theorem dX12_powerOf_6 : decode cX12_powerOf 6 = .ok (.iload 6, 2) := by decide +kernel
theorem dX12_powerOf_8 : decode cX12_powerOf 8 = .ok (.iload_n 1, 1) := by decide +kernel
theorem dX12_powerOf_9 : decode cX12_powerOf 9 = .ok (.if_icmp .ge 55, 3) := by decide +kernel
theorem dX12_powerOf_12 : decode cX12_powerOf 12 = .ok (.lload 4, 2) := by decide +kernel
theorem dX12_powerOf_14 : decode cX12_powerOf 14 = .ok (.lconst 0, 1) := by decide +kernel
theorem dX12_powerOf_15 : decode cX12_powerOf 15 = .ok (.lcmp, 1) := by decide +kernel
theorem dX12_powerOf_16 : decode cX12_powerOf 16 = .ok (.ifCond .le 48, 3) := by decide +kernel
theorem dX12_powerOf_19 : decode cX12_powerOf 19 = .ok (.lload 4, 2) := by decide +kernel
theorem dX12_powerOf_21 : decode cX12_powerOf 21 = .ok (.lload_n 2, 1) := by decide +kernel
theorem dX12_powerOf_22 : decode cX12_powerOf 22 = .ok (.aload_n 0, 1) := by decide +kernel
theorem dX12_powerOf_23 : decode cX12_powerOf 23 = .ok (.getfield 13, 3) := by decide +kernel
theorem dX12_powerOf_26 : decode cX12_powerOf 26 = .ok (.aload_n 0, 1) := by decide +kernel
theorem dX12_powerOf_27 : decode cX12_powerOf 27 = .ok (.getfield 197, 3) := by decide +kernel
theorem dX12_powerOf_30 : decode cX12_powerOf 30 = .ok (.iaload, 1) := by decide +kernel
theorem dX12_powerOf_31 : decode cX12_powerOf 31 = .ok (.i2l, 1) := by decide +kernel
theorem dX12_powerOf_32 : decode cX12_powerOf 32 = .ok (.ldiv, 1) := by decide +kernel
theorem dX12_powerOf_33 : decode cX12_powerOf 33 = .ok (.lcmp, 1) := by decide +kernel
theorem dX12_powerOf_34 : decode cX12_powerOf 34 = .ok (.ifCond .le 9, 3) := by decide +kernel
theorem dX12_powerOf_37 : decode cX12_powerOf 37 = .ok (.ldc2_w 280, 3) := by decide +kernel
theorem dX12_powerOf_40 : decode cX12_powerOf 40 = .ok (.goto 16, 3) := by decide +kernel
theorem dX12_powerOf_43 : decode cX12_powerOf 43 = .ok (.lload 4, 2) := by decide +kernel
theorem dX12_powerOf_45 : decode cX12_powerOf 45 = .ok (.aload_n 0, 1) := by decide +kernel
theorem dX12_powerOf_46 : decode cX12_powerOf 46 = .ok (.getfield 13, 3) := by decide +kernel
theorem dX12_powerOf_49 : decode cX12_powerOf 49 = .ok (.aload_n 0, 1) := by decide +kernel
theorem dX12_powerOf_50 : decode cX12_powerOf 50 = .ok (.getfield 197, 3) := by decide +kernel
theorem dX12_powerOf_53 : decode cX12_powerOf 53 = .ok (.iaload, 1) := by decide +kernel
theorem dX12_powerOf_54 : decode cX12_powerOf 54 = .ok (.i2l, 1) := by decide +kernel
theorem dX12_powerOf_55 : decode cX12_powerOf 55 = .ok (.lmul, 1) := by decide +kernel
theorem dX12_powerOf_56 : decode cX12_powerOf 56 = .ok (.lstore 4, 2) := by decide +kernel
theorem dX12_powerOf_58 : decode cX12_powerOf 58 = .ok (.iinc 6 1, 3) := by decide +kernel
theorem dX12_powerOf_61 : decode cX12_powerOf 61 = .ok (.goto (-55), 3) := by decide +kernel
theorem dX12_powerOf_64 : decode cX12_powerOf 64 = .ok (.lload 4, 2) := by decide +kernel
theorem dX12_powerOf_66 : decode cX12_powerOf 66 = .ok (.lreturn, 1) := by decide +kernel
theorem dX12_step_0 : decode cX12_step 0 = .ok (.aload_n 0, 1) := by decide +kernel
theorem dX12_step_1 : decode cX12_step 1 = .ok (.aload_n 0, 1) := by decide +kernel
theorem dX12_step_2 : decode cX12_step 2 = .ok (.getfield 197, 3) := by decide +kernel
theorem dX12_step_5 : decode cX12_step 5 = .ok (.invokevirtual 177, 3) := by decide +kernel
theorem dX12_step_8 : decode cX12_step 8 = .ok (.istore_n 1, 1) := by decide +kernel
theorem dX12_step_9 : decode cX12_step 9 = .ok (.iconst 0, 1) := by decide +kernel
theorem dX12_step_10 : decode cX12_step 10 = .ok (.istore_n 2, 1) := by decide +kernel
theorem dX12_step_11 : decode cX12_step 11 = .ok (.iload_n 2, 1) := by decide +kernel
theorem dX12_step_12 : decode cX12_step 12 = .ok (.iload_n 1, 1) := by decide +kernel
theorem dX12_step_13 : decode cX12_step 13 = .ok (.if_icmp .ge 16, 3) := by decide +kernel
theorem dX12_step_16 : decode cX12_step 16 = .ok (.aload_n 0, 1) := by decide +kernel
theorem dX12_step_17 : decode cX12_step 17 = .ok (.getfield 68, 3) := by decide +kernel
theorem dX12_step_20 : decode cX12_step 20 = .ok (.iload_n 2, 1) := by decide +kernel
theorem dX12_step_21 : decode cX12_step 21 = .ok (.lconst 0, 1) := by decide +kernel
theorem dX12_step_22 : decode cX12_step 22 = .ok (.lastore, 1) := by decide +kernel
theorem dX12_step_23 : decode cX12_step 23 = .ok (.iinc 2 1, 3) := by decide +kernel
theorem dX12_step_26 : decode cX12_step 26 = .ok (.goto (-15), 3) := by decide +kernel
theorem dX12_step_29 : decode cX12_step 29 = .ok (.iconst 0, 1) := by decide +kernel
theorem dX12_step_30 : decode cX12_step 30 = .ok (.istore_n 2, 1) := by decide +kernel
theorem dX12_step_31 : decode cX12_step 31 = .ok (.iload_n 2, 1) := by decide +kernel
theorem dX12_step_32 : decode cX12_step 32 = .ok (.iload_n 1, 1) := by decide +kernel
theorem dX12_step_33 : decode cX12_step 33 = .ok (.if_icmp .ge 73, 3) := by decide +kernel
theorem dX12_step_36 : decode cX12_step 36 = .ok (.aload_n 0, 1) := by decide +kernel
theorem dX12_step_37 : decode cX12_step 37 = .ok (.getfield 65, 3) := by decide +kernel
theorem dX12_step_40 : decode cX12_step 40 = .ok (.iload_n 2, 1) := by decide +kernel
theorem dX12_step_41 : decode cX12_step 41 = .ok (.laload, 1) := by decide +kernel
theorem dX12_step_42 : decode cX12_step 42 = .ok (.lconst 0, 1) := by decide +kernel
theorem dX12_step_43 : decode cX12_step 43 = .ok (.lcmp, 1) := by decide +kernel
theorem dX12_step_44 : decode cX12_step 44 = .ok (.ifCond .le 56, 3) := by decide +kernel
theorem dX12_step_47 : decode cX12_step 47 = .ok (.iconst 0, 1) := by decide +kernel
theorem dX12_step_48 : decode cX12_step 48 = .ok (.istore_n 3, 1) := by decide +kernel
theorem dX12_step_49 : decode cX12_step 49 = .ok (.iload_n 3, 1) := by decide +kernel
theorem dX12_step_50 : decode cX12_step 50 = .ok (.aload_n 0, 1) := by decide +kernel
theorem dX12_step_51 : decode cX12_step 51 = .ok (.getfield 13, 3) := by decide +kernel
theorem dX12_step_54 : decode cX12_step 54 = .ok (.aload_n 0, 1) := by decide +kernel
theorem dX12_step_55 : decode cX12_step 55 = .ok (.getfield 197, 3) := by decide +kernel
theorem dX12_step_58 : decode cX12_step 58 = .ok (.iaload, 1) := by decide +kernel
theorem dX12_step_59 : decode cX12_step 59 = .ok (.if_icmp .ge 41, 3) := by decide +kernel
theorem dX12_step_62 : decode cX12_step 62 = .ok (.aload_n 0, 1) := by decide +kernel
theorem dX12_step_63 : decode cX12_step 63 = .ok (.iload_n 2, 1) := by decide +kernel
theorem dX12_step_64 : decode cX12_step 64 = .ok (.invokevirtual 282, 3) := by decide +kernel
theorem dX12_step_67 : decode cX12_step 67 = .ok (.aload_n 0, 1) := by decide +kernel
theorem dX12_step_68 : decode cX12_step 68 = .ok (.aload_n 0, 1) := by decide +kernel
theorem dX12_step_69 : decode cX12_step 69 = .ok (.iload_n 3, 1) := by decide +kernel
theorem dX12_step_70 : decode cX12_step 70 = .ok (.invokevirtual 259, 3) := by decide +kernel
theorem dX12_step_73 : decode cX12_step 73 = .ok (.invokevirtual 262, 3) := by decide +kernel
theorem dX12_step_76 : decode cX12_step 76 = .ok (.aload_n 0, 1) := by decide +kernel
theorem dX12_step_77 : decode cX12_step 77 = .ok (.getfield 68, 3) := by decide +kernel
theorem dX12_step_80 : decode cX12_step 80 = .ok (.aload_n 0, 1) := by decide +kernel
theorem dX12_step_81 : decode cX12_step 81 = .ok (.invokevirtual 285, 3) := by decide +kernel
theorem dX12_step_84 : decode cX12_step 84 = .ok (.dup2, 1) := by decide +kernel
theorem dX12_step_85 : decode cX12_step 85 = .ok (.laload, 1) := by decide +kernel
theorem dX12_step_86 : decode cX12_step 86 = .ok (.aload_n 0, 1) := by decide +kernel
theorem dX12_step_87 : decode cX12_step 87 = .ok (.getfield 65, 3) := by decide +kernel
theorem dX12_step_90 : decode cX12_step 90 = .ok (.iload_n 2, 1) := by decide +kernel
theorem dX12_step_91 : decode cX12_step 91 = .ok (.laload, 1) := by decide +kernel
theorem dX12_step_92 : decode cX12_step 92 = .ok (.ladd, 1) := by decide +kernel
theorem dX12_step_93 : decode cX12_step 93 = .ok (.lastore, 1) := by decide +kernel
theorem dX12_step_94 : decode cX12_step 94 = .ok (.iinc 3 1, 3) := by decide +kernel
theorem dX12_step_97 : decode cX12_step 97 = .ok (.goto (-48), 3) := by decide +kernel
theorem dX12_step_100 : decode cX12_step 100 = .ok (.iinc 2 1, 3) := by decide +kernel
theorem dX12_step_103 : decode cX12_step 103 = .ok (.goto (-72), 3) := by decide +kernel
theorem dX12_step_106 : decode cX12_step 106 = .ok (.iconst 0, 1) := by decide +kernel
theorem dX12_step_107 : decode cX12_step 107 = .ok (.istore_n 2, 1) := by decide +kernel
theorem dX12_step_108 : decode cX12_step 108 = .ok (.iload_n 2, 1) := by decide +kernel
theorem dX12_step_109 : decode cX12_step 109 = .ok (.iload_n 1, 1) := by decide +kernel
theorem dX12_step_110 : decode cX12_step 110 = .ok (.if_icmp .ge 21, 3) := by decide +kernel
theorem dX12_step_113 : decode cX12_step 113 = .ok (.aload_n 0, 1) := by decide +kernel
theorem dX12_step_114 : decode cX12_step 114 = .ok (.getfield 65, 3) := by decide +kernel
theorem dX12_step_117 : decode cX12_step 117 = .ok (.iload_n 2, 1) := by decide +kernel
theorem dX12_step_118 : decode cX12_step 118 = .ok (.aload_n 0, 1) := by decide +kernel
theorem dX12_step_119 : decode cX12_step 119 = .ok (.getfield 68, 3) := by decide +kernel
theorem dX12_step_122 : decode cX12_step 122 = .ok (.iload_n 2, 1) := by decide +kernel
theorem dX12_step_123 : decode cX12_step 123 = .ok (.laload, 1) := by decide +kernel
theorem dX12_step_124 : decode cX12_step 124 = .ok (.lastore, 1) := by decide +kernel
theorem dX12_step_125 : decode cX12_step 125 = .ok (.iinc 2 1, 3) := by decide +kernel
theorem dX12_step_128 : decode cX12_step 128 = .ok (.goto (-20), 3) := by decide +kernel
theorem dX12_step_131 : decode cX12_step 131 = .ok (.return_, 1) := by decide +kernel
theorem dX12_beginWays_0 : decode cX12_beginWays 0 = .ok (.iconst 0, 1) := by decide +kernel
theorem dX12_beginWays_1 : decode cX12_beginWays 1 = .ok (.istore_n 1, 1) := by decide +kernel
theorem dX12_beginWays_2 : decode cX12_beginWays 2 = .ok (.iload_n 1, 1) := by decide +kernel
theorem dX12_beginWays_3 : decode cX12_beginWays 3 = .ok (.sipush 1000, 3) := by decide +kernel
theorem dX12_beginWays_6 : decode cX12_beginWays 6 = .ok (.if_icmp .ge 16, 3) := by decide +kernel
theorem dX12_beginWays_9 : decode cX12_beginWays 9 = .ok (.aload_n 0, 1) := by decide +kernel
theorem dX12_beginWays_10 : decode cX12_beginWays 10 = .ok (.getfield 65, 3) := by decide +kernel
theorem dX12_beginWays_13 : decode cX12_beginWays 13 = .ok (.iload_n 1, 1) := by decide +kernel
theorem dX12_beginWays_14 : decode cX12_beginWays 14 = .ok (.lconst 0, 1) := by decide +kernel
theorem dX12_beginWays_15 : decode cX12_beginWays 15 = .ok (.lastore, 1) := by decide +kernel
theorem dX12_beginWays_16 : decode cX12_beginWays 16 = .ok (.iinc 1 1, 3) := by decide +kernel
theorem dX12_beginWays_19 : decode cX12_beginWays 19 = .ok (.goto (-17), 3) := by decide +kernel
theorem dX12_beginWays_22 : decode cX12_beginWays 22 = .ok (.aload_n 0, 1) := by decide +kernel
theorem dX12_beginWays_23 : decode cX12_beginWays 23 = .ok (.invokevirtual 241, 3) := by decide +kernel
theorem dX12_beginWays_26 : decode cX12_beginWays 26 = .ok (.aload_n 0, 1) := by decide +kernel
theorem dX12_beginWays_27 : decode cX12_beginWays 27 = .ok (.getfield 65, 3) := by decide +kernel
theorem dX12_beginWays_30 : decode cX12_beginWays 30 = .ok (.aload_n 0, 1) := by decide +kernel
theorem dX12_beginWays_31 : decode cX12_beginWays 31 = .ok (.invokevirtual 285, 3) := by decide +kernel
theorem dX12_beginWays_34 : decode cX12_beginWays 34 = .ok (.lconst 1, 1) := by decide +kernel
theorem dX12_beginWays_35 : decode cX12_beginWays 35 = .ok (.lastore, 1) := by decide +kernel
theorem dX12_beginWays_36 : decode cX12_beginWays 36 = .ok (.return_, 1) := by decide +kernel
theorem dX12_exact_0 : decode cX12_exact 0 = .ok (.aload_n 0, 1) := by decide +kernel
theorem dX12_exact_1 : decode cX12_exact 1 = .ok (.iconst 0, 1) := by decide +kernel
theorem dX12_exact_2 : decode cX12_exact 2 = .ok (.putfield 97, 3) := by decide +kernel
theorem dX12_exact_5 : decode cX12_exact 5 = .ok (.aload_n 0, 1) := by decide +kernel
theorem dX12_exact_6 : decode cX12_exact 6 = .ok (.iload_n 1, 1) := by decide +kernel
theorem dX12_exact_7 : decode cX12_exact 7 = .ok (.invokevirtual 265, 3) := by decide +kernel
theorem dX12_exact_10 : decode cX12_exact 10 = .ok (.ifCond .eq 15, 3) := by decide +kernel
theorem dX12_exact_13 : decode cX12_exact 13 = .ok (.iload_n 2, 1) := by decide +kernel
theorem dX12_exact_14 : decode cX12_exact 14 = .ok (.i2l, 1) := by decide +kernel
theorem dX12_exact_15 : decode cX12_exact 15 = .ok (.lconst 0, 1) := by decide +kernel
theorem dX12_exact_16 : decode cX12_exact 16 = .ok (.ldc2_w 268, 3) := by decide +kernel
theorem dX12_exact_19 : decode cX12_exact 19 = .ok (.invokestatic 102, 3) := by decide +kernel
theorem dX12_exact_22 : decode cX12_exact 22 = .ok (.ifCond .ne 7, 3) := by decide +kernel
theorem dX12_exact_25 : decode cX12_exact 25 = .ok (.ldc2_w 288, 3) := by decide +kernel
theorem dX12_exact_28 : decode cX12_exact 28 = .ok (.lreturn, 1) := by decide +kernel
theorem dX12_exact_29 : decode cX12_exact 29 = .ok (.aload_n 0, 1) := by decide +kernel
theorem dX12_exact_30 : decode cX12_exact 30 = .ok (.iload_n 2, 1) := by decide +kernel
theorem dX12_exact_31 : decode cX12_exact 31 = .ok (.ldc2_w 290, 3) := by decide +kernel
theorem dX12_exact_34 : decode cX12_exact 34 = .ok (.invokevirtual 292, 3) := by decide +kernel
theorem dX12_exact_37 : decode cX12_exact 37 = .ok (.lconst 0, 1) := by decide +kernel
theorem dX12_exact_38 : decode cX12_exact 38 = .ok (.lcmp, 1) := by decide +kernel
theorem dX12_exact_39 : decode cX12_exact 39 = .ok (.ifCond .ge 7, 3) := by decide +kernel
theorem dX12_exact_42 : decode cX12_exact 42 = .ok (.ldc2_w 296, 3) := by decide +kernel
theorem dX12_exact_45 : decode cX12_exact 45 = .ok (.lreturn, 1) := by decide +kernel
theorem dX12_exact_46 : decode cX12_exact 46 = .ok (.aload_n 0, 1) := by decide +kernel
theorem dX12_exact_47 : decode cX12_exact 47 = .ok (.invokevirtual 298, 3) := by decide +kernel
theorem dX12_exact_50 : decode cX12_exact 50 = .ok (.lconst 0, 1) := by decide +kernel
theorem dX12_exact_51 : decode cX12_exact 51 = .ok (.lstore_n 3, 1) := by decide +kernel
theorem dX12_exact_52 : decode cX12_exact 52 = .ok (.iconst 0, 1) := by decide +kernel
theorem dX12_exact_53 : decode cX12_exact 53 = .ok (.istore 5, 2) := by decide +kernel
theorem dX12_exact_55 : decode cX12_exact 55 = .ok (.iload 5, 2) := by decide +kernel
theorem dX12_exact_57 : decode cX12_exact 57 = .ok (.iload_n 2, 1) := by decide +kernel
theorem dX12_exact_58 : decode cX12_exact 58 = .ok (.if_icmp .gt 106, 3) := by decide +kernel
theorem dX12_exact_61 : decode cX12_exact 61 = .ok (.lload_n 3, 1) := by decide +kernel
theorem dX12_exact_62 : decode cX12_exact 62 = .ok (.iload 5, 2) := by decide +kernel
theorem dX12_exact_64 : decode cX12_exact 64 = .ok (.ifCond .ne 7, 3) := by decide +kernel
theorem dX12_exact_67 : decode cX12_exact 67 = .ok (.lconst 1, 1) := by decide +kernel
theorem dX12_exact_68 : decode cX12_exact 68 = .ok (.goto 13, 3) := by decide +kernel
theorem dX12_exact_71 : decode cX12_exact 71 = .ok (.aload_n 0, 1) := by decide +kernel
theorem dX12_exact_72 : decode cX12_exact 72 = .ok (.getfield 13, 3) := by decide +kernel
theorem dX12_exact_75 : decode cX12_exact 75 = .ok (.aload_n 0, 1) := by decide +kernel
theorem dX12_exact_76 : decode cX12_exact 76 = .ok (.getfield 197, 3) := by decide +kernel
theorem dX12_exact_79 : decode cX12_exact 79 = .ok (.iaload, 1) := by decide +kernel
theorem dX12_exact_80 : decode cX12_exact 80 = .ok (.i2l, 1) := by decide +kernel
theorem dX12_exact_81 : decode cX12_exact 81 = .ok (.lmul, 1) := by decide +kernel
theorem dX12_exact_82 : decode cX12_exact 82 = .ok (.lstore_n 3, 1) := by decide +kernel
theorem dX12_exact_83 : decode cX12_exact 83 = .ok (.iload 5, 2) := by decide +kernel
theorem dX12_exact_85 : decode cX12_exact 85 = .ok (.ifCond .le 7, 3) := by decide +kernel
theorem dX12_exact_88 : decode cX12_exact 88 = .ok (.aload_n 0, 1) := by decide +kernel
theorem dX12_exact_89 : decode cX12_exact 89 = .ok (.invokevirtual 301, 3) := by decide +kernel
theorem dX12_exact_92 : decode cX12_exact 92 = .ok (.iconst 0, 1) := by decide +kernel
theorem dX12_exact_93 : decode cX12_exact 93 = .ok (.istore 6, 2) := by decide +kernel
theorem dX12_exact_95 : decode cX12_exact 95 = .ok (.iload 6, 2) := by decide +kernel
theorem dX12_exact_97 : decode cX12_exact 97 = .ok (.aload_n 0, 1) := by decide +kernel
theorem dX12_exact_98 : decode cX12_exact 98 = .ok (.aload_n 0, 1) := by decide +kernel
theorem dX12_exact_99 : decode cX12_exact 99 = .ok (.getfield 197, 3) := by decide +kernel
theorem dX12_exact_102 : decode cX12_exact 102 = .ok (.invokevirtual 177, 3) := by decide +kernel
theorem dX12_exact_105 : decode cX12_exact 105 = .ok (.if_icmp .ge 53, 3) := by decide +kernel
theorem dX12_exact_108 : decode cX12_exact 108 = .ok (.aload_n 0, 1) := by decide +kernel
theorem dX12_exact_109 : decode cX12_exact 109 = .ok (.iload 6, 2) := by decide +kernel
theorem dX12_exact_111 : decode cX12_exact 111 = .ok (.invokevirtual 282, 3) := by decide +kernel
theorem dX12_exact_114 : decode cX12_exact 114 = .ok (.aload_n 0, 1) := by decide +kernel
theorem dX12_exact_115 : decode cX12_exact 115 = .ok (.getfield 65, 3) := by decide +kernel
theorem dX12_exact_118 : decode cX12_exact 118 = .ok (.iload 6, 2) := by decide +kernel
theorem dX12_exact_120 : decode cX12_exact 120 = .ok (.laload, 1) := by decide +kernel
theorem dX12_exact_121 : decode cX12_exact 121 = .ok (.lconst 0, 1) := by decide +kernel
theorem dX12_exact_122 : decode cX12_exact 122 = .ok (.lcmp, 1) := by decide +kernel
theorem dX12_exact_123 : decode cX12_exact 123 = .ok (.ifCond .le 29, 3) := by decide +kernel
theorem dX12_exact_126 : decode cX12_exact 126 = .ok (.aload_n 0, 1) := by decide +kernel
theorem dX12_exact_127 : decode cX12_exact 127 = .ok (.iload_n 1, 1) := by decide +kernel
theorem dX12_exact_128 : decode cX12_exact 128 = .ok (.invokevirtual 253, 3) := by decide +kernel
theorem dX12_exact_131 : decode cX12_exact 131 = .ok (.ifCond .eq 21, 3) := by decide +kernel
theorem dX12_exact_134 : decode cX12_exact 134 = .ok (.lload_n 3, 1) := by decide +kernel
theorem dX12_exact_135 : decode cX12_exact 135 = .ok (.aload_n 0, 1) := by decide +kernel
theorem dX12_exact_136 : decode cX12_exact 136 = .ok (.getfield 65, 3) := by decide +kernel
theorem dX12_exact_139 : decode cX12_exact 139 = .ok (.iload 6, 2) := by decide +kernel
theorem dX12_exact_141 : decode cX12_exact 141 = .ok (.laload, 1) := by decide +kernel
theorem dX12_exact_142 : decode cX12_exact 142 = .ok (.ladd, 1) := by decide +kernel
theorem dX12_exact_143 : decode cX12_exact 143 = .ok (.lstore_n 3, 1) := by decide +kernel
theorem dX12_exact_144 : decode cX12_exact 144 = .ok (.aload_n 0, 1) := by decide +kernel
theorem dX12_exact_145 : decode cX12_exact 145 = .ok (.getfield 65, 3) := by decide +kernel
theorem dX12_exact_148 : decode cX12_exact 148 = .ok (.iload 6, 2) := by decide +kernel
theorem dX12_exact_150 : decode cX12_exact 150 = .ok (.lconst 0, 1) := by decide +kernel
theorem dX12_exact_151 : decode cX12_exact 151 = .ok (.lastore, 1) := by decide +kernel
theorem dX12_exact_152 : decode cX12_exact 152 = .ok (.iinc 6 1, 3) := by decide +kernel
theorem dX12_exact_155 : decode cX12_exact 155 = .ok (.goto (-60), 3) := by decide +kernel
theorem dX12_exact_158 : decode cX12_exact 158 = .ok (.iinc 5 1, 3) := by decide +kernel
theorem dX12_exact_161 : decode cX12_exact 161 = .ok (.goto (-106), 3) := by decide +kernel
theorem dX12_exact_164 : decode cX12_exact 164 = .ok (.lload_n 3, 1) := by decide +kernel
theorem dX12_exact_165 : decode cX12_exact 165 = .ok (.lreturn, 1) := by decide +kernel
theorem dX12_sum_0 : decode cX12_sum 0 = .ok (.aload_n 0, 1) := by decide +kernel
theorem dX12_sum_1 : decode cX12_sum 1 = .ok (.iconst 0, 1) := by decide +kernel
theorem dX12_sum_2 : decode cX12_sum 2 = .ok (.putfield 97, 3) := by decide +kernel
theorem dX12_sum_5 : decode cX12_sum 5 = .ok (.aload_n 0, 1) := by decide +kernel
theorem dX12_sum_6 : decode cX12_sum 6 = .ok (.iload_n 1, 1) := by decide +kernel
theorem dX12_sum_7 : decode cX12_sum 7 = .ok (.invokevirtual 277, 3) := by decide +kernel
theorem dX12_sum_10 : decode cX12_sum 10 = .ok (.ifCond .eq 15, 3) := by decide +kernel
theorem dX12_sum_13 : decode cX12_sum 13 = .ok (.iload_n 2, 1) := by decide +kernel
theorem dX12_sum_14 : decode cX12_sum 14 = .ok (.i2l, 1) := by decide +kernel
theorem dX12_sum_15 : decode cX12_sum 15 = .ok (.lconst 0, 1) := by decide +kernel
theorem dX12_sum_16 : decode cX12_sum 16 = .ok (.ldc2_w 268, 3) := by decide +kernel
theorem dX12_sum_19 : decode cX12_sum 19 = .ok (.invokestatic 102, 3) := by decide +kernel
theorem dX12_sum_22 : decode cX12_sum 22 = .ok (.ifCond .ne 7, 3) := by decide +kernel
theorem dX12_sum_25 : decode cX12_sum 25 = .ok (.ldc2_w 288, 3) := by decide +kernel
theorem dX12_sum_28 : decode cX12_sum 28 = .ok (.lreturn, 1) := by decide +kernel
theorem dX12_sum_29 : decode cX12_sum 29 = .ok (.aload_n 0, 1) := by decide +kernel
theorem dX12_sum_30 : decode cX12_sum 30 = .ok (.iload_n 2, 1) := by decide +kernel
theorem dX12_sum_31 : decode cX12_sum 31 = .ok (.ldc2_w 304, 3) := by decide +kernel
theorem dX12_sum_34 : decode cX12_sum 34 = .ok (.invokevirtual 292, 3) := by decide +kernel
theorem dX12_sum_37 : decode cX12_sum 37 = .ok (.lconst 0, 1) := by decide +kernel
theorem dX12_sum_38 : decode cX12_sum 38 = .ok (.lcmp, 1) := by decide +kernel
theorem dX12_sum_39 : decode cX12_sum 39 = .ok (.ifCond .ge 7, 3) := by decide +kernel
theorem dX12_sum_42 : decode cX12_sum 42 = .ok (.ldc2_w 296, 3) := by decide +kernel
theorem dX12_sum_45 : decode cX12_sum 45 = .ok (.lreturn, 1) := by decide +kernel
theorem dX12_sum_46 : decode cX12_sum 46 = .ok (.aload_n 0, 1) := by decide +kernel
theorem dX12_sum_47 : decode cX12_sum 47 = .ok (.invokevirtual 298, 3) := by decide +kernel
theorem dX12_sum_50 : decode cX12_sum 50 = .ok (.iconst 0, 1) := by decide +kernel
theorem dX12_sum_51 : decode cX12_sum 51 = .ok (.istore_n 3, 1) := by decide +kernel
theorem dX12_sum_52 : decode cX12_sum 52 = .ok (.iload_n 3, 1) := by decide +kernel
theorem dX12_sum_53 : decode cX12_sum 53 = .ok (.iload_n 2, 1) := by decide +kernel
theorem dX12_sum_54 : decode cX12_sum 54 = .ok (.if_icmp .ge 13, 3) := by decide +kernel
theorem dX12_sum_57 : decode cX12_sum 57 = .ok (.aload_n 0, 1) := by decide +kernel
theorem dX12_sum_58 : decode cX12_sum 58 = .ok (.invokevirtual 301, 3) := by decide +kernel
theorem dX12_sum_61 : decode cX12_sum 61 = .ok (.iinc 3 1, 3) := by decide +kernel
theorem dX12_sum_64 : decode cX12_sum 64 = .ok (.goto (-12), 3) := by decide +kernel
theorem dX12_sum_67 : decode cX12_sum 67 = .ok (.lconst 0, 1) := by decide +kernel
theorem dX12_sum_68 : decode cX12_sum 68 = .ok (.lstore_n 3, 1) := by decide +kernel
theorem dX12_sum_69 : decode cX12_sum 69 = .ok (.iconst 0, 1) := by decide +kernel
theorem dX12_sum_70 : decode cX12_sum 70 = .ok (.istore 5, 2) := by decide +kernel
theorem dX12_sum_72 : decode cX12_sum 72 = .ok (.iload 5, 2) := by decide +kernel
theorem dX12_sum_74 : decode cX12_sum 74 = .ok (.aload_n 0, 1) := by decide +kernel
theorem dX12_sum_75 : decode cX12_sum 75 = .ok (.aload_n 0, 1) := by decide +kernel
theorem dX12_sum_76 : decode cX12_sum 76 = .ok (.getfield 197, 3) := by decide +kernel
theorem dX12_sum_79 : decode cX12_sum 79 = .ok (.invokevirtual 177, 3) := by decide +kernel
theorem dX12_sum_82 : decode cX12_sum 82 = .ok (.if_icmp .ge 33, 3) := by decide +kernel
theorem dX12_sum_85 : decode cX12_sum 85 = .ok (.aload_n 0, 1) := by decide +kernel
theorem dX12_sum_86 : decode cX12_sum 86 = .ok (.iload 5, 2) := by decide +kernel
theorem dX12_sum_88 : decode cX12_sum 88 = .ok (.invokevirtual 282, 3) := by decide +kernel
theorem dX12_sum_91 : decode cX12_sum 91 = .ok (.lload_n 3, 1) := by decide +kernel
theorem dX12_sum_92 : decode cX12_sum 92 = .ok (.aload_n 0, 1) := by decide +kernel
theorem dX12_sum_93 : decode cX12_sum 93 = .ok (.getfield 65, 3) := by decide +kernel
theorem dX12_sum_96 : decode cX12_sum 96 = .ok (.iload 5, 2) := by decide +kernel
theorem dX12_sum_98 : decode cX12_sum 98 = .ok (.laload, 1) := by decide +kernel
theorem dX12_sum_99 : decode cX12_sum 99 = .ok (.aload_n 0, 1) := by decide +kernel
theorem dX12_sum_100 : decode cX12_sum 100 = .ok (.getfield 62, 3) := by decide +kernel
theorem dX12_sum_103 : decode cX12_sum 103 = .ok (.iload_n 1, 1) := by decide +kernel
theorem dX12_sum_104 : decode cX12_sum 104 = .ok (.iaload, 1) := by decide +kernel
theorem dX12_sum_105 : decode cX12_sum 105 = .ok (.i2l, 1) := by decide +kernel
theorem dX12_sum_106 : decode cX12_sum 106 = .ok (.lmul, 1) := by decide +kernel
theorem dX12_sum_107 : decode cX12_sum 107 = .ok (.ladd, 1) := by decide +kernel
theorem dX12_sum_108 : decode cX12_sum 108 = .ok (.lstore_n 3, 1) := by decide +kernel
theorem dX12_sum_109 : decode cX12_sum 109 = .ok (.iinc 5 1, 3) := by decide +kernel
theorem dX12_sum_112 : decode cX12_sum 112 = .ok (.goto (-40), 3) := by decide +kernel
theorem dX12_sum_115 : decode cX12_sum 115 = .ok (.lload_n 3, 1) := by decide +kernel
theorem dX12_sum_116 : decode cX12_sum 116 = .ok (.lreturn, 1) := by decide +kernel
theorem dX12_reached_0 : decode cX12_reached 0 = .ok (.aload_n 0, 1) := by decide +kernel
theorem dX12_reached_1 : decode cX12_reached 1 = .ok (.iconst 0, 1) := by decide +kernel
theorem dX12_reached_2 : decode cX12_reached 2 = .ok (.putfield 97, 3) := by decide +kernel
theorem dX12_reached_5 : decode cX12_reached 5 = .ok (.aload_n 0, 1) := by decide +kernel
theorem dX12_reached_6 : decode cX12_reached 6 = .ok (.getfield 220, 3) := by decide +kernel
theorem dX12_reached_9 : decode cX12_reached 9 = .ok (.ifCond .ne 6, 3) := by decide +kernel
theorem dX12_reached_12 : decode cX12_reached 12 = .ok (.bipush (-3), 2) := by decide +kernel
theorem dX12_reached_14 : decode cX12_reached 14 = .ok (.ireturn, 1) := by decide +kernel
theorem dX12_reached_15 : decode cX12_reached 15 = .ok (.iconst 0, 1) := by decide +kernel
theorem dX12_reached_16 : decode cX12_reached 16 = .ok (.istore_n 1, 1) := by decide +kernel
theorem dX12_reached_17 : decode cX12_reached 17 = .ok (.iload_n 1, 1) := by decide +kernel
theorem dX12_reached_18 : decode cX12_reached 18 = .ok (.sipush 1000, 3) := by decide +kernel
theorem dX12_reached_21 : decode cX12_reached 21 = .ok (.if_icmp .ge 16, 3) := by decide +kernel
theorem dX12_reached_24 : decode cX12_reached 24 = .ok (.aload_n 0, 1) := by decide +kernel
theorem dX12_reached_25 : decode cX12_reached 25 = .ok (.getfield 74, 3) := by decide +kernel
theorem dX12_reached_28 : decode cX12_reached 28 = .ok (.iload_n 1, 1) := by decide +kernel
theorem dX12_reached_29 : decode cX12_reached 29 = .ok (.iconst 0, 1) := by decide +kernel
theorem dX12_reached_30 : decode cX12_reached 30 = .ok (.bastore, 1) := by decide +kernel
theorem dX12_reached_31 : decode cX12_reached 31 = .ok (.iinc 1 1, 3) := by decide +kernel
theorem dX12_reached_34 : decode cX12_reached 34 = .ok (.goto (-17), 3) := by decide +kernel
theorem dX12_reached_37 : decode cX12_reached 37 = .ok (.aload_n 0, 1) := by decide +kernel
theorem dX12_reached_38 : decode cX12_reached 38 = .ok (.invokevirtual 241, 3) := by decide +kernel
theorem dX12_reached_41 : decode cX12_reached 41 = .ok (.aload_n 0, 1) := by decide +kernel
theorem dX12_reached_42 : decode cX12_reached 42 = .ok (.getfield 71, 3) := by decide +kernel
theorem dX12_reached_45 : decode cX12_reached 45 = .ok (.iconst 0, 1) := by decide +kernel
theorem dX12_reached_46 : decode cX12_reached 46 = .ok (.aload_n 0, 1) := by decide +kernel
theorem dX12_reached_47 : decode cX12_reached 47 = .ok (.invokevirtual 285, 3) := by decide +kernel
theorem dX12_reached_50 : decode cX12_reached 50 = .ok (.iastore, 1) := by decide +kernel
theorem dX12_reached_51 : decode cX12_reached 51 = .ok (.aload_n 0, 1) := by decide +kernel
theorem dX12_reached_52 : decode cX12_reached 52 = .ok (.getfield 74, 3) := by decide +kernel
theorem dX12_reached_55 : decode cX12_reached 55 = .ok (.aload_n 0, 1) := by decide +kernel
theorem dX12_reached_56 : decode cX12_reached 56 = .ok (.getfield 71, 3) := by decide +kernel
theorem dX12_reached_59 : decode cX12_reached 59 = .ok (.iconst 0, 1) := by decide +kernel
theorem dX12_reached_60 : decode cX12_reached 60 = .ok (.iaload, 1) := by decide +kernel
theorem dX12_reached_61 : decode cX12_reached 61 = .ok (.iconst 1, 1) := by decide +kernel
theorem dX12_reached_62 : decode cX12_reached 62 = .ok (.bastore, 1) := by decide +kernel
theorem dX12_reached_63 : decode cX12_reached 63 = .ok (.iconst 1, 1) := by decide +kernel
theorem dX12_reached_64 : decode cX12_reached 64 = .ok (.istore_n 1, 1) := by decide +kernel
theorem dX12_reached_65 : decode cX12_reached 65 = .ok (.iconst 0, 1) := by decide +kernel
theorem dX12_reached_66 : decode cX12_reached 66 = .ok (.istore_n 2, 1) := by decide +kernel
theorem dX12_reached_67 : decode cX12_reached 67 = .ok (.iload_n 2, 1) := by decide +kernel
theorem dX12_reached_68 : decode cX12_reached 68 = .ok (.iload_n 1, 1) := by decide +kernel
theorem dX12_reached_69 : decode cX12_reached 69 = .ok (.if_icmp .ge 84, 3) := by decide +kernel
theorem dX12_reached_72 : decode cX12_reached 72 = .ok (.iconst 0, 1) := by decide +kernel
theorem dX12_reached_73 : decode cX12_reached 73 = .ok (.istore_n 3, 1) := by decide +kernel
theorem dX12_reached_74 : decode cX12_reached 74 = .ok (.iload_n 3, 1) := by decide +kernel
theorem dX12_reached_75 : decode cX12_reached 75 = .ok (.aload_n 0, 1) := by decide +kernel
theorem dX12_reached_76 : decode cX12_reached 76 = .ok (.getfield 13, 3) := by decide +kernel
theorem dX12_reached_79 : decode cX12_reached 79 = .ok (.aload_n 0, 1) := by decide +kernel
theorem dX12_reached_80 : decode cX12_reached 80 = .ok (.getfield 197, 3) := by decide +kernel
theorem dX12_reached_83 : decode cX12_reached 83 = .ok (.iaload, 1) := by decide +kernel
theorem dX12_reached_84 : decode cX12_reached 84 = .ok (.if_icmp .ge 63, 3) := by decide +kernel
theorem dX12_reached_87 : decode cX12_reached 87 = .ok (.aload_n 0, 1) := by decide +kernel
theorem dX12_reached_88 : decode cX12_reached 88 = .ok (.aload_n 0, 1) := by decide +kernel
theorem dX12_reached_89 : decode cX12_reached 89 = .ok (.getfield 71, 3) := by decide +kernel
theorem dX12_reached_92 : decode cX12_reached 92 = .ok (.iload_n 2, 1) := by decide +kernel
theorem dX12_reached_93 : decode cX12_reached 93 = .ok (.iaload, 1) := by decide +kernel
theorem dX12_reached_94 : decode cX12_reached 94 = .ok (.invokevirtual 282, 3) := by decide +kernel
theorem dX12_reached_97 : decode cX12_reached 97 = .ok (.aload_n 0, 1) := by decide +kernel
theorem dX12_reached_98 : decode cX12_reached 98 = .ok (.aload_n 0, 1) := by decide +kernel
theorem dX12_reached_99 : decode cX12_reached 99 = .ok (.iload_n 3, 1) := by decide +kernel
theorem dX12_reached_100 : decode cX12_reached 100 = .ok (.invokevirtual 259, 3) := by decide +kernel
theorem dX12_reached_103 : decode cX12_reached 103 = .ok (.invokevirtual 262, 3) := by decide +kernel
theorem dX12_reached_106 : decode cX12_reached 106 = .ok (.aload_n 0, 1) := by decide +kernel
theorem dX12_reached_107 : decode cX12_reached 107 = .ok (.invokevirtual 285, 3) := by decide +kernel
theorem dX12_reached_110 : decode cX12_reached 110 = .ok (.istore 4, 2) := by decide +kernel
theorem dX12_reached_112 : decode cX12_reached 112 = .ok (.aload_n 0, 1) := by decide +kernel
theorem dX12_reached_113 : decode cX12_reached 113 = .ok (.getfield 74, 3) := by decide +kernel
theorem dX12_reached_116 : decode cX12_reached 116 = .ok (.iload 4, 2) := by decide +kernel
theorem dX12_reached_118 : decode cX12_reached 118 = .ok (.baload, 1) := by decide +kernel
theorem dX12_reached_119 : decode cX12_reached 119 = .ok (.ifCond .ne 22, 3) := by decide +kernel
theorem dX12_reached_122 : decode cX12_reached 122 = .ok (.aload_n 0, 1) := by decide +kernel
theorem dX12_reached_123 : decode cX12_reached 123 = .ok (.getfield 74, 3) := by decide +kernel
theorem dX12_reached_126 : decode cX12_reached 126 = .ok (.iload 4, 2) := by decide +kernel
theorem dX12_reached_128 : decode cX12_reached 128 = .ok (.iconst 1, 1) := by decide +kernel
theorem dX12_reached_129 : decode cX12_reached 129 = .ok (.bastore, 1) := by decide +kernel
theorem dX12_reached_130 : decode cX12_reached 130 = .ok (.aload_n 0, 1) := by decide +kernel
theorem dX12_reached_131 : decode cX12_reached 131 = .ok (.getfield 71, 3) := by decide +kernel
theorem dX12_reached_134 : decode cX12_reached 134 = .ok (.iload_n 1, 1) := by decide +kernel
theorem dX12_reached_135 : decode cX12_reached 135 = .ok (.iload 4, 2) := by decide +kernel
theorem dX12_reached_137 : decode cX12_reached 137 = .ok (.iastore, 1) := by decide +kernel
theorem dX12_reached_138 : decode cX12_reached 138 = .ok (.iinc 1 1, 3) := by decide +kernel
theorem dX12_reached_141 : decode cX12_reached 141 = .ok (.iinc 3 1, 3) := by decide +kernel
theorem dX12_reached_144 : decode cX12_reached 144 = .ok (.goto (-70), 3) := by decide +kernel
theorem dX12_reached_147 : decode cX12_reached 147 = .ok (.iinc 2 1, 3) := by decide +kernel
theorem dX12_reached_150 : decode cX12_reached 150 = .ok (.goto (-83), 3) := by decide +kernel
theorem dX12_reached_153 : decode cX12_reached 153 = .ok (.iload_n 1, 1) := by decide +kernel
theorem dX12_reached_154 : decode cX12_reached 154 = .ok (.ireturn, 1) := by decide +kernel
theorem dX12_beginCounts_0 : decode cX12_beginCounts 0 = .ok (.aload_n 0, 1) := by decide +kernel
theorem dX12_beginCounts_1 : decode cX12_beginCounts 1 = .ok (.iconst (-1), 1) := by decide +kernel
theorem dX12_beginCounts_2 : decode cX12_beginCounts 2 = .ok (.putfield 78, 3) := by decide +kernel
theorem dX12_beginCounts_5 : decode cX12_beginCounts 5 = .ok (.aload_n 0, 1) := by decide +kernel
theorem dX12_beginCounts_6 : decode cX12_beginCounts 6 = .ok (.iconst (-1), 1) := by decide +kernel
theorem dX12_beginCounts_7 : decode cX12_beginCounts 7 = .ok (.putfield 82, 3) := by decide +kernel
theorem dX12_beginCounts_10 : decode cX12_beginCounts 10 = .ok (.aload_n 0, 1) := by decide +kernel
theorem dX12_beginCounts_11 : decode cX12_beginCounts 11 = .ok (.iconst 0, 1) := by decide +kernel
theorem dX12_beginCounts_12 : decode cX12_beginCounts 12 = .ok (.putfield 306, 3) := by decide +kernel
theorem dX12_beginCounts_15 : decode cX12_beginCounts 15 = .ok (.aload_n 0, 1) := by decide +kernel
theorem dX12_beginCounts_16 : decode cX12_beginCounts 16 = .ok (.iconst 0, 1) := by decide +kernel
theorem dX12_beginCounts_17 : decode cX12_beginCounts 17 = .ok (.putfield 309, 3) := by decide +kernel
theorem dX12_beginCounts_20 : decode cX12_beginCounts 20 = .ok (.aload_n 0, 1) := by decide +kernel
theorem dX12_beginCounts_21 : decode cX12_beginCounts 21 = .ok (.iconst 0, 1) := by decide +kernel
theorem dX12_beginCounts_22 : decode cX12_beginCounts 22 = .ok (.putfield 312, 3) := by decide +kernel
theorem dX12_beginCounts_25 : decode cX12_beginCounts 25 = .ok (.iconst 0, 1) := by decide +kernel
theorem dX12_beginCounts_26 : decode cX12_beginCounts 26 = .ok (.istore_n 1, 1) := by decide +kernel
theorem dX12_beginCounts_27 : decode cX12_beginCounts 27 = .ok (.iload_n 1, 1) := by decide +kernel
theorem dX12_beginCounts_28 : decode cX12_beginCounts 28 = .ok (.sipush 10000, 3) := by decide +kernel
theorem dX12_beginCounts_31 : decode cX12_beginCounts 31 = .ok (.if_icmp .ge 16, 3) := by decide +kernel
theorem dX12_beginCounts_34 : decode cX12_beginCounts 34 = .ok (.aload_n 0, 1) := by decide +kernel
theorem dX12_beginCounts_35 : decode cX12_beginCounts 35 = .ok (.getfield 85, 3) := by decide +kernel
theorem dX12_beginCounts_38 : decode cX12_beginCounts 38 = .ok (.iload_n 1, 1) := by decide +kernel
theorem dX12_beginCounts_39 : decode cX12_beginCounts 39 = .ok (.iconst 0, 1) := by decide +kernel
theorem dX12_beginCounts_40 : decode cX12_beginCounts 40 = .ok (.bastore, 1) := by decide +kernel
theorem dX12_beginCounts_41 : decode cX12_beginCounts 41 = .ok (.iinc 1 1, 3) := by decide +kernel
theorem dX12_beginCounts_44 : decode cX12_beginCounts 44 = .ok (.goto (-17), 3) := by decide +kernel
theorem dX12_beginCounts_47 : decode cX12_beginCounts 47 = .ok (.return_, 1) := by decide +kernel
theorem dX12_block_0 : decode cX12_block 0 = .ok (.aload_n 0, 1) := by decide +kernel
theorem dX12_block_1 : decode cX12_block 1 = .ok (.iconst 0, 1) := by decide +kernel
theorem dX12_block_2 : decode cX12_block 2 = .ok (.putfield 97, 3) := by decide +kernel
theorem dX12_block_5 : decode cX12_block 5 = .ok (.aload_n 0, 1) := by decide +kernel
theorem dX12_block_6 : decode cX12_block 6 = .ok (.iload_n 1, 1) := by decide +kernel
theorem dX12_block_7 : decode cX12_block 7 = .ok (.invokevirtual 265, 3) := by decide +kernel
theorem dX12_block_10 : decode cX12_block 10 = .ok (.ifCond .eq 27, 3) := by decide +kernel
theorem dX12_block_13 : decode cX12_block 13 = .ok (.iload_n 2, 1) := by decide +kernel
theorem dX12_block_14 : decode cX12_block 14 = .ok (.i2l, 1) := by decide +kernel
theorem dX12_block_15 : decode cX12_block 15 = .ok (.lconst 0, 1) := by decide +kernel
theorem dX12_block_16 : decode cX12_block 16 = .ok (.ldc2_w 268, 3) := by decide +kernel
theorem dX12_block_19 : decode cX12_block 19 = .ok (.invokestatic 102, 3) := by decide +kernel
theorem dX12_block_22 : decode cX12_block 22 = .ok (.ifCond .eq 15, 3) := by decide +kernel
theorem dX12_block_25 : decode cX12_block 25 = .ok (.iload_n 3, 1) := by decide +kernel
theorem dX12_block_26 : decode cX12_block 26 = .ok (.i2l, 1) := by decide +kernel
theorem dX12_block_27 : decode cX12_block 27 = .ok (.lconst 0, 1) := by decide +kernel
theorem dX12_block_28 : decode cX12_block 28 = .ok (.ldc2_w 315, 3) := by decide +kernel
theorem dX12_block_31 : decode cX12_block 31 = .ok (.invokestatic 102, 3) := by decide +kernel
theorem dX12_block_34 : decode cX12_block 34 = .ok (.ifCond .ne 6, 3) := by decide +kernel
theorem dX12_block_37 : decode cX12_block 37 = .ok (.bipush (-2), 2) := by decide +kernel
theorem dX12_block_39 : decode cX12_block 39 = .ok (.ireturn, 1) := by decide +kernel
theorem dX12_block_40 : decode cX12_block 40 = .ok (.iload_n 1, 1) := by decide +kernel
theorem dX12_block_41 : decode cX12_block 41 = .ok (.aload_n 0, 1) := by decide +kernel
theorem dX12_block_42 : decode cX12_block 42 = .ok (.getfield 78, 3) := by decide +kernel
theorem dX12_block_45 : decode cX12_block 45 = .ok (.if_icmp .ne 11, 3) := by decide +kernel
theorem dX12_block_48 : decode cX12_block 48 = .ok (.iload_n 2, 1) := by decide +kernel
theorem dX12_block_49 : decode cX12_block 49 = .ok (.aload_n 0, 1) := by decide +kernel
theorem dX12_block_50 : decode cX12_block 50 = .ok (.getfield 82, 3) := by decide +kernel
theorem dX12_block_53 : decode cX12_block 53 = .ok (.if_icmp .eq 17, 3) := by decide +kernel
theorem dX12_block_56 : decode cX12_block 56 = .ok (.aload_n 0, 1) := by decide +kernel
theorem dX12_block_57 : decode cX12_block 57 = .ok (.invokevirtual 224, 3) := by decide +kernel
theorem dX12_block_60 : decode cX12_block 60 = .ok (.aload_n 0, 1) := by decide +kernel
theorem dX12_block_61 : decode cX12_block 61 = .ok (.iload_n 1, 1) := by decide +kernel
theorem dX12_block_62 : decode cX12_block 62 = .ok (.putfield 78, 3) := by decide +kernel
theorem dX12_block_65 : decode cX12_block 65 = .ok (.aload_n 0, 1) := by decide +kernel
theorem dX12_block_66 : decode cX12_block 66 = .ok (.iload_n 2, 1) := by decide +kernel
theorem dX12_block_67 : decode cX12_block 67 = .ok (.putfield 82, 3) := by decide +kernel
theorem dX12_block_70 : decode cX12_block 70 = .ok (.aload_n 0, 1) := by decide +kernel
theorem dX12_block_71 : decode cX12_block 71 = .ok (.getfield 85, 3) := by decide +kernel
theorem dX12_block_74 : decode cX12_block 74 = .ok (.iload_n 3, 1) := by decide +kernel
theorem dX12_block_75 : decode cX12_block 75 = .ok (.baload, 1) := by decide +kernel
theorem dX12_block_76 : decode cX12_block 76 = .ok (.ifCond .ne 95, 3) := by decide +kernel
theorem dX12_block_79 : decode cX12_block 79 = .ok (.aload_n 0, 1) := by decide +kernel
theorem dX12_block_80 : decode cX12_block 80 = .ok (.getfield 85, 3) := by decide +kernel
theorem dX12_block_83 : decode cX12_block 83 = .ok (.iload_n 3, 1) := by decide +kernel
theorem dX12_block_84 : decode cX12_block 84 = .ok (.iconst 1, 1) := by decide +kernel
theorem dX12_block_85 : decode cX12_block 85 = .ok (.bastore, 1) := by decide +kernel
theorem dX12_block_86 : decode cX12_block 86 = .ok (.aload_n 0, 1) := by decide +kernel
theorem dX12_block_87 : decode cX12_block 87 = .ok (.dup, 1) := by decide +kernel
theorem dX12_block_88 : decode cX12_block 88 = .ok (.getfield 306, 3) := by decide +kernel
theorem dX12_block_91 : decode cX12_block 91 = .ok (.iconst 1, 1) := by decide +kernel
theorem dX12_block_92 : decode cX12_block 92 = .ok (.iadd, 1) := by decide +kernel
theorem dX12_block_93 : decode cX12_block 93 = .ok (.putfield 306, 3) := by decide +kernel
theorem dX12_block_96 : decode cX12_block 96 = .ok (.bipush 10, 2) := by decide +kernel
theorem dX12_block_98 : decode cX12_block 98 = .ok (.iload_n 3, 1) := by decide +kernel
theorem dX12_block_99 : decode cX12_block 99 = .ok (.imul, 1) := by decide +kernel
theorem dX12_block_100 : decode cX12_block 100 = .ok (.istore 4, 2) := by decide +kernel
theorem dX12_block_102 : decode cX12_block 102 = .ok (.iload 4, 2) := by decide +kernel
theorem dX12_block_104 : decode cX12_block 104 = .ok (.bipush 10, 2) := by decide +kernel
theorem dX12_block_106 : decode cX12_block 106 = .ok (.iload_n 3, 1) := by decide +kernel
theorem dX12_block_107 : decode cX12_block 107 = .ok (.imul, 1) := by decide +kernel
theorem dX12_block_108 : decode cX12_block 108 = .ok (.bipush 10, 2) := by decide +kernel
theorem dX12_block_110 : decode cX12_block 110 = .ok (.iadd, 1) := by decide +kernel
theorem dX12_block_111 : decode cX12_block 111 = .ok (.if_icmp .ge 60, 3) := by decide +kernel
theorem dX12_block_114 : decode cX12_block 114 = .ok (.aload_n 0, 1) := by decide +kernel
theorem dX12_block_115 : decode cX12_block 115 = .ok (.iload_n 1, 1) := by decide +kernel
theorem dX12_block_116 : decode cX12_block 116 = .ok (.iload_n 2, 1) := by decide +kernel
theorem dX12_block_117 : decode cX12_block 117 = .ok (.iload 4, 2) := by decide +kernel
theorem dX12_block_119 : decode cX12_block 119 = .ok (.invokevirtual 273, 3) := by decide +kernel
theorem dX12_block_122 : decode cX12_block 122 = .ok (.istore 5, 2) := by decide +kernel
theorem dX12_block_124 : decode cX12_block 124 = .ok (.aload_n 0, 1) := by decide +kernel
theorem dX12_block_125 : decode cX12_block 125 = .ok (.dup, 1) := by decide +kernel
theorem dX12_block_126 : decode cX12_block 126 = .ok (.getfield 309, 3) := by decide +kernel
theorem dX12_block_129 : decode cX12_block 129 = .ok (.iload 5, 2) := by decide +kernel
theorem dX12_block_131 : decode cX12_block 131 = .ok (.iconst (-1), 1) := by decide +kernel
theorem dX12_block_132 : decode cX12_block 132 = .ok (.if_icmp .ne 7, 3) := by decide +kernel
theorem dX12_block_135 : decode cX12_block 135 = .ok (.iconst 0, 1) := by decide +kernel
theorem dX12_block_136 : decode cX12_block 136 = .ok (.goto 4, 3) := by decide +kernel
theorem dX12_block_139 : decode cX12_block 139 = .ok (.iconst 1, 1) := by decide +kernel
theorem dX12_block_140 : decode cX12_block 140 = .ok (.iadd, 1) := by decide +kernel
theorem dX12_block_141 : decode cX12_block 141 = .ok (.putfield 309, 3) := by decide +kernel
theorem dX12_block_144 : decode cX12_block 144 = .ok (.aload_n 0, 1) := by decide +kernel
theorem dX12_block_145 : decode cX12_block 145 = .ok (.dup, 1) := by decide +kernel
theorem dX12_block_146 : decode cX12_block 146 = .ok (.getfield 312, 3) := by decide +kernel
theorem dX12_block_149 : decode cX12_block 149 = .ok (.iload 5, 2) := by decide +kernel
theorem dX12_block_151 : decode cX12_block 151 = .ok (.iconst (-1), 1) := by decide +kernel
theorem dX12_block_152 : decode cX12_block 152 = .ok (.if_icmp .ne 7, 3) := by decide +kernel
theorem dX12_block_155 : decode cX12_block 155 = .ok (.iconst 0, 1) := by decide +kernel
theorem dX12_block_156 : decode cX12_block 156 = .ok (.goto 5, 3) := by decide +kernel
theorem dX12_block_159 : decode cX12_block 159 = .ok (.iload 5, 2) := by decide +kernel
theorem dX12_block_161 : decode cX12_block 161 = .ok (.iadd, 1) := by decide +kernel
theorem dX12_block_162 : decode cX12_block 162 = .ok (.putfield 312, 3) := by decide +kernel
theorem dX12_block_165 : decode cX12_block 165 = .ok (.iinc 4 1, 3) := by decide +kernel
theorem dX12_block_168 : decode cX12_block 168 = .ok (.goto (-66), 3) := by decide +kernel
theorem dX12_block_171 : decode cX12_block 171 = .ok (.aload_n 0, 1) := by decide +kernel
theorem dX12_block_172 : decode cX12_block 172 = .ok (.getfield 306, 3) := by decide +kernel
theorem dX12_block_175 : decode cX12_block 175 = .ok (.ireturn, 1) := by decide +kernel
theorem dX12_told_0 : decode cX12_told 0 = .ok (.aload_n 0, 1) := by decide +kernel
theorem dX12_told_1 : decode cX12_told 1 = .ok (.iconst 0, 1) := by decide +kernel
theorem dX12_told_2 : decode cX12_told 2 = .ok (.putfield 97, 3) := by decide +kernel
theorem dX12_told_5 : decode cX12_told 5 = .ok (.iload_n 1, 1) := by decide +kernel
theorem dX12_told_6 : decode cX12_told 6 = .ok (.ifCond .ne 13, 3) := by decide +kernel
theorem dX12_told_9 : decode cX12_told 9 = .ok (.bipush 10, 2) := by decide +kernel
theorem dX12_told_11 : decode cX12_told 11 = .ok (.aload_n 0, 1) := by decide +kernel
theorem dX12_told_12 : decode cX12_told 12 = .ok (.getfield 306, 3) := by decide +kernel
theorem dX12_told_15 : decode cX12_told 15 = .ok (.imul, 1) := by decide +kernel
theorem dX12_told_16 : decode cX12_told 16 = .ok (.goto 53, 3) := by decide +kernel
theorem dX12_told_19 : decode cX12_told 19 = .ok (.iload_n 1, 1) := by decide +kernel
theorem dX12_told_20 : decode cX12_told 20 = .ok (.iconst 1, 1) := by decide +kernel
theorem dX12_told_21 : decode cX12_told 21 = .ok (.if_icmp .ne 10, 3) := by decide +kernel
theorem dX12_told_24 : decode cX12_told 24 = .ok (.aload_n 0, 1) := by decide +kernel
theorem dX12_told_25 : decode cX12_told 25 = .ok (.getfield 309, 3) := by decide +kernel
theorem dX12_told_28 : decode cX12_told 28 = .ok (.goto 41, 3) := by decide +kernel
theorem dX12_told_31 : decode cX12_told 31 = .ok (.iload_n 1, 1) := by decide +kernel
theorem dX12_told_32 : decode cX12_told 32 = .ok (.iconst 2, 1) := by decide +kernel
theorem dX12_told_33 : decode cX12_told 33 = .ok (.if_icmp .ne 10, 3) := by decide +kernel
theorem dX12_told_36 : decode cX12_told 36 = .ok (.aload_n 0, 1) := by decide +kernel
theorem dX12_told_37 : decode cX12_told 37 = .ok (.getfield 312, 3) := by decide +kernel
theorem dX12_told_40 : decode cX12_told 40 = .ok (.goto 29, 3) := by decide +kernel
theorem dX12_told_43 : decode cX12_told 43 = .ok (.iload_n 1, 1) := by decide +kernel
theorem dX12_told_44 : decode cX12_told 44 = .ok (.iconst 3, 1) := by decide +kernel
theorem dX12_told_45 : decode cX12_told 45 = .ok (.if_icmp .ne 10, 3) := by decide +kernel
theorem dX12_told_48 : decode cX12_told 48 = .ok (.aload_n 0, 1) := by decide +kernel
theorem dX12_told_49 : decode cX12_told 49 = .ok (.getfield 78, 3) := by decide +kernel
theorem dX12_told_52 : decode cX12_told 52 = .ok (.goto 17, 3) := by decide +kernel
theorem dX12_told_55 : decode cX12_told 55 = .ok (.iload_n 1, 1) := by decide +kernel
theorem dX12_told_56 : decode cX12_told 56 = .ok (.iconst 4, 1) := by decide +kernel
theorem dX12_told_57 : decode cX12_told 57 = .ok (.if_icmp .ne 10, 3) := by decide +kernel
theorem dX12_told_60 : decode cX12_told 60 = .ok (.aload_n 0, 1) := by decide +kernel
theorem dX12_told_61 : decode cX12_told 61 = .ok (.getfield 82, 3) := by decide +kernel
theorem dX12_told_64 : decode cX12_told 64 = .ok (.goto 5, 3) := by decide +kernel
theorem dX12_told_67 : decode cX12_told 67 = .ok (.bipush (-2), 2) := by decide +kernel
theorem dX12_told_69 : decode cX12_told 69 = .ok (.ireturn, 1) := by decide +kernel
theorem dX12_both_0 : decode cX12_both 0 = .ok (.aload_n 0, 1) := by decide +kernel
theorem dX12_both_1 : decode cX12_both 1 = .ok (.iconst 0, 1) := by decide +kernel
theorem dX12_both_2 : decode cX12_both 2 = .ok (.putfield 97, 3) := by decide +kernel
theorem dX12_both_5 : decode cX12_both 5 = .ok (.aload_n 0, 1) := by decide +kernel
theorem dX12_both_6 : decode cX12_both 6 = .ok (.iload_n 1, 1) := by decide +kernel
theorem dX12_both_7 : decode cX12_both 7 = .ok (.invokevirtual 265, 3) := by decide +kernel
theorem dX12_both_10 : decode cX12_both 10 = .ok (.ifCond .eq 49, 3) := by decide +kernel
theorem dX12_both_13 : decode cX12_both 13 = .ok (.aload_n 0, 1) := by decide +kernel
theorem dX12_both_14 : decode cX12_both 14 = .ok (.iload_n 2, 1) := by decide +kernel
theorem dX12_both_15 : decode cX12_both 15 = .ok (.invokevirtual 265, 3) := by decide +kernel
theorem dX12_both_18 : decode cX12_both 18 = .ok (.ifCond .eq 41, 3) := by decide +kernel
theorem dX12_both_21 : decode cX12_both 21 = .ok (.iload_n 3, 1) := by decide +kernel
theorem dX12_both_22 : decode cX12_both 22 = .ok (.i2l, 1) := by decide +kernel
theorem dX12_both_23 : decode cX12_both 23 = .ok (.lconst 0, 1) := by decide +kernel
theorem dX12_both_24 : decode cX12_both 24 = .ok (.ldc2_w 268, 3) := by decide +kernel
theorem dX12_both_27 : decode cX12_both 27 = .ok (.invokestatic 102, 3) := by decide +kernel
theorem dX12_both_30 : decode cX12_both 30 = .ok (.ifCond .eq 29, 3) := by decide +kernel
theorem dX12_both_33 : decode cX12_both 33 = .ok (.iload 4, 2) := by decide +kernel
theorem dX12_both_35 : decode cX12_both 35 = .ok (.i2l, 1) := by decide +kernel
theorem dX12_both_36 : decode cX12_both 36 = .ok (.lconst 0, 1) := by decide +kernel
theorem dX12_both_37 : decode cX12_both 37 = .ok (.ldc2_w 317, 3) := by decide +kernel
theorem dX12_both_40 : decode cX12_both 40 = .ok (.invokestatic 102, 3) := by decide +kernel
theorem dX12_both_43 : decode cX12_both 43 = .ok (.ifCond .eq 16, 3) := by decide +kernel
theorem dX12_both_46 : decode cX12_both 46 = .ok (.iload 5, 2) := by decide +kernel
theorem dX12_both_48 : decode cX12_both 48 = .ok (.i2l, 1) := by decide +kernel
theorem dX12_both_49 : decode cX12_both 49 = .ok (.lconst 0, 1) := by decide +kernel
theorem dX12_both_50 : decode cX12_both 50 = .ok (.ldc2_w 231, 3) := by decide +kernel
theorem dX12_both_53 : decode cX12_both 53 = .ok (.invokestatic 102, 3) := by decide +kernel
theorem dX12_both_56 : decode cX12_both 56 = .ok (.ifCond .ne 6, 3) := by decide +kernel
theorem dX12_both_59 : decode cX12_both 59 = .ok (.bipush (-2), 2) := by decide +kernel
theorem dX12_both_61 : decode cX12_both 61 = .ok (.ireturn, 1) := by decide +kernel
theorem dX12_both_62 : decode cX12_both 62 = .ok (.iconst 0, 1) := by decide +kernel
theorem dX12_both_63 : decode cX12_both 63 = .ok (.istore 6, 2) := by decide +kernel
theorem dX12_both_65 : decode cX12_both 65 = .ok (.iconst 0, 1) := by decide +kernel
theorem dX12_both_66 : decode cX12_both 66 = .ok (.istore 7, 2) := by decide +kernel
theorem dX12_both_68 : decode cX12_both 68 = .ok (.iload 7, 2) := by decide +kernel
theorem dX12_both_70 : decode cX12_both 70 = .ok (.iload 4, 2) := by decide +kernel
theorem dX12_both_72 : decode cX12_both 72 = .ok (.if_icmp .ge 90, 3) := by decide +kernel
theorem dX12_both_75 : decode cX12_both 75 = .ok (.aload_n 0, 1) := by decide +kernel
theorem dX12_both_76 : decode cX12_both 76 = .ok (.iload_n 1, 1) := by decide +kernel
theorem dX12_both_77 : decode cX12_both 77 = .ok (.iload_n 3, 1) := by decide +kernel
theorem dX12_both_78 : decode cX12_both 78 = .ok (.iload 7, 2) := by decide +kernel
theorem dX12_both_80 : decode cX12_both 80 = .ok (.invokevirtual 273, 3) := by decide +kernel
theorem dX12_both_83 : decode cX12_both 83 = .ok (.iconst (-1), 1) := by decide +kernel
theorem dX12_both_84 : decode cX12_both 84 = .ok (.if_icmp .eq 7, 3) := by decide +kernel
theorem dX12_both_87 : decode cX12_both 87 = .ok (.iconst 1, 1) := by decide +kernel
theorem dX12_both_88 : decode cX12_both 88 = .ok (.goto 4, 3) := by decide +kernel
theorem dX12_both_91 : decode cX12_both 91 = .ok (.iconst 0, 1) := by decide +kernel
theorem dX12_both_92 : decode cX12_both 92 = .ok (.istore 8, 2) := by decide +kernel
theorem dX12_both_94 : decode cX12_both 94 = .ok (.aload_n 0, 1) := by decide +kernel
theorem dX12_both_95 : decode cX12_both 95 = .ok (.iload_n 2, 1) := by decide +kernel
theorem dX12_both_96 : decode cX12_both 96 = .ok (.iload_n 3, 1) := by decide +kernel
theorem dX12_both_97 : decode cX12_both 97 = .ok (.iload 7, 2) := by decide +kernel
theorem dX12_both_99 : decode cX12_both 99 = .ok (.invokevirtual 273, 3) := by decide +kernel
theorem dX12_both_102 : decode cX12_both 102 = .ok (.iconst (-1), 1) := by decide +kernel
theorem dX12_both_103 : decode cX12_both 103 = .ok (.if_icmp .eq 7, 3) := by decide +kernel
theorem dX12_both_106 : decode cX12_both 106 = .ok (.iconst 1, 1) := by decide +kernel
theorem dX12_both_107 : decode cX12_both 107 = .ok (.goto 4, 3) := by decide +kernel
theorem dX12_both_110 : decode cX12_both 110 = .ok (.iconst 0, 1) := by decide +kernel
theorem dX12_both_111 : decode cX12_both 111 = .ok (.istore 9, 2) := by decide +kernel
theorem dX12_both_113 : decode cX12_both 113 = .ok (.iload 6, 2) := by decide +kernel
theorem dX12_both_115 : decode cX12_both 115 = .ok (.iload 8, 2) := by decide +kernel
theorem dX12_both_117 : decode cX12_both 117 = .ok (.ifCond .eq 16, 3) := by decide +kernel
theorem dX12_both_120 : decode cX12_both 120 = .ok (.iload 9, 2) := by decide +kernel
theorem dX12_both_122 : decode cX12_both 122 = .ok (.ifCond .eq 7, 3) := by decide +kernel
theorem dX12_both_125 : decode cX12_both 125 = .ok (.iconst 0, 1) := by decide +kernel
theorem dX12_both_126 : decode cX12_both 126 = .ok (.goto 17, 3) := by decide +kernel
theorem dX12_both_129 : decode cX12_both 129 = .ok (.iconst 1, 1) := by decide +kernel
theorem dX12_both_130 : decode cX12_both 130 = .ok (.goto 13, 3) := by decide +kernel
theorem dX12_both_133 : decode cX12_both 133 = .ok (.iload 9, 2) := by decide +kernel
theorem dX12_both_135 : decode cX12_both 135 = .ok (.ifCond .eq 7, 3) := by decide +kernel
theorem dX12_both_138 : decode cX12_both 138 = .ok (.iconst 2, 1) := by decide +kernel
theorem dX12_both_139 : decode cX12_both 139 = .ok (.goto 4, 3) := by decide +kernel
theorem dX12_both_142 : decode cX12_both 142 = .ok (.iconst 3, 1) := by decide +kernel
theorem dX12_both_143 : decode cX12_both 143 = .ok (.iload 5, 2) := by decide +kernel
theorem dX12_both_145 : decode cX12_both 145 = .ok (.if_icmp .ne 7, 3) := by decide +kernel
theorem dX12_both_148 : decode cX12_both 148 = .ok (.iconst 1, 1) := by decide +kernel
theorem dX12_both_149 : decode cX12_both 149 = .ok (.goto 4, 3) := by decide +kernel
theorem dX12_both_152 : decode cX12_both 152 = .ok (.iconst 0, 1) := by decide +kernel
theorem dX12_both_153 : decode cX12_both 153 = .ok (.iadd, 1) := by decide +kernel
theorem dX12_both_154 : decode cX12_both 154 = .ok (.istore 6, 2) := by decide +kernel
theorem dX12_both_156 : decode cX12_both 156 = .ok (.iinc 7 1, 3) := by decide +kernel
theorem dX12_both_159 : decode cX12_both 159 = .ok (.goto (-91), 3) := by decide +kernel
theorem dX12_both_162 : decode cX12_both 162 = .ok (.iload 6, 2) := by decide +kernel
theorem dX12_both_164 : decode cX12_both 164 = .ok (.ireturn, 1) := by decide +kernel
theorem dX12_power_0 : decode cX12_power 0 = .ok (.lconst 1, 1) := by decide +kernel
theorem dX12_power_1 : decode cX12_power 1 = .ok (.lstore_n 3, 1) := by decide +kernel
theorem dX12_power_2 : decode cX12_power 2 = .ok (.iconst 0, 1) := by decide +kernel
theorem dX12_power_3 : decode cX12_power 3 = .ok (.istore 5, 2) := by decide +kernel
theorem dX12_power_5 : decode cX12_power 5 = .ok (.iload 5, 2) := by decide +kernel
theorem dX12_power_7 : decode cX12_power 7 = .ok (.iload_n 2, 1) := by decide +kernel
theorem dX12_power_8 : decode cX12_power 8 = .ok (.if_icmp .ge 13, 3) := by decide +kernel
theorem dX12_power_11 : decode cX12_power 11 = .ok (.lload_n 3, 1) := by decide +kernel
theorem dX12_power_12 : decode cX12_power 12 = .ok (.lload_n 0, 1) := by decide +kernel
theorem dX12_power_13 : decode cX12_power 13 = .ok (.lmul, 1) := by decide +kernel
theorem dX12_power_14 : decode cX12_power 14 = .ok (.lstore_n 3, 1) := by decide +kernel
theorem dX12_power_15 : decode cX12_power 15 = .ok (.iinc 5 1, 3) := by decide +kernel
theorem dX12_power_18 : decode cX12_power 18 = .ok (.goto (-13), 3) := by decide +kernel
theorem dX12_power_21 : decode cX12_power 21 = .ok (.lload_n 3, 1) := by decide +kernel
theorem dX12_power_22 : decode cX12_power 22 = .ok (.lreturn, 1) := by decide +kernel
theorem dX12_cases_0 : decode cX12_cases 0 = .ok (.lconst 1, 1) := by decide +kernel
theorem dX12_cases_1 : decode cX12_cases 1 = .ok (.lstore_n 3, 1) := by decide +kernel
theorem dX12_cases_2 : decode cX12_cases 2 = .ok (.iconst 1, 1) := by decide +kernel
theorem dX12_cases_3 : decode cX12_cases 3 = .ok (.istore 5, 2) := by decide +kernel
theorem dX12_cases_5 : decode cX12_cases 5 = .ok (.iload 5, 2) := by decide +kernel
theorem dX12_cases_7 : decode cX12_cases 7 = .ok (.iload_n 1, 1) := by decide +kernel
theorem dX12_cases_8 : decode cX12_cases 8 = .ok (.if_icmp .gt 23, 3) := by decide +kernel
theorem dX12_cases_11 : decode cX12_cases 11 = .ok (.lload_n 3, 1) := by decide +kernel
theorem dX12_cases_12 : decode cX12_cases 12 = .ok (.iload_n 0, 1) := by decide +kernel
theorem dX12_cases_13 : decode cX12_cases 13 = .ok (.iload 5, 2) := by decide +kernel
theorem dX12_cases_15 : decode cX12_cases 15 = .ok (.isub, 1) := by decide +kernel
theorem dX12_cases_16 : decode cX12_cases 16 = .ok (.iconst 1, 1) := by decide +kernel
theorem dX12_cases_17 : decode cX12_cases 17 = .ok (.iadd, 1) := by decide +kernel
theorem dX12_cases_18 : decode cX12_cases 18 = .ok (.i2l, 1) := by decide +kernel
theorem dX12_cases_19 : decode cX12_cases 19 = .ok (.lmul, 1) := by decide +kernel
theorem dX12_cases_20 : decode cX12_cases 20 = .ok (.iload 5, 2) := by decide +kernel
theorem dX12_cases_22 : decode cX12_cases 22 = .ok (.i2l, 1) := by decide +kernel
theorem dX12_cases_23 : decode cX12_cases 23 = .ok (.ldiv, 1) := by decide +kernel
theorem dX12_cases_24 : decode cX12_cases 24 = .ok (.lstore_n 3, 1) := by decide +kernel
theorem dX12_cases_25 : decode cX12_cases 25 = .ok (.iinc 5 1, 3) := by decide +kernel
theorem dX12_cases_28 : decode cX12_cases 28 = .ok (.goto (-23), 3) := by decide +kernel
theorem dX12_cases_31 : decode cX12_cases 31 = .ok (.lload_n 3, 1) := by decide +kernel
theorem dX12_cases_32 : decode cX12_cases 32 = .ok (.iload_n 2, 1) := by decide +kernel
theorem dX12_cases_33 : decode cX12_cases 33 = .ok (.i2l, 1) := by decide +kernel
theorem dX12_cases_34 : decode cX12_cases 34 = .ok (.iload_n 1, 1) := by decide +kernel
theorem dX12_cases_35 : decode cX12_cases 35 = .ok (.invokestatic 319, 3) := by decide +kernel
theorem dX12_cases_38 : decode cX12_cases 38 = .ok (.lmul, 1) := by decide +kernel
theorem dX12_cases_39 : decode cX12_cases 39 = .ok (.bipush 10, 2) := by decide +kernel
theorem dX12_cases_41 : decode cX12_cases 41 = .ok (.iload_n 2, 1) := by decide +kernel
theorem dX12_cases_42 : decode cX12_cases 42 = .ok (.isub, 1) := by decide +kernel
theorem dX12_cases_43 : decode cX12_cases 43 = .ok (.i2l, 1) := by decide +kernel
theorem dX12_cases_44 : decode cX12_cases 44 = .ok (.iload_n 0, 1) := by decide +kernel
theorem dX12_cases_45 : decode cX12_cases 45 = .ok (.iload_n 1, 1) := by decide +kernel
theorem dX12_cases_46 : decode cX12_cases 46 = .ok (.isub, 1) := by decide +kernel
theorem dX12_cases_47 : decode cX12_cases 47 = .ok (.invokestatic 319, 3) := by decide +kernel
theorem dX12_cases_50 : decode cX12_cases 50 = .ok (.lmul, 1) := by decide +kernel
theorem dX12_cases_51 : decode cX12_cases 51 = .ok (.lreturn, 1) := by decide +kernel
theorem dX12_casesFrom_0 : decode cX12_casesFrom 0 = .ok (.lconst 0, 1) := by decide +kernel
theorem dX12_casesFrom_1 : decode cX12_casesFrom 1 = .ok (.lstore 4, 2) := by decide +kernel
theorem dX12_casesFrom_3 : decode cX12_casesFrom 3 = .ok (.iload_n 1, 1) := by decide +kernel
theorem dX12_casesFrom_4 : decode cX12_casesFrom 4 = .ok (.istore 6, 2) := by decide +kernel
theorem dX12_casesFrom_6 : decode cX12_casesFrom 6 = .ok (.iload 6, 2) := by decide +kernel
theorem dX12_casesFrom_8 : decode cX12_casesFrom 8 = .ok (.iload_n 2, 1) := by decide +kernel
theorem dX12_casesFrom_9 : decode cX12_casesFrom 9 = .ok (.if_icmp .gt 21, 3) := by decide +kernel
theorem dX12_casesFrom_12 : decode cX12_casesFrom 12 = .ok (.lload 4, 2) := by decide +kernel
theorem dX12_casesFrom_14 : decode cX12_casesFrom 14 = .ok (.iload_n 0, 1) := by decide +kernel
theorem dX12_casesFrom_15 : decode cX12_casesFrom 15 = .ok (.iload 6, 2) := by decide +kernel
theorem dX12_casesFrom_17 : decode cX12_casesFrom 17 = .ok (.iload_n 3, 1) := by decide +kernel
theorem dX12_casesFrom_18 : decode cX12_casesFrom 18 = .ok (.invokestatic 323, 3) := by decide +kernel
theorem dX12_casesFrom_21 : decode cX12_casesFrom 21 = .ok (.ladd, 1) := by decide +kernel
theorem dX12_casesFrom_22 : decode cX12_casesFrom 22 = .ok (.lstore 4, 2) := by decide +kernel
theorem dX12_casesFrom_24 : decode cX12_casesFrom 24 = .ok (.iinc 6 1, 3) := by decide +kernel
theorem dX12_casesFrom_27 : decode cX12_casesFrom 27 = .ok (.goto (-21), 3) := by decide +kernel
theorem dX12_casesFrom_30 : decode cX12_casesFrom 30 = .ok (.lload 4, 2) := by decide +kernel
theorem dX12_casesFrom_32 : decode cX12_casesFrom 32 = .ok (.lreturn, 1) := by decide +kernel
theorem dX12_low_0 : decode cX12_low 0 = .ok (.iconst 0, 1) := by decide +kernel
theorem dX12_low_1 : decode cX12_low 1 = .ok (.istore_n 3, 1) := by decide +kernel
theorem dX12_low_2 : decode cX12_low 2 = .ok (.iconst 1, 1) := by decide +kernel
theorem dX12_low_3 : decode cX12_low 3 = .ok (.istore 4, 2) := by decide +kernel
theorem dX12_low_5 : decode cX12_low 5 = .ok (.iload 4, 2) := by decide +kernel
theorem dX12_low_7 : decode cX12_low 7 = .ok (.bipush 10, 2) := by decide +kernel
theorem dX12_low_9 : decode cX12_low 9 = .ok (.if_icmp .gt 46, 3) := by decide +kernel
theorem dX12_low_12 : decode cX12_low 12 = .ok (.iload_n 0, 1) := by decide +kernel
theorem dX12_low_13 : decode cX12_low 13 = .ok (.ifCond .le 42, 3) := by decide +kernel
theorem dX12_low_16 : decode cX12_low 16 = .ok (.iload_n 1, 1) := by decide +kernel
theorem dX12_low_17 : decode cX12_low 17 = .ok (.iload_n 0, 1) := by decide +kernel
theorem dX12_low_18 : decode cX12_low 18 = .ok (.iload_n 1, 1) := by decide +kernel
theorem dX12_low_19 : decode cX12_low 19 = .ok (.iload 4, 2) := by decide +kernel
theorem dX12_low_21 : decode cX12_low 21 = .ok (.invokestatic 327, 3) := by decide +kernel
theorem dX12_low_24 : decode cX12_low 24 = .ok (.ldc2_w 331, 3) := by decide +kernel
theorem dX12_low_27 : decode cX12_low 27 = .ok (.lmul, 1) := by decide +kernel
theorem dX12_low_28 : decode cX12_low 28 = .ok (.iload_n 2, 1) := by decide +kernel
theorem dX12_low_29 : decode cX12_low 29 = .ok (.i2l, 1) := by decide +kernel
theorem dX12_low_30 : decode cX12_low 30 = .ok (.ldc2_w 333, 3) := by decide +kernel
theorem dX12_low_33 : decode cX12_low 33 = .ok (.iload_n 1, 1) := by decide +kernel
theorem dX12_low_34 : decode cX12_low 34 = .ok (.invokestatic 319, 3) := by decide +kernel
theorem dX12_low_37 : decode cX12_low 37 = .ok (.lmul, 1) := by decide +kernel
theorem dX12_low_38 : decode cX12_low 38 = .ok (.lcmp, 1) := by decide +kernel
theorem dX12_low_39 : decode cX12_low 39 = .ok (.ifCond .gt 8, 3) := by decide +kernel
theorem dX12_low_42 : decode cX12_low 42 = .ok (.iload 4, 2) := by decide +kernel
theorem dX12_low_44 : decode cX12_low 44 = .ok (.goto 4, 3) := by decide +kernel
theorem dX12_low_47 : decode cX12_low 47 = .ok (.iload_n 3, 1) := by decide +kernel
theorem dX12_low_48 : decode cX12_low 48 = .ok (.istore_n 3, 1) := by decide +kernel
theorem dX12_low_49 : decode cX12_low 49 = .ok (.iinc 4 1, 3) := by decide +kernel
theorem dX12_low_52 : decode cX12_low 52 = .ok (.goto (-47), 3) := by decide +kernel
theorem dX12_low_55 : decode cX12_low 55 = .ok (.iload_n 3, 1) := by decide +kernel
theorem dX12_low_56 : decode cX12_low 56 = .ok (.ireturn, 1) := by decide +kernel
theorem dX12_high_0 : decode cX12_high 0 = .ok (.bipush 10, 2) := by decide +kernel
theorem dX12_high_2 : decode cX12_high 2 = .ok (.istore_n 3, 1) := by decide +kernel
theorem dX12_high_3 : decode cX12_high 3 = .ok (.bipush 9, 2) := by decide +kernel
theorem dX12_high_5 : decode cX12_high 5 = .ok (.istore 4, 2) := by decide +kernel
theorem dX12_high_7 : decode cX12_high 7 = .ok (.iload 4, 2) := by decide +kernel
theorem dX12_high_9 : decode cX12_high 9 = .ok (.ifCond .lt 47, 3) := by decide +kernel
theorem dX12_high_12 : decode cX12_high 12 = .ok (.iload_n 0, 1) := by decide +kernel
theorem dX12_high_13 : decode cX12_high 13 = .ok (.iload_n 1, 1) := by decide +kernel
theorem dX12_high_14 : decode cX12_high 14 = .ok (.if_icmp .ge 42, 3) := by decide +kernel
theorem dX12_high_17 : decode cX12_high 17 = .ok (.iload_n 1, 1) := by decide +kernel
theorem dX12_high_18 : decode cX12_high 18 = .ok (.iconst 0, 1) := by decide +kernel
theorem dX12_high_19 : decode cX12_high 19 = .ok (.iload_n 0, 1) := by decide +kernel
theorem dX12_high_20 : decode cX12_high 20 = .ok (.iload 4, 2) := by decide +kernel
theorem dX12_high_22 : decode cX12_high 22 = .ok (.invokestatic 327, 3) := by decide +kernel
theorem dX12_high_25 : decode cX12_high 25 = .ok (.ldc2_w 331, 3) := by decide +kernel
theorem dX12_high_28 : decode cX12_high 28 = .ok (.lmul, 1) := by decide +kernel
theorem dX12_high_29 : decode cX12_high 29 = .ok (.iload_n 2, 1) := by decide +kernel
theorem dX12_high_30 : decode cX12_high 30 = .ok (.i2l, 1) := by decide +kernel
theorem dX12_high_31 : decode cX12_high 31 = .ok (.ldc2_w 333, 3) := by decide +kernel
theorem dX12_high_34 : decode cX12_high 34 = .ok (.iload_n 1, 1) := by decide +kernel
theorem dX12_high_35 : decode cX12_high 35 = .ok (.invokestatic 319, 3) := by decide +kernel
theorem dX12_high_38 : decode cX12_high 38 = .ok (.lmul, 1) := by decide +kernel
theorem dX12_high_39 : decode cX12_high 39 = .ok (.lcmp, 1) := by decide +kernel
theorem dX12_high_40 : decode cX12_high 40 = .ok (.ifCond .gt 8, 3) := by decide +kernel
theorem dX12_high_43 : decode cX12_high 43 = .ok (.iload 4, 2) := by decide +kernel
theorem dX12_high_45 : decode cX12_high 45 = .ok (.goto 4, 3) := by decide +kernel
theorem dX12_high_48 : decode cX12_high 48 = .ok (.iload_n 3, 1) := by decide +kernel
theorem dX12_high_49 : decode cX12_high 49 = .ok (.istore_n 3, 1) := by decide +kernel
theorem dX12_high_50 : decode cX12_high 50 = .ok (.iinc 4 (-1), 3) := by decide +kernel
theorem dX12_high_53 : decode cX12_high 53 = .ok (.goto (-46), 3) := by decide +kernel
theorem dX12_high_56 : decode cX12_high 56 = .ok (.iload_n 3, 1) := by decide +kernel
theorem dX12_high_57 : decode cX12_high 57 = .ok (.ireturn, 1) := by decide +kernel
theorem dX12_ends_0 : decode cX12_ends 0 = .ok (.aload_n 0, 1) := by decide +kernel
theorem dX12_ends_1 : decode cX12_ends 1 = .ok (.iconst 0, 1) := by decide +kernel
theorem dX12_ends_2 : decode cX12_ends 2 = .ok (.putfield 97, 3) := by decide +kernel
theorem dX12_ends_5 : decode cX12_ends 5 = .ok (.iload_n 2, 1) := by decide +kernel
theorem dX12_ends_6 : decode cX12_ends 6 = .ok (.i2l, 1) := by decide +kernel
theorem dX12_ends_7 : decode cX12_ends 7 = .ok (.lconst 1, 1) := by decide +kernel
theorem dX12_ends_8 : decode cX12_ends 8 = .ok (.ldc2_w 335, 3) := by decide +kernel
theorem dX12_ends_11 : decode cX12_ends 11 = .ok (.invokestatic 102, 3) := by decide +kernel
theorem dX12_ends_14 : decode cX12_ends 14 = .ok (.ifCond .eq 37, 3) := by decide +kernel
theorem dX12_ends_17 : decode cX12_ends 17 = .ok (.iload_n 1, 1) := by decide +kernel
theorem dX12_ends_18 : decode cX12_ends 18 = .ok (.i2l, 1) := by decide +kernel
theorem dX12_ends_19 : decode cX12_ends 19 = .ok (.lconst 0, 1) := by decide +kernel
theorem dX12_ends_20 : decode cX12_ends 20 = .ok (.iload_n 2, 1) := by decide +kernel
theorem dX12_ends_21 : decode cX12_ends 21 = .ok (.i2l, 1) := by decide +kernel
theorem dX12_ends_22 : decode cX12_ends 22 = .ok (.invokestatic 102, 3) := by decide +kernel
theorem dX12_ends_25 : decode cX12_ends 25 = .ok (.ifCond .eq 26, 3) := by decide +kernel
theorem dX12_ends_28 : decode cX12_ends 28 = .ok (.iload_n 3, 1) := by decide +kernel
theorem dX12_ends_29 : decode cX12_ends 29 = .ok (.i2l, 1) := by decide +kernel
theorem dX12_ends_30 : decode cX12_ends 30 = .ok (.lconst 0, 1) := by decide +kernel
theorem dX12_ends_31 : decode cX12_ends 31 = .ok (.ldc2_w 331, 3) := by decide +kernel
theorem dX12_ends_34 : decode cX12_ends 34 = .ok (.invokestatic 102, 3) := by decide +kernel
theorem dX12_ends_37 : decode cX12_ends 37 = .ok (.ifCond .eq 14, 3) := by decide +kernel
theorem dX12_ends_40 : decode cX12_ends 40 = .ok (.iload 4, 2) := by decide +kernel
theorem dX12_ends_42 : decode cX12_ends 42 = .ok (.i2l, 1) := by decide +kernel
theorem dX12_ends_43 : decode cX12_ends 43 = .ok (.lconst 0, 1) := by decide +kernel
theorem dX12_ends_44 : decode cX12_ends 44 = .ok (.lconst 1, 1) := by decide +kernel
theorem dX12_ends_45 : decode cX12_ends 45 = .ok (.invokestatic 102, 3) := by decide +kernel
theorem dX12_ends_48 : decode cX12_ends 48 = .ok (.ifCond .ne 6, 3) := by decide +kernel
theorem dX12_ends_51 : decode cX12_ends 51 = .ok (.bipush (-2), 2) := by decide +kernel
theorem dX12_ends_53 : decode cX12_ends 53 = .ok (.ireturn, 1) := by decide +kernel
theorem dX12_ends_54 : decode cX12_ends 54 = .ok (.iload 4, 2) := by decide +kernel
theorem dX12_ends_56 : decode cX12_ends 56 = .ok (.ifCond .ne 12, 3) := by decide +kernel
theorem dX12_ends_59 : decode cX12_ends 59 = .ok (.iload_n 1, 1) := by decide +kernel
theorem dX12_ends_60 : decode cX12_ends 60 = .ok (.iload_n 2, 1) := by decide +kernel
theorem dX12_ends_61 : decode cX12_ends 61 = .ok (.iload_n 3, 1) := by decide +kernel
theorem dX12_ends_62 : decode cX12_ends 62 = .ok (.invokestatic 337, 3) := by decide +kernel
theorem dX12_ends_65 : decode cX12_ends 65 = .ok (.goto 9, 3) := by decide +kernel
theorem dX12_ends_68 : decode cX12_ends 68 = .ok (.iload_n 1, 1) := by decide +kernel
theorem dX12_ends_69 : decode cX12_ends 69 = .ok (.iload_n 2, 1) := by decide +kernel
theorem dX12_ends_70 : decode cX12_ends 70 = .ok (.iload_n 3, 1) := by decide +kernel
theorem dX12_ends_71 : decode cX12_ends 71 = .ok (.invokestatic 340, 3) := by decide +kernel
theorem dX12_ends_74 : decode cX12_ends 74 = .ok (.ireturn, 1) := by decide +kernel
theorem dX12_misses_0 : decode cX12_misses 0 = .ok (.aload_n 0, 1) := by decide +kernel
theorem dX12_misses_1 : decode cX12_misses 1 = .ok (.iconst 0, 1) := by decide +kernel
theorem dX12_misses_2 : decode cX12_misses 2 = .ok (.putfield 97, 3) := by decide +kernel
theorem dX12_misses_5 : decode cX12_misses 5 = .ok (.iload_n 1, 1) := by decide +kernel
theorem dX12_misses_6 : decode cX12_misses 6 = .ok (.i2l, 1) := by decide +kernel
theorem dX12_misses_7 : decode cX12_misses 7 = .ok (.lconst 1, 1) := by decide +kernel
theorem dX12_misses_8 : decode cX12_misses 8 = .ok (.ldc2_w 335, 3) := by decide +kernel
theorem dX12_misses_11 : decode cX12_misses 11 = .ok (.invokestatic 102, 3) := by decide +kernel
theorem dX12_misses_14 : decode cX12_misses 14 = .ok (.ifCond .eq 27, 3) := by decide +kernel
theorem dX12_misses_17 : decode cX12_misses 17 = .ok (.iload_n 2, 1) := by decide +kernel
theorem dX12_misses_18 : decode cX12_misses 18 = .ok (.i2l, 1) := by decide +kernel
theorem dX12_misses_19 : decode cX12_misses 19 = .ok (.lconst 0, 1) := by decide +kernel
theorem dX12_misses_20 : decode cX12_misses 20 = .ok (.ldc2_w 333, 3) := by decide +kernel
theorem dX12_misses_23 : decode cX12_misses 23 = .ok (.invokestatic 102, 3) := by decide +kernel
theorem dX12_misses_26 : decode cX12_misses 26 = .ok (.ifCond .eq 15, 3) := by decide +kernel
theorem dX12_misses_29 : decode cX12_misses 29 = .ok (.iload_n 3, 1) := by decide +kernel
theorem dX12_misses_30 : decode cX12_misses 30 = .ok (.i2l, 1) := by decide +kernel
theorem dX12_misses_31 : decode cX12_misses 31 = .ok (.lconst 0, 1) := by decide +kernel
theorem dX12_misses_32 : decode cX12_misses 32 = .ok (.ldc2_w 331, 3) := by decide +kernel
theorem dX12_misses_35 : decode cX12_misses 35 = .ok (.invokestatic 102, 3) := by decide +kernel
theorem dX12_misses_38 : decode cX12_misses 38 = .ok (.ifCond .ne 7, 3) := by decide +kernel
theorem dX12_misses_41 : decode cX12_misses 41 = .ok (.ldc2_w 288, 3) := by decide +kernel
theorem dX12_misses_44 : decode cX12_misses 44 = .ok (.lreturn, 1) := by decide +kernel
theorem dX12_misses_45 : decode cX12_misses 45 = .ok (.lconst 0, 1) := by decide +kernel
theorem dX12_misses_46 : decode cX12_misses 46 = .ok (.lstore 4, 2) := by decide +kernel
theorem dX12_misses_48 : decode cX12_misses 48 = .ok (.iconst 0, 1) := by decide +kernel
theorem dX12_misses_49 : decode cX12_misses 49 = .ok (.istore 6, 2) := by decide +kernel
theorem dX12_misses_51 : decode cX12_misses 51 = .ok (.iload 6, 2) := by decide +kernel
theorem dX12_misses_53 : decode cX12_misses 53 = .ok (.iload_n 1, 1) := by decide +kernel
theorem dX12_misses_54 : decode cX12_misses 54 = .ok (.if_icmp .gt 47, 3) := by decide +kernel
theorem dX12_misses_57 : decode cX12_misses 57 = .ok (.lload 4, 2) := by decide +kernel
theorem dX12_misses_59 : decode cX12_misses 59 = .ok (.iload 6, 2) := by decide +kernel
theorem dX12_misses_61 : decode cX12_misses 61 = .ok (.iload_n 1, 1) := by decide +kernel
theorem dX12_misses_62 : decode cX12_misses 62 = .ok (.iload_n 3, 1) := by decide +kernel
theorem dX12_misses_63 : decode cX12_misses 63 = .ok (.invokestatic 337, 3) := by decide +kernel
theorem dX12_misses_66 : decode cX12_misses 66 = .ok (.iload_n 2, 1) := by decide +kernel
theorem dX12_misses_67 : decode cX12_misses 67 = .ok (.if_icmp .gt 18, 3) := by decide +kernel
theorem dX12_misses_70 : decode cX12_misses 70 = .ok (.iload_n 2, 1) := by decide +kernel
theorem dX12_misses_71 : decode cX12_misses 71 = .ok (.iload 6, 2) := by decide +kernel
theorem dX12_misses_73 : decode cX12_misses 73 = .ok (.iload_n 1, 1) := by decide +kernel
theorem dX12_misses_74 : decode cX12_misses 74 = .ok (.iload_n 3, 1) := by decide +kernel
theorem dX12_misses_75 : decode cX12_misses 75 = .ok (.invokestatic 340, 3) := by decide +kernel
theorem dX12_misses_78 : decode cX12_misses 78 = .ok (.if_icmp .gt 7, 3) := by decide +kernel
theorem dX12_misses_81 : decode cX12_misses 81 = .ok (.lconst 0, 1) := by decide +kernel
theorem dX12_misses_82 : decode cX12_misses 82 = .ok (.goto 10, 3) := by decide +kernel
theorem dX12_misses_85 : decode cX12_misses 85 = .ok (.iload_n 1, 1) := by decide +kernel
theorem dX12_misses_86 : decode cX12_misses 86 = .ok (.iload 6, 2) := by decide +kernel
theorem dX12_misses_88 : decode cX12_misses 88 = .ok (.iload_n 2, 1) := by decide +kernel
theorem dX12_misses_89 : decode cX12_misses 89 = .ok (.invokestatic 323, 3) := by decide +kernel
theorem dX12_misses_92 : decode cX12_misses 92 = .ok (.ladd, 1) := by decide +kernel
theorem dX12_misses_93 : decode cX12_misses 93 = .ok (.lstore 4, 2) := by decide +kernel
theorem dX12_misses_95 : decode cX12_misses 95 = .ok (.iinc 6 1, 3) := by decide +kernel
theorem dX12_misses_98 : decode cX12_misses 98 = .ok (.goto (-47), 3) := by decide +kernel
theorem dX12_misses_101 : decode cX12_misses 101 = .ok (.lload 4, 2) := by decide +kernel
theorem dX12_misses_103 : decode cX12_misses 103 = .ok (.lreturn, 1) := by decide +kernel
theorem dX12_test_0 : decode cX12_test 0 = .ok (.aload_n 0, 1) := by decide +kernel
theorem dX12_test_1 : decode cX12_test 1 = .ok (.iconst 0, 1) := by decide +kernel
theorem dX12_test_2 : decode cX12_test 2 = .ok (.putfield 97, 3) := by decide +kernel
theorem dX12_test_5 : decode cX12_test 5 = .ok (.aload_n 0, 1) := by decide +kernel
theorem dX12_test_6 : decode cX12_test 6 = .ok (.iload_n 1, 1) := by decide +kernel
theorem dX12_test_7 : decode cX12_test 7 = .ok (.invokevirtual 265, 3) := by decide +kernel
theorem dX12_test_10 : decode cX12_test 10 = .ok (.ifCond .eq 74, 3) := by decide +kernel
theorem dX12_test_13 : decode cX12_test 13 = .ok (.iload_n 2, 1) := by decide +kernel
theorem dX12_test_14 : decode cX12_test 14 = .ok (.i2l, 1) := by decide +kernel
theorem dX12_test_15 : decode cX12_test 15 = .ok (.lconst 0, 1) := by decide +kernel
theorem dX12_test_16 : decode cX12_test 16 = .ok (.ldc2_w 268, 3) := by decide +kernel
theorem dX12_test_19 : decode cX12_test 19 = .ok (.invokestatic 102, 3) := by decide +kernel
theorem dX12_test_22 : decode cX12_test 22 = .ok (.ifCond .eq 62, 3) := by decide +kernel
theorem dX12_test_25 : decode cX12_test 25 = .ok (.iload_n 3, 1) := by decide +kernel
theorem dX12_test_26 : decode cX12_test 26 = .ok (.i2l, 1) := by decide +kernel
theorem dX12_test_27 : decode cX12_test 27 = .ok (.lconst 1, 1) := by decide +kernel
theorem dX12_test_28 : decode cX12_test 28 = .ok (.ldc2_w 343, 3) := by decide +kernel
theorem dX12_test_31 : decode cX12_test 31 = .ok (.invokestatic 102, 3) := by decide +kernel
theorem dX12_test_34 : decode cX12_test 34 = .ok (.ifCond .eq 50, 3) := by decide +kernel
theorem dX12_test_37 : decode cX12_test 37 = .ok (.iload 4, 2) := by decide +kernel
theorem dX12_test_39 : decode cX12_test 39 = .ok (.i2l, 1) := by decide +kernel
theorem dX12_test_40 : decode cX12_test 40 = .ok (.lconst 1, 1) := by decide +kernel
theorem dX12_test_41 : decode cX12_test 41 = .ok (.ldc2_w 343, 3) := by decide +kernel
theorem dX12_test_44 : decode cX12_test 44 = .ok (.invokestatic 102, 3) := by decide +kernel
theorem dX12_test_47 : decode cX12_test 47 = .ok (.ifCond .eq 37, 3) := by decide +kernel
theorem dX12_test_50 : decode cX12_test 50 = .ok (.iload_n 3, 1) := by decide +kernel
theorem dX12_test_51 : decode cX12_test 51 = .ok (.iload 4, 2) := by decide +kernel
theorem dX12_test_53 : decode cX12_test 53 = .ok (.if_icmp .ge 31, 3) := by decide +kernel
theorem dX12_test_56 : decode cX12_test 56 = .ok (.iload 5, 2) := by decide +kernel
theorem dX12_test_58 : decode cX12_test 58 = .ok (.i2l, 1) := by decide +kernel
theorem dX12_test_59 : decode cX12_test 59 = .ok (.ldc2_w 345, 3) := by decide +kernel
theorem dX12_test_62 : decode cX12_test 62 = .ok (.ldc2_w 347, 3) := by decide +kernel
theorem dX12_test_65 : decode cX12_test 65 = .ok (.invokestatic 102, 3) := by decide +kernel
theorem dX12_test_68 : decode cX12_test 68 = .ok (.ifCond .eq 16, 3) := by decide +kernel
theorem dX12_test_71 : decode cX12_test 71 = .ok (.iload 6, 2) := by decide +kernel
theorem dX12_test_73 : decode cX12_test 73 = .ok (.i2l, 1) := by decide +kernel
theorem dX12_test_74 : decode cX12_test 74 = .ok (.lconst 0, 1) := by decide +kernel
theorem dX12_test_75 : decode cX12_test 75 = .ok (.ldc2_w 345, 3) := by decide +kernel
theorem dX12_test_78 : decode cX12_test 78 = .ok (.invokestatic 102, 3) := by decide +kernel
theorem dX12_test_81 : decode cX12_test 81 = .ok (.ifCond .ne 6, 3) := by decide +kernel
theorem dX12_test_84 : decode cX12_test 84 = .ok (.bipush (-2), 2) := by decide +kernel
theorem dX12_test_86 : decode cX12_test 86 = .ok (.ireturn, 1) := by decide +kernel
theorem dX12_test_87 : decode cX12_test 87 = .ok (.iconst 0, 1) := by decide +kernel
theorem dX12_test_88 : decode cX12_test 88 = .ok (.istore 7, 2) := by decide +kernel
theorem dX12_test_90 : decode cX12_test 90 = .ok (.iconst (-1), 1) := by decide +kernel
theorem dX12_test_91 : decode cX12_test 91 = .ok (.istore 8, 2) := by decide +kernel
theorem dX12_test_93 : decode cX12_test 93 = .ok (.iconst 0, 1) := by decide +kernel
theorem dX12_test_94 : decode cX12_test 94 = .ok (.istore 9, 2) := by decide +kernel
theorem dX12_test_96 : decode cX12_test 96 = .ok (.iload 9, 2) := by decide +kernel
theorem dX12_test_98 : decode cX12_test 98 = .ok (.bipush 16, 2) := by decide +kernel
theorem dX12_test_100 : decode cX12_test 100 = .ok (.if_icmp .ge 120, 3) := by decide +kernel
theorem dX12_test_103 : decode cX12_test 103 = .ok (.iload 8, 2) := by decide +kernel
theorem dX12_test_105 : decode cX12_test 105 = .ok (.iconst (-1), 1) := by decide +kernel
theorem dX12_test_106 : decode cX12_test 106 = .ok (.if_icmp .ne 114, 3) := by decide +kernel
theorem dX12_test_109 : decode cX12_test 109 = .ok (.iload 7, 2) := by decide +kernel
theorem dX12_test_111 : decode cX12_test 111 = .ok (.aload_n 0, 1) := by decide +kernel
theorem dX12_test_112 : decode cX12_test 112 = .ok (.iload_n 1, 1) := by decide +kernel
theorem dX12_test_113 : decode cX12_test 113 = .ok (.iload_n 2, 1) := by decide +kernel
theorem dX12_test_114 : decode cX12_test 114 = .ok (.iload 9, 2) := by decide +kernel
theorem dX12_test_116 : decode cX12_test 116 = .ok (.invokevirtual 273, 3) := by decide +kernel
theorem dX12_test_119 : decode cX12_test 119 = .ok (.iconst (-1), 1) := by decide +kernel
theorem dX12_test_120 : decode cX12_test 120 = .ok (.if_icmp .eq 7, 3) := by decide +kernel
theorem dX12_test_123 : decode cX12_test 123 = .ok (.iconst 1, 1) := by decide +kernel
theorem dX12_test_124 : decode cX12_test 124 = .ok (.goto 4, 3) := by decide +kernel
theorem dX12_test_127 : decode cX12_test 127 = .ok (.iconst 0, 1) := by decide +kernel
theorem dX12_test_128 : decode cX12_test 128 = .ok (.iadd, 1) := by decide +kernel
theorem dX12_test_129 : decode cX12_test 129 = .ok (.istore 7, 2) := by decide +kernel
theorem dX12_test_131 : decode cX12_test 131 = .ok (.iinc 9 1, 3) := by decide +kernel
theorem dX12_test_134 : decode cX12_test 134 = .ok (.iload 4, 2) := by decide +kernel
theorem dX12_test_136 : decode cX12_test 136 = .ok (.i2l, 1) := by decide +kernel
theorem dX12_test_137 : decode cX12_test 137 = .ok (.iload 7, 2) := by decide +kernel
theorem dX12_test_139 : decode cX12_test 139 = .ok (.invokestatic 319, 3) := by decide +kernel
theorem dX12_test_142 : decode cX12_test 142 = .ok (.bipush 10, 2) := by decide +kernel
theorem dX12_test_144 : decode cX12_test 144 = .ok (.iload 4, 2) := by decide +kernel
theorem dX12_test_146 : decode cX12_test 146 = .ok (.isub, 1) := by decide +kernel
theorem dX12_test_147 : decode cX12_test 147 = .ok (.i2l, 1) := by decide +kernel
theorem dX12_test_148 : decode cX12_test 148 = .ok (.iload 9, 2) := by decide +kernel
theorem dX12_test_150 : decode cX12_test 150 = .ok (.iload 7, 2) := by decide +kernel
theorem dX12_test_152 : decode cX12_test 152 = .ok (.isub, 1) := by decide +kernel
theorem dX12_test_153 : decode cX12_test 153 = .ok (.invokestatic 319, 3) := by decide +kernel
theorem dX12_test_156 : decode cX12_test 156 = .ok (.lmul, 1) := by decide +kernel
theorem dX12_test_157 : decode cX12_test 157 = .ok (.lstore 10, 2) := by decide +kernel
theorem dX12_test_159 : decode cX12_test 159 = .ok (.iload_n 3, 1) := by decide +kernel
theorem dX12_test_160 : decode cX12_test 160 = .ok (.i2l, 1) := by decide +kernel
theorem dX12_test_161 : decode cX12_test 161 = .ok (.iload 7, 2) := by decide +kernel
theorem dX12_test_163 : decode cX12_test 163 = .ok (.invokestatic 319, 3) := by decide +kernel
theorem dX12_test_166 : decode cX12_test 166 = .ok (.bipush 10, 2) := by decide +kernel
theorem dX12_test_168 : decode cX12_test 168 = .ok (.iload_n 3, 1) := by decide +kernel
theorem dX12_test_169 : decode cX12_test 169 = .ok (.isub, 1) := by decide +kernel
theorem dX12_test_170 : decode cX12_test 170 = .ok (.i2l, 1) := by decide +kernel
theorem dX12_test_171 : decode cX12_test 171 = .ok (.iload 9, 2) := by decide +kernel
theorem dX12_test_173 : decode cX12_test 173 = .ok (.iload 7, 2) := by decide +kernel
theorem dX12_test_175 : decode cX12_test 175 = .ok (.isub, 1) := by decide +kernel
theorem dX12_test_176 : decode cX12_test 176 = .ok (.invokestatic 319, 3) := by decide +kernel
theorem dX12_test_179 : decode cX12_test 179 = .ok (.lmul, 1) := by decide +kernel
theorem dX12_test_180 : decode cX12_test 180 = .ok (.lstore 12, 2) := by decide +kernel
theorem dX12_test_182 : decode cX12_test 182 = .ok (.lload 10, 2) := by decide +kernel
theorem dX12_test_184 : decode cX12_test 184 = .ok (.iload 5, 2) := by decide +kernel
theorem dX12_test_186 : decode cX12_test 186 = .ok (.i2l, 1) := by decide +kernel
theorem dX12_test_187 : decode cX12_test 187 = .ok (.lload 12, 2) := by decide +kernel
theorem dX12_test_189 : decode cX12_test 189 = .ok (.lmul, 1) := by decide +kernel
theorem dX12_test_190 : decode cX12_test 190 = .ok (.lcmp, 1) := by decide +kernel
theorem dX12_test_191 : decode cX12_test 191 = .ok (.ifCond .lt 7, 3) := by decide +kernel
theorem dX12_test_194 : decode cX12_test 194 = .ok (.iconst 1, 1) := by decide +kernel
theorem dX12_test_195 : decode cX12_test 195 = .ok (.goto 20, 3) := by decide +kernel
theorem dX12_test_198 : decode cX12_test 198 = .ok (.lload 12, 2) := by decide +kernel
theorem dX12_test_200 : decode cX12_test 200 = .ok (.iload 5, 2) := by decide +kernel
theorem dX12_test_202 : decode cX12_test 202 = .ok (.i2l, 1) := by decide +kernel
theorem dX12_test_203 : decode cX12_test 203 = .ok (.lload 10, 2) := by decide +kernel
theorem dX12_test_205 : decode cX12_test 205 = .ok (.lmul, 1) := by decide +kernel
theorem dX12_test_206 : decode cX12_test 206 = .ok (.lcmp, 1) := by decide +kernel
theorem dX12_test_207 : decode cX12_test 207 = .ok (.ifCond .lt 7, 3) := by decide +kernel
theorem dX12_test_210 : decode cX12_test 210 = .ok (.iconst 0, 1) := by decide +kernel
theorem dX12_test_211 : decode cX12_test 211 = .ok (.goto 4, 3) := by decide +kernel
theorem dX12_test_214 : decode cX12_test 214 = .ok (.iconst (-1), 1) := by decide +kernel
theorem dX12_test_215 : decode cX12_test 215 = .ok (.istore 8, 2) := by decide +kernel
theorem dX12_test_217 : decode cX12_test 217 = .ok (.goto (-121), 3) := by decide +kernel
theorem dX12_test_220 : decode cX12_test 220 = .ok (.iload 6, 2) := by decide +kernel
theorem dX12_test_222 : decode cX12_test 222 = .ok (.ifCond .ne 8, 3) := by decide +kernel
theorem dX12_test_225 : decode cX12_test 225 = .ok (.iload 8, 2) := by decide +kernel
theorem dX12_test_227 : decode cX12_test 227 = .ok (.goto 16, 3) := by decide +kernel
theorem dX12_test_230 : decode cX12_test 230 = .ok (.iload 6, 2) := by decide +kernel
theorem dX12_test_232 : decode cX12_test 232 = .ok (.iconst 1, 1) := by decide +kernel
theorem dX12_test_233 : decode cX12_test 233 = .ok (.if_icmp .ne 8, 3) := by decide +kernel
theorem dX12_test_236 : decode cX12_test 236 = .ok (.iload 9, 2) := by decide +kernel
theorem dX12_test_238 : decode cX12_test 238 = .ok (.goto 5, 3) := by decide +kernel
theorem dX12_test_241 : decode cX12_test 241 = .ok (.iload 7, 2) := by decide +kernel
theorem dX12_test_243 : decode cX12_test 243 = .ok (.ireturn, 1) := by decide +kernel
theorem dX12_pass_0 : decode cX12_pass 0 = .ok (.iconst 1, 1) := by decide +kernel
theorem dX12_pass_1 : decode cX12_pass 1 = .ok (.istore 6, 2) := by decide +kernel
theorem dX12_pass_3 : decode cX12_pass 3 = .ok (.iload_n 2, 1) := by decide +kernel
theorem dX12_pass_4 : decode cX12_pass 4 = .ok (.istore 7, 2) := by decide +kernel
theorem dX12_pass_6 : decode cX12_pass 6 = .ok (.iload 7, 2) := by decide +kernel
theorem dX12_pass_8 : decode cX12_pass 8 = .ok (.iload 4, 2) := by decide +kernel
theorem dX12_pass_10 : decode cX12_pass 10 = .ok (.if_icmp .gt 27, 3) := by decide +kernel
theorem dX12_pass_13 : decode cX12_pass 13 = .ok (.aload_n 0, 1) := by decide +kernel
theorem dX12_pass_14 : decode cX12_pass 14 = .ok (.getfield 62, 3) := by decide +kernel
theorem dX12_pass_17 : decode cX12_pass 17 = .ok (.iload_n 3, 1) := by decide +kernel
theorem dX12_pass_18 : decode cX12_pass 18 = .ok (.iaload, 1) := by decide +kernel
theorem dX12_pass_19 : decode cX12_pass 19 = .ok (.iload 7, 2) := by decide +kernel
theorem dX12_pass_21 : decode cX12_pass 21 = .ok (.if_icmp .lt 16, 3) := by decide +kernel
theorem dX12_pass_24 : decode cX12_pass 24 = .ok (.iload 6, 2) := by decide +kernel
theorem dX12_pass_26 : decode cX12_pass 26 = .ok (.iload 5, 2) := by decide +kernel
theorem dX12_pass_28 : decode cX12_pass 28 = .ok (.imul, 1) := by decide +kernel
theorem dX12_pass_29 : decode cX12_pass 29 = .ok (.istore 6, 2) := by decide +kernel
theorem dX12_pass_31 : decode cX12_pass 31 = .ok (.iinc 7 1, 3) := by decide +kernel
theorem dX12_pass_34 : decode cX12_pass 34 = .ok (.goto (-28), 3) := by decide +kernel
theorem dX12_pass_37 : decode cX12_pass 37 = .ok (.aload_n 0, 1) := by decide +kernel
theorem dX12_pass_38 : decode cX12_pass 38 = .ok (.getfield 88, 3) := by decide +kernel
theorem dX12_pass_41 : decode cX12_pass 41 = .ok (.iload_n 1, 1) := by decide +kernel
theorem dX12_pass_42 : decode cX12_pass 42 = .ok (.aload_n 0, 1) := by decide +kernel
theorem dX12_pass_43 : decode cX12_pass 43 = .ok (.invokevirtual 285, 3) := by decide +kernel
theorem dX12_pass_46 : decode cX12_pass 46 = .ok (.iastore, 1) := by decide +kernel
theorem dX12_pass_47 : decode cX12_pass 47 = .ok (.aload_n 0, 1) := by decide +kernel
theorem dX12_pass_48 : decode cX12_pass 48 = .ok (.getfield 91, 3) := by decide +kernel
theorem dX12_pass_51 : decode cX12_pass 51 = .ok (.iload_n 1, 1) := by decide +kernel
theorem dX12_pass_52 : decode cX12_pass 52 = .ok (.iload 7, 2) := by decide +kernel
theorem dX12_pass_54 : decode cX12_pass 54 = .ok (.iastore, 1) := by decide +kernel
theorem dX12_pass_55 : decode cX12_pass 55 = .ok (.aload_n 0, 1) := by decide +kernel
theorem dX12_pass_56 : decode cX12_pass 56 = .ok (.getfield 94, 3) := by decide +kernel
theorem dX12_pass_59 : decode cX12_pass 59 = .ok (.iload_n 1, 1) := by decide +kernel
theorem dX12_pass_60 : decode cX12_pass 60 = .ok (.iload 6, 2) := by decide +kernel
theorem dX12_pass_62 : decode cX12_pass 62 = .ok (.iastore, 1) := by decide +kernel
theorem dX12_pass_63 : decode cX12_pass 63 = .ok (.return_, 1) := by decide +kernel
theorem dX12_split_0 : decode cX12_split 0 = .ok (.aload_n 0, 1) := by decide +kernel
theorem dX12_split_1 : decode cX12_split 1 = .ok (.iconst 0, 1) := by decide +kernel
theorem dX12_split_2 : decode cX12_split 2 = .ok (.putfield 97, 3) := by decide +kernel
theorem dX12_split_5 : decode cX12_split 5 = .ok (.aload_n 0, 1) := by decide +kernel
theorem dX12_split_6 : decode cX12_split 6 = .ok (.iload_n 1, 1) := by decide +kernel
theorem dX12_split_7 : decode cX12_split 7 = .ok (.invokevirtual 265, 3) := by decide +kernel
theorem dX12_split_10 : decode cX12_split 10 = .ok (.ifCond .eq 57, 3) := by decide +kernel
theorem dX12_split_13 : decode cX12_split 13 = .ok (.iload_n 2, 1) := by decide +kernel
theorem dX12_split_14 : decode cX12_split 14 = .ok (.i2l, 1) := by decide +kernel
theorem dX12_split_15 : decode cX12_split 15 = .ok (.lconst 0, 1) := by decide +kernel
theorem dX12_split_16 : decode cX12_split 16 = .ok (.ldc2_w 268, 3) := by decide +kernel
theorem dX12_split_19 : decode cX12_split 19 = .ok (.invokestatic 102, 3) := by decide +kernel
theorem dX12_split_22 : decode cX12_split 22 = .ok (.ifCond .eq 45, 3) := by decide +kernel
theorem dX12_split_25 : decode cX12_split 25 = .ok (.aload_n 0, 1) := by decide +kernel
theorem dX12_split_26 : decode cX12_split 26 = .ok (.iload_n 3, 1) := by decide +kernel
theorem dX12_split_27 : decode cX12_split 27 = .ok (.invokevirtual 277, 3) := by decide +kernel
theorem dX12_split_30 : decode cX12_split 30 = .ok (.ifCond .eq 37, 3) := by decide +kernel
theorem dX12_split_33 : decode cX12_split 33 = .ok (.iload 4, 2) := by decide +kernel
theorem dX12_split_35 : decode cX12_split 35 = .ok (.i2l, 1) := by decide +kernel
theorem dX12_split_36 : decode cX12_split 36 = .ok (.lconst 1, 1) := by decide +kernel
theorem dX12_split_37 : decode cX12_split 37 = .ok (.ldc2_w 349, 3) := by decide +kernel
theorem dX12_split_40 : decode cX12_split 40 = .ok (.invokestatic 102, 3) := by decide +kernel
theorem dX12_split_43 : decode cX12_split 43 = .ok (.ifCond .eq 24, 3) := by decide +kernel
theorem dX12_split_46 : decode cX12_split 46 = .ok (.iload 5, 2) := by decide +kernel
theorem dX12_split_48 : decode cX12_split 48 = .ok (.i2l, 1) := by decide +kernel
theorem dX12_split_49 : decode cX12_split 49 = .ok (.lconst 1, 1) := by decide +kernel
theorem dX12_split_50 : decode cX12_split 50 = .ok (.ldc2_w 351, 3) := by decide +kernel
theorem dX12_split_53 : decode cX12_split 53 = .ok (.invokestatic 102, 3) := by decide +kernel
theorem dX12_split_56 : decode cX12_split 56 = .ok (.ifCond .eq 11, 3) := by decide +kernel
theorem dX12_split_59 : decode cX12_split 59 = .ok (.iload 6, 2) := by decide +kernel
theorem dX12_split_61 : decode cX12_split 61 = .ok (.invokestatic 270, 3) := by decide +kernel
theorem dX12_split_64 : decode cX12_split 64 = .ok (.ifCond .ne 6, 3) := by decide +kernel
theorem dX12_split_67 : decode cX12_split 67 = .ok (.bipush (-2), 2) := by decide +kernel
theorem dX12_split_69 : decode cX12_split 69 = .ok (.ireturn, 1) := by decide +kernel
theorem dX12_split_70 : decode cX12_split 70 = .ok (.aload_n 0, 1) := by decide +kernel
theorem dX12_split_71 : decode cX12_split 71 = .ok (.iload 6, 2) := by decide +kernel
theorem dX12_split_73 : decode cX12_split 73 = .ok (.invokevirtual 250, 3) := by decide +kernel
theorem dX12_split_76 : decode cX12_split 76 = .ok (.iconst 0, 1) := by decide +kernel
theorem dX12_split_77 : decode cX12_split 77 = .ok (.istore 7, 2) := by decide +kernel
theorem dX12_split_79 : decode cX12_split 79 = .ok (.iconst 0, 1) := by decide +kernel
theorem dX12_split_80 : decode cX12_split 80 = .ok (.istore 8, 2) := by decide +kernel
theorem dX12_split_82 : decode cX12_split 82 = .ok (.iconst 0, 1) := by decide +kernel
theorem dX12_split_83 : decode cX12_split 83 = .ok (.istore 9, 2) := by decide +kernel
theorem dX12_split_85 : decode cX12_split 85 = .ok (.aload_n 0, 1) := by decide +kernel
theorem dX12_split_86 : decode cX12_split 86 = .ok (.iconst 0, 1) := by decide +kernel
theorem dX12_split_87 : decode cX12_split 87 = .ok (.iconst 1, 1) := by decide +kernel
theorem dX12_split_88 : decode cX12_split 88 = .ok (.iload_n 3, 1) := by decide +kernel
theorem dX12_split_89 : decode cX12_split 89 = .ok (.iload 4, 2) := by decide +kernel
theorem dX12_split_91 : decode cX12_split 91 = .ok (.iload 5, 2) := by decide +kernel
theorem dX12_split_93 : decode cX12_split 93 = .ok (.invokevirtual 353, 3) := by decide +kernel
theorem dX12_split_96 : decode cX12_split 96 = .ok (.iload 9, 2) := by decide +kernel
theorem dX12_split_98 : decode cX12_split 98 = .ok (.ifCond .lt 113, 3) := by decide +kernel
theorem dX12_split_101 : decode cX12_split 101 = .ok (.aload_n 0, 1) := by decide +kernel
theorem dX12_split_102 : decode cX12_split 102 = .ok (.getfield 94, 3) := by decide +kernel
theorem dX12_split_105 : decode cX12_split 105 = .ok (.iload 9, 2) := by decide +kernel
theorem dX12_split_107 : decode cX12_split 107 = .ok (.iaload, 1) := by decide +kernel
theorem dX12_split_108 : decode cX12_split 108 = .ok (.ifCond .ne 9, 3) := by decide +kernel
theorem dX12_split_111 : decode cX12_split 111 = .ok (.iinc 9 (-1), 3) := by decide +kernel
theorem dX12_split_114 : decode cX12_split 114 = .ok (.goto (-18), 3) := by decide +kernel
theorem dX12_split_117 : decode cX12_split 117 = .ok (.aload_n 0, 1) := by decide +kernel
theorem dX12_split_118 : decode cX12_split 118 = .ok (.getfield 94, 3) := by decide +kernel
theorem dX12_split_121 : decode cX12_split 121 = .ok (.iload 9, 2) := by decide +kernel
theorem dX12_split_123 : decode cX12_split 123 = .ok (.dup2, 1) := by decide +kernel
theorem dX12_split_124 : decode cX12_split 124 = .ok (.iaload, 1) := by decide +kernel
theorem dX12_split_125 : decode cX12_split 125 = .ok (.iconst 1, 1) := by decide +kernel
theorem dX12_split_126 : decode cX12_split 126 = .ok (.isub, 1) := by decide +kernel
theorem dX12_split_127 : decode cX12_split 127 = .ok (.iastore, 1) := by decide +kernel
theorem dX12_split_128 : decode cX12_split 128 = .ok (.aload_n 0, 1) := by decide +kernel
theorem dX12_split_129 : decode cX12_split 129 = .ok (.aload_n 0, 1) := by decide +kernel
theorem dX12_split_130 : decode cX12_split 130 = .ok (.getfield 88, 3) := by decide +kernel
theorem dX12_split_133 : decode cX12_split 133 = .ok (.iload 9, 2) := by decide +kernel
theorem dX12_split_135 : decode cX12_split 135 = .ok (.iaload, 1) := by decide +kernel
theorem dX12_split_136 : decode cX12_split 136 = .ok (.invokevirtual 282, 3) := by decide +kernel
theorem dX12_split_139 : decode cX12_split 139 = .ok (.aload_n 0, 1) := by decide +kernel
theorem dX12_split_140 : decode cX12_split 140 = .ok (.iload_n 1, 1) := by decide +kernel
theorem dX12_split_141 : decode cX12_split 141 = .ok (.invokevirtual 253, 3) := by decide +kernel
theorem dX12_split_144 : decode cX12_split 144 = .ok (.ifCond .eq 9, 3) := by decide +kernel
theorem dX12_split_147 : decode cX12_split 147 = .ok (.iinc 8 1, 3) := by decide +kernel
theorem dX12_split_150 : decode cX12_split 150 = .ok (.goto (-54), 3) := by decide +kernel
theorem dX12_split_153 : decode cX12_split 153 = .ok (.iload 9, 2) := by decide +kernel
theorem dX12_split_155 : decode cX12_split 155 = .ok (.iload_n 2, 1) := by decide +kernel
theorem dX12_split_156 : decode cX12_split 156 = .ok (.if_icmp .ge (-60), 3) := by decide +kernel
theorem dX12_split_159 : decode cX12_split 159 = .ok (.iload 7, 2) := by decide +kernel
theorem dX12_split_161 : decode cX12_split 161 = .ok (.sipush 20000, 3) := by decide +kernel
theorem dX12_split_164 : decode cX12_split 164 = .ok (.if_icmp .ne 6, 3) := by decide +kernel
theorem dX12_split_167 : decode cX12_split 167 = .ok (.bipush (-4), 2) := by decide +kernel
theorem dX12_split_169 : decode cX12_split 169 = .ok (.ireturn, 1) := by decide +kernel
theorem dX12_split_170 : decode cX12_split 170 = .ok (.iinc 7 1, 3) := by decide +kernel
theorem dX12_split_173 : decode cX12_split 173 = .ok (.aload_n 0, 1) := by decide +kernel
theorem dX12_split_174 : decode cX12_split 174 = .ok (.aload_n 0, 1) := by decide +kernel
theorem dX12_split_175 : decode cX12_split 175 = .ok (.aload_n 0, 1) := by decide +kernel
theorem dX12_split_176 : decode cX12_split 176 = .ok (.invokevirtual 256, 3) := by decide +kernel
theorem dX12_split_179 : decode cX12_split 179 = .ok (.invokevirtual 259, 3) := by decide +kernel
theorem dX12_split_182 : decode cX12_split 182 = .ok (.invokevirtual 262, 3) := by decide +kernel
theorem dX12_split_185 : decode cX12_split 185 = .ok (.aload_n 0, 1) := by decide +kernel
theorem dX12_split_186 : decode cX12_split 186 = .ok (.iload 9, 2) := by decide +kernel
theorem dX12_split_188 : decode cX12_split 188 = .ok (.iconst 1, 1) := by decide +kernel
theorem dX12_split_189 : decode cX12_split 189 = .ok (.iadd, 1) := by decide +kernel
theorem dX12_split_190 : decode cX12_split 190 = .ok (.aload_n 0, 1) := by decide +kernel
theorem dX12_split_191 : decode cX12_split 191 = .ok (.getfield 91, 3) := by decide +kernel
theorem dX12_split_194 : decode cX12_split 194 = .ok (.iload 9, 2) := by decide +kernel
theorem dX12_split_196 : decode cX12_split 196 = .ok (.iaload, 1) := by decide +kernel
theorem dX12_split_197 : decode cX12_split 197 = .ok (.iload_n 3, 1) := by decide +kernel
theorem dX12_split_198 : decode cX12_split 198 = .ok (.iload 4, 2) := by decide +kernel
theorem dX12_split_200 : decode cX12_split 200 = .ok (.iload 5, 2) := by decide +kernel
theorem dX12_split_202 : decode cX12_split 202 = .ok (.invokevirtual 353, 3) := by decide +kernel
theorem dX12_split_205 : decode cX12_split 205 = .ok (.iinc 9 1, 3) := by decide +kernel
theorem dX12_split_208 : decode cX12_split 208 = .ok (.goto (-112), 3) := by decide +kernel
theorem dX12_split_211 : decode cX12_split 211 = .ok (.iload 8, 2) := by decide +kernel
theorem dX12_split_213 : decode cX12_split 213 = .ok (.ireturn, 1) := by decide +kernel
theorem dX12_moves_0 : decode cX12_moves 0 = .ok (.aload_n 0, 1) := by decide +kernel
theorem dX12_moves_1 : decode cX12_moves 1 = .ok (.iconst 0, 1) := by decide +kernel
theorem dX12_moves_2 : decode cX12_moves 2 = .ok (.putfield 97, 3) := by decide +kernel
theorem dX12_moves_5 : decode cX12_moves 5 = .ok (.aload_n 0, 1) := by decide +kernel
theorem dX12_moves_6 : decode cX12_moves 6 = .ok (.iload_n 1, 1) := by decide +kernel
theorem dX12_moves_7 : decode cX12_moves 7 = .ok (.invokevirtual 277, 3) := by decide +kernel
theorem dX12_moves_10 : decode cX12_moves 10 = .ok (.ifCond .ne 6, 3) := by decide +kernel
theorem dX12_moves_13 : decode cX12_moves 13 = .ok (.bipush (-2), 2) := by decide +kernel
theorem dX12_moves_15 : decode cX12_moves 15 = .ok (.ireturn, 1) := by decide +kernel
theorem dX12_moves_16 : decode cX12_moves 16 = .ok (.iconst 0, 1) := by decide +kernel
theorem dX12_moves_17 : decode cX12_moves 17 = .ok (.istore_n 2, 1) := by decide +kernel
theorem dX12_moves_18 : decode cX12_moves 18 = .ok (.bipush 12, 2) := by decide +kernel
theorem dX12_moves_20 : decode cX12_moves 20 = .ok (.aload_n 0, 1) := by decide +kernel
theorem dX12_moves_21 : decode cX12_moves 21 = .ok (.getfield 197, 3) := by decide +kernel
theorem dX12_moves_24 : decode cX12_moves 24 = .ok (.imul, 1) := by decide +kernel
theorem dX12_moves_25 : decode cX12_moves 25 = .ok (.istore_n 3, 1) := by decide +kernel
theorem dX12_moves_26 : decode cX12_moves 26 = .ok (.iload_n 3, 1) := by decide +kernel
theorem dX12_moves_27 : decode cX12_moves 27 = .ok (.bipush 12, 2) := by decide +kernel
theorem dX12_moves_29 : decode cX12_moves 29 = .ok (.aload_n 0, 1) := by decide +kernel
theorem dX12_moves_30 : decode cX12_moves 30 = .ok (.getfield 197, 3) := by decide +kernel
theorem dX12_moves_33 : decode cX12_moves 33 = .ok (.imul, 1) := by decide +kernel
theorem dX12_moves_34 : decode cX12_moves 34 = .ok (.aload_n 0, 1) := by decide +kernel
theorem dX12_moves_35 : decode cX12_moves 35 = .ok (.getfield 29, 3) := by decide +kernel
theorem dX12_moves_38 : decode cX12_moves 38 = .ok (.aload_n 0, 1) := by decide +kernel
theorem dX12_moves_39 : decode cX12_moves 39 = .ok (.getfield 197, 3) := by decide +kernel
theorem dX12_moves_42 : decode cX12_moves 42 = .ok (.iaload, 1) := by decide +kernel
theorem dX12_moves_43 : decode cX12_moves 43 = .ok (.iadd, 1) := by decide +kernel
theorem dX12_moves_44 : decode cX12_moves 44 = .ok (.if_icmp .ge 74, 3) := by decide +kernel
theorem dX12_moves_47 : decode cX12_moves 47 = .ok (.iconst 0, 1) := by decide +kernel
theorem dX12_moves_48 : decode cX12_moves 48 = .ok (.istore 4, 2) := by decide +kernel
theorem dX12_moves_50 : decode cX12_moves 50 = .ok (.iconst 3, 1) := by decide +kernel
theorem dX12_moves_51 : decode cX12_moves 51 = .ok (.iload_n 3, 1) := by decide +kernel
theorem dX12_moves_52 : decode cX12_moves 52 = .ok (.imul, 1) := by decide +kernel
theorem dX12_moves_53 : decode cX12_moves 53 = .ok (.istore 5, 2) := by decide +kernel
theorem dX12_moves_55 : decode cX12_moves 55 = .ok (.iload 5, 2) := by decide +kernel
theorem dX12_moves_57 : decode cX12_moves 57 = .ok (.iconst 3, 1) := by decide +kernel
theorem dX12_moves_58 : decode cX12_moves 58 = .ok (.iload_n 3, 1) := by decide +kernel
theorem dX12_moves_59 : decode cX12_moves 59 = .ok (.imul, 1) := by decide +kernel
theorem dX12_moves_60 : decode cX12_moves 60 = .ok (.aload_n 0, 1) := by decide +kernel
theorem dX12_moves_61 : decode cX12_moves 61 = .ok (.getfield 50, 3) := by decide +kernel
theorem dX12_moves_64 : decode cX12_moves 64 = .ok (.iload_n 3, 1) := by decide +kernel
theorem dX12_moves_65 : decode cX12_moves 65 = .ok (.iaload, 1) := by decide +kernel
theorem dX12_moves_66 : decode cX12_moves 66 = .ok (.iadd, 1) := by decide +kernel
theorem dX12_moves_67 : decode cX12_moves 67 = .ok (.if_icmp .ge 32, 3) := by decide +kernel
theorem dX12_moves_70 : decode cX12_moves 70 = .ok (.iload 4, 2) := by decide +kernel
theorem dX12_moves_72 : decode cX12_moves 72 = .ok (.ifCond .ne 14, 3) := by decide +kernel
theorem dX12_moves_75 : decode cX12_moves 75 = .ok (.aload_n 0, 1) := by decide +kernel
theorem dX12_moves_76 : decode cX12_moves 76 = .ok (.getfield 53, 3) := by decide +kernel
theorem dX12_moves_79 : decode cX12_moves 79 = .ok (.iload 5, 2) := by decide +kernel
theorem dX12_moves_81 : decode cX12_moves 81 = .ok (.iaload, 1) := by decide +kernel
theorem dX12_moves_82 : decode cX12_moves 82 = .ok (.iload_n 1, 1) := by decide +kernel
theorem dX12_moves_83 : decode cX12_moves 83 = .ok (.if_icmp .ne 7, 3) := by decide +kernel
theorem dX12_moves_86 : decode cX12_moves 86 = .ok (.iconst 1, 1) := by decide +kernel
theorem dX12_moves_87 : decode cX12_moves 87 = .ok (.goto 4, 3) := by decide +kernel
theorem dX12_moves_90 : decode cX12_moves 90 = .ok (.iconst 0, 1) := by decide +kernel
theorem dX12_moves_91 : decode cX12_moves 91 = .ok (.istore 4, 2) := by decide +kernel
theorem dX12_moves_93 : decode cX12_moves 93 = .ok (.iinc 5 1, 3) := by decide +kernel
theorem dX12_moves_96 : decode cX12_moves 96 = .ok (.goto (-41), 3) := by decide +kernel
theorem dX12_moves_99 : decode cX12_moves 99 = .ok (.iload_n 2, 1) := by decide +kernel
theorem dX12_moves_100 : decode cX12_moves 100 = .ok (.iload 4, 2) := by decide +kernel
theorem dX12_moves_102 : decode cX12_moves 102 = .ok (.ifCond .eq 7, 3) := by decide +kernel
theorem dX12_moves_105 : decode cX12_moves 105 = .ok (.iconst 1, 1) := by decide +kernel
theorem dX12_moves_106 : decode cX12_moves 106 = .ok (.goto 4, 3) := by decide +kernel
theorem dX12_moves_109 : decode cX12_moves 109 = .ok (.iconst 0, 1) := by decide +kernel
theorem dX12_moves_110 : decode cX12_moves 110 = .ok (.iadd, 1) := by decide +kernel
theorem dX12_moves_111 : decode cX12_moves 111 = .ok (.istore_n 2, 1) := by decide +kernel
theorem dX12_moves_112 : decode cX12_moves 112 = .ok (.iinc 3 1, 3) := by decide +kernel
theorem dX12_moves_115 : decode cX12_moves 115 = .ok (.goto (-89), 3) := by decide +kernel
theorem dX12_moves_118 : decode cX12_moves 118 = .ok (.iload_n 2, 1) := by decide +kernel
theorem dX12_moves_119 : decode cX12_moves 119 = .ok (.ireturn, 1) := by decide +kernel
theorem dJ11_isValidCodePoint_9a6ad_0 : decode cJ11_isValidCodePoint_9a6ad 0 = .ok (.iload_n 0, 1) := by decide +kernel
theorem dJ11_isValidCodePoint_9a6ad_1 : decode cJ11_isValidCodePoint_9a6ad 1 = .ok (.bipush 16, 2) := by decide +kernel
theorem dJ11_isValidCodePoint_9a6ad_3 : decode cJ11_isValidCodePoint_9a6ad 3 = .ok (.iushr, 1) := by decide +kernel
theorem dJ11_isValidCodePoint_9a6ad_4 : decode cJ11_isValidCodePoint_9a6ad 4 = .ok (.istore_n 1, 1) := by decide +kernel
theorem dJ11_isValidCodePoint_9a6ad_5 : decode cJ11_isValidCodePoint_9a6ad 5 = .ok (.iload_n 1, 1) := by decide +kernel
theorem dJ11_isValidCodePoint_9a6ad_6 : decode cJ11_isValidCodePoint_9a6ad 6 = .ok (.bipush 17, 2) := by decide +kernel
theorem dJ11_isValidCodePoint_9a6ad_8 : decode cJ11_isValidCodePoint_9a6ad 8 = .ok (.if_icmp .ge 7, 3) := by decide +kernel
theorem dJ11_isValidCodePoint_9a6ad_11 : decode cJ11_isValidCodePoint_9a6ad 11 = .ok (.iconst 1, 1) := by decide +kernel
theorem dJ11_isValidCodePoint_9a6ad_12 : decode cJ11_isValidCodePoint_9a6ad 12 = .ok (.goto 4, 3) := by decide +kernel
theorem dJ11_isValidCodePoint_9a6ad_15 : decode cJ11_isValidCodePoint_9a6ad 15 = .ok (.iconst 0, 1) := by decide +kernel
theorem dJ11_isValidCodePoint_9a6ad_16 : decode cJ11_isValidCodePoint_9a6ad 16 = .ok (.ireturn, 1) := by decide +kernel
theorem dJ11_highSurrogate_5068e_0 : decode cJ11_highSurrogate_5068e 0 = .ok (.iload_n 0, 1) := by decide +kernel
theorem dJ11_highSurrogate_5068e_1 : decode cJ11_highSurrogate_5068e 1 = .ok (.bipush 10, 2) := by decide +kernel
theorem dJ11_highSurrogate_5068e_3 : decode cJ11_highSurrogate_5068e 3 = .ok (.iushr, 1) := by decide +kernel
theorem dJ11_highSurrogate_5068e_4 : decode cJ11_highSurrogate_5068e 4 = .ok (.ldc 110, 2) := by decide +kernel
theorem dJ11_highSurrogate_5068e_6 : decode cJ11_highSurrogate_5068e 6 = .ok (.iadd, 1) := by decide +kernel
theorem dJ11_highSurrogate_5068e_7 : decode cJ11_highSurrogate_5068e 7 = .ok (.i2c, 1) := by decide +kernel
theorem dJ11_highSurrogate_5068e_8 : decode cJ11_highSurrogate_5068e 8 = .ok (.ireturn, 1) := by decide +kernel
theorem dJ11_lowSurrogate_5068e_0 : decode cJ11_lowSurrogate_5068e 0 = .ok (.iload_n 0, 1) := by decide +kernel
theorem dJ11_lowSurrogate_5068e_1 : decode cJ11_lowSurrogate_5068e 1 = .ok (.sipush 1023, 3) := by decide +kernel
theorem dJ11_lowSurrogate_5068e_4 : decode cJ11_lowSurrogate_5068e 4 = .ok (.iand, 1) := by decide +kernel
theorem dJ11_lowSurrogate_5068e_5 : decode cJ11_lowSurrogate_5068e 5 = .ok (.ldc 76, 2) := by decide +kernel
theorem dJ11_lowSurrogate_5068e_7 : decode cJ11_lowSurrogate_5068e 7 = .ok (.iadd, 1) := by decide +kernel
theorem dJ11_lowSurrogate_5068e_8 : decode cJ11_lowSurrogate_5068e 8 = .ok (.i2c, 1) := by decide +kernel
theorem dJ11_lowSurrogate_5068e_9 : decode cJ11_lowSurrogate_5068e 9 = .ok (.ireturn, 1) := by decide +kernel
theorem dJ9_max_7cf53_0 : decode cJ9_max_7cf53 0 = .ok (.iload_n 0, 1) := by decide +kernel
theorem dJ9_max_7cf53_1 : decode cJ9_max_7cf53 1 = .ok (.iload_n 1, 1) := by decide +kernel
theorem dJ9_max_7cf53_2 : decode cJ9_max_7cf53 2 = .ok (.if_icmp .lt 7, 3) := by decide +kernel
theorem dJ9_max_7cf53_5 : decode cJ9_max_7cf53 5 = .ok (.iload_n 0, 1) := by decide +kernel
theorem dJ9_max_7cf53_6 : decode cJ9_max_7cf53 6 = .ok (.goto 4, 3) := by decide +kernel
theorem dJ9_max_7cf53_9 : decode cJ9_max_7cf53 9 = .ok (.iload_n 1, 1) := by decide +kernel
theorem dJ9_max_7cf53_10 : decode cJ9_max_7cf53 10 = .ok (.ireturn, 1) := by decide +kernel
theorem dJ9_min_7cf53_0 : decode cJ9_min_7cf53 0 = .ok (.iload_n 0, 1) := by decide +kernel
theorem dJ9_min_7cf53_1 : decode cJ9_min_7cf53 1 = .ok (.iload_n 1, 1) := by decide +kernel
theorem dJ9_min_7cf53_2 : decode cJ9_min_7cf53 2 = .ok (.if_icmp .gt 7, 3) := by decide +kernel
theorem dJ9_min_7cf53_5 : decode cJ9_min_7cf53 5 = .ok (.iload_n 0, 1) := by decide +kernel
theorem dJ9_min_7cf53_6 : decode cJ9_min_7cf53 6 = .ok (.goto 4, 3) := by decide +kernel
theorem dJ9_min_7cf53_9 : decode cJ9_min_7cf53 9 = .ok (.iload_n 1, 1) := by decide +kernel
theorem dJ9_min_7cf53_10 : decode cJ9_min_7cf53 10 = .ok (.ireturn, 1) := by decide +kernel
theorem dJ0_length_8abf5_0 : decode cJ0_length_8abf5 0 = .ok (.aload_n 0, 1) := by decide +kernel
theorem dJ0_length_8abf5_1 : decode cJ0_length_8abf5 1 = .ok (.getfield 9, 3) := by decide +kernel
theorem dJ0_length_8abf5_4 : decode cJ0_length_8abf5 4 = .ok (.arraylength, 1) := by decide +kernel
theorem dJ0_length_8abf5_5 : decode cJ0_length_8abf5 5 = .ok (.aload_n 0, 1) := by decide +kernel
theorem dJ0_length_8abf5_6 : decode cJ0_length_8abf5 6 = .ok (.invokevirtual 335, 3) := by decide +kernel
theorem dJ0_length_8abf5_9 : decode cJ0_length_8abf5 9 = .ok (.ishr, 1) := by decide +kernel
theorem dJ0_length_8abf5_10 : decode cJ0_length_8abf5 10 = .ok (.ireturn, 1) := by decide +kernel
theorem dJ0_charAt_5068e_0 : decode cJ0_charAt_5068e 0 = .ok (.aload_n 0, 1) := by decide +kernel
theorem dJ0_charAt_5068e_1 : decode cJ0_charAt_5068e 1 = .ok (.invokevirtual 492, 3) := by decide +kernel
theorem dJ0_charAt_5068e_4 : decode cJ0_charAt_5068e 4 = .ok (.ifCond .eq 12, 3) := by decide +kernel
theorem dJ0_charAt_5068e_7 : decode cJ0_charAt_5068e 7 = .ok (.aload_n 0, 1) := by decide +kernel
theorem dJ0_charAt_5068e_8 : decode cJ0_charAt_5068e 8 = .ok (.getfield 9, 3) := by decide +kernel
theorem dJ0_charAt_5068e_11 : decode cJ0_charAt_5068e 11 = .ok (.iload_n 1, 1) := by decide +kernel
theorem dJ0_charAt_5068e_12 : decode cJ0_charAt_5068e 12 = .ok (.invokestatic 495, 3) := by decide +kernel
theorem dJ0_charAt_5068e_15 : decode cJ0_charAt_5068e 15 = .ok (.ireturn, 1) := by decide +kernel
theorem dJ0_charAt_5068e_16 : decode cJ0_charAt_5068e 16 = .ok (.aload_n 0, 1) := by decide +kernel
theorem dJ0_charAt_5068e_17 : decode cJ0_charAt_5068e 17 = .ok (.getfield 9, 3) := by decide +kernel
theorem dJ0_charAt_5068e_20 : decode cJ0_charAt_5068e 20 = .ok (.iload_n 1, 1) := by decide +kernel
theorem dJ0_charAt_5068e_21 : decode cJ0_charAt_5068e 21 = .ok (.invokestatic 498, 3) := by decide +kernel
theorem dJ0_charAt_5068e_24 : decode cJ0_charAt_5068e 24 = .ok (.ireturn, 1) := by decide +kernel
theorem dJ0_indexOf_0f7a4_0 : decode cJ0_indexOf_0f7a4 0 = .ok (.aload_n 0, 1) := by decide +kernel
theorem dJ0_indexOf_0f7a4_1 : decode cJ0_indexOf_0f7a4 1 = .ok (.iload_n 1, 1) := by decide +kernel
theorem dJ0_indexOf_0f7a4_2 : decode cJ0_indexOf_0f7a4 2 = .ok (.iconst 0, 1) := by decide +kernel
theorem dJ0_indexOf_0f7a4_3 : decode cJ0_indexOf_0f7a4 3 = .ok (.invokevirtual 633, 3) := by decide +kernel
theorem dJ0_indexOf_0f7a4_6 : decode cJ0_indexOf_0f7a4 6 = .ok (.ireturn, 1) := by decide +kernel
theorem dJ0_indexOf_7cf53_0 : decode cJ0_indexOf_7cf53 0 = .ok (.aload_n 0, 1) := by decide +kernel
theorem dJ0_indexOf_7cf53_1 : decode cJ0_indexOf_7cf53 1 = .ok (.invokevirtual 492, 3) := by decide +kernel
theorem dJ0_indexOf_7cf53_4 : decode cJ0_indexOf_7cf53 4 = .ok (.ifCond .eq 19, 3) := by decide +kernel
theorem dJ0_indexOf_7cf53_7 : decode cJ0_indexOf_7cf53 7 = .ok (.aload_n 0, 1) := by decide +kernel
theorem dJ0_indexOf_7cf53_8 : decode cJ0_indexOf_7cf53 8 = .ok (.getfield 9, 3) := by decide +kernel
theorem dJ0_indexOf_7cf53_11 : decode cJ0_indexOf_7cf53 11 = .ok (.iload_n 1, 1) := by decide +kernel
theorem dJ0_indexOf_7cf53_12 : decode cJ0_indexOf_7cf53 12 = .ok (.iload_n 2, 1) := by decide +kernel
theorem dJ0_indexOf_7cf53_13 : decode cJ0_indexOf_7cf53 13 = .ok (.aload_n 0, 1) := by decide +kernel
theorem dJ0_indexOf_7cf53_14 : decode cJ0_indexOf_7cf53 14 = .ok (.invokevirtual 505, 3) := by decide +kernel
theorem dJ0_indexOf_7cf53_17 : decode cJ0_indexOf_7cf53 17 = .ok (.invokestatic 637, 3) := by decide +kernel
theorem dJ0_indexOf_7cf53_20 : decode cJ0_indexOf_7cf53 20 = .ok (.goto 16, 3) := by decide +kernel
theorem dJ0_indexOf_7cf53_23 : decode cJ0_indexOf_7cf53 23 = .ok (.aload_n 0, 1) := by decide +kernel
theorem dJ0_indexOf_7cf53_24 : decode cJ0_indexOf_7cf53 24 = .ok (.getfield 9, 3) := by decide +kernel
theorem dJ0_indexOf_7cf53_27 : decode cJ0_indexOf_7cf53 27 = .ok (.iload_n 1, 1) := by decide +kernel
theorem dJ0_indexOf_7cf53_28 : decode cJ0_indexOf_7cf53 28 = .ok (.iload_n 2, 1) := by decide +kernel
theorem dJ0_indexOf_7cf53_29 : decode cJ0_indexOf_7cf53 29 = .ok (.aload_n 0, 1) := by decide +kernel
theorem dJ0_indexOf_7cf53_30 : decode cJ0_indexOf_7cf53 30 = .ok (.invokevirtual 505, 3) := by decide +kernel
theorem dJ0_indexOf_7cf53_33 : decode cJ0_indexOf_7cf53 33 = .ok (.invokestatic 640, 3) := by decide +kernel
theorem dJ0_indexOf_7cf53_36 : decode cJ0_indexOf_7cf53 36 = .ok (.ireturn, 1) := by decide +kernel
theorem dJ0_coder_7d493_0 : decode cJ0_coder_7d493 0 = .ok (.getstatic 38, 3) := by decide +kernel
theorem dJ0_coder_7d493_3 : decode cJ0_coder_7d493 3 = .ok (.ifCond .eq 10, 3) := by decide +kernel
theorem dJ0_coder_7d493_6 : decode cJ0_coder_7d493 6 = .ok (.aload_n 0, 1) := by decide +kernel
theorem dJ0_coder_7d493_7 : decode cJ0_coder_7d493 7 = .ok (.getfield 15, 3) := by decide +kernel
theorem dJ0_coder_7d493_10 : decode cJ0_coder_7d493 10 = .ok (.goto 4, 3) := by decide +kernel
theorem dJ0_coder_7d493_13 : decode cJ0_coder_7d493 13 = .ok (.iconst 1, 1) := by decide +kernel
theorem dJ0_coder_7d493_14 : decode cJ0_coder_7d493 14 = .ok (.ireturn, 1) := by decide +kernel
theorem dJ0_isLatin1_aae02_0 : decode cJ0_isLatin1_aae02 0 = .ok (.getstatic 38, 3) := by decide +kernel
theorem dJ0_isLatin1_aae02_3 : decode cJ0_isLatin1_aae02 3 = .ok (.ifCond .eq 14, 3) := by decide +kernel
theorem dJ0_isLatin1_aae02_6 : decode cJ0_isLatin1_aae02 6 = .ok (.aload_n 0, 1) := by decide +kernel
theorem dJ0_isLatin1_aae02_7 : decode cJ0_isLatin1_aae02 7 = .ok (.getfield 15, 3) := by decide +kernel
theorem dJ0_isLatin1_aae02_10 : decode cJ0_isLatin1_aae02 10 = .ok (.ifCond .ne 7, 3) := by decide +kernel
theorem dJ0_isLatin1_aae02_13 : decode cJ0_isLatin1_aae02 13 = .ok (.iconst 1, 1) := by decide +kernel
theorem dJ0_isLatin1_aae02_14 : decode cJ0_isLatin1_aae02 14 = .ok (.goto 4, 3) := by decide +kernel
theorem dJ0_isLatin1_aae02_17 : decode cJ0_isLatin1_aae02 17 = .ok (.iconst 0, 1) := by decide +kernel
theorem dJ0_isLatin1_aae02_18 : decode cJ0_isLatin1_aae02 18 = .ok (.ireturn, 1) := by decide +kernel
theorem dJ0_checkIndex_df160_0 : decode cJ0_checkIndex_df160 0 = .ok (.iload_n 0, 1) := by decide +kernel
theorem dJ0_checkIndex_df160_1 : decode cJ0_checkIndex_df160 1 = .ok (.iload_n 1, 1) := by decide +kernel
theorem dJ0_checkIndex_df160_2 : decode cJ0_checkIndex_df160 2 = .ok (.getstatic 1053, 3) := by decide +kernel
theorem dJ0_checkIndex_df160_5 : decode cJ0_checkIndex_df160 5 = .ok (.invokestatic 1059, 3) := by decide +kernel
theorem dJ0_checkIndex_df160_8 : decode cJ0_checkIndex_df160 8 = .ok (.pop, 1) := by decide +kernel
theorem dJ0_checkIndex_df160_9 : decode cJ0_checkIndex_df160 9 = .ok (.return_, 1) := by decide +kernel
theorem dJ0_checkBoundsBeginEnd_23922_0 : decode cJ0_checkBoundsBeginEnd_23922 0 = .ok (.iload_n 0, 1) := by decide +kernel
theorem dJ0_checkBoundsBeginEnd_23922_1 : decode cJ0_checkBoundsBeginEnd_23922 1 = .ok (.iload_n 1, 1) := by decide +kernel
theorem dJ0_checkBoundsBeginEnd_23922_2 : decode cJ0_checkBoundsBeginEnd_23922 2 = .ok (.iload_n 2, 1) := by decide +kernel
theorem dJ0_checkBoundsBeginEnd_23922_3 : decode cJ0_checkBoundsBeginEnd_23922 3 = .ok (.getstatic 1053, 3) := by decide +kernel
theorem dJ0_checkBoundsBeginEnd_23922_6 : decode cJ0_checkBoundsBeginEnd_23922 6 = .ok (.invokestatic 1062, 3) := by decide +kernel
theorem dJ0_checkBoundsBeginEnd_23922_9 : decode cJ0_checkBoundsBeginEnd_23922 9 = .ok (.pop, 1) := by decide +kernel
theorem dJ0_checkBoundsBeginEnd_23922_10 : decode cJ0_checkBoundsBeginEnd_23922 10 = .ok (.return_, 1) := by decide +kernel
theorem dJ1_charAt_3b067_0 : decode cJ1_charAt_3b067 0 = .ok (.iload_n 1, 1) := by decide +kernel
theorem dJ1_charAt_3b067_1 : decode cJ1_charAt_3b067 1 = .ok (.aload_n 0, 1) := by decide +kernel
theorem dJ1_charAt_3b067_2 : decode cJ1_charAt_3b067 2 = .ok (.arraylength, 1) := by decide +kernel
theorem dJ1_charAt_3b067_3 : decode cJ1_charAt_3b067 3 = .ok (.invokestatic 9, 3) := by decide +kernel
theorem dJ1_charAt_3b067_6 : decode cJ1_charAt_3b067 6 = .ok (.aload_n 0, 1) := by decide +kernel
theorem dJ1_charAt_3b067_7 : decode cJ1_charAt_3b067 7 = .ok (.iload_n 1, 1) := by decide +kernel
theorem dJ1_charAt_3b067_8 : decode cJ1_charAt_3b067 8 = .ok (.baload, 1) := by decide +kernel
theorem dJ1_charAt_3b067_9 : decode cJ1_charAt_3b067 9 = .ok (.sipush 255, 3) := by decide +kernel
theorem dJ1_charAt_3b067_12 : decode cJ1_charAt_3b067 12 = .ok (.iand, 1) := by decide +kernel
theorem dJ1_charAt_3b067_13 : decode cJ1_charAt_3b067 13 = .ok (.i2c, 1) := by decide +kernel
theorem dJ1_charAt_3b067_14 : decode cJ1_charAt_3b067 14 = .ok (.ireturn, 1) := by decide +kernel
theorem dJ1_canEncode_9a6ad_0 : decode cJ1_canEncode_9a6ad 0 = .ok (.iload_n 0, 1) := by decide +kernel
theorem dJ1_canEncode_9a6ad_1 : decode cJ1_canEncode_9a6ad 1 = .ok (.ifCond .lt 14, 3) := by decide +kernel
theorem dJ1_canEncode_9a6ad_4 : decode cJ1_canEncode_9a6ad 4 = .ok (.iload_n 0, 1) := by decide +kernel
theorem dJ1_canEncode_9a6ad_5 : decode cJ1_canEncode_9a6ad 5 = .ok (.sipush 255, 3) := by decide +kernel
theorem dJ1_canEncode_9a6ad_8 : decode cJ1_canEncode_9a6ad 8 = .ok (.if_icmp .gt 7, 3) := by decide +kernel
theorem dJ1_canEncode_9a6ad_11 : decode cJ1_canEncode_9a6ad 11 = .ok (.iconst 1, 1) := by decide +kernel
theorem dJ1_canEncode_9a6ad_12 : decode cJ1_canEncode_9a6ad 12 = .ok (.goto 4, 3) := by decide +kernel
theorem dJ1_canEncode_9a6ad_15 : decode cJ1_canEncode_9a6ad 15 = .ok (.iconst 0, 1) := by decide +kernel
theorem dJ1_canEncode_9a6ad_16 : decode cJ1_canEncode_9a6ad 16 = .ok (.ireturn, 1) := by decide +kernel
theorem dJ1_indexOf_4cfef_0 : decode cJ1_indexOf_4cfef 0 = .ok (.iload_n 1, 1) := by decide +kernel
theorem dJ1_indexOf_4cfef_1 : decode cJ1_indexOf_4cfef 1 = .ok (.invokestatic 88, 3) := by decide +kernel
theorem dJ1_indexOf_4cfef_4 : decode cJ1_indexOf_4cfef 4 = .ok (.ifCond .ne 5, 3) := by decide +kernel
theorem dJ1_indexOf_4cfef_7 : decode cJ1_indexOf_4cfef 7 = .ok (.iconst (-1), 1) := by decide +kernel
theorem dJ1_indexOf_4cfef_8 : decode cJ1_indexOf_4cfef 8 = .ok (.ireturn, 1) := by decide +kernel
theorem dJ1_indexOf_4cfef_9 : decode cJ1_indexOf_4cfef 9 = .ok (.iload_n 2, 1) := by decide +kernel
theorem dJ1_indexOf_4cfef_10 : decode cJ1_indexOf_4cfef 10 = .ok (.iconst 0, 1) := by decide +kernel
theorem dJ1_indexOf_4cfef_11 : decode cJ1_indexOf_4cfef 11 = .ok (.invokestatic 92, 3) := by decide +kernel
theorem dJ1_indexOf_4cfef_14 : decode cJ1_indexOf_4cfef 14 = .ok (.istore_n 2, 1) := by decide +kernel
theorem dJ1_indexOf_4cfef_15 : decode cJ1_indexOf_4cfef 15 = .ok (.iload_n 3, 1) := by decide +kernel
theorem dJ1_indexOf_4cfef_16 : decode cJ1_indexOf_4cfef 16 = .ok (.aload_n 0, 1) := by decide +kernel
theorem dJ1_indexOf_4cfef_17 : decode cJ1_indexOf_4cfef 17 = .ok (.arraylength, 1) := by decide +kernel
theorem dJ1_indexOf_4cfef_18 : decode cJ1_indexOf_4cfef 18 = .ok (.invokestatic 38, 3) := by decide +kernel
theorem dJ1_indexOf_4cfef_21 : decode cJ1_indexOf_4cfef 21 = .ok (.istore_n 3, 1) := by decide +kernel
theorem dJ1_indexOf_4cfef_22 : decode cJ1_indexOf_4cfef 22 = .ok (.iload_n 2, 1) := by decide +kernel
theorem dJ1_indexOf_4cfef_23 : decode cJ1_indexOf_4cfef 23 = .ok (.iload_n 3, 1) := by decide +kernel
theorem dJ1_indexOf_4cfef_24 : decode cJ1_indexOf_4cfef 24 = .ok (.if_icmp .lt 5, 3) := by decide +kernel
theorem dJ1_indexOf_4cfef_27 : decode cJ1_indexOf_4cfef 27 = .ok (.iconst (-1), 1) := by decide +kernel
theorem dJ1_indexOf_4cfef_28 : decode cJ1_indexOf_4cfef 28 = .ok (.ireturn, 1) := by decide +kernel
theorem dJ1_indexOf_4cfef_29 : decode cJ1_indexOf_4cfef 29 = .ok (.aload_n 0, 1) := by decide +kernel
theorem dJ1_indexOf_4cfef_30 : decode cJ1_indexOf_4cfef 30 = .ok (.iload_n 1, 1) := by decide +kernel
theorem dJ1_indexOf_4cfef_31 : decode cJ1_indexOf_4cfef 31 = .ok (.iload_n 2, 1) := by decide +kernel
theorem dJ1_indexOf_4cfef_32 : decode cJ1_indexOf_4cfef 32 = .ok (.iload_n 3, 1) := by decide +kernel
theorem dJ1_indexOf_4cfef_33 : decode cJ1_indexOf_4cfef 33 = .ok (.invokestatic 95, 3) := by decide +kernel
theorem dJ1_indexOf_4cfef_36 : decode cJ1_indexOf_4cfef 36 = .ok (.ireturn, 1) := by decide +kernel
theorem dJ1_indexOfChar_4cfef_0 : decode cJ1_indexOfChar_4cfef 0 = .ok (.iload_n 1, 1) := by decide +kernel
theorem dJ1_indexOfChar_4cfef_1 : decode cJ1_indexOfChar_4cfef 1 = .ok (.i2b, 1) := by decide +kernel
theorem dJ1_indexOfChar_4cfef_2 : decode cJ1_indexOfChar_4cfef 2 = .ok (.istore 4, 2) := by decide +kernel
theorem dJ1_indexOfChar_4cfef_4 : decode cJ1_indexOfChar_4cfef 4 = .ok (.iload_n 2, 1) := by decide +kernel
theorem dJ1_indexOfChar_4cfef_5 : decode cJ1_indexOfChar_4cfef 5 = .ok (.istore 5, 2) := by decide +kernel
theorem dJ1_indexOfChar_4cfef_7 : decode cJ1_indexOfChar_4cfef 7 = .ok (.iload 5, 2) := by decide +kernel
theorem dJ1_indexOfChar_4cfef_9 : decode cJ1_indexOfChar_4cfef 9 = .ok (.iload_n 3, 1) := by decide +kernel
theorem dJ1_indexOfChar_4cfef_10 : decode cJ1_indexOfChar_4cfef 10 = .ok (.if_icmp .ge 21, 3) := by decide +kernel
theorem dJ1_indexOfChar_4cfef_13 : decode cJ1_indexOfChar_4cfef 13 = .ok (.aload_n 0, 1) := by decide +kernel
theorem dJ1_indexOfChar_4cfef_14 : decode cJ1_indexOfChar_4cfef 14 = .ok (.iload 5, 2) := by decide +kernel
theorem dJ1_indexOfChar_4cfef_16 : decode cJ1_indexOfChar_4cfef 16 = .ok (.baload, 1) := by decide +kernel
theorem dJ1_indexOfChar_4cfef_17 : decode cJ1_indexOfChar_4cfef 17 = .ok (.iload 4, 2) := by decide +kernel
theorem dJ1_indexOfChar_4cfef_19 : decode cJ1_indexOfChar_4cfef 19 = .ok (.if_icmp .ne 6, 3) := by decide +kernel
theorem dJ1_indexOfChar_4cfef_22 : decode cJ1_indexOfChar_4cfef 22 = .ok (.iload 5, 2) := by decide +kernel
theorem dJ1_indexOfChar_4cfef_24 : decode cJ1_indexOfChar_4cfef 24 = .ok (.ireturn, 1) := by decide +kernel
theorem dJ1_indexOfChar_4cfef_25 : decode cJ1_indexOfChar_4cfef 25 = .ok (.iinc 5 1, 3) := by decide +kernel
theorem dJ1_indexOfChar_4cfef_28 : decode cJ1_indexOfChar_4cfef 28 = .ok (.goto (-21), 3) := by decide +kernel
theorem dJ1_indexOfChar_4cfef_31 : decode cJ1_indexOfChar_4cfef 31 = .ok (.iconst (-1), 1) := by decide +kernel
theorem dJ1_indexOfChar_4cfef_32 : decode cJ1_indexOfChar_4cfef 32 = .ok (.ireturn, 1) := by decide +kernel
theorem dJ2_getChar_3b067_0 : decode cJ2_getChar_3b067 0 = .ok (.getstatic 44, 3) := by decide +kernel
theorem dJ2_getChar_3b067_3 : decode cJ2_getChar_3b067 3 = .ok (.ifCond .ne 25, 3) := by decide +kernel
theorem dJ2_getChar_3b067_6 : decode cJ2_getChar_3b067 6 = .ok (.iload_n 1, 1) := by decide +kernel
theorem dJ2_getChar_3b067_7 : decode cJ2_getChar_3b067 7 = .ok (.ifCond .lt 11, 3) := by decide +kernel
theorem dJ2_getChar_3b067_10 : decode cJ2_getChar_3b067 10 = .ok (.iload_n 1, 1) := by decide +kernel
theorem dJ2_getChar_3b067_11 : decode cJ2_getChar_3b067 11 = .ok (.aload_n 0, 1) := by decide +kernel
theorem dJ2_getChar_3b067_12 : decode cJ2_getChar_3b067 12 = .ok (.invokestatic 48, 3) := by decide +kernel
theorem dJ2_getChar_3b067_15 : decode cJ2_getChar_3b067 15 = .ok (.if_icmp .lt 13, 3) := by decide +kernel
theorem dJ2_getChar_3b067_18 : decode cJ2_getChar_3b067 18 = .ok (.new 52, 3) := by decide +kernel
theorem dJ2_getChar_3b067_21 : decode cJ2_getChar_3b067 21 = .ok (.dup, 1) := by decide +kernel
theorem dJ2_getChar_3b067_22 : decode cJ2_getChar_3b067 22 = .ok (.ldc 54, 2) := by decide +kernel
theorem dJ2_getChar_3b067_24 : decode cJ2_getChar_3b067 24 = .ok (.invokespecial 56, 3) := by decide +kernel
theorem dJ2_getChar_3b067_27 : decode cJ2_getChar_3b067 27 = .ok (.athrow, 1) := by decide +kernel
theorem dJ2_getChar_3b067_28 : decode cJ2_getChar_3b067 28 = .ok (.iload_n 1, 1) := by decide +kernel
theorem dJ2_getChar_3b067_29 : decode cJ2_getChar_3b067 29 = .ok (.iconst 1, 1) := by decide +kernel
theorem dJ2_getChar_3b067_30 : decode cJ2_getChar_3b067 30 = .ok (.ishl, 1) := by decide +kernel
theorem dJ2_getChar_3b067_31 : decode cJ2_getChar_3b067 31 = .ok (.istore_n 1, 1) := by decide +kernel
theorem dJ2_getChar_3b067_32 : decode cJ2_getChar_3b067 32 = .ok (.aload_n 0, 1) := by decide +kernel
theorem dJ2_getChar_3b067_33 : decode cJ2_getChar_3b067 33 = .ok (.iload_n 1, 1) := by decide +kernel
theorem dJ2_getChar_3b067_34 : decode cJ2_getChar_3b067 34 = .ok (.iinc 1 1, 3) := by decide +kernel
theorem dJ2_getChar_3b067_37 : decode cJ2_getChar_3b067 37 = .ok (.baload, 1) := by decide +kernel
theorem dJ2_getChar_3b067_38 : decode cJ2_getChar_3b067 38 = .ok (.sipush 255, 3) := by decide +kernel
theorem dJ2_getChar_3b067_41 : decode cJ2_getChar_3b067 41 = .ok (.iand, 1) := by decide +kernel
theorem dJ2_getChar_3b067_42 : decode cJ2_getChar_3b067 42 = .ok (.getstatic 59, 3) := by decide +kernel
theorem dJ2_getChar_3b067_45 : decode cJ2_getChar_3b067 45 = .ok (.ishl, 1) := by decide +kernel
theorem dJ2_getChar_3b067_46 : decode cJ2_getChar_3b067 46 = .ok (.aload_n 0, 1) := by decide +kernel
theorem dJ2_getChar_3b067_47 : decode cJ2_getChar_3b067 47 = .ok (.iload_n 1, 1) := by decide +kernel
theorem dJ2_getChar_3b067_48 : decode cJ2_getChar_3b067 48 = .ok (.baload, 1) := by decide +kernel
theorem dJ2_getChar_3b067_49 : decode cJ2_getChar_3b067 49 = .ok (.sipush 255, 3) := by decide +kernel
theorem dJ2_getChar_3b067_52 : decode cJ2_getChar_3b067 52 = .ok (.iand, 1) := by decide +kernel
theorem dJ2_getChar_3b067_53 : decode cJ2_getChar_3b067 53 = .ok (.getstatic 63, 3) := by decide +kernel
theorem dJ2_getChar_3b067_56 : decode cJ2_getChar_3b067 56 = .ok (.ishl, 1) := by decide +kernel
theorem dJ2_getChar_3b067_57 : decode cJ2_getChar_3b067 57 = .ok (.ior, 1) := by decide +kernel
theorem dJ2_getChar_3b067_58 : decode cJ2_getChar_3b067 58 = .ok (.i2c, 1) := by decide +kernel
theorem dJ2_getChar_3b067_59 : decode cJ2_getChar_3b067 59 = .ok (.ireturn, 1) := by decide +kernel
theorem dJ2_length_9d52b_0 : decode cJ2_length_9d52b 0 = .ok (.aload_n 0, 1) := by decide +kernel
theorem dJ2_length_9d52b_1 : decode cJ2_length_9d52b 1 = .ok (.arraylength, 1) := by decide +kernel
theorem dJ2_length_9d52b_2 : decode cJ2_length_9d52b 2 = .ok (.iconst 1, 1) := by decide +kernel
theorem dJ2_length_9d52b_3 : decode cJ2_length_9d52b 3 = .ok (.ishr, 1) := by decide +kernel
theorem dJ2_length_9d52b_4 : decode cJ2_length_9d52b 4 = .ok (.ireturn, 1) := by decide +kernel
theorem dJ2_indexOf_4cfef_0 : decode cJ2_indexOf_4cfef 0 = .ok (.iload_n 2, 1) := by decide +kernel
theorem dJ2_indexOf_4cfef_1 : decode cJ2_indexOf_4cfef 1 = .ok (.iconst 0, 1) := by decide +kernel
theorem dJ2_indexOf_4cfef_2 : decode cJ2_indexOf_4cfef 2 = .ok (.invokestatic 224, 3) := by decide +kernel
theorem dJ2_indexOf_4cfef_5 : decode cJ2_indexOf_4cfef 5 = .ok (.istore_n 2, 1) := by decide +kernel
theorem dJ2_indexOf_4cfef_6 : decode cJ2_indexOf_4cfef 6 = .ok (.iload_n 3, 1) := by decide +kernel
theorem dJ2_indexOf_4cfef_7 : decode cJ2_indexOf_4cfef 7 = .ok (.aload_n 0, 1) := by decide +kernel
theorem dJ2_indexOf_4cfef_8 : decode cJ2_indexOf_4cfef 8 = .ok (.arraylength, 1) := by decide +kernel
theorem dJ2_indexOf_4cfef_9 : decode cJ2_indexOf_4cfef 9 = .ok (.iconst 1, 1) := by decide +kernel
theorem dJ2_indexOf_4cfef_10 : decode cJ2_indexOf_4cfef 10 = .ok (.ishr, 1) := by decide +kernel
theorem dJ2_indexOf_4cfef_11 : decode cJ2_indexOf_4cfef 11 = .ok (.invokestatic 183, 3) := by decide +kernel
theorem dJ2_indexOf_4cfef_14 : decode cJ2_indexOf_4cfef 14 = .ok (.istore_n 3, 1) := by decide +kernel
theorem dJ2_indexOf_4cfef_15 : decode cJ2_indexOf_4cfef 15 = .ok (.iload_n 2, 1) := by decide +kernel
theorem dJ2_indexOf_4cfef_16 : decode cJ2_indexOf_4cfef 16 = .ok (.iload_n 3, 1) := by decide +kernel
theorem dJ2_indexOf_4cfef_17 : decode cJ2_indexOf_4cfef 17 = .ok (.if_icmp .lt 5, 3) := by decide +kernel
theorem dJ2_indexOf_4cfef_20 : decode cJ2_indexOf_4cfef 20 = .ok (.iconst (-1), 1) := by decide +kernel
theorem dJ2_indexOf_4cfef_21 : decode cJ2_indexOf_4cfef 21 = .ok (.ireturn, 1) := by decide +kernel
theorem dJ2_indexOf_4cfef_22 : decode cJ2_indexOf_4cfef 22 = .ok (.iload_n 1, 1) := by decide +kernel
theorem dJ2_indexOf_4cfef_23 : decode cJ2_indexOf_4cfef 23 = .ok (.ldc 227, 2) := by decide +kernel
theorem dJ2_indexOf_4cfef_25 : decode cJ2_indexOf_4cfef 25 = .ok (.if_icmp .ge 11, 3) := by decide +kernel
theorem dJ2_indexOf_4cfef_28 : decode cJ2_indexOf_4cfef 28 = .ok (.aload_n 0, 1) := by decide +kernel
theorem dJ2_indexOf_4cfef_29 : decode cJ2_indexOf_4cfef 29 = .ok (.iload_n 1, 1) := by decide +kernel
theorem dJ2_indexOf_4cfef_30 : decode cJ2_indexOf_4cfef 30 = .ok (.iload_n 2, 1) := by decide +kernel
theorem dJ2_indexOf_4cfef_31 : decode cJ2_indexOf_4cfef 31 = .ok (.iload_n 3, 1) := by decide +kernel
theorem dJ2_indexOf_4cfef_32 : decode cJ2_indexOf_4cfef 32 = .ok (.invokestatic 228, 3) := by decide +kernel
theorem dJ2_indexOf_4cfef_35 : decode cJ2_indexOf_4cfef 35 = .ok (.ireturn, 1) := by decide +kernel
theorem dJ2_indexOf_4cfef_36 : decode cJ2_indexOf_4cfef 36 = .ok (.aload_n 0, 1) := by decide +kernel
theorem dJ2_indexOf_4cfef_37 : decode cJ2_indexOf_4cfef 37 = .ok (.iload_n 1, 1) := by decide +kernel
theorem dJ2_indexOf_4cfef_38 : decode cJ2_indexOf_4cfef 38 = .ok (.iload_n 2, 1) := by decide +kernel
theorem dJ2_indexOf_4cfef_39 : decode cJ2_indexOf_4cfef 39 = .ok (.iload_n 3, 1) := by decide +kernel
theorem dJ2_indexOf_4cfef_40 : decode cJ2_indexOf_4cfef 40 = .ok (.invokestatic 232, 3) := by decide +kernel
theorem dJ2_indexOf_4cfef_43 : decode cJ2_indexOf_4cfef 43 = .ok (.ireturn, 1) := by decide +kernel
theorem dJ2_indexOfChar_4cfef_0 : decode cJ2_indexOfChar_4cfef 0 = .ok (.iload_n 2, 1) := by decide +kernel
theorem dJ2_indexOfChar_4cfef_1 : decode cJ2_indexOfChar_4cfef 1 = .ok (.iload_n 3, 1) := by decide +kernel
theorem dJ2_indexOfChar_4cfef_2 : decode cJ2_indexOfChar_4cfef 2 = .ok (.aload_n 0, 1) := by decide +kernel
theorem dJ2_indexOfChar_4cfef_3 : decode cJ2_indexOfChar_4cfef 3 = .ok (.invokestatic 96, 3) := by decide +kernel
theorem dJ2_indexOfChar_4cfef_6 : decode cJ2_indexOfChar_4cfef 6 = .ok (.aload_n 0, 1) := by decide +kernel
theorem dJ2_indexOfChar_4cfef_7 : decode cJ2_indexOfChar_4cfef 7 = .ok (.iload_n 1, 1) := by decide +kernel
theorem dJ2_indexOfChar_4cfef_8 : decode cJ2_indexOfChar_4cfef 8 = .ok (.iload_n 2, 1) := by decide +kernel
theorem dJ2_indexOfChar_4cfef_9 : decode cJ2_indexOfChar_4cfef 9 = .ok (.iload_n 3, 1) := by decide +kernel
theorem dJ2_indexOfChar_4cfef_10 : decode cJ2_indexOfChar_4cfef 10 = .ok (.invokestatic 244, 3) := by decide +kernel
theorem dJ2_indexOfChar_4cfef_13 : decode cJ2_indexOfChar_4cfef 13 = .ok (.ireturn, 1) := by decide +kernel
theorem dJ2_indexOfCharUnsafe_4cfef_0 : decode cJ2_indexOfCharUnsafe_4cfef 0 = .ok (.iload_n 2, 1) := by decide +kernel
theorem dJ2_indexOfCharUnsafe_4cfef_1 : decode cJ2_indexOfCharUnsafe_4cfef 1 = .ok (.istore 4, 2) := by decide +kernel
theorem dJ2_indexOfCharUnsafe_4cfef_3 : decode cJ2_indexOfCharUnsafe_4cfef 3 = .ok (.iload 4, 2) := by decide +kernel
theorem dJ2_indexOfCharUnsafe_4cfef_5 : decode cJ2_indexOfCharUnsafe_4cfef 5 = .ok (.iload_n 3, 1) := by decide +kernel
theorem dJ2_indexOfCharUnsafe_4cfef_6 : decode cJ2_indexOfCharUnsafe_4cfef 6 = .ok (.if_icmp .ge 22, 3) := by decide +kernel
theorem dJ2_indexOfCharUnsafe_4cfef_9 : decode cJ2_indexOfCharUnsafe_4cfef 9 = .ok (.aload_n 0, 1) := by decide +kernel
theorem dJ2_indexOfCharUnsafe_4cfef_10 : decode cJ2_indexOfCharUnsafe_4cfef 10 = .ok (.iload 4, 2) := by decide +kernel
theorem dJ2_indexOfCharUnsafe_4cfef_12 : decode cJ2_indexOfCharUnsafe_4cfef 12 = .ok (.invokestatic 71, 3) := by decide +kernel
theorem dJ2_indexOfCharUnsafe_4cfef_15 : decode cJ2_indexOfCharUnsafe_4cfef 15 = .ok (.iload_n 1, 1) := by decide +kernel
theorem dJ2_indexOfCharUnsafe_4cfef_16 : decode cJ2_indexOfCharUnsafe_4cfef 16 = .ok (.if_icmp .ne 6, 3) := by decide +kernel
theorem dJ2_indexOfCharUnsafe_4cfef_19 : decode cJ2_indexOfCharUnsafe_4cfef 19 = .ok (.iload 4, 2) := by decide +kernel
theorem dJ2_indexOfCharUnsafe_4cfef_21 : decode cJ2_indexOfCharUnsafe_4cfef 21 = .ok (.ireturn, 1) := by decide +kernel
theorem dJ2_indexOfCharUnsafe_4cfef_22 : decode cJ2_indexOfCharUnsafe_4cfef 22 = .ok (.iinc 4 1, 3) := by decide +kernel
theorem dJ2_indexOfCharUnsafe_4cfef_25 : decode cJ2_indexOfCharUnsafe_4cfef 25 = .ok (.goto (-22), 3) := by decide +kernel
theorem dJ2_indexOfCharUnsafe_4cfef_28 : decode cJ2_indexOfCharUnsafe_4cfef 28 = .ok (.iconst (-1), 1) := by decide +kernel
theorem dJ2_indexOfCharUnsafe_4cfef_29 : decode cJ2_indexOfCharUnsafe_4cfef 29 = .ok (.ireturn, 1) := by decide +kernel
theorem dJ2_indexOfSupplementary_4cfef_0 : decode cJ2_indexOfSupplementary_4cfef 0 = .ok (.iload_n 1, 1) := by decide +kernel
theorem dJ2_indexOfSupplementary_4cfef_1 : decode cJ2_indexOfSupplementary_4cfef 1 = .ok (.invokestatic 164, 3) := by decide +kernel
theorem dJ2_indexOfSupplementary_4cfef_4 : decode cJ2_indexOfSupplementary_4cfef 4 = .ok (.ifCond .eq 65, 3) := by decide +kernel
theorem dJ2_indexOfSupplementary_4cfef_7 : decode cJ2_indexOfSupplementary_4cfef 7 = .ok (.iload_n 1, 1) := by decide +kernel
theorem dJ2_indexOfSupplementary_4cfef_8 : decode cJ2_indexOfSupplementary_4cfef 8 = .ok (.invokestatic 157, 3) := by decide +kernel
theorem dJ2_indexOfSupplementary_4cfef_11 : decode cJ2_indexOfSupplementary_4cfef 11 = .ok (.istore 4, 2) := by decide +kernel
theorem dJ2_indexOfSupplementary_4cfef_13 : decode cJ2_indexOfSupplementary_4cfef 13 = .ok (.iload_n 1, 1) := by decide +kernel
theorem dJ2_indexOfSupplementary_4cfef_14 : decode cJ2_indexOfSupplementary_4cfef 14 = .ok (.invokestatic 161, 3) := by decide +kernel
theorem dJ2_indexOfSupplementary_4cfef_17 : decode cJ2_indexOfSupplementary_4cfef 17 = .ok (.istore 5, 2) := by decide +kernel
theorem dJ2_indexOfSupplementary_4cfef_19 : decode cJ2_indexOfSupplementary_4cfef 19 = .ok (.iload_n 2, 1) := by decide +kernel
theorem dJ2_indexOfSupplementary_4cfef_20 : decode cJ2_indexOfSupplementary_4cfef 20 = .ok (.iload_n 3, 1) := by decide +kernel
theorem dJ2_indexOfSupplementary_4cfef_21 : decode cJ2_indexOfSupplementary_4cfef 21 = .ok (.aload_n 0, 1) := by decide +kernel
theorem dJ2_indexOfSupplementary_4cfef_22 : decode cJ2_indexOfSupplementary_4cfef 22 = .ok (.invokestatic 96, 3) := by decide +kernel
theorem dJ2_indexOfSupplementary_4cfef_25 : decode cJ2_indexOfSupplementary_4cfef 25 = .ok (.iload_n 2, 1) := by decide +kernel
theorem dJ2_indexOfSupplementary_4cfef_26 : decode cJ2_indexOfSupplementary_4cfef 26 = .ok (.istore 6, 2) := by decide +kernel
theorem dJ2_indexOfSupplementary_4cfef_28 : decode cJ2_indexOfSupplementary_4cfef 28 = .ok (.iload 6, 2) := by decide +kernel
theorem dJ2_indexOfSupplementary_4cfef_30 : decode cJ2_indexOfSupplementary_4cfef 30 = .ok (.iload_n 3, 1) := by decide +kernel
theorem dJ2_indexOfSupplementary_4cfef_31 : decode cJ2_indexOfSupplementary_4cfef 31 = .ok (.iconst 1, 1) := by decide +kernel
theorem dJ2_indexOfSupplementary_4cfef_32 : decode cJ2_indexOfSupplementary_4cfef 32 = .ok (.isub, 1) := by decide +kernel
theorem dJ2_indexOfSupplementary_4cfef_33 : decode cJ2_indexOfSupplementary_4cfef 33 = .ok (.if_icmp .ge 36, 3) := by decide +kernel
theorem dJ2_indexOfSupplementary_4cfef_36 : decode cJ2_indexOfSupplementary_4cfef 36 = .ok (.aload_n 0, 1) := by decide +kernel
theorem dJ2_indexOfSupplementary_4cfef_37 : decode cJ2_indexOfSupplementary_4cfef 37 = .ok (.iload 6, 2) := by decide +kernel
theorem dJ2_indexOfSupplementary_4cfef_39 : decode cJ2_indexOfSupplementary_4cfef 39 = .ok (.invokestatic 71, 3) := by decide +kernel
theorem dJ2_indexOfSupplementary_4cfef_42 : decode cJ2_indexOfSupplementary_4cfef 42 = .ok (.iload 4, 2) := by decide +kernel
theorem dJ2_indexOfSupplementary_4cfef_44 : decode cJ2_indexOfSupplementary_4cfef 44 = .ok (.if_icmp .ne 19, 3) := by decide +kernel
theorem dJ2_indexOfSupplementary_4cfef_47 : decode cJ2_indexOfSupplementary_4cfef 47 = .ok (.aload_n 0, 1) := by decide +kernel
theorem dJ2_indexOfSupplementary_4cfef_48 : decode cJ2_indexOfSupplementary_4cfef 48 = .ok (.iload 6, 2) := by decide +kernel
theorem dJ2_indexOfSupplementary_4cfef_50 : decode cJ2_indexOfSupplementary_4cfef 50 = .ok (.iconst 1, 1) := by decide +kernel
theorem dJ2_indexOfSupplementary_4cfef_51 : decode cJ2_indexOfSupplementary_4cfef 51 = .ok (.iadd, 1) := by decide +kernel
theorem dJ2_indexOfSupplementary_4cfef_52 : decode cJ2_indexOfSupplementary_4cfef 52 = .ok (.invokestatic 71, 3) := by decide +kernel
theorem dJ2_indexOfSupplementary_4cfef_55 : decode cJ2_indexOfSupplementary_4cfef 55 = .ok (.iload 5, 2) := by decide +kernel
theorem dJ2_indexOfSupplementary_4cfef_57 : decode cJ2_indexOfSupplementary_4cfef 57 = .ok (.if_icmp .ne 6, 3) := by decide +kernel
theorem dJ2_indexOfSupplementary_4cfef_60 : decode cJ2_indexOfSupplementary_4cfef 60 = .ok (.iload 6, 2) := by decide +kernel
theorem dJ2_indexOfSupplementary_4cfef_62 : decode cJ2_indexOfSupplementary_4cfef 62 = .ok (.ireturn, 1) := by decide +kernel
theorem dJ2_indexOfSupplementary_4cfef_63 : decode cJ2_indexOfSupplementary_4cfef 63 = .ok (.iinc 6 1, 3) := by decide +kernel
theorem dJ2_indexOfSupplementary_4cfef_66 : decode cJ2_indexOfSupplementary_4cfef 66 = .ok (.goto (-38), 3) := by decide +kernel
theorem dJ2_indexOfSupplementary_4cfef_69 : decode cJ2_indexOfSupplementary_4cfef 69 = .ok (.iconst (-1), 1) := by decide +kernel
theorem dJ2_indexOfSupplementary_4cfef_70 : decode cJ2_indexOfSupplementary_4cfef 70 = .ok (.ireturn, 1) := by decide +kernel
theorem dJ2_charAt_3b067_0 : decode cJ2_charAt_3b067 0 = .ok (.iload_n 1, 1) := by decide +kernel
theorem dJ2_charAt_3b067_1 : decode cJ2_charAt_3b067 1 = .ok (.aload_n 0, 1) := by decide +kernel
theorem dJ2_charAt_3b067_2 : decode cJ2_charAt_3b067 2 = .ok (.invokestatic 67, 3) := by decide +kernel
theorem dJ2_charAt_3b067_5 : decode cJ2_charAt_3b067 5 = .ok (.aload_n 0, 1) := by decide +kernel
theorem dJ2_charAt_3b067_6 : decode cJ2_charAt_3b067 6 = .ok (.iload_n 1, 1) := by decide +kernel
theorem dJ2_charAt_3b067_7 : decode cJ2_charAt_3b067 7 = .ok (.invokestatic 71, 3) := by decide +kernel
theorem dJ2_charAt_3b067_10 : decode cJ2_charAt_3b067 10 = .ok (.ireturn, 1) := by decide +kernel
theorem dJ2_checkIndex_2214a_0 : decode cJ2_checkIndex_2214a 0 = .ok (.iload_n 0, 1) := by decide +kernel
theorem dJ2_checkIndex_2214a_1 : decode cJ2_checkIndex_2214a 1 = .ok (.aload_n 1, 1) := by decide +kernel
theorem dJ2_checkIndex_2214a_2 : decode cJ2_checkIndex_2214a 2 = .ok (.invokestatic 48, 3) := by decide +kernel
theorem dJ2_checkIndex_2214a_5 : decode cJ2_checkIndex_2214a 5 = .ok (.invokestatic 414, 3) := by decide +kernel
theorem dJ2_checkIndex_2214a_8 : decode cJ2_checkIndex_2214a 8 = .ok (.return_, 1) := by decide +kernel
theorem dJ2_checkBoundsBeginEnd_d044e_0 : decode cJ2_checkBoundsBeginEnd_d044e 0 = .ok (.iload_n 0, 1) := by decide +kernel
theorem dJ2_checkBoundsBeginEnd_d044e_1 : decode cJ2_checkBoundsBeginEnd_d044e 1 = .ok (.iload_n 1, 1) := by decide +kernel
theorem dJ2_checkBoundsBeginEnd_d044e_2 : decode cJ2_checkBoundsBeginEnd_d044e 2 = .ok (.aload_n 2, 1) := by decide +kernel
theorem dJ2_checkBoundsBeginEnd_d044e_3 : decode cJ2_checkBoundsBeginEnd_d044e 3 = .ok (.invokestatic 48, 3) := by decide +kernel
theorem dJ2_checkBoundsBeginEnd_d044e_6 : decode cJ2_checkBoundsBeginEnd_d044e 6 = .ok (.invokestatic 241, 3) := by decide +kernel
theorem dJ2_checkBoundsBeginEnd_d044e_9 : decode cJ2_checkBoundsBeginEnd_d044e 9 = .ok (.return_, 1) := by decide +kernel
theorem dJ7_fill_d0a16_0 : decode cJ7_fill_d0a16 0 = .ok (.iconst 0, 1) := by decide +kernel
theorem dJ7_fill_d0a16_1 : decode cJ7_fill_d0a16 1 = .ok (.istore_n 3, 1) := by decide +kernel
theorem dJ7_fill_d0a16_2 : decode cJ7_fill_d0a16 2 = .ok (.aload_n 0, 1) := by decide +kernel
theorem dJ7_fill_d0a16_3 : decode cJ7_fill_d0a16 3 = .ok (.arraylength, 1) := by decide +kernel
theorem dJ7_fill_d0a16_4 : decode cJ7_fill_d0a16 4 = .ok (.istore 4, 2) := by decide +kernel
theorem dJ7_fill_d0a16_6 : decode cJ7_fill_d0a16 6 = .ok (.iload_n 3, 1) := by decide +kernel
theorem dJ7_fill_d0a16_7 : decode cJ7_fill_d0a16 7 = .ok (.iload 4, 2) := by decide +kernel
theorem dJ7_fill_d0a16_9 : decode cJ7_fill_d0a16 9 = .ok (.if_icmp .ge 13, 3) := by decide +kernel
theorem dJ7_fill_d0a16_12 : decode cJ7_fill_d0a16 12 = .ok (.aload_n 0, 1) := by decide +kernel
theorem dJ7_fill_d0a16_13 : decode cJ7_fill_d0a16 13 = .ok (.iload_n 3, 1) := by decide +kernel
theorem dJ7_fill_d0a16_14 : decode cJ7_fill_d0a16 14 = .ok (.lload_n 1, 1) := by decide +kernel
theorem dJ7_fill_d0a16_15 : decode cJ7_fill_d0a16 15 = .ok (.lastore, 1) := by decide +kernel
theorem dJ7_fill_d0a16_16 : decode cJ7_fill_d0a16 16 = .ok (.iinc 3 1, 3) := by decide +kernel
theorem dJ7_fill_d0a16_19 : decode cJ7_fill_d0a16 19 = .ok (.goto (-13), 3) := by decide +kernel
theorem dJ7_fill_d0a16_22 : decode cJ7_fill_d0a16 22 = .ok (.return_, 1) := by decide +kernel
theorem dJ7_fill_53178_0 : decode cJ7_fill_53178 0 = .ok (.iconst 0, 1) := by decide +kernel
theorem dJ7_fill_53178_1 : decode cJ7_fill_53178 1 = .ok (.istore_n 2, 1) := by decide +kernel
theorem dJ7_fill_53178_2 : decode cJ7_fill_53178 2 = .ok (.aload_n 0, 1) := by decide +kernel
theorem dJ7_fill_53178_3 : decode cJ7_fill_53178 3 = .ok (.arraylength, 1) := by decide +kernel
theorem dJ7_fill_53178_4 : decode cJ7_fill_53178 4 = .ok (.istore_n 3, 1) := by decide +kernel
theorem dJ7_fill_53178_5 : decode cJ7_fill_53178 5 = .ok (.iload_n 2, 1) := by decide +kernel
theorem dJ7_fill_53178_6 : decode cJ7_fill_53178 6 = .ok (.iload_n 3, 1) := by decide +kernel
theorem dJ7_fill_53178_7 : decode cJ7_fill_53178 7 = .ok (.if_icmp .ge 13, 3) := by decide +kernel
theorem dJ7_fill_53178_10 : decode cJ7_fill_53178 10 = .ok (.aload_n 0, 1) := by decide +kernel
theorem dJ7_fill_53178_11 : decode cJ7_fill_53178 11 = .ok (.iload_n 2, 1) := by decide +kernel
theorem dJ7_fill_53178_12 : decode cJ7_fill_53178 12 = .ok (.iload_n 1, 1) := by decide +kernel
theorem dJ7_fill_53178_13 : decode cJ7_fill_53178 13 = .ok (.iastore, 1) := by decide +kernel
theorem dJ7_fill_53178_14 : decode cJ7_fill_53178 14 = .ok (.iinc 2 1, 3) := by decide +kernel
theorem dJ7_fill_53178_17 : decode cJ7_fill_53178 17 = .ok (.goto (-12), 3) := by decide +kernel
theorem dJ7_fill_53178_20 : decode cJ7_fill_53178 20 = .ok (.return_, 1) := by decide +kernel
theorem dJ3_checkIndex_8e157_0 : decode cJ3_checkIndex_8e157 0 = .ok (.iload_n 0, 1) := by decide +kernel
theorem dJ3_checkIndex_8e157_1 : decode cJ3_checkIndex_8e157 1 = .ok (.ifCond .lt 8, 3) := by decide +kernel
theorem dJ3_checkIndex_8e157_4 : decode cJ3_checkIndex_8e157 4 = .ok (.iload_n 0, 1) := by decide +kernel
theorem dJ3_checkIndex_8e157_5 : decode cJ3_checkIndex_8e157 5 = .ok (.iload_n 1, 1) := by decide +kernel
theorem dJ3_checkIndex_8e157_6 : decode cJ3_checkIndex_8e157 6 = .ok (.if_icmp .lt 10, 3) := by decide +kernel
theorem dJ3_checkIndex_8e157_9 : decode cJ3_checkIndex_8e157 9 = .ok (.aload_n 2, 1) := by decide +kernel
theorem dJ3_checkIndex_8e157_10 : decode cJ3_checkIndex_8e157 10 = .ok (.iload_n 0, 1) := by decide +kernel
theorem dJ3_checkIndex_8e157_11 : decode cJ3_checkIndex_8e157 11 = .ok (.iload_n 1, 1) := by decide +kernel
theorem dJ3_checkIndex_8e157_12 : decode cJ3_checkIndex_8e157 12 = .ok (.invokestatic 95, 3) := by decide +kernel
theorem dJ3_checkIndex_8e157_15 : decode cJ3_checkIndex_8e157 15 = .ok (.athrow, 1) := by decide +kernel
theorem dJ3_checkIndex_8e157_16 : decode cJ3_checkIndex_8e157 16 = .ok (.iload_n 0, 1) := by decide +kernel
theorem dJ3_checkIndex_8e157_17 : decode cJ3_checkIndex_8e157 17 = .ok (.ireturn, 1) := by decide +kernel
theorem dJ3_checkFromToIndex_8c36e_0 : decode cJ3_checkFromToIndex_8c36e 0 = .ok (.iload_n 0, 1) := by decide +kernel
theorem dJ3_checkFromToIndex_8c36e_1 : decode cJ3_checkFromToIndex_8c36e 1 = .ok (.ifCond .lt 13, 3) := by decide +kernel
theorem dJ3_checkFromToIndex_8c36e_4 : decode cJ3_checkFromToIndex_8c36e 4 = .ok (.iload_n 0, 1) := by decide +kernel
theorem dJ3_checkFromToIndex_8c36e_5 : decode cJ3_checkFromToIndex_8c36e 5 = .ok (.iload_n 1, 1) := by decide +kernel
theorem dJ3_checkFromToIndex_8c36e_6 : decode cJ3_checkFromToIndex_8c36e 6 = .ok (.if_icmp .gt 8, 3) := by decide +kernel
theorem dJ3_checkFromToIndex_8c36e_9 : decode cJ3_checkFromToIndex_8c36e 9 = .ok (.iload_n 1, 1) := by decide +kernel
theorem dJ3_checkFromToIndex_8c36e_10 : decode cJ3_checkFromToIndex_8c36e 10 = .ok (.iload_n 2, 1) := by decide +kernel
theorem dJ3_checkFromToIndex_8c36e_11 : decode cJ3_checkFromToIndex_8c36e 11 = .ok (.if_icmp .le 11, 3) := by decide +kernel
theorem dJ3_checkFromToIndex_8c36e_14 : decode cJ3_checkFromToIndex_8c36e 14 = .ok (.aload_n 3, 1) := by decide +kernel
theorem dJ3_checkFromToIndex_8c36e_15 : decode cJ3_checkFromToIndex_8c36e 15 = .ok (.iload_n 0, 1) := by decide +kernel
theorem dJ3_checkFromToIndex_8c36e_16 : decode cJ3_checkFromToIndex_8c36e 16 = .ok (.iload_n 1, 1) := by decide +kernel
theorem dJ3_checkFromToIndex_8c36e_17 : decode cJ3_checkFromToIndex_8c36e 17 = .ok (.iload_n 2, 1) := by decide +kernel
theorem dJ3_checkFromToIndex_8c36e_18 : decode cJ3_checkFromToIndex_8c36e 18 = .ok (.invokestatic 99, 3) := by decide +kernel
theorem dJ3_checkFromToIndex_8c36e_21 : decode cJ3_checkFromToIndex_8c36e 21 = .ok (.athrow, 1) := by decide +kernel
theorem dJ3_checkFromToIndex_8c36e_22 : decode cJ3_checkFromToIndex_8c36e 22 = .ok (.iload_n 0, 1) := by decide +kernel
theorem dJ3_checkFromToIndex_8c36e_23 : decode cJ3_checkFromToIndex_8c36e 23 = .ok (.ireturn, 1) := by decide +kernel
theorem dL_law_0 : decode cL_law 0 = .ok (.new 7, 3) := by decide +kernel
theorem dL_law_3 : decode cL_law 3 = .ok (.dup, 1) := by decide +kernel
theorem dL_law_4 : decode cL_law 4 = .ok (.invokespecial 9, 3) := by decide +kernel
theorem dL_law_7 : decode cL_law 7 = .ok (.astore_n 1, 1) := by decide +kernel
theorem dL_law_8 : decode cL_law 8 = .ok (.new 10, 3) := by decide +kernel
theorem dL_law_11 : decode cL_law 11 = .ok (.dup, 1) := by decide +kernel
theorem dL_law_12 : decode cL_law 12 = .ok (.invokespecial 12, 3) := by decide +kernel
theorem dL_law_15 : decode cL_law 15 = .ok (.astore_n 2, 1) := by decide +kernel
theorem dL_law_16 : decode cL_law 16 = .ok (.iconst 0, 1) := by decide +kernel
theorem dL_law_17 : decode cL_law 17 = .ok (.istore_n 3, 1) := by decide +kernel
theorem dL_law_18 : decode cL_law 18 = .ok (.iload_n 3, 1) := by decide +kernel
theorem dL_law_19 : decode cL_law 19 = .ok (.aload_n 0, 1) := by decide +kernel
theorem dL_law_20 : decode cL_law 20 = .ok (.arraylength, 1) := by decide +kernel
theorem dL_law_21 : decode cL_law 21 = .ok (.bipush 7, 2) := by decide +kernel
theorem dL_law_23 : decode cL_law 23 = .ok (.isub, 1) := by decide +kernel
theorem dL_law_24 : decode cL_law 24 = .ok (.if_icmp .gt 870, 3) := by decide +kernel
theorem dL_law_27 : decode cL_law 27 = .ok (.aload_n 0, 1) := by decide +kernel
theorem dL_law_28 : decode cL_law 28 = .ok (.iload_n 3, 1) := by decide +kernel
theorem dL_law_29 : decode cL_law 29 = .ok (.iaload, 1) := by decide +kernel
theorem dL_law_30 : decode cL_law 30 = .ok (.bipush 31, 2) := by decide +kernel
theorem dL_law_32 : decode cL_law 32 = .ok (.iand, 1) := by decide +kernel
theorem dL_law_33 : decode cL_law 33 = .ok (.tableswitch 855 0 18 #[91, 154, 167, 180, 233, 256, 299, 342, 375, 409, 443, 456, 499, 522, 585, 638, 682, 757, 832], 91) := by decide +kernel
theorem dL_law_124 : decode cL_law 124 = .ok (.aload_n 1, 1) := by decide +kernel
theorem dL_law_125 : decode cL_law 125 = .ok (.aload_n 0, 1) := by decide +kernel
theorem dL_law_126 : decode cL_law 126 = .ok (.iload_n 3, 1) := by decide +kernel
theorem dL_law_127 : decode cL_law 127 = .ok (.iconst 1, 1) := by decide +kernel
theorem dL_law_128 : decode cL_law 128 = .ok (.iadd, 1) := by decide +kernel
theorem dL_law_129 : decode cL_law 129 = .ok (.iaload, 1) := by decide +kernel
theorem dL_law_130 : decode cL_law 130 = .ok (.i2l, 1) := by decide +kernel
theorem dL_law_131 : decode cL_law 131 = .ok (.bipush 32, 2) := by decide +kernel
theorem dL_law_133 : decode cL_law 133 = .ok (.lshl, 1) := by decide +kernel
theorem dL_law_134 : decode cL_law 134 = .ok (.aload_n 0, 1) := by decide +kernel
theorem dL_law_135 : decode cL_law 135 = .ok (.iload_n 3, 1) := by decide +kernel
theorem dL_law_136 : decode cL_law 136 = .ok (.iconst 2, 1) := by decide +kernel
theorem dL_law_137 : decode cL_law 137 = .ok (.iadd, 1) := by decide +kernel
theorem dL_law_138 : decode cL_law 138 = .ok (.iaload, 1) := by decide +kernel
theorem dL_law_139 : decode cL_law 139 = .ok (.i2l, 1) := by decide +kernel
theorem dL_law_140 : decode cL_law 140 = .ok (.ldc2_w 13, 3) := by decide +kernel
theorem dL_law_143 : decode cL_law 143 = .ok (.land, 1) := by decide +kernel
theorem dL_law_144 : decode cL_law 144 = .ok (.lor, 1) := by decide +kernel
theorem dL_law_145 : decode cL_law 145 = .ok (.aload_n 0, 1) := by decide +kernel
theorem dL_law_146 : decode cL_law 146 = .ok (.iload_n 3, 1) := by decide +kernel
theorem dL_law_147 : decode cL_law 147 = .ok (.iconst 3, 1) := by decide +kernel
theorem dL_law_148 : decode cL_law 148 = .ok (.iadd, 1) := by decide +kernel
theorem dL_law_149 : decode cL_law 149 = .ok (.iaload, 1) := by decide +kernel
theorem dL_law_150 : decode cL_law 150 = .ok (.invokevirtual 15, 3) := by decide +kernel
theorem dL_law_153 : decode cL_law 153 = .ok (.aload_n 2, 1) := by decide +kernel
theorem dL_law_154 : decode cL_law 154 = .ok (.aload_n 0, 1) := by decide +kernel
theorem dL_law_155 : decode cL_law 155 = .ok (.iload_n 3, 1) := by decide +kernel
theorem dL_law_156 : decode cL_law 156 = .ok (.iconst 1, 1) := by decide +kernel
theorem dL_law_157 : decode cL_law 157 = .ok (.iadd, 1) := by decide +kernel
theorem dL_law_158 : decode cL_law 158 = .ok (.iaload, 1) := by decide +kernel
theorem dL_law_159 : decode cL_law 159 = .ok (.i2l, 1) := by decide +kernel
theorem dL_law_160 : decode cL_law 160 = .ok (.bipush 32, 2) := by decide +kernel
theorem dL_law_162 : decode cL_law 162 = .ok (.lshl, 1) := by decide +kernel
theorem dL_law_163 : decode cL_law 163 = .ok (.aload_n 0, 1) := by decide +kernel
theorem dL_law_164 : decode cL_law 164 = .ok (.iload_n 3, 1) := by decide +kernel
theorem dL_law_165 : decode cL_law 165 = .ok (.iconst 2, 1) := by decide +kernel
theorem dL_law_166 : decode cL_law 166 = .ok (.iadd, 1) := by decide +kernel
theorem dL_law_167 : decode cL_law 167 = .ok (.iaload, 1) := by decide +kernel
theorem dL_law_168 : decode cL_law 168 = .ok (.i2l, 1) := by decide +kernel
theorem dL_law_169 : decode cL_law 169 = .ok (.ldc2_w 13, 3) := by decide +kernel
theorem dL_law_172 : decode cL_law 172 = .ok (.land, 1) := by decide +kernel
theorem dL_law_173 : decode cL_law 173 = .ok (.lor, 1) := by decide +kernel
theorem dL_law_174 : decode cL_law 174 = .ok (.aload_n 0, 1) := by decide +kernel
theorem dL_law_175 : decode cL_law 175 = .ok (.iload_n 3, 1) := by decide +kernel
theorem dL_law_176 : decode cL_law 176 = .ok (.iconst 3, 1) := by decide +kernel
theorem dL_law_177 : decode cL_law 177 = .ok (.iadd, 1) := by decide +kernel
theorem dL_law_178 : decode cL_law 178 = .ok (.iaload, 1) := by decide +kernel
theorem dL_law_179 : decode cL_law 179 = .ok (.invokevirtual 19, 3) := by decide +kernel
theorem dL_law_182 : decode cL_law 182 = .ok (.if_icmp .eq 706, 3) := by decide +kernel
theorem dL_law_185 : decode cL_law 185 = .ok (.iconst 0, 1) := by decide +kernel
theorem dL_law_186 : decode cL_law 186 = .ok (.ireturn, 1) := by decide +kernel
theorem dL_law_187 : decode cL_law 187 = .ok (.aload_n 1, 1) := by decide +kernel
theorem dL_law_188 : decode cL_law 188 = .ok (.invokevirtual 20, 3) := by decide +kernel
theorem dL_law_191 : decode cL_law 191 = .ok (.aload_n 2, 1) := by decide +kernel
theorem dL_law_192 : decode cL_law 192 = .ok (.invokevirtual 24, 3) := by decide +kernel
theorem dL_law_195 : decode cL_law 195 = .ok (.if_icmp .eq 693, 3) := by decide +kernel
theorem dL_law_198 : decode cL_law 198 = .ok (.iconst 0, 1) := by decide +kernel
theorem dL_law_199 : decode cL_law 199 = .ok (.ireturn, 1) := by decide +kernel
theorem dL_law_200 : decode cL_law 200 = .ok (.aload_n 1, 1) := by decide +kernel
theorem dL_law_201 : decode cL_law 201 = .ok (.invokevirtual 25, 3) := by decide +kernel
theorem dL_law_204 : decode cL_law 204 = .ok (.aload_n 2, 1) := by decide +kernel
theorem dL_law_205 : decode cL_law 205 = .ok (.invokevirtual 28, 3) := by decide +kernel
theorem dL_law_208 : decode cL_law 208 = .ok (.if_icmp .eq 680, 3) := by decide +kernel
theorem dL_law_211 : decode cL_law 211 = .ok (.iconst 0, 1) := by decide +kernel
theorem dL_law_212 : decode cL_law 212 = .ok (.ireturn, 1) := by decide +kernel
theorem dL_law_213 : decode cL_law 213 = .ok (.aload_n 1, 1) := by decide +kernel
theorem dL_law_214 : decode cL_law 214 = .ok (.aload_n 0, 1) := by decide +kernel
theorem dL_law_215 : decode cL_law 215 = .ok (.iload_n 3, 1) := by decide +kernel
theorem dL_law_216 : decode cL_law 216 = .ok (.iconst 1, 1) := by decide +kernel
theorem dL_law_217 : decode cL_law 217 = .ok (.iadd, 1) := by decide +kernel
theorem dL_law_218 : decode cL_law 218 = .ok (.iaload, 1) := by decide +kernel
theorem dL_law_219 : decode cL_law 219 = .ok (.i2l, 1) := by decide +kernel
theorem dL_law_220 : decode cL_law 220 = .ok (.bipush 32, 2) := by decide +kernel
theorem dL_law_222 : decode cL_law 222 = .ok (.lshl, 1) := by decide +kernel
theorem dL_law_223 : decode cL_law 223 = .ok (.aload_n 0, 1) := by decide +kernel
theorem dL_law_224 : decode cL_law 224 = .ok (.iload_n 3, 1) := by decide +kernel
theorem dL_law_225 : decode cL_law 225 = .ok (.iconst 2, 1) := by decide +kernel
theorem dL_law_226 : decode cL_law 226 = .ok (.iadd, 1) := by decide +kernel
theorem dL_law_227 : decode cL_law 227 = .ok (.iaload, 1) := by decide +kernel
theorem dL_law_228 : decode cL_law 228 = .ok (.i2l, 1) := by decide +kernel
theorem dL_law_229 : decode cL_law 229 = .ok (.ldc2_w 13, 3) := by decide +kernel
theorem dL_law_232 : decode cL_law 232 = .ok (.land, 1) := by decide +kernel
theorem dL_law_233 : decode cL_law 233 = .ok (.lor, 1) := by decide +kernel
theorem dL_law_234 : decode cL_law 234 = .ok (.invokevirtual 29, 3) := by decide +kernel
theorem dL_law_237 : decode cL_law 237 = .ok (.aload_n 2, 1) := by decide +kernel
theorem dL_law_238 : decode cL_law 238 = .ok (.aload_n 0, 1) := by decide +kernel
theorem dL_law_239 : decode cL_law 239 = .ok (.iload_n 3, 1) := by decide +kernel
theorem dL_law_240 : decode cL_law 240 = .ok (.iconst 1, 1) := by decide +kernel
theorem dL_law_241 : decode cL_law 241 = .ok (.iadd, 1) := by decide +kernel
theorem dL_law_242 : decode cL_law 242 = .ok (.iaload, 1) := by decide +kernel
theorem dL_law_243 : decode cL_law 243 = .ok (.i2l, 1) := by decide +kernel
theorem dL_law_244 : decode cL_law 244 = .ok (.bipush 32, 2) := by decide +kernel
theorem dL_law_246 : decode cL_law 246 = .ok (.lshl, 1) := by decide +kernel
theorem dL_law_247 : decode cL_law 247 = .ok (.aload_n 0, 1) := by decide +kernel
theorem dL_law_248 : decode cL_law 248 = .ok (.iload_n 3, 1) := by decide +kernel
theorem dL_law_249 : decode cL_law 249 = .ok (.iconst 2, 1) := by decide +kernel
theorem dL_law_250 : decode cL_law 250 = .ok (.iadd, 1) := by decide +kernel
theorem dL_law_251 : decode cL_law 251 = .ok (.iaload, 1) := by decide +kernel
theorem dL_law_252 : decode cL_law 252 = .ok (.i2l, 1) := by decide +kernel
theorem dL_law_253 : decode cL_law 253 = .ok (.ldc2_w 13, 3) := by decide +kernel
theorem dL_law_256 : decode cL_law 256 = .ok (.land, 1) := by decide +kernel
theorem dL_law_257 : decode cL_law 257 = .ok (.lor, 1) := by decide +kernel
theorem dL_law_258 : decode cL_law 258 = .ok (.invokevirtual 33, 3) := by decide +kernel
theorem dL_law_261 : decode cL_law 261 = .ok (.if_icmp .eq 627, 3) := by decide +kernel
theorem dL_law_264 : decode cL_law 264 = .ok (.iconst 0, 1) := by decide +kernel
theorem dL_law_265 : decode cL_law 265 = .ok (.ireturn, 1) := by decide +kernel
theorem dL_law_266 : decode cL_law 266 = .ok (.aload_n 1, 1) := by decide +kernel
theorem dL_law_267 : decode cL_law 267 = .ok (.aload_n 0, 1) := by decide +kernel
theorem dL_law_268 : decode cL_law 268 = .ok (.iload_n 3, 1) := by decide +kernel
theorem dL_law_269 : decode cL_law 269 = .ok (.iconst 1, 1) := by decide +kernel
theorem dL_law_270 : decode cL_law 270 = .ok (.iadd, 1) := by decide +kernel
theorem dL_law_271 : decode cL_law 271 = .ok (.iaload, 1) := by decide +kernel
theorem dL_law_272 : decode cL_law 272 = .ok (.invokevirtual 34, 3) := by decide +kernel
theorem dL_law_275 : decode cL_law 275 = .ok (.aload_n 2, 1) := by decide +kernel
theorem dL_law_276 : decode cL_law 276 = .ok (.aload_n 0, 1) := by decide +kernel
theorem dL_law_277 : decode cL_law 277 = .ok (.iload_n 3, 1) := by decide +kernel
theorem dL_law_278 : decode cL_law 278 = .ok (.iconst 1, 1) := by decide +kernel
theorem dL_law_279 : decode cL_law 279 = .ok (.iadd, 1) := by decide +kernel
theorem dL_law_280 : decode cL_law 280 = .ok (.iaload, 1) := by decide +kernel
theorem dL_law_281 : decode cL_law 281 = .ok (.invokevirtual 38, 3) := by decide +kernel
theorem dL_law_284 : decode cL_law 284 = .ok (.if_icmp .eq 604, 3) := by decide +kernel
theorem dL_law_287 : decode cL_law 287 = .ok (.iconst 0, 1) := by decide +kernel
theorem dL_law_288 : decode cL_law 288 = .ok (.ireturn, 1) := by decide +kernel
theorem dL_law_289 : decode cL_law 289 = .ok (.aload_n 1, 1) := by decide +kernel
theorem dL_law_290 : decode cL_law 290 = .ok (.aload_n 0, 1) := by decide +kernel
theorem dL_law_291 : decode cL_law 291 = .ok (.iload_n 3, 1) := by decide +kernel
theorem dL_law_292 : decode cL_law 292 = .ok (.iconst 1, 1) := by decide +kernel
theorem dL_law_293 : decode cL_law 293 = .ok (.iadd, 1) := by decide +kernel
theorem dL_law_294 : decode cL_law 294 = .ok (.iaload, 1) := by decide +kernel
theorem dL_law_295 : decode cL_law 295 = .ok (.aload_n 0, 1) := by decide +kernel
theorem dL_law_296 : decode cL_law 296 = .ok (.iload_n 3, 1) := by decide +kernel
theorem dL_law_297 : decode cL_law 297 = .ok (.iconst 2, 1) := by decide +kernel
theorem dL_law_298 : decode cL_law 298 = .ok (.iadd, 1) := by decide +kernel
theorem dL_law_299 : decode cL_law 299 = .ok (.iaload, 1) := by decide +kernel
theorem dL_law_300 : decode cL_law 300 = .ok (.aload_n 0, 1) := by decide +kernel
theorem dL_law_301 : decode cL_law 301 = .ok (.iload_n 3, 1) := by decide +kernel
theorem dL_law_302 : decode cL_law 302 = .ok (.iconst 3, 1) := by decide +kernel
theorem dL_law_303 : decode cL_law 303 = .ok (.iadd, 1) := by decide +kernel
theorem dL_law_304 : decode cL_law 304 = .ok (.iaload, 1) := by decide +kernel
theorem dL_law_305 : decode cL_law 305 = .ok (.invokevirtual 39, 3) := by decide +kernel
theorem dL_law_308 : decode cL_law 308 = .ok (.aload_n 2, 1) := by decide +kernel
theorem dL_law_309 : decode cL_law 309 = .ok (.aload_n 0, 1) := by decide +kernel
theorem dL_law_310 : decode cL_law 310 = .ok (.iload_n 3, 1) := by decide +kernel
theorem dL_law_311 : decode cL_law 311 = .ok (.iconst 1, 1) := by decide +kernel
theorem dL_law_312 : decode cL_law 312 = .ok (.iadd, 1) := by decide +kernel
theorem dL_law_313 : decode cL_law 313 = .ok (.iaload, 1) := by decide +kernel
theorem dL_law_314 : decode cL_law 314 = .ok (.aload_n 0, 1) := by decide +kernel
theorem dL_law_315 : decode cL_law 315 = .ok (.iload_n 3, 1) := by decide +kernel
theorem dL_law_316 : decode cL_law 316 = .ok (.iconst 2, 1) := by decide +kernel
theorem dL_law_317 : decode cL_law 317 = .ok (.iadd, 1) := by decide +kernel
theorem dL_law_318 : decode cL_law 318 = .ok (.iaload, 1) := by decide +kernel
theorem dL_law_319 : decode cL_law 319 = .ok (.aload_n 0, 1) := by decide +kernel
theorem dL_law_320 : decode cL_law 320 = .ok (.iload_n 3, 1) := by decide +kernel
theorem dL_law_321 : decode cL_law 321 = .ok (.iconst 3, 1) := by decide +kernel
theorem dL_law_322 : decode cL_law 322 = .ok (.iadd, 1) := by decide +kernel
theorem dL_law_323 : decode cL_law 323 = .ok (.iaload, 1) := by decide +kernel
theorem dL_law_324 : decode cL_law 324 = .ok (.invokevirtual 43, 3) := by decide +kernel
theorem dL_law_327 : decode cL_law 327 = .ok (.if_icmp .eq 561, 3) := by decide +kernel
theorem dL_law_330 : decode cL_law 330 = .ok (.iconst 0, 1) := by decide +kernel
theorem dL_law_331 : decode cL_law 331 = .ok (.ireturn, 1) := by decide +kernel
theorem dL_law_332 : decode cL_law 332 = .ok (.aload_n 1, 1) := by decide +kernel
theorem dL_law_333 : decode cL_law 333 = .ok (.aload_n 0, 1) := by decide +kernel
theorem dL_law_334 : decode cL_law 334 = .ok (.iload_n 3, 1) := by decide +kernel
theorem dL_law_335 : decode cL_law 335 = .ok (.iconst 1, 1) := by decide +kernel
theorem dL_law_336 : decode cL_law 336 = .ok (.iadd, 1) := by decide +kernel
theorem dL_law_337 : decode cL_law 337 = .ok (.iaload, 1) := by decide +kernel
theorem dL_law_338 : decode cL_law 338 = .ok (.aload_n 0, 1) := by decide +kernel
theorem dL_law_339 : decode cL_law 339 = .ok (.iload_n 3, 1) := by decide +kernel
theorem dL_law_340 : decode cL_law 340 = .ok (.iconst 2, 1) := by decide +kernel
theorem dL_law_341 : decode cL_law 341 = .ok (.iadd, 1) := by decide +kernel
theorem dL_law_342 : decode cL_law 342 = .ok (.iaload, 1) := by decide +kernel
theorem dL_law_343 : decode cL_law 343 = .ok (.aload_n 0, 1) := by decide +kernel
theorem dL_law_344 : decode cL_law 344 = .ok (.iload_n 3, 1) := by decide +kernel
theorem dL_law_345 : decode cL_law 345 = .ok (.iconst 3, 1) := by decide +kernel
theorem dL_law_346 : decode cL_law 346 = .ok (.iadd, 1) := by decide +kernel
theorem dL_law_347 : decode cL_law 347 = .ok (.iaload, 1) := by decide +kernel
theorem dL_law_348 : decode cL_law 348 = .ok (.invokevirtual 44, 3) := by decide +kernel
theorem dL_law_351 : decode cL_law 351 = .ok (.aload_n 2, 1) := by decide +kernel
theorem dL_law_352 : decode cL_law 352 = .ok (.aload_n 0, 1) := by decide +kernel
theorem dL_law_353 : decode cL_law 353 = .ok (.iload_n 3, 1) := by decide +kernel
theorem dL_law_354 : decode cL_law 354 = .ok (.iconst 1, 1) := by decide +kernel
theorem dL_law_355 : decode cL_law 355 = .ok (.iadd, 1) := by decide +kernel
theorem dL_law_356 : decode cL_law 356 = .ok (.iaload, 1) := by decide +kernel
theorem dL_law_357 : decode cL_law 357 = .ok (.aload_n 0, 1) := by decide +kernel
theorem dL_law_358 : decode cL_law 358 = .ok (.iload_n 3, 1) := by decide +kernel
theorem dL_law_359 : decode cL_law 359 = .ok (.iconst 2, 1) := by decide +kernel
theorem dL_law_360 : decode cL_law 360 = .ok (.iadd, 1) := by decide +kernel
theorem dL_law_361 : decode cL_law 361 = .ok (.iaload, 1) := by decide +kernel
theorem dL_law_362 : decode cL_law 362 = .ok (.aload_n 0, 1) := by decide +kernel
theorem dL_law_363 : decode cL_law 363 = .ok (.iload_n 3, 1) := by decide +kernel
theorem dL_law_364 : decode cL_law 364 = .ok (.iconst 3, 1) := by decide +kernel
theorem dL_law_365 : decode cL_law 365 = .ok (.iadd, 1) := by decide +kernel
theorem dL_law_366 : decode cL_law 366 = .ok (.iaload, 1) := by decide +kernel
theorem dL_law_367 : decode cL_law 367 = .ok (.invokevirtual 47, 3) := by decide +kernel
theorem dL_law_370 : decode cL_law 370 = .ok (.if_icmp .eq 518, 3) := by decide +kernel
theorem dL_law_373 : decode cL_law 373 = .ok (.iconst 0, 1) := by decide +kernel
theorem dL_law_374 : decode cL_law 374 = .ok (.ireturn, 1) := by decide +kernel
theorem dL_law_375 : decode cL_law 375 = .ok (.aload_n 1, 1) := by decide +kernel
theorem dL_law_376 : decode cL_law 376 = .ok (.aload_n 0, 1) := by decide +kernel
theorem dL_law_377 : decode cL_law 377 = .ok (.iload_n 3, 1) := by decide +kernel
theorem dL_law_378 : decode cL_law 378 = .ok (.iconst 1, 1) := by decide +kernel
theorem dL_law_379 : decode cL_law 379 = .ok (.iadd, 1) := by decide +kernel
theorem dL_law_380 : decode cL_law 380 = .ok (.iaload, 1) := by decide +kernel
theorem dL_law_381 : decode cL_law 381 = .ok (.aload_n 0, 1) := by decide +kernel
theorem dL_law_382 : decode cL_law 382 = .ok (.iload_n 3, 1) := by decide +kernel
theorem dL_law_383 : decode cL_law 383 = .ok (.iconst 2, 1) := by decide +kernel
theorem dL_law_384 : decode cL_law 384 = .ok (.iadd, 1) := by decide +kernel
theorem dL_law_385 : decode cL_law 385 = .ok (.iaload, 1) := by decide +kernel
theorem dL_law_386 : decode cL_law 386 = .ok (.invokevirtual 48, 3) := by decide +kernel
theorem dL_law_389 : decode cL_law 389 = .ok (.aload_n 2, 1) := by decide +kernel
theorem dL_law_390 : decode cL_law 390 = .ok (.aload_n 0, 1) := by decide +kernel
theorem dL_law_391 : decode cL_law 391 = .ok (.iload_n 3, 1) := by decide +kernel
theorem dL_law_392 : decode cL_law 392 = .ok (.iconst 1, 1) := by decide +kernel
theorem dL_law_393 : decode cL_law 393 = .ok (.iadd, 1) := by decide +kernel
theorem dL_law_394 : decode cL_law 394 = .ok (.iaload, 1) := by decide +kernel
theorem dL_law_395 : decode cL_law 395 = .ok (.aload_n 0, 1) := by decide +kernel
theorem dL_law_396 : decode cL_law 396 = .ok (.iload_n 3, 1) := by decide +kernel
theorem dL_law_397 : decode cL_law 397 = .ok (.iconst 2, 1) := by decide +kernel
theorem dL_law_398 : decode cL_law 398 = .ok (.iadd, 1) := by decide +kernel
theorem dL_law_399 : decode cL_law 399 = .ok (.iaload, 1) := by decide +kernel
theorem dL_law_400 : decode cL_law 400 = .ok (.invokevirtual 52, 3) := by decide +kernel
theorem dL_law_403 : decode cL_law 403 = .ok (.if_icmp .eq 485, 3) := by decide +kernel
theorem dL_law_406 : decode cL_law 406 = .ok (.iconst 0, 1) := by decide +kernel
theorem dL_law_407 : decode cL_law 407 = .ok (.ireturn, 1) := by decide +kernel
theorem dL_law_408 : decode cL_law 408 = .ok (.aload_n 1, 1) := by decide +kernel
theorem dL_law_409 : decode cL_law 409 = .ok (.aload_n 0, 1) := by decide +kernel
theorem dL_law_410 : decode cL_law 410 = .ok (.iload_n 3, 1) := by decide +kernel
theorem dL_law_411 : decode cL_law 411 = .ok (.iconst 1, 1) := by decide +kernel
theorem dL_law_412 : decode cL_law 412 = .ok (.iadd, 1) := by decide +kernel
theorem dL_law_413 : decode cL_law 413 = .ok (.iaload, 1) := by decide +kernel
theorem dL_law_414 : decode cL_law 414 = .ok (.aload_n 0, 1) := by decide +kernel
theorem dL_law_415 : decode cL_law 415 = .ok (.iload_n 3, 1) := by decide +kernel
theorem dL_law_416 : decode cL_law 416 = .ok (.iconst 2, 1) := by decide +kernel
theorem dL_law_417 : decode cL_law 417 = .ok (.iadd, 1) := by decide +kernel
theorem dL_law_418 : decode cL_law 418 = .ok (.iaload, 1) := by decide +kernel
theorem dL_law_419 : decode cL_law 419 = .ok (.invokevirtual 53, 3) := by decide +kernel
theorem dL_law_422 : decode cL_law 422 = .ok (.aload_n 2, 1) := by decide +kernel
theorem dL_law_423 : decode cL_law 423 = .ok (.aload_n 0, 1) := by decide +kernel
theorem dL_law_424 : decode cL_law 424 = .ok (.iload_n 3, 1) := by decide +kernel
theorem dL_law_425 : decode cL_law 425 = .ok (.iconst 1, 1) := by decide +kernel
theorem dL_law_426 : decode cL_law 426 = .ok (.iadd, 1) := by decide +kernel
theorem dL_law_427 : decode cL_law 427 = .ok (.iaload, 1) := by decide +kernel
theorem dL_law_428 : decode cL_law 428 = .ok (.aload_n 0, 1) := by decide +kernel
theorem dL_law_429 : decode cL_law 429 = .ok (.iload_n 3, 1) := by decide +kernel
theorem dL_law_430 : decode cL_law 430 = .ok (.iconst 2, 1) := by decide +kernel
theorem dL_law_431 : decode cL_law 431 = .ok (.iadd, 1) := by decide +kernel
theorem dL_law_432 : decode cL_law 432 = .ok (.iaload, 1) := by decide +kernel
theorem dL_law_433 : decode cL_law 433 = .ok (.invokevirtual 57, 3) := by decide +kernel
theorem dL_law_436 : decode cL_law 436 = .ok (.lcmp, 1) := by decide +kernel
theorem dL_law_437 : decode cL_law 437 = .ok (.ifCond .eq 451, 3) := by decide +kernel
theorem dL_law_440 : decode cL_law 440 = .ok (.iconst 0, 1) := by decide +kernel
theorem dL_law_441 : decode cL_law 441 = .ok (.ireturn, 1) := by decide +kernel
theorem dL_law_442 : decode cL_law 442 = .ok (.aload_n 1, 1) := by decide +kernel
theorem dL_law_443 : decode cL_law 443 = .ok (.aload_n 0, 1) := by decide +kernel
theorem dL_law_444 : decode cL_law 444 = .ok (.iload_n 3, 1) := by decide +kernel
theorem dL_law_445 : decode cL_law 445 = .ok (.iconst 1, 1) := by decide +kernel
theorem dL_law_446 : decode cL_law 446 = .ok (.iadd, 1) := by decide +kernel
theorem dL_law_447 : decode cL_law 447 = .ok (.iaload, 1) := by decide +kernel
theorem dL_law_448 : decode cL_law 448 = .ok (.aload_n 0, 1) := by decide +kernel
theorem dL_law_449 : decode cL_law 449 = .ok (.iload_n 3, 1) := by decide +kernel
theorem dL_law_450 : decode cL_law 450 = .ok (.iconst 2, 1) := by decide +kernel
theorem dL_law_451 : decode cL_law 451 = .ok (.iadd, 1) := by decide +kernel
theorem dL_law_452 : decode cL_law 452 = .ok (.iaload, 1) := by decide +kernel
theorem dL_law_453 : decode cL_law 453 = .ok (.invokevirtual 58, 3) := by decide +kernel
theorem dL_law_456 : decode cL_law 456 = .ok (.aload_n 2, 1) := by decide +kernel
theorem dL_law_457 : decode cL_law 457 = .ok (.aload_n 0, 1) := by decide +kernel
theorem dL_law_458 : decode cL_law 458 = .ok (.iload_n 3, 1) := by decide +kernel
theorem dL_law_459 : decode cL_law 459 = .ok (.iconst 1, 1) := by decide +kernel
theorem dL_law_460 : decode cL_law 460 = .ok (.iadd, 1) := by decide +kernel
theorem dL_law_461 : decode cL_law 461 = .ok (.iaload, 1) := by decide +kernel
theorem dL_law_462 : decode cL_law 462 = .ok (.aload_n 0, 1) := by decide +kernel
theorem dL_law_463 : decode cL_law 463 = .ok (.iload_n 3, 1) := by decide +kernel
theorem dL_law_464 : decode cL_law 464 = .ok (.iconst 2, 1) := by decide +kernel
theorem dL_law_465 : decode cL_law 465 = .ok (.iadd, 1) := by decide +kernel
theorem dL_law_466 : decode cL_law 466 = .ok (.iaload, 1) := by decide +kernel
theorem dL_law_467 : decode cL_law 467 = .ok (.invokevirtual 61, 3) := by decide +kernel
theorem dL_law_470 : decode cL_law 470 = .ok (.lcmp, 1) := by decide +kernel
theorem dL_law_471 : decode cL_law 471 = .ok (.ifCond .eq 417, 3) := by decide +kernel
theorem dL_law_474 : decode cL_law 474 = .ok (.iconst 0, 1) := by decide +kernel
theorem dL_law_475 : decode cL_law 475 = .ok (.ireturn, 1) := by decide +kernel
theorem dL_law_476 : decode cL_law 476 = .ok (.aload_n 1, 1) := by decide +kernel
theorem dL_law_477 : decode cL_law 477 = .ok (.invokevirtual 62, 3) := by decide +kernel
theorem dL_law_480 : decode cL_law 480 = .ok (.aload_n 2, 1) := by decide +kernel
theorem dL_law_481 : decode cL_law 481 = .ok (.invokevirtual 65, 3) := by decide +kernel
theorem dL_law_484 : decode cL_law 484 = .ok (.if_icmp .eq 404, 3) := by decide +kernel
theorem dL_law_487 : decode cL_law 487 = .ok (.iconst 0, 1) := by decide +kernel
theorem dL_law_488 : decode cL_law 488 = .ok (.ireturn, 1) := by decide +kernel
theorem dL_law_489 : decode cL_law 489 = .ok (.aload_n 1, 1) := by decide +kernel
theorem dL_law_490 : decode cL_law 490 = .ok (.aload_n 0, 1) := by decide +kernel
theorem dL_law_491 : decode cL_law 491 = .ok (.iload_n 3, 1) := by decide +kernel
theorem dL_law_492 : decode cL_law 492 = .ok (.iconst 1, 1) := by decide +kernel
theorem dL_law_493 : decode cL_law 493 = .ok (.iadd, 1) := by decide +kernel
theorem dL_law_494 : decode cL_law 494 = .ok (.iaload, 1) := by decide +kernel
theorem dL_law_495 : decode cL_law 495 = .ok (.aload_n 0, 1) := by decide +kernel
theorem dL_law_496 : decode cL_law 496 = .ok (.iload_n 3, 1) := by decide +kernel
theorem dL_law_497 : decode cL_law 497 = .ok (.iconst 2, 1) := by decide +kernel
theorem dL_law_498 : decode cL_law 498 = .ok (.iadd, 1) := by decide +kernel
theorem dL_law_499 : decode cL_law 499 = .ok (.iaload, 1) := by decide +kernel
theorem dL_law_500 : decode cL_law 500 = .ok (.aload_n 0, 1) := by decide +kernel
theorem dL_law_501 : decode cL_law 501 = .ok (.iload_n 3, 1) := by decide +kernel
theorem dL_law_502 : decode cL_law 502 = .ok (.iconst 3, 1) := by decide +kernel
theorem dL_law_503 : decode cL_law 503 = .ok (.iadd, 1) := by decide +kernel
theorem dL_law_504 : decode cL_law 504 = .ok (.iaload, 1) := by decide +kernel
theorem dL_law_505 : decode cL_law 505 = .ok (.invokevirtual 66, 3) := by decide +kernel
theorem dL_law_508 : decode cL_law 508 = .ok (.aload_n 2, 1) := by decide +kernel
theorem dL_law_509 : decode cL_law 509 = .ok (.aload_n 0, 1) := by decide +kernel
theorem dL_law_510 : decode cL_law 510 = .ok (.iload_n 3, 1) := by decide +kernel
theorem dL_law_511 : decode cL_law 511 = .ok (.iconst 1, 1) := by decide +kernel
theorem dL_law_512 : decode cL_law 512 = .ok (.iadd, 1) := by decide +kernel
theorem dL_law_513 : decode cL_law 513 = .ok (.iaload, 1) := by decide +kernel
theorem dL_law_514 : decode cL_law 514 = .ok (.aload_n 0, 1) := by decide +kernel
theorem dL_law_515 : decode cL_law 515 = .ok (.iload_n 3, 1) := by decide +kernel
theorem dL_law_516 : decode cL_law 516 = .ok (.iconst 2, 1) := by decide +kernel
theorem dL_law_517 : decode cL_law 517 = .ok (.iadd, 1) := by decide +kernel
theorem dL_law_518 : decode cL_law 518 = .ok (.iaload, 1) := by decide +kernel
theorem dL_law_519 : decode cL_law 519 = .ok (.aload_n 0, 1) := by decide +kernel
theorem dL_law_520 : decode cL_law 520 = .ok (.iload_n 3, 1) := by decide +kernel
theorem dL_law_521 : decode cL_law 521 = .ok (.iconst 3, 1) := by decide +kernel
theorem dL_law_522 : decode cL_law 522 = .ok (.iadd, 1) := by decide +kernel
theorem dL_law_523 : decode cL_law 523 = .ok (.iaload, 1) := by decide +kernel
theorem dL_law_524 : decode cL_law 524 = .ok (.invokevirtual 69, 3) := by decide +kernel
theorem dL_law_527 : decode cL_law 527 = .ok (.if_icmp .eq 361, 3) := by decide +kernel
theorem dL_law_530 : decode cL_law 530 = .ok (.iconst 0, 1) := by decide +kernel
theorem dL_law_531 : decode cL_law 531 = .ok (.ireturn, 1) := by decide +kernel
theorem dL_law_532 : decode cL_law 532 = .ok (.aload_n 1, 1) := by decide +kernel
theorem dL_law_533 : decode cL_law 533 = .ok (.aload_n 0, 1) := by decide +kernel
theorem dL_law_534 : decode cL_law 534 = .ok (.iload_n 3, 1) := by decide +kernel
theorem dL_law_535 : decode cL_law 535 = .ok (.iconst 1, 1) := by decide +kernel
theorem dL_law_536 : decode cL_law 536 = .ok (.iadd, 1) := by decide +kernel
theorem dL_law_537 : decode cL_law 537 = .ok (.iaload, 1) := by decide +kernel
theorem dL_law_538 : decode cL_law 538 = .ok (.invokevirtual 70, 3) := by decide +kernel
theorem dL_law_541 : decode cL_law 541 = .ok (.aload_n 2, 1) := by decide +kernel
theorem dL_law_542 : decode cL_law 542 = .ok (.aload_n 0, 1) := by decide +kernel
theorem dL_law_543 : decode cL_law 543 = .ok (.iload_n 3, 1) := by decide +kernel
theorem dL_law_544 : decode cL_law 544 = .ok (.iconst 1, 1) := by decide +kernel
theorem dL_law_545 : decode cL_law 545 = .ok (.iadd, 1) := by decide +kernel
theorem dL_law_546 : decode cL_law 546 = .ok (.iaload, 1) := by decide +kernel
theorem dL_law_547 : decode cL_law 547 = .ok (.invokevirtual 73, 3) := by decide +kernel
theorem dL_law_550 : decode cL_law 550 = .ok (.if_icmp .eq 338, 3) := by decide +kernel
theorem dL_law_553 : decode cL_law 553 = .ok (.iconst 0, 1) := by decide +kernel
theorem dL_law_554 : decode cL_law 554 = .ok (.ireturn, 1) := by decide +kernel
theorem dL_law_555 : decode cL_law 555 = .ok (.aload_n 1, 1) := by decide +kernel
theorem dL_law_556 : decode cL_law 556 = .ok (.aload_n 0, 1) := by decide +kernel
theorem dL_law_557 : decode cL_law 557 = .ok (.iload_n 3, 1) := by decide +kernel
theorem dL_law_558 : decode cL_law 558 = .ok (.iconst 1, 1) := by decide +kernel
theorem dL_law_559 : decode cL_law 559 = .ok (.iadd, 1) := by decide +kernel
theorem dL_law_560 : decode cL_law 560 = .ok (.iaload, 1) := by decide +kernel
theorem dL_law_561 : decode cL_law 561 = .ok (.aload_n 0, 1) := by decide +kernel
theorem dL_law_562 : decode cL_law 562 = .ok (.iload_n 3, 1) := by decide +kernel
theorem dL_law_563 : decode cL_law 563 = .ok (.iconst 2, 1) := by decide +kernel
theorem dL_law_564 : decode cL_law 564 = .ok (.iadd, 1) := by decide +kernel
theorem dL_law_565 : decode cL_law 565 = .ok (.iaload, 1) := by decide +kernel
theorem dL_law_566 : decode cL_law 566 = .ok (.aload_n 0, 1) := by decide +kernel
theorem dL_law_567 : decode cL_law 567 = .ok (.iload_n 3, 1) := by decide +kernel
theorem dL_law_568 : decode cL_law 568 = .ok (.iconst 3, 1) := by decide +kernel
theorem dL_law_569 : decode cL_law 569 = .ok (.iadd, 1) := by decide +kernel
theorem dL_law_570 : decode cL_law 570 = .ok (.iaload, 1) := by decide +kernel
theorem dL_law_571 : decode cL_law 571 = .ok (.aload_n 0, 1) := by decide +kernel
theorem dL_law_572 : decode cL_law 572 = .ok (.iload_n 3, 1) := by decide +kernel
theorem dL_law_573 : decode cL_law 573 = .ok (.iconst 4, 1) := by decide +kernel
theorem dL_law_574 : decode cL_law 574 = .ok (.iadd, 1) := by decide +kernel
theorem dL_law_575 : decode cL_law 575 = .ok (.iaload, 1) := by decide +kernel
theorem dL_law_576 : decode cL_law 576 = .ok (.aload_n 0, 1) := by decide +kernel
theorem dL_law_577 : decode cL_law 577 = .ok (.iload_n 3, 1) := by decide +kernel
theorem dL_law_578 : decode cL_law 578 = .ok (.iconst 5, 1) := by decide +kernel
theorem dL_law_579 : decode cL_law 579 = .ok (.iadd, 1) := by decide +kernel
theorem dL_law_580 : decode cL_law 580 = .ok (.iaload, 1) := by decide +kernel
theorem dL_law_581 : decode cL_law 581 = .ok (.invokevirtual 74, 3) := by decide +kernel
theorem dL_law_584 : decode cL_law 584 = .ok (.aload_n 2, 1) := by decide +kernel
theorem dL_law_585 : decode cL_law 585 = .ok (.aload_n 0, 1) := by decide +kernel
theorem dL_law_586 : decode cL_law 586 = .ok (.iload_n 3, 1) := by decide +kernel
theorem dL_law_587 : decode cL_law 587 = .ok (.iconst 1, 1) := by decide +kernel
theorem dL_law_588 : decode cL_law 588 = .ok (.iadd, 1) := by decide +kernel
theorem dL_law_589 : decode cL_law 589 = .ok (.iaload, 1) := by decide +kernel
theorem dL_law_590 : decode cL_law 590 = .ok (.aload_n 0, 1) := by decide +kernel
theorem dL_law_591 : decode cL_law 591 = .ok (.iload_n 3, 1) := by decide +kernel
theorem dL_law_592 : decode cL_law 592 = .ok (.iconst 2, 1) := by decide +kernel
theorem dL_law_593 : decode cL_law 593 = .ok (.iadd, 1) := by decide +kernel
theorem dL_law_594 : decode cL_law 594 = .ok (.iaload, 1) := by decide +kernel
theorem dL_law_595 : decode cL_law 595 = .ok (.aload_n 0, 1) := by decide +kernel
theorem dL_law_596 : decode cL_law 596 = .ok (.iload_n 3, 1) := by decide +kernel
theorem dL_law_597 : decode cL_law 597 = .ok (.iconst 3, 1) := by decide +kernel
theorem dL_law_598 : decode cL_law 598 = .ok (.iadd, 1) := by decide +kernel
theorem dL_law_599 : decode cL_law 599 = .ok (.iaload, 1) := by decide +kernel
theorem dL_law_600 : decode cL_law 600 = .ok (.aload_n 0, 1) := by decide +kernel
theorem dL_law_601 : decode cL_law 601 = .ok (.iload_n 3, 1) := by decide +kernel
theorem dL_law_602 : decode cL_law 602 = .ok (.iconst 4, 1) := by decide +kernel
theorem dL_law_603 : decode cL_law 603 = .ok (.iadd, 1) := by decide +kernel
theorem dL_law_604 : decode cL_law 604 = .ok (.iaload, 1) := by decide +kernel
theorem dL_law_605 : decode cL_law 605 = .ok (.aload_n 0, 1) := by decide +kernel
theorem dL_law_606 : decode cL_law 606 = .ok (.iload_n 3, 1) := by decide +kernel
theorem dL_law_607 : decode cL_law 607 = .ok (.iconst 5, 1) := by decide +kernel
theorem dL_law_608 : decode cL_law 608 = .ok (.iadd, 1) := by decide +kernel
theorem dL_law_609 : decode cL_law 609 = .ok (.iaload, 1) := by decide +kernel
theorem dL_law_610 : decode cL_law 610 = .ok (.invokevirtual 78, 3) := by decide +kernel
theorem dL_law_613 : decode cL_law 613 = .ok (.if_icmp .eq 275, 3) := by decide +kernel
theorem dL_law_616 : decode cL_law 616 = .ok (.iconst 0, 1) := by decide +kernel
theorem dL_law_617 : decode cL_law 617 = .ok (.ireturn, 1) := by decide +kernel
theorem dL_law_618 : decode cL_law 618 = .ok (.aload_n 1, 1) := by decide +kernel
theorem dL_law_619 : decode cL_law 619 = .ok (.aload_n 0, 1) := by decide +kernel
theorem dL_law_620 : decode cL_law 620 = .ok (.iload_n 3, 1) := by decide +kernel
theorem dL_law_621 : decode cL_law 621 = .ok (.iconst 1, 1) := by decide +kernel
theorem dL_law_622 : decode cL_law 622 = .ok (.iadd, 1) := by decide +kernel
theorem dL_law_623 : decode cL_law 623 = .ok (.iaload, 1) := by decide +kernel
theorem dL_law_624 : decode cL_law 624 = .ok (.aload_n 0, 1) := by decide +kernel
theorem dL_law_625 : decode cL_law 625 = .ok (.iload_n 3, 1) := by decide +kernel
theorem dL_law_626 : decode cL_law 626 = .ok (.iconst 2, 1) := by decide +kernel
theorem dL_law_627 : decode cL_law 627 = .ok (.iadd, 1) := by decide +kernel
theorem dL_law_628 : decode cL_law 628 = .ok (.iaload, 1) := by decide +kernel
theorem dL_law_629 : decode cL_law 629 = .ok (.aload_n 0, 1) := by decide +kernel
theorem dL_law_630 : decode cL_law 630 = .ok (.iload_n 3, 1) := by decide +kernel
theorem dL_law_631 : decode cL_law 631 = .ok (.iconst 3, 1) := by decide +kernel
theorem dL_law_632 : decode cL_law 632 = .ok (.iadd, 1) := by decide +kernel
theorem dL_law_633 : decode cL_law 633 = .ok (.iaload, 1) := by decide +kernel
theorem dL_law_634 : decode cL_law 634 = .ok (.aload_n 0, 1) := by decide +kernel
theorem dL_law_635 : decode cL_law 635 = .ok (.iload_n 3, 1) := by decide +kernel
theorem dL_law_636 : decode cL_law 636 = .ok (.iconst 4, 1) := by decide +kernel
theorem dL_law_637 : decode cL_law 637 = .ok (.iadd, 1) := by decide +kernel
theorem dL_law_638 : decode cL_law 638 = .ok (.iaload, 1) := by decide +kernel
theorem dL_law_639 : decode cL_law 639 = .ok (.invokevirtual 79, 3) := by decide +kernel
theorem dL_law_642 : decode cL_law 642 = .ok (.aload_n 2, 1) := by decide +kernel
theorem dL_law_643 : decode cL_law 643 = .ok (.aload_n 0, 1) := by decide +kernel
theorem dL_law_644 : decode cL_law 644 = .ok (.iload_n 3, 1) := by decide +kernel
theorem dL_law_645 : decode cL_law 645 = .ok (.iconst 1, 1) := by decide +kernel
theorem dL_law_646 : decode cL_law 646 = .ok (.iadd, 1) := by decide +kernel
theorem dL_law_647 : decode cL_law 647 = .ok (.iaload, 1) := by decide +kernel
theorem dL_law_648 : decode cL_law 648 = .ok (.aload_n 0, 1) := by decide +kernel
theorem dL_law_649 : decode cL_law 649 = .ok (.iload_n 3, 1) := by decide +kernel
theorem dL_law_650 : decode cL_law 650 = .ok (.iconst 2, 1) := by decide +kernel
theorem dL_law_651 : decode cL_law 651 = .ok (.iadd, 1) := by decide +kernel
theorem dL_law_652 : decode cL_law 652 = .ok (.iaload, 1) := by decide +kernel
theorem dL_law_653 : decode cL_law 653 = .ok (.aload_n 0, 1) := by decide +kernel
theorem dL_law_654 : decode cL_law 654 = .ok (.iload_n 3, 1) := by decide +kernel
theorem dL_law_655 : decode cL_law 655 = .ok (.iconst 3, 1) := by decide +kernel
theorem dL_law_656 : decode cL_law 656 = .ok (.iadd, 1) := by decide +kernel
theorem dL_law_657 : decode cL_law 657 = .ok (.iaload, 1) := by decide +kernel
theorem dL_law_658 : decode cL_law 658 = .ok (.aload_n 0, 1) := by decide +kernel
theorem dL_law_659 : decode cL_law 659 = .ok (.iload_n 3, 1) := by decide +kernel
theorem dL_law_660 : decode cL_law 660 = .ok (.iconst 4, 1) := by decide +kernel
theorem dL_law_661 : decode cL_law 661 = .ok (.iadd, 1) := by decide +kernel
theorem dL_law_662 : decode cL_law 662 = .ok (.iaload, 1) := by decide +kernel
theorem dL_law_663 : decode cL_law 663 = .ok (.invokevirtual 83, 3) := by decide +kernel
theorem dL_law_666 : decode cL_law 666 = .ok (.if_icmp .eq 222, 3) := by decide +kernel
theorem dL_law_669 : decode cL_law 669 = .ok (.iconst 0, 1) := by decide +kernel
theorem dL_law_670 : decode cL_law 670 = .ok (.ireturn, 1) := by decide +kernel
theorem dL_law_671 : decode cL_law 671 = .ok (.aload_n 1, 1) := by decide +kernel
theorem dL_law_672 : decode cL_law 672 = .ok (.aload_n 0, 1) := by decide +kernel
theorem dL_law_673 : decode cL_law 673 = .ok (.iload_n 3, 1) := by decide +kernel
theorem dL_law_674 : decode cL_law 674 = .ok (.iconst 1, 1) := by decide +kernel
theorem dL_law_675 : decode cL_law 675 = .ok (.iadd, 1) := by decide +kernel
theorem dL_law_676 : decode cL_law 676 = .ok (.iaload, 1) := by decide +kernel
theorem dL_law_677 : decode cL_law 677 = .ok (.aload_n 0, 1) := by decide +kernel
theorem dL_law_678 : decode cL_law 678 = .ok (.iload_n 3, 1) := by decide +kernel
theorem dL_law_679 : decode cL_law 679 = .ok (.iconst 2, 1) := by decide +kernel
theorem dL_law_680 : decode cL_law 680 = .ok (.iadd, 1) := by decide +kernel
theorem dL_law_681 : decode cL_law 681 = .ok (.iaload, 1) := by decide +kernel
theorem dL_law_682 : decode cL_law 682 = .ok (.aload_n 0, 1) := by decide +kernel
theorem dL_law_683 : decode cL_law 683 = .ok (.iload_n 3, 1) := by decide +kernel
theorem dL_law_684 : decode cL_law 684 = .ok (.iconst 3, 1) := by decide +kernel
theorem dL_law_685 : decode cL_law 685 = .ok (.iadd, 1) := by decide +kernel
theorem dL_law_686 : decode cL_law 686 = .ok (.iaload, 1) := by decide +kernel
theorem dL_law_687 : decode cL_law 687 = .ok (.invokevirtual 84, 3) := by decide +kernel
theorem dL_law_690 : decode cL_law 690 = .ok (.aload_n 2, 1) := by decide +kernel
theorem dL_law_691 : decode cL_law 691 = .ok (.aload_n 0, 1) := by decide +kernel
theorem dL_law_692 : decode cL_law 692 = .ok (.iload_n 3, 1) := by decide +kernel
theorem dL_law_693 : decode cL_law 693 = .ok (.iconst 1, 1) := by decide +kernel
theorem dL_law_694 : decode cL_law 694 = .ok (.iadd, 1) := by decide +kernel
theorem dL_law_695 : decode cL_law 695 = .ok (.iaload, 1) := by decide +kernel
theorem dL_law_696 : decode cL_law 696 = .ok (.aload_n 0, 1) := by decide +kernel
theorem dL_law_697 : decode cL_law 697 = .ok (.iload_n 3, 1) := by decide +kernel
theorem dL_law_698 : decode cL_law 698 = .ok (.iconst 2, 1) := by decide +kernel
theorem dL_law_699 : decode cL_law 699 = .ok (.iadd, 1) := by decide +kernel
theorem dL_law_700 : decode cL_law 700 = .ok (.iaload, 1) := by decide +kernel
theorem dL_law_701 : decode cL_law 701 = .ok (.aload_n 0, 1) := by decide +kernel
theorem dL_law_702 : decode cL_law 702 = .ok (.iload_n 3, 1) := by decide +kernel
theorem dL_law_703 : decode cL_law 703 = .ok (.iconst 3, 1) := by decide +kernel
theorem dL_law_704 : decode cL_law 704 = .ok (.iadd, 1) := by decide +kernel
theorem dL_law_705 : decode cL_law 705 = .ok (.iaload, 1) := by decide +kernel
theorem dL_law_706 : decode cL_law 706 = .ok (.invokevirtual 88, 3) := by decide +kernel
theorem dL_law_709 : decode cL_law 709 = .ok (.lcmp, 1) := by decide +kernel
theorem dL_law_710 : decode cL_law 710 = .ok (.ifCond .eq 178, 3) := by decide +kernel
theorem dL_law_713 : decode cL_law 713 = .ok (.iconst 0, 1) := by decide +kernel
theorem dL_law_714 : decode cL_law 714 = .ok (.ireturn, 1) := by decide +kernel
theorem dL_law_715 : decode cL_law 715 = .ok (.aload_n 1, 1) := by decide +kernel
theorem dL_law_716 : decode cL_law 716 = .ok (.aload_n 0, 1) := by decide +kernel
theorem dL_law_717 : decode cL_law 717 = .ok (.iload_n 3, 1) := by decide +kernel
theorem dL_law_718 : decode cL_law 718 = .ok (.iconst 1, 1) := by decide +kernel
theorem dL_law_719 : decode cL_law 719 = .ok (.iadd, 1) := by decide +kernel
theorem dL_law_720 : decode cL_law 720 = .ok (.iaload, 1) := by decide +kernel
theorem dL_law_721 : decode cL_law 721 = .ok (.aload_n 0, 1) := by decide +kernel
theorem dL_law_722 : decode cL_law 722 = .ok (.iload_n 3, 1) := by decide +kernel
theorem dL_law_723 : decode cL_law 723 = .ok (.iconst 2, 1) := by decide +kernel
theorem dL_law_724 : decode cL_law 724 = .ok (.iadd, 1) := by decide +kernel
theorem dL_law_725 : decode cL_law 725 = .ok (.iaload, 1) := by decide +kernel
theorem dL_law_726 : decode cL_law 726 = .ok (.aload_n 0, 1) := by decide +kernel
theorem dL_law_727 : decode cL_law 727 = .ok (.iload_n 3, 1) := by decide +kernel
theorem dL_law_728 : decode cL_law 728 = .ok (.iconst 3, 1) := by decide +kernel
theorem dL_law_729 : decode cL_law 729 = .ok (.iadd, 1) := by decide +kernel
theorem dL_law_730 : decode cL_law 730 = .ok (.iaload, 1) := by decide +kernel
theorem dL_law_731 : decode cL_law 731 = .ok (.aload_n 0, 1) := by decide +kernel
theorem dL_law_732 : decode cL_law 732 = .ok (.iload_n 3, 1) := by decide +kernel
theorem dL_law_733 : decode cL_law 733 = .ok (.iconst 4, 1) := by decide +kernel
theorem dL_law_734 : decode cL_law 734 = .ok (.iadd, 1) := by decide +kernel
theorem dL_law_735 : decode cL_law 735 = .ok (.iaload, 1) := by decide +kernel
theorem dL_law_736 : decode cL_law 736 = .ok (.aload_n 0, 1) := by decide +kernel
theorem dL_law_737 : decode cL_law 737 = .ok (.iload_n 3, 1) := by decide +kernel
theorem dL_law_738 : decode cL_law 738 = .ok (.iconst 5, 1) := by decide +kernel
theorem dL_law_739 : decode cL_law 739 = .ok (.iadd, 1) := by decide +kernel
theorem dL_law_740 : decode cL_law 740 = .ok (.iaload, 1) := by decide +kernel
theorem dL_law_741 : decode cL_law 741 = .ok (.aload_n 0, 1) := by decide +kernel
theorem dL_law_742 : decode cL_law 742 = .ok (.iload_n 3, 1) := by decide +kernel
theorem dL_law_743 : decode cL_law 743 = .ok (.bipush 6, 2) := by decide +kernel
theorem dL_law_745 : decode cL_law 745 = .ok (.iadd, 1) := by decide +kernel
theorem dL_law_746 : decode cL_law 746 = .ok (.iaload, 1) := by decide +kernel
theorem dL_law_747 : decode cL_law 747 = .ok (.invokevirtual 89, 3) := by decide +kernel
theorem dL_law_750 : decode cL_law 750 = .ok (.aload_n 2, 1) := by decide +kernel
theorem dL_law_751 : decode cL_law 751 = .ok (.aload_n 0, 1) := by decide +kernel
theorem dL_law_752 : decode cL_law 752 = .ok (.iload_n 3, 1) := by decide +kernel
theorem dL_law_753 : decode cL_law 753 = .ok (.iconst 1, 1) := by decide +kernel
theorem dL_law_754 : decode cL_law 754 = .ok (.iadd, 1) := by decide +kernel
theorem dL_law_755 : decode cL_law 755 = .ok (.iaload, 1) := by decide +kernel
theorem dL_law_756 : decode cL_law 756 = .ok (.aload_n 0, 1) := by decide +kernel
theorem dL_law_757 : decode cL_law 757 = .ok (.iload_n 3, 1) := by decide +kernel
theorem dL_law_758 : decode cL_law 758 = .ok (.iconst 2, 1) := by decide +kernel
theorem dL_law_759 : decode cL_law 759 = .ok (.iadd, 1) := by decide +kernel
theorem dL_law_760 : decode cL_law 760 = .ok (.iaload, 1) := by decide +kernel
theorem dL_law_761 : decode cL_law 761 = .ok (.aload_n 0, 1) := by decide +kernel
theorem dL_law_762 : decode cL_law 762 = .ok (.iload_n 3, 1) := by decide +kernel
theorem dL_law_763 : decode cL_law 763 = .ok (.iconst 3, 1) := by decide +kernel
theorem dL_law_764 : decode cL_law 764 = .ok (.iadd, 1) := by decide +kernel
theorem dL_law_765 : decode cL_law 765 = .ok (.iaload, 1) := by decide +kernel
theorem dL_law_766 : decode cL_law 766 = .ok (.aload_n 0, 1) := by decide +kernel
theorem dL_law_767 : decode cL_law 767 = .ok (.iload_n 3, 1) := by decide +kernel
theorem dL_law_768 : decode cL_law 768 = .ok (.iconst 4, 1) := by decide +kernel
theorem dL_law_769 : decode cL_law 769 = .ok (.iadd, 1) := by decide +kernel
theorem dL_law_770 : decode cL_law 770 = .ok (.iaload, 1) := by decide +kernel
theorem dL_law_771 : decode cL_law 771 = .ok (.aload_n 0, 1) := by decide +kernel
theorem dL_law_772 : decode cL_law 772 = .ok (.iload_n 3, 1) := by decide +kernel
theorem dL_law_773 : decode cL_law 773 = .ok (.iconst 5, 1) := by decide +kernel
theorem dL_law_774 : decode cL_law 774 = .ok (.iadd, 1) := by decide +kernel
theorem dL_law_775 : decode cL_law 775 = .ok (.iaload, 1) := by decide +kernel
theorem dL_law_776 : decode cL_law 776 = .ok (.aload_n 0, 1) := by decide +kernel
theorem dL_law_777 : decode cL_law 777 = .ok (.iload_n 3, 1) := by decide +kernel
theorem dL_law_778 : decode cL_law 778 = .ok (.bipush 6, 2) := by decide +kernel
theorem dL_law_780 : decode cL_law 780 = .ok (.iadd, 1) := by decide +kernel
theorem dL_law_781 : decode cL_law 781 = .ok (.iaload, 1) := by decide +kernel
theorem dL_law_782 : decode cL_law 782 = .ok (.invokevirtual 93, 3) := by decide +kernel
theorem dL_law_785 : decode cL_law 785 = .ok (.if_icmp .eq 103, 3) := by decide +kernel
theorem dL_law_788 : decode cL_law 788 = .ok (.iconst 0, 1) := by decide +kernel
theorem dL_law_789 : decode cL_law 789 = .ok (.ireturn, 1) := by decide +kernel
theorem dL_law_790 : decode cL_law 790 = .ok (.aload_n 1, 1) := by decide +kernel
theorem dL_law_791 : decode cL_law 791 = .ok (.aload_n 0, 1) := by decide +kernel
theorem dL_law_792 : decode cL_law 792 = .ok (.iload_n 3, 1) := by decide +kernel
theorem dL_law_793 : decode cL_law 793 = .ok (.iconst 1, 1) := by decide +kernel
theorem dL_law_794 : decode cL_law 794 = .ok (.iadd, 1) := by decide +kernel
theorem dL_law_795 : decode cL_law 795 = .ok (.iaload, 1) := by decide +kernel
theorem dL_law_796 : decode cL_law 796 = .ok (.aload_n 0, 1) := by decide +kernel
theorem dL_law_797 : decode cL_law 797 = .ok (.iload_n 3, 1) := by decide +kernel
theorem dL_law_798 : decode cL_law 798 = .ok (.iconst 2, 1) := by decide +kernel
theorem dL_law_799 : decode cL_law 799 = .ok (.iadd, 1) := by decide +kernel
theorem dL_law_800 : decode cL_law 800 = .ok (.iaload, 1) := by decide +kernel
theorem dL_law_801 : decode cL_law 801 = .ok (.aload_n 0, 1) := by decide +kernel
theorem dL_law_802 : decode cL_law 802 = .ok (.iload_n 3, 1) := by decide +kernel
theorem dL_law_803 : decode cL_law 803 = .ok (.iconst 3, 1) := by decide +kernel
theorem dL_law_804 : decode cL_law 804 = .ok (.iadd, 1) := by decide +kernel
theorem dL_law_805 : decode cL_law 805 = .ok (.iaload, 1) := by decide +kernel
theorem dL_law_806 : decode cL_law 806 = .ok (.aload_n 0, 1) := by decide +kernel
theorem dL_law_807 : decode cL_law 807 = .ok (.iload_n 3, 1) := by decide +kernel
theorem dL_law_808 : decode cL_law 808 = .ok (.iconst 4, 1) := by decide +kernel
theorem dL_law_809 : decode cL_law 809 = .ok (.iadd, 1) := by decide +kernel
theorem dL_law_810 : decode cL_law 810 = .ok (.iaload, 1) := by decide +kernel
theorem dL_law_811 : decode cL_law 811 = .ok (.aload_n 0, 1) := by decide +kernel
theorem dL_law_812 : decode cL_law 812 = .ok (.iload_n 3, 1) := by decide +kernel
theorem dL_law_813 : decode cL_law 813 = .ok (.iconst 5, 1) := by decide +kernel
theorem dL_law_814 : decode cL_law 814 = .ok (.iadd, 1) := by decide +kernel
theorem dL_law_815 : decode cL_law 815 = .ok (.iaload, 1) := by decide +kernel
theorem dL_law_816 : decode cL_law 816 = .ok (.aload_n 0, 1) := by decide +kernel
theorem dL_law_817 : decode cL_law 817 = .ok (.iload_n 3, 1) := by decide +kernel
theorem dL_law_818 : decode cL_law 818 = .ok (.bipush 6, 2) := by decide +kernel
theorem dL_law_820 : decode cL_law 820 = .ok (.iadd, 1) := by decide +kernel
theorem dL_law_821 : decode cL_law 821 = .ok (.iaload, 1) := by decide +kernel
theorem dL_law_822 : decode cL_law 822 = .ok (.invokevirtual 94, 3) := by decide +kernel
theorem dL_law_825 : decode cL_law 825 = .ok (.aload_n 2, 1) := by decide +kernel
theorem dL_law_826 : decode cL_law 826 = .ok (.aload_n 0, 1) := by decide +kernel
theorem dL_law_827 : decode cL_law 827 = .ok (.iload_n 3, 1) := by decide +kernel
theorem dL_law_828 : decode cL_law 828 = .ok (.iconst 1, 1) := by decide +kernel
theorem dL_law_829 : decode cL_law 829 = .ok (.iadd, 1) := by decide +kernel
theorem dL_law_830 : decode cL_law 830 = .ok (.iaload, 1) := by decide +kernel
theorem dL_law_831 : decode cL_law 831 = .ok (.aload_n 0, 1) := by decide +kernel
theorem dL_law_832 : decode cL_law 832 = .ok (.iload_n 3, 1) := by decide +kernel
theorem dL_law_833 : decode cL_law 833 = .ok (.iconst 2, 1) := by decide +kernel
theorem dL_law_834 : decode cL_law 834 = .ok (.iadd, 1) := by decide +kernel
theorem dL_law_835 : decode cL_law 835 = .ok (.iaload, 1) := by decide +kernel
theorem dL_law_836 : decode cL_law 836 = .ok (.aload_n 0, 1) := by decide +kernel
theorem dL_law_837 : decode cL_law 837 = .ok (.iload_n 3, 1) := by decide +kernel
theorem dL_law_838 : decode cL_law 838 = .ok (.iconst 3, 1) := by decide +kernel
theorem dL_law_839 : decode cL_law 839 = .ok (.iadd, 1) := by decide +kernel
theorem dL_law_840 : decode cL_law 840 = .ok (.iaload, 1) := by decide +kernel
theorem dL_law_841 : decode cL_law 841 = .ok (.aload_n 0, 1) := by decide +kernel
theorem dL_law_842 : decode cL_law 842 = .ok (.iload_n 3, 1) := by decide +kernel
theorem dL_law_843 : decode cL_law 843 = .ok (.iconst 4, 1) := by decide +kernel
theorem dL_law_844 : decode cL_law 844 = .ok (.iadd, 1) := by decide +kernel
theorem dL_law_845 : decode cL_law 845 = .ok (.iaload, 1) := by decide +kernel
theorem dL_law_846 : decode cL_law 846 = .ok (.aload_n 0, 1) := by decide +kernel
theorem dL_law_847 : decode cL_law 847 = .ok (.iload_n 3, 1) := by decide +kernel
theorem dL_law_848 : decode cL_law 848 = .ok (.iconst 5, 1) := by decide +kernel
theorem dL_law_849 : decode cL_law 849 = .ok (.iadd, 1) := by decide +kernel
theorem dL_law_850 : decode cL_law 850 = .ok (.iaload, 1) := by decide +kernel
theorem dL_law_851 : decode cL_law 851 = .ok (.aload_n 0, 1) := by decide +kernel
theorem dL_law_852 : decode cL_law 852 = .ok (.iload_n 3, 1) := by decide +kernel
theorem dL_law_853 : decode cL_law 853 = .ok (.bipush 6, 2) := by decide +kernel
theorem dL_law_855 : decode cL_law 855 = .ok (.iadd, 1) := by decide +kernel
theorem dL_law_856 : decode cL_law 856 = .ok (.iaload, 1) := by decide +kernel
theorem dL_law_857 : decode cL_law 857 = .ok (.invokevirtual 97, 3) := by decide +kernel
theorem dL_law_860 : decode cL_law 860 = .ok (.if_icmp .eq 28, 3) := by decide +kernel
theorem dL_law_863 : decode cL_law 863 = .ok (.iconst 0, 1) := by decide +kernel
theorem dL_law_864 : decode cL_law 864 = .ok (.ireturn, 1) := by decide +kernel
theorem dL_law_865 : decode cL_law 865 = .ok (.aload_n 1, 1) := by decide +kernel
theorem dL_law_866 : decode cL_law 866 = .ok (.aload_n 0, 1) := by decide +kernel
theorem dL_law_867 : decode cL_law 867 = .ok (.iload_n 3, 1) := by decide +kernel
theorem dL_law_868 : decode cL_law 868 = .ok (.iconst 1, 1) := by decide +kernel
theorem dL_law_869 : decode cL_law 869 = .ok (.iadd, 1) := by decide +kernel
theorem dL_law_870 : decode cL_law 870 = .ok (.iaload, 1) := by decide +kernel
theorem dL_law_871 : decode cL_law 871 = .ok (.invokevirtual 98, 3) := by decide +kernel
theorem dL_law_874 : decode cL_law 874 = .ok (.aload_n 2, 1) := by decide +kernel
theorem dL_law_875 : decode cL_law 875 = .ok (.aload_n 0, 1) := by decide +kernel
theorem dL_law_876 : decode cL_law 876 = .ok (.iload_n 3, 1) := by decide +kernel
theorem dL_law_877 : decode cL_law 877 = .ok (.iconst 1, 1) := by decide +kernel
theorem dL_law_878 : decode cL_law 878 = .ok (.iadd, 1) := by decide +kernel
theorem dL_law_879 : decode cL_law 879 = .ok (.iaload, 1) := by decide +kernel
theorem dL_law_880 : decode cL_law 880 = .ok (.invokevirtual 101, 3) := by decide +kernel
theorem dL_law_883 : decode cL_law 883 = .ok (.if_icmp .eq 5, 3) := by decide +kernel
theorem dL_law_886 : decode cL_law 886 = .ok (.iconst 0, 1) := by decide +kernel
theorem dL_law_887 : decode cL_law 887 = .ok (.ireturn, 1) := by decide +kernel
theorem dL_law_888 : decode cL_law 888 = .ok (.iinc 3 7, 3) := by decide +kernel
theorem dL_law_891 : decode cL_law 891 = .ok (.goto (-873), 3) := by decide +kernel
theorem dL_law_894 : decode cL_law 894 = .ok (.iconst 1, 1) := by decide +kernel
theorem dL_law_895 : decode cL_law 895 = .ok (.ireturn, 1) := by decide +kernel
