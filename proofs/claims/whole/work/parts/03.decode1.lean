theorem dX0_init_0 : decode cX0_init 0 = .ok (.aload_n 0, 1) := by decide +kernel
theorem dX0_init_1 : decode cX0_init 1 = .ok (.invokespecial 5, 3) := by decide +kernel
theorem dX0_init_4 : decode cX0_init 4 = .ok (.aload_n 0, 1) := by decide +kernel
theorem dX0_init_5 : decode cX0_init 5 = .ok (.sipush 157, 3) := by decide +kernel
theorem dX0_init_8 : decode cX0_init 8 = .ok (.newarray .long, 2) := by decide +kernel
theorem dX0_init_10 : decode cX0_init 10 = .ok (.putfield 11, 3) := by decide +kernel
theorem dX0_init_13 : decode cX0_init 13 = .ok (.aload_n 0, 1) := by decide +kernel
theorem dX0_init_14 : decode cX0_init 14 = .ok (.iconst (-1), 1) := by decide +kernel
theorem dX0_init_15 : decode cX0_init 15 = .ok (.putfield 15, 3) := by decide +kernel
theorem dX0_init_18 : decode cX0_init 18 = .ok (.aload_n 0, 1) := by decide +kernel
theorem dX0_init_19 : decode cX0_init 19 = .ok (.iconst (-1), 1) := by decide +kernel
theorem dX0_init_20 : decode cX0_init 20 = .ok (.putfield 19, 3) := by decide +kernel
theorem dX0_init_23 : decode cX0_init 23 = .ok (.return_, 1) := by decide +kernel
theorem dX0_clear_0 : decode cX0_clear 0 = .ok (.aload_n 0, 1) := by decide +kernel
theorem dX0_clear_1 : decode cX0_clear 1 = .ok (.getfield 11, 3) := by decide +kernel
theorem dX0_clear_4 : decode cX0_clear 4 = .ok (.lconst 0, 1) := by decide +kernel
theorem dX0_clear_5 : decode cX0_clear 5 = .ok (.invokestatic 22, 3) := by decide +kernel
theorem dX0_clear_8 : decode cX0_clear 8 = .ok (.aload_n 0, 1) := by decide +kernel
theorem dX0_clear_9 : decode cX0_clear 9 = .ok (.iconst (-1), 1) := by decide +kernel
theorem dX0_clear_10 : decode cX0_clear 10 = .ok (.putfield 15, 3) := by decide +kernel
theorem dX0_clear_13 : decode cX0_clear 13 = .ok (.aload_n 0, 1) := by decide +kernel
theorem dX0_clear_14 : decode cX0_clear 14 = .ok (.iconst (-1), 1) := by decide +kernel
theorem dX0_clear_15 : decode cX0_clear 15 = .ok (.putfield 19, 3) := by decide +kernel
theorem dX0_clear_18 : decode cX0_clear 18 = .ok (.aload_n 0, 1) := by decide +kernel
theorem dX0_clear_19 : decode cX0_clear 19 = .ok (.iconst 0, 1) := by decide +kernel
theorem dX0_clear_20 : decode cX0_clear 20 = .ok (.putfield 28, 3) := by decide +kernel
theorem dX0_clear_23 : decode cX0_clear 23 = .ok (.aload_n 0, 1) := by decide +kernel
theorem dX0_clear_24 : decode cX0_clear 24 = .ok (.iconst 0, 1) := by decide +kernel
theorem dX0_clear_25 : decode cX0_clear 25 = .ok (.putfield 31, 3) := by decide +kernel
theorem dX0_clear_28 : decode cX0_clear 28 = .ok (.aload_n 0, 1) := by decide +kernel
theorem dX0_clear_29 : decode cX0_clear 29 = .ok (.iconst 0, 1) := by decide +kernel
theorem dX0_clear_30 : decode cX0_clear 30 = .ok (.putfield 34, 3) := by decide +kernel
theorem dX0_clear_33 : decode cX0_clear 33 = .ok (.return_, 1) := by decide +kernel
theorem dX0_turnTo_0 : decode cX0_turnTo 0 = .ok (.iload_n 1, 1) := by decide +kernel
theorem dX0_turnTo_1 : decode cX0_turnTo 1 = .ok (.aload_n 0, 1) := by decide +kernel
theorem dX0_turnTo_2 : decode cX0_turnTo 2 = .ok (.getfield 15, 3) := by decide +kernel
theorem dX0_turnTo_5 : decode cX0_turnTo 5 = .ok (.if_icmp .ne 11, 3) := by decide +kernel
theorem dX0_turnTo_8 : decode cX0_turnTo 8 = .ok (.iload_n 2, 1) := by decide +kernel
theorem dX0_turnTo_9 : decode cX0_turnTo 9 = .ok (.aload_n 0, 1) := by decide +kernel
theorem dX0_turnTo_10 : decode cX0_turnTo 10 = .ok (.getfield 19, 3) := by decide +kernel
theorem dX0_turnTo_13 : decode cX0_turnTo 13 = .ok (.if_icmp .eq 17, 3) := by decide +kernel
theorem dX0_turnTo_16 : decode cX0_turnTo 16 = .ok (.aload_n 0, 1) := by decide +kernel
theorem dX0_turnTo_17 : decode cX0_turnTo 17 = .ok (.invokevirtual 37, 3) := by decide +kernel
theorem dX0_turnTo_20 : decode cX0_turnTo 20 = .ok (.aload_n 0, 1) := by decide +kernel
theorem dX0_turnTo_21 : decode cX0_turnTo 21 = .ok (.iload_n 1, 1) := by decide +kernel
theorem dX0_turnTo_22 : decode cX0_turnTo 22 = .ok (.putfield 15, 3) := by decide +kernel
theorem dX0_turnTo_25 : decode cX0_turnTo 25 = .ok (.aload_n 0, 1) := by decide +kernel
theorem dX0_turnTo_26 : decode cX0_turnTo 26 = .ok (.iload_n 2, 1) := by decide +kernel
theorem dX0_turnTo_27 : decode cX0_turnTo 27 = .ok (.putfield 19, 3) := by decide +kernel
theorem dX0_turnTo_30 : decode cX0_turnTo 30 = .ok (.return_, 1) := by decide +kernel
theorem dX0_takes_0 : decode cX0_takes 0 = .ok (.iload_n 1, 1) := by decide +kernel
theorem dX0_takes_1 : decode cX0_takes 1 = .ok (.bipush 6, 2) := by decide +kernel
theorem dX0_takes_3 : decode cX0_takes 3 = .ok (.ishr, 1) := by decide +kernel
theorem dX0_takes_4 : decode cX0_takes 4 = .ok (.istore_n 2, 1) := by decide +kernel
theorem dX0_takes_5 : decode cX0_takes 5 = .ok (.iload_n 2, 1) := by decide +kernel
theorem dX0_takes_6 : decode cX0_takes 6 = .ok (.ifCond .lt 10, 3) := by decide +kernel
theorem dX0_takes_9 : decode cX0_takes 9 = .ok (.iload_n 2, 1) := by decide +kernel
theorem dX0_takes_10 : decode cX0_takes 10 = .ok (.sipush 157, 3) := by decide +kernel
theorem dX0_takes_13 : decode cX0_takes 13 = .ok (.if_icmp .lt 5, 3) := by decide +kernel
theorem dX0_takes_16 : decode cX0_takes 16 = .ok (.iconst 0, 1) := by decide +kernel
theorem dX0_takes_17 : decode cX0_takes 17 = .ok (.ireturn, 1) := by decide +kernel
theorem dX0_takes_18 : decode cX0_takes 18 = .ok (.lconst 1, 1) := by decide +kernel
theorem dX0_takes_19 : decode cX0_takes 19 = .ok (.iload_n 1, 1) := by decide +kernel
theorem dX0_takes_20 : decode cX0_takes 20 = .ok (.lshl, 1) := by decide +kernel
theorem dX0_takes_21 : decode cX0_takes 21 = .ok (.lstore_n 3, 1) := by decide +kernel
theorem dX0_takes_22 : decode cX0_takes 22 = .ok (.aload_n 0, 1) := by decide +kernel
theorem dX0_takes_23 : decode cX0_takes 23 = .ok (.getfield 11, 3) := by decide +kernel
theorem dX0_takes_26 : decode cX0_takes 26 = .ok (.iload_n 2, 1) := by decide +kernel
theorem dX0_takes_27 : decode cX0_takes 27 = .ok (.laload, 1) := by decide +kernel
theorem dX0_takes_28 : decode cX0_takes 28 = .ok (.lload_n 3, 1) := by decide +kernel
theorem dX0_takes_29 : decode cX0_takes 29 = .ok (.land, 1) := by decide +kernel
theorem dX0_takes_30 : decode cX0_takes 30 = .ok (.lconst 0, 1) := by decide +kernel
theorem dX0_takes_31 : decode cX0_takes 31 = .ok (.lcmp, 1) := by decide +kernel
theorem dX0_takes_32 : decode cX0_takes 32 = .ok (.ifCond .eq 5, 3) := by decide +kernel
theorem dX0_takes_35 : decode cX0_takes 35 = .ok (.iconst 0, 1) := by decide +kernel
theorem dX0_takes_36 : decode cX0_takes 36 = .ok (.ireturn, 1) := by decide +kernel
theorem dX0_takes_37 : decode cX0_takes 37 = .ok (.aload_n 0, 1) := by decide +kernel
theorem dX0_takes_38 : decode cX0_takes 38 = .ok (.getfield 11, 3) := by decide +kernel
theorem dX0_takes_41 : decode cX0_takes 41 = .ok (.iload_n 2, 1) := by decide +kernel
theorem dX0_takes_42 : decode cX0_takes 42 = .ok (.dup2, 1) := by decide +kernel
theorem dX0_takes_43 : decode cX0_takes 43 = .ok (.laload, 1) := by decide +kernel
theorem dX0_takes_44 : decode cX0_takes 44 = .ok (.lload_n 3, 1) := by decide +kernel
theorem dX0_takes_45 : decode cX0_takes 45 = .ok (.lor, 1) := by decide +kernel
theorem dX0_takes_46 : decode cX0_takes 46 = .ok (.lastore, 1) := by decide +kernel
theorem dX0_takes_47 : decode cX0_takes 47 = .ok (.aload_n 0, 1) := by decide +kernel
theorem dX0_takes_48 : decode cX0_takes 48 = .ok (.dup, 1) := by decide +kernel
theorem dX0_takes_49 : decode cX0_takes 49 = .ok (.getfield 28, 3) := by decide +kernel
theorem dX0_takes_52 : decode cX0_takes 52 = .ok (.iconst 1, 1) := by decide +kernel
theorem dX0_takes_53 : decode cX0_takes 53 = .ok (.iadd, 1) := by decide +kernel
theorem dX0_takes_54 : decode cX0_takes 54 = .ok (.putfield 28, 3) := by decide +kernel
theorem dX0_takes_57 : decode cX0_takes 57 = .ok (.iconst 1, 1) := by decide +kernel
theorem dX0_takes_58 : decode cX0_takes 58 = .ok (.ireturn, 1) := by decide +kernel
theorem dX0_note_0 : decode cX0_note 0 = .ok (.iload_n 1, 1) := by decide +kernel
theorem dX0_note_1 : decode cX0_note 1 = .ok (.iconst (-1), 1) := by decide +kernel
theorem dX0_note_2 : decode cX0_note 2 = .ok (.if_icmp .eq 23, 3) := by decide +kernel
theorem dX0_note_5 : decode cX0_note 5 = .ok (.aload_n 0, 1) := by decide +kernel
theorem dX0_note_6 : decode cX0_note 6 = .ok (.dup, 1) := by decide +kernel
theorem dX0_note_7 : decode cX0_note 7 = .ok (.getfield 31, 3) := by decide +kernel
theorem dX0_note_10 : decode cX0_note 10 = .ok (.iconst 1, 1) := by decide +kernel
theorem dX0_note_11 : decode cX0_note 11 = .ok (.iadd, 1) := by decide +kernel
theorem dX0_note_12 : decode cX0_note 12 = .ok (.putfield 31, 3) := by decide +kernel
theorem dX0_note_15 : decode cX0_note 15 = .ok (.aload_n 0, 1) := by decide +kernel
theorem dX0_note_16 : decode cX0_note 16 = .ok (.dup, 1) := by decide +kernel
theorem dX0_note_17 : decode cX0_note 17 = .ok (.getfield 34, 3) := by decide +kernel
theorem dX0_note_20 : decode cX0_note 20 = .ok (.iload_n 1, 1) := by decide +kernel
theorem dX0_note_21 : decode cX0_note 21 = .ok (.iadd, 1) := by decide +kernel
theorem dX0_note_22 : decode cX0_note 22 = .ok (.putfield 34, 3) := by decide +kernel
theorem dX0_note_25 : decode cX0_note 25 = .ok (.return_, 1) := by decide +kernel
theorem dX1_init_0 : decode cX1_init 0 = .ok (.aload_n 0, 1) := by decide +kernel
theorem dX1_init_1 : decode cX1_init 1 = .ok (.invokespecial 3, 3) := by decide +kernel
theorem dX1_init_4 : decode cX1_init 4 = .ok (.aload_n 0, 1) := by decide +kernel
theorem dX1_init_5 : decode cX1_init 5 = .ok (.iconst 1, 1) := by decide +kernel
theorem dX1_init_6 : decode cX1_init 6 = .ok (.putfield 9, 3) := by decide +kernel
theorem dX1_init_9 : decode cX1_init 9 = .ok (.aload_n 0, 1) := by decide +kernel
theorem dX1_init_10 : decode cX1_init 10 = .ok (.iconst 4, 1) := by decide +kernel
theorem dX1_init_11 : decode cX1_init 11 = .ok (.newarray .int, 2) := by decide +kernel
theorem dX1_init_13 : decode cX1_init 13 = .ok (.putfield 15, 3) := by decide +kernel
theorem dX1_init_16 : decode cX1_init 16 = .ok (.aload_n 0, 1) := by decide +kernel
theorem dX1_init_17 : decode cX1_init 17 = .ok (.iconst 4, 1) := by decide +kernel
theorem dX1_init_18 : decode cX1_init 18 = .ok (.newarray .int, 2) := by decide +kernel
theorem dX1_init_20 : decode cX1_init 20 = .ok (.putfield 19, 3) := by decide +kernel
theorem dX1_init_23 : decode cX1_init 23 = .ok (.aload_n 0, 1) := by decide +kernel
theorem dX1_init_24 : decode cX1_init 24 = .ok (.bipush 12, 2) := by decide +kernel
theorem dX1_init_26 : decode cX1_init 26 = .ok (.anewarray 22, 3) := by decide +kernel
theorem dX1_init_29 : decode cX1_init 29 = .ok (.putfield 24, 3) := by decide +kernel
theorem dX1_init_32 : decode cX1_init 32 = .ok (.aload_n 0, 1) := by decide +kernel
theorem dX1_init_33 : decode cX1_init 33 = .ok (.iconst 4, 1) := by decide +kernel
theorem dX1_init_34 : decode cX1_init 34 = .ok (.anewarray 28, 3) := by decide +kernel
theorem dX1_init_37 : decode cX1_init 37 = .ok (.putfield 30, 3) := by decide +kernel
theorem dX1_init_40 : decode cX1_init 40 = .ok (.aload_n 0, 1) := by decide +kernel
theorem dX1_init_41 : decode cX1_init 41 = .ok (.iconst 4, 1) := by decide +kernel
theorem dX1_init_42 : decode cX1_init 42 = .ok (.newarray .int, 2) := by decide +kernel
theorem dX1_init_44 : decode cX1_init 44 = .ok (.putfield 34, 3) := by decide +kernel
theorem dX1_init_47 : decode cX1_init 47 = .ok (.iconst 0, 1) := by decide +kernel
theorem dX1_init_48 : decode cX1_init 48 = .ok (.istore_n 1, 1) := by decide +kernel
theorem dX1_init_49 : decode cX1_init 49 = .ok (.iload_n 1, 1) := by decide +kernel
theorem dX1_init_50 : decode cX1_init 50 = .ok (.bipush 12, 2) := by decide +kernel
theorem dX1_init_52 : decode cX1_init 52 = .ok (.if_icmp .ge 22, 3) := by decide +kernel
theorem dX1_init_55 : decode cX1_init 55 = .ok (.aload_n 0, 1) := by decide +kernel
theorem dX1_init_56 : decode cX1_init 56 = .ok (.getfield 24, 3) := by decide +kernel
theorem dX1_init_59 : decode cX1_init 59 = .ok (.iload_n 1, 1) := by decide +kernel
theorem dX1_init_60 : decode cX1_init 60 = .ok (.new 22, 3) := by decide +kernel
theorem dX1_init_63 : decode cX1_init 63 = .ok (.dup, 1) := by decide +kernel
theorem dX1_init_64 : decode cX1_init 64 = .ok (.invokespecial 37, 3) := by decide +kernel
theorem dX1_init_67 : decode cX1_init 67 = .ok (.aastore, 1) := by decide +kernel
theorem dX1_init_68 : decode cX1_init 68 = .ok (.iinc 1 1, 3) := by decide +kernel
theorem dX1_init_71 : decode cX1_init 71 = .ok (.goto (-22), 3) := by decide +kernel
theorem dX1_init_74 : decode cX1_init 74 = .ok (.iconst 0, 1) := by decide +kernel
theorem dX1_init_75 : decode cX1_init 75 = .ok (.istore_n 1, 1) := by decide +kernel
theorem dX1_init_76 : decode cX1_init 76 = .ok (.iload_n 1, 1) := by decide +kernel
theorem dX1_init_77 : decode cX1_init 77 = .ok (.iconst 4, 1) := by decide +kernel
theorem dX1_init_78 : decode cX1_init 78 = .ok (.if_icmp .ge 22, 3) := by decide +kernel
theorem dX1_init_81 : decode cX1_init 81 = .ok (.aload_n 0, 1) := by decide +kernel
theorem dX1_init_82 : decode cX1_init 82 = .ok (.getfield 30, 3) := by decide +kernel
theorem dX1_init_85 : decode cX1_init 85 = .ok (.iload_n 1, 1) := by decide +kernel
theorem dX1_init_86 : decode cX1_init 86 = .ok (.new 28, 3) := by decide +kernel
theorem dX1_init_89 : decode cX1_init 89 = .ok (.dup, 1) := by decide +kernel
theorem dX1_init_90 : decode cX1_init 90 = .ok (.invokespecial 38, 3) := by decide +kernel
theorem dX1_init_93 : decode cX1_init 93 = .ok (.aastore, 1) := by decide +kernel
theorem dX1_init_94 : decode cX1_init 94 = .ok (.iinc 1 1, 3) := by decide +kernel
theorem dX1_init_97 : decode cX1_init 97 = .ok (.goto (-21), 3) := by decide +kernel
theorem dX1_init_100 : decode cX1_init 100 = .ok (.return_, 1) := by decide +kernel
theorem dX1_clear_0 : decode cX1_clear 0 = .ok (.aload_n 0, 1) := by decide +kernel
theorem dX1_clear_1 : decode cX1_clear 1 = .ok (.iconst 0, 1) := by decide +kernel
theorem dX1_clear_2 : decode cX1_clear 2 = .ok (.putfield 39, 3) := by decide +kernel
theorem dX1_clear_5 : decode cX1_clear 5 = .ok (.aload_n 0, 1) := by decide +kernel
theorem dX1_clear_6 : decode cX1_clear 6 = .ok (.iconst 0, 1) := by decide +kernel
theorem dX1_clear_7 : decode cX1_clear 7 = .ok (.putfield 42, 3) := by decide +kernel
theorem dX1_clear_10 : decode cX1_clear 10 = .ok (.aload_n 0, 1) := by decide +kernel
theorem dX1_clear_11 : decode cX1_clear 11 = .ok (.iconst 0, 1) := by decide +kernel
theorem dX1_clear_12 : decode cX1_clear 12 = .ok (.putfield 45, 3) := by decide +kernel
theorem dX1_clear_15 : decode cX1_clear 15 = .ok (.aload_n 0, 1) := by decide +kernel
theorem dX1_clear_16 : decode cX1_clear 16 = .ok (.iconst 0, 1) := by decide +kernel
theorem dX1_clear_17 : decode cX1_clear 17 = .ok (.putfield 48, 3) := by decide +kernel
theorem dX1_clear_20 : decode cX1_clear 20 = .ok (.aload_n 0, 1) := by decide +kernel
theorem dX1_clear_21 : decode cX1_clear 21 = .ok (.iconst 1, 1) := by decide +kernel
theorem dX1_clear_22 : decode cX1_clear 22 = .ok (.putfield 9, 3) := by decide +kernel
theorem dX1_clear_25 : decode cX1_clear 25 = .ok (.return_, 1) := by decide +kernel
theorem dX1_addVar_0 : decode cX1_addVar 0 = .ok (.aload_n 0, 1) := by decide +kernel
theorem dX1_addVar_1 : decode cX1_addVar 1 = .ok (.getfield 42, 3) := by decide +kernel
theorem dX1_addVar_4 : decode cX1_addVar 4 = .ok (.iconst 4, 1) := by decide +kernel
theorem dX1_addVar_5 : decode cX1_addVar 5 = .ok (.if_icmp .ge 55, 3) := by decide +kernel
theorem dX1_addVar_8 : decode cX1_addVar 8 = .ok (.aload_n 0, 1) := by decide +kernel
theorem dX1_addVar_9 : decode cX1_addVar 9 = .ok (.getfield 34, 3) := by decide +kernel
theorem dX1_addVar_12 : decode cX1_addVar 12 = .ok (.aload_n 0, 1) := by decide +kernel
theorem dX1_addVar_13 : decode cX1_addVar 13 = .ok (.getfield 42, 3) := by decide +kernel
theorem dX1_addVar_16 : decode cX1_addVar 16 = .ok (.iload_n 1, 1) := by decide +kernel
theorem dX1_addVar_17 : decode cX1_addVar 17 = .ok (.iastore, 1) := by decide +kernel
theorem dX1_addVar_18 : decode cX1_addVar 18 = .ok (.aload_n 0, 1) := by decide +kernel
theorem dX1_addVar_19 : decode cX1_addVar 19 = .ok (.getfield 15, 3) := by decide +kernel
theorem dX1_addVar_22 : decode cX1_addVar 22 = .ok (.aload_n 0, 1) := by decide +kernel
theorem dX1_addVar_23 : decode cX1_addVar 23 = .ok (.getfield 42, 3) := by decide +kernel
theorem dX1_addVar_26 : decode cX1_addVar 26 = .ok (.iload_n 2, 1) := by decide +kernel
theorem dX1_addVar_27 : decode cX1_addVar 27 = .ok (.iastore, 1) := by decide +kernel
theorem dX1_addVar_28 : decode cX1_addVar 28 = .ok (.aload_n 0, 1) := by decide +kernel
theorem dX1_addVar_29 : decode cX1_addVar 29 = .ok (.getfield 19, 3) := by decide +kernel
theorem dX1_addVar_32 : decode cX1_addVar 32 = .ok (.aload_n 0, 1) := by decide +kernel
theorem dX1_addVar_33 : decode cX1_addVar 33 = .ok (.getfield 42, 3) := by decide +kernel
theorem dX1_addVar_36 : decode cX1_addVar 36 = .ok (.iload_n 3, 1) := by decide +kernel
theorem dX1_addVar_37 : decode cX1_addVar 37 = .ok (.iastore, 1) := by decide +kernel
theorem dX1_addVar_38 : decode cX1_addVar 38 = .ok (.aload_n 0, 1) := by decide +kernel
theorem dX1_addVar_39 : decode cX1_addVar 39 = .ok (.dup, 1) := by decide +kernel
theorem dX1_addVar_40 : decode cX1_addVar 40 = .ok (.getfield 42, 3) := by decide +kernel
theorem dX1_addVar_43 : decode cX1_addVar 43 = .ok (.iconst 1, 1) := by decide +kernel
theorem dX1_addVar_44 : decode cX1_addVar 44 = .ok (.iadd, 1) := by decide +kernel
theorem dX1_addVar_45 : decode cX1_addVar 45 = .ok (.putfield 42, 3) := by decide +kernel
theorem dX1_addVar_48 : decode cX1_addVar 48 = .ok (.aload_n 0, 1) := by decide +kernel
theorem dX1_addVar_49 : decode cX1_addVar 49 = .ok (.dup, 1) := by decide +kernel
theorem dX1_addVar_50 : decode cX1_addVar 50 = .ok (.getfield 9, 3) := by decide +kernel
theorem dX1_addVar_53 : decode cX1_addVar 53 = .ok (.iload_n 2, 1) := by decide +kernel
theorem dX1_addVar_54 : decode cX1_addVar 54 = .ok (.iconst 1, 1) := by decide +kernel
theorem dX1_addVar_55 : decode cX1_addVar 55 = .ok (.iadd, 1) := by decide +kernel
theorem dX1_addVar_56 : decode cX1_addVar 56 = .ok (.imul, 1) := by decide +kernel
theorem dX1_addVar_57 : decode cX1_addVar 57 = .ok (.putfield 9, 3) := by decide +kernel
theorem dX1_addVar_60 : decode cX1_addVar 60 = .ok (.return_, 1) := by decide +kernel
theorem dX1_varNamed_0 : decode cX1_varNamed 0 = .ok (.iconst 0, 1) := by decide +kernel
theorem dX1_varNamed_1 : decode cX1_varNamed 1 = .ok (.istore_n 2, 1) := by decide +kernel
theorem dX1_varNamed_2 : decode cX1_varNamed 2 = .ok (.iload_n 2, 1) := by decide +kernel
theorem dX1_varNamed_3 : decode cX1_varNamed 3 = .ok (.aload_n 0, 1) := by decide +kernel
theorem dX1_varNamed_4 : decode cX1_varNamed 4 = .ok (.getfield 42, 3) := by decide +kernel
theorem dX1_varNamed_7 : decode cX1_varNamed 7 = .ok (.if_icmp .ge 26, 3) := by decide +kernel
theorem dX1_varNamed_10 : decode cX1_varNamed 10 = .ok (.iload_n 2, 1) := by decide +kernel
theorem dX1_varNamed_11 : decode cX1_varNamed 11 = .ok (.iconst 4, 1) := by decide +kernel
theorem dX1_varNamed_12 : decode cX1_varNamed 12 = .ok (.if_icmp .ge 21, 3) := by decide +kernel
theorem dX1_varNamed_15 : decode cX1_varNamed 15 = .ok (.aload_n 0, 1) := by decide +kernel
theorem dX1_varNamed_16 : decode cX1_varNamed 16 = .ok (.getfield 34, 3) := by decide +kernel
theorem dX1_varNamed_19 : decode cX1_varNamed 19 = .ok (.iload_n 2, 1) := by decide +kernel
theorem dX1_varNamed_20 : decode cX1_varNamed 20 = .ok (.iaload, 1) := by decide +kernel
theorem dX1_varNamed_21 : decode cX1_varNamed 21 = .ok (.iload_n 1, 1) := by decide +kernel
theorem dX1_varNamed_22 : decode cX1_varNamed 22 = .ok (.if_icmp .ne 5, 3) := by decide +kernel
theorem dX1_varNamed_25 : decode cX1_varNamed 25 = .ok (.iload_n 2, 1) := by decide +kernel
theorem dX1_varNamed_26 : decode cX1_varNamed 26 = .ok (.ireturn, 1) := by decide +kernel
theorem dX1_varNamed_27 : decode cX1_varNamed 27 = .ok (.iinc 2 1, 3) := by decide +kernel
theorem dX1_varNamed_30 : decode cX1_varNamed 30 = .ok (.goto (-28), 3) := by decide +kernel
theorem dX1_varNamed_33 : decode cX1_varNamed 33 = .ok (.iconst (-1), 1) := by decide +kernel
theorem dX1_varNamed_34 : decode cX1_varNamed 34 = .ok (.ireturn, 1) := by decide +kernel
theorem dX1_stateOf_0 : decode cX1_stateOf 0 = .ok (.iconst 0, 1) := by decide +kernel
theorem dX1_stateOf_1 : decode cX1_stateOf 1 = .ok (.istore_n 2, 1) := by decide +kernel
theorem dX1_stateOf_2 : decode cX1_stateOf 2 = .ok (.aload_n 0, 1) := by decide +kernel
theorem dX1_stateOf_3 : decode cX1_stateOf 3 = .ok (.getfield 42, 3) := by decide +kernel
theorem dX1_stateOf_6 : decode cX1_stateOf 6 = .ok (.iconst 4, 1) := by decide +kernel
theorem dX1_stateOf_7 : decode cX1_stateOf 7 = .ok (.invokestatic 51, 3) := by decide +kernel
theorem dX1_stateOf_10 : decode cX1_stateOf 10 = .ok (.iconst 1, 1) := by decide +kernel
theorem dX1_stateOf_11 : decode cX1_stateOf 11 = .ok (.isub, 1) := by decide +kernel
theorem dX1_stateOf_12 : decode cX1_stateOf 12 = .ok (.istore_n 3, 1) := by decide +kernel
theorem dX1_stateOf_13 : decode cX1_stateOf 13 = .ok (.iload_n 3, 1) := by decide +kernel
theorem dX1_stateOf_14 : decode cX1_stateOf 14 = .ok (.ifCond .lt 30, 3) := by decide +kernel
theorem dX1_stateOf_17 : decode cX1_stateOf 17 = .ok (.iload_n 3, 1) := by decide +kernel
theorem dX1_stateOf_18 : decode cX1_stateOf 18 = .ok (.aload_n 1, 1) := by decide +kernel
theorem dX1_stateOf_19 : decode cX1_stateOf 19 = .ok (.arraylength, 1) := by decide +kernel
theorem dX1_stateOf_20 : decode cX1_stateOf 20 = .ok (.if_icmp .ge 24, 3) := by decide +kernel
theorem dX1_stateOf_23 : decode cX1_stateOf 23 = .ok (.iload_n 2, 1) := by decide +kernel
theorem dX1_stateOf_24 : decode cX1_stateOf 24 = .ok (.aload_n 0, 1) := by decide +kernel
theorem dX1_stateOf_25 : decode cX1_stateOf 25 = .ok (.getfield 15, 3) := by decide +kernel
theorem dX1_stateOf_28 : decode cX1_stateOf 28 = .ok (.iload_n 3, 1) := by decide +kernel
theorem dX1_stateOf_29 : decode cX1_stateOf 29 = .ok (.iaload, 1) := by decide +kernel
theorem dX1_stateOf_30 : decode cX1_stateOf 30 = .ok (.iconst 1, 1) := by decide +kernel
theorem dX1_stateOf_31 : decode cX1_stateOf 31 = .ok (.iadd, 1) := by decide +kernel
theorem dX1_stateOf_32 : decode cX1_stateOf 32 = .ok (.imul, 1) := by decide +kernel
theorem dX1_stateOf_33 : decode cX1_stateOf 33 = .ok (.aload_n 1, 1) := by decide +kernel
theorem dX1_stateOf_34 : decode cX1_stateOf 34 = .ok (.iload_n 3, 1) := by decide +kernel
theorem dX1_stateOf_35 : decode cX1_stateOf 35 = .ok (.iaload, 1) := by decide +kernel
theorem dX1_stateOf_36 : decode cX1_stateOf 36 = .ok (.iadd, 1) := by decide +kernel
theorem dX1_stateOf_37 : decode cX1_stateOf 37 = .ok (.istore_n 2, 1) := by decide +kernel
theorem dX1_stateOf_38 : decode cX1_stateOf 38 = .ok (.iinc 3 (-1), 3) := by decide +kernel
theorem dX1_stateOf_41 : decode cX1_stateOf 41 = .ok (.goto (-28), 3) := by decide +kernel
theorem dX1_stateOf_44 : decode cX1_stateOf 44 = .ok (.iload_n 2, 1) := by decide +kernel
theorem dX1_stateOf_45 : decode cX1_stateOf 45 = .ok (.ireturn, 1) := by decide +kernel
theorem dX1_valuesOf_0 : decode cX1_valuesOf 0 = .ok (.iload_n 1, 1) := by decide +kernel
theorem dX1_valuesOf_1 : decode cX1_valuesOf 1 = .ok (.istore_n 3, 1) := by decide +kernel
theorem dX1_valuesOf_2 : decode cX1_valuesOf 2 = .ok (.iconst 0, 1) := by decide +kernel
theorem dX1_valuesOf_3 : decode cX1_valuesOf 3 = .ok (.istore 4, 2) := by decide +kernel
theorem dX1_valuesOf_5 : decode cX1_valuesOf 5 = .ok (.iload 4, 2) := by decide +kernel
theorem dX1_valuesOf_7 : decode cX1_valuesOf 7 = .ok (.aload_n 0, 1) := by decide +kernel
theorem dX1_valuesOf_8 : decode cX1_valuesOf 8 = .ok (.getfield 42, 3) := by decide +kernel
theorem dX1_valuesOf_11 : decode cX1_valuesOf 11 = .ok (.if_icmp .ge 51, 3) := by decide +kernel
theorem dX1_valuesOf_14 : decode cX1_valuesOf 14 = .ok (.iload 4, 2) := by decide +kernel
theorem dX1_valuesOf_16 : decode cX1_valuesOf 16 = .ok (.iconst 4, 1) := by decide +kernel
theorem dX1_valuesOf_17 : decode cX1_valuesOf 17 = .ok (.if_icmp .ge 45, 3) := by decide +kernel
theorem dX1_valuesOf_20 : decode cX1_valuesOf 20 = .ok (.iload 4, 2) := by decide +kernel
theorem dX1_valuesOf_22 : decode cX1_valuesOf 22 = .ok (.aload_n 2, 1) := by decide +kernel
theorem dX1_valuesOf_23 : decode cX1_valuesOf 23 = .ok (.arraylength, 1) := by decide +kernel
theorem dX1_valuesOf_24 : decode cX1_valuesOf 24 = .ok (.if_icmp .ge 38, 3) := by decide +kernel
theorem dX1_valuesOf_27 : decode cX1_valuesOf 27 = .ok (.aload_n 0, 1) := by decide +kernel
theorem dX1_valuesOf_28 : decode cX1_valuesOf 28 = .ok (.getfield 15, 3) := by decide +kernel
theorem dX1_valuesOf_31 : decode cX1_valuesOf 31 = .ok (.iload 4, 2) := by decide +kernel
theorem dX1_valuesOf_33 : decode cX1_valuesOf 33 = .ok (.iaload, 1) := by decide +kernel
theorem dX1_valuesOf_34 : decode cX1_valuesOf 34 = .ok (.iconst 1, 1) := by decide +kernel
theorem dX1_valuesOf_35 : decode cX1_valuesOf 35 = .ok (.iadd, 1) := by decide +kernel
theorem dX1_valuesOf_36 : decode cX1_valuesOf 36 = .ok (.istore 5, 2) := by decide +kernel
theorem dX1_valuesOf_38 : decode cX1_valuesOf 38 = .ok (.iload 5, 2) := by decide +kernel
theorem dX1_valuesOf_40 : decode cX1_valuesOf 40 = .ok (.ifCond .le 16, 3) := by decide +kernel
theorem dX1_valuesOf_43 : decode cX1_valuesOf 43 = .ok (.aload_n 2, 1) := by decide +kernel
theorem dX1_valuesOf_44 : decode cX1_valuesOf 44 = .ok (.iload 4, 2) := by decide +kernel
theorem dX1_valuesOf_46 : decode cX1_valuesOf 46 = .ok (.iload_n 3, 1) := by decide +kernel
theorem dX1_valuesOf_47 : decode cX1_valuesOf 47 = .ok (.iload 5, 2) := by decide +kernel
theorem dX1_valuesOf_49 : decode cX1_valuesOf 49 = .ok (.irem, 1) := by decide +kernel
theorem dX1_valuesOf_50 : decode cX1_valuesOf 50 = .ok (.iastore, 1) := by decide +kernel
theorem dX1_valuesOf_51 : decode cX1_valuesOf 51 = .ok (.iload_n 3, 1) := by decide +kernel
theorem dX1_valuesOf_52 : decode cX1_valuesOf 52 = .ok (.iload 5, 2) := by decide +kernel
theorem dX1_valuesOf_54 : decode cX1_valuesOf 54 = .ok (.idiv, 1) := by decide +kernel
theorem dX1_valuesOf_55 : decode cX1_valuesOf 55 = .ok (.istore_n 3, 1) := by decide +kernel
theorem dX1_valuesOf_56 : decode cX1_valuesOf 56 = .ok (.iinc 4 1, 3) := by decide +kernel
theorem dX1_valuesOf_59 : decode cX1_valuesOf 59 = .ok (.goto (-54), 3) := by decide +kernel
theorem dX1_valuesOf_62 : decode cX1_valuesOf 62 = .ok (.return_, 1) := by decide +kernel
theorem dX1_valueIn_0 : decode cX1_valueIn 0 = .ok (.iload_n 1, 1) := by decide +kernel
theorem dX1_valueIn_1 : decode cX1_valueIn 1 = .ok (.istore_n 3, 1) := by decide +kernel
theorem dX1_valueIn_2 : decode cX1_valueIn 2 = .ok (.iconst 0, 1) := by decide +kernel
theorem dX1_valueIn_3 : decode cX1_valueIn 3 = .ok (.istore 4, 2) := by decide +kernel
theorem dX1_valueIn_5 : decode cX1_valueIn 5 = .ok (.iconst 0, 1) := by decide +kernel
theorem dX1_valueIn_6 : decode cX1_valueIn 6 = .ok (.istore 5, 2) := by decide +kernel
theorem dX1_valueIn_8 : decode cX1_valueIn 8 = .ok (.iload 5, 2) := by decide +kernel
theorem dX1_valueIn_10 : decode cX1_valueIn 10 = .ok (.iload_n 2, 1) := by decide +kernel
theorem dX1_valueIn_11 : decode cX1_valueIn 11 = .ok (.if_icmp .gt 42, 3) := by decide +kernel
theorem dX1_valueIn_14 : decode cX1_valueIn 14 = .ok (.iload 5, 2) := by decide +kernel
theorem dX1_valueIn_16 : decode cX1_valueIn 16 = .ok (.iconst 4, 1) := by decide +kernel
theorem dX1_valueIn_17 : decode cX1_valueIn 17 = .ok (.if_icmp .ge 36, 3) := by decide +kernel
theorem dX1_valueIn_20 : decode cX1_valueIn 20 = .ok (.aload_n 0, 1) := by decide +kernel
theorem dX1_valueIn_21 : decode cX1_valueIn 21 = .ok (.getfield 15, 3) := by decide +kernel
theorem dX1_valueIn_24 : decode cX1_valueIn 24 = .ok (.iload 5, 2) := by decide +kernel
theorem dX1_valueIn_26 : decode cX1_valueIn 26 = .ok (.iaload, 1) := by decide +kernel
theorem dX1_valueIn_27 : decode cX1_valueIn 27 = .ok (.iconst 1, 1) := by decide +kernel
theorem dX1_valueIn_28 : decode cX1_valueIn 28 = .ok (.iadd, 1) := by decide +kernel
theorem dX1_valueIn_29 : decode cX1_valueIn 29 = .ok (.istore 6, 2) := by decide +kernel
theorem dX1_valueIn_31 : decode cX1_valueIn 31 = .ok (.iload 6, 2) := by decide +kernel
theorem dX1_valueIn_33 : decode cX1_valueIn 33 = .ok (.ifCond .le 14, 3) := by decide +kernel
theorem dX1_valueIn_36 : decode cX1_valueIn 36 = .ok (.iload_n 3, 1) := by decide +kernel
theorem dX1_valueIn_37 : decode cX1_valueIn 37 = .ok (.iload 6, 2) := by decide +kernel
theorem dX1_valueIn_39 : decode cX1_valueIn 39 = .ok (.irem, 1) := by decide +kernel
theorem dX1_valueIn_40 : decode cX1_valueIn 40 = .ok (.istore 4, 2) := by decide +kernel
theorem dX1_valueIn_42 : decode cX1_valueIn 42 = .ok (.iload_n 3, 1) := by decide +kernel
theorem dX1_valueIn_43 : decode cX1_valueIn 43 = .ok (.iload 6, 2) := by decide +kernel
theorem dX1_valueIn_45 : decode cX1_valueIn 45 = .ok (.idiv, 1) := by decide +kernel
theorem dX1_valueIn_46 : decode cX1_valueIn 46 = .ok (.istore_n 3, 1) := by decide +kernel
theorem dX1_valueIn_47 : decode cX1_valueIn 47 = .ok (.iinc 5 1, 3) := by decide +kernel
theorem dX1_valueIn_50 : decode cX1_valueIn 50 = .ok (.goto (-42), 3) := by decide +kernel
theorem dX1_valueIn_53 : decode cX1_valueIn 53 = .ok (.iload 4, 2) := by decide +kernel
theorem dX1_valueIn_55 : decode cX1_valueIn 55 = .ok (.ireturn, 1) := by decide +kernel
theorem dX1_rulesMoving_0 : decode cX1_rulesMoving 0 = .ok (.iconst 0, 1) := by decide +kernel
theorem dX1_rulesMoving_1 : decode cX1_rulesMoving 1 = .ok (.istore_n 2, 1) := by decide +kernel
theorem dX1_rulesMoving_2 : decode cX1_rulesMoving 2 = .ok (.iconst 0, 1) := by decide +kernel
theorem dX1_rulesMoving_3 : decode cX1_rulesMoving 3 = .ok (.istore_n 3, 1) := by decide +kernel
theorem dX1_rulesMoving_4 : decode cX1_rulesMoving 4 = .ok (.iload_n 3, 1) := by decide +kernel
theorem dX1_rulesMoving_5 : decode cX1_rulesMoving 5 = .ok (.aload_n 0, 1) := by decide +kernel
theorem dX1_rulesMoving_6 : decode cX1_rulesMoving 6 = .ok (.getfield 45, 3) := by decide +kernel
theorem dX1_rulesMoving_9 : decode cX1_rulesMoving 9 = .ok (.if_icmp .ge 34, 3) := by decide +kernel
theorem dX1_rulesMoving_12 : decode cX1_rulesMoving 12 = .ok (.iload_n 3, 1) := by decide +kernel
theorem dX1_rulesMoving_13 : decode cX1_rulesMoving 13 = .ok (.bipush 12, 2) := by decide +kernel
theorem dX1_rulesMoving_15 : decode cX1_rulesMoving 15 = .ok (.if_icmp .ge 28, 3) := by decide +kernel
theorem dX1_rulesMoving_18 : decode cX1_rulesMoving 18 = .ok (.aload_n 0, 1) := by decide +kernel
theorem dX1_rulesMoving_19 : decode cX1_rulesMoving 19 = .ok (.getfield 24, 3) := by decide +kernel
theorem dX1_rulesMoving_22 : decode cX1_rulesMoving 22 = .ok (.iload_n 3, 1) := by decide +kernel
theorem dX1_rulesMoving_23 : decode cX1_rulesMoving 23 = .ok (.aaload, 1) := by decide +kernel
theorem dX1_rulesMoving_24 : decode cX1_rulesMoving 24 = .ok (.getfield 57, 3) := by decide +kernel
theorem dX1_rulesMoving_27 : decode cX1_rulesMoving 27 = .ok (.iload_n 1, 1) := by decide +kernel
theorem dX1_rulesMoving_28 : decode cX1_rulesMoving 28 = .ok (.invokevirtual 61, 3) := by decide +kernel
theorem dX1_rulesMoving_31 : decode cX1_rulesMoving 31 = .ok (.ifCond .eq 6, 3) := by decide +kernel
theorem dX1_rulesMoving_34 : decode cX1_rulesMoving 34 = .ok (.iinc 2 1, 3) := by decide +kernel
theorem dX1_rulesMoving_37 : decode cX1_rulesMoving 37 = .ok (.iinc 3 1, 3) := by decide +kernel
theorem dX1_rulesMoving_40 : decode cX1_rulesMoving 40 = .ok (.goto (-36), 3) := by decide +kernel
theorem dX1_rulesMoving_43 : decode cX1_rulesMoving 43 = .ok (.iload_n 2, 1) := by decide +kernel
theorem dX1_rulesMoving_44 : decode cX1_rulesMoving 44 = .ok (.ireturn, 1) := by decide +kernel
theorem dX2_init_0 : decode cX2_init 0 = .ok (.aload_n 0, 1) := by decide +kernel
theorem dX2_init_1 : decode cX2_init 1 = .ok (.invokespecial 3, 3) := by decide +kernel
theorem dX2_init_4 : decode cX2_init 4 = .ok (.aload_n 0, 1) := by decide +kernel
theorem dX2_init_5 : decode cX2_init 5 = .ok (.bipush 11, 2) := by decide +kernel
theorem dX2_init_7 : decode cX2_init 7 = .ok (.bipush 17, 2) := by decide +kernel
theorem dX2_init_9 : decode cX2_init 9 = .ok (.multianewarray 11 2, 4) := by decide +kernel
theorem dX2_init_13 : decode cX2_init 13 = .ok (.putfield 13, 3) := by decide +kernel
theorem dX2_init_16 : decode cX2_init 16 = .ok (.aload_n 0, 1) := by decide +kernel
theorem dX2_init_17 : decode cX2_init 17 = .ok (.bipush 15, 2) := by decide +kernel
theorem dX2_init_19 : decode cX2_init 19 = .ok (.bipush 15, 2) := by decide +kernel
theorem dX2_init_21 : decode cX2_init 21 = .ok (.multianewarray 11 2, 4) := by decide +kernel
theorem dX2_init_25 : decode cX2_init 25 = .ok (.putfield 16, 3) := by decide +kernel
theorem dX2_init_28 : decode cX2_init 28 = .ok (.iconst 0, 1) := by decide +kernel
theorem dX2_init_29 : decode cX2_init 29 = .ok (.istore_n 1, 1) := by decide +kernel
theorem dX2_init_30 : decode cX2_init 30 = .ok (.iload_n 1, 1) := by decide +kernel
theorem dX2_init_31 : decode cX2_init 31 = .ok (.bipush 10, 2) := by decide +kernel
theorem dX2_init_33 : decode cX2_init 33 = .ok (.if_icmp .gt 53, 3) := by decide +kernel
theorem dX2_init_36 : decode cX2_init 36 = .ok (.aload_n 0, 1) := by decide +kernel
theorem dX2_init_37 : decode cX2_init 37 = .ok (.getfield 13, 3) := by decide +kernel
theorem dX2_init_40 : decode cX2_init 40 = .ok (.iload_n 1, 1) := by decide +kernel
theorem dX2_init_41 : decode cX2_init 41 = .ok (.aaload, 1) := by decide +kernel
theorem dX2_init_42 : decode cX2_init 42 = .ok (.iconst 0, 1) := by decide +kernel
theorem dX2_init_43 : decode cX2_init 43 = .ok (.lconst 1, 1) := by decide +kernel
theorem dX2_init_44 : decode cX2_init 44 = .ok (.lastore, 1) := by decide +kernel
theorem dX2_init_45 : decode cX2_init 45 = .ok (.iconst 1, 1) := by decide +kernel
theorem dX2_init_46 : decode cX2_init 46 = .ok (.istore_n 2, 1) := by decide +kernel
theorem dX2_init_47 : decode cX2_init 47 = .ok (.iload_n 2, 1) := by decide +kernel
theorem dX2_init_48 : decode cX2_init 48 = .ok (.bipush 16, 2) := by decide +kernel
theorem dX2_init_50 : decode cX2_init 50 = .ok (.if_icmp .gt 30, 3) := by decide +kernel
theorem dX2_init_53 : decode cX2_init 53 = .ok (.aload_n 0, 1) := by decide +kernel
theorem dX2_init_54 : decode cX2_init 54 = .ok (.getfield 13, 3) := by decide +kernel
theorem dX2_init_57 : decode cX2_init 57 = .ok (.iload_n 1, 1) := by decide +kernel
theorem dX2_init_58 : decode cX2_init 58 = .ok (.aaload, 1) := by decide +kernel
theorem dX2_init_59 : decode cX2_init 59 = .ok (.iload_n 2, 1) := by decide +kernel
theorem dX2_init_60 : decode cX2_init 60 = .ok (.aload_n 0, 1) := by decide +kernel
theorem dX2_init_61 : decode cX2_init 61 = .ok (.getfield 13, 3) := by decide +kernel
theorem dX2_init_64 : decode cX2_init 64 = .ok (.iload_n 1, 1) := by decide +kernel
theorem dX2_init_65 : decode cX2_init 65 = .ok (.aaload, 1) := by decide +kernel
theorem dX2_init_66 : decode cX2_init 66 = .ok (.iload_n 2, 1) := by decide +kernel
theorem dX2_init_67 : decode cX2_init 67 = .ok (.iconst 1, 1) := by decide +kernel
theorem dX2_init_68 : decode cX2_init 68 = .ok (.isub, 1) := by decide +kernel
theorem dX2_init_69 : decode cX2_init 69 = .ok (.laload, 1) := by decide +kernel
theorem dX2_init_70 : decode cX2_init 70 = .ok (.iload_n 1, 1) := by decide +kernel
theorem dX2_init_71 : decode cX2_init 71 = .ok (.i2l, 1) := by decide +kernel
theorem dX2_init_72 : decode cX2_init 72 = .ok (.lmul, 1) := by decide +kernel
theorem dX2_init_73 : decode cX2_init 73 = .ok (.lastore, 1) := by decide +kernel
theorem dX2_init_74 : decode cX2_init 74 = .ok (.iinc 2 1, 3) := by decide +kernel
theorem dX2_init_77 : decode cX2_init 77 = .ok (.goto (-30), 3) := by decide +kernel
theorem dX2_init_80 : decode cX2_init 80 = .ok (.iinc 1 1, 3) := by decide +kernel
theorem dX2_init_83 : decode cX2_init 83 = .ok (.goto (-53), 3) := by decide +kernel
theorem dX2_init_86 : decode cX2_init 86 = .ok (.iconst 0, 1) := by decide +kernel
theorem dX2_init_87 : decode cX2_init 87 = .ok (.istore_n 1, 1) := by decide +kernel
theorem dX2_init_88 : decode cX2_init 88 = .ok (.iload_n 1, 1) := by decide +kernel
theorem dX2_init_89 : decode cX2_init 89 = .ok (.bipush 14, 2) := by decide +kernel
theorem dX2_init_91 : decode cX2_init 91 = .ok (.if_icmp .gt 62, 3) := by decide +kernel
theorem dX2_init_94 : decode cX2_init 94 = .ok (.aload_n 0, 1) := by decide +kernel
theorem dX2_init_95 : decode cX2_init 95 = .ok (.getfield 16, 3) := by decide +kernel
theorem dX2_init_98 : decode cX2_init 98 = .ok (.iload_n 1, 1) := by decide +kernel
theorem dX2_init_99 : decode cX2_init 99 = .ok (.aaload, 1) := by decide +kernel
theorem dX2_init_100 : decode cX2_init 100 = .ok (.iconst 0, 1) := by decide +kernel
theorem dX2_init_101 : decode cX2_init 101 = .ok (.lconst 1, 1) := by decide +kernel
theorem dX2_init_102 : decode cX2_init 102 = .ok (.lastore, 1) := by decide +kernel
theorem dX2_init_103 : decode cX2_init 103 = .ok (.iconst 1, 1) := by decide +kernel
theorem dX2_init_104 : decode cX2_init 104 = .ok (.istore_n 2, 1) := by decide +kernel
theorem dX2_init_105 : decode cX2_init 105 = .ok (.iload_n 2, 1) := by decide +kernel
theorem dX2_init_106 : decode cX2_init 106 = .ok (.iload_n 1, 1) := by decide +kernel
theorem dX2_init_107 : decode cX2_init 107 = .ok (.if_icmp .gt 40, 3) := by decide +kernel
theorem dX2_init_110 : decode cX2_init 110 = .ok (.aload_n 0, 1) := by decide +kernel
theorem dX2_init_111 : decode cX2_init 111 = .ok (.getfield 16, 3) := by decide +kernel
theorem dX2_init_114 : decode cX2_init 114 = .ok (.iload_n 1, 1) := by decide +kernel
theorem dX2_init_115 : decode cX2_init 115 = .ok (.aaload, 1) := by decide +kernel
theorem dX2_init_116 : decode cX2_init 116 = .ok (.iload_n 2, 1) := by decide +kernel
theorem dX2_init_117 : decode cX2_init 117 = .ok (.aload_n 0, 1) := by decide +kernel
theorem dX2_init_118 : decode cX2_init 118 = .ok (.getfield 16, 3) := by decide +kernel
theorem dX2_init_121 : decode cX2_init 121 = .ok (.iload_n 1, 1) := by decide +kernel
theorem dX2_init_122 : decode cX2_init 122 = .ok (.iconst 1, 1) := by decide +kernel
theorem dX2_init_123 : decode cX2_init 123 = .ok (.isub, 1) := by decide +kernel
theorem dX2_init_124 : decode cX2_init 124 = .ok (.aaload, 1) := by decide +kernel
theorem dX2_init_125 : decode cX2_init 125 = .ok (.iload_n 2, 1) := by decide +kernel
theorem dX2_init_126 : decode cX2_init 126 = .ok (.iconst 1, 1) := by decide +kernel
theorem dX2_init_127 : decode cX2_init 127 = .ok (.isub, 1) := by decide +kernel
theorem dX2_init_128 : decode cX2_init 128 = .ok (.laload, 1) := by decide +kernel
theorem dX2_init_129 : decode cX2_init 129 = .ok (.aload_n 0, 1) := by decide +kernel
theorem dX2_init_130 : decode cX2_init 130 = .ok (.getfield 16, 3) := by decide +kernel
theorem dX2_init_133 : decode cX2_init 133 = .ok (.iload_n 1, 1) := by decide +kernel
theorem dX2_init_134 : decode cX2_init 134 = .ok (.iconst 1, 1) := by decide +kernel
theorem dX2_init_135 : decode cX2_init 135 = .ok (.isub, 1) := by decide +kernel
theorem dX2_init_136 : decode cX2_init 136 = .ok (.aaload, 1) := by decide +kernel
theorem dX2_init_137 : decode cX2_init 137 = .ok (.iload_n 2, 1) := by decide +kernel
theorem dX2_init_138 : decode cX2_init 138 = .ok (.laload, 1) := by decide +kernel
theorem dX2_init_139 : decode cX2_init 139 = .ok (.ladd, 1) := by decide +kernel
theorem dX2_init_140 : decode cX2_init 140 = .ok (.lastore, 1) := by decide +kernel
theorem dX2_init_141 : decode cX2_init 141 = .ok (.iinc 2 1, 3) := by decide +kernel
theorem dX2_init_144 : decode cX2_init 144 = .ok (.goto (-39), 3) := by decide +kernel
theorem dX2_init_147 : decode cX2_init 147 = .ok (.iinc 1 1, 3) := by decide +kernel
theorem dX2_init_150 : decode cX2_init 150 = .ok (.goto (-62), 3) := by decide +kernel
theorem dX2_init_153 : decode cX2_init 153 = .ok (.return_, 1) := by decide +kernel
theorem dX2_isSize_0 : decode cX2_isSize 0 = .ok (.iload_n 0, 1) := by decide +kernel
theorem dX2_isSize_1 : decode cX2_isSize 1 = .ok (.iconst 1, 1) := by decide +kernel
theorem dX2_isSize_2 : decode cX2_isSize 2 = .ok (.if_icmp .lt 13, 3) := by decide +kernel
theorem dX2_isSize_5 : decode cX2_isSize 5 = .ok (.iload_n 0, 1) := by decide +kernel
theorem dX2_isSize_6 : decode cX2_isSize 6 = .ok (.bipush 14, 2) := by decide +kernel
theorem dX2_isSize_8 : decode cX2_isSize 8 = .ok (.if_icmp .gt 7, 3) := by decide +kernel
theorem dX2_isSize_11 : decode cX2_isSize 11 = .ok (.iconst 1, 1) := by decide +kernel
theorem dX2_isSize_12 : decode cX2_isSize 12 = .ok (.goto 4, 3) := by decide +kernel
theorem dX2_isSize_15 : decode cX2_isSize 15 = .ok (.iconst 0, 1) := by decide +kernel
theorem dX2_isSize_16 : decode cX2_isSize 16 = .ok (.ireturn, 1) := by decide +kernel
theorem dX2_isChance_0 : decode cX2_isChance 0 = .ok (.iload_n 0, 1) := by decide +kernel
theorem dX2_isChance_1 : decode cX2_isChance 1 = .ok (.ifCond .lt 14, 3) := by decide +kernel
theorem dX2_isChance_4 : decode cX2_isChance 4 = .ok (.iload_n 0, 1) := by decide +kernel
theorem dX2_isChance_5 : decode cX2_isChance 5 = .ok (.sipush 1000, 3) := by decide +kernel
theorem dX2_isChance_8 : decode cX2_isChance 8 = .ok (.if_icmp .gt 7, 3) := by decide +kernel
theorem dX2_isChance_11 : decode cX2_isChance 11 = .ok (.iconst 1, 1) := by decide +kernel
theorem dX2_isChance_12 : decode cX2_isChance 12 = .ok (.goto 4, 3) := by decide +kernel
theorem dX2_isChance_15 : decode cX2_isChance 15 = .ok (.iconst 0, 1) := by decide +kernel
theorem dX2_isChance_16 : decode cX2_isChance 16 = .ok (.ireturn, 1) := by decide +kernel
theorem dX2_low_0 : decode cX2_low 0 = .ok (.iload_n 1, 1) := by decide +kernel
theorem dX2_low_1 : decode cX2_low 1 = .ok (.ifCond .ne 5, 3) := by decide +kernel
theorem dX2_low_4 : decode cX2_low 4 = .ok (.iconst 0, 1) := by decide +kernel
theorem dX2_low_5 : decode cX2_low 5 = .ok (.ireturn, 1) := by decide +kernel
theorem dX2_low_6 : decode cX2_low 6 = .ok (.bipush 10, 2) := by decide +kernel
theorem dX2_low_8 : decode cX2_low 8 = .ok (.istore 4, 2) := by decide +kernel
theorem dX2_low_10 : decode cX2_low 10 = .ok (.iload 4, 2) := by decide +kernel
theorem dX2_low_12 : decode cX2_low 12 = .ok (.ifCond .le 27, 3) := by decide +kernel
theorem dX2_low_15 : decode cX2_low 15 = .ok (.aload_n 0, 1) := by decide +kernel
theorem dX2_low_16 : decode cX2_low 16 = .ok (.aload_n 0, 1) := by decide +kernel
theorem dX2_low_17 : decode cX2_low 17 = .ok (.iload_n 1, 1) := by decide +kernel
theorem dX2_low_18 : decode cX2_low 18 = .ok (.iload_n 2, 1) := by decide +kernel
theorem dX2_low_19 : decode cX2_low 19 = .ok (.iload_n 2, 1) := by decide +kernel
theorem dX2_low_20 : decode cX2_low 20 = .ok (.iload 4, 2) := by decide +kernel
theorem dX2_low_22 : decode cX2_low 22 = .ok (.invokevirtual 19, 3) := by decide +kernel
theorem dX2_low_25 : decode cX2_low 25 = .ok (.iload_n 2, 1) := by decide +kernel
theorem dX2_low_26 : decode cX2_low 26 = .ok (.iload_n 3, 1) := by decide +kernel
theorem dX2_low_27 : decode cX2_low 27 = .ok (.invokevirtual 23, 3) := by decide +kernel
theorem dX2_low_30 : decode cX2_low 30 = .ok (.ifCond .ne 9, 3) := by decide +kernel
theorem dX2_low_33 : decode cX2_low 33 = .ok (.iinc 4 (-1), 3) := by decide +kernel
theorem dX2_low_36 : decode cX2_low 36 = .ok (.goto (-26), 3) := by decide +kernel
theorem dX2_low_39 : decode cX2_low 39 = .ok (.iload 4, 2) := by decide +kernel
theorem dX2_low_41 : decode cX2_low 41 = .ok (.ireturn, 1) := by decide +kernel
theorem dX2_high_0 : decode cX2_high 0 = .ok (.iload_n 1, 1) := by decide +kernel
theorem dX2_high_1 : decode cX2_high 1 = .ok (.iload_n 2, 1) := by decide +kernel
theorem dX2_high_2 : decode cX2_high 2 = .ok (.if_icmp .ne 6, 3) := by decide +kernel
theorem dX2_high_5 : decode cX2_high 5 = .ok (.bipush 10, 2) := by decide +kernel
theorem dX2_high_7 : decode cX2_high 7 = .ok (.ireturn, 1) := by decide +kernel
theorem dX2_high_8 : decode cX2_high 8 = .ok (.iconst 0, 1) := by decide +kernel
theorem dX2_high_9 : decode cX2_high 9 = .ok (.istore 4, 2) := by decide +kernel
theorem dX2_high_11 : decode cX2_high 11 = .ok (.iload 4, 2) := by decide +kernel
theorem dX2_high_13 : decode cX2_high 13 = .ok (.bipush 10, 2) := by decide +kernel
theorem dX2_high_15 : decode cX2_high 15 = .ok (.if_icmp .ge 27, 3) := by decide +kernel
theorem dX2_high_18 : decode cX2_high 18 = .ok (.aload_n 0, 1) := by decide +kernel
theorem dX2_high_19 : decode cX2_high 19 = .ok (.aload_n 0, 1) := by decide +kernel
theorem dX2_high_20 : decode cX2_high 20 = .ok (.iconst 0, 1) := by decide +kernel
theorem dX2_high_21 : decode cX2_high 21 = .ok (.iload_n 1, 1) := by decide +kernel
theorem dX2_high_22 : decode cX2_high 22 = .ok (.iload_n 2, 1) := by decide +kernel
theorem dX2_high_23 : decode cX2_high 23 = .ok (.iload 4, 2) := by decide +kernel
theorem dX2_high_25 : decode cX2_high 25 = .ok (.invokevirtual 19, 3) := by decide +kernel
theorem dX2_high_28 : decode cX2_high 28 = .ok (.iload_n 2, 1) := by decide +kernel
theorem dX2_high_29 : decode cX2_high 29 = .ok (.iload_n 3, 1) := by decide +kernel
theorem dX2_high_30 : decode cX2_high 30 = .ok (.invokevirtual 23, 3) := by decide +kernel
theorem dX2_high_33 : decode cX2_high 33 = .ok (.ifCond .ne 9, 3) := by decide +kernel
theorem dX2_high_36 : decode cX2_high 36 = .ok (.iinc 4 1, 3) := by decide +kernel
theorem dX2_high_39 : decode cX2_high 39 = .ok (.goto (-28), 3) := by decide +kernel
theorem dX2_high_42 : decode cX2_high 42 = .ok (.iload 4, 2) := by decide +kernel
theorem dX2_high_44 : decode cX2_high 44 = .ok (.ireturn, 1) := by decide +kernel
theorem dX2_missed_0 : decode cX2_missed 0 = .ok (.lconst 0, 1) := by decide +kernel
theorem dX2_missed_1 : decode cX2_missed 1 = .ok (.lstore 4, 2) := by decide +kernel
theorem dX2_missed_3 : decode cX2_missed 3 = .ok (.iconst 0, 1) := by decide +kernel
theorem dX2_missed_4 : decode cX2_missed 4 = .ok (.istore 6, 2) := by decide +kernel
theorem dX2_missed_6 : decode cX2_missed 6 = .ok (.iload 6, 2) := by decide +kernel
theorem dX2_missed_8 : decode cX2_missed 8 = .ok (.iload_n 1, 1) := by decide +kernel
theorem dX2_missed_9 : decode cX2_missed 9 = .ok (.if_icmp .gt 48, 3) := by decide +kernel
theorem dX2_missed_12 : decode cX2_missed 12 = .ok (.aload_n 0, 1) := by decide +kernel
theorem dX2_missed_13 : decode cX2_missed 13 = .ok (.iload 6, 2) := by decide +kernel
theorem dX2_missed_15 : decode cX2_missed 15 = .ok (.iload_n 1, 1) := by decide +kernel
theorem dX2_missed_16 : decode cX2_missed 16 = .ok (.iload_n 3, 1) := by decide +kernel
theorem dX2_missed_17 : decode cX2_missed 17 = .ok (.invokevirtual 27, 3) := by decide +kernel
theorem dX2_missed_20 : decode cX2_missed 20 = .ok (.iload_n 2, 1) := by decide +kernel
theorem dX2_missed_21 : decode cX2_missed 21 = .ok (.if_icmp .gt 15, 3) := by decide +kernel
theorem dX2_missed_24 : decode cX2_missed 24 = .ok (.aload_n 0, 1) := by decide +kernel
theorem dX2_missed_25 : decode cX2_missed 25 = .ok (.iload 6, 2) := by decide +kernel
theorem dX2_missed_27 : decode cX2_missed 27 = .ok (.iload_n 1, 1) := by decide +kernel
theorem dX2_missed_28 : decode cX2_missed 28 = .ok (.iload_n 3, 1) := by decide +kernel
theorem dX2_missed_29 : decode cX2_missed 29 = .ok (.invokevirtual 31, 3) := by decide +kernel
theorem dX2_missed_32 : decode cX2_missed 32 = .ok (.iload_n 2, 1) := by decide +kernel
theorem dX2_missed_33 : decode cX2_missed 33 = .ok (.if_icmp .ge 18, 3) := by decide +kernel
theorem dX2_missed_36 : decode cX2_missed 36 = .ok (.lload 4, 2) := by decide +kernel
theorem dX2_missed_38 : decode cX2_missed 38 = .ok (.aload_n 0, 1) := by decide +kernel
theorem dX2_missed_39 : decode cX2_missed 39 = .ok (.iload 6, 2) := by decide +kernel
theorem dX2_missed_41 : decode cX2_missed 41 = .ok (.iload 6, 2) := by decide +kernel
theorem dX2_missed_43 : decode cX2_missed 43 = .ok (.iload_n 1, 1) := by decide +kernel
theorem dX2_missed_44 : decode cX2_missed 44 = .ok (.iload_n 2, 1) := by decide +kernel
theorem dX2_missed_45 : decode cX2_missed 45 = .ok (.invokevirtual 19, 3) := by decide +kernel
theorem dX2_missed_48 : decode cX2_missed 48 = .ok (.ladd, 1) := by decide +kernel
theorem dX2_missed_49 : decode cX2_missed 49 = .ok (.lstore 4, 2) := by decide +kernel
theorem dX2_missed_51 : decode cX2_missed 51 = .ok (.iinc 6 1, 3) := by decide +kernel
theorem dX2_missed_54 : decode cX2_missed 54 = .ok (.goto (-48), 3) := by decide +kernel
theorem dX2_missed_57 : decode cX2_missed 57 = .ok (.lload 4, 2) := by decide +kernel
theorem dX2_missed_59 : decode cX2_missed 59 = .ok (.lreturn, 1) := by decide +kernel
theorem dX2_verdict_0 : decode cX2_verdict 0 = .ok (.aload_n 0, 1) := by decide +kernel
theorem dX2_verdict_1 : decode cX2_verdict 1 = .ok (.iload 4, 2) := by decide +kernel
theorem dX2_verdict_3 : decode cX2_verdict 3 = .ok (.iload_n 1, 1) := by decide +kernel
theorem dX2_verdict_4 : decode cX2_verdict 4 = .ok (.invokevirtual 34, 3) := by decide +kernel
theorem dX2_verdict_7 : decode cX2_verdict 7 = .ok (.aload_n 0, 1) := by decide +kernel
theorem dX2_verdict_8 : decode cX2_verdict 8 = .ok (.bipush 10, 2) := by decide +kernel
theorem dX2_verdict_10 : decode cX2_verdict 10 = .ok (.iload 4, 2) := by decide +kernel
theorem dX2_verdict_12 : decode cX2_verdict 12 = .ok (.isub, 1) := by decide +kernel
theorem dX2_verdict_13 : decode cX2_verdict 13 = .ok (.iload_n 2, 1) := by decide +kernel
theorem dX2_verdict_14 : decode cX2_verdict 14 = .ok (.iload_n 1, 1) := by decide +kernel
theorem dX2_verdict_15 : decode cX2_verdict 15 = .ok (.isub, 1) := by decide +kernel
theorem dX2_verdict_16 : decode cX2_verdict 16 = .ok (.invokevirtual 34, 3) := by decide +kernel
theorem dX2_verdict_19 : decode cX2_verdict 19 = .ok (.lmul, 1) := by decide +kernel
theorem dX2_verdict_20 : decode cX2_verdict 20 = .ok (.lstore 6, 2) := by decide +kernel
theorem dX2_verdict_22 : decode cX2_verdict 22 = .ok (.aload_n 0, 1) := by decide +kernel
theorem dX2_verdict_23 : decode cX2_verdict 23 = .ok (.iload_n 3, 1) := by decide +kernel
theorem dX2_verdict_24 : decode cX2_verdict 24 = .ok (.iload_n 1, 1) := by decide +kernel
theorem dX2_verdict_25 : decode cX2_verdict 25 = .ok (.invokevirtual 34, 3) := by decide +kernel
theorem dX2_verdict_28 : decode cX2_verdict 28 = .ok (.aload_n 0, 1) := by decide +kernel
theorem dX2_verdict_29 : decode cX2_verdict 29 = .ok (.bipush 10, 2) := by decide +kernel
theorem dX2_verdict_31 : decode cX2_verdict 31 = .ok (.iload_n 3, 1) := by decide +kernel
theorem dX2_verdict_32 : decode cX2_verdict 32 = .ok (.isub, 1) := by decide +kernel
theorem dX2_verdict_33 : decode cX2_verdict 33 = .ok (.iload_n 2, 1) := by decide +kernel
theorem dX2_verdict_34 : decode cX2_verdict 34 = .ok (.iload_n 1, 1) := by decide +kernel
theorem dX2_verdict_35 : decode cX2_verdict 35 = .ok (.isub, 1) := by decide +kernel
theorem dX2_verdict_36 : decode cX2_verdict 36 = .ok (.invokevirtual 34, 3) := by decide +kernel
theorem dX2_verdict_39 : decode cX2_verdict 39 = .ok (.lmul, 1) := by decide +kernel
theorem dX2_verdict_40 : decode cX2_verdict 40 = .ok (.lstore 8, 2) := by decide +kernel
theorem dX2_verdict_42 : decode cX2_verdict 42 = .ok (.lload 6, 2) := by decide +kernel
theorem dX2_verdict_44 : decode cX2_verdict 44 = .ok (.iload 5, 2) := by decide +kernel
theorem dX2_verdict_46 : decode cX2_verdict 46 = .ok (.i2l, 1) := by decide +kernel
theorem dX2_verdict_47 : decode cX2_verdict 47 = .ok (.lload 8, 2) := by decide +kernel
theorem dX2_verdict_49 : decode cX2_verdict 49 = .ok (.lmul, 1) := by decide +kernel
theorem dX2_verdict_50 : decode cX2_verdict 50 = .ok (.lcmp, 1) := by decide +kernel
theorem dX2_verdict_51 : decode cX2_verdict 51 = .ok (.ifCond .lt 5, 3) := by decide +kernel
theorem dX2_verdict_54 : decode cX2_verdict 54 = .ok (.iconst 1, 1) := by decide +kernel
theorem dX2_verdict_55 : decode cX2_verdict 55 = .ok (.ireturn, 1) := by decide +kernel
theorem dX2_verdict_56 : decode cX2_verdict 56 = .ok (.lload 8, 2) := by decide +kernel
theorem dX2_verdict_58 : decode cX2_verdict 58 = .ok (.iload 5, 2) := by decide +kernel
theorem dX2_verdict_60 : decode cX2_verdict 60 = .ok (.i2l, 1) := by decide +kernel
theorem dX2_verdict_61 : decode cX2_verdict 61 = .ok (.lload 6, 2) := by decide +kernel
theorem dX2_verdict_63 : decode cX2_verdict 63 = .ok (.lmul, 1) := by decide +kernel
theorem dX2_verdict_64 : decode cX2_verdict 64 = .ok (.lcmp, 1) := by decide +kernel
theorem dX2_verdict_65 : decode cX2_verdict 65 = .ok (.ifCond .lt 7, 3) := by decide +kernel
theorem dX2_verdict_68 : decode cX2_verdict 68 = .ok (.iconst 0, 1) := by decide +kernel
theorem dX2_verdict_69 : decode cX2_verdict 69 = .ok (.goto 4, 3) := by decide +kernel
theorem dX2_verdict_72 : decode cX2_verdict 72 = .ok (.iconst (-1), 1) := by decide +kernel
theorem dX2_verdict_73 : decode cX2_verdict 73 = .ok (.ireturn, 1) := by decide +kernel
theorem dX2_isWithin_0 : decode cX2_isWithin 0 = .ok (.lload_n 1, 1) := by decide +kernel
theorem dX2_isWithin_1 : decode cX2_isWithin 1 = .ok (.ldc2_w 38, 3) := by decide +kernel
theorem dX2_isWithin_4 : decode cX2_isWithin 4 = .ok (.lmul, 1) := by decide +kernel
theorem dX2_isWithin_5 : decode cX2_isWithin 5 = .ok (.iload 4, 2) := by decide +kernel
theorem dX2_isWithin_7 : decode cX2_isWithin 7 = .ok (.i2l, 1) := by decide +kernel
theorem dX2_isWithin_8 : decode cX2_isWithin 8 = .ok (.aload_n 0, 1) := by decide +kernel
theorem dX2_isWithin_9 : decode cX2_isWithin 9 = .ok (.bipush 10, 2) := by decide +kernel
theorem dX2_isWithin_11 : decode cX2_isWithin 11 = .ok (.iload_n 3, 1) := by decide +kernel
theorem dX2_isWithin_12 : decode cX2_isWithin 12 = .ok (.invokevirtual 34, 3) := by decide +kernel
theorem dX2_isWithin_15 : decode cX2_isWithin 15 = .ok (.lmul, 1) := by decide +kernel
theorem dX2_isWithin_16 : decode cX2_isWithin 16 = .ok (.lcmp, 1) := by decide +kernel
theorem dX2_isWithin_17 : decode cX2_isWithin 17 = .ok (.ifCond .gt 7, 3) := by decide +kernel
theorem dX2_isWithin_20 : decode cX2_isWithin 20 = .ok (.iconst 1, 1) := by decide +kernel
theorem dX2_isWithin_21 : decode cX2_isWithin 21 = .ok (.goto 4, 3) := by decide +kernel
theorem dX2_isWithin_24 : decode cX2_isWithin 24 = .ok (.iconst 0, 1) := by decide +kernel
theorem dX2_isWithin_25 : decode cX2_isWithin 25 = .ok (.ireturn, 1) := by decide +kernel
theorem dX2_casesOf_0 : decode cX2_casesOf 0 = .ok (.lconst 0, 1) := by decide +kernel
theorem dX2_casesOf_1 : decode cX2_casesOf 1 = .ok (.lstore 5, 2) := by decide +kernel
theorem dX2_casesOf_3 : decode cX2_casesOf 3 = .ok (.iload_n 1, 1) := by decide +kernel
theorem dX2_casesOf_4 : decode cX2_casesOf 4 = .ok (.istore 7, 2) := by decide +kernel
theorem dX2_casesOf_6 : decode cX2_casesOf 6 = .ok (.iload 7, 2) := by decide +kernel
theorem dX2_casesOf_8 : decode cX2_casesOf 8 = .ok (.iload_n 2, 1) := by decide +kernel
theorem dX2_casesOf_9 : decode cX2_casesOf 9 = .ok (.if_icmp .gt 44, 3) := by decide +kernel
theorem dX2_casesOf_12 : decode cX2_casesOf 12 = .ok (.lload 5, 2) := by decide +kernel
theorem dX2_casesOf_14 : decode cX2_casesOf 14 = .ok (.aload_n 0, 1) := by decide +kernel
theorem dX2_casesOf_15 : decode cX2_casesOf 15 = .ok (.iload_n 3, 1) := by decide +kernel
theorem dX2_casesOf_16 : decode cX2_casesOf 16 = .ok (.iload 7, 2) := by decide +kernel
theorem dX2_casesOf_18 : decode cX2_casesOf 18 = .ok (.invokevirtual 40, 3) := by decide +kernel
theorem dX2_casesOf_21 : decode cX2_casesOf 21 = .ok (.aload_n 0, 1) := by decide +kernel
theorem dX2_casesOf_22 : decode cX2_casesOf 22 = .ok (.iload 4, 2) := by decide +kernel
theorem dX2_casesOf_24 : decode cX2_casesOf 24 = .ok (.iload 7, 2) := by decide +kernel
theorem dX2_casesOf_26 : decode cX2_casesOf 26 = .ok (.invokevirtual 34, 3) := by decide +kernel
theorem dX2_casesOf_29 : decode cX2_casesOf 29 = .ok (.lmul, 1) := by decide +kernel
theorem dX2_casesOf_30 : decode cX2_casesOf 30 = .ok (.aload_n 0, 1) := by decide +kernel
theorem dX2_casesOf_31 : decode cX2_casesOf 31 = .ok (.bipush 10, 2) := by decide +kernel
theorem dX2_casesOf_33 : decode cX2_casesOf 33 = .ok (.iload 4, 2) := by decide +kernel
theorem dX2_casesOf_35 : decode cX2_casesOf 35 = .ok (.isub, 1) := by decide +kernel
theorem dX2_casesOf_36 : decode cX2_casesOf 36 = .ok (.iload_n 3, 1) := by decide +kernel
theorem dX2_casesOf_37 : decode cX2_casesOf 37 = .ok (.iload 7, 2) := by decide +kernel
theorem dX2_casesOf_39 : decode cX2_casesOf 39 = .ok (.isub, 1) := by decide +kernel
theorem dX2_casesOf_40 : decode cX2_casesOf 40 = .ok (.invokevirtual 34, 3) := by decide +kernel
theorem dX2_casesOf_43 : decode cX2_casesOf 43 = .ok (.lmul, 1) := by decide +kernel
theorem dX2_casesOf_44 : decode cX2_casesOf 44 = .ok (.ladd, 1) := by decide +kernel
theorem dX2_casesOf_45 : decode cX2_casesOf 45 = .ok (.lstore 5, 2) := by decide +kernel
theorem dX2_casesOf_47 : decode cX2_casesOf 47 = .ok (.iinc 7 1, 3) := by decide +kernel
theorem dX2_casesOf_50 : decode cX2_casesOf 50 = .ok (.goto (-44), 3) := by decide +kernel
theorem dX2_casesOf_53 : decode cX2_casesOf 53 = .ok (.lload 5, 2) := by decide +kernel
theorem dX2_casesOf_55 : decode cX2_casesOf 55 = .ok (.lreturn, 1) := by decide +kernel
theorem dX2_power_0 : decode cX2_power 0 = .ok (.iload_n 1, 1) := by decide +kernel
theorem dX2_power_1 : decode cX2_power 1 = .ok (.ifCond .lt 30, 3) := by decide +kernel
theorem dX2_power_4 : decode cX2_power 4 = .ok (.iload_n 1, 1) := by decide +kernel
theorem dX2_power_5 : decode cX2_power 5 = .ok (.bipush 10, 2) := by decide +kernel
theorem dX2_power_7 : decode cX2_power 7 = .ok (.if_icmp .gt 24, 3) := by decide +kernel
theorem dX2_power_10 : decode cX2_power 10 = .ok (.iload_n 2, 1) := by decide +kernel
theorem dX2_power_11 : decode cX2_power 11 = .ok (.ifCond .lt 20, 3) := by decide +kernel
theorem dX2_power_14 : decode cX2_power 14 = .ok (.iload_n 2, 1) := by decide +kernel
theorem dX2_power_15 : decode cX2_power 15 = .ok (.bipush 16, 2) := by decide +kernel
theorem dX2_power_17 : decode cX2_power 17 = .ok (.if_icmp .gt 14, 3) := by decide +kernel
theorem dX2_power_20 : decode cX2_power 20 = .ok (.aload_n 0, 1) := by decide +kernel
theorem dX2_power_21 : decode cX2_power 21 = .ok (.getfield 13, 3) := by decide +kernel
theorem dX2_power_24 : decode cX2_power 24 = .ok (.iload_n 1, 1) := by decide +kernel
theorem dX2_power_25 : decode cX2_power 25 = .ok (.aaload, 1) := by decide +kernel
theorem dX2_power_26 : decode cX2_power 26 = .ok (.iload_n 2, 1) := by decide +kernel
theorem dX2_power_27 : decode cX2_power 27 = .ok (.laload, 1) := by decide +kernel
theorem dX2_power_28 : decode cX2_power 28 = .ok (.goto 4, 3) := by decide +kernel
theorem dX2_power_31 : decode cX2_power 31 = .ok (.lconst 0, 1) := by decide +kernel
theorem dX2_power_32 : decode cX2_power 32 = .ok (.lreturn, 1) := by decide +kernel
theorem dX2_choose_0 : decode cX2_choose 0 = .ok (.iload_n 1, 1) := by decide +kernel
theorem dX2_choose_1 : decode cX2_choose 1 = .ok (.ifCond .lt 29, 3) := by decide +kernel
theorem dX2_choose_4 : decode cX2_choose 4 = .ok (.iload_n 1, 1) := by decide +kernel
theorem dX2_choose_5 : decode cX2_choose 5 = .ok (.bipush 14, 2) := by decide +kernel
theorem dX2_choose_7 : decode cX2_choose 7 = .ok (.if_icmp .gt 23, 3) := by decide +kernel
theorem dX2_choose_10 : decode cX2_choose 10 = .ok (.iload_n 2, 1) := by decide +kernel
theorem dX2_choose_11 : decode cX2_choose 11 = .ok (.ifCond .lt 19, 3) := by decide +kernel
theorem dX2_choose_14 : decode cX2_choose 14 = .ok (.iload_n 2, 1) := by decide +kernel
theorem dX2_choose_15 : decode cX2_choose 15 = .ok (.iload_n 1, 1) := by decide +kernel
theorem dX2_choose_16 : decode cX2_choose 16 = .ok (.if_icmp .gt 14, 3) := by decide +kernel
theorem dX2_choose_19 : decode cX2_choose 19 = .ok (.aload_n 0, 1) := by decide +kernel
theorem dX2_choose_20 : decode cX2_choose 20 = .ok (.getfield 16, 3) := by decide +kernel
theorem dX2_choose_23 : decode cX2_choose 23 = .ok (.iload_n 1, 1) := by decide +kernel
theorem dX2_choose_24 : decode cX2_choose 24 = .ok (.aaload, 1) := by decide +kernel
theorem dX2_choose_25 : decode cX2_choose 25 = .ok (.iload_n 2, 1) := by decide +kernel
theorem dX2_choose_26 : decode cX2_choose 26 = .ok (.laload, 1) := by decide +kernel
theorem dX2_choose_27 : decode cX2_choose 27 = .ok (.goto 4, 3) := by decide +kernel
theorem dX2_choose_30 : decode cX2_choose 30 = .ok (.lconst 0, 1) := by decide +kernel
theorem dX2_choose_31 : decode cX2_choose 31 = .ok (.lreturn, 1) := by decide +kernel
theorem dX3_init_0 : decode cX3_init 0 = .ok (.aload_n 0, 1) := by decide +kernel
theorem dX3_init_1 : decode cX3_init 1 = .ok (.invokespecial 3, 3) := by decide +kernel
theorem dX3_init_4 : decode cX3_init 4 = .ok (.aload_n 0, 1) := by decide +kernel
theorem dX3_init_5 : decode cX3_init 5 = .ok (.new 9, 3) := by decide +kernel
theorem dX3_init_8 : decode cX3_init 8 = .ok (.dup, 1) := by decide +kernel
theorem dX3_init_9 : decode cX3_init 9 = .ok (.invokespecial 11, 3) := by decide +kernel
theorem dX3_init_12 : decode cX3_init 12 = .ok (.putfield 12, 3) := by decide +kernel
theorem dX3_init_15 : decode cX3_init 15 = .ok (.aload_n 0, 1) := by decide +kernel
theorem dX3_init_16 : decode cX3_init 16 = .ok (.aload_n 1, 1) := by decide +kernel
theorem dX3_init_17 : decode cX3_init 17 = .ok (.putfield 18, 3) := by decide +kernel
theorem dX3_init_20 : decode cX3_init 20 = .ok (.return_, 1) := by decide +kernel
theorem dX3_reads_0 : decode cX3_reads 0 = .ok (.aload_n 0, 1) := by decide +kernel
theorem dX3_reads_1 : decode cX3_reads 1 = .ok (.getfield 12, 3) := by decide +kernel
theorem dX3_reads_4 : decode cX3_reads 4 = .ok (.invokevirtual 22, 3) := by decide +kernel
theorem dX3_reads_7 : decode cX3_reads 7 = .ok (.aload_n 0, 1) := by decide +kernel
theorem dX3_reads_8 : decode cX3_reads 8 = .ok (.getfield 18, 3) := by decide +kernel
theorem dX3_reads_11 : decode cX3_reads 11 = .ok (.invokevirtual 25, 3) := by decide +kernel
theorem dX3_reads_14 : decode cX3_reads 14 = .ok (.aload_n 0, 1) := by decide +kernel
theorem dX3_reads_15 : decode cX3_reads 15 = .ok (.invokevirtual 30, 3) := by decide +kernel
theorem dX3_reads_18 : decode cX3_reads 18 = .ok (.istore_n 1, 1) := by decide +kernel
theorem dX3_reads_19 : decode cX3_reads 19 = .ok (.iconst 0, 1) := by decide +kernel
theorem dX3_reads_20 : decode cX3_reads 20 = .ok (.istore_n 2, 1) := by decide +kernel
theorem dX3_reads_21 : decode cX3_reads 21 = .ok (.iload_n 1, 1) := by decide +kernel
theorem dX3_reads_22 : decode cX3_reads 22 = .ok (.ifCond .eq 44, 3) := by decide +kernel
theorem dX3_reads_25 : decode cX3_reads 25 = .ok (.iload_n 2, 1) := by decide +kernel
theorem dX3_reads_26 : decode cX3_reads 26 = .ok (.iconst 4, 1) := by decide +kernel
theorem dX3_reads_27 : decode cX3_reads 27 = .ok (.if_icmp .gt 39, 3) := by decide +kernel
theorem dX3_reads_30 : decode cX3_reads 30 = .ok (.aload_n 0, 1) := by decide +kernel
theorem dX3_reads_31 : decode cX3_reads 31 = .ok (.getfield 18, 3) := by decide +kernel
theorem dX3_reads_34 : decode cX3_reads 34 = .ok (.ldc 34, 2) := by decide +kernel
theorem dX3_reads_36 : decode cX3_reads 36 = .ok (.invokevirtual 36, 3) := by decide +kernel
theorem dX3_reads_39 : decode cX3_reads 39 = .ok (.ifCond .eq 27, 3) := by decide +kernel
theorem dX3_reads_42 : decode cX3_reads 42 = .ok (.iload_n 2, 1) := by decide +kernel
theorem dX3_reads_43 : decode cX3_reads 43 = .ok (.iconst 4, 1) := by decide +kernel
theorem dX3_reads_44 : decode cX3_reads 44 = .ok (.if_icmp .ge 10, 3) := by decide +kernel
theorem dX3_reads_47 : decode cX3_reads 47 = .ok (.aload_n 0, 1) := by decide +kernel
theorem dX3_reads_48 : decode cX3_reads 48 = .ok (.invokevirtual 40, 3) := by decide +kernel
theorem dX3_reads_51 : decode cX3_reads 51 = .ok (.goto 8, 3) := by decide +kernel
theorem dX3_reads_54 : decode cX3_reads 54 = .ok (.aload_n 0, 1) := by decide +kernel
theorem dX3_reads_55 : decode cX3_reads 55 = .ok (.iconst 4, 1) := by decide +kernel
theorem dX3_reads_56 : decode cX3_reads 56 = .ok (.invokevirtual 43, 3) := by decide +kernel
theorem dX3_reads_59 : decode cX3_reads 59 = .ok (.istore_n 1, 1) := by decide +kernel
theorem dX3_reads_60 : decode cX3_reads 60 = .ok (.iinc 2 1, 3) := by decide +kernel
theorem dX3_reads_63 : decode cX3_reads 63 = .ok (.goto (-42), 3) := by decide +kernel
theorem dX3_reads_66 : decode cX3_reads 66 = .ok (.iconst 0, 1) := by decide +kernel
theorem dX3_reads_67 : decode cX3_reads 67 = .ok (.istore_n 2, 1) := by decide +kernel
theorem dX3_reads_68 : decode cX3_reads 68 = .ok (.iload_n 1, 1) := by decide +kernel
theorem dX3_reads_69 : decode cX3_reads 69 = .ok (.ifCond .eq 65, 3) := by decide +kernel
theorem dX3_reads_72 : decode cX3_reads 72 = .ok (.iload_n 2, 1) := by decide +kernel
theorem dX3_reads_73 : decode cX3_reads 73 = .ok (.bipush 12, 2) := by decide +kernel
theorem dX3_reads_75 : decode cX3_reads 75 = .ok (.if_icmp .gt 59, 3) := by decide +kernel
theorem dX3_reads_78 : decode cX3_reads 78 = .ok (.aload_n 0, 1) := by decide +kernel
theorem dX3_reads_79 : decode cX3_reads 79 = .ok (.getfield 18, 3) := by decide +kernel
theorem dX3_reads_82 : decode cX3_reads 82 = .ok (.ldc 47, 2) := by decide +kernel
theorem dX3_reads_84 : decode cX3_reads 84 = .ok (.invokevirtual 36, 3) := by decide +kernel
theorem dX3_reads_87 : decode cX3_reads 87 = .ok (.ifCond .eq 47, 3) := by decide +kernel
theorem dX3_reads_90 : decode cX3_reads 90 = .ok (.iload_n 2, 1) := by decide +kernel
theorem dX3_reads_91 : decode cX3_reads 91 = .ok (.bipush 12, 2) := by decide +kernel
theorem dX3_reads_93 : decode cX3_reads 93 = .ok (.if_icmp .ge 19, 3) := by decide +kernel
theorem dX3_reads_96 : decode cX3_reads 96 = .ok (.aload_n 0, 1) := by decide +kernel
theorem dX3_reads_97 : decode cX3_reads 97 = .ok (.aload_n 0, 1) := by decide +kernel
theorem dX3_reads_98 : decode cX3_reads 98 = .ok (.getfield 12, 3) := by decide +kernel
theorem dX3_reads_101 : decode cX3_reads 101 = .ok (.getfield 49, 3) := by decide +kernel
theorem dX3_reads_104 : decode cX3_reads 104 = .ok (.iload_n 2, 1) := by decide +kernel
theorem dX3_reads_105 : decode cX3_reads 105 = .ok (.aaload, 1) := by decide +kernel
theorem dX3_reads_106 : decode cX3_reads 106 = .ok (.invokevirtual 53, 3) := by decide +kernel
theorem dX3_reads_109 : decode cX3_reads 109 = .ok (.goto 8, 3) := by decide +kernel
theorem dX3_reads_112 : decode cX3_reads 112 = .ok (.aload_n 0, 1) := by decide +kernel
theorem dX3_reads_113 : decode cX3_reads 113 = .ok (.iconst 4, 1) := by decide +kernel
theorem dX3_reads_114 : decode cX3_reads 114 = .ok (.invokevirtual 43, 3) := by decide +kernel
theorem dX3_reads_117 : decode cX3_reads 117 = .ok (.istore_n 1, 1) := by decide +kernel
theorem dX3_reads_118 : decode cX3_reads 118 = .ok (.aload_n 0, 1) := by decide +kernel
theorem dX3_reads_119 : decode cX3_reads 119 = .ok (.getfield 12, 3) := by decide +kernel
theorem dX3_reads_122 : decode cX3_reads 122 = .ok (.iload_n 2, 1) := by decide +kernel
theorem dX3_reads_123 : decode cX3_reads 123 = .ok (.iconst 1, 1) := by decide +kernel
theorem dX3_reads_124 : decode cX3_reads 124 = .ok (.iadd, 1) := by decide +kernel
theorem dX3_reads_125 : decode cX3_reads 125 = .ok (.putfield 57, 3) := by decide +kernel
theorem dX3_reads_128 : decode cX3_reads 128 = .ok (.iinc 2 1, 3) := by decide +kernel
theorem dX3_reads_131 : decode cX3_reads 131 = .ok (.goto (-63), 3) := by decide +kernel
theorem dX3_reads_134 : decode cX3_reads 134 = .ok (.iconst 0, 1) := by decide +kernel
theorem dX3_reads_135 : decode cX3_reads 135 = .ok (.istore_n 2, 1) := by decide +kernel
theorem dX3_reads_136 : decode cX3_reads 136 = .ok (.iload_n 1, 1) := by decide +kernel
theorem dX3_reads_137 : decode cX3_reads 137 = .ok (.ifCond .eq 63, 3) := by decide +kernel
theorem dX3_reads_140 : decode cX3_reads 140 = .ok (.iload_n 2, 1) := by decide +kernel
theorem dX3_reads_141 : decode cX3_reads 141 = .ok (.iconst 4, 1) := by decide +kernel
theorem dX3_reads_142 : decode cX3_reads 142 = .ok (.if_icmp .gt 58, 3) := by decide +kernel
theorem dX3_reads_145 : decode cX3_reads 145 = .ok (.aload_n 0, 1) := by decide +kernel
theorem dX3_reads_146 : decode cX3_reads 146 = .ok (.getfield 18, 3) := by decide +kernel
theorem dX3_reads_149 : decode cX3_reads 149 = .ok (.ldc 61, 2) := by decide +kernel
theorem dX3_reads_151 : decode cX3_reads 151 = .ok (.invokevirtual 36, 3) := by decide +kernel
theorem dX3_reads_154 : decode cX3_reads 154 = .ok (.ifCond .eq 46, 3) := by decide +kernel
theorem dX3_reads_157 : decode cX3_reads 157 = .ok (.iload_n 2, 1) := by decide +kernel
theorem dX3_reads_158 : decode cX3_reads 158 = .ok (.iconst 4, 1) := by decide +kernel
theorem dX3_reads_159 : decode cX3_reads 159 = .ok (.if_icmp .ge 19, 3) := by decide +kernel
theorem dX3_reads_162 : decode cX3_reads 162 = .ok (.aload_n 0, 1) := by decide +kernel
theorem dX3_reads_163 : decode cX3_reads 163 = .ok (.aload_n 0, 1) := by decide +kernel
theorem dX3_reads_164 : decode cX3_reads 164 = .ok (.getfield 12, 3) := by decide +kernel
theorem dX3_reads_167 : decode cX3_reads 167 = .ok (.getfield 63, 3) := by decide +kernel
theorem dX3_reads_170 : decode cX3_reads 170 = .ok (.iload_n 2, 1) := by decide +kernel
theorem dX3_reads_171 : decode cX3_reads 171 = .ok (.aaload, 1) := by decide +kernel
theorem dX3_reads_172 : decode cX3_reads 172 = .ok (.invokevirtual 67, 3) := by decide +kernel
theorem dX3_reads_175 : decode cX3_reads 175 = .ok (.goto 8, 3) := by decide +kernel
theorem dX3_reads_178 : decode cX3_reads 178 = .ok (.aload_n 0, 1) := by decide +kernel
theorem dX3_reads_179 : decode cX3_reads 179 = .ok (.iconst 4, 1) := by decide +kernel
theorem dX3_reads_180 : decode cX3_reads 180 = .ok (.invokevirtual 43, 3) := by decide +kernel
theorem dX3_reads_183 : decode cX3_reads 183 = .ok (.istore_n 1, 1) := by decide +kernel
theorem dX3_reads_184 : decode cX3_reads 184 = .ok (.aload_n 0, 1) := by decide +kernel
theorem dX3_reads_185 : decode cX3_reads 185 = .ok (.getfield 12, 3) := by decide +kernel
theorem dX3_reads_188 : decode cX3_reads 188 = .ok (.iload_n 2, 1) := by decide +kernel
theorem dX3_reads_189 : decode cX3_reads 189 = .ok (.iconst 1, 1) := by decide +kernel
theorem dX3_reads_190 : decode cX3_reads 190 = .ok (.iadd, 1) := by decide +kernel
theorem dX3_reads_191 : decode cX3_reads 191 = .ok (.putfield 71, 3) := by decide +kernel
theorem dX3_reads_194 : decode cX3_reads 194 = .ok (.iinc 2 1, 3) := by decide +kernel
theorem dX3_reads_197 : decode cX3_reads 197 = .ok (.goto (-61), 3) := by decide +kernel
theorem dX3_reads_200 : decode cX3_reads 200 = .ok (.iload_n 1, 1) := by decide +kernel
theorem dX3_reads_201 : decode cX3_reads 201 = .ok (.ifCond .eq 14, 3) := by decide +kernel
theorem dX3_reads_204 : decode cX3_reads 204 = .ok (.aload_n 0, 1) := by decide +kernel
theorem dX3_reads_205 : decode cX3_reads 205 = .ok (.invokevirtual 74, 3) := by decide +kernel
theorem dX3_reads_208 : decode cX3_reads 208 = .ok (.ifCond .eq 7, 3) := by decide +kernel
theorem dX3_reads_211 : decode cX3_reads 211 = .ok (.iconst 1, 1) := by decide +kernel
theorem dX3_reads_212 : decode cX3_reads 212 = .ok (.goto 4, 3) := by decide +kernel
theorem dX3_reads_215 : decode cX3_reads 215 = .ok (.iconst 0, 1) := by decide +kernel
theorem dX3_reads_216 : decode cX3_reads 216 = .ok (.ireturn, 1) := by decide +kernel
theorem dX3_exchange_0 : decode cX3_exchange 0 = .ok (.aload_n 0, 1) := by decide +kernel
theorem dX3_exchange_1 : decode cX3_exchange 1 = .ok (.getfield 12, 3) := by decide +kernel
theorem dX3_exchange_4 : decode cX3_exchange 4 = .ok (.astore_n 2, 1) := by decide +kernel
theorem dX3_exchange_5 : decode cX3_exchange 5 = .ok (.aload_n 0, 1) := by decide +kernel
theorem dX3_exchange_6 : decode cX3_exchange 6 = .ok (.aload_n 1, 1) := by decide +kernel
theorem dX3_exchange_7 : decode cX3_exchange 7 = .ok (.putfield 12, 3) := by decide +kernel
theorem dX3_exchange_10 : decode cX3_exchange 10 = .ok (.aload_n 2, 1) := by decide +kernel
theorem dX3_exchange_11 : decode cX3_exchange 11 = .ok (.areturn, 1) := by decide +kernel
theorem dX3_fails_0 : decode cX3_fails 0 = .ok (.aload_n 0, 1) := by decide +kernel
theorem dX3_fails_1 : decode cX3_fails 1 = .ok (.iload_n 1, 1) := by decide +kernel
theorem dX3_fails_2 : decode cX3_fails 2 = .ok (.putfield 77, 3) := by decide +kernel
theorem dX3_fails_5 : decode cX3_fails 5 = .ok (.aload_n 0, 1) := by decide +kernel
theorem dX3_fails_6 : decode cX3_fails 6 = .ok (.aload_n 0, 1) := by decide +kernel
theorem dX3_fails_7 : decode cX3_fails 7 = .ok (.getfield 18, 3) := by decide +kernel
theorem dX3_fails_10 : decode cX3_fails 10 = .ok (.getfield 80, 3) := by decide +kernel
theorem dX3_fails_13 : decode cX3_fails 13 = .ok (.putfield 83, 3) := by decide +kernel
theorem dX3_fails_16 : decode cX3_fails 16 = .ok (.iconst 0, 1) := by decide +kernel
theorem dX3_fails_17 : decode cX3_fails 17 = .ok (.ireturn, 1) := by decide +kernel
theorem dX3_readLots_0 : decode cX3_readLots 0 = .ok (.aload_n 0, 1) := by decide +kernel
theorem dX3_readLots_1 : decode cX3_readLots 1 = .ok (.getfield 18, 3) := by decide +kernel
theorem dX3_readLots_4 : decode cX3_readLots 4 = .ok (.ldc 86, 2) := by decide +kernel
theorem dX3_readLots_6 : decode cX3_readLots 6 = .ok (.invokevirtual 36, 3) := by decide +kernel
theorem dX3_readLots_9 : decode cX3_readLots 9 = .ok (.ifCond .ne 9, 3) := by decide +kernel
theorem dX3_readLots_12 : decode cX3_readLots 12 = .ok (.aload_n 0, 1) := by decide +kernel
theorem dX3_readLots_13 : decode cX3_readLots 13 = .ok (.iconst 1, 1) := by decide +kernel
theorem dX3_readLots_14 : decode cX3_readLots 14 = .ok (.invokevirtual 43, 3) := by decide +kernel
theorem dX3_readLots_17 : decode cX3_readLots 17 = .ok (.ireturn, 1) := by decide +kernel
theorem dX3_readLots_18 : decode cX3_readLots 18 = .ok (.aload_n 0, 1) := by decide +kernel
theorem dX3_readLots_19 : decode cX3_readLots 19 = .ok (.getfield 18, 3) := by decide +kernel
theorem dX3_readLots_22 : decode cX3_readLots 22 = .ok (.invokevirtual 88, 3) := by decide +kernel
theorem dX3_readLots_25 : decode cX3_readLots 25 = .ok (.aload_n 0, 1) := by decide +kernel
theorem dX3_readLots_26 : decode cX3_readLots 26 = .ok (.iconst 1, 1) := by decide +kernel
theorem dX3_readLots_27 : decode cX3_readLots 27 = .ok (.bipush 20, 2) := by decide +kernel
theorem dX3_readLots_29 : decode cX3_readLots 29 = .ok (.invokevirtual 91, 3) := by decide +kernel
theorem dX3_readLots_32 : decode cX3_readLots 32 = .ok (.ifCond .ne 5, 3) := by decide +kernel
theorem dX3_readLots_35 : decode cX3_readLots 35 = .ok (.iconst 0, 1) := by decide +kernel
theorem dX3_readLots_36 : decode cX3_readLots 36 = .ok (.ireturn, 1) := by decide +kernel
theorem dX3_readLots_37 : decode cX3_readLots 37 = .ok (.aload_n 0, 1) := by decide +kernel
theorem dX3_readLots_38 : decode cX3_readLots 38 = .ok (.getfield 12, 3) := by decide +kernel
theorem dX3_readLots_41 : decode cX3_readLots 41 = .ok (.aload_n 0, 1) := by decide +kernel
theorem dX3_readLots_42 : decode cX3_readLots 42 = .ok (.getfield 18, 3) := by decide +kernel
theorem dX3_readLots_45 : decode cX3_readLots 45 = .ok (.getfield 95, 3) := by decide +kernel
theorem dX3_readLots_48 : decode cX3_readLots 48 = .ok (.putfield 98, 3) := by decide +kernel
theorem dX3_readLots_51 : decode cX3_readLots 51 = .ok (.aload_n 0, 1) := by decide +kernel
theorem dX3_readLots_52 : decode cX3_readLots 52 = .ok (.getfield 18, 3) := by decide +kernel
theorem dX3_readLots_55 : decode cX3_readLots 55 = .ok (.invokevirtual 88, 3) := by decide +kernel
theorem dX3_readLots_58 : decode cX3_readLots 58 = .ok (.aload_n 0, 1) := by decide +kernel
theorem dX3_readLots_59 : decode cX3_readLots 59 = .ok (.bipush 59, 2) := by decide +kernel
theorem dX3_readLots_61 : decode cX3_readLots 61 = .ok (.invokevirtual 100, 3) := by decide +kernel
theorem dX3_readLots_64 : decode cX3_readLots 64 = .ok (.ireturn, 1) := by decide +kernel
theorem dX3_readVar_0 : decode cX3_readVar 0 = .ok (.aload_n 0, 1) := by decide +kernel
theorem dX3_readVar_1 : decode cX3_readVar 1 = .ok (.getfield 18, 3) := by decide +kernel
theorem dX3_readVar_4 : decode cX3_readVar 4 = .ok (.invokevirtual 88, 3) := by decide +kernel
theorem dX3_readVar_7 : decode cX3_readVar 7 = .ok (.aload_n 0, 1) := by decide +kernel
theorem dX3_readVar_8 : decode cX3_readVar 8 = .ok (.invokevirtual 104, 3) := by decide +kernel
theorem dX3_readVar_11 : decode cX3_readVar 11 = .ok (.ifCond .ne 5, 3) := by decide +kernel
theorem dX3_readVar_14 : decode cX3_readVar 14 = .ok (.iconst 0, 1) := by decide +kernel
theorem dX3_readVar_15 : decode cX3_readVar 15 = .ok (.ireturn, 1) := by decide +kernel
theorem dX3_readVar_16 : decode cX3_readVar 16 = .ok (.aload_n 0, 1) := by decide +kernel
theorem dX3_readVar_17 : decode cX3_readVar 17 = .ok (.getfield 18, 3) := by decide +kernel
theorem dX3_readVar_20 : decode cX3_readVar 20 = .ok (.getfield 107, 3) := by decide +kernel
theorem dX3_readVar_23 : decode cX3_readVar 23 = .ok (.istore_n 1, 1) := by decide +kernel
theorem dX3_readVar_24 : decode cX3_readVar 24 = .ok (.aload_n 0, 1) := by decide +kernel
theorem dX3_readVar_25 : decode cX3_readVar 25 = .ok (.getfield 18, 3) := by decide +kernel
theorem dX3_readVar_28 : decode cX3_readVar 28 = .ok (.invokevirtual 88, 3) := by decide +kernel
theorem dX3_readVar_31 : decode cX3_readVar 31 = .ok (.aload_n 0, 1) := by decide +kernel
theorem dX3_readVar_32 : decode cX3_readVar 32 = .ok (.iconst 0, 1) := by decide +kernel
theorem dX3_readVar_33 : decode cX3_readVar 33 = .ok (.bipush 30, 2) := by decide +kernel
theorem dX3_readVar_35 : decode cX3_readVar 35 = .ok (.invokevirtual 91, 3) := by decide +kernel
theorem dX3_readVar_38 : decode cX3_readVar 38 = .ok (.ifCond .ne 5, 3) := by decide +kernel
theorem dX3_readVar_41 : decode cX3_readVar 41 = .ok (.iconst 0, 1) := by decide +kernel
theorem dX3_readVar_42 : decode cX3_readVar 42 = .ok (.ireturn, 1) := by decide +kernel
theorem dX3_readVar_43 : decode cX3_readVar 43 = .ok (.aload_n 0, 1) := by decide +kernel
theorem dX3_readVar_44 : decode cX3_readVar 44 = .ok (.getfield 18, 3) := by decide +kernel
theorem dX3_readVar_47 : decode cX3_readVar 47 = .ok (.getfield 95, 3) := by decide +kernel
theorem dX3_readVar_50 : decode cX3_readVar 50 = .ok (.istore_n 2, 1) := by decide +kernel
theorem dX3_readVar_51 : decode cX3_readVar 51 = .ok (.aload_n 0, 1) := by decide +kernel
theorem dX3_readVar_52 : decode cX3_readVar 52 = .ok (.getfield 12, 3) := by decide +kernel
theorem dX3_readVar_55 : decode cX3_readVar 55 = .ok (.getfield 110, 3) := by decide +kernel
theorem dX3_readVar_58 : decode cX3_readVar 58 = .ok (.iload_n 2, 1) := by decide +kernel
theorem dX3_readVar_59 : decode cX3_readVar 59 = .ok (.iconst 1, 1) := by decide +kernel
theorem dX3_readVar_60 : decode cX3_readVar 60 = .ok (.iadd, 1) := by decide +kernel
theorem dX3_readVar_61 : decode cX3_readVar 61 = .ok (.imul, 1) := by decide +kernel
theorem dX3_readVar_62 : decode cX3_readVar 62 = .ok (.sipush 1000, 3) := by decide +kernel
theorem dX3_readVar_65 : decode cX3_readVar 65 = .ok (.if_icmp .le 9, 3) := by decide +kernel
theorem dX3_readVar_68 : decode cX3_readVar 68 = .ok (.aload_n 0, 1) := by decide +kernel
theorem dX3_readVar_69 : decode cX3_readVar 69 = .ok (.iconst 4, 1) := by decide +kernel
theorem dX3_readVar_70 : decode cX3_readVar 70 = .ok (.invokevirtual 43, 3) := by decide +kernel
theorem dX3_readVar_73 : decode cX3_readVar 73 = .ok (.ireturn, 1) := by decide +kernel
theorem dX3_readVar_74 : decode cX3_readVar 74 = .ok (.aload_n 0, 1) := by decide +kernel
theorem dX3_readVar_75 : decode cX3_readVar 75 = .ok (.getfield 18, 3) := by decide +kernel
theorem dX3_readVar_78 : decode cX3_readVar 78 = .ok (.invokevirtual 88, 3) := by decide +kernel
theorem dX3_readVar_81 : decode cX3_readVar 81 = .ok (.aload_n 0, 1) := by decide +kernel
theorem dX3_readVar_82 : decode cX3_readVar 82 = .ok (.iconst 0, 1) := by decide +kernel
theorem dX3_readVar_83 : decode cX3_readVar 83 = .ok (.iload_n 2, 1) := by decide +kernel
theorem dX3_readVar_84 : decode cX3_readVar 84 = .ok (.invokevirtual 91, 3) := by decide +kernel
theorem dX3_readVar_87 : decode cX3_readVar 87 = .ok (.ifCond .ne 5, 3) := by decide +kernel
theorem dX3_readVar_90 : decode cX3_readVar 90 = .ok (.iconst 0, 1) := by decide +kernel
theorem dX3_readVar_91 : decode cX3_readVar 91 = .ok (.ireturn, 1) := by decide +kernel
theorem dX3_readVar_92 : decode cX3_readVar 92 = .ok (.aload_n 0, 1) := by decide +kernel
theorem dX3_readVar_93 : decode cX3_readVar 93 = .ok (.getfield 12, 3) := by decide +kernel
theorem dX3_readVar_96 : decode cX3_readVar 96 = .ok (.iload_n 1, 1) := by decide +kernel
theorem dX3_readVar_97 : decode cX3_readVar 97 = .ok (.iload_n 2, 1) := by decide +kernel
theorem dX3_readVar_98 : decode cX3_readVar 98 = .ok (.aload_n 0, 1) := by decide +kernel
theorem dX3_readVar_99 : decode cX3_readVar 99 = .ok (.getfield 18, 3) := by decide +kernel
theorem dX3_readVar_102 : decode cX3_readVar 102 = .ok (.getfield 95, 3) := by decide +kernel
theorem dX3_readVar_105 : decode cX3_readVar 105 = .ok (.invokevirtual 113, 3) := by decide +kernel
theorem dX3_readVar_108 : decode cX3_readVar 108 = .ok (.aload_n 0, 1) := by decide +kernel
theorem dX3_readVar_109 : decode cX3_readVar 109 = .ok (.getfield 18, 3) := by decide +kernel
theorem dX3_readVar_112 : decode cX3_readVar 112 = .ok (.invokevirtual 88, 3) := by decide +kernel
theorem dX3_readVar_115 : decode cX3_readVar 115 = .ok (.aload_n 0, 1) := by decide +kernel
theorem dX3_readVar_116 : decode cX3_readVar 116 = .ok (.bipush 59, 2) := by decide +kernel
theorem dX3_readVar_118 : decode cX3_readVar 118 = .ok (.invokevirtual 100, 3) := by decide +kernel
theorem dX3_readVar_121 : decode cX3_readVar 121 = .ok (.ireturn, 1) := by decide +kernel
theorem dX3_readRule_0 : decode cX3_readRule 0 = .ok (.aload_n 1, 1) := by decide +kernel
theorem dX3_readRule_1 : decode cX3_readRule 1 = .ok (.invokevirtual 117, 3) := by decide +kernel
theorem dX3_readRule_4 : decode cX3_readRule 4 = .ok (.aload_n 0, 1) := by decide +kernel
theorem dX3_readRule_5 : decode cX3_readRule 5 = .ok (.getfield 18, 3) := by decide +kernel
theorem dX3_readRule_8 : decode cX3_readRule 8 = .ok (.invokevirtual 88, 3) := by decide +kernel
theorem dX3_readRule_11 : decode cX3_readRule 11 = .ok (.aload_n 0, 1) := by decide +kernel
theorem dX3_readRule_12 : decode cX3_readRule 12 = .ok (.iconst 1, 1) := by decide +kernel
theorem dX3_readRule_13 : decode cX3_readRule 13 = .ok (.aload_n 0, 1) := by decide +kernel
theorem dX3_readRule_14 : decode cX3_readRule 14 = .ok (.getfield 12, 3) := by decide +kernel
theorem dX3_readRule_17 : decode cX3_readRule 17 = .ok (.getfield 98, 3) := by decide +kernel
theorem dX3_readRule_20 : decode cX3_readRule 20 = .ok (.invokevirtual 91, 3) := by decide +kernel
theorem dX3_readRule_23 : decode cX3_readRule 23 = .ok (.ifCond .ne 5, 3) := by decide +kernel
theorem dX3_readRule_26 : decode cX3_readRule 26 = .ok (.iconst 0, 1) := by decide +kernel
theorem dX3_readRule_27 : decode cX3_readRule 27 = .ok (.ireturn, 1) := by decide +kernel
theorem dX3_readRule_28 : decode cX3_readRule 28 = .ok (.aload_n 1, 1) := by decide +kernel
theorem dX3_readRule_29 : decode cX3_readRule 29 = .ok (.aload_n 0, 1) := by decide +kernel
theorem dX3_readRule_30 : decode cX3_readRule 30 = .ok (.getfield 18, 3) := by decide +kernel
theorem dX3_readRule_33 : decode cX3_readRule 33 = .ok (.getfield 95, 3) := by decide +kernel
theorem dX3_readRule_36 : decode cX3_readRule 36 = .ok (.putfield 120, 3) := by decide +kernel
theorem dX3_readRule_39 : decode cX3_readRule 39 = .ok (.aload_n 0, 1) := by decide +kernel
theorem dX3_readRule_40 : decode cX3_readRule 40 = .ok (.getfield 18, 3) := by decide +kernel
theorem dX3_readRule_43 : decode cX3_readRule 43 = .ok (.invokevirtual 88, 3) := by decide +kernel
theorem dX3_readRule_46 : decode cX3_readRule 46 = .ok (.aload_n 0, 1) := by decide +kernel
theorem dX3_readRule_47 : decode cX3_readRule 47 = .ok (.bipush 58, 2) := by decide +kernel
theorem dX3_readRule_49 : decode cX3_readRule 49 = .ok (.invokevirtual 100, 3) := by decide +kernel
theorem dX3_readRule_52 : decode cX3_readRule 52 = .ok (.ifCond .ne 5, 3) := by decide +kernel
theorem dX3_readRule_55 : decode cX3_readRule 55 = .ok (.iconst 0, 1) := by decide +kernel
theorem dX3_readRule_56 : decode cX3_readRule 56 = .ok (.ireturn, 1) := by decide +kernel
theorem dX3_readRule_57 : decode cX3_readRule 57 = .ok (.aload_n 0, 1) := by decide +kernel
theorem dX3_readRule_58 : decode cX3_readRule 58 = .ok (.getfield 18, 3) := by decide +kernel
theorem dX3_readRule_61 : decode cX3_readRule 61 = .ok (.bipush 65, 2) := by decide +kernel
theorem dX3_readRule_63 : decode cX3_readRule 63 = .ok (.invokevirtual 123, 3) := by decide +kernel
theorem dX3_readRule_66 : decode cX3_readRule 66 = .ok (.ifCond .ne 20, 3) := by decide +kernel
theorem dX3_readRule_69 : decode cX3_readRule 69 = .ok (.aload_n 0, 1) := by decide +kernel
theorem dX3_readRule_70 : decode cX3_readRule 70 = .ok (.aload_n 1, 1) := by decide +kernel
theorem dX3_readRule_71 : decode cX3_readRule 71 = .ok (.getfield 126, 3) := by decide +kernel
theorem dX3_readRule_74 : decode cX3_readRule 74 = .ok (.ldc 130, 2) := by decide +kernel
theorem dX3_readRule_76 : decode cX3_readRule 76 = .ok (.bipush 38, 2) := by decide +kernel
theorem dX3_readRule_78 : decode cX3_readRule 78 = .ok (.invokevirtual 132, 3) := by decide +kernel
theorem dX3_readRule_81 : decode cX3_readRule 81 = .ok (.ifCond .ne 5, 3) := by decide +kernel
theorem dX3_readRule_84 : decode cX3_readRule 84 = .ok (.iconst 0, 1) := by decide +kernel
theorem dX3_readRule_85 : decode cX3_readRule 85 = .ok (.ireturn, 1) := by decide +kernel
theorem dX3_readRule_86 : decode cX3_readRule 86 = .ok (.aload_n 0, 1) := by decide +kernel
theorem dX3_readRule_87 : decode cX3_readRule 87 = .ok (.bipush 65, 2) := by decide +kernel
theorem dX3_readRule_89 : decode cX3_readRule 89 = .ok (.invokevirtual 100, 3) := by decide +kernel
theorem dX3_readRule_92 : decode cX3_readRule 92 = .ok (.ifCond .eq 31, 3) := by decide +kernel
theorem dX3_readRule_95 : decode cX3_readRule 95 = .ok (.aload_n 0, 1) := by decide +kernel
theorem dX3_readRule_96 : decode cX3_readRule 96 = .ok (.aload_n 1, 1) := by decide +kernel
theorem dX3_readRule_97 : decode cX3_readRule 97 = .ok (.getfield 136, 3) := by decide +kernel
theorem dX3_readRule_100 : decode cX3_readRule 100 = .ok (.ldc 139, 2) := by decide +kernel
theorem dX3_readRule_102 : decode cX3_readRule 102 = .ok (.bipush 44, 2) := by decide +kernel
theorem dX3_readRule_104 : decode cX3_readRule 104 = .ok (.invokevirtual 132, 3) := by decide +kernel
theorem dX3_readRule_107 : decode cX3_readRule 107 = .ok (.ifCond .eq 16, 3) := by decide +kernel
theorem dX3_readRule_110 : decode cX3_readRule 110 = .ok (.aload_n 0, 1) := by decide +kernel
theorem dX3_readRule_111 : decode cX3_readRule 111 = .ok (.bipush 59, 2) := by decide +kernel
theorem dX3_readRule_113 : decode cX3_readRule 113 = .ok (.invokevirtual 100, 3) := by decide +kernel
theorem dX3_readRule_116 : decode cX3_readRule 116 = .ok (.ifCond .eq 7, 3) := by decide +kernel
theorem dX3_readRule_119 : decode cX3_readRule 119 = .ok (.iconst 1, 1) := by decide +kernel
theorem dX3_readRule_120 : decode cX3_readRule 120 = .ok (.goto 4, 3) := by decide +kernel
theorem dX3_readRule_123 : decode cX3_readRule 123 = .ok (.iconst 0, 1) := by decide +kernel
theorem dX3_readRule_124 : decode cX3_readRule 124 = .ok (.ireturn, 1) := by decide +kernel
theorem dX3_readGoal_0 : decode cX3_readGoal 0 = .ok (.aload_n 1, 1) := by decide +kernel
theorem dX3_readGoal_1 : decode cX3_readGoal 1 = .ok (.invokevirtual 141, 3) := by decide +kernel
theorem dX3_readGoal_4 : decode cX3_readGoal 4 = .ok (.aload_n 0, 1) := by decide +kernel
theorem dX3_readGoal_5 : decode cX3_readGoal 5 = .ok (.getfield 18, 3) := by decide +kernel
theorem dX3_readGoal_8 : decode cX3_readGoal 8 = .ok (.invokevirtual 88, 3) := by decide +kernel
theorem dX3_readGoal_11 : decode cX3_readGoal 11 = .ok (.aload_n 0, 1) := by decide +kernel
theorem dX3_readGoal_12 : decode cX3_readGoal 12 = .ok (.aload_n 1, 1) := by decide +kernel
theorem dX3_readGoal_13 : decode cX3_readGoal 13 = .ok (.ldc 130, 2) := by decide +kernel
theorem dX3_readGoal_15 : decode cX3_readGoal 15 = .ok (.bipush 38, 2) := by decide +kernel
theorem dX3_readGoal_17 : decode cX3_readGoal 17 = .ok (.invokevirtual 132, 3) := by decide +kernel
theorem dX3_readGoal_20 : decode cX3_readGoal 20 = .ok (.ifCond .eq 16, 3) := by decide +kernel
theorem dX3_readGoal_23 : decode cX3_readGoal 23 = .ok (.aload_n 0, 1) := by decide +kernel
theorem dX3_readGoal_24 : decode cX3_readGoal 24 = .ok (.bipush 59, 2) := by decide +kernel
theorem dX3_readGoal_26 : decode cX3_readGoal 26 = .ok (.invokevirtual 100, 3) := by decide +kernel
theorem dX3_readGoal_29 : decode cX3_readGoal 29 = .ok (.ifCond .eq 7, 3) := by decide +kernel
theorem dX3_readGoal_32 : decode cX3_readGoal 32 = .ok (.iconst 1, 1) := by decide +kernel
theorem dX3_readGoal_33 : decode cX3_readGoal 33 = .ok (.goto 4, 3) := by decide +kernel
theorem dX3_readGoal_36 : decode cX3_readGoal 36 = .ok (.iconst 0, 1) := by decide +kernel
theorem dX3_readGoal_37 : decode cX3_readGoal 37 = .ok (.ireturn, 1) := by decide +kernel
theorem dX3_isAtEnd_0 : decode cX3_isAtEnd 0 = .ok (.aload_n 0, 1) := by decide +kernel
theorem dX3_isAtEnd_1 : decode cX3_isAtEnd 1 = .ok (.getfield 18, 3) := by decide +kernel
theorem dX3_isAtEnd_4 : decode cX3_isAtEnd 4 = .ok (.getfield 144, 3) := by decide +kernel
theorem dX3_isAtEnd_7 : decode cX3_isAtEnd 7 = .ok (.ifCond .eq 9, 3) := by decide +kernel
theorem dX3_isAtEnd_10 : decode cX3_isAtEnd 10 = .ok (.aload_n 0, 1) := by decide +kernel
theorem dX3_isAtEnd_11 : decode cX3_isAtEnd 11 = .ok (.iconst 1, 1) := by decide +kernel
theorem dX3_isAtEnd_12 : decode cX3_isAtEnd 12 = .ok (.invokevirtual 43, 3) := by decide +kernel
theorem dX3_isAtEnd_15 : decode cX3_isAtEnd 15 = .ok (.ireturn, 1) := by decide +kernel
theorem dX3_isAtEnd_16 : decode cX3_isAtEnd 16 = .ok (.aload_n 0, 1) := by decide +kernel
theorem dX3_isAtEnd_17 : decode cX3_isAtEnd 17 = .ok (.getfield 12, 3) := by decide +kernel
theorem dX3_isAtEnd_20 : decode cX3_isAtEnd 20 = .ok (.getfield 71, 3) := by decide +kernel
theorem dX3_isAtEnd_23 : decode cX3_isAtEnd 23 = .ok (.ifCond .gt 11, 3) := by decide +kernel
theorem dX3_isAtEnd_26 : decode cX3_isAtEnd 26 = .ok (.aload_n 0, 1) := by decide +kernel
theorem dX3_isAtEnd_27 : decode cX3_isAtEnd 27 = .ok (.iconst 4, 1) := by decide +kernel
theorem dX3_isAtEnd_28 : decode cX3_isAtEnd 28 = .ok (.invokevirtual 43, 3) := by decide +kernel
theorem dX3_isAtEnd_31 : decode cX3_isAtEnd 31 = .ok (.ifCond .eq 7, 3) := by decide +kernel
theorem dX3_isAtEnd_34 : decode cX3_isAtEnd 34 = .ok (.iconst 1, 1) := by decide +kernel
theorem dX3_isAtEnd_35 : decode cX3_isAtEnd 35 = .ok (.goto 4, 3) := by decide +kernel
theorem dX3_isAtEnd_38 : decode cX3_isAtEnd 38 = .ok (.iconst 0, 1) := by decide +kernel
theorem dX3_isAtEnd_39 : decode cX3_isAtEnd 39 = .ok (.ireturn, 1) := by decide +kernel
theorem dX3_readTerms_0 : decode cX3_readTerms 0 = .ok (.iconst 1, 1) := by decide +kernel
theorem dX3_readTerms_1 : decode cX3_readTerms 1 = .ok (.istore 4, 2) := by decide +kernel
theorem dX3_readTerms_3 : decode cX3_readTerms 3 = .ok (.iconst 0, 1) := by decide +kernel
theorem dX3_readTerms_4 : decode cX3_readTerms 4 = .ok (.istore 5, 2) := by decide +kernel
theorem dX3_readTerms_6 : decode cX3_readTerms 6 = .ok (.iload 4, 2) := by decide +kernel
theorem dX3_readTerms_8 : decode cX3_readTerms 8 = .ok (.ifCond .eq 48, 3) := by decide +kernel
theorem dX3_readTerms_11 : decode cX3_readTerms 11 = .ok (.iload 5, 2) := by decide +kernel
theorem dX3_readTerms_13 : decode cX3_readTerms 13 = .ok (.iconst 3, 1) := by decide +kernel
theorem dX3_readTerms_14 : decode cX3_readTerms 14 = .ok (.if_icmp .gt 42, 3) := by decide +kernel
theorem dX3_readTerms_17 : decode cX3_readTerms 17 = .ok (.aload_n 0, 1) := by decide +kernel
theorem dX3_readTerms_18 : decode cX3_readTerms 18 = .ok (.aload_n 1, 1) := by decide +kernel
theorem dX3_readTerms_19 : decode cX3_readTerms 19 = .ok (.aload_n 2, 1) := by decide +kernel
theorem dX3_readTerms_20 : decode cX3_readTerms 20 = .ok (.invokevirtual 147, 3) := by decide +kernel
theorem dX3_readTerms_23 : decode cX3_readTerms 23 = .ok (.ifCond .ne 5, 3) := by decide +kernel
theorem dX3_readTerms_26 : decode cX3_readTerms 26 = .ok (.iconst 0, 1) := by decide +kernel
theorem dX3_readTerms_27 : decode cX3_readTerms 27 = .ok (.ireturn, 1) := by decide +kernel
theorem dX3_readTerms_28 : decode cX3_readTerms 28 = .ok (.aload_n 0, 1) := by decide +kernel
theorem dX3_readTerms_29 : decode cX3_readTerms 29 = .ok (.getfield 18, 3) := by decide +kernel
theorem dX3_readTerms_32 : decode cX3_readTerms 32 = .ok (.iload_n 3, 1) := by decide +kernel
theorem dX3_readTerms_33 : decode cX3_readTerms 33 = .ok (.invokevirtual 123, 3) := by decide +kernel
theorem dX3_readTerms_36 : decode cX3_readTerms 36 = .ok (.istore 4, 2) := by decide +kernel
theorem dX3_readTerms_38 : decode cX3_readTerms 38 = .ok (.iload 4, 2) := by decide +kernel
theorem dX3_readTerms_40 : decode cX3_readTerms 40 = .ok (.ifCond .eq 10, 3) := by decide +kernel
theorem dX3_readTerms_43 : decode cX3_readTerms 43 = .ok (.aload_n 0, 1) := by decide +kernel
theorem dX3_readTerms_44 : decode cX3_readTerms 44 = .ok (.getfield 18, 3) := by decide +kernel
theorem dX3_readTerms_47 : decode cX3_readTerms 47 = .ok (.invokevirtual 88, 3) := by decide +kernel
theorem dX3_readTerms_50 : decode cX3_readTerms 50 = .ok (.iinc 5 1, 3) := by decide +kernel
theorem dX3_readTerms_53 : decode cX3_readTerms 53 = .ok (.goto (-47), 3) := by decide +kernel
theorem dX3_readTerms_56 : decode cX3_readTerms 56 = .ok (.iconst 1, 1) := by decide +kernel
theorem dX3_readTerms_57 : decode cX3_readTerms 57 = .ok (.ireturn, 1) := by decide +kernel
theorem dX3_readTerm_0 : decode cX3_readTerm 0 = .ok (.aload_n 0, 1) := by decide +kernel
theorem dX3_readTerm_1 : decode cX3_readTerm 1 = .ok (.getfield 18, 3) := by decide +kernel
theorem dX3_readTerm_4 : decode cX3_readTerm 4 = .ok (.getfield 144, 3) := by decide +kernel
theorem dX3_readTerm_7 : decode cX3_readTerm 7 = .ok (.iconst 1, 1) := by decide +kernel
theorem dX3_readTerm_8 : decode cX3_readTerm 8 = .ok (.if_icmp .eq 9, 3) := by decide +kernel
theorem dX3_readTerm_11 : decode cX3_readTerm 11 = .ok (.aload_n 0, 1) := by decide +kernel
theorem dX3_readTerm_12 : decode cX3_readTerm 12 = .ok (.iconst 1, 1) := by decide +kernel
theorem dX3_readTerm_13 : decode cX3_readTerm 13 = .ok (.invokevirtual 43, 3) := by decide +kernel
theorem dX3_readTerm_16 : decode cX3_readTerm 16 = .ok (.ireturn, 1) := by decide +kernel
theorem dX3_readTerm_17 : decode cX3_readTerm 17 = .ok (.aload_n 0, 1) := by decide +kernel
theorem dX3_readTerm_18 : decode cX3_readTerm 18 = .ok (.getfield 12, 3) := by decide +kernel
theorem dX3_readTerm_21 : decode cX3_readTerm 21 = .ok (.aload_n 0, 1) := by decide +kernel
theorem dX3_readTerm_22 : decode cX3_readTerm 22 = .ok (.getfield 18, 3) := by decide +kernel
theorem dX3_readTerm_25 : decode cX3_readTerm 25 = .ok (.getfield 107, 3) := by decide +kernel
theorem dX3_readTerm_28 : decode cX3_readTerm 28 = .ok (.invokevirtual 151, 3) := by decide +kernel
theorem dX3_readTerm_31 : decode cX3_readTerm 31 = .ok (.istore_n 3, 1) := by decide +kernel
theorem dX3_readTerm_32 : decode cX3_readTerm 32 = .ok (.iload_n 3, 1) := by decide +kernel
theorem dX3_readTerm_33 : decode cX3_readTerm 33 = .ok (.iconst (-1), 1) := by decide +kernel
theorem dX3_readTerm_34 : decode cX3_readTerm 34 = .ok (.if_icmp .ne 9, 3) := by decide +kernel
theorem dX3_readTerm_37 : decode cX3_readTerm 37 = .ok (.aload_n 0, 1) := by decide +kernel
theorem dX3_readTerm_38 : decode cX3_readTerm 38 = .ok (.iconst 2, 1) := by decide +kernel
theorem dX3_readTerm_39 : decode cX3_readTerm 39 = .ok (.invokevirtual 43, 3) := by decide +kernel
theorem dX3_readTerm_42 : decode cX3_readTerm 42 = .ok (.ireturn, 1) := by decide +kernel
theorem dX3_readTerm_43 : decode cX3_readTerm 43 = .ok (.aload_n 1, 1) := by decide +kernel
theorem dX3_readTerm_44 : decode cX3_readTerm 44 = .ok (.getfield 155, 3) := by decide +kernel
theorem dX3_readTerm_47 : decode cX3_readTerm 47 = .ok (.iconst 3, 1) := by decide +kernel
theorem dX3_readTerm_48 : decode cX3_readTerm 48 = .ok (.if_icmp .lt 9, 3) := by decide +kernel
theorem dX3_readTerm_51 : decode cX3_readTerm 51 = .ok (.aload_n 0, 1) := by decide +kernel
theorem dX3_readTerm_52 : decode cX3_readTerm 52 = .ok (.iconst 4, 1) := by decide +kernel
theorem dX3_readTerm_53 : decode cX3_readTerm 53 = .ok (.invokevirtual 43, 3) := by decide +kernel
theorem dX3_readTerm_56 : decode cX3_readTerm 56 = .ok (.ireturn, 1) := by decide +kernel
theorem dX3_readTerm_57 : decode cX3_readTerm 57 = .ok (.aload_n 0, 1) := by decide +kernel
theorem dX3_readTerm_58 : decode cX3_readTerm 58 = .ok (.getfield 18, 3) := by decide +kernel
theorem dX3_readTerm_61 : decode cX3_readTerm 61 = .ok (.invokevirtual 88, 3) := by decide +kernel
theorem dX3_readTerm_64 : decode cX3_readTerm 64 = .ok (.aload_n 0, 1) := by decide +kernel
theorem dX3_readTerm_65 : decode cX3_readTerm 65 = .ok (.getfield 18, 3) := by decide +kernel
theorem dX3_readTerm_68 : decode cX3_readTerm 68 = .ok (.getfield 144, 3) := by decide +kernel
theorem dX3_readTerm_71 : decode cX3_readTerm 71 = .ok (.iconst 3, 1) := by decide +kernel
theorem dX3_readTerm_72 : decode cX3_readTerm 72 = .ok (.if_icmp .ne 17, 3) := by decide +kernel
theorem dX3_readTerm_75 : decode cX3_readTerm 75 = .ok (.aload_n 2, 1) := by decide +kernel
theorem dX3_readTerm_76 : decode cX3_readTerm 76 = .ok (.aload_n 0, 1) := by decide +kernel
theorem dX3_readTerm_77 : decode cX3_readTerm 77 = .ok (.getfield 18, 3) := by decide +kernel
theorem dX3_readTerm_80 : decode cX3_readTerm 80 = .ok (.getfield 158, 3) := by decide +kernel
theorem dX3_readTerm_83 : decode cX3_readTerm 83 = .ok (.invokevirtual 162, 3) := by decide +kernel
theorem dX3_readTerm_86 : decode cX3_readTerm 86 = .ok (.ifCond .ge 9, 3) := by decide +kernel
theorem dX3_readTerm_89 : decode cX3_readTerm 89 = .ok (.aload_n 0, 1) := by decide +kernel
theorem dX3_readTerm_90 : decode cX3_readTerm 90 = .ok (.iconst 1, 1) := by decide +kernel
theorem dX3_readTerm_91 : decode cX3_readTerm 91 = .ok (.invokevirtual 43, 3) := by decide +kernel
theorem dX3_readTerm_94 : decode cX3_readTerm 94 = .ok (.ireturn, 1) := by decide +kernel
theorem dX3_readTerm_95 : decode cX3_readTerm 95 = .ok (.aload_n 2, 1) := by decide +kernel
theorem dX3_readTerm_96 : decode cX3_readTerm 96 = .ok (.aload_n 0, 1) := by decide +kernel
theorem dX3_readTerm_97 : decode cX3_readTerm 97 = .ok (.getfield 18, 3) := by decide +kernel
theorem dX3_readTerm_100 : decode cX3_readTerm 100 = .ok (.getfield 158, 3) := by decide +kernel
theorem dX3_readTerm_103 : decode cX3_readTerm 103 = .ok (.invokevirtual 162, 3) := by decide +kernel
theorem dX3_readTerm_106 : decode cX3_readTerm 106 = .ok (.iconst 1, 1) := by decide +kernel
theorem dX3_readTerm_107 : decode cX3_readTerm 107 = .ok (.isub, 1) := by decide +kernel
theorem dX3_readTerm_108 : decode cX3_readTerm 108 = .ok (.istore 4, 2) := by decide +kernel
theorem dX3_readTerm_110 : decode cX3_readTerm 110 = .ok (.aload_n 0, 1) := by decide +kernel
theorem dX3_readTerm_111 : decode cX3_readTerm 111 = .ok (.getfield 18, 3) := by decide +kernel
theorem dX3_readTerm_114 : decode cX3_readTerm 114 = .ok (.invokevirtual 88, 3) := by decide +kernel
theorem dX3_readTerm_117 : decode cX3_readTerm 117 = .ok (.aload_n 0, 1) := by decide +kernel
theorem dX3_readTerm_118 : decode cX3_readTerm 118 = .ok (.iconst 0, 1) := by decide +kernel
theorem dX3_readTerm_119 : decode cX3_readTerm 119 = .ok (.bipush 99, 2) := by decide +kernel
theorem dX3_readTerm_121 : decode cX3_readTerm 121 = .ok (.invokevirtual 91, 3) := by decide +kernel
theorem dX3_readTerm_124 : decode cX3_readTerm 124 = .ok (.ifCond .ne 5, 3) := by decide +kernel
theorem dX3_readTerm_127 : decode cX3_readTerm 127 = .ok (.iconst 0, 1) := by decide +kernel
theorem dX3_readTerm_128 : decode cX3_readTerm 128 = .ok (.ireturn, 1) := by decide +kernel
theorem dX3_readTerm_129 : decode cX3_readTerm 129 = .ok (.aload_n 1, 1) := by decide +kernel
theorem dX3_readTerm_130 : decode cX3_readTerm 130 = .ok (.iload_n 3, 1) := by decide +kernel
theorem dX3_readTerm_131 : decode cX3_readTerm 131 = .ok (.iload 4, 2) := by decide +kernel
theorem dX3_readTerm_133 : decode cX3_readTerm 133 = .ok (.aload_n 0, 1) := by decide +kernel
theorem dX3_readTerm_134 : decode cX3_readTerm 134 = .ok (.getfield 18, 3) := by decide +kernel
theorem dX3_readTerm_137 : decode cX3_readTerm 137 = .ok (.getfield 95, 3) := by decide +kernel
theorem dX3_readTerm_140 : decode cX3_readTerm 140 = .ok (.invokevirtual 167, 3) := by decide +kernel
theorem dX3_readTerm_143 : decode cX3_readTerm 143 = .ok (.aload_n 0, 1) := by decide +kernel
theorem dX3_readTerm_144 : decode cX3_readTerm 144 = .ok (.getfield 18, 3) := by decide +kernel
theorem dX3_readTerm_147 : decode cX3_readTerm 147 = .ok (.invokevirtual 88, 3) := by decide +kernel
theorem dX3_readTerm_150 : decode cX3_readTerm 150 = .ok (.iconst 1, 1) := by decide +kernel
theorem dX3_readTerm_151 : decode cX3_readTerm 151 = .ok (.ireturn, 1) := by decide +kernel
theorem dX3_isNewName_0 : decode cX3_isNewName 0 = .ok (.aload_n 0, 1) := by decide +kernel
theorem dX3_isNewName_1 : decode cX3_isNewName 1 = .ok (.getfield 18, 3) := by decide +kernel
theorem dX3_isNewName_4 : decode cX3_isNewName 4 = .ok (.getfield 144, 3) := by decide +kernel
theorem dX3_isNewName_7 : decode cX3_isNewName 7 = .ok (.iconst 1, 1) := by decide +kernel
theorem dX3_isNewName_8 : decode cX3_isNewName 8 = .ok (.if_icmp .eq 9, 3) := by decide +kernel
theorem dX3_isNewName_11 : decode cX3_isNewName 11 = .ok (.aload_n 0, 1) := by decide +kernel
theorem dX3_isNewName_12 : decode cX3_isNewName 12 = .ok (.iconst 1, 1) := by decide +kernel
theorem dX3_isNewName_13 : decode cX3_isNewName 13 = .ok (.invokevirtual 43, 3) := by decide +kernel
theorem dX3_isNewName_16 : decode cX3_isNewName 16 = .ok (.ireturn, 1) := by decide +kernel
theorem dX3_isNewName_17 : decode cX3_isNewName 17 = .ok (.aload_n 0, 1) := by decide +kernel
theorem dX3_isNewName_18 : decode cX3_isNewName 18 = .ok (.getfield 12, 3) := by decide +kernel
theorem dX3_isNewName_21 : decode cX3_isNewName 21 = .ok (.aload_n 0, 1) := by decide +kernel
theorem dX3_isNewName_22 : decode cX3_isNewName 22 = .ok (.getfield 18, 3) := by decide +kernel
theorem dX3_isNewName_25 : decode cX3_isNewName 25 = .ok (.getfield 107, 3) := by decide +kernel
theorem dX3_isNewName_28 : decode cX3_isNewName 28 = .ok (.invokevirtual 151, 3) := by decide +kernel
theorem dX3_isNewName_31 : decode cX3_isNewName 31 = .ok (.iconst (-1), 1) := by decide +kernel
theorem dX3_isNewName_32 : decode cX3_isNewName 32 = .ok (.if_icmp .eq 11, 3) := by decide +kernel
theorem dX3_isNewName_35 : decode cX3_isNewName 35 = .ok (.aload_n 0, 1) := by decide +kernel
theorem dX3_isNewName_36 : decode cX3_isNewName 36 = .ok (.iconst 2, 1) := by decide +kernel
theorem dX3_isNewName_37 : decode cX3_isNewName 37 = .ok (.invokevirtual 43, 3) := by decide +kernel
theorem dX3_isNewName_40 : decode cX3_isNewName 40 = .ok (.ifCond .eq 7, 3) := by decide +kernel
theorem dX3_isNewName_43 : decode cX3_isNewName 43 = .ok (.iconst 1, 1) := by decide +kernel
theorem dX3_isNewName_44 : decode cX3_isNewName 44 = .ok (.goto 4, 3) := by decide +kernel
theorem dX3_isNewName_47 : decode cX3_isNewName 47 = .ok (.iconst 0, 1) := by decide +kernel
theorem dX3_isNewName_48 : decode cX3_isNewName 48 = .ok (.ireturn, 1) := by decide +kernel
theorem dX3_isNumber_0 : decode cX3_isNumber 0 = .ok (.aload_n 0, 1) := by decide +kernel
theorem dX3_isNumber_1 : decode cX3_isNumber 1 = .ok (.getfield 18, 3) := by decide +kernel
theorem dX3_isNumber_4 : decode cX3_isNumber 4 = .ok (.getfield 144, 3) := by decide +kernel
theorem dX3_isNumber_7 : decode cX3_isNumber 7 = .ok (.iconst 2, 1) := by decide +kernel
theorem dX3_isNumber_8 : decode cX3_isNumber 8 = .ok (.if_icmp .eq 9, 3) := by decide +kernel
theorem dX3_isNumber_11 : decode cX3_isNumber 11 = .ok (.aload_n 0, 1) := by decide +kernel
theorem dX3_isNumber_12 : decode cX3_isNumber 12 = .ok (.iconst 1, 1) := by decide +kernel
theorem dX3_isNumber_13 : decode cX3_isNumber 13 = .ok (.invokevirtual 43, 3) := by decide +kernel
theorem dX3_isNumber_16 : decode cX3_isNumber 16 = .ok (.ireturn, 1) := by decide +kernel
theorem dX3_isNumber_17 : decode cX3_isNumber 17 = .ok (.aload_n 0, 1) := by decide +kernel
theorem dX3_isNumber_18 : decode cX3_isNumber 18 = .ok (.getfield 18, 3) := by decide +kernel
theorem dX3_isNumber_21 : decode cX3_isNumber 21 = .ok (.getfield 95, 3) := by decide +kernel
theorem dX3_isNumber_24 : decode cX3_isNumber 24 = .ok (.iload_n 1, 1) := by decide +kernel
theorem dX3_isNumber_25 : decode cX3_isNumber 25 = .ok (.if_icmp .lt 14, 3) := by decide +kernel
theorem dX3_isNumber_28 : decode cX3_isNumber 28 = .ok (.aload_n 0, 1) := by decide +kernel
theorem dX3_isNumber_29 : decode cX3_isNumber 29 = .ok (.getfield 18, 3) := by decide +kernel
theorem dX3_isNumber_32 : decode cX3_isNumber 32 = .ok (.getfield 95, 3) := by decide +kernel
theorem dX3_isNumber_35 : decode cX3_isNumber 35 = .ok (.iload_n 2, 1) := by decide +kernel
theorem dX3_isNumber_36 : decode cX3_isNumber 36 = .ok (.if_icmp .le 11, 3) := by decide +kernel
theorem dX3_isNumber_39 : decode cX3_isNumber 39 = .ok (.aload_n 0, 1) := by decide +kernel
theorem dX3_isNumber_40 : decode cX3_isNumber 40 = .ok (.iconst 3, 1) := by decide +kernel
theorem dX3_isNumber_41 : decode cX3_isNumber 41 = .ok (.invokevirtual 43, 3) := by decide +kernel
theorem dX3_isNumber_44 : decode cX3_isNumber 44 = .ok (.ifCond .eq 7, 3) := by decide +kernel
theorem dX3_isNumber_47 : decode cX3_isNumber 47 = .ok (.iconst 1, 1) := by decide +kernel
theorem dX3_isNumber_48 : decode cX3_isNumber 48 = .ok (.goto 4, 3) := by decide +kernel
theorem dX3_isNumber_51 : decode cX3_isNumber 51 = .ok (.iconst 0, 1) := by decide +kernel
theorem dX3_isNumber_52 : decode cX3_isNumber 52 = .ok (.ireturn, 1) := by decide +kernel
theorem dX3_passes_0 : decode cX3_passes 0 = .ok (.aload_n 0, 1) := by decide +kernel
theorem dX3_passes_1 : decode cX3_passes 1 = .ok (.getfield 18, 3) := by decide +kernel
theorem dX3_passes_4 : decode cX3_passes 4 = .ok (.iload_n 1, 1) := by decide +kernel
theorem dX3_passes_5 : decode cX3_passes 5 = .ok (.invokevirtual 123, 3) := by decide +kernel
theorem dX3_passes_8 : decode cX3_passes 8 = .ok (.ifCond .ne 9, 3) := by decide +kernel
theorem dX3_passes_11 : decode cX3_passes 11 = .ok (.aload_n 0, 1) := by decide +kernel
theorem dX3_passes_12 : decode cX3_passes 12 = .ok (.iconst 1, 1) := by decide +kernel
theorem dX3_passes_13 : decode cX3_passes 13 = .ok (.invokevirtual 43, 3) := by decide +kernel
theorem dX3_passes_16 : decode cX3_passes 16 = .ok (.ireturn, 1) := by decide +kernel
theorem dX3_passes_17 : decode cX3_passes 17 = .ok (.aload_n 0, 1) := by decide +kernel
theorem dX3_passes_18 : decode cX3_passes 18 = .ok (.getfield 18, 3) := by decide +kernel
theorem dX3_passes_21 : decode cX3_passes 21 = .ok (.invokevirtual 88, 3) := by decide +kernel
theorem dX3_passes_24 : decode cX3_passes 24 = .ok (.iconst 1, 1) := by decide +kernel
theorem dX3_passes_25 : decode cX3_passes 25 = .ok (.ireturn, 1) := by decide +kernel
theorem dX4_init_0 : decode cX4_init 0 = .ok (.aload_n 0, 1) := by decide +kernel
theorem dX4_init_1 : decode cX4_init 1 = .ok (.invokespecial 1, 3) := by decide +kernel
theorem dX4_init_4 : decode cX4_init 4 = .ok (.aload_n 0, 1) := by decide +kernel
theorem dX4_init_5 : decode cX4_init 5 = .ok (.sipush 1000, 3) := by decide +kernel
theorem dX4_init_8 : decode cX4_init 8 = .ok (.newarray .long, 2) := by decide +kernel
theorem dX4_init_10 : decode cX4_init 10 = .ok (.putfield 9, 3) := by decide +kernel
theorem dX4_init_13 : decode cX4_init 13 = .ok (.aload_n 0, 1) := by decide +kernel
theorem dX4_init_14 : decode cX4_init 14 = .ok (.sipush 1000, 3) := by decide +kernel
theorem dX4_init_17 : decode cX4_init 17 = .ok (.newarray .long, 2) := by decide +kernel
theorem dX4_init_19 : decode cX4_init 19 = .ok (.putfield 15, 3) := by decide +kernel
theorem dX4_init_22 : decode cX4_init 22 = .ok (.aload_n 0, 1) := by decide +kernel
theorem dX4_init_23 : decode cX4_init 23 = .ok (.sipush 1000, 3) := by decide +kernel
theorem dX4_init_26 : decode cX4_init 26 = .ok (.newarray .boolean, 2) := by decide +kernel
theorem dX4_init_28 : decode cX4_init 28 = .ok (.putfield 18, 3) := by decide +kernel
theorem dX4_init_31 : decode cX4_init 31 = .ok (.aload_n 0, 1) := by decide +kernel
theorem dX4_init_32 : decode cX4_init 32 = .ok (.sipush 1000, 3) := by decide +kernel
theorem dX4_init_35 : decode cX4_init 35 = .ok (.newarray .int, 2) := by decide +kernel
theorem dX4_init_37 : decode cX4_init 37 = .ok (.putfield 22, 3) := by decide +kernel
theorem dX4_init_40 : decode cX4_init 40 = .ok (.aload_n 0, 1) := by decide +kernel
theorem dX4_init_41 : decode cX4_init 41 = .ok (.aload_n 1, 1) := by decide +kernel
theorem dX4_init_42 : decode cX4_init 42 = .ok (.putfield 26, 3) := by decide +kernel
theorem dX4_init_45 : decode cX4_init 45 = .ok (.return_, 1) := by decide +kernel
theorem dX4_holding_0 : decode cX4_holding 0 = .ok (.aload_n 0, 1) := by decide +kernel
theorem dX4_holding_1 : decode cX4_holding 1 = .ok (.iload_n 1, 1) := by decide +kernel
theorem dX4_holding_2 : decode cX4_holding 2 = .ok (.iload_n 2, 1) := by decide +kernel
theorem dX4_holding_3 : decode cX4_holding 3 = .ok (.invokevirtual 30, 3) := by decide +kernel
theorem dX4_holding_6 : decode cX4_holding 6 = .ok (.aload_n 0, 1) := by decide +kernel
theorem dX4_holding_7 : decode cX4_holding 7 = .ok (.invokevirtual 34, 3) := by decide +kernel
theorem dX4_holding_10 : decode cX4_holding 10 = .ok (.istore_n 3, 1) := by decide +kernel
theorem dX4_holding_11 : decode cX4_holding 11 = .ok (.lconst 0, 1) := by decide +kernel
theorem dX4_holding_12 : decode cX4_holding 12 = .ok (.lstore 4, 2) := by decide +kernel
theorem dX4_holding_14 : decode cX4_holding 14 = .ok (.iconst 0, 1) := by decide +kernel
theorem dX4_holding_15 : decode cX4_holding 15 = .ok (.istore 6, 2) := by decide +kernel
theorem dX4_holding_17 : decode cX4_holding 17 = .ok (.iload 6, 2) := by decide +kernel
theorem dX4_holding_19 : decode cX4_holding 19 = .ok (.iload_n 3, 1) := by decide +kernel
theorem dX4_holding_20 : decode cX4_holding 20 = .ok (.if_icmp .ge 46, 3) := by decide +kernel
theorem dX4_holding_23 : decode cX4_holding 23 = .ok (.aload_n 0, 1) := by decide +kernel
theorem dX4_holding_24 : decode cX4_holding 24 = .ok (.getfield 9, 3) := by decide +kernel
theorem dX4_holding_27 : decode cX4_holding 27 = .ok (.iload 6, 2) := by decide +kernel
theorem dX4_holding_29 : decode cX4_holding 29 = .ok (.laload, 1) := by decide +kernel
theorem dX4_holding_30 : decode cX4_holding 30 = .ok (.lconst 0, 1) := by decide +kernel
theorem dX4_holding_31 : decode cX4_holding 31 = .ok (.lcmp, 1) := by decide +kernel
theorem dX4_holding_32 : decode cX4_holding 32 = .ok (.ifCond .eq 28, 3) := by decide +kernel
theorem dX4_holding_35 : decode cX4_holding 35 = .ok (.aload_n 0, 1) := by decide +kernel
theorem dX4_holding_36 : decode cX4_holding 36 = .ok (.getfield 26, 3) := by decide +kernel
theorem dX4_holding_39 : decode cX4_holding 39 = .ok (.iload 6, 2) := by decide +kernel
theorem dX4_holding_41 : decode cX4_holding 41 = .ok (.iload_n 1, 1) := by decide +kernel
theorem dX4_holding_42 : decode cX4_holding 42 = .ok (.invokevirtual 38, 3) := by decide +kernel
theorem dX4_holding_45 : decode cX4_holding 45 = .ok (.ifCond .eq 15, 3) := by decide +kernel
theorem dX4_holding_48 : decode cX4_holding 48 = .ok (.lload 4, 2) := by decide +kernel
theorem dX4_holding_50 : decode cX4_holding 50 = .ok (.aload_n 0, 1) := by decide +kernel
theorem dX4_holding_51 : decode cX4_holding 51 = .ok (.getfield 9, 3) := by decide +kernel
theorem dX4_holding_54 : decode cX4_holding 54 = .ok (.iload 6, 2) := by decide +kernel
theorem dX4_holding_56 : decode cX4_holding 56 = .ok (.laload, 1) := by decide +kernel
theorem dX4_holding_57 : decode cX4_holding 57 = .ok (.ladd, 1) := by decide +kernel
theorem dX4_holding_58 : decode cX4_holding 58 = .ok (.lstore 4, 2) := by decide +kernel
theorem dX4_holding_60 : decode cX4_holding 60 = .ok (.iinc 6 1, 3) := by decide +kernel
theorem dX4_holding_63 : decode cX4_holding 63 = .ok (.goto (-46), 3) := by decide +kernel
theorem dX4_holding_66 : decode cX4_holding 66 = .ok (.lload 4, 2) := by decide +kernel
theorem dX4_holding_68 : decode cX4_holding 68 = .ok (.lreturn, 1) := by decide +kernel
theorem dX4_total_0 : decode cX4_total 0 = .ok (.aload_n 0, 1) := by decide +kernel
theorem dX4_total_1 : decode cX4_total 1 = .ok (.iconst (-1), 1) := by decide +kernel
theorem dX4_total_2 : decode cX4_total 2 = .ok (.iload_n 2, 1) := by decide +kernel
theorem dX4_total_3 : decode cX4_total 3 = .ok (.invokevirtual 30, 3) := by decide +kernel
theorem dX4_total_6 : decode cX4_total 6 = .ok (.aload_n 0, 1) := by decide +kernel
theorem dX4_total_7 : decode cX4_total 7 = .ok (.invokevirtual 34, 3) := by decide +kernel
theorem dX4_total_10 : decode cX4_total 10 = .ok (.istore_n 3, 1) := by decide +kernel
theorem dX4_total_11 : decode cX4_total 11 = .ok (.lconst 0, 1) := by decide +kernel
theorem dX4_total_12 : decode cX4_total 12 = .ok (.lstore 4, 2) := by decide +kernel
theorem dX4_total_14 : decode cX4_total 14 = .ok (.iconst 0, 1) := by decide +kernel
theorem dX4_total_15 : decode cX4_total 15 = .ok (.istore 6, 2) := by decide +kernel
theorem dX4_total_17 : decode cX4_total 17 = .ok (.iload 6, 2) := by decide +kernel
theorem dX4_total_19 : decode cX4_total 19 = .ok (.iload_n 3, 1) := by decide +kernel
theorem dX4_total_20 : decode cX4_total 20 = .ok (.if_icmp .ge 48, 3) := by decide +kernel
theorem dX4_total_23 : decode cX4_total 23 = .ok (.aload_n 0, 1) := by decide +kernel
theorem dX4_total_24 : decode cX4_total 24 = .ok (.getfield 9, 3) := by decide +kernel
theorem dX4_total_27 : decode cX4_total 27 = .ok (.iload 6, 2) := by decide +kernel
theorem dX4_total_29 : decode cX4_total 29 = .ok (.laload, 1) := by decide +kernel
theorem dX4_total_30 : decode cX4_total 30 = .ok (.lconst 0, 1) := by decide +kernel
theorem dX4_total_31 : decode cX4_total 31 = .ok (.lcmp, 1) := by decide +kernel
theorem dX4_total_32 : decode cX4_total 32 = .ok (.ifCond .eq 30, 3) := by decide +kernel
theorem dX4_total_35 : decode cX4_total 35 = .ok (.lload 4, 2) := by decide +kernel
theorem dX4_total_37 : decode cX4_total 37 = .ok (.aload_n 0, 1) := by decide +kernel
theorem dX4_total_38 : decode cX4_total 38 = .ok (.getfield 9, 3) := by decide +kernel
theorem dX4_total_41 : decode cX4_total 41 = .ok (.iload 6, 2) := by decide +kernel
theorem dX4_total_43 : decode cX4_total 43 = .ok (.laload, 1) := by decide +kernel
theorem dX4_total_44 : decode cX4_total 44 = .ok (.aload_n 0, 1) := by decide +kernel
theorem dX4_total_45 : decode cX4_total 45 = .ok (.getfield 26, 3) := by decide +kernel
theorem dX4_total_48 : decode cX4_total 48 = .ok (.getfield 44, 3) := by decide +kernel
theorem dX4_total_51 : decode cX4_total 51 = .ok (.iload 6, 2) := by decide +kernel
theorem dX4_total_53 : decode cX4_total 53 = .ok (.iload_n 1, 1) := by decide +kernel
theorem dX4_total_54 : decode cX4_total 54 = .ok (.invokevirtual 48, 3) := by decide +kernel
theorem dX4_total_57 : decode cX4_total 57 = .ok (.i2l, 1) := by decide +kernel
theorem dX4_total_58 : decode cX4_total 58 = .ok (.lmul, 1) := by decide +kernel
theorem dX4_total_59 : decode cX4_total 59 = .ok (.ladd, 1) := by decide +kernel
theorem dX4_total_60 : decode cX4_total 60 = .ok (.lstore 4, 2) := by decide +kernel
theorem dX4_total_62 : decode cX4_total 62 = .ok (.iinc 6 1, 3) := by decide +kernel
theorem dX4_total_65 : decode cX4_total 65 = .ok (.goto (-48), 3) := by decide +kernel
theorem dX4_total_68 : decode cX4_total 68 = .ok (.lload 4, 2) := by decide +kernel
theorem dX4_total_70 : decode cX4_total 70 = .ok (.lreturn, 1) := by decide +kernel
theorem dX4_statesComeTo_0 : decode cX4_statesComeTo 0 = .ok (.iconst 0, 1) := by decide +kernel
theorem dX4_statesComeTo_1 : decode cX4_statesComeTo 1 = .ok (.istore_n 1, 1) := by decide +kernel
theorem dX4_statesComeTo_2 : decode cX4_statesComeTo 2 = .ok (.iload_n 1, 1) := by decide +kernel
theorem dX4_statesComeTo_3 : decode cX4_statesComeTo 3 = .ok (.sipush 1000, 3) := by decide +kernel
theorem dX4_statesComeTo_6 : decode cX4_statesComeTo 6 = .ok (.if_icmp .ge 16, 3) := by decide +kernel
theorem dX4_statesComeTo_9 : decode cX4_statesComeTo 9 = .ok (.aload_n 0, 1) := by decide +kernel
theorem dX4_statesComeTo_10 : decode cX4_statesComeTo 10 = .ok (.getfield 18, 3) := by decide +kernel
theorem dX4_statesComeTo_13 : decode cX4_statesComeTo 13 = .ok (.iload_n 1, 1) := by decide +kernel
theorem dX4_statesComeTo_14 : decode cX4_statesComeTo 14 = .ok (.iconst 0, 1) := by decide +kernel
theorem dX4_statesComeTo_15 : decode cX4_statesComeTo 15 = .ok (.bastore, 1) := by decide +kernel
theorem dX4_statesComeTo_16 : decode cX4_statesComeTo 16 = .ok (.iinc 1 1, 3) := by decide +kernel
theorem dX4_statesComeTo_19 : decode cX4_statesComeTo 19 = .ok (.goto (-17), 3) := by decide +kernel
theorem dX4_statesComeTo_22 : decode cX4_statesComeTo 22 = .ok (.aload_n 0, 1) := by decide +kernel
theorem dX4_statesComeTo_23 : decode cX4_statesComeTo 23 = .ok (.aload_n 0, 1) := by decide +kernel
theorem dX4_statesComeTo_24 : decode cX4_statesComeTo 24 = .ok (.getfield 26, 3) := by decide +kernel
theorem dX4_statesComeTo_27 : decode cX4_statesComeTo 27 = .ok (.invokevirtual 52, 3) := by decide +kernel
theorem dX4_statesComeTo_30 : decode cX4_statesComeTo 30 = .ok (.iconst 0, 1) := by decide +kernel
theorem dX4_statesComeTo_31 : decode cX4_statesComeTo 31 = .ok (.invokevirtual 55, 3) := by decide +kernel
theorem dX4_statesComeTo_34 : decode cX4_statesComeTo 34 = .ok (.istore_n 1, 1) := by decide +kernel
theorem dX4_statesComeTo_35 : decode cX4_statesComeTo 35 = .ok (.iconst 0, 1) := by decide +kernel
theorem dX4_statesComeTo_36 : decode cX4_statesComeTo 36 = .ok (.istore_n 2, 1) := by decide +kernel
theorem dX4_statesComeTo_37 : decode cX4_statesComeTo 37 = .ok (.iload_n 2, 1) := by decide +kernel
theorem dX4_statesComeTo_38 : decode cX4_statesComeTo 38 = .ok (.iload_n 1, 1) := by decide +kernel
theorem dX4_statesComeTo_39 : decode cX4_statesComeTo 39 = .ok (.if_icmp .ge 66, 3) := by decide +kernel
theorem dX4_statesComeTo_42 : decode cX4_statesComeTo 42 = .ok (.iload_n 2, 1) := by decide +kernel
theorem dX4_statesComeTo_43 : decode cX4_statesComeTo 43 = .ok (.sipush 1000, 3) := by decide +kernel
theorem dX4_statesComeTo_46 : decode cX4_statesComeTo 46 = .ok (.if_icmp .ge 59, 3) := by decide +kernel
theorem dX4_statesComeTo_49 : decode cX4_statesComeTo 49 = .ok (.aload_n 0, 1) := by decide +kernel
theorem dX4_statesComeTo_50 : decode cX4_statesComeTo 50 = .ok (.getfield 22, 3) := by decide +kernel
theorem dX4_statesComeTo_53 : decode cX4_statesComeTo 53 = .ok (.iload_n 2, 1) := by decide +kernel
theorem dX4_statesComeTo_54 : decode cX4_statesComeTo 54 = .ok (.iaload, 1) := by decide +kernel
theorem dX4_statesComeTo_55 : decode cX4_statesComeTo 55 = .ok (.istore_n 3, 1) := by decide +kernel
theorem dX4_statesComeTo_56 : decode cX4_statesComeTo 56 = .ok (.iconst 0, 1) := by decide +kernel
theorem dX4_statesComeTo_57 : decode cX4_statesComeTo 57 = .ok (.istore 4, 2) := by decide +kernel
theorem dX4_statesComeTo_59 : decode cX4_statesComeTo 59 = .ok (.iload 4, 2) := by decide +kernel
theorem dX4_statesComeTo_61 : decode cX4_statesComeTo 61 = .ok (.aload_n 0, 1) := by decide +kernel
theorem dX4_statesComeTo_62 : decode cX4_statesComeTo 62 = .ok (.getfield 26, 3) := by decide +kernel
theorem dX4_statesComeTo_65 : decode cX4_statesComeTo 65 = .ok (.getfield 44, 3) := by decide +kernel
theorem dX4_statesComeTo_68 : decode cX4_statesComeTo 68 = .ok (.getfield 58, 3) := by decide +kernel
theorem dX4_statesComeTo_71 : decode cX4_statesComeTo 71 = .ok (.if_icmp .ge 28, 3) := by decide +kernel
theorem dX4_statesComeTo_74 : decode cX4_statesComeTo 74 = .ok (.aload_n 0, 1) := by decide +kernel
theorem dX4_statesComeTo_75 : decode cX4_statesComeTo 75 = .ok (.aload_n 0, 1) := by decide +kernel
theorem dX4_statesComeTo_76 : decode cX4_statesComeTo 76 = .ok (.getfield 26, 3) := by decide +kernel
theorem dX4_statesComeTo_79 : decode cX4_statesComeTo 79 = .ok (.iload_n 3, 1) := by decide +kernel
theorem dX4_statesComeTo_80 : decode cX4_statesComeTo 80 = .ok (.iload 4, 2) := by decide +kernel
theorem dX4_statesComeTo_82 : decode cX4_statesComeTo 82 = .ok (.invokevirtual 62, 3) := by decide +kernel
theorem dX4_statesComeTo_85 : decode cX4_statesComeTo 85 = .ok (.invokestatic 65, 3) := by decide +kernel
theorem dX4_statesComeTo_88 : decode cX4_statesComeTo 88 = .ok (.iload_n 1, 1) := by decide +kernel
theorem dX4_statesComeTo_89 : decode cX4_statesComeTo 89 = .ok (.invokevirtual 55, 3) := by decide +kernel
theorem dX4_statesComeTo_92 : decode cX4_statesComeTo 92 = .ok (.istore_n 1, 1) := by decide +kernel
theorem dX4_statesComeTo_93 : decode cX4_statesComeTo 93 = .ok (.iinc 4 1, 3) := by decide +kernel
theorem dX4_statesComeTo_96 : decode cX4_statesComeTo 96 = .ok (.goto (-37), 3) := by decide +kernel
theorem dX4_statesComeTo_99 : decode cX4_statesComeTo 99 = .ok (.iinc 2 1, 3) := by decide +kernel
theorem dX4_statesComeTo_102 : decode cX4_statesComeTo 102 = .ok (.goto (-65), 3) := by decide +kernel
theorem dX4_statesComeTo_105 : decode cX4_statesComeTo 105 = .ok (.iload_n 1, 1) := by decide +kernel
theorem dX4_statesComeTo_106 : decode cX4_statesComeTo 106 = .ok (.ireturn, 1) := by decide +kernel
theorem dX4_see_0 : decode cX4_see 0 = .ok (.iload_n 1, 1) := by decide +kernel
theorem dX4_see_1 : decode cX4_see 1 = .ok (.ifCond .lt 26, 3) := by decide +kernel
theorem dX4_see_4 : decode cX4_see 4 = .ok (.iload_n 1, 1) := by decide +kernel
theorem dX4_see_5 : decode cX4_see 5 = .ok (.sipush 1000, 3) := by decide +kernel
theorem dX4_see_8 : decode cX4_see 8 = .ok (.if_icmp .ge 19, 3) := by decide +kernel
theorem dX4_see_11 : decode cX4_see 11 = .ok (.aload_n 0, 1) := by decide +kernel
theorem dX4_see_12 : decode cX4_see 12 = .ok (.getfield 18, 3) := by decide +kernel
theorem dX4_see_15 : decode cX4_see 15 = .ok (.iload_n 1, 1) := by decide +kernel
theorem dX4_see_16 : decode cX4_see 16 = .ok (.baload, 1) := by decide +kernel
theorem dX4_see_17 : decode cX4_see 17 = .ok (.ifCond .ne 10, 3) := by decide +kernel
theorem dX4_see_20 : decode cX4_see 20 = .ok (.iload_n 2, 1) := by decide +kernel
theorem dX4_see_21 : decode cX4_see 21 = .ok (.sipush 1000, 3) := by decide +kernel
theorem dX4_see_24 : decode cX4_see 24 = .ok (.if_icmp .lt 5, 3) := by decide +kernel
theorem dX4_see_27 : decode cX4_see 27 = .ok (.iload_n 2, 1) := by decide +kernel
theorem dX4_see_28 : decode cX4_see 28 = .ok (.ireturn, 1) := by decide +kernel
theorem dX4_see_29 : decode cX4_see 29 = .ok (.aload_n 0, 1) := by decide +kernel
theorem dX4_see_30 : decode cX4_see 30 = .ok (.getfield 18, 3) := by decide +kernel
theorem dX4_see_33 : decode cX4_see 33 = .ok (.iload_n 1, 1) := by decide +kernel
theorem dX4_see_34 : decode cX4_see 34 = .ok (.iconst 1, 1) := by decide +kernel
theorem dX4_see_35 : decode cX4_see 35 = .ok (.bastore, 1) := by decide +kernel
theorem dX4_see_36 : decode cX4_see 36 = .ok (.aload_n 0, 1) := by decide +kernel
theorem dX4_see_37 : decode cX4_see 37 = .ok (.getfield 22, 3) := by decide +kernel
theorem dX4_see_40 : decode cX4_see 40 = .ok (.iload_n 2, 1) := by decide +kernel
theorem dX4_see_41 : decode cX4_see 41 = .ok (.iload_n 1, 1) := by decide +kernel
theorem dX4_see_42 : decode cX4_see 42 = .ok (.iastore, 1) := by decide +kernel
theorem dX4_see_43 : decode cX4_see 43 = .ok (.iload_n 2, 1) := by decide +kernel
theorem dX4_see_44 : decode cX4_see 44 = .ok (.iconst 1, 1) := by decide +kernel
theorem dX4_see_45 : decode cX4_see 45 = .ok (.iadd, 1) := by decide +kernel
theorem dX4_see_46 : decode cX4_see 46 = .ok (.ireturn, 1) := by decide +kernel
theorem dX4_stateCount_0 : decode cX4_stateCount 0 = .ok (.aload_n 0, 1) := by decide +kernel
theorem dX4_stateCount_1 : decode cX4_stateCount 1 = .ok (.getfield 26, 3) := by decide +kernel
theorem dX4_stateCount_4 : decode cX4_stateCount 4 = .ok (.getfield 44, 3) := by decide +kernel
theorem dX4_stateCount_7 : decode cX4_stateCount 7 = .ok (.getfield 69, 3) := by decide +kernel
theorem dX4_stateCount_10 : decode cX4_stateCount 10 = .ok (.sipush 1000, 3) := by decide +kernel
theorem dX4_stateCount_13 : decode cX4_stateCount 13 = .ok (.invokestatic 72, 3) := by decide +kernel
theorem dX4_stateCount_16 : decode cX4_stateCount 16 = .ok (.ireturn, 1) := by decide +kernel
theorem dX4_spread_0 : decode cX4_spread 0 = .ok (.aload_n 0, 1) := by decide +kernel
theorem dX4_spread_1 : decode cX4_spread 1 = .ok (.invokevirtual 34, 3) := by decide +kernel
theorem dX4_spread_4 : decode cX4_spread 4 = .ok (.istore_n 3, 1) := by decide +kernel
theorem dX4_spread_5 : decode cX4_spread 5 = .ok (.aload_n 0, 1) := by decide +kernel
theorem dX4_spread_6 : decode cX4_spread 6 = .ok (.getfield 9, 3) := by decide +kernel
theorem dX4_spread_9 : decode cX4_spread 9 = .ok (.lconst 0, 1) := by decide +kernel
theorem dX4_spread_10 : decode cX4_spread 10 = .ok (.invokestatic 77, 3) := by decide +kernel
theorem dX4_spread_13 : decode cX4_spread 13 = .ok (.aload_n 0, 1) := by decide +kernel
theorem dX4_spread_14 : decode cX4_spread 14 = .ok (.getfield 15, 3) := by decide +kernel
theorem dX4_spread_17 : decode cX4_spread 17 = .ok (.lconst 0, 1) := by decide +kernel
theorem dX4_spread_18 : decode cX4_spread 18 = .ok (.invokestatic 77, 3) := by decide +kernel
theorem dX4_spread_21 : decode cX4_spread 21 = .ok (.aload_n 0, 1) := by decide +kernel
theorem dX4_spread_22 : decode cX4_spread 22 = .ok (.getfield 26, 3) := by decide +kernel
theorem dX4_spread_25 : decode cX4_spread 25 = .ok (.invokevirtual 52, 3) := by decide +kernel
theorem dX4_spread_28 : decode cX4_spread 28 = .ok (.istore 4, 2) := by decide +kernel
theorem dX4_spread_30 : decode cX4_spread 30 = .ok (.iload 4, 2) := by decide +kernel
theorem dX4_spread_32 : decode cX4_spread 32 = .ok (.ifCond .lt 19, 3) := by decide +kernel
theorem dX4_spread_35 : decode cX4_spread 35 = .ok (.iload 4, 2) := by decide +kernel
theorem dX4_spread_37 : decode cX4_spread 37 = .ok (.sipush 1000, 3) := by decide +kernel
theorem dX4_spread_40 : decode cX4_spread 40 = .ok (.if_icmp .ge 11, 3) := by decide +kernel
theorem dX4_spread_43 : decode cX4_spread 43 = .ok (.aload_n 0, 1) := by decide +kernel
theorem dX4_spread_44 : decode cX4_spread 44 = .ok (.getfield 9, 3) := by decide +kernel
theorem dX4_spread_47 : decode cX4_spread 47 = .ok (.iload 4, 2) := by decide +kernel
theorem dX4_spread_49 : decode cX4_spread 49 = .ok (.lconst 1, 1) := by decide +kernel
theorem dX4_spread_50 : decode cX4_spread 50 = .ok (.lastore, 1) := by decide +kernel
theorem dX4_spread_51 : decode cX4_spread 51 = .ok (.iconst 0, 1) := by decide +kernel
theorem dX4_spread_52 : decode cX4_spread 52 = .ok (.istore 5, 2) := by decide +kernel
theorem dX4_spread_54 : decode cX4_spread 54 = .ok (.iload 5, 2) := by decide +kernel
theorem dX4_spread_56 : decode cX4_spread 56 = .ok (.iload_n 2, 1) := by decide +kernel
theorem dX4_spread_57 : decode cX4_spread 57 = .ok (.if_icmp .ge 71, 3) := by decide +kernel
theorem dX4_spread_60 : decode cX4_spread 60 = .ok (.iconst 0, 1) := by decide +kernel
theorem dX4_spread_61 : decode cX4_spread 61 = .ok (.istore 6, 2) := by decide +kernel
theorem dX4_spread_63 : decode cX4_spread 63 = .ok (.iload 6, 2) := by decide +kernel
theorem dX4_spread_65 : decode cX4_spread 65 = .ok (.iload_n 3, 1) := by decide +kernel
theorem dX4_spread_66 : decode cX4_spread 66 = .ok (.if_icmp .ge 36, 3) := by decide +kernel
theorem dX4_spread_69 : decode cX4_spread 69 = .ok (.aload_n 0, 1) := by decide +kernel
theorem dX4_spread_70 : decode cX4_spread 70 = .ok (.getfield 9, 3) := by decide +kernel
theorem dX4_spread_73 : decode cX4_spread 73 = .ok (.iload 6, 2) := by decide +kernel
theorem dX4_spread_75 : decode cX4_spread 75 = .ok (.laload, 1) := by decide +kernel
theorem dX4_spread_76 : decode cX4_spread 76 = .ok (.lconst 0, 1) := by decide +kernel
theorem dX4_spread_77 : decode cX4_spread 77 = .ok (.lcmp, 1) := by decide +kernel
theorem dX4_spread_78 : decode cX4_spread 78 = .ok (.ifCond .eq 18, 3) := by decide +kernel
theorem dX4_spread_81 : decode cX4_spread 81 = .ok (.aload_n 0, 1) := by decide +kernel
theorem dX4_spread_82 : decode cX4_spread 82 = .ok (.iload 6, 2) := by decide +kernel
theorem dX4_spread_84 : decode cX4_spread 84 = .ok (.iload_n 1, 1) := by decide +kernel
theorem dX4_spread_85 : decode cX4_spread 85 = .ok (.invokevirtual 83, 3) := by decide +kernel
theorem dX4_spread_88 : decode cX4_spread 88 = .ok (.aload_n 0, 1) := by decide +kernel
theorem dX4_spread_89 : decode cX4_spread 89 = .ok (.getfield 9, 3) := by decide +kernel
theorem dX4_spread_92 : decode cX4_spread 92 = .ok (.iload 6, 2) := by decide +kernel
theorem dX4_spread_94 : decode cX4_spread 94 = .ok (.lconst 0, 1) := by decide +kernel
theorem dX4_spread_95 : decode cX4_spread 95 = .ok (.lastore, 1) := by decide +kernel
theorem dX4_spread_96 : decode cX4_spread 96 = .ok (.iinc 6 1, 3) := by decide +kernel
theorem dX4_spread_99 : decode cX4_spread 99 = .ok (.goto (-36), 3) := by decide +kernel
theorem dX4_spread_102 : decode cX4_spread 102 = .ok (.aload_n 0, 1) := by decide +kernel
theorem dX4_spread_103 : decode cX4_spread 103 = .ok (.getfield 9, 3) := by decide +kernel
theorem dX4_spread_106 : decode cX4_spread 106 = .ok (.astore 6, 2) := by decide +kernel
theorem dX4_spread_108 : decode cX4_spread 108 = .ok (.aload_n 0, 1) := by decide +kernel
theorem dX4_spread_109 : decode cX4_spread 109 = .ok (.aload_n 0, 1) := by decide +kernel
theorem dX4_spread_110 : decode cX4_spread 110 = .ok (.getfield 15, 3) := by decide +kernel
theorem dX4_spread_113 : decode cX4_spread 113 = .ok (.putfield 9, 3) := by decide +kernel
theorem dX4_spread_116 : decode cX4_spread 116 = .ok (.aload_n 0, 1) := by decide +kernel
theorem dX4_spread_117 : decode cX4_spread 117 = .ok (.aload 6, 2) := by decide +kernel
theorem dX4_spread_119 : decode cX4_spread 119 = .ok (.putfield 15, 3) := by decide +kernel
theorem dX4_spread_122 : decode cX4_spread 122 = .ok (.iinc 5 1, 3) := by decide +kernel
theorem dX4_spread_125 : decode cX4_spread 125 = .ok (.goto (-71), 3) := by decide +kernel
theorem dX4_spread_128 : decode cX4_spread 128 = .ok (.return_, 1) := by decide +kernel
theorem dX4_spreadFrom_0 : decode cX4_spreadFrom 0 = .ok (.aload_n 0, 1) := by decide +kernel
theorem dX4_spreadFrom_1 : decode cX4_spreadFrom 1 = .ok (.getfield 26, 3) := by decide +kernel
theorem dX4_spreadFrom_4 : decode cX4_spreadFrom 4 = .ok (.getfield 44, 3) := by decide +kernel
theorem dX4_spreadFrom_7 : decode cX4_spreadFrom 7 = .ok (.getfield 58, 3) := by decide +kernel
theorem dX4_spreadFrom_10 : decode cX4_spreadFrom 10 = .ok (.istore_n 3, 1) := by decide +kernel
theorem dX4_spreadFrom_11 : decode cX4_spreadFrom 11 = .ok (.aload_n 0, 1) := by decide +kernel
theorem dX4_spreadFrom_12 : decode cX4_spreadFrom 12 = .ok (.getfield 9, 3) := by decide +kernel
theorem dX4_spreadFrom_15 : decode cX4_spreadFrom 15 = .ok (.iload_n 1, 1) := by decide +kernel
theorem dX4_spreadFrom_16 : decode cX4_spreadFrom 16 = .ok (.laload, 1) := by decide +kernel
theorem dX4_spreadFrom_17 : decode cX4_spreadFrom 17 = .ok (.lstore 4, 2) := by decide +kernel
theorem dX4_spreadFrom_19 : decode cX4_spreadFrom 19 = .ok (.iload_n 2, 1) := by decide +kernel
theorem dX4_spreadFrom_20 : decode cX4_spreadFrom 20 = .ok (.iconst (-1), 1) := by decide +kernel
theorem dX4_spreadFrom_21 : decode cX4_spreadFrom 21 = .ok (.if_icmp .eq 30, 3) := by decide +kernel
theorem dX4_spreadFrom_24 : decode cX4_spreadFrom 24 = .ok (.aload_n 0, 1) := by decide +kernel
theorem dX4_spreadFrom_25 : decode cX4_spreadFrom 25 = .ok (.getfield 26, 3) := by decide +kernel
theorem dX4_spreadFrom_28 : decode cX4_spreadFrom 28 = .ok (.iload_n 1, 1) := by decide +kernel
theorem dX4_spreadFrom_29 : decode cX4_spreadFrom 29 = .ok (.iload_n 2, 1) := by decide +kernel
theorem dX4_spreadFrom_30 : decode cX4_spreadFrom 30 = .ok (.invokevirtual 38, 3) := by decide +kernel
theorem dX4_spreadFrom_33 : decode cX4_spreadFrom 33 = .ok (.ifCond .eq 18, 3) := by decide +kernel
theorem dX4_spreadFrom_36 : decode cX4_spreadFrom 36 = .ok (.aload_n 0, 1) := by decide +kernel
theorem dX4_spreadFrom_37 : decode cX4_spreadFrom 37 = .ok (.getfield 15, 3) := by decide +kernel
theorem dX4_spreadFrom_40 : decode cX4_spreadFrom 40 = .ok (.iload_n 1, 1) := by decide +kernel
theorem dX4_spreadFrom_41 : decode cX4_spreadFrom 41 = .ok (.dup2, 1) := by decide +kernel
theorem dX4_spreadFrom_42 : decode cX4_spreadFrom 42 = .ok (.laload, 1) := by decide +kernel
theorem dX4_spreadFrom_43 : decode cX4_spreadFrom 43 = .ok (.lload 4, 2) := by decide +kernel
theorem dX4_spreadFrom_45 : decode cX4_spreadFrom 45 = .ok (.iload_n 3, 1) := by decide +kernel
theorem dX4_spreadFrom_46 : decode cX4_spreadFrom 46 = .ok (.i2l, 1) := by decide +kernel
theorem dX4_spreadFrom_47 : decode cX4_spreadFrom 47 = .ok (.lmul, 1) := by decide +kernel
theorem dX4_spreadFrom_48 : decode cX4_spreadFrom 48 = .ok (.ladd, 1) := by decide +kernel
theorem dX4_spreadFrom_49 : decode cX4_spreadFrom 49 = .ok (.lastore, 1) := by decide +kernel
theorem dX4_spreadFrom_50 : decode cX4_spreadFrom 50 = .ok (.return_, 1) := by decide +kernel
theorem dX4_spreadFrom_51 : decode cX4_spreadFrom 51 = .ok (.iconst 0, 1) := by decide +kernel
theorem dX4_spreadFrom_52 : decode cX4_spreadFrom 52 = .ok (.istore 6, 2) := by decide +kernel
theorem dX4_spreadFrom_54 : decode cX4_spreadFrom 54 = .ok (.iload 6, 2) := by decide +kernel
theorem dX4_spreadFrom_56 : decode cX4_spreadFrom 56 = .ok (.iload_n 3, 1) := by decide +kernel
theorem dX4_spreadFrom_57 : decode cX4_spreadFrom 57 = .ok (.if_icmp .ge 49, 3) := by decide +kernel
theorem dX4_spreadFrom_60 : decode cX4_spreadFrom 60 = .ok (.aload_n 0, 1) := by decide +kernel
theorem dX4_spreadFrom_61 : decode cX4_spreadFrom 61 = .ok (.getfield 26, 3) := by decide +kernel
theorem dX4_spreadFrom_64 : decode cX4_spreadFrom 64 = .ok (.iload_n 1, 1) := by decide +kernel
theorem dX4_spreadFrom_65 : decode cX4_spreadFrom 65 = .ok (.iload 6, 2) := by decide +kernel
theorem dX4_spreadFrom_67 : decode cX4_spreadFrom 67 = .ok (.invokevirtual 62, 3) := by decide +kernel
theorem dX4_spreadFrom_70 : decode cX4_spreadFrom 70 = .ok (.invokestatic 65, 3) := by decide +kernel
theorem dX4_spreadFrom_73 : decode cX4_spreadFrom 73 = .ok (.istore 7, 2) := by decide +kernel
theorem dX4_spreadFrom_75 : decode cX4_spreadFrom 75 = .ok (.iload 7, 2) := by decide +kernel
theorem dX4_spreadFrom_77 : decode cX4_spreadFrom 77 = .ok (.ifCond .lt 23, 3) := by decide +kernel
theorem dX4_spreadFrom_80 : decode cX4_spreadFrom 80 = .ok (.iload 7, 2) := by decide +kernel
theorem dX4_spreadFrom_82 : decode cX4_spreadFrom 82 = .ok (.sipush 1000, 3) := by decide +kernel
theorem dX4_spreadFrom_85 : decode cX4_spreadFrom 85 = .ok (.if_icmp .ge 15, 3) := by decide +kernel
theorem dX4_spreadFrom_88 : decode cX4_spreadFrom 88 = .ok (.aload_n 0, 1) := by decide +kernel
theorem dX4_spreadFrom_89 : decode cX4_spreadFrom 89 = .ok (.getfield 15, 3) := by decide +kernel
theorem dX4_spreadFrom_92 : decode cX4_spreadFrom 92 = .ok (.iload 7, 2) := by decide +kernel
theorem dX4_spreadFrom_94 : decode cX4_spreadFrom 94 = .ok (.dup2, 1) := by decide +kernel
theorem dX4_spreadFrom_95 : decode cX4_spreadFrom 95 = .ok (.laload, 1) := by decide +kernel
theorem dX4_spreadFrom_96 : decode cX4_spreadFrom 96 = .ok (.lload 4, 2) := by decide +kernel
theorem dX4_spreadFrom_98 : decode cX4_spreadFrom 98 = .ok (.ladd, 1) := by decide +kernel
theorem dX4_spreadFrom_99 : decode cX4_spreadFrom 99 = .ok (.lastore, 1) := by decide +kernel
theorem dX4_spreadFrom_100 : decode cX4_spreadFrom 100 = .ok (.iinc 6 1, 3) := by decide +kernel
theorem dX4_spreadFrom_103 : decode cX4_spreadFrom 103 = .ok (.goto (-49), 3) := by decide +kernel
theorem dX4_spreadFrom_106 : decode cX4_spreadFrom 106 = .ok (.return_, 1) := by decide +kernel
theorem dX5_init_0 : decode cX5_init 0 = .ok (.aload_n 0, 1) := by decide +kernel
theorem dX5_init_1 : decode cX5_init 1 = .ok (.invokespecial 1, 3) := by decide +kernel
theorem dX5_init_4 : decode cX5_init 4 = .ok (.aload_n 0, 1) := by decide +kernel
theorem dX5_init_5 : decode cX5_init 5 = .ok (.new 7, 3) := by decide +kernel
theorem dX5_init_8 : decode cX5_init 8 = .ok (.dup, 1) := by decide +kernel
theorem dX5_init_9 : decode cX5_init 9 = .ok (.invokespecial 9, 3) := by decide +kernel
theorem dX5_init_12 : decode cX5_init 12 = .ok (.putfield 10, 3) := by decide +kernel
theorem dX5_init_15 : decode cX5_init 15 = .ok (.aload_n 0, 1) := by decide +kernel
theorem dX5_init_16 : decode cX5_init 16 = .ok (.new 7, 3) := by decide +kernel
theorem dX5_init_19 : decode cX5_init 19 = .ok (.dup, 1) := by decide +kernel
theorem dX5_init_20 : decode cX5_init 20 = .ok (.invokespecial 9, 3) := by decide +kernel
theorem dX5_init_23 : decode cX5_init 23 = .ok (.putfield 16, 3) := by decide +kernel
theorem dX5_init_26 : decode cX5_init 26 = .ok (.return_, 1) := by decide +kernel
theorem dX5_clear_0 : decode cX5_clear 0 = .ok (.aload_n 0, 1) := by decide +kernel
theorem dX5_clear_1 : decode cX5_clear 1 = .ok (.iconst 0, 1) := by decide +kernel
theorem dX5_clear_2 : decode cX5_clear 2 = .ok (.putfield 19, 3) := by decide +kernel
theorem dX5_clear_5 : decode cX5_clear 5 = .ok (.aload_n 0, 1) := by decide +kernel
theorem dX5_clear_6 : decode cX5_clear 6 = .ok (.getfield 10, 3) := by decide +kernel
theorem dX5_clear_9 : decode cX5_clear 9 = .ok (.invokevirtual 23, 3) := by decide +kernel
theorem dX5_clear_12 : decode cX5_clear 12 = .ok (.aload_n 0, 1) := by decide +kernel
theorem dX5_clear_13 : decode cX5_clear 13 = .ok (.getfield 16, 3) := by decide +kernel
theorem dX5_clear_16 : decode cX5_clear 16 = .ok (.invokevirtual 23, 3) := by decide +kernel
theorem dX5_clear_19 : decode cX5_clear 19 = .ok (.return_, 1) := by decide +kernel
theorem dX6_init_0 : decode cX6_init 0 = .ok (.aload_n 0, 1) := by decide +kernel
theorem dX6_init_1 : decode cX6_init 1 = .ok (.invokespecial 3, 3) := by decide +kernel
theorem dX6_init_4 : decode cX6_init 4 = .ok (.aload_n 0, 1) := by decide +kernel
theorem dX6_init_5 : decode cX6_init 5 = .ok (.bipush 6, 2) := by decide +kernel
theorem dX6_init_7 : decode cX6_init 7 = .ok (.newarray .int, 2) := by decide +kernel
theorem dX6_init_9 : decode cX6_init 9 = .ok (.putfield 11, 3) := by decide +kernel
theorem dX6_init_12 : decode cX6_init 12 = .ok (.aload_n 0, 1) := by decide +kernel
theorem dX6_init_13 : decode cX6_init 13 = .ok (.bipush 6, 2) := by decide +kernel
theorem dX6_init_15 : decode cX6_init 15 = .ok (.newarray .int, 2) := by decide +kernel
theorem dX6_init_17 : decode cX6_init 17 = .ok (.putfield 15, 3) := by decide +kernel
theorem dX6_init_20 : decode cX6_init 20 = .ok (.aload_n 0, 1) := by decide +kernel
theorem dX6_init_21 : decode cX6_init 21 = .ok (.bipush 6, 2) := by decide +kernel
theorem dX6_init_23 : decode cX6_init 23 = .ok (.newarray .int, 2) := by decide +kernel
theorem dX6_init_25 : decode cX6_init 25 = .ok (.putfield 18, 3) := by decide +kernel
theorem dX6_init_28 : decode cX6_init 28 = .ok (.aload_n 0, 1) := by decide +kernel
theorem dX6_init_29 : decode cX6_init 29 = .ok (.aload_n 1, 1) := by decide +kernel
theorem dX6_init_30 : decode cX6_init 30 = .ok (.putfield 21, 3) := by decide +kernel
theorem dX6_init_33 : decode cX6_init 33 = .ok (.return_, 1) := by decide +kernel
theorem dX6_heldBy_0 : decode cX6_heldBy 0 = .ok (.aload_n 0, 1) := by decide +kernel
theorem dX6_heldBy_1 : decode cX6_heldBy 1 = .ok (.iload_n 1, 1) := by decide +kernel
theorem dX6_heldBy_2 : decode cX6_heldBy 2 = .ok (.putfield 25, 3) := by decide +kernel
theorem dX6_heldBy_5 : decode cX6_heldBy 5 = .ok (.aload_n 0, 1) := by decide +kernel
theorem dX6_heldBy_6 : decode cX6_heldBy 6 = .ok (.iload_n 3, 1) := by decide +kernel
theorem dX6_heldBy_7 : decode cX6_heldBy 7 = .ok (.putfield 29, 3) := by decide +kernel
theorem dX6_heldBy_10 : decode cX6_heldBy 10 = .ok (.aload_n 0, 1) := by decide +kernel
theorem dX6_heldBy_11 : decode cX6_heldBy 11 = .ok (.iload 4, 2) := by decide +kernel
theorem dX6_heldBy_13 : decode cX6_heldBy 13 = .ok (.iconst 5, 1) := by decide +kernel
theorem dX6_heldBy_14 : decode cX6_heldBy 14 = .ok (.invokestatic 32, 3) := by decide +kernel
theorem dX6_heldBy_17 : decode cX6_heldBy 17 = .ok (.putfield 38, 3) := by decide +kernel
theorem dX6_heldBy_20 : decode cX6_heldBy 20 = .ok (.aload_n 0, 1) := by decide +kernel
theorem dX6_heldBy_21 : decode cX6_heldBy 21 = .ok (.iload 5, 2) := by decide +kernel
theorem dX6_heldBy_23 : decode cX6_heldBy 23 = .ok (.putfield 41, 3) := by decide +kernel
theorem dX6_heldBy_26 : decode cX6_heldBy 26 = .ok (.aload_n 0, 1) := by decide +kernel
theorem dX6_heldBy_27 : decode cX6_heldBy 27 = .ok (.iconst 0, 1) := by decide +kernel
theorem dX6_heldBy_28 : decode cX6_heldBy 28 = .ok (.putfield 44, 3) := by decide +kernel
theorem dX6_heldBy_31 : decode cX6_heldBy 31 = .ok (.aload_n 0, 1) := by decide +kernel
theorem dX6_heldBy_32 : decode cX6_heldBy 32 = .ok (.iconst 0, 1) := by decide +kernel
theorem dX6_heldBy_33 : decode cX6_heldBy 33 = .ok (.putfield 47, 3) := by decide +kernel
theorem dX6_heldBy_36 : decode cX6_heldBy 36 = .ok (.aload_n 0, 1) := by decide +kernel
theorem dX6_heldBy_37 : decode cX6_heldBy 37 = .ok (.getfield 11, 3) := by decide +kernel
theorem dX6_heldBy_40 : decode cX6_heldBy 40 = .ok (.iconst 0, 1) := by decide +kernel
theorem dX6_heldBy_41 : decode cX6_heldBy 41 = .ok (.invokestatic 50, 3) := by decide +kernel
theorem dX6_heldBy_44 : decode cX6_heldBy 44 = .ok (.aload_n 0, 1) := by decide +kernel
theorem dX6_heldBy_45 : decode cX6_heldBy 45 = .ok (.iconst 0, 1) := by decide +kernel
theorem dX6_heldBy_46 : decode cX6_heldBy 46 = .ok (.iconst 1, 1) := by decide +kernel
theorem dX6_heldBy_47 : decode cX6_heldBy 47 = .ok (.iload_n 2, 1) := by decide +kernel
theorem dX6_heldBy_48 : decode cX6_heldBy 48 = .ok (.invokevirtual 56, 3) := by decide +kernel
theorem dX6_heldBy_51 : decode cX6_heldBy 51 = .ok (.iconst 0, 1) := by decide +kernel
theorem dX6_heldBy_52 : decode cX6_heldBy 52 = .ok (.istore 6, 2) := by decide +kernel
theorem dX6_heldBy_54 : decode cX6_heldBy 54 = .ok (.iconst 0, 1) := by decide +kernel
theorem dX6_heldBy_55 : decode cX6_heldBy 55 = .ok (.istore 7, 2) := by decide +kernel
theorem dX6_heldBy_57 : decode cX6_heldBy 57 = .ok (.iload 7, 2) := by decide +kernel
theorem dX6_heldBy_59 : decode cX6_heldBy 59 = .ok (.ldc 60, 2) := by decide +kernel
theorem dX6_heldBy_61 : decode cX6_heldBy 61 = .ok (.if_icmp .ge 68, 3) := by decide +kernel
theorem dX6_heldBy_64 : decode cX6_heldBy 64 = .ok (.iload 6, 2) := by decide +kernel
theorem dX6_heldBy_66 : decode cX6_heldBy 66 = .ok (.ifCond .lt 63, 3) := by decide +kernel
theorem dX6_heldBy_69 : decode cX6_heldBy 69 = .ok (.iload 6, 2) := by decide +kernel
theorem dX6_heldBy_71 : decode cX6_heldBy 71 = .ok (.iconst 5, 1) := by decide +kernel
theorem dX6_heldBy_72 : decode cX6_heldBy 72 = .ok (.if_icmp .gt 57, 3) := by decide +kernel
theorem dX6_heldBy_75 : decode cX6_heldBy 75 = .ok (.aload_n 0, 1) := by decide +kernel
theorem dX6_heldBy_76 : decode cX6_heldBy 76 = .ok (.getfield 11, 3) := by decide +kernel
theorem dX6_heldBy_79 : decode cX6_heldBy 79 = .ok (.iload 6, 2) := by decide +kernel
theorem dX6_heldBy_81 : decode cX6_heldBy 81 = .ok (.iaload, 1) := by decide +kernel
theorem dX6_heldBy_82 : decode cX6_heldBy 82 = .ok (.ifCond .ne 9, 3) := by decide +kernel
theorem dX6_heldBy_85 : decode cX6_heldBy 85 = .ok (.iinc 6 (-1), 3) := by decide +kernel
theorem dX6_heldBy_88 : decode cX6_heldBy 88 = .ok (.goto 22, 3) := by decide +kernel
theorem dX6_heldBy_91 : decode cX6_heldBy 91 = .ok (.aload_n 0, 1) := by decide +kernel
theorem dX6_heldBy_92 : decode cX6_heldBy 92 = .ok (.getfield 11, 3) := by decide +kernel
theorem dX6_heldBy_95 : decode cX6_heldBy 95 = .ok (.iload 6, 2) := by decide +kernel
theorem dX6_heldBy_97 : decode cX6_heldBy 97 = .ok (.dup2, 1) := by decide +kernel
theorem dX6_heldBy_98 : decode cX6_heldBy 98 = .ok (.iaload, 1) := by decide +kernel
theorem dX6_heldBy_99 : decode cX6_heldBy 99 = .ok (.iconst 1, 1) := by decide +kernel
theorem dX6_heldBy_100 : decode cX6_heldBy 100 = .ok (.isub, 1) := by decide +kernel
theorem dX6_heldBy_101 : decode cX6_heldBy 101 = .ok (.iastore, 1) := by decide +kernel
theorem dX6_heldBy_102 : decode cX6_heldBy 102 = .ok (.aload_n 0, 1) := by decide +kernel
theorem dX6_heldBy_103 : decode cX6_heldBy 103 = .ok (.iload 6, 2) := by decide +kernel
theorem dX6_heldBy_105 : decode cX6_heldBy 105 = .ok (.invokevirtual 61, 3) := by decide +kernel
theorem dX6_heldBy_108 : decode cX6_heldBy 108 = .ok (.istore 6, 2) := by decide +kernel
theorem dX6_heldBy_110 : decode cX6_heldBy 110 = .ok (.aload_n 0, 1) := by decide +kernel
theorem dX6_heldBy_111 : decode cX6_heldBy 111 = .ok (.getfield 44, 3) := by decide +kernel
theorem dX6_heldBy_114 : decode cX6_heldBy 114 = .ok (.sipush 20000, 3) := by decide +kernel
theorem dX6_heldBy_117 : decode cX6_heldBy 117 = .ok (.if_icmp .le 6, 3) := by decide +kernel
theorem dX6_heldBy_120 : decode cX6_heldBy 120 = .ok (.bipush (-4), 2) := by decide +kernel
theorem dX6_heldBy_122 : decode cX6_heldBy 122 = .ok (.ireturn, 1) := by decide +kernel
theorem dX6_heldBy_123 : decode cX6_heldBy 123 = .ok (.iinc 7 1, 3) := by decide +kernel
theorem dX6_heldBy_126 : decode cX6_heldBy 126 = .ok (.goto (-69), 3) := by decide +kernel
theorem dX6_heldBy_129 : decode cX6_heldBy 129 = .ok (.aload_n 0, 1) := by decide +kernel
theorem dX6_heldBy_130 : decode cX6_heldBy 130 = .ok (.getfield 47, 3) := by decide +kernel
theorem dX6_heldBy_133 : decode cX6_heldBy 133 = .ok (.ireturn, 1) := by decide +kernel
theorem dX6_follow_0 : decode cX6_follow 0 = .ok (.aload_n 0, 1) := by decide +kernel
theorem dX6_follow_1 : decode cX6_follow 1 = .ok (.getfield 21, 3) := by decide +kernel
theorem dX6_follow_4 : decode cX6_follow 4 = .ok (.aload_n 0, 1) := by decide +kernel
theorem dX6_follow_5 : decode cX6_follow 5 = .ok (.getfield 15, 3) := by decide +kernel
theorem dX6_follow_8 : decode cX6_follow 8 = .ok (.iload_n 1, 1) := by decide +kernel
theorem dX6_follow_9 : decode cX6_follow 9 = .ok (.iaload, 1) := by decide +kernel
theorem dX6_follow_10 : decode cX6_follow 10 = .ok (.putfield 65, 3) := by decide +kernel
theorem dX6_follow_13 : decode cX6_follow 13 = .ok (.aload_n 0, 1) := by decide +kernel
theorem dX6_follow_14 : decode cX6_follow 14 = .ok (.getfield 18, 3) := by decide +kernel
theorem dX6_follow_17 : decode cX6_follow 17 = .ok (.iload_n 1, 1) := by decide +kernel
theorem dX6_follow_18 : decode cX6_follow 18 = .ok (.iaload, 1) := by decide +kernel
theorem dX6_follow_19 : decode cX6_follow 19 = .ok (.istore_n 2, 1) := by decide +kernel
theorem dX6_follow_20 : decode cX6_follow 20 = .ok (.iload_n 2, 1) := by decide +kernel
theorem dX6_follow_21 : decode cX6_follow 21 = .ok (.ifCond .lt 96, 3) := by decide +kernel
theorem dX6_follow_24 : decode cX6_follow 24 = .ok (.aload_n 0, 1) := by decide +kernel
theorem dX6_follow_25 : decode cX6_follow 25 = .ok (.getfield 38, 3) := by decide +kernel
theorem dX6_follow_28 : decode cX6_follow 28 = .ok (.aload_n 0, 1) := by decide +kernel
theorem dX6_follow_29 : decode cX6_follow 29 = .ok (.getfield 21, 3) := by decide +kernel
theorem dX6_follow_32 : decode cX6_follow 32 = .ok (.aload_n 0, 1) := by decide +kernel
theorem dX6_follow_33 : decode cX6_follow 33 = .ok (.getfield 29, 3) := by decide +kernel
theorem dX6_follow_36 : decode cX6_follow 36 = .ok (.invokevirtual 70, 3) := by decide +kernel
theorem dX6_follow_39 : decode cX6_follow 39 = .ok (.invokestatic 32, 3) := by decide +kernel
theorem dX6_follow_42 : decode cX6_follow 42 = .ok (.istore_n 3, 1) := by decide +kernel
theorem dX6_follow_43 : decode cX6_follow 43 = .ok (.iload_n 3, 1) := by decide +kernel
theorem dX6_follow_44 : decode cX6_follow 44 = .ok (.iload_n 1, 1) := by decide +kernel
theorem dX6_follow_45 : decode cX6_follow 45 = .ok (.if_icmp .le 18, 3) := by decide +kernel
theorem dX6_follow_48 : decode cX6_follow 48 = .ok (.aload_n 0, 1) := by decide +kernel
theorem dX6_follow_49 : decode cX6_follow 49 = .ok (.iload_n 3, 1) := by decide +kernel
theorem dX6_follow_50 : decode cX6_follow 50 = .ok (.aload_n 0, 1) := by decide +kernel
theorem dX6_follow_51 : decode cX6_follow 51 = .ok (.iload_n 3, 1) := by decide +kernel
theorem dX6_follow_52 : decode cX6_follow 52 = .ok (.iload_n 1, 1) := by decide +kernel
theorem dX6_follow_53 : decode cX6_follow 53 = .ok (.isub, 1) := by decide +kernel
theorem dX6_follow_54 : decode cX6_follow 54 = .ok (.invokevirtual 73, 3) := by decide +kernel
theorem dX6_follow_57 : decode cX6_follow 57 = .ok (.iload_n 2, 1) := by decide +kernel
theorem dX6_follow_58 : decode cX6_follow 58 = .ok (.invokevirtual 56, 3) := by decide +kernel
theorem dX6_follow_61 : decode cX6_follow 61 = .ok (.iload_n 3, 1) := by decide +kernel
theorem dX6_follow_62 : decode cX6_follow 62 = .ok (.ireturn, 1) := by decide +kernel
theorem dX6_follow_63 : decode cX6_follow 63 = .ok (.aload_n 0, 1) := by decide +kernel
theorem dX6_follow_64 : decode cX6_follow 64 = .ok (.getfield 21, 3) := by decide +kernel
theorem dX6_follow_67 : decode cX6_follow 67 = .ok (.aload_n 0, 1) := by decide +kernel
theorem dX6_follow_68 : decode cX6_follow 68 = .ok (.getfield 25, 3) := by decide +kernel
theorem dX6_follow_71 : decode cX6_follow 71 = .ok (.invokevirtual 76, 3) := by decide +kernel
theorem dX6_follow_74 : decode cX6_follow 74 = .ok (.ifCond .eq 15, 3) := by decide +kernel
theorem dX6_follow_77 : decode cX6_follow 77 = .ok (.aload_n 0, 1) := by decide +kernel
theorem dX6_follow_78 : decode cX6_follow 78 = .ok (.dup, 1) := by decide +kernel
theorem dX6_follow_79 : decode cX6_follow 79 = .ok (.getfield 47, 3) := by decide +kernel
theorem dX6_follow_82 : decode cX6_follow 82 = .ok (.iconst 1, 1) := by decide +kernel
theorem dX6_follow_83 : decode cX6_follow 83 = .ok (.iadd, 1) := by decide +kernel
theorem dX6_follow_84 : decode cX6_follow 84 = .ok (.putfield 47, 3) := by decide +kernel
theorem dX6_follow_87 : decode cX6_follow 87 = .ok (.iload_n 1, 1) := by decide +kernel
theorem dX6_follow_88 : decode cX6_follow 88 = .ok (.ireturn, 1) := by decide +kernel
theorem dX6_follow_89 : decode cX6_follow 89 = .ok (.iload_n 2, 1) := by decide +kernel
theorem dX6_follow_90 : decode cX6_follow 90 = .ok (.ifCond .le 21, 3) := by decide +kernel
theorem dX6_follow_93 : decode cX6_follow 93 = .ok (.aload_n 0, 1) := by decide +kernel
theorem dX6_follow_94 : decode cX6_follow 94 = .ok (.dup, 1) := by decide +kernel
theorem dX6_follow_95 : decode cX6_follow 95 = .ok (.getfield 44, 3) := by decide +kernel
theorem dX6_follow_98 : decode cX6_follow 98 = .ok (.iconst 1, 1) := by decide +kernel
theorem dX6_follow_99 : decode cX6_follow 99 = .ok (.iadd, 1) := by decide +kernel
theorem dX6_follow_100 : decode cX6_follow 100 = .ok (.putfield 44, 3) := by decide +kernel
theorem dX6_follow_103 : decode cX6_follow 103 = .ok (.aload_n 0, 1) := by decide +kernel
theorem dX6_follow_104 : decode cX6_follow 104 = .ok (.getfield 21, 3) := by decide +kernel
theorem dX6_follow_107 : decode cX6_follow 107 = .ok (.invokevirtual 80, 3) := by decide +kernel
theorem dX6_follow_110 : decode cX6_follow 110 = .ok (.pop, 1) := by decide +kernel
theorem dX6_follow_111 : decode cX6_follow 111 = .ok (.iinc 2 (-1), 3) := by decide +kernel
theorem dX6_follow_114 : decode cX6_follow 114 = .ok (.goto (-94), 3) := by decide +kernel
theorem dX6_follow_117 : decode cX6_follow 117 = .ok (.iload_n 1, 1) := by decide +kernel
theorem dX6_follow_118 : decode cX6_follow 118 = .ok (.ireturn, 1) := by decide +kernel
theorem dX6_putCopies_0 : decode cX6_putCopies 0 = .ok (.iload_n 1, 1) := by decide +kernel
theorem dX6_putCopies_1 : decode cX6_putCopies 1 = .ok (.ifCond .lt 35, 3) := by decide +kernel
theorem dX6_putCopies_4 : decode cX6_putCopies 4 = .ok (.iload_n 1, 1) := by decide +kernel
theorem dX6_putCopies_5 : decode cX6_putCopies 5 = .ok (.iconst 5, 1) := by decide +kernel
theorem dX6_putCopies_6 : decode cX6_putCopies 6 = .ok (.if_icmp .gt 30, 3) := by decide +kernel
theorem dX6_putCopies_9 : decode cX6_putCopies 9 = .ok (.aload_n 0, 1) := by decide +kernel
theorem dX6_putCopies_10 : decode cX6_putCopies 10 = .ok (.getfield 11, 3) := by decide +kernel
theorem dX6_putCopies_13 : decode cX6_putCopies 13 = .ok (.iload_n 1, 1) := by decide +kernel
theorem dX6_putCopies_14 : decode cX6_putCopies 14 = .ok (.iload_n 2, 1) := by decide +kernel
theorem dX6_putCopies_15 : decode cX6_putCopies 15 = .ok (.iastore, 1) := by decide +kernel
theorem dX6_putCopies_16 : decode cX6_putCopies 16 = .ok (.aload_n 0, 1) := by decide +kernel
theorem dX6_putCopies_17 : decode cX6_putCopies 17 = .ok (.getfield 15, 3) := by decide +kernel
theorem dX6_putCopies_20 : decode cX6_putCopies 20 = .ok (.iload_n 1, 1) := by decide +kernel
theorem dX6_putCopies_21 : decode cX6_putCopies 21 = .ok (.aload_n 0, 1) := by decide +kernel
theorem dX6_putCopies_22 : decode cX6_putCopies 22 = .ok (.getfield 21, 3) := by decide +kernel
theorem dX6_putCopies_25 : decode cX6_putCopies 25 = .ok (.getfield 65, 3) := by decide +kernel
theorem dX6_putCopies_28 : decode cX6_putCopies 28 = .ok (.iastore, 1) := by decide +kernel
theorem dX6_putCopies_29 : decode cX6_putCopies 29 = .ok (.aload_n 0, 1) := by decide +kernel
theorem dX6_putCopies_30 : decode cX6_putCopies 30 = .ok (.getfield 18, 3) := by decide +kernel
theorem dX6_putCopies_33 : decode cX6_putCopies 33 = .ok (.iload_n 1, 1) := by decide +kernel
theorem dX6_putCopies_34 : decode cX6_putCopies 34 = .ok (.iload_n 3, 1) := by decide +kernel
theorem dX6_putCopies_35 : decode cX6_putCopies 35 = .ok (.iastore, 1) := by decide +kernel
theorem dX6_putCopies_36 : decode cX6_putCopies 36 = .ok (.return_, 1) := by decide +kernel
theorem dX6_copiesFor_0 : decode cX6_copiesFor 0 = .ok (.iconst 1, 1) := by decide +kernel
theorem dX6_copiesFor_1 : decode cX6_copiesFor 1 = .ok (.istore_n 2, 1) := by decide +kernel
theorem dX6_copiesFor_2 : decode cX6_copiesFor 2 = .ok (.iconst 0, 1) := by decide +kernel
theorem dX6_copiesFor_3 : decode cX6_copiesFor 3 = .ok (.istore_n 3, 1) := by decide +kernel
theorem dX6_copiesFor_4 : decode cX6_copiesFor 4 = .ok (.iload_n 3, 1) := by decide +kernel
theorem dX6_copiesFor_5 : decode cX6_copiesFor 5 = .ok (.iload_n 1, 1) := by decide +kernel
theorem dX6_copiesFor_6 : decode cX6_copiesFor 6 = .ok (.if_icmp .ge 16, 3) := by decide +kernel
theorem dX6_copiesFor_9 : decode cX6_copiesFor 9 = .ok (.iload_n 2, 1) := by decide +kernel
theorem dX6_copiesFor_10 : decode cX6_copiesFor 10 = .ok (.aload_n 0, 1) := by decide +kernel
theorem dX6_copiesFor_11 : decode cX6_copiesFor 11 = .ok (.getfield 41, 3) := by decide +kernel
theorem dX6_copiesFor_14 : decode cX6_copiesFor 14 = .ok (.imul, 1) := by decide +kernel
theorem dX6_copiesFor_15 : decode cX6_copiesFor 15 = .ok (.istore_n 2, 1) := by decide +kernel
theorem dX6_copiesFor_16 : decode cX6_copiesFor 16 = .ok (.iinc 3 1, 3) := by decide +kernel
theorem dX6_copiesFor_19 : decode cX6_copiesFor 19 = .ok (.goto (-15), 3) := by decide +kernel
theorem dX6_copiesFor_22 : decode cX6_copiesFor 22 = .ok (.iload_n 2, 1) := by decide +kernel
theorem dX6_copiesFor_23 : decode cX6_copiesFor 23 = .ok (.ireturn, 1) := by decide +kernel
theorem dX7_init_0 : decode cX7_init 0 = .ok (.aload_n 0, 1) := by decide +kernel
theorem dX7_init_1 : decode cX7_init 1 = .ok (.invokespecial 7, 3) := by decide +kernel
theorem dX7_init_4 : decode cX7_init 4 = .ok (.aload_n 0, 1) := by decide +kernel
theorem dX7_init_5 : decode cX7_init 5 = .ok (.new 1, 3) := by decide +kernel
theorem dX7_init_8 : decode cX7_init 8 = .ok (.dup, 1) := by decide +kernel
theorem dX7_init_9 : decode cX7_init 9 = .ok (.invokespecial 13, 3) := by decide +kernel
theorem dX7_init_12 : decode cX7_init 12 = .ok (.putfield 14, 3) := by decide +kernel
theorem dX7_init_15 : decode cX7_init 15 = .ok (.aload_n 0, 1) := by decide +kernel
theorem dX7_init_16 : decode cX7_init 16 = .ok (.iconst 0, 1) := by decide +kernel
theorem dX7_init_17 : decode cX7_init 17 = .ok (.newarray .int, 2) := by decide +kernel
theorem dX7_init_19 : decode cX7_init 19 = .ok (.putfield 20, 3) := by decide +kernel
theorem dX7_init_22 : decode cX7_init 22 = .ok (.aload_n 0, 1) := by decide +kernel
theorem dX7_init_23 : decode cX7_init 23 = .ok (.sipush 1000, 3) := by decide +kernel
theorem dX7_init_26 : decode cX7_init 26 = .ok (.newarray .int, 2) := by decide +kernel
theorem dX7_init_28 : decode cX7_init 28 = .ok (.putfield 24, 3) := by decide +kernel
theorem dX7_init_31 : decode cX7_init 31 = .ok (.aload_n 0, 1) := by decide +kernel
theorem dX7_init_32 : decode cX7_init 32 = .ok (.iconst 4, 1) := by decide +kernel
theorem dX7_init_33 : decode cX7_init 33 = .ok (.newarray .int, 2) := by decide +kernel
theorem dX7_init_35 : decode cX7_init 35 = .ok (.putfield 27, 3) := by decide +kernel
theorem dX7_init_38 : decode cX7_init 38 = .ok (.aload_n 0, 1) := by decide +kernel
theorem dX7_init_39 : decode cX7_init 39 = .ok (.iconst 4, 1) := by decide +kernel
theorem dX7_init_40 : decode cX7_init 40 = .ok (.newarray .int, 2) := by decide +kernel
theorem dX7_init_42 : decode cX7_init 42 = .ok (.putfield 30, 3) := by decide +kernel
theorem dX7_init_45 : decode cX7_init 45 = .ok (.return_, 1) := by decide +kernel
theorem dX7_take_0 : decode cX7_take 0 = .ok (.aload_n 0, 1) := by decide +kernel
theorem dX7_take_1 : decode cX7_take 1 = .ok (.aload_n 1, 1) := by decide +kernel
theorem dX7_take_2 : decode cX7_take 2 = .ok (.putfield 14, 3) := by decide +kernel
theorem dX7_take_5 : decode cX7_take 5 = .ok (.aload_n 0, 1) := by decide +kernel
theorem dX7_take_6 : decode cX7_take 6 = .ok (.getfield 20, 3) := by decide +kernel
theorem dX7_take_9 : decode cX7_take 9 = .ok (.arraylength, 1) := by decide +kernel
theorem dX7_take_10 : decode cX7_take 10 = .ok (.ifCond .ne 12, 3) := by decide +kernel
theorem dX7_take_13 : decode cX7_take 13 = .ok (.aload_n 0, 1) := by decide +kernel
theorem dX7_take_14 : decode cX7_take 14 = .ok (.sipush 20000, 3) := by decide +kernel
theorem dX7_take_17 : decode cX7_take 17 = .ok (.newarray .int, 2) := by decide +kernel
theorem dX7_take_19 : decode cX7_take 19 = .ok (.putfield 20, 3) := by decide +kernel
theorem dX7_take_22 : decode cX7_take 22 = .ok (.aload_n 0, 1) := by decide +kernel
theorem dX7_take_23 : decode cX7_take 23 = .ok (.getfield 24, 3) := by decide +kernel
theorem dX7_take_26 : decode cX7_take 26 = .ok (.iconst 0, 1) := by decide +kernel
theorem dX7_take_27 : decode cX7_take 27 = .ok (.invokestatic 33, 3) := by decide +kernel
theorem dX7_take_30 : decode cX7_take 30 = .ok (.return_, 1) := by decide +kernel
theorem dX7_firstState_0 : decode cX7_firstState 0 = .ok (.aload_n 0, 1) := by decide +kernel
theorem dX7_firstState_1 : decode cX7_firstState 1 = .ok (.getfield 14, 3) := by decide +kernel
theorem dX7_firstState_4 : decode cX7_firstState 4 = .ok (.aload_n 0, 1) := by decide +kernel
theorem dX7_firstState_5 : decode cX7_firstState 5 = .ok (.getfield 14, 3) := by decide +kernel
theorem dX7_firstState_8 : decode cX7_firstState 8 = .ok (.getfield 39, 3) := by decide +kernel
theorem dX7_firstState_11 : decode cX7_firstState 11 = .ok (.invokevirtual 42, 3) := by decide +kernel
theorem dX7_firstState_14 : decode cX7_firstState 14 = .ok (.ireturn, 1) := by decide +kernel
theorem dX7_cell_0 : decode cX7_cell 0 = .ok (.iload_n 1, 1) := by decide +kernel
theorem dX7_cell_1 : decode cX7_cell 1 = .ok (.aload_n 0, 1) := by decide +kernel
theorem dX7_cell_2 : decode cX7_cell 2 = .ok (.getfield 14, 3) := by decide +kernel
theorem dX7_cell_5 : decode cX7_cell 5 = .ok (.getfield 46, 3) := by decide +kernel
theorem dX7_cell_8 : decode cX7_cell 8 = .ok (.imul, 1) := by decide +kernel
theorem dX7_cell_9 : decode cX7_cell 9 = .ok (.iload_n 2, 1) := by decide +kernel
theorem dX7_cell_10 : decode cX7_cell 10 = .ok (.iadd, 1) := by decide +kernel
theorem dX7_cell_11 : decode cX7_cell 11 = .ok (.istore_n 3, 1) := by decide +kernel
theorem dX7_cell_12 : decode cX7_cell 12 = .ok (.aload_n 0, 1) := by decide +kernel
theorem dX7_cell_13 : decode cX7_cell 13 = .ok (.iload_n 1, 1) := by decide +kernel
theorem dX7_cell_14 : decode cX7_cell 14 = .ok (.invokevirtual 50, 3) := by decide +kernel
theorem dX7_cell_17 : decode cX7_cell 17 = .ok (.ifCond .ne 27, 3) := by decide +kernel
theorem dX7_cell_20 : decode cX7_cell 20 = .ok (.iload_n 2, 1) := by decide +kernel
theorem dX7_cell_21 : decode cX7_cell 21 = .ok (.ifCond .lt 23, 3) := by decide +kernel
theorem dX7_cell_24 : decode cX7_cell 24 = .ok (.iload_n 2, 1) := by decide +kernel
theorem dX7_cell_25 : decode cX7_cell 25 = .ok (.aload_n 0, 1) := by decide +kernel
theorem dX7_cell_26 : decode cX7_cell 26 = .ok (.getfield 14, 3) := by decide +kernel
theorem dX7_cell_29 : decode cX7_cell 29 = .ok (.getfield 46, 3) := by decide +kernel
theorem dX7_cell_32 : decode cX7_cell 32 = .ok (.if_icmp .ge 12, 3) := by decide +kernel
theorem dX7_cell_35 : decode cX7_cell 35 = .ok (.iload_n 3, 1) := by decide +kernel
theorem dX7_cell_36 : decode cX7_cell 36 = .ok (.aload_n 0, 1) := by decide +kernel
theorem dX7_cell_37 : decode cX7_cell 37 = .ok (.getfield 20, 3) := by decide +kernel
theorem dX7_cell_40 : decode cX7_cell 40 = .ok (.arraylength, 1) := by decide +kernel
theorem dX7_cell_41 : decode cX7_cell 41 = .ok (.if_icmp .lt 6, 3) := by decide +kernel
theorem dX7_cell_44 : decode cX7_cell 44 = .ok (.bipush 15, 2) := by decide +kernel
theorem dX7_cell_46 : decode cX7_cell 46 = .ok (.ireturn, 1) := by decide +kernel
theorem dX7_cell_47 : decode cX7_cell 47 = .ok (.aload_n 0, 1) := by decide +kernel
theorem dX7_cell_48 : decode cX7_cell 48 = .ok (.getfield 24, 3) := by decide +kernel
theorem dX7_cell_51 : decode cX7_cell 51 = .ok (.iload_n 1, 1) := by decide +kernel
theorem dX7_cell_52 : decode cX7_cell 52 = .ok (.iaload, 1) := by decide +kernel
theorem dX7_cell_53 : decode cX7_cell 53 = .ok (.ifCond .ne 8, 3) := by decide +kernel
theorem dX7_cell_56 : decode cX7_cell 56 = .ok (.aload_n 0, 1) := by decide +kernel
theorem dX7_cell_57 : decode cX7_cell 57 = .ok (.iload_n 1, 1) := by decide +kernel
theorem dX7_cell_58 : decode cX7_cell 58 = .ok (.invokevirtual 54, 3) := by decide +kernel
theorem dX7_cell_61 : decode cX7_cell 61 = .ok (.aload_n 0, 1) := by decide +kernel
theorem dX7_cell_62 : decode cX7_cell 62 = .ok (.getfield 20, 3) := by decide +kernel
theorem dX7_cell_65 : decode cX7_cell 65 = .ok (.iload_n 3, 1) := by decide +kernel
theorem dX7_cell_66 : decode cX7_cell 66 = .ok (.iaload, 1) := by decide +kernel
theorem dX7_cell_67 : decode cX7_cell 67 = .ok (.ireturn, 1) := by decide +kernel
theorem dX7_stateIn_0 : decode cX7_stateIn 0 = .ok (.iload_n 0, 1) := by decide +kernel
theorem dX7_stateIn_1 : decode cX7_stateIn 1 = .ok (.iconst 4, 1) := by decide +kernel
theorem dX7_stateIn_2 : decode cX7_stateIn 2 = .ok (.ishr, 1) := by decide +kernel
theorem dX7_stateIn_3 : decode cX7_stateIn 3 = .ok (.ireturn, 1) := by decide +kernel
theorem dX7_ruleIn_0 : decode cX7_ruleIn 0 = .ok (.iload_n 0, 1) := by decide +kernel
theorem dX7_ruleIn_1 : decode cX7_ruleIn 1 = .ok (.bipush 15, 2) := by decide +kernel
theorem dX7_ruleIn_3 : decode cX7_ruleIn 3 = .ok (.iand, 1) := by decide +kernel
theorem dX7_ruleIn_4 : decode cX7_ruleIn 4 = .ok (.istore_n 1, 1) := by decide +kernel
theorem dX7_ruleIn_5 : decode cX7_ruleIn 5 = .ok (.iload_n 1, 1) := by decide +kernel
theorem dX7_ruleIn_6 : decode cX7_ruleIn 6 = .ok (.bipush 15, 2) := by decide +kernel
theorem dX7_ruleIn_8 : decode cX7_ruleIn 8 = .ok (.if_icmp .ne 7, 3) := by decide +kernel
theorem dX7_ruleIn_11 : decode cX7_ruleIn 11 = .ok (.iconst (-1), 1) := by decide +kernel
theorem dX7_ruleIn_12 : decode cX7_ruleIn 12 = .ok (.goto 4, 3) := by decide +kernel
theorem dX7_ruleIn_15 : decode cX7_ruleIn 15 = .ok (.iload_n 1, 1) := by decide +kernel
theorem dX7_ruleIn_16 : decode cX7_ruleIn 16 = .ok (.ireturn, 1) := by decide +kernel
theorem dX7_hasGoal_0 : decode cX7_hasGoal 0 = .ok (.aload_n 0, 1) := by decide +kernel
theorem dX7_hasGoal_1 : decode cX7_hasGoal 1 = .ok (.iload_n 1, 1) := by decide +kernel
theorem dX7_hasGoal_2 : decode cX7_hasGoal 2 = .ok (.invokevirtual 50, 3) := by decide +kernel
theorem dX7_hasGoal_5 : decode cX7_hasGoal 5 = .ok (.ifCond .eq 5, 3) := by decide +kernel
theorem dX7_hasGoal_8 : decode cX7_hasGoal 8 = .ok (.iconst 0, 1) := by decide +kernel
theorem dX7_hasGoal_9 : decode cX7_hasGoal 9 = .ok (.ireturn, 1) := by decide +kernel
theorem dX7_hasGoal_10 : decode cX7_hasGoal 10 = .ok (.aload_n 0, 1) := by decide +kernel
theorem dX7_hasGoal_11 : decode cX7_hasGoal 11 = .ok (.getfield 24, 3) := by decide +kernel
theorem dX7_hasGoal_14 : decode cX7_hasGoal 14 = .ok (.iload_n 1, 1) := by decide +kernel
theorem dX7_hasGoal_15 : decode cX7_hasGoal 15 = .ok (.iaload, 1) := by decide +kernel
theorem dX7_hasGoal_16 : decode cX7_hasGoal 16 = .ok (.ifCond .ne 8, 3) := by decide +kernel
theorem dX7_hasGoal_19 : decode cX7_hasGoal 19 = .ok (.aload_n 0, 1) := by decide +kernel
theorem dX7_hasGoal_20 : decode cX7_hasGoal 20 = .ok (.iload_n 1, 1) := by decide +kernel
theorem dX7_hasGoal_21 : decode cX7_hasGoal 21 = .ok (.invokevirtual 54, 3) := by decide +kernel
theorem dX7_hasGoal_24 : decode cX7_hasGoal 24 = .ok (.aload_n 0, 1) := by decide +kernel
theorem dX7_hasGoal_25 : decode cX7_hasGoal 25 = .ok (.getfield 24, 3) := by decide +kernel
theorem dX7_hasGoal_28 : decode cX7_hasGoal 28 = .ok (.iload_n 1, 1) := by decide +kernel
theorem dX7_hasGoal_29 : decode cX7_hasGoal 29 = .ok (.iaload, 1) := by decide +kernel
theorem dX7_hasGoal_30 : decode cX7_hasGoal 30 = .ok (.iload_n 2, 1) := by decide +kernel
theorem dX7_hasGoal_31 : decode cX7_hasGoal 31 = .ok (.ishr, 1) := by decide +kernel
theorem dX7_hasGoal_32 : decode cX7_hasGoal 32 = .ok (.iconst 1, 1) := by decide +kernel
theorem dX7_hasGoal_33 : decode cX7_hasGoal 33 = .ok (.iand, 1) := by decide +kernel
theorem dX7_hasGoal_34 : decode cX7_hasGoal 34 = .ok (.iconst 1, 1) := by decide +kernel
theorem dX7_hasGoal_35 : decode cX7_hasGoal 35 = .ok (.if_icmp .ne 7, 3) := by decide +kernel
theorem dX7_hasGoal_38 : decode cX7_hasGoal 38 = .ok (.iconst 1, 1) := by decide +kernel
theorem dX7_hasGoal_39 : decode cX7_hasGoal 39 = .ok (.goto 4, 3) := by decide +kernel
theorem dX7_hasGoal_42 : decode cX7_hasGoal 42 = .ok (.iconst 0, 1) := by decide +kernel
theorem dX7_hasGoal_43 : decode cX7_hasGoal 43 = .ok (.ireturn, 1) := by decide +kernel
theorem dX7_isNoState_0 : decode cX7_isNoState 0 = .ok (.iload_n 1, 1) := by decide +kernel
theorem dX7_isNoState_1 : decode cX7_isNoState 1 = .ok (.ifCond .lt 21, 3) := by decide +kernel
theorem dX7_isNoState_4 : decode cX7_isNoState 4 = .ok (.iload_n 1, 1) := by decide +kernel
theorem dX7_isNoState_5 : decode cX7_isNoState 5 = .ok (.aload_n 0, 1) := by decide +kernel
theorem dX7_isNoState_6 : decode cX7_isNoState 6 = .ok (.getfield 14, 3) := by decide +kernel
theorem dX7_isNoState_9 : decode cX7_isNoState 9 = .ok (.getfield 58, 3) := by decide +kernel
theorem dX7_isNoState_12 : decode cX7_isNoState 12 = .ok (.if_icmp .ge 10, 3) := by decide +kernel
theorem dX7_isNoState_15 : decode cX7_isNoState 15 = .ok (.iload_n 1, 1) := by decide +kernel
theorem dX7_isNoState_16 : decode cX7_isNoState 16 = .ok (.sipush 1000, 3) := by decide +kernel
theorem dX7_isNoState_19 : decode cX7_isNoState 19 = .ok (.if_icmp .lt 7, 3) := by decide +kernel
theorem dX7_isNoState_22 : decode cX7_isNoState 22 = .ok (.iconst 1, 1) := by decide +kernel
theorem dX7_isNoState_23 : decode cX7_isNoState 23 = .ok (.goto 4, 3) := by decide +kernel
theorem dX7_isNoState_26 : decode cX7_isNoState 26 = .ok (.iconst 0, 1) := by decide +kernel
theorem dX7_isNoState_27 : decode cX7_isNoState 27 = .ok (.ireturn, 1) := by decide +kernel
theorem dX7_makeRow_0 : decode cX7_makeRow 0 = .ok (.aload_n 0, 1) := by decide +kernel
theorem dX7_makeRow_1 : decode cX7_makeRow 1 = .ok (.getfield 14, 3) := by decide +kernel
theorem dX7_makeRow_4 : decode cX7_makeRow 4 = .ok (.iload_n 1, 1) := by decide +kernel
theorem dX7_makeRow_5 : decode cX7_makeRow 5 = .ok (.aload_n 0, 1) := by decide +kernel
theorem dX7_makeRow_6 : decode cX7_makeRow 6 = .ok (.getfield 27, 3) := by decide +kernel
theorem dX7_makeRow_9 : decode cX7_makeRow 9 = .ok (.invokevirtual 61, 3) := by decide +kernel
theorem dX7_makeRow_12 : decode cX7_makeRow 12 = .ok (.aload_n 0, 1) := by decide +kernel
theorem dX7_makeRow_13 : decode cX7_makeRow 13 = .ok (.iload_n 1, 1) := by decide +kernel
theorem dX7_makeRow_14 : decode cX7_makeRow 14 = .ok (.invokevirtual 65, 3) := by decide +kernel
theorem dX7_makeRow_17 : decode cX7_makeRow 17 = .ok (.iload_n 1, 1) := by decide +kernel
theorem dX7_makeRow_18 : decode cX7_makeRow 18 = .ok (.aload_n 0, 1) := by decide +kernel
theorem dX7_makeRow_19 : decode cX7_makeRow 19 = .ok (.getfield 14, 3) := by decide +kernel
theorem dX7_makeRow_22 : decode cX7_makeRow 22 = .ok (.getfield 46, 3) := by decide +kernel
theorem dX7_makeRow_25 : decode cX7_makeRow 25 = .ok (.imul, 1) := by decide +kernel
theorem dX7_makeRow_26 : decode cX7_makeRow 26 = .ok (.istore_n 2, 1) := by decide +kernel
theorem dX7_makeRow_27 : decode cX7_makeRow 27 = .ok (.iload_n 2, 1) := by decide +kernel
theorem dX7_makeRow_28 : decode cX7_makeRow 28 = .ok (.aload_n 0, 1) := by decide +kernel
theorem dX7_makeRow_29 : decode cX7_makeRow 29 = .ok (.getfield 14, 3) := by decide +kernel
theorem dX7_makeRow_32 : decode cX7_makeRow 32 = .ok (.getfield 46, 3) := by decide +kernel
theorem dX7_makeRow_35 : decode cX7_makeRow 35 = .ok (.iadd, 1) := by decide +kernel
theorem dX7_makeRow_36 : decode cX7_makeRow 36 = .ok (.istore_n 3, 1) := by decide +kernel
theorem dX7_makeRow_37 : decode cX7_makeRow 37 = .ok (.iconst 0, 1) := by decide +kernel
theorem dX7_makeRow_38 : decode cX7_makeRow 38 = .ok (.istore 4, 2) := by decide +kernel
theorem dX7_makeRow_40 : decode cX7_makeRow 40 = .ok (.iload 4, 2) := by decide +kernel
theorem dX7_makeRow_42 : decode cX7_makeRow 42 = .ok (.aload_n 0, 1) := by decide +kernel
theorem dX7_makeRow_43 : decode cX7_makeRow 43 = .ok (.getfield 14, 3) := by decide +kernel
theorem dX7_makeRow_46 : decode cX7_makeRow 46 = .ok (.getfield 68, 3) := by decide +kernel
theorem dX7_makeRow_49 : decode cX7_makeRow 49 = .ok (.if_icmp .ge 120, 3) := by decide +kernel
theorem dX7_makeRow_52 : decode cX7_makeRow 52 = .ok (.iload 4, 2) := by decide +kernel
theorem dX7_makeRow_54 : decode cX7_makeRow 54 = .ok (.bipush 12, 2) := by decide +kernel
theorem dX7_makeRow_56 : decode cX7_makeRow 56 = .ok (.if_icmp .ge 113, 3) := by decide +kernel
theorem dX7_makeRow_59 : decode cX7_makeRow 59 = .ok (.iload_n 2, 1) := by decide +kernel
theorem dX7_makeRow_60 : decode cX7_makeRow 60 = .ok (.iload_n 3, 1) := by decide +kernel
theorem dX7_makeRow_61 : decode cX7_makeRow 61 = .ok (.if_icmp .ge 108, 3) := by decide +kernel
theorem dX7_makeRow_64 : decode cX7_makeRow 64 = .ok (.aload_n 0, 1) := by decide +kernel
theorem dX7_makeRow_65 : decode cX7_makeRow 65 = .ok (.getfield 14, 3) := by decide +kernel
theorem dX7_makeRow_68 : decode cX7_makeRow 68 = .ok (.getfield 71, 3) := by decide +kernel
theorem dX7_makeRow_71 : decode cX7_makeRow 71 = .ok (.iload 4, 2) := by decide +kernel
theorem dX7_makeRow_73 : decode cX7_makeRow 73 = .ok (.aaload, 1) := by decide +kernel
theorem dX7_makeRow_74 : decode cX7_makeRow 74 = .ok (.astore 5, 2) := by decide +kernel
theorem dX7_makeRow_76 : decode cX7_makeRow 76 = .ok (.aload 5, 2) := by decide +kernel
theorem dX7_makeRow_78 : decode cX7_makeRow 78 = .ok (.getfield 75, 3) := by decide +kernel
theorem dX7_makeRow_81 : decode cX7_makeRow 81 = .ok (.aload_n 0, 1) := by decide +kernel
theorem dX7_makeRow_82 : decode cX7_makeRow 82 = .ok (.getfield 27, 3) := by decide +kernel
theorem dX7_makeRow_85 : decode cX7_makeRow 85 = .ok (.invokevirtual 81, 3) := by decide +kernel
theorem dX7_makeRow_88 : decode cX7_makeRow 88 = .ok (.ifCond .eq 75, 3) := by decide +kernel
theorem dX7_makeRow_91 : decode cX7_makeRow 91 = .ok (.aload_n 0, 1) := by decide +kernel
theorem dX7_makeRow_92 : decode cX7_makeRow 92 = .ok (.getfield 27, 3) := by decide +kernel
theorem dX7_makeRow_95 : decode cX7_makeRow 95 = .ok (.iconst 0, 1) := by decide +kernel
theorem dX7_makeRow_96 : decode cX7_makeRow 96 = .ok (.aload_n 0, 1) := by decide +kernel
theorem dX7_makeRow_97 : decode cX7_makeRow 97 = .ok (.getfield 30, 3) := by decide +kernel
theorem dX7_makeRow_100 : decode cX7_makeRow 100 = .ok (.iconst 0, 1) := by decide +kernel
theorem dX7_makeRow_101 : decode cX7_makeRow 101 = .ok (.iconst 4, 1) := by decide +kernel
theorem dX7_makeRow_102 : decode cX7_makeRow 102 = .ok (.invokestatic 87, 3) := by decide +kernel
theorem dX7_makeRow_105 : decode cX7_makeRow 105 = .ok (.aload 5, 2) := by decide +kernel
theorem dX7_makeRow_107 : decode cX7_makeRow 107 = .ok (.getfield 93, 3) := by decide +kernel
theorem dX7_makeRow_110 : decode cX7_makeRow 110 = .ok (.aload_n 0, 1) := by decide +kernel
theorem dX7_makeRow_111 : decode cX7_makeRow 111 = .ok (.getfield 30, 3) := by decide +kernel
theorem dX7_makeRow_114 : decode cX7_makeRow 114 = .ok (.aload_n 0, 1) := by decide +kernel
theorem dX7_makeRow_115 : decode cX7_makeRow 115 = .ok (.getfield 14, 3) := by decide +kernel
theorem dX7_makeRow_118 : decode cX7_makeRow 118 = .ok (.getfield 96, 3) := by decide +kernel
theorem dX7_makeRow_121 : decode cX7_makeRow 121 = .ok (.invokevirtual 99, 3) := by decide +kernel
theorem dX7_makeRow_124 : decode cX7_makeRow 124 = .ok (.iload_n 2, 1) := by decide +kernel
theorem dX7_makeRow_125 : decode cX7_makeRow 125 = .ok (.aload 5, 2) := by decide +kernel
theorem dX7_makeRow_127 : decode cX7_makeRow 127 = .ok (.getfield 103, 3) := by decide +kernel
theorem dX7_makeRow_130 : decode cX7_makeRow 130 = .ok (.iadd, 1) := by decide +kernel
theorem dX7_makeRow_131 : decode cX7_makeRow 131 = .ok (.iload_n 3, 1) := by decide +kernel
theorem dX7_makeRow_132 : decode cX7_makeRow 132 = .ok (.invokestatic 106, 3) := by decide +kernel
theorem dX7_makeRow_135 : decode cX7_makeRow 135 = .ok (.istore 6, 2) := by decide +kernel
theorem dX7_makeRow_137 : decode cX7_makeRow 137 = .ok (.aload_n 0, 1) := by decide +kernel
theorem dX7_makeRow_138 : decode cX7_makeRow 138 = .ok (.iload_n 2, 1) := by decide +kernel
theorem dX7_makeRow_139 : decode cX7_makeRow 139 = .ok (.iload 6, 2) := by decide +kernel
theorem dX7_makeRow_141 : decode cX7_makeRow 141 = .ok (.aload_n 0, 1) := by decide +kernel
theorem dX7_makeRow_142 : decode cX7_makeRow 142 = .ok (.getfield 14, 3) := by decide +kernel
theorem dX7_makeRow_145 : decode cX7_makeRow 145 = .ok (.aload_n 0, 1) := by decide +kernel
theorem dX7_makeRow_146 : decode cX7_makeRow 146 = .ok (.getfield 30, 3) := by decide +kernel
theorem dX7_makeRow_149 : decode cX7_makeRow 149 = .ok (.invokevirtual 42, 3) := by decide +kernel
theorem dX7_makeRow_152 : decode cX7_makeRow 152 = .ok (.iconst 4, 1) := by decide +kernel
theorem dX7_makeRow_153 : decode cX7_makeRow 153 = .ok (.ishl, 1) := by decide +kernel
theorem dX7_makeRow_154 : decode cX7_makeRow 154 = .ok (.iload 4, 2) := by decide +kernel
theorem dX7_makeRow_156 : decode cX7_makeRow 156 = .ok (.ior, 1) := by decide +kernel
theorem dX7_makeRow_157 : decode cX7_makeRow 157 = .ok (.invokevirtual 112, 3) := by decide +kernel
theorem dX7_makeRow_160 : decode cX7_makeRow 160 = .ok (.iload 6, 2) := by decide +kernel
theorem dX7_makeRow_162 : decode cX7_makeRow 162 = .ok (.istore_n 2, 1) := by decide +kernel
theorem dX7_makeRow_163 : decode cX7_makeRow 163 = .ok (.iinc 4 1, 3) := by decide +kernel
theorem dX7_makeRow_166 : decode cX7_makeRow 166 = .ok (.goto (-126), 3) := by decide +kernel
theorem dX7_makeRow_169 : decode cX7_makeRow 169 = .ok (.aload_n 0, 1) := by decide +kernel
theorem dX7_makeRow_170 : decode cX7_makeRow 170 = .ok (.iload_n 2, 1) := by decide +kernel
theorem dX7_makeRow_171 : decode cX7_makeRow 171 = .ok (.iload_n 3, 1) := by decide +kernel
theorem dX7_makeRow_172 : decode cX7_makeRow 172 = .ok (.iload_n 1, 1) := by decide +kernel
theorem dX7_makeRow_173 : decode cX7_makeRow 173 = .ok (.iconst 4, 1) := by decide +kernel
theorem dX7_makeRow_174 : decode cX7_makeRow 174 = .ok (.ishl, 1) := by decide +kernel
theorem dX7_makeRow_175 : decode cX7_makeRow 175 = .ok (.bipush 15, 2) := by decide +kernel
theorem dX7_makeRow_177 : decode cX7_makeRow 177 = .ok (.ior, 1) := by decide +kernel
theorem dX7_makeRow_178 : decode cX7_makeRow 178 = .ok (.invokevirtual 112, 3) := by decide +kernel
theorem dX7_makeRow_181 : decode cX7_makeRow 181 = .ok (.return_, 1) := by decide +kernel
theorem dX7_markGoals_0 : decode cX7_markGoals 0 = .ok (.bipush 16, 2) := by decide +kernel
theorem dX7_markGoals_2 : decode cX7_markGoals 2 = .ok (.istore_n 2, 1) := by decide +kernel
theorem dX7_markGoals_3 : decode cX7_markGoals 3 = .ok (.iconst 0, 1) := by decide +kernel
theorem dX7_markGoals_4 : decode cX7_markGoals 4 = .ok (.istore_n 3, 1) := by decide +kernel
theorem dX7_markGoals_5 : decode cX7_markGoals 5 = .ok (.iload_n 3, 1) := by decide +kernel
theorem dX7_markGoals_6 : decode cX7_markGoals 6 = .ok (.aload_n 0, 1) := by decide +kernel
theorem dX7_markGoals_7 : decode cX7_markGoals 7 = .ok (.getfield 14, 3) := by decide +kernel
theorem dX7_markGoals_10 : decode cX7_markGoals 10 = .ok (.getfield 115, 3) := by decide +kernel
theorem dX7_markGoals_13 : decode cX7_markGoals 13 = .ok (.if_icmp .ge 39, 3) := by decide +kernel
theorem dX7_markGoals_16 : decode cX7_markGoals 16 = .ok (.iload_n 3, 1) := by decide +kernel
theorem dX7_markGoals_17 : decode cX7_markGoals 17 = .ok (.iconst 4, 1) := by decide +kernel
theorem dX7_markGoals_18 : decode cX7_markGoals 18 = .ok (.if_icmp .ge 34, 3) := by decide +kernel
theorem dX7_markGoals_21 : decode cX7_markGoals 21 = .ok (.aload_n 0, 1) := by decide +kernel
theorem dX7_markGoals_22 : decode cX7_markGoals 22 = .ok (.getfield 14, 3) := by decide +kernel
theorem dX7_markGoals_25 : decode cX7_markGoals 25 = .ok (.getfield 118, 3) := by decide +kernel
theorem dX7_markGoals_28 : decode cX7_markGoals 28 = .ok (.iload_n 3, 1) := by decide +kernel
theorem dX7_markGoals_29 : decode cX7_markGoals 29 = .ok (.aaload, 1) := by decide +kernel
theorem dX7_markGoals_30 : decode cX7_markGoals 30 = .ok (.aload_n 0, 1) := by decide +kernel
theorem dX7_markGoals_31 : decode cX7_markGoals 31 = .ok (.getfield 27, 3) := by decide +kernel
theorem dX7_markGoals_34 : decode cX7_markGoals 34 = .ok (.invokevirtual 81, 3) := by decide +kernel
theorem dX7_markGoals_37 : decode cX7_markGoals 37 = .ok (.ifCond .eq 9, 3) := by decide +kernel
theorem dX7_markGoals_40 : decode cX7_markGoals 40 = .ok (.iload_n 2, 1) := by decide +kernel
theorem dX7_markGoals_41 : decode cX7_markGoals 41 = .ok (.iconst 1, 1) := by decide +kernel
theorem dX7_markGoals_42 : decode cX7_markGoals 42 = .ok (.iload_n 3, 1) := by decide +kernel
theorem dX7_markGoals_43 : decode cX7_markGoals 43 = .ok (.ishl, 1) := by decide +kernel
theorem dX7_markGoals_44 : decode cX7_markGoals 44 = .ok (.ior, 1) := by decide +kernel
theorem dX7_markGoals_45 : decode cX7_markGoals 45 = .ok (.istore_n 2, 1) := by decide +kernel
theorem dX7_markGoals_46 : decode cX7_markGoals 46 = .ok (.iinc 3 1, 3) := by decide +kernel
theorem dX7_markGoals_49 : decode cX7_markGoals 49 = .ok (.goto (-44), 3) := by decide +kernel
theorem dX7_markGoals_52 : decode cX7_markGoals 52 = .ok (.aload_n 0, 1) := by decide +kernel
theorem dX7_markGoals_53 : decode cX7_markGoals 53 = .ok (.getfield 24, 3) := by decide +kernel
theorem dX7_markGoals_56 : decode cX7_markGoals 56 = .ok (.iload_n 1, 1) := by decide +kernel
theorem dX7_markGoals_57 : decode cX7_markGoals 57 = .ok (.iload_n 2, 1) := by decide +kernel
theorem dX7_markGoals_58 : decode cX7_markGoals 58 = .ok (.iastore, 1) := by decide +kernel
theorem dX7_markGoals_59 : decode cX7_markGoals 59 = .ok (.return_, 1) := by decide +kernel
theorem dX7_fill_0 : decode cX7_fill 0 = .ok (.iload_n 1, 1) := by decide +kernel
theorem dX7_fill_1 : decode cX7_fill 1 = .ok (.istore 4, 2) := by decide +kernel
theorem dX7_fill_3 : decode cX7_fill 3 = .ok (.iload 4, 2) := by decide +kernel
theorem dX7_fill_5 : decode cX7_fill 5 = .ok (.iload_n 2, 1) := by decide +kernel
theorem dX7_fill_6 : decode cX7_fill 6 = .ok (.if_icmp .ge 27, 3) := by decide +kernel
theorem dX7_fill_9 : decode cX7_fill 9 = .ok (.iload 4, 2) := by decide +kernel
theorem dX7_fill_11 : decode cX7_fill 11 = .ok (.aload_n 0, 1) := by decide +kernel
theorem dX7_fill_12 : decode cX7_fill 12 = .ok (.getfield 20, 3) := by decide +kernel
theorem dX7_fill_15 : decode cX7_fill 15 = .ok (.arraylength, 1) := by decide +kernel
theorem dX7_fill_16 : decode cX7_fill 16 = .ok (.if_icmp .ge 17, 3) := by decide +kernel
theorem dX7_fill_19 : decode cX7_fill 19 = .ok (.aload_n 0, 1) := by decide +kernel
theorem dX7_fill_20 : decode cX7_fill 20 = .ok (.getfield 20, 3) := by decide +kernel
theorem dX7_fill_23 : decode cX7_fill 23 = .ok (.iload 4, 2) := by decide +kernel
theorem dX7_fill_25 : decode cX7_fill 25 = .ok (.iload_n 3, 1) := by decide +kernel
theorem dX7_fill_26 : decode cX7_fill 26 = .ok (.iastore, 1) := by decide +kernel
theorem dX7_fill_27 : decode cX7_fill 27 = .ok (.iinc 4 1, 3) := by decide +kernel
theorem dX7_fill_30 : decode cX7_fill 30 = .ok (.goto (-27), 3) := by decide +kernel
theorem dX7_fill_33 : decode cX7_fill 33 = .ok (.return_, 1) := by decide +kernel
theorem dX8_init_0 : decode cX8_init 0 = .ok (.aload_n 0, 1) := by decide +kernel
theorem dX8_init_1 : decode cX8_init 1 = .ok (.invokespecial 1, 3) := by decide +kernel
theorem dX8_init_4 : decode cX8_init 4 = .ok (.aload_n 0, 1) := by decide +kernel
theorem dX8_init_5 : decode cX8_init 5 = .ok (.sipush 800, 3) := by decide +kernel
theorem dX8_init_8 : decode cX8_init 8 = .ok (.newarray .byte, 2) := by decide +kernel
theorem dX8_init_10 : decode cX8_init 10 = .ok (.putfield 9, 3) := by decide +kernel
theorem dX8_init_13 : decode cX8_init 13 = .ok (.return_, 1) := by decide +kernel
theorem dX8_append_0 : decode cX8_append 0 = .ok (.iload_n 3, 1) := by decide +kernel
theorem dX8_append_1 : decode cX8_append 1 = .ok (.sipush 800, 3) := by decide +kernel
theorem dX8_append_4 : decode cX8_append 4 = .ok (.aload_n 0, 1) := by decide +kernel
theorem dX8_append_5 : decode cX8_append 5 = .ok (.getfield 13, 3) := by decide +kernel
theorem dX8_append_8 : decode cX8_append 8 = .ok (.isub, 1) := by decide +kernel
theorem dX8_append_9 : decode cX8_append 9 = .ok (.if_icmp .le 5, 3) := by decide +kernel
theorem dX8_append_12 : decode cX8_append 12 = .ok (.iconst 0, 1) := by decide +kernel
theorem dX8_append_13 : decode cX8_append 13 = .ok (.ireturn, 1) := by decide +kernel
theorem dX8_append_14 : decode cX8_append 14 = .ok (.bipush 8, 2) := by decide +kernel
theorem dX8_append_16 : decode cX8_append 16 = .ok (.iload_n 3, 1) := by decide +kernel
theorem dX8_append_17 : decode cX8_append 17 = .ok (.iconst 1, 1) := by decide +kernel
theorem dX8_append_18 : decode cX8_append 18 = .ok (.isub, 1) := by decide +kernel
theorem dX8_append_19 : decode cX8_append 19 = .ok (.imul, 1) := by decide +kernel
theorem dX8_append_20 : decode cX8_append 20 = .ok (.istore 4, 2) := by decide +kernel
theorem dX8_append_22 : decode cX8_append 22 = .ok (.iload 4, 2) := by decide +kernel
theorem dX8_append_24 : decode cX8_append 24 = .ok (.ifCond .lt 34, 3) := by decide +kernel
theorem dX8_append_27 : decode cX8_append 27 = .ok (.aload_n 0, 1) := by decide +kernel
theorem dX8_append_28 : decode cX8_append 28 = .ok (.getfield 9, 3) := by decide +kernel
theorem dX8_append_31 : decode cX8_append 31 = .ok (.aload_n 0, 1) := by decide +kernel
theorem dX8_append_32 : decode cX8_append 32 = .ok (.getfield 13, 3) := by decide +kernel
theorem dX8_append_35 : decode cX8_append 35 = .ok (.lload_n 1, 1) := by decide +kernel
theorem dX8_append_36 : decode cX8_append 36 = .ok (.iload 4, 2) := by decide +kernel
theorem dX8_append_38 : decode cX8_append 38 = .ok (.lushr, 1) := by decide +kernel
theorem dX8_append_39 : decode cX8_append 39 = .ok (.l2i, 1) := by decide +kernel
theorem dX8_append_40 : decode cX8_append 40 = .ok (.i2b, 1) := by decide +kernel
theorem dX8_append_41 : decode cX8_append 41 = .ok (.bastore, 1) := by decide +kernel
theorem dX8_append_42 : decode cX8_append 42 = .ok (.aload_n 0, 1) := by decide +kernel
theorem dX8_append_43 : decode cX8_append 43 = .ok (.dup, 1) := by decide +kernel
theorem dX8_append_44 : decode cX8_append 44 = .ok (.getfield 13, 3) := by decide +kernel
theorem dX8_append_47 : decode cX8_append 47 = .ok (.iconst 1, 1) := by decide +kernel
theorem dX8_append_48 : decode cX8_append 48 = .ok (.iadd, 1) := by decide +kernel
theorem dX8_append_49 : decode cX8_append 49 = .ok (.putfield 13, 3) := by decide +kernel
theorem dX8_append_52 : decode cX8_append 52 = .ok (.iinc 4 (-8), 3) := by decide +kernel
theorem dX8_append_55 : decode cX8_append 55 = .ok (.goto (-33), 3) := by decide +kernel
theorem dX8_append_58 : decode cX8_append 58 = .ok (.iconst 1, 1) := by decide +kernel
theorem dX8_append_59 : decode cX8_append 59 = .ok (.ireturn, 1) := by decide +kernel
theorem dX8_clear_0 : decode cX8_clear 0 = .ok (.aload_n 0, 1) := by decide +kernel
theorem dX8_clear_1 : decode cX8_clear 1 = .ok (.iconst 0, 1) := by decide +kernel
theorem dX8_clear_2 : decode cX8_clear 2 = .ok (.putfield 13, 3) := by decide +kernel
theorem dX8_clear_5 : decode cX8_clear 5 = .ok (.return_, 1) := by decide +kernel
theorem dX8_rewind_0 : decode cX8_rewind 0 = .ok (.aload_n 0, 1) := by decide +kernel
theorem dX8_rewind_1 : decode cX8_rewind 1 = .ok (.iconst 0, 1) := by decide +kernel
theorem dX8_rewind_2 : decode cX8_rewind 2 = .ok (.putfield 17, 3) := by decide +kernel
theorem dX8_rewind_5 : decode cX8_rewind 5 = .ok (.aload_n 0, 1) := by decide +kernel
theorem dX8_rewind_6 : decode cX8_rewind 6 = .ok (.invokevirtual 20, 3) := by decide +kernel
theorem dX8_rewind_9 : decode cX8_rewind 9 = .ok (.return_, 1) := by decide +kernel
theorem dX8_next_0 : decode cX8_next 0 = .ok (.aload_n 0, 1) := by decide +kernel
theorem dX8_next_1 : decode cX8_next 1 = .ok (.aload_n 0, 1) := by decide +kernel
theorem dX8_next_2 : decode cX8_next 2 = .ok (.getfield 17, 3) := by decide +kernel
theorem dX8_next_5 : decode cX8_next 5 = .ok (.putfield 23, 3) := by decide +kernel
theorem dX8_next_8 : decode cX8_next 8 = .ok (.aload_n 0, 1) := by decide +kernel
theorem dX8_next_9 : decode cX8_next 9 = .ok (.getfield 23, 3) := by decide +kernel
theorem dX8_next_12 : decode cX8_next 12 = .ok (.aload_n 0, 1) := by decide +kernel
theorem dX8_next_13 : decode cX8_next 13 = .ok (.getfield 13, 3) := by decide +kernel
theorem dX8_next_16 : decode cX8_next 16 = .ok (.if_icmp .ge 54, 3) := by decide +kernel
theorem dX8_next_19 : decode cX8_next 19 = .ok (.aload_n 0, 1) := by decide +kernel
theorem dX8_next_20 : decode cX8_next 20 = .ok (.getfield 23, 3) := by decide +kernel
theorem dX8_next_23 : decode cX8_next 23 = .ok (.sipush 800, 3) := by decide +kernel
theorem dX8_next_26 : decode cX8_next 26 = .ok (.if_icmp .ge 44, 3) := by decide +kernel
theorem dX8_next_29 : decode cX8_next 29 = .ok (.aload_n 0, 1) := by decide +kernel
theorem dX8_next_30 : decode cX8_next 30 = .ok (.getfield 9, 3) := by decide +kernel
theorem dX8_next_33 : decode cX8_next 33 = .ok (.aload_n 0, 1) := by decide +kernel
theorem dX8_next_34 : decode cX8_next 34 = .ok (.getfield 23, 3) := by decide +kernel
theorem dX8_next_37 : decode cX8_next 37 = .ok (.baload, 1) := by decide +kernel
theorem dX8_next_38 : decode cX8_next 38 = .ok (.bipush 32, 2) := by decide +kernel
theorem dX8_next_40 : decode cX8_next 40 = .ok (.if_icmp .eq 17, 3) := by decide +kernel
theorem dX8_next_43 : decode cX8_next 43 = .ok (.aload_n 0, 1) := by decide +kernel
theorem dX8_next_44 : decode cX8_next 44 = .ok (.getfield 9, 3) := by decide +kernel
theorem dX8_next_47 : decode cX8_next 47 = .ok (.aload_n 0, 1) := by decide +kernel
theorem dX8_next_48 : decode cX8_next 48 = .ok (.getfield 23, 3) := by decide +kernel
theorem dX8_next_51 : decode cX8_next 51 = .ok (.baload, 1) := by decide +kernel
theorem dX8_next_52 : decode cX8_next 52 = .ok (.bipush 10, 2) := by decide +kernel
theorem dX8_next_54 : decode cX8_next 54 = .ok (.if_icmp .ne 16, 3) := by decide +kernel
theorem dX8_next_57 : decode cX8_next 57 = .ok (.aload_n 0, 1) := by decide +kernel
theorem dX8_next_58 : decode cX8_next 58 = .ok (.dup, 1) := by decide +kernel
theorem dX8_next_59 : decode cX8_next 59 = .ok (.getfield 23, 3) := by decide +kernel
theorem dX8_next_62 : decode cX8_next 62 = .ok (.iconst 1, 1) := by decide +kernel
theorem dX8_next_63 : decode cX8_next 63 = .ok (.iadd, 1) := by decide +kernel
theorem dX8_next_64 : decode cX8_next 64 = .ok (.putfield 23, 3) := by decide +kernel
theorem dX8_next_67 : decode cX8_next 67 = .ok (.goto (-59), 3) := by decide +kernel
theorem dX8_next_70 : decode cX8_next 70 = .ok (.aload_n 0, 1) := by decide +kernel
theorem dX8_next_71 : decode cX8_next 71 = .ok (.aload_n 0, 1) := by decide +kernel
theorem dX8_next_72 : decode cX8_next 72 = .ok (.getfield 23, 3) := by decide +kernel
theorem dX8_next_75 : decode cX8_next 75 = .ok (.putfield 17, 3) := by decide +kernel
theorem dX8_next_78 : decode cX8_next 78 = .ok (.aload_n 0, 1) := by decide +kernel
theorem dX8_next_79 : decode cX8_next 79 = .ok (.getfield 23, 3) := by decide +kernel
theorem dX8_next_82 : decode cX8_next 82 = .ok (.aload_n 0, 1) := by decide +kernel
theorem dX8_next_83 : decode cX8_next 83 = .ok (.getfield 13, 3) := by decide +kernel
theorem dX8_next_86 : decode cX8_next 86 = .ok (.if_icmp .ge 13, 3) := by decide +kernel
theorem dX8_next_89 : decode cX8_next 89 = .ok (.aload_n 0, 1) := by decide +kernel
theorem dX8_next_90 : decode cX8_next 90 = .ok (.getfield 23, 3) := by decide +kernel
theorem dX8_next_93 : decode cX8_next 93 = .ok (.sipush 800, 3) := by decide +kernel
theorem dX8_next_96 : decode cX8_next 96 = .ok (.if_icmp .lt 9, 3) := by decide +kernel
theorem dX8_next_99 : decode cX8_next 99 = .ok (.aload_n 0, 1) := by decide +kernel
theorem dX8_next_100 : decode cX8_next 100 = .ok (.iconst 0, 1) := by decide +kernel
theorem dX8_next_101 : decode cX8_next 101 = .ok (.putfield 26, 3) := by decide +kernel
theorem dX8_next_104 : decode cX8_next 104 = .ok (.return_, 1) := by decide +kernel
theorem dX8_next_105 : decode cX8_next 105 = .ok (.aload_n 0, 1) := by decide +kernel
theorem dX8_next_106 : decode cX8_next 106 = .ok (.getfield 9, 3) := by decide +kernel
theorem dX8_next_109 : decode cX8_next 109 = .ok (.aload_n 0, 1) := by decide +kernel
theorem dX8_next_110 : decode cX8_next 110 = .ok (.getfield 23, 3) := by decide +kernel
theorem dX8_next_113 : decode cX8_next 113 = .ok (.baload, 1) := by decide +kernel
theorem dX8_next_114 : decode cX8_next 114 = .ok (.istore_n 1, 1) := by decide +kernel
theorem dX8_next_115 : decode cX8_next 115 = .ok (.iload_n 1, 1) := by decide +kernel
theorem dX8_next_116 : decode cX8_next 116 = .ok (.bipush 97, 2) := by decide +kernel
theorem dX8_next_118 : decode cX8_next 118 = .ok (.if_icmp .lt 51, 3) := by decide +kernel
theorem dX8_next_121 : decode cX8_next 121 = .ok (.iload_n 1, 1) := by decide +kernel
theorem dX8_next_122 : decode cX8_next 122 = .ok (.bipush 122, 2) := by decide +kernel
theorem dX8_next_124 : decode cX8_next 124 = .ok (.if_icmp .gt 45, 3) := by decide +kernel
theorem dX8_next_127 : decode cX8_next 127 = .ok (.aload_n 0, 1) := by decide +kernel
theorem dX8_next_128 : decode cX8_next 128 = .ok (.aload_n 0, 1) := by decide +kernel
theorem dX8_next_129 : decode cX8_next 129 = .ok (.bipush 97, 2) := by decide +kernel
theorem dX8_next_131 : decode cX8_next 131 = .ok (.bipush 122, 2) := by decide +kernel
theorem dX8_next_133 : decode cX8_next 133 = .ok (.bipush 96, 2) := by decide +kernel
theorem dX8_next_135 : decode cX8_next 135 = .ok (.bipush 27, 2) := by decide +kernel
theorem dX8_next_137 : decode cX8_next 137 = .ok (.invokevirtual 29, 3) := by decide +kernel
theorem dX8_next_140 : decode cX8_next 140 = .ok (.putfield 33, 3) := by decide +kernel
theorem dX8_next_143 : decode cX8_next 143 = .ok (.aload_n 0, 1) := by decide +kernel
theorem dX8_next_144 : decode cX8_next 144 = .ok (.aload_n 0, 1) := by decide +kernel
theorem dX8_next_145 : decode cX8_next 145 = .ok (.getfield 17, 3) := by decide +kernel
theorem dX8_next_148 : decode cX8_next 148 = .ok (.aload_n 0, 1) := by decide +kernel
theorem dX8_next_149 : decode cX8_next 149 = .ok (.getfield 23, 3) := by decide +kernel
theorem dX8_next_152 : decode cX8_next 152 = .ok (.isub, 1) := by decide +kernel
theorem dX8_next_153 : decode cX8_next 153 = .ok (.bipush 6, 2) := by decide +kernel
theorem dX8_next_155 : decode cX8_next 155 = .ok (.if_icmp .le 7, 3) := by decide +kernel
theorem dX8_next_158 : decode cX8_next 158 = .ok (.iconst 4, 1) := by decide +kernel
theorem dX8_next_159 : decode cX8_next 159 = .ok (.goto 4, 3) := by decide +kernel
theorem dX8_next_162 : decode cX8_next 162 = .ok (.iconst 1, 1) := by decide +kernel
theorem dX8_next_163 : decode cX8_next 163 = .ok (.putfield 26, 3) := by decide +kernel
theorem dX8_next_166 : decode cX8_next 166 = .ok (.goto 101, 3) := by decide +kernel
theorem dX8_next_169 : decode cX8_next 169 = .ok (.iload_n 1, 1) := by decide +kernel
theorem dX8_next_170 : decode cX8_next 170 = .ok (.bipush 48, 2) := by decide +kernel
theorem dX8_next_172 : decode cX8_next 172 = .ok (.if_icmp .lt 50, 3) := by decide +kernel
theorem dX8_next_175 : decode cX8_next 175 = .ok (.iload_n 1, 1) := by decide +kernel
theorem dX8_next_176 : decode cX8_next 176 = .ok (.bipush 57, 2) := by decide +kernel
theorem dX8_next_178 : decode cX8_next 178 = .ok (.if_icmp .gt 44, 3) := by decide +kernel
theorem dX8_next_181 : decode cX8_next 181 = .ok (.aload_n 0, 1) := by decide +kernel
theorem dX8_next_182 : decode cX8_next 182 = .ok (.aload_n 0, 1) := by decide +kernel
theorem dX8_next_183 : decode cX8_next 183 = .ok (.bipush 48, 2) := by decide +kernel
theorem dX8_next_185 : decode cX8_next 185 = .ok (.bipush 57, 2) := by decide +kernel
theorem dX8_next_187 : decode cX8_next 187 = .ok (.bipush 48, 2) := by decide +kernel
theorem dX8_next_189 : decode cX8_next 189 = .ok (.bipush 10, 2) := by decide +kernel
theorem dX8_next_191 : decode cX8_next 191 = .ok (.invokevirtual 29, 3) := by decide +kernel
theorem dX8_next_194 : decode cX8_next 194 = .ok (.putfield 36, 3) := by decide +kernel
theorem dX8_next_197 : decode cX8_next 197 = .ok (.aload_n 0, 1) := by decide +kernel
theorem dX8_next_198 : decode cX8_next 198 = .ok (.aload_n 0, 1) := by decide +kernel
theorem dX8_next_199 : decode cX8_next 199 = .ok (.getfield 17, 3) := by decide +kernel
theorem dX8_next_202 : decode cX8_next 202 = .ok (.aload_n 0, 1) := by decide +kernel
theorem dX8_next_203 : decode cX8_next 203 = .ok (.getfield 23, 3) := by decide +kernel
theorem dX8_next_206 : decode cX8_next 206 = .ok (.isub, 1) := by decide +kernel
theorem dX8_next_207 : decode cX8_next 207 = .ok (.iconst 2, 1) := by decide +kernel
theorem dX8_next_208 : decode cX8_next 208 = .ok (.if_icmp .le 7, 3) := by decide +kernel
theorem dX8_next_211 : decode cX8_next 211 = .ok (.iconst 4, 1) := by decide +kernel
theorem dX8_next_212 : decode cX8_next 212 = .ok (.goto 4, 3) := by decide +kernel
theorem dX8_next_215 : decode cX8_next 215 = .ok (.iconst 2, 1) := by decide +kernel
theorem dX8_next_216 : decode cX8_next 216 = .ok (.putfield 26, 3) := by decide +kernel
theorem dX8_next_219 : decode cX8_next 219 = .ok (.goto 48, 3) := by decide +kernel
theorem dX8_next_222 : decode cX8_next 222 = .ok (.aload_n 0, 1) := by decide +kernel
theorem dX8_next_223 : decode cX8_next 223 = .ok (.aload_n 0, 1) := by decide +kernel
theorem dX8_next_224 : decode cX8_next 224 = .ok (.getfield 23, 3) := by decide +kernel
theorem dX8_next_227 : decode cX8_next 227 = .ok (.iconst 1, 1) := by decide +kernel
theorem dX8_next_228 : decode cX8_next 228 = .ok (.iadd, 1) := by decide +kernel
theorem dX8_next_229 : decode cX8_next 229 = .ok (.putfield 17, 3) := by decide +kernel
theorem dX8_next_232 : decode cX8_next 232 = .ok (.aload_n 0, 1) := by decide +kernel
theorem dX8_next_233 : decode cX8_next 233 = .ok (.iload_n 1, 1) := by decide +kernel
theorem dX8_next_234 : decode cX8_next 234 = .ok (.sipush 255, 3) := by decide +kernel
theorem dX8_next_237 : decode cX8_next 237 = .ok (.iand, 1) := by decide +kernel
theorem dX8_next_238 : decode cX8_next 238 = .ok (.i2c, 1) := by decide +kernel
theorem dX8_next_239 : decode cX8_next 239 = .ok (.putfield 39, 3) := by decide +kernel
theorem dX8_next_242 : decode cX8_next 242 = .ok (.aload_n 0, 1) := by decide +kernel
theorem dX8_next_243 : decode cX8_next 243 = .ok (.ldc 43, 2) := by decide +kernel
theorem dX8_next_245 : decode cX8_next 245 = .ok (.aload_n 0, 1) := by decide +kernel
theorem dX8_next_246 : decode cX8_next 246 = .ok (.getfield 39, 3) := by decide +kernel
theorem dX8_next_249 : decode cX8_next 249 = .ok (.invokevirtual 45, 3) := by decide +kernel
theorem dX8_next_252 : decode cX8_next 252 = .ok (.ifCond .ge 7, 3) := by decide +kernel
theorem dX8_next_255 : decode cX8_next 255 = .ok (.iconst 4, 1) := by decide +kernel
theorem dX8_next_256 : decode cX8_next 256 = .ok (.goto 4, 3) := by decide +kernel
theorem dX8_next_259 : decode cX8_next 259 = .ok (.iconst 3, 1) := by decide +kernel
theorem dX8_next_260 : decode cX8_next 260 = .ok (.putfield 26, 3) := by decide +kernel
theorem dX8_next_263 : decode cX8_next 263 = .ok (.aload_n 0, 1) := by decide +kernel
theorem dX8_next_264 : decode cX8_next 264 = .ok (.invokevirtual 51, 3) := by decide +kernel
theorem dX8_next_267 : decode cX8_next 267 = .ok (.return_, 1) := by decide +kernel
theorem dX8_readRun_0 : decode cX8_readRun 0 = .ok (.iconst 0, 1) := by decide +kernel
theorem dX8_readRun_1 : decode cX8_readRun 1 = .ok (.istore 5, 2) := by decide +kernel
theorem dX8_readRun_3 : decode cX8_readRun 3 = .ok (.aload_n 0, 1) := by decide +kernel
theorem dX8_readRun_4 : decode cX8_readRun 4 = .ok (.getfield 17, 3) := by decide +kernel
theorem dX8_readRun_7 : decode cX8_readRun 7 = .ok (.aload_n 0, 1) := by decide +kernel
theorem dX8_readRun_8 : decode cX8_readRun 8 = .ok (.getfield 13, 3) := by decide +kernel
theorem dX8_readRun_11 : decode cX8_readRun 11 = .ok (.if_icmp .ge 71, 3) := by decide +kernel
theorem dX8_readRun_14 : decode cX8_readRun 14 = .ok (.aload_n 0, 1) := by decide +kernel
theorem dX8_readRun_15 : decode cX8_readRun 15 = .ok (.getfield 17, 3) := by decide +kernel
theorem dX8_readRun_18 : decode cX8_readRun 18 = .ok (.sipush 800, 3) := by decide +kernel
theorem dX8_readRun_21 : decode cX8_readRun 21 = .ok (.if_icmp .ge 61, 3) := by decide +kernel
theorem dX8_readRun_24 : decode cX8_readRun 24 = .ok (.aload_n 0, 1) := by decide +kernel
theorem dX8_readRun_25 : decode cX8_readRun 25 = .ok (.getfield 9, 3) := by decide +kernel
theorem dX8_readRun_28 : decode cX8_readRun 28 = .ok (.aload_n 0, 1) := by decide +kernel
theorem dX8_readRun_29 : decode cX8_readRun 29 = .ok (.getfield 17, 3) := by decide +kernel
theorem dX8_readRun_32 : decode cX8_readRun 32 = .ok (.baload, 1) := by decide +kernel
theorem dX8_readRun_33 : decode cX8_readRun 33 = .ok (.iload_n 1, 1) := by decide +kernel
theorem dX8_readRun_34 : decode cX8_readRun 34 = .ok (.if_icmp .lt 48, 3) := by decide +kernel
theorem dX8_readRun_37 : decode cX8_readRun 37 = .ok (.aload_n 0, 1) := by decide +kernel
theorem dX8_readRun_38 : decode cX8_readRun 38 = .ok (.getfield 9, 3) := by decide +kernel
theorem dX8_readRun_41 : decode cX8_readRun 41 = .ok (.aload_n 0, 1) := by decide +kernel
theorem dX8_readRun_42 : decode cX8_readRun 42 = .ok (.getfield 17, 3) := by decide +kernel
theorem dX8_readRun_45 : decode cX8_readRun 45 = .ok (.baload, 1) := by decide +kernel
theorem dX8_readRun_46 : decode cX8_readRun 46 = .ok (.iload_n 2, 1) := by decide +kernel
theorem dX8_readRun_47 : decode cX8_readRun 47 = .ok (.if_icmp .gt 35, 3) := by decide +kernel
theorem dX8_readRun_50 : decode cX8_readRun 50 = .ok (.iload 5, 2) := by decide +kernel
theorem dX8_readRun_52 : decode cX8_readRun 52 = .ok (.iload 4, 2) := by decide +kernel
theorem dX8_readRun_54 : decode cX8_readRun 54 = .ok (.imul, 1) := by decide +kernel
theorem dX8_readRun_55 : decode cX8_readRun 55 = .ok (.aload_n 0, 1) := by decide +kernel
theorem dX8_readRun_56 : decode cX8_readRun 56 = .ok (.getfield 9, 3) := by decide +kernel
theorem dX8_readRun_59 : decode cX8_readRun 59 = .ok (.aload_n 0, 1) := by decide +kernel
theorem dX8_readRun_60 : decode cX8_readRun 60 = .ok (.getfield 17, 3) := by decide +kernel
theorem dX8_readRun_63 : decode cX8_readRun 63 = .ok (.baload, 1) := by decide +kernel
theorem dX8_readRun_64 : decode cX8_readRun 64 = .ok (.iadd, 1) := by decide +kernel
theorem dX8_readRun_65 : decode cX8_readRun 65 = .ok (.iload_n 3, 1) := by decide +kernel
theorem dX8_readRun_66 : decode cX8_readRun 66 = .ok (.isub, 1) := by decide +kernel
theorem dX8_readRun_67 : decode cX8_readRun 67 = .ok (.istore 5, 2) := by decide +kernel
theorem dX8_readRun_69 : decode cX8_readRun 69 = .ok (.aload_n 0, 1) := by decide +kernel
theorem dX8_readRun_70 : decode cX8_readRun 70 = .ok (.dup, 1) := by decide +kernel
theorem dX8_readRun_71 : decode cX8_readRun 71 = .ok (.getfield 17, 3) := by decide +kernel
theorem dX8_readRun_74 : decode cX8_readRun 74 = .ok (.iconst 1, 1) := by decide +kernel
theorem dX8_readRun_75 : decode cX8_readRun 75 = .ok (.iadd, 1) := by decide +kernel
theorem dX8_readRun_76 : decode cX8_readRun 76 = .ok (.putfield 17, 3) := by decide +kernel
theorem dX8_readRun_79 : decode cX8_readRun 79 = .ok (.goto (-76), 3) := by decide +kernel
theorem dX8_readRun_82 : decode cX8_readRun 82 = .ok (.iload 5, 2) := by decide +kernel
theorem dX8_readRun_84 : decode cX8_readRun 84 = .ok (.ireturn, 1) := by decide +kernel
theorem dX8_joinArrow_0 : decode cX8_joinArrow 0 = .ok (.aload_n 0, 1) := by decide +kernel
theorem dX8_joinArrow_1 : decode cX8_joinArrow 1 = .ok (.getfield 39, 3) := by decide +kernel
theorem dX8_joinArrow_4 : decode cX8_joinArrow 4 = .ok (.bipush 45, 2) := by decide +kernel
theorem dX8_joinArrow_6 : decode cX8_joinArrow 6 = .ok (.if_icmp .ne 54, 3) := by decide +kernel
theorem dX8_joinArrow_9 : decode cX8_joinArrow 9 = .ok (.aload_n 0, 1) := by decide +kernel
theorem dX8_joinArrow_10 : decode cX8_joinArrow 10 = .ok (.getfield 17, 3) := by decide +kernel
theorem dX8_joinArrow_13 : decode cX8_joinArrow 13 = .ok (.aload_n 0, 1) := by decide +kernel
theorem dX8_joinArrow_14 : decode cX8_joinArrow 14 = .ok (.getfield 13, 3) := by decide +kernel
theorem dX8_joinArrow_17 : decode cX8_joinArrow 17 = .ok (.if_icmp .ge 43, 3) := by decide +kernel
theorem dX8_joinArrow_20 : decode cX8_joinArrow 20 = .ok (.aload_n 0, 1) := by decide +kernel
theorem dX8_joinArrow_21 : decode cX8_joinArrow 21 = .ok (.getfield 17, 3) := by decide +kernel
theorem dX8_joinArrow_24 : decode cX8_joinArrow 24 = .ok (.sipush 800, 3) := by decide +kernel
theorem dX8_joinArrow_27 : decode cX8_joinArrow 27 = .ok (.if_icmp .ge 33, 3) := by decide +kernel
theorem dX8_joinArrow_30 : decode cX8_joinArrow 30 = .ok (.aload_n 0, 1) := by decide +kernel
theorem dX8_joinArrow_31 : decode cX8_joinArrow 31 = .ok (.getfield 9, 3) := by decide +kernel
theorem dX8_joinArrow_34 : decode cX8_joinArrow 34 = .ok (.aload_n 0, 1) := by decide +kernel
theorem dX8_joinArrow_35 : decode cX8_joinArrow 35 = .ok (.getfield 17, 3) := by decide +kernel
theorem dX8_joinArrow_38 : decode cX8_joinArrow 38 = .ok (.baload, 1) := by decide +kernel
theorem dX8_joinArrow_39 : decode cX8_joinArrow 39 = .ok (.bipush 62, 2) := by decide +kernel
theorem dX8_joinArrow_41 : decode cX8_joinArrow 41 = .ok (.if_icmp .ne 19, 3) := by decide +kernel
theorem dX8_joinArrow_44 : decode cX8_joinArrow 44 = .ok (.aload_n 0, 1) := by decide +kernel
theorem dX8_joinArrow_45 : decode cX8_joinArrow 45 = .ok (.bipush 65, 2) := by decide +kernel
theorem dX8_joinArrow_47 : decode cX8_joinArrow 47 = .ok (.putfield 39, 3) := by decide +kernel
theorem dX8_joinArrow_50 : decode cX8_joinArrow 50 = .ok (.aload_n 0, 1) := by decide +kernel
theorem dX8_joinArrow_51 : decode cX8_joinArrow 51 = .ok (.dup, 1) := by decide +kernel
theorem dX8_joinArrow_52 : decode cX8_joinArrow 52 = .ok (.getfield 17, 3) := by decide +kernel
theorem dX8_joinArrow_55 : decode cX8_joinArrow 55 = .ok (.iconst 1, 1) := by decide +kernel
theorem dX8_joinArrow_56 : decode cX8_joinArrow 56 = .ok (.iadd, 1) := by decide +kernel
theorem dX8_joinArrow_57 : decode cX8_joinArrow 57 = .ok (.putfield 17, 3) := by decide +kernel
theorem dX8_joinArrow_60 : decode cX8_joinArrow 60 = .ok (.return_, 1) := by decide +kernel
theorem dX8_isSign_0 : decode cX8_isSign 0 = .ok (.aload_n 0, 1) := by decide +kernel
theorem dX8_isSign_1 : decode cX8_isSign 1 = .ok (.getfield 26, 3) := by decide +kernel
theorem dX8_isSign_4 : decode cX8_isSign 4 = .ok (.iconst 3, 1) := by decide +kernel
theorem dX8_isSign_5 : decode cX8_isSign 5 = .ok (.if_icmp .ne 15, 3) := by decide +kernel
theorem dX8_isSign_8 : decode cX8_isSign 8 = .ok (.aload_n 0, 1) := by decide +kernel
theorem dX8_isSign_9 : decode cX8_isSign 9 = .ok (.getfield 39, 3) := by decide +kernel
theorem dX8_isSign_12 : decode cX8_isSign 12 = .ok (.iload_n 1, 1) := by decide +kernel
theorem dX8_isSign_13 : decode cX8_isSign 13 = .ok (.if_icmp .ne 7, 3) := by decide +kernel
theorem dX8_isSign_16 : decode cX8_isSign 16 = .ok (.iconst 1, 1) := by decide +kernel
theorem dX8_isSign_17 : decode cX8_isSign 17 = .ok (.goto 4, 3) := by decide +kernel
theorem dX8_isSign_20 : decode cX8_isSign 20 = .ok (.iconst 0, 1) := by decide +kernel
theorem dX8_isSign_21 : decode cX8_isSign 21 = .ok (.ireturn, 1) := by decide +kernel
theorem dX8_isWord_0 : decode cX8_isWord 0 = .ok (.aload_n 1, 1) := by decide +kernel
theorem dX8_isWord_1 : decode cX8_isWord 1 = .ok (.invokevirtual 54, 3) := by decide +kernel
theorem dX8_isWord_4 : decode cX8_isWord 4 = .ok (.istore_n 2, 1) := by decide +kernel
theorem dX8_isWord_5 : decode cX8_isWord 5 = .ok (.aload_n 0, 1) := by decide +kernel
theorem dX8_isWord_6 : decode cX8_isWord 6 = .ok (.getfield 26, 3) := by decide +kernel
theorem dX8_isWord_9 : decode cX8_isWord 9 = .ok (.iconst 1, 1) := by decide +kernel
theorem dX8_isWord_10 : decode cX8_isWord 10 = .ok (.if_icmp .ne 26, 3) := by decide +kernel
theorem dX8_isWord_13 : decode cX8_isWord 13 = .ok (.aload_n 0, 1) := by decide +kernel
theorem dX8_isWord_14 : decode cX8_isWord 14 = .ok (.getfield 17, 3) := by decide +kernel
theorem dX8_isWord_17 : decode cX8_isWord 17 = .ok (.aload_n 0, 1) := by decide +kernel
theorem dX8_isWord_18 : decode cX8_isWord 18 = .ok (.getfield 23, 3) := by decide +kernel
theorem dX8_isWord_21 : decode cX8_isWord 21 = .ok (.isub, 1) := by decide +kernel
theorem dX8_isWord_22 : decode cX8_isWord 22 = .ok (.iload_n 2, 1) := by decide +kernel
theorem dX8_isWord_23 : decode cX8_isWord 23 = .ok (.if_icmp .ne 13, 3) := by decide +kernel
theorem dX8_isWord_26 : decode cX8_isWord 26 = .ok (.aload_n 0, 1) := by decide +kernel
theorem dX8_isWord_27 : decode cX8_isWord 27 = .ok (.getfield 17, 3) := by decide +kernel
theorem dX8_isWord_30 : decode cX8_isWord 30 = .ok (.sipush 800, 3) := by decide +kernel
theorem dX8_isWord_33 : decode cX8_isWord 33 = .ok (.if_icmp .le 5, 3) := by decide +kernel
theorem dX8_isWord_36 : decode cX8_isWord 36 = .ok (.iconst 0, 1) := by decide +kernel
theorem dX8_isWord_37 : decode cX8_isWord 37 = .ok (.ireturn, 1) := by decide +kernel
theorem dX8_isWord_38 : decode cX8_isWord 38 = .ok (.iconst 0, 1) := by decide +kernel
theorem dX8_isWord_39 : decode cX8_isWord 39 = .ok (.istore_n 3, 1) := by decide +kernel
theorem dX8_isWord_40 : decode cX8_isWord 40 = .ok (.iload_n 3, 1) := by decide +kernel
theorem dX8_isWord_41 : decode cX8_isWord 41 = .ok (.iload_n 2, 1) := by decide +kernel
theorem dX8_isWord_42 : decode cX8_isWord 42 = .ok (.if_icmp .ge 30, 3) := by decide +kernel
theorem dX8_isWord_45 : decode cX8_isWord 45 = .ok (.aload_n 0, 1) := by decide +kernel
theorem dX8_isWord_46 : decode cX8_isWord 46 = .ok (.getfield 9, 3) := by decide +kernel
theorem dX8_isWord_49 : decode cX8_isWord 49 = .ok (.aload_n 0, 1) := by decide +kernel
theorem dX8_isWord_50 : decode cX8_isWord 50 = .ok (.getfield 23, 3) := by decide +kernel
theorem dX8_isWord_53 : decode cX8_isWord 53 = .ok (.iload_n 3, 1) := by decide +kernel
theorem dX8_isWord_54 : decode cX8_isWord 54 = .ok (.iadd, 1) := by decide +kernel
theorem dX8_isWord_55 : decode cX8_isWord 55 = .ok (.baload, 1) := by decide +kernel
theorem dX8_isWord_56 : decode cX8_isWord 56 = .ok (.aload_n 1, 1) := by decide +kernel
theorem dX8_isWord_57 : decode cX8_isWord 57 = .ok (.iload_n 3, 1) := by decide +kernel
theorem dX8_isWord_58 : decode cX8_isWord 58 = .ok (.invokevirtual 57, 3) := by decide +kernel
theorem dX8_isWord_61 : decode cX8_isWord 61 = .ok (.if_icmp .eq 5, 3) := by decide +kernel
theorem dX8_isWord_64 : decode cX8_isWord 64 = .ok (.iconst 0, 1) := by decide +kernel
theorem dX8_isWord_65 : decode cX8_isWord 65 = .ok (.ireturn, 1) := by decide +kernel
theorem dX8_isWord_66 : decode cX8_isWord 66 = .ok (.iinc 3 1, 3) := by decide +kernel
theorem dX8_isWord_69 : decode cX8_isWord 69 = .ok (.goto (-29), 3) := by decide +kernel
theorem dX8_isWord_72 : decode cX8_isWord 72 = .ok (.iconst 1, 1) := by decide +kernel
theorem dX8_isWord_73 : decode cX8_isWord 73 = .ok (.ireturn, 1) := by decide +kernel
theorem dX9_init_0 : decode cX9_init 0 = .ok (.aload_n 0, 1) := by decide +kernel
theorem dX9_init_1 : decode cX9_init 1 = .ok (.invokespecial 1, 3) := by decide +kernel
theorem dX9_init_4 : decode cX9_init 4 = .ok (.aload_n 0, 1) := by decide +kernel
theorem dX9_init_5 : decode cX9_init 5 = .ok (.iconst 3, 1) := by decide +kernel
theorem dX9_init_6 : decode cX9_init 6 = .ok (.newarray .int, 2) := by decide +kernel
theorem dX9_init_8 : decode cX9_init 8 = .ok (.putfield 9, 3) := by decide +kernel
theorem dX9_init_11 : decode cX9_init 11 = .ok (.aload_n 0, 1) := by decide +kernel
theorem dX9_init_12 : decode cX9_init 12 = .ok (.iconst 3, 1) := by decide +kernel
theorem dX9_init_13 : decode cX9_init 13 = .ok (.newarray .int, 2) := by decide +kernel
theorem dX9_init_15 : decode cX9_init 15 = .ok (.putfield 13, 3) := by decide +kernel
theorem dX9_init_18 : decode cX9_init 18 = .ok (.aload_n 0, 1) := by decide +kernel
theorem dX9_init_19 : decode cX9_init 19 = .ok (.iconst 3, 1) := by decide +kernel
theorem dX9_init_20 : decode cX9_init 20 = .ok (.newarray .int, 2) := by decide +kernel
theorem dX9_init_22 : decode cX9_init 22 = .ok (.putfield 16, 3) := by decide +kernel
theorem dX9_init_25 : decode cX9_init 25 = .ok (.return_, 1) := by decide +kernel
theorem dX9_clear_0 : decode cX9_clear 0 = .ok (.aload_n 0, 1) := by decide +kernel
theorem dX9_clear_1 : decode cX9_clear 1 = .ok (.iconst 0, 1) := by decide +kernel
theorem dX9_clear_2 : decode cX9_clear 2 = .ok (.putfield 19, 3) := by decide +kernel
theorem dX9_clear_5 : decode cX9_clear 5 = .ok (.return_, 1) := by decide +kernel
theorem dX9_add_0 : decode cX9_add 0 = .ok (.aload_n 0, 1) := by decide +kernel
theorem dX9_add_1 : decode cX9_add 1 = .ok (.getfield 19, 3) := by decide +kernel
theorem dX9_add_4 : decode cX9_add 4 = .ok (.iconst 3, 1) := by decide +kernel
theorem dX9_add_5 : decode cX9_add 5 = .ok (.if_icmp .ge 43, 3) := by decide +kernel
theorem dX9_add_8 : decode cX9_add 8 = .ok (.aload_n 0, 1) := by decide +kernel
theorem dX9_add_9 : decode cX9_add 9 = .ok (.getfield 9, 3) := by decide +kernel
theorem dX9_add_12 : decode cX9_add 12 = .ok (.aload_n 0, 1) := by decide +kernel
theorem dX9_add_13 : decode cX9_add 13 = .ok (.getfield 19, 3) := by decide +kernel
theorem dX9_add_16 : decode cX9_add 16 = .ok (.iload_n 1, 1) := by decide +kernel
theorem dX9_add_17 : decode cX9_add 17 = .ok (.iastore, 1) := by decide +kernel
theorem dX9_add_18 : decode cX9_add 18 = .ok (.aload_n 0, 1) := by decide +kernel
theorem dX9_add_19 : decode cX9_add 19 = .ok (.getfield 13, 3) := by decide +kernel
theorem dX9_add_22 : decode cX9_add 22 = .ok (.aload_n 0, 1) := by decide +kernel
theorem dX9_add_23 : decode cX9_add 23 = .ok (.getfield 19, 3) := by decide +kernel
theorem dX9_add_26 : decode cX9_add 26 = .ok (.iload_n 2, 1) := by decide +kernel
theorem dX9_add_27 : decode cX9_add 27 = .ok (.iastore, 1) := by decide +kernel
theorem dX9_add_28 : decode cX9_add 28 = .ok (.aload_n 0, 1) := by decide +kernel
theorem dX9_add_29 : decode cX9_add 29 = .ok (.getfield 16, 3) := by decide +kernel
theorem dX9_add_32 : decode cX9_add 32 = .ok (.aload_n 0, 1) := by decide +kernel
theorem dX9_add_33 : decode cX9_add 33 = .ok (.getfield 19, 3) := by decide +kernel
theorem dX9_add_36 : decode cX9_add 36 = .ok (.iload_n 3, 1) := by decide +kernel
theorem dX9_add_37 : decode cX9_add 37 = .ok (.iastore, 1) := by decide +kernel
theorem dX9_add_38 : decode cX9_add 38 = .ok (.aload_n 0, 1) := by decide +kernel
theorem dX9_add_39 : decode cX9_add 39 = .ok (.dup, 1) := by decide +kernel
theorem dX9_add_40 : decode cX9_add 40 = .ok (.getfield 19, 3) := by decide +kernel
theorem dX9_add_43 : decode cX9_add 43 = .ok (.iconst 1, 1) := by decide +kernel
theorem dX9_add_44 : decode cX9_add 44 = .ok (.iadd, 1) := by decide +kernel
theorem dX9_add_45 : decode cX9_add 45 = .ok (.putfield 19, 3) := by decide +kernel
theorem dX9_add_48 : decode cX9_add 48 = .ok (.return_, 1) := by decide +kernel
theorem dX9_allHold_0 : decode cX9_allHold 0 = .ok (.iconst 0, 1) := by decide +kernel
theorem dX9_allHold_1 : decode cX9_allHold 1 = .ok (.istore_n 2, 1) := by decide +kernel
theorem dX9_allHold_2 : decode cX9_allHold 2 = .ok (.iload_n 2, 1) := by decide +kernel
theorem dX9_allHold_3 : decode cX9_allHold 3 = .ok (.aload_n 0, 1) := by decide +kernel
theorem dX9_allHold_4 : decode cX9_allHold 4 = .ok (.getfield 19, 3) := by decide +kernel
theorem dX9_allHold_7 : decode cX9_allHold 7 = .ok (.if_icmp .ge 84, 3) := by decide +kernel
theorem dX9_allHold_10 : decode cX9_allHold 10 = .ok (.iload_n 2, 1) := by decide +kernel
theorem dX9_allHold_11 : decode cX9_allHold 11 = .ok (.iconst 3, 1) := by decide +kernel
theorem dX9_allHold_12 : decode cX9_allHold 12 = .ok (.if_icmp .ge 79, 3) := by decide +kernel
theorem dX9_allHold_15 : decode cX9_allHold 15 = .ok (.aload_n 0, 1) := by decide +kernel
theorem dX9_allHold_16 : decode cX9_allHold 16 = .ok (.getfield 9, 3) := by decide +kernel
theorem dX9_allHold_19 : decode cX9_allHold 19 = .ok (.iload_n 2, 1) := by decide +kernel
theorem dX9_allHold_20 : decode cX9_allHold 20 = .ok (.iaload, 1) := by decide +kernel
theorem dX9_allHold_21 : decode cX9_allHold 21 = .ok (.istore_n 3, 1) := by decide +kernel
theorem dX9_allHold_22 : decode cX9_allHold 22 = .ok (.iload_n 3, 1) := by decide +kernel
theorem dX9_allHold_23 : decode cX9_allHold 23 = .ok (.ifCond .lt 9, 3) := by decide +kernel
theorem dX9_allHold_26 : decode cX9_allHold 26 = .ok (.iload_n 3, 1) := by decide +kernel
theorem dX9_allHold_27 : decode cX9_allHold 27 = .ok (.aload_n 1, 1) := by decide +kernel
theorem dX9_allHold_28 : decode cX9_allHold 28 = .ok (.arraylength, 1) := by decide +kernel
theorem dX9_allHold_29 : decode cX9_allHold 29 = .ok (.if_icmp .lt 5, 3) := by decide +kernel
theorem dX9_allHold_32 : decode cX9_allHold 32 = .ok (.iconst 0, 1) := by decide +kernel
theorem dX9_allHold_33 : decode cX9_allHold 33 = .ok (.ireturn, 1) := by decide +kernel
theorem dX9_allHold_34 : decode cX9_allHold 34 = .ok (.aload_n 1, 1) := by decide +kernel
theorem dX9_allHold_35 : decode cX9_allHold 35 = .ok (.iload_n 3, 1) := by decide +kernel
theorem dX9_allHold_36 : decode cX9_allHold 36 = .ok (.iaload, 1) := by decide +kernel
theorem dX9_allHold_37 : decode cX9_allHold 37 = .ok (.istore 4, 2) := by decide +kernel
theorem dX9_allHold_39 : decode cX9_allHold 39 = .ok (.iload 4, 2) := by decide +kernel
theorem dX9_allHold_41 : decode cX9_allHold 41 = .ok (.aload_n 0, 1) := by decide +kernel
theorem dX9_allHold_42 : decode cX9_allHold 42 = .ok (.getfield 16, 3) := by decide +kernel
theorem dX9_allHold_45 : decode cX9_allHold 45 = .ok (.iload_n 2, 1) := by decide +kernel
theorem dX9_allHold_46 : decode cX9_allHold 46 = .ok (.iaload, 1) := by decide +kernel
theorem dX9_allHold_47 : decode cX9_allHold 47 = .ok (.if_icmp .ge 7, 3) := by decide +kernel
theorem dX9_allHold_50 : decode cX9_allHold 50 = .ok (.iconst (-1), 1) := by decide +kernel
theorem dX9_allHold_51 : decode cX9_allHold 51 = .ok (.goto 19, 3) := by decide +kernel
theorem dX9_allHold_54 : decode cX9_allHold 54 = .ok (.iload 4, 2) := by decide +kernel
theorem dX9_allHold_56 : decode cX9_allHold 56 = .ok (.aload_n 0, 1) := by decide +kernel
theorem dX9_allHold_57 : decode cX9_allHold 57 = .ok (.getfield 16, 3) := by decide +kernel
theorem dX9_allHold_60 : decode cX9_allHold 60 = .ok (.iload_n 2, 1) := by decide +kernel
theorem dX9_allHold_61 : decode cX9_allHold 61 = .ok (.iaload, 1) := by decide +kernel
theorem dX9_allHold_62 : decode cX9_allHold 62 = .ok (.if_icmp .le 7, 3) := by decide +kernel
theorem dX9_allHold_65 : decode cX9_allHold 65 = .ok (.iconst 1, 1) := by decide +kernel
theorem dX9_allHold_66 : decode cX9_allHold 66 = .ok (.goto 4, 3) := by decide +kernel
theorem dX9_allHold_69 : decode cX9_allHold 69 = .ok (.iconst 0, 1) := by decide +kernel
theorem dX9_allHold_70 : decode cX9_allHold 70 = .ok (.istore 5, 2) := by decide +kernel
theorem dX9_allHold_72 : decode cX9_allHold 72 = .ok (.iload 5, 2) := by decide +kernel
theorem dX9_allHold_74 : decode cX9_allHold 74 = .ok (.aload_n 0, 1) := by decide +kernel
theorem dX9_allHold_75 : decode cX9_allHold 75 = .ok (.getfield 13, 3) := by decide +kernel
theorem dX9_allHold_78 : decode cX9_allHold 78 = .ok (.iload_n 2, 1) := by decide +kernel
theorem dX9_allHold_79 : decode cX9_allHold 79 = .ok (.iaload, 1) := by decide +kernel
theorem dX9_allHold_80 : decode cX9_allHold 80 = .ok (.if_icmp .eq 5, 3) := by decide +kernel
theorem dX9_allHold_83 : decode cX9_allHold 83 = .ok (.iconst 0, 1) := by decide +kernel
theorem dX9_allHold_84 : decode cX9_allHold 84 = .ok (.ireturn, 1) := by decide +kernel
theorem dX9_allHold_85 : decode cX9_allHold 85 = .ok (.iinc 2 1, 3) := by decide +kernel
theorem dX9_allHold_88 : decode cX9_allHold 88 = .ok (.goto (-86), 3) := by decide +kernel
theorem dX9_allHold_91 : decode cX9_allHold 91 = .ok (.iconst 1, 1) := by decide +kernel
theorem dX9_allHold_92 : decode cX9_allHold 92 = .ok (.ireturn, 1) := by decide +kernel
theorem dX9_change_0 : decode cX9_change 0 = .ok (.iconst 0, 1) := by decide +kernel
theorem dX9_change_1 : decode cX9_change 1 = .ok (.istore_n 3, 1) := by decide +kernel
theorem dX9_change_2 : decode cX9_change 2 = .ok (.iload_n 3, 1) := by decide +kernel
theorem dX9_change_3 : decode cX9_change 3 = .ok (.aload_n 0, 1) := by decide +kernel
theorem dX9_change_4 : decode cX9_change 4 = .ok (.getfield 19, 3) := by decide +kernel
theorem dX9_change_7 : decode cX9_change 7 = .ok (.if_icmp .ge 96, 3) := by decide +kernel
theorem dX9_change_10 : decode cX9_change 10 = .ok (.iload_n 3, 1) := by decide +kernel
theorem dX9_change_11 : decode cX9_change 11 = .ok (.iconst 3, 1) := by decide +kernel
theorem dX9_change_12 : decode cX9_change 12 = .ok (.if_icmp .ge 91, 3) := by decide +kernel
theorem dX9_change_15 : decode cX9_change 15 = .ok (.aload_n 0, 1) := by decide +kernel
theorem dX9_change_16 : decode cX9_change 16 = .ok (.getfield 9, 3) := by decide +kernel
theorem dX9_change_19 : decode cX9_change 19 = .ok (.iload_n 3, 1) := by decide +kernel
theorem dX9_change_20 : decode cX9_change 20 = .ok (.iaload, 1) := by decide +kernel
theorem dX9_change_21 : decode cX9_change 21 = .ok (.istore 4, 2) := by decide +kernel
theorem dX9_change_23 : decode cX9_change 23 = .ok (.iload 4, 2) := by decide +kernel
theorem dX9_change_25 : decode cX9_change 25 = .ok (.ifCond .lt 72, 3) := by decide +kernel
theorem dX9_change_28 : decode cX9_change 28 = .ok (.iload 4, 2) := by decide +kernel
theorem dX9_change_30 : decode cX9_change 30 = .ok (.aload_n 1, 1) := by decide +kernel
theorem dX9_change_31 : decode cX9_change 31 = .ok (.arraylength, 1) := by decide +kernel
theorem dX9_change_32 : decode cX9_change 32 = .ok (.if_icmp .ge 65, 3) := by decide +kernel
theorem dX9_change_35 : decode cX9_change 35 = .ok (.iload 4, 2) := by decide +kernel
theorem dX9_change_37 : decode cX9_change 37 = .ok (.aload_n 2, 1) := by decide +kernel
theorem dX9_change_38 : decode cX9_change 38 = .ok (.arraylength, 1) := by decide +kernel
theorem dX9_change_39 : decode cX9_change 39 = .ok (.if_icmp .ge 58, 3) := by decide +kernel
theorem dX9_change_42 : decode cX9_change 42 = .ok (.aload_n 0, 1) := by decide +kernel
theorem dX9_change_43 : decode cX9_change 43 = .ok (.getfield 13, 3) := by decide +kernel
theorem dX9_change_46 : decode cX9_change 46 = .ok (.iload_n 3, 1) := by decide +kernel
theorem dX9_change_47 : decode cX9_change 47 = .ok (.iaload, 1) := by decide +kernel
theorem dX9_change_48 : decode cX9_change 48 = .ok (.ifCond .ne 12, 3) := by decide +kernel
theorem dX9_change_51 : decode cX9_change 51 = .ok (.aload_n 0, 1) := by decide +kernel
theorem dX9_change_52 : decode cX9_change 52 = .ok (.getfield 16, 3) := by decide +kernel
theorem dX9_change_55 : decode cX9_change 55 = .ok (.iload_n 3, 1) := by decide +kernel
theorem dX9_change_56 : decode cX9_change 56 = .ok (.iaload, 1) := by decide +kernel
theorem dX9_change_57 : decode cX9_change 57 = .ok (.goto 21, 3) := by decide +kernel
theorem dX9_change_60 : decode cX9_change 60 = .ok (.aload_n 1, 1) := by decide +kernel
theorem dX9_change_61 : decode cX9_change 61 = .ok (.iload 4, 2) := by decide +kernel
theorem dX9_change_63 : decode cX9_change 63 = .ok (.iaload, 1) := by decide +kernel
theorem dX9_change_64 : decode cX9_change 64 = .ok (.aload_n 0, 1) := by decide +kernel
theorem dX9_change_65 : decode cX9_change 65 = .ok (.getfield 13, 3) := by decide +kernel
theorem dX9_change_68 : decode cX9_change 68 = .ok (.iload_n 3, 1) := by decide +kernel
theorem dX9_change_69 : decode cX9_change 69 = .ok (.iaload, 1) := by decide +kernel
theorem dX9_change_70 : decode cX9_change 70 = .ok (.aload_n 0, 1) := by decide +kernel
theorem dX9_change_71 : decode cX9_change 71 = .ok (.getfield 16, 3) := by decide +kernel
theorem dX9_change_74 : decode cX9_change 74 = .ok (.iload_n 3, 1) := by decide +kernel
theorem dX9_change_75 : decode cX9_change 75 = .ok (.iaload, 1) := by decide +kernel
theorem dX9_change_76 : decode cX9_change 76 = .ok (.imul, 1) := by decide +kernel
theorem dX9_change_77 : decode cX9_change 77 = .ok (.iadd, 1) := by decide +kernel
theorem dX9_change_78 : decode cX9_change 78 = .ok (.istore 5, 2) := by decide +kernel
theorem dX9_change_80 : decode cX9_change 80 = .ok (.aload_n 1, 1) := by decide +kernel
theorem dX9_change_81 : decode cX9_change 81 = .ok (.iload 4, 2) := by decide +kernel
theorem dX9_change_83 : decode cX9_change 83 = .ok (.iconst 0, 1) := by decide +kernel
theorem dX9_change_84 : decode cX9_change 84 = .ok (.aload_n 2, 1) := by decide +kernel
theorem dX9_change_85 : decode cX9_change 85 = .ok (.iload 4, 2) := by decide +kernel
theorem dX9_change_87 : decode cX9_change 87 = .ok (.iaload, 1) := by decide +kernel
theorem dX9_change_88 : decode cX9_change 88 = .ok (.iload 5, 2) := by decide +kernel
theorem dX9_change_90 : decode cX9_change 90 = .ok (.invokestatic 23, 3) := by decide +kernel
theorem dX9_change_93 : decode cX9_change 93 = .ok (.invokestatic 29, 3) := by decide +kernel
theorem dX9_change_96 : decode cX9_change 96 = .ok (.iastore, 1) := by decide +kernel
theorem dX9_change_97 : decode cX9_change 97 = .ok (.iinc 3 1, 3) := by decide +kernel
theorem dX9_change_100 : decode cX9_change 100 = .ok (.goto (-98), 3) := by decide +kernel
theorem dX9_change_103 : decode cX9_change 103 = .ok (.return_, 1) := by decide +kernel
theorem dX9_names_0 : decode cX9_names 0 = .ok (.iconst 0, 1) := by decide +kernel
theorem dX9_names_1 : decode cX9_names 1 = .ok (.istore_n 2, 1) := by decide +kernel
theorem dX9_names_2 : decode cX9_names 2 = .ok (.iload_n 2, 1) := by decide +kernel
theorem dX9_names_3 : decode cX9_names 3 = .ok (.aload_n 0, 1) := by decide +kernel
theorem dX9_names_4 : decode cX9_names 4 = .ok (.getfield 19, 3) := by decide +kernel
theorem dX9_names_7 : decode cX9_names 7 = .ok (.if_icmp .ge 26, 3) := by decide +kernel
theorem dX9_names_10 : decode cX9_names 10 = .ok (.iload_n 2, 1) := by decide +kernel
theorem dX9_names_11 : decode cX9_names 11 = .ok (.iconst 3, 1) := by decide +kernel
theorem dX9_names_12 : decode cX9_names 12 = .ok (.if_icmp .ge 21, 3) := by decide +kernel
theorem dX9_names_15 : decode cX9_names 15 = .ok (.aload_n 0, 1) := by decide +kernel
theorem dX9_names_16 : decode cX9_names 16 = .ok (.getfield 9, 3) := by decide +kernel
theorem dX9_names_19 : decode cX9_names 19 = .ok (.iload_n 2, 1) := by decide +kernel
theorem dX9_names_20 : decode cX9_names 20 = .ok (.iaload, 1) := by decide +kernel
theorem dX9_names_21 : decode cX9_names 21 = .ok (.iload_n 1, 1) := by decide +kernel
theorem dX9_names_22 : decode cX9_names 22 = .ok (.if_icmp .ne 5, 3) := by decide +kernel
theorem dX9_names_25 : decode cX9_names 25 = .ok (.iconst 1, 1) := by decide +kernel
theorem dX9_names_26 : decode cX9_names 26 = .ok (.ireturn, 1) := by decide +kernel
theorem dX9_names_27 : decode cX9_names 27 = .ok (.iinc 2 1, 3) := by decide +kernel
theorem dX9_names_30 : decode cX9_names 30 = .ok (.goto (-28), 3) := by decide +kernel
theorem dX9_names_33 : decode cX9_names 33 = .ok (.iconst 0, 1) := by decide +kernel
theorem dX9_names_34 : decode cX9_names 34 = .ok (.ireturn, 1) := by decide +kernel
theorem dX10_init_0 : decode cX10_init 0 = .ok (.aload_n 0, 1) := by decide +kernel
theorem dX10_init_1 : decode cX10_init 1 = .ok (.invokespecial 1, 3) := by decide +kernel
theorem dX10_init_4 : decode cX10_init 4 = .ok (.aload_n 0, 1) := by decide +kernel
theorem dX10_init_5 : decode cX10_init 5 = .ok (.aload_n 1, 1) := by decide +kernel
theorem dX10_init_6 : decode cX10_init 6 = .ok (.putfield 7, 3) := by decide +kernel
theorem dX10_init_9 : decode cX10_init 9 = .ok (.return_, 1) := by decide +kernel
theorem dX10_begin_0 : decode cX10_begin 0 = .ok (.aload_n 0, 1) := by decide +kernel
theorem dX10_begin_1 : decode cX10_begin 1 = .ok (.lload_n 1, 1) := by decide +kernel
theorem dX10_begin_2 : decode cX10_begin 2 = .ok (.iload_n 3, 1) := by decide +kernel
theorem dX10_begin_3 : decode cX10_begin 3 = .ok (.i2l, 1) := by decide +kernel
theorem dX10_begin_4 : decode cX10_begin 4 = .ok (.ldc2_w 13, 3) := by decide +kernel
theorem dX10_begin_7 : decode cX10_begin 7 = .ok (.lmul, 1) := by decide +kernel
theorem dX10_begin_8 : decode cX10_begin 8 = .ok (.ladd, 1) := by decide +kernel
theorem dX10_begin_9 : decode cX10_begin 9 = .ok (.putfield 15, 3) := by decide +kernel
theorem dX10_begin_12 : decode cX10_begin 12 = .ok (.aload_n 0, 1) := by decide +kernel
theorem dX10_begin_13 : decode cX10_begin 13 = .ok (.aload_n 0, 1) := by decide +kernel
theorem dX10_begin_14 : decode cX10_begin 14 = .ok (.getfield 7, 3) := by decide +kernel
theorem dX10_begin_17 : decode cX10_begin 17 = .ok (.invokevirtual 19, 3) := by decide +kernel
theorem dX10_begin_20 : decode cX10_begin 20 = .ok (.putfield 25, 3) := by decide +kernel
theorem dX10_begin_23 : decode cX10_begin 23 = .ok (.return_, 1) := by decide +kernel
theorem dX10_step_0 : decode cX10_step 0 = .ok (.aload_n 0, 1) := by decide +kernel
theorem dX10_step_1 : decode cX10_step 1 = .ok (.aload_n 0, 1) := by decide +kernel
theorem dX10_step_2 : decode cX10_step 2 = .ok (.getfield 15, 3) := by decide +kernel
theorem dX10_step_5 : decode cX10_step 5 = .ok (.ldc2_w 29, 3) := by decide +kernel
theorem dX10_step_8 : decode cX10_step 8 = .ok (.lmul, 1) := by decide +kernel
theorem dX10_step_9 : decode cX10_step 9 = .ok (.ldc2_w 31, 3) := by decide +kernel
theorem dX10_step_12 : decode cX10_step 12 = .ok (.ladd, 1) := by decide +kernel
theorem dX10_step_13 : decode cX10_step 13 = .ok (.putfield 15, 3) := by decide +kernel
theorem dX10_step_16 : decode cX10_step 16 = .ok (.aload_n 0, 1) := by decide +kernel
theorem dX10_step_17 : decode cX10_step 17 = .ok (.getfield 15, 3) := by decide +kernel
theorem dX10_step_20 : decode cX10_step 20 = .ok (.bipush 33, 2) := by decide +kernel
theorem dX10_step_22 : decode cX10_step 22 = .ok (.lushr, 1) := by decide +kernel
theorem dX10_step_23 : decode cX10_step 23 = .ok (.iconst 1, 1) := by decide +kernel
theorem dX10_step_24 : decode cX10_step 24 = .ok (.aload_n 0, 1) := by decide +kernel
theorem dX10_step_25 : decode cX10_step 25 = .ok (.getfield 7, 3) := by decide +kernel
theorem dX10_step_28 : decode cX10_step 28 = .ok (.getfield 33, 3) := by decide +kernel
theorem dX10_step_31 : decode cX10_step 31 = .ok (.getfield 37, 3) := by decide +kernel
theorem dX10_step_34 : decode cX10_step 34 = .ok (.invokestatic 42, 3) := by decide +kernel
theorem dX10_step_37 : decode cX10_step 37 = .ok (.i2l, 1) := by decide +kernel
theorem dX10_step_38 : decode cX10_step 38 = .ok (.lrem, 1) := by decide +kernel
theorem dX10_step_39 : decode cX10_step 39 = .ok (.l2i, 1) := by decide +kernel
theorem dX10_step_40 : decode cX10_step 40 = .ok (.istore_n 1, 1) := by decide +kernel
theorem dX10_step_41 : decode cX10_step 41 = .ok (.aload_n 0, 1) := by decide +kernel
theorem dX10_step_42 : decode cX10_step 42 = .ok (.getfield 7, 3) := by decide +kernel
theorem dX10_step_45 : decode cX10_step 45 = .ok (.aload_n 0, 1) := by decide +kernel
theorem dX10_step_46 : decode cX10_step 46 = .ok (.getfield 25, 3) := by decide +kernel
theorem dX10_step_49 : decode cX10_step 49 = .ok (.iload_n 1, 1) := by decide +kernel
theorem dX10_step_50 : decode cX10_step 50 = .ok (.invokevirtual 48, 3) := by decide +kernel
theorem dX10_step_53 : decode cX10_step 53 = .ok (.istore_n 2, 1) := by decide +kernel
theorem dX10_step_54 : decode cX10_step 54 = .ok (.aload_n 0, 1) := by decide +kernel
theorem dX10_step_55 : decode cX10_step 55 = .ok (.iload_n 2, 1) := by decide +kernel
theorem dX10_step_56 : decode cX10_step 56 = .ok (.invokestatic 51, 3) := by decide +kernel
theorem dX10_step_59 : decode cX10_step 59 = .ok (.putfield 25, 3) := by decide +kernel
theorem dX10_step_62 : decode cX10_step 62 = .ok (.iload_n 2, 1) := by decide +kernel
theorem dX10_step_63 : decode cX10_step 63 = .ok (.invokestatic 55, 3) := by decide +kernel
theorem dX10_step_66 : decode cX10_step 66 = .ok (.ireturn, 1) := by decide +kernel
theorem dX10_isAt_0 : decode cX10_isAt 0 = .ok (.aload_n 0, 1) := by decide +kernel
theorem dX10_isAt_1 : decode cX10_isAt 1 = .ok (.getfield 7, 3) := by decide +kernel
theorem dX10_isAt_4 : decode cX10_isAt 4 = .ok (.aload_n 0, 1) := by decide +kernel
theorem dX10_isAt_5 : decode cX10_isAt 5 = .ok (.getfield 25, 3) := by decide +kernel
theorem dX10_isAt_8 : decode cX10_isAt 8 = .ok (.iload_n 1, 1) := by decide +kernel
theorem dX10_isAt_9 : decode cX10_isAt 9 = .ok (.invokevirtual 58, 3) := by decide +kernel
