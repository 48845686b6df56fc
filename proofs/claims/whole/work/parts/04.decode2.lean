theorem dX10_isAt_12 : decode cX10_isAt 12 = .ok (.ireturn, 1) := by decide +kernel
theorem dX10_valueOf_0 : decode cX10_valueOf 0 = .ok (.aload_n 0, 1) := by decide +kernel
theorem dX10_valueOf_1 : decode cX10_valueOf 1 = .ok (.getfield 7, 3) := by decide +kernel
theorem dX10_valueOf_4 : decode cX10_valueOf 4 = .ok (.getfield 33, 3) := by decide +kernel
theorem dX10_valueOf_7 : decode cX10_valueOf 7 = .ok (.aload_n 0, 1) := by decide +kernel
theorem dX10_valueOf_8 : decode cX10_valueOf 8 = .ok (.getfield 25, 3) := by decide +kernel
theorem dX10_valueOf_11 : decode cX10_valueOf 11 = .ok (.iload_n 1, 1) := by decide +kernel
theorem dX10_valueOf_12 : decode cX10_valueOf 12 = .ok (.invokevirtual 62, 3) := by decide +kernel
theorem dX10_valueOf_15 : decode cX10_valueOf 15 = .ok (.ireturn, 1) := by decide +kernel
theorem dX11_init_0 : decode cX11_init 0 = .ok (.aload_n 0, 1) := by decide +kernel
theorem dX11_init_1 : decode cX11_init 1 = .ok (.invokespecial 1, 3) := by decide +kernel
theorem dX11_init_4 : decode cX11_init 4 = .ok (.aload_n 0, 1) := by decide +kernel
theorem dX11_init_5 : decode cX11_init 5 = .ok (.new 7, 3) := by decide +kernel
theorem dX11_init_8 : decode cX11_init 8 = .ok (.dup, 1) := by decide +kernel
theorem dX11_init_9 : decode cX11_init 9 = .ok (.invokespecial 9, 3) := by decide +kernel
theorem dX11_init_12 : decode cX11_init 12 = .ok (.putfield 10, 3) := by decide +kernel
theorem dX11_init_15 : decode cX11_init 15 = .ok (.aload_n 0, 1) := by decide +kernel
theorem dX11_init_16 : decode cX11_init 16 = .ok (.new 16, 3) := by decide +kernel
theorem dX11_init_19 : decode cX11_init 19 = .ok (.dup, 1) := by decide +kernel
theorem dX11_init_20 : decode cX11_init 20 = .ok (.aload_n 0, 1) := by decide +kernel
theorem dX11_init_21 : decode cX11_init 21 = .ok (.getfield 10, 3) := by decide +kernel
theorem dX11_init_24 : decode cX11_init 24 = .ok (.invokespecial 18, 3) := by decide +kernel
theorem dX11_init_27 : decode cX11_init 27 = .ok (.putfield 21, 3) := by decide +kernel
theorem dX11_init_30 : decode cX11_init 30 = .ok (.aload_n 0, 1) := by decide +kernel
theorem dX11_init_31 : decode cX11_init 31 = .ok (.new 25, 3) := by decide +kernel
theorem dX11_init_34 : decode cX11_init 34 = .ok (.dup, 1) := by decide +kernel
theorem dX11_init_35 : decode cX11_init 35 = .ok (.invokespecial 27, 3) := by decide +kernel
theorem dX11_init_38 : decode cX11_init 38 = .ok (.putfield 28, 3) := by decide +kernel
theorem dX11_init_41 : decode cX11_init 41 = .ok (.aload_n 0, 1) := by decide +kernel
theorem dX11_init_42 : decode cX11_init 42 = .ok (.new 32, 3) := by decide +kernel
theorem dX11_init_45 : decode cX11_init 45 = .ok (.dup, 1) := by decide +kernel
theorem dX11_init_46 : decode cX11_init 46 = .ok (.aload_n 0, 1) := by decide +kernel
theorem dX11_init_47 : decode cX11_init 47 = .ok (.getfield 28, 3) := by decide +kernel
theorem dX11_init_50 : decode cX11_init 50 = .ok (.invokespecial 34, 3) := by decide +kernel
theorem dX11_init_53 : decode cX11_init 53 = .ok (.putfield 37, 3) := by decide +kernel
theorem dX11_init_56 : decode cX11_init 56 = .ok (.aload_n 0, 1) := by decide +kernel
theorem dX11_init_57 : decode cX11_init 57 = .ok (.new 41, 3) := by decide +kernel
theorem dX11_init_60 : decode cX11_init 60 = .ok (.dup, 1) := by decide +kernel
theorem dX11_init_61 : decode cX11_init 61 = .ok (.aload_n 0, 1) := by decide +kernel
theorem dX11_init_62 : decode cX11_init 62 = .ok (.getfield 28, 3) := by decide +kernel
theorem dX11_init_65 : decode cX11_init 65 = .ok (.invokespecial 43, 3) := by decide +kernel
theorem dX11_init_68 : decode cX11_init 68 = .ok (.putfield 44, 3) := by decide +kernel
theorem dX11_init_71 : decode cX11_init 71 = .ok (.aload_n 0, 1) := by decide +kernel
theorem dX11_init_72 : decode cX11_init 72 = .ok (.new 48, 3) := by decide +kernel
theorem dX11_init_75 : decode cX11_init 75 = .ok (.dup, 1) := by decide +kernel
theorem dX11_init_76 : decode cX11_init 76 = .ok (.invokespecial 50, 3) := by decide +kernel
theorem dX11_init_79 : decode cX11_init 79 = .ok (.putfield 51, 3) := by decide +kernel
theorem dX11_init_82 : decode cX11_init 82 = .ok (.aload_n 0, 1) := by decide +kernel
theorem dX11_init_83 : decode cX11_init 83 = .ok (.new 55, 3) := by decide +kernel
theorem dX11_init_86 : decode cX11_init 86 = .ok (.dup, 1) := by decide +kernel
theorem dX11_init_87 : decode cX11_init 87 = .ok (.invokespecial 57, 3) := by decide +kernel
theorem dX11_init_90 : decode cX11_init 90 = .ok (.putfield 58, 3) := by decide +kernel
theorem dX11_init_93 : decode cX11_init 93 = .ok (.aload_n 0, 1) := by decide +kernel
theorem dX11_init_94 : decode cX11_init 94 = .ok (.new 62, 3) := by decide +kernel
theorem dX11_init_97 : decode cX11_init 97 = .ok (.dup, 1) := by decide +kernel
theorem dX11_init_98 : decode cX11_init 98 = .ok (.aload_n 0, 1) := by decide +kernel
theorem dX11_init_99 : decode cX11_init 99 = .ok (.getfield 37, 3) := by decide +kernel
theorem dX11_init_102 : decode cX11_init 102 = .ok (.invokespecial 64, 3) := by decide +kernel
theorem dX11_init_105 : decode cX11_init 105 = .ok (.putfield 67, 3) := by decide +kernel
theorem dX11_init_108 : decode cX11_init 108 = .ok (.aload_n 0, 1) := by decide +kernel
theorem dX11_init_109 : decode cX11_init 109 = .ok (.aload_n 0, 1) := by decide +kernel
theorem dX11_init_110 : decode cX11_init 110 = .ok (.getfield 28, 3) := by decide +kernel
theorem dX11_init_113 : decode cX11_init 113 = .ok (.getfield 71, 3) := by decide +kernel
theorem dX11_init_116 : decode cX11_init 116 = .ok (.putfield 75, 3) := by decide +kernel
theorem dX11_init_119 : decode cX11_init 119 = .ok (.return_, 1) := by decide +kernel
theorem dX11_feed_0 : decode cX11_feed 0 = .ok (.iload_n 3, 1) := by decide +kernel
theorem dX11_feed_1 : decode cX11_feed 1 = .ok (.iconst 1, 1) := by decide +kernel
theorem dX11_feed_2 : decode cX11_feed 2 = .ok (.if_icmp .lt 9, 3) := by decide +kernel
theorem dX11_feed_5 : decode cX11_feed 5 = .ok (.iload_n 3, 1) := by decide +kernel
theorem dX11_feed_6 : decode cX11_feed 6 = .ok (.bipush 8, 2) := by decide +kernel
theorem dX11_feed_8 : decode cX11_feed 8 = .ok (.if_icmp .le 6, 3) := by decide +kernel
theorem dX11_feed_11 : decode cX11_feed 11 = .ok (.bipush (-2), 2) := by decide +kernel
theorem dX11_feed_13 : decode cX11_feed 13 = .ok (.ireturn, 1) := by decide +kernel
theorem dX11_feed_14 : decode cX11_feed 14 = .ok (.aload_n 0, 1) := by decide +kernel
theorem dX11_feed_15 : decode cX11_feed 15 = .ok (.getfield 10, 3) := by decide +kernel
theorem dX11_feed_18 : decode cX11_feed 18 = .ok (.lload_n 1, 1) := by decide +kernel
theorem dX11_feed_19 : decode cX11_feed 19 = .ok (.iload_n 3, 1) := by decide +kernel
theorem dX11_feed_20 : decode cX11_feed 20 = .ok (.invokevirtual 78, 3) := by decide +kernel
theorem dX11_feed_23 : decode cX11_feed 23 = .ok (.ifCond .eq 13, 3) := by decide +kernel
theorem dX11_feed_26 : decode cX11_feed 26 = .ok (.aload_n 0, 1) := by decide +kernel
theorem dX11_feed_27 : decode cX11_feed 27 = .ok (.getfield 10, 3) := by decide +kernel
theorem dX11_feed_30 : decode cX11_feed 30 = .ok (.getfield 82, 3) := by decide +kernel
theorem dX11_feed_33 : decode cX11_feed 33 = .ok (.goto 5, 3) := by decide +kernel
theorem dX11_feed_36 : decode cX11_feed 36 = .ok (.bipush (-4), 2) := by decide +kernel
theorem dX11_feed_38 : decode cX11_feed 38 = .ok (.ireturn, 1) := by decide +kernel
theorem dX11_model_0 : decode cX11_model 0 = .ok (.aload_n 0, 1) := by decide +kernel
theorem dX11_model_1 : decode cX11_model 1 = .ok (.getfield 21, 3) := by decide +kernel
theorem dX11_model_4 : decode cX11_model 4 = .ok (.invokevirtual 86, 3) := by decide +kernel
theorem dX11_model_7 : decode cX11_model 7 = .ok (.istore_n 1, 1) := by decide +kernel
theorem dX11_model_8 : decode cX11_model 8 = .ok (.aload_n 0, 1) := by decide +kernel
theorem dX11_model_9 : decode cX11_model 9 = .ok (.getfield 10, 3) := by decide +kernel
theorem dX11_model_12 : decode cX11_model 12 = .ok (.invokevirtual 90, 3) := by decide +kernel
theorem dX11_model_15 : decode cX11_model 15 = .ok (.iload_n 1, 1) := by decide +kernel
theorem dX11_model_16 : decode cX11_model 16 = .ok (.ifCond .ne 26, 3) := by decide +kernel
theorem dX11_model_19 : decode cX11_model 19 = .ok (.aload_n 0, 1) := by decide +kernel
theorem dX11_model_20 : decode cX11_model 20 = .ok (.aload_n 0, 1) := by decide +kernel
theorem dX11_model_21 : decode cX11_model 21 = .ok (.getfield 21, 3) := by decide +kernel
theorem dX11_model_24 : decode cX11_model 24 = .ok (.getfield 93, 3) := by decide +kernel
theorem dX11_model_27 : decode cX11_model 27 = .ok (.putfield 96, 3) := by decide +kernel
theorem dX11_model_30 : decode cX11_model 30 = .ok (.sipush (-1000), 3) := by decide +kernel
theorem dX11_model_33 : decode cX11_model 33 = .ok (.aload_n 0, 1) := by decide +kernel
theorem dX11_model_34 : decode cX11_model 34 = .ok (.getfield 21, 3) := by decide +kernel
theorem dX11_model_37 : decode cX11_model 37 = .ok (.getfield 99, 3) := by decide +kernel
theorem dX11_model_40 : decode cX11_model 40 = .ok (.isub, 1) := by decide +kernel
theorem dX11_model_41 : decode cX11_model 41 = .ok (.ireturn, 1) := by decide +kernel
theorem dX11_model_42 : decode cX11_model 42 = .ok (.aload_n 0, 1) := by decide +kernel
theorem dX11_model_43 : decode cX11_model 43 = .ok (.aload_n 0, 1) := by decide +kernel
theorem dX11_model_44 : decode cX11_model 44 = .ok (.getfield 21, 3) := by decide +kernel
theorem dX11_model_47 : decode cX11_model 47 = .ok (.aload_n 0, 1) := by decide +kernel
theorem dX11_model_48 : decode cX11_model 48 = .ok (.getfield 75, 3) := by decide +kernel
theorem dX11_model_51 : decode cX11_model 51 = .ok (.invokevirtual 102, 3) := by decide +kernel
theorem dX11_model_54 : decode cX11_model 54 = .ok (.putfield 75, 3) := by decide +kernel
theorem dX11_model_57 : decode cX11_model 57 = .ok (.aload_n 0, 1) := by decide +kernel
theorem dX11_model_58 : decode cX11_model 58 = .ok (.getfield 28, 3) := by decide +kernel
theorem dX11_model_61 : decode cX11_model 61 = .ok (.aload_n 0, 1) := by decide +kernel
theorem dX11_model_62 : decode cX11_model 62 = .ok (.getfield 75, 3) := by decide +kernel
theorem dX11_model_65 : decode cX11_model 65 = .ok (.invokevirtual 106, 3) := by decide +kernel
theorem dX11_model_68 : decode cX11_model 68 = .ok (.aload_n 0, 1) := by decide +kernel
theorem dX11_model_69 : decode cX11_model 69 = .ok (.getfield 51, 3) := by decide +kernel
theorem dX11_model_72 : decode cX11_model 72 = .ok (.invokevirtual 110, 3) := by decide +kernel
theorem dX11_model_75 : decode cX11_model 75 = .ok (.aload_n 0, 1) := by decide +kernel
theorem dX11_model_76 : decode cX11_model 76 = .ok (.getfield 75, 3) := by decide +kernel
theorem dX11_model_79 : decode cX11_model 79 = .ok (.getfield 111, 3) := by decide +kernel
theorem dX11_model_82 : decode cX11_model 82 = .ok (.ireturn, 1) := by decide +kernel
theorem dX11_fault_0 : decode cX11_fault 0 = .ok (.aload_n 0, 1) := by decide +kernel
theorem dX11_fault_1 : decode cX11_fault 1 = .ok (.getfield 96, 3) := by decide +kernel
theorem dX11_fault_4 : decode cX11_fault 4 = .ok (.ireturn, 1) := by decide +kernel
theorem dX11_seed_0 : decode cX11_seed 0 = .ok (.aload_n 0, 1) := by decide +kernel
theorem dX11_seed_1 : decode cX11_seed 1 = .ok (.lload_n 1, 1) := by decide +kernel
theorem dX11_seed_2 : decode cX11_seed 2 = .ok (.putfield 116, 3) := by decide +kernel
theorem dX11_seed_5 : decode cX11_seed 5 = .ok (.aload_n 0, 1) := by decide +kernel
theorem dX11_seed_6 : decode cX11_seed 6 = .ok (.getfield 51, 3) := by decide +kernel
theorem dX11_seed_9 : decode cX11_seed 9 = .ok (.invokevirtual 110, 3) := by decide +kernel
theorem dX11_seed_12 : decode cX11_seed 12 = .ok (.iconst 1, 1) := by decide +kernel
theorem dX11_seed_13 : decode cX11_seed 13 = .ok (.ireturn, 1) := by decide +kernel
theorem dX11_count_0 : decode cX11_count 0 = .ok (.iload_n 1, 1) := by decide +kernel
theorem dX11_count_1 : decode cX11_count 1 = .ok (.ifCond .lt 8, 3) := by decide +kernel
theorem dX11_count_4 : decode cX11_count 4 = .ok (.iload_n 1, 1) := by decide +kernel
theorem dX11_count_5 : decode cX11_count 5 = .ok (.iconst 3, 1) := by decide +kernel
theorem dX11_count_6 : decode cX11_count 6 = .ok (.if_icmp .le 6, 3) := by decide +kernel
theorem dX11_count_9 : decode cX11_count 9 = .ok (.bipush (-2), 2) := by decide +kernel
theorem dX11_count_11 : decode cX11_count 11 = .ok (.ireturn, 1) := by decide +kernel
theorem dX11_count_12 : decode cX11_count 12 = .ok (.aload_n 0, 1) := by decide +kernel
theorem dX11_count_13 : decode cX11_count 13 = .ok (.invokevirtual 120, 3) := by decide +kernel
theorem dX11_count_16 : decode cX11_count 16 = .ok (.ifCond .eq 6, 3) := by decide +kernel
theorem dX11_count_19 : decode cX11_count 19 = .ok (.bipush (-3), 2) := by decide +kernel
theorem dX11_count_21 : decode cX11_count 21 = .ok (.ireturn, 1) := by decide +kernel
theorem dX11_count_22 : decode cX11_count 22 = .ok (.iload_n 1, 1) := by decide +kernel
theorem dX11_count_23 : decode cX11_count 23 = .ok (.tableswitch 49 0 2 #[25, 33, 41], 25) := by decide +kernel
theorem dX11_count_48 : decode cX11_count 48 = .ok (.aload_n 0, 1) := by decide +kernel
theorem dX11_count_49 : decode cX11_count 49 = .ok (.getfield 75, 3) := by decide +kernel
theorem dX11_count_52 : decode cX11_count 52 = .ok (.getfield 123, 3) := by decide +kernel
theorem dX11_count_55 : decode cX11_count 55 = .ok (.ireturn, 1) := by decide +kernel
theorem dX11_count_56 : decode cX11_count 56 = .ok (.aload_n 0, 1) := by decide +kernel
theorem dX11_count_57 : decode cX11_count 57 = .ok (.getfield 75, 3) := by decide +kernel
theorem dX11_count_60 : decode cX11_count 60 = .ok (.getfield 126, 3) := by decide +kernel
theorem dX11_count_63 : decode cX11_count 63 = .ok (.ireturn, 1) := by decide +kernel
theorem dX11_count_64 : decode cX11_count 64 = .ok (.aload_n 0, 1) := by decide +kernel
theorem dX11_count_65 : decode cX11_count 65 = .ok (.getfield 75, 3) := by decide +kernel
theorem dX11_count_68 : decode cX11_count 68 = .ok (.getfield 129, 3) := by decide +kernel
theorem dX11_count_71 : decode cX11_count 71 = .ok (.ireturn, 1) := by decide +kernel
theorem dX11_count_72 : decode cX11_count 72 = .ok (.aload_n 0, 1) := by decide +kernel
theorem dX11_count_73 : decode cX11_count 73 = .ok (.getfield 75, 3) := by decide +kernel
theorem dX11_count_76 : decode cX11_count 76 = .ok (.getfield 132, 3) := by decide +kernel
theorem dX11_count_79 : decode cX11_count 79 = .ok (.ireturn, 1) := by decide +kernel
theorem dX11_holds_0 : decode cX11_holds 0 = .ok (.aload_n 0, 1) := by decide +kernel
theorem dX11_holds_1 : decode cX11_holds 1 = .ok (.iload_n 1, 1) := by decide +kernel
theorem dX11_holds_2 : decode cX11_holds 2 = .ok (.invokevirtual 135, 3) := by decide +kernel
theorem dX11_holds_5 : decode cX11_holds 5 = .ok (.ifCond .eq 17, 3) := by decide +kernel
theorem dX11_holds_8 : decode cX11_holds 8 = .ok (.iload_n 2, 1) := by decide +kernel
theorem dX11_holds_9 : decode cX11_holds 9 = .ok (.invokestatic 139, 3) := by decide +kernel
theorem dX11_holds_12 : decode cX11_holds 12 = .ok (.ifCond .eq 10, 3) := by decide +kernel
theorem dX11_holds_15 : decode cX11_holds 15 = .ok (.iload_n 3, 1) := by decide +kernel
theorem dX11_holds_16 : decode cX11_holds 16 = .ok (.invokestatic 142, 3) := by decide +kernel
theorem dX11_holds_19 : decode cX11_holds 19 = .ok (.ifCond .ne 6, 3) := by decide +kernel
theorem dX11_holds_22 : decode cX11_holds 22 = .ok (.bipush (-2), 2) := by decide +kernel
theorem dX11_holds_24 : decode cX11_holds 24 = .ok (.ireturn, 1) := by decide +kernel
theorem dX11_holds_25 : decode cX11_holds 25 = .ok (.aload_n 0, 1) := by decide +kernel
theorem dX11_holds_26 : decode cX11_holds 26 = .ok (.iload_n 1, 1) := by decide +kernel
theorem dX11_holds_27 : decode cX11_holds 27 = .ok (.iload_n 2, 1) := by decide +kernel
theorem dX11_holds_28 : decode cX11_holds 28 = .ok (.iload_n 3, 1) := by decide +kernel
theorem dX11_holds_29 : decode cX11_holds 29 = .ok (.invokevirtual 145, 3) := by decide +kernel
theorem dX11_holds_32 : decode cX11_holds 32 = .ok (.ireturn, 1) := by decide +kernel
theorem dX11_value_0 : decode cX11_value 0 = .ok (.iload_n 1, 1) := by decide +kernel
theorem dX11_value_1 : decode cX11_value 1 = .ok (.invokestatic 142, 3) := by decide +kernel
theorem dX11_value_4 : decode cX11_value 4 = .ok (.ifCond .eq 18, 3) := by decide +kernel
theorem dX11_value_7 : decode cX11_value 7 = .ok (.iload_n 2, 1) := by decide +kernel
theorem dX11_value_8 : decode cX11_value 8 = .ok (.invokestatic 139, 3) := by decide +kernel
theorem dX11_value_11 : decode cX11_value 11 = .ok (.ifCond .eq 11, 3) := by decide +kernel
theorem dX11_value_14 : decode cX11_value 14 = .ok (.aload_n 0, 1) := by decide +kernel
theorem dX11_value_15 : decode cX11_value 15 = .ok (.iload_n 3, 1) := by decide +kernel
theorem dX11_value_16 : decode cX11_value 16 = .ok (.invokevirtual 149, 3) := by decide +kernel
theorem dX11_value_19 : decode cX11_value 19 = .ok (.ifCond .ne 6, 3) := by decide +kernel
theorem dX11_value_22 : decode cX11_value 22 = .ok (.bipush (-2), 2) := by decide +kernel
theorem dX11_value_24 : decode cX11_value 24 = .ok (.ireturn, 1) := by decide +kernel
theorem dX11_value_25 : decode cX11_value 25 = .ok (.aload_n 0, 1) := by decide +kernel
theorem dX11_value_26 : decode cX11_value 26 = .ok (.getfield 37, 3) := by decide +kernel
theorem dX11_value_29 : decode cX11_value 29 = .ok (.aload_n 0, 1) := by decide +kernel
theorem dX11_value_30 : decode cX11_value 30 = .ok (.getfield 116, 3) := by decide +kernel
theorem dX11_value_33 : decode cX11_value 33 = .ok (.iload_n 1, 1) := by decide +kernel
theorem dX11_value_34 : decode cX11_value 34 = .ok (.invokevirtual 152, 3) := by decide +kernel
theorem dX11_value_37 : decode cX11_value 37 = .ok (.iconst 0, 1) := by decide +kernel
theorem dX11_value_38 : decode cX11_value 38 = .ok (.istore 4, 2) := by decide +kernel
theorem dX11_value_40 : decode cX11_value 40 = .ok (.iload 4, 2) := by decide +kernel
theorem dX11_value_42 : decode cX11_value 42 = .ok (.iload_n 2, 1) := by decide +kernel
theorem dX11_value_43 : decode cX11_value 43 = .ok (.if_icmp .ge 17, 3) := by decide +kernel
theorem dX11_value_46 : decode cX11_value 46 = .ok (.aload_n 0, 1) := by decide +kernel
theorem dX11_value_47 : decode cX11_value 47 = .ok (.getfield 37, 3) := by decide +kernel
theorem dX11_value_50 : decode cX11_value 50 = .ok (.invokevirtual 156, 3) := by decide +kernel
theorem dX11_value_53 : decode cX11_value 53 = .ok (.pop, 1) := by decide +kernel
theorem dX11_value_54 : decode cX11_value 54 = .ok (.iinc 4 1, 3) := by decide +kernel
theorem dX11_value_57 : decode cX11_value 57 = .ok (.goto (-17), 3) := by decide +kernel
theorem dX11_value_60 : decode cX11_value 60 = .ok (.aload_n 0, 1) := by decide +kernel
theorem dX11_value_61 : decode cX11_value 61 = .ok (.getfield 37, 3) := by decide +kernel
theorem dX11_value_64 : decode cX11_value 64 = .ok (.iload_n 3, 1) := by decide +kernel
theorem dX11_value_65 : decode cX11_value 65 = .ok (.invokevirtual 160, 3) := by decide +kernel
theorem dX11_value_68 : decode cX11_value 68 = .ok (.ireturn, 1) := by decide +kernel
theorem dX11_goes_0 : decode cX11_goes 0 = .ok (.iload_n 1, 1) := by decide +kernel
theorem dX11_goes_1 : decode cX11_goes 1 = .ok (.invokestatic 142, 3) := by decide +kernel
theorem dX11_goes_4 : decode cX11_goes 4 = .ok (.ifCond .eq 14, 3) := by decide +kernel
theorem dX11_goes_7 : decode cX11_goes 7 = .ok (.iload_n 2, 1) := by decide +kernel
theorem dX11_goes_8 : decode cX11_goes 8 = .ok (.iconst 1, 1) := by decide +kernel
theorem dX11_goes_9 : decode cX11_goes 9 = .ok (.if_icmp .lt 9, 3) := by decide +kernel
theorem dX11_goes_12 : decode cX11_goes 12 = .ok (.iload_n 2, 1) := by decide +kernel
theorem dX11_goes_13 : decode cX11_goes 13 = .ok (.bipush 60, 2) := by decide +kernel
theorem dX11_goes_15 : decode cX11_goes 15 = .ok (.if_icmp .le 6, 3) := by decide +kernel
theorem dX11_goes_18 : decode cX11_goes 18 = .ok (.bipush (-2), 2) := by decide +kernel
theorem dX11_goes_20 : decode cX11_goes 20 = .ok (.ireturn, 1) := by decide +kernel
theorem dX11_goes_21 : decode cX11_goes 21 = .ok (.aload_n 0, 1) := by decide +kernel
theorem dX11_goes_22 : decode cX11_goes 22 = .ok (.invokevirtual 120, 3) := by decide +kernel
theorem dX11_goes_25 : decode cX11_goes 25 = .ok (.ifCond .eq 6, 3) := by decide +kernel
theorem dX11_goes_28 : decode cX11_goes 28 = .ok (.bipush (-3), 2) := by decide +kernel
theorem dX11_goes_30 : decode cX11_goes 30 = .ok (.ireturn, 1) := by decide +kernel
theorem dX11_goes_31 : decode cX11_goes 31 = .ok (.aload_n 0, 1) := by decide +kernel
theorem dX11_goes_32 : decode cX11_goes 32 = .ok (.getfield 37, 3) := by decide +kernel
theorem dX11_goes_35 : decode cX11_goes 35 = .ok (.aload_n 0, 1) := by decide +kernel
theorem dX11_goes_36 : decode cX11_goes 36 = .ok (.getfield 116, 3) := by decide +kernel
theorem dX11_goes_39 : decode cX11_goes 39 = .ok (.iload_n 1, 1) := by decide +kernel
theorem dX11_goes_40 : decode cX11_goes 40 = .ok (.invokevirtual 152, 3) := by decide +kernel
theorem dX11_goes_43 : decode cX11_goes 43 = .ok (.iconst (-1), 1) := by decide +kernel
theorem dX11_goes_44 : decode cX11_goes 44 = .ok (.istore_n 3, 1) := by decide +kernel
theorem dX11_goes_45 : decode cX11_goes 45 = .ok (.iconst 0, 1) := by decide +kernel
theorem dX11_goes_46 : decode cX11_goes 46 = .ok (.istore 4, 2) := by decide +kernel
theorem dX11_goes_48 : decode cX11_goes 48 = .ok (.iload 4, 2) := by decide +kernel
theorem dX11_goes_50 : decode cX11_goes 50 = .ok (.iload_n 2, 1) := by decide +kernel
theorem dX11_goes_51 : decode cX11_goes 51 = .ok (.if_icmp .ge 17, 3) := by decide +kernel
theorem dX11_goes_54 : decode cX11_goes 54 = .ok (.aload_n 0, 1) := by decide +kernel
theorem dX11_goes_55 : decode cX11_goes 55 = .ok (.getfield 37, 3) := by decide +kernel
theorem dX11_goes_58 : decode cX11_goes 58 = .ok (.invokevirtual 156, 3) := by decide +kernel
theorem dX11_goes_61 : decode cX11_goes 61 = .ok (.istore_n 3, 1) := by decide +kernel
theorem dX11_goes_62 : decode cX11_goes 62 = .ok (.iinc 4 1, 3) := by decide +kernel
theorem dX11_goes_65 : decode cX11_goes 65 = .ok (.goto (-17), 3) := by decide +kernel
theorem dX11_goes_68 : decode cX11_goes 68 = .ok (.iload_n 3, 1) := by decide +kernel
theorem dX11_goes_69 : decode cX11_goes 69 = .ok (.ireturn, 1) := by decide +kernel
theorem dX11_exact_0 : decode cX11_exact 0 = .ok (.aload_n 0, 1) := by decide +kernel
theorem dX11_exact_1 : decode cX11_exact 1 = .ok (.iload_n 1, 1) := by decide +kernel
theorem dX11_exact_2 : decode cX11_exact 2 = .ok (.invokevirtual 135, 3) := by decide +kernel
theorem dX11_exact_5 : decode cX11_exact 5 = .ok (.ifCond .eq 10, 3) := by decide +kernel
theorem dX11_exact_8 : decode cX11_exact 8 = .ok (.iload_n 2, 1) := by decide +kernel
theorem dX11_exact_9 : decode cX11_exact 9 = .ok (.invokestatic 139, 3) := by decide +kernel
theorem dX11_exact_12 : decode cX11_exact 12 = .ok (.ifCond .ne 7, 3) := by decide +kernel
theorem dX11_exact_15 : decode cX11_exact 15 = .ok (.ldc2_w 164, 3) := by decide +kernel
theorem dX11_exact_18 : decode cX11_exact 18 = .ok (.lreturn, 1) := by decide +kernel
theorem dX11_exact_19 : decode cX11_exact 19 = .ok (.aload_n 0, 1) := by decide +kernel
theorem dX11_exact_20 : decode cX11_exact 20 = .ok (.getfield 75, 3) := by decide +kernel
theorem dX11_exact_23 : decode cX11_exact 23 = .ok (.getfield 123, 3) := by decide +kernel
theorem dX11_exact_26 : decode cX11_exact 26 = .ok (.iload_n 2, 1) := by decide +kernel
theorem dX11_exact_27 : decode cX11_exact 27 = .ok (.ldc2_w 166, 3) := by decide +kernel
theorem dX11_exact_30 : decode cX11_exact 30 = .ok (.invokestatic 168, 3) := by decide +kernel
theorem dX11_exact_33 : decode cX11_exact 33 = .ok (.ifCond .eq 9, 3) := by decide +kernel
theorem dX11_exact_36 : decode cX11_exact 36 = .ok (.ldc2_w 172, 3) := by decide +kernel
theorem dX11_exact_39 : decode cX11_exact 39 = .ok (.goto 12, 3) := by decide +kernel
theorem dX11_exact_42 : decode cX11_exact 42 = .ok (.aload_n 0, 1) := by decide +kernel
theorem dX11_exact_43 : decode cX11_exact 43 = .ok (.getfield 44, 3) := by decide +kernel
theorem dX11_exact_46 : decode cX11_exact 46 = .ok (.iload_n 1, 1) := by decide +kernel
theorem dX11_exact_47 : decode cX11_exact 47 = .ok (.iload_n 2, 1) := by decide +kernel
theorem dX11_exact_48 : decode cX11_exact 48 = .ok (.invokevirtual 174, 3) := by decide +kernel
theorem dX11_exact_51 : decode cX11_exact 51 = .ok (.lreturn, 1) := by decide +kernel
theorem dX11_sum_0 : decode cX11_sum 0 = .ok (.aload_n 0, 1) := by decide +kernel
theorem dX11_sum_1 : decode cX11_sum 1 = .ok (.iload_n 1, 1) := by decide +kernel
theorem dX11_sum_2 : decode cX11_sum 2 = .ok (.invokevirtual 149, 3) := by decide +kernel
theorem dX11_sum_5 : decode cX11_sum 5 = .ok (.ifCond .eq 10, 3) := by decide +kernel
theorem dX11_sum_8 : decode cX11_sum 8 = .ok (.iload_n 2, 1) := by decide +kernel
theorem dX11_sum_9 : decode cX11_sum 9 = .ok (.invokestatic 139, 3) := by decide +kernel
theorem dX11_sum_12 : decode cX11_sum 12 = .ok (.ifCond .ne 7, 3) := by decide +kernel
theorem dX11_sum_15 : decode cX11_sum 15 = .ok (.ldc2_w 164, 3) := by decide +kernel
theorem dX11_sum_18 : decode cX11_sum 18 = .ok (.lreturn, 1) := by decide +kernel
theorem dX11_sum_19 : decode cX11_sum 19 = .ok (.aload_n 0, 1) := by decide +kernel
theorem dX11_sum_20 : decode cX11_sum 20 = .ok (.getfield 75, 3) := by decide +kernel
theorem dX11_sum_23 : decode cX11_sum 23 = .ok (.getfield 123, 3) := by decide +kernel
theorem dX11_sum_26 : decode cX11_sum 26 = .ok (.iload_n 2, 1) := by decide +kernel
theorem dX11_sum_27 : decode cX11_sum 27 = .ok (.ldc2_w 178, 3) := by decide +kernel
theorem dX11_sum_30 : decode cX11_sum 30 = .ok (.invokestatic 168, 3) := by decide +kernel
theorem dX11_sum_33 : decode cX11_sum 33 = .ok (.ifCond .eq 9, 3) := by decide +kernel
theorem dX11_sum_36 : decode cX11_sum 36 = .ok (.ldc2_w 172, 3) := by decide +kernel
theorem dX11_sum_39 : decode cX11_sum 39 = .ok (.goto 12, 3) := by decide +kernel
theorem dX11_sum_42 : decode cX11_sum 42 = .ok (.aload_n 0, 1) := by decide +kernel
theorem dX11_sum_43 : decode cX11_sum 43 = .ok (.getfield 44, 3) := by decide +kernel
theorem dX11_sum_46 : decode cX11_sum 46 = .ok (.iload_n 1, 1) := by decide +kernel
theorem dX11_sum_47 : decode cX11_sum 47 = .ok (.iload_n 2, 1) := by decide +kernel
theorem dX11_sum_48 : decode cX11_sum 48 = .ok (.invokevirtual 180, 3) := by decide +kernel
theorem dX11_sum_51 : decode cX11_sum 51 = .ok (.lreturn, 1) := by decide +kernel
theorem dX11_reached_0 : decode cX11_reached 0 = .ok (.aload_n 0, 1) := by decide +kernel
theorem dX11_reached_1 : decode cX11_reached 1 = .ok (.invokevirtual 120, 3) := by decide +kernel
theorem dX11_reached_4 : decode cX11_reached 4 = .ok (.ifCond .eq 8, 3) := by decide +kernel
theorem dX11_reached_7 : decode cX11_reached 7 = .ok (.bipush (-3), 2) := by decide +kernel
theorem dX11_reached_9 : decode cX11_reached 9 = .ok (.goto 10, 3) := by decide +kernel
theorem dX11_reached_12 : decode cX11_reached 12 = .ok (.aload_n 0, 1) := by decide +kernel
theorem dX11_reached_13 : decode cX11_reached 13 = .ok (.getfield 44, 3) := by decide +kernel
theorem dX11_reached_16 : decode cX11_reached 16 = .ok (.invokevirtual 183, 3) := by decide +kernel
theorem dX11_reached_19 : decode cX11_reached 19 = .ok (.ireturn, 1) := by decide +kernel
theorem dX11_block_0 : decode cX11_block 0 = .ok (.aload_n 0, 1) := by decide +kernel
theorem dX11_block_1 : decode cX11_block 1 = .ok (.iload_n 1, 1) := by decide +kernel
theorem dX11_block_2 : decode cX11_block 2 = .ok (.invokevirtual 135, 3) := by decide +kernel
theorem dX11_block_5 : decode cX11_block 5 = .ok (.ifCond .eq 21, 3) := by decide +kernel
theorem dX11_block_8 : decode cX11_block 8 = .ok (.iload_n 2, 1) := by decide +kernel
theorem dX11_block_9 : decode cX11_block 9 = .ok (.invokestatic 139, 3) := by decide +kernel
theorem dX11_block_12 : decode cX11_block 12 = .ok (.ifCond .eq 14, 3) := by decide +kernel
theorem dX11_block_15 : decode cX11_block 15 = .ok (.iload_n 3, 1) := by decide +kernel
theorem dX11_block_16 : decode cX11_block 16 = .ok (.ifCond .lt 10, 3) := by decide +kernel
theorem dX11_block_19 : decode cX11_block 19 = .ok (.iload_n 3, 1) := by decide +kernel
theorem dX11_block_20 : decode cX11_block 20 = .ok (.sipush 9999, 3) := by decide +kernel
theorem dX11_block_23 : decode cX11_block 23 = .ok (.if_icmp .le 6, 3) := by decide +kernel
theorem dX11_block_26 : decode cX11_block 26 = .ok (.bipush (-2), 2) := by decide +kernel
theorem dX11_block_28 : decode cX11_block 28 = .ok (.ireturn, 1) := by decide +kernel
theorem dX11_block_29 : decode cX11_block 29 = .ok (.aload_n 0, 1) := by decide +kernel
theorem dX11_block_30 : decode cX11_block 30 = .ok (.getfield 51, 3) := by decide +kernel
theorem dX11_block_33 : decode cX11_block 33 = .ok (.iload_n 1, 1) := by decide +kernel
theorem dX11_block_34 : decode cX11_block 34 = .ok (.iload_n 2, 1) := by decide +kernel
theorem dX11_block_35 : decode cX11_block 35 = .ok (.invokevirtual 186, 3) := by decide +kernel
theorem dX11_block_38 : decode cX11_block 38 = .ok (.aload_n 0, 1) := by decide +kernel
theorem dX11_block_39 : decode cX11_block 39 = .ok (.getfield 51, 3) := by decide +kernel
theorem dX11_block_42 : decode cX11_block 42 = .ok (.iload_n 3, 1) := by decide +kernel
theorem dX11_block_43 : decode cX11_block 43 = .ok (.invokevirtual 190, 3) := by decide +kernel
theorem dX11_block_46 : decode cX11_block 46 = .ok (.ifCond .eq 39, 3) := by decide +kernel
theorem dX11_block_49 : decode cX11_block 49 = .ok (.iconst 0, 1) := by decide +kernel
theorem dX11_block_50 : decode cX11_block 50 = .ok (.istore 4, 2) := by decide +kernel
theorem dX11_block_52 : decode cX11_block 52 = .ok (.iload 4, 2) := by decide +kernel
theorem dX11_block_54 : decode cX11_block 54 = .ok (.bipush 10, 2) := by decide +kernel
theorem dX11_block_56 : decode cX11_block 56 = .ok (.if_icmp .ge 29, 3) := by decide +kernel
theorem dX11_block_59 : decode cX11_block 59 = .ok (.aload_n 0, 1) := by decide +kernel
theorem dX11_block_60 : decode cX11_block 60 = .ok (.getfield 51, 3) := by decide +kernel
theorem dX11_block_63 : decode cX11_block 63 = .ok (.aload_n 0, 1) := by decide +kernel
theorem dX11_block_64 : decode cX11_block 64 = .ok (.iload_n 1, 1) := by decide +kernel
theorem dX11_block_65 : decode cX11_block 65 = .ok (.iload_n 2, 1) := by decide +kernel
theorem dX11_block_66 : decode cX11_block 66 = .ok (.iload_n 3, 1) := by decide +kernel
theorem dX11_block_67 : decode cX11_block 67 = .ok (.bipush 10, 2) := by decide +kernel
theorem dX11_block_69 : decode cX11_block 69 = .ok (.imul, 1) := by decide +kernel
theorem dX11_block_70 : decode cX11_block 70 = .ok (.iload 4, 2) := by decide +kernel
theorem dX11_block_72 : decode cX11_block 72 = .ok (.iadd, 1) := by decide +kernel
theorem dX11_block_73 : decode cX11_block 73 = .ok (.invokevirtual 145, 3) := by decide +kernel
theorem dX11_block_76 : decode cX11_block 76 = .ok (.invokevirtual 193, 3) := by decide +kernel
theorem dX11_block_79 : decode cX11_block 79 = .ok (.iinc 4 1, 3) := by decide +kernel
theorem dX11_block_82 : decode cX11_block 82 = .ok (.goto (-30), 3) := by decide +kernel
theorem dX11_block_85 : decode cX11_block 85 = .ok (.aload_n 0, 1) := by decide +kernel
theorem dX11_block_86 : decode cX11_block 86 = .ok (.getfield 51, 3) := by decide +kernel
theorem dX11_block_89 : decode cX11_block 89 = .ok (.getfield 197, 3) := by decide +kernel
theorem dX11_block_92 : decode cX11_block 92 = .ok (.ireturn, 1) := by decide +kernel
theorem dX11_told_0 : decode cX11_told 0 = .ok (.iload_n 1, 1) := by decide +kernel
theorem dX11_told_1 : decode cX11_told 1 = .ok (.tableswitch 78 0 4 #[35, 46, 54, 62, 70], 35) := by decide +kernel
theorem dX11_told_36 : decode cX11_told 36 = .ok (.aload_n 0, 1) := by decide +kernel
theorem dX11_told_37 : decode cX11_told 37 = .ok (.getfield 51, 3) := by decide +kernel
theorem dX11_told_40 : decode cX11_told 40 = .ok (.getfield 197, 3) := by decide +kernel
theorem dX11_told_43 : decode cX11_told 43 = .ok (.bipush 10, 2) := by decide +kernel
theorem dX11_told_45 : decode cX11_told 45 = .ok (.imul, 1) := by decide +kernel
theorem dX11_told_46 : decode cX11_told 46 = .ok (.ireturn, 1) := by decide +kernel
theorem dX11_told_47 : decode cX11_told 47 = .ok (.aload_n 0, 1) := by decide +kernel
theorem dX11_told_48 : decode cX11_told 48 = .ok (.getfield 51, 3) := by decide +kernel
theorem dX11_told_51 : decode cX11_told 51 = .ok (.getfield 200, 3) := by decide +kernel
theorem dX11_told_54 : decode cX11_told 54 = .ok (.ireturn, 1) := by decide +kernel
theorem dX11_told_55 : decode cX11_told 55 = .ok (.aload_n 0, 1) := by decide +kernel
theorem dX11_told_56 : decode cX11_told 56 = .ok (.getfield 51, 3) := by decide +kernel
theorem dX11_told_59 : decode cX11_told 59 = .ok (.getfield 203, 3) := by decide +kernel
theorem dX11_told_62 : decode cX11_told 62 = .ok (.ireturn, 1) := by decide +kernel
theorem dX11_told_63 : decode cX11_told 63 = .ok (.aload_n 0, 1) := by decide +kernel
theorem dX11_told_64 : decode cX11_told 64 = .ok (.getfield 51, 3) := by decide +kernel
theorem dX11_told_67 : decode cX11_told 67 = .ok (.getfield 206, 3) := by decide +kernel
theorem dX11_told_70 : decode cX11_told 70 = .ok (.ireturn, 1) := by decide +kernel
theorem dX11_told_71 : decode cX11_told 71 = .ok (.aload_n 0, 1) := by decide +kernel
theorem dX11_told_72 : decode cX11_told 72 = .ok (.getfield 51, 3) := by decide +kernel
theorem dX11_told_75 : decode cX11_told 75 = .ok (.getfield 209, 3) := by decide +kernel
theorem dX11_told_78 : decode cX11_told 78 = .ok (.ireturn, 1) := by decide +kernel
theorem dX11_told_79 : decode cX11_told 79 = .ok (.bipush (-2), 2) := by decide +kernel
theorem dX11_told_81 : decode cX11_told 81 = .ok (.ireturn, 1) := by decide +kernel
theorem dX11_both_0 : decode cX11_both 0 = .ok (.aload_n 0, 1) := by decide +kernel
theorem dX11_both_1 : decode cX11_both 1 = .ok (.iload_n 1, 1) := by decide +kernel
theorem dX11_both_2 : decode cX11_both 2 = .ok (.invokevirtual 135, 3) := by decide +kernel
theorem dX11_both_5 : decode cX11_both 5 = .ok (.ifCond .eq 42, 3) := by decide +kernel
theorem dX11_both_8 : decode cX11_both 8 = .ok (.aload_n 0, 1) := by decide +kernel
theorem dX11_both_9 : decode cX11_both 9 = .ok (.iload_n 2, 1) := by decide +kernel
theorem dX11_both_10 : decode cX11_both 10 = .ok (.invokevirtual 135, 3) := by decide +kernel
theorem dX11_both_13 : decode cX11_both 13 = .ok (.ifCond .eq 34, 3) := by decide +kernel
theorem dX11_both_16 : decode cX11_both 16 = .ok (.iload_n 3, 1) := by decide +kernel
theorem dX11_both_17 : decode cX11_both 17 = .ok (.invokestatic 139, 3) := by decide +kernel
theorem dX11_both_20 : decode cX11_both 20 = .ok (.ifCond .eq 27, 3) := by decide +kernel
theorem dX11_both_23 : decode cX11_both 23 = .ok (.iload 4, 2) := by decide +kernel
theorem dX11_both_25 : decode cX11_both 25 = .ok (.ifCond .lt 22, 3) := by decide +kernel
theorem dX11_both_28 : decode cX11_both 28 = .ok (.iload 4, 2) := by decide +kernel
theorem dX11_both_30 : decode cX11_both 30 = .ok (.sipush 500, 3) := by decide +kernel
theorem dX11_both_33 : decode cX11_both 33 = .ok (.if_icmp .gt 14, 3) := by decide +kernel
theorem dX11_both_36 : decode cX11_both 36 = .ok (.iload 5, 2) := by decide +kernel
theorem dX11_both_38 : decode cX11_both 38 = .ok (.ifCond .lt 9, 3) := by decide +kernel
theorem dX11_both_41 : decode cX11_both 41 = .ok (.iload 5, 2) := by decide +kernel
theorem dX11_both_43 : decode cX11_both 43 = .ok (.iconst 3, 1) := by decide +kernel
theorem dX11_both_44 : decode cX11_both 44 = .ok (.if_icmp .le 6, 3) := by decide +kernel
theorem dX11_both_47 : decode cX11_both 47 = .ok (.bipush (-2), 2) := by decide +kernel
theorem dX11_both_49 : decode cX11_both 49 = .ok (.ireturn, 1) := by decide +kernel
theorem dX11_both_50 : decode cX11_both 50 = .ok (.iconst 0, 1) := by decide +kernel
theorem dX11_both_51 : decode cX11_both 51 = .ok (.istore 6, 2) := by decide +kernel
theorem dX11_both_53 : decode cX11_both 53 = .ok (.iconst 0, 1) := by decide +kernel
theorem dX11_both_54 : decode cX11_both 54 = .ok (.istore 7, 2) := by decide +kernel
theorem dX11_both_56 : decode cX11_both 56 = .ok (.iload 7, 2) := by decide +kernel
theorem dX11_both_58 : decode cX11_both 58 = .ok (.iload 4, 2) := by decide +kernel
theorem dX11_both_60 : decode cX11_both 60 = .ok (.if_icmp .ge 26, 3) := by decide +kernel
theorem dX11_both_63 : decode cX11_both 63 = .ok (.aload_n 0, 1) := by decide +kernel
theorem dX11_both_64 : decode cX11_both 64 = .ok (.iload_n 1, 1) := by decide +kernel
theorem dX11_both_65 : decode cX11_both 65 = .ok (.iload_n 2, 1) := by decide +kernel
theorem dX11_both_66 : decode cX11_both 66 = .ok (.iload_n 3, 1) := by decide +kernel
theorem dX11_both_67 : decode cX11_both 67 = .ok (.iload 7, 2) := by decide +kernel
theorem dX11_both_69 : decode cX11_both 69 = .ok (.invokevirtual 210, 3) := by decide +kernel
theorem dX11_both_72 : decode cX11_both 72 = .ok (.iload 5, 2) := by decide +kernel
theorem dX11_both_74 : decode cX11_both 74 = .ok (.if_icmp .ne 6, 3) := by decide +kernel
theorem dX11_both_77 : decode cX11_both 77 = .ok (.iinc 6 1, 3) := by decide +kernel
theorem dX11_both_80 : decode cX11_both 80 = .ok (.iinc 7 1, 3) := by decide +kernel
theorem dX11_both_83 : decode cX11_both 83 = .ok (.goto (-27), 3) := by decide +kernel
theorem dX11_both_86 : decode cX11_both 86 = .ok (.iload 6, 2) := by decide +kernel
theorem dX11_both_88 : decode cX11_both 88 = .ok (.ireturn, 1) := by decide +kernel
theorem dX11_ends_0 : decode cX11_ends 0 = .ok (.iload_n 2, 1) := by decide +kernel
theorem dX11_ends_1 : decode cX11_ends 1 = .ok (.invokestatic 214, 3) := by decide +kernel
theorem dX11_ends_4 : decode cX11_ends 4 = .ok (.ifCond .eq 30, 3) := by decide +kernel
theorem dX11_ends_7 : decode cX11_ends 7 = .ok (.iload_n 1, 1) := by decide +kernel
theorem dX11_ends_8 : decode cX11_ends 8 = .ok (.ifCond .lt 26, 3) := by decide +kernel
theorem dX11_ends_11 : decode cX11_ends 11 = .ok (.iload_n 1, 1) := by decide +kernel
theorem dX11_ends_12 : decode cX11_ends 12 = .ok (.iload_n 2, 1) := by decide +kernel
theorem dX11_ends_13 : decode cX11_ends 13 = .ok (.if_icmp .gt 21, 3) := by decide +kernel
theorem dX11_ends_16 : decode cX11_ends 16 = .ok (.iload_n 3, 1) := by decide +kernel
theorem dX11_ends_17 : decode cX11_ends 17 = .ok (.invokestatic 217, 3) := by decide +kernel
theorem dX11_ends_20 : decode cX11_ends 20 = .ok (.ifCond .eq 14, 3) := by decide +kernel
theorem dX11_ends_23 : decode cX11_ends 23 = .ok (.iload 4, 2) := by decide +kernel
theorem dX11_ends_25 : decode cX11_ends 25 = .ok (.ifCond .lt 9, 3) := by decide +kernel
theorem dX11_ends_28 : decode cX11_ends 28 = .ok (.iload 4, 2) := by decide +kernel
theorem dX11_ends_30 : decode cX11_ends 30 = .ok (.iconst 1, 1) := by decide +kernel
theorem dX11_ends_31 : decode cX11_ends 31 = .ok (.if_icmp .le 6, 3) := by decide +kernel
theorem dX11_ends_34 : decode cX11_ends 34 = .ok (.bipush (-2), 2) := by decide +kernel
theorem dX11_ends_36 : decode cX11_ends 36 = .ok (.ireturn, 1) := by decide +kernel
theorem dX11_ends_37 : decode cX11_ends 37 = .ok (.iload 4, 2) := by decide +kernel
theorem dX11_ends_39 : decode cX11_ends 39 = .ok (.ifCond .ne 16, 3) := by decide +kernel
theorem dX11_ends_42 : decode cX11_ends 42 = .ok (.aload_n 0, 1) := by decide +kernel
theorem dX11_ends_43 : decode cX11_ends 43 = .ok (.getfield 58, 3) := by decide +kernel
theorem dX11_ends_46 : decode cX11_ends 46 = .ok (.iload_n 1, 1) := by decide +kernel
theorem dX11_ends_47 : decode cX11_ends 47 = .ok (.iload_n 2, 1) := by decide +kernel
theorem dX11_ends_48 : decode cX11_ends 48 = .ok (.iload_n 3, 1) := by decide +kernel
theorem dX11_ends_49 : decode cX11_ends 49 = .ok (.invokevirtual 220, 3) := by decide +kernel
theorem dX11_ends_52 : decode cX11_ends 52 = .ok (.goto 13, 3) := by decide +kernel
theorem dX11_ends_55 : decode cX11_ends 55 = .ok (.aload_n 0, 1) := by decide +kernel
theorem dX11_ends_56 : decode cX11_ends 56 = .ok (.getfield 58, 3) := by decide +kernel
theorem dX11_ends_59 : decode cX11_ends 59 = .ok (.iload_n 1, 1) := by decide +kernel
theorem dX11_ends_60 : decode cX11_ends 60 = .ok (.iload_n 2, 1) := by decide +kernel
theorem dX11_ends_61 : decode cX11_ends 61 = .ok (.iload_n 3, 1) := by decide +kernel
theorem dX11_ends_62 : decode cX11_ends 62 = .ok (.invokevirtual 223, 3) := by decide +kernel
theorem dX11_ends_65 : decode cX11_ends 65 = .ok (.ireturn, 1) := by decide +kernel
theorem dX11_misses_0 : decode cX11_misses 0 = .ok (.iload_n 1, 1) := by decide +kernel
theorem dX11_misses_1 : decode cX11_misses 1 = .ok (.invokestatic 214, 3) := by decide +kernel
theorem dX11_misses_4 : decode cX11_misses 4 = .ok (.ifCond .eq 20, 3) := by decide +kernel
theorem dX11_misses_7 : decode cX11_misses 7 = .ok (.iload_n 2, 1) := by decide +kernel
theorem dX11_misses_8 : decode cX11_misses 8 = .ok (.ifCond .lt 16, 3) := by decide +kernel
theorem dX11_misses_11 : decode cX11_misses 11 = .ok (.iload_n 2, 1) := by decide +kernel
theorem dX11_misses_12 : decode cX11_misses 12 = .ok (.bipush 10, 2) := by decide +kernel
theorem dX11_misses_14 : decode cX11_misses 14 = .ok (.if_icmp .gt 10, 3) := by decide +kernel
theorem dX11_misses_17 : decode cX11_misses 17 = .ok (.iload_n 3, 1) := by decide +kernel
theorem dX11_misses_18 : decode cX11_misses 18 = .ok (.invokestatic 217, 3) := by decide +kernel
theorem dX11_misses_21 : decode cX11_misses 21 = .ok (.ifCond .ne 7, 3) := by decide +kernel
theorem dX11_misses_24 : decode cX11_misses 24 = .ok (.ldc2_w 164, 3) := by decide +kernel
theorem dX11_misses_27 : decode cX11_misses 27 = .ok (.lreturn, 1) := by decide +kernel
theorem dX11_misses_28 : decode cX11_misses 28 = .ok (.aload_n 0, 1) := by decide +kernel
theorem dX11_misses_29 : decode cX11_misses 29 = .ok (.getfield 58, 3) := by decide +kernel
theorem dX11_misses_32 : decode cX11_misses 32 = .ok (.iload_n 1, 1) := by decide +kernel
theorem dX11_misses_33 : decode cX11_misses 33 = .ok (.iload_n 2, 1) := by decide +kernel
theorem dX11_misses_34 : decode cX11_misses 34 = .ok (.iload_n 3, 1) := by decide +kernel
theorem dX11_misses_35 : decode cX11_misses 35 = .ok (.invokevirtual 226, 3) := by decide +kernel
theorem dX11_misses_38 : decode cX11_misses 38 = .ok (.lreturn, 1) := by decide +kernel
theorem dX11_test_0 : decode cX11_test 0 = .ok (.aload_n 0, 1) := by decide +kernel
theorem dX11_test_1 : decode cX11_test 1 = .ok (.iload_n 1, 1) := by decide +kernel
theorem dX11_test_2 : decode cX11_test 2 = .ok (.invokevirtual 135, 3) := by decide +kernel
theorem dX11_test_5 : decode cX11_test 5 = .ok (.ifCond .eq 52, 3) := by decide +kernel
theorem dX11_test_8 : decode cX11_test 8 = .ok (.iload_n 2, 1) := by decide +kernel
theorem dX11_test_9 : decode cX11_test 9 = .ok (.invokestatic 139, 3) := by decide +kernel
theorem dX11_test_12 : decode cX11_test 12 = .ok (.ifCond .eq 45, 3) := by decide +kernel
theorem dX11_test_15 : decode cX11_test 15 = .ok (.iload_n 3, 1) := by decide +kernel
theorem dX11_test_16 : decode cX11_test 16 = .ok (.iconst 1, 1) := by decide +kernel
theorem dX11_test_17 : decode cX11_test 17 = .ok (.if_icmp .lt 40, 3) := by decide +kernel
theorem dX11_test_20 : decode cX11_test 20 = .ok (.iload 4, 2) := by decide +kernel
theorem dX11_test_22 : decode cX11_test 22 = .ok (.bipush 9, 2) := by decide +kernel
theorem dX11_test_24 : decode cX11_test 24 = .ok (.if_icmp .gt 33, 3) := by decide +kernel
theorem dX11_test_27 : decode cX11_test 27 = .ok (.iload_n 3, 1) := by decide +kernel
theorem dX11_test_28 : decode cX11_test 28 = .ok (.iload 4, 2) := by decide +kernel
theorem dX11_test_30 : decode cX11_test 30 = .ok (.if_icmp .ge 27, 3) := by decide +kernel
theorem dX11_test_33 : decode cX11_test 33 = .ok (.iload 5, 2) := by decide +kernel
theorem dX11_test_35 : decode cX11_test 35 = .ok (.iconst 2, 1) := by decide +kernel
theorem dX11_test_36 : decode cX11_test 36 = .ok (.if_icmp .lt 21, 3) := by decide +kernel
theorem dX11_test_39 : decode cX11_test 39 = .ok (.iload 5, 2) := by decide +kernel
theorem dX11_test_41 : decode cX11_test 41 = .ok (.bipush 20, 2) := by decide +kernel
theorem dX11_test_43 : decode cX11_test 43 = .ok (.if_icmp .gt 14, 3) := by decide +kernel
theorem dX11_test_46 : decode cX11_test 46 = .ok (.iload 6, 2) := by decide +kernel
theorem dX11_test_48 : decode cX11_test 48 = .ok (.ifCond .lt 9, 3) := by decide +kernel
theorem dX11_test_51 : decode cX11_test 51 = .ok (.iload 6, 2) := by decide +kernel
theorem dX11_test_53 : decode cX11_test 53 = .ok (.iconst 2, 1) := by decide +kernel
theorem dX11_test_54 : decode cX11_test 54 = .ok (.if_icmp .le 6, 3) := by decide +kernel
theorem dX11_test_57 : decode cX11_test 57 = .ok (.bipush (-2), 2) := by decide +kernel
theorem dX11_test_59 : decode cX11_test 59 = .ok (.ireturn, 1) := by decide +kernel
theorem dX11_test_60 : decode cX11_test 60 = .ok (.iconst 0, 1) := by decide +kernel
theorem dX11_test_61 : decode cX11_test 61 = .ok (.istore 7, 2) := by decide +kernel
theorem dX11_test_63 : decode cX11_test 63 = .ok (.iconst 0, 1) := by decide +kernel
theorem dX11_test_64 : decode cX11_test 64 = .ok (.istore 8, 2) := by decide +kernel
theorem dX11_test_66 : decode cX11_test 66 = .ok (.iconst (-1), 1) := by decide +kernel
theorem dX11_test_67 : decode cX11_test 67 = .ok (.istore 9, 2) := by decide +kernel
theorem dX11_test_69 : decode cX11_test 69 = .ok (.iload 7, 2) := by decide +kernel
theorem dX11_test_71 : decode cX11_test 71 = .ok (.bipush 16, 2) := by decide +kernel
theorem dX11_test_73 : decode cX11_test 73 = .ok (.if_icmp .ge 48, 3) := by decide +kernel
theorem dX11_test_76 : decode cX11_test 76 = .ok (.iload 9, 2) := by decide +kernel
theorem dX11_test_78 : decode cX11_test 78 = .ok (.iconst (-1), 1) := by decide +kernel
theorem dX11_test_79 : decode cX11_test 79 = .ok (.if_icmp .ne 42, 3) := by decide +kernel
theorem dX11_test_82 : decode cX11_test 82 = .ok (.aload_n 0, 1) := by decide +kernel
theorem dX11_test_83 : decode cX11_test 83 = .ok (.iload_n 1, 1) := by decide +kernel
theorem dX11_test_84 : decode cX11_test 84 = .ok (.iload_n 2, 1) := by decide +kernel
theorem dX11_test_85 : decode cX11_test 85 = .ok (.iload 7, 2) := by decide +kernel
theorem dX11_test_87 : decode cX11_test 87 = .ok (.invokevirtual 145, 3) := by decide +kernel
theorem dX11_test_90 : decode cX11_test 90 = .ok (.iconst (-1), 1) := by decide +kernel
theorem dX11_test_91 : decode cX11_test 91 = .ok (.if_icmp .eq 6, 3) := by decide +kernel
theorem dX11_test_94 : decode cX11_test 94 = .ok (.iinc 8 1, 3) := by decide +kernel
theorem dX11_test_97 : decode cX11_test 97 = .ok (.iinc 7 1, 3) := by decide +kernel
theorem dX11_test_100 : decode cX11_test 100 = .ok (.aload_n 0, 1) := by decide +kernel
theorem dX11_test_101 : decode cX11_test 101 = .ok (.getfield 58, 3) := by decide +kernel
theorem dX11_test_104 : decode cX11_test 104 = .ok (.iload 8, 2) := by decide +kernel
theorem dX11_test_106 : decode cX11_test 106 = .ok (.iload 7, 2) := by decide +kernel
theorem dX11_test_108 : decode cX11_test 108 = .ok (.iload_n 3, 1) := by decide +kernel
theorem dX11_test_109 : decode cX11_test 109 = .ok (.iload 4, 2) := by decide +kernel
theorem dX11_test_111 : decode cX11_test 111 = .ok (.iload 5, 2) := by decide +kernel
theorem dX11_test_113 : decode cX11_test 113 = .ok (.invokevirtual 230, 3) := by decide +kernel
theorem dX11_test_116 : decode cX11_test 116 = .ok (.istore 9, 2) := by decide +kernel
theorem dX11_test_118 : decode cX11_test 118 = .ok (.goto (-49), 3) := by decide +kernel
theorem dX11_test_121 : decode cX11_test 121 = .ok (.iload 6, 2) := by decide +kernel
theorem dX11_test_123 : decode cX11_test 123 = .ok (.lookupswitch 31 #[(0, 25), (1, 28)], 25) := by decide +kernel
theorem dX11_test_148 : decode cX11_test 148 = .ok (.iload 9, 2) := by decide +kernel
theorem dX11_test_150 : decode cX11_test 150 = .ok (.ireturn, 1) := by decide +kernel
theorem dX11_test_151 : decode cX11_test 151 = .ok (.iload 7, 2) := by decide +kernel
theorem dX11_test_153 : decode cX11_test 153 = .ok (.ireturn, 1) := by decide +kernel
theorem dX11_test_154 : decode cX11_test 154 = .ok (.iload 8, 2) := by decide +kernel
theorem dX11_test_156 : decode cX11_test 156 = .ok (.ireturn, 1) := by decide +kernel
theorem dX11_split_0 : decode cX11_split 0 = .ok (.aload_n 0, 1) := by decide +kernel
theorem dX11_split_1 : decode cX11_split 1 = .ok (.iload_n 1, 1) := by decide +kernel
theorem dX11_split_2 : decode cX11_split 2 = .ok (.invokevirtual 135, 3) := by decide +kernel
theorem dX11_split_5 : decode cX11_split 5 = .ok (.ifCond .eq 26, 3) := by decide +kernel
theorem dX11_split_8 : decode cX11_split 8 = .ok (.iload_n 2, 1) := by decide +kernel
theorem dX11_split_9 : decode cX11_split 9 = .ok (.invokestatic 139, 3) := by decide +kernel
theorem dX11_split_12 : decode cX11_split 12 = .ok (.ifCond .eq 19, 3) := by decide +kernel
theorem dX11_split_15 : decode cX11_split 15 = .ok (.aload_n 0, 1) := by decide +kernel
theorem dX11_split_16 : decode cX11_split 16 = .ok (.iload_n 3, 1) := by decide +kernel
theorem dX11_split_17 : decode cX11_split 17 = .ok (.invokevirtual 149, 3) := by decide +kernel
theorem dX11_split_20 : decode cX11_split 20 = .ok (.ifCond .eq 11, 3) := by decide +kernel
theorem dX11_split_23 : decode cX11_split 23 = .ok (.iload 6, 2) := by decide +kernel
theorem dX11_split_25 : decode cX11_split 25 = .ok (.invokestatic 142, 3) := by decide +kernel
theorem dX11_split_28 : decode cX11_split 28 = .ok (.ifCond .ne 6, 3) := by decide +kernel
theorem dX11_split_31 : decode cX11_split 31 = .ok (.bipush (-2), 2) := by decide +kernel
theorem dX11_split_33 : decode cX11_split 33 = .ok (.ireturn, 1) := by decide +kernel
theorem dX11_split_34 : decode cX11_split 34 = .ok (.iload 4, 2) := by decide +kernel
theorem dX11_split_36 : decode cX11_split 36 = .ok (.iconst 1, 1) := by decide +kernel
theorem dX11_split_37 : decode cX11_split 37 = .ok (.if_icmp .lt 21, 3) := by decide +kernel
theorem dX11_split_40 : decode cX11_split 40 = .ok (.iload 4, 2) := by decide +kernel
theorem dX11_split_42 : decode cX11_split 42 = .ok (.iconst 5, 1) := by decide +kernel
theorem dX11_split_43 : decode cX11_split 43 = .ok (.if_icmp .gt 15, 3) := by decide +kernel
theorem dX11_split_46 : decode cX11_split 46 = .ok (.iload 5, 2) := by decide +kernel
theorem dX11_split_48 : decode cX11_split 48 = .ok (.iconst 1, 1) := by decide +kernel
theorem dX11_split_49 : decode cX11_split 49 = .ok (.if_icmp .lt 9, 3) := by decide +kernel
theorem dX11_split_52 : decode cX11_split 52 = .ok (.iload 5, 2) := by decide +kernel
theorem dX11_split_54 : decode cX11_split 54 = .ok (.iconst 4, 1) := by decide +kernel
theorem dX11_split_55 : decode cX11_split 55 = .ok (.if_icmp .le 6, 3) := by decide +kernel
theorem dX11_split_58 : decode cX11_split 58 = .ok (.bipush (-2), 2) := by decide +kernel
theorem dX11_split_60 : decode cX11_split 60 = .ok (.ireturn, 1) := by decide +kernel
theorem dX11_split_61 : decode cX11_split 61 = .ok (.aload_n 0, 1) := by decide +kernel
theorem dX11_split_62 : decode cX11_split 62 = .ok (.getfield 37, 3) := by decide +kernel
theorem dX11_split_65 : decode cX11_split 65 = .ok (.aload_n 0, 1) := by decide +kernel
theorem dX11_split_66 : decode cX11_split 66 = .ok (.getfield 116, 3) := by decide +kernel
theorem dX11_split_69 : decode cX11_split 69 = .ok (.iload 6, 2) := by decide +kernel
theorem dX11_split_71 : decode cX11_split 71 = .ok (.invokevirtual 152, 3) := by decide +kernel
theorem dX11_split_74 : decode cX11_split 74 = .ok (.aload_n 0, 1) := by decide +kernel
theorem dX11_split_75 : decode cX11_split 75 = .ok (.getfield 67, 3) := by decide +kernel
theorem dX11_split_78 : decode cX11_split 78 = .ok (.iload_n 1, 1) := by decide +kernel
theorem dX11_split_79 : decode cX11_split 79 = .ok (.iload_n 2, 1) := by decide +kernel
theorem dX11_split_80 : decode cX11_split 80 = .ok (.iload_n 3, 1) := by decide +kernel
theorem dX11_split_81 : decode cX11_split 81 = .ok (.iload 4, 2) := by decide +kernel
theorem dX11_split_83 : decode cX11_split 83 = .ok (.iload 5, 2) := by decide +kernel
theorem dX11_split_85 : decode cX11_split 85 = .ok (.invokevirtual 234, 3) := by decide +kernel
theorem dX11_split_88 : decode cX11_split 88 = .ok (.ireturn, 1) := by decide +kernel
theorem dX11_moves_0 : decode cX11_moves 0 = .ok (.aload_n 0, 1) := by decide +kernel
theorem dX11_moves_1 : decode cX11_moves 1 = .ok (.iload_n 1, 1) := by decide +kernel
theorem dX11_moves_2 : decode cX11_moves 2 = .ok (.invokevirtual 149, 3) := by decide +kernel
theorem dX11_moves_5 : decode cX11_moves 5 = .ok (.ifCond .eq 14, 3) := by decide +kernel
theorem dX11_moves_8 : decode cX11_moves 8 = .ok (.aload_n 0, 1) := by decide +kernel
theorem dX11_moves_9 : decode cX11_moves 9 = .ok (.getfield 75, 3) := by decide +kernel
theorem dX11_moves_12 : decode cX11_moves 12 = .ok (.iload_n 1, 1) := by decide +kernel
theorem dX11_moves_13 : decode cX11_moves 13 = .ok (.invokevirtual 237, 3) := by decide +kernel
theorem dX11_moves_16 : decode cX11_moves 16 = .ok (.goto 5, 3) := by decide +kernel
theorem dX11_moves_19 : decode cX11_moves 19 = .ok (.bipush (-2), 2) := by decide +kernel
theorem dX11_moves_21 : decode cX11_moves 21 = .ok (.ireturn, 1) := by decide +kernel
theorem dX11_hasNoModel_0 : decode cX11_hasNoModel 0 = .ok (.aload_n 0, 1) := by decide +kernel
theorem dX11_hasNoModel_1 : decode cX11_hasNoModel 1 = .ok (.getfield 75, 3) := by decide +kernel
theorem dX11_hasNoModel_4 : decode cX11_hasNoModel 4 = .ok (.getfield 123, 3) := by decide +kernel
theorem dX11_hasNoModel_7 : decode cX11_hasNoModel 7 = .ok (.ifCond .ne 7, 3) := by decide +kernel
theorem dX11_hasNoModel_10 : decode cX11_hasNoModel 10 = .ok (.iconst 1, 1) := by decide +kernel
theorem dX11_hasNoModel_11 : decode cX11_hasNoModel 11 = .ok (.goto 4, 3) := by decide +kernel
theorem dX11_hasNoModel_14 : decode cX11_hasNoModel 14 = .ok (.iconst 0, 1) := by decide +kernel
theorem dX11_hasNoModel_15 : decode cX11_hasNoModel 15 = .ok (.ireturn, 1) := by decide +kernel
theorem dX11_isGoal_0 : decode cX11_isGoal 0 = .ok (.iload_n 1, 1) := by decide +kernel
theorem dX11_isGoal_1 : decode cX11_isGoal 1 = .ok (.ifCond .lt 18, 3) := by decide +kernel
theorem dX11_isGoal_4 : decode cX11_isGoal 4 = .ok (.iload_n 1, 1) := by decide +kernel
theorem dX11_isGoal_5 : decode cX11_isGoal 5 = .ok (.aload_n 0, 1) := by decide +kernel
theorem dX11_isGoal_6 : decode cX11_isGoal 6 = .ok (.getfield 75, 3) := by decide +kernel
theorem dX11_isGoal_9 : decode cX11_isGoal 9 = .ok (.getfield 132, 3) := by decide +kernel
theorem dX11_isGoal_12 : decode cX11_isGoal 12 = .ok (.if_icmp .ge 7, 3) := by decide +kernel
theorem dX11_isGoal_15 : decode cX11_isGoal 15 = .ok (.iconst 1, 1) := by decide +kernel
theorem dX11_isGoal_16 : decode cX11_isGoal 16 = .ok (.goto 4, 3) := by decide +kernel
theorem dX11_isGoal_19 : decode cX11_isGoal 19 = .ok (.iconst 0, 1) := by decide +kernel
theorem dX11_isGoal_20 : decode cX11_isGoal 20 = .ok (.ireturn, 1) := by decide +kernel
theorem dX11_isVar_0 : decode cX11_isVar 0 = .ok (.iload_n 1, 1) := by decide +kernel
theorem dX11_isVar_1 : decode cX11_isVar 1 = .ok (.ifCond .lt 18, 3) := by decide +kernel
theorem dX11_isVar_4 : decode cX11_isVar 4 = .ok (.iload_n 1, 1) := by decide +kernel
theorem dX11_isVar_5 : decode cX11_isVar 5 = .ok (.aload_n 0, 1) := by decide +kernel
theorem dX11_isVar_6 : decode cX11_isVar 6 = .ok (.getfield 75, 3) := by decide +kernel
theorem dX11_isVar_9 : decode cX11_isVar 9 = .ok (.getfield 126, 3) := by decide +kernel
theorem dX11_isVar_12 : decode cX11_isVar 12 = .ok (.if_icmp .ge 7, 3) := by decide +kernel
theorem dX11_isVar_15 : decode cX11_isVar 15 = .ok (.iconst 1, 1) := by decide +kernel
theorem dX11_isVar_16 : decode cX11_isVar 16 = .ok (.goto 4, 3) := by decide +kernel
theorem dX11_isVar_19 : decode cX11_isVar 19 = .ok (.iconst 0, 1) := by decide +kernel
theorem dX11_isVar_20 : decode cX11_isVar 20 = .ok (.ireturn, 1) := by decide +kernel
theorem dX11_isLength_0 : decode cX11_isLength 0 = .ok (.iload_n 0, 1) := by decide +kernel
theorem dX11_isLength_1 : decode cX11_isLength 1 = .ok (.ifCond .lt 13, 3) := by decide +kernel
theorem dX11_isLength_4 : decode cX11_isLength 4 = .ok (.iload_n 0, 1) := by decide +kernel
theorem dX11_isLength_5 : decode cX11_isLength 5 = .ok (.bipush 60, 2) := by decide +kernel
theorem dX11_isLength_7 : decode cX11_isLength 7 = .ok (.if_icmp .gt 7, 3) := by decide +kernel
theorem dX11_isLength_10 : decode cX11_isLength 10 = .ok (.iconst 1, 1) := by decide +kernel
theorem dX11_isLength_11 : decode cX11_isLength 11 = .ok (.goto 4, 3) := by decide +kernel
theorem dX11_isLength_14 : decode cX11_isLength 14 = .ok (.iconst 0, 1) := by decide +kernel
theorem dX11_isLength_15 : decode cX11_isLength 15 = .ok (.ireturn, 1) := by decide +kernel
theorem dX11_isRun_0 : decode cX11_isRun 0 = .ok (.iload_n 0, 1) := by decide +kernel
theorem dX11_isRun_1 : decode cX11_isRun 1 = .ok (.ifCond .lt 13, 3) := by decide +kernel
theorem dX11_isRun_4 : decode cX11_isRun 4 = .ok (.iload_n 0, 1) := by decide +kernel
theorem dX11_isRun_5 : decode cX11_isRun 5 = .ok (.ldc 240, 2) := by decide +kernel
theorem dX11_isRun_7 : decode cX11_isRun 7 = .ok (.if_icmp .gt 7, 3) := by decide +kernel
theorem dX11_isRun_10 : decode cX11_isRun 10 = .ok (.iconst 1, 1) := by decide +kernel
theorem dX11_isRun_11 : decode cX11_isRun 11 = .ok (.goto 4, 3) := by decide +kernel
theorem dX11_isRun_14 : decode cX11_isRun 14 = .ok (.iconst 0, 1) := by decide +kernel
theorem dX11_isRun_15 : decode cX11_isRun 15 = .ok (.ireturn, 1) := by decide +kernel
theorem dX11_stepOfHolding_0 : decode cX11_stepOfHolding 0 = .ok (.aload_n 0, 1) := by decide +kernel
theorem dX11_stepOfHolding_1 : decode cX11_stepOfHolding 1 = .ok (.getfield 37, 3) := by decide +kernel
theorem dX11_stepOfHolding_4 : decode cX11_stepOfHolding 4 = .ok (.aload_n 0, 1) := by decide +kernel
theorem dX11_stepOfHolding_5 : decode cX11_stepOfHolding 5 = .ok (.getfield 116, 3) := by decide +kernel
theorem dX11_stepOfHolding_8 : decode cX11_stepOfHolding 8 = .ok (.iload_n 3, 1) := by decide +kernel
theorem dX11_stepOfHolding_9 : decode cX11_stepOfHolding 9 = .ok (.invokevirtual 152, 3) := by decide +kernel
theorem dX11_stepOfHolding_12 : decode cX11_stepOfHolding 12 = .ok (.iconst 0, 1) := by decide +kernel
theorem dX11_stepOfHolding_13 : decode cX11_stepOfHolding 13 = .ok (.istore 4, 2) := by decide +kernel
theorem dX11_stepOfHolding_15 : decode cX11_stepOfHolding 15 = .ok (.iload 4, 2) := by decide +kernel
theorem dX11_stepOfHolding_17 : decode cX11_stepOfHolding 17 = .ok (.iload_n 2, 1) := by decide +kernel
theorem dX11_stepOfHolding_18 : decode cX11_stepOfHolding 18 = .ok (.if_icmp .ge 31, 3) := by decide +kernel
theorem dX11_stepOfHolding_21 : decode cX11_stepOfHolding 21 = .ok (.aload_n 0, 1) := by decide +kernel
theorem dX11_stepOfHolding_22 : decode cX11_stepOfHolding 22 = .ok (.getfield 37, 3) := by decide +kernel
theorem dX11_stepOfHolding_25 : decode cX11_stepOfHolding 25 = .ok (.iload_n 1, 1) := by decide +kernel
theorem dX11_stepOfHolding_26 : decode cX11_stepOfHolding 26 = .ok (.invokevirtual 241, 3) := by decide +kernel
theorem dX11_stepOfHolding_29 : decode cX11_stepOfHolding 29 = .ok (.ifCond .eq 6, 3) := by decide +kernel
theorem dX11_stepOfHolding_32 : decode cX11_stepOfHolding 32 = .ok (.iload 4, 2) := by decide +kernel
theorem dX11_stepOfHolding_34 : decode cX11_stepOfHolding 34 = .ok (.ireturn, 1) := by decide +kernel
theorem dX11_stepOfHolding_35 : decode cX11_stepOfHolding 35 = .ok (.aload_n 0, 1) := by decide +kernel
theorem dX11_stepOfHolding_36 : decode cX11_stepOfHolding 36 = .ok (.getfield 37, 3) := by decide +kernel
theorem dX11_stepOfHolding_39 : decode cX11_stepOfHolding 39 = .ok (.invokevirtual 156, 3) := by decide +kernel
theorem dX11_stepOfHolding_42 : decode cX11_stepOfHolding 42 = .ok (.pop, 1) := by decide +kernel
theorem dX11_stepOfHolding_43 : decode cX11_stepOfHolding 43 = .ok (.iinc 4 1, 3) := by decide +kernel
theorem dX11_stepOfHolding_46 : decode cX11_stepOfHolding 46 = .ok (.goto (-31), 3) := by decide +kernel
theorem dX11_stepOfHolding_49 : decode cX11_stepOfHolding 49 = .ok (.aload_n 0, 1) := by decide +kernel
theorem dX11_stepOfHolding_50 : decode cX11_stepOfHolding 50 = .ok (.getfield 37, 3) := by decide +kernel
theorem dX11_stepOfHolding_53 : decode cX11_stepOfHolding 53 = .ok (.iload_n 1, 1) := by decide +kernel
theorem dX11_stepOfHolding_54 : decode cX11_stepOfHolding 54 = .ok (.invokevirtual 241, 3) := by decide +kernel
theorem dX11_stepOfHolding_57 : decode cX11_stepOfHolding 57 = .ok (.ifCond .eq 7, 3) := by decide +kernel
theorem dX11_stepOfHolding_60 : decode cX11_stepOfHolding 60 = .ok (.iload_n 2, 1) := by decide +kernel
theorem dX11_stepOfHolding_61 : decode cX11_stepOfHolding 61 = .ok (.goto 4, 3) := by decide +kernel
theorem dX11_stepOfHolding_64 : decode cX11_stepOfHolding 64 = .ok (.iconst (-1), 1) := by decide +kernel
theorem dX11_stepOfHolding_65 : decode cX11_stepOfHolding 65 = .ok (.ireturn, 1) := by decide +kernel
theorem dX11_kindOfPair_0 : decode cX11_kindOfPair 0 = .ok (.aload_n 0, 1) := by decide +kernel
theorem dX11_kindOfPair_1 : decode cX11_kindOfPair 1 = .ok (.getfield 37, 3) := by decide +kernel
theorem dX11_kindOfPair_4 : decode cX11_kindOfPair 4 = .ok (.aload_n 0, 1) := by decide +kernel
theorem dX11_kindOfPair_5 : decode cX11_kindOfPair 5 = .ok (.getfield 116, 3) := by decide +kernel
theorem dX11_kindOfPair_8 : decode cX11_kindOfPair 8 = .ok (.iload 4, 2) := by decide +kernel
theorem dX11_kindOfPair_10 : decode cX11_kindOfPair 10 = .ok (.invokevirtual 152, 3) := by decide +kernel
theorem dX11_kindOfPair_13 : decode cX11_kindOfPair 13 = .ok (.aload_n 0, 1) := by decide +kernel
theorem dX11_kindOfPair_14 : decode cX11_kindOfPair 14 = .ok (.getfield 37, 3) := by decide +kernel
theorem dX11_kindOfPair_17 : decode cX11_kindOfPair 17 = .ok (.iload_n 1, 1) := by decide +kernel
theorem dX11_kindOfPair_18 : decode cX11_kindOfPair 18 = .ok (.invokevirtual 241, 3) := by decide +kernel
theorem dX11_kindOfPair_21 : decode cX11_kindOfPair 21 = .ok (.istore 5, 2) := by decide +kernel
theorem dX11_kindOfPair_23 : decode cX11_kindOfPair 23 = .ok (.aload_n 0, 1) := by decide +kernel
theorem dX11_kindOfPair_24 : decode cX11_kindOfPair 24 = .ok (.getfield 37, 3) := by decide +kernel
theorem dX11_kindOfPair_27 : decode cX11_kindOfPair 27 = .ok (.iload_n 2, 1) := by decide +kernel
theorem dX11_kindOfPair_28 : decode cX11_kindOfPair 28 = .ok (.invokevirtual 241, 3) := by decide +kernel
theorem dX11_kindOfPair_31 : decode cX11_kindOfPair 31 = .ok (.istore 6, 2) := by decide +kernel
theorem dX11_kindOfPair_33 : decode cX11_kindOfPair 33 = .ok (.iconst 0, 1) := by decide +kernel
theorem dX11_kindOfPair_34 : decode cX11_kindOfPair 34 = .ok (.istore 7, 2) := by decide +kernel
theorem dX11_kindOfPair_36 : decode cX11_kindOfPair 36 = .ok (.iload 7, 2) := by decide +kernel
theorem dX11_kindOfPair_38 : decode cX11_kindOfPair 38 = .ok (.iload_n 3, 1) := by decide +kernel
theorem dX11_kindOfPair_39 : decode cX11_kindOfPair 39 = .ok (.if_icmp .ge 73, 3) := by decide +kernel
theorem dX11_kindOfPair_42 : decode cX11_kindOfPair 42 = .ok (.iload 5, 2) := by decide +kernel
theorem dX11_kindOfPair_44 : decode cX11_kindOfPair 44 = .ok (.ifCond .eq 8, 3) := by decide +kernel
theorem dX11_kindOfPair_47 : decode cX11_kindOfPair 47 = .ok (.iload 6, 2) := by decide +kernel
theorem dX11_kindOfPair_49 : decode cX11_kindOfPair 49 = .ok (.ifCond .ne 63, 3) := by decide +kernel
theorem dX11_kindOfPair_52 : decode cX11_kindOfPair 52 = .ok (.aload_n 0, 1) := by decide +kernel
theorem dX11_kindOfPair_53 : decode cX11_kindOfPair 53 = .ok (.getfield 37, 3) := by decide +kernel
theorem dX11_kindOfPair_56 : decode cX11_kindOfPair 56 = .ok (.invokevirtual 156, 3) := by decide +kernel
theorem dX11_kindOfPair_59 : decode cX11_kindOfPair 59 = .ok (.pop, 1) := by decide +kernel
theorem dX11_kindOfPair_60 : decode cX11_kindOfPair 60 = .ok (.iload 5, 2) := by decide +kernel
theorem dX11_kindOfPair_62 : decode cX11_kindOfPair 62 = .ok (.ifCond .ne 14, 3) := by decide +kernel
theorem dX11_kindOfPair_65 : decode cX11_kindOfPair 65 = .ok (.aload_n 0, 1) := by decide +kernel
theorem dX11_kindOfPair_66 : decode cX11_kindOfPair 66 = .ok (.getfield 37, 3) := by decide +kernel
theorem dX11_kindOfPair_69 : decode cX11_kindOfPair 69 = .ok (.iload_n 1, 1) := by decide +kernel
theorem dX11_kindOfPair_70 : decode cX11_kindOfPair 70 = .ok (.invokevirtual 241, 3) := by decide +kernel
theorem dX11_kindOfPair_73 : decode cX11_kindOfPair 73 = .ok (.ifCond .eq 7, 3) := by decide +kernel
theorem dX11_kindOfPair_76 : decode cX11_kindOfPair 76 = .ok (.iconst 1, 1) := by decide +kernel
theorem dX11_kindOfPair_77 : decode cX11_kindOfPair 77 = .ok (.goto 4, 3) := by decide +kernel
theorem dX11_kindOfPair_80 : decode cX11_kindOfPair 80 = .ok (.iconst 0, 1) := by decide +kernel
theorem dX11_kindOfPair_81 : decode cX11_kindOfPair 81 = .ok (.istore 5, 2) := by decide +kernel
theorem dX11_kindOfPair_83 : decode cX11_kindOfPair 83 = .ok (.iload 6, 2) := by decide +kernel
theorem dX11_kindOfPair_85 : decode cX11_kindOfPair 85 = .ok (.ifCond .ne 14, 3) := by decide +kernel
theorem dX11_kindOfPair_88 : decode cX11_kindOfPair 88 = .ok (.aload_n 0, 1) := by decide +kernel
theorem dX11_kindOfPair_89 : decode cX11_kindOfPair 89 = .ok (.getfield 37, 3) := by decide +kernel
theorem dX11_kindOfPair_92 : decode cX11_kindOfPair 92 = .ok (.iload_n 2, 1) := by decide +kernel
theorem dX11_kindOfPair_93 : decode cX11_kindOfPair 93 = .ok (.invokevirtual 241, 3) := by decide +kernel
theorem dX11_kindOfPair_96 : decode cX11_kindOfPair 96 = .ok (.ifCond .eq 7, 3) := by decide +kernel
theorem dX11_kindOfPair_99 : decode cX11_kindOfPair 99 = .ok (.iconst 1, 1) := by decide +kernel
theorem dX11_kindOfPair_100 : decode cX11_kindOfPair 100 = .ok (.goto 4, 3) := by decide +kernel
theorem dX11_kindOfPair_103 : decode cX11_kindOfPair 103 = .ok (.iconst 0, 1) := by decide +kernel
theorem dX11_kindOfPair_104 : decode cX11_kindOfPair 104 = .ok (.istore 6, 2) := by decide +kernel
theorem dX11_kindOfPair_106 : decode cX11_kindOfPair 106 = .ok (.iinc 7 1, 3) := by decide +kernel
theorem dX11_kindOfPair_109 : decode cX11_kindOfPair 109 = .ok (.goto (-73), 3) := by decide +kernel
theorem dX11_kindOfPair_112 : decode cX11_kindOfPair 112 = .ok (.iload 5, 2) := by decide +kernel
theorem dX11_kindOfPair_114 : decode cX11_kindOfPair 114 = .ok (.ifCond .eq 14, 3) := by decide +kernel
theorem dX11_kindOfPair_117 : decode cX11_kindOfPair 117 = .ok (.iload 6, 2) := by decide +kernel
theorem dX11_kindOfPair_119 : decode cX11_kindOfPair 119 = .ok (.ifCond .eq 7, 3) := by decide +kernel
theorem dX11_kindOfPair_122 : decode cX11_kindOfPair 122 = .ok (.iconst 0, 1) := by decide +kernel
theorem dX11_kindOfPair_123 : decode cX11_kindOfPair 123 = .ok (.goto 4, 3) := by decide +kernel
theorem dX11_kindOfPair_126 : decode cX11_kindOfPair 126 = .ok (.iconst 1, 1) := by decide +kernel
theorem dX11_kindOfPair_127 : decode cX11_kindOfPair 127 = .ok (.ireturn, 1) := by decide +kernel
theorem dX11_kindOfPair_128 : decode cX11_kindOfPair 128 = .ok (.iload 6, 2) := by decide +kernel
theorem dX11_kindOfPair_130 : decode cX11_kindOfPair 130 = .ok (.ifCond .eq 7, 3) := by decide +kernel
theorem dX11_kindOfPair_133 : decode cX11_kindOfPair 133 = .ok (.iconst 2, 1) := by decide +kernel
theorem dX11_kindOfPair_134 : decode cX11_kindOfPair 134 = .ok (.goto 4, 3) := by decide +kernel
theorem dX11_kindOfPair_137 : decode cX11_kindOfPair 137 = .ok (.iconst 3, 1) := by decide +kernel
theorem dX11_kindOfPair_138 : decode cX11_kindOfPair 138 = .ok (.ireturn, 1) := by decide +kernel
theorem dX11_powerIsAbove_0 : decode cX11_powerIsAbove 0 = .ok (.iload_n 0, 1) := by decide +kernel
theorem dX11_powerIsAbove_1 : decode cX11_powerIsAbove 1 = .ok (.iconst 1, 1) := by decide +kernel
theorem dX11_powerIsAbove_2 : decode cX11_powerIsAbove 2 = .ok (.if_icmp .ge 5, 3) := by decide +kernel
theorem dX11_powerIsAbove_5 : decode cX11_powerIsAbove 5 = .ok (.iconst 0, 1) := by decide +kernel
theorem dX11_powerIsAbove_6 : decode cX11_powerIsAbove 6 = .ok (.ireturn, 1) := by decide +kernel
theorem dX11_powerIsAbove_7 : decode cX11_powerIsAbove 7 = .ok (.lload_n 2, 1) := by decide +kernel
theorem dX11_powerIsAbove_8 : decode cX11_powerIsAbove 8 = .ok (.iload_n 0, 1) := by decide +kernel
theorem dX11_powerIsAbove_9 : decode cX11_powerIsAbove 9 = .ok (.i2l, 1) := by decide +kernel
theorem dX11_powerIsAbove_10 : decode cX11_powerIsAbove 10 = .ok (.ldiv, 1) := by decide +kernel
theorem dX11_powerIsAbove_11 : decode cX11_powerIsAbove 11 = .ok (.lstore 4, 2) := by decide +kernel
theorem dX11_powerIsAbove_13 : decode cX11_powerIsAbove 13 = .ok (.lconst 1, 1) := by decide +kernel
theorem dX11_powerIsAbove_14 : decode cX11_powerIsAbove 14 = .ok (.lstore 6, 2) := by decide +kernel
theorem dX11_powerIsAbove_16 : decode cX11_powerIsAbove 16 = .ok (.iconst 0, 1) := by decide +kernel
theorem dX11_powerIsAbove_17 : decode cX11_powerIsAbove 17 = .ok (.istore 8, 2) := by decide +kernel
theorem dX11_powerIsAbove_19 : decode cX11_powerIsAbove 19 = .ok (.iload 8, 2) := by decide +kernel
theorem dX11_powerIsAbove_21 : decode cX11_powerIsAbove 21 = .ok (.iload_n 1, 1) := by decide +kernel
theorem dX11_powerIsAbove_22 : decode cX11_powerIsAbove 22 = .ok (.if_icmp .ge 26, 3) := by decide +kernel
theorem dX11_powerIsAbove_25 : decode cX11_powerIsAbove 25 = .ok (.lload 6, 2) := by decide +kernel
theorem dX11_powerIsAbove_27 : decode cX11_powerIsAbove 27 = .ok (.lload 4, 2) := by decide +kernel
theorem dX11_powerIsAbove_29 : decode cX11_powerIsAbove 29 = .ok (.lcmp, 1) := by decide +kernel
theorem dX11_powerIsAbove_30 : decode cX11_powerIsAbove 30 = .ok (.ifCond .le 5, 3) := by decide +kernel
theorem dX11_powerIsAbove_33 : decode cX11_powerIsAbove 33 = .ok (.iconst 1, 1) := by decide +kernel
theorem dX11_powerIsAbove_34 : decode cX11_powerIsAbove 34 = .ok (.ireturn, 1) := by decide +kernel
theorem dX11_powerIsAbove_35 : decode cX11_powerIsAbove 35 = .ok (.lload 6, 2) := by decide +kernel
theorem dX11_powerIsAbove_37 : decode cX11_powerIsAbove 37 = .ok (.iload_n 0, 1) := by decide +kernel
theorem dX11_powerIsAbove_38 : decode cX11_powerIsAbove 38 = .ok (.i2l, 1) := by decide +kernel
theorem dX11_powerIsAbove_39 : decode cX11_powerIsAbove 39 = .ok (.lmul, 1) := by decide +kernel
theorem dX11_powerIsAbove_40 : decode cX11_powerIsAbove 40 = .ok (.lstore 6, 2) := by decide +kernel
theorem dX11_powerIsAbove_42 : decode cX11_powerIsAbove 42 = .ok (.iinc 8 1, 3) := by decide +kernel
theorem dX11_powerIsAbove_45 : decode cX11_powerIsAbove 45 = .ok (.goto (-26), 3) := by decide +kernel
theorem dX11_powerIsAbove_48 : decode cX11_powerIsAbove 48 = .ok (.iconst 0, 1) := by decide +kernel
theorem dX11_powerIsAbove_49 : decode cX11_powerIsAbove 49 = .ok (.ireturn, 1) := by decide +kernel
theorem dX12_init_0 : decode cX12_init 0 = .ok (.aload_n 0, 1) := by decide +kernel
theorem dX12_init_1 : decode cX12_init 1 = .ok (.invokespecial 1, 3) := by decide +kernel
theorem dX12_init_4 : decode cX12_init 4 = .ok (.aload_n 0, 1) := by decide +kernel
theorem dX12_init_5 : decode cX12_init 5 = .ok (.sipush 800, 3) := by decide +kernel
theorem dX12_init_8 : decode cX12_init 8 = .ok (.newarray .int, 2) := by decide +kernel
theorem dX12_init_10 : decode cX12_init 10 = .ok (.putfield 7, 3) := by decide +kernel
theorem dX12_init_13 : decode cX12_init 13 = .ok (.aload_n 0, 1) := by decide +kernel
theorem dX12_init_14 : decode cX12_init 14 = .ok (.iconst 2, 1) := by decide +kernel
theorem dX12_init_15 : decode cX12_init 15 = .ok (.newarray .int, 2) := by decide +kernel
theorem dX12_init_17 : decode cX12_init 17 = .ok (.putfield 13, 3) := by decide +kernel
theorem dX12_init_20 : decode cX12_init 20 = .ok (.aload_n 0, 1) := by decide +kernel
theorem dX12_init_21 : decode cX12_init 21 = .ok (.iconst 2, 1) := by decide +kernel
theorem dX12_init_22 : decode cX12_init 22 = .ok (.newarray .int, 2) := by decide +kernel
theorem dX12_init_24 : decode cX12_init 24 = .ok (.putfield 16, 3) := by decide +kernel
theorem dX12_init_27 : decode cX12_init 27 = .ok (.aload_n 0, 1) := by decide +kernel
theorem dX12_init_28 : decode cX12_init 28 = .ok (.bipush 8, 2) := by decide +kernel
theorem dX12_init_30 : decode cX12_init 30 = .ok (.newarray .long, 2) := by decide +kernel
theorem dX12_init_32 : decode cX12_init 32 = .ok (.putfield 19, 3) := by decide +kernel
theorem dX12_init_35 : decode cX12_init 35 = .ok (.aload_n 0, 1) := by decide +kernel
theorem dX12_init_36 : decode cX12_init 36 = .ok (.bipush 8, 2) := by decide +kernel
theorem dX12_init_38 : decode cX12_init 38 = .ok (.newarray .int, 2) := by decide +kernel
theorem dX12_init_40 : decode cX12_init 40 = .ok (.putfield 23, 3) := by decide +kernel
theorem dX12_init_43 : decode cX12_init 43 = .ok (.aload_n 0, 1) := by decide +kernel
theorem dX12_init_44 : decode cX12_init 44 = .ok (.bipush 8, 2) := by decide +kernel
theorem dX12_init_46 : decode cX12_init 46 = .ok (.newarray .int, 2) := by decide +kernel
theorem dX12_init_48 : decode cX12_init 48 = .ok (.putfield 26, 3) := by decide +kernel
theorem dX12_init_51 : decode cX12_init 51 = .ok (.aload_n 0, 1) := by decide +kernel
theorem dX12_init_52 : decode cX12_init 52 = .ok (.iconst 2, 1) := by decide +kernel
theorem dX12_init_53 : decode cX12_init 53 = .ok (.newarray .int, 2) := by decide +kernel
theorem dX12_init_55 : decode cX12_init 55 = .ok (.putfield 29, 3) := by decide +kernel
theorem dX12_init_58 : decode cX12_init 58 = .ok (.aload_n 0, 1) := by decide +kernel
theorem dX12_init_59 : decode cX12_init 59 = .ok (.bipush 24, 2) := by decide +kernel
theorem dX12_init_61 : decode cX12_init 61 = .ok (.newarray .int, 2) := by decide +kernel
theorem dX12_init_63 : decode cX12_init 63 = .ok (.putfield 32, 3) := by decide +kernel
theorem dX12_init_66 : decode cX12_init 66 = .ok (.aload_n 0, 1) := by decide +kernel
theorem dX12_init_67 : decode cX12_init 67 = .ok (.iconst 2, 1) := by decide +kernel
theorem dX12_init_68 : decode cX12_init 68 = .ok (.newarray .int, 2) := by decide +kernel
theorem dX12_init_70 : decode cX12_init 70 = .ok (.putfield 35, 3) := by decide +kernel
theorem dX12_init_73 : decode cX12_init 73 = .ok (.aload_n 0, 1) := by decide +kernel
theorem dX12_init_74 : decode cX12_init 74 = .ok (.bipush 32, 2) := by decide +kernel
theorem dX12_init_76 : decode cX12_init 76 = .ok (.newarray .int, 2) := by decide +kernel
theorem dX12_init_78 : decode cX12_init 78 = .ok (.putfield 38, 3) := by decide +kernel
theorem dX12_init_81 : decode cX12_init 81 = .ok (.aload_n 0, 1) := by decide +kernel
theorem dX12_init_82 : decode cX12_init 82 = .ok (.bipush 96, 2) := by decide +kernel
theorem dX12_init_84 : decode cX12_init 84 = .ok (.newarray .int, 2) := by decide +kernel
theorem dX12_init_86 : decode cX12_init 86 = .ok (.putfield 41, 3) := by decide +kernel
theorem dX12_init_89 : decode cX12_init 89 = .ok (.aload_n 0, 1) := by decide +kernel
theorem dX12_init_90 : decode cX12_init 90 = .ok (.bipush 96, 2) := by decide +kernel
theorem dX12_init_92 : decode cX12_init 92 = .ok (.newarray .int, 2) := by decide +kernel
theorem dX12_init_94 : decode cX12_init 94 = .ok (.putfield 44, 3) := by decide +kernel
theorem dX12_init_97 : decode cX12_init 97 = .ok (.aload_n 0, 1) := by decide +kernel
theorem dX12_init_98 : decode cX12_init 98 = .ok (.bipush 96, 2) := by decide +kernel
theorem dX12_init_100 : decode cX12_init 100 = .ok (.newarray .int, 2) := by decide +kernel
theorem dX12_init_102 : decode cX12_init 102 = .ok (.putfield 47, 3) := by decide +kernel
theorem dX12_init_105 : decode cX12_init 105 = .ok (.aload_n 0, 1) := by decide +kernel
theorem dX12_init_106 : decode cX12_init 106 = .ok (.bipush 24, 2) := by decide +kernel
theorem dX12_init_108 : decode cX12_init 108 = .ok (.newarray .int, 2) := by decide +kernel
theorem dX12_init_110 : decode cX12_init 110 = .ok (.putfield 50, 3) := by decide +kernel
theorem dX12_init_113 : decode cX12_init 113 = .ok (.aload_n 0, 1) := by decide +kernel
theorem dX12_init_114 : decode cX12_init 114 = .ok (.bipush 72, 2) := by decide +kernel
theorem dX12_init_116 : decode cX12_init 116 = .ok (.newarray .int, 2) := by decide +kernel
theorem dX12_init_118 : decode cX12_init 118 = .ok (.putfield 53, 3) := by decide +kernel
theorem dX12_init_121 : decode cX12_init 121 = .ok (.aload_n 0, 1) := by decide +kernel
theorem dX12_init_122 : decode cX12_init 122 = .ok (.bipush 72, 2) := by decide +kernel
theorem dX12_init_124 : decode cX12_init 124 = .ok (.newarray .int, 2) := by decide +kernel
theorem dX12_init_126 : decode cX12_init 126 = .ok (.putfield 56, 3) := by decide +kernel
theorem dX12_init_129 : decode cX12_init 129 = .ok (.aload_n 0, 1) := by decide +kernel
theorem dX12_init_130 : decode cX12_init 130 = .ok (.bipush 72, 2) := by decide +kernel
theorem dX12_init_132 : decode cX12_init 132 = .ok (.newarray .int, 2) := by decide +kernel
theorem dX12_init_134 : decode cX12_init 134 = .ok (.putfield 59, 3) := by decide +kernel
theorem dX12_init_137 : decode cX12_init 137 = .ok (.aload_n 0, 1) := by decide +kernel
theorem dX12_init_138 : decode cX12_init 138 = .ok (.iconst 4, 1) := by decide +kernel
theorem dX12_init_139 : decode cX12_init 139 = .ok (.newarray .int, 2) := by decide +kernel
theorem dX12_init_141 : decode cX12_init 141 = .ok (.putfield 62, 3) := by decide +kernel
theorem dX12_init_144 : decode cX12_init 144 = .ok (.aload_n 0, 1) := by decide +kernel
theorem dX12_init_145 : decode cX12_init 145 = .ok (.sipush 1000, 3) := by decide +kernel
theorem dX12_init_148 : decode cX12_init 148 = .ok (.newarray .long, 2) := by decide +kernel
theorem dX12_init_150 : decode cX12_init 150 = .ok (.putfield 65, 3) := by decide +kernel
theorem dX12_init_153 : decode cX12_init 153 = .ok (.aload_n 0, 1) := by decide +kernel
theorem dX12_init_154 : decode cX12_init 154 = .ok (.sipush 1000, 3) := by decide +kernel
theorem dX12_init_157 : decode cX12_init 157 = .ok (.newarray .long, 2) := by decide +kernel
theorem dX12_init_159 : decode cX12_init 159 = .ok (.putfield 68, 3) := by decide +kernel
theorem dX12_init_162 : decode cX12_init 162 = .ok (.aload_n 0, 1) := by decide +kernel
theorem dX12_init_163 : decode cX12_init 163 = .ok (.sipush 1000, 3) := by decide +kernel
theorem dX12_init_166 : decode cX12_init 166 = .ok (.newarray .int, 2) := by decide +kernel
theorem dX12_init_168 : decode cX12_init 168 = .ok (.putfield 71, 3) := by decide +kernel
theorem dX12_init_171 : decode cX12_init 171 = .ok (.aload_n 0, 1) := by decide +kernel
theorem dX12_init_172 : decode cX12_init 172 = .ok (.sipush 1000, 3) := by decide +kernel
theorem dX12_init_175 : decode cX12_init 175 = .ok (.newarray .boolean, 2) := by decide +kernel
theorem dX12_init_177 : decode cX12_init 177 = .ok (.putfield 74, 3) := by decide +kernel
theorem dX12_init_180 : decode cX12_init 180 = .ok (.aload_n 0, 1) := by decide +kernel
theorem dX12_init_181 : decode cX12_init 181 = .ok (.iconst (-1), 1) := by decide +kernel
theorem dX12_init_182 : decode cX12_init 182 = .ok (.putfield 78, 3) := by decide +kernel
theorem dX12_init_185 : decode cX12_init 185 = .ok (.aload_n 0, 1) := by decide +kernel
theorem dX12_init_186 : decode cX12_init 186 = .ok (.iconst (-1), 1) := by decide +kernel
theorem dX12_init_187 : decode cX12_init 187 = .ok (.putfield 82, 3) := by decide +kernel
theorem dX12_init_190 : decode cX12_init 190 = .ok (.aload_n 0, 1) := by decide +kernel
theorem dX12_init_191 : decode cX12_init 191 = .ok (.sipush 10000, 3) := by decide +kernel
theorem dX12_init_194 : decode cX12_init 194 = .ok (.newarray .boolean, 2) := by decide +kernel
theorem dX12_init_196 : decode cX12_init 196 = .ok (.putfield 85, 3) := by decide +kernel
theorem dX12_init_199 : decode cX12_init 199 = .ok (.aload_n 0, 1) := by decide +kernel
theorem dX12_init_200 : decode cX12_init 200 = .ok (.bipush 61, 2) := by decide +kernel
theorem dX12_init_202 : decode cX12_init 202 = .ok (.newarray .int, 2) := by decide +kernel
theorem dX12_init_204 : decode cX12_init 204 = .ok (.putfield 88, 3) := by decide +kernel
theorem dX12_init_207 : decode cX12_init 207 = .ok (.aload_n 0, 1) := by decide +kernel
theorem dX12_init_208 : decode cX12_init 208 = .ok (.bipush 61, 2) := by decide +kernel
theorem dX12_init_210 : decode cX12_init 210 = .ok (.newarray .int, 2) := by decide +kernel
theorem dX12_init_212 : decode cX12_init 212 = .ok (.putfield 91, 3) := by decide +kernel
theorem dX12_init_215 : decode cX12_init 215 = .ok (.aload_n 0, 1) := by decide +kernel
theorem dX12_init_216 : decode cX12_init 216 = .ok (.bipush 61, 2) := by decide +kernel
theorem dX12_init_218 : decode cX12_init 218 = .ok (.newarray .int, 2) := by decide +kernel
theorem dX12_init_220 : decode cX12_init 220 = .ok (.putfield 94, 3) := by decide +kernel
theorem dX12_init_223 : decode cX12_init 223 = .ok (.return_, 1) := by decide +kernel
theorem dX12_in_0 : decode cX12_in 0 = .ok (.lload_n 0, 1) := by decide +kernel
theorem dX12_in_1 : decode cX12_in 1 = .ok (.lload_n 2, 1) := by decide +kernel
theorem dX12_in_2 : decode cX12_in 2 = .ok (.lcmp, 1) := by decide +kernel
theorem dX12_in_3 : decode cX12_in 3 = .ok (.ifCond .lt 14, 3) := by decide +kernel
theorem dX12_in_6 : decode cX12_in 6 = .ok (.lload_n 0, 1) := by decide +kernel
theorem dX12_in_7 : decode cX12_in 7 = .ok (.lload 4, 2) := by decide +kernel
theorem dX12_in_9 : decode cX12_in 9 = .ok (.lcmp, 1) := by decide +kernel
theorem dX12_in_10 : decode cX12_in 10 = .ok (.ifCond .gt 7, 3) := by decide +kernel
theorem dX12_in_13 : decode cX12_in 13 = .ok (.iconst 1, 1) := by decide +kernel
theorem dX12_in_14 : decode cX12_in 14 = .ok (.goto 4, 3) := by decide +kernel
theorem dX12_in_17 : decode cX12_in 17 = .ok (.iconst 0, 1) := by decide +kernel
theorem dX12_in_18 : decode cX12_in 18 = .ok (.ireturn, 1) := by decide +kernel
theorem dX12_feed_0 : decode cX12_feed 0 = .ok (.aload_n 0, 1) := by decide +kernel
theorem dX12_feed_1 : decode cX12_feed 1 = .ok (.iconst 0, 1) := by decide +kernel
theorem dX12_feed_2 : decode cX12_feed 2 = .ok (.putfield 97, 3) := by decide +kernel
theorem dX12_feed_5 : decode cX12_feed 5 = .ok (.iload_n 3, 1) := by decide +kernel
theorem dX12_feed_6 : decode cX12_feed 6 = .ok (.i2l, 1) := by decide +kernel
theorem dX12_feed_7 : decode cX12_feed 7 = .ok (.lconst 1, 1) := by decide +kernel
theorem dX12_feed_8 : decode cX12_feed 8 = .ok (.ldc2_w 100, 3) := by decide +kernel
theorem dX12_feed_11 : decode cX12_feed 11 = .ok (.invokestatic 102, 3) := by decide +kernel
theorem dX12_feed_14 : decode cX12_feed 14 = .ok (.ifCond .ne 6, 3) := by decide +kernel
theorem dX12_feed_17 : decode cX12_feed 17 = .ok (.bipush (-2), 2) := by decide +kernel
theorem dX12_feed_19 : decode cX12_feed 19 = .ok (.ireturn, 1) := by decide +kernel
theorem dX12_feed_20 : decode cX12_feed 20 = .ok (.aload_n 0, 1) := by decide +kernel
theorem dX12_feed_21 : decode cX12_feed 21 = .ok (.getfield 106, 3) := by decide +kernel
theorem dX12_feed_24 : decode cX12_feed 24 = .ok (.iload_n 3, 1) := by decide +kernel
theorem dX12_feed_25 : decode cX12_feed 25 = .ok (.iadd, 1) := by decide +kernel
theorem dX12_feed_26 : decode cX12_feed 26 = .ok (.sipush 800, 3) := by decide +kernel
theorem dX12_feed_29 : decode cX12_feed 29 = .ok (.if_icmp .le 6, 3) := by decide +kernel
theorem dX12_feed_32 : decode cX12_feed 32 = .ok (.bipush (-4), 2) := by decide +kernel
theorem dX12_feed_34 : decode cX12_feed 34 = .ok (.ireturn, 1) := by decide +kernel
theorem dX12_feed_35 : decode cX12_feed 35 = .ok (.iload_n 3, 1) := by decide +kernel
theorem dX12_feed_36 : decode cX12_feed 36 = .ok (.iconst 1, 1) := by decide +kernel
theorem dX12_feed_37 : decode cX12_feed 37 = .ok (.isub, 1) := by decide +kernel
theorem dX12_feed_38 : decode cX12_feed 38 = .ok (.istore 4, 2) := by decide +kernel
theorem dX12_feed_40 : decode cX12_feed 40 = .ok (.iload 4, 2) := by decide +kernel
theorem dX12_feed_42 : decode cX12_feed 42 = .ok (.ifCond .lt 40, 3) := by decide +kernel
theorem dX12_feed_45 : decode cX12_feed 45 = .ok (.aload_n 0, 1) := by decide +kernel
theorem dX12_feed_46 : decode cX12_feed 46 = .ok (.getfield 7, 3) := by decide +kernel
theorem dX12_feed_49 : decode cX12_feed 49 = .ok (.aload_n 0, 1) := by decide +kernel
theorem dX12_feed_50 : decode cX12_feed 50 = .ok (.getfield 106, 3) := by decide +kernel
theorem dX12_feed_53 : decode cX12_feed 53 = .ok (.lload_n 1, 1) := by decide +kernel
theorem dX12_feed_54 : decode cX12_feed 54 = .ok (.bipush 8, 2) := by decide +kernel
theorem dX12_feed_56 : decode cX12_feed 56 = .ok (.iload 4, 2) := by decide +kernel
theorem dX12_feed_58 : decode cX12_feed 58 = .ok (.imul, 1) := by decide +kernel
theorem dX12_feed_59 : decode cX12_feed 59 = .ok (.lshr, 1) := by decide +kernel
theorem dX12_feed_60 : decode cX12_feed 60 = .ok (.ldc2_w 109, 3) := by decide +kernel
theorem dX12_feed_63 : decode cX12_feed 63 = .ok (.land, 1) := by decide +kernel
theorem dX12_feed_64 : decode cX12_feed 64 = .ok (.l2i, 1) := by decide +kernel
theorem dX12_feed_65 : decode cX12_feed 65 = .ok (.iastore, 1) := by decide +kernel
theorem dX12_feed_66 : decode cX12_feed 66 = .ok (.aload_n 0, 1) := by decide +kernel
theorem dX12_feed_67 : decode cX12_feed 67 = .ok (.dup, 1) := by decide +kernel
theorem dX12_feed_68 : decode cX12_feed 68 = .ok (.getfield 106, 3) := by decide +kernel
theorem dX12_feed_71 : decode cX12_feed 71 = .ok (.iconst 1, 1) := by decide +kernel
theorem dX12_feed_72 : decode cX12_feed 72 = .ok (.iadd, 1) := by decide +kernel
theorem dX12_feed_73 : decode cX12_feed 73 = .ok (.putfield 106, 3) := by decide +kernel
theorem dX12_feed_76 : decode cX12_feed 76 = .ok (.iinc 4 (-1), 3) := by decide +kernel
theorem dX12_feed_79 : decode cX12_feed 79 = .ok (.goto (-39), 3) := by decide +kernel
theorem dX12_feed_82 : decode cX12_feed 82 = .ok (.aload_n 0, 1) := by decide +kernel
theorem dX12_feed_83 : decode cX12_feed 83 = .ok (.getfield 106, 3) := by decide +kernel
theorem dX12_feed_86 : decode cX12_feed 86 = .ok (.ireturn, 1) := by decide +kernel
theorem dX12_byteAt_0 : decode cX12_byteAt 0 = .ok (.iload_n 1, 1) := by decide +kernel
theorem dX12_byteAt_1 : decode cX12_byteAt 1 = .ok (.aload_n 0, 1) := by decide +kernel
theorem dX12_byteAt_2 : decode cX12_byteAt 2 = .ok (.getfield 111, 3) := by decide +kernel
theorem dX12_byteAt_5 : decode cX12_byteAt 5 = .ok (.if_icmp .ge 12, 3) := by decide +kernel
theorem dX12_byteAt_8 : decode cX12_byteAt 8 = .ok (.aload_n 0, 1) := by decide +kernel
theorem dX12_byteAt_9 : decode cX12_byteAt 9 = .ok (.getfield 7, 3) := by decide +kernel
theorem dX12_byteAt_12 : decode cX12_byteAt 12 = .ok (.iload_n 1, 1) := by decide +kernel
theorem dX12_byteAt_13 : decode cX12_byteAt 13 = .ok (.iaload, 1) := by decide +kernel
theorem dX12_byteAt_14 : decode cX12_byteAt 14 = .ok (.goto 4, 3) := by decide +kernel
theorem dX12_byteAt_17 : decode cX12_byteAt 17 = .ok (.iconst (-1), 1) := by decide +kernel
theorem dX12_byteAt_18 : decode cX12_byteAt 18 = .ok (.ireturn, 1) := by decide +kernel
theorem dX12_isLetter_0 : decode cX12_isLetter 0 = .ok (.iload_n 0, 1) := by decide +kernel
theorem dX12_isLetter_1 : decode cX12_isLetter 1 = .ok (.bipush 97, 2) := by decide +kernel
theorem dX12_isLetter_3 : decode cX12_isLetter 3 = .ok (.if_icmp .lt 13, 3) := by decide +kernel
theorem dX12_isLetter_6 : decode cX12_isLetter 6 = .ok (.iload_n 0, 1) := by decide +kernel
theorem dX12_isLetter_7 : decode cX12_isLetter 7 = .ok (.bipush 122, 2) := by decide +kernel
theorem dX12_isLetter_9 : decode cX12_isLetter 9 = .ok (.if_icmp .gt 7, 3) := by decide +kernel
theorem dX12_isLetter_12 : decode cX12_isLetter 12 = .ok (.iconst 1, 1) := by decide +kernel
theorem dX12_isLetter_13 : decode cX12_isLetter 13 = .ok (.goto 4, 3) := by decide +kernel
theorem dX12_isLetter_16 : decode cX12_isLetter 16 = .ok (.iconst 0, 1) := by decide +kernel
theorem dX12_isLetter_17 : decode cX12_isLetter 17 = .ok (.ireturn, 1) := by decide +kernel
theorem dX12_isFigure_0 : decode cX12_isFigure 0 = .ok (.iload_n 0, 1) := by decide +kernel
theorem dX12_isFigure_1 : decode cX12_isFigure 1 = .ok (.bipush 48, 2) := by decide +kernel
theorem dX12_isFigure_3 : decode cX12_isFigure 3 = .ok (.if_icmp .lt 13, 3) := by decide +kernel
theorem dX12_isFigure_6 : decode cX12_isFigure 6 = .ok (.iload_n 0, 1) := by decide +kernel
theorem dX12_isFigure_7 : decode cX12_isFigure 7 = .ok (.bipush 57, 2) := by decide +kernel
theorem dX12_isFigure_9 : decode cX12_isFigure 9 = .ok (.if_icmp .gt 7, 3) := by decide +kernel
theorem dX12_isFigure_12 : decode cX12_isFigure 12 = .ok (.iconst 1, 1) := by decide +kernel
theorem dX12_isFigure_13 : decode cX12_isFigure 13 = .ok (.goto 4, 3) := by decide +kernel
theorem dX12_isFigure_16 : decode cX12_isFigure 16 = .ok (.iconst 0, 1) := by decide +kernel
theorem dX12_isFigure_17 : decode cX12_isFigure 17 = .ok (.ireturn, 1) := by decide +kernel
theorem dX12_next_0 : decode cX12_next 0 = .ok (.aload_n 0, 1) := by decide +kernel
theorem dX12_next_1 : decode cX12_next 1 = .ok (.aload_n 0, 1) := by decide +kernel
theorem dX12_next_2 : decode cX12_next 2 = .ok (.getfield 114, 3) := by decide +kernel
theorem dX12_next_5 : decode cX12_next 5 = .ok (.invokevirtual 117, 3) := by decide +kernel
theorem dX12_next_8 : decode cX12_next 8 = .ok (.bipush 32, 2) := by decide +kernel
theorem dX12_next_10 : decode cX12_next 10 = .ok (.if_icmp .eq 16, 3) := by decide +kernel
theorem dX12_next_13 : decode cX12_next 13 = .ok (.aload_n 0, 1) := by decide +kernel
theorem dX12_next_14 : decode cX12_next 14 = .ok (.aload_n 0, 1) := by decide +kernel
theorem dX12_next_15 : decode cX12_next 15 = .ok (.getfield 114, 3) := by decide +kernel
theorem dX12_next_18 : decode cX12_next 18 = .ok (.invokevirtual 117, 3) := by decide +kernel
theorem dX12_next_21 : decode cX12_next 21 = .ok (.bipush 10, 2) := by decide +kernel
theorem dX12_next_23 : decode cX12_next 23 = .ok (.if_icmp .ne 16, 3) := by decide +kernel
theorem dX12_next_26 : decode cX12_next 26 = .ok (.aload_n 0, 1) := by decide +kernel
theorem dX12_next_27 : decode cX12_next 27 = .ok (.dup, 1) := by decide +kernel
theorem dX12_next_28 : decode cX12_next 28 = .ok (.getfield 114, 3) := by decide +kernel
theorem dX12_next_31 : decode cX12_next 31 = .ok (.iconst 1, 1) := by decide +kernel
theorem dX12_next_32 : decode cX12_next 32 = .ok (.iadd, 1) := by decide +kernel
theorem dX12_next_33 : decode cX12_next 33 = .ok (.putfield 114, 3) := by decide +kernel
theorem dX12_next_36 : decode cX12_next 36 = .ok (.goto (-36), 3) := by decide +kernel
theorem dX12_next_39 : decode cX12_next 39 = .ok (.aload_n 0, 1) := by decide +kernel
theorem dX12_next_40 : decode cX12_next 40 = .ok (.aload_n 0, 1) := by decide +kernel
theorem dX12_next_41 : decode cX12_next 41 = .ok (.getfield 114, 3) := by decide +kernel
theorem dX12_next_44 : decode cX12_next 44 = .ok (.putfield 121, 3) := by decide +kernel
theorem dX12_next_47 : decode cX12_next 47 = .ok (.aload_n 0, 1) := by decide +kernel
theorem dX12_next_48 : decode cX12_next 48 = .ok (.iconst (-1), 1) := by decide +kernel
theorem dX12_next_49 : decode cX12_next 49 = .ok (.putfield 124, 3) := by decide +kernel
theorem dX12_next_52 : decode cX12_next 52 = .ok (.aload_n 0, 1) := by decide +kernel
theorem dX12_next_53 : decode cX12_next 53 = .ok (.aload_n 0, 1) := by decide +kernel
theorem dX12_next_54 : decode cX12_next 54 = .ok (.getfield 114, 3) := by decide +kernel
theorem dX12_next_57 : decode cX12_next 57 = .ok (.invokevirtual 117, 3) := by decide +kernel
theorem dX12_next_60 : decode cX12_next 60 = .ok (.istore_n 1, 1) := by decide +kernel
theorem dX12_next_61 : decode cX12_next 61 = .ok (.iload_n 1, 1) := by decide +kernel
theorem dX12_next_62 : decode cX12_next 62 = .ok (.iconst (-1), 1) := by decide +kernel
theorem dX12_next_63 : decode cX12_next 63 = .ok (.if_icmp .ne 11, 3) := by decide +kernel
theorem dX12_next_66 : decode cX12_next 66 = .ok (.aload_n 0, 1) := by decide +kernel
theorem dX12_next_67 : decode cX12_next 67 = .ok (.iconst 1, 1) := by decide +kernel
theorem dX12_next_68 : decode cX12_next 68 = .ok (.putfield 127, 3) := by decide +kernel
theorem dX12_next_71 : decode cX12_next 71 = .ok (.goto 267, 3) := by decide +kernel
theorem dX12_next_74 : decode cX12_next 74 = .ok (.iload_n 1, 1) := by decide +kernel
theorem dX12_next_75 : decode cX12_next 75 = .ok (.invokestatic 130, 3) := by decide +kernel
theorem dX12_next_78 : decode cX12_next 78 = .ok (.ifCond .eq 56, 3) := by decide +kernel
theorem dX12_next_81 : decode cX12_next 81 = .ok (.aload_n 0, 1) := by decide +kernel
theorem dX12_next_82 : decode cX12_next 82 = .ok (.aload_n 0, 1) := by decide +kernel
theorem dX12_next_83 : decode cX12_next 83 = .ok (.getfield 114, 3) := by decide +kernel
theorem dX12_next_86 : decode cX12_next 86 = .ok (.invokevirtual 117, 3) := by decide +kernel
theorem dX12_next_89 : decode cX12_next 89 = .ok (.invokestatic 130, 3) := by decide +kernel
theorem dX12_next_92 : decode cX12_next 92 = .ok (.ifCond .eq 16, 3) := by decide +kernel
theorem dX12_next_95 : decode cX12_next 95 = .ok (.aload_n 0, 1) := by decide +kernel
theorem dX12_next_96 : decode cX12_next 96 = .ok (.dup, 1) := by decide +kernel
theorem dX12_next_97 : decode cX12_next 97 = .ok (.getfield 114, 3) := by decide +kernel
theorem dX12_next_100 : decode cX12_next 100 = .ok (.iconst 1, 1) := by decide +kernel
theorem dX12_next_101 : decode cX12_next 101 = .ok (.iadd, 1) := by decide +kernel
theorem dX12_next_102 : decode cX12_next 102 = .ok (.putfield 114, 3) := by decide +kernel
theorem dX12_next_105 : decode cX12_next 105 = .ok (.goto (-24), 3) := by decide +kernel
theorem dX12_next_108 : decode cX12_next 108 = .ok (.aload_n 0, 1) := by decide +kernel
theorem dX12_next_109 : decode cX12_next 109 = .ok (.aload_n 0, 1) := by decide +kernel
theorem dX12_next_110 : decode cX12_next 110 = .ok (.getfield 114, 3) := by decide +kernel
theorem dX12_next_113 : decode cX12_next 113 = .ok (.aload_n 0, 1) := by decide +kernel
theorem dX12_next_114 : decode cX12_next 114 = .ok (.getfield 121, 3) := by decide +kernel
theorem dX12_next_117 : decode cX12_next 117 = .ok (.isub, 1) := by decide +kernel
theorem dX12_next_118 : decode cX12_next 118 = .ok (.bipush 6, 2) := by decide +kernel
theorem dX12_next_120 : decode cX12_next 120 = .ok (.if_icmp .le 7, 3) := by decide +kernel
theorem dX12_next_123 : decode cX12_next 123 = .ok (.iconst 0, 1) := by decide +kernel
theorem dX12_next_124 : decode cX12_next 124 = .ok (.goto 4, 3) := by decide +kernel
theorem dX12_next_127 : decode cX12_next 127 = .ok (.iconst 2, 1) := by decide +kernel
theorem dX12_next_128 : decode cX12_next 128 = .ok (.putfield 127, 3) := by decide +kernel
theorem dX12_next_131 : decode cX12_next 131 = .ok (.goto 207, 3) := by decide +kernel
theorem dX12_next_134 : decode cX12_next 134 = .ok (.iload_n 1, 1) := by decide +kernel
theorem dX12_next_135 : decode cX12_next 135 = .ok (.invokestatic 134, 3) := by decide +kernel
theorem dX12_next_138 : decode cX12_next 138 = .ok (.ifCond .eq 55, 3) := by decide +kernel
theorem dX12_next_141 : decode cX12_next 141 = .ok (.aload_n 0, 1) := by decide +kernel
theorem dX12_next_142 : decode cX12_next 142 = .ok (.aload_n 0, 1) := by decide +kernel
theorem dX12_next_143 : decode cX12_next 143 = .ok (.getfield 114, 3) := by decide +kernel
theorem dX12_next_146 : decode cX12_next 146 = .ok (.invokevirtual 117, 3) := by decide +kernel
theorem dX12_next_149 : decode cX12_next 149 = .ok (.invokestatic 134, 3) := by decide +kernel
theorem dX12_next_152 : decode cX12_next 152 = .ok (.ifCond .eq 16, 3) := by decide +kernel
theorem dX12_next_155 : decode cX12_next 155 = .ok (.aload_n 0, 1) := by decide +kernel
theorem dX12_next_156 : decode cX12_next 156 = .ok (.dup, 1) := by decide +kernel
theorem dX12_next_157 : decode cX12_next 157 = .ok (.getfield 114, 3) := by decide +kernel
theorem dX12_next_160 : decode cX12_next 160 = .ok (.iconst 1, 1) := by decide +kernel
theorem dX12_next_161 : decode cX12_next 161 = .ok (.iadd, 1) := by decide +kernel
theorem dX12_next_162 : decode cX12_next 162 = .ok (.putfield 114, 3) := by decide +kernel
theorem dX12_next_165 : decode cX12_next 165 = .ok (.goto (-24), 3) := by decide +kernel
theorem dX12_next_168 : decode cX12_next 168 = .ok (.aload_n 0, 1) := by decide +kernel
theorem dX12_next_169 : decode cX12_next 169 = .ok (.aload_n 0, 1) := by decide +kernel
theorem dX12_next_170 : decode cX12_next 170 = .ok (.getfield 114, 3) := by decide +kernel
theorem dX12_next_173 : decode cX12_next 173 = .ok (.aload_n 0, 1) := by decide +kernel
theorem dX12_next_174 : decode cX12_next 174 = .ok (.getfield 121, 3) := by decide +kernel
theorem dX12_next_177 : decode cX12_next 177 = .ok (.isub, 1) := by decide +kernel
theorem dX12_next_178 : decode cX12_next 178 = .ok (.iconst 2, 1) := by decide +kernel
theorem dX12_next_179 : decode cX12_next 179 = .ok (.if_icmp .le 7, 3) := by decide +kernel
theorem dX12_next_182 : decode cX12_next 182 = .ok (.iconst 0, 1) := by decide +kernel
theorem dX12_next_183 : decode cX12_next 183 = .ok (.goto 4, 3) := by decide +kernel
theorem dX12_next_186 : decode cX12_next 186 = .ok (.iconst 3, 1) := by decide +kernel
theorem dX12_next_187 : decode cX12_next 187 = .ok (.putfield 127, 3) := by decide +kernel
theorem dX12_next_190 : decode cX12_next 190 = .ok (.goto 148, 3) := by decide +kernel
theorem dX12_next_193 : decode cX12_next 193 = .ok (.aload_n 0, 1) := by decide +kernel
theorem dX12_next_194 : decode cX12_next 194 = .ok (.dup, 1) := by decide +kernel
theorem dX12_next_195 : decode cX12_next 195 = .ok (.getfield 114, 3) := by decide +kernel
theorem dX12_next_198 : decode cX12_next 198 = .ok (.iconst 1, 1) := by decide +kernel
theorem dX12_next_199 : decode cX12_next 199 = .ok (.iadd, 1) := by decide +kernel
theorem dX12_next_200 : decode cX12_next 200 = .ok (.putfield 114, 3) := by decide +kernel
theorem dX12_next_203 : decode cX12_next 203 = .ok (.iload_n 1, 1) := by decide +kernel
theorem dX12_next_204 : decode cX12_next 204 = .ok (.bipush 45, 2) := by decide +kernel
theorem dX12_next_206 : decode cX12_next 206 = .ok (.if_icmp .ne 20, 3) := by decide +kernel
theorem dX12_next_209 : decode cX12_next 209 = .ok (.aload_n 0, 1) := by decide +kernel
theorem dX12_next_210 : decode cX12_next 210 = .ok (.aload_n 0, 1) := by decide +kernel
theorem dX12_next_211 : decode cX12_next 211 = .ok (.getfield 114, 3) := by decide +kernel
theorem dX12_next_214 : decode cX12_next 214 = .ok (.invokevirtual 117, 3) := by decide +kernel
theorem dX12_next_217 : decode cX12_next 217 = .ok (.bipush 62, 2) := by decide +kernel
theorem dX12_next_219 : decode cX12_next 219 = .ok (.if_icmp .ne 7, 3) := by decide +kernel
theorem dX12_next_222 : decode cX12_next 222 = .ok (.iconst 1, 1) := by decide +kernel
theorem dX12_next_223 : decode cX12_next 223 = .ok (.goto 4, 3) := by decide +kernel
theorem dX12_next_226 : decode cX12_next 226 = .ok (.iconst 0, 1) := by decide +kernel
theorem dX12_next_227 : decode cX12_next 227 = .ok (.istore_n 2, 1) := by decide +kernel
theorem dX12_next_228 : decode cX12_next 228 = .ok (.aload_n 0, 1) := by decide +kernel
theorem dX12_next_229 : decode cX12_next 229 = .ok (.dup, 1) := by decide +kernel
theorem dX12_next_230 : decode cX12_next 230 = .ok (.getfield 114, 3) := by decide +kernel
theorem dX12_next_233 : decode cX12_next 233 = .ok (.iload_n 2, 1) := by decide +kernel
theorem dX12_next_234 : decode cX12_next 234 = .ok (.ifCond .eq 7, 3) := by decide +kernel
theorem dX12_next_237 : decode cX12_next 237 = .ok (.iconst 1, 1) := by decide +kernel
theorem dX12_next_238 : decode cX12_next 238 = .ok (.goto 4, 3) := by decide +kernel
theorem dX12_next_241 : decode cX12_next 241 = .ok (.iconst 0, 1) := by decide +kernel
theorem dX12_next_242 : decode cX12_next 242 = .ok (.iadd, 1) := by decide +kernel
theorem dX12_next_243 : decode cX12_next 243 = .ok (.putfield 114, 3) := by decide +kernel
theorem dX12_next_246 : decode cX12_next 246 = .ok (.aload_n 0, 1) := by decide +kernel
theorem dX12_next_247 : decode cX12_next 247 = .ok (.iload_n 2, 1) := by decide +kernel
theorem dX12_next_248 : decode cX12_next 248 = .ok (.ifCond .eq 9, 3) := by decide +kernel
theorem dX12_next_251 : decode cX12_next 251 = .ok (.sipush 256, 3) := by decide +kernel
theorem dX12_next_254 : decode cX12_next 254 = .ok (.goto 4, 3) := by decide +kernel
theorem dX12_next_257 : decode cX12_next 257 = .ok (.iload_n 1, 1) := by decide +kernel
theorem dX12_next_258 : decode cX12_next 258 = .ok (.putfield 124, 3) := by decide +kernel
theorem dX12_next_261 : decode cX12_next 261 = .ok (.iload_n 2, 1) := by decide +kernel
theorem dX12_next_262 : decode cX12_next 262 = .ok (.ifCond .ne 57, 3) := by decide +kernel
theorem dX12_next_265 : decode cX12_next 265 = .ok (.iload_n 1, 1) := by decide +kernel
theorem dX12_next_266 : decode cX12_next 266 = .ok (.bipush 59, 2) := by decide +kernel
theorem dX12_next_268 : decode cX12_next 268 = .ok (.if_icmp .eq 51, 3) := by decide +kernel
theorem dX12_next_271 : decode cX12_next 271 = .ok (.iload_n 1, 1) := by decide +kernel
theorem dX12_next_272 : decode cX12_next 272 = .ok (.bipush 58, 2) := by decide +kernel
theorem dX12_next_274 : decode cX12_next 274 = .ok (.if_icmp .eq 45, 3) := by decide +kernel
theorem dX12_next_277 : decode cX12_next 277 = .ok (.iload_n 1, 1) := by decide +kernel
theorem dX12_next_278 : decode cX12_next 278 = .ok (.bipush 38, 2) := by decide +kernel
theorem dX12_next_280 : decode cX12_next 280 = .ok (.if_icmp .eq 39, 3) := by decide +kernel
theorem dX12_next_283 : decode cX12_next 283 = .ok (.iload_n 1, 1) := by decide +kernel
theorem dX12_next_284 : decode cX12_next 284 = .ok (.bipush 44, 2) := by decide +kernel
theorem dX12_next_286 : decode cX12_next 286 = .ok (.if_icmp .eq 33, 3) := by decide +kernel
theorem dX12_next_289 : decode cX12_next 289 = .ok (.iload_n 1, 1) := by decide +kernel
theorem dX12_next_290 : decode cX12_next 290 = .ok (.bipush 60, 2) := by decide +kernel
theorem dX12_next_292 : decode cX12_next 292 = .ok (.if_icmp .eq 27, 3) := by decide +kernel
theorem dX12_next_295 : decode cX12_next 295 = .ok (.iload_n 1, 1) := by decide +kernel
theorem dX12_next_296 : decode cX12_next 296 = .ok (.bipush 62, 2) := by decide +kernel
theorem dX12_next_298 : decode cX12_next 298 = .ok (.if_icmp .eq 21, 3) := by decide +kernel
theorem dX12_next_301 : decode cX12_next 301 = .ok (.iload_n 1, 1) := by decide +kernel
theorem dX12_next_302 : decode cX12_next 302 = .ok (.bipush 61, 2) := by decide +kernel
theorem dX12_next_304 : decode cX12_next 304 = .ok (.if_icmp .eq 15, 3) := by decide +kernel
theorem dX12_next_307 : decode cX12_next 307 = .ok (.iload_n 1, 1) := by decide +kernel
theorem dX12_next_308 : decode cX12_next 308 = .ok (.bipush 43, 2) := by decide +kernel
theorem dX12_next_310 : decode cX12_next 310 = .ok (.if_icmp .eq 9, 3) := by decide +kernel
theorem dX12_next_313 : decode cX12_next 313 = .ok (.iload_n 1, 1) := by decide +kernel
theorem dX12_next_314 : decode cX12_next 314 = .ok (.bipush 45, 2) := by decide +kernel
theorem dX12_next_316 : decode cX12_next 316 = .ok (.if_icmp .ne 7, 3) := by decide +kernel
theorem dX12_next_319 : decode cX12_next 319 = .ok (.iconst 1, 1) := by decide +kernel
theorem dX12_next_320 : decode cX12_next 320 = .ok (.goto 4, 3) := by decide +kernel
theorem dX12_next_323 : decode cX12_next 323 = .ok (.iconst 0, 1) := by decide +kernel
theorem dX12_next_324 : decode cX12_next 324 = .ok (.istore_n 3, 1) := by decide +kernel
theorem dX12_next_325 : decode cX12_next 325 = .ok (.aload_n 0, 1) := by decide +kernel
theorem dX12_next_326 : decode cX12_next 326 = .ok (.iload_n 3, 1) := by decide +kernel
theorem dX12_next_327 : decode cX12_next 327 = .ok (.ifCond .eq 7, 3) := by decide +kernel
theorem dX12_next_330 : decode cX12_next 330 = .ok (.iconst 4, 1) := by decide +kernel
theorem dX12_next_331 : decode cX12_next 331 = .ok (.goto 4, 3) := by decide +kernel
theorem dX12_next_334 : decode cX12_next 334 = .ok (.iconst 0, 1) := by decide +kernel
theorem dX12_next_335 : decode cX12_next 335 = .ok (.putfield 127, 3) := by decide +kernel
theorem dX12_next_338 : decode cX12_next 338 = .ok (.aload_n 0, 1) := by decide +kernel
theorem dX12_next_339 : decode cX12_next 339 = .ok (.aload_n 0, 1) := by decide +kernel
theorem dX12_next_340 : decode cX12_next 340 = .ok (.getfield 114, 3) := by decide +kernel
theorem dX12_next_343 : decode cX12_next 343 = .ok (.putfield 137, 3) := by decide +kernel
theorem dX12_next_346 : decode cX12_next 346 = .ok (.return_, 1) := by decide +kernel
theorem dX12_bad_0 : decode cX12_bad 0 = .ok (.aload_n 0, 1) := by decide +kernel
theorem dX12_bad_1 : decode cX12_bad 1 = .ok (.getfield 140, 3) := by decide +kernel
theorem dX12_bad_4 : decode cX12_bad 4 = .ok (.ifCond .ne 13, 3) := by decide +kernel
theorem dX12_bad_7 : decode cX12_bad 7 = .ok (.aload_n 0, 1) := by decide +kernel
theorem dX12_bad_8 : decode cX12_bad 8 = .ok (.iload_n 1, 1) := by decide +kernel
theorem dX12_bad_9 : decode cX12_bad 9 = .ok (.putfield 140, 3) := by decide +kernel
theorem dX12_bad_12 : decode cX12_bad 12 = .ok (.aload_n 0, 1) := by decide +kernel
theorem dX12_bad_13 : decode cX12_bad 13 = .ok (.iload_n 2, 1) := by decide +kernel
theorem dX12_bad_14 : decode cX12_bad 14 = .ok (.putfield 143, 3) := by decide +kernel
theorem dX12_bad_17 : decode cX12_bad 17 = .ok (.return_, 1) := by decide +kernel
theorem dX12_stands_0 : decode cX12_stands 0 = .ok (.iload_n 1, 1) := by decide +kernel
theorem dX12_stands_1 : decode cX12_stands 1 = .ok (.ifCond .ne 12, 3) := by decide +kernel
theorem dX12_stands_4 : decode cX12_stands 4 = .ok (.aload_n 0, 1) := by decide +kernel
theorem dX12_stands_5 : decode cX12_stands 5 = .ok (.iconst 1, 1) := by decide +kernel
theorem dX12_stands_6 : decode cX12_stands 6 = .ok (.aload_n 0, 1) := by decide +kernel
theorem dX12_stands_7 : decode cX12_stands 7 = .ok (.getfield 121, 3) := by decide +kernel
theorem dX12_stands_10 : decode cX12_stands 10 = .ok (.invokevirtual 146, 3) := by decide +kernel
theorem dX12_stands_13 : decode cX12_stands 13 = .ok (.return_, 1) := by decide +kernel
theorem dX12_is_0 : decode cX12_is 0 = .ok (.aload_n 0, 1) := by decide +kernel
theorem dX12_is_1 : decode cX12_is 1 = .ok (.getfield 127, 3) := by decide +kernel
theorem dX12_is_4 : decode cX12_is 4 = .ok (.iconst 4, 1) := by decide +kernel
theorem dX12_is_5 : decode cX12_is 5 = .ok (.if_icmp .ne 15, 3) := by decide +kernel
theorem dX12_is_8 : decode cX12_is 8 = .ok (.aload_n 0, 1) := by decide +kernel
theorem dX12_is_9 : decode cX12_is 9 = .ok (.getfield 124, 3) := by decide +kernel
theorem dX12_is_12 : decode cX12_is 12 = .ok (.iload_n 1, 1) := by decide +kernel
theorem dX12_is_13 : decode cX12_is 13 = .ok (.if_icmp .ne 7, 3) := by decide +kernel
theorem dX12_is_16 : decode cX12_is 16 = .ok (.iconst 1, 1) := by decide +kernel
theorem dX12_is_17 : decode cX12_is 17 = .ok (.goto 4, 3) := by decide +kernel
theorem dX12_is_20 : decode cX12_is 20 = .ok (.iconst 0, 1) := by decide +kernel
theorem dX12_is_21 : decode cX12_is 21 = .ok (.ireturn, 1) := by decide +kernel
theorem dX12_take_0 : decode cX12_take 0 = .ok (.aload_n 0, 1) := by decide +kernel
theorem dX12_take_1 : decode cX12_take 1 = .ok (.aload_n 0, 1) := by decide +kernel
theorem dX12_take_2 : decode cX12_take 2 = .ok (.iload_n 1, 1) := by decide +kernel
theorem dX12_take_3 : decode cX12_take 3 = .ok (.invokevirtual 150, 3) := by decide +kernel
theorem dX12_take_6 : decode cX12_take 6 = .ok (.invokevirtual 153, 3) := by decide +kernel
theorem dX12_take_9 : decode cX12_take 9 = .ok (.aload_n 0, 1) := by decide +kernel
theorem dX12_take_10 : decode cX12_take 10 = .ok (.getfield 140, 3) := by decide +kernel
theorem dX12_take_13 : decode cX12_take 13 = .ok (.ifCond .ne 7, 3) := by decide +kernel
theorem dX12_take_16 : decode cX12_take 16 = .ok (.aload_n 0, 1) := by decide +kernel
theorem dX12_take_17 : decode cX12_take 17 = .ok (.invokevirtual 157, 3) := by decide +kernel
theorem dX12_take_20 : decode cX12_take 20 = .ok (.return_, 1) := by decide +kernel
theorem dX12_name_0 : decode cX12_name 0 = .ok (.lconst 0, 1) := by decide +kernel
theorem dX12_name_1 : decode cX12_name 1 = .ok (.lstore_n 1, 1) := by decide +kernel
theorem dX12_name_2 : decode cX12_name 2 = .ok (.aload_n 0, 1) := by decide +kernel
theorem dX12_name_3 : decode cX12_name 3 = .ok (.getfield 121, 3) := by decide +kernel
theorem dX12_name_6 : decode cX12_name 6 = .ok (.istore_n 3, 1) := by decide +kernel
theorem dX12_name_7 : decode cX12_name 7 = .ok (.iload_n 3, 1) := by decide +kernel
theorem dX12_name_8 : decode cX12_name 8 = .ok (.aload_n 0, 1) := by decide +kernel
theorem dX12_name_9 : decode cX12_name 9 = .ok (.getfield 137, 3) := by decide +kernel
theorem dX12_name_12 : decode cX12_name 12 = .ok (.if_icmp .ge 30, 3) := by decide +kernel
theorem dX12_name_15 : decode cX12_name 15 = .ok (.aload_n 0, 1) := by decide +kernel
theorem dX12_name_16 : decode cX12_name 16 = .ok (.getfield 127, 3) := by decide +kernel
theorem dX12_name_19 : decode cX12_name 19 = .ok (.iconst 2, 1) := by decide +kernel
theorem dX12_name_20 : decode cX12_name 20 = .ok (.if_icmp .ne 22, 3) := by decide +kernel
theorem dX12_name_23 : decode cX12_name 23 = .ok (.lload_n 1, 1) := by decide +kernel
theorem dX12_name_24 : decode cX12_name 24 = .ok (.bipush 8, 2) := by decide +kernel
theorem dX12_name_26 : decode cX12_name 26 = .ok (.lshl, 1) := by decide +kernel
theorem dX12_name_27 : decode cX12_name 27 = .ok (.aload_n 0, 1) := by decide +kernel
theorem dX12_name_28 : decode cX12_name 28 = .ok (.getfield 7, 3) := by decide +kernel
theorem dX12_name_31 : decode cX12_name 31 = .ok (.iload_n 3, 1) := by decide +kernel
theorem dX12_name_32 : decode cX12_name 32 = .ok (.iaload, 1) := by decide +kernel
theorem dX12_name_33 : decode cX12_name 33 = .ok (.i2l, 1) := by decide +kernel
theorem dX12_name_34 : decode cX12_name 34 = .ok (.lor, 1) := by decide +kernel
theorem dX12_name_35 : decode cX12_name 35 = .ok (.lstore_n 1, 1) := by decide +kernel
theorem dX12_name_36 : decode cX12_name 36 = .ok (.iinc 3 1, 3) := by decide +kernel
theorem dX12_name_39 : decode cX12_name 39 = .ok (.goto (-32), 3) := by decide +kernel
theorem dX12_name_42 : decode cX12_name 42 = .ok (.lload_n 1, 1) := by decide +kernel
theorem dX12_name_43 : decode cX12_name 43 = .ok (.lreturn, 1) := by decide +kernel
theorem dX12_number_0 : decode cX12_number 0 = .ok (.iconst 0, 1) := by decide +kernel
theorem dX12_number_1 : decode cX12_number 1 = .ok (.istore_n 1, 1) := by decide +kernel
theorem dX12_number_2 : decode cX12_number 2 = .ok (.aload_n 0, 1) := by decide +kernel
theorem dX12_number_3 : decode cX12_number 3 = .ok (.getfield 121, 3) := by decide +kernel
theorem dX12_number_6 : decode cX12_number 6 = .ok (.istore_n 2, 1) := by decide +kernel
theorem dX12_number_7 : decode cX12_number 7 = .ok (.iload_n 2, 1) := by decide +kernel
theorem dX12_number_8 : decode cX12_number 8 = .ok (.aload_n 0, 1) := by decide +kernel
theorem dX12_number_9 : decode cX12_number 9 = .ok (.getfield 137, 3) := by decide +kernel
theorem dX12_number_12 : decode cX12_number 12 = .ok (.if_icmp .ge 24, 3) := by decide +kernel
theorem dX12_number_15 : decode cX12_number 15 = .ok (.bipush 10, 2) := by decide +kernel
theorem dX12_number_17 : decode cX12_number 17 = .ok (.iload_n 1, 1) := by decide +kernel
theorem dX12_number_18 : decode cX12_number 18 = .ok (.imul, 1) := by decide +kernel
theorem dX12_number_19 : decode cX12_number 19 = .ok (.aload_n 0, 1) := by decide +kernel
theorem dX12_number_20 : decode cX12_number 20 = .ok (.getfield 7, 3) := by decide +kernel
theorem dX12_number_23 : decode cX12_number 23 = .ok (.iload_n 2, 1) := by decide +kernel
theorem dX12_number_24 : decode cX12_number 24 = .ok (.iaload, 1) := by decide +kernel
theorem dX12_number_25 : decode cX12_number 25 = .ok (.iadd, 1) := by decide +kernel
theorem dX12_number_26 : decode cX12_number 26 = .ok (.bipush 48, 2) := by decide +kernel
theorem dX12_number_28 : decode cX12_number 28 = .ok (.isub, 1) := by decide +kernel
theorem dX12_number_29 : decode cX12_number 29 = .ok (.istore_n 1, 1) := by decide +kernel
theorem dX12_number_30 : decode cX12_number 30 = .ok (.iinc 2 1, 3) := by decide +kernel
theorem dX12_number_33 : decode cX12_number 33 = .ok (.goto (-26), 3) := by decide +kernel
theorem dX12_number_36 : decode cX12_number 36 = .ok (.iload_n 1, 1) := by decide +kernel
theorem dX12_number_37 : decode cX12_number 37 = .ok (.ireturn, 1) := by decide +kernel
theorem dX12_numberIn_0 : decode cX12_numberIn 0 = .ok (.aload_n 0, 1) := by decide +kernel
theorem dX12_numberIn_1 : decode cX12_numberIn 1 = .ok (.aload_n 0, 1) := by decide +kernel
theorem dX12_numberIn_2 : decode cX12_numberIn 2 = .ok (.getfield 127, 3) := by decide +kernel
theorem dX12_numberIn_5 : decode cX12_numberIn 5 = .ok (.iconst 3, 1) := by decide +kernel
theorem dX12_numberIn_6 : decode cX12_numberIn 6 = .ok (.if_icmp .ne 7, 3) := by decide +kernel
theorem dX12_numberIn_9 : decode cX12_numberIn 9 = .ok (.iconst 1, 1) := by decide +kernel
theorem dX12_numberIn_10 : decode cX12_numberIn 10 = .ok (.goto 4, 3) := by decide +kernel
theorem dX12_numberIn_13 : decode cX12_numberIn 13 = .ok (.iconst 0, 1) := by decide +kernel
theorem dX12_numberIn_14 : decode cX12_numberIn 14 = .ok (.invokevirtual 153, 3) := by decide +kernel
theorem dX12_numberIn_17 : decode cX12_numberIn 17 = .ok (.aload_n 0, 1) := by decide +kernel
theorem dX12_numberIn_18 : decode cX12_numberIn 18 = .ok (.getfield 140, 3) := by decide +kernel
theorem dX12_numberIn_21 : decode cX12_numberIn 21 = .ok (.ifCond .ne 27, 3) := by decide +kernel
theorem dX12_numberIn_24 : decode cX12_numberIn 24 = .ok (.aload_n 0, 1) := by decide +kernel
theorem dX12_numberIn_25 : decode cX12_numberIn 25 = .ok (.invokevirtual 160, 3) := by decide +kernel
theorem dX12_numberIn_28 : decode cX12_numberIn 28 = .ok (.i2l, 1) := by decide +kernel
theorem dX12_numberIn_29 : decode cX12_numberIn 29 = .ok (.iload_n 1, 1) := by decide +kernel
theorem dX12_numberIn_30 : decode cX12_numberIn 30 = .ok (.i2l, 1) := by decide +kernel
theorem dX12_numberIn_31 : decode cX12_numberIn 31 = .ok (.iload_n 2, 1) := by decide +kernel
theorem dX12_numberIn_32 : decode cX12_numberIn 32 = .ok (.i2l, 1) := by decide +kernel
theorem dX12_numberIn_33 : decode cX12_numberIn 33 = .ok (.invokestatic 102, 3) := by decide +kernel
theorem dX12_numberIn_36 : decode cX12_numberIn 36 = .ok (.ifCond .ne 12, 3) := by decide +kernel
theorem dX12_numberIn_39 : decode cX12_numberIn 39 = .ok (.aload_n 0, 1) := by decide +kernel
theorem dX12_numberIn_40 : decode cX12_numberIn 40 = .ok (.iconst 3, 1) := by decide +kernel
theorem dX12_numberIn_41 : decode cX12_numberIn 41 = .ok (.aload_n 0, 1) := by decide +kernel
theorem dX12_numberIn_42 : decode cX12_numberIn 42 = .ok (.getfield 121, 3) := by decide +kernel
theorem dX12_numberIn_45 : decode cX12_numberIn 45 = .ok (.invokevirtual 146, 3) := by decide +kernel
theorem dX12_numberIn_48 : decode cX12_numberIn 48 = .ok (.aload_n 0, 1) := by decide +kernel
theorem dX12_numberIn_49 : decode cX12_numberIn 49 = .ok (.getfield 140, 3) := by decide +kernel
theorem dX12_numberIn_52 : decode cX12_numberIn 52 = .ok (.ifCond .ne 10, 3) := by decide +kernel
theorem dX12_numberIn_55 : decode cX12_numberIn 55 = .ok (.aload_n 0, 1) := by decide +kernel
theorem dX12_numberIn_56 : decode cX12_numberIn 56 = .ok (.invokevirtual 160, 3) := by decide +kernel
theorem dX12_numberIn_59 : decode cX12_numberIn 59 = .ok (.goto 4, 3) := by decide +kernel
theorem dX12_numberIn_62 : decode cX12_numberIn 62 = .ok (.iconst 0, 1) := by decide +kernel
theorem dX12_numberIn_63 : decode cX12_numberIn 63 = .ok (.istore_n 3, 1) := by decide +kernel
theorem dX12_numberIn_64 : decode cX12_numberIn 64 = .ok (.aload_n 0, 1) := by decide +kernel
theorem dX12_numberIn_65 : decode cX12_numberIn 65 = .ok (.getfield 140, 3) := by decide +kernel
theorem dX12_numberIn_68 : decode cX12_numberIn 68 = .ok (.ifCond .ne 7, 3) := by decide +kernel
theorem dX12_numberIn_71 : decode cX12_numberIn 71 = .ok (.aload_n 0, 1) := by decide +kernel
theorem dX12_numberIn_72 : decode cX12_numberIn 72 = .ok (.invokevirtual 157, 3) := by decide +kernel
theorem dX12_numberIn_75 : decode cX12_numberIn 75 = .ok (.iload_n 3, 1) := by decide +kernel
theorem dX12_numberIn_76 : decode cX12_numberIn 76 = .ok (.ireturn, 1) := by decide +kernel
theorem dX12_varOf_0 : decode cX12_varOf 0 = .ok (.iconst 0, 1) := by decide +kernel
theorem dX12_varOf_1 : decode cX12_varOf 1 = .ok (.istore_n 3, 1) := by decide +kernel
theorem dX12_varOf_2 : decode cX12_varOf 2 = .ok (.iload_n 3, 1) := by decide +kernel
theorem dX12_varOf_3 : decode cX12_varOf 3 = .ok (.aload_n 0, 1) := by decide +kernel
theorem dX12_varOf_4 : decode cX12_varOf 4 = .ok (.getfield 16, 3) := by decide +kernel
theorem dX12_varOf_7 : decode cX12_varOf 7 = .ok (.aload_n 0, 1) := by decide +kernel
theorem dX12_varOf_8 : decode cX12_varOf 8 = .ok (.getfield 164, 3) := by decide +kernel
theorem dX12_varOf_11 : decode cX12_varOf 11 = .ok (.iaload, 1) := by decide +kernel
theorem dX12_varOf_12 : decode cX12_varOf 12 = .ok (.if_icmp .ge 27, 3) := by decide +kernel
theorem dX12_varOf_15 : decode cX12_varOf 15 = .ok (.aload_n 0, 1) := by decide +kernel
theorem dX12_varOf_16 : decode cX12_varOf 16 = .ok (.getfield 19, 3) := by decide +kernel
theorem dX12_varOf_19 : decode cX12_varOf 19 = .ok (.iconst 4, 1) := by decide +kernel
theorem dX12_varOf_20 : decode cX12_varOf 20 = .ok (.aload_n 0, 1) := by decide +kernel
theorem dX12_varOf_21 : decode cX12_varOf 21 = .ok (.getfield 164, 3) := by decide +kernel
theorem dX12_varOf_24 : decode cX12_varOf 24 = .ok (.imul, 1) := by decide +kernel
theorem dX12_varOf_25 : decode cX12_varOf 25 = .ok (.iload_n 3, 1) := by decide +kernel
theorem dX12_varOf_26 : decode cX12_varOf 26 = .ok (.iadd, 1) := by decide +kernel
theorem dX12_varOf_27 : decode cX12_varOf 27 = .ok (.laload, 1) := by decide +kernel
theorem dX12_varOf_28 : decode cX12_varOf 28 = .ok (.lload_n 1, 1) := by decide +kernel
theorem dX12_varOf_29 : decode cX12_varOf 29 = .ok (.lcmp, 1) := by decide +kernel
theorem dX12_varOf_30 : decode cX12_varOf 30 = .ok (.ifCond .eq 9, 3) := by decide +kernel
theorem dX12_varOf_33 : decode cX12_varOf 33 = .ok (.iinc 3 1, 3) := by decide +kernel
theorem dX12_varOf_36 : decode cX12_varOf 36 = .ok (.goto (-34), 3) := by decide +kernel
theorem dX12_varOf_39 : decode cX12_varOf 39 = .ok (.iload_n 3, 1) := by decide +kernel
theorem dX12_varOf_40 : decode cX12_varOf 40 = .ok (.aload_n 0, 1) := by decide +kernel
theorem dX12_varOf_41 : decode cX12_varOf 41 = .ok (.getfield 16, 3) := by decide +kernel
theorem dX12_varOf_44 : decode cX12_varOf 44 = .ok (.aload_n 0, 1) := by decide +kernel
theorem dX12_varOf_45 : decode cX12_varOf 45 = .ok (.getfield 164, 3) := by decide +kernel
theorem dX12_varOf_48 : decode cX12_varOf 48 = .ok (.iaload, 1) := by decide +kernel
theorem dX12_varOf_49 : decode cX12_varOf 49 = .ok (.if_icmp .ge 7, 3) := by decide +kernel
theorem dX12_varOf_52 : decode cX12_varOf 52 = .ok (.iload_n 3, 1) := by decide +kernel
theorem dX12_varOf_53 : decode cX12_varOf 53 = .ok (.goto 4, 3) := by decide +kernel
theorem dX12_varOf_56 : decode cX12_varOf 56 = .ok (.iconst (-1), 1) := by decide +kernel
theorem dX12_varOf_57 : decode cX12_varOf 57 = .ok (.ireturn, 1) := by decide +kernel
theorem dX12_statesOf_0 : decode cX12_statesOf 0 = .ok (.iconst 1, 1) := by decide +kernel
theorem dX12_statesOf_1 : decode cX12_statesOf 1 = .ok (.istore_n 2, 1) := by decide +kernel
theorem dX12_statesOf_2 : decode cX12_statesOf 2 = .ok (.iconst 0, 1) := by decide +kernel
theorem dX12_statesOf_3 : decode cX12_statesOf 3 = .ok (.istore_n 3, 1) := by decide +kernel
theorem dX12_statesOf_4 : decode cX12_statesOf 4 = .ok (.iload_n 3, 1) := by decide +kernel
theorem dX12_statesOf_5 : decode cX12_statesOf 5 = .ok (.aload_n 0, 1) := by decide +kernel
theorem dX12_statesOf_6 : decode cX12_statesOf 6 = .ok (.getfield 16, 3) := by decide +kernel
theorem dX12_statesOf_9 : decode cX12_statesOf 9 = .ok (.iload_n 1, 1) := by decide +kernel
theorem dX12_statesOf_10 : decode cX12_statesOf 10 = .ok (.iaload, 1) := by decide +kernel
theorem dX12_statesOf_11 : decode cX12_statesOf 11 = .ok (.if_icmp .ge 24, 3) := by decide +kernel
theorem dX12_statesOf_14 : decode cX12_statesOf 14 = .ok (.iload_n 2, 1) := by decide +kernel
theorem dX12_statesOf_15 : decode cX12_statesOf 15 = .ok (.aload_n 0, 1) := by decide +kernel
theorem dX12_statesOf_16 : decode cX12_statesOf 16 = .ok (.getfield 23, 3) := by decide +kernel
theorem dX12_statesOf_19 : decode cX12_statesOf 19 = .ok (.iconst 4, 1) := by decide +kernel
theorem dX12_statesOf_20 : decode cX12_statesOf 20 = .ok (.iload_n 1, 1) := by decide +kernel
theorem dX12_statesOf_21 : decode cX12_statesOf 21 = .ok (.imul, 1) := by decide +kernel
theorem dX12_statesOf_22 : decode cX12_statesOf 22 = .ok (.iload_n 3, 1) := by decide +kernel
theorem dX12_statesOf_23 : decode cX12_statesOf 23 = .ok (.iadd, 1) := by decide +kernel
theorem dX12_statesOf_24 : decode cX12_statesOf 24 = .ok (.iaload, 1) := by decide +kernel
theorem dX12_statesOf_25 : decode cX12_statesOf 25 = .ok (.iconst 1, 1) := by decide +kernel
theorem dX12_statesOf_26 : decode cX12_statesOf 26 = .ok (.iadd, 1) := by decide +kernel
theorem dX12_statesOf_27 : decode cX12_statesOf 27 = .ok (.imul, 1) := by decide +kernel
theorem dX12_statesOf_28 : decode cX12_statesOf 28 = .ok (.istore_n 2, 1) := by decide +kernel
theorem dX12_statesOf_29 : decode cX12_statesOf 29 = .ok (.iinc 3 1, 3) := by decide +kernel
theorem dX12_statesOf_32 : decode cX12_statesOf 32 = .ok (.goto (-28), 3) := by decide +kernel
theorem dX12_statesOf_35 : decode cX12_statesOf 35 = .ok (.iload_n 2, 1) := by decide +kernel
theorem dX12_statesOf_36 : decode cX12_statesOf 36 = .ok (.ireturn, 1) := by decide +kernel
theorem dX12_readVar_0 : decode cX12_readVar 0 = .ok (.aload_n 0, 1) := by decide +kernel
theorem dX12_readVar_1 : decode cX12_readVar 1 = .ok (.getfield 16, 3) := by decide +kernel
theorem dX12_readVar_4 : decode cX12_readVar 4 = .ok (.aload_n 0, 1) := by decide +kernel
theorem dX12_readVar_5 : decode cX12_readVar 5 = .ok (.getfield 164, 3) := by decide +kernel
theorem dX12_readVar_8 : decode cX12_readVar 8 = .ok (.iaload, 1) := by decide +kernel
theorem dX12_readVar_9 : decode cX12_readVar 9 = .ok (.iconst 4, 1) := by decide +kernel
theorem dX12_readVar_10 : decode cX12_readVar 10 = .ok (.if_icmp .ne 13, 3) := by decide +kernel
theorem dX12_readVar_13 : decode cX12_readVar 13 = .ok (.aload_n 0, 1) := by decide +kernel
theorem dX12_readVar_14 : decode cX12_readVar 14 = .ok (.iconst 4, 1) := by decide +kernel
theorem dX12_readVar_15 : decode cX12_readVar 15 = .ok (.aload_n 0, 1) := by decide +kernel
theorem dX12_readVar_16 : decode cX12_readVar 16 = .ok (.getfield 121, 3) := by decide +kernel
theorem dX12_readVar_19 : decode cX12_readVar 19 = .ok (.invokevirtual 146, 3) := by decide +kernel
theorem dX12_readVar_22 : decode cX12_readVar 22 = .ok (.return_, 1) := by decide +kernel
theorem dX12_readVar_23 : decode cX12_readVar 23 = .ok (.aload_n 0, 1) := by decide +kernel
theorem dX12_readVar_24 : decode cX12_readVar 24 = .ok (.invokevirtual 157, 3) := by decide +kernel
theorem dX12_readVar_27 : decode cX12_readVar 27 = .ok (.aload_n 0, 1) := by decide +kernel
theorem dX12_readVar_28 : decode cX12_readVar 28 = .ok (.aload_n 0, 1) := by decide +kernel
theorem dX12_readVar_29 : decode cX12_readVar 29 = .ok (.getfield 127, 3) := by decide +kernel
theorem dX12_readVar_32 : decode cX12_readVar 32 = .ok (.iconst 2, 1) := by decide +kernel
theorem dX12_readVar_33 : decode cX12_readVar 33 = .ok (.if_icmp .ne 7, 3) := by decide +kernel
theorem dX12_readVar_36 : decode cX12_readVar 36 = .ok (.iconst 1, 1) := by decide +kernel
theorem dX12_readVar_37 : decode cX12_readVar 37 = .ok (.goto 4, 3) := by decide +kernel
theorem dX12_readVar_40 : decode cX12_readVar 40 = .ok (.iconst 0, 1) := by decide +kernel
theorem dX12_readVar_41 : decode cX12_readVar 41 = .ok (.invokevirtual 153, 3) := by decide +kernel
theorem dX12_readVar_44 : decode cX12_readVar 44 = .ok (.aload_n 0, 1) := by decide +kernel
theorem dX12_readVar_45 : decode cX12_readVar 45 = .ok (.getfield 140, 3) := by decide +kernel
theorem dX12_readVar_48 : decode cX12_readVar 48 = .ok (.ifCond .ne 24, 3) := by decide +kernel
theorem dX12_readVar_51 : decode cX12_readVar 51 = .ok (.aload_n 0, 1) := by decide +kernel
theorem dX12_readVar_52 : decode cX12_readVar 52 = .ok (.aload_n 0, 1) := by decide +kernel
theorem dX12_readVar_53 : decode cX12_readVar 53 = .ok (.invokevirtual 167, 3) := by decide +kernel
theorem dX12_readVar_56 : decode cX12_readVar 56 = .ok (.invokevirtual 171, 3) := by decide +kernel
theorem dX12_readVar_59 : decode cX12_readVar 59 = .ok (.iconst (-1), 1) := by decide +kernel
theorem dX12_readVar_60 : decode cX12_readVar 60 = .ok (.if_icmp .eq 12, 3) := by decide +kernel
theorem dX12_readVar_63 : decode cX12_readVar 63 = .ok (.aload_n 0, 1) := by decide +kernel
theorem dX12_readVar_64 : decode cX12_readVar 64 = .ok (.iconst 2, 1) := by decide +kernel
theorem dX12_readVar_65 : decode cX12_readVar 65 = .ok (.aload_n 0, 1) := by decide +kernel
theorem dX12_readVar_66 : decode cX12_readVar 66 = .ok (.getfield 121, 3) := by decide +kernel
theorem dX12_readVar_69 : decode cX12_readVar 69 = .ok (.invokevirtual 146, 3) := by decide +kernel
theorem dX12_readVar_72 : decode cX12_readVar 72 = .ok (.aload_n 0, 1) := by decide +kernel
theorem dX12_readVar_73 : decode cX12_readVar 73 = .ok (.getfield 140, 3) := by decide +kernel
theorem dX12_readVar_76 : decode cX12_readVar 76 = .ok (.ifCond .le 4, 3) := by decide +kernel
theorem dX12_readVar_79 : decode cX12_readVar 79 = .ok (.return_, 1) := by decide +kernel
theorem dX12_readVar_80 : decode cX12_readVar 80 = .ok (.iconst 4, 1) := by decide +kernel
theorem dX12_readVar_81 : decode cX12_readVar 81 = .ok (.aload_n 0, 1) := by decide +kernel
theorem dX12_readVar_82 : decode cX12_readVar 82 = .ok (.getfield 164, 3) := by decide +kernel
theorem dX12_readVar_85 : decode cX12_readVar 85 = .ok (.imul, 1) := by decide +kernel
theorem dX12_readVar_86 : decode cX12_readVar 86 = .ok (.aload_n 0, 1) := by decide +kernel
theorem dX12_readVar_87 : decode cX12_readVar 87 = .ok (.getfield 16, 3) := by decide +kernel
theorem dX12_readVar_90 : decode cX12_readVar 90 = .ok (.aload_n 0, 1) := by decide +kernel
theorem dX12_readVar_91 : decode cX12_readVar 91 = .ok (.getfield 164, 3) := by decide +kernel
theorem dX12_readVar_94 : decode cX12_readVar 94 = .ok (.iaload, 1) := by decide +kernel
theorem dX12_readVar_95 : decode cX12_readVar 95 = .ok (.iadd, 1) := by decide +kernel
theorem dX12_readVar_96 : decode cX12_readVar 96 = .ok (.istore_n 1, 1) := by decide +kernel
theorem dX12_readVar_97 : decode cX12_readVar 97 = .ok (.aload_n 0, 1) := by decide +kernel
theorem dX12_readVar_98 : decode cX12_readVar 98 = .ok (.getfield 19, 3) := by decide +kernel
theorem dX12_readVar_101 : decode cX12_readVar 101 = .ok (.iload_n 1, 1) := by decide +kernel
theorem dX12_readVar_102 : decode cX12_readVar 102 = .ok (.aload_n 0, 1) := by decide +kernel
theorem dX12_readVar_103 : decode cX12_readVar 103 = .ok (.invokevirtual 167, 3) := by decide +kernel
theorem dX12_readVar_106 : decode cX12_readVar 106 = .ok (.lastore, 1) := by decide +kernel
theorem dX12_readVar_107 : decode cX12_readVar 107 = .ok (.aload_n 0, 1) := by decide +kernel
theorem dX12_readVar_108 : decode cX12_readVar 108 = .ok (.invokevirtual 157, 3) := by decide +kernel
theorem dX12_readVar_111 : decode cX12_readVar 111 = .ok (.aload_n 0, 1) := by decide +kernel
theorem dX12_readVar_112 : decode cX12_readVar 112 = .ok (.getfield 121, 3) := by decide +kernel
theorem dX12_readVar_115 : decode cX12_readVar 115 = .ok (.istore_n 2, 1) := by decide +kernel
theorem dX12_readVar_116 : decode cX12_readVar 116 = .ok (.aload_n 0, 1) := by decide +kernel
theorem dX12_readVar_117 : decode cX12_readVar 117 = .ok (.getfield 127, 3) := by decide +kernel
theorem dX12_readVar_120 : decode cX12_readVar 120 = .ok (.iconst 3, 1) := by decide +kernel
theorem dX12_readVar_121 : decode cX12_readVar 121 = .ok (.if_icmp .ne 22, 3) := by decide +kernel
theorem dX12_readVar_124 : decode cX12_readVar 124 = .ok (.aload_n 0, 1) := by decide +kernel
theorem dX12_readVar_125 : decode cX12_readVar 125 = .ok (.invokevirtual 160, 3) := by decide +kernel
theorem dX12_readVar_128 : decode cX12_readVar 128 = .ok (.i2l, 1) := by decide +kernel
theorem dX12_readVar_129 : decode cX12_readVar 129 = .ok (.lconst 0, 1) := by decide +kernel
theorem dX12_readVar_130 : decode cX12_readVar 130 = .ok (.ldc2_w 175, 3) := by decide +kernel
theorem dX12_readVar_133 : decode cX12_readVar 133 = .ok (.invokestatic 102, 3) := by decide +kernel
theorem dX12_readVar_136 : decode cX12_readVar 136 = .ok (.ifCond .eq 7, 3) := by decide +kernel
theorem dX12_readVar_139 : decode cX12_readVar 139 = .ok (.iconst 1, 1) := by decide +kernel
theorem dX12_readVar_140 : decode cX12_readVar 140 = .ok (.goto 4, 3) := by decide +kernel
theorem dX12_readVar_143 : decode cX12_readVar 143 = .ok (.iconst 0, 1) := by decide +kernel
theorem dX12_readVar_144 : decode cX12_readVar 144 = .ok (.istore_n 3, 1) := by decide +kernel
theorem dX12_readVar_145 : decode cX12_readVar 145 = .ok (.iload_n 3, 1) := by decide +kernel
theorem dX12_readVar_146 : decode cX12_readVar 146 = .ok (.ifCond .eq 30, 3) := by decide +kernel
theorem dX12_readVar_149 : decode cX12_readVar 149 = .ok (.aload_n 0, 1) := by decide +kernel
theorem dX12_readVar_150 : decode cX12_readVar 150 = .ok (.aload_n 0, 1) := by decide +kernel
theorem dX12_readVar_151 : decode cX12_readVar 151 = .ok (.getfield 164, 3) := by decide +kernel
theorem dX12_readVar_154 : decode cX12_readVar 154 = .ok (.invokevirtual 177, 3) := by decide +kernel
theorem dX12_readVar_157 : decode cX12_readVar 157 = .ok (.aload_n 0, 1) := by decide +kernel
theorem dX12_readVar_158 : decode cX12_readVar 158 = .ok (.invokevirtual 160, 3) := by decide +kernel
theorem dX12_readVar_161 : decode cX12_readVar 161 = .ok (.iconst 1, 1) := by decide +kernel
theorem dX12_readVar_162 : decode cX12_readVar 162 = .ok (.iadd, 1) := by decide +kernel
theorem dX12_readVar_163 : decode cX12_readVar 163 = .ok (.imul, 1) := by decide +kernel
theorem dX12_readVar_164 : decode cX12_readVar 164 = .ok (.sipush 1000, 3) := by decide +kernel
theorem dX12_readVar_167 : decode cX12_readVar 167 = .ok (.if_icmp .le 9, 3) := by decide +kernel
theorem dX12_readVar_170 : decode cX12_readVar 170 = .ok (.aload_n 0, 1) := by decide +kernel
theorem dX12_readVar_171 : decode cX12_readVar 171 = .ok (.iconst 4, 1) := by decide +kernel
theorem dX12_readVar_172 : decode cX12_readVar 172 = .ok (.iload_n 2, 1) := by decide +kernel
theorem dX12_readVar_173 : decode cX12_readVar 173 = .ok (.invokevirtual 146, 3) := by decide +kernel
theorem dX12_readVar_176 : decode cX12_readVar 176 = .ok (.aload_n 0, 1) := by decide +kernel
theorem dX12_readVar_177 : decode cX12_readVar 177 = .ok (.getfield 23, 3) := by decide +kernel
theorem dX12_readVar_180 : decode cX12_readVar 180 = .ok (.iload_n 1, 1) := by decide +kernel
theorem dX12_readVar_181 : decode cX12_readVar 181 = .ok (.aload_n 0, 1) := by decide +kernel
theorem dX12_readVar_182 : decode cX12_readVar 182 = .ok (.iconst 0, 1) := by decide +kernel
theorem dX12_readVar_183 : decode cX12_readVar 183 = .ok (.bipush 30, 2) := by decide +kernel
theorem dX12_readVar_185 : decode cX12_readVar 185 = .ok (.invokevirtual 180, 3) := by decide +kernel
theorem dX12_readVar_188 : decode cX12_readVar 188 = .ok (.iastore, 1) := by decide +kernel
theorem dX12_readVar_189 : decode cX12_readVar 189 = .ok (.aload_n 0, 1) := by decide +kernel
theorem dX12_readVar_190 : decode cX12_readVar 190 = .ok (.getfield 26, 3) := by decide +kernel
theorem dX12_readVar_193 : decode cX12_readVar 193 = .ok (.iload_n 1, 1) := by decide +kernel
theorem dX12_readVar_194 : decode cX12_readVar 194 = .ok (.aload_n 0, 1) := by decide +kernel
theorem dX12_readVar_195 : decode cX12_readVar 195 = .ok (.getfield 140, 3) := by decide +kernel
theorem dX12_readVar_198 : decode cX12_readVar 198 = .ok (.ifCond .ne 17, 3) := by decide +kernel
theorem dX12_readVar_201 : decode cX12_readVar 201 = .ok (.aload_n 0, 1) := by decide +kernel
theorem dX12_readVar_202 : decode cX12_readVar 202 = .ok (.iconst 0, 1) := by decide +kernel
theorem dX12_readVar_203 : decode cX12_readVar 203 = .ok (.aload_n 0, 1) := by decide +kernel
theorem dX12_readVar_204 : decode cX12_readVar 204 = .ok (.getfield 23, 3) := by decide +kernel
theorem dX12_readVar_207 : decode cX12_readVar 207 = .ok (.iload_n 1, 1) := by decide +kernel
theorem dX12_readVar_208 : decode cX12_readVar 208 = .ok (.iaload, 1) := by decide +kernel
theorem dX12_readVar_209 : decode cX12_readVar 209 = .ok (.invokevirtual 180, 3) := by decide +kernel
theorem dX12_readVar_212 : decode cX12_readVar 212 = .ok (.goto 4, 3) := by decide +kernel
theorem dX12_readVar_215 : decode cX12_readVar 215 = .ok (.iconst 0, 1) := by decide +kernel
theorem dX12_readVar_216 : decode cX12_readVar 216 = .ok (.iastore, 1) := by decide +kernel
theorem dX12_readVar_217 : decode cX12_readVar 217 = .ok (.aload_n 0, 1) := by decide +kernel
theorem dX12_readVar_218 : decode cX12_readVar 218 = .ok (.getfield 16, 3) := by decide +kernel
theorem dX12_readVar_221 : decode cX12_readVar 221 = .ok (.aload_n 0, 1) := by decide +kernel
theorem dX12_readVar_222 : decode cX12_readVar 222 = .ok (.getfield 164, 3) := by decide +kernel
theorem dX12_readVar_225 : decode cX12_readVar 225 = .ok (.dup2, 1) := by decide +kernel
theorem dX12_readVar_226 : decode cX12_readVar 226 = .ok (.iaload, 1) := by decide +kernel
theorem dX12_readVar_227 : decode cX12_readVar 227 = .ok (.iconst 1, 1) := by decide +kernel
theorem dX12_readVar_228 : decode cX12_readVar 228 = .ok (.iadd, 1) := by decide +kernel
theorem dX12_readVar_229 : decode cX12_readVar 229 = .ok (.iastore, 1) := by decide +kernel
theorem dX12_readVar_230 : decode cX12_readVar 230 = .ok (.aload_n 0, 1) := by decide +kernel
theorem dX12_readVar_231 : decode cX12_readVar 231 = .ok (.bipush 59, 2) := by decide +kernel
theorem dX12_readVar_233 : decode cX12_readVar 233 = .ok (.invokevirtual 184, 3) := by decide +kernel
theorem dX12_readVar_236 : decode cX12_readVar 236 = .ok (.return_, 1) := by decide +kernel
theorem dX12_readName_0 : decode cX12_readName 0 = .ok (.aload_n 0, 1) := by decide +kernel
theorem dX12_readName_1 : decode cX12_readName 1 = .ok (.aload_n 0, 1) := by decide +kernel
theorem dX12_readName_2 : decode cX12_readName 2 = .ok (.getfield 127, 3) := by decide +kernel
theorem dX12_readName_5 : decode cX12_readName 5 = .ok (.iconst 2, 1) := by decide +kernel
theorem dX12_readName_6 : decode cX12_readName 6 = .ok (.if_icmp .ne 7, 3) := by decide +kernel
theorem dX12_readName_9 : decode cX12_readName 9 = .ok (.iconst 1, 1) := by decide +kernel
theorem dX12_readName_10 : decode cX12_readName 10 = .ok (.goto 4, 3) := by decide +kernel
theorem dX12_readName_13 : decode cX12_readName 13 = .ok (.iconst 0, 1) := by decide +kernel
theorem dX12_readName_14 : decode cX12_readName 14 = .ok (.invokevirtual 153, 3) := by decide +kernel
theorem dX12_readName_17 : decode cX12_readName 17 = .ok (.aload_n 0, 1) := by decide +kernel
theorem dX12_readName_18 : decode cX12_readName 18 = .ok (.getfield 140, 3) := by decide +kernel
theorem dX12_readName_21 : decode cX12_readName 21 = .ok (.ifCond .ne 14, 3) := by decide +kernel
theorem dX12_readName_24 : decode cX12_readName 24 = .ok (.aload_n 0, 1) := by decide +kernel
theorem dX12_readName_25 : decode cX12_readName 25 = .ok (.aload_n 0, 1) := by decide +kernel
theorem dX12_readName_26 : decode cX12_readName 26 = .ok (.invokevirtual 167, 3) := by decide +kernel
theorem dX12_readName_29 : decode cX12_readName 29 = .ok (.invokevirtual 171, 3) := by decide +kernel
theorem dX12_readName_32 : decode cX12_readName 32 = .ok (.goto 4, 3) := by decide +kernel
theorem dX12_readName_35 : decode cX12_readName 35 = .ok (.iconst (-1), 1) := by decide +kernel
theorem dX12_readName_36 : decode cX12_readName 36 = .ok (.istore_n 1, 1) := by decide +kernel
theorem dX12_readName_37 : decode cX12_readName 37 = .ok (.aload_n 0, 1) := by decide +kernel
theorem dX12_readName_38 : decode cX12_readName 38 = .ok (.getfield 140, 3) := by decide +kernel
theorem dX12_readName_41 : decode cX12_readName 41 = .ok (.ifCond .ne 17, 3) := by decide +kernel
theorem dX12_readName_44 : decode cX12_readName 44 = .ok (.iload_n 1, 1) := by decide +kernel
theorem dX12_readName_45 : decode cX12_readName 45 = .ok (.iconst (-1), 1) := by decide +kernel
theorem dX12_readName_46 : decode cX12_readName 46 = .ok (.if_icmp .ne 12, 3) := by decide +kernel
theorem dX12_readName_49 : decode cX12_readName 49 = .ok (.aload_n 0, 1) := by decide +kernel
theorem dX12_readName_50 : decode cX12_readName 50 = .ok (.iconst 2, 1) := by decide +kernel
theorem dX12_readName_51 : decode cX12_readName 51 = .ok (.aload_n 0, 1) := by decide +kernel
theorem dX12_readName_52 : decode cX12_readName 52 = .ok (.getfield 121, 3) := by decide +kernel
theorem dX12_readName_55 : decode cX12_readName 55 = .ok (.invokevirtual 146, 3) := by decide +kernel
theorem dX12_readName_58 : decode cX12_readName 58 = .ok (.iload_n 1, 1) := by decide +kernel
theorem dX12_readName_59 : decode cX12_readName 59 = .ok (.ireturn, 1) := by decide +kernel
theorem dX12_readConds_0 : decode cX12_readConds 0 = .ok (.aload_n 0, 1) := by decide +kernel
theorem dX12_readConds_1 : decode cX12_readConds 1 = .ok (.getfield 38, 3) := by decide +kernel
theorem dX12_readConds_4 : decode cX12_readConds 4 = .ok (.iload_n 1, 1) := by decide +kernel
theorem dX12_readConds_5 : decode cX12_readConds 5 = .ok (.iconst 0, 1) := by decide +kernel
theorem dX12_readConds_6 : decode cX12_readConds 6 = .ok (.iastore, 1) := by decide +kernel
theorem dX12_readConds_7 : decode cX12_readConds 7 = .ok (.iconst 1, 1) := by decide +kernel
theorem dX12_readConds_8 : decode cX12_readConds 8 = .ok (.istore_n 2, 1) := by decide +kernel
theorem dX12_readConds_9 : decode cX12_readConds 9 = .ok (.iload_n 2, 1) := by decide +kernel
theorem dX12_readConds_10 : decode cX12_readConds 10 = .ok (.ifCond .eq 190, 3) := by decide +kernel
theorem dX12_readConds_13 : decode cX12_readConds 13 = .ok (.aload_n 0, 1) := by decide +kernel
theorem dX12_readConds_14 : decode cX12_readConds 14 = .ok (.getfield 140, 3) := by decide +kernel
theorem dX12_readConds_17 : decode cX12_readConds 17 = .ok (.ifCond .ne 183, 3) := by decide +kernel
theorem dX12_readConds_20 : decode cX12_readConds 20 = .ok (.aload_n 0, 1) := by decide +kernel
theorem dX12_readConds_21 : decode cX12_readConds 21 = .ok (.invokevirtual 188, 3) := by decide +kernel
theorem dX12_readConds_24 : decode cX12_readConds 24 = .ok (.istore_n 3, 1) := by decide +kernel
theorem dX12_readConds_25 : decode cX12_readConds 25 = .ok (.aload_n 0, 1) := by decide +kernel
theorem dX12_readConds_26 : decode cX12_readConds 26 = .ok (.getfield 140, 3) := by decide +kernel
theorem dX12_readConds_29 : decode cX12_readConds 29 = .ok (.ifCond .ne 22, 3) := by decide +kernel
theorem dX12_readConds_32 : decode cX12_readConds 32 = .ok (.aload_n 0, 1) := by decide +kernel
theorem dX12_readConds_33 : decode cX12_readConds 33 = .ok (.getfield 38, 3) := by decide +kernel
theorem dX12_readConds_36 : decode cX12_readConds 36 = .ok (.iload_n 1, 1) := by decide +kernel
theorem dX12_readConds_37 : decode cX12_readConds 37 = .ok (.iaload, 1) := by decide +kernel
theorem dX12_readConds_38 : decode cX12_readConds 38 = .ok (.iconst 3, 1) := by decide +kernel
theorem dX12_readConds_39 : decode cX12_readConds 39 = .ok (.if_icmp .ne 12, 3) := by decide +kernel
theorem dX12_readConds_42 : decode cX12_readConds 42 = .ok (.aload_n 0, 1) := by decide +kernel
theorem dX12_readConds_43 : decode cX12_readConds 43 = .ok (.iconst 4, 1) := by decide +kernel
theorem dX12_readConds_44 : decode cX12_readConds 44 = .ok (.aload_n 0, 1) := by decide +kernel
theorem dX12_readConds_45 : decode cX12_readConds 45 = .ok (.getfield 121, 3) := by decide +kernel
theorem dX12_readConds_48 : decode cX12_readConds 48 = .ok (.invokevirtual 146, 3) := by decide +kernel
theorem dX12_readConds_51 : decode cX12_readConds 51 = .ok (.aload_n 0, 1) := by decide +kernel
theorem dX12_readConds_52 : decode cX12_readConds 52 = .ok (.getfield 140, 3) := by decide +kernel
theorem dX12_readConds_55 : decode cX12_readConds 55 = .ok (.ifCond .ne 142, 3) := by decide +kernel
theorem dX12_readConds_58 : decode cX12_readConds 58 = .ok (.aload_n 0, 1) := by decide +kernel
theorem dX12_readConds_59 : decode cX12_readConds 59 = .ok (.invokevirtual 157, 3) := by decide +kernel
theorem dX12_readConds_62 : decode cX12_readConds 62 = .ok (.aload_n 0, 1) := by decide +kernel
theorem dX12_readConds_63 : decode cX12_readConds 63 = .ok (.aload_n 0, 1) := by decide +kernel
theorem dX12_readConds_64 : decode cX12_readConds 64 = .ok (.bipush 60, 2) := by decide +kernel
theorem dX12_readConds_66 : decode cX12_readConds 66 = .ok (.invokevirtual 150, 3) := by decide +kernel
theorem dX12_readConds_69 : decode cX12_readConds 69 = .ok (.ifCond .ne 21, 3) := by decide +kernel
theorem dX12_readConds_72 : decode cX12_readConds 72 = .ok (.aload_n 0, 1) := by decide +kernel
theorem dX12_readConds_73 : decode cX12_readConds 73 = .ok (.bipush 61, 2) := by decide +kernel
theorem dX12_readConds_75 : decode cX12_readConds 75 = .ok (.invokevirtual 150, 3) := by decide +kernel
theorem dX12_readConds_78 : decode cX12_readConds 78 = .ok (.ifCond .ne 12, 3) := by decide +kernel
theorem dX12_readConds_81 : decode cX12_readConds 81 = .ok (.aload_n 0, 1) := by decide +kernel
theorem dX12_readConds_82 : decode cX12_readConds 82 = .ok (.bipush 62, 2) := by decide +kernel
theorem dX12_readConds_84 : decode cX12_readConds 84 = .ok (.invokevirtual 150, 3) := by decide +kernel
theorem dX12_readConds_87 : decode cX12_readConds 87 = .ok (.ifCond .eq 7, 3) := by decide +kernel
theorem dX12_readConds_90 : decode cX12_readConds 90 = .ok (.iconst 1, 1) := by decide +kernel
theorem dX12_readConds_91 : decode cX12_readConds 91 = .ok (.goto 4, 3) := by decide +kernel
theorem dX12_readConds_94 : decode cX12_readConds 94 = .ok (.iconst 0, 1) := by decide +kernel
theorem dX12_readConds_95 : decode cX12_readConds 95 = .ok (.invokevirtual 153, 3) := by decide +kernel
theorem dX12_readConds_98 : decode cX12_readConds 98 = .ok (.iconst 3, 1) := by decide +kernel
theorem dX12_readConds_99 : decode cX12_readConds 99 = .ok (.iload_n 1, 1) := by decide +kernel
theorem dX12_readConds_100 : decode cX12_readConds 100 = .ok (.imul, 1) := by decide +kernel
theorem dX12_readConds_101 : decode cX12_readConds 101 = .ok (.aload_n 0, 1) := by decide +kernel
theorem dX12_readConds_102 : decode cX12_readConds 102 = .ok (.getfield 38, 3) := by decide +kernel
theorem dX12_readConds_105 : decode cX12_readConds 105 = .ok (.iload_n 1, 1) := by decide +kernel
theorem dX12_readConds_106 : decode cX12_readConds 106 = .ok (.iaload, 1) := by decide +kernel
theorem dX12_readConds_107 : decode cX12_readConds 107 = .ok (.iadd, 1) := by decide +kernel
theorem dX12_readConds_108 : decode cX12_readConds 108 = .ok (.istore 4, 2) := by decide +kernel
theorem dX12_readConds_110 : decode cX12_readConds 110 = .ok (.aload_n 0, 1) := by decide +kernel
theorem dX12_readConds_111 : decode cX12_readConds 111 = .ok (.getfield 41, 3) := by decide +kernel
theorem dX12_readConds_114 : decode cX12_readConds 114 = .ok (.iload 4, 2) := by decide +kernel
theorem dX12_readConds_116 : decode cX12_readConds 116 = .ok (.iload_n 3, 1) := by decide +kernel
theorem dX12_readConds_117 : decode cX12_readConds 117 = .ok (.iastore, 1) := by decide +kernel
theorem dX12_readConds_118 : decode cX12_readConds 118 = .ok (.aload_n 0, 1) := by decide +kernel
theorem dX12_readConds_119 : decode cX12_readConds 119 = .ok (.getfield 44, 3) := by decide +kernel
theorem dX12_readConds_122 : decode cX12_readConds 122 = .ok (.iload 4, 2) := by decide +kernel
theorem dX12_readConds_124 : decode cX12_readConds 124 = .ok (.aload_n 0, 1) := by decide +kernel
theorem dX12_readConds_125 : decode cX12_readConds 125 = .ok (.getfield 124, 3) := by decide +kernel
theorem dX12_readConds_128 : decode cX12_readConds 128 = .ok (.iastore, 1) := by decide +kernel
theorem dX12_readConds_129 : decode cX12_readConds 129 = .ok (.aload_n 0, 1) := by decide +kernel
theorem dX12_readConds_130 : decode cX12_readConds 130 = .ok (.getfield 140, 3) := by decide +kernel
theorem dX12_readConds_133 : decode cX12_readConds 133 = .ok (.ifCond .ne 7, 3) := by decide +kernel
theorem dX12_readConds_136 : decode cX12_readConds 136 = .ok (.aload_n 0, 1) := by decide +kernel
theorem dX12_readConds_137 : decode cX12_readConds 137 = .ok (.invokevirtual 157, 3) := by decide +kernel
theorem dX12_readConds_140 : decode cX12_readConds 140 = .ok (.aload_n 0, 1) := by decide +kernel
theorem dX12_readConds_141 : decode cX12_readConds 141 = .ok (.getfield 47, 3) := by decide +kernel
theorem dX12_readConds_144 : decode cX12_readConds 144 = .ok (.iload 4, 2) := by decide +kernel
theorem dX12_readConds_146 : decode cX12_readConds 146 = .ok (.aload_n 0, 1) := by decide +kernel
theorem dX12_readConds_147 : decode cX12_readConds 147 = .ok (.getfield 140, 3) := by decide +kernel
theorem dX12_readConds_150 : decode cX12_readConds 150 = .ok (.ifCond .ne 13, 3) := by decide +kernel
theorem dX12_readConds_153 : decode cX12_readConds 153 = .ok (.aload_n 0, 1) := by decide +kernel
theorem dX12_readConds_154 : decode cX12_readConds 154 = .ok (.iconst 0, 1) := by decide +kernel
theorem dX12_readConds_155 : decode cX12_readConds 155 = .ok (.bipush 99, 2) := by decide +kernel
theorem dX12_readConds_157 : decode cX12_readConds 157 = .ok (.invokevirtual 180, 3) := by decide +kernel
theorem dX12_readConds_160 : decode cX12_readConds 160 = .ok (.goto 4, 3) := by decide +kernel
theorem dX12_readConds_163 : decode cX12_readConds 163 = .ok (.iconst 0, 1) := by decide +kernel
theorem dX12_readConds_164 : decode cX12_readConds 164 = .ok (.iastore, 1) := by decide +kernel
theorem dX12_readConds_165 : decode cX12_readConds 165 = .ok (.aload_n 0, 1) := by decide +kernel
theorem dX12_readConds_166 : decode cX12_readConds 166 = .ok (.getfield 38, 3) := by decide +kernel
theorem dX12_readConds_169 : decode cX12_readConds 169 = .ok (.iload_n 1, 1) := by decide +kernel
theorem dX12_readConds_170 : decode cX12_readConds 170 = .ok (.dup2, 1) := by decide +kernel
theorem dX12_readConds_171 : decode cX12_readConds 171 = .ok (.iaload, 1) := by decide +kernel
theorem dX12_readConds_172 : decode cX12_readConds 172 = .ok (.iconst 1, 1) := by decide +kernel
theorem dX12_readConds_173 : decode cX12_readConds 173 = .ok (.iadd, 1) := by decide +kernel
theorem dX12_readConds_174 : decode cX12_readConds 174 = .ok (.iastore, 1) := by decide +kernel
theorem dX12_readConds_175 : decode cX12_readConds 175 = .ok (.aload_n 0, 1) := by decide +kernel
theorem dX12_readConds_176 : decode cX12_readConds 176 = .ok (.bipush 38, 2) := by decide +kernel
theorem dX12_readConds_178 : decode cX12_readConds 178 = .ok (.invokevirtual 150, 3) := by decide +kernel
theorem dX12_readConds_181 : decode cX12_readConds 181 = .ok (.istore_n 2, 1) := by decide +kernel
theorem dX12_readConds_182 : decode cX12_readConds 182 = .ok (.iload_n 2, 1) := by decide +kernel
theorem dX12_readConds_183 : decode cX12_readConds 183 = .ok (.ifCond .eq 14, 3) := by decide +kernel
theorem dX12_readConds_186 : decode cX12_readConds 186 = .ok (.aload_n 0, 1) := by decide +kernel
theorem dX12_readConds_187 : decode cX12_readConds 187 = .ok (.getfield 140, 3) := by decide +kernel
theorem dX12_readConds_190 : decode cX12_readConds 190 = .ok (.ifCond .ne 7, 3) := by decide +kernel
theorem dX12_readConds_193 : decode cX12_readConds 193 = .ok (.aload_n 0, 1) := by decide +kernel
theorem dX12_readConds_194 : decode cX12_readConds 194 = .ok (.invokevirtual 157, 3) := by decide +kernel
theorem dX12_readConds_197 : decode cX12_readConds 197 = .ok (.goto (-188), 3) := by decide +kernel
theorem dX12_readConds_200 : decode cX12_readConds 200 = .ok (.return_, 1) := by decide +kernel
theorem dX12_readEffects_0 : decode cX12_readEffects 0 = .ok (.aload_n 0, 1) := by decide +kernel
theorem dX12_readEffects_1 : decode cX12_readEffects 1 = .ok (.getfield 50, 3) := by decide +kernel
theorem dX12_readEffects_4 : decode cX12_readEffects 4 = .ok (.iload_n 1, 1) := by decide +kernel
theorem dX12_readEffects_5 : decode cX12_readEffects 5 = .ok (.iconst 0, 1) := by decide +kernel
theorem dX12_readEffects_6 : decode cX12_readEffects 6 = .ok (.iastore, 1) := by decide +kernel
theorem dX12_readEffects_7 : decode cX12_readEffects 7 = .ok (.iconst 1, 1) := by decide +kernel
theorem dX12_readEffects_8 : decode cX12_readEffects 8 = .ok (.istore_n 2, 1) := by decide +kernel
theorem dX12_readEffects_9 : decode cX12_readEffects 9 = .ok (.iload_n 2, 1) := by decide +kernel
theorem dX12_readEffects_10 : decode cX12_readEffects 10 = .ok (.ifCond .eq 190, 3) := by decide +kernel
theorem dX12_readEffects_13 : decode cX12_readEffects 13 = .ok (.aload_n 0, 1) := by decide +kernel
theorem dX12_readEffects_14 : decode cX12_readEffects 14 = .ok (.getfield 140, 3) := by decide +kernel
theorem dX12_readEffects_17 : decode cX12_readEffects 17 = .ok (.ifCond .ne 183, 3) := by decide +kernel
theorem dX12_readEffects_20 : decode cX12_readEffects 20 = .ok (.aload_n 0, 1) := by decide +kernel
theorem dX12_readEffects_21 : decode cX12_readEffects 21 = .ok (.invokevirtual 188, 3) := by decide +kernel
theorem dX12_readEffects_24 : decode cX12_readEffects 24 = .ok (.istore_n 3, 1) := by decide +kernel
theorem dX12_readEffects_25 : decode cX12_readEffects 25 = .ok (.aload_n 0, 1) := by decide +kernel
theorem dX12_readEffects_26 : decode cX12_readEffects 26 = .ok (.getfield 140, 3) := by decide +kernel
theorem dX12_readEffects_29 : decode cX12_readEffects 29 = .ok (.ifCond .ne 22, 3) := by decide +kernel
theorem dX12_readEffects_32 : decode cX12_readEffects 32 = .ok (.aload_n 0, 1) := by decide +kernel
theorem dX12_readEffects_33 : decode cX12_readEffects 33 = .ok (.getfield 50, 3) := by decide +kernel
theorem dX12_readEffects_36 : decode cX12_readEffects 36 = .ok (.iload_n 1, 1) := by decide +kernel
theorem dX12_readEffects_37 : decode cX12_readEffects 37 = .ok (.iaload, 1) := by decide +kernel
theorem dX12_readEffects_38 : decode cX12_readEffects 38 = .ok (.iconst 3, 1) := by decide +kernel
theorem dX12_readEffects_39 : decode cX12_readEffects 39 = .ok (.if_icmp .ne 12, 3) := by decide +kernel
theorem dX12_readEffects_42 : decode cX12_readEffects 42 = .ok (.aload_n 0, 1) := by decide +kernel
theorem dX12_readEffects_43 : decode cX12_readEffects 43 = .ok (.iconst 4, 1) := by decide +kernel
theorem dX12_readEffects_44 : decode cX12_readEffects 44 = .ok (.aload_n 0, 1) := by decide +kernel
theorem dX12_readEffects_45 : decode cX12_readEffects 45 = .ok (.getfield 121, 3) := by decide +kernel
theorem dX12_readEffects_48 : decode cX12_readEffects 48 = .ok (.invokevirtual 146, 3) := by decide +kernel
theorem dX12_readEffects_51 : decode cX12_readEffects 51 = .ok (.aload_n 0, 1) := by decide +kernel
theorem dX12_readEffects_52 : decode cX12_readEffects 52 = .ok (.getfield 140, 3) := by decide +kernel
theorem dX12_readEffects_55 : decode cX12_readEffects 55 = .ok (.ifCond .ne 142, 3) := by decide +kernel
theorem dX12_readEffects_58 : decode cX12_readEffects 58 = .ok (.aload_n 0, 1) := by decide +kernel
theorem dX12_readEffects_59 : decode cX12_readEffects 59 = .ok (.invokevirtual 157, 3) := by decide +kernel
theorem dX12_readEffects_62 : decode cX12_readEffects 62 = .ok (.aload_n 0, 1) := by decide +kernel
theorem dX12_readEffects_63 : decode cX12_readEffects 63 = .ok (.aload_n 0, 1) := by decide +kernel
theorem dX12_readEffects_64 : decode cX12_readEffects 64 = .ok (.bipush 61, 2) := by decide +kernel
theorem dX12_readEffects_66 : decode cX12_readEffects 66 = .ok (.invokevirtual 150, 3) := by decide +kernel
theorem dX12_readEffects_69 : decode cX12_readEffects 69 = .ok (.ifCond .ne 21, 3) := by decide +kernel
theorem dX12_readEffects_72 : decode cX12_readEffects 72 = .ok (.aload_n 0, 1) := by decide +kernel
theorem dX12_readEffects_73 : decode cX12_readEffects 73 = .ok (.bipush 43, 2) := by decide +kernel
theorem dX12_readEffects_75 : decode cX12_readEffects 75 = .ok (.invokevirtual 150, 3) := by decide +kernel
theorem dX12_readEffects_78 : decode cX12_readEffects 78 = .ok (.ifCond .ne 12, 3) := by decide +kernel
theorem dX12_readEffects_81 : decode cX12_readEffects 81 = .ok (.aload_n 0, 1) := by decide +kernel
theorem dX12_readEffects_82 : decode cX12_readEffects 82 = .ok (.bipush 45, 2) := by decide +kernel
theorem dX12_readEffects_84 : decode cX12_readEffects 84 = .ok (.invokevirtual 150, 3) := by decide +kernel
theorem dX12_readEffects_87 : decode cX12_readEffects 87 = .ok (.ifCond .eq 7, 3) := by decide +kernel
theorem dX12_readEffects_90 : decode cX12_readEffects 90 = .ok (.iconst 1, 1) := by decide +kernel
theorem dX12_readEffects_91 : decode cX12_readEffects 91 = .ok (.goto 4, 3) := by decide +kernel
theorem dX12_readEffects_94 : decode cX12_readEffects 94 = .ok (.iconst 0, 1) := by decide +kernel
theorem dX12_readEffects_95 : decode cX12_readEffects 95 = .ok (.invokevirtual 153, 3) := by decide +kernel
theorem dX12_readEffects_98 : decode cX12_readEffects 98 = .ok (.iconst 3, 1) := by decide +kernel
theorem dX12_readEffects_99 : decode cX12_readEffects 99 = .ok (.iload_n 1, 1) := by decide +kernel
theorem dX12_readEffects_100 : decode cX12_readEffects 100 = .ok (.imul, 1) := by decide +kernel
theorem dX12_readEffects_101 : decode cX12_readEffects 101 = .ok (.aload_n 0, 1) := by decide +kernel
theorem dX12_readEffects_102 : decode cX12_readEffects 102 = .ok (.getfield 50, 3) := by decide +kernel
theorem dX12_readEffects_105 : decode cX12_readEffects 105 = .ok (.iload_n 1, 1) := by decide +kernel
theorem dX12_readEffects_106 : decode cX12_readEffects 106 = .ok (.iaload, 1) := by decide +kernel
theorem dX12_readEffects_107 : decode cX12_readEffects 107 = .ok (.iadd, 1) := by decide +kernel
theorem dX12_readEffects_108 : decode cX12_readEffects 108 = .ok (.istore 4, 2) := by decide +kernel
theorem dX12_readEffects_110 : decode cX12_readEffects 110 = .ok (.aload_n 0, 1) := by decide +kernel
theorem dX12_readEffects_111 : decode cX12_readEffects 111 = .ok (.getfield 53, 3) := by decide +kernel
theorem dX12_readEffects_114 : decode cX12_readEffects 114 = .ok (.iload 4, 2) := by decide +kernel
theorem dX12_readEffects_116 : decode cX12_readEffects 116 = .ok (.iload_n 3, 1) := by decide +kernel
theorem dX12_readEffects_117 : decode cX12_readEffects 117 = .ok (.iastore, 1) := by decide +kernel
theorem dX12_readEffects_118 : decode cX12_readEffects 118 = .ok (.aload_n 0, 1) := by decide +kernel
theorem dX12_readEffects_119 : decode cX12_readEffects 119 = .ok (.getfield 56, 3) := by decide +kernel
theorem dX12_readEffects_122 : decode cX12_readEffects 122 = .ok (.iload 4, 2) := by decide +kernel
theorem dX12_readEffects_124 : decode cX12_readEffects 124 = .ok (.aload_n 0, 1) := by decide +kernel
theorem dX12_readEffects_125 : decode cX12_readEffects 125 = .ok (.getfield 124, 3) := by decide +kernel
theorem dX12_readEffects_128 : decode cX12_readEffects 128 = .ok (.iastore, 1) := by decide +kernel
theorem dX12_readEffects_129 : decode cX12_readEffects 129 = .ok (.aload_n 0, 1) := by decide +kernel
theorem dX12_readEffects_130 : decode cX12_readEffects 130 = .ok (.getfield 140, 3) := by decide +kernel
theorem dX12_readEffects_133 : decode cX12_readEffects 133 = .ok (.ifCond .ne 7, 3) := by decide +kernel
theorem dX12_readEffects_136 : decode cX12_readEffects 136 = .ok (.aload_n 0, 1) := by decide +kernel
theorem dX12_readEffects_137 : decode cX12_readEffects 137 = .ok (.invokevirtual 157, 3) := by decide +kernel
theorem dX12_readEffects_140 : decode cX12_readEffects 140 = .ok (.aload_n 0, 1) := by decide +kernel
theorem dX12_readEffects_141 : decode cX12_readEffects 141 = .ok (.getfield 59, 3) := by decide +kernel
theorem dX12_readEffects_144 : decode cX12_readEffects 144 = .ok (.iload 4, 2) := by decide +kernel
theorem dX12_readEffects_146 : decode cX12_readEffects 146 = .ok (.aload_n 0, 1) := by decide +kernel
theorem dX12_readEffects_147 : decode cX12_readEffects 147 = .ok (.getfield 140, 3) := by decide +kernel
theorem dX12_readEffects_150 : decode cX12_readEffects 150 = .ok (.ifCond .ne 13, 3) := by decide +kernel
theorem dX12_readEffects_153 : decode cX12_readEffects 153 = .ok (.aload_n 0, 1) := by decide +kernel
theorem dX12_readEffects_154 : decode cX12_readEffects 154 = .ok (.iconst 0, 1) := by decide +kernel
theorem dX12_readEffects_155 : decode cX12_readEffects 155 = .ok (.bipush 99, 2) := by decide +kernel
theorem dX12_readEffects_157 : decode cX12_readEffects 157 = .ok (.invokevirtual 180, 3) := by decide +kernel
theorem dX12_readEffects_160 : decode cX12_readEffects 160 = .ok (.goto 4, 3) := by decide +kernel
theorem dX12_readEffects_163 : decode cX12_readEffects 163 = .ok (.iconst 0, 1) := by decide +kernel
theorem dX12_readEffects_164 : decode cX12_readEffects 164 = .ok (.iastore, 1) := by decide +kernel
theorem dX12_readEffects_165 : decode cX12_readEffects 165 = .ok (.aload_n 0, 1) := by decide +kernel
theorem dX12_readEffects_166 : decode cX12_readEffects 166 = .ok (.getfield 50, 3) := by decide +kernel
theorem dX12_readEffects_169 : decode cX12_readEffects 169 = .ok (.iload_n 1, 1) := by decide +kernel
theorem dX12_readEffects_170 : decode cX12_readEffects 170 = .ok (.dup2, 1) := by decide +kernel
theorem dX12_readEffects_171 : decode cX12_readEffects 171 = .ok (.iaload, 1) := by decide +kernel
theorem dX12_readEffects_172 : decode cX12_readEffects 172 = .ok (.iconst 1, 1) := by decide +kernel
theorem dX12_readEffects_173 : decode cX12_readEffects 173 = .ok (.iadd, 1) := by decide +kernel
theorem dX12_readEffects_174 : decode cX12_readEffects 174 = .ok (.iastore, 1) := by decide +kernel
theorem dX12_readEffects_175 : decode cX12_readEffects 175 = .ok (.aload_n 0, 1) := by decide +kernel
theorem dX12_readEffects_176 : decode cX12_readEffects 176 = .ok (.bipush 44, 2) := by decide +kernel
theorem dX12_readEffects_178 : decode cX12_readEffects 178 = .ok (.invokevirtual 150, 3) := by decide +kernel
theorem dX12_readEffects_181 : decode cX12_readEffects 181 = .ok (.istore_n 2, 1) := by decide +kernel
theorem dX12_readEffects_182 : decode cX12_readEffects 182 = .ok (.iload_n 2, 1) := by decide +kernel
theorem dX12_readEffects_183 : decode cX12_readEffects 183 = .ok (.ifCond .eq 14, 3) := by decide +kernel
theorem dX12_readEffects_186 : decode cX12_readEffects 186 = .ok (.aload_n 0, 1) := by decide +kernel
theorem dX12_readEffects_187 : decode cX12_readEffects 187 = .ok (.getfield 140, 3) := by decide +kernel
theorem dX12_readEffects_190 : decode cX12_readEffects 190 = .ok (.ifCond .ne 7, 3) := by decide +kernel
theorem dX12_readEffects_193 : decode cX12_readEffects 193 = .ok (.aload_n 0, 1) := by decide +kernel
theorem dX12_readEffects_194 : decode cX12_readEffects 194 = .ok (.invokevirtual 157, 3) := by decide +kernel
theorem dX12_readEffects_197 : decode cX12_readEffects 197 = .ok (.goto (-188), 3) := by decide +kernel
theorem dX12_readEffects_200 : decode cX12_readEffects 200 = .ok (.return_, 1) := by decide +kernel
theorem dX12_readRule_0 : decode cX12_readRule 0 = .ok (.aload_n 0, 1) := by decide +kernel
theorem dX12_readRule_1 : decode cX12_readRule 1 = .ok (.getfield 29, 3) := by decide +kernel
theorem dX12_readRule_4 : decode cX12_readRule 4 = .ok (.aload_n 0, 1) := by decide +kernel
theorem dX12_readRule_5 : decode cX12_readRule 5 = .ok (.getfield 164, 3) := by decide +kernel
theorem dX12_readRule_8 : decode cX12_readRule 8 = .ok (.iaload, 1) := by decide +kernel
theorem dX12_readRule_9 : decode cX12_readRule 9 = .ok (.bipush 12, 2) := by decide +kernel
theorem dX12_readRule_11 : decode cX12_readRule 11 = .ok (.if_icmp .ne 13, 3) := by decide +kernel
theorem dX12_readRule_14 : decode cX12_readRule 14 = .ok (.aload_n 0, 1) := by decide +kernel
theorem dX12_readRule_15 : decode cX12_readRule 15 = .ok (.iconst 4, 1) := by decide +kernel
theorem dX12_readRule_16 : decode cX12_readRule 16 = .ok (.aload_n 0, 1) := by decide +kernel
theorem dX12_readRule_17 : decode cX12_readRule 17 = .ok (.getfield 121, 3) := by decide +kernel
theorem dX12_readRule_20 : decode cX12_readRule 20 = .ok (.invokevirtual 146, 3) := by decide +kernel
theorem dX12_readRule_23 : decode cX12_readRule 23 = .ok (.return_, 1) := by decide +kernel
theorem dX12_readRule_24 : decode cX12_readRule 24 = .ok (.aload_n 0, 1) := by decide +kernel
theorem dX12_readRule_25 : decode cX12_readRule 25 = .ok (.invokevirtual 157, 3) := by decide +kernel
theorem dX12_readRule_28 : decode cX12_readRule 28 = .ok (.bipush 12, 2) := by decide +kernel
theorem dX12_readRule_30 : decode cX12_readRule 30 = .ok (.aload_n 0, 1) := by decide +kernel
theorem dX12_readRule_31 : decode cX12_readRule 31 = .ok (.getfield 164, 3) := by decide +kernel
theorem dX12_readRule_34 : decode cX12_readRule 34 = .ok (.imul, 1) := by decide +kernel
theorem dX12_readRule_35 : decode cX12_readRule 35 = .ok (.aload_n 0, 1) := by decide +kernel
theorem dX12_readRule_36 : decode cX12_readRule 36 = .ok (.getfield 29, 3) := by decide +kernel
theorem dX12_readRule_39 : decode cX12_readRule 39 = .ok (.aload_n 0, 1) := by decide +kernel
theorem dX12_readRule_40 : decode cX12_readRule 40 = .ok (.getfield 164, 3) := by decide +kernel
theorem dX12_readRule_43 : decode cX12_readRule 43 = .ok (.iaload, 1) := by decide +kernel
theorem dX12_readRule_44 : decode cX12_readRule 44 = .ok (.iadd, 1) := by decide +kernel
theorem dX12_readRule_45 : decode cX12_readRule 45 = .ok (.istore_n 1, 1) := by decide +kernel
theorem dX12_readRule_46 : decode cX12_readRule 46 = .ok (.aload_n 0, 1) := by decide +kernel
theorem dX12_readRule_47 : decode cX12_readRule 47 = .ok (.getfield 32, 3) := by decide +kernel
theorem dX12_readRule_50 : decode cX12_readRule 50 = .ok (.iload_n 1, 1) := by decide +kernel
theorem dX12_readRule_51 : decode cX12_readRule 51 = .ok (.aload_n 0, 1) := by decide +kernel
theorem dX12_readRule_52 : decode cX12_readRule 52 = .ok (.iconst 1, 1) := by decide +kernel
theorem dX12_readRule_53 : decode cX12_readRule 53 = .ok (.aload_n 0, 1) := by decide +kernel
theorem dX12_readRule_54 : decode cX12_readRule 54 = .ok (.getfield 13, 3) := by decide +kernel
theorem dX12_readRule_57 : decode cX12_readRule 57 = .ok (.aload_n 0, 1) := by decide +kernel
theorem dX12_readRule_58 : decode cX12_readRule 58 = .ok (.getfield 164, 3) := by decide +kernel
theorem dX12_readRule_61 : decode cX12_readRule 61 = .ok (.iaload, 1) := by decide +kernel
theorem dX12_readRule_62 : decode cX12_readRule 62 = .ok (.invokevirtual 180, 3) := by decide +kernel
theorem dX12_readRule_65 : decode cX12_readRule 65 = .ok (.iastore, 1) := by decide +kernel
theorem dX12_readRule_66 : decode cX12_readRule 66 = .ok (.aload_n 0, 1) := by decide +kernel
theorem dX12_readRule_67 : decode cX12_readRule 67 = .ok (.bipush 58, 2) := by decide +kernel
theorem dX12_readRule_69 : decode cX12_readRule 69 = .ok (.invokevirtual 184, 3) := by decide +kernel
theorem dX12_readRule_72 : decode cX12_readRule 72 = .ok (.aload_n 0, 1) := by decide +kernel
theorem dX12_readRule_73 : decode cX12_readRule 73 = .ok (.getfield 38, 3) := by decide +kernel
theorem dX12_readRule_76 : decode cX12_readRule 76 = .ok (.bipush 16, 2) := by decide +kernel
theorem dX12_readRule_78 : decode cX12_readRule 78 = .ok (.aload_n 0, 1) := by decide +kernel
theorem dX12_readRule_79 : decode cX12_readRule 79 = .ok (.getfield 164, 3) := by decide +kernel
theorem dX12_readRule_82 : decode cX12_readRule 82 = .ok (.imul, 1) := by decide +kernel
theorem dX12_readRule_83 : decode cX12_readRule 83 = .ok (.aload_n 0, 1) := by decide +kernel
theorem dX12_readRule_84 : decode cX12_readRule 84 = .ok (.getfield 29, 3) := by decide +kernel
theorem dX12_readRule_87 : decode cX12_readRule 87 = .ok (.aload_n 0, 1) := by decide +kernel
theorem dX12_readRule_88 : decode cX12_readRule 88 = .ok (.getfield 164, 3) := by decide +kernel
theorem dX12_readRule_91 : decode cX12_readRule 91 = .ok (.iaload, 1) := by decide +kernel
theorem dX12_readRule_92 : decode cX12_readRule 92 = .ok (.iadd, 1) := by decide +kernel
theorem dX12_readRule_93 : decode cX12_readRule 93 = .ok (.iconst 0, 1) := by decide +kernel
theorem dX12_readRule_94 : decode cX12_readRule 94 = .ok (.iastore, 1) := by decide +kernel
theorem dX12_readRule_95 : decode cX12_readRule 95 = .ok (.aload_n 0, 1) := by decide +kernel
theorem dX12_readRule_96 : decode cX12_readRule 96 = .ok (.getfield 140, 3) := by decide +kernel
theorem dX12_readRule_99 : decode cX12_readRule 99 = .ok (.ifCond .ne 34, 3) := by decide +kernel
theorem dX12_readRule_102 : decode cX12_readRule 102 = .ok (.aload_n 0, 1) := by decide +kernel
theorem dX12_readRule_103 : decode cX12_readRule 103 = .ok (.sipush 256, 3) := by decide +kernel
theorem dX12_readRule_106 : decode cX12_readRule 106 = .ok (.invokevirtual 150, 3) := by decide +kernel
theorem dX12_readRule_109 : decode cX12_readRule 109 = .ok (.ifCond .ne 24, 3) := by decide +kernel
theorem dX12_readRule_112 : decode cX12_readRule 112 = .ok (.aload_n 0, 1) := by decide +kernel
theorem dX12_readRule_113 : decode cX12_readRule 113 = .ok (.bipush 16, 2) := by decide +kernel
theorem dX12_readRule_115 : decode cX12_readRule 115 = .ok (.aload_n 0, 1) := by decide +kernel
theorem dX12_readRule_116 : decode cX12_readRule 116 = .ok (.getfield 164, 3) := by decide +kernel
theorem dX12_readRule_119 : decode cX12_readRule 119 = .ok (.imul, 1) := by decide +kernel
theorem dX12_readRule_120 : decode cX12_readRule 120 = .ok (.aload_n 0, 1) := by decide +kernel
theorem dX12_readRule_121 : decode cX12_readRule 121 = .ok (.getfield 29, 3) := by decide +kernel
theorem dX12_readRule_124 : decode cX12_readRule 124 = .ok (.aload_n 0, 1) := by decide +kernel
theorem dX12_readRule_125 : decode cX12_readRule 125 = .ok (.getfield 164, 3) := by decide +kernel
theorem dX12_readRule_128 : decode cX12_readRule 128 = .ok (.iaload, 1) := by decide +kernel
theorem dX12_readRule_129 : decode cX12_readRule 129 = .ok (.iadd, 1) := by decide +kernel
theorem dX12_readRule_130 : decode cX12_readRule 130 = .ok (.invokevirtual 191, 3) := by decide +kernel
theorem dX12_readRule_133 : decode cX12_readRule 133 = .ok (.aload_n 0, 1) := by decide +kernel
theorem dX12_readRule_134 : decode cX12_readRule 134 = .ok (.sipush 256, 3) := by decide +kernel
theorem dX12_readRule_137 : decode cX12_readRule 137 = .ok (.invokevirtual 184, 3) := by decide +kernel
theorem dX12_readRule_140 : decode cX12_readRule 140 = .ok (.aload_n 0, 1) := by decide +kernel
theorem dX12_readRule_141 : decode cX12_readRule 141 = .ok (.getfield 140, 3) := by decide +kernel
theorem dX12_readRule_144 : decode cX12_readRule 144 = .ok (.ifCond .ne 8, 3) := by decide +kernel
theorem dX12_readRule_147 : decode cX12_readRule 147 = .ok (.aload_n 0, 1) := by decide +kernel
theorem dX12_readRule_148 : decode cX12_readRule 148 = .ok (.iload_n 1, 1) := by decide +kernel
theorem dX12_readRule_149 : decode cX12_readRule 149 = .ok (.invokevirtual 194, 3) := by decide +kernel
theorem dX12_readRule_152 : decode cX12_readRule 152 = .ok (.aload_n 0, 1) := by decide +kernel
theorem dX12_readRule_153 : decode cX12_readRule 153 = .ok (.bipush 59, 2) := by decide +kernel
theorem dX12_readRule_155 : decode cX12_readRule 155 = .ok (.invokevirtual 184, 3) := by decide +kernel
theorem dX12_readRule_158 : decode cX12_readRule 158 = .ok (.aload_n 0, 1) := by decide +kernel
theorem dX12_readRule_159 : decode cX12_readRule 159 = .ok (.getfield 29, 3) := by decide +kernel
theorem dX12_readRule_162 : decode cX12_readRule 162 = .ok (.aload_n 0, 1) := by decide +kernel
theorem dX12_readRule_163 : decode cX12_readRule 163 = .ok (.getfield 164, 3) := by decide +kernel
theorem dX12_readRule_166 : decode cX12_readRule 166 = .ok (.dup2, 1) := by decide +kernel
theorem dX12_readRule_167 : decode cX12_readRule 167 = .ok (.iaload, 1) := by decide +kernel
theorem dX12_readRule_168 : decode cX12_readRule 168 = .ok (.iconst 1, 1) := by decide +kernel
theorem dX12_readRule_169 : decode cX12_readRule 169 = .ok (.iadd, 1) := by decide +kernel
theorem dX12_readRule_170 : decode cX12_readRule 170 = .ok (.iastore, 1) := by decide +kernel
theorem dX12_readRule_171 : decode cX12_readRule 171 = .ok (.return_, 1) := by decide +kernel
theorem dX12_readGoal_0 : decode cX12_readGoal 0 = .ok (.aload_n 0, 1) := by decide +kernel
theorem dX12_readGoal_1 : decode cX12_readGoal 1 = .ok (.getfield 35, 3) := by decide +kernel
theorem dX12_readGoal_4 : decode cX12_readGoal 4 = .ok (.aload_n 0, 1) := by decide +kernel
theorem dX12_readGoal_5 : decode cX12_readGoal 5 = .ok (.getfield 164, 3) := by decide +kernel
theorem dX12_readGoal_8 : decode cX12_readGoal 8 = .ok (.iaload, 1) := by decide +kernel
theorem dX12_readGoal_9 : decode cX12_readGoal 9 = .ok (.iconst 4, 1) := by decide +kernel
theorem dX12_readGoal_10 : decode cX12_readGoal 10 = .ok (.if_icmp .ne 13, 3) := by decide +kernel
theorem dX12_readGoal_13 : decode cX12_readGoal 13 = .ok (.aload_n 0, 1) := by decide +kernel
theorem dX12_readGoal_14 : decode cX12_readGoal 14 = .ok (.iconst 4, 1) := by decide +kernel
theorem dX12_readGoal_15 : decode cX12_readGoal 15 = .ok (.aload_n 0, 1) := by decide +kernel
theorem dX12_readGoal_16 : decode cX12_readGoal 16 = .ok (.getfield 121, 3) := by decide +kernel
theorem dX12_readGoal_19 : decode cX12_readGoal 19 = .ok (.invokevirtual 146, 3) := by decide +kernel
theorem dX12_readGoal_22 : decode cX12_readGoal 22 = .ok (.return_, 1) := by decide +kernel
theorem dX12_readGoal_23 : decode cX12_readGoal 23 = .ok (.aload_n 0, 1) := by decide +kernel
theorem dX12_readGoal_24 : decode cX12_readGoal 24 = .ok (.invokevirtual 157, 3) := by decide +kernel
theorem dX12_readGoal_27 : decode cX12_readGoal 27 = .ok (.aload_n 0, 1) := by decide +kernel
theorem dX12_readGoal_28 : decode cX12_readGoal 28 = .ok (.bipush 16, 2) := by decide +kernel
theorem dX12_readGoal_30 : decode cX12_readGoal 30 = .ok (.aload_n 0, 1) := by decide +kernel
theorem dX12_readGoal_31 : decode cX12_readGoal 31 = .ok (.getfield 164, 3) := by decide +kernel
theorem dX12_readGoal_34 : decode cX12_readGoal 34 = .ok (.imul, 1) := by decide +kernel
theorem dX12_readGoal_35 : decode cX12_readGoal 35 = .ok (.bipush 12, 2) := by decide +kernel
theorem dX12_readGoal_37 : decode cX12_readGoal 37 = .ok (.iadd, 1) := by decide +kernel
theorem dX12_readGoal_38 : decode cX12_readGoal 38 = .ok (.aload_n 0, 1) := by decide +kernel
theorem dX12_readGoal_39 : decode cX12_readGoal 39 = .ok (.getfield 35, 3) := by decide +kernel
theorem dX12_readGoal_42 : decode cX12_readGoal 42 = .ok (.aload_n 0, 1) := by decide +kernel
theorem dX12_readGoal_43 : decode cX12_readGoal 43 = .ok (.getfield 164, 3) := by decide +kernel
theorem dX12_readGoal_46 : decode cX12_readGoal 46 = .ok (.iaload, 1) := by decide +kernel
theorem dX12_readGoal_47 : decode cX12_readGoal 47 = .ok (.iadd, 1) := by decide +kernel
theorem dX12_readGoal_48 : decode cX12_readGoal 48 = .ok (.invokevirtual 191, 3) := by decide +kernel
theorem dX12_readGoal_51 : decode cX12_readGoal 51 = .ok (.aload_n 0, 1) := by decide +kernel
theorem dX12_readGoal_52 : decode cX12_readGoal 52 = .ok (.bipush 59, 2) := by decide +kernel
theorem dX12_readGoal_54 : decode cX12_readGoal 54 = .ok (.invokevirtual 184, 3) := by decide +kernel
theorem dX12_readGoal_57 : decode cX12_readGoal 57 = .ok (.aload_n 0, 1) := by decide +kernel
theorem dX12_readGoal_58 : decode cX12_readGoal 58 = .ok (.getfield 35, 3) := by decide +kernel
theorem dX12_readGoal_61 : decode cX12_readGoal 61 = .ok (.aload_n 0, 1) := by decide +kernel
theorem dX12_readGoal_62 : decode cX12_readGoal 62 = .ok (.getfield 164, 3) := by decide +kernel
theorem dX12_readGoal_65 : decode cX12_readGoal 65 = .ok (.dup2, 1) := by decide +kernel
theorem dX12_readGoal_66 : decode cX12_readGoal 66 = .ok (.iaload, 1) := by decide +kernel
theorem dX12_readGoal_67 : decode cX12_readGoal 67 = .ok (.iconst 1, 1) := by decide +kernel
theorem dX12_readGoal_68 : decode cX12_readGoal 68 = .ok (.iadd, 1) := by decide +kernel
theorem dX12_readGoal_69 : decode cX12_readGoal 69 = .ok (.iastore, 1) := by decide +kernel
theorem dX12_readGoal_70 : decode cX12_readGoal 70 = .ok (.return_, 1) := by decide +kernel
theorem dX12_model_0 : decode cX12_model 0 = .ok (.aload_n 0, 1) := by decide +kernel
theorem dX12_model_1 : decode cX12_model 1 = .ok (.iconst 0, 1) := by decide +kernel
theorem dX12_model_2 : decode cX12_model 2 = .ok (.putfield 97, 3) := by decide +kernel
theorem dX12_model_5 : decode cX12_model 5 = .ok (.aload_n 0, 1) := by decide +kernel
theorem dX12_model_6 : decode cX12_model 6 = .ok (.aload_n 0, 1) := by decide +kernel
theorem dX12_model_7 : decode cX12_model 7 = .ok (.getfield 106, 3) := by decide +kernel
theorem dX12_model_10 : decode cX12_model 10 = .ok (.putfield 111, 3) := by decide +kernel
theorem dX12_model_13 : decode cX12_model 13 = .ok (.aload_n 0, 1) := by decide +kernel
theorem dX12_model_14 : decode cX12_model 14 = .ok (.iconst 0, 1) := by decide +kernel
theorem dX12_model_15 : decode cX12_model 15 = .ok (.putfield 106, 3) := by decide +kernel
theorem dX12_model_18 : decode cX12_model 18 = .ok (.aload_n 0, 1) := by decide +kernel
theorem dX12_model_19 : decode cX12_model 19 = .ok (.iconst 0, 1) := by decide +kernel
theorem dX12_model_20 : decode cX12_model 20 = .ok (.putfield 114, 3) := by decide +kernel
theorem dX12_model_23 : decode cX12_model 23 = .ok (.aload_n 0, 1) := by decide +kernel
theorem dX12_model_24 : decode cX12_model 24 = .ok (.iconst 0, 1) := by decide +kernel
theorem dX12_model_25 : decode cX12_model 25 = .ok (.putfield 140, 3) := by decide +kernel
theorem dX12_model_28 : decode cX12_model 28 = .ok (.aload_n 0, 1) := by decide +kernel
theorem dX12_model_29 : decode cX12_model 29 = .ok (.iconst 1, 1) := by decide +kernel
theorem dX12_model_30 : decode cX12_model 30 = .ok (.aload_n 0, 1) := by decide +kernel
theorem dX12_model_31 : decode cX12_model 31 = .ok (.getfield 197, 3) := by decide +kernel
theorem dX12_model_34 : decode cX12_model 34 = .ok (.isub, 1) := by decide +kernel
theorem dX12_model_35 : decode cX12_model 35 = .ok (.putfield 164, 3) := by decide +kernel
theorem dX12_model_38 : decode cX12_model 38 = .ok (.aload_n 0, 1) := by decide +kernel
theorem dX12_model_39 : decode cX12_model 39 = .ok (.getfield 16, 3) := by decide +kernel
theorem dX12_model_42 : decode cX12_model 42 = .ok (.aload_n 0, 1) := by decide +kernel
theorem dX12_model_43 : decode cX12_model 43 = .ok (.getfield 164, 3) := by decide +kernel
theorem dX12_model_46 : decode cX12_model 46 = .ok (.iconst 0, 1) := by decide +kernel
theorem dX12_model_47 : decode cX12_model 47 = .ok (.iastore, 1) := by decide +kernel
theorem dX12_model_48 : decode cX12_model 48 = .ok (.aload_n 0, 1) := by decide +kernel
theorem dX12_model_49 : decode cX12_model 49 = .ok (.getfield 29, 3) := by decide +kernel
theorem dX12_model_52 : decode cX12_model 52 = .ok (.aload_n 0, 1) := by decide +kernel
theorem dX12_model_53 : decode cX12_model 53 = .ok (.getfield 164, 3) := by decide +kernel
theorem dX12_model_56 : decode cX12_model 56 = .ok (.iconst 0, 1) := by decide +kernel
theorem dX12_model_57 : decode cX12_model 57 = .ok (.iastore, 1) := by decide +kernel
theorem dX12_model_58 : decode cX12_model 58 = .ok (.aload_n 0, 1) := by decide +kernel
theorem dX12_model_59 : decode cX12_model 59 = .ok (.getfield 35, 3) := by decide +kernel
theorem dX12_model_62 : decode cX12_model 62 = .ok (.aload_n 0, 1) := by decide +kernel
theorem dX12_model_63 : decode cX12_model 63 = .ok (.getfield 164, 3) := by decide +kernel
theorem dX12_model_66 : decode cX12_model 66 = .ok (.iconst 0, 1) := by decide +kernel
theorem dX12_model_67 : decode cX12_model 67 = .ok (.iastore, 1) := by decide +kernel
theorem dX12_model_68 : decode cX12_model 68 = .ok (.aload_n 0, 1) := by decide +kernel
theorem dX12_model_69 : decode cX12_model 69 = .ok (.invokevirtual 157, 3) := by decide +kernel
theorem dX12_model_72 : decode cX12_model 72 = .ok (.aload_n 0, 1) := by decide +kernel
theorem dX12_model_73 : decode cX12_model 73 = .ok (.aload_n 0, 1) := by decide +kernel
theorem dX12_model_74 : decode cX12_model 74 = .ok (.invokevirtual 167, 3) := by decide +kernel
theorem dX12_model_77 : decode cX12_model 77 = .ok (.ldc2_w 200, 3) := by decide +kernel
theorem dX12_model_80 : decode cX12_model 80 = .ok (.lcmp, 1) := by decide +kernel
theorem dX12_model_81 : decode cX12_model 81 = .ok (.ifCond .ne 7, 3) := by decide +kernel
theorem dX12_model_84 : decode cX12_model 84 = .ok (.iconst 1, 1) := by decide +kernel
theorem dX12_model_85 : decode cX12_model 85 = .ok (.goto 4, 3) := by decide +kernel
theorem dX12_model_88 : decode cX12_model 88 = .ok (.iconst 0, 1) := by decide +kernel
theorem dX12_model_89 : decode cX12_model 89 = .ok (.invokevirtual 153, 3) := by decide +kernel
theorem dX12_model_92 : decode cX12_model 92 = .ok (.aload_n 0, 1) := by decide +kernel
theorem dX12_model_93 : decode cX12_model 93 = .ok (.getfield 140, 3) := by decide +kernel
theorem dX12_model_96 : decode cX12_model 96 = .ok (.ifCond .ne 7, 3) := by decide +kernel
theorem dX12_model_99 : decode cX12_model 99 = .ok (.aload_n 0, 1) := by decide +kernel
theorem dX12_model_100 : decode cX12_model 100 = .ok (.invokevirtual 157, 3) := by decide +kernel
theorem dX12_model_103 : decode cX12_model 103 = .ok (.aload_n 0, 1) := by decide +kernel
theorem dX12_model_104 : decode cX12_model 104 = .ok (.getfield 13, 3) := by decide +kernel
theorem dX12_model_107 : decode cX12_model 107 = .ok (.aload_n 0, 1) := by decide +kernel
theorem dX12_model_108 : decode cX12_model 108 = .ok (.getfield 164, 3) := by decide +kernel
theorem dX12_model_111 : decode cX12_model 111 = .ok (.aload_n 0, 1) := by decide +kernel
theorem dX12_model_112 : decode cX12_model 112 = .ok (.getfield 140, 3) := by decide +kernel
theorem dX12_model_115 : decode cX12_model 115 = .ok (.ifCond .ne 13, 3) := by decide +kernel
theorem dX12_model_118 : decode cX12_model 118 = .ok (.aload_n 0, 1) := by decide +kernel
theorem dX12_model_119 : decode cX12_model 119 = .ok (.iconst 1, 1) := by decide +kernel
theorem dX12_model_120 : decode cX12_model 120 = .ok (.bipush 20, 2) := by decide +kernel
theorem dX12_model_122 : decode cX12_model 122 = .ok (.invokevirtual 180, 3) := by decide +kernel
theorem dX12_model_125 : decode cX12_model 125 = .ok (.goto 4, 3) := by decide +kernel
theorem dX12_model_128 : decode cX12_model 128 = .ok (.iconst 0, 1) := by decide +kernel
theorem dX12_model_129 : decode cX12_model 129 = .ok (.iastore, 1) := by decide +kernel
theorem dX12_model_130 : decode cX12_model 130 = .ok (.aload_n 0, 1) := by decide +kernel
theorem dX12_model_131 : decode cX12_model 131 = .ok (.bipush 59, 2) := by decide +kernel
theorem dX12_model_133 : decode cX12_model 133 = .ok (.invokevirtual 184, 3) := by decide +kernel
theorem dX12_model_136 : decode cX12_model 136 = .ok (.aload_n 0, 1) := by decide +kernel
theorem dX12_model_137 : decode cX12_model 137 = .ok (.getfield 140, 3) := by decide +kernel
theorem dX12_model_140 : decode cX12_model 140 = .ok (.ifCond .ne 21, 3) := by decide +kernel
theorem dX12_model_143 : decode cX12_model 143 = .ok (.aload_n 0, 1) := by decide +kernel
theorem dX12_model_144 : decode cX12_model 144 = .ok (.invokevirtual 167, 3) := by decide +kernel
theorem dX12_model_147 : decode cX12_model 147 = .ok (.ldc2_w 202, 3) := by decide +kernel
theorem dX12_model_150 : decode cX12_model 150 = .ok (.lcmp, 1) := by decide +kernel
theorem dX12_model_151 : decode cX12_model 151 = .ok (.ifCond .ne 10, 3) := by decide +kernel
theorem dX12_model_154 : decode cX12_model 154 = .ok (.aload_n 0, 1) := by decide +kernel
theorem dX12_model_155 : decode cX12_model 155 = .ok (.invokevirtual 204, 3) := by decide +kernel
theorem dX12_model_158 : decode cX12_model 158 = .ok (.goto (-22), 3) := by decide +kernel
theorem dX12_model_161 : decode cX12_model 161 = .ok (.aload_n 0, 1) := by decide +kernel
theorem dX12_model_162 : decode cX12_model 162 = .ok (.getfield 140, 3) := by decide +kernel
theorem dX12_model_165 : decode cX12_model 165 = .ok (.ifCond .ne 21, 3) := by decide +kernel
theorem dX12_model_168 : decode cX12_model 168 = .ok (.aload_n 0, 1) := by decide +kernel
theorem dX12_model_169 : decode cX12_model 169 = .ok (.invokevirtual 167, 3) := by decide +kernel
theorem dX12_model_172 : decode cX12_model 172 = .ok (.ldc2_w 207, 3) := by decide +kernel
theorem dX12_model_175 : decode cX12_model 175 = .ok (.lcmp, 1) := by decide +kernel
theorem dX12_model_176 : decode cX12_model 176 = .ok (.ifCond .ne 10, 3) := by decide +kernel
theorem dX12_model_179 : decode cX12_model 179 = .ok (.aload_n 0, 1) := by decide +kernel
theorem dX12_model_180 : decode cX12_model 180 = .ok (.invokevirtual 209, 3) := by decide +kernel
theorem dX12_model_183 : decode cX12_model 183 = .ok (.goto (-22), 3) := by decide +kernel
theorem dX12_model_186 : decode cX12_model 186 = .ok (.aload_n 0, 1) := by decide +kernel
theorem dX12_model_187 : decode cX12_model 187 = .ok (.getfield 140, 3) := by decide +kernel
theorem dX12_model_190 : decode cX12_model 190 = .ok (.ifCond .ne 21, 3) := by decide +kernel
theorem dX12_model_193 : decode cX12_model 193 = .ok (.aload_n 0, 1) := by decide +kernel
theorem dX12_model_194 : decode cX12_model 194 = .ok (.invokevirtual 167, 3) := by decide +kernel
theorem dX12_model_197 : decode cX12_model 197 = .ok (.ldc2_w 212, 3) := by decide +kernel
theorem dX12_model_200 : decode cX12_model 200 = .ok (.lcmp, 1) := by decide +kernel
theorem dX12_model_201 : decode cX12_model 201 = .ok (.ifCond .ne 10, 3) := by decide +kernel
theorem dX12_model_204 : decode cX12_model 204 = .ok (.aload_n 0, 1) := by decide +kernel
theorem dX12_model_205 : decode cX12_model 205 = .ok (.invokevirtual 214, 3) := by decide +kernel
theorem dX12_model_208 : decode cX12_model 208 = .ok (.goto (-22), 3) := by decide +kernel
theorem dX12_model_211 : decode cX12_model 211 = .ok (.aload_n 0, 1) := by decide +kernel
theorem dX12_model_212 : decode cX12_model 212 = .ok (.aload_n 0, 1) := by decide +kernel
theorem dX12_model_213 : decode cX12_model 213 = .ok (.getfield 127, 3) := by decide +kernel
theorem dX12_model_216 : decode cX12_model 216 = .ok (.iconst 1, 1) := by decide +kernel
theorem dX12_model_217 : decode cX12_model 217 = .ok (.if_icmp .ne 7, 3) := by decide +kernel
theorem dX12_model_220 : decode cX12_model 220 = .ok (.iconst 1, 1) := by decide +kernel
theorem dX12_model_221 : decode cX12_model 221 = .ok (.goto 4, 3) := by decide +kernel
theorem dX12_model_224 : decode cX12_model 224 = .ok (.iconst 0, 1) := by decide +kernel
theorem dX12_model_225 : decode cX12_model 225 = .ok (.invokevirtual 153, 3) := by decide +kernel
theorem dX12_model_228 : decode cX12_model 228 = .ok (.aload_n 0, 1) := by decide +kernel
theorem dX12_model_229 : decode cX12_model 229 = .ok (.getfield 140, 3) := by decide +kernel
theorem dX12_model_232 : decode cX12_model 232 = .ok (.ifCond .ne 36, 3) := by decide +kernel
theorem dX12_model_235 : decode cX12_model 235 = .ok (.aload_n 0, 1) := by decide +kernel
theorem dX12_model_236 : decode cX12_model 236 = .ok (.getfield 16, 3) := by decide +kernel
theorem dX12_model_239 : decode cX12_model 239 = .ok (.aload_n 0, 1) := by decide +kernel
theorem dX12_model_240 : decode cX12_model 240 = .ok (.getfield 164, 3) := by decide +kernel
theorem dX12_model_243 : decode cX12_model 243 = .ok (.iaload, 1) := by decide +kernel
theorem dX12_model_244 : decode cX12_model 244 = .ok (.ifCond .eq 15, 3) := by decide +kernel
theorem dX12_model_247 : decode cX12_model 247 = .ok (.aload_n 0, 1) := by decide +kernel
theorem dX12_model_248 : decode cX12_model 248 = .ok (.getfield 35, 3) := by decide +kernel
theorem dX12_model_251 : decode cX12_model 251 = .ok (.aload_n 0, 1) := by decide +kernel
theorem dX12_model_252 : decode cX12_model 252 = .ok (.getfield 164, 3) := by decide +kernel
theorem dX12_model_255 : decode cX12_model 255 = .ok (.iaload, 1) := by decide +kernel
theorem dX12_model_256 : decode cX12_model 256 = .ok (.ifCond .ne 12, 3) := by decide +kernel
theorem dX12_model_259 : decode cX12_model 259 = .ok (.aload_n 0, 1) := by decide +kernel
theorem dX12_model_260 : decode cX12_model 260 = .ok (.iconst 4, 1) := by decide +kernel
theorem dX12_model_261 : decode cX12_model 261 = .ok (.aload_n 0, 1) := by decide +kernel
theorem dX12_model_262 : decode cX12_model 262 = .ok (.getfield 121, 3) := by decide +kernel
theorem dX12_model_265 : decode cX12_model 265 = .ok (.invokevirtual 146, 3) := by decide +kernel
theorem dX12_model_268 : decode cX12_model 268 = .ok (.aload_n 0, 1) := by decide +kernel
theorem dX12_model_269 : decode cX12_model 269 = .ok (.getfield 140, 3) := by decide +kernel
theorem dX12_model_272 : decode cX12_model 272 = .ok (.ifCond .le 20, 3) := by decide +kernel
theorem dX12_model_275 : decode cX12_model 275 = .ok (.aload_n 0, 1) := by decide +kernel
theorem dX12_model_276 : decode cX12_model 276 = .ok (.aload_n 0, 1) := by decide +kernel
theorem dX12_model_277 : decode cX12_model 277 = .ok (.getfield 140, 3) := by decide +kernel
theorem dX12_model_280 : decode cX12_model 280 = .ok (.putfield 217, 3) := by decide +kernel
theorem dX12_model_283 : decode cX12_model 283 = .ok (.sipush (-1000), 3) := by decide +kernel
theorem dX12_model_286 : decode cX12_model 286 = .ok (.aload_n 0, 1) := by decide +kernel
theorem dX12_model_287 : decode cX12_model 287 = .ok (.getfield 143, 3) := by decide +kernel
theorem dX12_model_290 : decode cX12_model 290 = .ok (.isub, 1) := by decide +kernel
theorem dX12_model_291 : decode cX12_model 291 = .ok (.ireturn, 1) := by decide +kernel
theorem dX12_model_292 : decode cX12_model 292 = .ok (.aload_n 0, 1) := by decide +kernel
theorem dX12_model_293 : decode cX12_model 293 = .ok (.aload_n 0, 1) := by decide +kernel
theorem dX12_model_294 : decode cX12_model 294 = .ok (.getfield 164, 3) := by decide +kernel
theorem dX12_model_297 : decode cX12_model 297 = .ok (.putfield 197, 3) := by decide +kernel
theorem dX12_model_300 : decode cX12_model 300 = .ok (.aload_n 0, 1) := by decide +kernel
theorem dX12_model_301 : decode cX12_model 301 = .ok (.iconst 1, 1) := by decide +kernel
theorem dX12_model_302 : decode cX12_model 302 = .ok (.putfield 220, 3) := by decide +kernel
theorem dX12_model_305 : decode cX12_model 305 = .ok (.aload_n 0, 1) := by decide +kernel
theorem dX12_model_306 : decode cX12_model 306 = .ok (.invokevirtual 224, 3) := by decide +kernel
theorem dX12_model_309 : decode cX12_model 309 = .ok (.aload_n 0, 1) := by decide +kernel
theorem dX12_model_310 : decode cX12_model 310 = .ok (.aload_n 0, 1) := by decide +kernel
theorem dX12_model_311 : decode cX12_model 311 = .ok (.getfield 197, 3) := by decide +kernel
theorem dX12_model_314 : decode cX12_model 314 = .ok (.invokevirtual 177, 3) := by decide +kernel
theorem dX12_model_317 : decode cX12_model 317 = .ok (.ireturn, 1) := by decide +kernel
theorem dX12_fault_0 : decode cX12_fault 0 = .ok (.aload_n 0, 1) := by decide +kernel
theorem dX12_fault_1 : decode cX12_fault 1 = .ok (.iconst 0, 1) := by decide +kernel
theorem dX12_fault_2 : decode cX12_fault 2 = .ok (.putfield 97, 3) := by decide +kernel
theorem dX12_fault_5 : decode cX12_fault 5 = .ok (.aload_n 0, 1) := by decide +kernel
theorem dX12_fault_6 : decode cX12_fault 6 = .ok (.getfield 217, 3) := by decide +kernel
theorem dX12_fault_9 : decode cX12_fault 9 = .ok (.ireturn, 1) := by decide +kernel
theorem dX12_seed_0 : decode cX12_seed 0 = .ok (.aload_n 0, 1) := by decide +kernel
theorem dX12_seed_1 : decode cX12_seed 1 = .ok (.iconst 0, 1) := by decide +kernel
theorem dX12_seed_2 : decode cX12_seed 2 = .ok (.putfield 97, 3) := by decide +kernel
theorem dX12_seed_5 : decode cX12_seed 5 = .ok (.aload_n 0, 1) := by decide +kernel
theorem dX12_seed_6 : decode cX12_seed 6 = .ok (.lload_n 1, 1) := by decide +kernel
theorem dX12_seed_7 : decode cX12_seed 7 = .ok (.putfield 227, 3) := by decide +kernel
theorem dX12_seed_10 : decode cX12_seed 10 = .ok (.aload_n 0, 1) := by decide +kernel
theorem dX12_seed_11 : decode cX12_seed 11 = .ok (.invokevirtual 224, 3) := by decide +kernel
theorem dX12_seed_14 : decode cX12_seed 14 = .ok (.iconst 1, 1) := by decide +kernel
theorem dX12_seed_15 : decode cX12_seed 15 = .ok (.ireturn, 1) := by decide +kernel
theorem dX12_count_0 : decode cX12_count 0 = .ok (.aload_n 0, 1) := by decide +kernel
theorem dX12_count_1 : decode cX12_count 1 = .ok (.iconst 0, 1) := by decide +kernel
theorem dX12_count_2 : decode cX12_count 2 = .ok (.putfield 97, 3) := by decide +kernel
theorem dX12_count_5 : decode cX12_count 5 = .ok (.iload_n 1, 1) := by decide +kernel
theorem dX12_count_6 : decode cX12_count 6 = .ok (.i2l, 1) := by decide +kernel
theorem dX12_count_7 : decode cX12_count 7 = .ok (.lconst 0, 1) := by decide +kernel
theorem dX12_count_8 : decode cX12_count 8 = .ok (.ldc2_w 231, 3) := by decide +kernel
theorem dX12_count_11 : decode cX12_count 11 = .ok (.invokestatic 102, 3) := by decide +kernel
theorem dX12_count_14 : decode cX12_count 14 = .ok (.ifCond .ne 6, 3) := by decide +kernel
theorem dX12_count_17 : decode cX12_count 17 = .ok (.bipush (-2), 2) := by decide +kernel
theorem dX12_count_19 : decode cX12_count 19 = .ok (.ireturn, 1) := by decide +kernel
theorem dX12_count_20 : decode cX12_count 20 = .ok (.aload_n 0, 1) := by decide +kernel
theorem dX12_count_21 : decode cX12_count 21 = .ok (.getfield 220, 3) := by decide +kernel
theorem dX12_count_24 : decode cX12_count 24 = .ok (.ifCond .ne 8, 3) := by decide +kernel
theorem dX12_count_27 : decode cX12_count 27 = .ok (.bipush (-3), 2) := by decide +kernel
theorem dX12_count_29 : decode cX12_count 29 = .ok (.goto 62, 3) := by decide +kernel
theorem dX12_count_32 : decode cX12_count 32 = .ok (.iload_n 1, 1) := by decide +kernel
theorem dX12_count_33 : decode cX12_count 33 = .ok (.ifCond .ne 15, 3) := by decide +kernel
theorem dX12_count_36 : decode cX12_count 36 = .ok (.aload_n 0, 1) := by decide +kernel
theorem dX12_count_37 : decode cX12_count 37 = .ok (.getfield 13, 3) := by decide +kernel
theorem dX12_count_40 : decode cX12_count 40 = .ok (.aload_n 0, 1) := by decide +kernel
theorem dX12_count_41 : decode cX12_count 41 = .ok (.getfield 197, 3) := by decide +kernel
theorem dX12_count_44 : decode cX12_count 44 = .ok (.iaload, 1) := by decide +kernel
theorem dX12_count_45 : decode cX12_count 45 = .ok (.goto 46, 3) := by decide +kernel
theorem dX12_count_48 : decode cX12_count 48 = .ok (.iload_n 1, 1) := by decide +kernel
theorem dX12_count_49 : decode cX12_count 49 = .ok (.iconst 1, 1) := by decide +kernel
theorem dX12_count_50 : decode cX12_count 50 = .ok (.if_icmp .ne 15, 3) := by decide +kernel
theorem dX12_count_53 : decode cX12_count 53 = .ok (.aload_n 0, 1) := by decide +kernel
theorem dX12_count_54 : decode cX12_count 54 = .ok (.getfield 16, 3) := by decide +kernel
theorem dX12_count_57 : decode cX12_count 57 = .ok (.aload_n 0, 1) := by decide +kernel
theorem dX12_count_58 : decode cX12_count 58 = .ok (.getfield 197, 3) := by decide +kernel
theorem dX12_count_61 : decode cX12_count 61 = .ok (.iaload, 1) := by decide +kernel
theorem dX12_count_62 : decode cX12_count 62 = .ok (.goto 29, 3) := by decide +kernel
theorem dX12_count_65 : decode cX12_count 65 = .ok (.iload_n 1, 1) := by decide +kernel
theorem dX12_count_66 : decode cX12_count 66 = .ok (.iconst 2, 1) := by decide +kernel
theorem dX12_count_67 : decode cX12_count 67 = .ok (.if_icmp .ne 15, 3) := by decide +kernel
theorem dX12_count_70 : decode cX12_count 70 = .ok (.aload_n 0, 1) := by decide +kernel
theorem dX12_count_71 : decode cX12_count 71 = .ok (.getfield 29, 3) := by decide +kernel
theorem dX12_count_74 : decode cX12_count 74 = .ok (.aload_n 0, 1) := by decide +kernel
theorem dX12_count_75 : decode cX12_count 75 = .ok (.getfield 197, 3) := by decide +kernel
theorem dX12_count_78 : decode cX12_count 78 = .ok (.iaload, 1) := by decide +kernel
theorem dX12_count_79 : decode cX12_count 79 = .ok (.goto 12, 3) := by decide +kernel
theorem dX12_count_82 : decode cX12_count 82 = .ok (.aload_n 0, 1) := by decide +kernel
theorem dX12_count_83 : decode cX12_count 83 = .ok (.getfield 35, 3) := by decide +kernel
theorem dX12_count_86 : decode cX12_count 86 = .ok (.aload_n 0, 1) := by decide +kernel
theorem dX12_count_87 : decode cX12_count 87 = .ok (.getfield 197, 3) := by decide +kernel
theorem dX12_count_90 : decode cX12_count 90 = .ok (.iaload, 1) := by decide +kernel
theorem dX12_count_91 : decode cX12_count 91 = .ok (.ireturn, 1) := by decide +kernel
theorem dX12_begin_0 : decode cX12_begin 0 = .ok (.iconst 0, 1) := by decide +kernel
theorem dX12_begin_1 : decode cX12_begin 1 = .ok (.istore_n 1, 1) := by decide +kernel
theorem dX12_begin_2 : decode cX12_begin 2 = .ok (.iload_n 1, 1) := by decide +kernel
theorem dX12_begin_3 : decode cX12_begin 3 = .ok (.aload_n 0, 1) := by decide +kernel
theorem dX12_begin_4 : decode cX12_begin 4 = .ok (.getfield 16, 3) := by decide +kernel
theorem dX12_begin_7 : decode cX12_begin 7 = .ok (.aload_n 0, 1) := by decide +kernel
theorem dX12_begin_8 : decode cX12_begin 8 = .ok (.getfield 197, 3) := by decide +kernel
theorem dX12_begin_11 : decode cX12_begin 11 = .ok (.iaload, 1) := by decide +kernel
theorem dX12_begin_12 : decode cX12_begin 12 = .ok (.if_icmp .ge 28, 3) := by decide +kernel
theorem dX12_begin_15 : decode cX12_begin 15 = .ok (.aload_n 0, 1) := by decide +kernel
theorem dX12_begin_16 : decode cX12_begin 16 = .ok (.getfield 62, 3) := by decide +kernel
theorem dX12_begin_19 : decode cX12_begin 19 = .ok (.iload_n 1, 1) := by decide +kernel
theorem dX12_begin_20 : decode cX12_begin 20 = .ok (.aload_n 0, 1) := by decide +kernel
theorem dX12_begin_21 : decode cX12_begin 21 = .ok (.getfield 26, 3) := by decide +kernel
theorem dX12_begin_24 : decode cX12_begin 24 = .ok (.iconst 4, 1) := by decide +kernel
theorem dX12_begin_25 : decode cX12_begin 25 = .ok (.aload_n 0, 1) := by decide +kernel
theorem dX12_begin_26 : decode cX12_begin 26 = .ok (.getfield 197, 3) := by decide +kernel
theorem dX12_begin_29 : decode cX12_begin 29 = .ok (.imul, 1) := by decide +kernel
theorem dX12_begin_30 : decode cX12_begin 30 = .ok (.iload_n 1, 1) := by decide +kernel
theorem dX12_begin_31 : decode cX12_begin 31 = .ok (.iadd, 1) := by decide +kernel
theorem dX12_begin_32 : decode cX12_begin 32 = .ok (.iaload, 1) := by decide +kernel
theorem dX12_begin_33 : decode cX12_begin 33 = .ok (.iastore, 1) := by decide +kernel
theorem dX12_begin_34 : decode cX12_begin 34 = .ok (.iinc 1 1, 3) := by decide +kernel
theorem dX12_begin_37 : decode cX12_begin 37 = .ok (.goto (-35), 3) := by decide +kernel
theorem dX12_begin_40 : decode cX12_begin 40 = .ok (.return_, 1) := by decide +kernel
theorem dX12_areHeld_0 : decode cX12_areHeld 0 = .ok (.iconst 1, 1) := by decide +kernel
theorem dX12_areHeld_1 : decode cX12_areHeld 1 = .ok (.istore_n 2, 1) := by decide +kernel
theorem dX12_areHeld_2 : decode cX12_areHeld 2 = .ok (.iconst 3, 1) := by decide +kernel
theorem dX12_areHeld_3 : decode cX12_areHeld 3 = .ok (.iload_n 1, 1) := by decide +kernel
theorem dX12_areHeld_4 : decode cX12_areHeld 4 = .ok (.imul, 1) := by decide +kernel
theorem dX12_areHeld_5 : decode cX12_areHeld 5 = .ok (.istore_n 3, 1) := by decide +kernel
theorem dX12_areHeld_6 : decode cX12_areHeld 6 = .ok (.iload_n 3, 1) := by decide +kernel
theorem dX12_areHeld_7 : decode cX12_areHeld 7 = .ok (.iconst 3, 1) := by decide +kernel
theorem dX12_areHeld_8 : decode cX12_areHeld 8 = .ok (.iload_n 1, 1) := by decide +kernel
theorem dX12_areHeld_9 : decode cX12_areHeld 9 = .ok (.imul, 1) := by decide +kernel
theorem dX12_areHeld_10 : decode cX12_areHeld 10 = .ok (.aload_n 0, 1) := by decide +kernel
theorem dX12_areHeld_11 : decode cX12_areHeld 11 = .ok (.getfield 38, 3) := by decide +kernel
theorem dX12_areHeld_14 : decode cX12_areHeld 14 = .ok (.iload_n 1, 1) := by decide +kernel
theorem dX12_areHeld_15 : decode cX12_areHeld 15 = .ok (.iaload, 1) := by decide +kernel
theorem dX12_areHeld_16 : decode cX12_areHeld 16 = .ok (.iadd, 1) := by decide +kernel
theorem dX12_areHeld_17 : decode cX12_areHeld 17 = .ok (.if_icmp .ge 93, 3) := by decide +kernel
theorem dX12_areHeld_20 : decode cX12_areHeld 20 = .ok (.aload_n 0, 1) := by decide +kernel
theorem dX12_areHeld_21 : decode cX12_areHeld 21 = .ok (.getfield 62, 3) := by decide +kernel
theorem dX12_areHeld_24 : decode cX12_areHeld 24 = .ok (.aload_n 0, 1) := by decide +kernel
theorem dX12_areHeld_25 : decode cX12_areHeld 25 = .ok (.getfield 41, 3) := by decide +kernel
theorem dX12_areHeld_28 : decode cX12_areHeld 28 = .ok (.iload_n 3, 1) := by decide +kernel
theorem dX12_areHeld_29 : decode cX12_areHeld 29 = .ok (.iaload, 1) := by decide +kernel
theorem dX12_areHeld_30 : decode cX12_areHeld 30 = .ok (.iaload, 1) := by decide +kernel
theorem dX12_areHeld_31 : decode cX12_areHeld 31 = .ok (.istore 4, 2) := by decide +kernel
theorem dX12_areHeld_33 : decode cX12_areHeld 33 = .ok (.iload_n 2, 1) := by decide +kernel
theorem dX12_areHeld_34 : decode cX12_areHeld 34 = .ok (.ifCond .eq 68, 3) := by decide +kernel
theorem dX12_areHeld_37 : decode cX12_areHeld 37 = .ok (.aload_n 0, 1) := by decide +kernel
theorem dX12_areHeld_38 : decode cX12_areHeld 38 = .ok (.getfield 44, 3) := by decide +kernel
theorem dX12_areHeld_41 : decode cX12_areHeld 41 = .ok (.iload_n 3, 1) := by decide +kernel
theorem dX12_areHeld_42 : decode cX12_areHeld 42 = .ok (.iaload, 1) := by decide +kernel
theorem dX12_areHeld_43 : decode cX12_areHeld 43 = .ok (.bipush 60, 2) := by decide +kernel
theorem dX12_areHeld_45 : decode cX12_areHeld 45 = .ok (.if_icmp .ne 17, 3) := by decide +kernel
theorem dX12_areHeld_48 : decode cX12_areHeld 48 = .ok (.iload 4, 2) := by decide +kernel
theorem dX12_areHeld_50 : decode cX12_areHeld 50 = .ok (.aload_n 0, 1) := by decide +kernel
theorem dX12_areHeld_51 : decode cX12_areHeld 51 = .ok (.getfield 47, 3) := by decide +kernel
theorem dX12_areHeld_54 : decode cX12_areHeld 54 = .ok (.iload_n 3, 1) := by decide +kernel
theorem dX12_areHeld_55 : decode cX12_areHeld 55 = .ok (.iaload, 1) := by decide +kernel
theorem dX12_areHeld_56 : decode cX12_areHeld 56 = .ok (.if_icmp .ge 46, 3) := by decide +kernel
theorem dX12_areHeld_59 : decode cX12_areHeld 59 = .ok (.goto 39, 3) := by decide +kernel
theorem dX12_areHeld_62 : decode cX12_areHeld 62 = .ok (.aload_n 0, 1) := by decide +kernel
theorem dX12_areHeld_63 : decode cX12_areHeld 63 = .ok (.getfield 44, 3) := by decide +kernel
theorem dX12_areHeld_66 : decode cX12_areHeld 66 = .ok (.iload_n 3, 1) := by decide +kernel
theorem dX12_areHeld_67 : decode cX12_areHeld 67 = .ok (.iaload, 1) := by decide +kernel
theorem dX12_areHeld_68 : decode cX12_areHeld 68 = .ok (.bipush 61, 2) := by decide +kernel
theorem dX12_areHeld_70 : decode cX12_areHeld 70 = .ok (.if_icmp .ne 17, 3) := by decide +kernel
theorem dX12_areHeld_73 : decode cX12_areHeld 73 = .ok (.iload 4, 2) := by decide +kernel
theorem dX12_areHeld_75 : decode cX12_areHeld 75 = .ok (.aload_n 0, 1) := by decide +kernel
theorem dX12_areHeld_76 : decode cX12_areHeld 76 = .ok (.getfield 47, 3) := by decide +kernel
theorem dX12_areHeld_79 : decode cX12_areHeld 79 = .ok (.iload_n 3, 1) := by decide +kernel
theorem dX12_areHeld_80 : decode cX12_areHeld 80 = .ok (.iaload, 1) := by decide +kernel
theorem dX12_areHeld_81 : decode cX12_areHeld 81 = .ok (.if_icmp .ne 21, 3) := by decide +kernel
theorem dX12_areHeld_84 : decode cX12_areHeld 84 = .ok (.goto 14, 3) := by decide +kernel
theorem dX12_areHeld_87 : decode cX12_areHeld 87 = .ok (.iload 4, 2) := by decide +kernel
theorem dX12_areHeld_89 : decode cX12_areHeld 89 = .ok (.aload_n 0, 1) := by decide +kernel
theorem dX12_areHeld_90 : decode cX12_areHeld 90 = .ok (.getfield 47, 3) := by decide +kernel
theorem dX12_areHeld_93 : decode cX12_areHeld 93 = .ok (.iload_n 3, 1) := by decide +kernel
theorem dX12_areHeld_94 : decode cX12_areHeld 94 = .ok (.iaload, 1) := by decide +kernel
theorem dX12_areHeld_95 : decode cX12_areHeld 95 = .ok (.if_icmp .le 7, 3) := by decide +kernel
theorem dX12_areHeld_98 : decode cX12_areHeld 98 = .ok (.iconst 1, 1) := by decide +kernel
theorem dX12_areHeld_99 : decode cX12_areHeld 99 = .ok (.goto 4, 3) := by decide +kernel
theorem dX12_areHeld_102 : decode cX12_areHeld 102 = .ok (.iconst 0, 1) := by decide +kernel
theorem dX12_areHeld_103 : decode cX12_areHeld 103 = .ok (.istore_n 2, 1) := by decide +kernel
theorem dX12_areHeld_104 : decode cX12_areHeld 104 = .ok (.iinc 3 1, 3) := by decide +kernel
theorem dX12_areHeld_107 : decode cX12_areHeld 107 = .ok (.goto (-101), 3) := by decide +kernel
theorem dX12_areHeld_110 : decode cX12_areHeld 110 = .ok (.iload_n 2, 1) := by decide +kernel
theorem dX12_areHeld_111 : decode cX12_areHeld 111 = .ok (.ireturn, 1) := by decide +kernel
theorem dX12_isGoal_0 : decode cX12_isGoal 0 = .ok (.aload_n 0, 1) := by decide +kernel
theorem dX12_isGoal_1 : decode cX12_isGoal 1 = .ok (.bipush 16, 2) := by decide +kernel
theorem dX12_isGoal_3 : decode cX12_isGoal 3 = .ok (.aload_n 0, 1) := by decide +kernel
theorem dX12_isGoal_4 : decode cX12_isGoal 4 = .ok (.getfield 197, 3) := by decide +kernel
theorem dX12_isGoal_7 : decode cX12_isGoal 7 = .ok (.imul, 1) := by decide +kernel
theorem dX12_isGoal_8 : decode cX12_isGoal 8 = .ok (.bipush 12, 2) := by decide +kernel
theorem dX12_isGoal_10 : decode cX12_isGoal 10 = .ok (.iadd, 1) := by decide +kernel
theorem dX12_isGoal_11 : decode cX12_isGoal 11 = .ok (.iload_n 1, 1) := by decide +kernel
theorem dX12_isGoal_12 : decode cX12_isGoal 12 = .ok (.iadd, 1) := by decide +kernel
theorem dX12_isGoal_13 : decode cX12_isGoal 13 = .ok (.invokevirtual 233, 3) := by decide +kernel
theorem dX12_isGoal_16 : decode cX12_isGoal 16 = .ok (.ireturn, 1) := by decide +kernel
theorem dX12_ruleBy_0 : decode cX12_ruleBy 0 = .ok (.iload_n 1, 1) := by decide +kernel
theorem dX12_ruleBy_1 : decode cX12_ruleBy 1 = .ok (.istore_n 2, 1) := by decide +kernel
theorem dX12_ruleBy_2 : decode cX12_ruleBy 2 = .ok (.iconst 0, 1) := by decide +kernel
theorem dX12_ruleBy_3 : decode cX12_ruleBy 3 = .ok (.istore_n 3, 1) := by decide +kernel
theorem dX12_ruleBy_4 : decode cX12_ruleBy 4 = .ok (.iload_n 3, 1) := by decide +kernel
theorem dX12_ruleBy_5 : decode cX12_ruleBy 5 = .ok (.aload_n 0, 1) := by decide +kernel
theorem dX12_ruleBy_6 : decode cX12_ruleBy 6 = .ok (.getfield 29, 3) := by decide +kernel
theorem dX12_ruleBy_9 : decode cX12_ruleBy 9 = .ok (.aload_n 0, 1) := by decide +kernel
theorem dX12_ruleBy_10 : decode cX12_ruleBy 10 = .ok (.getfield 197, 3) := by decide +kernel
theorem dX12_ruleBy_13 : decode cX12_ruleBy 13 = .ok (.iaload, 1) := by decide +kernel
theorem dX12_ruleBy_14 : decode cX12_ruleBy 14 = .ok (.if_icmp .ge 62, 3) := by decide +kernel
theorem dX12_ruleBy_17 : decode cX12_ruleBy 17 = .ok (.aload_n 0, 1) := by decide +kernel
theorem dX12_ruleBy_18 : decode cX12_ruleBy 18 = .ok (.bipush 16, 2) := by decide +kernel
theorem dX12_ruleBy_20 : decode cX12_ruleBy 20 = .ok (.aload_n 0, 1) := by decide +kernel
theorem dX12_ruleBy_21 : decode cX12_ruleBy 21 = .ok (.getfield 197, 3) := by decide +kernel
theorem dX12_ruleBy_24 : decode cX12_ruleBy 24 = .ok (.imul, 1) := by decide +kernel
theorem dX12_ruleBy_25 : decode cX12_ruleBy 25 = .ok (.iload_n 3, 1) := by decide +kernel
theorem dX12_ruleBy_26 : decode cX12_ruleBy 26 = .ok (.iadd, 1) := by decide +kernel
theorem dX12_ruleBy_27 : decode cX12_ruleBy 27 = .ok (.invokevirtual 233, 3) := by decide +kernel
theorem dX12_ruleBy_30 : decode cX12_ruleBy 30 = .ok (.ifCond .eq 40, 3) := by decide +kernel
theorem dX12_ruleBy_33 : decode cX12_ruleBy 33 = .ok (.iload_n 2, 1) := by decide +kernel
theorem dX12_ruleBy_34 : decode cX12_ruleBy 34 = .ok (.aload_n 0, 1) := by decide +kernel
theorem dX12_ruleBy_35 : decode cX12_ruleBy 35 = .ok (.getfield 32, 3) := by decide +kernel
theorem dX12_ruleBy_38 : decode cX12_ruleBy 38 = .ok (.bipush 12, 2) := by decide +kernel
theorem dX12_ruleBy_40 : decode cX12_ruleBy 40 = .ok (.aload_n 0, 1) := by decide +kernel
theorem dX12_ruleBy_41 : decode cX12_ruleBy 41 = .ok (.getfield 197, 3) := by decide +kernel
theorem dX12_ruleBy_44 : decode cX12_ruleBy 44 = .ok (.imul, 1) := by decide +kernel
theorem dX12_ruleBy_45 : decode cX12_ruleBy 45 = .ok (.iload_n 3, 1) := by decide +kernel
theorem dX12_ruleBy_46 : decode cX12_ruleBy 46 = .ok (.iadd, 1) := by decide +kernel
theorem dX12_ruleBy_47 : decode cX12_ruleBy 47 = .ok (.iaload, 1) := by decide +kernel
theorem dX12_ruleBy_48 : decode cX12_ruleBy 48 = .ok (.if_icmp .ge 5, 3) := by decide +kernel
theorem dX12_ruleBy_51 : decode cX12_ruleBy 51 = .ok (.iload_n 3, 1) := by decide +kernel
theorem dX12_ruleBy_52 : decode cX12_ruleBy 52 = .ok (.ireturn, 1) := by decide +kernel
theorem dX12_ruleBy_53 : decode cX12_ruleBy 53 = .ok (.iload_n 2, 1) := by decide +kernel
theorem dX12_ruleBy_54 : decode cX12_ruleBy 54 = .ok (.aload_n 0, 1) := by decide +kernel
theorem dX12_ruleBy_55 : decode cX12_ruleBy 55 = .ok (.getfield 32, 3) := by decide +kernel
theorem dX12_ruleBy_58 : decode cX12_ruleBy 58 = .ok (.bipush 12, 2) := by decide +kernel
theorem dX12_ruleBy_60 : decode cX12_ruleBy 60 = .ok (.aload_n 0, 1) := by decide +kernel
theorem dX12_ruleBy_61 : decode cX12_ruleBy 61 = .ok (.getfield 197, 3) := by decide +kernel
theorem dX12_ruleBy_64 : decode cX12_ruleBy 64 = .ok (.imul, 1) := by decide +kernel
theorem dX12_ruleBy_65 : decode cX12_ruleBy 65 = .ok (.iload_n 3, 1) := by decide +kernel
theorem dX12_ruleBy_66 : decode cX12_ruleBy 66 = .ok (.iadd, 1) := by decide +kernel
theorem dX12_ruleBy_67 : decode cX12_ruleBy 67 = .ok (.iaload, 1) := by decide +kernel
theorem dX12_ruleBy_68 : decode cX12_ruleBy 68 = .ok (.isub, 1) := by decide +kernel
theorem dX12_ruleBy_69 : decode cX12_ruleBy 69 = .ok (.istore_n 2, 1) := by decide +kernel
theorem dX12_ruleBy_70 : decode cX12_ruleBy 70 = .ok (.iinc 3 1, 3) := by decide +kernel
theorem dX12_ruleBy_73 : decode cX12_ruleBy 73 = .ok (.goto (-69), 3) := by decide +kernel
theorem dX12_ruleBy_76 : decode cX12_ruleBy 76 = .ok (.iconst (-1), 1) := by decide +kernel
theorem dX12_ruleBy_77 : decode cX12_ruleBy 77 = .ok (.ireturn, 1) := by decide +kernel
theorem dX12_go_0 : decode cX12_go 0 = .ok (.iload_n 1, 1) := by decide +kernel
theorem dX12_go_1 : decode cX12_go 1 = .ok (.iconst (-1), 1) := by decide +kernel
theorem dX12_go_2 : decode cX12_go 2 = .ok (.if_icmp .ne 4, 3) := by decide +kernel
theorem dX12_go_5 : decode cX12_go 5 = .ok (.return_, 1) := by decide +kernel
theorem dX12_go_6 : decode cX12_go 6 = .ok (.bipush 12, 2) := by decide +kernel
theorem dX12_go_8 : decode cX12_go 8 = .ok (.aload_n 0, 1) := by decide +kernel
theorem dX12_go_9 : decode cX12_go 9 = .ok (.getfield 197, 3) := by decide +kernel
theorem dX12_go_12 : decode cX12_go 12 = .ok (.imul, 1) := by decide +kernel
theorem dX12_go_13 : decode cX12_go 13 = .ok (.iload_n 1, 1) := by decide +kernel
theorem dX12_go_14 : decode cX12_go 14 = .ok (.iadd, 1) := by decide +kernel
theorem dX12_go_15 : decode cX12_go 15 = .ok (.istore_n 2, 1) := by decide +kernel
theorem dX12_go_16 : decode cX12_go 16 = .ok (.iconst 3, 1) := by decide +kernel
theorem dX12_go_17 : decode cX12_go 17 = .ok (.iload_n 2, 1) := by decide +kernel
theorem dX12_go_18 : decode cX12_go 18 = .ok (.imul, 1) := by decide +kernel
theorem dX12_go_19 : decode cX12_go 19 = .ok (.istore_n 3, 1) := by decide +kernel
theorem dX12_go_20 : decode cX12_go 20 = .ok (.iload_n 3, 1) := by decide +kernel
theorem dX12_go_21 : decode cX12_go 21 = .ok (.iconst 3, 1) := by decide +kernel
theorem dX12_go_22 : decode cX12_go 22 = .ok (.iload_n 2, 1) := by decide +kernel
theorem dX12_go_23 : decode cX12_go 23 = .ok (.imul, 1) := by decide +kernel
theorem dX12_go_24 : decode cX12_go 24 = .ok (.aload_n 0, 1) := by decide +kernel
theorem dX12_go_25 : decode cX12_go 25 = .ok (.getfield 50, 3) := by decide +kernel
theorem dX12_go_28 : decode cX12_go 28 = .ok (.iload_n 2, 1) := by decide +kernel
theorem dX12_go_29 : decode cX12_go 29 = .ok (.iaload, 1) := by decide +kernel
theorem dX12_go_30 : decode cX12_go 30 = .ok (.iadd, 1) := by decide +kernel
theorem dX12_go_31 : decode cX12_go 31 = .ok (.if_icmp .ge 135, 3) := by decide +kernel
theorem dX12_go_34 : decode cX12_go 34 = .ok (.aload_n 0, 1) := by decide +kernel
theorem dX12_go_35 : decode cX12_go 35 = .ok (.getfield 53, 3) := by decide +kernel
theorem dX12_go_38 : decode cX12_go 38 = .ok (.iload_n 3, 1) := by decide +kernel
theorem dX12_go_39 : decode cX12_go 39 = .ok (.iaload, 1) := by decide +kernel
theorem dX12_go_40 : decode cX12_go 40 = .ok (.istore 4, 2) := by decide +kernel
theorem dX12_go_42 : decode cX12_go 42 = .ok (.aload_n 0, 1) := by decide +kernel
theorem dX12_go_43 : decode cX12_go 43 = .ok (.getfield 56, 3) := by decide +kernel
theorem dX12_go_46 : decode cX12_go 46 = .ok (.iload_n 3, 1) := by decide +kernel
theorem dX12_go_47 : decode cX12_go 47 = .ok (.iaload, 1) := by decide +kernel
theorem dX12_go_48 : decode cX12_go 48 = .ok (.bipush 61, 2) := by decide +kernel
theorem dX12_go_50 : decode cX12_go 50 = .ok (.if_icmp .ne 12, 3) := by decide +kernel
theorem dX12_go_53 : decode cX12_go 53 = .ok (.aload_n 0, 1) := by decide +kernel
theorem dX12_go_54 : decode cX12_go 54 = .ok (.getfield 59, 3) := by decide +kernel
theorem dX12_go_57 : decode cX12_go 57 = .ok (.iload_n 3, 1) := by decide +kernel
theorem dX12_go_58 : decode cX12_go 58 = .ok (.iaload, 1) := by decide +kernel
theorem dX12_go_59 : decode cX12_go 59 = .ok (.goto 45, 3) := by decide +kernel
theorem dX12_go_62 : decode cX12_go 62 = .ok (.aload_n 0, 1) := by decide +kernel
theorem dX12_go_63 : decode cX12_go 63 = .ok (.getfield 56, 3) := by decide +kernel
theorem dX12_go_66 : decode cX12_go 66 = .ok (.iload_n 3, 1) := by decide +kernel
theorem dX12_go_67 : decode cX12_go 67 = .ok (.iaload, 1) := by decide +kernel
theorem dX12_go_68 : decode cX12_go 68 = .ok (.bipush 43, 2) := by decide +kernel
theorem dX12_go_70 : decode cX12_go 70 = .ok (.if_icmp .ne 20, 3) := by decide +kernel
theorem dX12_go_73 : decode cX12_go 73 = .ok (.aload_n 0, 1) := by decide +kernel
theorem dX12_go_74 : decode cX12_go 74 = .ok (.getfield 62, 3) := by decide +kernel
theorem dX12_go_77 : decode cX12_go 77 = .ok (.iload 4, 2) := by decide +kernel
theorem dX12_go_79 : decode cX12_go 79 = .ok (.iaload, 1) := by decide +kernel
theorem dX12_go_80 : decode cX12_go 80 = .ok (.aload_n 0, 1) := by decide +kernel
theorem dX12_go_81 : decode cX12_go 81 = .ok (.getfield 59, 3) := by decide +kernel
theorem dX12_go_84 : decode cX12_go 84 = .ok (.iload_n 3, 1) := by decide +kernel
theorem dX12_go_85 : decode cX12_go 85 = .ok (.iaload, 1) := by decide +kernel
theorem dX12_go_86 : decode cX12_go 86 = .ok (.iadd, 1) := by decide +kernel
theorem dX12_go_87 : decode cX12_go 87 = .ok (.goto 17, 3) := by decide +kernel
theorem dX12_go_90 : decode cX12_go 90 = .ok (.aload_n 0, 1) := by decide +kernel
theorem dX12_go_91 : decode cX12_go 91 = .ok (.getfield 62, 3) := by decide +kernel
theorem dX12_go_94 : decode cX12_go 94 = .ok (.iload 4, 2) := by decide +kernel
theorem dX12_go_96 : decode cX12_go 96 = .ok (.iaload, 1) := by decide +kernel
theorem dX12_go_97 : decode cX12_go 97 = .ok (.aload_n 0, 1) := by decide +kernel
theorem dX12_go_98 : decode cX12_go 98 = .ok (.getfield 59, 3) := by decide +kernel
theorem dX12_go_101 : decode cX12_go 101 = .ok (.iload_n 3, 1) := by decide +kernel
theorem dX12_go_102 : decode cX12_go 102 = .ok (.iaload, 1) := by decide +kernel
theorem dX12_go_103 : decode cX12_go 103 = .ok (.isub, 1) := by decide +kernel
theorem dX12_go_104 : decode cX12_go 104 = .ok (.istore 5, 2) := by decide +kernel
theorem dX12_go_106 : decode cX12_go 106 = .ok (.aload_n 0, 1) := by decide +kernel
theorem dX12_go_107 : decode cX12_go 107 = .ok (.getfield 62, 3) := by decide +kernel
theorem dX12_go_110 : decode cX12_go 110 = .ok (.iload 4, 2) := by decide +kernel
theorem dX12_go_112 : decode cX12_go 112 = .ok (.iload 5, 2) := by decide +kernel
theorem dX12_go_114 : decode cX12_go 114 = .ok (.ifCond .ge 7, 3) := by decide +kernel
theorem dX12_go_117 : decode cX12_go 117 = .ok (.iconst 0, 1) := by decide +kernel
theorem dX12_go_118 : decode cX12_go 118 = .ok (.goto 41, 3) := by decide +kernel
theorem dX12_go_121 : decode cX12_go 121 = .ok (.iload 5, 2) := by decide +kernel
theorem dX12_go_123 : decode cX12_go 123 = .ok (.aload_n 0, 1) := by decide +kernel
theorem dX12_go_124 : decode cX12_go 124 = .ok (.getfield 23, 3) := by decide +kernel
theorem dX12_go_127 : decode cX12_go 127 = .ok (.iconst 4, 1) := by decide +kernel
theorem dX12_go_128 : decode cX12_go 128 = .ok (.aload_n 0, 1) := by decide +kernel
theorem dX12_go_129 : decode cX12_go 129 = .ok (.getfield 197, 3) := by decide +kernel
theorem dX12_go_132 : decode cX12_go 132 = .ok (.imul, 1) := by decide +kernel
theorem dX12_go_133 : decode cX12_go 133 = .ok (.iload 4, 2) := by decide +kernel
theorem dX12_go_135 : decode cX12_go 135 = .ok (.iadd, 1) := by decide +kernel
theorem dX12_go_136 : decode cX12_go 136 = .ok (.iaload, 1) := by decide +kernel
theorem dX12_go_137 : decode cX12_go 137 = .ok (.if_icmp .le 20, 3) := by decide +kernel
theorem dX12_go_140 : decode cX12_go 140 = .ok (.aload_n 0, 1) := by decide +kernel
theorem dX12_go_141 : decode cX12_go 141 = .ok (.getfield 23, 3) := by decide +kernel
theorem dX12_go_144 : decode cX12_go 144 = .ok (.iconst 4, 1) := by decide +kernel
theorem dX12_go_145 : decode cX12_go 145 = .ok (.aload_n 0, 1) := by decide +kernel
theorem dX12_go_146 : decode cX12_go 146 = .ok (.getfield 197, 3) := by decide +kernel
theorem dX12_go_149 : decode cX12_go 149 = .ok (.imul, 1) := by decide +kernel
theorem dX12_go_150 : decode cX12_go 150 = .ok (.iload 4, 2) := by decide +kernel
theorem dX12_go_152 : decode cX12_go 152 = .ok (.iadd, 1) := by decide +kernel
theorem dX12_go_153 : decode cX12_go 153 = .ok (.iaload, 1) := by decide +kernel
theorem dX12_go_154 : decode cX12_go 154 = .ok (.goto 5, 3) := by decide +kernel
theorem dX12_go_157 : decode cX12_go 157 = .ok (.iload 5, 2) := by decide +kernel
theorem dX12_go_159 : decode cX12_go 159 = .ok (.iastore, 1) := by decide +kernel
theorem dX12_go_160 : decode cX12_go 160 = .ok (.iinc 3 1, 3) := by decide +kernel
theorem dX12_go_163 : decode cX12_go 163 = .ok (.goto (-143), 3) := by decide +kernel
theorem dX12_go_166 : decode cX12_go 166 = .ok (.return_, 1) := by decide +kernel
theorem dX12_beginRun_0 : decode cX12_beginRun 0 = .ok (.aload_n 0, 1) := by decide +kernel
theorem dX12_beginRun_1 : decode cX12_beginRun 1 = .ok (.aload_n 0, 1) := by decide +kernel
theorem dX12_beginRun_2 : decode cX12_beginRun 2 = .ok (.getfield 227, 3) := by decide +kernel
theorem dX12_beginRun_5 : decode cX12_beginRun 5 = .ok (.iload_n 1, 1) := by decide +kernel
theorem dX12_beginRun_6 : decode cX12_beginRun 6 = .ok (.i2l, 1) := by decide +kernel
theorem dX12_beginRun_7 : decode cX12_beginRun 7 = .ok (.ldc2_w 236, 3) := by decide +kernel
theorem dX12_beginRun_10 : decode cX12_beginRun 10 = .ok (.lmul, 1) := by decide +kernel
theorem dX12_beginRun_11 : decode cX12_beginRun 11 = .ok (.ladd, 1) := by decide +kernel
theorem dX12_beginRun_12 : decode cX12_beginRun 12 = .ok (.putfield 238, 3) := by decide +kernel
theorem dX12_beginRun_15 : decode cX12_beginRun 15 = .ok (.aload_n 0, 1) := by decide +kernel
theorem dX12_beginRun_16 : decode cX12_beginRun 16 = .ok (.invokevirtual 241, 3) := by decide +kernel
theorem dX12_beginRun_19 : decode cX12_beginRun 19 = .ok (.return_, 1) := by decide +kernel
theorem dX12_draw_0 : decode cX12_draw 0 = .ok (.aload_n 0, 1) := by decide +kernel
theorem dX12_draw_1 : decode cX12_draw 1 = .ok (.aload_n 0, 1) := by decide +kernel
theorem dX12_draw_2 : decode cX12_draw 2 = .ok (.getfield 238, 3) := by decide +kernel
theorem dX12_draw_5 : decode cX12_draw 5 = .ok (.ldc2_w 244, 3) := by decide +kernel
theorem dX12_draw_8 : decode cX12_draw 8 = .ok (.lmul, 1) := by decide +kernel
theorem dX12_draw_9 : decode cX12_draw 9 = .ok (.ldc2_w 246, 3) := by decide +kernel
theorem dX12_draw_12 : decode cX12_draw 12 = .ok (.ladd, 1) := by decide +kernel
theorem dX12_draw_13 : decode cX12_draw 13 = .ok (.putfield 238, 3) := by decide +kernel
theorem dX12_draw_16 : decode cX12_draw 16 = .ok (.aload_n 0, 1) := by decide +kernel
theorem dX12_draw_17 : decode cX12_draw 17 = .ok (.getfield 238, 3) := by decide +kernel
theorem dX12_draw_20 : decode cX12_draw 20 = .ok (.bipush 33, 2) := by decide +kernel
theorem dX12_draw_22 : decode cX12_draw 22 = .ok (.lushr, 1) := by decide +kernel
theorem dX12_draw_23 : decode cX12_draw 23 = .ok (.aload_n 0, 1) := by decide +kernel
theorem dX12_draw_24 : decode cX12_draw 24 = .ok (.getfield 13, 3) := by decide +kernel
theorem dX12_draw_27 : decode cX12_draw 27 = .ok (.aload_n 0, 1) := by decide +kernel
theorem dX12_draw_28 : decode cX12_draw 28 = .ok (.getfield 197, 3) := by decide +kernel
theorem dX12_draw_31 : decode cX12_draw 31 = .ok (.iaload, 1) := by decide +kernel
theorem dX12_draw_32 : decode cX12_draw 32 = .ok (.i2l, 1) := by decide +kernel
theorem dX12_draw_33 : decode cX12_draw 33 = .ok (.lrem, 1) := by decide +kernel
theorem dX12_draw_34 : decode cX12_draw 34 = .ok (.l2i, 1) := by decide +kernel
theorem dX12_draw_35 : decode cX12_draw 35 = .ok (.ireturn, 1) := by decide +kernel
theorem dX12_isGoalNumber_0 : decode cX12_isGoalNumber 0 = .ok (.aload_n 0, 1) := by decide +kernel
theorem dX12_isGoalNumber_1 : decode cX12_isGoalNumber 1 = .ok (.getfield 220, 3) := by decide +kernel
theorem dX12_isGoalNumber_4 : decode cX12_isGoalNumber 4 = .ok (.ifCond .eq 28, 3) := by decide +kernel
theorem dX12_isGoalNumber_7 : decode cX12_isGoalNumber 7 = .ok (.iload_n 1, 1) := by decide +kernel
theorem dX12_isGoalNumber_8 : decode cX12_isGoalNumber 8 = .ok (.i2l, 1) := by decide +kernel
theorem dX12_isGoalNumber_9 : decode cX12_isGoalNumber 9 = .ok (.lconst 0, 1) := by decide +kernel
theorem dX12_isGoalNumber_10 : decode cX12_isGoalNumber 10 = .ok (.aload_n 0, 1) := by decide +kernel
theorem dX12_isGoalNumber_11 : decode cX12_isGoalNumber 11 = .ok (.getfield 35, 3) := by decide +kernel
theorem dX12_isGoalNumber_14 : decode cX12_isGoalNumber 14 = .ok (.aload_n 0, 1) := by decide +kernel
theorem dX12_isGoalNumber_15 : decode cX12_isGoalNumber 15 = .ok (.getfield 197, 3) := by decide +kernel
theorem dX12_isGoalNumber_18 : decode cX12_isGoalNumber 18 = .ok (.iaload, 1) := by decide +kernel
theorem dX12_isGoalNumber_19 : decode cX12_isGoalNumber 19 = .ok (.iconst 1, 1) := by decide +kernel
theorem dX12_isGoalNumber_20 : decode cX12_isGoalNumber 20 = .ok (.isub, 1) := by decide +kernel
theorem dX12_isGoalNumber_21 : decode cX12_isGoalNumber 21 = .ok (.i2l, 1) := by decide +kernel
theorem dX12_isGoalNumber_22 : decode cX12_isGoalNumber 22 = .ok (.invokestatic 102, 3) := by decide +kernel
theorem dX12_isGoalNumber_25 : decode cX12_isGoalNumber 25 = .ok (.ifCond .eq 7, 3) := by decide +kernel
theorem dX12_isGoalNumber_28 : decode cX12_isGoalNumber 28 = .ok (.iconst 1, 1) := by decide +kernel
theorem dX12_isGoalNumber_29 : decode cX12_isGoalNumber 29 = .ok (.goto 4, 3) := by decide +kernel
theorem dX12_isGoalNumber_32 : decode cX12_isGoalNumber 32 = .ok (.iconst 0, 1) := by decide +kernel
theorem dX12_isGoalNumber_33 : decode cX12_isGoalNumber 33 = .ok (.ireturn, 1) := by decide +kernel
theorem dX12_isVar_0 : decode cX12_isVar 0 = .ok (.aload_n 0, 1) := by decide +kernel
theorem dX12_isVar_1 : decode cX12_isVar 1 = .ok (.getfield 220, 3) := by decide +kernel
theorem dX12_isVar_4 : decode cX12_isVar 4 = .ok (.ifCond .eq 28, 3) := by decide +kernel
theorem dX12_isVar_7 : decode cX12_isVar 7 = .ok (.iload_n 1, 1) := by decide +kernel
theorem dX12_isVar_8 : decode cX12_isVar 8 = .ok (.i2l, 1) := by decide +kernel
theorem dX12_isVar_9 : decode cX12_isVar 9 = .ok (.lconst 0, 1) := by decide +kernel
theorem dX12_isVar_10 : decode cX12_isVar 10 = .ok (.aload_n 0, 1) := by decide +kernel
theorem dX12_isVar_11 : decode cX12_isVar 11 = .ok (.getfield 16, 3) := by decide +kernel
theorem dX12_isVar_14 : decode cX12_isVar 14 = .ok (.aload_n 0, 1) := by decide +kernel
theorem dX12_isVar_15 : decode cX12_isVar 15 = .ok (.getfield 197, 3) := by decide +kernel
theorem dX12_isVar_18 : decode cX12_isVar 18 = .ok (.iaload, 1) := by decide +kernel
theorem dX12_isVar_19 : decode cX12_isVar 19 = .ok (.iconst 1, 1) := by decide +kernel
theorem dX12_isVar_20 : decode cX12_isVar 20 = .ok (.isub, 1) := by decide +kernel
theorem dX12_isVar_21 : decode cX12_isVar 21 = .ok (.i2l, 1) := by decide +kernel
theorem dX12_isVar_22 : decode cX12_isVar 22 = .ok (.invokestatic 102, 3) := by decide +kernel
theorem dX12_isVar_25 : decode cX12_isVar 25 = .ok (.ifCond .eq 7, 3) := by decide +kernel
theorem dX12_isVar_28 : decode cX12_isVar 28 = .ok (.iconst 1, 1) := by decide +kernel
theorem dX12_isVar_29 : decode cX12_isVar 29 = .ok (.goto 4, 3) := by decide +kernel
theorem dX12_isVar_32 : decode cX12_isVar 32 = .ok (.iconst 0, 1) := by decide +kernel
theorem dX12_isVar_33 : decode cX12_isVar 33 = .ok (.ireturn, 1) := by decide +kernel
theorem dX12_isRun_0 : decode cX12_isRun 0 = .ok (.iload_n 0, 1) := by decide +kernel
theorem dX12_isRun_1 : decode cX12_isRun 1 = .ok (.i2l, 1) := by decide +kernel
theorem dX12_isRun_2 : decode cX12_isRun 2 = .ok (.lconst 0, 1) := by decide +kernel
theorem dX12_isRun_3 : decode cX12_isRun 3 = .ok (.ldc2_w 248, 3) := by decide +kernel
theorem dX12_isRun_6 : decode cX12_isRun 6 = .ok (.invokestatic 102, 3) := by decide +kernel
theorem dX12_isRun_9 : decode cX12_isRun 9 = .ok (.ireturn, 1) := by decide +kernel
theorem dX12_heldAt_0 : decode cX12_heldAt 0 = .ok (.aload_n 0, 1) := by decide +kernel
theorem dX12_heldAt_1 : decode cX12_heldAt 1 = .ok (.iload_n 3, 1) := by decide +kernel
theorem dX12_heldAt_2 : decode cX12_heldAt 2 = .ok (.invokevirtual 250, 3) := by decide +kernel
theorem dX12_heldAt_5 : decode cX12_heldAt 5 = .ok (.iconst 0, 1) := by decide +kernel
theorem dX12_heldAt_6 : decode cX12_heldAt 6 = .ok (.istore 4, 2) := by decide +kernel
theorem dX12_heldAt_8 : decode cX12_heldAt 8 = .ok (.iload 4, 2) := by decide +kernel
theorem dX12_heldAt_10 : decode cX12_heldAt 10 = .ok (.iload_n 2, 1) := by decide +kernel
theorem dX12_heldAt_11 : decode cX12_heldAt 11 = .ok (.if_icmp .ge 29, 3) := by decide +kernel
theorem dX12_heldAt_14 : decode cX12_heldAt 14 = .ok (.aload_n 0, 1) := by decide +kernel
theorem dX12_heldAt_15 : decode cX12_heldAt 15 = .ok (.iload_n 1, 1) := by decide +kernel
theorem dX12_heldAt_16 : decode cX12_heldAt 16 = .ok (.invokevirtual 253, 3) := by decide +kernel
theorem dX12_heldAt_19 : decode cX12_heldAt 19 = .ok (.ifCond .ne 21, 3) := by decide +kernel
theorem dX12_heldAt_22 : decode cX12_heldAt 22 = .ok (.aload_n 0, 1) := by decide +kernel
theorem dX12_heldAt_23 : decode cX12_heldAt 23 = .ok (.aload_n 0, 1) := by decide +kernel
theorem dX12_heldAt_24 : decode cX12_heldAt 24 = .ok (.aload_n 0, 1) := by decide +kernel
theorem dX12_heldAt_25 : decode cX12_heldAt 25 = .ok (.invokevirtual 256, 3) := by decide +kernel
theorem dX12_heldAt_28 : decode cX12_heldAt 28 = .ok (.invokevirtual 259, 3) := by decide +kernel
theorem dX12_heldAt_31 : decode cX12_heldAt 31 = .ok (.invokevirtual 262, 3) := by decide +kernel
theorem dX12_heldAt_34 : decode cX12_heldAt 34 = .ok (.iinc 4 1, 3) := by decide +kernel
theorem dX12_heldAt_37 : decode cX12_heldAt 37 = .ok (.goto (-29), 3) := by decide +kernel
theorem dX12_heldAt_40 : decode cX12_heldAt 40 = .ok (.aload_n 0, 1) := by decide +kernel
theorem dX12_heldAt_41 : decode cX12_heldAt 41 = .ok (.iload_n 1, 1) := by decide +kernel
theorem dX12_heldAt_42 : decode cX12_heldAt 42 = .ok (.invokevirtual 253, 3) := by decide +kernel
theorem dX12_heldAt_45 : decode cX12_heldAt 45 = .ok (.ifCond .eq 8, 3) := by decide +kernel
theorem dX12_heldAt_48 : decode cX12_heldAt 48 = .ok (.iload 4, 2) := by decide +kernel
theorem dX12_heldAt_50 : decode cX12_heldAt 50 = .ok (.goto 4, 3) := by decide +kernel
theorem dX12_heldAt_53 : decode cX12_heldAt 53 = .ok (.iconst (-1), 1) := by decide +kernel
theorem dX12_heldAt_54 : decode cX12_heldAt 54 = .ok (.ireturn, 1) := by decide +kernel
theorem dX12_holds_0 : decode cX12_holds 0 = .ok (.aload_n 0, 1) := by decide +kernel
theorem dX12_holds_1 : decode cX12_holds 1 = .ok (.iconst 0, 1) := by decide +kernel
theorem dX12_holds_2 : decode cX12_holds 2 = .ok (.putfield 97, 3) := by decide +kernel
theorem dX12_holds_5 : decode cX12_holds 5 = .ok (.aload_n 0, 1) := by decide +kernel
theorem dX12_holds_6 : decode cX12_holds 6 = .ok (.iload_n 1, 1) := by decide +kernel
theorem dX12_holds_7 : decode cX12_holds 7 = .ok (.invokevirtual 265, 3) := by decide +kernel
theorem dX12_holds_10 : decode cX12_holds 10 = .ok (.ifCond .eq 22, 3) := by decide +kernel
theorem dX12_holds_13 : decode cX12_holds 13 = .ok (.iload_n 2, 1) := by decide +kernel
theorem dX12_holds_14 : decode cX12_holds 14 = .ok (.i2l, 1) := by decide +kernel
theorem dX12_holds_15 : decode cX12_holds 15 = .ok (.lconst 0, 1) := by decide +kernel
theorem dX12_holds_16 : decode cX12_holds 16 = .ok (.ldc2_w 268, 3) := by decide +kernel
theorem dX12_holds_19 : decode cX12_holds 19 = .ok (.invokestatic 102, 3) := by decide +kernel
theorem dX12_holds_22 : decode cX12_holds 22 = .ok (.ifCond .eq 10, 3) := by decide +kernel
theorem dX12_holds_25 : decode cX12_holds 25 = .ok (.iload_n 3, 1) := by decide +kernel
theorem dX12_holds_26 : decode cX12_holds 26 = .ok (.invokestatic 270, 3) := by decide +kernel
theorem dX12_holds_29 : decode cX12_holds 29 = .ok (.ifCond .ne 8, 3) := by decide +kernel
theorem dX12_holds_32 : decode cX12_holds 32 = .ok (.bipush (-2), 2) := by decide +kernel
theorem dX12_holds_34 : decode cX12_holds 34 = .ok (.goto 10, 3) := by decide +kernel
theorem dX12_holds_37 : decode cX12_holds 37 = .ok (.aload_n 0, 1) := by decide +kernel
theorem dX12_holds_38 : decode cX12_holds 38 = .ok (.iload_n 1, 1) := by decide +kernel
theorem dX12_holds_39 : decode cX12_holds 39 = .ok (.iload_n 2, 1) := by decide +kernel
theorem dX12_holds_40 : decode cX12_holds 40 = .ok (.iload_n 3, 1) := by decide +kernel
theorem dX12_holds_41 : decode cX12_holds 41 = .ok (.invokevirtual 273, 3) := by decide +kernel
theorem dX12_holds_44 : decode cX12_holds 44 = .ok (.ireturn, 1) := by decide +kernel
theorem dX12_value_0 : decode cX12_value 0 = .ok (.aload_n 0, 1) := by decide +kernel
theorem dX12_value_1 : decode cX12_value 1 = .ok (.iconst 0, 1) := by decide +kernel
theorem dX12_value_2 : decode cX12_value 2 = .ok (.putfield 97, 3) := by decide +kernel
theorem dX12_value_5 : decode cX12_value 5 = .ok (.iload_n 1, 1) := by decide +kernel
theorem dX12_value_6 : decode cX12_value 6 = .ok (.invokestatic 270, 3) := by decide +kernel
theorem dX12_value_9 : decode cX12_value 9 = .ok (.ifCond .eq 23, 3) := by decide +kernel
theorem dX12_value_12 : decode cX12_value 12 = .ok (.iload_n 2, 1) := by decide +kernel
theorem dX12_value_13 : decode cX12_value 13 = .ok (.i2l, 1) := by decide +kernel
theorem dX12_value_14 : decode cX12_value 14 = .ok (.lconst 0, 1) := by decide +kernel
theorem dX12_value_15 : decode cX12_value 15 = .ok (.ldc2_w 268, 3) := by decide +kernel
theorem dX12_value_18 : decode cX12_value 18 = .ok (.invokestatic 102, 3) := by decide +kernel
theorem dX12_value_21 : decode cX12_value 21 = .ok (.ifCond .eq 11, 3) := by decide +kernel
theorem dX12_value_24 : decode cX12_value 24 = .ok (.aload_n 0, 1) := by decide +kernel
theorem dX12_value_25 : decode cX12_value 25 = .ok (.iload_n 3, 1) := by decide +kernel
theorem dX12_value_26 : decode cX12_value 26 = .ok (.invokevirtual 277, 3) := by decide +kernel
theorem dX12_value_29 : decode cX12_value 29 = .ok (.ifCond .ne 6, 3) := by decide +kernel
theorem dX12_value_32 : decode cX12_value 32 = .ok (.bipush (-2), 2) := by decide +kernel
theorem dX12_value_34 : decode cX12_value 34 = .ok (.ireturn, 1) := by decide +kernel
theorem dX12_value_35 : decode cX12_value 35 = .ok (.aload_n 0, 1) := by decide +kernel
theorem dX12_value_36 : decode cX12_value 36 = .ok (.iload_n 1, 1) := by decide +kernel
theorem dX12_value_37 : decode cX12_value 37 = .ok (.invokevirtual 250, 3) := by decide +kernel
theorem dX12_value_40 : decode cX12_value 40 = .ok (.iconst 0, 1) := by decide +kernel
theorem dX12_value_41 : decode cX12_value 41 = .ok (.istore 4, 2) := by decide +kernel
theorem dX12_value_43 : decode cX12_value 43 = .ok (.iload 4, 2) := by decide +kernel
theorem dX12_value_45 : decode cX12_value 45 = .ok (.iload_n 2, 1) := by decide +kernel
theorem dX12_value_46 : decode cX12_value 46 = .ok (.if_icmp .ge 21, 3) := by decide +kernel
theorem dX12_value_49 : decode cX12_value 49 = .ok (.aload_n 0, 1) := by decide +kernel
theorem dX12_value_50 : decode cX12_value 50 = .ok (.aload_n 0, 1) := by decide +kernel
theorem dX12_value_51 : decode cX12_value 51 = .ok (.aload_n 0, 1) := by decide +kernel
theorem dX12_value_52 : decode cX12_value 52 = .ok (.invokevirtual 256, 3) := by decide +kernel
theorem dX12_value_55 : decode cX12_value 55 = .ok (.invokevirtual 259, 3) := by decide +kernel
theorem dX12_value_58 : decode cX12_value 58 = .ok (.invokevirtual 262, 3) := by decide +kernel
theorem dX12_value_61 : decode cX12_value 61 = .ok (.iinc 4 1, 3) := by decide +kernel
theorem dX12_value_64 : decode cX12_value 64 = .ok (.goto (-21), 3) := by decide +kernel
theorem dX12_value_67 : decode cX12_value 67 = .ok (.aload_n 0, 1) := by decide +kernel
theorem dX12_value_68 : decode cX12_value 68 = .ok (.getfield 62, 3) := by decide +kernel
theorem dX12_value_71 : decode cX12_value 71 = .ok (.iload_n 3, 1) := by decide +kernel
theorem dX12_value_72 : decode cX12_value 72 = .ok (.iaload, 1) := by decide +kernel
theorem dX12_value_73 : decode cX12_value 73 = .ok (.ireturn, 1) := by decide +kernel
theorem dX12_goes_0 : decode cX12_goes 0 = .ok (.aload_n 0, 1) := by decide +kernel
theorem dX12_goes_1 : decode cX12_goes 1 = .ok (.iconst 0, 1) := by decide +kernel
theorem dX12_goes_2 : decode cX12_goes 2 = .ok (.putfield 97, 3) := by decide +kernel
theorem dX12_goes_5 : decode cX12_goes 5 = .ok (.iload_n 1, 1) := by decide +kernel
theorem dX12_goes_6 : decode cX12_goes 6 = .ok (.invokestatic 270, 3) := by decide +kernel
theorem dX12_goes_9 : decode cX12_goes 9 = .ok (.ifCond .eq 15, 3) := by decide +kernel
theorem dX12_goes_12 : decode cX12_goes 12 = .ok (.iload_n 2, 1) := by decide +kernel
theorem dX12_goes_13 : decode cX12_goes 13 = .ok (.i2l, 1) := by decide +kernel
theorem dX12_goes_14 : decode cX12_goes 14 = .ok (.lconst 1, 1) := by decide +kernel
theorem dX12_goes_15 : decode cX12_goes 15 = .ok (.ldc2_w 268, 3) := by decide +kernel
theorem dX12_goes_18 : decode cX12_goes 18 = .ok (.invokestatic 102, 3) := by decide +kernel
theorem dX12_goes_21 : decode cX12_goes 21 = .ok (.ifCond .ne 6, 3) := by decide +kernel
theorem dX12_goes_24 : decode cX12_goes 24 = .ok (.bipush (-2), 2) := by decide +kernel
theorem dX12_goes_26 : decode cX12_goes 26 = .ok (.ireturn, 1) := by decide +kernel
theorem dX12_goes_27 : decode cX12_goes 27 = .ok (.aload_n 0, 1) := by decide +kernel
theorem dX12_goes_28 : decode cX12_goes 28 = .ok (.getfield 220, 3) := by decide +kernel
theorem dX12_goes_31 : decode cX12_goes 31 = .ok (.ifCond .ne 6, 3) := by decide +kernel
theorem dX12_goes_34 : decode cX12_goes 34 = .ok (.bipush (-3), 2) := by decide +kernel
theorem dX12_goes_36 : decode cX12_goes 36 = .ok (.ireturn, 1) := by decide +kernel
theorem dX12_goes_37 : decode cX12_goes 37 = .ok (.aload_n 0, 1) := by decide +kernel
theorem dX12_goes_38 : decode cX12_goes 38 = .ok (.iload_n 1, 1) := by decide +kernel
theorem dX12_goes_39 : decode cX12_goes 39 = .ok (.invokevirtual 250, 3) := by decide +kernel
theorem dX12_goes_42 : decode cX12_goes 42 = .ok (.iconst (-1), 1) := by decide +kernel
theorem dX12_goes_43 : decode cX12_goes 43 = .ok (.istore_n 3, 1) := by decide +kernel
theorem dX12_goes_44 : decode cX12_goes 44 = .ok (.iconst 0, 1) := by decide +kernel
theorem dX12_goes_45 : decode cX12_goes 45 = .ok (.istore 4, 2) := by decide +kernel
theorem dX12_goes_47 : decode cX12_goes 47 = .ok (.iload 4, 2) := by decide +kernel
theorem dX12_goes_49 : decode cX12_goes 49 = .ok (.iload_n 2, 1) := by decide +kernel
theorem dX12_goes_50 : decode cX12_goes 50 = .ok (.if_icmp .ge 23, 3) := by decide +kernel
theorem dX12_goes_53 : decode cX12_goes 53 = .ok (.aload_n 0, 1) := by decide +kernel
theorem dX12_goes_54 : decode cX12_goes 54 = .ok (.aload_n 0, 1) := by decide +kernel
theorem dX12_goes_55 : decode cX12_goes 55 = .ok (.invokevirtual 256, 3) := by decide +kernel
theorem dX12_goes_58 : decode cX12_goes 58 = .ok (.invokevirtual 259, 3) := by decide +kernel
theorem dX12_goes_61 : decode cX12_goes 61 = .ok (.istore_n 3, 1) := by decide +kernel
theorem dX12_goes_62 : decode cX12_goes 62 = .ok (.aload_n 0, 1) := by decide +kernel
theorem dX12_goes_63 : decode cX12_goes 63 = .ok (.iload_n 3, 1) := by decide +kernel
theorem dX12_goes_64 : decode cX12_goes 64 = .ok (.invokevirtual 262, 3) := by decide +kernel
theorem dX12_goes_67 : decode cX12_goes 67 = .ok (.iinc 4 1, 3) := by decide +kernel
theorem dX12_goes_70 : decode cX12_goes 70 = .ok (.goto (-23), 3) := by decide +kernel
theorem dX12_goes_73 : decode cX12_goes 73 = .ok (.iload_n 3, 1) := by decide +kernel
theorem dX12_goes_74 : decode cX12_goes 74 = .ok (.ireturn, 1) := by decide +kernel
theorem dX12_stateNumber_0 : decode cX12_stateNumber 0 = .ok (.iconst 0, 1) := by decide +kernel
theorem dX12_stateNumber_1 : decode cX12_stateNumber 1 = .ok (.istore_n 1, 1) := by decide +kernel
theorem dX12_stateNumber_2 : decode cX12_stateNumber 2 = .ok (.aload_n 0, 1) := by decide +kernel
theorem dX12_stateNumber_3 : decode cX12_stateNumber 3 = .ok (.getfield 16, 3) := by decide +kernel
theorem dX12_stateNumber_6 : decode cX12_stateNumber 6 = .ok (.aload_n 0, 1) := by decide +kernel
theorem dX12_stateNumber_7 : decode cX12_stateNumber 7 = .ok (.getfield 197, 3) := by decide +kernel
theorem dX12_stateNumber_10 : decode cX12_stateNumber 10 = .ok (.iaload, 1) := by decide +kernel
theorem dX12_stateNumber_11 : decode cX12_stateNumber 11 = .ok (.iconst 1, 1) := by decide +kernel
theorem dX12_stateNumber_12 : decode cX12_stateNumber 12 = .ok (.isub, 1) := by decide +kernel
theorem dX12_stateNumber_13 : decode cX12_stateNumber 13 = .ok (.istore_n 2, 1) := by decide +kernel
theorem dX12_stateNumber_14 : decode cX12_stateNumber 14 = .ok (.iload_n 2, 1) := by decide +kernel
theorem dX12_stateNumber_15 : decode cX12_stateNumber 15 = .ok (.ifCond .lt 34, 3) := by decide +kernel
theorem dX12_stateNumber_18 : decode cX12_stateNumber 18 = .ok (.iload_n 1, 1) := by decide +kernel
theorem dX12_stateNumber_19 : decode cX12_stateNumber 19 = .ok (.aload_n 0, 1) := by decide +kernel
theorem dX12_stateNumber_20 : decode cX12_stateNumber 20 = .ok (.getfield 23, 3) := by decide +kernel
theorem dX12_stateNumber_23 : decode cX12_stateNumber 23 = .ok (.iconst 4, 1) := by decide +kernel
theorem dX12_stateNumber_24 : decode cX12_stateNumber 24 = .ok (.aload_n 0, 1) := by decide +kernel
theorem dX12_stateNumber_25 : decode cX12_stateNumber 25 = .ok (.getfield 197, 3) := by decide +kernel
theorem dX12_stateNumber_28 : decode cX12_stateNumber 28 = .ok (.imul, 1) := by decide +kernel
theorem dX12_stateNumber_29 : decode cX12_stateNumber 29 = .ok (.iload_n 2, 1) := by decide +kernel
theorem dX12_stateNumber_30 : decode cX12_stateNumber 30 = .ok (.iadd, 1) := by decide +kernel
theorem dX12_stateNumber_31 : decode cX12_stateNumber 31 = .ok (.iaload, 1) := by decide +kernel
theorem dX12_stateNumber_32 : decode cX12_stateNumber 32 = .ok (.iconst 1, 1) := by decide +kernel
theorem dX12_stateNumber_33 : decode cX12_stateNumber 33 = .ok (.iadd, 1) := by decide +kernel
theorem dX12_stateNumber_34 : decode cX12_stateNumber 34 = .ok (.imul, 1) := by decide +kernel
theorem dX12_stateNumber_35 : decode cX12_stateNumber 35 = .ok (.aload_n 0, 1) := by decide +kernel
theorem dX12_stateNumber_36 : decode cX12_stateNumber 36 = .ok (.getfield 62, 3) := by decide +kernel
theorem dX12_stateNumber_39 : decode cX12_stateNumber 39 = .ok (.iload_n 2, 1) := by decide +kernel
