theorem dX0_init_0 : decode cX0_init 0 = .ok (.aload_n 0, 1) := by decide +kernel
theorem dX0_init_1 : decode cX0_init 1 = .ok (.invokespecial 3, 3) := by decide +kernel
theorem dX0_init_4 : decode cX0_init 4 = .ok (.aload_n 0, 1) := by decide +kernel
theorem dX0_init_5 : decode cX0_init 5 = .ok (.iconst 2, 1) := by decide +kernel
theorem dX0_init_6 : decode cX0_init 6 = .ok (.bipush 64, 2) := by decide +kernel
theorem dX0_init_8 : decode cX0_init 8 = .ok (.multianewarray 9 2, 4) := by decide +kernel
theorem dX0_init_12 : decode cX0_init 12 = .ok (.putfield 11, 3) := by decide +kernel
theorem dX0_init_15 : decode cX0_init 15 = .ok (.aload_n 0, 1) := by decide +kernel
theorem dX0_init_16 : decode cX0_init 16 = .ok (.iconst 3, 1) := by decide +kernel
theorem dX0_init_17 : decode cX0_init 17 = .ok (.newarray .int, 2) := by decide +kernel
theorem dX0_init_19 : decode cX0_init 19 = .ok (.putfield 16, 3) := by decide +kernel
theorem dX0_init_22 : decode cX0_init 22 = .ok (.aload_n 0, 1) := by decide +kernel
theorem dX0_init_23 : decode cX0_init 23 = .ok (.bipush 64, 2) := by decide +kernel
theorem dX0_init_25 : decode cX0_init 25 = .ok (.newarray .int, 2) := by decide +kernel
theorem dX0_init_27 : decode cX0_init 27 = .ok (.putfield 20, 3) := by decide +kernel
theorem dX0_init_30 : decode cX0_init 30 = .ok (.aload_n 0, 1) := by decide +kernel
theorem dX0_init_31 : decode cX0_init 31 = .ok (.bipush 64, 2) := by decide +kernel
theorem dX0_init_33 : decode cX0_init 33 = .ok (.newarray .int, 2) := by decide +kernel
theorem dX0_init_35 : decode cX0_init 35 = .ok (.putfield 23, 3) := by decide +kernel
theorem dX0_init_38 : decode cX0_init 38 = .ok (.aload_n 0, 1) := by decide +kernel
theorem dX0_init_39 : decode cX0_init 39 = .ok (.bipush 64, 2) := by decide +kernel
theorem dX0_init_41 : decode cX0_init 41 = .ok (.newarray .int, 2) := by decide +kernel
theorem dX0_init_43 : decode cX0_init 43 = .ok (.putfield 26, 3) := by decide +kernel
theorem dX0_init_46 : decode cX0_init 46 = .ok (.return_, 1) := by decide +kernel
theorem dX0_clear_0 : decode cX0_clear 0 = .ok (.aload_n 0, 1) := by decide +kernel
theorem dX0_clear_1 : decode cX0_clear 1 = .ok (.getfield 11, 3) := by decide +kernel
theorem dX0_clear_4 : decode cX0_clear 4 = .ok (.iconst 0, 1) := by decide +kernel
theorem dX0_clear_5 : decode cX0_clear 5 = .ok (.aaload, 1) := by decide +kernel
theorem dX0_clear_6 : decode cX0_clear 6 = .ok (.bipush 16, 2) := by decide +kernel
theorem dX0_clear_8 : decode cX0_clear 8 = .ok (.invokestatic 29, 3) := by decide +kernel
theorem dX0_clear_11 : decode cX0_clear 11 = .ok (.aload_n 0, 1) := by decide +kernel
theorem dX0_clear_12 : decode cX0_clear 12 = .ok (.getfield 11, 3) := by decide +kernel
theorem dX0_clear_15 : decode cX0_clear 15 = .ok (.iconst 1, 1) := by decide +kernel
theorem dX0_clear_16 : decode cX0_clear 16 = .ok (.aaload, 1) := by decide +kernel
theorem dX0_clear_17 : decode cX0_clear 17 = .ok (.bipush 16, 2) := by decide +kernel
theorem dX0_clear_19 : decode cX0_clear 19 = .ok (.invokestatic 29, 3) := by decide +kernel
theorem dX0_clear_22 : decode cX0_clear 22 = .ok (.aload_n 0, 1) := by decide +kernel
theorem dX0_clear_23 : decode cX0_clear 23 = .ok (.getfield 11, 3) := by decide +kernel
theorem dX0_clear_26 : decode cX0_clear 26 = .ok (.iconst 0, 1) := by decide +kernel
theorem dX0_clear_27 : decode cX0_clear 27 = .ok (.aaload, 1) := by decide +kernel
theorem dX0_clear_28 : decode cX0_clear 28 = .ok (.iconst 0, 1) := by decide +kernel
theorem dX0_clear_29 : decode cX0_clear 29 = .ok (.bipush 8, 2) := by decide +kernel
theorem dX0_clear_31 : decode cX0_clear 31 = .ok (.iastore, 1) := by decide +kernel
theorem dX0_clear_32 : decode cX0_clear 32 = .ok (.aload_n 0, 1) := by decide +kernel
theorem dX0_clear_33 : decode cX0_clear 33 = .ok (.invokevirtual 35, 3) := by decide +kernel
theorem dX0_clear_36 : decode cX0_clear 36 = .ok (.return_, 1) := by decide +kernel
theorem dX0_prepare_0 : decode cX0_prepare 0 = .ok (.aload_n 0, 1) := by decide +kernel
theorem dX0_prepare_1 : decode cX0_prepare 1 = .ok (.iconst 1, 1) := by decide +kernel
theorem dX0_prepare_2 : decode cX0_prepare 2 = .ok (.putfield 38, 3) := by decide +kernel
theorem dX0_prepare_5 : decode cX0_prepare 5 = .ok (.aload_n 0, 1) := by decide +kernel
theorem dX0_prepare_6 : decode cX0_prepare 6 = .ok (.invokevirtual 42, 3) := by decide +kernel
theorem dX0_prepare_9 : decode cX0_prepare 9 = .ok (.return_, 1) := by decide +kernel
theorem dX0_forgetPasts_0 : decode cX0_forgetPasts 0 = .ok (.aload_n 0, 1) := by decide +kernel
theorem dX0_forgetPasts_1 : decode cX0_forgetPasts 1 = .ok (.getfield 16, 3) := by decide +kernel
theorem dX0_forgetPasts_4 : decode cX0_forgetPasts 4 = .ok (.sipush 1024, 3) := by decide +kernel
theorem dX0_forgetPasts_7 : decode cX0_forgetPasts 7 = .ok (.invokestatic 29, 3) := by decide +kernel
theorem dX0_forgetPasts_10 : decode cX0_forgetPasts 10 = .ok (.return_, 1) := by decide +kernel
theorem dX0_turnForItself_0 : decode cX0_turnForItself 0 = .ok (.iload_n 2, 1) := by decide +kernel
theorem dX0_turnForItself_1 : decode cX0_turnForItself 1 = .ok (.bipush 64, 2) := by decide +kernel
theorem dX0_turnForItself_3 : decode cX0_turnForItself 3 = .ok (.imul, 1) := by decide +kernel
theorem dX0_turnForItself_4 : decode cX0_turnForItself 4 = .ok (.istore_n 3, 1) := by decide +kernel
theorem dX0_turnForItself_5 : decode cX0_turnForItself 5 = .ok (.iload_n 2, 1) := by decide +kernel
theorem dX0_turnForItself_6 : decode cX0_turnForItself 6 = .ok (.invokestatic 45, 3) := by decide +kernel
theorem dX0_turnForItself_9 : decode cX0_turnForItself 9 = .ok (.istore 4, 2) := by decide +kernel
theorem dX0_turnForItself_11 : decode cX0_turnForItself 11 = .ok (.aload_n 0, 1) := by decide +kernel
theorem dX0_turnForItself_12 : decode cX0_turnForItself 12 = .ok (.getfield 16, 3) := by decide +kernel
theorem dX0_turnForItself_15 : decode cX0_turnForItself 15 = .ok (.iload 4, 2) := by decide +kernel
theorem dX0_turnForItself_17 : decode cX0_turnForItself 17 = .ok (.aload_n 0, 1) := by decide +kernel
theorem dX0_turnForItself_18 : decode cX0_turnForItself 18 = .ok (.getfield 16, 3) := by decide +kernel
theorem dX0_turnForItself_21 : decode cX0_turnForItself 21 = .ok (.iload 4, 2) := by decide +kernel
theorem dX0_turnForItself_23 : decode cX0_turnForItself 23 = .ok (.iaload, 1) := by decide +kernel
theorem dX0_turnForItself_24 : decode cX0_turnForItself 24 = .ok (.bipush 8, 2) := by decide +kernel
theorem dX0_turnForItself_26 : decode cX0_turnForItself 26 = .ok (.aload_n 1, 1) := by decide +kernel
theorem dX0_turnForItself_27 : decode cX0_turnForItself 27 = .ok (.iload_n 3, 1) := by decide +kernel
theorem dX0_turnForItself_28 : decode cX0_turnForItself 28 = .ok (.iaload, 1) := by decide +kernel
theorem dX0_turnForItself_29 : decode cX0_turnForItself 29 = .ok (.imul, 1) := by decide +kernel
theorem dX0_turnForItself_30 : decode cX0_turnForItself 30 = .ok (.iadd, 1) := by decide +kernel
theorem dX0_turnForItself_31 : decode cX0_turnForItself 31 = .ok (.iconst 0, 1) := by decide +kernel
theorem dX0_turnForItself_32 : decode cX0_turnForItself 32 = .ok (.sipush 2040, 3) := by decide +kernel
theorem dX0_turnForItself_35 : decode cX0_turnForItself 35 = .ok (.invokestatic 49, 3) := by decide +kernel
theorem dX0_turnForItself_38 : decode cX0_turnForItself 38 = .ok (.iastore, 1) := by decide +kernel
theorem dX0_turnForItself_39 : decode cX0_turnForItself 39 = .ok (.aload_n 0, 1) := by decide +kernel
theorem dX0_turnForItself_40 : decode cX0_turnForItself 40 = .ok (.getfield 23, 3) := by decide +kernel
theorem dX0_turnForItself_43 : decode cX0_turnForItself 43 = .ok (.iconst 0, 1) := by decide +kernel
theorem dX0_turnForItself_44 : decode cX0_turnForItself 44 = .ok (.aload_n 0, 1) := by decide +kernel
theorem dX0_turnForItself_45 : decode cX0_turnForItself 45 = .ok (.getfield 16, 3) := by decide +kernel
theorem dX0_turnForItself_48 : decode cX0_turnForItself 48 = .ok (.iload 4, 2) := by decide +kernel
theorem dX0_turnForItself_50 : decode cX0_turnForItself 50 = .ok (.iaload, 1) := by decide +kernel
theorem dX0_turnForItself_51 : decode cX0_turnForItself 51 = .ok (.iastore, 1) := by decide +kernel
theorem dX0_turnForItself_52 : decode cX0_turnForItself 52 = .ok (.iconst 1, 1) := by decide +kernel
theorem dX0_turnForItself_53 : decode cX0_turnForItself 53 = .ok (.istore 5, 2) := by decide +kernel
theorem dX0_turnForItself_55 : decode cX0_turnForItself 55 = .ok (.iload 5, 2) := by decide +kernel
theorem dX0_turnForItself_57 : decode cX0_turnForItself 57 = .ok (.bipush 64, 2) := by decide +kernel
theorem dX0_turnForItself_59 : decode cX0_turnForItself 59 = .ok (.if_icmp .ge 45, 3) := by decide +kernel
theorem dX0_turnForItself_62 : decode cX0_turnForItself 62 = .ok (.aload_n 0, 1) := by decide +kernel
theorem dX0_turnForItself_63 : decode cX0_turnForItself 63 = .ok (.getfield 23, 3) := by decide +kernel
theorem dX0_turnForItself_66 : decode cX0_turnForItself 66 = .ok (.getstatic 53, 3) := by decide +kernel
theorem dX0_turnForItself_69 : decode cX0_turnForItself 69 = .ok (.iload 5, 2) := by decide +kernel
theorem dX0_turnForItself_71 : decode cX0_turnForItself 71 = .ok (.iaload, 1) := by decide +kernel
theorem dX0_turnForItself_72 : decode cX0_turnForItself 72 = .ok (.aload_n 0, 1) := by decide +kernel
theorem dX0_turnForItself_73 : decode cX0_turnForItself 73 = .ok (.iconst 2, 1) := by decide +kernel
theorem dX0_turnForItself_74 : decode cX0_turnForItself 74 = .ok (.aload_n 1, 1) := by decide +kernel
theorem dX0_turnForItself_75 : decode cX0_turnForItself 75 = .ok (.iload_n 3, 1) := by decide +kernel
theorem dX0_turnForItself_76 : decode cX0_turnForItself 76 = .ok (.iload 5, 2) := by decide +kernel
theorem dX0_turnForItself_78 : decode cX0_turnForItself 78 = .ok (.iadd, 1) := by decide +kernel
theorem dX0_turnForItself_79 : decode cX0_turnForItself 79 = .ok (.iaload, 1) := by decide +kernel
theorem dX0_turnForItself_80 : decode cX0_turnForItself 80 = .ok (.imul, 1) := by decide +kernel
theorem dX0_turnForItself_81 : decode cX0_turnForItself 81 = .ok (.aload_n 0, 1) := by decide +kernel
theorem dX0_turnForItself_82 : decode cX0_turnForItself 82 = .ok (.getfield 11, 3) := by decide +kernel
theorem dX0_turnForItself_85 : decode cX0_turnForItself 85 = .ok (.iconst 0, 1) := by decide +kernel
theorem dX0_turnForItself_86 : decode cX0_turnForItself 86 = .ok (.aaload, 1) := by decide +kernel
theorem dX0_turnForItself_87 : decode cX0_turnForItself 87 = .ok (.getstatic 53, 3) := by decide +kernel
theorem dX0_turnForItself_90 : decode cX0_turnForItself 90 = .ok (.iload 5, 2) := by decide +kernel
theorem dX0_turnForItself_92 : decode cX0_turnForItself 92 = .ok (.iaload, 1) := by decide +kernel
theorem dX0_turnForItself_93 : decode cX0_turnForItself 93 = .ok (.iaload, 1) := by decide +kernel
theorem dX0_turnForItself_94 : decode cX0_turnForItself 94 = .ok (.invokevirtual 56, 3) := by decide +kernel
theorem dX0_turnForItself_97 : decode cX0_turnForItself 97 = .ok (.iastore, 1) := by decide +kernel
theorem dX0_turnForItself_98 : decode cX0_turnForItself 98 = .ok (.iinc 5 1, 3) := by decide +kernel
theorem dX0_turnForItself_101 : decode cX0_turnForItself 101 = .ok (.goto (-46), 3) := by decide +kernel
theorem dX0_turnForItself_104 : decode cX0_turnForItself 104 = .ok (.aload_n 0, 1) := by decide +kernel
theorem dX0_turnForItself_105 : decode cX0_turnForItself 105 = .ok (.invokevirtual 60, 3) := by decide +kernel
theorem dX0_turnForItself_108 : decode cX0_turnForItself 108 = .ok (.return_, 1) := by decide +kernel
theorem dX0_turnDifference_0 : decode cX0_turnDifference 0 = .ok (.iload_n 2, 1) := by decide +kernel
theorem dX0_turnDifference_1 : decode cX0_turnDifference 1 = .ok (.bipush 64, 2) := by decide +kernel
theorem dX0_turnDifference_3 : decode cX0_turnDifference 3 = .ok (.imul, 1) := by decide +kernel
theorem dX0_turnDifference_4 : decode cX0_turnDifference 4 = .ok (.istore_n 3, 1) := by decide +kernel
theorem dX0_turnDifference_5 : decode cX0_turnDifference 5 = .ok (.iconst 0, 1) := by decide +kernel
theorem dX0_turnDifference_6 : decode cX0_turnDifference 6 = .ok (.istore 4, 2) := by decide +kernel
theorem dX0_turnDifference_8 : decode cX0_turnDifference 8 = .ok (.iload 4, 2) := by decide +kernel
theorem dX0_turnDifference_10 : decode cX0_turnDifference 10 = .ok (.bipush 64, 2) := by decide +kernel
theorem dX0_turnDifference_12 : decode cX0_turnDifference 12 = .ok (.if_icmp .ge 55, 3) := by decide +kernel
theorem dX0_turnDifference_15 : decode cX0_turnDifference 15 = .ok (.aload_n 1, 1) := by decide +kernel
theorem dX0_turnDifference_16 : decode cX0_turnDifference 16 = .ok (.iload_n 3, 1) := by decide +kernel
theorem dX0_turnDifference_17 : decode cX0_turnDifference 17 = .ok (.iload 4, 2) := by decide +kernel
theorem dX0_turnDifference_19 : decode cX0_turnDifference 19 = .ok (.iadd, 1) := by decide +kernel
theorem dX0_turnDifference_20 : decode cX0_turnDifference 20 = .ok (.iaload, 1) := by decide +kernel
theorem dX0_turnDifference_21 : decode cX0_turnDifference 21 = .ok (.istore 5, 2) := by decide +kernel
theorem dX0_turnDifference_23 : decode cX0_turnDifference 23 = .ok (.aload_n 0, 1) := by decide +kernel
theorem dX0_turnDifference_24 : decode cX0_turnDifference 24 = .ok (.getfield 23, 3) := by decide +kernel
theorem dX0_turnDifference_27 : decode cX0_turnDifference 27 = .ok (.getstatic 53, 3) := by decide +kernel
theorem dX0_turnDifference_30 : decode cX0_turnDifference 30 = .ok (.iload 4, 2) := by decide +kernel
theorem dX0_turnDifference_32 : decode cX0_turnDifference 32 = .ok (.iaload, 1) := by decide +kernel
theorem dX0_turnDifference_33 : decode cX0_turnDifference 33 = .ok (.aload_n 0, 1) := by decide +kernel
theorem dX0_turnDifference_34 : decode cX0_turnDifference 34 = .ok (.iconst 2, 1) := by decide +kernel
theorem dX0_turnDifference_35 : decode cX0_turnDifference 35 = .ok (.iload 5, 2) := by decide +kernel
theorem dX0_turnDifference_37 : decode cX0_turnDifference 37 = .ok (.imul, 1) := by decide +kernel
theorem dX0_turnDifference_38 : decode cX0_turnDifference 38 = .ok (.iload 5, 2) := by decide +kernel
theorem dX0_turnDifference_40 : decode cX0_turnDifference 40 = .ok (.invokestatic 63, 3) := by decide +kernel
theorem dX0_turnDifference_43 : decode cX0_turnDifference 43 = .ok (.iadd, 1) := by decide +kernel
theorem dX0_turnDifference_44 : decode cX0_turnDifference 44 = .ok (.aload_n 0, 1) := by decide +kernel
theorem dX0_turnDifference_45 : decode cX0_turnDifference 45 = .ok (.getfield 11, 3) := by decide +kernel
theorem dX0_turnDifference_48 : decode cX0_turnDifference 48 = .ok (.iconst 1, 1) := by decide +kernel
theorem dX0_turnDifference_49 : decode cX0_turnDifference 49 = .ok (.aaload, 1) := by decide +kernel
theorem dX0_turnDifference_50 : decode cX0_turnDifference 50 = .ok (.getstatic 53, 3) := by decide +kernel
theorem dX0_turnDifference_53 : decode cX0_turnDifference 53 = .ok (.iload 4, 2) := by decide +kernel
theorem dX0_turnDifference_55 : decode cX0_turnDifference 55 = .ok (.iaload, 1) := by decide +kernel
theorem dX0_turnDifference_56 : decode cX0_turnDifference 56 = .ok (.iaload, 1) := by decide +kernel
theorem dX0_turnDifference_57 : decode cX0_turnDifference 57 = .ok (.invokevirtual 56, 3) := by decide +kernel
theorem dX0_turnDifference_60 : decode cX0_turnDifference 60 = .ok (.iastore, 1) := by decide +kernel
theorem dX0_turnDifference_61 : decode cX0_turnDifference 61 = .ok (.iinc 4 1, 3) := by decide +kernel
theorem dX0_turnDifference_64 : decode cX0_turnDifference 64 = .ok (.goto (-56), 3) := by decide +kernel
theorem dX0_turnDifference_67 : decode cX0_turnDifference 67 = .ok (.aload_n 0, 1) := by decide +kernel
theorem dX0_turnDifference_68 : decode cX0_turnDifference 68 = .ok (.invokevirtual 60, 3) := by decide +kernel
theorem dX0_turnDifference_71 : decode cX0_turnDifference 71 = .ok (.return_, 1) := by decide +kernel
theorem dX0_scaled_0 : decode cX0_scaled 0 = .ok (.iload_n 1, 1) := by decide +kernel
theorem dX0_scaled_1 : decode cX0_scaled 1 = .ok (.aload_n 0, 1) := by decide +kernel
theorem dX0_scaled_2 : decode cX0_scaled 2 = .ok (.getfield 38, 3) := by decide +kernel
theorem dX0_scaled_5 : decode cX0_scaled 5 = .ok (.imul, 1) := by decide +kernel
theorem dX0_scaled_6 : decode cX0_scaled 6 = .ok (.iload_n 2, 1) := by decide +kernel
theorem dX0_scaled_7 : decode cX0_scaled 7 = .ok (.imul, 1) := by decide +kernel
theorem dX0_scaled_8 : decode cX0_scaled 8 = .ok (.bipush 16, 2) := by decide +kernel
theorem dX0_scaled_10 : decode cX0_scaled 10 = .ok (.idiv, 1) := by decide +kernel
theorem dX0_scaled_11 : decode cX0_scaled 11 = .ok (.istore_n 3, 1) := by decide +kernel
theorem dX0_scaled_12 : decode cX0_scaled 12 = .ok (.iload_n 3, 1) := by decide +kernel
theorem dX0_scaled_13 : decode cX0_scaled 13 = .ok (.iconst 1, 1) := by decide +kernel
theorem dX0_scaled_14 : decode cX0_scaled 14 = .ok (.iand, 1) := by decide +kernel
theorem dX0_scaled_15 : decode cX0_scaled 15 = .ok (.ifCond .ne 10, 3) := by decide +kernel
theorem dX0_scaled_18 : decode cX0_scaled 18 = .ok (.iload_n 3, 1) := by decide +kernel
theorem dX0_scaled_19 : decode cX0_scaled 19 = .ok (.iload_n 3, 1) := by decide +kernel
theorem dX0_scaled_20 : decode cX0_scaled 20 = .ok (.invokestatic 63, 3) := by decide +kernel
theorem dX0_scaled_23 : decode cX0_scaled 23 = .ok (.isub, 1) := by decide +kernel
theorem dX0_scaled_24 : decode cX0_scaled 24 = .ok (.istore_n 3, 1) := by decide +kernel
theorem dX0_scaled_25 : decode cX0_scaled 25 = .ok (.iload_n 3, 1) := by decide +kernel
theorem dX0_scaled_26 : decode cX0_scaled 26 = .ok (.sipush (-2048), 3) := by decide +kernel
theorem dX0_scaled_29 : decode cX0_scaled 29 = .ok (.sipush 2047, 3) := by decide +kernel
theorem dX0_scaled_32 : decode cX0_scaled 32 = .ok (.invokestatic 49, 3) := by decide +kernel
theorem dX0_scaled_35 : decode cX0_scaled 35 = .ok (.ireturn, 1) := by decide +kernel
theorem dX0_turn_0 : decode cX0_turn 0 = .ok (.iconst 0, 1) := by decide +kernel
theorem dX0_turn_1 : decode cX0_turn 1 = .ok (.istore_n 1, 1) := by decide +kernel
theorem dX0_turn_2 : decode cX0_turn 2 = .ok (.iload_n 1, 1) := by decide +kernel
theorem dX0_turn_3 : decode cX0_turn 3 = .ok (.bipush 64, 2) := by decide +kernel
theorem dX0_turn_5 : decode cX0_turn 5 = .ok (.if_icmp .ge 34, 3) := by decide +kernel
theorem dX0_turn_8 : decode cX0_turn 8 = .ok (.aload_n 0, 1) := by decide +kernel
theorem dX0_turn_9 : decode cX0_turn 9 = .ok (.getfield 26, 3) := by decide +kernel
theorem dX0_turn_12 : decode cX0_turn 12 = .ok (.iload_n 1, 1) := by decide +kernel
theorem dX0_turn_13 : decode cX0_turn 13 = .ok (.aload_n 0, 1) := by decide +kernel
theorem dX0_turn_14 : decode cX0_turn 14 = .ok (.iload_n 1, 1) := by decide +kernel
theorem dX0_turn_15 : decode cX0_turn 15 = .ok (.bipush 8, 2) := by decide +kernel
theorem dX0_turn_17 : decode cX0_turn 17 = .ok (.idiv, 1) := by decide +kernel
theorem dX0_turn_18 : decode cX0_turn 18 = .ok (.iload_n 1, 1) := by decide +kernel
theorem dX0_turn_19 : decode cX0_turn 19 = .ok (.bipush 8, 2) := by decide +kernel
theorem dX0_turn_21 : decode cX0_turn 21 = .ok (.irem, 1) := by decide +kernel
theorem dX0_turn_22 : decode cX0_turn 22 = .ok (.invokevirtual 68, 3) := by decide +kernel
theorem dX0_turn_25 : decode cX0_turn 25 = .ok (.sipush 128, 3) := by decide +kernel
theorem dX0_turn_28 : decode cX0_turn 28 = .ok (.iadd, 1) := by decide +kernel
theorem dX0_turn_29 : decode cX0_turn 29 = .ok (.bipush 8, 2) := by decide +kernel
theorem dX0_turn_31 : decode cX0_turn 31 = .ok (.ishr, 1) := by decide +kernel
theorem dX0_turn_32 : decode cX0_turn 32 = .ok (.iastore, 1) := by decide +kernel
theorem dX0_turn_33 : decode cX0_turn 33 = .ok (.iinc 1 1, 3) := by decide +kernel
theorem dX0_turn_36 : decode cX0_turn 36 = .ok (.goto (-34), 3) := by decide +kernel
theorem dX0_turn_39 : decode cX0_turn 39 = .ok (.iconst 0, 1) := by decide +kernel
theorem dX0_turn_40 : decode cX0_turn 40 = .ok (.istore_n 1, 1) := by decide +kernel
theorem dX0_turn_41 : decode cX0_turn 41 = .ok (.iload_n 1, 1) := by decide +kernel
theorem dX0_turn_42 : decode cX0_turn 42 = .ok (.bipush 64, 2) := by decide +kernel
theorem dX0_turn_44 : decode cX0_turn 44 = .ok (.if_icmp .ge 34, 3) := by decide +kernel
theorem dX0_turn_47 : decode cX0_turn 47 = .ok (.aload_n 0, 1) := by decide +kernel
theorem dX0_turn_48 : decode cX0_turn 48 = .ok (.getfield 20, 3) := by decide +kernel
theorem dX0_turn_51 : decode cX0_turn 51 = .ok (.iload_n 1, 1) := by decide +kernel
theorem dX0_turn_52 : decode cX0_turn 52 = .ok (.aload_n 0, 1) := by decide +kernel
theorem dX0_turn_53 : decode cX0_turn 53 = .ok (.iload_n 1, 1) := by decide +kernel
theorem dX0_turn_54 : decode cX0_turn 54 = .ok (.bipush 8, 2) := by decide +kernel
theorem dX0_turn_56 : decode cX0_turn 56 = .ok (.idiv, 1) := by decide +kernel
theorem dX0_turn_57 : decode cX0_turn 57 = .ok (.iload_n 1, 1) := by decide +kernel
theorem dX0_turn_58 : decode cX0_turn 58 = .ok (.bipush 8, 2) := by decide +kernel
theorem dX0_turn_60 : decode cX0_turn 60 = .ok (.irem, 1) := by decide +kernel
theorem dX0_turn_61 : decode cX0_turn 61 = .ok (.invokevirtual 71, 3) := by decide +kernel
theorem dX0_turn_64 : decode cX0_turn 64 = .ok (.sipush 8192, 3) := by decide +kernel
theorem dX0_turn_67 : decode cX0_turn 67 = .ok (.iadd, 1) := by decide +kernel
theorem dX0_turn_68 : decode cX0_turn 68 = .ok (.bipush 14, 2) := by decide +kernel
theorem dX0_turn_70 : decode cX0_turn 70 = .ok (.ishr, 1) := by decide +kernel
theorem dX0_turn_71 : decode cX0_turn 71 = .ok (.iastore, 1) := by decide +kernel
theorem dX0_turn_72 : decode cX0_turn 72 = .ok (.iinc 1 1, 3) := by decide +kernel
theorem dX0_turn_75 : decode cX0_turn 75 = .ok (.goto (-34), 3) := by decide +kernel
theorem dX0_turn_78 : decode cX0_turn 78 = .ok (.return_, 1) := by decide +kernel
theorem dX0_alongRow_0 : decode cX0_alongRow 0 = .ok (.iconst 0, 1) := by decide +kernel
theorem dX0_alongRow_1 : decode cX0_alongRow 1 = .ok (.istore_n 3, 1) := by decide +kernel
theorem dX0_alongRow_2 : decode cX0_alongRow 2 = .ok (.iconst 0, 1) := by decide +kernel
theorem dX0_alongRow_3 : decode cX0_alongRow 3 = .ok (.istore 4, 2) := by decide +kernel
theorem dX0_alongRow_5 : decode cX0_alongRow 5 = .ok (.iload 4, 2) := by decide +kernel
theorem dX0_alongRow_7 : decode cX0_alongRow 7 = .ok (.bipush 8, 2) := by decide +kernel
theorem dX0_alongRow_9 : decode cX0_alongRow 9 = .ok (.if_icmp .ge 31, 3) := by decide +kernel
theorem dX0_alongRow_12 : decode cX0_alongRow 12 = .ok (.iload_n 3, 1) := by decide +kernel
theorem dX0_alongRow_13 : decode cX0_alongRow 13 = .ok (.iload 4, 2) := by decide +kernel
theorem dX0_alongRow_15 : decode cX0_alongRow 15 = .ok (.iload_n 2, 1) := by decide +kernel
theorem dX0_alongRow_16 : decode cX0_alongRow 16 = .ok (.invokestatic 74, 3) := by decide +kernel
theorem dX0_alongRow_19 : decode cX0_alongRow 19 = .ok (.aload_n 0, 1) := by decide +kernel
theorem dX0_alongRow_20 : decode cX0_alongRow 20 = .ok (.getfield 23, 3) := by decide +kernel
theorem dX0_alongRow_23 : decode cX0_alongRow 23 = .ok (.iload_n 1, 1) := by decide +kernel
theorem dX0_alongRow_24 : decode cX0_alongRow 24 = .ok (.bipush 8, 2) := by decide +kernel
theorem dX0_alongRow_26 : decode cX0_alongRow 26 = .ok (.imul, 1) := by decide +kernel
theorem dX0_alongRow_27 : decode cX0_alongRow 27 = .ok (.iload 4, 2) := by decide +kernel
theorem dX0_alongRow_29 : decode cX0_alongRow 29 = .ok (.iadd, 1) := by decide +kernel
theorem dX0_alongRow_30 : decode cX0_alongRow 30 = .ok (.iaload, 1) := by decide +kernel
theorem dX0_alongRow_31 : decode cX0_alongRow 31 = .ok (.imul, 1) := by decide +kernel
theorem dX0_alongRow_32 : decode cX0_alongRow 32 = .ok (.iadd, 1) := by decide +kernel
theorem dX0_alongRow_33 : decode cX0_alongRow 33 = .ok (.istore_n 3, 1) := by decide +kernel
theorem dX0_alongRow_34 : decode cX0_alongRow 34 = .ok (.iinc 4 1, 3) := by decide +kernel
theorem dX0_alongRow_37 : decode cX0_alongRow 37 = .ok (.goto (-32), 3) := by decide +kernel
theorem dX0_alongRow_40 : decode cX0_alongRow 40 = .ok (.iload_n 3, 1) := by decide +kernel
theorem dX0_alongRow_41 : decode cX0_alongRow 41 = .ok (.ireturn, 1) := by decide +kernel
theorem dX0_alongColumn_0 : decode cX0_alongColumn 0 = .ok (.iconst 0, 1) := by decide +kernel
theorem dX0_alongColumn_1 : decode cX0_alongColumn 1 = .ok (.istore_n 3, 1) := by decide +kernel
theorem dX0_alongColumn_2 : decode cX0_alongColumn 2 = .ok (.iconst 0, 1) := by decide +kernel
theorem dX0_alongColumn_3 : decode cX0_alongColumn 3 = .ok (.istore 4, 2) := by decide +kernel
theorem dX0_alongColumn_5 : decode cX0_alongColumn 5 = .ok (.iload 4, 2) := by decide +kernel
theorem dX0_alongColumn_7 : decode cX0_alongColumn 7 = .ok (.bipush 8, 2) := by decide +kernel
theorem dX0_alongColumn_9 : decode cX0_alongColumn 9 = .ok (.if_icmp .ge 31, 3) := by decide +kernel
theorem dX0_alongColumn_12 : decode cX0_alongColumn 12 = .ok (.iload_n 3, 1) := by decide +kernel
theorem dX0_alongColumn_13 : decode cX0_alongColumn 13 = .ok (.iload 4, 2) := by decide +kernel
theorem dX0_alongColumn_15 : decode cX0_alongColumn 15 = .ok (.iload_n 1, 1) := by decide +kernel
theorem dX0_alongColumn_16 : decode cX0_alongColumn 16 = .ok (.invokestatic 74, 3) := by decide +kernel
theorem dX0_alongColumn_19 : decode cX0_alongColumn 19 = .ok (.aload_n 0, 1) := by decide +kernel
theorem dX0_alongColumn_20 : decode cX0_alongColumn 20 = .ok (.getfield 26, 3) := by decide +kernel
theorem dX0_alongColumn_23 : decode cX0_alongColumn 23 = .ok (.iload 4, 2) := by decide +kernel
theorem dX0_alongColumn_25 : decode cX0_alongColumn 25 = .ok (.bipush 8, 2) := by decide +kernel
theorem dX0_alongColumn_27 : decode cX0_alongColumn 27 = .ok (.imul, 1) := by decide +kernel
theorem dX0_alongColumn_28 : decode cX0_alongColumn 28 = .ok (.iload_n 2, 1) := by decide +kernel
theorem dX0_alongColumn_29 : decode cX0_alongColumn 29 = .ok (.iadd, 1) := by decide +kernel
theorem dX0_alongColumn_30 : decode cX0_alongColumn 30 = .ok (.iaload, 1) := by decide +kernel
theorem dX0_alongColumn_31 : decode cX0_alongColumn 31 = .ok (.imul, 1) := by decide +kernel
theorem dX0_alongColumn_32 : decode cX0_alongColumn 32 = .ok (.iadd, 1) := by decide +kernel
theorem dX0_alongColumn_33 : decode cX0_alongColumn 33 = .ok (.istore_n 3, 1) := by decide +kernel
theorem dX0_alongColumn_34 : decode cX0_alongColumn 34 = .ok (.iinc 4 1, 3) := by decide +kernel
theorem dX0_alongColumn_37 : decode cX0_alongColumn 37 = .ok (.goto (-32), 3) := by decide +kernel
theorem dX0_alongColumn_40 : decode cX0_alongColumn 40 = .ok (.iload_n 3, 1) := by decide +kernel
theorem dX0_alongColumn_41 : decode cX0_alongColumn 41 = .ok (.ireturn, 1) := by decide +kernel
theorem dX0_wave_0 : decode cX0_wave 0 = .ok (.iload_n 0, 1) := by decide +kernel
theorem dX0_wave_1 : decode cX0_wave 1 = .ok (.ifCond .ne 9, 3) := by decide +kernel
theorem dX0_wave_4 : decode cX0_wave 4 = .ok (.sipush 724, 3) := by decide +kernel
theorem dX0_wave_7 : decode cX0_wave 7 = .ok (.goto 17, 3) := by decide +kernel
theorem dX0_wave_10 : decode cX0_wave 10 = .ok (.getstatic 77, 3) := by decide +kernel
theorem dX0_wave_13 : decode cX0_wave 13 = .ok (.iconst 2, 1) := by decide +kernel
theorem dX0_wave_14 : decode cX0_wave 14 = .ok (.iload_n 1, 1) := by decide +kernel
theorem dX0_wave_15 : decode cX0_wave 15 = .ok (.imul, 1) := by decide +kernel
theorem dX0_wave_16 : decode cX0_wave 16 = .ok (.iconst 1, 1) := by decide +kernel
theorem dX0_wave_17 : decode cX0_wave 17 = .ok (.iadd, 1) := by decide +kernel
theorem dX0_wave_18 : decode cX0_wave 18 = .ok (.iload_n 0, 1) := by decide +kernel
theorem dX0_wave_19 : decode cX0_wave 19 = .ok (.imul, 1) := by decide +kernel
theorem dX0_wave_20 : decode cX0_wave 20 = .ok (.bipush 31, 2) := by decide +kernel
theorem dX0_wave_22 : decode cX0_wave 22 = .ok (.iand, 1) := by decide +kernel
theorem dX0_wave_23 : decode cX0_wave 23 = .ok (.iaload, 1) := by decide +kernel
theorem dX0_wave_24 : decode cX0_wave 24 = .ok (.ireturn, 1) := by decide +kernel
theorem dX1_init_0 : decode cX1_init 0 = .ok (.aload_n 0, 1) := by decide +kernel
theorem dX1_init_1 : decode cX1_init 1 = .ok (.invokespecial 3, 3) := by decide +kernel
theorem dX1_init_4 : decode cX1_init 4 = .ok (.aload_n 0, 1) := by decide +kernel
theorem dX1_init_5 : decode cX1_init 5 = .ok (.sipush 384, 3) := by decide +kernel
theorem dX1_init_8 : decode cX1_init 8 = .ok (.newarray .int, 2) := by decide +kernel
theorem dX1_init_10 : decode cX1_init 10 = .ok (.putfield 9, 3) := by decide +kernel
theorem dX1_init_13 : decode cX1_init 13 = .ok (.return_, 1) := by decide +kernel
theorem dX1_clear_0 : decode cX1_clear 0 = .ok (.aload_n 0, 1) := by decide +kernel
theorem dX1_clear_1 : decode cX1_clear 1 = .ok (.getfield 9, 3) := by decide +kernel
theorem dX1_clear_4 : decode cX1_clear 4 = .ok (.iconst 0, 1) := by decide +kernel
theorem dX1_clear_5 : decode cX1_clear 5 = .ok (.invokestatic 15, 3) := by decide +kernel
theorem dX1_clear_8 : decode cX1_clear 8 = .ok (.aload_n 0, 1) := by decide +kernel
theorem dX1_clear_9 : decode cX1_clear 9 = .ok (.iconst 0, 1) := by decide +kernel
theorem dX1_clear_10 : decode cX1_clear 10 = .ok (.putfield 21, 3) := by decide +kernel
theorem dX1_clear_13 : decode cX1_clear 13 = .ok (.aload_n 0, 1) := by decide +kernel
theorem dX1_clear_14 : decode cX1_clear 14 = .ok (.iconst 0, 1) := by decide +kernel
theorem dX1_clear_15 : decode cX1_clear 15 = .ok (.putfield 25, 3) := by decide +kernel
theorem dX1_clear_18 : decode cX1_clear 18 = .ok (.aload_n 0, 1) := by decide +kernel
theorem dX1_clear_19 : decode cX1_clear 19 = .ok (.iconst 0, 1) := by decide +kernel
theorem dX1_clear_20 : decode cX1_clear 20 = .ok (.putfield 29, 3) := by decide +kernel
theorem dX1_clear_23 : decode cX1_clear 23 = .ok (.return_, 1) := by decide +kernel
theorem dX2_init_0 : decode cX2_init 0 = .ok (.aload_n 0, 1) := by decide +kernel
theorem dX2_init_1 : decode cX2_init 1 = .ok (.invokespecial 1, 3) := by decide +kernel
theorem dX2_init_4 : decode cX2_init 4 = .ok (.aload_n 0, 1) := by decide +kernel
theorem dX2_init_5 : decode cX2_init 5 = .ok (.iconst 4, 1) := by decide +kernel
theorem dX2_init_6 : decode cX2_init 6 = .ok (.newarray .int, 2) := by decide +kernel
theorem dX2_init_8 : decode cX2_init 8 = .ok (.putfield 7, 3) := by decide +kernel
theorem dX2_init_11 : decode cX2_init 11 = .ok (.aload_n 0, 1) := by decide +kernel
theorem dX2_init_12 : decode cX2_init 12 = .ok (.iconst 2, 1) := by decide +kernel
theorem dX2_init_13 : decode cX2_init 13 = .ok (.newarray .int, 2) := by decide +kernel
theorem dX2_init_15 : decode cX2_init 15 = .ok (.putfield 13, 3) := by decide +kernel
theorem dX2_init_18 : decode cX2_init 18 = .ok (.return_, 1) := by decide +kernel
theorem dX2_prepare_0 : decode cX2_prepare 0 = .ok (.aload_n 0, 1) := by decide +kernel
theorem dX2_prepare_1 : decode cX2_prepare 1 = .ok (.getfield 13, 3) := by decide +kernel
theorem dX2_prepare_4 : decode cX2_prepare 4 = .ok (.iconst 0, 1) := by decide +kernel
theorem dX2_prepare_5 : decode cX2_prepare 5 = .ok (.bipush 16, 2) := by decide +kernel
theorem dX2_prepare_7 : decode cX2_prepare 7 = .ok (.iload_n 1, 1) := by decide +kernel
theorem dX2_prepare_8 : decode cX2_prepare 8 = .ok (.imul, 1) := by decide +kernel
theorem dX2_prepare_9 : decode cX2_prepare 9 = .ok (.iastore, 1) := by decide +kernel
theorem dX2_prepare_10 : decode cX2_prepare 10 = .ok (.aload_n 0, 1) := by decide +kernel
theorem dX2_prepare_11 : decode cX2_prepare 11 = .ok (.getfield 13, 3) := by decide +kernel
theorem dX2_prepare_14 : decode cX2_prepare 14 = .ok (.iconst 1, 1) := by decide +kernel
theorem dX2_prepare_15 : decode cX2_prepare 15 = .ok (.bipush 16, 2) := by decide +kernel
theorem dX2_prepare_17 : decode cX2_prepare 17 = .ok (.iload_n 2, 1) := by decide +kernel
theorem dX2_prepare_18 : decode cX2_prepare 18 = .ok (.imul, 1) := by decide +kernel
theorem dX2_prepare_19 : decode cX2_prepare 19 = .ok (.iastore, 1) := by decide +kernel
theorem dX2_prepare_20 : decode cX2_prepare 20 = .ok (.aload_n 0, 1) := by decide +kernel
theorem dX2_prepare_21 : decode cX2_prepare 21 = .ok (.iload_n 3, 1) := by decide +kernel
theorem dX2_prepare_22 : decode cX2_prepare 22 = .ok (.putfield 16, 3) := by decide +kernel
theorem dX2_prepare_25 : decode cX2_prepare 25 = .ok (.aload_n 0, 1) := by decide +kernel
theorem dX2_prepare_26 : decode cX2_prepare 26 = .ok (.invokevirtual 20, 3) := by decide +kernel
theorem dX2_prepare_29 : decode cX2_prepare 29 = .ok (.return_, 1) := by decide +kernel
theorem dX2_rest_0 : decode cX2_rest 0 = .ok (.aload_n 0, 1) := by decide +kernel
theorem dX2_rest_1 : decode cX2_rest 1 = .ok (.getfield 7, 3) := by decide +kernel
theorem dX2_rest_4 : decode cX2_rest 4 = .ok (.iconst 0, 1) := by decide +kernel
theorem dX2_rest_5 : decode cX2_rest 5 = .ok (.invokestatic 23, 3) := by decide +kernel
theorem dX2_rest_8 : decode cX2_rest 8 = .ok (.return_, 1) := by decide +kernel
theorem dX2_reaches_0 : decode cX2_reaches 0 = .ok (.iload_n 2, 1) := by decide +kernel
theorem dX2_reaches_1 : decode cX2_reaches 1 = .ok (.aload_n 0, 1) := by decide +kernel
theorem dX2_reaches_2 : decode cX2_reaches 2 = .ok (.getfield 13, 3) := by decide +kernel
theorem dX2_reaches_5 : decode cX2_reaches 5 = .ok (.iload_n 1, 1) := by decide +kernel
theorem dX2_reaches_6 : decode cX2_reaches 6 = .ok (.iaload, 1) := by decide +kernel
theorem dX2_reaches_7 : decode cX2_reaches 7 = .ok (.ineg, 1) := by decide +kernel
theorem dX2_reaches_8 : decode cX2_reaches 8 = .ok (.aload_n 0, 1) := by decide +kernel
theorem dX2_reaches_9 : decode cX2_reaches 9 = .ok (.getfield 13, 3) := by decide +kernel
theorem dX2_reaches_12 : decode cX2_reaches 12 = .ok (.iload_n 1, 1) := by decide +kernel
theorem dX2_reaches_13 : decode cX2_reaches 13 = .ok (.iaload, 1) := by decide +kernel
theorem dX2_reaches_14 : decode cX2_reaches 14 = .ok (.invokestatic 29, 3) := by decide +kernel
theorem dX2_reaches_17 : decode cX2_reaches 17 = .ok (.ireturn, 1) := by decide +kernel
theorem dX2_move_0 : decode cX2_move 0 = .ok (.iconst 2, 1) := by decide +kernel
theorem dX2_move_1 : decode cX2_move 1 = .ok (.iload_n 1, 1) := by decide +kernel
theorem dX2_move_2 : decode cX2_move 2 = .ok (.imul, 1) := by decide +kernel
theorem dX2_move_3 : decode cX2_move 3 = .ok (.istore 4, 2) := by decide +kernel
theorem dX2_move_5 : decode cX2_move 5 = .ok (.aload_n 0, 1) := by decide +kernel
theorem dX2_move_6 : decode cX2_move 6 = .ok (.getfield 7, 3) := by decide +kernel
theorem dX2_move_9 : decode cX2_move 9 = .ok (.iload 4, 2) := by decide +kernel
theorem dX2_move_11 : decode cX2_move 11 = .ok (.aload_n 0, 1) := by decide +kernel
theorem dX2_move_12 : decode cX2_move 12 = .ok (.getfield 7, 3) := by decide +kernel
theorem dX2_move_15 : decode cX2_move 15 = .ok (.iload 4, 2) := by decide +kernel
theorem dX2_move_17 : decode cX2_move 17 = .ok (.iaload, 1) := by decide +kernel
theorem dX2_move_18 : decode cX2_move 18 = .ok (.iload_n 2, 1) := by decide +kernel
theorem dX2_move_19 : decode cX2_move 19 = .ok (.iadd, 1) := by decide +kernel
theorem dX2_move_20 : decode cX2_move 20 = .ok (.aload_n 0, 1) := by decide +kernel
theorem dX2_move_21 : decode cX2_move 21 = .ok (.getfield 13, 3) := by decide +kernel
theorem dX2_move_24 : decode cX2_move 24 = .ok (.iload_n 1, 1) := by decide +kernel
theorem dX2_move_25 : decode cX2_move 25 = .ok (.iaload, 1) := by decide +kernel
theorem dX2_move_26 : decode cX2_move 26 = .ok (.invokestatic 35, 3) := by decide +kernel
theorem dX2_move_29 : decode cX2_move 29 = .ok (.iastore, 1) := by decide +kernel
theorem dX2_move_30 : decode cX2_move 30 = .ok (.aload_n 0, 1) := by decide +kernel
theorem dX2_move_31 : decode cX2_move 31 = .ok (.getfield 7, 3) := by decide +kernel
theorem dX2_move_34 : decode cX2_move 34 = .ok (.iload 4, 2) := by decide +kernel
theorem dX2_move_36 : decode cX2_move 36 = .ok (.iconst 1, 1) := by decide +kernel
theorem dX2_move_37 : decode cX2_move 37 = .ok (.iadd, 1) := by decide +kernel
theorem dX2_move_38 : decode cX2_move 38 = .ok (.aload_n 0, 1) := by decide +kernel
theorem dX2_move_39 : decode cX2_move 39 = .ok (.getfield 7, 3) := by decide +kernel
theorem dX2_move_42 : decode cX2_move 42 = .ok (.iload 4, 2) := by decide +kernel
theorem dX2_move_44 : decode cX2_move 44 = .ok (.iconst 1, 1) := by decide +kernel
theorem dX2_move_45 : decode cX2_move 45 = .ok (.iadd, 1) := by decide +kernel
theorem dX2_move_46 : decode cX2_move 46 = .ok (.iaload, 1) := by decide +kernel
theorem dX2_move_47 : decode cX2_move 47 = .ok (.iload_n 3, 1) := by decide +kernel
theorem dX2_move_48 : decode cX2_move 48 = .ok (.iadd, 1) := by decide +kernel
theorem dX2_move_49 : decode cX2_move 49 = .ok (.aload_n 0, 1) := by decide +kernel
theorem dX2_move_50 : decode cX2_move 50 = .ok (.getfield 13, 3) := by decide +kernel
theorem dX2_move_53 : decode cX2_move 53 = .ok (.iload_n 1, 1) := by decide +kernel
theorem dX2_move_54 : decode cX2_move 54 = .ok (.iaload, 1) := by decide +kernel
theorem dX2_move_55 : decode cX2_move 55 = .ok (.invokestatic 35, 3) := by decide +kernel
theorem dX2_move_58 : decode cX2_move 58 = .ok (.iastore, 1) := by decide +kernel
theorem dX2_move_59 : decode cX2_move 59 = .ok (.return_, 1) := by decide +kernel
theorem dX2_used_0 : decode cX2_used 0 = .ok (.aload_n 0, 1) := by decide +kernel
theorem dX2_used_1 : decode cX2_used 1 = .ok (.getfield 16, 3) := by decide +kernel
theorem dX2_used_4 : decode cX2_used 4 = .ok (.ifCond .eq 14, 3) := by decide +kernel
theorem dX2_used_7 : decode cX2_used 7 = .ok (.iconst 2, 1) := by decide +kernel
theorem dX2_used_8 : decode cX2_used 8 = .ok (.aload_n 0, 1) := by decide +kernel
theorem dX2_used_9 : decode cX2_used 9 = .ok (.getfield 7, 3) := by decide +kernel
theorem dX2_used_12 : decode cX2_used 12 = .ok (.iload_n 2, 1) := by decide +kernel
theorem dX2_used_13 : decode cX2_used 13 = .ok (.iaload, 1) := by decide +kernel
theorem dX2_used_14 : decode cX2_used 14 = .ok (.imul, 1) := by decide +kernel
theorem dX2_used_15 : decode cX2_used 15 = .ok (.goto 9, 3) := by decide +kernel
theorem dX2_used_18 : decode cX2_used 18 = .ok (.aload_n 0, 1) := by decide +kernel
theorem dX2_used_19 : decode cX2_used 19 = .ok (.getfield 7, 3) := by decide +kernel
theorem dX2_used_22 : decode cX2_used 22 = .ok (.iload_n 2, 1) := by decide +kernel
theorem dX2_used_23 : decode cX2_used 23 = .ok (.iaload, 1) := by decide +kernel
theorem dX2_used_24 : decode cX2_used 24 = .ok (.istore_n 3, 1) := by decide +kernel
theorem dX2_used_25 : decode cX2_used 25 = .ok (.iload_n 1, 1) := by decide +kernel
theorem dX2_used_26 : decode cX2_used 26 = .ok (.ifCond .ne 7, 3) := by decide +kernel
theorem dX2_used_29 : decode cX2_used 29 = .ok (.iload_n 3, 1) := by decide +kernel
theorem dX2_used_30 : decode cX2_used 30 = .ok (.goto 6, 3) := by decide +kernel
theorem dX2_used_33 : decode cX2_used 33 = .ok (.iload_n 3, 1) := by decide +kernel
theorem dX2_used_34 : decode cX2_used 34 = .ok (.iconst 2, 1) := by decide +kernel
theorem dX2_used_35 : decode cX2_used 35 = .ok (.idiv, 1) := by decide +kernel
theorem dX2_used_36 : decode cX2_used 36 = .ok (.ireturn, 1) := by decide +kernel
theorem dX2_wrapped_0 : decode cX2_wrapped 0 = .ok (.iload_n 0, 1) := by decide +kernel
theorem dX2_wrapped_1 : decode cX2_wrapped 1 = .ok (.iload_n 1, 1) := by decide +kernel
theorem dX2_wrapped_2 : decode cX2_wrapped 2 = .ok (.ineg, 1) := by decide +kernel
theorem dX2_wrapped_3 : decode cX2_wrapped 3 = .ok (.if_icmp .ge 9, 3) := by decide +kernel
theorem dX2_wrapped_6 : decode cX2_wrapped 6 = .ok (.iload_n 0, 1) := by decide +kernel
theorem dX2_wrapped_7 : decode cX2_wrapped 7 = .ok (.iconst 2, 1) := by decide +kernel
theorem dX2_wrapped_8 : decode cX2_wrapped 8 = .ok (.iload_n 1, 1) := by decide +kernel
theorem dX2_wrapped_9 : decode cX2_wrapped 9 = .ok (.imul, 1) := by decide +kernel
theorem dX2_wrapped_10 : decode cX2_wrapped 10 = .ok (.iadd, 1) := by decide +kernel
theorem dX2_wrapped_11 : decode cX2_wrapped 11 = .ok (.ireturn, 1) := by decide +kernel
theorem dX2_wrapped_12 : decode cX2_wrapped 12 = .ok (.iload_n 0, 1) := by decide +kernel
theorem dX2_wrapped_13 : decode cX2_wrapped 13 = .ok (.iload_n 1, 1) := by decide +kernel
theorem dX2_wrapped_14 : decode cX2_wrapped 14 = .ok (.if_icmp .lt 11, 3) := by decide +kernel
theorem dX2_wrapped_17 : decode cX2_wrapped 17 = .ok (.iload_n 0, 1) := by decide +kernel
theorem dX2_wrapped_18 : decode cX2_wrapped 18 = .ok (.iconst 2, 1) := by decide +kernel
theorem dX2_wrapped_19 : decode cX2_wrapped 19 = .ok (.iload_n 1, 1) := by decide +kernel
theorem dX2_wrapped_20 : decode cX2_wrapped 20 = .ok (.imul, 1) := by decide +kernel
theorem dX2_wrapped_21 : decode cX2_wrapped 21 = .ok (.isub, 1) := by decide +kernel
theorem dX2_wrapped_22 : decode cX2_wrapped 22 = .ok (.goto 4, 3) := by decide +kernel
theorem dX2_wrapped_25 : decode cX2_wrapped 25 = .ok (.iload_n 0, 1) := by decide +kernel
theorem dX2_wrapped_26 : decode cX2_wrapped 26 = .ok (.ireturn, 1) := by decide +kernel
theorem dX3_init_0 : decode cX3_init 0 = .ok (.aload_n 0, 1) := by decide +kernel
theorem dX3_init_1 : decode cX3_init 1 = .ok (.invokespecial 3, 3) := by decide +kernel
theorem dX3_init_4 : decode cX3_init 4 = .ok (.aload_n 0, 1) := by decide +kernel
theorem dX3_init_5 : decode cX3_init 5 = .ok (.iconst 3, 1) := by decide +kernel
theorem dX3_init_6 : decode cX3_init 6 = .ok (.anewarray 9, 3) := by decide +kernel
theorem dX3_init_9 : decode cX3_init 9 = .ok (.putfield 11, 3) := by decide +kernel
theorem dX3_init_12 : decode cX3_init 12 = .ok (.iconst 0, 1) := by decide +kernel
theorem dX3_init_13 : decode cX3_init 13 = .ok (.istore_n 1, 1) := by decide +kernel
theorem dX3_init_14 : decode cX3_init 14 = .ok (.iload_n 1, 1) := by decide +kernel
theorem dX3_init_15 : decode cX3_init 15 = .ok (.iconst 3, 1) := by decide +kernel
theorem dX3_init_16 : decode cX3_init 16 = .ok (.if_icmp .ge 26, 3) := by decide +kernel
theorem dX3_init_19 : decode cX3_init 19 = .ok (.aload_n 0, 1) := by decide +kernel
theorem dX3_init_20 : decode cX3_init 20 = .ok (.getfield 11, 3) := by decide +kernel
theorem dX3_init_23 : decode cX3_init 23 = .ok (.iload_n 1, 1) := by decide +kernel
theorem dX3_init_24 : decode cX3_init 24 = .ok (.new 9, 3) := by decide +kernel
theorem dX3_init_27 : decode cX3_init 27 = .ok (.dup, 1) := by decide +kernel
theorem dX3_init_28 : decode cX3_init 28 = .ok (.iload_n 1, 1) := by decide +kernel
theorem dX3_init_29 : decode cX3_init 29 = .ok (.invokestatic 17, 3) := by decide +kernel
theorem dX3_init_32 : decode cX3_init 32 = .ok (.invokespecial 21, 3) := by decide +kernel
theorem dX3_init_35 : decode cX3_init 35 = .ok (.aastore, 1) := by decide +kernel
theorem dX3_init_36 : decode cX3_init 36 = .ok (.iinc 1 1, 3) := by decide +kernel
theorem dX3_init_39 : decode cX3_init 39 = .ok (.goto (-25), 3) := by decide +kernel
theorem dX3_init_42 : decode cX3_init 42 = .ok (.return_, 1) := by decide +kernel
theorem dX3_clear_0 : decode cX3_clear 0 = .ok (.iconst 0, 1) := by decide +kernel
theorem dX3_clear_1 : decode cX3_clear 1 = .ok (.istore_n 3, 1) := by decide +kernel
theorem dX3_clear_2 : decode cX3_clear 2 = .ok (.iload_n 3, 1) := by decide +kernel
theorem dX3_clear_3 : decode cX3_clear 3 = .ok (.iconst 3, 1) := by decide +kernel
theorem dX3_clear_4 : decode cX3_clear 4 = .ok (.if_icmp .ge 20, 3) := by decide +kernel
theorem dX3_clear_7 : decode cX3_clear 7 = .ok (.aload_n 0, 1) := by decide +kernel
theorem dX3_clear_8 : decode cX3_clear 8 = .ok (.getfield 11, 3) := by decide +kernel
theorem dX3_clear_11 : decode cX3_clear 11 = .ok (.iload_n 3, 1) := by decide +kernel
theorem dX3_clear_12 : decode cX3_clear 12 = .ok (.aaload, 1) := by decide +kernel
theorem dX3_clear_13 : decode cX3_clear 13 = .ok (.iload_n 1, 1) := by decide +kernel
theorem dX3_clear_14 : decode cX3_clear 14 = .ok (.iload_n 2, 1) := by decide +kernel
theorem dX3_clear_15 : decode cX3_clear 15 = .ok (.invokevirtual 24, 3) := by decide +kernel
theorem dX3_clear_18 : decode cX3_clear 18 = .ok (.iinc 3 1, 3) := by decide +kernel
theorem dX3_clear_21 : decode cX3_clear 21 = .ok (.goto (-19), 3) := by decide +kernel
theorem dX3_clear_24 : decode cX3_clear 24 = .ok (.return_, 1) := by decide +kernel
theorem dX3_copyFrom_0 : decode cX3_copyFrom 0 = .ok (.iconst 0, 1) := by decide +kernel
theorem dX3_copyFrom_1 : decode cX3_copyFrom 1 = .ok (.istore_n 2, 1) := by decide +kernel
theorem dX3_copyFrom_2 : decode cX3_copyFrom 2 = .ok (.iload_n 2, 1) := by decide +kernel
theorem dX3_copyFrom_3 : decode cX3_copyFrom 3 = .ok (.iconst 3, 1) := by decide +kernel
theorem dX3_copyFrom_4 : decode cX3_copyFrom 4 = .ok (.if_icmp .ge 24, 3) := by decide +kernel
theorem dX3_copyFrom_7 : decode cX3_copyFrom 7 = .ok (.aload_n 0, 1) := by decide +kernel
theorem dX3_copyFrom_8 : decode cX3_copyFrom 8 = .ok (.getfield 11, 3) := by decide +kernel
theorem dX3_copyFrom_11 : decode cX3_copyFrom 11 = .ok (.iload_n 2, 1) := by decide +kernel
theorem dX3_copyFrom_12 : decode cX3_copyFrom 12 = .ok (.aaload, 1) := by decide +kernel
theorem dX3_copyFrom_13 : decode cX3_copyFrom 13 = .ok (.aload_n 1, 1) := by decide +kernel
theorem dX3_copyFrom_14 : decode cX3_copyFrom 14 = .ok (.getfield 11, 3) := by decide +kernel
theorem dX3_copyFrom_17 : decode cX3_copyFrom 17 = .ok (.iload_n 2, 1) := by decide +kernel
theorem dX3_copyFrom_18 : decode cX3_copyFrom 18 = .ok (.aaload, 1) := by decide +kernel
theorem dX3_copyFrom_19 : decode cX3_copyFrom 19 = .ok (.invokevirtual 28, 3) := by decide +kernel
theorem dX3_copyFrom_22 : decode cX3_copyFrom 22 = .ok (.iinc 2 1, 3) := by decide +kernel
theorem dX3_copyFrom_25 : decode cX3_copyFrom 25 = .ok (.goto (-23), 3) := by decide +kernel
theorem dX3_copyFrom_28 : decode cX3_copyFrom 28 = .ok (.return_, 1) := by decide +kernel
theorem dX3_mixed_0 : decode cX3_mixed 0 = .ok (.aload_n 0, 1) := by decide +kernel
theorem dX3_mixed_1 : decode cX3_mixed 1 = .ok (.getfield 11, 3) := by decide +kernel
theorem dX3_mixed_4 : decode cX3_mixed 4 = .ok (.iconst 0, 1) := by decide +kernel
theorem dX3_mixed_5 : decode cX3_mixed 5 = .ok (.aaload, 1) := by decide +kernel
theorem dX3_mixed_6 : decode cX3_mixed 6 = .ok (.iload_n 1, 1) := by decide +kernel
theorem dX3_mixed_7 : decode cX3_mixed 7 = .ok (.iload_n 2, 1) := by decide +kernel
theorem dX3_mixed_8 : decode cX3_mixed 8 = .ok (.invokevirtual 32, 3) := by decide +kernel
theorem dX3_mixed_11 : decode cX3_mixed 11 = .ok (.i2f, 1) := by decide +kernel
theorem dX3_mixed_12 : decode cX3_mixed 12 = .ok (.fstore_n 3, 1) := by decide +kernel
theorem dX3_mixed_13 : decode cX3_mixed 13 = .ok (.aload_n 0, 1) := by decide +kernel
theorem dX3_mixed_14 : decode cX3_mixed 14 = .ok (.getfield 11, 3) := by decide +kernel
theorem dX3_mixed_17 : decode cX3_mixed 17 = .ok (.iconst 1, 1) := by decide +kernel
theorem dX3_mixed_18 : decode cX3_mixed 18 = .ok (.aaload, 1) := by decide +kernel
theorem dX3_mixed_19 : decode cX3_mixed 19 = .ok (.iload_n 1, 1) := by decide +kernel
theorem dX3_mixed_20 : decode cX3_mixed 20 = .ok (.iconst 2, 1) := by decide +kernel
theorem dX3_mixed_21 : decode cX3_mixed 21 = .ok (.idiv, 1) := by decide +kernel
theorem dX3_mixed_22 : decode cX3_mixed 22 = .ok (.iload_n 2, 1) := by decide +kernel
theorem dX3_mixed_23 : decode cX3_mixed 23 = .ok (.iconst 2, 1) := by decide +kernel
theorem dX3_mixed_24 : decode cX3_mixed 24 = .ok (.idiv, 1) := by decide +kernel
theorem dX3_mixed_25 : decode cX3_mixed 25 = .ok (.invokevirtual 32, 3) := by decide +kernel
theorem dX3_mixed_28 : decode cX3_mixed 28 = .ok (.sipush 128, 3) := by decide +kernel
theorem dX3_mixed_31 : decode cX3_mixed 31 = .ok (.isub, 1) := by decide +kernel
theorem dX3_mixed_32 : decode cX3_mixed 32 = .ok (.i2f, 1) := by decide +kernel
theorem dX3_mixed_33 : decode cX3_mixed 33 = .ok (.fstore 4, 2) := by decide +kernel
theorem dX3_mixed_35 : decode cX3_mixed 35 = .ok (.aload_n 0, 1) := by decide +kernel
theorem dX3_mixed_36 : decode cX3_mixed 36 = .ok (.getfield 11, 3) := by decide +kernel
theorem dX3_mixed_39 : decode cX3_mixed 39 = .ok (.iconst 2, 1) := by decide +kernel
theorem dX3_mixed_40 : decode cX3_mixed 40 = .ok (.aaload, 1) := by decide +kernel
theorem dX3_mixed_41 : decode cX3_mixed 41 = .ok (.iload_n 1, 1) := by decide +kernel
theorem dX3_mixed_42 : decode cX3_mixed 42 = .ok (.iconst 2, 1) := by decide +kernel
theorem dX3_mixed_43 : decode cX3_mixed 43 = .ok (.idiv, 1) := by decide +kernel
theorem dX3_mixed_44 : decode cX3_mixed 44 = .ok (.iload_n 2, 1) := by decide +kernel
theorem dX3_mixed_45 : decode cX3_mixed 45 = .ok (.iconst 2, 1) := by decide +kernel
theorem dX3_mixed_46 : decode cX3_mixed 46 = .ok (.idiv, 1) := by decide +kernel
theorem dX3_mixed_47 : decode cX3_mixed 47 = .ok (.invokevirtual 32, 3) := by decide +kernel
theorem dX3_mixed_50 : decode cX3_mixed 50 = .ok (.sipush 128, 3) := by decide +kernel
theorem dX3_mixed_53 : decode cX3_mixed 53 = .ok (.isub, 1) := by decide +kernel
theorem dX3_mixed_54 : decode cX3_mixed 54 = .ok (.i2f, 1) := by decide +kernel
theorem dX3_mixed_55 : decode cX3_mixed 55 = .ok (.fstore 5, 2) := by decide +kernel
theorem dX3_mixed_57 : decode cX3_mixed 57 = .ok (.fload_n 3, 1) := by decide +kernel
theorem dX3_mixed_58 : decode cX3_mixed 58 = .ok (.ldc 36, 2) := by decide +kernel
theorem dX3_mixed_60 : decode cX3_mixed 60 = .ok (.fload 5, 2) := by decide +kernel
theorem dX3_mixed_62 : decode cX3_mixed 62 = .ok (.fmul, 1) := by decide +kernel
theorem dX3_mixed_63 : decode cX3_mixed 63 = .ok (.fadd, 1) := by decide +kernel
theorem dX3_mixed_64 : decode cX3_mixed 64 = .ok (.invokestatic 37, 3) := by decide +kernel
theorem dX3_mixed_67 : decode cX3_mixed 67 = .ok (.istore 6, 2) := by decide +kernel
theorem dX3_mixed_69 : decode cX3_mixed 69 = .ok (.fload_n 3, 1) := by decide +kernel
theorem dX3_mixed_70 : decode cX3_mixed 70 = .ok (.ldc 41, 2) := by decide +kernel
theorem dX3_mixed_72 : decode cX3_mixed 72 = .ok (.fload 4, 2) := by decide +kernel
theorem dX3_mixed_74 : decode cX3_mixed 74 = .ok (.fmul, 1) := by decide +kernel
theorem dX3_mixed_75 : decode cX3_mixed 75 = .ok (.fsub, 1) := by decide +kernel
theorem dX3_mixed_76 : decode cX3_mixed 76 = .ok (.ldc 42, 2) := by decide +kernel
theorem dX3_mixed_78 : decode cX3_mixed 78 = .ok (.fload 5, 2) := by decide +kernel
theorem dX3_mixed_80 : decode cX3_mixed 80 = .ok (.fmul, 1) := by decide +kernel
theorem dX3_mixed_81 : decode cX3_mixed 81 = .ok (.fsub, 1) := by decide +kernel
theorem dX3_mixed_82 : decode cX3_mixed 82 = .ok (.invokestatic 37, 3) := by decide +kernel
theorem dX3_mixed_85 : decode cX3_mixed 85 = .ok (.istore 7, 2) := by decide +kernel
theorem dX3_mixed_87 : decode cX3_mixed 87 = .ok (.fload_n 3, 1) := by decide +kernel
theorem dX3_mixed_88 : decode cX3_mixed 88 = .ok (.ldc 43, 2) := by decide +kernel
theorem dX3_mixed_90 : decode cX3_mixed 90 = .ok (.fload 4, 2) := by decide +kernel
theorem dX3_mixed_92 : decode cX3_mixed 92 = .ok (.fmul, 1) := by decide +kernel
theorem dX3_mixed_93 : decode cX3_mixed 93 = .ok (.fadd, 1) := by decide +kernel
theorem dX3_mixed_94 : decode cX3_mixed 94 = .ok (.invokestatic 37, 3) := by decide +kernel
theorem dX3_mixed_97 : decode cX3_mixed 97 = .ok (.istore 8, 2) := by decide +kernel
theorem dX3_mixed_99 : decode cX3_mixed 99 = .ok (.ldc 44, 2) := by decide +kernel
theorem dX3_mixed_101 : decode cX3_mixed 101 = .ok (.iload 6, 2) := by decide +kernel
theorem dX3_mixed_103 : decode cX3_mixed 103 = .ok (.imul, 1) := by decide +kernel
theorem dX3_mixed_104 : decode cX3_mixed 104 = .ok (.sipush 256, 3) := by decide +kernel
theorem dX3_mixed_107 : decode cX3_mixed 107 = .ok (.iload 7, 2) := by decide +kernel
theorem dX3_mixed_109 : decode cX3_mixed 109 = .ok (.imul, 1) := by decide +kernel
theorem dX3_mixed_110 : decode cX3_mixed 110 = .ok (.iadd, 1) := by decide +kernel
theorem dX3_mixed_111 : decode cX3_mixed 111 = .ok (.iload 8, 2) := by decide +kernel
theorem dX3_mixed_113 : decode cX3_mixed 113 = .ok (.iadd, 1) := by decide +kernel
theorem dX3_mixed_114 : decode cX3_mixed 114 = .ok (.ireturn, 1) := by decide +kernel
theorem dX3_tone_0 : decode cX3_tone 0 = .ok (.fload_n 0, 1) := by decide +kernel
theorem dX3_tone_1 : decode cX3_tone 1 = .ok (.ldc 45, 2) := by decide +kernel
theorem dX3_tone_3 : decode cX3_tone 3 = .ok (.fadd, 1) := by decide +kernel
theorem dX3_tone_4 : decode cX3_tone 4 = .ok (.f2i, 1) := by decide +kernel
theorem dX3_tone_5 : decode cX3_tone 5 = .ok (.iconst 0, 1) := by decide +kernel
theorem dX3_tone_6 : decode cX3_tone 6 = .ok (.sipush 255, 3) := by decide +kernel
theorem dX3_tone_9 : decode cX3_tone 9 = .ok (.invokestatic 46, 3) := by decide +kernel
theorem dX3_tone_12 : decode cX3_tone 12 = .ok (.ireturn, 1) := by decide +kernel
theorem dX4_init_0 : decode cX4_init 0 = .ok (.aload_n 0, 1) := by decide +kernel
theorem dX4_init_1 : decode cX4_init 1 = .ok (.invokespecial 3, 3) := by decide +kernel
theorem dX4_init_4 : decode cX4_init 4 = .ok (.aload_n 0, 1) := by decide +kernel
theorem dX4_init_5 : decode cX4_init 5 = .ok (.iload_n 1, 1) := by decide +kernel
theorem dX4_init_6 : decode cX4_init 6 = .ok (.putfield 9, 3) := by decide +kernel
theorem dX4_init_9 : decode cX4_init 9 = .ok (.aload_n 0, 1) := by decide +kernel
theorem dX4_init_10 : decode cX4_init 10 = .ok (.iload_n 1, 1) := by decide +kernel
theorem dX4_init_11 : decode cX4_init 11 = .ok (.iconst 4, 1) := by decide +kernel
theorem dX4_init_12 : decode cX4_init 12 = .ok (.imul, 1) := by decide +kernel
theorem dX4_init_13 : decode cX4_init 13 = .ok (.iload_n 1, 1) := by decide +kernel
theorem dX4_init_14 : decode cX4_init 14 = .ok (.imul, 1) := by decide +kernel
theorem dX4_init_15 : decode cX4_init 15 = .ok (.iconst 3, 1) := by decide +kernel
theorem dX4_init_16 : decode cX4_init 16 = .ok (.imul, 1) := by decide +kernel
theorem dX4_init_17 : decode cX4_init 17 = .ok (.newarray .int, 2) := by decide +kernel
theorem dX4_init_19 : decode cX4_init 19 = .ok (.putfield 15, 3) := by decide +kernel
theorem dX4_init_22 : decode cX4_init 22 = .ok (.aload_n 0, 1) := by decide +kernel
theorem dX4_init_23 : decode cX4_init 23 = .ok (.iload_n 1, 1) := by decide +kernel
theorem dX4_init_24 : decode cX4_init 24 = .ok (.putfield 19, 3) := by decide +kernel
theorem dX4_init_27 : decode cX4_init 27 = .ok (.aload_n 0, 1) := by decide +kernel
theorem dX4_init_28 : decode cX4_init 28 = .ok (.iload_n 1, 1) := by decide +kernel
theorem dX4_init_29 : decode cX4_init 29 = .ok (.putfield 22, 3) := by decide +kernel
theorem dX4_init_32 : decode cX4_init 32 = .ok (.return_, 1) := by decide +kernel
theorem dX4_clear_0 : decode cX4_clear 0 = .ok (.aload_n 0, 1) := by decide +kernel
theorem dX4_clear_1 : decode cX4_clear 1 = .ok (.aload_n 0, 1) := by decide +kernel
theorem dX4_clear_2 : decode cX4_clear 2 = .ok (.getfield 9, 3) := by decide +kernel
theorem dX4_clear_5 : decode cX4_clear 5 = .ok (.iload_n 1, 1) := by decide +kernel
theorem dX4_clear_6 : decode cX4_clear 6 = .ok (.imul, 1) := by decide +kernel
theorem dX4_clear_7 : decode cX4_clear 7 = .ok (.putfield 19, 3) := by decide +kernel
theorem dX4_clear_10 : decode cX4_clear 10 = .ok (.aload_n 0, 1) := by decide +kernel
theorem dX4_clear_11 : decode cX4_clear 11 = .ok (.aload_n 0, 1) := by decide +kernel
theorem dX4_clear_12 : decode cX4_clear 12 = .ok (.getfield 9, 3) := by decide +kernel
theorem dX4_clear_15 : decode cX4_clear 15 = .ok (.iload_n 2, 1) := by decide +kernel
theorem dX4_clear_16 : decode cX4_clear 16 = .ok (.imul, 1) := by decide +kernel
theorem dX4_clear_17 : decode cX4_clear 17 = .ok (.putfield 22, 3) := by decide +kernel
theorem dX4_clear_20 : decode cX4_clear 20 = .ok (.aload_n 0, 1) := by decide +kernel
theorem dX4_clear_21 : decode cX4_clear 21 = .ok (.getfield 15, 3) := by decide +kernel
theorem dX4_clear_24 : decode cX4_clear 24 = .ok (.sipush 128, 3) := by decide +kernel
theorem dX4_clear_27 : decode cX4_clear 27 = .ok (.invokestatic 25, 3) := by decide +kernel
theorem dX4_clear_30 : decode cX4_clear 30 = .ok (.return_, 1) := by decide +kernel
theorem dX4_copyFrom_0 : decode cX4_copyFrom 0 = .ok (.aload_n 1, 1) := by decide +kernel
theorem dX4_copyFrom_1 : decode cX4_copyFrom 1 = .ok (.getfield 15, 3) := by decide +kernel
theorem dX4_copyFrom_4 : decode cX4_copyFrom 4 = .ok (.iconst 0, 1) := by decide +kernel
theorem dX4_copyFrom_5 : decode cX4_copyFrom 5 = .ok (.aload_n 0, 1) := by decide +kernel
theorem dX4_copyFrom_6 : decode cX4_copyFrom 6 = .ok (.getfield 15, 3) := by decide +kernel
theorem dX4_copyFrom_9 : decode cX4_copyFrom 9 = .ok (.iconst 0, 1) := by decide +kernel
theorem dX4_copyFrom_10 : decode cX4_copyFrom 10 = .ok (.aload_n 0, 1) := by decide +kernel
theorem dX4_copyFrom_11 : decode cX4_copyFrom 11 = .ok (.getfield 19, 3) := by decide +kernel
theorem dX4_copyFrom_14 : decode cX4_copyFrom 14 = .ok (.aload_n 0, 1) := by decide +kernel
theorem dX4_copyFrom_15 : decode cX4_copyFrom 15 = .ok (.getfield 22, 3) := by decide +kernel
theorem dX4_copyFrom_18 : decode cX4_copyFrom 18 = .ok (.imul, 1) := by decide +kernel
theorem dX4_copyFrom_19 : decode cX4_copyFrom 19 = .ok (.invokestatic 31, 3) := by decide +kernel
theorem dX4_copyFrom_22 : decode cX4_copyFrom 22 = .ok (.return_, 1) := by decide +kernel
theorem dX4_holds_0 : decode cX4_holds 0 = .ok (.iload_n 1, 1) := by decide +kernel
theorem dX4_holds_1 : decode cX4_holds 1 = .ok (.iconst 0, 1) := by decide +kernel
theorem dX4_holds_2 : decode cX4_holds 2 = .ok (.aload_n 0, 1) := by decide +kernel
theorem dX4_holds_3 : decode cX4_holds 3 = .ok (.getfield 19, 3) := by decide +kernel
theorem dX4_holds_6 : decode cX4_holds 6 = .ok (.iconst 1, 1) := by decide +kernel
theorem dX4_holds_7 : decode cX4_holds 7 = .ok (.isub, 1) := by decide +kernel
theorem dX4_holds_8 : decode cX4_holds 8 = .ok (.invokestatic 37, 3) := by decide +kernel
theorem dX4_holds_11 : decode cX4_holds 11 = .ok (.ifCond .eq 21, 3) := by decide +kernel
theorem dX4_holds_14 : decode cX4_holds 14 = .ok (.iload_n 2, 1) := by decide +kernel
theorem dX4_holds_15 : decode cX4_holds 15 = .ok (.iconst 0, 1) := by decide +kernel
theorem dX4_holds_16 : decode cX4_holds 16 = .ok (.aload_n 0, 1) := by decide +kernel
theorem dX4_holds_17 : decode cX4_holds 17 = .ok (.getfield 22, 3) := by decide +kernel
theorem dX4_holds_20 : decode cX4_holds 20 = .ok (.iconst 1, 1) := by decide +kernel
theorem dX4_holds_21 : decode cX4_holds 21 = .ok (.isub, 1) := by decide +kernel
theorem dX4_holds_22 : decode cX4_holds 22 = .ok (.invokestatic 37, 3) := by decide +kernel
theorem dX4_holds_25 : decode cX4_holds 25 = .ok (.ifCond .eq 7, 3) := by decide +kernel
theorem dX4_holds_28 : decode cX4_holds 28 = .ok (.iconst 1, 1) := by decide +kernel
theorem dX4_holds_29 : decode cX4_holds 29 = .ok (.goto 4, 3) := by decide +kernel
theorem dX4_holds_32 : decode cX4_holds 32 = .ok (.iconst 0, 1) := by decide +kernel
theorem dX4_holds_33 : decode cX4_holds 33 = .ok (.ireturn, 1) := by decide +kernel
theorem dX4_nearest_0 : decode cX4_nearest 0 = .ok (.aload_n 0, 1) := by decide +kernel
theorem dX4_nearest_1 : decode cX4_nearest 1 = .ok (.getfield 15, 3) := by decide +kernel
theorem dX4_nearest_4 : decode cX4_nearest 4 = .ok (.iload_n 2, 1) := by decide +kernel
theorem dX4_nearest_5 : decode cX4_nearest 5 = .ok (.iconst 0, 1) := by decide +kernel
theorem dX4_nearest_6 : decode cX4_nearest 6 = .ok (.aload_n 0, 1) := by decide +kernel
theorem dX4_nearest_7 : decode cX4_nearest 7 = .ok (.getfield 22, 3) := by decide +kernel
theorem dX4_nearest_10 : decode cX4_nearest 10 = .ok (.iconst 1, 1) := by decide +kernel
theorem dX4_nearest_11 : decode cX4_nearest 11 = .ok (.isub, 1) := by decide +kernel
theorem dX4_nearest_12 : decode cX4_nearest 12 = .ok (.invokestatic 41, 3) := by decide +kernel
theorem dX4_nearest_15 : decode cX4_nearest 15 = .ok (.aload_n 0, 1) := by decide +kernel
theorem dX4_nearest_16 : decode cX4_nearest 16 = .ok (.getfield 19, 3) := by decide +kernel
theorem dX4_nearest_19 : decode cX4_nearest 19 = .ok (.imul, 1) := by decide +kernel
theorem dX4_nearest_20 : decode cX4_nearest 20 = .ok (.iload_n 1, 1) := by decide +kernel
theorem dX4_nearest_21 : decode cX4_nearest 21 = .ok (.iconst 0, 1) := by decide +kernel
theorem dX4_nearest_22 : decode cX4_nearest 22 = .ok (.aload_n 0, 1) := by decide +kernel
theorem dX4_nearest_23 : decode cX4_nearest 23 = .ok (.getfield 19, 3) := by decide +kernel
theorem dX4_nearest_26 : decode cX4_nearest 26 = .ok (.iconst 1, 1) := by decide +kernel
theorem dX4_nearest_27 : decode cX4_nearest 27 = .ok (.isub, 1) := by decide +kernel
theorem dX4_nearest_28 : decode cX4_nearest 28 = .ok (.invokestatic 41, 3) := by decide +kernel
theorem dX4_nearest_31 : decode cX4_nearest 31 = .ok (.iadd, 1) := by decide +kernel
theorem dX4_nearest_32 : decode cX4_nearest 32 = .ok (.iaload, 1) := by decide +kernel
theorem dX4_nearest_33 : decode cX4_nearest 33 = .ok (.ireturn, 1) := by decide +kernel
theorem dX4_put_0 : decode cX4_put 0 = .ok (.aload_n 0, 1) := by decide +kernel
theorem dX4_put_1 : decode cX4_put 1 = .ok (.iload_n 1, 1) := by decide +kernel
theorem dX4_put_2 : decode cX4_put 2 = .ok (.iload_n 2, 1) := by decide +kernel
theorem dX4_put_3 : decode cX4_put 3 = .ok (.invokevirtual 45, 3) := by decide +kernel
theorem dX4_put_6 : decode cX4_put 6 = .ok (.ifCond .eq 24, 3) := by decide +kernel
theorem dX4_put_9 : decode cX4_put 9 = .ok (.aload_n 0, 1) := by decide +kernel
theorem dX4_put_10 : decode cX4_put 10 = .ok (.getfield 15, 3) := by decide +kernel
theorem dX4_put_13 : decode cX4_put 13 = .ok (.iload_n 2, 1) := by decide +kernel
theorem dX4_put_14 : decode cX4_put 14 = .ok (.aload_n 0, 1) := by decide +kernel
theorem dX4_put_15 : decode cX4_put 15 = .ok (.getfield 19, 3) := by decide +kernel
theorem dX4_put_18 : decode cX4_put 18 = .ok (.imul, 1) := by decide +kernel
theorem dX4_put_19 : decode cX4_put 19 = .ok (.iload_n 1, 1) := by decide +kernel
theorem dX4_put_20 : decode cX4_put 20 = .ok (.iadd, 1) := by decide +kernel
theorem dX4_put_21 : decode cX4_put 21 = .ok (.iload_n 3, 1) := by decide +kernel
theorem dX4_put_22 : decode cX4_put 22 = .ok (.iconst 0, 1) := by decide +kernel
theorem dX4_put_23 : decode cX4_put 23 = .ok (.sipush 255, 3) := by decide +kernel
theorem dX4_put_26 : decode cX4_put 26 = .ok (.invokestatic 41, 3) := by decide +kernel
theorem dX4_put_29 : decode cX4_put 29 = .ok (.iastore, 1) := by decide +kernel
theorem dX4_put_30 : decode cX4_put 30 = .ok (.return_, 1) := by decide +kernel
theorem dX4_putBlock_0 : decode cX4_putBlock 0 = .ok (.iconst 0, 1) := by decide +kernel
theorem dX4_putBlock_1 : decode cX4_putBlock 1 = .ok (.istore 5, 2) := by decide +kernel
theorem dX4_putBlock_3 : decode cX4_putBlock 3 = .ok (.iload 5, 2) := by decide +kernel
theorem dX4_putBlock_5 : decode cX4_putBlock 5 = .ok (.bipush 64, 2) := by decide +kernel
theorem dX4_putBlock_7 : decode cX4_putBlock 7 = .ok (.if_icmp .ge 60, 3) := by decide +kernel
theorem dX4_putBlock_10 : decode cX4_putBlock 10 = .ok (.iload_n 1, 1) := by decide +kernel
theorem dX4_putBlock_11 : decode cX4_putBlock 11 = .ok (.iload 5, 2) := by decide +kernel
theorem dX4_putBlock_13 : decode cX4_putBlock 13 = .ok (.bipush 8, 2) := by decide +kernel
theorem dX4_putBlock_15 : decode cX4_putBlock 15 = .ok (.irem, 1) := by decide +kernel
theorem dX4_putBlock_16 : decode cX4_putBlock 16 = .ok (.iadd, 1) := by decide +kernel
theorem dX4_putBlock_17 : decode cX4_putBlock 17 = .ok (.istore 6, 2) := by decide +kernel
theorem dX4_putBlock_19 : decode cX4_putBlock 19 = .ok (.iload_n 2, 1) := by decide +kernel
theorem dX4_putBlock_20 : decode cX4_putBlock 20 = .ok (.iload 5, 2) := by decide +kernel
theorem dX4_putBlock_22 : decode cX4_putBlock 22 = .ok (.bipush 8, 2) := by decide +kernel
theorem dX4_putBlock_24 : decode cX4_putBlock 24 = .ok (.idiv, 1) := by decide +kernel
theorem dX4_putBlock_25 : decode cX4_putBlock 25 = .ok (.iadd, 1) := by decide +kernel
theorem dX4_putBlock_26 : decode cX4_putBlock 26 = .ok (.istore 7, 2) := by decide +kernel
theorem dX4_putBlock_28 : decode cX4_putBlock 28 = .ok (.aload_n 0, 1) := by decide +kernel
theorem dX4_putBlock_29 : decode cX4_putBlock 29 = .ok (.iload 6, 2) := by decide +kernel
theorem dX4_putBlock_31 : decode cX4_putBlock 31 = .ok (.iload 7, 2) := by decide +kernel
theorem dX4_putBlock_33 : decode cX4_putBlock 33 = .ok (.iload 4, 2) := by decide +kernel
theorem dX4_putBlock_35 : decode cX4_putBlock 35 = .ok (.ifCond .eq 19, 3) := by decide +kernel
theorem dX4_putBlock_38 : decode cX4_putBlock 38 = .ok (.aload_n 0, 1) := by decide +kernel
theorem dX4_putBlock_39 : decode cX4_putBlock 39 = .ok (.iload 6, 2) := by decide +kernel
theorem dX4_putBlock_41 : decode cX4_putBlock 41 = .ok (.iload 7, 2) := by decide +kernel
theorem dX4_putBlock_43 : decode cX4_putBlock 43 = .ok (.invokevirtual 49, 3) := by decide +kernel
theorem dX4_putBlock_46 : decode cX4_putBlock 46 = .ok (.aload_n 3, 1) := by decide +kernel
theorem dX4_putBlock_47 : decode cX4_putBlock 47 = .ok (.iload 5, 2) := by decide +kernel
theorem dX4_putBlock_49 : decode cX4_putBlock 49 = .ok (.iaload, 1) := by decide +kernel
theorem dX4_putBlock_50 : decode cX4_putBlock 50 = .ok (.iadd, 1) := by decide +kernel
theorem dX4_putBlock_51 : decode cX4_putBlock 51 = .ok (.goto 7, 3) := by decide +kernel
theorem dX4_putBlock_54 : decode cX4_putBlock 54 = .ok (.aload_n 3, 1) := by decide +kernel
theorem dX4_putBlock_55 : decode cX4_putBlock 55 = .ok (.iload 5, 2) := by decide +kernel
theorem dX4_putBlock_57 : decode cX4_putBlock 57 = .ok (.iaload, 1) := by decide +kernel
theorem dX4_putBlock_58 : decode cX4_putBlock 58 = .ok (.invokevirtual 53, 3) := by decide +kernel
theorem dX4_putBlock_61 : decode cX4_putBlock 61 = .ok (.iinc 5 1, 3) := by decide +kernel
theorem dX4_putBlock_64 : decode cX4_putBlock 64 = .ok (.goto (-61), 3) := by decide +kernel
theorem dX4_putBlock_67 : decode cX4_putBlock 67 = .ok (.return_, 1) := by decide +kernel
theorem dX4_fetchSquare_0 : decode cX4_fetchSquare 0 = .ok (.iload_n 3, 1) := by decide +kernel
theorem dX4_fetchSquare_1 : decode cX4_fetchSquare 1 = .ok (.istore 7, 2) := by decide +kernel
theorem dX4_fetchSquare_3 : decode cX4_fetchSquare 3 = .ok (.iload 7, 2) := by decide +kernel
theorem dX4_fetchSquare_5 : decode cX4_fetchSquare 5 = .ok (.iload_n 3, 1) := by decide +kernel
theorem dX4_fetchSquare_6 : decode cX4_fetchSquare 6 = .ok (.aload_n 0, 1) := by decide +kernel
theorem dX4_fetchSquare_7 : decode cX4_fetchSquare 7 = .ok (.getfield 9, 3) := by decide +kernel
theorem dX4_fetchSquare_10 : decode cX4_fetchSquare 10 = .ok (.iadd, 1) := by decide +kernel
theorem dX4_fetchSquare_11 : decode cX4_fetchSquare 11 = .ok (.if_icmp .ge 76, 3) := by decide +kernel
theorem dX4_fetchSquare_14 : decode cX4_fetchSquare 14 = .ok (.iload_n 2, 1) := by decide +kernel
theorem dX4_fetchSquare_15 : decode cX4_fetchSquare 15 = .ok (.istore 8, 2) := by decide +kernel
theorem dX4_fetchSquare_17 : decode cX4_fetchSquare 17 = .ok (.iload 8, 2) := by decide +kernel
theorem dX4_fetchSquare_19 : decode cX4_fetchSquare 19 = .ok (.iload_n 2, 1) := by decide +kernel
theorem dX4_fetchSquare_20 : decode cX4_fetchSquare 20 = .ok (.aload_n 0, 1) := by decide +kernel
theorem dX4_fetchSquare_21 : decode cX4_fetchSquare 21 = .ok (.getfield 9, 3) := by decide +kernel
theorem dX4_fetchSquare_24 : decode cX4_fetchSquare 24 = .ok (.iadd, 1) := by decide +kernel
theorem dX4_fetchSquare_25 : decode cX4_fetchSquare 25 = .ok (.if_icmp .ge 56, 3) := by decide +kernel
theorem dX4_fetchSquare_28 : decode cX4_fetchSquare 28 = .ok (.aload_n 1, 1) := by decide +kernel
theorem dX4_fetchSquare_29 : decode cX4_fetchSquare 29 = .ok (.iload 8, 2) := by decide +kernel
theorem dX4_fetchSquare_31 : decode cX4_fetchSquare 31 = .ok (.iload 7, 2) := by decide +kernel
theorem dX4_fetchSquare_33 : decode cX4_fetchSquare 33 = .ok (.iload 4, 2) := by decide +kernel
theorem dX4_fetchSquare_35 : decode cX4_fetchSquare 35 = .ok (.iload 5, 2) := by decide +kernel
theorem dX4_fetchSquare_37 : decode cX4_fetchSquare 37 = .ok (.invokevirtual 57, 3) := by decide +kernel
theorem dX4_fetchSquare_40 : decode cX4_fetchSquare 40 = .ok (.istore 9, 2) := by decide +kernel
theorem dX4_fetchSquare_42 : decode cX4_fetchSquare 42 = .ok (.aload_n 0, 1) := by decide +kernel
theorem dX4_fetchSquare_43 : decode cX4_fetchSquare 43 = .ok (.iload 8, 2) := by decide +kernel
theorem dX4_fetchSquare_45 : decode cX4_fetchSquare 45 = .ok (.iload 7, 2) := by decide +kernel
theorem dX4_fetchSquare_47 : decode cX4_fetchSquare 47 = .ok (.iload 6, 2) := by decide +kernel
theorem dX4_fetchSquare_49 : decode cX4_fetchSquare 49 = .ok (.ifCond .eq 21, 3) := by decide +kernel
theorem dX4_fetchSquare_52 : decode cX4_fetchSquare 52 = .ok (.aload_n 0, 1) := by decide +kernel
theorem dX4_fetchSquare_53 : decode cX4_fetchSquare 53 = .ok (.iload 8, 2) := by decide +kernel
theorem dX4_fetchSquare_55 : decode cX4_fetchSquare 55 = .ok (.iload 7, 2) := by decide +kernel
theorem dX4_fetchSquare_57 : decode cX4_fetchSquare 57 = .ok (.invokevirtual 49, 3) := by decide +kernel
theorem dX4_fetchSquare_60 : decode cX4_fetchSquare 60 = .ok (.iload 9, 2) := by decide +kernel
theorem dX4_fetchSquare_62 : decode cX4_fetchSquare 62 = .ok (.iadd, 1) := by decide +kernel
theorem dX4_fetchSquare_63 : decode cX4_fetchSquare 63 = .ok (.iconst 1, 1) := by decide +kernel
theorem dX4_fetchSquare_64 : decode cX4_fetchSquare 64 = .ok (.iadd, 1) := by decide +kernel
theorem dX4_fetchSquare_65 : decode cX4_fetchSquare 65 = .ok (.iconst 1, 1) := by decide +kernel
theorem dX4_fetchSquare_66 : decode cX4_fetchSquare 66 = .ok (.ishr, 1) := by decide +kernel
theorem dX4_fetchSquare_67 : decode cX4_fetchSquare 67 = .ok (.goto 5, 3) := by decide +kernel
theorem dX4_fetchSquare_70 : decode cX4_fetchSquare 70 = .ok (.iload 9, 2) := by decide +kernel
theorem dX4_fetchSquare_72 : decode cX4_fetchSquare 72 = .ok (.invokevirtual 53, 3) := by decide +kernel
theorem dX4_fetchSquare_75 : decode cX4_fetchSquare 75 = .ok (.iinc 8 1, 3) := by decide +kernel
theorem dX4_fetchSquare_78 : decode cX4_fetchSquare 78 = .ok (.goto (-61), 3) := by decide +kernel
theorem dX4_fetchSquare_81 : decode cX4_fetchSquare 81 = .ok (.iinc 7 1, 3) := by decide +kernel
theorem dX4_fetchSquare_84 : decode cX4_fetchSquare 84 = .ok (.goto (-81), 3) := by decide +kernel
theorem dX4_fetchSquare_87 : decode cX4_fetchSquare 87 = .ok (.return_, 1) := by decide +kernel
theorem dX4_fetched_0 : decode cX4_fetched 0 = .ok (.iload_n 1, 1) := by decide +kernel
theorem dX4_fetched_1 : decode cX4_fetched 1 = .ok (.iload_n 3, 1) := by decide +kernel
theorem dX4_fetched_2 : decode cX4_fetched 2 = .ok (.iconst 1, 1) := by decide +kernel
theorem dX4_fetched_3 : decode cX4_fetched 3 = .ok (.ishr, 1) := by decide +kernel
theorem dX4_fetched_4 : decode cX4_fetched 4 = .ok (.iadd, 1) := by decide +kernel
theorem dX4_fetched_5 : decode cX4_fetched 5 = .ok (.istore 5, 2) := by decide +kernel
theorem dX4_fetched_7 : decode cX4_fetched 7 = .ok (.iload_n 2, 1) := by decide +kernel
theorem dX4_fetched_8 : decode cX4_fetched 8 = .ok (.iload 4, 2) := by decide +kernel
theorem dX4_fetched_10 : decode cX4_fetched 10 = .ok (.iconst 1, 1) := by decide +kernel
theorem dX4_fetched_11 : decode cX4_fetched 11 = .ok (.ishr, 1) := by decide +kernel
theorem dX4_fetched_12 : decode cX4_fetched 12 = .ok (.iadd, 1) := by decide +kernel
theorem dX4_fetched_13 : decode cX4_fetched 13 = .ok (.istore 6, 2) := by decide +kernel
theorem dX4_fetched_15 : decode cX4_fetched 15 = .ok (.iload 5, 2) := by decide +kernel
theorem dX4_fetched_17 : decode cX4_fetched 17 = .ok (.iload_n 3, 1) := by decide +kernel
theorem dX4_fetched_18 : decode cX4_fetched 18 = .ok (.iconst 1, 1) := by decide +kernel
theorem dX4_fetched_19 : decode cX4_fetched 19 = .ok (.iand, 1) := by decide +kernel
theorem dX4_fetched_20 : decode cX4_fetched 20 = .ok (.iadd, 1) := by decide +kernel
theorem dX4_fetched_21 : decode cX4_fetched 21 = .ok (.istore 7, 2) := by decide +kernel
theorem dX4_fetched_23 : decode cX4_fetched 23 = .ok (.iload 6, 2) := by decide +kernel
theorem dX4_fetched_25 : decode cX4_fetched 25 = .ok (.iload 4, 2) := by decide +kernel
theorem dX4_fetched_27 : decode cX4_fetched 27 = .ok (.iconst 1, 1) := by decide +kernel
theorem dX4_fetched_28 : decode cX4_fetched 28 = .ok (.iand, 1) := by decide +kernel
theorem dX4_fetched_29 : decode cX4_fetched 29 = .ok (.iadd, 1) := by decide +kernel
theorem dX4_fetched_30 : decode cX4_fetched 30 = .ok (.istore 8, 2) := by decide +kernel
theorem dX4_fetched_32 : decode cX4_fetched 32 = .ok (.aload_n 0, 1) := by decide +kernel
theorem dX4_fetched_33 : decode cX4_fetched 33 = .ok (.iload 5, 2) := by decide +kernel
theorem dX4_fetched_35 : decode cX4_fetched 35 = .ok (.iload 6, 2) := by decide +kernel
theorem dX4_fetched_37 : decode cX4_fetched 37 = .ok (.invokevirtual 49, 3) := by decide +kernel
theorem dX4_fetched_40 : decode cX4_fetched 40 = .ok (.aload_n 0, 1) := by decide +kernel
theorem dX4_fetched_41 : decode cX4_fetched 41 = .ok (.iload 7, 2) := by decide +kernel
theorem dX4_fetched_43 : decode cX4_fetched 43 = .ok (.iload 6, 2) := by decide +kernel
theorem dX4_fetched_45 : decode cX4_fetched 45 = .ok (.invokevirtual 49, 3) := by decide +kernel
theorem dX4_fetched_48 : decode cX4_fetched 48 = .ok (.iadd, 1) := by decide +kernel
theorem dX4_fetched_49 : decode cX4_fetched 49 = .ok (.istore 9, 2) := by decide +kernel
theorem dX4_fetched_51 : decode cX4_fetched 51 = .ok (.iload 9, 2) := by decide +kernel
theorem dX4_fetched_53 : decode cX4_fetched 53 = .ok (.aload_n 0, 1) := by decide +kernel
theorem dX4_fetched_54 : decode cX4_fetched 54 = .ok (.iload 5, 2) := by decide +kernel
theorem dX4_fetched_56 : decode cX4_fetched 56 = .ok (.iload 8, 2) := by decide +kernel
theorem dX4_fetched_58 : decode cX4_fetched 58 = .ok (.invokevirtual 49, 3) := by decide +kernel
theorem dX4_fetched_61 : decode cX4_fetched 61 = .ok (.iadd, 1) := by decide +kernel
theorem dX4_fetched_62 : decode cX4_fetched 62 = .ok (.aload_n 0, 1) := by decide +kernel
theorem dX4_fetched_63 : decode cX4_fetched 63 = .ok (.iload 7, 2) := by decide +kernel
theorem dX4_fetched_65 : decode cX4_fetched 65 = .ok (.iload 8, 2) := by decide +kernel
theorem dX4_fetched_67 : decode cX4_fetched 67 = .ok (.invokevirtual 49, 3) := by decide +kernel
theorem dX4_fetched_70 : decode cX4_fetched 70 = .ok (.iadd, 1) := by decide +kernel
theorem dX4_fetched_71 : decode cX4_fetched 71 = .ok (.iconst 2, 1) := by decide +kernel
theorem dX4_fetched_72 : decode cX4_fetched 72 = .ok (.iadd, 1) := by decide +kernel
theorem dX4_fetched_73 : decode cX4_fetched 73 = .ok (.iconst 2, 1) := by decide +kernel
theorem dX4_fetched_74 : decode cX4_fetched 74 = .ok (.ishr, 1) := by decide +kernel
theorem dX4_fetched_75 : decode cX4_fetched 75 = .ok (.ireturn, 1) := by decide +kernel
theorem dX4_brighten_0 : decode cX4_brighten 0 = .ok (.iconst 0, 1) := by decide +kernel
theorem dX4_brighten_1 : decode cX4_brighten 1 = .ok (.istore_n 3, 1) := by decide +kernel
theorem dX4_brighten_2 : decode cX4_brighten 2 = .ok (.iload_n 3, 1) := by decide +kernel
theorem dX4_brighten_3 : decode cX4_brighten 3 = .ok (.aload_n 0, 1) := by decide +kernel
theorem dX4_brighten_4 : decode cX4_brighten 4 = .ok (.getfield 19, 3) := by decide +kernel
theorem dX4_brighten_7 : decode cX4_brighten 7 = .ok (.aload_n 0, 1) := by decide +kernel
theorem dX4_brighten_8 : decode cX4_brighten 8 = .ok (.getfield 22, 3) := by decide +kernel
theorem dX4_brighten_11 : decode cX4_brighten 11 = .ok (.imul, 1) := by decide +kernel
theorem dX4_brighten_12 : decode cX4_brighten 12 = .ok (.if_icmp .ge 34, 3) := by decide +kernel
theorem dX4_brighten_15 : decode cX4_brighten 15 = .ok (.aload_n 0, 1) := by decide +kernel
theorem dX4_brighten_16 : decode cX4_brighten 16 = .ok (.getfield 15, 3) := by decide +kernel
theorem dX4_brighten_19 : decode cX4_brighten 19 = .ok (.iload_n 3, 1) := by decide +kernel
theorem dX4_brighten_20 : decode cX4_brighten 20 = .ok (.fload_n 1, 1) := by decide +kernel
theorem dX4_brighten_21 : decode cX4_brighten 21 = .ok (.aload_n 0, 1) := by decide +kernel
theorem dX4_brighten_22 : decode cX4_brighten 22 = .ok (.getfield 15, 3) := by decide +kernel
theorem dX4_brighten_25 : decode cX4_brighten 25 = .ok (.iload_n 3, 1) := by decide +kernel
theorem dX4_brighten_26 : decode cX4_brighten 26 = .ok (.iaload, 1) := by decide +kernel
theorem dX4_brighten_27 : decode cX4_brighten 27 = .ok (.i2f, 1) := by decide +kernel
theorem dX4_brighten_28 : decode cX4_brighten 28 = .ok (.fmul, 1) := by decide +kernel
theorem dX4_brighten_29 : decode cX4_brighten 29 = .ok (.fload_n 2, 1) := by decide +kernel
theorem dX4_brighten_30 : decode cX4_brighten 30 = .ok (.fadd, 1) := by decide +kernel
theorem dX4_brighten_31 : decode cX4_brighten 31 = .ok (.f2i, 1) := by decide +kernel
theorem dX4_brighten_32 : decode cX4_brighten 32 = .ok (.iconst 0, 1) := by decide +kernel
theorem dX4_brighten_33 : decode cX4_brighten 33 = .ok (.sipush 255, 3) := by decide +kernel
theorem dX4_brighten_36 : decode cX4_brighten 36 = .ok (.invokestatic 41, 3) := by decide +kernel
theorem dX4_brighten_39 : decode cX4_brighten 39 = .ok (.iastore, 1) := by decide +kernel
theorem dX4_brighten_40 : decode cX4_brighten 40 = .ok (.iinc 3 1, 3) := by decide +kernel
theorem dX4_brighten_43 : decode cX4_brighten 43 = .ok (.goto (-41), 3) := by decide +kernel
theorem dX4_brighten_46 : decode cX4_brighten 46 = .ok (.return_, 1) := by decide +kernel
theorem dX4_meanSquareTo_0 : decode cX4_meanSquareTo 0 = .ok (.aload_n 0, 1) := by decide +kernel
theorem dX4_meanSquareTo_1 : decode cX4_meanSquareTo 1 = .ok (.getfield 19, 3) := by decide +kernel
theorem dX4_meanSquareTo_4 : decode cX4_meanSquareTo 4 = .ok (.aload_n 0, 1) := by decide +kernel
theorem dX4_meanSquareTo_5 : decode cX4_meanSquareTo 5 = .ok (.getfield 22, 3) := by decide +kernel
theorem dX4_meanSquareTo_8 : decode cX4_meanSquareTo 8 = .ok (.imul, 1) := by decide +kernel
theorem dX4_meanSquareTo_9 : decode cX4_meanSquareTo 9 = .ok (.istore_n 2, 1) := by decide +kernel
theorem dX4_meanSquareTo_10 : decode cX4_meanSquareTo 10 = .ok (.fconst 0, 1) := by decide +kernel
theorem dX4_meanSquareTo_11 : decode cX4_meanSquareTo 11 = .ok (.fstore_n 3, 1) := by decide +kernel
theorem dX4_meanSquareTo_12 : decode cX4_meanSquareTo 12 = .ok (.iconst 0, 1) := by decide +kernel
theorem dX4_meanSquareTo_13 : decode cX4_meanSquareTo 13 = .ok (.istore 4, 2) := by decide +kernel
theorem dX4_meanSquareTo_15 : decode cX4_meanSquareTo 15 = .ok (.iload 4, 2) := by decide +kernel
theorem dX4_meanSquareTo_17 : decode cX4_meanSquareTo 17 = .ok (.iload_n 2, 1) := by decide +kernel
theorem dX4_meanSquareTo_18 : decode cX4_meanSquareTo 18 = .ok (.if_icmp .ge 35, 3) := by decide +kernel
theorem dX4_meanSquareTo_21 : decode cX4_meanSquareTo 21 = .ok (.aload_n 0, 1) := by decide +kernel
theorem dX4_meanSquareTo_22 : decode cX4_meanSquareTo 22 = .ok (.getfield 15, 3) := by decide +kernel
theorem dX4_meanSquareTo_25 : decode cX4_meanSquareTo 25 = .ok (.iload 4, 2) := by decide +kernel
theorem dX4_meanSquareTo_27 : decode cX4_meanSquareTo 27 = .ok (.iaload, 1) := by decide +kernel
theorem dX4_meanSquareTo_28 : decode cX4_meanSquareTo 28 = .ok (.aload_n 1, 1) := by decide +kernel
theorem dX4_meanSquareTo_29 : decode cX4_meanSquareTo 29 = .ok (.getfield 15, 3) := by decide +kernel
theorem dX4_meanSquareTo_32 : decode cX4_meanSquareTo 32 = .ok (.iload 4, 2) := by decide +kernel
theorem dX4_meanSquareTo_34 : decode cX4_meanSquareTo 34 = .ok (.iaload, 1) := by decide +kernel
theorem dX4_meanSquareTo_35 : decode cX4_meanSquareTo 35 = .ok (.isub, 1) := by decide +kernel
theorem dX4_meanSquareTo_36 : decode cX4_meanSquareTo 36 = .ok (.i2f, 1) := by decide +kernel
theorem dX4_meanSquareTo_37 : decode cX4_meanSquareTo 37 = .ok (.fstore 5, 2) := by decide +kernel
theorem dX4_meanSquareTo_39 : decode cX4_meanSquareTo 39 = .ok (.fload_n 3, 1) := by decide +kernel
theorem dX4_meanSquareTo_40 : decode cX4_meanSquareTo 40 = .ok (.fload 5, 2) := by decide +kernel
theorem dX4_meanSquareTo_42 : decode cX4_meanSquareTo 42 = .ok (.fload 5, 2) := by decide +kernel
theorem dX4_meanSquareTo_44 : decode cX4_meanSquareTo 44 = .ok (.fmul, 1) := by decide +kernel
theorem dX4_meanSquareTo_45 : decode cX4_meanSquareTo 45 = .ok (.fadd, 1) := by decide +kernel
theorem dX4_meanSquareTo_46 : decode cX4_meanSquareTo 46 = .ok (.fstore_n 3, 1) := by decide +kernel
theorem dX4_meanSquareTo_47 : decode cX4_meanSquareTo 47 = .ok (.iinc 4 1, 3) := by decide +kernel
theorem dX4_meanSquareTo_50 : decode cX4_meanSquareTo 50 = .ok (.goto (-35), 3) := by decide +kernel
theorem dX4_meanSquareTo_53 : decode cX4_meanSquareTo 53 = .ok (.fload_n 3, 1) := by decide +kernel
theorem dX4_meanSquareTo_54 : decode cX4_meanSquareTo 54 = .ok (.iload_n 2, 1) := by decide +kernel
theorem dX4_meanSquareTo_55 : decode cX4_meanSquareTo 55 = .ok (.i2f, 1) := by decide +kernel
theorem dX4_meanSquareTo_56 : decode cX4_meanSquareTo 56 = .ok (.fdiv, 1) := by decide +kernel
theorem dX4_meanSquareTo_57 : decode cX4_meanSquareTo 57 = .ok (.freturn, 1) := by decide +kernel
theorem dX5_init_0 : decode cX5_init 0 = .ok (.aload_n 0, 1) := by decide +kernel
theorem dX5_init_1 : decode cX5_init 1 = .ok (.invokespecial 1, 3) := by decide +kernel
theorem dX5_init_4 : decode cX5_init 4 = .ok (.aload_n 0, 1) := by decide +kernel
theorem dX5_init_5 : decode cX5_init 5 = .ok (.new 7, 3) := by decide +kernel
theorem dX5_init_8 : decode cX5_init 8 = .ok (.dup, 1) := by decide +kernel
theorem dX5_init_9 : decode cX5_init 9 = .ok (.invokespecial 9, 3) := by decide +kernel
theorem dX5_init_12 : decode cX5_init 12 = .ok (.putfield 10, 3) := by decide +kernel
theorem dX5_init_15 : decode cX5_init 15 = .ok (.aload_n 0, 1) := by decide +kernel
theorem dX5_init_16 : decode cX5_init 16 = .ok (.new 7, 3) := by decide +kernel
theorem dX5_init_19 : decode cX5_init 19 = .ok (.dup, 1) := by decide +kernel
theorem dX5_init_20 : decode cX5_init 20 = .ok (.invokespecial 9, 3) := by decide +kernel
theorem dX5_init_23 : decode cX5_init 23 = .ok (.putfield 16, 3) := by decide +kernel
theorem dX5_init_26 : decode cX5_init 26 = .ok (.aload_n 0, 1) := by decide +kernel
theorem dX5_init_27 : decode cX5_init 27 = .ok (.new 7, 3) := by decide +kernel
theorem dX5_init_30 : decode cX5_init 30 = .ok (.dup, 1) := by decide +kernel
theorem dX5_init_31 : decode cX5_init 31 = .ok (.invokespecial 9, 3) := by decide +kernel
theorem dX5_init_34 : decode cX5_init 34 = .ok (.putfield 19, 3) := by decide +kernel
theorem dX5_init_37 : decode cX5_init 37 = .ok (.aload_n 0, 1) := by decide +kernel
theorem dX5_init_38 : decode cX5_init 38 = .ok (.new 7, 3) := by decide +kernel
theorem dX5_init_41 : decode cX5_init 41 = .ok (.dup, 1) := by decide +kernel
theorem dX5_init_42 : decode cX5_init 42 = .ok (.invokespecial 9, 3) := by decide +kernel
theorem dX5_init_45 : decode cX5_init 45 = .ok (.putfield 22, 3) := by decide +kernel
theorem dX5_init_48 : decode cX5_init 48 = .ok (.aload_n 0, 1) := by decide +kernel
theorem dX5_init_49 : decode cX5_init 49 = .ok (.new 25, 3) := by decide +kernel
theorem dX5_init_52 : decode cX5_init 52 = .ok (.dup, 1) := by decide +kernel
theorem dX5_init_53 : decode cX5_init 53 = .ok (.iconst 0, 1) := by decide +kernel
theorem dX5_init_54 : decode cX5_init 54 = .ok (.invokestatic 27, 3) := by decide +kernel
theorem dX5_init_57 : decode cX5_init 57 = .ok (.invokespecial 33, 3) := by decide +kernel
theorem dX5_init_60 : decode cX5_init 60 = .ok (.putfield 36, 3) := by decide +kernel
theorem dX5_init_63 : decode cX5_init 63 = .ok (.return_, 1) := by decide +kernel
theorem dX5_clear_0 : decode cX5_clear 0 = .ok (.aload_n 0, 1) := by decide +kernel
theorem dX5_clear_1 : decode cX5_clear 1 = .ok (.getfield 10, 3) := by decide +kernel
theorem dX5_clear_4 : decode cX5_clear 4 = .ok (.iload_n 1, 1) := by decide +kernel
theorem dX5_clear_5 : decode cX5_clear 5 = .ok (.iload_n 2, 1) := by decide +kernel
theorem dX5_clear_6 : decode cX5_clear 6 = .ok (.invokevirtual 40, 3) := by decide +kernel
theorem dX5_clear_9 : decode cX5_clear 9 = .ok (.aload_n 0, 1) := by decide +kernel
theorem dX5_clear_10 : decode cX5_clear 10 = .ok (.getfield 16, 3) := by decide +kernel
theorem dX5_clear_13 : decode cX5_clear 13 = .ok (.iload_n 1, 1) := by decide +kernel
theorem dX5_clear_14 : decode cX5_clear 14 = .ok (.iload_n 2, 1) := by decide +kernel
theorem dX5_clear_15 : decode cX5_clear 15 = .ok (.invokevirtual 40, 3) := by decide +kernel
theorem dX5_clear_18 : decode cX5_clear 18 = .ok (.aload_n 0, 1) := by decide +kernel
theorem dX5_clear_19 : decode cX5_clear 19 = .ok (.getfield 19, 3) := by decide +kernel
theorem dX5_clear_22 : decode cX5_clear 22 = .ok (.iload_n 1, 1) := by decide +kernel
theorem dX5_clear_23 : decode cX5_clear 23 = .ok (.iload_n 2, 1) := by decide +kernel
theorem dX5_clear_24 : decode cX5_clear 24 = .ok (.invokevirtual 40, 3) := by decide +kernel
theorem dX5_clear_27 : decode cX5_clear 27 = .ok (.aload_n 0, 1) := by decide +kernel
theorem dX5_clear_28 : decode cX5_clear 28 = .ok (.getfield 22, 3) := by decide +kernel
theorem dX5_clear_31 : decode cX5_clear 31 = .ok (.iload_n 1, 1) := by decide +kernel
theorem dX5_clear_32 : decode cX5_clear 32 = .ok (.iload_n 2, 1) := by decide +kernel
theorem dX5_clear_33 : decode cX5_clear 33 = .ok (.invokevirtual 40, 3) := by decide +kernel
theorem dX5_clear_36 : decode cX5_clear 36 = .ok (.aload_n 0, 1) := by decide +kernel
theorem dX5_clear_37 : decode cX5_clear 37 = .ok (.getfield 36, 3) := by decide +kernel
theorem dX5_clear_40 : decode cX5_clear 40 = .ok (.iload_n 1, 1) := by decide +kernel
theorem dX5_clear_41 : decode cX5_clear 41 = .ok (.iload_n 2, 1) := by decide +kernel
theorem dX5_clear_42 : decode cX5_clear 42 = .ok (.invokevirtual 44, 3) := by decide +kernel
theorem dX5_clear_45 : decode cX5_clear 45 = .ok (.aload_n 0, 1) := by decide +kernel
theorem dX5_clear_46 : decode cX5_clear 46 = .ok (.iconst 0, 1) := by decide +kernel
theorem dX5_clear_47 : decode cX5_clear 47 = .ok (.putfield 45, 3) := by decide +kernel
theorem dX5_clear_50 : decode cX5_clear 50 = .ok (.aload_n 0, 1) := by decide +kernel
theorem dX5_clear_51 : decode cX5_clear 51 = .ok (.iconst 0, 1) := by decide +kernel
theorem dX5_clear_52 : decode cX5_clear 52 = .ok (.putfield 49, 3) := by decide +kernel
theorem dX5_clear_55 : decode cX5_clear 55 = .ok (.aload_n 0, 1) := by decide +kernel
theorem dX5_clear_56 : decode cX5_clear 56 = .ok (.iconst 0, 1) := by decide +kernel
theorem dX5_clear_57 : decode cX5_clear 57 = .ok (.putfield 52, 3) := by decide +kernel
theorem dX5_clear_60 : decode cX5_clear 60 = .ok (.aload_n 0, 1) := by decide +kernel
theorem dX5_clear_61 : decode cX5_clear 61 = .ok (.iconst 0, 1) := by decide +kernel
theorem dX5_clear_62 : decode cX5_clear 62 = .ok (.putfield 56, 3) := by decide +kernel
theorem dX5_clear_65 : decode cX5_clear 65 = .ok (.return_, 1) := by decide +kernel
theorem dX5_showOpen_0 : decode cX5_showOpen 0 = .ok (.aload_n 0, 1) := by decide +kernel
theorem dX5_showOpen_1 : decode cX5_showOpen 1 = .ok (.getfield 22, 3) := by decide +kernel
theorem dX5_showOpen_4 : decode cX5_showOpen 4 = .ok (.astore_n 1, 1) := by decide +kernel
theorem dX5_showOpen_5 : decode cX5_showOpen 5 = .ok (.aload_n 0, 1) := by decide +kernel
theorem dX5_showOpen_6 : decode cX5_showOpen 6 = .ok (.aload_n 0, 1) := by decide +kernel
theorem dX5_showOpen_7 : decode cX5_showOpen 7 = .ok (.getfield 19, 3) := by decide +kernel
theorem dX5_showOpen_10 : decode cX5_showOpen 10 = .ok (.putfield 22, 3) := by decide +kernel
theorem dX5_showOpen_13 : decode cX5_showOpen 13 = .ok (.aload_n 0, 1) := by decide +kernel
theorem dX5_showOpen_14 : decode cX5_showOpen 14 = .ok (.aload_n 1, 1) := by decide +kernel
theorem dX5_showOpen_15 : decode cX5_showOpen 15 = .ok (.putfield 19, 3) := by decide +kernel
theorem dX5_showOpen_18 : decode cX5_showOpen 18 = .ok (.aload_n 0, 1) := by decide +kernel
theorem dX5_showOpen_19 : decode cX5_showOpen 19 = .ok (.dup, 1) := by decide +kernel
theorem dX5_showOpen_20 : decode cX5_showOpen 20 = .ok (.getfield 56, 3) := by decide +kernel
theorem dX5_showOpen_23 : decode cX5_showOpen 23 = .ok (.iconst 1, 1) := by decide +kernel
theorem dX5_showOpen_24 : decode cX5_showOpen 24 = .ok (.iadd, 1) := by decide +kernel
theorem dX5_showOpen_25 : decode cX5_showOpen 25 = .ok (.putfield 56, 3) := by decide +kernel
theorem dX5_showOpen_28 : decode cX5_showOpen 28 = .ok (.return_, 1) := by decide +kernel
theorem dX5_showNewer_0 : decode cX5_showNewer 0 = .ok (.aload_n 0, 1) := by decide +kernel
theorem dX5_showNewer_1 : decode cX5_showNewer 1 = .ok (.getfield 49, 3) := by decide +kernel
theorem dX5_showNewer_4 : decode cX5_showNewer 4 = .ok (.ifCond .eq 29, 3) := by decide +kernel
theorem dX5_showNewer_7 : decode cX5_showNewer 7 = .ok (.aload_n 0, 1) := by decide +kernel
theorem dX5_showNewer_8 : decode cX5_showNewer 8 = .ok (.getfield 22, 3) := by decide +kernel
theorem dX5_showNewer_11 : decode cX5_showNewer 11 = .ok (.aload_n 0, 1) := by decide +kernel
theorem dX5_showNewer_12 : decode cX5_showNewer 12 = .ok (.getfield 16, 3) := by decide +kernel
theorem dX5_showNewer_15 : decode cX5_showNewer 15 = .ok (.invokevirtual 59, 3) := by decide +kernel
theorem dX5_showNewer_18 : decode cX5_showNewer 18 = .ok (.aload_n 0, 1) := by decide +kernel
theorem dX5_showNewer_19 : decode cX5_showNewer 19 = .ok (.dup, 1) := by decide +kernel
theorem dX5_showNewer_20 : decode cX5_showNewer 20 = .ok (.getfield 56, 3) := by decide +kernel
theorem dX5_showNewer_23 : decode cX5_showNewer 23 = .ok (.iconst 1, 1) := by decide +kernel
theorem dX5_showNewer_24 : decode cX5_showNewer 24 = .ok (.iadd, 1) := by decide +kernel
theorem dX5_showNewer_25 : decode cX5_showNewer 25 = .ok (.putfield 56, 3) := by decide +kernel
theorem dX5_showNewer_28 : decode cX5_showNewer 28 = .ok (.aload_n 0, 1) := by decide +kernel
theorem dX5_showNewer_29 : decode cX5_showNewer 29 = .ok (.iconst 0, 1) := by decide +kernel
theorem dX5_showNewer_30 : decode cX5_showNewer 30 = .ok (.putfield 49, 3) := by decide +kernel
theorem dX5_showNewer_33 : decode cX5_showNewer 33 = .ok (.return_, 1) := by decide +kernel
theorem dX5_turnOpenIntoReference_0 : decode cX5_turnOpenIntoReference 0 = .ok (.aload_n 0, 1) := by decide +kernel
theorem dX5_turnOpenIntoReference_1 : decode cX5_turnOpenIntoReference 1 = .ok (.invokevirtual 63, 3) := by decide +kernel
theorem dX5_turnOpenIntoReference_4 : decode cX5_turnOpenIntoReference 4 = .ok (.aload_n 0, 1) := by decide +kernel
theorem dX5_turnOpenIntoReference_5 : decode cX5_turnOpenIntoReference 5 = .ok (.getfield 10, 3) := by decide +kernel
theorem dX5_turnOpenIntoReference_8 : decode cX5_turnOpenIntoReference 8 = .ok (.astore_n 1, 1) := by decide +kernel
theorem dX5_turnOpenIntoReference_9 : decode cX5_turnOpenIntoReference 9 = .ok (.aload_n 0, 1) := by decide +kernel
theorem dX5_turnOpenIntoReference_10 : decode cX5_turnOpenIntoReference 10 = .ok (.aload_n 0, 1) := by decide +kernel
theorem dX5_turnOpenIntoReference_11 : decode cX5_turnOpenIntoReference 11 = .ok (.getfield 16, 3) := by decide +kernel
theorem dX5_turnOpenIntoReference_14 : decode cX5_turnOpenIntoReference 14 = .ok (.putfield 10, 3) := by decide +kernel
theorem dX5_turnOpenIntoReference_17 : decode cX5_turnOpenIntoReference 17 = .ok (.aload_n 0, 1) := by decide +kernel
theorem dX5_turnOpenIntoReference_18 : decode cX5_turnOpenIntoReference 18 = .ok (.aload_n 0, 1) := by decide +kernel
theorem dX5_turnOpenIntoReference_19 : decode cX5_turnOpenIntoReference 19 = .ok (.getfield 19, 3) := by decide +kernel
theorem dX5_turnOpenIntoReference_22 : decode cX5_turnOpenIntoReference 22 = .ok (.putfield 16, 3) := by decide +kernel
theorem dX5_turnOpenIntoReference_25 : decode cX5_turnOpenIntoReference 25 = .ok (.aload_n 0, 1) := by decide +kernel
theorem dX5_turnOpenIntoReference_26 : decode cX5_turnOpenIntoReference 26 = .ok (.aload_n 1, 1) := by decide +kernel
theorem dX5_turnOpenIntoReference_27 : decode cX5_turnOpenIntoReference 27 = .ok (.putfield 19, 3) := by decide +kernel
theorem dX5_turnOpenIntoReference_30 : decode cX5_turnOpenIntoReference 30 = .ok (.aload_n 0, 1) := by decide +kernel
theorem dX5_turnOpenIntoReference_31 : decode cX5_turnOpenIntoReference 31 = .ok (.iconst 1, 1) := by decide +kernel
theorem dX5_turnOpenIntoReference_32 : decode cX5_turnOpenIntoReference 32 = .ok (.putfield 49, 3) := by decide +kernel
theorem dX5_turnOpenIntoReference_35 : decode cX5_turnOpenIntoReference 35 = .ok (.return_, 1) := by decide +kernel
theorem dX5_keepShown_0 : decode cX5_keepShown 0 = .ok (.aload_n 0, 1) := by decide +kernel
theorem dX5_keepShown_1 : decode cX5_keepShown 1 = .ok (.getfield 36, 3) := by decide +kernel
theorem dX5_keepShown_4 : decode cX5_keepShown 4 = .ok (.aload_n 0, 1) := by decide +kernel
theorem dX5_keepShown_5 : decode cX5_keepShown 5 = .ok (.getfield 22, 3) := by decide +kernel
theorem dX5_keepShown_8 : decode cX5_keepShown 8 = .ok (.getfield 66, 3) := by decide +kernel
theorem dX5_keepShown_11 : decode cX5_keepShown 11 = .ok (.iconst 0, 1) := by decide +kernel
theorem dX5_keepShown_12 : decode cX5_keepShown 12 = .ok (.aaload, 1) := by decide +kernel
theorem dX5_keepShown_13 : decode cX5_keepShown 13 = .ok (.invokevirtual 70, 3) := by decide +kernel
theorem dX5_keepShown_16 : decode cX5_keepShown 16 = .ok (.aload_n 0, 1) := by decide +kernel
theorem dX5_keepShown_17 : decode cX5_keepShown 17 = .ok (.iconst 1, 1) := by decide +kernel
theorem dX5_keepShown_18 : decode cX5_keepShown 18 = .ok (.putfield 45, 3) := by decide +kernel
theorem dX5_keepShown_21 : decode cX5_keepShown 21 = .ok (.return_, 1) := by decide +kernel
theorem dX6_init_0 : decode cX6_init 0 = .ok (.aload_n 0, 1) := by decide +kernel
theorem dX6_init_1 : decode cX6_init 1 = .ok (.invokespecial 1, 3) := by decide +kernel
theorem dX6_init_4 : decode cX6_init 4 = .ok (.aload_n 0, 1) := by decide +kernel
theorem dX6_init_5 : decode cX6_init 5 = .ok (.new 7, 3) := by decide +kernel
theorem dX6_init_8 : decode cX6_init 8 = .ok (.dup, 1) := by decide +kernel
theorem dX6_init_9 : decode cX6_init 9 = .ok (.invokespecial 9, 3) := by decide +kernel
theorem dX6_init_12 : decode cX6_init 12 = .ok (.putfield 10, 3) := by decide +kernel
theorem dX6_init_15 : decode cX6_init 15 = .ok (.aload_n 0, 1) := by decide +kernel
theorem dX6_init_16 : decode cX6_init 16 = .ok (.new 16, 3) := by decide +kernel
theorem dX6_init_19 : decode cX6_init 19 = .ok (.dup, 1) := by decide +kernel
theorem dX6_init_20 : decode cX6_init 20 = .ok (.invokespecial 18, 3) := by decide +kernel
theorem dX6_init_23 : decode cX6_init 23 = .ok (.putfield 19, 3) := by decide +kernel
theorem dX6_init_26 : decode cX6_init 26 = .ok (.aload_n 0, 1) := by decide +kernel
theorem dX6_init_27 : decode cX6_init 27 = .ok (.new 23, 3) := by decide +kernel
theorem dX6_init_30 : decode cX6_init 30 = .ok (.dup, 1) := by decide +kernel
theorem dX6_init_31 : decode cX6_init 31 = .ok (.invokespecial 25, 3) := by decide +kernel
theorem dX6_init_34 : decode cX6_init 34 = .ok (.putfield 26, 3) := by decide +kernel
theorem dX6_init_37 : decode cX6_init 37 = .ok (.aload_n 0, 1) := by decide +kernel
theorem dX6_init_38 : decode cX6_init 38 = .ok (.new 30, 3) := by decide +kernel
theorem dX6_init_41 : decode cX6_init 41 = .ok (.dup, 1) := by decide +kernel
theorem dX6_init_42 : decode cX6_init 42 = .ok (.invokespecial 32, 3) := by decide +kernel
theorem dX6_init_45 : decode cX6_init 45 = .ok (.putfield 33, 3) := by decide +kernel
theorem dX6_init_48 : decode cX6_init 48 = .ok (.aload_n 0, 1) := by decide +kernel
theorem dX6_init_49 : decode cX6_init 49 = .ok (.iconst 1, 1) := by decide +kernel
theorem dX6_init_50 : decode cX6_init 50 = .ok (.iconst 1, 1) := by decide +kernel
theorem dX6_init_51 : decode cX6_init 51 = .ok (.invokevirtual 37, 3) := by decide +kernel
theorem dX6_init_54 : decode cX6_init 54 = .ok (.return_, 1) := by decide +kernel
theorem dX6_size_0 : decode cX6_size 0 = .ok (.iload_n 1, 1) := by decide +kernel
theorem dX6_size_1 : decode cX6_size 1 = .ok (.iconst 1, 1) := by decide +kernel
theorem dX6_size_2 : decode cX6_size 2 = .ok (.iconst 4, 1) := by decide +kernel
theorem dX6_size_3 : decode cX6_size 3 = .ok (.invokestatic 41, 3) := by decide +kernel
theorem dX6_size_6 : decode cX6_size 6 = .ok (.ifCond .eq 12, 3) := by decide +kernel
theorem dX6_size_9 : decode cX6_size 9 = .ok (.iload_n 2, 1) := by decide +kernel
theorem dX6_size_10 : decode cX6_size 10 = .ok (.iconst 1, 1) := by decide +kernel
theorem dX6_size_11 : decode cX6_size 11 = .ok (.iconst 3, 1) := by decide +kernel
theorem dX6_size_12 : decode cX6_size 12 = .ok (.invokestatic 41, 3) := by decide +kernel
theorem dX6_size_15 : decode cX6_size 15 = .ok (.ifCond .ne 13, 3) := by decide +kernel
theorem dX6_size_18 : decode cX6_size 18 = .ok (.new 45, 3) := by decide +kernel
theorem dX6_size_21 : decode cX6_size 21 = .ok (.dup, 1) := by decide +kernel
theorem dX6_size_22 : decode cX6_size 22 = .ok (.ldc 47, 2) := by decide +kernel
theorem dX6_size_24 : decode cX6_size 24 = .ok (.invokespecial 49, 3) := by decide +kernel
theorem dX6_size_27 : decode cX6_size 27 = .ok (.athrow, 1) := by decide +kernel
theorem dX6_size_28 : decode cX6_size 28 = .ok (.aload_n 0, 1) := by decide +kernel
theorem dX6_size_29 : decode cX6_size 29 = .ok (.iload_n 1, 1) := by decide +kernel
theorem dX6_size_30 : decode cX6_size 30 = .ok (.iload_n 2, 1) := by decide +kernel
theorem dX6_size_31 : decode cX6_size 31 = .ok (.invokevirtual 37, 3) := by decide +kernel
theorem dX6_size_34 : decode cX6_size 34 = .ok (.return_, 1) := by decide +kernel
theorem dX6_matrix_0 : decode cX6_matrix 0 = .ok (.iload_n 1, 1) := by decide +kernel
theorem dX6_matrix_1 : decode cX6_matrix 1 = .ok (.iconst 0, 1) := by decide +kernel
theorem dX6_matrix_2 : decode cX6_matrix 2 = .ok (.iconst 1, 1) := by decide +kernel
theorem dX6_matrix_3 : decode cX6_matrix 3 = .ok (.invokestatic 41, 3) := by decide +kernel
theorem dX6_matrix_6 : decode cX6_matrix 6 = .ok (.ifCond .eq 24, 3) := by decide +kernel
theorem dX6_matrix_9 : decode cX6_matrix 9 = .ok (.iload_n 2, 1) := by decide +kernel
theorem dX6_matrix_10 : decode cX6_matrix 10 = .ok (.iconst 0, 1) := by decide +kernel
theorem dX6_matrix_11 : decode cX6_matrix 11 = .ok (.bipush 63, 2) := by decide +kernel
theorem dX6_matrix_13 : decode cX6_matrix 13 = .ok (.invokestatic 41, 3) := by decide +kernel
theorem dX6_matrix_16 : decode cX6_matrix 16 = .ok (.ifCond .eq 14, 3) := by decide +kernel
theorem dX6_matrix_19 : decode cX6_matrix 19 = .ok (.iload_n 3, 1) := by decide +kernel
theorem dX6_matrix_20 : decode cX6_matrix 20 = .ok (.iconst 1, 1) := by decide +kernel
theorem dX6_matrix_21 : decode cX6_matrix 21 = .ok (.sipush 255, 3) := by decide +kernel
theorem dX6_matrix_24 : decode cX6_matrix 24 = .ok (.invokestatic 41, 3) := by decide +kernel
theorem dX6_matrix_27 : decode cX6_matrix 27 = .ok (.ifCond .ne 13, 3) := by decide +kernel
theorem dX6_matrix_30 : decode cX6_matrix 30 = .ok (.new 45, 3) := by decide +kernel
theorem dX6_matrix_33 : decode cX6_matrix 33 = .ok (.dup, 1) := by decide +kernel
theorem dX6_matrix_34 : decode cX6_matrix 34 = .ok (.ldc 52, 2) := by decide +kernel
theorem dX6_matrix_36 : decode cX6_matrix 36 = .ok (.invokespecial 49, 3) := by decide +kernel
theorem dX6_matrix_39 : decode cX6_matrix 39 = .ok (.athrow, 1) := by decide +kernel
theorem dX6_matrix_40 : decode cX6_matrix 40 = .ok (.aload_n 0, 1) := by decide +kernel
theorem dX6_matrix_41 : decode cX6_matrix 41 = .ok (.getfield 19, 3) := by decide +kernel
theorem dX6_matrix_44 : decode cX6_matrix 44 = .ok (.getfield 54, 3) := by decide +kernel
theorem dX6_matrix_47 : decode cX6_matrix 47 = .ok (.iload_n 1, 1) := by decide +kernel
theorem dX6_matrix_48 : decode cX6_matrix 48 = .ok (.aaload, 1) := by decide +kernel
theorem dX6_matrix_49 : decode cX6_matrix 49 = .ok (.iload_n 2, 1) := by decide +kernel
theorem dX6_matrix_50 : decode cX6_matrix 50 = .ok (.iaload, 1) := by decide +kernel
theorem dX6_matrix_51 : decode cX6_matrix 51 = .ok (.istore 4, 2) := by decide +kernel
theorem dX6_matrix_53 : decode cX6_matrix 53 = .ok (.aload_n 0, 1) := by decide +kernel
theorem dX6_matrix_54 : decode cX6_matrix 54 = .ok (.getfield 19, 3) := by decide +kernel
theorem dX6_matrix_57 : decode cX6_matrix 57 = .ok (.getfield 54, 3) := by decide +kernel
theorem dX6_matrix_60 : decode cX6_matrix 60 = .ok (.iload_n 1, 1) := by decide +kernel
theorem dX6_matrix_61 : decode cX6_matrix 61 = .ok (.aaload, 1) := by decide +kernel
theorem dX6_matrix_62 : decode cX6_matrix 62 = .ok (.iload_n 2, 1) := by decide +kernel
theorem dX6_matrix_63 : decode cX6_matrix 63 = .ok (.iload_n 3, 1) := by decide +kernel
theorem dX6_matrix_64 : decode cX6_matrix 64 = .ok (.iastore, 1) := by decide +kernel
theorem dX6_matrix_65 : decode cX6_matrix 65 = .ok (.iload 4, 2) := by decide +kernel
theorem dX6_matrix_67 : decode cX6_matrix 67 = .ok (.ireturn, 1) := by decide +kernel
theorem dX6_begin_0 : decode cX6_begin 0 = .ok (.iload_n 1, 1) := by decide +kernel
theorem dX6_begin_1 : decode cX6_begin 1 = .ok (.iconst 1, 1) := by decide +kernel
theorem dX6_begin_2 : decode cX6_begin 2 = .ok (.iconst 3, 1) := by decide +kernel
theorem dX6_begin_3 : decode cX6_begin 3 = .ok (.invokestatic 41, 3) := by decide +kernel
theorem dX6_begin_6 : decode cX6_begin 6 = .ok (.ifCond .eq 23, 3) := by decide +kernel
theorem dX6_begin_9 : decode cX6_begin 9 = .ok (.iload_n 2, 1) := by decide +kernel
theorem dX6_begin_10 : decode cX6_begin 10 = .ok (.iconst 1, 1) := by decide +kernel
theorem dX6_begin_11 : decode cX6_begin 11 = .ok (.bipush 16, 2) := by decide +kernel
theorem dX6_begin_13 : decode cX6_begin 13 = .ok (.invokestatic 41, 3) := by decide +kernel
theorem dX6_begin_16 : decode cX6_begin 16 = .ok (.ifCond .eq 13, 3) := by decide +kernel
theorem dX6_begin_19 : decode cX6_begin 19 = .ok (.iload_n 3, 1) := by decide +kernel
theorem dX6_begin_20 : decode cX6_begin 20 = .ok (.iconst 1, 1) := by decide +kernel
theorem dX6_begin_21 : decode cX6_begin 21 = .ok (.bipush 16, 2) := by decide +kernel
theorem dX6_begin_23 : decode cX6_begin 23 = .ok (.invokestatic 41, 3) := by decide +kernel
theorem dX6_begin_26 : decode cX6_begin 26 = .ok (.ifCond .ne 13, 3) := by decide +kernel
theorem dX6_begin_29 : decode cX6_begin 29 = .ok (.new 45, 3) := by decide +kernel
theorem dX6_begin_32 : decode cX6_begin 32 = .ok (.dup, 1) := by decide +kernel
theorem dX6_begin_33 : decode cX6_begin 33 = .ok (.ldc 58, 2) := by decide +kernel
theorem dX6_begin_35 : decode cX6_begin 35 = .ok (.invokespecial 49, 3) := by decide +kernel
theorem dX6_begin_38 : decode cX6_begin 38 = .ok (.athrow, 1) := by decide +kernel
theorem dX6_begin_39 : decode cX6_begin 39 = .ok (.aload_n 0, 1) := by decide +kernel
theorem dX6_begin_40 : decode cX6_begin 40 = .ok (.getfield 60, 3) := by decide +kernel
theorem dX6_begin_43 : decode cX6_begin 43 = .ok (.ifCond .eq 13, 3) := by decide +kernel
theorem dX6_begin_46 : decode cX6_begin 46 = .ok (.new 64, 3) := by decide +kernel
theorem dX6_begin_49 : decode cX6_begin 49 = .ok (.dup, 1) := by decide +kernel
theorem dX6_begin_50 : decode cX6_begin 50 = .ok (.ldc 66, 2) := by decide +kernel
theorem dX6_begin_52 : decode cX6_begin 52 = .ok (.invokespecial 68, 3) := by decide +kernel
theorem dX6_begin_55 : decode cX6_begin 55 = .ok (.athrow, 1) := by decide +kernel
theorem dX6_begin_56 : decode cX6_begin 56 = .ok (.aload_n 0, 1) := by decide +kernel
theorem dX6_begin_57 : decode cX6_begin 57 = .ok (.iload_n 1, 1) := by decide +kernel
theorem dX6_begin_58 : decode cX6_begin 58 = .ok (.putfield 60, 3) := by decide +kernel
theorem dX6_begin_61 : decode cX6_begin 61 = .ok (.aload_n 0, 1) := by decide +kernel
theorem dX6_begin_62 : decode cX6_begin 62 = .ok (.iconst 0, 1) := by decide +kernel
theorem dX6_begin_63 : decode cX6_begin 63 = .ok (.putfield 69, 3) := by decide +kernel
theorem dX6_begin_66 : decode cX6_begin 66 = .ok (.aload_n 0, 1) := by decide +kernel
theorem dX6_begin_67 : decode cX6_begin 67 = .ok (.getfield 26, 3) := by decide +kernel
theorem dX6_begin_70 : decode cX6_begin 70 = .ok (.iload_n 2, 1) := by decide +kernel
theorem dX6_begin_71 : decode cX6_begin 71 = .ok (.iload_n 3, 1) := by decide +kernel
theorem dX6_begin_72 : decode cX6_begin 72 = .ok (.iload 4, 2) := by decide +kernel
theorem dX6_begin_74 : decode cX6_begin 74 = .ok (.invokevirtual 72, 3) := by decide +kernel
theorem dX6_begin_77 : decode cX6_begin 77 = .ok (.aload_n 0, 1) := by decide +kernel
theorem dX6_begin_78 : decode cX6_begin 78 = .ok (.getfield 19, 3) := by decide +kernel
theorem dX6_begin_81 : decode cX6_begin 81 = .ok (.invokevirtual 76, 3) := by decide +kernel
theorem dX6_begin_84 : decode cX6_begin 84 = .ok (.return_, 1) := by decide +kernel
theorem dX6_scale_0 : decode cX6_scale 0 = .ok (.iload_n 1, 1) := by decide +kernel
theorem dX6_scale_1 : decode cX6_scale 1 = .ok (.iconst 1, 1) := by decide +kernel
theorem dX6_scale_2 : decode cX6_scale 2 = .ok (.bipush 31, 2) := by decide +kernel
theorem dX6_scale_4 : decode cX6_scale 4 = .ok (.invokestatic 41, 3) := by decide +kernel
theorem dX6_scale_7 : decode cX6_scale 7 = .ok (.ifCond .ne 13, 3) := by decide +kernel
theorem dX6_scale_10 : decode cX6_scale 10 = .ok (.new 45, 3) := by decide +kernel
theorem dX6_scale_13 : decode cX6_scale 13 = .ok (.dup, 1) := by decide +kernel
theorem dX6_scale_14 : decode cX6_scale 14 = .ok (.ldc 78, 2) := by decide +kernel
theorem dX6_scale_16 : decode cX6_scale 16 = .ok (.invokespecial 49, 3) := by decide +kernel
theorem dX6_scale_19 : decode cX6_scale 19 = .ok (.athrow, 1) := by decide +kernel
theorem dX6_scale_20 : decode cX6_scale 20 = .ok (.aload_n 0, 1) := by decide +kernel
theorem dX6_scale_21 : decode cX6_scale 21 = .ok (.getfield 60, 3) := by decide +kernel
theorem dX6_scale_24 : decode cX6_scale 24 = .ok (.ifCond .ne 13, 3) := by decide +kernel
theorem dX6_scale_27 : decode cX6_scale 27 = .ok (.new 64, 3) := by decide +kernel
theorem dX6_scale_30 : decode cX6_scale 30 = .ok (.dup, 1) := by decide +kernel
theorem dX6_scale_31 : decode cX6_scale 31 = .ok (.ldc 80, 2) := by decide +kernel
theorem dX6_scale_33 : decode cX6_scale 33 = .ok (.invokespecial 68, 3) := by decide +kernel
theorem dX6_scale_36 : decode cX6_scale 36 = .ok (.athrow, 1) := by decide +kernel
theorem dX6_scale_37 : decode cX6_scale 37 = .ok (.aload_n 0, 1) := by decide +kernel
theorem dX6_scale_38 : decode cX6_scale 38 = .ok (.getfield 19, 3) := by decide +kernel
theorem dX6_scale_41 : decode cX6_scale 41 = .ok (.iload_n 1, 1) := by decide +kernel
theorem dX6_scale_42 : decode cX6_scale 42 = .ok (.putfield 82, 3) := by decide +kernel
theorem dX6_scale_45 : decode cX6_scale 45 = .ok (.return_, 1) := by decide +kernel
theorem dX6_itself_0 : decode cX6_itself 0 = .ok (.aload_n 0, 1) := by decide +kernel
theorem dX6_itself_1 : decode cX6_itself 1 = .ok (.invokevirtual 85, 3) := by decide +kernel
theorem dX6_itself_4 : decode cX6_itself 4 = .ok (.ifCond .eq 13, 3) := by decide +kernel
theorem dX6_itself_7 : decode cX6_itself 7 = .ok (.aload_n 0, 1) := by decide +kernel
theorem dX6_itself_8 : decode cX6_itself 8 = .ok (.getfield 33, 3) := by decide +kernel
theorem dX6_itself_11 : decode cX6_itself 11 = .ok (.getfield 89, 3) := by decide +kernel
theorem dX6_itself_14 : decode cX6_itself 14 = .ok (.ifCond .eq 13, 3) := by decide +kernel
theorem dX6_itself_17 : decode cX6_itself 17 = .ok (.new 64, 3) := by decide +kernel
theorem dX6_itself_20 : decode cX6_itself 20 = .ok (.dup, 1) := by decide +kernel
theorem dX6_itself_21 : decode cX6_itself 21 = .ok (.ldc 92, 2) := by decide +kernel
theorem dX6_itself_23 : decode cX6_itself 23 = .ok (.invokespecial 68, 3) := by decide +kernel
theorem dX6_itself_26 : decode cX6_itself 26 = .ok (.athrow, 1) := by decide +kernel
theorem dX6_itself_27 : decode cX6_itself 27 = .ok (.aload_n 0, 1) := by decide +kernel
theorem dX6_itself_28 : decode cX6_itself 28 = .ok (.getfield 33, 3) := by decide +kernel
theorem dX6_itself_31 : decode cX6_itself 31 = .ok (.iconst 1, 1) := by decide +kernel
theorem dX6_itself_32 : decode cX6_itself 32 = .ok (.putfield 94, 3) := by decide +kernel
theorem dX6_itself_35 : decode cX6_itself 35 = .ok (.aload_n 0, 1) := by decide +kernel
theorem dX6_itself_36 : decode cX6_itself 36 = .ok (.getfield 33, 3) := by decide +kernel
theorem dX6_itself_39 : decode cX6_itself 39 = .ok (.iconst 1, 1) := by decide +kernel
theorem dX6_itself_40 : decode cX6_itself 40 = .ok (.putfield 98, 3) := by decide +kernel
theorem dX6_itself_43 : decode cX6_itself 43 = .ok (.return_, 1) := by decide +kernel
theorem dX6_vector_0 : decode cX6_vector 0 = .ok (.iload_n 1, 1) := by decide +kernel
theorem dX6_vector_1 : decode cX6_vector 1 = .ok (.iconst 0, 1) := by decide +kernel
theorem dX6_vector_2 : decode cX6_vector 2 = .ok (.iconst 1, 1) := by decide +kernel
theorem dX6_vector_3 : decode cX6_vector 3 = .ok (.invokestatic 41, 3) := by decide +kernel
theorem dX6_vector_6 : decode cX6_vector 6 = .ok (.ifCond .eq 27, 3) := by decide +kernel
theorem dX6_vector_9 : decode cX6_vector 9 = .ok (.aload_n 0, 1) := by decide +kernel
theorem dX6_vector_10 : decode cX6_vector 10 = .ok (.getfield 26, 3) := by decide +kernel
theorem dX6_vector_13 : decode cX6_vector 13 = .ok (.iload_n 1, 1) := by decide +kernel
theorem dX6_vector_14 : decode cX6_vector 14 = .ok (.iload_n 2, 1) := by decide +kernel
theorem dX6_vector_15 : decode cX6_vector 15 = .ok (.invokevirtual 101, 3) := by decide +kernel
theorem dX6_vector_18 : decode cX6_vector 18 = .ok (.ifCond .eq 15, 3) := by decide +kernel
theorem dX6_vector_21 : decode cX6_vector 21 = .ok (.aload_n 0, 1) := by decide +kernel
theorem dX6_vector_22 : decode cX6_vector 22 = .ok (.getfield 26, 3) := by decide +kernel
theorem dX6_vector_25 : decode cX6_vector 25 = .ok (.iload_n 1, 1) := by decide +kernel
theorem dX6_vector_26 : decode cX6_vector 26 = .ok (.iload_n 3, 1) := by decide +kernel
theorem dX6_vector_27 : decode cX6_vector 27 = .ok (.invokevirtual 101, 3) := by decide +kernel
theorem dX6_vector_30 : decode cX6_vector 30 = .ok (.ifCond .ne 13, 3) := by decide +kernel
theorem dX6_vector_33 : decode cX6_vector 33 = .ok (.new 45, 3) := by decide +kernel
theorem dX6_vector_36 : decode cX6_vector 36 = .ok (.dup, 1) := by decide +kernel
theorem dX6_vector_37 : decode cX6_vector 37 = .ok (.ldc 105, 2) := by decide +kernel
theorem dX6_vector_39 : decode cX6_vector 39 = .ok (.invokespecial 49, 3) := by decide +kernel
theorem dX6_vector_42 : decode cX6_vector 42 = .ok (.athrow, 1) := by decide +kernel
theorem dX6_vector_43 : decode cX6_vector 43 = .ok (.aload_n 0, 1) := by decide +kernel
theorem dX6_vector_44 : decode cX6_vector 44 = .ok (.invokevirtual 85, 3) := by decide +kernel
theorem dX6_vector_47 : decode cX6_vector 47 = .ok (.ifCond .eq 21, 3) := by decide +kernel
theorem dX6_vector_50 : decode cX6_vector 50 = .ok (.aload_n 0, 1) := by decide +kernel
theorem dX6_vector_51 : decode cX6_vector 51 = .ok (.getfield 33, 3) := by decide +kernel
theorem dX6_vector_54 : decode cX6_vector 54 = .ok (.getfield 94, 3) := by decide +kernel
theorem dX6_vector_57 : decode cX6_vector 57 = .ok (.ifCond .ne 11, 3) := by decide +kernel
theorem dX6_vector_60 : decode cX6_vector 60 = .ok (.aload_n 0, 1) := by decide +kernel
theorem dX6_vector_61 : decode cX6_vector 61 = .ok (.iload_n 1, 1) := by decide +kernel
theorem dX6_vector_62 : decode cX6_vector 62 = .ok (.invokevirtual 107, 3) := by decide +kernel
theorem dX6_vector_65 : decode cX6_vector 65 = .ok (.ifCond .ne 13, 3) := by decide +kernel
theorem dX6_vector_68 : decode cX6_vector 68 = .ok (.new 64, 3) := by decide +kernel
theorem dX6_vector_71 : decode cX6_vector 71 = .ok (.dup, 1) := by decide +kernel
theorem dX6_vector_72 : decode cX6_vector 72 = .ok (.ldc 111, 2) := by decide +kernel
theorem dX6_vector_74 : decode cX6_vector 74 = .ok (.invokespecial 68, 3) := by decide +kernel
theorem dX6_vector_77 : decode cX6_vector 77 = .ok (.athrow, 1) := by decide +kernel
theorem dX6_vector_78 : decode cX6_vector 78 = .ok (.aload_n 0, 1) := by decide +kernel
theorem dX6_vector_79 : decode cX6_vector 79 = .ok (.getfield 26, 3) := by decide +kernel
theorem dX6_vector_82 : decode cX6_vector 82 = .ok (.iload_n 1, 1) := by decide +kernel
theorem dX6_vector_83 : decode cX6_vector 83 = .ok (.iload_n 2, 1) := by decide +kernel
theorem dX6_vector_84 : decode cX6_vector 84 = .ok (.iload_n 3, 1) := by decide +kernel
theorem dX6_vector_85 : decode cX6_vector 85 = .ok (.invokevirtual 113, 3) := by decide +kernel
theorem dX6_vector_88 : decode cX6_vector 88 = .ok (.aload_n 0, 1) := by decide +kernel
theorem dX6_vector_89 : decode cX6_vector 89 = .ok (.getfield 33, 3) := by decide +kernel
theorem dX6_vector_92 : decode cX6_vector 92 = .ok (.dup, 1) := by decide +kernel
theorem dX6_vector_93 : decode cX6_vector 93 = .ok (.getfield 89, 3) := by decide +kernel
theorem dX6_vector_96 : decode cX6_vector 96 = .ok (.iload_n 1, 1) := by decide +kernel
theorem dX6_vector_97 : decode cX6_vector 97 = .ok (.ifCond .ne 7, 3) := by decide +kernel
theorem dX6_vector_100 : decode cX6_vector 100 = .ok (.iconst 1, 1) := by decide +kernel
theorem dX6_vector_101 : decode cX6_vector 101 = .ok (.goto 4, 3) := by decide +kernel
theorem dX6_vector_104 : decode cX6_vector 104 = .ok (.iconst 2, 1) := by decide +kernel
theorem dX6_vector_105 : decode cX6_vector 105 = .ok (.ior, 1) := by decide +kernel
theorem dX6_vector_106 : decode cX6_vector 106 = .ok (.putfield 89, 3) := by decide +kernel
theorem dX6_vector_109 : decode cX6_vector 109 = .ok (.aload_n 0, 1) := by decide +kernel
theorem dX6_vector_110 : decode cX6_vector 110 = .ok (.getfield 33, 3) := by decide +kernel
theorem dX6_vector_113 : decode cX6_vector 113 = .ok (.iconst 1, 1) := by decide +kernel
theorem dX6_vector_114 : decode cX6_vector 114 = .ok (.putfield 98, 3) := by decide +kernel
theorem dX6_vector_117 : decode cX6_vector 117 = .ok (.return_, 1) := by decide +kernel
theorem dX6_level_0 : decode cX6_level 0 = .ok (.iload_n 1, 1) := by decide +kernel
theorem dX6_level_1 : decode cX6_level 1 = .ok (.iconst 0, 1) := by decide +kernel
theorem dX6_level_2 : decode cX6_level 2 = .ok (.iconst 5, 1) := by decide +kernel
theorem dX6_level_3 : decode cX6_level 3 = .ok (.invokestatic 41, 3) := by decide +kernel
theorem dX6_level_6 : decode cX6_level 6 = .ok (.ifCond .eq 26, 3) := by decide +kernel
theorem dX6_level_9 : decode cX6_level 9 = .ok (.iload_n 2, 1) := by decide +kernel
theorem dX6_level_10 : decode cX6_level 10 = .ok (.iconst 0, 1) := by decide +kernel
theorem dX6_level_11 : decode cX6_level 11 = .ok (.bipush 63, 2) := by decide +kernel
theorem dX6_level_13 : decode cX6_level 13 = .ok (.invokestatic 41, 3) := by decide +kernel
theorem dX6_level_16 : decode cX6_level 16 = .ok (.ifCond .eq 16, 3) := by decide +kernel
theorem dX6_level_19 : decode cX6_level 19 = .ok (.iload_n 3, 1) := by decide +kernel
theorem dX6_level_20 : decode cX6_level 20 = .ok (.sipush (-255), 3) := by decide +kernel
theorem dX6_level_23 : decode cX6_level 23 = .ok (.sipush 255, 3) := by decide +kernel
theorem dX6_level_26 : decode cX6_level 26 = .ok (.invokestatic 41, 3) := by decide +kernel
theorem dX6_level_29 : decode cX6_level 29 = .ok (.ifCond .ne 13, 3) := by decide +kernel
theorem dX6_level_32 : decode cX6_level 32 = .ok (.new 45, 3) := by decide +kernel
theorem dX6_level_35 : decode cX6_level 35 = .ok (.dup, 1) := by decide +kernel
theorem dX6_level_36 : decode cX6_level 36 = .ok (.ldc 117, 2) := by decide +kernel
theorem dX6_level_38 : decode cX6_level 38 = .ok (.invokespecial 49, 3) := by decide +kernel
theorem dX6_level_41 : decode cX6_level 41 = .ok (.athrow, 1) := by decide +kernel
theorem dX6_level_42 : decode cX6_level 42 = .ok (.aload_n 0, 1) := by decide +kernel
theorem dX6_level_43 : decode cX6_level 43 = .ok (.invokevirtual 85, 3) := by decide +kernel
theorem dX6_level_46 : decode cX6_level 46 = .ok (.ifCond .ne 13, 3) := by decide +kernel
theorem dX6_level_49 : decode cX6_level 49 = .ok (.new 64, 3) := by decide +kernel
theorem dX6_level_52 : decode cX6_level 52 = .ok (.dup, 1) := by decide +kernel
theorem dX6_level_53 : decode cX6_level 53 = .ok (.ldc 119, 2) := by decide +kernel
theorem dX6_level_55 : decode cX6_level 55 = .ok (.invokespecial 68, 3) := by decide +kernel
theorem dX6_level_58 : decode cX6_level 58 = .ok (.athrow, 1) := by decide +kernel
theorem dX6_level_59 : decode cX6_level 59 = .ok (.aload_n 0, 1) := by decide +kernel
theorem dX6_level_60 : decode cX6_level 60 = .ok (.getfield 33, 3) := by decide +kernel
theorem dX6_level_63 : decode cX6_level 63 = .ok (.getfield 121, 3) := by decide +kernel
theorem dX6_level_66 : decode cX6_level 66 = .ok (.iload_n 1, 1) := by decide +kernel
theorem dX6_level_67 : decode cX6_level 67 = .ok (.bipush 64, 2) := by decide +kernel
theorem dX6_level_69 : decode cX6_level 69 = .ok (.imul, 1) := by decide +kernel
theorem dX6_level_70 : decode cX6_level 70 = .ok (.iload_n 2, 1) := by decide +kernel
theorem dX6_level_71 : decode cX6_level 71 = .ok (.iadd, 1) := by decide +kernel
theorem dX6_level_72 : decode cX6_level 72 = .ok (.iload_n 3, 1) := by decide +kernel
theorem dX6_level_73 : decode cX6_level 73 = .ok (.iastore, 1) := by decide +kernel
theorem dX6_level_74 : decode cX6_level 74 = .ok (.aload_n 0, 1) := by decide +kernel
theorem dX6_level_75 : decode cX6_level 75 = .ok (.getfield 33, 3) := by decide +kernel
theorem dX6_level_78 : decode cX6_level 78 = .ok (.iconst 1, 1) := by decide +kernel
theorem dX6_level_79 : decode cX6_level 79 = .ok (.putfield 98, 3) := by decide +kernel
theorem dX6_level_82 : decode cX6_level 82 = .ok (.return_, 1) := by decide +kernel
theorem dX6_square_0 : decode cX6_square 0 = .ok (.aload_n 0, 1) := by decide +kernel
theorem dX6_square_1 : decode cX6_square 1 = .ok (.invokevirtual 85, 3) := by decide +kernel
theorem dX6_square_4 : decode cX6_square 4 = .ok (.ifCond .eq 10, 3) := by decide +kernel
theorem dX6_square_7 : decode cX6_square 7 = .ok (.aload_n 0, 1) := by decide +kernel
theorem dX6_square_8 : decode cX6_square 8 = .ok (.invokevirtual 125, 3) := by decide +kernel
theorem dX6_square_11 : decode cX6_square 11 = .ok (.ifCond .ne 13, 3) := by decide +kernel
theorem dX6_square_14 : decode cX6_square 14 = .ok (.new 64, 3) := by decide +kernel
theorem dX6_square_17 : decode cX6_square 17 = .ok (.dup, 1) := by decide +kernel
theorem dX6_square_18 : decode cX6_square 18 = .ok (.ldc 129, 2) := by decide +kernel
theorem dX6_square_20 : decode cX6_square 20 = .ok (.invokespecial 68, 3) := by decide +kernel
theorem dX6_square_23 : decode cX6_square 23 = .ok (.athrow, 1) := by decide +kernel
theorem dX6_square_24 : decode cX6_square 24 = .ok (.aload_n 0, 1) := by decide +kernel
theorem dX6_square_25 : decode cX6_square 25 = .ok (.getfield 33, 3) := by decide +kernel
theorem dX6_square_28 : decode cX6_square 28 = .ok (.getfield 94, 3) := by decide +kernel
theorem dX6_square_31 : decode cX6_square 31 = .ok (.ifCond .eq 10, 3) := by decide +kernel
theorem dX6_square_34 : decode cX6_square 34 = .ok (.aload_n 0, 1) := by decide +kernel
theorem dX6_square_35 : decode cX6_square 35 = .ok (.invokevirtual 131, 3) := by decide +kernel
theorem dX6_square_38 : decode cX6_square 38 = .ok (.goto 7, 3) := by decide +kernel
theorem dX6_square_41 : decode cX6_square 41 = .ok (.aload_n 0, 1) := by decide +kernel
theorem dX6_square_42 : decode cX6_square 42 = .ok (.invokevirtual 134, 3) := by decide +kernel
theorem dX6_square_45 : decode cX6_square 45 = .ok (.aload_n 0, 1) := by decide +kernel
theorem dX6_square_46 : decode cX6_square 46 = .ok (.getfield 33, 3) := by decide +kernel
theorem dX6_square_49 : decode cX6_square 49 = .ok (.invokevirtual 137, 3) := by decide +kernel
theorem dX6_square_52 : decode cX6_square 52 = .ok (.aload_n 0, 1) := by decide +kernel
theorem dX6_square_53 : decode cX6_square 53 = .ok (.dup, 1) := by decide +kernel
theorem dX6_square_54 : decode cX6_square 54 = .ok (.getfield 140, 3) := by decide +kernel
theorem dX6_square_57 : decode cX6_square 57 = .ok (.iconst 1, 1) := by decide +kernel
theorem dX6_square_58 : decode cX6_square 58 = .ok (.iadd, 1) := by decide +kernel
theorem dX6_square_59 : decode cX6_square 59 = .ok (.putfield 140, 3) := by decide +kernel
theorem dX6_square_62 : decode cX6_square 62 = .ok (.aload_n 0, 1) := by decide +kernel
theorem dX6_square_63 : decode cX6_square 63 = .ok (.getfield 140, 3) := by decide +kernel
theorem dX6_square_66 : decode cX6_square 66 = .ok (.ireturn, 1) := by decide +kernel
theorem dX6_leave_0 : decode cX6_leave 0 = .ok (.iload_n 1, 1) := by decide +kernel
theorem dX6_leave_1 : decode cX6_leave 1 = .ok (.iconst 1, 1) := by decide +kernel
theorem dX6_leave_2 : decode cX6_leave 2 = .ok (.aload_n 0, 1) := by decide +kernel
theorem dX6_leave_3 : decode cX6_leave 3 = .ok (.invokevirtual 85, 3) := by decide +kernel
theorem dX6_leave_6 : decode cX6_leave 6 = .ok (.invokestatic 41, 3) := by decide +kernel
theorem dX6_leave_9 : decode cX6_leave 9 = .ok (.ifCond .ne 13, 3) := by decide +kernel
theorem dX6_leave_12 : decode cX6_leave 12 = .ok (.new 45, 3) := by decide +kernel
theorem dX6_leave_15 : decode cX6_leave 15 = .ok (.dup, 1) := by decide +kernel
theorem dX6_leave_16 : decode cX6_leave 16 = .ok (.ldc 143, 2) := by decide +kernel
theorem dX6_leave_18 : decode cX6_leave 18 = .ok (.invokespecial 49, 3) := by decide +kernel
theorem dX6_leave_21 : decode cX6_leave 21 = .ok (.athrow, 1) := by decide +kernel
theorem dX6_leave_22 : decode cX6_leave 22 = .ok (.aload_n 0, 1) := by decide +kernel
theorem dX6_leave_23 : decode cX6_leave 23 = .ok (.invokevirtual 145, 3) := by decide +kernel
theorem dX6_leave_26 : decode cX6_leave 26 = .ok (.ifCond .ne 13, 3) := by decide +kernel
theorem dX6_leave_29 : decode cX6_leave 29 = .ok (.new 64, 3) := by decide +kernel
theorem dX6_leave_32 : decode cX6_leave 32 = .ok (.dup, 1) := by decide +kernel
theorem dX6_leave_33 : decode cX6_leave 33 = .ok (.ldc 148, 2) := by decide +kernel
theorem dX6_leave_35 : decode cX6_leave 35 = .ok (.invokespecial 68, 3) := by decide +kernel
theorem dX6_leave_38 : decode cX6_leave 38 = .ok (.athrow, 1) := by decide +kernel
theorem dX6_leave_39 : decode cX6_leave 39 = .ok (.aload_n 0, 1) := by decide +kernel
theorem dX6_leave_40 : decode cX6_leave 40 = .ok (.getfield 60, 3) := by decide +kernel
theorem dX6_leave_43 : decode cX6_leave 43 = .ok (.iconst 2, 1) := by decide +kernel
theorem dX6_leave_44 : decode cX6_leave 44 = .ok (.if_icmp .ne 15, 3) := by decide +kernel
theorem dX6_leave_47 : decode cX6_leave 47 = .ok (.aload_n 0, 1) := by decide +kernel
theorem dX6_leave_48 : decode cX6_leave 48 = .ok (.getfield 26, 3) := by decide +kernel
theorem dX6_leave_51 : decode cX6_leave 51 = .ok (.invokevirtual 150, 3) := by decide +kernel
theorem dX6_leave_54 : decode cX6_leave 54 = .ok (.aload_n 0, 1) := by decide +kernel
theorem dX6_leave_55 : decode cX6_leave 55 = .ok (.iconst 1, 1) := by decide +kernel
theorem dX6_leave_56 : decode cX6_leave 56 = .ok (.putfield 69, 3) := by decide +kernel
theorem dX6_leave_59 : decode cX6_leave 59 = .ok (.iconst 0, 1) := by decide +kernel
theorem dX6_leave_60 : decode cX6_leave 60 = .ok (.istore_n 2, 1) := by decide +kernel
theorem dX6_leave_61 : decode cX6_leave 61 = .ok (.iload_n 2, 1) := by decide +kernel
theorem dX6_leave_62 : decode cX6_leave 62 = .ok (.iload_n 1, 1) := by decide +kernel
theorem dX6_leave_63 : decode cX6_leave 63 = .ok (.if_icmp .ge 23, 3) := by decide +kernel
theorem dX6_leave_66 : decode cX6_leave 66 = .ok (.aload_n 0, 1) := by decide +kernel
theorem dX6_leave_67 : decode cX6_leave 67 = .ok (.invokevirtual 153, 3) := by decide +kernel
theorem dX6_leave_70 : decode cX6_leave 70 = .ok (.aload_n 0, 1) := by decide +kernel
theorem dX6_leave_71 : decode cX6_leave 71 = .ok (.dup, 1) := by decide +kernel
theorem dX6_leave_72 : decode cX6_leave 72 = .ok (.getfield 140, 3) := by decide +kernel
theorem dX6_leave_75 : decode cX6_leave 75 = .ok (.iconst 1, 1) := by decide +kernel
theorem dX6_leave_76 : decode cX6_leave 76 = .ok (.iadd, 1) := by decide +kernel
theorem dX6_leave_77 : decode cX6_leave 77 = .ok (.putfield 140, 3) := by decide +kernel
theorem dX6_leave_80 : decode cX6_leave 80 = .ok (.iinc 2 1, 3) := by decide +kernel
theorem dX6_leave_83 : decode cX6_leave 83 = .ok (.goto (-22), 3) := by decide +kernel
theorem dX6_leave_86 : decode cX6_leave 86 = .ok (.aload_n 0, 1) := by decide +kernel
theorem dX6_leave_87 : decode cX6_leave 87 = .ok (.getfield 19, 3) := by decide +kernel
theorem dX6_leave_90 : decode cX6_leave 90 = .ok (.invokevirtual 156, 3) := by decide +kernel
theorem dX6_leave_93 : decode cX6_leave 93 = .ok (.aload_n 0, 1) := by decide +kernel
theorem dX6_leave_94 : decode cX6_leave 94 = .ok (.getfield 140, 3) := by decide +kernel
theorem dX6_leave_97 : decode cX6_leave 97 = .ok (.ireturn, 1) := by decide +kernel
theorem dX6_done_0 : decode cX6_done 0 = .ok (.aload_n 0, 1) := by decide +kernel
theorem dX6_done_1 : decode cX6_done 1 = .ok (.getfield 60, 3) := by decide +kernel
theorem dX6_done_4 : decode cX6_done 4 = .ok (.ifCond .eq 10, 3) := by decide +kernel
theorem dX6_done_7 : decode cX6_done 7 = .ok (.aload_n 0, 1) := by decide +kernel
theorem dX6_done_8 : decode cX6_done 8 = .ok (.invokevirtual 85, 3) := by decide +kernel
theorem dX6_done_11 : decode cX6_done 11 = .ok (.ifCond .eq 13, 3) := by decide +kernel
theorem dX6_done_14 : decode cX6_done 14 = .ok (.new 64, 3) := by decide +kernel
theorem dX6_done_17 : decode cX6_done 17 = .ok (.dup, 1) := by decide +kernel
theorem dX6_done_18 : decode cX6_done 18 = .ok (.ldc 159, 2) := by decide +kernel
theorem dX6_done_20 : decode cX6_done 20 = .ok (.invokespecial 68, 3) := by decide +kernel
theorem dX6_done_23 : decode cX6_done 23 = .ok (.athrow, 1) := by decide +kernel
theorem dX6_done_24 : decode cX6_done 24 = .ok (.aload_n 0, 1) := by decide +kernel
theorem dX6_done_25 : decode cX6_done 25 = .ok (.getfield 60, 3) := by decide +kernel
theorem dX6_done_28 : decode cX6_done 28 = .ok (.iconst 3, 1) := by decide +kernel
theorem dX6_done_29 : decode cX6_done 29 = .ok (.if_icmp .ne 13, 3) := by decide +kernel
theorem dX6_done_32 : decode cX6_done 32 = .ok (.aload_n 0, 1) := by decide +kernel
theorem dX6_done_33 : decode cX6_done 33 = .ok (.getfield 10, 3) := by decide +kernel
theorem dX6_done_36 : decode cX6_done 36 = .ok (.invokevirtual 161, 3) := by decide +kernel
theorem dX6_done_39 : decode cX6_done 39 = .ok (.goto 10, 3) := by decide +kernel
theorem dX6_done_42 : decode cX6_done 42 = .ok (.aload_n 0, 1) := by decide +kernel
theorem dX6_done_43 : decode cX6_done 43 = .ok (.getfield 10, 3) := by decide +kernel
theorem dX6_done_46 : decode cX6_done 46 = .ok (.invokevirtual 164, 3) := by decide +kernel
theorem dX6_done_49 : decode cX6_done 49 = .ok (.aload_n 0, 1) := by decide +kernel
theorem dX6_done_50 : decode cX6_done 50 = .ok (.getfield 10, 3) := by decide +kernel
theorem dX6_done_53 : decode cX6_done 53 = .ok (.dup, 1) := by decide +kernel
theorem dX6_done_54 : decode cX6_done 54 = .ok (.getfield 167, 3) := by decide +kernel
theorem dX6_done_57 : decode cX6_done 57 = .ok (.iconst 1, 1) := by decide +kernel
theorem dX6_done_58 : decode cX6_done 58 = .ok (.iadd, 1) := by decide +kernel
theorem dX6_done_59 : decode cX6_done 59 = .ok (.putfield 167, 3) := by decide +kernel
theorem dX6_done_62 : decode cX6_done 62 = .ok (.aload_n 0, 1) := by decide +kernel
theorem dX6_done_63 : decode cX6_done 63 = .ok (.iconst 0, 1) := by decide +kernel
theorem dX6_done_64 : decode cX6_done 64 = .ok (.putfield 60, 3) := by decide +kernel
theorem dX6_done_67 : decode cX6_done 67 = .ok (.aload_n 0, 1) := by decide +kernel
theorem dX6_done_68 : decode cX6_done 68 = .ok (.iconst 0, 1) := by decide +kernel
