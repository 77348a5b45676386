theorem dX6_done_69 : decode cX6_done 69 = .ok (.putfield 140, 3) := by decide +kernel
theorem dX6_done_72 : decode cX6_done 72 = .ok (.aload_n 0, 1) := by decide +kernel
theorem dX6_done_73 : decode cX6_done 73 = .ok (.getfield 10, 3) := by decide +kernel
theorem dX6_done_76 : decode cX6_done 76 = .ok (.getfield 170, 3) := by decide +kernel
theorem dX6_done_79 : decode cX6_done 79 = .ok (.ireturn, 1) := by decide +kernel
theorem dX6_last_0 : decode cX6_last 0 = .ok (.aload_n 0, 1) := by decide +kernel
theorem dX6_last_1 : decode cX6_last 1 = .ok (.getfield 60, 3) := by decide +kernel
theorem dX6_last_4 : decode cX6_last 4 = .ok (.ifCond .eq 13, 3) := by decide +kernel
theorem dX6_last_7 : decode cX6_last 7 = .ok (.new 64, 3) := by decide +kernel
theorem dX6_last_10 : decode cX6_last 10 = .ok (.dup, 1) := by decide +kernel
theorem dX6_last_11 : decode cX6_last 11 = .ok (.ldc 66, 2) := by decide +kernel
theorem dX6_last_13 : decode cX6_last 13 = .ok (.invokespecial 68, 3) := by decide +kernel
theorem dX6_last_16 : decode cX6_last 16 = .ok (.athrow, 1) := by decide +kernel
theorem dX6_last_17 : decode cX6_last 17 = .ok (.aload_n 0, 1) := by decide +kernel
theorem dX6_last_18 : decode cX6_last 18 = .ok (.getfield 10, 3) := by decide +kernel
theorem dX6_last_21 : decode cX6_last 21 = .ok (.invokevirtual 173, 3) := by decide +kernel
theorem dX6_last_24 : decode cX6_last 24 = .ok (.aload_n 0, 1) := by decide +kernel
theorem dX6_last_25 : decode cX6_last 25 = .ok (.getfield 10, 3) := by decide +kernel
theorem dX6_last_28 : decode cX6_last 28 = .ok (.getfield 170, 3) := by decide +kernel
theorem dX6_last_31 : decode cX6_last 31 = .ok (.ireturn, 1) := by decide +kernel
theorem dX6_sample_0 : decode cX6_sample 0 = .ok (.aload_n 0, 1) := by decide +kernel
theorem dX6_sample_1 : decode cX6_sample 1 = .ok (.getfield 10, 3) := by decide +kernel
theorem dX6_sample_4 : decode cX6_sample 4 = .ok (.getfield 170, 3) := by decide +kernel
theorem dX6_sample_7 : decode cX6_sample 7 = .ok (.ifCond .ne 13, 3) := by decide +kernel
theorem dX6_sample_10 : decode cX6_sample 10 = .ok (.new 64, 3) := by decide +kernel
theorem dX6_sample_13 : decode cX6_sample 13 = .ok (.dup, 1) := by decide +kernel
theorem dX6_sample_14 : decode cX6_sample 14 = .ok (.ldc 176, 2) := by decide +kernel
theorem dX6_sample_16 : decode cX6_sample 16 = .ok (.invokespecial 68, 3) := by decide +kernel
theorem dX6_sample_19 : decode cX6_sample 19 = .ok (.athrow, 1) := by decide +kernel
theorem dX6_sample_20 : decode cX6_sample 20 = .ok (.iload_n 1, 1) := by decide +kernel
theorem dX6_sample_21 : decode cX6_sample 21 = .ok (.iconst 0, 1) := by decide +kernel
theorem dX6_sample_22 : decode cX6_sample 22 = .ok (.iconst 2, 1) := by decide +kernel
theorem dX6_sample_23 : decode cX6_sample 23 = .ok (.invokestatic 41, 3) := by decide +kernel
theorem dX6_sample_26 : decode cX6_sample 26 = .ok (.ifCond .eq 23, 3) := by decide +kernel
theorem dX6_sample_29 : decode cX6_sample 29 = .ok (.aload_n 0, 1) := by decide +kernel
theorem dX6_sample_30 : decode cX6_sample 30 = .ok (.getfield 10, 3) := by decide +kernel
theorem dX6_sample_33 : decode cX6_sample 33 = .ok (.getfield 178, 3) := by decide +kernel
theorem dX6_sample_36 : decode cX6_sample 36 = .ok (.getfield 182, 3) := by decide +kernel
theorem dX6_sample_39 : decode cX6_sample 39 = .ok (.iload_n 1, 1) := by decide +kernel
theorem dX6_sample_40 : decode cX6_sample 40 = .ok (.aaload, 1) := by decide +kernel
theorem dX6_sample_41 : decode cX6_sample 41 = .ok (.iload_n 2, 1) := by decide +kernel
theorem dX6_sample_42 : decode cX6_sample 42 = .ok (.iload_n 3, 1) := by decide +kernel
theorem dX6_sample_43 : decode cX6_sample 43 = .ok (.invokevirtual 188, 3) := by decide +kernel
theorem dX6_sample_46 : decode cX6_sample 46 = .ok (.ifCond .ne 13, 3) := by decide +kernel
theorem dX6_sample_49 : decode cX6_sample 49 = .ok (.new 193, 3) := by decide +kernel
theorem dX6_sample_52 : decode cX6_sample 52 = .ok (.dup, 1) := by decide +kernel
theorem dX6_sample_53 : decode cX6_sample 53 = .ok (.ldc 195, 2) := by decide +kernel
theorem dX6_sample_55 : decode cX6_sample 55 = .ok (.invokespecial 197, 3) := by decide +kernel
theorem dX6_sample_58 : decode cX6_sample 58 = .ok (.athrow, 1) := by decide +kernel
theorem dX6_sample_59 : decode cX6_sample 59 = .ok (.aload_n 0, 1) := by decide +kernel
theorem dX6_sample_60 : decode cX6_sample 60 = .ok (.getfield 10, 3) := by decide +kernel
theorem dX6_sample_63 : decode cX6_sample 63 = .ok (.getfield 178, 3) := by decide +kernel
theorem dX6_sample_66 : decode cX6_sample 66 = .ok (.getfield 182, 3) := by decide +kernel
theorem dX6_sample_69 : decode cX6_sample 69 = .ok (.iload_n 1, 1) := by decide +kernel
theorem dX6_sample_70 : decode cX6_sample 70 = .ok (.aaload, 1) := by decide +kernel
theorem dX6_sample_71 : decode cX6_sample 71 = .ok (.iload_n 2, 1) := by decide +kernel
theorem dX6_sample_72 : decode cX6_sample 72 = .ok (.iload_n 3, 1) := by decide +kernel
theorem dX6_sample_73 : decode cX6_sample 73 = .ok (.invokevirtual 198, 3) := by decide +kernel
theorem dX6_sample_76 : decode cX6_sample 76 = .ok (.ireturn, 1) := by decide +kernel
theorem dX6_colour_0 : decode cX6_colour 0 = .ok (.aload_n 0, 1) := by decide +kernel
theorem dX6_colour_1 : decode cX6_colour 1 = .ok (.getfield 10, 3) := by decide +kernel
theorem dX6_colour_4 : decode cX6_colour 4 = .ok (.getfield 170, 3) := by decide +kernel
theorem dX6_colour_7 : decode cX6_colour 7 = .ok (.ifCond .ne 13, 3) := by decide +kernel
theorem dX6_colour_10 : decode cX6_colour 10 = .ok (.new 64, 3) := by decide +kernel
theorem dX6_colour_13 : decode cX6_colour 13 = .ok (.dup, 1) := by decide +kernel
theorem dX6_colour_14 : decode cX6_colour 14 = .ok (.ldc 176, 2) := by decide +kernel
theorem dX6_colour_16 : decode cX6_colour 16 = .ok (.invokespecial 68, 3) := by decide +kernel
theorem dX6_colour_19 : decode cX6_colour 19 = .ok (.athrow, 1) := by decide +kernel
theorem dX6_colour_20 : decode cX6_colour 20 = .ok (.aload_n 0, 1) := by decide +kernel
theorem dX6_colour_21 : decode cX6_colour 21 = .ok (.getfield 10, 3) := by decide +kernel
theorem dX6_colour_24 : decode cX6_colour 24 = .ok (.getfield 178, 3) := by decide +kernel
theorem dX6_colour_27 : decode cX6_colour 27 = .ok (.getfield 182, 3) := by decide +kernel
theorem dX6_colour_30 : decode cX6_colour 30 = .ok (.iconst 0, 1) := by decide +kernel
theorem dX6_colour_31 : decode cX6_colour 31 = .ok (.aaload, 1) := by decide +kernel
theorem dX6_colour_32 : decode cX6_colour 32 = .ok (.iload_n 1, 1) := by decide +kernel
theorem dX6_colour_33 : decode cX6_colour 33 = .ok (.iload_n 2, 1) := by decide +kernel
theorem dX6_colour_34 : decode cX6_colour 34 = .ok (.invokevirtual 188, 3) := by decide +kernel
theorem dX6_colour_37 : decode cX6_colour 37 = .ok (.ifCond .ne 13, 3) := by decide +kernel
theorem dX6_colour_40 : decode cX6_colour 40 = .ok (.new 193, 3) := by decide +kernel
theorem dX6_colour_43 : decode cX6_colour 43 = .ok (.dup, 1) := by decide +kernel
theorem dX6_colour_44 : decode cX6_colour 44 = .ok (.ldc 195, 2) := by decide +kernel
theorem dX6_colour_46 : decode cX6_colour 46 = .ok (.invokespecial 197, 3) := by decide +kernel
theorem dX6_colour_49 : decode cX6_colour 49 = .ok (.athrow, 1) := by decide +kernel
theorem dX6_colour_50 : decode cX6_colour 50 = .ok (.aload_n 0, 1) := by decide +kernel
theorem dX6_colour_51 : decode cX6_colour 51 = .ok (.getfield 10, 3) := by decide +kernel
theorem dX6_colour_54 : decode cX6_colour 54 = .ok (.getfield 178, 3) := by decide +kernel
theorem dX6_colour_57 : decode cX6_colour 57 = .ok (.iload_n 1, 1) := by decide +kernel
theorem dX6_colour_58 : decode cX6_colour 58 = .ok (.iload_n 2, 1) := by decide +kernel
theorem dX6_colour_59 : decode cX6_colour 59 = .ok (.invokevirtual 202, 3) := by decide +kernel
theorem dX6_colour_62 : decode cX6_colour 62 = .ok (.ireturn, 1) := by decide +kernel
theorem dX6_light_0 : decode cX6_light 0 = .ok (.fload_n 1, 1) := by decide +kernel
theorem dX6_light_1 : decode cX6_light 1 = .ok (.ldc 205, 2) := by decide +kernel
theorem dX6_light_3 : decode cX6_light 3 = .ok (.fcmp .l, 1) := by decide +kernel
theorem dX6_light_4 : decode cX6_light 4 = .ok (.ifCond .lt 28, 3) := by decide +kernel
theorem dX6_light_7 : decode cX6_light 7 = .ok (.fload_n 1, 1) := by decide +kernel
theorem dX6_light_8 : decode cX6_light 8 = .ok (.ldc 206, 2) := by decide +kernel
theorem dX6_light_10 : decode cX6_light 10 = .ok (.fcmp .g, 1) := by decide +kernel
theorem dX6_light_11 : decode cX6_light 11 = .ok (.ifCond .gt 21, 3) := by decide +kernel
theorem dX6_light_14 : decode cX6_light 14 = .ok (.fload_n 2, 1) := by decide +kernel
theorem dX6_light_15 : decode cX6_light 15 = .ok (.ldc 207, 2) := by decide +kernel
theorem dX6_light_17 : decode cX6_light 17 = .ok (.fcmp .l, 1) := by decide +kernel
theorem dX6_light_18 : decode cX6_light 18 = .ok (.ifCond .lt 14, 3) := by decide +kernel
theorem dX6_light_21 : decode cX6_light 21 = .ok (.fload_n 2, 1) := by decide +kernel
theorem dX6_light_22 : decode cX6_light 22 = .ok (.ldc 208, 2) := by decide +kernel
theorem dX6_light_24 : decode cX6_light 24 = .ok (.fcmp .g, 1) := by decide +kernel
theorem dX6_light_25 : decode cX6_light 25 = .ok (.ifCond .gt 7, 3) := by decide +kernel
theorem dX6_light_28 : decode cX6_light 28 = .ok (.iconst 1, 1) := by decide +kernel
theorem dX6_light_29 : decode cX6_light 29 = .ok (.goto 4, 3) := by decide +kernel
theorem dX6_light_32 : decode cX6_light 32 = .ok (.iconst 0, 1) := by decide +kernel
theorem dX6_light_33 : decode cX6_light 33 = .ok (.istore_n 3, 1) := by decide +kernel
theorem dX6_light_34 : decode cX6_light 34 = .ok (.iload_n 3, 1) := by decide +kernel
theorem dX6_light_35 : decode cX6_light 35 = .ok (.ifCond .ne 13, 3) := by decide +kernel
theorem dX6_light_38 : decode cX6_light 38 = .ok (.new 45, 3) := by decide +kernel
theorem dX6_light_41 : decode cX6_light 41 = .ok (.dup, 1) := by decide +kernel
theorem dX6_light_42 : decode cX6_light 42 = .ok (.ldc 209, 2) := by decide +kernel
theorem dX6_light_44 : decode cX6_light 44 = .ok (.invokespecial 49, 3) := by decide +kernel
theorem dX6_light_47 : decode cX6_light 47 = .ok (.athrow, 1) := by decide +kernel
theorem dX6_light_48 : decode cX6_light 48 = .ok (.aload_n 0, 1) := by decide +kernel
theorem dX6_light_49 : decode cX6_light 49 = .ok (.getfield 10, 3) := by decide +kernel
theorem dX6_light_52 : decode cX6_light 52 = .ok (.getfield 170, 3) := by decide +kernel
theorem dX6_light_55 : decode cX6_light 55 = .ok (.ifCond .ne 13, 3) := by decide +kernel
theorem dX6_light_58 : decode cX6_light 58 = .ok (.new 64, 3) := by decide +kernel
theorem dX6_light_61 : decode cX6_light 61 = .ok (.dup, 1) := by decide +kernel
theorem dX6_light_62 : decode cX6_light 62 = .ok (.ldc 176, 2) := by decide +kernel
theorem dX6_light_64 : decode cX6_light 64 = .ok (.invokespecial 68, 3) := by decide +kernel
theorem dX6_light_67 : decode cX6_light 67 = .ok (.athrow, 1) := by decide +kernel
theorem dX6_light_68 : decode cX6_light 68 = .ok (.aload_n 0, 1) := by decide +kernel
theorem dX6_light_69 : decode cX6_light 69 = .ok (.getfield 10, 3) := by decide +kernel
theorem dX6_light_72 : decode cX6_light 72 = .ok (.getfield 178, 3) := by decide +kernel
theorem dX6_light_75 : decode cX6_light 75 = .ok (.getfield 182, 3) := by decide +kernel
theorem dX6_light_78 : decode cX6_light 78 = .ok (.iconst 0, 1) := by decide +kernel
theorem dX6_light_79 : decode cX6_light 79 = .ok (.aaload, 1) := by decide +kernel
theorem dX6_light_80 : decode cX6_light 80 = .ok (.fload_n 1, 1) := by decide +kernel
theorem dX6_light_81 : decode cX6_light 81 = .ok (.fload_n 2, 1) := by decide +kernel
theorem dX6_light_82 : decode cX6_light 82 = .ok (.invokevirtual 211, 3) := by decide +kernel
theorem dX6_light_85 : decode cX6_light 85 = .ok (.return_, 1) := by decide +kernel
theorem dX6_keep_0 : decode cX6_keep 0 = .ok (.aload_n 0, 1) := by decide +kernel
theorem dX6_keep_1 : decode cX6_keep 1 = .ok (.getfield 10, 3) := by decide +kernel
theorem dX6_keep_4 : decode cX6_keep 4 = .ok (.getfield 170, 3) := by decide +kernel
theorem dX6_keep_7 : decode cX6_keep 7 = .ok (.ifCond .ne 13, 3) := by decide +kernel
theorem dX6_keep_10 : decode cX6_keep 10 = .ok (.new 64, 3) := by decide +kernel
theorem dX6_keep_13 : decode cX6_keep 13 = .ok (.dup, 1) := by decide +kernel
theorem dX6_keep_14 : decode cX6_keep 14 = .ok (.ldc 176, 2) := by decide +kernel
theorem dX6_keep_16 : decode cX6_keep 16 = .ok (.invokespecial 68, 3) := by decide +kernel
theorem dX6_keep_19 : decode cX6_keep 19 = .ok (.athrow, 1) := by decide +kernel
theorem dX6_keep_20 : decode cX6_keep 20 = .ok (.aload_n 0, 1) := by decide +kernel
theorem dX6_keep_21 : decode cX6_keep 21 = .ok (.getfield 10, 3) := by decide +kernel
theorem dX6_keep_24 : decode cX6_keep 24 = .ok (.invokevirtual 215, 3) := by decide +kernel
theorem dX6_keep_27 : decode cX6_keep 27 = .ok (.return_, 1) := by decide +kernel
theorem dX6_error_0 : decode cX6_error 0 = .ok (.aload_n 0, 1) := by decide +kernel
theorem dX6_error_1 : decode cX6_error 1 = .ok (.getfield 10, 3) := by decide +kernel
theorem dX6_error_4 : decode cX6_error 4 = .ok (.getfield 170, 3) := by decide +kernel
theorem dX6_error_7 : decode cX6_error 7 = .ok (.ifCond .eq 13, 3) := by decide +kernel
theorem dX6_error_10 : decode cX6_error 10 = .ok (.aload_n 0, 1) := by decide +kernel
theorem dX6_error_11 : decode cX6_error 11 = .ok (.getfield 10, 3) := by decide +kernel
theorem dX6_error_14 : decode cX6_error 14 = .ok (.getfield 218, 3) := by decide +kernel
theorem dX6_error_17 : decode cX6_error 17 = .ok (.ifCond .ne 13, 3) := by decide +kernel
theorem dX6_error_20 : decode cX6_error 20 = .ok (.new 64, 3) := by decide +kernel
theorem dX6_error_23 : decode cX6_error 23 = .ok (.dup, 1) := by decide +kernel
theorem dX6_error_24 : decode cX6_error 24 = .ok (.ldc 221, 2) := by decide +kernel
theorem dX6_error_26 : decode cX6_error 26 = .ok (.invokespecial 68, 3) := by decide +kernel
theorem dX6_error_29 : decode cX6_error 29 = .ok (.athrow, 1) := by decide +kernel
theorem dX6_error_30 : decode cX6_error 30 = .ok (.aload_n 0, 1) := by decide +kernel
theorem dX6_error_31 : decode cX6_error 31 = .ok (.getfield 10, 3) := by decide +kernel
theorem dX6_error_34 : decode cX6_error 34 = .ok (.getfield 178, 3) := by decide +kernel
theorem dX6_error_37 : decode cX6_error 37 = .ok (.getfield 182, 3) := by decide +kernel
theorem dX6_error_40 : decode cX6_error 40 = .ok (.iconst 0, 1) := by decide +kernel
theorem dX6_error_41 : decode cX6_error 41 = .ok (.aaload, 1) := by decide +kernel
theorem dX6_error_42 : decode cX6_error 42 = .ok (.aload_n 0, 1) := by decide +kernel
theorem dX6_error_43 : decode cX6_error 43 = .ok (.getfield 10, 3) := by decide +kernel
theorem dX6_error_46 : decode cX6_error 46 = .ok (.getfield 223, 3) := by decide +kernel
theorem dX6_error_49 : decode cX6_error 49 = .ok (.invokevirtual 227, 3) := by decide +kernel
theorem dX6_error_52 : decode cX6_error 52 = .ok (.freturn, 1) := by decide +kernel
theorem dX6_told_0 : decode cX6_told 0 = .ok (.iload_n 1, 1) := by decide +kernel
theorem dX6_told_1 : decode cX6_told 1 = .ok (.iconst 0, 1) := by decide +kernel
theorem dX6_told_2 : decode cX6_told 2 = .ok (.bipush 10, 2) := by decide +kernel
theorem dX6_told_4 : decode cX6_told 4 = .ok (.invokestatic 41, 3) := by decide +kernel
theorem dX6_told_7 : decode cX6_told 7 = .ok (.ifCond .ne 13, 3) := by decide +kernel
theorem dX6_told_10 : decode cX6_told 10 = .ok (.new 45, 3) := by decide +kernel
theorem dX6_told_13 : decode cX6_told 13 = .ok (.dup, 1) := by decide +kernel
theorem dX6_told_14 : decode cX6_told 14 = .ok (.ldc 231, 2) := by decide +kernel
theorem dX6_told_16 : decode cX6_told 16 = .ok (.invokespecial 49, 3) := by decide +kernel
theorem dX6_told_19 : decode cX6_told 19 = .ok (.athrow, 1) := by decide +kernel
theorem dX6_told_20 : decode cX6_told 20 = .ok (.iload_n 1, 1) := by decide +kernel
theorem dX6_told_21 : decode cX6_told 21 = .ok (.bipush 8, 2) := by decide +kernel
theorem dX6_told_23 : decode cX6_told 23 = .ok (.if_icmp .lt 16, 3) := by decide +kernel
theorem dX6_told_26 : decode cX6_told 26 = .ok (.aload_n 0, 1) := by decide +kernel
theorem dX6_told_27 : decode cX6_told 27 = .ok (.getfield 19, 3) := by decide +kernel
theorem dX6_told_30 : decode cX6_told 30 = .ok (.getfield 233, 3) := by decide +kernel
theorem dX6_told_33 : decode cX6_told 33 = .ok (.iload_n 1, 1) := by decide +kernel
theorem dX6_told_34 : decode cX6_told 34 = .ok (.bipush 8, 2) := by decide +kernel
theorem dX6_told_36 : decode cX6_told 36 = .ok (.isub, 1) := by decide +kernel
theorem dX6_told_37 : decode cX6_told 37 = .ok (.iaload, 1) := by decide +kernel
theorem dX6_told_38 : decode cX6_told 38 = .ok (.ireturn, 1) := by decide +kernel
theorem dX6_told_39 : decode cX6_told 39 = .ok (.iload_n 1, 1) := by decide +kernel
theorem dX6_told_40 : decode cX6_told 40 = .ok (.iconst 4, 1) := by decide +kernel
theorem dX6_told_41 : decode cX6_told 41 = .ok (.if_icmp .lt 15, 3) := by decide +kernel
theorem dX6_told_44 : decode cX6_told 44 = .ok (.aload_n 0, 1) := by decide +kernel
theorem dX6_told_45 : decode cX6_told 45 = .ok (.getfield 26, 3) := by decide +kernel
theorem dX6_told_48 : decode cX6_told 48 = .ok (.getfield 236, 3) := by decide +kernel
theorem dX6_told_51 : decode cX6_told 51 = .ok (.iload_n 1, 1) := by decide +kernel
theorem dX6_told_52 : decode cX6_told 52 = .ok (.iconst 4, 1) := by decide +kernel
theorem dX6_told_53 : decode cX6_told 53 = .ok (.isub, 1) := by decide +kernel
theorem dX6_told_54 : decode cX6_told 54 = .ok (.iaload, 1) := by decide +kernel
theorem dX6_told_55 : decode cX6_told 55 = .ok (.ireturn, 1) := by decide +kernel
theorem dX6_told_56 : decode cX6_told 56 = .ok (.iload_n 1, 1) := by decide +kernel
theorem dX6_told_57 : decode cX6_told 57 = .ok (.tableswitch 45 0 2 #[27, 32, 37], 27) := by decide +kernel
theorem dX6_told_84 : decode cX6_told 84 = .ok (.aload_n 0, 1) := by decide +kernel
theorem dX6_told_85 : decode cX6_told 85 = .ok (.getfield 60, 3) := by decide +kernel
theorem dX6_told_88 : decode cX6_told 88 = .ok (.ireturn, 1) := by decide +kernel
theorem dX6_told_89 : decode cX6_told 89 = .ok (.aload_n 0, 1) := by decide +kernel
theorem dX6_told_90 : decode cX6_told 90 = .ok (.getfield 140, 3) := by decide +kernel
theorem dX6_told_93 : decode cX6_told 93 = .ok (.ireturn, 1) := by decide +kernel
theorem dX6_told_94 : decode cX6_told 94 = .ok (.aload_n 0, 1) := by decide +kernel
theorem dX6_told_95 : decode cX6_told 95 = .ok (.getfield 10, 3) := by decide +kernel
theorem dX6_told_98 : decode cX6_told 98 = .ok (.getfield 167, 3) := by decide +kernel
theorem dX6_told_101 : decode cX6_told 101 = .ok (.ireturn, 1) := by decide +kernel
theorem dX6_told_102 : decode cX6_told 102 = .ok (.aload_n 0, 1) := by decide +kernel
theorem dX6_told_103 : decode cX6_told 103 = .ok (.getfield 10, 3) := by decide +kernel
theorem dX6_told_106 : decode cX6_told 106 = .ok (.getfield 170, 3) := by decide +kernel
theorem dX6_told_109 : decode cX6_told 109 = .ok (.ireturn, 1) := by decide +kernel
theorem dX6_beginAnew_0 : decode cX6_beginAnew 0 = .ok (.aload_n 0, 1) := by decide +kernel
theorem dX6_beginAnew_1 : decode cX6_beginAnew 1 = .ok (.iload_n 1, 1) := by decide +kernel
theorem dX6_beginAnew_2 : decode cX6_beginAnew 2 = .ok (.putfield 239, 3) := by decide +kernel
theorem dX6_beginAnew_5 : decode cX6_beginAnew 5 = .ok (.aload_n 0, 1) := by decide +kernel
theorem dX6_beginAnew_6 : decode cX6_beginAnew 6 = .ok (.iload_n 2, 1) := by decide +kernel
theorem dX6_beginAnew_7 : decode cX6_beginAnew 7 = .ok (.putfield 242, 3) := by decide +kernel
theorem dX6_beginAnew_10 : decode cX6_beginAnew 10 = .ok (.aload_n 0, 1) := by decide +kernel
theorem dX6_beginAnew_11 : decode cX6_beginAnew 11 = .ok (.iconst 0, 1) := by decide +kernel
theorem dX6_beginAnew_12 : decode cX6_beginAnew 12 = .ok (.putfield 60, 3) := by decide +kernel
theorem dX6_beginAnew_15 : decode cX6_beginAnew 15 = .ok (.aload_n 0, 1) := by decide +kernel
theorem dX6_beginAnew_16 : decode cX6_beginAnew 16 = .ok (.iconst 0, 1) := by decide +kernel
theorem dX6_beginAnew_17 : decode cX6_beginAnew 17 = .ok (.putfield 140, 3) := by decide +kernel
theorem dX6_beginAnew_20 : decode cX6_beginAnew 20 = .ok (.aload_n 0, 1) := by decide +kernel
theorem dX6_beginAnew_21 : decode cX6_beginAnew 21 = .ok (.getfield 10, 3) := by decide +kernel
theorem dX6_beginAnew_24 : decode cX6_beginAnew 24 = .ok (.iload_n 1, 1) := by decide +kernel
theorem dX6_beginAnew_25 : decode cX6_beginAnew 25 = .ok (.iload_n 2, 1) := by decide +kernel
theorem dX6_beginAnew_26 : decode cX6_beginAnew 26 = .ok (.invokevirtual 245, 3) := by decide +kernel
theorem dX6_beginAnew_29 : decode cX6_beginAnew 29 = .ok (.aload_n 0, 1) := by decide +kernel
theorem dX6_beginAnew_30 : decode cX6_beginAnew 30 = .ok (.getfield 19, 3) := by decide +kernel
theorem dX6_beginAnew_33 : decode cX6_beginAnew 33 = .ok (.invokevirtual 247, 3) := by decide +kernel
theorem dX6_beginAnew_36 : decode cX6_beginAnew 36 = .ok (.aload_n 0, 1) := by decide +kernel
theorem dX6_beginAnew_37 : decode cX6_beginAnew 37 = .ok (.getfield 26, 3) := by decide +kernel
theorem dX6_beginAnew_40 : decode cX6_beginAnew 40 = .ok (.iconst 1, 1) := by decide +kernel
theorem dX6_beginAnew_41 : decode cX6_beginAnew 41 = .ok (.iconst 1, 1) := by decide +kernel
theorem dX6_beginAnew_42 : decode cX6_beginAnew 42 = .ok (.iconst 0, 1) := by decide +kernel
theorem dX6_beginAnew_43 : decode cX6_beginAnew 43 = .ok (.invokevirtual 72, 3) := by decide +kernel
theorem dX6_beginAnew_46 : decode cX6_beginAnew 46 = .ok (.aload_n 0, 1) := by decide +kernel
theorem dX6_beginAnew_47 : decode cX6_beginAnew 47 = .ok (.getfield 33, 3) := by decide +kernel
theorem dX6_beginAnew_50 : decode cX6_beginAnew 50 = .ok (.invokevirtual 137, 3) := by decide +kernel
theorem dX6_beginAnew_53 : decode cX6_beginAnew 53 = .ok (.return_, 1) := by decide +kernel
theorem dX6_squaresLeft_0 : decode cX6_squaresLeft 0 = .ok (.aload_n 0, 1) := by decide +kernel
theorem dX6_squaresLeft_1 : decode cX6_squaresLeft 1 = .ok (.getfield 60, 3) := by decide +kernel
theorem dX6_squaresLeft_4 : decode cX6_squaresLeft 4 = .ok (.ifCond .ne 7, 3) := by decide +kernel
theorem dX6_squaresLeft_7 : decode cX6_squaresLeft 7 = .ok (.iconst 0, 1) := by decide +kernel
theorem dX6_squaresLeft_8 : decode cX6_squaresLeft 8 = .ok (.goto 17, 3) := by decide +kernel
theorem dX6_squaresLeft_11 : decode cX6_squaresLeft 11 = .ok (.aload_n 0, 1) := by decide +kernel
theorem dX6_squaresLeft_12 : decode cX6_squaresLeft 12 = .ok (.getfield 239, 3) := by decide +kernel
theorem dX6_squaresLeft_15 : decode cX6_squaresLeft 15 = .ok (.aload_n 0, 1) := by decide +kernel
theorem dX6_squaresLeft_16 : decode cX6_squaresLeft 16 = .ok (.getfield 242, 3) := by decide +kernel
theorem dX6_squaresLeft_19 : decode cX6_squaresLeft 19 = .ok (.imul, 1) := by decide +kernel
theorem dX6_squaresLeft_20 : decode cX6_squaresLeft 20 = .ok (.aload_n 0, 1) := by decide +kernel
theorem dX6_squaresLeft_21 : decode cX6_squaresLeft 21 = .ok (.getfield 140, 3) := by decide +kernel
theorem dX6_squaresLeft_24 : decode cX6_squaresLeft 24 = .ok (.isub, 1) := by decide +kernel
theorem dX6_squaresLeft_25 : decode cX6_squaresLeft 25 = .ok (.ireturn, 1) := by decide +kernel
theorem dX6_kindHas_0 : decode cX6_kindHas 0 = .ok (.aload_n 0, 1) := by decide +kernel
theorem dX6_kindHas_1 : decode cX6_kindHas 1 = .ok (.getfield 60, 3) := by decide +kernel
theorem dX6_kindHas_4 : decode cX6_kindHas 4 = .ok (.iconst 3, 1) := by decide +kernel
theorem dX6_kindHas_5 : decode cX6_kindHas 5 = .ok (.if_icmp .eq 15, 3) := by decide +kernel
theorem dX6_kindHas_8 : decode cX6_kindHas 8 = .ok (.aload_n 0, 1) := by decide +kernel
theorem dX6_kindHas_9 : decode cX6_kindHas 9 = .ok (.getfield 60, 3) := by decide +kernel
theorem dX6_kindHas_12 : decode cX6_kindHas 12 = .ok (.iconst 2, 1) := by decide +kernel
theorem dX6_kindHas_13 : decode cX6_kindHas 13 = .ok (.if_icmp .ne 11, 3) := by decide +kernel
theorem dX6_kindHas_16 : decode cX6_kindHas 16 = .ok (.iload_n 1, 1) := by decide +kernel
theorem dX6_kindHas_17 : decode cX6_kindHas 17 = .ok (.ifCond .ne 7, 3) := by decide +kernel
theorem dX6_kindHas_20 : decode cX6_kindHas 20 = .ok (.iconst 1, 1) := by decide +kernel
theorem dX6_kindHas_21 : decode cX6_kindHas 21 = .ok (.goto 4, 3) := by decide +kernel
theorem dX6_kindHas_24 : decode cX6_kindHas 24 = .ok (.iconst 0, 1) := by decide +kernel
theorem dX6_kindHas_25 : decode cX6_kindHas 25 = .ok (.ireturn, 1) := by decide +kernel
theorem dX6_isEnoughTold_0 : decode cX6_isEnoughTold 0 = .ok (.aload_n 0, 1) := by decide +kernel
theorem dX6_isEnoughTold_1 : decode cX6_isEnoughTold 1 = .ok (.getfield 33, 3) := by decide +kernel
theorem dX6_isEnoughTold_4 : decode cX6_isEnoughTold 4 = .ok (.getfield 94, 3) := by decide +kernel
theorem dX6_isEnoughTold_7 : decode cX6_isEnoughTold 7 = .ok (.ifCond .ne 29, 3) := by decide +kernel
theorem dX6_isEnoughTold_10 : decode cX6_isEnoughTold 10 = .ok (.aload_n 0, 1) := by decide +kernel
theorem dX6_isEnoughTold_11 : decode cX6_isEnoughTold 11 = .ok (.getfield 60, 3) := by decide +kernel
theorem dX6_isEnoughTold_14 : decode cX6_isEnoughTold 14 = .ok (.iconst 2, 1) := by decide +kernel
theorem dX6_isEnoughTold_15 : decode cX6_isEnoughTold 15 = .ok (.if_icmp .eq 21, 3) := by decide +kernel
theorem dX6_isEnoughTold_18 : decode cX6_isEnoughTold 18 = .ok (.aload_n 0, 1) := by decide +kernel
theorem dX6_isEnoughTold_19 : decode cX6_isEnoughTold 19 = .ok (.getfield 60, 3) := by decide +kernel
theorem dX6_isEnoughTold_22 : decode cX6_isEnoughTold 22 = .ok (.iconst 3, 1) := by decide +kernel
theorem dX6_isEnoughTold_23 : decode cX6_isEnoughTold 23 = .ok (.if_icmp .ne 17, 3) := by decide +kernel
theorem dX6_isEnoughTold_26 : decode cX6_isEnoughTold 26 = .ok (.aload_n 0, 1) := by decide +kernel
theorem dX6_isEnoughTold_27 : decode cX6_isEnoughTold 27 = .ok (.getfield 33, 3) := by decide +kernel
theorem dX6_isEnoughTold_30 : decode cX6_isEnoughTold 30 = .ok (.getfield 89, 3) := by decide +kernel
theorem dX6_isEnoughTold_33 : decode cX6_isEnoughTold 33 = .ok (.ifCond .eq 7, 3) := by decide +kernel
theorem dX6_isEnoughTold_36 : decode cX6_isEnoughTold 36 = .ok (.iconst 1, 1) := by decide +kernel
theorem dX6_isEnoughTold_37 : decode cX6_isEnoughTold 37 = .ok (.goto 4, 3) := by decide +kernel
theorem dX6_isEnoughTold_40 : decode cX6_isEnoughTold 40 = .ok (.iconst 0, 1) := by decide +kernel
theorem dX6_isEnoughTold_41 : decode cX6_isEnoughTold 41 = .ok (.ireturn, 1) := by decide +kernel
theorem dX6_mayLeaveOut_0 : decode cX6_mayLeaveOut 0 = .ok (.aload_n 0, 1) := by decide +kernel
theorem dX6_mayLeaveOut_1 : decode cX6_mayLeaveOut 1 = .ok (.getfield 33, 3) := by decide +kernel
theorem dX6_mayLeaveOut_4 : decode cX6_mayLeaveOut 4 = .ok (.getfield 98, 3) := by decide +kernel
theorem dX6_mayLeaveOut_7 : decode cX6_mayLeaveOut 7 = .ok (.ifCond .ne 30, 3) := by decide +kernel
theorem dX6_mayLeaveOut_10 : decode cX6_mayLeaveOut 10 = .ok (.aload_n 0, 1) := by decide +kernel
theorem dX6_mayLeaveOut_11 : decode cX6_mayLeaveOut 11 = .ok (.getfield 60, 3) := by decide +kernel
theorem dX6_mayLeaveOut_14 : decode cX6_mayLeaveOut 14 = .ok (.iconst 2, 1) := by decide +kernel
theorem dX6_mayLeaveOut_15 : decode cX6_mayLeaveOut 15 = .ok (.if_icmp .eq 18, 3) := by decide +kernel
theorem dX6_mayLeaveOut_18 : decode cX6_mayLeaveOut 18 = .ok (.aload_n 0, 1) := by decide +kernel
theorem dX6_mayLeaveOut_19 : decode cX6_mayLeaveOut 19 = .ok (.getfield 60, 3) := by decide +kernel
theorem dX6_mayLeaveOut_22 : decode cX6_mayLeaveOut 22 = .ok (.iconst 3, 1) := by decide +kernel
theorem dX6_mayLeaveOut_23 : decode cX6_mayLeaveOut 23 = .ok (.if_icmp .ne 14, 3) := by decide +kernel
theorem dX6_mayLeaveOut_26 : decode cX6_mayLeaveOut 26 = .ok (.aload_n 0, 1) := by decide +kernel
theorem dX6_mayLeaveOut_27 : decode cX6_mayLeaveOut 27 = .ok (.getfield 69, 3) := by decide +kernel
theorem dX6_mayLeaveOut_30 : decode cX6_mayLeaveOut 30 = .ok (.ifCond .eq 7, 3) := by decide +kernel
theorem dX6_mayLeaveOut_33 : decode cX6_mayLeaveOut 33 = .ok (.iconst 1, 1) := by decide +kernel
theorem dX6_mayLeaveOut_34 : decode cX6_mayLeaveOut 34 = .ok (.goto 4, 3) := by decide +kernel
theorem dX6_mayLeaveOut_37 : decode cX6_mayLeaveOut 37 = .ok (.iconst 0, 1) := by decide +kernel
theorem dX6_mayLeaveOut_38 : decode cX6_mayLeaveOut 38 = .ok (.ireturn, 1) := by decide +kernel
theorem dX6_makeForItself_0 : decode cX6_makeForItself 0 = .ok (.aload_n 0, 1) := by decide +kernel
theorem dX6_makeForItself_1 : decode cX6_makeForItself 1 = .ok (.getfield 26, 3) := by decide +kernel
theorem dX6_makeForItself_4 : decode cX6_makeForItself 4 = .ok (.invokevirtual 150, 3) := by decide +kernel
theorem dX6_makeForItself_7 : decode cX6_makeForItself 7 = .ok (.aload_n 0, 1) := by decide +kernel
theorem dX6_makeForItself_8 : decode cX6_makeForItself 8 = .ok (.iconst 0, 1) := by decide +kernel
theorem dX6_makeForItself_9 : decode cX6_makeForItself 9 = .ok (.putfield 69, 3) := by decide +kernel
theorem dX6_makeForItself_12 : decode cX6_makeForItself 12 = .ok (.iconst 0, 1) := by decide +kernel
theorem dX6_makeForItself_13 : decode cX6_makeForItself 13 = .ok (.istore_n 1, 1) := by decide +kernel
theorem dX6_makeForItself_14 : decode cX6_makeForItself 14 = .ok (.iload_n 1, 1) := by decide +kernel
theorem dX6_makeForItself_15 : decode cX6_makeForItself 15 = .ok (.bipush 6, 2) := by decide +kernel
theorem dX6_makeForItself_17 : decode cX6_makeForItself 17 = .ok (.if_icmp .ge 30, 3) := by decide +kernel
theorem dX6_makeForItself_20 : decode cX6_makeForItself 20 = .ok (.aload_n 0, 1) := by decide +kernel
theorem dX6_makeForItself_21 : decode cX6_makeForItself 21 = .ok (.getfield 19, 3) := by decide +kernel
theorem dX6_makeForItself_24 : decode cX6_makeForItself 24 = .ok (.aload_n 0, 1) := by decide +kernel
theorem dX6_makeForItself_25 : decode cX6_makeForItself 25 = .ok (.getfield 33, 3) := by decide +kernel
theorem dX6_makeForItself_28 : decode cX6_makeForItself 28 = .ok (.getfield 121, 3) := by decide +kernel
theorem dX6_makeForItself_31 : decode cX6_makeForItself 31 = .ok (.iload_n 1, 1) := by decide +kernel
theorem dX6_makeForItself_32 : decode cX6_makeForItself 32 = .ok (.invokevirtual 248, 3) := by decide +kernel
theorem dX6_makeForItself_35 : decode cX6_makeForItself 35 = .ok (.aload_n 0, 1) := by decide +kernel
theorem dX6_makeForItself_36 : decode cX6_makeForItself 36 = .ok (.iload_n 1, 1) := by decide +kernel
theorem dX6_makeForItself_37 : decode cX6_makeForItself 37 = .ok (.iconst 0, 1) := by decide +kernel
theorem dX6_makeForItself_38 : decode cX6_makeForItself 38 = .ok (.invokevirtual 252, 3) := by decide +kernel
theorem dX6_makeForItself_41 : decode cX6_makeForItself 41 = .ok (.iinc 1 1, 3) := by decide +kernel
theorem dX6_makeForItself_44 : decode cX6_makeForItself 44 = .ok (.goto (-30), 3) := by decide +kernel
theorem dX6_makeForItself_47 : decode cX6_makeForItself 47 = .ok (.return_, 1) := by decide +kernel
theorem dX6_makeFetched_0 : decode cX6_makeFetched 0 = .ok (.aload_n 0, 1) := by decide +kernel
theorem dX6_makeFetched_1 : decode cX6_makeFetched 1 = .ok (.getfield 33, 3) := by decide +kernel
theorem dX6_makeFetched_4 : decode cX6_makeFetched 4 = .ok (.getfield 89, 3) := by decide +kernel
theorem dX6_makeFetched_7 : decode cX6_makeFetched 7 = .ok (.ifCond .ne 10, 3) := by decide +kernel
theorem dX6_makeFetched_10 : decode cX6_makeFetched 10 = .ok (.aload_n 0, 1) := by decide +kernel
theorem dX6_makeFetched_11 : decode cX6_makeFetched 11 = .ok (.getfield 26, 3) := by decide +kernel
theorem dX6_makeFetched_14 : decode cX6_makeFetched 14 = .ok (.invokevirtual 150, 3) := by decide +kernel
theorem dX6_makeFetched_17 : decode cX6_makeFetched 17 = .ok (.aload_n 0, 1) := by decide +kernel
theorem dX6_makeFetched_18 : decode cX6_makeFetched 18 = .ok (.aload_n 0, 1) := by decide +kernel
theorem dX6_makeFetched_19 : decode cX6_makeFetched 19 = .ok (.getfield 60, 3) := by decide +kernel
theorem dX6_makeFetched_22 : decode cX6_makeFetched 22 = .ok (.iconst 2, 1) := by decide +kernel
theorem dX6_makeFetched_23 : decode cX6_makeFetched 23 = .ok (.if_icmp .ne 7, 3) := by decide +kernel
theorem dX6_makeFetched_26 : decode cX6_makeFetched 26 = .ok (.iconst 1, 1) := by decide +kernel
theorem dX6_makeFetched_27 : decode cX6_makeFetched 27 = .ok (.goto 10, 3) := by decide +kernel
theorem dX6_makeFetched_30 : decode cX6_makeFetched 30 = .ok (.aload_n 0, 1) := by decide +kernel
theorem dX6_makeFetched_31 : decode cX6_makeFetched 31 = .ok (.getfield 33, 3) := by decide +kernel
theorem dX6_makeFetched_34 : decode cX6_makeFetched 34 = .ok (.getfield 89, 3) := by decide +kernel
theorem dX6_makeFetched_37 : decode cX6_makeFetched 37 = .ok (.putfield 69, 3) := by decide +kernel
theorem dX6_makeFetched_40 : decode cX6_makeFetched 40 = .ok (.aload_n 0, 1) := by decide +kernel
theorem dX6_makeFetched_41 : decode cX6_makeFetched 41 = .ok (.invokevirtual 153, 3) := by decide +kernel
theorem dX6_makeFetched_44 : decode cX6_makeFetched 44 = .ok (.iconst 0, 1) := by decide +kernel
theorem dX6_makeFetched_45 : decode cX6_makeFetched 45 = .ok (.istore_n 1, 1) := by decide +kernel
theorem dX6_makeFetched_46 : decode cX6_makeFetched 46 = .ok (.iload_n 1, 1) := by decide +kernel
theorem dX6_makeFetched_47 : decode cX6_makeFetched 47 = .ok (.bipush 6, 2) := by decide +kernel
theorem dX6_makeFetched_49 : decode cX6_makeFetched 49 = .ok (.if_icmp .ge 30, 3) := by decide +kernel
theorem dX6_makeFetched_52 : decode cX6_makeFetched 52 = .ok (.aload_n 0, 1) := by decide +kernel
theorem dX6_makeFetched_53 : decode cX6_makeFetched 53 = .ok (.getfield 19, 3) := by decide +kernel
theorem dX6_makeFetched_56 : decode cX6_makeFetched 56 = .ok (.aload_n 0, 1) := by decide +kernel
theorem dX6_makeFetched_57 : decode cX6_makeFetched 57 = .ok (.getfield 33, 3) := by decide +kernel
theorem dX6_makeFetched_60 : decode cX6_makeFetched 60 = .ok (.getfield 121, 3) := by decide +kernel
theorem dX6_makeFetched_63 : decode cX6_makeFetched 63 = .ok (.iload_n 1, 1) := by decide +kernel
theorem dX6_makeFetched_64 : decode cX6_makeFetched 64 = .ok (.invokevirtual 256, 3) := by decide +kernel
theorem dX6_makeFetched_67 : decode cX6_makeFetched 67 = .ok (.aload_n 0, 1) := by decide +kernel
theorem dX6_makeFetched_68 : decode cX6_makeFetched 68 = .ok (.iload_n 1, 1) := by decide +kernel
theorem dX6_makeFetched_69 : decode cX6_makeFetched 69 = .ok (.iconst 1, 1) := by decide +kernel
theorem dX6_makeFetched_70 : decode cX6_makeFetched 70 = .ok (.invokevirtual 252, 3) := by decide +kernel
theorem dX6_makeFetched_73 : decode cX6_makeFetched 73 = .ok (.iinc 1 1, 3) := by decide +kernel
theorem dX6_makeFetched_76 : decode cX6_makeFetched 76 = .ok (.goto (-30), 3) := by decide +kernel
theorem dX6_makeFetched_79 : decode cX6_makeFetched 79 = .ok (.aload_n 0, 1) := by decide +kernel
theorem dX6_makeFetched_80 : decode cX6_makeFetched 80 = .ok (.getfield 19, 3) := by decide +kernel
theorem dX6_makeFetched_83 : decode cX6_makeFetched 83 = .ok (.invokevirtual 156, 3) := by decide +kernel
theorem dX6_makeFetched_86 : decode cX6_makeFetched 86 = .ok (.return_, 1) := by decide +kernel
theorem dX6_placeBlock_0 : decode cX6_placeBlock 0 = .ok (.iload_n 1, 1) := by decide +kernel
theorem dX6_placeBlock_1 : decode cX6_placeBlock 1 = .ok (.invokestatic 259, 3) := by decide +kernel
theorem dX6_placeBlock_4 : decode cX6_placeBlock 4 = .ok (.istore_n 3, 1) := by decide +kernel
theorem dX6_placeBlock_5 : decode cX6_placeBlock 5 = .ok (.aload_n 0, 1) := by decide +kernel
theorem dX6_placeBlock_6 : decode cX6_placeBlock 6 = .ok (.iload_n 3, 1) := by decide +kernel
theorem dX6_placeBlock_7 : decode cX6_placeBlock 7 = .ok (.invokevirtual 263, 3) := by decide +kernel
theorem dX6_placeBlock_10 : decode cX6_placeBlock 10 = .ok (.istore 4, 2) := by decide +kernel
theorem dX6_placeBlock_12 : decode cX6_placeBlock 12 = .ok (.aload_n 0, 1) := by decide +kernel
theorem dX6_placeBlock_13 : decode cX6_placeBlock 13 = .ok (.iload_n 3, 1) := by decide +kernel
theorem dX6_placeBlock_14 : decode cX6_placeBlock 14 = .ok (.invokevirtual 266, 3) := by decide +kernel
theorem dX6_placeBlock_17 : decode cX6_placeBlock 17 = .ok (.istore 5, 2) := by decide +kernel
theorem dX6_placeBlock_19 : decode cX6_placeBlock 19 = .ok (.iload_n 3, 1) := by decide +kernel
theorem dX6_placeBlock_20 : decode cX6_placeBlock 20 = .ok (.ifCond .ne 25, 3) := by decide +kernel
theorem dX6_placeBlock_23 : decode cX6_placeBlock 23 = .ok (.iload 4, 2) := by decide +kernel
theorem dX6_placeBlock_25 : decode cX6_placeBlock 25 = .ok (.iload_n 1, 1) := by decide +kernel
theorem dX6_placeBlock_26 : decode cX6_placeBlock 26 = .ok (.iconst 1, 1) := by decide +kernel
theorem dX6_placeBlock_27 : decode cX6_placeBlock 27 = .ok (.iand, 1) := by decide +kernel
theorem dX6_placeBlock_28 : decode cX6_placeBlock 28 = .ok (.bipush 8, 2) := by decide +kernel
theorem dX6_placeBlock_30 : decode cX6_placeBlock 30 = .ok (.imul, 1) := by decide +kernel
theorem dX6_placeBlock_31 : decode cX6_placeBlock 31 = .ok (.iadd, 1) := by decide +kernel
theorem dX6_placeBlock_32 : decode cX6_placeBlock 32 = .ok (.istore 4, 2) := by decide +kernel
theorem dX6_placeBlock_34 : decode cX6_placeBlock 34 = .ok (.iload 5, 2) := by decide +kernel
theorem dX6_placeBlock_36 : decode cX6_placeBlock 36 = .ok (.iload_n 1, 1) := by decide +kernel
theorem dX6_placeBlock_37 : decode cX6_placeBlock 37 = .ok (.iconst 1, 1) := by decide +kernel
theorem dX6_placeBlock_38 : decode cX6_placeBlock 38 = .ok (.ishr, 1) := by decide +kernel
theorem dX6_placeBlock_39 : decode cX6_placeBlock 39 = .ok (.bipush 8, 2) := by decide +kernel
theorem dX6_placeBlock_41 : decode cX6_placeBlock 41 = .ok (.imul, 1) := by decide +kernel
theorem dX6_placeBlock_42 : decode cX6_placeBlock 42 = .ok (.iadd, 1) := by decide +kernel
theorem dX6_placeBlock_43 : decode cX6_placeBlock 43 = .ok (.istore 5, 2) := by decide +kernel
theorem dX6_placeBlock_45 : decode cX6_placeBlock 45 = .ok (.aload_n 0, 1) := by decide +kernel
theorem dX6_placeBlock_46 : decode cX6_placeBlock 46 = .ok (.getfield 10, 3) := by decide +kernel
theorem dX6_placeBlock_49 : decode cX6_placeBlock 49 = .ok (.getfield 269, 3) := by decide +kernel
theorem dX6_placeBlock_52 : decode cX6_placeBlock 52 = .ok (.getfield 182, 3) := by decide +kernel
theorem dX6_placeBlock_55 : decode cX6_placeBlock 55 = .ok (.iload_n 3, 1) := by decide +kernel
theorem dX6_placeBlock_56 : decode cX6_placeBlock 56 = .ok (.aaload, 1) := by decide +kernel
theorem dX6_placeBlock_57 : decode cX6_placeBlock 57 = .ok (.iload 4, 2) := by decide +kernel
theorem dX6_placeBlock_59 : decode cX6_placeBlock 59 = .ok (.iload 5, 2) := by decide +kernel
theorem dX6_placeBlock_61 : decode cX6_placeBlock 61 = .ok (.aload_n 0, 1) := by decide +kernel
theorem dX6_placeBlock_62 : decode cX6_placeBlock 62 = .ok (.getfield 19, 3) := by decide +kernel
theorem dX6_placeBlock_65 : decode cX6_placeBlock 65 = .ok (.getfield 272, 3) := by decide +kernel
theorem dX6_placeBlock_68 : decode cX6_placeBlock 68 = .ok (.iload_n 2, 1) := by decide +kernel
theorem dX6_placeBlock_69 : decode cX6_placeBlock 69 = .ok (.invokevirtual 275, 3) := by decide +kernel
theorem dX6_placeBlock_72 : decode cX6_placeBlock 72 = .ok (.return_, 1) := by decide +kernel
theorem dX6_fetchSquare_0 : decode cX6_fetchSquare 0 = .ok (.aload_n 0, 1) := by decide +kernel
theorem dX6_fetchSquare_1 : decode cX6_fetchSquare 1 = .ok (.getfield 69, 3) := by decide +kernel
theorem dX6_fetchSquare_4 : decode cX6_fetchSquare 4 = .ok (.iconst 1, 1) := by decide +kernel
theorem dX6_fetchSquare_5 : decode cX6_fetchSquare 5 = .ok (.iand, 1) := by decide +kernel
theorem dX6_fetchSquare_6 : decode cX6_fetchSquare 6 = .ok (.ifCond .eq 7, 3) := by decide +kernel
theorem dX6_fetchSquare_9 : decode cX6_fetchSquare 9 = .ok (.iconst 1, 1) := by decide +kernel
theorem dX6_fetchSquare_10 : decode cX6_fetchSquare 10 = .ok (.goto 4, 3) := by decide +kernel
theorem dX6_fetchSquare_13 : decode cX6_fetchSquare 13 = .ok (.iconst 0, 1) := by decide +kernel
theorem dX6_fetchSquare_14 : decode cX6_fetchSquare 14 = .ok (.istore_n 1, 1) := by decide +kernel
theorem dX6_fetchSquare_15 : decode cX6_fetchSquare 15 = .ok (.iload_n 1, 1) := by decide +kernel
theorem dX6_fetchSquare_16 : decode cX6_fetchSquare 16 = .ok (.ifCond .eq 34, 3) := by decide +kernel
theorem dX6_fetchSquare_19 : decode cX6_fetchSquare 19 = .ok (.aload_n 0, 1) := by decide +kernel
theorem dX6_fetchSquare_20 : decode cX6_fetchSquare 20 = .ok (.iconst 0, 1) := by decide +kernel
theorem dX6_fetchSquare_21 : decode cX6_fetchSquare 21 = .ok (.aload_n 0, 1) := by decide +kernel
theorem dX6_fetchSquare_22 : decode cX6_fetchSquare 22 = .ok (.getfield 60, 3) := by decide +kernel
theorem dX6_fetchSquare_25 : decode cX6_fetchSquare 25 = .ok (.iconst 2, 1) := by decide +kernel
theorem dX6_fetchSquare_26 : decode cX6_fetchSquare 26 = .ok (.if_icmp .ne 13, 3) := by decide +kernel
theorem dX6_fetchSquare_29 : decode cX6_fetchSquare 29 = .ok (.aload_n 0, 1) := by decide +kernel
theorem dX6_fetchSquare_30 : decode cX6_fetchSquare 30 = .ok (.getfield 10, 3) := by decide +kernel
theorem dX6_fetchSquare_33 : decode cX6_fetchSquare 33 = .ok (.getfield 279, 3) := by decide +kernel
theorem dX6_fetchSquare_36 : decode cX6_fetchSquare 36 = .ok (.goto 10, 3) := by decide +kernel
theorem dX6_fetchSquare_39 : decode cX6_fetchSquare 39 = .ok (.aload_n 0, 1) := by decide +kernel
theorem dX6_fetchSquare_40 : decode cX6_fetchSquare 40 = .ok (.getfield 10, 3) := by decide +kernel
theorem dX6_fetchSquare_43 : decode cX6_fetchSquare 43 = .ok (.getfield 282, 3) := by decide +kernel
theorem dX6_fetchSquare_46 : decode cX6_fetchSquare 46 = .ok (.iconst 0, 1) := by decide +kernel
theorem dX6_fetchSquare_47 : decode cX6_fetchSquare 47 = .ok (.invokevirtual 285, 3) := by decide +kernel
theorem dX6_fetchSquare_50 : decode cX6_fetchSquare 50 = .ok (.aload_n 0, 1) := by decide +kernel
theorem dX6_fetchSquare_51 : decode cX6_fetchSquare 51 = .ok (.getfield 69, 3) := by decide +kernel
theorem dX6_fetchSquare_54 : decode cX6_fetchSquare 54 = .ok (.iconst 2, 1) := by decide +kernel
theorem dX6_fetchSquare_55 : decode cX6_fetchSquare 55 = .ok (.iand, 1) := by decide +kernel
theorem dX6_fetchSquare_56 : decode cX6_fetchSquare 56 = .ok (.ifCond .eq 16, 3) := by decide +kernel
theorem dX6_fetchSquare_59 : decode cX6_fetchSquare 59 = .ok (.aload_n 0, 1) := by decide +kernel
theorem dX6_fetchSquare_60 : decode cX6_fetchSquare 60 = .ok (.iconst 1, 1) := by decide +kernel
theorem dX6_fetchSquare_61 : decode cX6_fetchSquare 61 = .ok (.aload_n 0, 1) := by decide +kernel
theorem dX6_fetchSquare_62 : decode cX6_fetchSquare 62 = .ok (.getfield 10, 3) := by decide +kernel
theorem dX6_fetchSquare_65 : decode cX6_fetchSquare 65 = .ok (.getfield 279, 3) := by decide +kernel
theorem dX6_fetchSquare_68 : decode cX6_fetchSquare 68 = .ok (.iload_n 1, 1) := by decide +kernel
theorem dX6_fetchSquare_69 : decode cX6_fetchSquare 69 = .ok (.invokevirtual 285, 3) := by decide +kernel
theorem dX6_fetchSquare_72 : decode cX6_fetchSquare 72 = .ok (.return_, 1) := by decide +kernel
theorem dX6_fetchBy_0 : decode cX6_fetchBy 0 = .ok (.iconst 0, 1) := by decide +kernel
theorem dX6_fetchBy_1 : decode cX6_fetchBy 1 = .ok (.istore 4, 2) := by decide +kernel
theorem dX6_fetchBy_3 : decode cX6_fetchBy 3 = .ok (.iload 4, 2) := by decide +kernel
theorem dX6_fetchBy_5 : decode cX6_fetchBy 5 = .ok (.iconst 3, 1) := by decide +kernel
theorem dX6_fetchBy_6 : decode cX6_fetchBy 6 = .ok (.if_icmp .ge 83, 3) := by decide +kernel
theorem dX6_fetchBy_9 : decode cX6_fetchBy 9 = .ok (.aload_n 0, 1) := by decide +kernel
theorem dX6_fetchBy_10 : decode cX6_fetchBy 10 = .ok (.getfield 26, 3) := by decide +kernel
theorem dX6_fetchBy_13 : decode cX6_fetchBy 13 = .ok (.iload 4, 2) := by decide +kernel
theorem dX6_fetchBy_15 : decode cX6_fetchBy 15 = .ok (.iconst 2, 1) := by decide +kernel
theorem dX6_fetchBy_16 : decode cX6_fetchBy 16 = .ok (.iload_n 1, 1) := by decide +kernel
theorem dX6_fetchBy_17 : decode cX6_fetchBy 17 = .ok (.imul, 1) := by decide +kernel
theorem dX6_fetchBy_18 : decode cX6_fetchBy 18 = .ok (.invokevirtual 289, 3) := by decide +kernel
theorem dX6_fetchBy_21 : decode cX6_fetchBy 21 = .ok (.istore 5, 2) := by decide +kernel
theorem dX6_fetchBy_23 : decode cX6_fetchBy 23 = .ok (.aload_n 0, 1) := by decide +kernel
theorem dX6_fetchBy_24 : decode cX6_fetchBy 24 = .ok (.getfield 26, 3) := by decide +kernel
theorem dX6_fetchBy_27 : decode cX6_fetchBy 27 = .ok (.iload 4, 2) := by decide +kernel
theorem dX6_fetchBy_29 : decode cX6_fetchBy 29 = .ok (.iconst 2, 1) := by decide +kernel
theorem dX6_fetchBy_30 : decode cX6_fetchBy 30 = .ok (.iload_n 1, 1) := by decide +kernel
theorem dX6_fetchBy_31 : decode cX6_fetchBy 31 = .ok (.imul, 1) := by decide +kernel
theorem dX6_fetchBy_32 : decode cX6_fetchBy 32 = .ok (.iconst 1, 1) := by decide +kernel
theorem dX6_fetchBy_33 : decode cX6_fetchBy 33 = .ok (.iadd, 1) := by decide +kernel
theorem dX6_fetchBy_34 : decode cX6_fetchBy 34 = .ok (.invokevirtual 289, 3) := by decide +kernel
theorem dX6_fetchBy_37 : decode cX6_fetchBy 37 = .ok (.istore 6, 2) := by decide +kernel
theorem dX6_fetchBy_39 : decode cX6_fetchBy 39 = .ok (.aload_n 0, 1) := by decide +kernel
theorem dX6_fetchBy_40 : decode cX6_fetchBy 40 = .ok (.getfield 10, 3) := by decide +kernel
theorem dX6_fetchBy_43 : decode cX6_fetchBy 43 = .ok (.getfield 269, 3) := by decide +kernel
theorem dX6_fetchBy_46 : decode cX6_fetchBy 46 = .ok (.getfield 182, 3) := by decide +kernel
theorem dX6_fetchBy_49 : decode cX6_fetchBy 49 = .ok (.iload 4, 2) := by decide +kernel
theorem dX6_fetchBy_51 : decode cX6_fetchBy 51 = .ok (.aaload, 1) := by decide +kernel
theorem dX6_fetchBy_52 : decode cX6_fetchBy 52 = .ok (.astore 7, 2) := by decide +kernel
theorem dX6_fetchBy_54 : decode cX6_fetchBy 54 = .ok (.aload 7, 2) := by decide +kernel
theorem dX6_fetchBy_56 : decode cX6_fetchBy 56 = .ok (.aload_n 2, 1) := by decide +kernel
theorem dX6_fetchBy_57 : decode cX6_fetchBy 57 = .ok (.getfield 182, 3) := by decide +kernel
theorem dX6_fetchBy_60 : decode cX6_fetchBy 60 = .ok (.iload 4, 2) := by decide +kernel
theorem dX6_fetchBy_62 : decode cX6_fetchBy 62 = .ok (.aaload, 1) := by decide +kernel
theorem dX6_fetchBy_63 : decode cX6_fetchBy 63 = .ok (.aload_n 0, 1) := by decide +kernel
theorem dX6_fetchBy_64 : decode cX6_fetchBy 64 = .ok (.iload 4, 2) := by decide +kernel
theorem dX6_fetchBy_66 : decode cX6_fetchBy 66 = .ok (.invokevirtual 263, 3) := by decide +kernel
theorem dX6_fetchBy_69 : decode cX6_fetchBy 69 = .ok (.aload_n 0, 1) := by decide +kernel
theorem dX6_fetchBy_70 : decode cX6_fetchBy 70 = .ok (.iload 4, 2) := by decide +kernel
theorem dX6_fetchBy_72 : decode cX6_fetchBy 72 = .ok (.invokevirtual 266, 3) := by decide +kernel
theorem dX6_fetchBy_75 : decode cX6_fetchBy 75 = .ok (.iload 5, 2) := by decide +kernel
theorem dX6_fetchBy_77 : decode cX6_fetchBy 77 = .ok (.iload 6, 2) := by decide +kernel
theorem dX6_fetchBy_79 : decode cX6_fetchBy 79 = .ok (.iload_n 3, 1) := by decide +kernel
theorem dX6_fetchBy_80 : decode cX6_fetchBy 80 = .ok (.invokevirtual 292, 3) := by decide +kernel
theorem dX6_fetchBy_83 : decode cX6_fetchBy 83 = .ok (.iinc 4 1, 3) := by decide +kernel
theorem dX6_fetchBy_86 : decode cX6_fetchBy 86 = .ok (.goto (-83), 3) := by decide +kernel
theorem dX6_fetchBy_89 : decode cX6_fetchBy 89 = .ok (.return_, 1) := by decide +kernel
theorem dX6_squareLeft_0 : decode cX6_squareLeft 0 = .ok (.aload_n 0, 1) := by decide +kernel
theorem dX6_squareLeft_1 : decode cX6_squareLeft 1 = .ok (.getfield 140, 3) := by decide +kernel
theorem dX6_squareLeft_4 : decode cX6_squareLeft 4 = .ok (.aload_n 0, 1) := by decide +kernel
theorem dX6_squareLeft_5 : decode cX6_squareLeft 5 = .ok (.getfield 239, 3) := by decide +kernel
theorem dX6_squareLeft_8 : decode cX6_squareLeft 8 = .ok (.irem, 1) := by decide +kernel
theorem dX6_squareLeft_9 : decode cX6_squareLeft 9 = .ok (.iload_n 1, 1) := by decide +kernel
theorem dX6_squareLeft_10 : decode cX6_squareLeft 10 = .ok (.invokestatic 295, 3) := by decide +kernel
theorem dX6_squareLeft_13 : decode cX6_squareLeft 13 = .ok (.imul, 1) := by decide +kernel
theorem dX6_squareLeft_14 : decode cX6_squareLeft 14 = .ok (.ireturn, 1) := by decide +kernel
theorem dX6_squareTop_0 : decode cX6_squareTop 0 = .ok (.aload_n 0, 1) := by decide +kernel
theorem dX6_squareTop_1 : decode cX6_squareTop 1 = .ok (.getfield 140, 3) := by decide +kernel
theorem dX6_squareTop_4 : decode cX6_squareTop 4 = .ok (.aload_n 0, 1) := by decide +kernel
theorem dX6_squareTop_5 : decode cX6_squareTop 5 = .ok (.getfield 239, 3) := by decide +kernel
theorem dX6_squareTop_8 : decode cX6_squareTop 8 = .ok (.idiv, 1) := by decide +kernel
theorem dX6_squareTop_9 : decode cX6_squareTop 9 = .ok (.iload_n 1, 1) := by decide +kernel
theorem dX6_squareTop_10 : decode cX6_squareTop 10 = .ok (.invokestatic 295, 3) := by decide +kernel
theorem dX6_squareTop_13 : decode cX6_squareTop 13 = .ok (.imul, 1) := by decide +kernel
theorem dX6_squareTop_14 : decode cX6_squareTop 14 = .ok (.ireturn, 1) := by decide +kernel
theorem dX6_squareSide_0 : decode cX6_squareSide 0 = .ok (.iload_n 0, 1) := by decide +kernel
theorem dX6_squareSide_1 : decode cX6_squareSide 1 = .ok (.ifCond .ne 8, 3) := by decide +kernel
theorem dX6_squareSide_4 : decode cX6_squareSide 4 = .ok (.bipush 16, 2) := by decide +kernel
theorem dX6_squareSide_6 : decode cX6_squareSide 6 = .ok (.goto 5, 3) := by decide +kernel
theorem dX6_squareSide_9 : decode cX6_squareSide 9 = .ok (.bipush 8, 2) := by decide +kernel
theorem dX6_squareSide_11 : decode cX6_squareSide 11 = .ok (.ireturn, 1) := by decide +kernel
theorem dX6_planeOf_0 : decode cX6_planeOf 0 = .ok (.iload_n 0, 1) := by decide +kernel
theorem dX6_planeOf_1 : decode cX6_planeOf 1 = .ok (.iconst 4, 1) := by decide +kernel
theorem dX6_planeOf_2 : decode cX6_planeOf 2 = .ok (.if_icmp .ge 7, 3) := by decide +kernel
theorem dX6_planeOf_5 : decode cX6_planeOf 5 = .ok (.iconst 0, 1) := by decide +kernel
theorem dX6_planeOf_6 : decode cX6_planeOf 6 = .ok (.goto 6, 3) := by decide +kernel
theorem dX6_planeOf_9 : decode cX6_planeOf 9 = .ok (.iload_n 0, 1) := by decide +kernel
theorem dX6_planeOf_10 : decode cX6_planeOf 10 = .ok (.iconst 3, 1) := by decide +kernel
theorem dX6_planeOf_11 : decode cX6_planeOf 11 = .ok (.isub, 1) := by decide +kernel
theorem dX6_planeOf_12 : decode cX6_planeOf 12 = .ok (.ireturn, 1) := by decide +kernel
theorem dX6_isWithin_0 : decode cX6_isWithin 0 = .ok (.iload_n 0, 1) := by decide +kernel
theorem dX6_isWithin_1 : decode cX6_isWithin 1 = .ok (.iload_n 1, 1) := by decide +kernel
theorem dX6_isWithin_2 : decode cX6_isWithin 2 = .ok (.if_icmp .lt 12, 3) := by decide +kernel
theorem dX6_isWithin_5 : decode cX6_isWithin 5 = .ok (.iload_n 0, 1) := by decide +kernel
theorem dX6_isWithin_6 : decode cX6_isWithin 6 = .ok (.iload_n 2, 1) := by decide +kernel
theorem dX6_isWithin_7 : decode cX6_isWithin 7 = .ok (.if_icmp .gt 7, 3) := by decide +kernel
theorem dX6_isWithin_10 : decode cX6_isWithin 10 = .ok (.iconst 1, 1) := by decide +kernel
theorem dX6_isWithin_11 : decode cX6_isWithin 11 = .ok (.goto 4, 3) := by decide +kernel
theorem dX6_isWithin_14 : decode cX6_isWithin 14 = .ok (.iconst 0, 1) := by decide +kernel
theorem dX6_isWithin_15 : decode cX6_isWithin 15 = .ok (.ireturn, 1) := by decide +kernel
theorem dX6_bounded_0 : decode cX6_bounded 0 = .ok (.iload_n 0, 1) := by decide +kernel
theorem dX6_bounded_1 : decode cX6_bounded 1 = .ok (.iload_n 1, 1) := by decide +kernel
theorem dX6_bounded_2 : decode cX6_bounded 2 = .ok (.if_icmp .ge 5, 3) := by decide +kernel
theorem dX6_bounded_5 : decode cX6_bounded 5 = .ok (.iload_n 1, 1) := by decide +kernel
theorem dX6_bounded_6 : decode cX6_bounded 6 = .ok (.ireturn, 1) := by decide +kernel
theorem dX6_bounded_7 : decode cX6_bounded 7 = .ok (.iload_n 0, 1) := by decide +kernel
theorem dX6_bounded_8 : decode cX6_bounded 8 = .ok (.iload_n 2, 1) := by decide +kernel
theorem dX6_bounded_9 : decode cX6_bounded 9 = .ok (.if_icmp .le 7, 3) := by decide +kernel
theorem dX6_bounded_12 : decode cX6_bounded 12 = .ok (.iload_n 2, 1) := by decide +kernel
theorem dX6_bounded_13 : decode cX6_bounded 13 = .ok (.goto 4, 3) := by decide +kernel
theorem dX6_bounded_16 : decode cX6_bounded 16 = .ok (.iload_n 0, 1) := by decide +kernel
theorem dX6_bounded_17 : decode cX6_bounded 17 = .ok (.ireturn, 1) := by decide +kernel
theorem dX7_init_0 : decode cX7_init 0 = .ok (.aload_n 0, 1) := by decide +kernel
theorem dX7_init_1 : decode cX7_init 1 = .ok (.invokespecial 1, 3) := by decide +kernel
theorem dX7_init_4 : decode cX7_init 4 = .ok (.aload_n 0, 1) := by decide +kernel
theorem dX7_init_5 : decode cX7_init 5 = .ok (.sipush 128, 3) := by decide +kernel
theorem dX7_init_8 : decode cX7_init 8 = .ok (.newarray .int, 2) := by decide +kernel
theorem dX7_init_10 : decode cX7_init 10 = .ok (.putfield 7, 3) := by decide +kernel
theorem dX7_init_13 : decode cX7_init 13 = .ok (.aload_n 0, 1) := by decide +kernel
theorem dX7_init_14 : decode cX7_init 14 = .ok (.bipush 9, 2) := by decide +kernel
theorem dX7_init_16 : decode cX7_init 16 = .ok (.newarray .int, 2) := by decide +kernel
theorem dX7_init_18 : decode cX7_init 18 = .ok (.dup, 1) := by decide +kernel
theorem dX7_init_19 : decode cX7_init 19 = .ok (.iconst 0, 1) := by decide +kernel
theorem dX7_init_20 : decode cX7_init 20 = .ok (.sipush 1024, 3) := by decide +kernel
theorem dX7_init_23 : decode cX7_init 23 = .ok (.iastore, 1) := by decide +kernel
theorem dX7_init_24 : decode cX7_init 24 = .ok (.dup, 1) := by decide +kernel
theorem dX7_init_25 : decode cX7_init 25 = .ok (.iconst 1, 1) := by decide +kernel
theorem dX7_init_26 : decode cX7_init 26 = .ok (.sipush 1004, 3) := by decide +kernel
theorem dX7_init_29 : decode cX7_init 29 = .ok (.iastore, 1) := by decide +kernel
theorem dX7_init_30 : decode cX7_init 30 = .ok (.dup, 1) := by decide +kernel
theorem dX7_init_31 : decode cX7_init 31 = .ok (.iconst 2, 1) := by decide +kernel
theorem dX7_init_32 : decode cX7_init 32 = .ok (.sipush 946, 3) := by decide +kernel
theorem dX7_init_35 : decode cX7_init 35 = .ok (.iastore, 1) := by decide +kernel
theorem dX7_init_36 : decode cX7_init 36 = .ok (.dup, 1) := by decide +kernel
theorem dX7_init_37 : decode cX7_init 37 = .ok (.iconst 3, 1) := by decide +kernel
theorem dX7_init_38 : decode cX7_init 38 = .ok (.sipush 851, 3) := by decide +kernel
theorem dX7_init_41 : decode cX7_init 41 = .ok (.iastore, 1) := by decide +kernel
theorem dX7_init_42 : decode cX7_init 42 = .ok (.dup, 1) := by decide +kernel
theorem dX7_init_43 : decode cX7_init 43 = .ok (.iconst 4, 1) := by decide +kernel
theorem dX7_init_44 : decode cX7_init 44 = .ok (.sipush 724, 3) := by decide +kernel
theorem dX7_init_47 : decode cX7_init 47 = .ok (.iastore, 1) := by decide +kernel
theorem dX7_init_48 : decode cX7_init 48 = .ok (.dup, 1) := by decide +kernel
theorem dX7_init_49 : decode cX7_init 49 = .ok (.iconst 5, 1) := by decide +kernel
theorem dX7_init_50 : decode cX7_init 50 = .ok (.sipush 569, 3) := by decide +kernel
theorem dX7_init_53 : decode cX7_init 53 = .ok (.iastore, 1) := by decide +kernel
theorem dX7_init_54 : decode cX7_init 54 = .ok (.dup, 1) := by decide +kernel
theorem dX7_init_55 : decode cX7_init 55 = .ok (.bipush 6, 2) := by decide +kernel
theorem dX7_init_57 : decode cX7_init 57 = .ok (.sipush 392, 3) := by decide +kernel
theorem dX7_init_60 : decode cX7_init 60 = .ok (.iastore, 1) := by decide +kernel
theorem dX7_init_61 : decode cX7_init 61 = .ok (.dup, 1) := by decide +kernel
theorem dX7_init_62 : decode cX7_init 62 = .ok (.bipush 7, 2) := by decide +kernel
theorem dX7_init_64 : decode cX7_init 64 = .ok (.sipush 200, 3) := by decide +kernel
theorem dX7_init_67 : decode cX7_init 67 = .ok (.iastore, 1) := by decide +kernel
theorem dX7_init_68 : decode cX7_init 68 = .ok (.dup, 1) := by decide +kernel
theorem dX7_init_69 : decode cX7_init 69 = .ok (.bipush 8, 2) := by decide +kernel
theorem dX7_init_71 : decode cX7_init 71 = .ok (.iconst 0, 1) := by decide +kernel
theorem dX7_init_72 : decode cX7_init 72 = .ok (.iastore, 1) := by decide +kernel
theorem dX7_init_73 : decode cX7_init 73 = .ok (.putfield 13, 3) := by decide +kernel
theorem dX7_init_76 : decode cX7_init 76 = .ok (.aload_n 0, 1) := by decide +kernel
theorem dX7_init_77 : decode cX7_init 77 = .ok (.bipush 64, 2) := by decide +kernel
theorem dX7_init_79 : decode cX7_init 79 = .ok (.newarray .int, 2) := by decide +kernel
theorem dX7_init_81 : decode cX7_init 81 = .ok (.putfield 16, 3) := by decide +kernel
theorem dX7_init_84 : decode cX7_init 84 = .ok (.aload_n 0, 1) := by decide +kernel
theorem dX7_init_85 : decode cX7_init 85 = .ok (.sipush 4608, 3) := by decide +kernel
theorem dX7_init_88 : decode cX7_init 88 = .ok (.newarray .int, 2) := by decide +kernel
theorem dX7_init_90 : decode cX7_init 90 = .ok (.putfield 19, 3) := by decide +kernel
theorem dX7_init_93 : decode cX7_init 93 = .ok (.aload_n 0, 1) := by decide +kernel
theorem dX7_init_94 : decode cX7_init 94 = .ok (.sipush 4608, 3) := by decide +kernel
theorem dX7_init_97 : decode cX7_init 97 = .ok (.newarray .int, 2) := by decide +kernel
theorem dX7_init_99 : decode cX7_init 99 = .ok (.putfield 22, 3) := by decide +kernel
theorem dX7_init_102 : decode cX7_init 102 = .ok (.aload_n 0, 1) := by decide +kernel
theorem dX7_init_103 : decode cX7_init 103 = .ok (.sipush 4608, 3) := by decide +kernel
theorem dX7_init_106 : decode cX7_init 106 = .ok (.newarray .int, 2) := by decide +kernel
theorem dX7_init_108 : decode cX7_init 108 = .ok (.putfield 25, 3) := by decide +kernel
theorem dX7_init_111 : decode cX7_init 111 = .ok (.aload_n 0, 1) := by decide +kernel
theorem dX7_init_112 : decode cX7_init 112 = .ok (.sipush 4608, 3) := by decide +kernel
theorem dX7_init_115 : decode cX7_init 115 = .ok (.newarray .int, 2) := by decide +kernel
theorem dX7_init_117 : decode cX7_init 117 = .ok (.putfield 28, 3) := by decide +kernel
theorem dX7_init_120 : decode cX7_init 120 = .ok (.aload_n 0, 1) := by decide +kernel
theorem dX7_init_121 : decode cX7_init 121 = .ok (.sipush 4608, 3) := by decide +kernel
theorem dX7_init_124 : decode cX7_init 124 = .ok (.newarray .int, 2) := by decide +kernel
theorem dX7_init_126 : decode cX7_init 126 = .ok (.putfield 31, 3) := by decide +kernel
theorem dX7_init_129 : decode cX7_init 129 = .ok (.aload_n 0, 1) := by decide +kernel
theorem dX7_init_130 : decode cX7_init 130 = .ok (.iconst 2, 1) := by decide +kernel
theorem dX7_init_131 : decode cX7_init 131 = .ok (.newarray .int, 2) := by decide +kernel
theorem dX7_init_133 : decode cX7_init 133 = .ok (.putfield 34, 3) := by decide +kernel
theorem dX7_init_136 : decode cX7_init 136 = .ok (.aload_n 0, 1) := by decide +kernel
theorem dX7_init_137 : decode cX7_init 137 = .ok (.iconst 4, 1) := by decide +kernel
theorem dX7_init_138 : decode cX7_init 138 = .ok (.newarray .int, 2) := by decide +kernel
theorem dX7_init_140 : decode cX7_init 140 = .ok (.putfield 37, 3) := by decide +kernel
theorem dX7_init_143 : decode cX7_init 143 = .ok (.aload_n 0, 1) := by decide +kernel
theorem dX7_init_144 : decode cX7_init 144 = .ok (.iconst 3, 1) := by decide +kernel
theorem dX7_init_145 : decode cX7_init 145 = .ok (.newarray .int, 2) := by decide +kernel
theorem dX7_init_147 : decode cX7_init 147 = .ok (.putfield 40, 3) := by decide +kernel
theorem dX7_init_150 : decode cX7_init 150 = .ok (.aload_n 0, 1) := by decide +kernel
theorem dX7_init_151 : decode cX7_init 151 = .ok (.iconst 2, 1) := by decide +kernel
theorem dX7_init_152 : decode cX7_init 152 = .ok (.newarray .boolean, 2) := by decide +kernel
theorem dX7_init_154 : decode cX7_init 154 = .ok (.putfield 43, 3) := by decide +kernel
theorem dX7_init_157 : decode cX7_init 157 = .ok (.aload_n 0, 1) := by decide +kernel
theorem dX7_init_158 : decode cX7_init 158 = .ok (.sipush 384, 3) := by decide +kernel
theorem dX7_init_161 : decode cX7_init 161 = .ok (.newarray .int, 2) := by decide +kernel
theorem dX7_init_163 : decode cX7_init 163 = .ok (.putfield 47, 3) := by decide +kernel
theorem dX7_init_166 : decode cX7_init 166 = .ok (.aload_n 0, 1) := by decide +kernel
theorem dX7_init_167 : decode cX7_init 167 = .ok (.iconst 2, 1) := by decide +kernel
theorem dX7_init_168 : decode cX7_init 168 = .ok (.newarray .boolean, 2) := by decide +kernel
theorem dX7_init_170 : decode cX7_init 170 = .ok (.putfield 50, 3) := by decide +kernel
theorem dX7_init_173 : decode cX7_init 173 = .ok (.aload_n 0, 1) := by decide +kernel
theorem dX7_init_174 : decode cX7_init 174 = .ok (.bipush 64, 2) := by decide +kernel
theorem dX7_init_176 : decode cX7_init 176 = .ok (.newarray .int, 2) := by decide +kernel
theorem dX7_init_178 : decode cX7_init 178 = .ok (.putfield 53, 3) := by decide +kernel
theorem dX7_init_181 : decode cX7_init 181 = .ok (.aload_n 0, 1) := by decide +kernel
theorem dX7_init_182 : decode cX7_init 182 = .ok (.bipush 64, 2) := by decide +kernel
theorem dX7_init_184 : decode cX7_init 184 = .ok (.newarray .int, 2) := by decide +kernel
theorem dX7_init_186 : decode cX7_init 186 = .ok (.putfield 56, 3) := by decide +kernel
theorem dX7_init_189 : decode cX7_init 189 = .ok (.aload_n 0, 1) := by decide +kernel
theorem dX7_init_190 : decode cX7_init 190 = .ok (.bipush 64, 2) := by decide +kernel
theorem dX7_init_192 : decode cX7_init 192 = .ok (.newarray .int, 2) := by decide +kernel
theorem dX7_init_194 : decode cX7_init 194 = .ok (.putfield 59, 3) := by decide +kernel
theorem dX7_init_197 : decode cX7_init 197 = .ok (.iconst 1, 1) := by decide +kernel
theorem dX7_init_198 : decode cX7_init 198 = .ok (.istore_n 1, 1) := by decide +kernel
theorem dX7_init_199 : decode cX7_init 199 = .ok (.iconst 1, 1) := by decide +kernel
theorem dX7_init_200 : decode cX7_init 200 = .ok (.istore_n 2, 1) := by decide +kernel
theorem dX7_init_201 : decode cX7_init 201 = .ok (.iload_n 2, 1) := by decide +kernel
theorem dX7_init_202 : decode cX7_init 202 = .ok (.bipush 15, 2) := by decide +kernel
theorem dX7_init_204 : decode cX7_init 204 = .ok (.if_icmp .ge 75, 3) := by decide +kernel
theorem dX7_init_207 : decode cX7_init 207 = .ok (.iconst 0, 1) := by decide +kernel
theorem dX7_init_208 : decode cX7_init 208 = .ok (.istore_n 3, 1) := by decide +kernel
theorem dX7_init_209 : decode cX7_init 209 = .ok (.iload_n 3, 1) := by decide +kernel
theorem dX7_init_210 : decode cX7_init 210 = .ok (.iload_n 2, 1) := by decide +kernel
theorem dX7_init_211 : decode cX7_init 211 = .ok (.if_icmp .gt 62, 3) := by decide +kernel
theorem dX7_init_214 : decode cX7_init 214 = .ok (.iload_n 2, 1) := by decide +kernel
theorem dX7_init_215 : decode cX7_init 215 = .ok (.iconst 2, 1) := by decide +kernel
theorem dX7_init_216 : decode cX7_init 216 = .ok (.irem, 1) := by decide +kernel
theorem dX7_init_217 : decode cX7_init 217 = .ok (.iconst 1, 1) := by decide +kernel
theorem dX7_init_218 : decode cX7_init 218 = .ok (.if_icmp .ne 7, 3) := by decide +kernel
theorem dX7_init_221 : decode cX7_init 221 = .ok (.iload_n 3, 1) := by decide +kernel
theorem dX7_init_222 : decode cX7_init 222 = .ok (.goto 6, 3) := by decide +kernel
theorem dX7_init_225 : decode cX7_init 225 = .ok (.iload_n 2, 1) := by decide +kernel
theorem dX7_init_226 : decode cX7_init 226 = .ok (.iload_n 3, 1) := by decide +kernel
theorem dX7_init_227 : decode cX7_init 227 = .ok (.isub, 1) := by decide +kernel
theorem dX7_init_228 : decode cX7_init 228 = .ok (.istore 4, 2) := by decide +kernel
theorem dX7_init_230 : decode cX7_init 230 = .ok (.iload_n 2, 1) := by decide +kernel
theorem dX7_init_231 : decode cX7_init 231 = .ok (.iload 4, 2) := by decide +kernel
theorem dX7_init_233 : decode cX7_init 233 = .ok (.isub, 1) := by decide +kernel
theorem dX7_init_234 : decode cX7_init 234 = .ok (.istore 5, 2) := by decide +kernel
theorem dX7_init_236 : decode cX7_init 236 = .ok (.iload 4, 2) := by decide +kernel
theorem dX7_init_238 : decode cX7_init 238 = .ok (.bipush 8, 2) := by decide +kernel
theorem dX7_init_240 : decode cX7_init 240 = .ok (.if_icmp .ge 27, 3) := by decide +kernel
theorem dX7_init_243 : decode cX7_init 243 = .ok (.iload 5, 2) := by decide +kernel
theorem dX7_init_245 : decode cX7_init 245 = .ok (.bipush 8, 2) := by decide +kernel
theorem dX7_init_247 : decode cX7_init 247 = .ok (.if_icmp .ge 20, 3) := by decide +kernel
theorem dX7_init_250 : decode cX7_init 250 = .ok (.aload_n 0, 1) := by decide +kernel
theorem dX7_init_251 : decode cX7_init 251 = .ok (.getfield 16, 3) := by decide +kernel
theorem dX7_init_254 : decode cX7_init 254 = .ok (.iload_n 1, 1) := by decide +kernel
theorem dX7_init_255 : decode cX7_init 255 = .ok (.bipush 8, 2) := by decide +kernel
theorem dX7_init_257 : decode cX7_init 257 = .ok (.iload 4, 2) := by decide +kernel
theorem dX7_init_259 : decode cX7_init 259 = .ok (.imul, 1) := by decide +kernel
theorem dX7_init_260 : decode cX7_init 260 = .ok (.iload 5, 2) := by decide +kernel
theorem dX7_init_262 : decode cX7_init 262 = .ok (.iadd, 1) := by decide +kernel
theorem dX7_init_263 : decode cX7_init 263 = .ok (.iastore, 1) := by decide +kernel
theorem dX7_init_264 : decode cX7_init 264 = .ok (.iinc 1 1, 3) := by decide +kernel
theorem dX7_init_267 : decode cX7_init 267 = .ok (.iinc 3 1, 3) := by decide +kernel
theorem dX7_init_270 : decode cX7_init 270 = .ok (.goto (-61), 3) := by decide +kernel
theorem dX7_init_273 : decode cX7_init 273 = .ok (.iinc 2 1, 3) := by decide +kernel
theorem dX7_init_276 : decode cX7_init 276 = .ok (.goto (-75), 3) := by decide +kernel
theorem dX7_init_279 : decode cX7_init 279 = .ok (.aload_n 0, 1) := by decide +kernel
theorem dX7_init_280 : decode cX7_init 280 = .ok (.iconst 1, 1) := by decide +kernel
theorem dX7_init_281 : decode cX7_init 281 = .ok (.iconst 1, 1) := by decide +kernel
theorem dX7_init_282 : decode cX7_init 282 = .ok (.invokevirtual 62, 3) := by decide +kernel
theorem dX7_init_285 : decode cX7_init 285 = .ok (.return_, 1) := by decide +kernel
theorem dX7_thrown_0 : decode cX7_thrown 0 = .ok (.aload_n 0, 1) := by decide +kernel
theorem dX7_thrown_1 : decode cX7_thrown 1 = .ok (.getfield 66, 3) := by decide +kernel
theorem dX7_thrown_4 : decode cX7_thrown 4 = .ok (.ireturn, 1) := by decide +kernel
theorem dX7_size_0 : decode cX7_size 0 = .ok (.aload_n 0, 1) := by decide +kernel
theorem dX7_size_1 : decode cX7_size 1 = .ok (.iload_n 1, 1) := by decide +kernel
theorem dX7_size_2 : decode cX7_size 2 = .ok (.iconst 1, 1) := by decide +kernel
theorem dX7_size_3 : decode cX7_size 3 = .ok (.if_icmp .lt 18, 3) := by decide +kernel
theorem dX7_size_6 : decode cX7_size 6 = .ok (.iload_n 1, 1) := by decide +kernel
theorem dX7_size_7 : decode cX7_size 7 = .ok (.iconst 4, 1) := by decide +kernel
theorem dX7_size_8 : decode cX7_size 8 = .ok (.if_icmp .gt 13, 3) := by decide +kernel
theorem dX7_size_11 : decode cX7_size 11 = .ok (.iload_n 2, 1) := by decide +kernel
theorem dX7_size_12 : decode cX7_size 12 = .ok (.iconst 1, 1) := by decide +kernel
theorem dX7_size_13 : decode cX7_size 13 = .ok (.if_icmp .lt 8, 3) := by decide +kernel
theorem dX7_size_16 : decode cX7_size 16 = .ok (.iload_n 2, 1) := by decide +kernel
theorem dX7_size_17 : decode cX7_size 17 = .ok (.iconst 3, 1) := by decide +kernel
theorem dX7_size_18 : decode cX7_size 18 = .ok (.if_icmp .le 7, 3) := by decide +kernel
theorem dX7_size_21 : decode cX7_size 21 = .ok (.iconst 1, 1) := by decide +kernel
theorem dX7_size_22 : decode cX7_size 22 = .ok (.goto 4, 3) := by decide +kernel
theorem dX7_size_25 : decode cX7_size 25 = .ok (.iconst 0, 1) := by decide +kernel
theorem dX7_size_26 : decode cX7_size 26 = .ok (.putfield 66, 3) := by decide +kernel
theorem dX7_size_29 : decode cX7_size 29 = .ok (.aload_n 0, 1) := by decide +kernel
theorem dX7_size_30 : decode cX7_size 30 = .ok (.getfield 66, 3) := by decide +kernel
theorem dX7_size_33 : decode cX7_size 33 = .ok (.ifCond .le 4, 3) := by decide +kernel
theorem dX7_size_36 : decode cX7_size 36 = .ok (.return_, 1) := by decide +kernel
theorem dX7_size_37 : decode cX7_size 37 = .ok (.aload_n 0, 1) := by decide +kernel
theorem dX7_size_38 : decode cX7_size 38 = .ok (.iload_n 1, 1) := by decide +kernel
theorem dX7_size_39 : decode cX7_size 39 = .ok (.putfield 70, 3) := by decide +kernel
theorem dX7_size_42 : decode cX7_size 42 = .ok (.aload_n 0, 1) := by decide +kernel
theorem dX7_size_43 : decode cX7_size 43 = .ok (.iload_n 2, 1) := by decide +kernel
theorem dX7_size_44 : decode cX7_size 44 = .ok (.putfield 73, 3) := by decide +kernel
theorem dX7_size_47 : decode cX7_size 47 = .ok (.iconst 0, 1) := by decide +kernel
theorem dX7_size_48 : decode cX7_size 48 = .ok (.istore_n 3, 1) := by decide +kernel
theorem dX7_size_49 : decode cX7_size 49 = .ok (.iload_n 3, 1) := by decide +kernel
theorem dX7_size_50 : decode cX7_size 50 = .ok (.sipush 128, 3) := by decide +kernel
theorem dX7_size_53 : decode cX7_size 53 = .ok (.if_icmp .ge 26, 3) := by decide +kernel
theorem dX7_size_56 : decode cX7_size 56 = .ok (.aload_n 0, 1) := by decide +kernel
theorem dX7_size_57 : decode cX7_size 57 = .ok (.getfield 7, 3) := by decide +kernel
theorem dX7_size_60 : decode cX7_size 60 = .ok (.iload_n 3, 1) := by decide +kernel
theorem dX7_size_61 : decode cX7_size 61 = .ok (.iload_n 3, 1) := by decide +kernel
theorem dX7_size_62 : decode cX7_size 62 = .ok (.ifCond .ne 8, 3) := by decide +kernel
theorem dX7_size_65 : decode cX7_size 65 = .ok (.bipush 8, 2) := by decide +kernel
theorem dX7_size_67 : decode cX7_size 67 = .ok (.goto 5, 3) := by decide +kernel
theorem dX7_size_70 : decode cX7_size 70 = .ok (.bipush 16, 2) := by decide +kernel
theorem dX7_size_72 : decode cX7_size 72 = .ok (.iastore, 1) := by decide +kernel
theorem dX7_size_73 : decode cX7_size 73 = .ok (.iinc 3 1, 3) := by decide +kernel
theorem dX7_size_76 : decode cX7_size 76 = .ok (.goto (-27), 3) := by decide +kernel
theorem dX7_size_79 : decode cX7_size 79 = .ok (.iconst 0, 1) := by decide +kernel
theorem dX7_size_80 : decode cX7_size 80 = .ok (.istore_n 3, 1) := by decide +kernel
