theorem dX7_colour_98 : decode cX7_colour 98 = .ok (.fstore 5, 2) := by decide +kernel
theorem dX7_colour_100 : decode cX7_colour 100 = .ok (.aload_n 0, 1) := by decide +kernel
theorem dX7_colour_101 : decode cX7_colour 101 = .ok (.getfield 28, 3) := by decide +kernel
theorem dX7_colour_104 : decode cX7_colour 104 = .ok (.iconst 2, 1) := by decide +kernel
theorem dX7_colour_105 : decode cX7_colour 105 = .ok (.iload_n 1, 1) := by decide +kernel
theorem dX7_colour_106 : decode cX7_colour 106 = .ok (.iconst 2, 1) := by decide +kernel
theorem dX7_colour_107 : decode cX7_colour 107 = .ok (.idiv, 1) := by decide +kernel
theorem dX7_colour_108 : decode cX7_colour 108 = .ok (.iload_n 2, 1) := by decide +kernel
theorem dX7_colour_109 : decode cX7_colour 109 = .ok (.iconst 2, 1) := by decide +kernel
theorem dX7_colour_110 : decode cX7_colour 110 = .ok (.idiv, 1) := by decide +kernel
theorem dX7_colour_111 : decode cX7_colour 111 = .ok (.invokestatic 150, 3) := by decide +kernel
theorem dX7_colour_114 : decode cX7_colour 114 = .ok (.iaload, 1) := by decide +kernel
theorem dX7_colour_115 : decode cX7_colour 115 = .ok (.i2f, 1) := by decide +kernel
theorem dX7_colour_116 : decode cX7_colour 116 = .ok (.ldc 182, 2) := by decide +kernel
theorem dX7_colour_118 : decode cX7_colour 118 = .ok (.fsub, 1) := by decide +kernel
theorem dX7_colour_119 : decode cX7_colour 119 = .ok (.fstore 6, 2) := by decide +kernel
theorem dX7_colour_121 : decode cX7_colour 121 = .ok (.fload 4, 2) := by decide +kernel
theorem dX7_colour_123 : decode cX7_colour 123 = .ok (.ldc 183, 2) := by decide +kernel
theorem dX7_colour_125 : decode cX7_colour 125 = .ok (.fload 6, 2) := by decide +kernel
theorem dX7_colour_127 : decode cX7_colour 127 = .ok (.fmul, 1) := by decide +kernel
theorem dX7_colour_128 : decode cX7_colour 128 = .ok (.fadd, 1) := by decide +kernel
theorem dX7_colour_129 : decode cX7_colour 129 = .ok (.fstore 7, 2) := by decide +kernel
theorem dX7_colour_131 : decode cX7_colour 131 = .ok (.fload 4, 2) := by decide +kernel
theorem dX7_colour_133 : decode cX7_colour 133 = .ok (.ldc 184, 2) := by decide +kernel
theorem dX7_colour_135 : decode cX7_colour 135 = .ok (.fload 5, 2) := by decide +kernel
theorem dX7_colour_137 : decode cX7_colour 137 = .ok (.fmul, 1) := by decide +kernel
theorem dX7_colour_138 : decode cX7_colour 138 = .ok (.fsub, 1) := by decide +kernel
theorem dX7_colour_139 : decode cX7_colour 139 = .ok (.ldc 185, 2) := by decide +kernel
theorem dX7_colour_141 : decode cX7_colour 141 = .ok (.fload 6, 2) := by decide +kernel
theorem dX7_colour_143 : decode cX7_colour 143 = .ok (.fmul, 1) := by decide +kernel
theorem dX7_colour_144 : decode cX7_colour 144 = .ok (.fsub, 1) := by decide +kernel
theorem dX7_colour_145 : decode cX7_colour 145 = .ok (.fstore 8, 2) := by decide +kernel
theorem dX7_colour_147 : decode cX7_colour 147 = .ok (.fload 4, 2) := by decide +kernel
theorem dX7_colour_149 : decode cX7_colour 149 = .ok (.ldc 186, 2) := by decide +kernel
theorem dX7_colour_151 : decode cX7_colour 151 = .ok (.fload 5, 2) := by decide +kernel
theorem dX7_colour_153 : decode cX7_colour 153 = .ok (.fmul, 1) := by decide +kernel
theorem dX7_colour_154 : decode cX7_colour 154 = .ok (.fadd, 1) := by decide +kernel
theorem dX7_colour_155 : decode cX7_colour 155 = .ok (.fstore 9, 2) := by decide +kernel
theorem dX7_colour_157 : decode cX7_colour 157 = .ok (.ldc 187, 2) := by decide +kernel
theorem dX7_colour_159 : decode cX7_colour 159 = .ok (.fload 7, 2) := by decide +kernel
theorem dX7_colour_161 : decode cX7_colour 161 = .ok (.ldc 188, 2) := by decide +kernel
theorem dX7_colour_163 : decode cX7_colour 163 = .ok (.fadd, 1) := by decide +kernel
theorem dX7_colour_164 : decode cX7_colour 164 = .ok (.invokestatic 189, 3) := by decide +kernel
theorem dX7_colour_167 : decode cX7_colour 167 = .ok (.imul, 1) := by decide +kernel
theorem dX7_colour_168 : decode cX7_colour 168 = .ok (.sipush 256, 3) := by decide +kernel
theorem dX7_colour_171 : decode cX7_colour 171 = .ok (.fload 8, 2) := by decide +kernel
theorem dX7_colour_173 : decode cX7_colour 173 = .ok (.ldc 188, 2) := by decide +kernel
theorem dX7_colour_175 : decode cX7_colour 175 = .ok (.fadd, 1) := by decide +kernel
theorem dX7_colour_176 : decode cX7_colour 176 = .ok (.invokestatic 189, 3) := by decide +kernel
theorem dX7_colour_179 : decode cX7_colour 179 = .ok (.imul, 1) := by decide +kernel
theorem dX7_colour_180 : decode cX7_colour 180 = .ok (.iadd, 1) := by decide +kernel
theorem dX7_colour_181 : decode cX7_colour 181 = .ok (.fload 9, 2) := by decide +kernel
theorem dX7_colour_183 : decode cX7_colour 183 = .ok (.ldc 188, 2) := by decide +kernel
theorem dX7_colour_185 : decode cX7_colour 185 = .ok (.fadd, 1) := by decide +kernel
theorem dX7_colour_186 : decode cX7_colour 186 = .ok (.invokestatic 189, 3) := by decide +kernel
theorem dX7_colour_189 : decode cX7_colour 189 = .ok (.iadd, 1) := by decide +kernel
theorem dX7_colour_190 : decode cX7_colour 190 = .ok (.ireturn, 1) := by decide +kernel
theorem dX7_light_0 : decode cX7_light 0 = .ok (.fload_n 1, 1) := by decide +kernel
theorem dX7_light_1 : decode cX7_light 1 = .ok (.ldc 193, 2) := by decide +kernel
theorem dX7_light_3 : decode cX7_light 3 = .ok (.fcmp .l, 1) := by decide +kernel
theorem dX7_light_4 : decode cX7_light 4 = .ok (.ifCond .lt 28, 3) := by decide +kernel
theorem dX7_light_7 : decode cX7_light 7 = .ok (.fload_n 1, 1) := by decide +kernel
theorem dX7_light_8 : decode cX7_light 8 = .ok (.ldc 194, 2) := by decide +kernel
theorem dX7_light_10 : decode cX7_light 10 = .ok (.fcmp .g, 1) := by decide +kernel
theorem dX7_light_11 : decode cX7_light 11 = .ok (.ifCond .gt 21, 3) := by decide +kernel
theorem dX7_light_14 : decode cX7_light 14 = .ok (.fload_n 2, 1) := by decide +kernel
theorem dX7_light_15 : decode cX7_light 15 = .ok (.ldc 195, 2) := by decide +kernel
theorem dX7_light_17 : decode cX7_light 17 = .ok (.fcmp .l, 1) := by decide +kernel
theorem dX7_light_18 : decode cX7_light 18 = .ok (.ifCond .lt 14, 3) := by decide +kernel
theorem dX7_light_21 : decode cX7_light 21 = .ok (.fload_n 2, 1) := by decide +kernel
theorem dX7_light_22 : decode cX7_light 22 = .ok (.ldc 196, 2) := by decide +kernel
theorem dX7_light_24 : decode cX7_light 24 = .ok (.fcmp .g, 1) := by decide +kernel
theorem dX7_light_25 : decode cX7_light 25 = .ok (.ifCond .gt 7, 3) := by decide +kernel
theorem dX7_light_28 : decode cX7_light 28 = .ok (.iconst 1, 1) := by decide +kernel
theorem dX7_light_29 : decode cX7_light 29 = .ok (.goto 4, 3) := by decide +kernel
theorem dX7_light_32 : decode cX7_light 32 = .ok (.iconst 0, 1) := by decide +kernel
theorem dX7_light_33 : decode cX7_light 33 = .ok (.istore_n 3, 1) := by decide +kernel
theorem dX7_light_34 : decode cX7_light 34 = .ok (.aload_n 0, 1) := by decide +kernel
theorem dX7_light_35 : decode cX7_light 35 = .ok (.iload_n 3, 1) := by decide +kernel
theorem dX7_light_36 : decode cX7_light 36 = .ok (.ifCond .ne 7, 3) := by decide +kernel
theorem dX7_light_39 : decode cX7_light 39 = .ok (.iconst 1, 1) := by decide +kernel
theorem dX7_light_40 : decode cX7_light 40 = .ok (.goto 15, 3) := by decide +kernel
theorem dX7_light_43 : decode cX7_light 43 = .ok (.aload_n 0, 1) := by decide +kernel
theorem dX7_light_44 : decode cX7_light 44 = .ok (.getfield 83, 3) := by decide +kernel
theorem dX7_light_47 : decode cX7_light 47 = .ok (.ifCond .ne 7, 3) := by decide +kernel
theorem dX7_light_50 : decode cX7_light 50 = .ok (.iconst 2, 1) := by decide +kernel
theorem dX7_light_51 : decode cX7_light 51 = .ok (.goto 4, 3) := by decide +kernel
theorem dX7_light_54 : decode cX7_light 54 = .ok (.iconst 0, 1) := by decide +kernel
theorem dX7_light_55 : decode cX7_light 55 = .ok (.putfield 66, 3) := by decide +kernel
theorem dX7_light_58 : decode cX7_light 58 = .ok (.iconst 0, 1) := by decide +kernel
theorem dX7_light_59 : decode cX7_light 59 = .ok (.istore 4, 2) := by decide +kernel
theorem dX7_light_61 : decode cX7_light 61 = .ok (.iload 4, 2) := by decide +kernel
theorem dX7_light_63 : decode cX7_light 63 = .ok (.bipush 16, 2) := by decide +kernel
theorem dX7_light_65 : decode cX7_light 65 = .ok (.aload_n 0, 1) := by decide +kernel
theorem dX7_light_66 : decode cX7_light 66 = .ok (.getfield 73, 3) := by decide +kernel
theorem dX7_light_69 : decode cX7_light 69 = .ok (.imul, 1) := by decide +kernel
theorem dX7_light_70 : decode cX7_light 70 = .ok (.if_icmp .ge 69, 3) := by decide +kernel
theorem dX7_light_73 : decode cX7_light 73 = .ok (.aload_n 0, 1) := by decide +kernel
theorem dX7_light_74 : decode cX7_light 74 = .ok (.getfield 66, 3) := by decide +kernel
theorem dX7_light_77 : decode cX7_light 77 = .ok (.ifCond .ne 62, 3) := by decide +kernel
theorem dX7_light_80 : decode cX7_light 80 = .ok (.iconst 0, 1) := by decide +kernel
theorem dX7_light_81 : decode cX7_light 81 = .ok (.istore 5, 2) := by decide +kernel
theorem dX7_light_83 : decode cX7_light 83 = .ok (.iload 5, 2) := by decide +kernel
theorem dX7_light_85 : decode cX7_light 85 = .ok (.bipush 16, 2) := by decide +kernel
theorem dX7_light_87 : decode cX7_light 87 = .ok (.aload_n 0, 1) := by decide +kernel
theorem dX7_light_88 : decode cX7_light 88 = .ok (.getfield 70, 3) := by decide +kernel
theorem dX7_light_91 : decode cX7_light 91 = .ok (.imul, 1) := by decide +kernel
theorem dX7_light_92 : decode cX7_light 92 = .ok (.if_icmp .ge 41, 3) := by decide +kernel
theorem dX7_light_95 : decode cX7_light 95 = .ok (.iconst 0, 1) := by decide +kernel
theorem dX7_light_96 : decode cX7_light 96 = .ok (.iload 5, 2) := by decide +kernel
theorem dX7_light_98 : decode cX7_light 98 = .ok (.iload 4, 2) := by decide +kernel
theorem dX7_light_100 : decode cX7_light 100 = .ok (.invokestatic 150, 3) := by decide +kernel
theorem dX7_light_103 : decode cX7_light 103 = .ok (.istore 6, 2) := by decide +kernel
theorem dX7_light_105 : decode cX7_light 105 = .ok (.aload_n 0, 1) := by decide +kernel
theorem dX7_light_106 : decode cX7_light 106 = .ok (.getfield 28, 3) := by decide +kernel
theorem dX7_light_109 : decode cX7_light 109 = .ok (.iload 6, 2) := by decide +kernel
theorem dX7_light_111 : decode cX7_light 111 = .ok (.fload_n 1, 1) := by decide +kernel
theorem dX7_light_112 : decode cX7_light 112 = .ok (.aload_n 0, 1) := by decide +kernel
theorem dX7_light_113 : decode cX7_light 113 = .ok (.getfield 28, 3) := by decide +kernel
theorem dX7_light_116 : decode cX7_light 116 = .ok (.iload 6, 2) := by decide +kernel
theorem dX7_light_118 : decode cX7_light 118 = .ok (.iaload, 1) := by decide +kernel
theorem dX7_light_119 : decode cX7_light 119 = .ok (.i2f, 1) := by decide +kernel
theorem dX7_light_120 : decode cX7_light 120 = .ok (.fmul, 1) := by decide +kernel
theorem dX7_light_121 : decode cX7_light 121 = .ok (.fload_n 2, 1) := by decide +kernel
theorem dX7_light_122 : decode cX7_light 122 = .ok (.fadd, 1) := by decide +kernel
theorem dX7_light_123 : decode cX7_light 123 = .ok (.invokestatic 189, 3) := by decide +kernel
theorem dX7_light_126 : decode cX7_light 126 = .ok (.iastore, 1) := by decide +kernel
theorem dX7_light_127 : decode cX7_light 127 = .ok (.iinc 5 1, 3) := by decide +kernel
theorem dX7_light_130 : decode cX7_light 130 = .ok (.goto (-47), 3) := by decide +kernel
theorem dX7_light_133 : decode cX7_light 133 = .ok (.iinc 4 1, 3) := by decide +kernel
theorem dX7_light_136 : decode cX7_light 136 = .ok (.goto (-75), 3) := by decide +kernel
theorem dX7_light_139 : decode cX7_light 139 = .ok (.return_, 1) := by decide +kernel
theorem dX7_keep_0 : decode cX7_keep 0 = .ok (.aload_n 0, 1) := by decide +kernel
theorem dX7_keep_1 : decode cX7_keep 1 = .ok (.aload_n 0, 1) := by decide +kernel
theorem dX7_keep_2 : decode cX7_keep 2 = .ok (.getfield 83, 3) := by decide +kernel
theorem dX7_keep_5 : decode cX7_keep 5 = .ok (.ifCond .eq 7, 3) := by decide +kernel
theorem dX7_keep_8 : decode cX7_keep 8 = .ok (.iconst 0, 1) := by decide +kernel
theorem dX7_keep_9 : decode cX7_keep 9 = .ok (.goto 4, 3) := by decide +kernel
theorem dX7_keep_12 : decode cX7_keep 12 = .ok (.iconst 1, 1) := by decide +kernel
theorem dX7_keep_13 : decode cX7_keep 13 = .ok (.putfield 66, 3) := by decide +kernel
theorem dX7_keep_16 : decode cX7_keep 16 = .ok (.iconst 0, 1) := by decide +kernel
theorem dX7_keep_17 : decode cX7_keep 17 = .ok (.istore_n 1, 1) := by decide +kernel
theorem dX7_keep_18 : decode cX7_keep 18 = .ok (.iload_n 1, 1) := by decide +kernel
theorem dX7_keep_19 : decode cX7_keep 19 = .ok (.sipush 4608, 3) := by decide +kernel
theorem dX7_keep_22 : decode cX7_keep 22 = .ok (.if_icmp .ge 33, 3) := by decide +kernel
theorem dX7_keep_25 : decode cX7_keep 25 = .ok (.aload_n 0, 1) := by decide +kernel
theorem dX7_keep_26 : decode cX7_keep 26 = .ok (.getfield 66, 3) := by decide +kernel
theorem dX7_keep_29 : decode cX7_keep 29 = .ok (.ifCond .ne 26, 3) := by decide +kernel
theorem dX7_keep_32 : decode cX7_keep 32 = .ok (.aload_n 0, 1) := by decide +kernel
theorem dX7_keep_33 : decode cX7_keep 33 = .ok (.getfield 31, 3) := by decide +kernel
theorem dX7_keep_36 : decode cX7_keep 36 = .ok (.iload_n 1, 1) := by decide +kernel
theorem dX7_keep_37 : decode cX7_keep 37 = .ok (.aload_n 0, 1) := by decide +kernel
theorem dX7_keep_38 : decode cX7_keep 38 = .ok (.getfield 28, 3) := by decide +kernel
theorem dX7_keep_41 : decode cX7_keep 41 = .ok (.iload_n 1, 1) := by decide +kernel
theorem dX7_keep_42 : decode cX7_keep 42 = .ok (.iaload, 1) := by decide +kernel
theorem dX7_keep_43 : decode cX7_keep 43 = .ok (.iastore, 1) := by decide +kernel
theorem dX7_keep_44 : decode cX7_keep 44 = .ok (.aload_n 0, 1) := by decide +kernel
theorem dX7_keep_45 : decode cX7_keep 45 = .ok (.iconst 1, 1) := by decide +kernel
theorem dX7_keep_46 : decode cX7_keep 46 = .ok (.putfield 86, 3) := by decide +kernel
theorem dX7_keep_49 : decode cX7_keep 49 = .ok (.iinc 1 1, 3) := by decide +kernel
theorem dX7_keep_52 : decode cX7_keep 52 = .ok (.goto (-34), 3) := by decide +kernel
theorem dX7_keep_55 : decode cX7_keep 55 = .ok (.return_, 1) := by decide +kernel
theorem dX7_error_0 : decode cX7_error 0 = .ok (.aload_n 0, 1) := by decide +kernel
theorem dX7_error_1 : decode cX7_error 1 = .ok (.aload_n 0, 1) := by decide +kernel
theorem dX7_error_2 : decode cX7_error 2 = .ok (.getfield 83, 3) := by decide +kernel
theorem dX7_error_5 : decode cX7_error 5 = .ok (.ifCond .eq 14, 3) := by decide +kernel
theorem dX7_error_8 : decode cX7_error 8 = .ok (.aload_n 0, 1) := by decide +kernel
theorem dX7_error_9 : decode cX7_error 9 = .ok (.getfield 86, 3) := by decide +kernel
theorem dX7_error_12 : decode cX7_error 12 = .ok (.ifCond .eq 7, 3) := by decide +kernel
theorem dX7_error_15 : decode cX7_error 15 = .ok (.iconst 0, 1) := by decide +kernel
theorem dX7_error_16 : decode cX7_error 16 = .ok (.goto 4, 3) := by decide +kernel
theorem dX7_error_19 : decode cX7_error 19 = .ok (.iconst 1, 1) := by decide +kernel
theorem dX7_error_20 : decode cX7_error 20 = .ok (.putfield 66, 3) := by decide +kernel
theorem dX7_error_23 : decode cX7_error 23 = .ok (.aload_n 0, 1) := by decide +kernel
theorem dX7_error_24 : decode cX7_error 24 = .ok (.getfield 66, 3) := by decide +kernel
theorem dX7_error_27 : decode cX7_error 27 = .ok (.ifCond .le 5, 3) := by decide +kernel
theorem dX7_error_30 : decode cX7_error 30 = .ok (.fconst 0, 1) := by decide +kernel
theorem dX7_error_31 : decode cX7_error 31 = .ok (.freturn, 1) := by decide +kernel
theorem dX7_error_32 : decode cX7_error 32 = .ok (.fconst 0, 1) := by decide +kernel
theorem dX7_error_33 : decode cX7_error 33 = .ok (.fstore_n 1, 1) := by decide +kernel
theorem dX7_error_34 : decode cX7_error 34 = .ok (.iconst 0, 1) := by decide +kernel
theorem dX7_error_35 : decode cX7_error 35 = .ok (.istore_n 2, 1) := by decide +kernel
theorem dX7_error_36 : decode cX7_error 36 = .ok (.iload_n 2, 1) := by decide +kernel
theorem dX7_error_37 : decode cX7_error 37 = .ok (.bipush 16, 2) := by decide +kernel
theorem dX7_error_39 : decode cX7_error 39 = .ok (.aload_n 0, 1) := by decide +kernel
theorem dX7_error_40 : decode cX7_error 40 = .ok (.getfield 73, 3) := by decide +kernel
theorem dX7_error_43 : decode cX7_error 43 = .ok (.imul, 1) := by decide +kernel
theorem dX7_error_44 : decode cX7_error 44 = .ok (.if_icmp .ge 62, 3) := by decide +kernel
theorem dX7_error_47 : decode cX7_error 47 = .ok (.iconst 0, 1) := by decide +kernel
theorem dX7_error_48 : decode cX7_error 48 = .ok (.istore_n 3, 1) := by decide +kernel
theorem dX7_error_49 : decode cX7_error 49 = .ok (.iload_n 3, 1) := by decide +kernel
theorem dX7_error_50 : decode cX7_error 50 = .ok (.bipush 16, 2) := by decide +kernel
theorem dX7_error_52 : decode cX7_error 52 = .ok (.aload_n 0, 1) := by decide +kernel
theorem dX7_error_53 : decode cX7_error 53 = .ok (.getfield 70, 3) := by decide +kernel
theorem dX7_error_56 : decode cX7_error 56 = .ok (.imul, 1) := by decide +kernel
theorem dX7_error_57 : decode cX7_error 57 = .ok (.if_icmp .ge 43, 3) := by decide +kernel
theorem dX7_error_60 : decode cX7_error 60 = .ok (.aload_n 0, 1) := by decide +kernel
theorem dX7_error_61 : decode cX7_error 61 = .ok (.getfield 28, 3) := by decide +kernel
theorem dX7_error_64 : decode cX7_error 64 = .ok (.iconst 0, 1) := by decide +kernel
theorem dX7_error_65 : decode cX7_error 65 = .ok (.iload_n 3, 1) := by decide +kernel
theorem dX7_error_66 : decode cX7_error 66 = .ok (.iload_n 2, 1) := by decide +kernel
theorem dX7_error_67 : decode cX7_error 67 = .ok (.invokestatic 150, 3) := by decide +kernel
theorem dX7_error_70 : decode cX7_error 70 = .ok (.iaload, 1) := by decide +kernel
theorem dX7_error_71 : decode cX7_error 71 = .ok (.aload_n 0, 1) := by decide +kernel
theorem dX7_error_72 : decode cX7_error 72 = .ok (.getfield 31, 3) := by decide +kernel
theorem dX7_error_75 : decode cX7_error 75 = .ok (.iconst 0, 1) := by decide +kernel
theorem dX7_error_76 : decode cX7_error 76 = .ok (.iload_n 3, 1) := by decide +kernel
theorem dX7_error_77 : decode cX7_error 77 = .ok (.iload_n 2, 1) := by decide +kernel
theorem dX7_error_78 : decode cX7_error 78 = .ok (.invokestatic 150, 3) := by decide +kernel
theorem dX7_error_81 : decode cX7_error 81 = .ok (.iaload, 1) := by decide +kernel
theorem dX7_error_82 : decode cX7_error 82 = .ok (.isub, 1) := by decide +kernel
theorem dX7_error_83 : decode cX7_error 83 = .ok (.i2f, 1) := by decide +kernel
theorem dX7_error_84 : decode cX7_error 84 = .ok (.fstore 4, 2) := by decide +kernel
theorem dX7_error_86 : decode cX7_error 86 = .ok (.fload_n 1, 1) := by decide +kernel
theorem dX7_error_87 : decode cX7_error 87 = .ok (.fload 4, 2) := by decide +kernel
theorem dX7_error_89 : decode cX7_error 89 = .ok (.fload 4, 2) := by decide +kernel
theorem dX7_error_91 : decode cX7_error 91 = .ok (.fmul, 1) := by decide +kernel
theorem dX7_error_92 : decode cX7_error 92 = .ok (.fadd, 1) := by decide +kernel
theorem dX7_error_93 : decode cX7_error 93 = .ok (.fstore_n 1, 1) := by decide +kernel
theorem dX7_error_94 : decode cX7_error 94 = .ok (.iinc 3 1, 3) := by decide +kernel
theorem dX7_error_97 : decode cX7_error 97 = .ok (.goto (-48), 3) := by decide +kernel
theorem dX7_error_100 : decode cX7_error 100 = .ok (.iinc 2 1, 3) := by decide +kernel
theorem dX7_error_103 : decode cX7_error 103 = .ok (.goto (-67), 3) := by decide +kernel
theorem dX7_error_106 : decode cX7_error 106 = .ok (.fload_n 1, 1) := by decide +kernel
theorem dX7_error_107 : decode cX7_error 107 = .ok (.sipush 256, 3) := by decide +kernel
theorem dX7_error_110 : decode cX7_error 110 = .ok (.aload_n 0, 1) := by decide +kernel
theorem dX7_error_111 : decode cX7_error 111 = .ok (.getfield 70, 3) := by decide +kernel
theorem dX7_error_114 : decode cX7_error 114 = .ok (.imul, 1) := by decide +kernel
theorem dX7_error_115 : decode cX7_error 115 = .ok (.aload_n 0, 1) := by decide +kernel
theorem dX7_error_116 : decode cX7_error 116 = .ok (.getfield 73, 3) := by decide +kernel
theorem dX7_error_119 : decode cX7_error 119 = .ok (.imul, 1) := by decide +kernel
theorem dX7_error_120 : decode cX7_error 120 = .ok (.i2f, 1) := by decide +kernel
theorem dX7_error_121 : decode cX7_error 121 = .ok (.fdiv, 1) := by decide +kernel
theorem dX7_error_122 : decode cX7_error 122 = .ok (.freturn, 1) := by decide +kernel
theorem dX7_told_0 : decode cX7_told 0 = .ok (.aload_n 0, 1) := by decide +kernel
theorem dX7_told_1 : decode cX7_told 1 = .ok (.iload_n 1, 1) := by decide +kernel
theorem dX7_told_2 : decode cX7_told 2 = .ok (.ifCond .lt 9, 3) := by decide +kernel
theorem dX7_told_5 : decode cX7_told 5 = .ok (.iload_n 1, 1) := by decide +kernel
theorem dX7_told_6 : decode cX7_told 6 = .ok (.bipush 10, 2) := by decide +kernel
theorem dX7_told_8 : decode cX7_told 8 = .ok (.if_icmp .le 7, 3) := by decide +kernel
theorem dX7_told_11 : decode cX7_told 11 = .ok (.iconst 1, 1) := by decide +kernel
theorem dX7_told_12 : decode cX7_told 12 = .ok (.goto 4, 3) := by decide +kernel
theorem dX7_told_15 : decode cX7_told 15 = .ok (.iconst 0, 1) := by decide +kernel
theorem dX7_told_16 : decode cX7_told 16 = .ok (.putfield 66, 3) := by decide +kernel
theorem dX7_told_19 : decode cX7_told 19 = .ok (.aload_n 0, 1) := by decide +kernel
theorem dX7_told_20 : decode cX7_told 20 = .ok (.getfield 66, 3) := by decide +kernel
theorem dX7_told_23 : decode cX7_told 23 = .ok (.ifCond .le 5, 3) := by decide +kernel
theorem dX7_told_26 : decode cX7_told 26 = .ok (.iconst 0, 1) := by decide +kernel
theorem dX7_told_27 : decode cX7_told 27 = .ok (.ireturn, 1) := by decide +kernel
theorem dX7_told_28 : decode cX7_told 28 = .ok (.iload_n 1, 1) := by decide +kernel
theorem dX7_told_29 : decode cX7_told 29 = .ok (.ifCond .ne 10, 3) := by decide +kernel
theorem dX7_told_32 : decode cX7_told 32 = .ok (.aload_n 0, 1) := by decide +kernel
theorem dX7_told_33 : decode cX7_told 33 = .ok (.getfield 95, 3) := by decide +kernel
theorem dX7_told_36 : decode cX7_told 36 = .ok (.goto 65, 3) := by decide +kernel
theorem dX7_told_39 : decode cX7_told 39 = .ok (.iload_n 1, 1) := by decide +kernel
theorem dX7_told_40 : decode cX7_told 40 = .ok (.iconst 1, 1) := by decide +kernel
theorem dX7_told_41 : decode cX7_told 41 = .ok (.if_icmp .ne 10, 3) := by decide +kernel
theorem dX7_told_44 : decode cX7_told 44 = .ok (.aload_n 0, 1) := by decide +kernel
theorem dX7_told_45 : decode cX7_told 45 = .ok (.getfield 98, 3) := by decide +kernel
theorem dX7_told_48 : decode cX7_told 48 = .ok (.goto 53, 3) := by decide +kernel
theorem dX7_told_51 : decode cX7_told 51 = .ok (.iload_n 1, 1) := by decide +kernel
theorem dX7_told_52 : decode cX7_told 52 = .ok (.iconst 2, 1) := by decide +kernel
theorem dX7_told_53 : decode cX7_told 53 = .ok (.if_icmp .ne 10, 3) := by decide +kernel
theorem dX7_told_56 : decode cX7_told 56 = .ok (.aload_n 0, 1) := by decide +kernel
theorem dX7_told_57 : decode cX7_told 57 = .ok (.getfield 89, 3) := by decide +kernel
theorem dX7_told_60 : decode cX7_told 60 = .ok (.goto 41, 3) := by decide +kernel
theorem dX7_told_63 : decode cX7_told 63 = .ok (.iload_n 1, 1) := by decide +kernel
theorem dX7_told_64 : decode cX7_told 64 = .ok (.iconst 3, 1) := by decide +kernel
theorem dX7_told_65 : decode cX7_told 65 = .ok (.if_icmp .ne 10, 3) := by decide +kernel
theorem dX7_told_68 : decode cX7_told 68 = .ok (.aload_n 0, 1) := by decide +kernel
theorem dX7_told_69 : decode cX7_told 69 = .ok (.getfield 92, 3) := by decide +kernel
theorem dX7_told_72 : decode cX7_told 72 = .ok (.goto 29, 3) := by decide +kernel
theorem dX7_told_75 : decode cX7_told 75 = .ok (.iload_n 1, 1) := by decide +kernel
theorem dX7_told_76 : decode cX7_told 76 = .ok (.bipush 8, 2) := by decide +kernel
theorem dX7_told_78 : decode cX7_told 78 = .ok (.if_icmp .ge 14, 3) := by decide +kernel
theorem dX7_told_81 : decode cX7_told 81 = .ok (.aload_n 0, 1) := by decide +kernel
theorem dX7_told_82 : decode cX7_told 82 = .ok (.getfield 37, 3) := by decide +kernel
theorem dX7_told_85 : decode cX7_told 85 = .ok (.iload_n 1, 1) := by decide +kernel
theorem dX7_told_86 : decode cX7_told 86 = .ok (.iconst 4, 1) := by decide +kernel
theorem dX7_told_87 : decode cX7_told 87 = .ok (.isub, 1) := by decide +kernel
theorem dX7_told_88 : decode cX7_told 88 = .ok (.iaload, 1) := by decide +kernel
theorem dX7_told_89 : decode cX7_told 89 = .ok (.goto 12, 3) := by decide +kernel
theorem dX7_told_92 : decode cX7_told 92 = .ok (.aload_n 0, 1) := by decide +kernel
theorem dX7_told_93 : decode cX7_told 93 = .ok (.getfield 40, 3) := by decide +kernel
theorem dX7_told_96 : decode cX7_told 96 = .ok (.iload_n 1, 1) := by decide +kernel
theorem dX7_told_97 : decode cX7_told 97 = .ok (.bipush 8, 2) := by decide +kernel
theorem dX7_told_99 : decode cX7_told 99 = .ok (.isub, 1) := by decide +kernel
theorem dX7_told_100 : decode cX7_told 100 = .ok (.iaload, 1) := by decide +kernel
theorem dX7_told_101 : decode cX7_told 101 = .ok (.ireturn, 1) := by decide +kernel
theorem dJ6_signum_0f7a4_0 : decode cJ6_signum_0f7a4 0 = .ok (.iload_n 0, 1) := by decide +kernel
theorem dJ6_signum_0f7a4_1 : decode cJ6_signum_0f7a4 1 = .ok (.bipush 31, 2) := by decide +kernel
theorem dJ6_signum_0f7a4_3 : decode cJ6_signum_0f7a4 3 = .ok (.ishr, 1) := by decide +kernel
theorem dJ6_signum_0f7a4_4 : decode cJ6_signum_0f7a4 4 = .ok (.iload_n 0, 1) := by decide +kernel
theorem dJ6_signum_0f7a4_5 : decode cJ6_signum_0f7a4 5 = .ok (.ineg, 1) := by decide +kernel
theorem dJ6_signum_0f7a4_6 : decode cJ6_signum_0f7a4 6 = .ok (.bipush 31, 2) := by decide +kernel
theorem dJ6_signum_0f7a4_8 : decode cJ6_signum_0f7a4 8 = .ok (.iushr, 1) := by decide +kernel
theorem dJ6_signum_0f7a4_9 : decode cJ6_signum_0f7a4 9 = .ok (.ior, 1) := by decide +kernel
theorem dJ6_signum_0f7a4_10 : decode cJ6_signum_0f7a4 10 = .ok (.ireturn, 1) := by decide +kernel
theorem dJ7_fill_53178_0 : decode cJ7_fill_53178 0 = .ok (.iconst 0, 1) := by decide +kernel
theorem dJ7_fill_53178_1 : decode cJ7_fill_53178 1 = .ok (.istore_n 2, 1) := by decide +kernel
theorem dJ7_fill_53178_2 : decode cJ7_fill_53178 2 = .ok (.aload_n 0, 1) := by decide +kernel
theorem dJ7_fill_53178_3 : decode cJ7_fill_53178 3 = .ok (.arraylength, 1) := by decide +kernel
theorem dJ7_fill_53178_4 : decode cJ7_fill_53178 4 = .ok (.istore_n 3, 1) := by decide +kernel
theorem dJ7_fill_53178_5 : decode cJ7_fill_53178 5 = .ok (.iload_n 2, 1) := by decide +kernel
theorem dJ7_fill_53178_6 : decode cJ7_fill_53178 6 = .ok (.iload_n 3, 1) := by decide +kernel
theorem dJ7_fill_53178_7 : decode cJ7_fill_53178 7 = .ok (.if_icmp .ge 13, 3) := by decide +kernel
theorem dJ7_fill_53178_10 : decode cJ7_fill_53178 10 = .ok (.aload_n 0, 1) := by decide +kernel
theorem dJ7_fill_53178_11 : decode cJ7_fill_53178 11 = .ok (.iload_n 2, 1) := by decide +kernel
theorem dJ7_fill_53178_12 : decode cJ7_fill_53178 12 = .ok (.iload_n 1, 1) := by decide +kernel
theorem dJ7_fill_53178_13 : decode cJ7_fill_53178 13 = .ok (.iastore, 1) := by decide +kernel
theorem dJ7_fill_53178_14 : decode cJ7_fill_53178 14 = .ok (.iinc 2 1, 3) := by decide +kernel
theorem dJ7_fill_53178_17 : decode cJ7_fill_53178 17 = .ok (.goto (-12), 3) := by decide +kernel
theorem dJ7_fill_53178_20 : decode cJ7_fill_53178 20 = .ok (.return_, 1) := by decide +kernel
theorem dL_size_0 : decode cL_size 0 = .ok (.aload_n 0, 1) := by decide +kernel
theorem dL_size_1 : decode cL_size 1 = .ok (.iload_n 1, 1) := by decide +kernel
theorem dL_size_2 : decode cL_size 2 = .ok (.iload_n 2, 1) := by decide +kernel
theorem dL_size_3 : decode cL_size 3 = .ok (.invokevirtual 7, 3) := by decide +kernel
theorem dL_size_6 : decode cL_size 6 = .ok (.goto 6, 3) := by decide +kernel
theorem dL_size_9 : decode cL_size 9 = .ok (.astore_n 3, 1) := by decide +kernel
theorem dL_size_10 : decode cL_size 10 = .ok (.iconst 1, 1) := by decide +kernel
theorem dL_size_11 : decode cL_size 11 = .ok (.ireturn, 1) := by decide +kernel
theorem dL_size_12 : decode cL_size 12 = .ok (.iconst 0, 1) := by decide +kernel
theorem dL_size_13 : decode cL_size 13 = .ok (.ireturn, 1) := by decide +kernel
theorem dL_matrix_0 : decode cL_matrix 0 = .ok (.aload 4, 2) := by decide +kernel
theorem dL_matrix_2 : decode cL_matrix 2 = .ok (.iconst 0, 1) := by decide +kernel
theorem dL_matrix_3 : decode cL_matrix 3 = .ok (.aload_n 0, 1) := by decide +kernel
theorem dL_matrix_4 : decode cL_matrix 4 = .ok (.iload_n 1, 1) := by decide +kernel
theorem dL_matrix_5 : decode cL_matrix 5 = .ok (.iload_n 2, 1) := by decide +kernel
theorem dL_matrix_6 : decode cL_matrix 6 = .ok (.iload_n 3, 1) := by decide +kernel
theorem dL_matrix_7 : decode cL_matrix 7 = .ok (.invokevirtual 15, 3) := by decide +kernel
theorem dL_matrix_10 : decode cL_matrix 10 = .ok (.i2l, 1) := by decide +kernel
theorem dL_matrix_11 : decode cL_matrix 11 = .ok (.lastore, 1) := by decide +kernel
theorem dL_matrix_12 : decode cL_matrix 12 = .ok (.goto 7, 3) := by decide +kernel
theorem dL_matrix_15 : decode cL_matrix 15 = .ok (.astore 5, 2) := by decide +kernel
theorem dL_matrix_17 : decode cL_matrix 17 = .ok (.iconst 1, 1) := by decide +kernel
theorem dL_matrix_18 : decode cL_matrix 18 = .ok (.ireturn, 1) := by decide +kernel
theorem dL_matrix_19 : decode cL_matrix 19 = .ok (.iconst 0, 1) := by decide +kernel
theorem dL_matrix_20 : decode cL_matrix 20 = .ok (.ireturn, 1) := by decide +kernel
theorem dL_begin_0 : decode cL_begin 0 = .ok (.aload_n 0, 1) := by decide +kernel
theorem dL_begin_1 : decode cL_begin 1 = .ok (.iload_n 1, 1) := by decide +kernel
theorem dL_begin_2 : decode cL_begin 2 = .ok (.iload_n 2, 1) := by decide +kernel
theorem dL_begin_3 : decode cL_begin 3 = .ok (.iload_n 3, 1) := by decide +kernel
theorem dL_begin_4 : decode cL_begin 4 = .ok (.iload 4, 2) := by decide +kernel
theorem dL_begin_6 : decode cL_begin 6 = .ok (.invokevirtual 19, 3) := by decide +kernel
theorem dL_begin_9 : decode cL_begin 9 = .ok (.goto 11, 3) := by decide +kernel
theorem dL_begin_12 : decode cL_begin 12 = .ok (.astore 5, 2) := by decide +kernel
theorem dL_begin_14 : decode cL_begin 14 = .ok (.iconst 1, 1) := by decide +kernel
theorem dL_begin_15 : decode cL_begin 15 = .ok (.ireturn, 1) := by decide +kernel
theorem dL_begin_16 : decode cL_begin 16 = .ok (.astore 5, 2) := by decide +kernel
theorem dL_begin_18 : decode cL_begin 18 = .ok (.iconst 2, 1) := by decide +kernel
theorem dL_begin_19 : decode cL_begin 19 = .ok (.ireturn, 1) := by decide +kernel
theorem dL_begin_20 : decode cL_begin 20 = .ok (.iconst 0, 1) := by decide +kernel
theorem dL_begin_21 : decode cL_begin 21 = .ok (.ireturn, 1) := by decide +kernel
theorem dL_scale_0 : decode cL_scale 0 = .ok (.aload_n 0, 1) := by decide +kernel
theorem dL_scale_1 : decode cL_scale 1 = .ok (.iload_n 1, 1) := by decide +kernel
theorem dL_scale_2 : decode cL_scale 2 = .ok (.invokevirtual 25, 3) := by decide +kernel
theorem dL_scale_5 : decode cL_scale 5 = .ok (.goto 9, 3) := by decide +kernel
theorem dL_scale_8 : decode cL_scale 8 = .ok (.astore_n 2, 1) := by decide +kernel
theorem dL_scale_9 : decode cL_scale 9 = .ok (.iconst 1, 1) := by decide +kernel
theorem dL_scale_10 : decode cL_scale 10 = .ok (.ireturn, 1) := by decide +kernel
theorem dL_scale_11 : decode cL_scale 11 = .ok (.astore_n 2, 1) := by decide +kernel
theorem dL_scale_12 : decode cL_scale 12 = .ok (.iconst 2, 1) := by decide +kernel
theorem dL_scale_13 : decode cL_scale 13 = .ok (.ireturn, 1) := by decide +kernel
theorem dL_scale_14 : decode cL_scale 14 = .ok (.iconst 0, 1) := by decide +kernel
theorem dL_scale_15 : decode cL_scale 15 = .ok (.ireturn, 1) := by decide +kernel
theorem dL_itself_0 : decode cL_itself 0 = .ok (.aload_n 0, 1) := by decide +kernel
theorem dL_itself_1 : decode cL_itself 1 = .ok (.invokevirtual 29, 3) := by decide +kernel
theorem dL_itself_4 : decode cL_itself 4 = .ok (.goto 6, 3) := by decide +kernel
theorem dL_itself_7 : decode cL_itself 7 = .ok (.astore_n 1, 1) := by decide +kernel
theorem dL_itself_8 : decode cL_itself 8 = .ok (.iconst 1, 1) := by decide +kernel
theorem dL_itself_9 : decode cL_itself 9 = .ok (.ireturn, 1) := by decide +kernel
theorem dL_itself_10 : decode cL_itself 10 = .ok (.iconst 0, 1) := by decide +kernel
theorem dL_itself_11 : decode cL_itself 11 = .ok (.ireturn, 1) := by decide +kernel
theorem dL_vector_0 : decode cL_vector 0 = .ok (.aload_n 0, 1) := by decide +kernel
theorem dL_vector_1 : decode cL_vector 1 = .ok (.iload_n 1, 1) := by decide +kernel
theorem dL_vector_2 : decode cL_vector 2 = .ok (.iload_n 2, 1) := by decide +kernel
theorem dL_vector_3 : decode cL_vector 3 = .ok (.iload_n 3, 1) := by decide +kernel
theorem dL_vector_4 : decode cL_vector 4 = .ok (.invokevirtual 32, 3) := by decide +kernel
theorem dL_vector_7 : decode cL_vector 7 = .ok (.goto 11, 3) := by decide +kernel
theorem dL_vector_10 : decode cL_vector 10 = .ok (.astore 4, 2) := by decide +kernel
theorem dL_vector_12 : decode cL_vector 12 = .ok (.iconst 1, 1) := by decide +kernel
theorem dL_vector_13 : decode cL_vector 13 = .ok (.ireturn, 1) := by decide +kernel
theorem dL_vector_14 : decode cL_vector 14 = .ok (.astore 4, 2) := by decide +kernel
theorem dL_vector_16 : decode cL_vector 16 = .ok (.iconst 2, 1) := by decide +kernel
theorem dL_vector_17 : decode cL_vector 17 = .ok (.ireturn, 1) := by decide +kernel
theorem dL_vector_18 : decode cL_vector 18 = .ok (.iconst 0, 1) := by decide +kernel
theorem dL_vector_19 : decode cL_vector 19 = .ok (.ireturn, 1) := by decide +kernel
theorem dL_level_0 : decode cL_level 0 = .ok (.aload_n 0, 1) := by decide +kernel
theorem dL_level_1 : decode cL_level 1 = .ok (.iload_n 1, 1) := by decide +kernel
theorem dL_level_2 : decode cL_level 2 = .ok (.iload_n 2, 1) := by decide +kernel
theorem dL_level_3 : decode cL_level 3 = .ok (.iload_n 3, 1) := by decide +kernel
theorem dL_level_4 : decode cL_level 4 = .ok (.invokevirtual 36, 3) := by decide +kernel
theorem dL_level_7 : decode cL_level 7 = .ok (.goto 11, 3) := by decide +kernel
theorem dL_level_10 : decode cL_level 10 = .ok (.astore 4, 2) := by decide +kernel
theorem dL_level_12 : decode cL_level 12 = .ok (.iconst 1, 1) := by decide +kernel
theorem dL_level_13 : decode cL_level 13 = .ok (.ireturn, 1) := by decide +kernel
theorem dL_level_14 : decode cL_level 14 = .ok (.astore 4, 2) := by decide +kernel
theorem dL_level_16 : decode cL_level 16 = .ok (.iconst 2, 1) := by decide +kernel
theorem dL_level_17 : decode cL_level 17 = .ok (.ireturn, 1) := by decide +kernel
theorem dL_level_18 : decode cL_level 18 = .ok (.iconst 0, 1) := by decide +kernel
theorem dL_level_19 : decode cL_level 19 = .ok (.ireturn, 1) := by decide +kernel
theorem dL_square_0 : decode cL_square 0 = .ok (.aload_n 1, 1) := by decide +kernel
theorem dL_square_1 : decode cL_square 1 = .ok (.iconst 0, 1) := by decide +kernel
theorem dL_square_2 : decode cL_square 2 = .ok (.aload_n 0, 1) := by decide +kernel
theorem dL_square_3 : decode cL_square 3 = .ok (.invokevirtual 39, 3) := by decide +kernel
theorem dL_square_6 : decode cL_square 6 = .ok (.i2l, 1) := by decide +kernel
theorem dL_square_7 : decode cL_square 7 = .ok (.lastore, 1) := by decide +kernel
theorem dL_square_8 : decode cL_square 8 = .ok (.goto 6, 3) := by decide +kernel
theorem dL_square_11 : decode cL_square 11 = .ok (.astore_n 2, 1) := by decide +kernel
theorem dL_square_12 : decode cL_square 12 = .ok (.iconst 1, 1) := by decide +kernel
theorem dL_square_13 : decode cL_square 13 = .ok (.ireturn, 1) := by decide +kernel
theorem dL_square_14 : decode cL_square 14 = .ok (.iconst 0, 1) := by decide +kernel
theorem dL_square_15 : decode cL_square 15 = .ok (.ireturn, 1) := by decide +kernel
theorem dL_leave_0 : decode cL_leave 0 = .ok (.aload_n 2, 1) := by decide +kernel
theorem dL_leave_1 : decode cL_leave 1 = .ok (.iconst 0, 1) := by decide +kernel
theorem dL_leave_2 : decode cL_leave 2 = .ok (.aload_n 0, 1) := by decide +kernel
theorem dL_leave_3 : decode cL_leave 3 = .ok (.iload_n 1, 1) := by decide +kernel
theorem dL_leave_4 : decode cL_leave 4 = .ok (.invokevirtual 43, 3) := by decide +kernel
theorem dL_leave_7 : decode cL_leave 7 = .ok (.i2l, 1) := by decide +kernel
theorem dL_leave_8 : decode cL_leave 8 = .ok (.lastore, 1) := by decide +kernel
theorem dL_leave_9 : decode cL_leave 9 = .ok (.goto 9, 3) := by decide +kernel
theorem dL_leave_12 : decode cL_leave 12 = .ok (.astore_n 3, 1) := by decide +kernel
theorem dL_leave_13 : decode cL_leave 13 = .ok (.iconst 1, 1) := by decide +kernel
theorem dL_leave_14 : decode cL_leave 14 = .ok (.ireturn, 1) := by decide +kernel
theorem dL_leave_15 : decode cL_leave 15 = .ok (.astore_n 3, 1) := by decide +kernel
theorem dL_leave_16 : decode cL_leave 16 = .ok (.iconst 2, 1) := by decide +kernel
theorem dL_leave_17 : decode cL_leave 17 = .ok (.ireturn, 1) := by decide +kernel
theorem dL_leave_18 : decode cL_leave 18 = .ok (.iconst 0, 1) := by decide +kernel
theorem dL_leave_19 : decode cL_leave 19 = .ok (.ireturn, 1) := by decide +kernel
theorem dL_done_0 : decode cL_done 0 = .ok (.aload_n 1, 1) := by decide +kernel
theorem dL_done_1 : decode cL_done 1 = .ok (.iconst 0, 1) := by decide +kernel
theorem dL_done_2 : decode cL_done 2 = .ok (.aload_n 0, 1) := by decide +kernel
theorem dL_done_3 : decode cL_done 3 = .ok (.invokevirtual 47, 3) := by decide +kernel
theorem dL_done_6 : decode cL_done 6 = .ok (.i2l, 1) := by decide +kernel
theorem dL_done_7 : decode cL_done 7 = .ok (.lastore, 1) := by decide +kernel
theorem dL_done_8 : decode cL_done 8 = .ok (.goto 6, 3) := by decide +kernel
theorem dL_done_11 : decode cL_done 11 = .ok (.astore_n 2, 1) := by decide +kernel
theorem dL_done_12 : decode cL_done 12 = .ok (.iconst 1, 1) := by decide +kernel
theorem dL_done_13 : decode cL_done 13 = .ok (.ireturn, 1) := by decide +kernel
theorem dL_done_14 : decode cL_done 14 = .ok (.iconst 0, 1) := by decide +kernel
theorem dL_done_15 : decode cL_done 15 = .ok (.ireturn, 1) := by decide +kernel
theorem dL_last_0 : decode cL_last 0 = .ok (.aload_n 1, 1) := by decide +kernel
theorem dL_last_1 : decode cL_last 1 = .ok (.iconst 0, 1) := by decide +kernel
theorem dL_last_2 : decode cL_last 2 = .ok (.aload_n 0, 1) := by decide +kernel
theorem dL_last_3 : decode cL_last 3 = .ok (.invokevirtual 50, 3) := by decide +kernel
theorem dL_last_6 : decode cL_last 6 = .ok (.i2l, 1) := by decide +kernel
theorem dL_last_7 : decode cL_last 7 = .ok (.lastore, 1) := by decide +kernel
theorem dL_last_8 : decode cL_last 8 = .ok (.goto 6, 3) := by decide +kernel
theorem dL_last_11 : decode cL_last 11 = .ok (.astore_n 2, 1) := by decide +kernel
theorem dL_last_12 : decode cL_last 12 = .ok (.iconst 1, 1) := by decide +kernel
theorem dL_last_13 : decode cL_last 13 = .ok (.ireturn, 1) := by decide +kernel
theorem dL_last_14 : decode cL_last 14 = .ok (.iconst 0, 1) := by decide +kernel
theorem dL_last_15 : decode cL_last 15 = .ok (.ireturn, 1) := by decide +kernel
theorem dL_sample_0 : decode cL_sample 0 = .ok (.aload 4, 2) := by decide +kernel
theorem dL_sample_2 : decode cL_sample 2 = .ok (.iconst 0, 1) := by decide +kernel
theorem dL_sample_3 : decode cL_sample 3 = .ok (.aload_n 0, 1) := by decide +kernel
theorem dL_sample_4 : decode cL_sample 4 = .ok (.iload_n 1, 1) := by decide +kernel
theorem dL_sample_5 : decode cL_sample 5 = .ok (.iload_n 2, 1) := by decide +kernel
theorem dL_sample_6 : decode cL_sample 6 = .ok (.iload_n 3, 1) := by decide +kernel
theorem dL_sample_7 : decode cL_sample 7 = .ok (.invokevirtual 53, 3) := by decide +kernel
theorem dL_sample_10 : decode cL_sample 10 = .ok (.i2l, 1) := by decide +kernel
theorem dL_sample_11 : decode cL_sample 11 = .ok (.lastore, 1) := by decide +kernel
theorem dL_sample_12 : decode cL_sample 12 = .ok (.goto 11, 3) := by decide +kernel
theorem dL_sample_15 : decode cL_sample 15 = .ok (.astore 5, 2) := by decide +kernel
theorem dL_sample_17 : decode cL_sample 17 = .ok (.iconst 1, 1) := by decide +kernel
theorem dL_sample_18 : decode cL_sample 18 = .ok (.ireturn, 1) := by decide +kernel
theorem dL_sample_19 : decode cL_sample 19 = .ok (.astore 5, 2) := by decide +kernel
theorem dL_sample_21 : decode cL_sample 21 = .ok (.iconst 2, 1) := by decide +kernel
theorem dL_sample_22 : decode cL_sample 22 = .ok (.ireturn, 1) := by decide +kernel
theorem dL_sample_23 : decode cL_sample 23 = .ok (.iconst 0, 1) := by decide +kernel
theorem dL_sample_24 : decode cL_sample 24 = .ok (.ireturn, 1) := by decide +kernel
theorem dL_colour_0 : decode cL_colour 0 = .ok (.aload_n 3, 1) := by decide +kernel
theorem dL_colour_1 : decode cL_colour 1 = .ok (.iconst 0, 1) := by decide +kernel
theorem dL_colour_2 : decode cL_colour 2 = .ok (.aload_n 0, 1) := by decide +kernel
theorem dL_colour_3 : decode cL_colour 3 = .ok (.iload_n 1, 1) := by decide +kernel
theorem dL_colour_4 : decode cL_colour 4 = .ok (.iload_n 2, 1) := by decide +kernel
theorem dL_colour_5 : decode cL_colour 5 = .ok (.invokevirtual 58, 3) := by decide +kernel
theorem dL_colour_8 : decode cL_colour 8 = .ok (.i2l, 1) := by decide +kernel
theorem dL_colour_9 : decode cL_colour 9 = .ok (.lastore, 1) := by decide +kernel
theorem dL_colour_10 : decode cL_colour 10 = .ok (.goto 11, 3) := by decide +kernel
theorem dL_colour_13 : decode cL_colour 13 = .ok (.astore 4, 2) := by decide +kernel
theorem dL_colour_15 : decode cL_colour 15 = .ok (.iconst 1, 1) := by decide +kernel
theorem dL_colour_16 : decode cL_colour 16 = .ok (.ireturn, 1) := by decide +kernel
theorem dL_colour_17 : decode cL_colour 17 = .ok (.astore 4, 2) := by decide +kernel
theorem dL_colour_19 : decode cL_colour 19 = .ok (.iconst 2, 1) := by decide +kernel
theorem dL_colour_20 : decode cL_colour 20 = .ok (.ireturn, 1) := by decide +kernel
theorem dL_colour_21 : decode cL_colour 21 = .ok (.iconst 0, 1) := by decide +kernel
theorem dL_colour_22 : decode cL_colour 22 = .ok (.ireturn, 1) := by decide +kernel
theorem dL_light_0 : decode cL_light 0 = .ok (.aload_n 0, 1) := by decide +kernel
theorem dL_light_1 : decode cL_light 1 = .ok (.fload_n 1, 1) := by decide +kernel
theorem dL_light_2 : decode cL_light 2 = .ok (.fload_n 2, 1) := by decide +kernel
theorem dL_light_3 : decode cL_light 3 = .ok (.invokevirtual 62, 3) := by decide +kernel
theorem dL_light_6 : decode cL_light 6 = .ok (.goto 9, 3) := by decide +kernel
theorem dL_light_9 : decode cL_light 9 = .ok (.astore_n 3, 1) := by decide +kernel
theorem dL_light_10 : decode cL_light 10 = .ok (.iconst 1, 1) := by decide +kernel
theorem dL_light_11 : decode cL_light 11 = .ok (.ireturn, 1) := by decide +kernel
theorem dL_light_12 : decode cL_light 12 = .ok (.astore_n 3, 1) := by decide +kernel
theorem dL_light_13 : decode cL_light 13 = .ok (.iconst 2, 1) := by decide +kernel
theorem dL_light_14 : decode cL_light 14 = .ok (.ireturn, 1) := by decide +kernel
theorem dL_light_15 : decode cL_light 15 = .ok (.iconst 0, 1) := by decide +kernel
theorem dL_light_16 : decode cL_light 16 = .ok (.ireturn, 1) := by decide +kernel
theorem dL_keep_0 : decode cL_keep 0 = .ok (.aload_n 0, 1) := by decide +kernel
theorem dL_keep_1 : decode cL_keep 1 = .ok (.invokevirtual 66, 3) := by decide +kernel
theorem dL_keep_4 : decode cL_keep 4 = .ok (.goto 6, 3) := by decide +kernel
theorem dL_keep_7 : decode cL_keep 7 = .ok (.astore_n 1, 1) := by decide +kernel
theorem dL_keep_8 : decode cL_keep 8 = .ok (.iconst 1, 1) := by decide +kernel
theorem dL_keep_9 : decode cL_keep 9 = .ok (.ireturn, 1) := by decide +kernel
theorem dL_keep_10 : decode cL_keep 10 = .ok (.iconst 0, 1) := by decide +kernel
theorem dL_keep_11 : decode cL_keep 11 = .ok (.ireturn, 1) := by decide +kernel
theorem dL_error_0 : decode cL_error 0 = .ok (.aload_n 1, 1) := by decide +kernel
theorem dL_error_1 : decode cL_error 1 = .ok (.iconst 0, 1) := by decide +kernel
theorem dL_error_2 : decode cL_error 2 = .ok (.aload_n 0, 1) := by decide +kernel
theorem dL_error_3 : decode cL_error 3 = .ok (.invokevirtual 69, 3) := by decide +kernel
theorem dL_error_6 : decode cL_error 6 = .ok (.f2d, 1) := by decide +kernel
theorem dL_error_7 : decode cL_error 7 = .ok (.dastore, 1) := by decide +kernel
theorem dL_error_8 : decode cL_error 8 = .ok (.goto 6, 3) := by decide +kernel
theorem dL_error_11 : decode cL_error 11 = .ok (.astore_n 2, 1) := by decide +kernel
theorem dL_error_12 : decode cL_error 12 = .ok (.iconst 1, 1) := by decide +kernel
theorem dL_error_13 : decode cL_error 13 = .ok (.ireturn, 1) := by decide +kernel
theorem dL_error_14 : decode cL_error 14 = .ok (.iconst 0, 1) := by decide +kernel
theorem dL_error_15 : decode cL_error 15 = .ok (.ireturn, 1) := by decide +kernel
theorem dL_told_0 : decode cL_told 0 = .ok (.aload_n 2, 1) := by decide +kernel
theorem dL_told_1 : decode cL_told 1 = .ok (.iconst 0, 1) := by decide +kernel
theorem dL_told_2 : decode cL_told 2 = .ok (.aload_n 0, 1) := by decide +kernel
theorem dL_told_3 : decode cL_told 3 = .ok (.iload_n 1, 1) := by decide +kernel
theorem dL_told_4 : decode cL_told 4 = .ok (.invokevirtual 73, 3) := by decide +kernel
theorem dL_told_7 : decode cL_told 7 = .ok (.i2l, 1) := by decide +kernel
theorem dL_told_8 : decode cL_told 8 = .ok (.lastore, 1) := by decide +kernel
theorem dL_told_9 : decode cL_told 9 = .ok (.goto 6, 3) := by decide +kernel
theorem dL_told_12 : decode cL_told 12 = .ok (.astore_n 3, 1) := by decide +kernel
theorem dL_told_13 : decode cL_told 13 = .ok (.iconst 1, 1) := by decide +kernel
theorem dL_told_14 : decode cL_told 14 = .ok (.ireturn, 1) := by decide +kernel
theorem dL_told_15 : decode cL_told 15 = .ok (.iconst 0, 1) := by decide +kernel
theorem dL_told_16 : decode cL_told 16 = .ok (.ireturn, 1) := by decide +kernel
