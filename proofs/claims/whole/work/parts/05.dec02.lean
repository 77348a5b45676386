theorem dX7_size_81 : decode cX7_size 81 = .ok (.iload_n 3, 1) := by decide +kernel
theorem dX7_size_82 : decode cX7_size 82 = .ok (.sipush 4608, 3) := by decide +kernel
theorem dX7_size_85 : decode cX7_size 85 = .ok (.if_icmp .ge 27, 3) := by decide +kernel
theorem dX7_size_88 : decode cX7_size 88 = .ok (.aload_n 0, 1) := by decide +kernel
theorem dX7_size_89 : decode cX7_size 89 = .ok (.getfield 22, 3) := by decide +kernel
theorem dX7_size_92 : decode cX7_size 92 = .ok (.iload_n 3, 1) := by decide +kernel
theorem dX7_size_93 : decode cX7_size 93 = .ok (.sipush 128, 3) := by decide +kernel
theorem dX7_size_96 : decode cX7_size 96 = .ok (.iastore, 1) := by decide +kernel
theorem dX7_size_97 : decode cX7_size 97 = .ok (.aload_n 0, 1) := by decide +kernel
theorem dX7_size_98 : decode cX7_size 98 = .ok (.getfield 25, 3) := by decide +kernel
theorem dX7_size_101 : decode cX7_size 101 = .ok (.iload_n 3, 1) := by decide +kernel
theorem dX7_size_102 : decode cX7_size 102 = .ok (.sipush 128, 3) := by decide +kernel
theorem dX7_size_105 : decode cX7_size 105 = .ok (.iastore, 1) := by decide +kernel
theorem dX7_size_106 : decode cX7_size 106 = .ok (.iinc 3 1, 3) := by decide +kernel
theorem dX7_size_109 : decode cX7_size 109 = .ok (.goto (-28), 3) := by decide +kernel
theorem dX7_size_112 : decode cX7_size 112 = .ok (.aload_n 0, 1) := by decide +kernel
theorem dX7_size_113 : decode cX7_size 113 = .ok (.iconst 0, 1) := by decide +kernel
theorem dX7_size_114 : decode cX7_size 114 = .ok (.putfield 76, 3) := by decide +kernel
theorem dX7_size_117 : decode cX7_size 117 = .ok (.aload_n 0, 1) := by decide +kernel
theorem dX7_size_118 : decode cX7_size 118 = .ok (.iconst 0, 1) := by decide +kernel
theorem dX7_size_119 : decode cX7_size 119 = .ok (.putfield 80, 3) := by decide +kernel
theorem dX7_size_122 : decode cX7_size 122 = .ok (.aload_n 0, 1) := by decide +kernel
theorem dX7_size_123 : decode cX7_size 123 = .ok (.iconst 0, 1) := by decide +kernel
theorem dX7_size_124 : decode cX7_size 124 = .ok (.putfield 83, 3) := by decide +kernel
theorem dX7_size_127 : decode cX7_size 127 = .ok (.aload_n 0, 1) := by decide +kernel
theorem dX7_size_128 : decode cX7_size 128 = .ok (.iconst 0, 1) := by decide +kernel
theorem dX7_size_129 : decode cX7_size 129 = .ok (.putfield 86, 3) := by decide +kernel
theorem dX7_size_132 : decode cX7_size 132 = .ok (.aload_n 0, 1) := by decide +kernel
theorem dX7_size_133 : decode cX7_size 133 = .ok (.iconst 0, 1) := by decide +kernel
theorem dX7_size_134 : decode cX7_size 134 = .ok (.putfield 89, 3) := by decide +kernel
theorem dX7_size_137 : decode cX7_size 137 = .ok (.aload_n 0, 1) := by decide +kernel
theorem dX7_size_138 : decode cX7_size 138 = .ok (.iconst 0, 1) := by decide +kernel
theorem dX7_size_139 : decode cX7_size 139 = .ok (.putfield 92, 3) := by decide +kernel
theorem dX7_size_142 : decode cX7_size 142 = .ok (.aload_n 0, 1) := by decide +kernel
theorem dX7_size_143 : decode cX7_size 143 = .ok (.iconst 0, 1) := by decide +kernel
theorem dX7_size_144 : decode cX7_size 144 = .ok (.putfield 95, 3) := by decide +kernel
theorem dX7_size_147 : decode cX7_size 147 = .ok (.aload_n 0, 1) := by decide +kernel
theorem dX7_size_148 : decode cX7_size 148 = .ok (.iconst 0, 1) := by decide +kernel
theorem dX7_size_149 : decode cX7_size 149 = .ok (.putfield 98, 3) := by decide +kernel
theorem dX7_size_152 : decode cX7_size 152 = .ok (.aload_n 0, 1) := by decide +kernel
theorem dX7_size_153 : decode cX7_size 153 = .ok (.getfield 34, 3) := by decide +kernel
theorem dX7_size_156 : decode cX7_size 156 = .ok (.iconst 0, 1) := by decide +kernel
theorem dX7_size_157 : decode cX7_size 157 = .ok (.iconst 1, 1) := by decide +kernel
theorem dX7_size_158 : decode cX7_size 158 = .ok (.iastore, 1) := by decide +kernel
theorem dX7_size_159 : decode cX7_size 159 = .ok (.aload_n 0, 1) := by decide +kernel
theorem dX7_size_160 : decode cX7_size 160 = .ok (.getfield 34, 3) := by decide +kernel
theorem dX7_size_163 : decode cX7_size 163 = .ok (.iconst 1, 1) := by decide +kernel
theorem dX7_size_164 : decode cX7_size 164 = .ok (.iconst 1, 1) := by decide +kernel
theorem dX7_size_165 : decode cX7_size 165 = .ok (.iastore, 1) := by decide +kernel
theorem dX7_size_166 : decode cX7_size 166 = .ok (.aload_n 0, 1) := by decide +kernel
theorem dX7_size_167 : decode cX7_size 167 = .ok (.invokevirtual 101, 3) := by decide +kernel
theorem dX7_size_170 : decode cX7_size 170 = .ok (.aload_n 0, 1) := by decide +kernel
theorem dX7_size_171 : decode cX7_size 171 = .ok (.invokevirtual 104, 3) := by decide +kernel
theorem dX7_size_174 : decode cX7_size 174 = .ok (.aload_n 0, 1) := by decide +kernel
theorem dX7_size_175 : decode cX7_size 175 = .ok (.invokevirtual 107, 3) := by decide +kernel
theorem dX7_size_178 : decode cX7_size 178 = .ok (.return_, 1) := by decide +kernel
theorem dX7_clearVectors_0 : decode cX7_clearVectors 0 = .ok (.iconst 0, 1) := by decide +kernel
theorem dX7_clearVectors_1 : decode cX7_clearVectors 1 = .ok (.istore_n 1, 1) := by decide +kernel
theorem dX7_clearVectors_2 : decode cX7_clearVectors 2 = .ok (.iload_n 1, 1) := by decide +kernel
theorem dX7_clearVectors_3 : decode cX7_clearVectors 3 = .ok (.iconst 4, 1) := by decide +kernel
theorem dX7_clearVectors_4 : decode cX7_clearVectors 4 = .ok (.if_icmp .ge 16, 3) := by decide +kernel
theorem dX7_clearVectors_7 : decode cX7_clearVectors 7 = .ok (.aload_n 0, 1) := by decide +kernel
theorem dX7_clearVectors_8 : decode cX7_clearVectors 8 = .ok (.getfield 37, 3) := by decide +kernel
theorem dX7_clearVectors_11 : decode cX7_clearVectors 11 = .ok (.iload_n 1, 1) := by decide +kernel
theorem dX7_clearVectors_12 : decode cX7_clearVectors 12 = .ok (.iconst 0, 1) := by decide +kernel
theorem dX7_clearVectors_13 : decode cX7_clearVectors 13 = .ok (.iastore, 1) := by decide +kernel
theorem dX7_clearVectors_14 : decode cX7_clearVectors 14 = .ok (.iinc 1 1, 3) := by decide +kernel
theorem dX7_clearVectors_17 : decode cX7_clearVectors 17 = .ok (.goto (-15), 3) := by decide +kernel
theorem dX7_clearVectors_20 : decode cX7_clearVectors 20 = .ok (.return_, 1) := by decide +kernel
theorem dX7_clearPasts_0 : decode cX7_clearPasts 0 = .ok (.iconst 0, 1) := by decide +kernel
theorem dX7_clearPasts_1 : decode cX7_clearPasts 1 = .ok (.istore_n 1, 1) := by decide +kernel
theorem dX7_clearPasts_2 : decode cX7_clearPasts 2 = .ok (.iload_n 1, 1) := by decide +kernel
theorem dX7_clearPasts_3 : decode cX7_clearPasts 3 = .ok (.iconst 3, 1) := by decide +kernel
theorem dX7_clearPasts_4 : decode cX7_clearPasts 4 = .ok (.if_icmp .ge 18, 3) := by decide +kernel
theorem dX7_clearPasts_7 : decode cX7_clearPasts 7 = .ok (.aload_n 0, 1) := by decide +kernel
theorem dX7_clearPasts_8 : decode cX7_clearPasts 8 = .ok (.getfield 40, 3) := by decide +kernel
theorem dX7_clearPasts_11 : decode cX7_clearPasts 11 = .ok (.iload_n 1, 1) := by decide +kernel
theorem dX7_clearPasts_12 : decode cX7_clearPasts 12 = .ok (.sipush 1024, 3) := by decide +kernel
theorem dX7_clearPasts_15 : decode cX7_clearPasts 15 = .ok (.iastore, 1) := by decide +kernel
theorem dX7_clearPasts_16 : decode cX7_clearPasts 16 = .ok (.iinc 1 1, 3) := by decide +kernel
theorem dX7_clearPasts_19 : decode cX7_clearPasts 19 = .ok (.goto (-17), 3) := by decide +kernel
theorem dX7_clearPasts_22 : decode cX7_clearPasts 22 = .ok (.return_, 1) := by decide +kernel
theorem dX7_forget_0 : decode cX7_forget 0 = .ok (.aload_n 0, 1) := by decide +kernel
theorem dX7_forget_1 : decode cX7_forget 1 = .ok (.iconst 0, 1) := by decide +kernel
theorem dX7_forget_2 : decode cX7_forget 2 = .ok (.putfield 110, 3) := by decide +kernel
theorem dX7_forget_5 : decode cX7_forget 5 = .ok (.aload_n 0, 1) := by decide +kernel
theorem dX7_forget_6 : decode cX7_forget 6 = .ok (.iconst 0, 1) := by decide +kernel
theorem dX7_forget_7 : decode cX7_forget 7 = .ok (.putfield 113, 3) := by decide +kernel
theorem dX7_forget_10 : decode cX7_forget 10 = .ok (.aload_n 0, 1) := by decide +kernel
theorem dX7_forget_11 : decode cX7_forget 11 = .ok (.getfield 43, 3) := by decide +kernel
theorem dX7_forget_14 : decode cX7_forget 14 = .ok (.iconst 0, 1) := by decide +kernel
theorem dX7_forget_15 : decode cX7_forget 15 = .ok (.iconst 0, 1) := by decide +kernel
theorem dX7_forget_16 : decode cX7_forget 16 = .ok (.bastore, 1) := by decide +kernel
theorem dX7_forget_17 : decode cX7_forget 17 = .ok (.aload_n 0, 1) := by decide +kernel
theorem dX7_forget_18 : decode cX7_forget 18 = .ok (.getfield 43, 3) := by decide +kernel
theorem dX7_forget_21 : decode cX7_forget 21 = .ok (.iconst 1, 1) := by decide +kernel
theorem dX7_forget_22 : decode cX7_forget 22 = .ok (.iconst 0, 1) := by decide +kernel
theorem dX7_forget_23 : decode cX7_forget 23 = .ok (.bastore, 1) := by decide +kernel
theorem dX7_forget_24 : decode cX7_forget 24 = .ok (.iconst 0, 1) := by decide +kernel
theorem dX7_forget_25 : decode cX7_forget 25 = .ok (.istore_n 1, 1) := by decide +kernel
theorem dX7_forget_26 : decode cX7_forget 26 = .ok (.iload_n 1, 1) := by decide +kernel
theorem dX7_forget_27 : decode cX7_forget 27 = .ok (.sipush 384, 3) := by decide +kernel
theorem dX7_forget_30 : decode cX7_forget 30 = .ok (.if_icmp .ge 16, 3) := by decide +kernel
theorem dX7_forget_33 : decode cX7_forget 33 = .ok (.aload_n 0, 1) := by decide +kernel
theorem dX7_forget_34 : decode cX7_forget 34 = .ok (.getfield 47, 3) := by decide +kernel
theorem dX7_forget_37 : decode cX7_forget 37 = .ok (.iload_n 1, 1) := by decide +kernel
theorem dX7_forget_38 : decode cX7_forget 38 = .ok (.iconst 0, 1) := by decide +kernel
theorem dX7_forget_39 : decode cX7_forget 39 = .ok (.iastore, 1) := by decide +kernel
theorem dX7_forget_40 : decode cX7_forget 40 = .ok (.iinc 1 1, 3) := by decide +kernel
theorem dX7_forget_43 : decode cX7_forget 43 = .ok (.goto (-17), 3) := by decide +kernel
theorem dX7_forget_46 : decode cX7_forget 46 = .ok (.return_, 1) := by decide +kernel
theorem dX7_matrix_0 : decode cX7_matrix 0 = .ok (.aload_n 0, 1) := by decide +kernel
theorem dX7_matrix_1 : decode cX7_matrix 1 = .ok (.iload_n 1, 1) := by decide +kernel
theorem dX7_matrix_2 : decode cX7_matrix 2 = .ok (.ifCond .lt 30, 3) := by decide +kernel
theorem dX7_matrix_5 : decode cX7_matrix 5 = .ok (.iload_n 1, 1) := by decide +kernel
theorem dX7_matrix_6 : decode cX7_matrix 6 = .ok (.iconst 1, 1) := by decide +kernel
theorem dX7_matrix_7 : decode cX7_matrix 7 = .ok (.if_icmp .gt 25, 3) := by decide +kernel
theorem dX7_matrix_10 : decode cX7_matrix 10 = .ok (.iload_n 2, 1) := by decide +kernel
theorem dX7_matrix_11 : decode cX7_matrix 11 = .ok (.ifCond .lt 21, 3) := by decide +kernel
theorem dX7_matrix_14 : decode cX7_matrix 14 = .ok (.iload_n 2, 1) := by decide +kernel
theorem dX7_matrix_15 : decode cX7_matrix 15 = .ok (.bipush 63, 2) := by decide +kernel
theorem dX7_matrix_17 : decode cX7_matrix 17 = .ok (.if_icmp .gt 15, 3) := by decide +kernel
theorem dX7_matrix_20 : decode cX7_matrix 20 = .ok (.iload_n 3, 1) := by decide +kernel
theorem dX7_matrix_21 : decode cX7_matrix 21 = .ok (.iconst 1, 1) := by decide +kernel
theorem dX7_matrix_22 : decode cX7_matrix 22 = .ok (.if_icmp .lt 10, 3) := by decide +kernel
theorem dX7_matrix_25 : decode cX7_matrix 25 = .ok (.iload_n 3, 1) := by decide +kernel
theorem dX7_matrix_26 : decode cX7_matrix 26 = .ok (.sipush 255, 3) := by decide +kernel
theorem dX7_matrix_29 : decode cX7_matrix 29 = .ok (.if_icmp .le 7, 3) := by decide +kernel
theorem dX7_matrix_32 : decode cX7_matrix 32 = .ok (.iconst 1, 1) := by decide +kernel
theorem dX7_matrix_33 : decode cX7_matrix 33 = .ok (.goto 4, 3) := by decide +kernel
theorem dX7_matrix_36 : decode cX7_matrix 36 = .ok (.iconst 0, 1) := by decide +kernel
theorem dX7_matrix_37 : decode cX7_matrix 37 = .ok (.putfield 66, 3) := by decide +kernel
theorem dX7_matrix_40 : decode cX7_matrix 40 = .ok (.aload_n 0, 1) := by decide +kernel
theorem dX7_matrix_41 : decode cX7_matrix 41 = .ok (.getfield 66, 3) := by decide +kernel
theorem dX7_matrix_44 : decode cX7_matrix 44 = .ok (.ifCond .le 5, 3) := by decide +kernel
theorem dX7_matrix_47 : decode cX7_matrix 47 = .ok (.iconst 0, 1) := by decide +kernel
theorem dX7_matrix_48 : decode cX7_matrix 48 = .ok (.ireturn, 1) := by decide +kernel
theorem dX7_matrix_49 : decode cX7_matrix 49 = .ok (.aload_n 0, 1) := by decide +kernel
theorem dX7_matrix_50 : decode cX7_matrix 50 = .ok (.getfield 7, 3) := by decide +kernel
theorem dX7_matrix_53 : decode cX7_matrix 53 = .ok (.bipush 64, 2) := by decide +kernel
theorem dX7_matrix_55 : decode cX7_matrix 55 = .ok (.iload_n 1, 1) := by decide +kernel
theorem dX7_matrix_56 : decode cX7_matrix 56 = .ok (.imul, 1) := by decide +kernel
theorem dX7_matrix_57 : decode cX7_matrix 57 = .ok (.iload_n 2, 1) := by decide +kernel
theorem dX7_matrix_58 : decode cX7_matrix 58 = .ok (.iadd, 1) := by decide +kernel
theorem dX7_matrix_59 : decode cX7_matrix 59 = .ok (.iaload, 1) := by decide +kernel
theorem dX7_matrix_60 : decode cX7_matrix 60 = .ok (.istore 4, 2) := by decide +kernel
theorem dX7_matrix_62 : decode cX7_matrix 62 = .ok (.aload_n 0, 1) := by decide +kernel
theorem dX7_matrix_63 : decode cX7_matrix 63 = .ok (.getfield 7, 3) := by decide +kernel
theorem dX7_matrix_66 : decode cX7_matrix 66 = .ok (.bipush 64, 2) := by decide +kernel
theorem dX7_matrix_68 : decode cX7_matrix 68 = .ok (.iload_n 1, 1) := by decide +kernel
theorem dX7_matrix_69 : decode cX7_matrix 69 = .ok (.imul, 1) := by decide +kernel
theorem dX7_matrix_70 : decode cX7_matrix 70 = .ok (.iload_n 2, 1) := by decide +kernel
theorem dX7_matrix_71 : decode cX7_matrix 71 = .ok (.iadd, 1) := by decide +kernel
theorem dX7_matrix_72 : decode cX7_matrix 72 = .ok (.iload_n 3, 1) := by decide +kernel
theorem dX7_matrix_73 : decode cX7_matrix 73 = .ok (.iastore, 1) := by decide +kernel
theorem dX7_matrix_74 : decode cX7_matrix 74 = .ok (.iload 4, 2) := by decide +kernel
theorem dX7_matrix_76 : decode cX7_matrix 76 = .ok (.ireturn, 1) := by decide +kernel
theorem dX7_begin_0 : decode cX7_begin 0 = .ok (.aload_n 0, 1) := by decide +kernel
theorem dX7_begin_1 : decode cX7_begin 1 = .ok (.iload_n 1, 1) := by decide +kernel
theorem dX7_begin_2 : decode cX7_begin 2 = .ok (.iconst 1, 1) := by decide +kernel
theorem dX7_begin_3 : decode cX7_begin 3 = .ok (.if_icmp .lt 30, 3) := by decide +kernel
theorem dX7_begin_6 : decode cX7_begin 6 = .ok (.iload_n 1, 1) := by decide +kernel
theorem dX7_begin_7 : decode cX7_begin 7 = .ok (.iconst 3, 1) := by decide +kernel
theorem dX7_begin_8 : decode cX7_begin 8 = .ok (.if_icmp .gt 25, 3) := by decide +kernel
theorem dX7_begin_11 : decode cX7_begin 11 = .ok (.iload_n 2, 1) := by decide +kernel
theorem dX7_begin_12 : decode cX7_begin 12 = .ok (.iconst 1, 1) := by decide +kernel
theorem dX7_begin_13 : decode cX7_begin 13 = .ok (.if_icmp .lt 20, 3) := by decide +kernel
theorem dX7_begin_16 : decode cX7_begin 16 = .ok (.iload_n 2, 1) := by decide +kernel
theorem dX7_begin_17 : decode cX7_begin 17 = .ok (.bipush 16, 2) := by decide +kernel
theorem dX7_begin_19 : decode cX7_begin 19 = .ok (.if_icmp .gt 14, 3) := by decide +kernel
theorem dX7_begin_22 : decode cX7_begin 22 = .ok (.iload_n 3, 1) := by decide +kernel
theorem dX7_begin_23 : decode cX7_begin 23 = .ok (.iconst 1, 1) := by decide +kernel
theorem dX7_begin_24 : decode cX7_begin 24 = .ok (.if_icmp .lt 9, 3) := by decide +kernel
theorem dX7_begin_27 : decode cX7_begin 27 = .ok (.iload_n 3, 1) := by decide +kernel
theorem dX7_begin_28 : decode cX7_begin 28 = .ok (.bipush 16, 2) := by decide +kernel
theorem dX7_begin_30 : decode cX7_begin 30 = .ok (.if_icmp .le 7, 3) := by decide +kernel
theorem dX7_begin_33 : decode cX7_begin 33 = .ok (.iconst 1, 1) := by decide +kernel
theorem dX7_begin_34 : decode cX7_begin 34 = .ok (.goto 15, 3) := by decide +kernel
theorem dX7_begin_37 : decode cX7_begin 37 = .ok (.aload_n 0, 1) := by decide +kernel
theorem dX7_begin_38 : decode cX7_begin 38 = .ok (.getfield 95, 3) := by decide +kernel
theorem dX7_begin_41 : decode cX7_begin 41 = .ok (.ifCond .le 7, 3) := by decide +kernel
theorem dX7_begin_44 : decode cX7_begin 44 = .ok (.iconst 2, 1) := by decide +kernel
theorem dX7_begin_45 : decode cX7_begin 45 = .ok (.goto 4, 3) := by decide +kernel
theorem dX7_begin_48 : decode cX7_begin 48 = .ok (.iconst 0, 1) := by decide +kernel
theorem dX7_begin_49 : decode cX7_begin 49 = .ok (.putfield 66, 3) := by decide +kernel
theorem dX7_begin_52 : decode cX7_begin 52 = .ok (.aload_n 0, 1) := by decide +kernel
theorem dX7_begin_53 : decode cX7_begin 53 = .ok (.getfield 66, 3) := by decide +kernel
theorem dX7_begin_56 : decode cX7_begin 56 = .ok (.ifCond .le 4, 3) := by decide +kernel
theorem dX7_begin_59 : decode cX7_begin 59 = .ok (.return_, 1) := by decide +kernel
theorem dX7_begin_60 : decode cX7_begin 60 = .ok (.aload_n 0, 1) := by decide +kernel
theorem dX7_begin_61 : decode cX7_begin 61 = .ok (.iload_n 1, 1) := by decide +kernel
theorem dX7_begin_62 : decode cX7_begin 62 = .ok (.putfield 95, 3) := by decide +kernel
theorem dX7_begin_65 : decode cX7_begin 65 = .ok (.aload_n 0, 1) := by decide +kernel
theorem dX7_begin_66 : decode cX7_begin 66 = .ok (.getfield 34, 3) := by decide +kernel
theorem dX7_begin_69 : decode cX7_begin 69 = .ok (.iconst 0, 1) := by decide +kernel
theorem dX7_begin_70 : decode cX7_begin 70 = .ok (.iload_n 2, 1) := by decide +kernel
theorem dX7_begin_71 : decode cX7_begin 71 = .ok (.iastore, 1) := by decide +kernel
theorem dX7_begin_72 : decode cX7_begin 72 = .ok (.aload_n 0, 1) := by decide +kernel
theorem dX7_begin_73 : decode cX7_begin 73 = .ok (.getfield 34, 3) := by decide +kernel
theorem dX7_begin_76 : decode cX7_begin 76 = .ok (.iconst 1, 1) := by decide +kernel
theorem dX7_begin_77 : decode cX7_begin 77 = .ok (.iload_n 3, 1) := by decide +kernel
theorem dX7_begin_78 : decode cX7_begin 78 = .ok (.iastore, 1) := by decide +kernel
theorem dX7_begin_79 : decode cX7_begin 79 = .ok (.aload_n 0, 1) := by decide +kernel
theorem dX7_begin_80 : decode cX7_begin 80 = .ok (.iload 4, 2) := by decide +kernel
theorem dX7_begin_82 : decode cX7_begin 82 = .ok (.putfield 116, 3) := by decide +kernel
theorem dX7_begin_85 : decode cX7_begin 85 = .ok (.aload_n 0, 1) := by decide +kernel
theorem dX7_begin_86 : decode cX7_begin 86 = .ok (.iconst 1, 1) := by decide +kernel
theorem dX7_begin_87 : decode cX7_begin 87 = .ok (.putfield 119, 3) := by decide +kernel
theorem dX7_begin_90 : decode cX7_begin 90 = .ok (.aload_n 0, 1) := by decide +kernel
theorem dX7_begin_91 : decode cX7_begin 91 = .ok (.iconst 0, 1) := by decide +kernel
theorem dX7_begin_92 : decode cX7_begin 92 = .ok (.putfield 98, 3) := by decide +kernel
theorem dX7_begin_95 : decode cX7_begin 95 = .ok (.aload_n 0, 1) := by decide +kernel
theorem dX7_begin_96 : decode cX7_begin 96 = .ok (.iconst 0, 1) := by decide +kernel
theorem dX7_begin_97 : decode cX7_begin 97 = .ok (.putfield 122, 3) := by decide +kernel
theorem dX7_begin_100 : decode cX7_begin 100 = .ok (.aload_n 0, 1) := by decide +kernel
theorem dX7_begin_101 : decode cX7_begin 101 = .ok (.invokevirtual 101, 3) := by decide +kernel
theorem dX7_begin_104 : decode cX7_begin 104 = .ok (.aload_n 0, 1) := by decide +kernel
theorem dX7_begin_105 : decode cX7_begin 105 = .ok (.invokevirtual 104, 3) := by decide +kernel
theorem dX7_begin_108 : decode cX7_begin 108 = .ok (.aload_n 0, 1) := by decide +kernel
theorem dX7_begin_109 : decode cX7_begin 109 = .ok (.invokevirtual 107, 3) := by decide +kernel
theorem dX7_begin_112 : decode cX7_begin 112 = .ok (.return_, 1) := by decide +kernel
theorem dX7_scale_0 : decode cX7_scale 0 = .ok (.aload_n 0, 1) := by decide +kernel
theorem dX7_scale_1 : decode cX7_scale 1 = .ok (.iload_n 1, 1) := by decide +kernel
theorem dX7_scale_2 : decode cX7_scale 2 = .ok (.iconst 1, 1) := by decide +kernel
theorem dX7_scale_3 : decode cX7_scale 3 = .ok (.if_icmp .lt 9, 3) := by decide +kernel
theorem dX7_scale_6 : decode cX7_scale 6 = .ok (.iload_n 1, 1) := by decide +kernel
theorem dX7_scale_7 : decode cX7_scale 7 = .ok (.bipush 31, 2) := by decide +kernel
theorem dX7_scale_9 : decode cX7_scale 9 = .ok (.if_icmp .le 7, 3) := by decide +kernel
theorem dX7_scale_12 : decode cX7_scale 12 = .ok (.iconst 1, 1) := by decide +kernel
theorem dX7_scale_13 : decode cX7_scale 13 = .ok (.goto 15, 3) := by decide +kernel
theorem dX7_scale_16 : decode cX7_scale 16 = .ok (.aload_n 0, 1) := by decide +kernel
theorem dX7_scale_17 : decode cX7_scale 17 = .ok (.getfield 95, 3) := by decide +kernel
theorem dX7_scale_20 : decode cX7_scale 20 = .ok (.ifCond .ne 7, 3) := by decide +kernel
theorem dX7_scale_23 : decode cX7_scale 23 = .ok (.iconst 2, 1) := by decide +kernel
theorem dX7_scale_24 : decode cX7_scale 24 = .ok (.goto 4, 3) := by decide +kernel
theorem dX7_scale_27 : decode cX7_scale 27 = .ok (.iconst 0, 1) := by decide +kernel
theorem dX7_scale_28 : decode cX7_scale 28 = .ok (.putfield 66, 3) := by decide +kernel
theorem dX7_scale_31 : decode cX7_scale 31 = .ok (.aload_n 0, 1) := by decide +kernel
theorem dX7_scale_32 : decode cX7_scale 32 = .ok (.getfield 66, 3) := by decide +kernel
theorem dX7_scale_35 : decode cX7_scale 35 = .ok (.ifCond .ne 8, 3) := by decide +kernel
theorem dX7_scale_38 : decode cX7_scale 38 = .ok (.aload_n 0, 1) := by decide +kernel
theorem dX7_scale_39 : decode cX7_scale 39 = .ok (.iload_n 1, 1) := by decide +kernel
theorem dX7_scale_40 : decode cX7_scale 40 = .ok (.putfield 119, 3) := by decide +kernel
theorem dX7_scale_43 : decode cX7_scale 43 = .ok (.return_, 1) := by decide +kernel
theorem dX7_isFull_0 : decode cX7_isFull 0 = .ok (.aload_n 0, 1) := by decide +kernel
theorem dX7_isFull_1 : decode cX7_isFull 1 = .ok (.getfield 95, 3) := by decide +kernel
theorem dX7_isFull_4 : decode cX7_isFull 4 = .ok (.ifCond .eq 19, 3) := by decide +kernel
theorem dX7_isFull_7 : decode cX7_isFull 7 = .ok (.aload_n 0, 1) := by decide +kernel
theorem dX7_isFull_8 : decode cX7_isFull 8 = .ok (.getfield 98, 3) := by decide +kernel
theorem dX7_isFull_11 : decode cX7_isFull 11 = .ok (.aload_n 0, 1) := by decide +kernel
theorem dX7_isFull_12 : decode cX7_isFull 12 = .ok (.getfield 70, 3) := by decide +kernel
theorem dX7_isFull_15 : decode cX7_isFull 15 = .ok (.aload_n 0, 1) := by decide +kernel
theorem dX7_isFull_16 : decode cX7_isFull 16 = .ok (.getfield 73, 3) := by decide +kernel
theorem dX7_isFull_19 : decode cX7_isFull 19 = .ok (.imul, 1) := by decide +kernel
theorem dX7_isFull_20 : decode cX7_isFull 20 = .ok (.if_icmp .ne 7, 3) := by decide +kernel
theorem dX7_isFull_23 : decode cX7_isFull 23 = .ok (.iconst 1, 1) := by decide +kernel
theorem dX7_isFull_24 : decode cX7_isFull 24 = .ok (.goto 4, 3) := by decide +kernel
theorem dX7_isFull_27 : decode cX7_isFull 27 = .ok (.iconst 0, 1) := by decide +kernel
theorem dX7_isFull_28 : decode cX7_isFull 28 = .ok (.ireturn, 1) := by decide +kernel
theorem dX7_itself_0 : decode cX7_itself 0 = .ok (.aload_n 0, 1) := by decide +kernel
theorem dX7_itself_1 : decode cX7_itself 1 = .ok (.aload_n 0, 1) := by decide +kernel
theorem dX7_itself_2 : decode cX7_itself 2 = .ok (.invokevirtual 125, 3) := by decide +kernel
theorem dX7_itself_5 : decode cX7_itself 5 = .ok (.ifCond .ne 21, 3) := by decide +kernel
theorem dX7_itself_8 : decode cX7_itself 8 = .ok (.aload_n 0, 1) := by decide +kernel
theorem dX7_itself_9 : decode cX7_itself 9 = .ok (.getfield 43, 3) := by decide +kernel
theorem dX7_itself_12 : decode cX7_itself 12 = .ok (.iconst 0, 1) := by decide +kernel
theorem dX7_itself_13 : decode cX7_itself 13 = .ok (.baload, 1) := by decide +kernel
theorem dX7_itself_14 : decode cX7_itself 14 = .ok (.ifCond .ne 12, 3) := by decide +kernel
theorem dX7_itself_17 : decode cX7_itself 17 = .ok (.aload_n 0, 1) := by decide +kernel
theorem dX7_itself_18 : decode cX7_itself 18 = .ok (.getfield 43, 3) := by decide +kernel
theorem dX7_itself_21 : decode cX7_itself 21 = .ok (.iconst 1, 1) := by decide +kernel
theorem dX7_itself_22 : decode cX7_itself 22 = .ok (.baload, 1) := by decide +kernel
theorem dX7_itself_23 : decode cX7_itself 23 = .ok (.ifCond .eq 7, 3) := by decide +kernel
theorem dX7_itself_26 : decode cX7_itself 26 = .ok (.iconst 1, 1) := by decide +kernel
theorem dX7_itself_27 : decode cX7_itself 27 = .ok (.goto 4, 3) := by decide +kernel
theorem dX7_itself_30 : decode cX7_itself 30 = .ok (.iconst 0, 1) := by decide +kernel
theorem dX7_itself_31 : decode cX7_itself 31 = .ok (.putfield 66, 3) := by decide +kernel
theorem dX7_itself_34 : decode cX7_itself 34 = .ok (.aload_n 0, 1) := by decide +kernel
theorem dX7_itself_35 : decode cX7_itself 35 = .ok (.getfield 66, 3) := by decide +kernel
theorem dX7_itself_38 : decode cX7_itself 38 = .ok (.ifCond .ne 13, 3) := by decide +kernel
theorem dX7_itself_41 : decode cX7_itself 41 = .ok (.aload_n 0, 1) := by decide +kernel
theorem dX7_itself_42 : decode cX7_itself 42 = .ok (.iconst 1, 1) := by decide +kernel
theorem dX7_itself_43 : decode cX7_itself 43 = .ok (.putfield 110, 3) := by decide +kernel
theorem dX7_itself_46 : decode cX7_itself 46 = .ok (.aload_n 0, 1) := by decide +kernel
theorem dX7_itself_47 : decode cX7_itself 47 = .ok (.iconst 1, 1) := by decide +kernel
theorem dX7_itself_48 : decode cX7_itself 48 = .ok (.putfield 113, 3) := by decide +kernel
theorem dX7_itself_51 : decode cX7_itself 51 = .ok (.return_, 1) := by decide +kernel
theorem dX7_moved_0 : decode cX7_moved 0 = .ok (.iload_n 0, 1) := by decide +kernel
theorem dX7_moved_1 : decode cX7_moved 1 = .ok (.iload_n 1, 1) := by decide +kernel
theorem dX7_moved_2 : decode cX7_moved 2 = .ok (.iadd, 1) := by decide +kernel
theorem dX7_moved_3 : decode cX7_moved 3 = .ok (.istore_n 3, 1) := by decide +kernel
theorem dX7_moved_4 : decode cX7_moved 4 = .ok (.iload_n 3, 1) := by decide +kernel
theorem dX7_moved_5 : decode cX7_moved 5 = .ok (.bipush 16, 2) := by decide +kernel
theorem dX7_moved_7 : decode cX7_moved 7 = .ok (.iload_n 2, 1) := by decide +kernel
theorem dX7_moved_8 : decode cX7_moved 8 = .ok (.imul, 1) := by decide +kernel
theorem dX7_moved_9 : decode cX7_moved 9 = .ok (.iconst 1, 1) := by decide +kernel
theorem dX7_moved_10 : decode cX7_moved 10 = .ok (.isub, 1) := by decide +kernel
theorem dX7_moved_11 : decode cX7_moved 11 = .ok (.if_icmp .le 12, 3) := by decide +kernel
theorem dX7_moved_14 : decode cX7_moved 14 = .ok (.iload_n 3, 1) := by decide +kernel
theorem dX7_moved_15 : decode cX7_moved 15 = .ok (.bipush 32, 2) := by decide +kernel
theorem dX7_moved_17 : decode cX7_moved 17 = .ok (.iload_n 2, 1) := by decide +kernel
theorem dX7_moved_18 : decode cX7_moved 18 = .ok (.imul, 1) := by decide +kernel
theorem dX7_moved_19 : decode cX7_moved 19 = .ok (.isub, 1) := by decide +kernel
theorem dX7_moved_20 : decode cX7_moved 20 = .ok (.goto 4, 3) := by decide +kernel
theorem dX7_moved_23 : decode cX7_moved 23 = .ok (.iload_n 3, 1) := by decide +kernel
theorem dX7_moved_24 : decode cX7_moved 24 = .ok (.istore_n 3, 1) := by decide +kernel
theorem dX7_moved_25 : decode cX7_moved 25 = .ok (.iload_n 3, 1) := by decide +kernel
theorem dX7_moved_26 : decode cX7_moved 26 = .ok (.bipush (-16), 2) := by decide +kernel
theorem dX7_moved_28 : decode cX7_moved 28 = .ok (.iload_n 2, 1) := by decide +kernel
theorem dX7_moved_29 : decode cX7_moved 29 = .ok (.imul, 1) := by decide +kernel
theorem dX7_moved_30 : decode cX7_moved 30 = .ok (.if_icmp .ge 12, 3) := by decide +kernel
theorem dX7_moved_33 : decode cX7_moved 33 = .ok (.iload_n 3, 1) := by decide +kernel
theorem dX7_moved_34 : decode cX7_moved 34 = .ok (.bipush 32, 2) := by decide +kernel
theorem dX7_moved_36 : decode cX7_moved 36 = .ok (.iload_n 2, 1) := by decide +kernel
theorem dX7_moved_37 : decode cX7_moved 37 = .ok (.imul, 1) := by decide +kernel
theorem dX7_moved_38 : decode cX7_moved 38 = .ok (.iadd, 1) := by decide +kernel
theorem dX7_moved_39 : decode cX7_moved 39 = .ok (.goto 4, 3) := by decide +kernel
theorem dX7_moved_42 : decode cX7_moved 42 = .ok (.iload_n 3, 1) := by decide +kernel
theorem dX7_moved_43 : decode cX7_moved 43 = .ok (.ireturn, 1) := by decide +kernel
theorem dX7_vector_0 : decode cX7_vector 0 = .ok (.iload_n 1, 1) := by decide +kernel
theorem dX7_vector_1 : decode cX7_vector 1 = .ok (.ifCond .lt 8, 3) := by decide +kernel
theorem dX7_vector_4 : decode cX7_vector 4 = .ok (.iload_n 1, 1) := by decide +kernel
theorem dX7_vector_5 : decode cX7_vector 5 = .ok (.iconst 1, 1) := by decide +kernel
theorem dX7_vector_6 : decode cX7_vector 6 = .ok (.if_icmp .le 7, 3) := by decide +kernel
theorem dX7_vector_9 : decode cX7_vector 9 = .ok (.iconst 1, 1) := by decide +kernel
theorem dX7_vector_10 : decode cX7_vector 10 = .ok (.goto 4, 3) := by decide +kernel
theorem dX7_vector_13 : decode cX7_vector 13 = .ok (.iconst 0, 1) := by decide +kernel
theorem dX7_vector_14 : decode cX7_vector 14 = .ok (.istore 4, 2) := by decide +kernel
theorem dX7_vector_16 : decode cX7_vector 16 = .ok (.iload 4, 2) := by decide +kernel
theorem dX7_vector_18 : decode cX7_vector 18 = .ok (.ifCond .eq 7, 3) := by decide +kernel
theorem dX7_vector_21 : decode cX7_vector 21 = .ok (.iconst 0, 1) := by decide +kernel
theorem dX7_vector_22 : decode cX7_vector 22 = .ok (.goto 12, 3) := by decide +kernel
theorem dX7_vector_25 : decode cX7_vector 25 = .ok (.bipush 16, 2) := by decide +kernel
theorem dX7_vector_27 : decode cX7_vector 27 = .ok (.aload_n 0, 1) := by decide +kernel
theorem dX7_vector_28 : decode cX7_vector 28 = .ok (.getfield 34, 3) := by decide +kernel
theorem dX7_vector_31 : decode cX7_vector 31 = .ok (.iload_n 1, 1) := by decide +kernel
theorem dX7_vector_32 : decode cX7_vector 32 = .ok (.iaload, 1) := by decide +kernel
theorem dX7_vector_33 : decode cX7_vector 33 = .ok (.imul, 1) := by decide +kernel
theorem dX7_vector_34 : decode cX7_vector 34 = .ok (.istore 5, 2) := by decide +kernel
theorem dX7_vector_36 : decode cX7_vector 36 = .ok (.aload_n 0, 1) := by decide +kernel
theorem dX7_vector_37 : decode cX7_vector 37 = .ok (.iload 4, 2) := by decide +kernel
theorem dX7_vector_39 : decode cX7_vector 39 = .ok (.ifCond .ne 29, 3) := by decide +kernel
theorem dX7_vector_42 : decode cX7_vector 42 = .ok (.iload_n 2, 1) := by decide +kernel
theorem dX7_vector_43 : decode cX7_vector 43 = .ok (.iload 5, 2) := by decide +kernel
theorem dX7_vector_45 : decode cX7_vector 45 = .ok (.ineg, 1) := by decide +kernel
theorem dX7_vector_46 : decode cX7_vector 46 = .ok (.if_icmp .lt 22, 3) := by decide +kernel
theorem dX7_vector_49 : decode cX7_vector 49 = .ok (.iload_n 2, 1) := by decide +kernel
theorem dX7_vector_50 : decode cX7_vector 50 = .ok (.iload 5, 2) := by decide +kernel
theorem dX7_vector_52 : decode cX7_vector 52 = .ok (.if_icmp .gt 16, 3) := by decide +kernel
theorem dX7_vector_55 : decode cX7_vector 55 = .ok (.iload_n 3, 1) := by decide +kernel
theorem dX7_vector_56 : decode cX7_vector 56 = .ok (.iload 5, 2) := by decide +kernel
theorem dX7_vector_58 : decode cX7_vector 58 = .ok (.ineg, 1) := by decide +kernel
theorem dX7_vector_59 : decode cX7_vector 59 = .ok (.if_icmp .lt 9, 3) := by decide +kernel
theorem dX7_vector_62 : decode cX7_vector 62 = .ok (.iload_n 3, 1) := by decide +kernel
theorem dX7_vector_63 : decode cX7_vector 63 = .ok (.iload 5, 2) := by decide +kernel
theorem dX7_vector_65 : decode cX7_vector 65 = .ok (.if_icmp .le 7, 3) := by decide +kernel
theorem dX7_vector_68 : decode cX7_vector 68 = .ok (.iconst 1, 1) := by decide +kernel
theorem dX7_vector_69 : decode cX7_vector 69 = .ok (.goto 43, 3) := by decide +kernel
theorem dX7_vector_72 : decode cX7_vector 72 = .ok (.aload_n 0, 1) := by decide +kernel
theorem dX7_vector_73 : decode cX7_vector 73 = .ok (.invokevirtual 125, 3) := by decide +kernel
theorem dX7_vector_76 : decode cX7_vector 76 = .ok (.ifCond .ne 31, 3) := by decide +kernel
theorem dX7_vector_79 : decode cX7_vector 79 = .ok (.aload_n 0, 1) := by decide +kernel
theorem dX7_vector_80 : decode cX7_vector 80 = .ok (.getfield 110, 3) := by decide +kernel
theorem dX7_vector_83 : decode cX7_vector 83 = .ok (.ifCond .ne 24, 3) := by decide +kernel
theorem dX7_vector_86 : decode cX7_vector 86 = .ok (.aload_n 0, 1) := by decide +kernel
theorem dX7_vector_87 : decode cX7_vector 87 = .ok (.getfield 95, 3) := by decide +kernel
theorem dX7_vector_90 : decode cX7_vector 90 = .ok (.iconst 1, 1) := by decide +kernel
theorem dX7_vector_91 : decode cX7_vector 91 = .ok (.if_icmp .eq 16, 3) := by decide +kernel
theorem dX7_vector_94 : decode cX7_vector 94 = .ok (.aload_n 0, 1) := by decide +kernel
theorem dX7_vector_95 : decode cX7_vector 95 = .ok (.getfield 95, 3) := by decide +kernel
theorem dX7_vector_98 : decode cX7_vector 98 = .ok (.iconst 2, 1) := by decide +kernel
theorem dX7_vector_99 : decode cX7_vector 99 = .ok (.if_icmp .ne 12, 3) := by decide +kernel
theorem dX7_vector_102 : decode cX7_vector 102 = .ok (.iload_n 1, 1) := by decide +kernel
theorem dX7_vector_103 : decode cX7_vector 103 = .ok (.iconst 1, 1) := by decide +kernel
theorem dX7_vector_104 : decode cX7_vector 104 = .ok (.if_icmp .ne 7, 3) := by decide +kernel
theorem dX7_vector_107 : decode cX7_vector 107 = .ok (.iconst 2, 1) := by decide +kernel
theorem dX7_vector_108 : decode cX7_vector 108 = .ok (.goto 4, 3) := by decide +kernel
theorem dX7_vector_111 : decode cX7_vector 111 = .ok (.iconst 0, 1) := by decide +kernel
theorem dX7_vector_112 : decode cX7_vector 112 = .ok (.putfield 66, 3) := by decide +kernel
theorem dX7_vector_115 : decode cX7_vector 115 = .ok (.aload_n 0, 1) := by decide +kernel
theorem dX7_vector_116 : decode cX7_vector 116 = .ok (.getfield 66, 3) := by decide +kernel
theorem dX7_vector_119 : decode cX7_vector 119 = .ok (.ifCond .le 4, 3) := by decide +kernel
theorem dX7_vector_122 : decode cX7_vector 122 = .ok (.return_, 1) := by decide +kernel
theorem dX7_vector_123 : decode cX7_vector 123 = .ok (.aload_n 0, 1) := by decide +kernel
theorem dX7_vector_124 : decode cX7_vector 124 = .ok (.getfield 37, 3) := by decide +kernel
theorem dX7_vector_127 : decode cX7_vector 127 = .ok (.iconst 2, 1) := by decide +kernel
theorem dX7_vector_128 : decode cX7_vector 128 = .ok (.iload_n 1, 1) := by decide +kernel
theorem dX7_vector_129 : decode cX7_vector 129 = .ok (.imul, 1) := by decide +kernel
theorem dX7_vector_130 : decode cX7_vector 130 = .ok (.aload_n 0, 1) := by decide +kernel
theorem dX7_vector_131 : decode cX7_vector 131 = .ok (.getfield 37, 3) := by decide +kernel
theorem dX7_vector_134 : decode cX7_vector 134 = .ok (.iconst 2, 1) := by decide +kernel
theorem dX7_vector_135 : decode cX7_vector 135 = .ok (.iload_n 1, 1) := by decide +kernel
theorem dX7_vector_136 : decode cX7_vector 136 = .ok (.imul, 1) := by decide +kernel
theorem dX7_vector_137 : decode cX7_vector 137 = .ok (.iaload, 1) := by decide +kernel
theorem dX7_vector_138 : decode cX7_vector 138 = .ok (.iload_n 2, 1) := by decide +kernel
theorem dX7_vector_139 : decode cX7_vector 139 = .ok (.aload_n 0, 1) := by decide +kernel
theorem dX7_vector_140 : decode cX7_vector 140 = .ok (.getfield 34, 3) := by decide +kernel
theorem dX7_vector_143 : decode cX7_vector 143 = .ok (.iload_n 1, 1) := by decide +kernel
theorem dX7_vector_144 : decode cX7_vector 144 = .ok (.iaload, 1) := by decide +kernel
theorem dX7_vector_145 : decode cX7_vector 145 = .ok (.invokestatic 129, 3) := by decide +kernel
theorem dX7_vector_148 : decode cX7_vector 148 = .ok (.iastore, 1) := by decide +kernel
theorem dX7_vector_149 : decode cX7_vector 149 = .ok (.aload_n 0, 1) := by decide +kernel
theorem dX7_vector_150 : decode cX7_vector 150 = .ok (.getfield 37, 3) := by decide +kernel
theorem dX7_vector_153 : decode cX7_vector 153 = .ok (.iconst 2, 1) := by decide +kernel
theorem dX7_vector_154 : decode cX7_vector 154 = .ok (.iload_n 1, 1) := by decide +kernel
theorem dX7_vector_155 : decode cX7_vector 155 = .ok (.imul, 1) := by decide +kernel
theorem dX7_vector_156 : decode cX7_vector 156 = .ok (.iconst 1, 1) := by decide +kernel
theorem dX7_vector_157 : decode cX7_vector 157 = .ok (.iadd, 1) := by decide +kernel
theorem dX7_vector_158 : decode cX7_vector 158 = .ok (.aload_n 0, 1) := by decide +kernel
theorem dX7_vector_159 : decode cX7_vector 159 = .ok (.getfield 37, 3) := by decide +kernel
theorem dX7_vector_162 : decode cX7_vector 162 = .ok (.iconst 2, 1) := by decide +kernel
theorem dX7_vector_163 : decode cX7_vector 163 = .ok (.iload_n 1, 1) := by decide +kernel
theorem dX7_vector_164 : decode cX7_vector 164 = .ok (.imul, 1) := by decide +kernel
theorem dX7_vector_165 : decode cX7_vector 165 = .ok (.iconst 1, 1) := by decide +kernel
theorem dX7_vector_166 : decode cX7_vector 166 = .ok (.iadd, 1) := by decide +kernel
theorem dX7_vector_167 : decode cX7_vector 167 = .ok (.iaload, 1) := by decide +kernel
theorem dX7_vector_168 : decode cX7_vector 168 = .ok (.iload_n 3, 1) := by decide +kernel
theorem dX7_vector_169 : decode cX7_vector 169 = .ok (.aload_n 0, 1) := by decide +kernel
theorem dX7_vector_170 : decode cX7_vector 170 = .ok (.getfield 34, 3) := by decide +kernel
theorem dX7_vector_173 : decode cX7_vector 173 = .ok (.iload_n 1, 1) := by decide +kernel
theorem dX7_vector_174 : decode cX7_vector 174 = .ok (.iaload, 1) := by decide +kernel
theorem dX7_vector_175 : decode cX7_vector 175 = .ok (.invokestatic 129, 3) := by decide +kernel
theorem dX7_vector_178 : decode cX7_vector 178 = .ok (.iastore, 1) := by decide +kernel
theorem dX7_vector_179 : decode cX7_vector 179 = .ok (.aload_n 0, 1) := by decide +kernel
theorem dX7_vector_180 : decode cX7_vector 180 = .ok (.getfield 43, 3) := by decide +kernel
theorem dX7_vector_183 : decode cX7_vector 183 = .ok (.iload_n 1, 1) := by decide +kernel
theorem dX7_vector_184 : decode cX7_vector 184 = .ok (.iconst 1, 1) := by decide +kernel
theorem dX7_vector_185 : decode cX7_vector 185 = .ok (.bastore, 1) := by decide +kernel
theorem dX7_vector_186 : decode cX7_vector 186 = .ok (.aload_n 0, 1) := by decide +kernel
theorem dX7_vector_187 : decode cX7_vector 187 = .ok (.iconst 1, 1) := by decide +kernel
theorem dX7_vector_188 : decode cX7_vector 188 = .ok (.putfield 113, 3) := by decide +kernel
theorem dX7_vector_191 : decode cX7_vector 191 = .ok (.return_, 1) := by decide +kernel
theorem dX7_level_0 : decode cX7_level 0 = .ok (.aload_n 0, 1) := by decide +kernel
theorem dX7_level_1 : decode cX7_level 1 = .ok (.iload_n 1, 1) := by decide +kernel
theorem dX7_level_2 : decode cX7_level 2 = .ok (.ifCond .lt 32, 3) := by decide +kernel
theorem dX7_level_5 : decode cX7_level 5 = .ok (.iload_n 1, 1) := by decide +kernel
theorem dX7_level_6 : decode cX7_level 6 = .ok (.iconst 5, 1) := by decide +kernel
theorem dX7_level_7 : decode cX7_level 7 = .ok (.if_icmp .gt 27, 3) := by decide +kernel
theorem dX7_level_10 : decode cX7_level 10 = .ok (.iload_n 2, 1) := by decide +kernel
theorem dX7_level_11 : decode cX7_level 11 = .ok (.ifCond .lt 23, 3) := by decide +kernel
theorem dX7_level_14 : decode cX7_level 14 = .ok (.iload_n 2, 1) := by decide +kernel
theorem dX7_level_15 : decode cX7_level 15 = .ok (.bipush 63, 2) := by decide +kernel
theorem dX7_level_17 : decode cX7_level 17 = .ok (.if_icmp .gt 17, 3) := by decide +kernel
theorem dX7_level_20 : decode cX7_level 20 = .ok (.iload_n 3, 1) := by decide +kernel
theorem dX7_level_21 : decode cX7_level 21 = .ok (.sipush (-255), 3) := by decide +kernel
theorem dX7_level_24 : decode cX7_level 24 = .ok (.if_icmp .lt 10, 3) := by decide +kernel
theorem dX7_level_27 : decode cX7_level 27 = .ok (.iload_n 3, 1) := by decide +kernel
theorem dX7_level_28 : decode cX7_level 28 = .ok (.sipush 255, 3) := by decide +kernel
theorem dX7_level_31 : decode cX7_level 31 = .ok (.if_icmp .le 7, 3) := by decide +kernel
theorem dX7_level_34 : decode cX7_level 34 = .ok (.iconst 1, 1) := by decide +kernel
theorem dX7_level_35 : decode cX7_level 35 = .ok (.goto 15, 3) := by decide +kernel
theorem dX7_level_38 : decode cX7_level 38 = .ok (.aload_n 0, 1) := by decide +kernel
theorem dX7_level_39 : decode cX7_level 39 = .ok (.invokevirtual 125, 3) := by decide +kernel
theorem dX7_level_42 : decode cX7_level 42 = .ok (.ifCond .eq 7, 3) := by decide +kernel
theorem dX7_level_45 : decode cX7_level 45 = .ok (.iconst 2, 1) := by decide +kernel
theorem dX7_level_46 : decode cX7_level 46 = .ok (.goto 4, 3) := by decide +kernel
theorem dX7_level_49 : decode cX7_level 49 = .ok (.iconst 0, 1) := by decide +kernel
theorem dX7_level_50 : decode cX7_level 50 = .ok (.putfield 66, 3) := by decide +kernel
theorem dX7_level_53 : decode cX7_level 53 = .ok (.aload_n 0, 1) := by decide +kernel
theorem dX7_level_54 : decode cX7_level 54 = .ok (.getfield 66, 3) := by decide +kernel
theorem dX7_level_57 : decode cX7_level 57 = .ok (.ifCond .ne 20, 3) := by decide +kernel
theorem dX7_level_60 : decode cX7_level 60 = .ok (.aload_n 0, 1) := by decide +kernel
theorem dX7_level_61 : decode cX7_level 61 = .ok (.getfield 47, 3) := by decide +kernel
theorem dX7_level_64 : decode cX7_level 64 = .ok (.bipush 64, 2) := by decide +kernel
theorem dX7_level_66 : decode cX7_level 66 = .ok (.iload_n 1, 1) := by decide +kernel
theorem dX7_level_67 : decode cX7_level 67 = .ok (.imul, 1) := by decide +kernel
theorem dX7_level_68 : decode cX7_level 68 = .ok (.iload_n 2, 1) := by decide +kernel
theorem dX7_level_69 : decode cX7_level 69 = .ok (.iadd, 1) := by decide +kernel
theorem dX7_level_70 : decode cX7_level 70 = .ok (.iload_n 3, 1) := by decide +kernel
theorem dX7_level_71 : decode cX7_level 71 = .ok (.iastore, 1) := by decide +kernel
theorem dX7_level_72 : decode cX7_level 72 = .ok (.aload_n 0, 1) := by decide +kernel
theorem dX7_level_73 : decode cX7_level 73 = .ok (.iconst 1, 1) := by decide +kernel
theorem dX7_level_74 : decode cX7_level 74 = .ok (.putfield 113, 3) := by decide +kernel
theorem dX7_level_77 : decode cX7_level 77 = .ok (.return_, 1) := by decide +kernel
theorem dX7_within_0 : decode cX7_within 0 = .ok (.iload_n 0, 1) := by decide +kernel
theorem dX7_within_1 : decode cX7_within 1 = .ok (.iload_n 1, 1) := by decide +kernel
theorem dX7_within_2 : decode cX7_within 2 = .ok (.if_icmp .ge 7, 3) := by decide +kernel
theorem dX7_within_5 : decode cX7_within 5 = .ok (.iload_n 1, 1) := by decide +kernel
theorem dX7_within_6 : decode cX7_within 6 = .ok (.goto 13, 3) := by decide +kernel
theorem dX7_within_9 : decode cX7_within 9 = .ok (.iload_n 0, 1) := by decide +kernel
theorem dX7_within_10 : decode cX7_within 10 = .ok (.iload_n 2, 1) := by decide +kernel
theorem dX7_within_11 : decode cX7_within 11 = .ok (.if_icmp .le 7, 3) := by decide +kernel
theorem dX7_within_14 : decode cX7_within 14 = .ok (.iload_n 2, 1) := by decide +kernel
theorem dX7_within_15 : decode cX7_within 15 = .ok (.goto 4, 3) := by decide +kernel
theorem dX7_within_18 : decode cX7_within 18 = .ok (.iload_n 0, 1) := by decide +kernel
theorem dX7_within_19 : decode cX7_within 19 = .ok (.ireturn, 1) := by decide +kernel
theorem dX7_planeOf_0 : decode cX7_planeOf 0 = .ok (.iload_n 0, 1) := by decide +kernel
theorem dX7_planeOf_1 : decode cX7_planeOf 1 = .ok (.iconst 4, 1) := by decide +kernel
theorem dX7_planeOf_2 : decode cX7_planeOf 2 = .ok (.if_icmp .ge 7, 3) := by decide +kernel
theorem dX7_planeOf_5 : decode cX7_planeOf 5 = .ok (.iconst 0, 1) := by decide +kernel
theorem dX7_planeOf_6 : decode cX7_planeOf 6 = .ok (.goto 6, 3) := by decide +kernel
theorem dX7_planeOf_9 : decode cX7_planeOf 9 = .ok (.iload_n 0, 1) := by decide +kernel
theorem dX7_planeOf_10 : decode cX7_planeOf 10 = .ok (.iconst 3, 1) := by decide +kernel
theorem dX7_planeOf_11 : decode cX7_planeOf 11 = .ok (.isub, 1) := by decide +kernel
theorem dX7_planeOf_12 : decode cX7_planeOf 12 = .ok (.ireturn, 1) := by decide +kernel
theorem dX7_scaleAll_0 : decode cX7_scaleAll 0 = .ok (.iconst 0, 1) := by decide +kernel
theorem dX7_scaleAll_1 : decode cX7_scaleAll 1 = .ok (.istore_n 2, 1) := by decide +kernel
theorem dX7_scaleAll_2 : decode cX7_scaleAll 2 = .ok (.iload_n 2, 1) := by decide +kernel
theorem dX7_scaleAll_3 : decode cX7_scaleAll 3 = .ok (.bipush 64, 2) := by decide +kernel
theorem dX7_scaleAll_5 : decode cX7_scaleAll 5 = .ok (.if_icmp .ge 147, 3) := by decide +kernel
theorem dX7_scaleAll_8 : decode cX7_scaleAll 8 = .ok (.aload_n 0, 1) := by decide +kernel
theorem dX7_scaleAll_9 : decode cX7_scaleAll 9 = .ok (.getfield 47, 3) := by decide +kernel
theorem dX7_scaleAll_12 : decode cX7_scaleAll 12 = .ok (.bipush 64, 2) := by decide +kernel
theorem dX7_scaleAll_14 : decode cX7_scaleAll 14 = .ok (.iload_n 1, 1) := by decide +kernel
theorem dX7_scaleAll_15 : decode cX7_scaleAll 15 = .ok (.imul, 1) := by decide +kernel
theorem dX7_scaleAll_16 : decode cX7_scaleAll 16 = .ok (.iload_n 2, 1) := by decide +kernel
theorem dX7_scaleAll_17 : decode cX7_scaleAll 17 = .ok (.iadd, 1) := by decide +kernel
theorem dX7_scaleAll_18 : decode cX7_scaleAll 18 = .ok (.iaload, 1) := by decide +kernel
theorem dX7_scaleAll_19 : decode cX7_scaleAll 19 = .ok (.istore_n 3, 1) := by decide +kernel
theorem dX7_scaleAll_20 : decode cX7_scaleAll 20 = .ok (.aload_n 0, 1) := by decide +kernel
theorem dX7_scaleAll_21 : decode cX7_scaleAll 21 = .ok (.getfield 16, 3) := by decide +kernel
theorem dX7_scaleAll_24 : decode cX7_scaleAll 24 = .ok (.iload_n 2, 1) := by decide +kernel
theorem dX7_scaleAll_25 : decode cX7_scaleAll 25 = .ok (.iaload, 1) := by decide +kernel
theorem dX7_scaleAll_26 : decode cX7_scaleAll 26 = .ok (.istore 4, 2) := by decide +kernel
theorem dX7_scaleAll_28 : decode cX7_scaleAll 28 = .ok (.aload_n 0, 1) := by decide +kernel
theorem dX7_scaleAll_29 : decode cX7_scaleAll 29 = .ok (.getfield 110, 3) := by decide +kernel
theorem dX7_scaleAll_32 : decode cX7_scaleAll 32 = .ok (.ifCond .ne 7, 3) := by decide +kernel
theorem dX7_scaleAll_35 : decode cX7_scaleAll 35 = .ok (.iload_n 3, 1) := by decide +kernel
theorem dX7_scaleAll_36 : decode cX7_scaleAll 36 = .ok (.ifCond .ne 7, 3) := by decide +kernel
theorem dX7_scaleAll_39 : decode cX7_scaleAll 39 = .ok (.iconst 0, 1) := by decide +kernel
theorem dX7_scaleAll_40 : decode cX7_scaleAll 40 = .ok (.goto 12, 3) := by decide +kernel
theorem dX7_scaleAll_43 : decode cX7_scaleAll 43 = .ok (.iload_n 3, 1) := by decide +kernel
theorem dX7_scaleAll_44 : decode cX7_scaleAll 44 = .ok (.ifCond .le 7, 3) := by decide +kernel
theorem dX7_scaleAll_47 : decode cX7_scaleAll 47 = .ok (.iconst 1, 1) := by decide +kernel
theorem dX7_scaleAll_48 : decode cX7_scaleAll 48 = .ok (.goto 4, 3) := by decide +kernel
theorem dX7_scaleAll_51 : decode cX7_scaleAll 51 = .ok (.iconst (-1), 1) := by decide +kernel
theorem dX7_scaleAll_52 : decode cX7_scaleAll 52 = .ok (.istore 5, 2) := by decide +kernel
theorem dX7_scaleAll_54 : decode cX7_scaleAll 54 = .ok (.iconst 2, 1) := by decide +kernel
theorem dX7_scaleAll_55 : decode cX7_scaleAll 55 = .ok (.iload_n 3, 1) := by decide +kernel
theorem dX7_scaleAll_56 : decode cX7_scaleAll 56 = .ok (.imul, 1) := by decide +kernel
theorem dX7_scaleAll_57 : decode cX7_scaleAll 57 = .ok (.iload 5, 2) := by decide +kernel
theorem dX7_scaleAll_59 : decode cX7_scaleAll 59 = .ok (.iadd, 1) := by decide +kernel
theorem dX7_scaleAll_60 : decode cX7_scaleAll 60 = .ok (.aload_n 0, 1) := by decide +kernel
theorem dX7_scaleAll_61 : decode cX7_scaleAll 61 = .ok (.getfield 119, 3) := by decide +kernel
theorem dX7_scaleAll_64 : decode cX7_scaleAll 64 = .ok (.imul, 1) := by decide +kernel
theorem dX7_scaleAll_65 : decode cX7_scaleAll 65 = .ok (.aload_n 0, 1) := by decide +kernel
theorem dX7_scaleAll_66 : decode cX7_scaleAll 66 = .ok (.getfield 7, 3) := by decide +kernel
theorem dX7_scaleAll_69 : decode cX7_scaleAll 69 = .ok (.aload_n 0, 1) := by decide +kernel
theorem dX7_scaleAll_70 : decode cX7_scaleAll 70 = .ok (.getfield 110, 3) := by decide +kernel
theorem dX7_scaleAll_73 : decode cX7_scaleAll 73 = .ok (.ifCond .eq 8, 3) := by decide +kernel
theorem dX7_scaleAll_76 : decode cX7_scaleAll 76 = .ok (.iload 4, 2) := by decide +kernel
theorem dX7_scaleAll_78 : decode cX7_scaleAll 78 = .ok (.goto 8, 3) := by decide +kernel
theorem dX7_scaleAll_81 : decode cX7_scaleAll 81 = .ok (.bipush 64, 2) := by decide +kernel
theorem dX7_scaleAll_83 : decode cX7_scaleAll 83 = .ok (.iload 4, 2) := by decide +kernel
theorem dX7_scaleAll_85 : decode cX7_scaleAll 85 = .ok (.iadd, 1) := by decide +kernel
theorem dX7_scaleAll_86 : decode cX7_scaleAll 86 = .ok (.iaload, 1) := by decide +kernel
theorem dX7_scaleAll_87 : decode cX7_scaleAll 87 = .ok (.imul, 1) := by decide +kernel
theorem dX7_scaleAll_88 : decode cX7_scaleAll 88 = .ok (.bipush 16, 2) := by decide +kernel
theorem dX7_scaleAll_90 : decode cX7_scaleAll 90 = .ok (.idiv, 1) := by decide +kernel
theorem dX7_scaleAll_91 : decode cX7_scaleAll 91 = .ok (.istore 6, 2) := by decide +kernel
theorem dX7_scaleAll_93 : decode cX7_scaleAll 93 = .ok (.iload 6, 2) := by decide +kernel
theorem dX7_scaleAll_95 : decode cX7_scaleAll 95 = .ok (.iconst 2, 1) := by decide +kernel
theorem dX7_scaleAll_96 : decode cX7_scaleAll 96 = .ok (.irem, 1) := by decide +kernel
theorem dX7_scaleAll_97 : decode cX7_scaleAll 97 = .ok (.ifCond .ne 27, 3) := by decide +kernel
theorem dX7_scaleAll_100 : decode cX7_scaleAll 100 = .ok (.iload 6, 2) := by decide +kernel
theorem dX7_scaleAll_102 : decode cX7_scaleAll 102 = .ok (.ifCond .eq 22, 3) := by decide +kernel
theorem dX7_scaleAll_105 : decode cX7_scaleAll 105 = .ok (.iload 6, 2) := by decide +kernel
theorem dX7_scaleAll_107 : decode cX7_scaleAll 107 = .ok (.ifCond .le 10, 3) := by decide +kernel
theorem dX7_scaleAll_110 : decode cX7_scaleAll 110 = .ok (.iload 6, 2) := by decide +kernel
theorem dX7_scaleAll_112 : decode cX7_scaleAll 112 = .ok (.iconst 1, 1) := by decide +kernel
theorem dX7_scaleAll_113 : decode cX7_scaleAll 113 = .ok (.isub, 1) := by decide +kernel
theorem dX7_scaleAll_114 : decode cX7_scaleAll 114 = .ok (.goto 12, 3) := by decide +kernel
theorem dX7_scaleAll_117 : decode cX7_scaleAll 117 = .ok (.iload 6, 2) := by decide +kernel
theorem dX7_scaleAll_119 : decode cX7_scaleAll 119 = .ok (.iconst 1, 1) := by decide +kernel
theorem dX7_scaleAll_120 : decode cX7_scaleAll 120 = .ok (.iadd, 1) := by decide +kernel
theorem dX7_scaleAll_121 : decode cX7_scaleAll 121 = .ok (.goto 5, 3) := by decide +kernel
theorem dX7_scaleAll_124 : decode cX7_scaleAll 124 = .ok (.iload 6, 2) := by decide +kernel
theorem dX7_scaleAll_126 : decode cX7_scaleAll 126 = .ok (.istore 6, 2) := by decide +kernel
theorem dX7_scaleAll_128 : decode cX7_scaleAll 128 = .ok (.aload_n 0, 1) := by decide +kernel
theorem dX7_scaleAll_129 : decode cX7_scaleAll 129 = .ok (.getfield 53, 3) := by decide +kernel
theorem dX7_scaleAll_132 : decode cX7_scaleAll 132 = .ok (.iload 4, 2) := by decide +kernel
theorem dX7_scaleAll_134 : decode cX7_scaleAll 134 = .ok (.iload 6, 2) := by decide +kernel
theorem dX7_scaleAll_136 : decode cX7_scaleAll 136 = .ok (.sipush (-2048), 3) := by decide +kernel
theorem dX7_scaleAll_139 : decode cX7_scaleAll 139 = .ok (.sipush 2047, 3) := by decide +kernel
theorem dX7_scaleAll_142 : decode cX7_scaleAll 142 = .ok (.invokestatic 133, 3) := by decide +kernel
theorem dX7_scaleAll_145 : decode cX7_scaleAll 145 = .ok (.iastore, 1) := by decide +kernel
theorem dX7_scaleAll_146 : decode cX7_scaleAll 146 = .ok (.iinc 2 1, 3) := by decide +kernel
theorem dX7_scaleAll_149 : decode cX7_scaleAll 149 = .ok (.goto (-147), 3) := by decide +kernel
theorem dX7_scaleAll_152 : decode cX7_scaleAll 152 = .ok (.aload_n 0, 1) := by decide +kernel
theorem dX7_scaleAll_153 : decode cX7_scaleAll 153 = .ok (.getfield 110, 3) := by decide +kernel
theorem dX7_scaleAll_156 : decode cX7_scaleAll 156 = .ok (.ifCond .eq 52, 3) := by decide +kernel
theorem dX7_scaleAll_159 : decode cX7_scaleAll 159 = .ok (.iload_n 1, 1) := by decide +kernel
theorem dX7_scaleAll_160 : decode cX7_scaleAll 160 = .ok (.invokestatic 136, 3) := by decide +kernel
theorem dX7_scaleAll_163 : decode cX7_scaleAll 163 = .ok (.istore_n 2, 1) := by decide +kernel
theorem dX7_scaleAll_164 : decode cX7_scaleAll 164 = .ok (.aload_n 0, 1) := by decide +kernel
theorem dX7_scaleAll_165 : decode cX7_scaleAll 165 = .ok (.getfield 40, 3) := by decide +kernel
theorem dX7_scaleAll_168 : decode cX7_scaleAll 168 = .ok (.iload_n 2, 1) := by decide +kernel
theorem dX7_scaleAll_169 : decode cX7_scaleAll 169 = .ok (.aload_n 0, 1) := by decide +kernel
theorem dX7_scaleAll_170 : decode cX7_scaleAll 170 = .ok (.getfield 40, 3) := by decide +kernel
theorem dX7_scaleAll_173 : decode cX7_scaleAll 173 = .ok (.iload_n 2, 1) := by decide +kernel
theorem dX7_scaleAll_174 : decode cX7_scaleAll 174 = .ok (.iaload, 1) := by decide +kernel
theorem dX7_scaleAll_175 : decode cX7_scaleAll 175 = .ok (.bipush 8, 2) := by decide +kernel
theorem dX7_scaleAll_177 : decode cX7_scaleAll 177 = .ok (.aload_n 0, 1) := by decide +kernel
theorem dX7_scaleAll_178 : decode cX7_scaleAll 178 = .ok (.getfield 47, 3) := by decide +kernel
theorem dX7_scaleAll_181 : decode cX7_scaleAll 181 = .ok (.bipush 64, 2) := by decide +kernel
theorem dX7_scaleAll_183 : decode cX7_scaleAll 183 = .ok (.iload_n 1, 1) := by decide +kernel
theorem dX7_scaleAll_184 : decode cX7_scaleAll 184 = .ok (.imul, 1) := by decide +kernel
theorem dX7_scaleAll_185 : decode cX7_scaleAll 185 = .ok (.iaload, 1) := by decide +kernel
theorem dX7_scaleAll_186 : decode cX7_scaleAll 186 = .ok (.imul, 1) := by decide +kernel
theorem dX7_scaleAll_187 : decode cX7_scaleAll 187 = .ok (.iadd, 1) := by decide +kernel
theorem dX7_scaleAll_188 : decode cX7_scaleAll 188 = .ok (.iconst 0, 1) := by decide +kernel
theorem dX7_scaleAll_189 : decode cX7_scaleAll 189 = .ok (.sipush 2040, 3) := by decide +kernel
theorem dX7_scaleAll_192 : decode cX7_scaleAll 192 = .ok (.invokestatic 133, 3) := by decide +kernel
theorem dX7_scaleAll_195 : decode cX7_scaleAll 195 = .ok (.iastore, 1) := by decide +kernel
theorem dX7_scaleAll_196 : decode cX7_scaleAll 196 = .ok (.aload_n 0, 1) := by decide +kernel
theorem dX7_scaleAll_197 : decode cX7_scaleAll 197 = .ok (.getfield 53, 3) := by decide +kernel
theorem dX7_scaleAll_200 : decode cX7_scaleAll 200 = .ok (.iconst 0, 1) := by decide +kernel
theorem dX7_scaleAll_201 : decode cX7_scaleAll 201 = .ok (.aload_n 0, 1) := by decide +kernel
theorem dX7_scaleAll_202 : decode cX7_scaleAll 202 = .ok (.getfield 40, 3) := by decide +kernel
theorem dX7_scaleAll_205 : decode cX7_scaleAll 205 = .ok (.iload_n 2, 1) := by decide +kernel
theorem dX7_scaleAll_206 : decode cX7_scaleAll 206 = .ok (.iaload, 1) := by decide +kernel
theorem dX7_scaleAll_207 : decode cX7_scaleAll 207 = .ok (.iastore, 1) := by decide +kernel
theorem dX7_scaleAll_208 : decode cX7_scaleAll 208 = .ok (.return_, 1) := by decide +kernel
theorem dX7_factor_0 : decode cX7_factor 0 = .ok (.iload_n 1, 1) := by decide +kernel
theorem dX7_factor_1 : decode cX7_factor 1 = .ok (.ifCond .ne 7, 3) := by decide +kernel
theorem dX7_factor_4 : decode cX7_factor 4 = .ok (.sipush 724, 3) := by decide +kernel
theorem dX7_factor_7 : decode cX7_factor 7 = .ok (.ireturn, 1) := by decide +kernel
theorem dX7_factor_8 : decode cX7_factor 8 = .ok (.iconst 2, 1) := by decide +kernel
theorem dX7_factor_9 : decode cX7_factor 9 = .ok (.iload_n 2, 1) := by decide +kernel
theorem dX7_factor_10 : decode cX7_factor 10 = .ok (.imul, 1) := by decide +kernel
theorem dX7_factor_11 : decode cX7_factor 11 = .ok (.iconst 1, 1) := by decide +kernel
theorem dX7_factor_12 : decode cX7_factor 12 = .ok (.iadd, 1) := by decide +kernel
theorem dX7_factor_13 : decode cX7_factor 13 = .ok (.iload_n 1, 1) := by decide +kernel
theorem dX7_factor_14 : decode cX7_factor 14 = .ok (.imul, 1) := by decide +kernel
theorem dX7_factor_15 : decode cX7_factor 15 = .ok (.bipush 32, 2) := by decide +kernel
theorem dX7_factor_17 : decode cX7_factor 17 = .ok (.irem, 1) := by decide +kernel
theorem dX7_factor_18 : decode cX7_factor 18 = .ok (.istore_n 3, 1) := by decide +kernel
theorem dX7_factor_19 : decode cX7_factor 19 = .ok (.iload_n 3, 1) := by decide +kernel
theorem dX7_factor_20 : decode cX7_factor 20 = .ok (.bipush 16, 2) := by decide +kernel
theorem dX7_factor_22 : decode cX7_factor 22 = .ok (.if_icmp .le 10, 3) := by decide +kernel
theorem dX7_factor_25 : decode cX7_factor 25 = .ok (.bipush 32, 2) := by decide +kernel
theorem dX7_factor_27 : decode cX7_factor 27 = .ok (.iload_n 3, 1) := by decide +kernel
theorem dX7_factor_28 : decode cX7_factor 28 = .ok (.isub, 1) := by decide +kernel
theorem dX7_factor_29 : decode cX7_factor 29 = .ok (.goto 4, 3) := by decide +kernel
theorem dX7_factor_32 : decode cX7_factor 32 = .ok (.iload_n 3, 1) := by decide +kernel
theorem dX7_factor_33 : decode cX7_factor 33 = .ok (.istore_n 3, 1) := by decide +kernel
theorem dX7_factor_34 : decode cX7_factor 34 = .ok (.iload_n 3, 1) := by decide +kernel
theorem dX7_factor_35 : decode cX7_factor 35 = .ok (.bipush 8, 2) := by decide +kernel
theorem dX7_factor_37 : decode cX7_factor 37 = .ok (.if_icmp .le 16, 3) := by decide +kernel
theorem dX7_factor_40 : decode cX7_factor 40 = .ok (.aload_n 0, 1) := by decide +kernel
theorem dX7_factor_41 : decode cX7_factor 41 = .ok (.getfield 13, 3) := by decide +kernel
theorem dX7_factor_44 : decode cX7_factor 44 = .ok (.bipush 16, 2) := by decide +kernel
theorem dX7_factor_46 : decode cX7_factor 46 = .ok (.iload_n 3, 1) := by decide +kernel
theorem dX7_factor_47 : decode cX7_factor 47 = .ok (.isub, 1) := by decide +kernel
theorem dX7_factor_48 : decode cX7_factor 48 = .ok (.iaload, 1) := by decide +kernel
theorem dX7_factor_49 : decode cX7_factor 49 = .ok (.ineg, 1) := by decide +kernel
theorem dX7_factor_50 : decode cX7_factor 50 = .ok (.goto 9, 3) := by decide +kernel
theorem dX7_factor_53 : decode cX7_factor 53 = .ok (.aload_n 0, 1) := by decide +kernel
theorem dX7_factor_54 : decode cX7_factor 54 = .ok (.getfield 13, 3) := by decide +kernel
theorem dX7_factor_57 : decode cX7_factor 57 = .ok (.iload_n 3, 1) := by decide +kernel
theorem dX7_factor_58 : decode cX7_factor 58 = .ok (.iaload, 1) := by decide +kernel
theorem dX7_factor_59 : decode cX7_factor 59 = .ok (.ireturn, 1) := by decide +kernel
theorem dX7_makeSamples_0 : decode cX7_makeSamples 0 = .ok (.iconst 0, 1) := by decide +kernel
theorem dX7_makeSamples_1 : decode cX7_makeSamples 1 = .ok (.istore_n 1, 1) := by decide +kernel
theorem dX7_makeSamples_2 : decode cX7_makeSamples 2 = .ok (.iload_n 1, 1) := by decide +kernel
theorem dX7_makeSamples_3 : decode cX7_makeSamples 3 = .ok (.bipush 8, 2) := by decide +kernel
theorem dX7_makeSamples_5 : decode cX7_makeSamples 5 = .ok (.if_icmp .ge 81, 3) := by decide +kernel
theorem dX7_makeSamples_8 : decode cX7_makeSamples 8 = .ok (.iconst 0, 1) := by decide +kernel
theorem dX7_makeSamples_9 : decode cX7_makeSamples 9 = .ok (.istore_n 2, 1) := by decide +kernel
theorem dX7_makeSamples_10 : decode cX7_makeSamples 10 = .ok (.iload_n 2, 1) := by decide +kernel
theorem dX7_makeSamples_11 : decode cX7_makeSamples 11 = .ok (.bipush 8, 2) := by decide +kernel
theorem dX7_makeSamples_13 : decode cX7_makeSamples 13 = .ok (.if_icmp .ge 67, 3) := by decide +kernel
theorem dX7_makeSamples_16 : decode cX7_makeSamples 16 = .ok (.sipush 128, 3) := by decide +kernel
theorem dX7_makeSamples_19 : decode cX7_makeSamples 19 = .ok (.istore_n 3, 1) := by decide +kernel
theorem dX7_makeSamples_20 : decode cX7_makeSamples 20 = .ok (.iconst 0, 1) := by decide +kernel
theorem dX7_makeSamples_21 : decode cX7_makeSamples 21 = .ok (.istore 4, 2) := by decide +kernel
theorem dX7_makeSamples_23 : decode cX7_makeSamples 23 = .ok (.iload 4, 2) := by decide +kernel
theorem dX7_makeSamples_25 : decode cX7_makeSamples 25 = .ok (.bipush 8, 2) := by decide +kernel
theorem dX7_makeSamples_27 : decode cX7_makeSamples 27 = .ok (.if_icmp .ge 32, 3) := by decide +kernel
theorem dX7_makeSamples_30 : decode cX7_makeSamples 30 = .ok (.iload_n 3, 1) := by decide +kernel
theorem dX7_makeSamples_31 : decode cX7_makeSamples 31 = .ok (.aload_n 0, 1) := by decide +kernel
theorem dX7_makeSamples_32 : decode cX7_makeSamples 32 = .ok (.iload 4, 2) := by decide +kernel
theorem dX7_makeSamples_34 : decode cX7_makeSamples 34 = .ok (.iload_n 2, 1) := by decide +kernel
theorem dX7_makeSamples_35 : decode cX7_makeSamples 35 = .ok (.invokevirtual 140, 3) := by decide +kernel
theorem dX7_makeSamples_38 : decode cX7_makeSamples 38 = .ok (.aload_n 0, 1) := by decide +kernel
theorem dX7_makeSamples_39 : decode cX7_makeSamples 39 = .ok (.getfield 53, 3) := by decide +kernel
theorem dX7_makeSamples_42 : decode cX7_makeSamples 42 = .ok (.bipush 8, 2) := by decide +kernel
theorem dX7_makeSamples_44 : decode cX7_makeSamples 44 = .ok (.iload_n 1, 1) := by decide +kernel
theorem dX7_makeSamples_45 : decode cX7_makeSamples 45 = .ok (.imul, 1) := by decide +kernel
theorem dX7_makeSamples_46 : decode cX7_makeSamples 46 = .ok (.iload 4, 2) := by decide +kernel
theorem dX7_makeSamples_48 : decode cX7_makeSamples 48 = .ok (.iadd, 1) := by decide +kernel
theorem dX7_makeSamples_49 : decode cX7_makeSamples 49 = .ok (.iaload, 1) := by decide +kernel
theorem dX7_makeSamples_50 : decode cX7_makeSamples 50 = .ok (.imul, 1) := by decide +kernel
theorem dX7_makeSamples_51 : decode cX7_makeSamples 51 = .ok (.iadd, 1) := by decide +kernel
theorem dX7_makeSamples_52 : decode cX7_makeSamples 52 = .ok (.istore_n 3, 1) := by decide +kernel
theorem dX7_makeSamples_53 : decode cX7_makeSamples 53 = .ok (.iinc 4 1, 3) := by decide +kernel
theorem dX7_makeSamples_56 : decode cX7_makeSamples 56 = .ok (.goto (-33), 3) := by decide +kernel
theorem dX7_makeSamples_59 : decode cX7_makeSamples 59 = .ok (.aload_n 0, 1) := by decide +kernel
theorem dX7_makeSamples_60 : decode cX7_makeSamples 60 = .ok (.getfield 56, 3) := by decide +kernel
theorem dX7_makeSamples_63 : decode cX7_makeSamples 63 = .ok (.bipush 8, 2) := by decide +kernel
theorem dX7_makeSamples_65 : decode cX7_makeSamples 65 = .ok (.iload_n 1, 1) := by decide +kernel
theorem dX7_makeSamples_66 : decode cX7_makeSamples 66 = .ok (.imul, 1) := by decide +kernel
theorem dX7_makeSamples_67 : decode cX7_makeSamples 67 = .ok (.iload_n 2, 1) := by decide +kernel
theorem dX7_makeSamples_68 : decode cX7_makeSamples 68 = .ok (.iadd, 1) := by decide +kernel
theorem dX7_makeSamples_69 : decode cX7_makeSamples 69 = .ok (.iload_n 3, 1) := by decide +kernel
theorem dX7_makeSamples_70 : decode cX7_makeSamples 70 = .ok (.bipush 8, 2) := by decide +kernel
theorem dX7_makeSamples_72 : decode cX7_makeSamples 72 = .ok (.ishr, 1) := by decide +kernel
theorem dX7_makeSamples_73 : decode cX7_makeSamples 73 = .ok (.iastore, 1) := by decide +kernel
theorem dX7_makeSamples_74 : decode cX7_makeSamples 74 = .ok (.iinc 2 1, 3) := by decide +kernel
theorem dX7_makeSamples_77 : decode cX7_makeSamples 77 = .ok (.goto (-67), 3) := by decide +kernel
theorem dX7_makeSamples_80 : decode cX7_makeSamples 80 = .ok (.iinc 1 1, 3) := by decide +kernel
theorem dX7_makeSamples_83 : decode cX7_makeSamples 83 = .ok (.goto (-81), 3) := by decide +kernel
theorem dX7_makeSamples_86 : decode cX7_makeSamples 86 = .ok (.iconst 0, 1) := by decide +kernel
theorem dX7_makeSamples_87 : decode cX7_makeSamples 87 = .ok (.istore_n 1, 1) := by decide +kernel
theorem dX7_makeSamples_88 : decode cX7_makeSamples 88 = .ok (.iload_n 1, 1) := by decide +kernel
theorem dX7_makeSamples_89 : decode cX7_makeSamples 89 = .ok (.bipush 8, 2) := by decide +kernel
theorem dX7_makeSamples_91 : decode cX7_makeSamples 91 = .ok (.if_icmp .ge 81, 3) := by decide +kernel
theorem dX7_makeSamples_94 : decode cX7_makeSamples 94 = .ok (.iconst 0, 1) := by decide +kernel
theorem dX7_makeSamples_95 : decode cX7_makeSamples 95 = .ok (.istore_n 2, 1) := by decide +kernel
theorem dX7_makeSamples_96 : decode cX7_makeSamples 96 = .ok (.iload_n 2, 1) := by decide +kernel
theorem dX7_makeSamples_97 : decode cX7_makeSamples 97 = .ok (.bipush 8, 2) := by decide +kernel
theorem dX7_makeSamples_99 : decode cX7_makeSamples 99 = .ok (.if_icmp .ge 67, 3) := by decide +kernel
theorem dX7_makeSamples_102 : decode cX7_makeSamples 102 = .ok (.sipush 8192, 3) := by decide +kernel
