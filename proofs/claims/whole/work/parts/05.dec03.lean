theorem dX7_makeSamples_105 : decode cX7_makeSamples 105 = .ok (.istore_n 3, 1) := by decide +kernel
theorem dX7_makeSamples_106 : decode cX7_makeSamples 106 = .ok (.iconst 0, 1) := by decide +kernel
theorem dX7_makeSamples_107 : decode cX7_makeSamples 107 = .ok (.istore 4, 2) := by decide +kernel
theorem dX7_makeSamples_109 : decode cX7_makeSamples 109 = .ok (.iload 4, 2) := by decide +kernel
theorem dX7_makeSamples_111 : decode cX7_makeSamples 111 = .ok (.bipush 8, 2) := by decide +kernel
theorem dX7_makeSamples_113 : decode cX7_makeSamples 113 = .ok (.if_icmp .ge 32, 3) := by decide +kernel
theorem dX7_makeSamples_116 : decode cX7_makeSamples 116 = .ok (.iload_n 3, 1) := by decide +kernel
theorem dX7_makeSamples_117 : decode cX7_makeSamples 117 = .ok (.aload_n 0, 1) := by decide +kernel
theorem dX7_makeSamples_118 : decode cX7_makeSamples 118 = .ok (.iload 4, 2) := by decide +kernel
theorem dX7_makeSamples_120 : decode cX7_makeSamples 120 = .ok (.iload_n 1, 1) := by decide +kernel
theorem dX7_makeSamples_121 : decode cX7_makeSamples 121 = .ok (.invokevirtual 140, 3) := by decide +kernel
theorem dX7_makeSamples_124 : decode cX7_makeSamples 124 = .ok (.aload_n 0, 1) := by decide +kernel
theorem dX7_makeSamples_125 : decode cX7_makeSamples 125 = .ok (.getfield 56, 3) := by decide +kernel
theorem dX7_makeSamples_128 : decode cX7_makeSamples 128 = .ok (.bipush 8, 2) := by decide +kernel
theorem dX7_makeSamples_130 : decode cX7_makeSamples 130 = .ok (.iload 4, 2) := by decide +kernel
theorem dX7_makeSamples_132 : decode cX7_makeSamples 132 = .ok (.imul, 1) := by decide +kernel
theorem dX7_makeSamples_133 : decode cX7_makeSamples 133 = .ok (.iload_n 2, 1) := by decide +kernel
theorem dX7_makeSamples_134 : decode cX7_makeSamples 134 = .ok (.iadd, 1) := by decide +kernel
theorem dX7_makeSamples_135 : decode cX7_makeSamples 135 = .ok (.iaload, 1) := by decide +kernel
theorem dX7_makeSamples_136 : decode cX7_makeSamples 136 = .ok (.imul, 1) := by decide +kernel
theorem dX7_makeSamples_137 : decode cX7_makeSamples 137 = .ok (.iadd, 1) := by decide +kernel
theorem dX7_makeSamples_138 : decode cX7_makeSamples 138 = .ok (.istore_n 3, 1) := by decide +kernel
theorem dX7_makeSamples_139 : decode cX7_makeSamples 139 = .ok (.iinc 4 1, 3) := by decide +kernel
theorem dX7_makeSamples_142 : decode cX7_makeSamples 142 = .ok (.goto (-33), 3) := by decide +kernel
theorem dX7_makeSamples_145 : decode cX7_makeSamples 145 = .ok (.aload_n 0, 1) := by decide +kernel
theorem dX7_makeSamples_146 : decode cX7_makeSamples 146 = .ok (.getfield 59, 3) := by decide +kernel
theorem dX7_makeSamples_149 : decode cX7_makeSamples 149 = .ok (.bipush 8, 2) := by decide +kernel
theorem dX7_makeSamples_151 : decode cX7_makeSamples 151 = .ok (.iload_n 1, 1) := by decide +kernel
theorem dX7_makeSamples_152 : decode cX7_makeSamples 152 = .ok (.imul, 1) := by decide +kernel
theorem dX7_makeSamples_153 : decode cX7_makeSamples 153 = .ok (.iload_n 2, 1) := by decide +kernel
theorem dX7_makeSamples_154 : decode cX7_makeSamples 154 = .ok (.iadd, 1) := by decide +kernel
theorem dX7_makeSamples_155 : decode cX7_makeSamples 155 = .ok (.iload_n 3, 1) := by decide +kernel
theorem dX7_makeSamples_156 : decode cX7_makeSamples 156 = .ok (.bipush 14, 2) := by decide +kernel
theorem dX7_makeSamples_158 : decode cX7_makeSamples 158 = .ok (.ishr, 1) := by decide +kernel
theorem dX7_makeSamples_159 : decode cX7_makeSamples 159 = .ok (.iastore, 1) := by decide +kernel
theorem dX7_makeSamples_160 : decode cX7_makeSamples 160 = .ok (.iinc 2 1, 3) := by decide +kernel
theorem dX7_makeSamples_163 : decode cX7_makeSamples 163 = .ok (.goto (-67), 3) := by decide +kernel
theorem dX7_makeSamples_166 : decode cX7_makeSamples 166 = .ok (.iinc 1 1, 3) := by decide +kernel
theorem dX7_makeSamples_169 : decode cX7_makeSamples 169 = .ok (.goto (-81), 3) := by decide +kernel
theorem dX7_makeSamples_172 : decode cX7_makeSamples 172 = .ok (.return_, 1) := by decide +kernel
theorem dX7_wideOf_0 : decode cX7_wideOf 0 = .ok (.iload_n 1, 1) := by decide +kernel
theorem dX7_wideOf_1 : decode cX7_wideOf 1 = .ok (.ifCond .ne 13, 3) := by decide +kernel
theorem dX7_wideOf_4 : decode cX7_wideOf 4 = .ok (.bipush 16, 2) := by decide +kernel
theorem dX7_wideOf_6 : decode cX7_wideOf 6 = .ok (.aload_n 0, 1) := by decide +kernel
theorem dX7_wideOf_7 : decode cX7_wideOf 7 = .ok (.getfield 70, 3) := by decide +kernel
theorem dX7_wideOf_10 : decode cX7_wideOf 10 = .ok (.imul, 1) := by decide +kernel
theorem dX7_wideOf_11 : decode cX7_wideOf 11 = .ok (.goto 10, 3) := by decide +kernel
theorem dX7_wideOf_14 : decode cX7_wideOf 14 = .ok (.bipush 8, 2) := by decide +kernel
theorem dX7_wideOf_16 : decode cX7_wideOf 16 = .ok (.aload_n 0, 1) := by decide +kernel
theorem dX7_wideOf_17 : decode cX7_wideOf 17 = .ok (.getfield 70, 3) := by decide +kernel
theorem dX7_wideOf_20 : decode cX7_wideOf 20 = .ok (.imul, 1) := by decide +kernel
theorem dX7_wideOf_21 : decode cX7_wideOf 21 = .ok (.ireturn, 1) := by decide +kernel
theorem dX7_highOf_0 : decode cX7_highOf 0 = .ok (.iload_n 1, 1) := by decide +kernel
theorem dX7_highOf_1 : decode cX7_highOf 1 = .ok (.ifCond .ne 13, 3) := by decide +kernel
theorem dX7_highOf_4 : decode cX7_highOf 4 = .ok (.bipush 16, 2) := by decide +kernel
theorem dX7_highOf_6 : decode cX7_highOf 6 = .ok (.aload_n 0, 1) := by decide +kernel
theorem dX7_highOf_7 : decode cX7_highOf 7 = .ok (.getfield 73, 3) := by decide +kernel
theorem dX7_highOf_10 : decode cX7_highOf 10 = .ok (.imul, 1) := by decide +kernel
theorem dX7_highOf_11 : decode cX7_highOf 11 = .ok (.goto 10, 3) := by decide +kernel
theorem dX7_highOf_14 : decode cX7_highOf 14 = .ok (.bipush 8, 2) := by decide +kernel
theorem dX7_highOf_16 : decode cX7_highOf 16 = .ok (.aload_n 0, 1) := by decide +kernel
theorem dX7_highOf_17 : decode cX7_highOf 17 = .ok (.getfield 73, 3) := by decide +kernel
theorem dX7_highOf_20 : decode cX7_highOf 20 = .ok (.imul, 1) := by decide +kernel
theorem dX7_highOf_21 : decode cX7_highOf 21 = .ok (.ireturn, 1) := by decide +kernel
theorem dX7_place_0 : decode cX7_place 0 = .ok (.iload_n 0, 1) := by decide +kernel
theorem dX7_place_1 : decode cX7_place 1 = .ok (.ifCond .ne 12, 3) := by decide +kernel
theorem dX7_place_4 : decode cX7_place 4 = .ok (.bipush 64, 2) := by decide +kernel
theorem dX7_place_6 : decode cX7_place 6 = .ok (.iload_n 2, 1) := by decide +kernel
theorem dX7_place_7 : decode cX7_place 7 = .ok (.imul, 1) := by decide +kernel
theorem dX7_place_8 : decode cX7_place 8 = .ok (.iload_n 1, 1) := by decide +kernel
theorem dX7_place_9 : decode cX7_place 9 = .ok (.iadd, 1) := by decide +kernel
theorem dX7_place_10 : decode cX7_place 10 = .ok (.goto 31, 3) := by decide +kernel
theorem dX7_place_13 : decode cX7_place 13 = .ok (.iload_n 0, 1) := by decide +kernel
theorem dX7_place_14 : decode cX7_place 14 = .ok (.iconst 1, 1) := by decide +kernel
theorem dX7_place_15 : decode cX7_place 15 = .ok (.if_icmp .ne 16, 3) := by decide +kernel
theorem dX7_place_18 : decode cX7_place 18 = .ok (.sipush 3072, 3) := by decide +kernel
theorem dX7_place_21 : decode cX7_place 21 = .ok (.bipush 32, 2) := by decide +kernel
theorem dX7_place_23 : decode cX7_place 23 = .ok (.iload_n 2, 1) := by decide +kernel
theorem dX7_place_24 : decode cX7_place 24 = .ok (.imul, 1) := by decide +kernel
theorem dX7_place_25 : decode cX7_place 25 = .ok (.iadd, 1) := by decide +kernel
theorem dX7_place_26 : decode cX7_place 26 = .ok (.iload_n 1, 1) := by decide +kernel
theorem dX7_place_27 : decode cX7_place 27 = .ok (.iadd, 1) := by decide +kernel
theorem dX7_place_28 : decode cX7_place 28 = .ok (.goto 13, 3) := by decide +kernel
theorem dX7_place_31 : decode cX7_place 31 = .ok (.sipush 3840, 3) := by decide +kernel
theorem dX7_place_34 : decode cX7_place 34 = .ok (.bipush 32, 2) := by decide +kernel
theorem dX7_place_36 : decode cX7_place 36 = .ok (.iload_n 2, 1) := by decide +kernel
theorem dX7_place_37 : decode cX7_place 37 = .ok (.imul, 1) := by decide +kernel
theorem dX7_place_38 : decode cX7_place 38 = .ok (.iadd, 1) := by decide +kernel
theorem dX7_place_39 : decode cX7_place 39 = .ok (.iload_n 1, 1) := by decide +kernel
theorem dX7_place_40 : decode cX7_place 40 = .ok (.iadd, 1) := by decide +kernel
theorem dX7_place_41 : decode cX7_place 41 = .ok (.ireturn, 1) := by decide +kernel
theorem dX7_look_0 : decode cX7_look 0 = .ok (.iload_n 2, 1) := by decide +kernel
theorem dX7_look_1 : decode cX7_look 1 = .ok (.iload_n 3, 1) := by decide +kernel
theorem dX7_look_2 : decode cX7_look 2 = .ok (.iconst 0, 1) := by decide +kernel
theorem dX7_look_3 : decode cX7_look 3 = .ok (.aload_n 0, 1) := by decide +kernel
theorem dX7_look_4 : decode cX7_look 4 = .ok (.iload_n 2, 1) := by decide +kernel
theorem dX7_look_5 : decode cX7_look 5 = .ok (.invokevirtual 144, 3) := by decide +kernel
theorem dX7_look_8 : decode cX7_look 8 = .ok (.iconst 1, 1) := by decide +kernel
theorem dX7_look_9 : decode cX7_look 9 = .ok (.isub, 1) := by decide +kernel
theorem dX7_look_10 : decode cX7_look 10 = .ok (.invokestatic 133, 3) := by decide +kernel
theorem dX7_look_13 : decode cX7_look 13 = .ok (.iload 4, 2) := by decide +kernel
theorem dX7_look_15 : decode cX7_look 15 = .ok (.iconst 0, 1) := by decide +kernel
theorem dX7_look_16 : decode cX7_look 16 = .ok (.aload_n 0, 1) := by decide +kernel
theorem dX7_look_17 : decode cX7_look 17 = .ok (.iload_n 2, 1) := by decide +kernel
theorem dX7_look_18 : decode cX7_look 18 = .ok (.invokevirtual 147, 3) := by decide +kernel
theorem dX7_look_21 : decode cX7_look 21 = .ok (.iconst 1, 1) := by decide +kernel
theorem dX7_look_22 : decode cX7_look 22 = .ok (.isub, 1) := by decide +kernel
theorem dX7_look_23 : decode cX7_look 23 = .ok (.invokestatic 133, 3) := by decide +kernel
theorem dX7_look_26 : decode cX7_look 26 = .ok (.invokestatic 150, 3) := by decide +kernel
theorem dX7_look_29 : decode cX7_look 29 = .ok (.istore 5, 2) := by decide +kernel
theorem dX7_look_31 : decode cX7_look 31 = .ok (.iload_n 1, 1) := by decide +kernel
theorem dX7_look_32 : decode cX7_look 32 = .ok (.ifCond .ne 13, 3) := by decide +kernel
theorem dX7_look_35 : decode cX7_look 35 = .ok (.aload_n 0, 1) := by decide +kernel
theorem dX7_look_36 : decode cX7_look 36 = .ok (.getfield 22, 3) := by decide +kernel
theorem dX7_look_39 : decode cX7_look 39 = .ok (.iload 5, 2) := by decide +kernel
theorem dX7_look_41 : decode cX7_look 41 = .ok (.iaload, 1) := by decide +kernel
theorem dX7_look_42 : decode cX7_look 42 = .ok (.goto 10, 3) := by decide +kernel
theorem dX7_look_45 : decode cX7_look 45 = .ok (.aload_n 0, 1) := by decide +kernel
theorem dX7_look_46 : decode cX7_look 46 = .ok (.getfield 25, 3) := by decide +kernel
theorem dX7_look_49 : decode cX7_look 49 = .ok (.iload 5, 2) := by decide +kernel
theorem dX7_look_51 : decode cX7_look 51 = .ok (.iaload, 1) := by decide +kernel
theorem dX7_look_52 : decode cX7_look 52 = .ok (.ireturn, 1) := by decide +kernel
theorem dX7_fetch_0 : decode cX7_fetch 0 = .ok (.aload_n 0, 1) := by decide +kernel
theorem dX7_fetch_1 : decode cX7_fetch 1 = .ok (.getfield 95, 3) := by decide +kernel
theorem dX7_fetch_4 : decode cX7_fetch 4 = .ok (.iconst 2, 1) := by decide +kernel
theorem dX7_fetch_5 : decode cX7_fetch 5 = .ok (.if_icmp .eq 8, 3) := by decide +kernel
theorem dX7_fetch_8 : decode cX7_fetch 8 = .ok (.iload_n 1, 1) := by decide +kernel
theorem dX7_fetch_9 : decode cX7_fetch 9 = .ok (.iconst 1, 1) := by decide +kernel
theorem dX7_fetch_10 : decode cX7_fetch 10 = .ok (.if_icmp .ne 7, 3) := by decide +kernel
theorem dX7_fetch_13 : decode cX7_fetch 13 = .ok (.iconst 1, 1) := by decide +kernel
theorem dX7_fetch_14 : decode cX7_fetch 14 = .ok (.goto 4, 3) := by decide +kernel
theorem dX7_fetch_17 : decode cX7_fetch 17 = .ok (.iconst 0, 1) := by decide +kernel
theorem dX7_fetch_18 : decode cX7_fetch 18 = .ok (.istore 5, 2) := by decide +kernel
theorem dX7_fetch_20 : decode cX7_fetch 20 = .ok (.aload_n 0, 1) := by decide +kernel
theorem dX7_fetch_21 : decode cX7_fetch 21 = .ok (.getfield 37, 3) := by decide +kernel
theorem dX7_fetch_24 : decode cX7_fetch 24 = .ok (.iconst 2, 1) := by decide +kernel
theorem dX7_fetch_25 : decode cX7_fetch 25 = .ok (.iload_n 1, 1) := by decide +kernel
theorem dX7_fetch_26 : decode cX7_fetch 26 = .ok (.imul, 1) := by decide +kernel
theorem dX7_fetch_27 : decode cX7_fetch 27 = .ok (.iaload, 1) := by decide +kernel
theorem dX7_fetch_28 : decode cX7_fetch 28 = .ok (.aload_n 0, 1) := by decide +kernel
theorem dX7_fetch_29 : decode cX7_fetch 29 = .ok (.getfield 116, 3) := by decide +kernel
theorem dX7_fetch_32 : decode cX7_fetch 32 = .ok (.ifCond .eq 7, 3) := by decide +kernel
theorem dX7_fetch_35 : decode cX7_fetch 35 = .ok (.iconst 2, 1) := by decide +kernel
theorem dX7_fetch_36 : decode cX7_fetch 36 = .ok (.goto 4, 3) := by decide +kernel
theorem dX7_fetch_39 : decode cX7_fetch 39 = .ok (.iconst 1, 1) := by decide +kernel
theorem dX7_fetch_40 : decode cX7_fetch 40 = .ok (.imul, 1) := by decide +kernel
theorem dX7_fetch_41 : decode cX7_fetch 41 = .ok (.istore 6, 2) := by decide +kernel
theorem dX7_fetch_43 : decode cX7_fetch 43 = .ok (.aload_n 0, 1) := by decide +kernel
theorem dX7_fetch_44 : decode cX7_fetch 44 = .ok (.getfield 37, 3) := by decide +kernel
theorem dX7_fetch_47 : decode cX7_fetch 47 = .ok (.iconst 2, 1) := by decide +kernel
theorem dX7_fetch_48 : decode cX7_fetch 48 = .ok (.iload_n 1, 1) := by decide +kernel
theorem dX7_fetch_49 : decode cX7_fetch 49 = .ok (.imul, 1) := by decide +kernel
theorem dX7_fetch_50 : decode cX7_fetch 50 = .ok (.iconst 1, 1) := by decide +kernel
theorem dX7_fetch_51 : decode cX7_fetch 51 = .ok (.iadd, 1) := by decide +kernel
theorem dX7_fetch_52 : decode cX7_fetch 52 = .ok (.iaload, 1) := by decide +kernel
theorem dX7_fetch_53 : decode cX7_fetch 53 = .ok (.aload_n 0, 1) := by decide +kernel
theorem dX7_fetch_54 : decode cX7_fetch 54 = .ok (.getfield 116, 3) := by decide +kernel
theorem dX7_fetch_57 : decode cX7_fetch 57 = .ok (.ifCond .eq 7, 3) := by decide +kernel
theorem dX7_fetch_60 : decode cX7_fetch 60 = .ok (.iconst 2, 1) := by decide +kernel
theorem dX7_fetch_61 : decode cX7_fetch 61 = .ok (.goto 4, 3) := by decide +kernel
theorem dX7_fetch_64 : decode cX7_fetch 64 = .ok (.iconst 1, 1) := by decide +kernel
theorem dX7_fetch_65 : decode cX7_fetch 65 = .ok (.imul, 1) := by decide +kernel
theorem dX7_fetch_66 : decode cX7_fetch 66 = .ok (.istore 7, 2) := by decide +kernel
theorem dX7_fetch_68 : decode cX7_fetch 68 = .ok (.iload_n 2, 1) := by decide +kernel
theorem dX7_fetch_69 : decode cX7_fetch 69 = .ok (.ifCond .le 10, 3) := by decide +kernel
theorem dX7_fetch_72 : decode cX7_fetch 72 = .ok (.iload 6, 2) := by decide +kernel
theorem dX7_fetch_74 : decode cX7_fetch 74 = .ok (.iconst 2, 1) := by decide +kernel
theorem dX7_fetch_75 : decode cX7_fetch 75 = .ok (.idiv, 1) := by decide +kernel
theorem dX7_fetch_76 : decode cX7_fetch 76 = .ok (.goto 5, 3) := by decide +kernel
theorem dX7_fetch_79 : decode cX7_fetch 79 = .ok (.iload 6, 2) := by decide +kernel
theorem dX7_fetch_81 : decode cX7_fetch 81 = .ok (.istore 6, 2) := by decide +kernel
theorem dX7_fetch_83 : decode cX7_fetch 83 = .ok (.iload_n 2, 1) := by decide +kernel
theorem dX7_fetch_84 : decode cX7_fetch 84 = .ok (.ifCond .le 10, 3) := by decide +kernel
theorem dX7_fetch_87 : decode cX7_fetch 87 = .ok (.iload 7, 2) := by decide +kernel
theorem dX7_fetch_89 : decode cX7_fetch 89 = .ok (.iconst 2, 1) := by decide +kernel
theorem dX7_fetch_90 : decode cX7_fetch 90 = .ok (.idiv, 1) := by decide +kernel
theorem dX7_fetch_91 : decode cX7_fetch 91 = .ok (.goto 5, 3) := by decide +kernel
theorem dX7_fetch_94 : decode cX7_fetch 94 = .ok (.iload 7, 2) := by decide +kernel
theorem dX7_fetch_96 : decode cX7_fetch 96 = .ok (.istore 7, 2) := by decide +kernel
theorem dX7_fetch_98 : decode cX7_fetch 98 = .ok (.iload_n 3, 1) := by decide +kernel
theorem dX7_fetch_99 : decode cX7_fetch 99 = .ok (.iload 6, 2) := by decide +kernel
theorem dX7_fetch_101 : decode cX7_fetch 101 = .ok (.iconst 1, 1) := by decide +kernel
theorem dX7_fetch_102 : decode cX7_fetch 102 = .ok (.ishr, 1) := by decide +kernel
theorem dX7_fetch_103 : decode cX7_fetch 103 = .ok (.iadd, 1) := by decide +kernel
theorem dX7_fetch_104 : decode cX7_fetch 104 = .ok (.istore 8, 2) := by decide +kernel
theorem dX7_fetch_106 : decode cX7_fetch 106 = .ok (.iload 4, 2) := by decide +kernel
theorem dX7_fetch_108 : decode cX7_fetch 108 = .ok (.iload 7, 2) := by decide +kernel
theorem dX7_fetch_110 : decode cX7_fetch 110 = .ok (.iconst 1, 1) := by decide +kernel
theorem dX7_fetch_111 : decode cX7_fetch 111 = .ok (.ishr, 1) := by decide +kernel
theorem dX7_fetch_112 : decode cX7_fetch 112 = .ok (.iadd, 1) := by decide +kernel
theorem dX7_fetch_113 : decode cX7_fetch 113 = .ok (.istore 9, 2) := by decide +kernel
theorem dX7_fetch_115 : decode cX7_fetch 115 = .ok (.aload_n 0, 1) := by decide +kernel
theorem dX7_fetch_116 : decode cX7_fetch 116 = .ok (.iload 5, 2) := by decide +kernel
theorem dX7_fetch_118 : decode cX7_fetch 118 = .ok (.iload_n 2, 1) := by decide +kernel
theorem dX7_fetch_119 : decode cX7_fetch 119 = .ok (.iload 8, 2) := by decide +kernel
theorem dX7_fetch_121 : decode cX7_fetch 121 = .ok (.iload 9, 2) := by decide +kernel
theorem dX7_fetch_123 : decode cX7_fetch 123 = .ok (.invokevirtual 153, 3) := by decide +kernel
theorem dX7_fetch_126 : decode cX7_fetch 126 = .ok (.istore 10, 2) := by decide +kernel
theorem dX7_fetch_128 : decode cX7_fetch 128 = .ok (.iload 6, 2) := by decide +kernel
theorem dX7_fetch_130 : decode cX7_fetch 130 = .ok (.iconst 2, 1) := by decide +kernel
theorem dX7_fetch_131 : decode cX7_fetch 131 = .ok (.irem, 1) := by decide +kernel
theorem dX7_fetch_132 : decode cX7_fetch 132 = .ok (.ifCond .eq 7, 3) := by decide +kernel
theorem dX7_fetch_135 : decode cX7_fetch 135 = .ok (.iconst 1, 1) := by decide +kernel
theorem dX7_fetch_136 : decode cX7_fetch 136 = .ok (.goto 4, 3) := by decide +kernel
theorem dX7_fetch_139 : decode cX7_fetch 139 = .ok (.iconst 0, 1) := by decide +kernel
theorem dX7_fetch_140 : decode cX7_fetch 140 = .ok (.istore 11, 2) := by decide +kernel
theorem dX7_fetch_142 : decode cX7_fetch 142 = .ok (.iload 7, 2) := by decide +kernel
theorem dX7_fetch_144 : decode cX7_fetch 144 = .ok (.iconst 2, 1) := by decide +kernel
theorem dX7_fetch_145 : decode cX7_fetch 145 = .ok (.irem, 1) := by decide +kernel
theorem dX7_fetch_146 : decode cX7_fetch 146 = .ok (.ifCond .eq 7, 3) := by decide +kernel
theorem dX7_fetch_149 : decode cX7_fetch 149 = .ok (.iconst 1, 1) := by decide +kernel
theorem dX7_fetch_150 : decode cX7_fetch 150 = .ok (.goto 4, 3) := by decide +kernel
theorem dX7_fetch_153 : decode cX7_fetch 153 = .ok (.iconst 0, 1) := by decide +kernel
theorem dX7_fetch_154 : decode cX7_fetch 154 = .ok (.istore 12, 2) := by decide +kernel
theorem dX7_fetch_156 : decode cX7_fetch 156 = .ok (.iload 11, 2) := by decide +kernel
theorem dX7_fetch_158 : decode cX7_fetch 158 = .ok (.ifCond .eq 59, 3) := by decide +kernel
theorem dX7_fetch_161 : decode cX7_fetch 161 = .ok (.iload 12, 2) := by decide +kernel
theorem dX7_fetch_163 : decode cX7_fetch 163 = .ok (.ifCond .eq 54, 3) := by decide +kernel
theorem dX7_fetch_166 : decode cX7_fetch 166 = .ok (.iload 10, 2) := by decide +kernel
theorem dX7_fetch_168 : decode cX7_fetch 168 = .ok (.aload_n 0, 1) := by decide +kernel
theorem dX7_fetch_169 : decode cX7_fetch 169 = .ok (.iload 5, 2) := by decide +kernel
theorem dX7_fetch_171 : decode cX7_fetch 171 = .ok (.iload_n 2, 1) := by decide +kernel
theorem dX7_fetch_172 : decode cX7_fetch 172 = .ok (.iload 8, 2) := by decide +kernel
theorem dX7_fetch_174 : decode cX7_fetch 174 = .ok (.iconst 1, 1) := by decide +kernel
theorem dX7_fetch_175 : decode cX7_fetch 175 = .ok (.iadd, 1) := by decide +kernel
theorem dX7_fetch_176 : decode cX7_fetch 176 = .ok (.iload 9, 2) := by decide +kernel
theorem dX7_fetch_178 : decode cX7_fetch 178 = .ok (.invokevirtual 153, 3) := by decide +kernel
theorem dX7_fetch_181 : decode cX7_fetch 181 = .ok (.iadd, 1) := by decide +kernel
theorem dX7_fetch_182 : decode cX7_fetch 182 = .ok (.aload_n 0, 1) := by decide +kernel
theorem dX7_fetch_183 : decode cX7_fetch 183 = .ok (.iload 5, 2) := by decide +kernel
theorem dX7_fetch_185 : decode cX7_fetch 185 = .ok (.iload_n 2, 1) := by decide +kernel
theorem dX7_fetch_186 : decode cX7_fetch 186 = .ok (.iload 8, 2) := by decide +kernel
theorem dX7_fetch_188 : decode cX7_fetch 188 = .ok (.iload 9, 2) := by decide +kernel
theorem dX7_fetch_190 : decode cX7_fetch 190 = .ok (.iconst 1, 1) := by decide +kernel
theorem dX7_fetch_191 : decode cX7_fetch 191 = .ok (.iadd, 1) := by decide +kernel
theorem dX7_fetch_192 : decode cX7_fetch 192 = .ok (.invokevirtual 153, 3) := by decide +kernel
theorem dX7_fetch_195 : decode cX7_fetch 195 = .ok (.iadd, 1) := by decide +kernel
theorem dX7_fetch_196 : decode cX7_fetch 196 = .ok (.aload_n 0, 1) := by decide +kernel
theorem dX7_fetch_197 : decode cX7_fetch 197 = .ok (.iload 5, 2) := by decide +kernel
theorem dX7_fetch_199 : decode cX7_fetch 199 = .ok (.iload_n 2, 1) := by decide +kernel
theorem dX7_fetch_200 : decode cX7_fetch 200 = .ok (.iload 8, 2) := by decide +kernel
theorem dX7_fetch_202 : decode cX7_fetch 202 = .ok (.iconst 1, 1) := by decide +kernel
theorem dX7_fetch_203 : decode cX7_fetch 203 = .ok (.iadd, 1) := by decide +kernel
theorem dX7_fetch_204 : decode cX7_fetch 204 = .ok (.iload 9, 2) := by decide +kernel
theorem dX7_fetch_206 : decode cX7_fetch 206 = .ok (.iconst 1, 1) := by decide +kernel
theorem dX7_fetch_207 : decode cX7_fetch 207 = .ok (.iadd, 1) := by decide +kernel
theorem dX7_fetch_208 : decode cX7_fetch 208 = .ok (.invokevirtual 153, 3) := by decide +kernel
theorem dX7_fetch_211 : decode cX7_fetch 211 = .ok (.iadd, 1) := by decide +kernel
theorem dX7_fetch_212 : decode cX7_fetch 212 = .ok (.iconst 2, 1) := by decide +kernel
theorem dX7_fetch_213 : decode cX7_fetch 213 = .ok (.iadd, 1) := by decide +kernel
theorem dX7_fetch_214 : decode cX7_fetch 214 = .ok (.iconst 2, 1) := by decide +kernel
theorem dX7_fetch_215 : decode cX7_fetch 215 = .ok (.ishr, 1) := by decide +kernel
theorem dX7_fetch_216 : decode cX7_fetch 216 = .ok (.ireturn, 1) := by decide +kernel
theorem dX7_fetch_217 : decode cX7_fetch 217 = .ok (.iload 11, 2) := by decide +kernel
theorem dX7_fetch_219 : decode cX7_fetch 219 = .ok (.ifCond .ne 8, 3) := by decide +kernel
theorem dX7_fetch_222 : decode cX7_fetch 222 = .ok (.iload 12, 2) := by decide +kernel
theorem dX7_fetch_224 : decode cX7_fetch 224 = .ok (.ifCond .eq 46, 3) := by decide +kernel
theorem dX7_fetch_227 : decode cX7_fetch 227 = .ok (.iload 10, 2) := by decide +kernel
theorem dX7_fetch_229 : decode cX7_fetch 229 = .ok (.aload_n 0, 1) := by decide +kernel
theorem dX7_fetch_230 : decode cX7_fetch 230 = .ok (.iload 5, 2) := by decide +kernel
theorem dX7_fetch_232 : decode cX7_fetch 232 = .ok (.iload_n 2, 1) := by decide +kernel
theorem dX7_fetch_233 : decode cX7_fetch 233 = .ok (.iload 11, 2) := by decide +kernel
theorem dX7_fetch_235 : decode cX7_fetch 235 = .ok (.ifCond .eq 10, 3) := by decide +kernel
theorem dX7_fetch_238 : decode cX7_fetch 238 = .ok (.iload 8, 2) := by decide +kernel
theorem dX7_fetch_240 : decode cX7_fetch 240 = .ok (.iconst 1, 1) := by decide +kernel
theorem dX7_fetch_241 : decode cX7_fetch 241 = .ok (.iadd, 1) := by decide +kernel
theorem dX7_fetch_242 : decode cX7_fetch 242 = .ok (.goto 5, 3) := by decide +kernel
theorem dX7_fetch_245 : decode cX7_fetch 245 = .ok (.iload 8, 2) := by decide +kernel
theorem dX7_fetch_247 : decode cX7_fetch 247 = .ok (.iload 12, 2) := by decide +kernel
theorem dX7_fetch_249 : decode cX7_fetch 249 = .ok (.ifCond .eq 10, 3) := by decide +kernel
theorem dX7_fetch_252 : decode cX7_fetch 252 = .ok (.iload 9, 2) := by decide +kernel
theorem dX7_fetch_254 : decode cX7_fetch 254 = .ok (.iconst 1, 1) := by decide +kernel
theorem dX7_fetch_255 : decode cX7_fetch 255 = .ok (.iadd, 1) := by decide +kernel
theorem dX7_fetch_256 : decode cX7_fetch 256 = .ok (.goto 5, 3) := by decide +kernel
theorem dX7_fetch_259 : decode cX7_fetch 259 = .ok (.iload 9, 2) := by decide +kernel
theorem dX7_fetch_261 : decode cX7_fetch 261 = .ok (.invokevirtual 153, 3) := by decide +kernel
theorem dX7_fetch_264 : decode cX7_fetch 264 = .ok (.iadd, 1) := by decide +kernel
theorem dX7_fetch_265 : decode cX7_fetch 265 = .ok (.iconst 1, 1) := by decide +kernel
theorem dX7_fetch_266 : decode cX7_fetch 266 = .ok (.iadd, 1) := by decide +kernel
theorem dX7_fetch_267 : decode cX7_fetch 267 = .ok (.iconst 1, 1) := by decide +kernel
theorem dX7_fetch_268 : decode cX7_fetch 268 = .ok (.ishr, 1) := by decide +kernel
theorem dX7_fetch_269 : decode cX7_fetch 269 = .ok (.ireturn, 1) := by decide +kernel
theorem dX7_fetch_270 : decode cX7_fetch 270 = .ok (.iload 10, 2) := by decide +kernel
theorem dX7_fetch_272 : decode cX7_fetch 272 = .ok (.ireturn, 1) := by decide +kernel
theorem dX7_fetched_0 : decode cX7_fetched 0 = .ok (.iload_n 1, 1) := by decide +kernel
theorem dX7_fetched_1 : decode cX7_fetched 1 = .ok (.ifCond .eq 33, 3) := by decide +kernel
theorem dX7_fetched_4 : decode cX7_fetched 4 = .ok (.iload_n 2, 1) := by decide +kernel
theorem dX7_fetched_5 : decode cX7_fetched 5 = .ok (.ifCond .eq 29, 3) := by decide +kernel
theorem dX7_fetched_8 : decode cX7_fetched 8 = .ok (.aload_n 0, 1) := by decide +kernel
theorem dX7_fetched_9 : decode cX7_fetched 9 = .ok (.iconst 0, 1) := by decide +kernel
theorem dX7_fetched_10 : decode cX7_fetched 10 = .ok (.iload_n 3, 1) := by decide +kernel
theorem dX7_fetched_11 : decode cX7_fetched 11 = .ok (.iload 4, 2) := by decide +kernel
theorem dX7_fetched_13 : decode cX7_fetched 13 = .ok (.iload 5, 2) := by decide +kernel
theorem dX7_fetched_15 : decode cX7_fetched 15 = .ok (.invokevirtual 157, 3) := by decide +kernel
theorem dX7_fetched_18 : decode cX7_fetched 18 = .ok (.aload_n 0, 1) := by decide +kernel
theorem dX7_fetched_19 : decode cX7_fetched 19 = .ok (.iconst 1, 1) := by decide +kernel
theorem dX7_fetched_20 : decode cX7_fetched 20 = .ok (.iload_n 3, 1) := by decide +kernel
theorem dX7_fetched_21 : decode cX7_fetched 21 = .ok (.iload 4, 2) := by decide +kernel
theorem dX7_fetched_23 : decode cX7_fetched 23 = .ok (.iload 5, 2) := by decide +kernel
theorem dX7_fetched_25 : decode cX7_fetched 25 = .ok (.invokevirtual 157, 3) := by decide +kernel
theorem dX7_fetched_28 : decode cX7_fetched 28 = .ok (.iadd, 1) := by decide +kernel
theorem dX7_fetched_29 : decode cX7_fetched 29 = .ok (.iconst 1, 1) := by decide +kernel
theorem dX7_fetched_30 : decode cX7_fetched 30 = .ok (.iadd, 1) := by decide +kernel
theorem dX7_fetched_31 : decode cX7_fetched 31 = .ok (.iconst 1, 1) := by decide +kernel
theorem dX7_fetched_32 : decode cX7_fetched 32 = .ok (.ishr, 1) := by decide +kernel
theorem dX7_fetched_33 : decode cX7_fetched 33 = .ok (.ireturn, 1) := by decide +kernel
theorem dX7_fetched_34 : decode cX7_fetched 34 = .ok (.aload_n 0, 1) := by decide +kernel
theorem dX7_fetched_35 : decode cX7_fetched 35 = .ok (.iload_n 1, 1) := by decide +kernel
theorem dX7_fetched_36 : decode cX7_fetched 36 = .ok (.ifCond .eq 7, 3) := by decide +kernel
theorem dX7_fetched_39 : decode cX7_fetched 39 = .ok (.iconst 0, 1) := by decide +kernel
theorem dX7_fetched_40 : decode cX7_fetched 40 = .ok (.goto 4, 3) := by decide +kernel
theorem dX7_fetched_43 : decode cX7_fetched 43 = .ok (.iconst 1, 1) := by decide +kernel
theorem dX7_fetched_44 : decode cX7_fetched 44 = .ok (.iload_n 3, 1) := by decide +kernel
theorem dX7_fetched_45 : decode cX7_fetched 45 = .ok (.iload 4, 2) := by decide +kernel
theorem dX7_fetched_47 : decode cX7_fetched 47 = .ok (.iload 5, 2) := by decide +kernel
theorem dX7_fetched_49 : decode cX7_fetched 49 = .ok (.invokevirtual 157, 3) := by decide +kernel
theorem dX7_fetched_52 : decode cX7_fetched 52 = .ok (.ireturn, 1) := by decide +kernel
theorem dX7_putBlock_0 : decode cX7_putBlock 0 = .ok (.iload_n 1, 1) := by decide +kernel
theorem dX7_putBlock_1 : decode cX7_putBlock 1 = .ok (.invokestatic 136, 3) := by decide +kernel
theorem dX7_putBlock_4 : decode cX7_putBlock 4 = .ok (.istore 4, 2) := by decide +kernel
theorem dX7_putBlock_6 : decode cX7_putBlock 6 = .ok (.iload 4, 2) := by decide +kernel
theorem dX7_putBlock_8 : decode cX7_putBlock 8 = .ok (.ifCond .ne 25, 3) := by decide +kernel
theorem dX7_putBlock_11 : decode cX7_putBlock 11 = .ok (.bipush 16, 2) := by decide +kernel
theorem dX7_putBlock_13 : decode cX7_putBlock 13 = .ok (.aload_n 0, 1) := by decide +kernel
theorem dX7_putBlock_14 : decode cX7_putBlock 14 = .ok (.getfield 98, 3) := by decide +kernel
theorem dX7_putBlock_17 : decode cX7_putBlock 17 = .ok (.aload_n 0, 1) := by decide +kernel
theorem dX7_putBlock_18 : decode cX7_putBlock 18 = .ok (.getfield 70, 3) := by decide +kernel
theorem dX7_putBlock_21 : decode cX7_putBlock 21 = .ok (.irem, 1) := by decide +kernel
theorem dX7_putBlock_22 : decode cX7_putBlock 22 = .ok (.imul, 1) := by decide +kernel
theorem dX7_putBlock_23 : decode cX7_putBlock 23 = .ok (.bipush 8, 2) := by decide +kernel
theorem dX7_putBlock_25 : decode cX7_putBlock 25 = .ok (.iload_n 1, 1) := by decide +kernel
theorem dX7_putBlock_26 : decode cX7_putBlock 26 = .ok (.iconst 2, 1) := by decide +kernel
theorem dX7_putBlock_27 : decode cX7_putBlock 27 = .ok (.irem, 1) := by decide +kernel
theorem dX7_putBlock_28 : decode cX7_putBlock 28 = .ok (.imul, 1) := by decide +kernel
theorem dX7_putBlock_29 : decode cX7_putBlock 29 = .ok (.iadd, 1) := by decide +kernel
theorem dX7_putBlock_30 : decode cX7_putBlock 30 = .ok (.goto 15, 3) := by decide +kernel
theorem dX7_putBlock_33 : decode cX7_putBlock 33 = .ok (.bipush 8, 2) := by decide +kernel
theorem dX7_putBlock_35 : decode cX7_putBlock 35 = .ok (.aload_n 0, 1) := by decide +kernel
theorem dX7_putBlock_36 : decode cX7_putBlock 36 = .ok (.getfield 98, 3) := by decide +kernel
theorem dX7_putBlock_39 : decode cX7_putBlock 39 = .ok (.aload_n 0, 1) := by decide +kernel
theorem dX7_putBlock_40 : decode cX7_putBlock 40 = .ok (.getfield 70, 3) := by decide +kernel
theorem dX7_putBlock_43 : decode cX7_putBlock 43 = .ok (.irem, 1) := by decide +kernel
theorem dX7_putBlock_44 : decode cX7_putBlock 44 = .ok (.imul, 1) := by decide +kernel
theorem dX7_putBlock_45 : decode cX7_putBlock 45 = .ok (.istore 5, 2) := by decide +kernel
theorem dX7_putBlock_47 : decode cX7_putBlock 47 = .ok (.iload 4, 2) := by decide +kernel
theorem dX7_putBlock_49 : decode cX7_putBlock 49 = .ok (.ifCond .ne 25, 3) := by decide +kernel
theorem dX7_putBlock_52 : decode cX7_putBlock 52 = .ok (.bipush 16, 2) := by decide +kernel
theorem dX7_putBlock_54 : decode cX7_putBlock 54 = .ok (.aload_n 0, 1) := by decide +kernel
theorem dX7_putBlock_55 : decode cX7_putBlock 55 = .ok (.getfield 98, 3) := by decide +kernel
theorem dX7_putBlock_58 : decode cX7_putBlock 58 = .ok (.aload_n 0, 1) := by decide +kernel
theorem dX7_putBlock_59 : decode cX7_putBlock 59 = .ok (.getfield 70, 3) := by decide +kernel
theorem dX7_putBlock_62 : decode cX7_putBlock 62 = .ok (.idiv, 1) := by decide +kernel
theorem dX7_putBlock_63 : decode cX7_putBlock 63 = .ok (.imul, 1) := by decide +kernel
theorem dX7_putBlock_64 : decode cX7_putBlock 64 = .ok (.bipush 8, 2) := by decide +kernel
theorem dX7_putBlock_66 : decode cX7_putBlock 66 = .ok (.iload_n 1, 1) := by decide +kernel
theorem dX7_putBlock_67 : decode cX7_putBlock 67 = .ok (.iconst 2, 1) := by decide +kernel
theorem dX7_putBlock_68 : decode cX7_putBlock 68 = .ok (.idiv, 1) := by decide +kernel
theorem dX7_putBlock_69 : decode cX7_putBlock 69 = .ok (.imul, 1) := by decide +kernel
theorem dX7_putBlock_70 : decode cX7_putBlock 70 = .ok (.iadd, 1) := by decide +kernel
theorem dX7_putBlock_71 : decode cX7_putBlock 71 = .ok (.goto 15, 3) := by decide +kernel
theorem dX7_putBlock_74 : decode cX7_putBlock 74 = .ok (.bipush 8, 2) := by decide +kernel
theorem dX7_putBlock_76 : decode cX7_putBlock 76 = .ok (.aload_n 0, 1) := by decide +kernel
theorem dX7_putBlock_77 : decode cX7_putBlock 77 = .ok (.getfield 98, 3) := by decide +kernel
theorem dX7_putBlock_80 : decode cX7_putBlock 80 = .ok (.aload_n 0, 1) := by decide +kernel
theorem dX7_putBlock_81 : decode cX7_putBlock 81 = .ok (.getfield 70, 3) := by decide +kernel
theorem dX7_putBlock_84 : decode cX7_putBlock 84 = .ok (.idiv, 1) := by decide +kernel
theorem dX7_putBlock_85 : decode cX7_putBlock 85 = .ok (.imul, 1) := by decide +kernel
theorem dX7_putBlock_86 : decode cX7_putBlock 86 = .ok (.istore 6, 2) := by decide +kernel
theorem dX7_putBlock_88 : decode cX7_putBlock 88 = .ok (.iconst 0, 1) := by decide +kernel
theorem dX7_putBlock_89 : decode cX7_putBlock 89 = .ok (.istore 7, 2) := by decide +kernel
theorem dX7_putBlock_91 : decode cX7_putBlock 91 = .ok (.iload 7, 2) := by decide +kernel
theorem dX7_putBlock_93 : decode cX7_putBlock 93 = .ok (.bipush 8, 2) := by decide +kernel
theorem dX7_putBlock_95 : decode cX7_putBlock 95 = .ok (.if_icmp .ge 104, 3) := by decide +kernel
theorem dX7_putBlock_98 : decode cX7_putBlock 98 = .ok (.iconst 0, 1) := by decide +kernel
theorem dX7_putBlock_99 : decode cX7_putBlock 99 = .ok (.istore 8, 2) := by decide +kernel
theorem dX7_putBlock_101 : decode cX7_putBlock 101 = .ok (.iload 8, 2) := by decide +kernel
theorem dX7_putBlock_103 : decode cX7_putBlock 103 = .ok (.bipush 8, 2) := by decide +kernel
theorem dX7_putBlock_105 : decode cX7_putBlock 105 = .ok (.if_icmp .ge 88, 3) := by decide +kernel
theorem dX7_putBlock_108 : decode cX7_putBlock 108 = .ok (.aload_n 0, 1) := by decide +kernel
theorem dX7_putBlock_109 : decode cX7_putBlock 109 = .ok (.getfield 59, 3) := by decide +kernel
theorem dX7_putBlock_112 : decode cX7_putBlock 112 = .ok (.bipush 8, 2) := by decide +kernel
theorem dX7_putBlock_114 : decode cX7_putBlock 114 = .ok (.iload 7, 2) := by decide +kernel
theorem dX7_putBlock_116 : decode cX7_putBlock 116 = .ok (.imul, 1) := by decide +kernel
theorem dX7_putBlock_117 : decode cX7_putBlock 117 = .ok (.iload 8, 2) := by decide +kernel
theorem dX7_putBlock_119 : decode cX7_putBlock 119 = .ok (.iadd, 1) := by decide +kernel
theorem dX7_putBlock_120 : decode cX7_putBlock 120 = .ok (.iaload, 1) := by decide +kernel
theorem dX7_putBlock_121 : decode cX7_putBlock 121 = .ok (.istore 9, 2) := by decide +kernel
theorem dX7_putBlock_123 : decode cX7_putBlock 123 = .ok (.aload_n 0, 1) := by decide +kernel
theorem dX7_putBlock_124 : decode cX7_putBlock 124 = .ok (.getfield 110, 3) := by decide +kernel
theorem dX7_putBlock_127 : decode cX7_putBlock 127 = .ok (.ifCond .eq 8, 3) := by decide +kernel
theorem dX7_putBlock_130 : decode cX7_putBlock 130 = .ok (.iload 9, 2) := by decide +kernel
theorem dX7_putBlock_132 : decode cX7_putBlock 132 = .ok (.goto 24, 3) := by decide +kernel
theorem dX7_putBlock_135 : decode cX7_putBlock 135 = .ok (.iload 9, 2) := by decide +kernel
theorem dX7_putBlock_137 : decode cX7_putBlock 137 = .ok (.aload_n 0, 1) := by decide +kernel
theorem dX7_putBlock_138 : decode cX7_putBlock 138 = .ok (.iload_n 2, 1) := by decide +kernel
theorem dX7_putBlock_139 : decode cX7_putBlock 139 = .ok (.iload_n 3, 1) := by decide +kernel
theorem dX7_putBlock_140 : decode cX7_putBlock 140 = .ok (.iload 4, 2) := by decide +kernel
theorem dX7_putBlock_142 : decode cX7_putBlock 142 = .ok (.iload 5, 2) := by decide +kernel
theorem dX7_putBlock_144 : decode cX7_putBlock 144 = .ok (.iload 8, 2) := by decide +kernel
theorem dX7_putBlock_146 : decode cX7_putBlock 146 = .ok (.iadd, 1) := by decide +kernel
theorem dX7_putBlock_147 : decode cX7_putBlock 147 = .ok (.iload 6, 2) := by decide +kernel
theorem dX7_putBlock_149 : decode cX7_putBlock 149 = .ok (.iload 7, 2) := by decide +kernel
theorem dX7_putBlock_151 : decode cX7_putBlock 151 = .ok (.iadd, 1) := by decide +kernel
theorem dX7_putBlock_152 : decode cX7_putBlock 152 = .ok (.invokevirtual 160, 3) := by decide +kernel
theorem dX7_putBlock_155 : decode cX7_putBlock 155 = .ok (.iadd, 1) := by decide +kernel
theorem dX7_putBlock_156 : decode cX7_putBlock 156 = .ok (.istore 9, 2) := by decide +kernel
theorem dX7_putBlock_158 : decode cX7_putBlock 158 = .ok (.aload_n 0, 1) := by decide +kernel
theorem dX7_putBlock_159 : decode cX7_putBlock 159 = .ok (.getfield 19, 3) := by decide +kernel
theorem dX7_putBlock_162 : decode cX7_putBlock 162 = .ok (.iload 4, 2) := by decide +kernel
theorem dX7_putBlock_164 : decode cX7_putBlock 164 = .ok (.iload 5, 2) := by decide +kernel
theorem dX7_putBlock_166 : decode cX7_putBlock 166 = .ok (.iload 8, 2) := by decide +kernel
theorem dX7_putBlock_168 : decode cX7_putBlock 168 = .ok (.iadd, 1) := by decide +kernel
theorem dX7_putBlock_169 : decode cX7_putBlock 169 = .ok (.iload 6, 2) := by decide +kernel
theorem dX7_putBlock_171 : decode cX7_putBlock 171 = .ok (.iload 7, 2) := by decide +kernel
theorem dX7_putBlock_173 : decode cX7_putBlock 173 = .ok (.iadd, 1) := by decide +kernel
theorem dX7_putBlock_174 : decode cX7_putBlock 174 = .ok (.invokestatic 150, 3) := by decide +kernel
theorem dX7_putBlock_177 : decode cX7_putBlock 177 = .ok (.iload 9, 2) := by decide +kernel
theorem dX7_putBlock_179 : decode cX7_putBlock 179 = .ok (.iconst 0, 1) := by decide +kernel
theorem dX7_putBlock_180 : decode cX7_putBlock 180 = .ok (.sipush 255, 3) := by decide +kernel
theorem dX7_putBlock_183 : decode cX7_putBlock 183 = .ok (.invokestatic 133, 3) := by decide +kernel
theorem dX7_putBlock_186 : decode cX7_putBlock 186 = .ok (.iastore, 1) := by decide +kernel
theorem dX7_putBlock_187 : decode cX7_putBlock 187 = .ok (.iinc 8 1, 3) := by decide +kernel
theorem dX7_putBlock_190 : decode cX7_putBlock 190 = .ok (.goto (-89), 3) := by decide +kernel
theorem dX7_putBlock_193 : decode cX7_putBlock 193 = .ok (.iinc 7 1, 3) := by decide +kernel
theorem dX7_putBlock_196 : decode cX7_putBlock 196 = .ok (.goto (-105), 3) := by decide +kernel
theorem dX7_putBlock_199 : decode cX7_putBlock 199 = .ok (.return_, 1) := by decide +kernel
theorem dX7_square_0 : decode cX7_square 0 = .ok (.aload_n 0, 1) := by decide +kernel
theorem dX7_square_1 : decode cX7_square 1 = .ok (.getfield 43, 3) := by decide +kernel
theorem dX7_square_4 : decode cX7_square 4 = .ok (.iconst 0, 1) := by decide +kernel
theorem dX7_square_5 : decode cX7_square 5 = .ok (.baload, 1) := by decide +kernel
theorem dX7_square_6 : decode cX7_square 6 = .ok (.ifCond .ne 12, 3) := by decide +kernel
theorem dX7_square_9 : decode cX7_square 9 = .ok (.aload_n 0, 1) := by decide +kernel
theorem dX7_square_10 : decode cX7_square 10 = .ok (.getfield 43, 3) := by decide +kernel
theorem dX7_square_13 : decode cX7_square 13 = .ok (.iconst 1, 1) := by decide +kernel
theorem dX7_square_14 : decode cX7_square 14 = .ok (.baload, 1) := by decide +kernel
theorem dX7_square_15 : decode cX7_square 15 = .ok (.ifCond .eq 7, 3) := by decide +kernel
theorem dX7_square_18 : decode cX7_square 18 = .ok (.iconst 1, 1) := by decide +kernel
theorem dX7_square_19 : decode cX7_square 19 = .ok (.goto 4, 3) := by decide +kernel
theorem dX7_square_22 : decode cX7_square 22 = .ok (.iconst 0, 1) := by decide +kernel
theorem dX7_square_23 : decode cX7_square 23 = .ok (.istore_n 1, 1) := by decide +kernel
theorem dX7_square_24 : decode cX7_square 24 = .ok (.aload_n 0, 1) := by decide +kernel
theorem dX7_square_25 : decode cX7_square 25 = .ok (.aload_n 0, 1) := by decide +kernel
theorem dX7_square_26 : decode cX7_square 26 = .ok (.invokevirtual 125, 3) := by decide +kernel
theorem dX7_square_29 : decode cX7_square 29 = .ok (.ifCond .ne 37, 3) := by decide +kernel
theorem dX7_square_32 : decode cX7_square 32 = .ok (.aload_n 0, 1) := by decide +kernel
theorem dX7_square_33 : decode cX7_square 33 = .ok (.getfield 95, 3) := by decide +kernel
theorem dX7_square_36 : decode cX7_square 36 = .ok (.iconst 1, 1) := by decide +kernel
theorem dX7_square_37 : decode cX7_square 37 = .ok (.if_icmp .ne 10, 3) := by decide +kernel
theorem dX7_square_40 : decode cX7_square 40 = .ok (.aload_n 0, 1) := by decide +kernel
theorem dX7_square_41 : decode cX7_square 41 = .ok (.getfield 110, 3) := by decide +kernel
theorem dX7_square_44 : decode cX7_square 44 = .ok (.ifCond .eq 22, 3) := by decide +kernel
theorem dX7_square_47 : decode cX7_square 47 = .ok (.aload_n 0, 1) := by decide +kernel
theorem dX7_square_48 : decode cX7_square 48 = .ok (.getfield 95, 3) := by decide +kernel
theorem dX7_square_51 : decode cX7_square 51 = .ok (.iconst 3, 1) := by decide +kernel
theorem dX7_square_52 : decode cX7_square 52 = .ok (.if_icmp .ne 18, 3) := by decide +kernel
theorem dX7_square_55 : decode cX7_square 55 = .ok (.aload_n 0, 1) := by decide +kernel
theorem dX7_square_56 : decode cX7_square 56 = .ok (.getfield 110, 3) := by decide +kernel
theorem dX7_square_59 : decode cX7_square 59 = .ok (.ifCond .ne 11, 3) := by decide +kernel
theorem dX7_square_62 : decode cX7_square 62 = .ok (.iload_n 1, 1) := by decide +kernel
theorem dX7_square_63 : decode cX7_square 63 = .ok (.ifCond .ne 7, 3) := by decide +kernel
theorem dX7_square_66 : decode cX7_square 66 = .ok (.iconst 1, 1) := by decide +kernel
theorem dX7_square_67 : decode cX7_square 67 = .ok (.goto 4, 3) := by decide +kernel
theorem dX7_square_70 : decode cX7_square 70 = .ok (.iconst 0, 1) := by decide +kernel
theorem dX7_square_71 : decode cX7_square 71 = .ok (.putfield 66, 3) := by decide +kernel
theorem dX7_square_74 : decode cX7_square 74 = .ok (.aload_n 0, 1) := by decide +kernel
theorem dX7_square_75 : decode cX7_square 75 = .ok (.getfield 66, 3) := by decide +kernel
theorem dX7_square_78 : decode cX7_square 78 = .ok (.ifCond .le 5, 3) := by decide +kernel
theorem dX7_square_81 : decode cX7_square 81 = .ok (.iconst 0, 1) := by decide +kernel
theorem dX7_square_82 : decode cX7_square 82 = .ok (.ireturn, 1) := by decide +kernel
theorem dX7_square_83 : decode cX7_square 83 = .ok (.aload_n 0, 1) := by decide +kernel
theorem dX7_square_84 : decode cX7_square 84 = .ok (.getfield 110, 3) := by decide +kernel
theorem dX7_square_87 : decode cX7_square 87 = .ok (.ifCond .ne 15, 3) := by decide +kernel
theorem dX7_square_90 : decode cX7_square 90 = .ok (.aload_n 0, 1) := by decide +kernel
theorem dX7_square_91 : decode cX7_square 91 = .ok (.getfield 95, 3) := by decide +kernel
theorem dX7_square_94 : decode cX7_square 94 = .ok (.iconst 2, 1) := by decide +kernel
theorem dX7_square_95 : decode cX7_square 95 = .ok (.if_icmp .ne 11, 3) := by decide +kernel
theorem dX7_square_98 : decode cX7_square 98 = .ok (.iload_n 1, 1) := by decide +kernel
