theorem dX7_square_99 : decode cX7_square 99 = .ok (.ifCond .ne 7, 3) := by decide +kernel
theorem dX7_square_102 : decode cX7_square 102 = .ok (.aload_n 0, 1) := by decide +kernel
theorem dX7_square_103 : decode cX7_square 103 = .ok (.invokevirtual 101, 3) := by decide +kernel
theorem dX7_square_106 : decode cX7_square 106 = .ok (.aload_n 0, 1) := by decide +kernel
theorem dX7_square_107 : decode cX7_square 107 = .ok (.getfield 95, 3) := by decide +kernel
theorem dX7_square_110 : decode cX7_square 110 = .ok (.iconst 2, 1) := by decide +kernel
theorem dX7_square_111 : decode cX7_square 111 = .ok (.if_icmp .eq 12, 3) := by decide +kernel
theorem dX7_square_114 : decode cX7_square 114 = .ok (.aload_n 0, 1) := by decide +kernel
theorem dX7_square_115 : decode cX7_square 115 = .ok (.getfield 43, 3) := by decide +kernel
theorem dX7_square_118 : decode cX7_square 118 = .ok (.iconst 0, 1) := by decide +kernel
theorem dX7_square_119 : decode cX7_square 119 = .ok (.baload, 1) := by decide +kernel
theorem dX7_square_120 : decode cX7_square 120 = .ok (.ifCond .eq 7, 3) := by decide +kernel
theorem dX7_square_123 : decode cX7_square 123 = .ok (.iconst 1, 1) := by decide +kernel
theorem dX7_square_124 : decode cX7_square 124 = .ok (.goto 4, 3) := by decide +kernel
theorem dX7_square_127 : decode cX7_square 127 = .ok (.iconst 0, 1) := by decide +kernel
theorem dX7_square_128 : decode cX7_square 128 = .ok (.istore_n 2, 1) := by decide +kernel
theorem dX7_square_129 : decode cX7_square 129 = .ok (.iconst 0, 1) := by decide +kernel
theorem dX7_square_130 : decode cX7_square 130 = .ok (.istore_n 3, 1) := by decide +kernel
theorem dX7_square_131 : decode cX7_square 131 = .ok (.iload_n 3, 1) := by decide +kernel
theorem dX7_square_132 : decode cX7_square 132 = .ok (.bipush 6, 2) := by decide +kernel
theorem dX7_square_134 : decode cX7_square 134 = .ok (.if_icmp .ge 30, 3) := by decide +kernel
theorem dX7_square_137 : decode cX7_square 137 = .ok (.aload_n 0, 1) := by decide +kernel
theorem dX7_square_138 : decode cX7_square 138 = .ok (.iload_n 3, 1) := by decide +kernel
theorem dX7_square_139 : decode cX7_square 139 = .ok (.invokevirtual 164, 3) := by decide +kernel
theorem dX7_square_142 : decode cX7_square 142 = .ok (.aload_n 0, 1) := by decide +kernel
theorem dX7_square_143 : decode cX7_square 143 = .ok (.invokevirtual 168, 3) := by decide +kernel
theorem dX7_square_146 : decode cX7_square 146 = .ok (.aload_n 0, 1) := by decide +kernel
theorem dX7_square_147 : decode cX7_square 147 = .ok (.iload_n 3, 1) := by decide +kernel
theorem dX7_square_148 : decode cX7_square 148 = .ok (.iload_n 2, 1) := by decide +kernel
theorem dX7_square_149 : decode cX7_square 149 = .ok (.aload_n 0, 1) := by decide +kernel
theorem dX7_square_150 : decode cX7_square 150 = .ok (.getfield 43, 3) := by decide +kernel
theorem dX7_square_153 : decode cX7_square 153 = .ok (.iconst 1, 1) := by decide +kernel
theorem dX7_square_154 : decode cX7_square 154 = .ok (.baload, 1) := by decide +kernel
theorem dX7_square_155 : decode cX7_square 155 = .ok (.invokevirtual 171, 3) := by decide +kernel
theorem dX7_square_158 : decode cX7_square 158 = .ok (.iinc 3 1, 3) := by decide +kernel
theorem dX7_square_161 : decode cX7_square 161 = .ok (.goto (-30), 3) := by decide +kernel
theorem dX7_square_164 : decode cX7_square 164 = .ok (.aload_n 0, 1) := by decide +kernel
theorem dX7_square_165 : decode cX7_square 165 = .ok (.getfield 110, 3) := by decide +kernel
theorem dX7_square_168 : decode cX7_square 168 = .ok (.ifCond .ne 7, 3) := by decide +kernel
theorem dX7_square_171 : decode cX7_square 171 = .ok (.aload_n 0, 1) := by decide +kernel
theorem dX7_square_172 : decode cX7_square 172 = .ok (.invokevirtual 104, 3) := by decide +kernel
theorem dX7_square_175 : decode cX7_square 175 = .ok (.aload_n 0, 1) := by decide +kernel
theorem dX7_square_176 : decode cX7_square 176 = .ok (.iconst 1, 1) := by decide +kernel
theorem dX7_square_177 : decode cX7_square 177 = .ok (.putfield 122, 3) := by decide +kernel
theorem dX7_square_180 : decode cX7_square 180 = .ok (.aload_n 0, 1) := by decide +kernel
theorem dX7_square_181 : decode cX7_square 181 = .ok (.aload_n 0, 1) := by decide +kernel
theorem dX7_square_182 : decode cX7_square 182 = .ok (.getfield 110, 3) := by decide +kernel
theorem dX7_square_185 : decode cX7_square 185 = .ok (.putfield 175, 3) := by decide +kernel
theorem dX7_square_188 : decode cX7_square 188 = .ok (.aload_n 0, 1) := by decide +kernel
theorem dX7_square_189 : decode cX7_square 189 = .ok (.getfield 50, 3) := by decide +kernel
theorem dX7_square_192 : decode cX7_square 192 = .ok (.iconst 0, 1) := by decide +kernel
theorem dX7_square_193 : decode cX7_square 193 = .ok (.aload_n 0, 1) := by decide +kernel
theorem dX7_square_194 : decode cX7_square 194 = .ok (.getfield 43, 3) := by decide +kernel
theorem dX7_square_197 : decode cX7_square 197 = .ok (.iconst 0, 1) := by decide +kernel
theorem dX7_square_198 : decode cX7_square 198 = .ok (.baload, 1) := by decide +kernel
theorem dX7_square_199 : decode cX7_square 199 = .ok (.bastore, 1) := by decide +kernel
theorem dX7_square_200 : decode cX7_square 200 = .ok (.aload_n 0, 1) := by decide +kernel
theorem dX7_square_201 : decode cX7_square 201 = .ok (.getfield 50, 3) := by decide +kernel
theorem dX7_square_204 : decode cX7_square 204 = .ok (.iconst 1, 1) := by decide +kernel
theorem dX7_square_205 : decode cX7_square 205 = .ok (.aload_n 0, 1) := by decide +kernel
theorem dX7_square_206 : decode cX7_square 206 = .ok (.getfield 43, 3) := by decide +kernel
theorem dX7_square_209 : decode cX7_square 209 = .ok (.iconst 1, 1) := by decide +kernel
theorem dX7_square_210 : decode cX7_square 210 = .ok (.baload, 1) := by decide +kernel
theorem dX7_square_211 : decode cX7_square 211 = .ok (.bastore, 1) := by decide +kernel
theorem dX7_square_212 : decode cX7_square 212 = .ok (.aload_n 0, 1) := by decide +kernel
theorem dX7_square_213 : decode cX7_square 213 = .ok (.invokevirtual 107, 3) := by decide +kernel
theorem dX7_square_216 : decode cX7_square 216 = .ok (.aload_n 0, 1) := by decide +kernel
theorem dX7_square_217 : decode cX7_square 217 = .ok (.dup, 1) := by decide +kernel
theorem dX7_square_218 : decode cX7_square 218 = .ok (.getfield 98, 3) := by decide +kernel
theorem dX7_square_221 : decode cX7_square 221 = .ok (.iconst 1, 1) := by decide +kernel
theorem dX7_square_222 : decode cX7_square 222 = .ok (.iadd, 1) := by decide +kernel
theorem dX7_square_223 : decode cX7_square 223 = .ok (.putfield 98, 3) := by decide +kernel
theorem dX7_square_226 : decode cX7_square 226 = .ok (.aload_n 0, 1) := by decide +kernel
theorem dX7_square_227 : decode cX7_square 227 = .ok (.getfield 98, 3) := by decide +kernel
theorem dX7_square_230 : decode cX7_square 230 = .ok (.ireturn, 1) := by decide +kernel
theorem dX7_leave_0 : decode cX7_leave 0 = .ok (.aload_n 0, 1) := by decide +kernel
theorem dX7_leave_1 : decode cX7_leave 1 = .ok (.getfield 95, 3) := by decide +kernel
theorem dX7_leave_4 : decode cX7_leave 4 = .ok (.ifCond .ne 7, 3) := by decide +kernel
theorem dX7_leave_7 : decode cX7_leave 7 = .ok (.iconst 0, 1) := by decide +kernel
theorem dX7_leave_8 : decode cX7_leave 8 = .ok (.goto 17, 3) := by decide +kernel
theorem dX7_leave_11 : decode cX7_leave 11 = .ok (.aload_n 0, 1) := by decide +kernel
theorem dX7_leave_12 : decode cX7_leave 12 = .ok (.getfield 70, 3) := by decide +kernel
theorem dX7_leave_15 : decode cX7_leave 15 = .ok (.aload_n 0, 1) := by decide +kernel
theorem dX7_leave_16 : decode cX7_leave 16 = .ok (.getfield 73, 3) := by decide +kernel
theorem dX7_leave_19 : decode cX7_leave 19 = .ok (.imul, 1) := by decide +kernel
theorem dX7_leave_20 : decode cX7_leave 20 = .ok (.aload_n 0, 1) := by decide +kernel
theorem dX7_leave_21 : decode cX7_leave 21 = .ok (.getfield 98, 3) := by decide +kernel
theorem dX7_leave_24 : decode cX7_leave 24 = .ok (.isub, 1) := by decide +kernel
theorem dX7_leave_25 : decode cX7_leave 25 = .ok (.istore_n 2, 1) := by decide +kernel
theorem dX7_leave_26 : decode cX7_leave 26 = .ok (.aload_n 0, 1) := by decide +kernel
theorem dX7_leave_27 : decode cX7_leave 27 = .ok (.getfield 95, 3) := by decide +kernel
theorem dX7_leave_30 : decode cX7_leave 30 = .ok (.iconst 3, 1) := by decide +kernel
theorem dX7_leave_31 : decode cX7_leave 31 = .ok (.if_icmp .ne 21, 3) := by decide +kernel
theorem dX7_leave_34 : decode cX7_leave 34 = .ok (.aload_n 0, 1) := by decide +kernel
theorem dX7_leave_35 : decode cX7_leave 35 = .ok (.getfield 122, 3) := by decide +kernel
theorem dX7_leave_38 : decode cX7_leave 38 = .ok (.ifCond .eq 10, 3) := by decide +kernel
theorem dX7_leave_41 : decode cX7_leave 41 = .ok (.aload_n 0, 1) := by decide +kernel
theorem dX7_leave_42 : decode cX7_leave 42 = .ok (.getfield 175, 3) := by decide +kernel
theorem dX7_leave_45 : decode cX7_leave 45 = .ok (.ifCond .eq 7, 3) := by decide +kernel
theorem dX7_leave_48 : decode cX7_leave 48 = .ok (.iconst 1, 1) := by decide +kernel
theorem dX7_leave_49 : decode cX7_leave 49 = .ok (.goto 4, 3) := by decide +kernel
theorem dX7_leave_52 : decode cX7_leave 52 = .ok (.iconst 0, 1) := by decide +kernel
theorem dX7_leave_53 : decode cX7_leave 53 = .ok (.istore_n 3, 1) := by decide +kernel
theorem dX7_leave_54 : decode cX7_leave 54 = .ok (.aload_n 0, 1) := by decide +kernel
theorem dX7_leave_55 : decode cX7_leave 55 = .ok (.iload_n 1, 1) := by decide +kernel
theorem dX7_leave_56 : decode cX7_leave 56 = .ok (.iconst 1, 1) := by decide +kernel
theorem dX7_leave_57 : decode cX7_leave 57 = .ok (.if_icmp .lt 8, 3) := by decide +kernel
theorem dX7_leave_60 : decode cX7_leave 60 = .ok (.iload_n 1, 1) := by decide +kernel
theorem dX7_leave_61 : decode cX7_leave 61 = .ok (.iload_n 2, 1) := by decide +kernel
theorem dX7_leave_62 : decode cX7_leave 62 = .ok (.if_icmp .le 7, 3) := by decide +kernel
theorem dX7_leave_65 : decode cX7_leave 65 = .ok (.iconst 1, 1) := by decide +kernel
theorem dX7_leave_66 : decode cX7_leave 66 = .ok (.goto 34, 3) := by decide +kernel
theorem dX7_leave_69 : decode cX7_leave 69 = .ok (.aload_n 0, 1) := by decide +kernel
theorem dX7_leave_70 : decode cX7_leave 70 = .ok (.getfield 95, 3) := by decide +kernel
theorem dX7_leave_73 : decode cX7_leave 73 = .ok (.ifCond .eq 22, 3) := by decide +kernel
theorem dX7_leave_76 : decode cX7_leave 76 = .ok (.aload_n 0, 1) := by decide +kernel
theorem dX7_leave_77 : decode cX7_leave 77 = .ok (.getfield 95, 3) := by decide +kernel
theorem dX7_leave_80 : decode cX7_leave 80 = .ok (.iconst 1, 1) := by decide +kernel
theorem dX7_leave_81 : decode cX7_leave 81 = .ok (.if_icmp .eq 14, 3) := by decide +kernel
theorem dX7_leave_84 : decode cX7_leave 84 = .ok (.aload_n 0, 1) := by decide +kernel
theorem dX7_leave_85 : decode cX7_leave 85 = .ok (.getfield 113, 3) := by decide +kernel
theorem dX7_leave_88 : decode cX7_leave 88 = .ok (.ifCond .ne 7, 3) := by decide +kernel
theorem dX7_leave_91 : decode cX7_leave 91 = .ok (.iload_n 3, 1) := by decide +kernel
theorem dX7_leave_92 : decode cX7_leave 92 = .ok (.ifCond .eq 7, 3) := by decide +kernel
theorem dX7_leave_95 : decode cX7_leave 95 = .ok (.iconst 2, 1) := by decide +kernel
theorem dX7_leave_96 : decode cX7_leave 96 = .ok (.goto 4, 3) := by decide +kernel
theorem dX7_leave_99 : decode cX7_leave 99 = .ok (.iconst 0, 1) := by decide +kernel
theorem dX7_leave_100 : decode cX7_leave 100 = .ok (.putfield 66, 3) := by decide +kernel
theorem dX7_leave_103 : decode cX7_leave 103 = .ok (.aload_n 0, 1) := by decide +kernel
theorem dX7_leave_104 : decode cX7_leave 104 = .ok (.getfield 66, 3) := by decide +kernel
theorem dX7_leave_107 : decode cX7_leave 107 = .ok (.ifCond .le 5, 3) := by decide +kernel
theorem dX7_leave_110 : decode cX7_leave 110 = .ok (.iconst 0, 1) := by decide +kernel
theorem dX7_leave_111 : decode cX7_leave 111 = .ok (.ireturn, 1) := by decide +kernel
theorem dX7_leave_112 : decode cX7_leave 112 = .ok (.aload_n 0, 1) := by decide +kernel
theorem dX7_leave_113 : decode cX7_leave 113 = .ok (.getfield 95, 3) := by decide +kernel
theorem dX7_leave_116 : decode cX7_leave 116 = .ok (.iconst 2, 1) := by decide +kernel
theorem dX7_leave_117 : decode cX7_leave 117 = .ok (.if_icmp .ne 7, 3) := by decide +kernel
theorem dX7_leave_120 : decode cX7_leave 120 = .ok (.aload_n 0, 1) := by decide +kernel
theorem dX7_leave_121 : decode cX7_leave 121 = .ok (.invokevirtual 101, 3) := by decide +kernel
theorem dX7_leave_124 : decode cX7_leave 124 = .ok (.aload_n 0, 1) := by decide +kernel
theorem dX7_leave_125 : decode cX7_leave 125 = .ok (.invokevirtual 104, 3) := by decide +kernel
theorem dX7_leave_128 : decode cX7_leave 128 = .ok (.iconst 0, 1) := by decide +kernel
theorem dX7_leave_129 : decode cX7_leave 129 = .ok (.istore 4, 2) := by decide +kernel
theorem dX7_leave_131 : decode cX7_leave 131 = .ok (.iload 4, 2) := by decide +kernel
theorem dX7_leave_133 : decode cX7_leave 133 = .ok (.bipush 64, 2) := by decide +kernel
theorem dX7_leave_135 : decode cX7_leave 135 = .ok (.if_icmp .ge 17, 3) := by decide +kernel
theorem dX7_leave_138 : decode cX7_leave 138 = .ok (.aload_n 0, 1) := by decide +kernel
theorem dX7_leave_139 : decode cX7_leave 139 = .ok (.getfield 59, 3) := by decide +kernel
theorem dX7_leave_142 : decode cX7_leave 142 = .ok (.iload 4, 2) := by decide +kernel
theorem dX7_leave_144 : decode cX7_leave 144 = .ok (.iconst 0, 1) := by decide +kernel
theorem dX7_leave_145 : decode cX7_leave 145 = .ok (.iastore, 1) := by decide +kernel
theorem dX7_leave_146 : decode cX7_leave 146 = .ok (.iinc 4 1, 3) := by decide +kernel
theorem dX7_leave_149 : decode cX7_leave 149 = .ok (.goto (-18), 3) := by decide +kernel
theorem dX7_leave_152 : decode cX7_leave 152 = .ok (.iconst 0, 1) := by decide +kernel
theorem dX7_leave_153 : decode cX7_leave 153 = .ok (.istore 4, 2) := by decide +kernel
theorem dX7_leave_155 : decode cX7_leave 155 = .ok (.iload 4, 2) := by decide +kernel
theorem dX7_leave_157 : decode cX7_leave 157 = .ok (.iload_n 1, 1) := by decide +kernel
theorem dX7_leave_158 : decode cX7_leave 158 = .ok (.if_icmp .ge 85, 3) := by decide +kernel
theorem dX7_leave_161 : decode cX7_leave 161 = .ok (.iconst 0, 1) := by decide +kernel
theorem dX7_leave_162 : decode cX7_leave 162 = .ok (.istore 5, 2) := by decide +kernel
theorem dX7_leave_164 : decode cX7_leave 164 = .ok (.iload 5, 2) := by decide +kernel
theorem dX7_leave_166 : decode cX7_leave 166 = .ok (.bipush 6, 2) := by decide +kernel
theorem dX7_leave_168 : decode cX7_leave 168 = .ok (.if_icmp .ge 59, 3) := by decide +kernel
theorem dX7_leave_171 : decode cX7_leave 171 = .ok (.aload_n 0, 1) := by decide +kernel
theorem dX7_leave_172 : decode cX7_leave 172 = .ok (.iload 5, 2) := by decide +kernel
theorem dX7_leave_174 : decode cX7_leave 174 = .ok (.aload_n 0, 1) := by decide +kernel
theorem dX7_leave_175 : decode cX7_leave 175 = .ok (.getfield 95, 3) := by decide +kernel
theorem dX7_leave_178 : decode cX7_leave 178 = .ok (.iconst 2, 1) := by decide +kernel
theorem dX7_leave_179 : decode cX7_leave 179 = .ok (.if_icmp .eq 12, 3) := by decide +kernel
theorem dX7_leave_182 : decode cX7_leave 182 = .ok (.aload_n 0, 1) := by decide +kernel
theorem dX7_leave_183 : decode cX7_leave 183 = .ok (.getfield 50, 3) := by decide +kernel
theorem dX7_leave_186 : decode cX7_leave 186 = .ok (.iconst 0, 1) := by decide +kernel
theorem dX7_leave_187 : decode cX7_leave 187 = .ok (.baload, 1) := by decide +kernel
theorem dX7_leave_188 : decode cX7_leave 188 = .ok (.ifCond .eq 7, 3) := by decide +kernel
theorem dX7_leave_191 : decode cX7_leave 191 = .ok (.iconst 1, 1) := by decide +kernel
theorem dX7_leave_192 : decode cX7_leave 192 = .ok (.goto 4, 3) := by decide +kernel
theorem dX7_leave_195 : decode cX7_leave 195 = .ok (.iconst 0, 1) := by decide +kernel
theorem dX7_leave_196 : decode cX7_leave 196 = .ok (.aload_n 0, 1) := by decide +kernel
theorem dX7_leave_197 : decode cX7_leave 197 = .ok (.getfield 95, 3) := by decide +kernel
theorem dX7_leave_200 : decode cX7_leave 200 = .ok (.iconst 3, 1) := by decide +kernel
theorem dX7_leave_201 : decode cX7_leave 201 = .ok (.if_icmp .ne 16, 3) := by decide +kernel
theorem dX7_leave_204 : decode cX7_leave 204 = .ok (.aload_n 0, 1) := by decide +kernel
theorem dX7_leave_205 : decode cX7_leave 205 = .ok (.getfield 50, 3) := by decide +kernel
theorem dX7_leave_208 : decode cX7_leave 208 = .ok (.iconst 1, 1) := by decide +kernel
theorem dX7_leave_209 : decode cX7_leave 209 = .ok (.baload, 1) := by decide +kernel
theorem dX7_leave_210 : decode cX7_leave 210 = .ok (.ifCond .eq 7, 3) := by decide +kernel
theorem dX7_leave_213 : decode cX7_leave 213 = .ok (.iconst 1, 1) := by decide +kernel
theorem dX7_leave_214 : decode cX7_leave 214 = .ok (.goto 4, 3) := by decide +kernel
theorem dX7_leave_217 : decode cX7_leave 217 = .ok (.iconst 0, 1) := by decide +kernel
theorem dX7_leave_218 : decode cX7_leave 218 = .ok (.invokevirtual 171, 3) := by decide +kernel
theorem dX7_leave_221 : decode cX7_leave 221 = .ok (.iinc 5 1, 3) := by decide +kernel
theorem dX7_leave_224 : decode cX7_leave 224 = .ok (.goto (-60), 3) := by decide +kernel
theorem dX7_leave_227 : decode cX7_leave 227 = .ok (.aload_n 0, 1) := by decide +kernel
theorem dX7_leave_228 : decode cX7_leave 228 = .ok (.dup, 1) := by decide +kernel
theorem dX7_leave_229 : decode cX7_leave 229 = .ok (.getfield 98, 3) := by decide +kernel
theorem dX7_leave_232 : decode cX7_leave 232 = .ok (.iconst 1, 1) := by decide +kernel
theorem dX7_leave_233 : decode cX7_leave 233 = .ok (.iadd, 1) := by decide +kernel
theorem dX7_leave_234 : decode cX7_leave 234 = .ok (.putfield 98, 3) := by decide +kernel
theorem dX7_leave_237 : decode cX7_leave 237 = .ok (.iinc 4 1, 3) := by decide +kernel
theorem dX7_leave_240 : decode cX7_leave 240 = .ok (.goto (-85), 3) := by decide +kernel
theorem dX7_leave_243 : decode cX7_leave 243 = .ok (.aload_n 0, 1) := by decide +kernel
theorem dX7_leave_244 : decode cX7_leave 244 = .ok (.getfield 95, 3) := by decide +kernel
theorem dX7_leave_247 : decode cX7_leave 247 = .ok (.iconst 2, 1) := by decide +kernel
theorem dX7_leave_248 : decode cX7_leave 248 = .ok (.if_icmp .ne 27, 3) := by decide +kernel
theorem dX7_leave_251 : decode cX7_leave 251 = .ok (.aload_n 0, 1) := by decide +kernel
theorem dX7_leave_252 : decode cX7_leave 252 = .ok (.iconst 1, 1) := by decide +kernel
theorem dX7_leave_253 : decode cX7_leave 253 = .ok (.putfield 122, 3) := by decide +kernel
theorem dX7_leave_256 : decode cX7_leave 256 = .ok (.aload_n 0, 1) := by decide +kernel
theorem dX7_leave_257 : decode cX7_leave 257 = .ok (.iconst 0, 1) := by decide +kernel
theorem dX7_leave_258 : decode cX7_leave 258 = .ok (.putfield 175, 3) := by decide +kernel
theorem dX7_leave_261 : decode cX7_leave 261 = .ok (.aload_n 0, 1) := by decide +kernel
theorem dX7_leave_262 : decode cX7_leave 262 = .ok (.getfield 50, 3) := by decide +kernel
theorem dX7_leave_265 : decode cX7_leave 265 = .ok (.iconst 0, 1) := by decide +kernel
theorem dX7_leave_266 : decode cX7_leave 266 = .ok (.iconst 1, 1) := by decide +kernel
theorem dX7_leave_267 : decode cX7_leave 267 = .ok (.bastore, 1) := by decide +kernel
theorem dX7_leave_268 : decode cX7_leave 268 = .ok (.aload_n 0, 1) := by decide +kernel
theorem dX7_leave_269 : decode cX7_leave 269 = .ok (.getfield 50, 3) := by decide +kernel
theorem dX7_leave_272 : decode cX7_leave 272 = .ok (.iconst 1, 1) := by decide +kernel
theorem dX7_leave_273 : decode cX7_leave 273 = .ok (.iconst 0, 1) := by decide +kernel
theorem dX7_leave_274 : decode cX7_leave 274 = .ok (.bastore, 1) := by decide +kernel
theorem dX7_leave_275 : decode cX7_leave 275 = .ok (.aload_n 0, 1) := by decide +kernel
theorem dX7_leave_276 : decode cX7_leave 276 = .ok (.getfield 98, 3) := by decide +kernel
theorem dX7_leave_279 : decode cX7_leave 279 = .ok (.ireturn, 1) := by decide +kernel
theorem dX7_show_0 : decode cX7_show 0 = .ok (.iconst 0, 1) := by decide +kernel
theorem dX7_show_1 : decode cX7_show 1 = .ok (.istore_n 2, 1) := by decide +kernel
theorem dX7_show_2 : decode cX7_show 2 = .ok (.iload_n 2, 1) := by decide +kernel
theorem dX7_show_3 : decode cX7_show 3 = .ok (.sipush 4608, 3) := by decide +kernel
theorem dX7_show_6 : decode cX7_show 6 = .ok (.if_icmp .ge 18, 3) := by decide +kernel
theorem dX7_show_9 : decode cX7_show 9 = .ok (.aload_n 0, 1) := by decide +kernel
theorem dX7_show_10 : decode cX7_show 10 = .ok (.getfield 28, 3) := by decide +kernel
theorem dX7_show_13 : decode cX7_show 13 = .ok (.iload_n 2, 1) := by decide +kernel
theorem dX7_show_14 : decode cX7_show 14 = .ok (.aload_n 1, 1) := by decide +kernel
theorem dX7_show_15 : decode cX7_show 15 = .ok (.iload_n 2, 1) := by decide +kernel
theorem dX7_show_16 : decode cX7_show 16 = .ok (.iaload, 1) := by decide +kernel
theorem dX7_show_17 : decode cX7_show 17 = .ok (.iastore, 1) := by decide +kernel
theorem dX7_show_18 : decode cX7_show 18 = .ok (.iinc 2 1, 3) := by decide +kernel
theorem dX7_show_21 : decode cX7_show 21 = .ok (.goto (-19), 3) := by decide +kernel
theorem dX7_show_24 : decode cX7_show 24 = .ok (.aload_n 0, 1) := by decide +kernel
theorem dX7_show_25 : decode cX7_show 25 = .ok (.iconst 1, 1) := by decide +kernel
theorem dX7_show_26 : decode cX7_show 26 = .ok (.putfield 83, 3) := by decide +kernel
theorem dX7_show_29 : decode cX7_show 29 = .ok (.aload_n 0, 1) := by decide +kernel
theorem dX7_show_30 : decode cX7_show 30 = .ok (.dup, 1) := by decide +kernel
theorem dX7_show_31 : decode cX7_show 31 = .ok (.getfield 92, 3) := by decide +kernel
theorem dX7_show_34 : decode cX7_show 34 = .ok (.iconst 1, 1) := by decide +kernel
theorem dX7_show_35 : decode cX7_show 35 = .ok (.iadd, 1) := by decide +kernel
theorem dX7_show_36 : decode cX7_show 36 = .ok (.putfield 92, 3) := by decide +kernel
theorem dX7_show_39 : decode cX7_show 39 = .ok (.return_, 1) := by decide +kernel
theorem dX7_done_0 : decode cX7_done 0 = .ok (.aload_n 0, 1) := by decide +kernel
theorem dX7_done_1 : decode cX7_done 1 = .ok (.aload_n 0, 1) := by decide +kernel
theorem dX7_done_2 : decode cX7_done 2 = .ok (.getfield 95, 3) := by decide +kernel
theorem dX7_done_5 : decode cX7_done 5 = .ok (.ifCond .eq 19, 3) := by decide +kernel
theorem dX7_done_8 : decode cX7_done 8 = .ok (.aload_n 0, 1) := by decide +kernel
theorem dX7_done_9 : decode cX7_done 9 = .ok (.getfield 98, 3) := by decide +kernel
theorem dX7_done_12 : decode cX7_done 12 = .ok (.aload_n 0, 1) := by decide +kernel
theorem dX7_done_13 : decode cX7_done 13 = .ok (.getfield 70, 3) := by decide +kernel
theorem dX7_done_16 : decode cX7_done 16 = .ok (.aload_n 0, 1) := by decide +kernel
theorem dX7_done_17 : decode cX7_done 17 = .ok (.getfield 73, 3) := by decide +kernel
theorem dX7_done_20 : decode cX7_done 20 = .ok (.imul, 1) := by decide +kernel
theorem dX7_done_21 : decode cX7_done 21 = .ok (.if_icmp .ge 7, 3) := by decide +kernel
theorem dX7_done_24 : decode cX7_done 24 = .ok (.iconst 1, 1) := by decide +kernel
theorem dX7_done_25 : decode cX7_done 25 = .ok (.goto 4, 3) := by decide +kernel
theorem dX7_done_28 : decode cX7_done 28 = .ok (.iconst 0, 1) := by decide +kernel
theorem dX7_done_29 : decode cX7_done 29 = .ok (.putfield 66, 3) := by decide +kernel
theorem dX7_done_32 : decode cX7_done 32 = .ok (.aload_n 0, 1) := by decide +kernel
theorem dX7_done_33 : decode cX7_done 33 = .ok (.getfield 66, 3) := by decide +kernel
theorem dX7_done_36 : decode cX7_done 36 = .ok (.ifCond .le 5, 3) := by decide +kernel
theorem dX7_done_39 : decode cX7_done 39 = .ok (.iconst 0, 1) := by decide +kernel
theorem dX7_done_40 : decode cX7_done 40 = .ok (.ireturn, 1) := by decide +kernel
theorem dX7_done_41 : decode cX7_done 41 = .ok (.aload_n 0, 1) := by decide +kernel
theorem dX7_done_42 : decode cX7_done 42 = .ok (.getfield 95, 3) := by decide +kernel
theorem dX7_done_45 : decode cX7_done 45 = .ok (.iconst 3, 1) := by decide +kernel
theorem dX7_done_46 : decode cX7_done 46 = .ok (.if_icmp .ne 14, 3) := by decide +kernel
theorem dX7_done_49 : decode cX7_done 49 = .ok (.aload_n 0, 1) := by decide +kernel
theorem dX7_done_50 : decode cX7_done 50 = .ok (.aload_n 0, 1) := by decide +kernel
theorem dX7_done_51 : decode cX7_done 51 = .ok (.getfield 19, 3) := by decide +kernel
theorem dX7_done_54 : decode cX7_done 54 = .ok (.invokevirtual 178, 3) := by decide +kernel
theorem dX7_done_57 : decode cX7_done 57 = .ok (.goto 74, 3) := by decide +kernel
theorem dX7_done_60 : decode cX7_done 60 = .ok (.aload_n 0, 1) := by decide +kernel
theorem dX7_done_61 : decode cX7_done 61 = .ok (.getfield 76, 3) := by decide +kernel
theorem dX7_done_64 : decode cX7_done 64 = .ok (.ifCond .eq 18, 3) := by decide +kernel
theorem dX7_done_67 : decode cX7_done 67 = .ok (.aload_n 0, 1) := by decide +kernel
theorem dX7_done_68 : decode cX7_done 68 = .ok (.getfield 80, 3) := by decide +kernel
theorem dX7_done_71 : decode cX7_done 71 = .ok (.ifCond .ne 11, 3) := by decide +kernel
theorem dX7_done_74 : decode cX7_done 74 = .ok (.aload_n 0, 1) := by decide +kernel
theorem dX7_done_75 : decode cX7_done 75 = .ok (.aload_n 0, 1) := by decide +kernel
theorem dX7_done_76 : decode cX7_done 76 = .ok (.getfield 25, 3) := by decide +kernel
theorem dX7_done_79 : decode cX7_done 79 = .ok (.invokevirtual 178, 3) := by decide +kernel
theorem dX7_done_82 : decode cX7_done 82 = .ok (.iconst 0, 1) := by decide +kernel
theorem dX7_done_83 : decode cX7_done 83 = .ok (.istore_n 1, 1) := by decide +kernel
theorem dX7_done_84 : decode cX7_done 84 = .ok (.iload_n 1, 1) := by decide +kernel
theorem dX7_done_85 : decode cX7_done 85 = .ok (.sipush 4608, 3) := by decide +kernel
theorem dX7_done_88 : decode cX7_done 88 = .ok (.if_icmp .ge 33, 3) := by decide +kernel
theorem dX7_done_91 : decode cX7_done 91 = .ok (.aload_n 0, 1) := by decide +kernel
theorem dX7_done_92 : decode cX7_done 92 = .ok (.getfield 22, 3) := by decide +kernel
theorem dX7_done_95 : decode cX7_done 95 = .ok (.iload_n 1, 1) := by decide +kernel
theorem dX7_done_96 : decode cX7_done 96 = .ok (.aload_n 0, 1) := by decide +kernel
theorem dX7_done_97 : decode cX7_done 97 = .ok (.getfield 25, 3) := by decide +kernel
theorem dX7_done_100 : decode cX7_done 100 = .ok (.iload_n 1, 1) := by decide +kernel
theorem dX7_done_101 : decode cX7_done 101 = .ok (.iaload, 1) := by decide +kernel
theorem dX7_done_102 : decode cX7_done 102 = .ok (.iastore, 1) := by decide +kernel
theorem dX7_done_103 : decode cX7_done 103 = .ok (.aload_n 0, 1) := by decide +kernel
theorem dX7_done_104 : decode cX7_done 104 = .ok (.getfield 25, 3) := by decide +kernel
theorem dX7_done_107 : decode cX7_done 107 = .ok (.iload_n 1, 1) := by decide +kernel
theorem dX7_done_108 : decode cX7_done 108 = .ok (.aload_n 0, 1) := by decide +kernel
theorem dX7_done_109 : decode cX7_done 109 = .ok (.getfield 19, 3) := by decide +kernel
theorem dX7_done_112 : decode cX7_done 112 = .ok (.iload_n 1, 1) := by decide +kernel
theorem dX7_done_113 : decode cX7_done 113 = .ok (.iaload, 1) := by decide +kernel
theorem dX7_done_114 : decode cX7_done 114 = .ok (.iastore, 1) := by decide +kernel
theorem dX7_done_115 : decode cX7_done 115 = .ok (.iinc 1 1, 3) := by decide +kernel
theorem dX7_done_118 : decode cX7_done 118 = .ok (.goto (-34), 3) := by decide +kernel
theorem dX7_done_121 : decode cX7_done 121 = .ok (.aload_n 0, 1) := by decide +kernel
theorem dX7_done_122 : decode cX7_done 122 = .ok (.iconst 1, 1) := by decide +kernel
theorem dX7_done_123 : decode cX7_done 123 = .ok (.putfield 76, 3) := by decide +kernel
theorem dX7_done_126 : decode cX7_done 126 = .ok (.aload_n 0, 1) := by decide +kernel
theorem dX7_done_127 : decode cX7_done 127 = .ok (.iconst 0, 1) := by decide +kernel
theorem dX7_done_128 : decode cX7_done 128 = .ok (.putfield 80, 3) := by decide +kernel
theorem dX7_done_131 : decode cX7_done 131 = .ok (.aload_n 0, 1) := by decide +kernel
theorem dX7_done_132 : decode cX7_done 132 = .ok (.iconst 0, 1) := by decide +kernel
theorem dX7_done_133 : decode cX7_done 133 = .ok (.putfield 95, 3) := by decide +kernel
theorem dX7_done_136 : decode cX7_done 136 = .ok (.aload_n 0, 1) := by decide +kernel
theorem dX7_done_137 : decode cX7_done 137 = .ok (.iconst 0, 1) := by decide +kernel
theorem dX7_done_138 : decode cX7_done 138 = .ok (.putfield 98, 3) := by decide +kernel
theorem dX7_done_141 : decode cX7_done 141 = .ok (.aload_n 0, 1) := by decide +kernel
theorem dX7_done_142 : decode cX7_done 142 = .ok (.dup, 1) := by decide +kernel
theorem dX7_done_143 : decode cX7_done 143 = .ok (.getfield 89, 3) := by decide +kernel
theorem dX7_done_146 : decode cX7_done 146 = .ok (.iconst 1, 1) := by decide +kernel
theorem dX7_done_147 : decode cX7_done 147 = .ok (.iadd, 1) := by decide +kernel
theorem dX7_done_148 : decode cX7_done 148 = .ok (.putfield 89, 3) := by decide +kernel
theorem dX7_done_151 : decode cX7_done 151 = .ok (.aload_n 0, 1) := by decide +kernel
theorem dX7_done_152 : decode cX7_done 152 = .ok (.getfield 92, 3) := by decide +kernel
theorem dX7_done_155 : decode cX7_done 155 = .ok (.ireturn, 1) := by decide +kernel
theorem dX7_last_0 : decode cX7_last 0 = .ok (.aload_n 0, 1) := by decide +kernel
theorem dX7_last_1 : decode cX7_last 1 = .ok (.aload_n 0, 1) := by decide +kernel
theorem dX7_last_2 : decode cX7_last 2 = .ok (.getfield 95, 3) := by decide +kernel
theorem dX7_last_5 : decode cX7_last 5 = .ok (.ifCond .le 7, 3) := by decide +kernel
theorem dX7_last_8 : decode cX7_last 8 = .ok (.iconst 1, 1) := by decide +kernel
theorem dX7_last_9 : decode cX7_last 9 = .ok (.goto 4, 3) := by decide +kernel
theorem dX7_last_12 : decode cX7_last 12 = .ok (.iconst 0, 1) := by decide +kernel
theorem dX7_last_13 : decode cX7_last 13 = .ok (.putfield 66, 3) := by decide +kernel
theorem dX7_last_16 : decode cX7_last 16 = .ok (.aload_n 0, 1) := by decide +kernel
theorem dX7_last_17 : decode cX7_last 17 = .ok (.getfield 66, 3) := by decide +kernel
theorem dX7_last_20 : decode cX7_last 20 = .ok (.ifCond .le 5, 3) := by decide +kernel
theorem dX7_last_23 : decode cX7_last 23 = .ok (.iconst 0, 1) := by decide +kernel
theorem dX7_last_24 : decode cX7_last 24 = .ok (.ireturn, 1) := by decide +kernel
theorem dX7_last_25 : decode cX7_last 25 = .ok (.aload_n 0, 1) := by decide +kernel
theorem dX7_last_26 : decode cX7_last 26 = .ok (.getfield 76, 3) := by decide +kernel
theorem dX7_last_29 : decode cX7_last 29 = .ok (.ifCond .eq 23, 3) := by decide +kernel
theorem dX7_last_32 : decode cX7_last 32 = .ok (.aload_n 0, 1) := by decide +kernel
theorem dX7_last_33 : decode cX7_last 33 = .ok (.getfield 80, 3) := by decide +kernel
theorem dX7_last_36 : decode cX7_last 36 = .ok (.ifCond .ne 16, 3) := by decide +kernel
theorem dX7_last_39 : decode cX7_last 39 = .ok (.aload_n 0, 1) := by decide +kernel
theorem dX7_last_40 : decode cX7_last 40 = .ok (.aload_n 0, 1) := by decide +kernel
theorem dX7_last_41 : decode cX7_last 41 = .ok (.getfield 25, 3) := by decide +kernel
theorem dX7_last_44 : decode cX7_last 44 = .ok (.invokevirtual 178, 3) := by decide +kernel
theorem dX7_last_47 : decode cX7_last 47 = .ok (.aload_n 0, 1) := by decide +kernel
theorem dX7_last_48 : decode cX7_last 48 = .ok (.iconst 1, 1) := by decide +kernel
theorem dX7_last_49 : decode cX7_last 49 = .ok (.putfield 80, 3) := by decide +kernel
theorem dX7_last_52 : decode cX7_last 52 = .ok (.aload_n 0, 1) := by decide +kernel
theorem dX7_last_53 : decode cX7_last 53 = .ok (.getfield 92, 3) := by decide +kernel
theorem dX7_last_56 : decode cX7_last 56 = .ok (.ireturn, 1) := by decide +kernel
theorem dX7_sample_0 : decode cX7_sample 0 = .ok (.iload_n 1, 1) := by decide +kernel
theorem dX7_sample_1 : decode cX7_sample 1 = .ok (.ifCond .lt 38, 3) := by decide +kernel
theorem dX7_sample_4 : decode cX7_sample 4 = .ok (.iload_n 1, 1) := by decide +kernel
theorem dX7_sample_5 : decode cX7_sample 5 = .ok (.iconst 2, 1) := by decide +kernel
theorem dX7_sample_6 : decode cX7_sample 6 = .ok (.if_icmp .gt 33, 3) := by decide +kernel
theorem dX7_sample_9 : decode cX7_sample 9 = .ok (.iload_n 2, 1) := by decide +kernel
theorem dX7_sample_10 : decode cX7_sample 10 = .ok (.ifCond .lt 29, 3) := by decide +kernel
theorem dX7_sample_13 : decode cX7_sample 13 = .ok (.iload_n 3, 1) := by decide +kernel
theorem dX7_sample_14 : decode cX7_sample 14 = .ok (.ifCond .lt 25, 3) := by decide +kernel
theorem dX7_sample_17 : decode cX7_sample 17 = .ok (.iload_n 2, 1) := by decide +kernel
theorem dX7_sample_18 : decode cX7_sample 18 = .ok (.aload_n 0, 1) := by decide +kernel
theorem dX7_sample_19 : decode cX7_sample 19 = .ok (.iload_n 1, 1) := by decide +kernel
theorem dX7_sample_20 : decode cX7_sample 20 = .ok (.invokevirtual 144, 3) := by decide +kernel
theorem dX7_sample_23 : decode cX7_sample 23 = .ok (.if_icmp .ge 16, 3) := by decide +kernel
theorem dX7_sample_26 : decode cX7_sample 26 = .ok (.iload_n 3, 1) := by decide +kernel
theorem dX7_sample_27 : decode cX7_sample 27 = .ok (.aload_n 0, 1) := by decide +kernel
theorem dX7_sample_28 : decode cX7_sample 28 = .ok (.iload_n 1, 1) := by decide +kernel
theorem dX7_sample_29 : decode cX7_sample 29 = .ok (.invokevirtual 147, 3) := by decide +kernel
theorem dX7_sample_32 : decode cX7_sample 32 = .ok (.if_icmp .ge 7, 3) := by decide +kernel
theorem dX7_sample_35 : decode cX7_sample 35 = .ok (.iconst 1, 1) := by decide +kernel
theorem dX7_sample_36 : decode cX7_sample 36 = .ok (.goto 4, 3) := by decide +kernel
theorem dX7_sample_39 : decode cX7_sample 39 = .ok (.iconst 0, 1) := by decide +kernel
theorem dX7_sample_40 : decode cX7_sample 40 = .ok (.istore 4, 2) := by decide +kernel
theorem dX7_sample_42 : decode cX7_sample 42 = .ok (.aload_n 0, 1) := by decide +kernel
theorem dX7_sample_43 : decode cX7_sample 43 = .ok (.aload_n 0, 1) := by decide +kernel
theorem dX7_sample_44 : decode cX7_sample 44 = .ok (.getfield 83, 3) := by decide +kernel
theorem dX7_sample_47 : decode cX7_sample 47 = .ok (.ifCond .ne 7, 3) := by decide +kernel
theorem dX7_sample_50 : decode cX7_sample 50 = .ok (.iconst 1, 1) := by decide +kernel
theorem dX7_sample_51 : decode cX7_sample 51 = .ok (.goto 13, 3) := by decide +kernel
theorem dX7_sample_54 : decode cX7_sample 54 = .ok (.iload 4, 2) := by decide +kernel
theorem dX7_sample_56 : decode cX7_sample 56 = .ok (.ifCond .ne 7, 3) := by decide +kernel
theorem dX7_sample_59 : decode cX7_sample 59 = .ok (.iconst 2, 1) := by decide +kernel
theorem dX7_sample_60 : decode cX7_sample 60 = .ok (.goto 4, 3) := by decide +kernel
theorem dX7_sample_63 : decode cX7_sample 63 = .ok (.iconst 0, 1) := by decide +kernel
theorem dX7_sample_64 : decode cX7_sample 64 = .ok (.putfield 66, 3) := by decide +kernel
theorem dX7_sample_67 : decode cX7_sample 67 = .ok (.aload_n 0, 1) := by decide +kernel
theorem dX7_sample_68 : decode cX7_sample 68 = .ok (.getfield 66, 3) := by decide +kernel
theorem dX7_sample_71 : decode cX7_sample 71 = .ok (.ifCond .le 7, 3) := by decide +kernel
theorem dX7_sample_74 : decode cX7_sample 74 = .ok (.iconst 0, 1) := by decide +kernel
theorem dX7_sample_75 : decode cX7_sample 75 = .ok (.goto 14, 3) := by decide +kernel
theorem dX7_sample_78 : decode cX7_sample 78 = .ok (.aload_n 0, 1) := by decide +kernel
theorem dX7_sample_79 : decode cX7_sample 79 = .ok (.getfield 28, 3) := by decide +kernel
theorem dX7_sample_82 : decode cX7_sample 82 = .ok (.iload_n 1, 1) := by decide +kernel
theorem dX7_sample_83 : decode cX7_sample 83 = .ok (.iload_n 2, 1) := by decide +kernel
theorem dX7_sample_84 : decode cX7_sample 84 = .ok (.iload_n 3, 1) := by decide +kernel
theorem dX7_sample_85 : decode cX7_sample 85 = .ok (.invokestatic 150, 3) := by decide +kernel
theorem dX7_sample_88 : decode cX7_sample 88 = .ok (.iaload, 1) := by decide +kernel
theorem dX7_sample_89 : decode cX7_sample 89 = .ok (.ireturn, 1) := by decide +kernel
theorem dX7_cutOff_0 : decode cX7_cutOff 0 = .ok (.fload_n 0, 1) := by decide +kernel
theorem dX7_cutOff_1 : decode cX7_cutOff 1 = .ok (.f2i, 1) := by decide +kernel
theorem dX7_cutOff_2 : decode cX7_cutOff 2 = .ok (.iconst 0, 1) := by decide +kernel
theorem dX7_cutOff_3 : decode cX7_cutOff 3 = .ok (.sipush 255, 3) := by decide +kernel
theorem dX7_cutOff_6 : decode cX7_cutOff 6 = .ok (.invokestatic 133, 3) := by decide +kernel
theorem dX7_cutOff_9 : decode cX7_cutOff 9 = .ok (.ireturn, 1) := by decide +kernel
theorem dX7_colour_0 : decode cX7_colour 0 = .ok (.iload_n 1, 1) := by decide +kernel
theorem dX7_colour_1 : decode cX7_colour 1 = .ok (.ifCond .lt 29, 3) := by decide +kernel
theorem dX7_colour_4 : decode cX7_colour 4 = .ok (.iload_n 2, 1) := by decide +kernel
theorem dX7_colour_5 : decode cX7_colour 5 = .ok (.ifCond .lt 25, 3) := by decide +kernel
theorem dX7_colour_8 : decode cX7_colour 8 = .ok (.iload_n 1, 1) := by decide +kernel
theorem dX7_colour_9 : decode cX7_colour 9 = .ok (.aload_n 0, 1) := by decide +kernel
theorem dX7_colour_10 : decode cX7_colour 10 = .ok (.iconst 0, 1) := by decide +kernel
theorem dX7_colour_11 : decode cX7_colour 11 = .ok (.invokevirtual 144, 3) := by decide +kernel
theorem dX7_colour_14 : decode cX7_colour 14 = .ok (.if_icmp .ge 16, 3) := by decide +kernel
theorem dX7_colour_17 : decode cX7_colour 17 = .ok (.iload_n 2, 1) := by decide +kernel
theorem dX7_colour_18 : decode cX7_colour 18 = .ok (.aload_n 0, 1) := by decide +kernel
theorem dX7_colour_19 : decode cX7_colour 19 = .ok (.iconst 0, 1) := by decide +kernel
theorem dX7_colour_20 : decode cX7_colour 20 = .ok (.invokevirtual 147, 3) := by decide +kernel
theorem dX7_colour_23 : decode cX7_colour 23 = .ok (.if_icmp .ge 7, 3) := by decide +kernel
theorem dX7_colour_26 : decode cX7_colour 26 = .ok (.iconst 1, 1) := by decide +kernel
theorem dX7_colour_27 : decode cX7_colour 27 = .ok (.goto 4, 3) := by decide +kernel
theorem dX7_colour_30 : decode cX7_colour 30 = .ok (.iconst 0, 1) := by decide +kernel
theorem dX7_colour_31 : decode cX7_colour 31 = .ok (.istore_n 3, 1) := by decide +kernel
theorem dX7_colour_32 : decode cX7_colour 32 = .ok (.aload_n 0, 1) := by decide +kernel
theorem dX7_colour_33 : decode cX7_colour 33 = .ok (.aload_n 0, 1) := by decide +kernel
theorem dX7_colour_34 : decode cX7_colour 34 = .ok (.getfield 83, 3) := by decide +kernel
theorem dX7_colour_37 : decode cX7_colour 37 = .ok (.ifCond .ne 7, 3) := by decide +kernel
theorem dX7_colour_40 : decode cX7_colour 40 = .ok (.iconst 1, 1) := by decide +kernel
theorem dX7_colour_41 : decode cX7_colour 41 = .ok (.goto 12, 3) := by decide +kernel
theorem dX7_colour_44 : decode cX7_colour 44 = .ok (.iload_n 3, 1) := by decide +kernel
theorem dX7_colour_45 : decode cX7_colour 45 = .ok (.ifCond .ne 7, 3) := by decide +kernel
theorem dX7_colour_48 : decode cX7_colour 48 = .ok (.iconst 2, 1) := by decide +kernel
theorem dX7_colour_49 : decode cX7_colour 49 = .ok (.goto 4, 3) := by decide +kernel
theorem dX7_colour_52 : decode cX7_colour 52 = .ok (.iconst 0, 1) := by decide +kernel
theorem dX7_colour_53 : decode cX7_colour 53 = .ok (.putfield 66, 3) := by decide +kernel
theorem dX7_colour_56 : decode cX7_colour 56 = .ok (.aload_n 0, 1) := by decide +kernel
theorem dX7_colour_57 : decode cX7_colour 57 = .ok (.getfield 66, 3) := by decide +kernel
theorem dX7_colour_60 : decode cX7_colour 60 = .ok (.ifCond .le 5, 3) := by decide +kernel
theorem dX7_colour_63 : decode cX7_colour 63 = .ok (.iconst 0, 1) := by decide +kernel
theorem dX7_colour_64 : decode cX7_colour 64 = .ok (.ireturn, 1) := by decide +kernel
theorem dX7_colour_65 : decode cX7_colour 65 = .ok (.aload_n 0, 1) := by decide +kernel
theorem dX7_colour_66 : decode cX7_colour 66 = .ok (.getfield 28, 3) := by decide +kernel
theorem dX7_colour_69 : decode cX7_colour 69 = .ok (.iconst 0, 1) := by decide +kernel
theorem dX7_colour_70 : decode cX7_colour 70 = .ok (.iload_n 1, 1) := by decide +kernel
theorem dX7_colour_71 : decode cX7_colour 71 = .ok (.iload_n 2, 1) := by decide +kernel
theorem dX7_colour_72 : decode cX7_colour 72 = .ok (.invokestatic 150, 3) := by decide +kernel
theorem dX7_colour_75 : decode cX7_colour 75 = .ok (.iaload, 1) := by decide +kernel
theorem dX7_colour_76 : decode cX7_colour 76 = .ok (.i2f, 1) := by decide +kernel
theorem dX7_colour_77 : decode cX7_colour 77 = .ok (.fstore 4, 2) := by decide +kernel
theorem dX7_colour_79 : decode cX7_colour 79 = .ok (.aload_n 0, 1) := by decide +kernel
theorem dX7_colour_80 : decode cX7_colour 80 = .ok (.getfield 28, 3) := by decide +kernel
theorem dX7_colour_83 : decode cX7_colour 83 = .ok (.iconst 1, 1) := by decide +kernel
theorem dX7_colour_84 : decode cX7_colour 84 = .ok (.iload_n 1, 1) := by decide +kernel
theorem dX7_colour_85 : decode cX7_colour 85 = .ok (.iconst 2, 1) := by decide +kernel
theorem dX7_colour_86 : decode cX7_colour 86 = .ok (.idiv, 1) := by decide +kernel
theorem dX7_colour_87 : decode cX7_colour 87 = .ok (.iload_n 2, 1) := by decide +kernel
theorem dX7_colour_88 : decode cX7_colour 88 = .ok (.iconst 2, 1) := by decide +kernel
theorem dX7_colour_89 : decode cX7_colour 89 = .ok (.idiv, 1) := by decide +kernel
theorem dX7_colour_90 : decode cX7_colour 90 = .ok (.invokestatic 150, 3) := by decide +kernel
theorem dX7_colour_93 : decode cX7_colour 93 = .ok (.iaload, 1) := by decide +kernel
theorem dX7_colour_94 : decode cX7_colour 94 = .ok (.i2f, 1) := by decide +kernel
theorem dX7_colour_95 : decode cX7_colour 95 = .ok (.ldc 182, 2) := by decide +kernel
theorem dX7_colour_97 : decode cX7_colour 97 = .ok (.fsub, 1) := by decide +kernel
