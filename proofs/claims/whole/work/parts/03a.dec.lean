theorem dJ6_bitCount_0f7a4_0 : decode cJ6_bitCount_0f7a4 0 = .ok (.iload_n 0, 1) := by decide +kernel
theorem dJ6_bitCount_0f7a4_1 : decode cJ6_bitCount_0f7a4 1 = .ok (.iload_n 0, 1) := by decide +kernel
theorem dJ6_bitCount_0f7a4_2 : decode cJ6_bitCount_0f7a4 2 = .ok (.iconst 1, 1) := by decide +kernel
theorem dJ6_bitCount_0f7a4_3 : decode cJ6_bitCount_0f7a4 3 = .ok (.iushr, 1) := by decide +kernel
theorem dJ6_bitCount_0f7a4_4 : decode cJ6_bitCount_0f7a4 4 = .ok (.ldc_w 265, 3) := by decide +kernel
theorem dJ6_bitCount_0f7a4_7 : decode cJ6_bitCount_0f7a4 7 = .ok (.iand, 1) := by decide +kernel
theorem dJ6_bitCount_0f7a4_8 : decode cJ6_bitCount_0f7a4 8 = .ok (.isub, 1) := by decide +kernel
theorem dJ6_bitCount_0f7a4_9 : decode cJ6_bitCount_0f7a4 9 = .ok (.istore_n 0, 1) := by decide +kernel
theorem dJ6_bitCount_0f7a4_10 : decode cJ6_bitCount_0f7a4 10 = .ok (.iload_n 0, 1) := by decide +kernel
theorem dJ6_bitCount_0f7a4_11 : decode cJ6_bitCount_0f7a4 11 = .ok (.ldc_w 266, 3) := by decide +kernel
theorem dJ6_bitCount_0f7a4_14 : decode cJ6_bitCount_0f7a4 14 = .ok (.iand, 1) := by decide +kernel
theorem dJ6_bitCount_0f7a4_15 : decode cJ6_bitCount_0f7a4 15 = .ok (.iload_n 0, 1) := by decide +kernel
theorem dJ6_bitCount_0f7a4_16 : decode cJ6_bitCount_0f7a4 16 = .ok (.iconst 2, 1) := by decide +kernel
theorem dJ6_bitCount_0f7a4_17 : decode cJ6_bitCount_0f7a4 17 = .ok (.iushr, 1) := by decide +kernel
theorem dJ6_bitCount_0f7a4_18 : decode cJ6_bitCount_0f7a4 18 = .ok (.ldc_w 266, 3) := by decide +kernel
theorem dJ6_bitCount_0f7a4_21 : decode cJ6_bitCount_0f7a4 21 = .ok (.iand, 1) := by decide +kernel
theorem dJ6_bitCount_0f7a4_22 : decode cJ6_bitCount_0f7a4 22 = .ok (.iadd, 1) := by decide +kernel
theorem dJ6_bitCount_0f7a4_23 : decode cJ6_bitCount_0f7a4 23 = .ok (.istore_n 0, 1) := by decide +kernel
theorem dJ6_bitCount_0f7a4_24 : decode cJ6_bitCount_0f7a4 24 = .ok (.iload_n 0, 1) := by decide +kernel
theorem dJ6_bitCount_0f7a4_25 : decode cJ6_bitCount_0f7a4 25 = .ok (.iload_n 0, 1) := by decide +kernel
theorem dJ6_bitCount_0f7a4_26 : decode cJ6_bitCount_0f7a4 26 = .ok (.iconst 4, 1) := by decide +kernel
theorem dJ6_bitCount_0f7a4_27 : decode cJ6_bitCount_0f7a4 27 = .ok (.iushr, 1) := by decide +kernel
theorem dJ6_bitCount_0f7a4_28 : decode cJ6_bitCount_0f7a4 28 = .ok (.iadd, 1) := by decide +kernel
theorem dJ6_bitCount_0f7a4_29 : decode cJ6_bitCount_0f7a4 29 = .ok (.ldc_w 267, 3) := by decide +kernel
theorem dJ6_bitCount_0f7a4_32 : decode cJ6_bitCount_0f7a4 32 = .ok (.iand, 1) := by decide +kernel
theorem dJ6_bitCount_0f7a4_33 : decode cJ6_bitCount_0f7a4 33 = .ok (.istore_n 0, 1) := by decide +kernel
theorem dJ6_bitCount_0f7a4_34 : decode cJ6_bitCount_0f7a4 34 = .ok (.iload_n 0, 1) := by decide +kernel
theorem dJ6_bitCount_0f7a4_35 : decode cJ6_bitCount_0f7a4 35 = .ok (.iload_n 0, 1) := by decide +kernel
theorem dJ6_bitCount_0f7a4_36 : decode cJ6_bitCount_0f7a4 36 = .ok (.bipush 8, 2) := by decide +kernel
theorem dJ6_bitCount_0f7a4_38 : decode cJ6_bitCount_0f7a4 38 = .ok (.iushr, 1) := by decide +kernel
theorem dJ6_bitCount_0f7a4_39 : decode cJ6_bitCount_0f7a4 39 = .ok (.iadd, 1) := by decide +kernel
theorem dJ6_bitCount_0f7a4_40 : decode cJ6_bitCount_0f7a4 40 = .ok (.istore_n 0, 1) := by decide +kernel
theorem dJ6_bitCount_0f7a4_41 : decode cJ6_bitCount_0f7a4 41 = .ok (.iload_n 0, 1) := by decide +kernel
theorem dJ6_bitCount_0f7a4_42 : decode cJ6_bitCount_0f7a4 42 = .ok (.iload_n 0, 1) := by decide +kernel
theorem dJ6_bitCount_0f7a4_43 : decode cJ6_bitCount_0f7a4 43 = .ok (.bipush 16, 2) := by decide +kernel
theorem dJ6_bitCount_0f7a4_45 : decode cJ6_bitCount_0f7a4 45 = .ok (.iushr, 1) := by decide +kernel
theorem dJ6_bitCount_0f7a4_46 : decode cJ6_bitCount_0f7a4 46 = .ok (.iadd, 1) := by decide +kernel
theorem dJ6_bitCount_0f7a4_47 : decode cJ6_bitCount_0f7a4 47 = .ok (.istore_n 0, 1) := by decide +kernel
theorem dJ6_bitCount_0f7a4_48 : decode cJ6_bitCount_0f7a4 48 = .ok (.iload_n 0, 1) := by decide +kernel
theorem dJ6_bitCount_0f7a4_49 : decode cJ6_bitCount_0f7a4 49 = .ok (.bipush 63, 2) := by decide +kernel
theorem dJ6_bitCount_0f7a4_51 : decode cJ6_bitCount_0f7a4 51 = .ok (.iand, 1) := by decide +kernel
theorem dJ6_bitCount_0f7a4_52 : decode cJ6_bitCount_0f7a4 52 = .ok (.ireturn, 1) := by decide +kernel
theorem dJ7_fill_53178_0 : decode cJ7_fill_53178 0 = .ok (.iconst 0, 1) := by decide +kernel
theorem dJ7_fill_53178_1 : decode cJ7_fill_53178 1 = .ok (.istore_n 2, 1) := by decide +kernel
theorem dJ7_fill_53178_2 : decode cJ7_fill_53178 2 = .ok (.aload_n 0, 1) := by decide +kernel
theorem dJ7_fill_53178_3 : decode cJ7_fill_53178 3 = .ok (.arraylength, 1) := by decide +kernel
theorem dJ7_fill_53178_4 : decode cJ7_fill_53178 4 = .ok (.istore_n 3, 1) := by decide +kernel
theorem dJ7_fill_53178_5 : decode cJ7_fill_53178 5 = .ok (.iload_n 2, 1) := by decide +kernel
theorem dJ7_fill_53178_6 : decode cJ7_fill_53178 6 = .ok (.iload_n 3, 1) := by decide +kernel
theorem dJ7_fill_53178_7 : decode cJ7_fill_53178 7 = .ok (.if_icmp .ge 13, 3) := by decide +kernel
theorem dJ7_fill_53178_10 : decode cJ7_fill_53178 10 = .ok (.aload_n 0, 1) := by decide +kernel
theorem dJ7_fill_53178_11 : decode cJ7_fill_53178 11 = .ok (.iload_n 2, 1) := by decide +kernel
theorem dJ7_fill_53178_12 : decode cJ7_fill_53178 12 = .ok (.iload_n 1, 1) := by decide +kernel
theorem dJ7_fill_53178_13 : decode cJ7_fill_53178 13 = .ok (.iastore, 1) := by decide +kernel
theorem dJ7_fill_53178_14 : decode cJ7_fill_53178 14 = .ok (.iinc 2 1, 3) := by decide +kernel
theorem dJ7_fill_53178_17 : decode cJ7_fill_53178 17 = .ok (.goto (-12), 3) := by decide +kernel
theorem dJ7_fill_53178_20 : decode cJ7_fill_53178 20 = .ok (.return_, 1) := by decide +kernel
theorem dJ9_max_7cf53_0 : decode cJ9_max_7cf53 0 = .ok (.iload_n 0, 1) := by decide +kernel
theorem dJ9_max_7cf53_1 : decode cJ9_max_7cf53 1 = .ok (.iload_n 1, 1) := by decide +kernel
theorem dJ9_max_7cf53_2 : decode cJ9_max_7cf53 2 = .ok (.if_icmp .lt 7, 3) := by decide +kernel
theorem dJ9_max_7cf53_5 : decode cJ9_max_7cf53 5 = .ok (.iload_n 0, 1) := by decide +kernel
theorem dJ9_max_7cf53_6 : decode cJ9_max_7cf53 6 = .ok (.goto 4, 3) := by decide +kernel
theorem dJ9_max_7cf53_9 : decode cJ9_max_7cf53 9 = .ok (.iload_n 1, 1) := by decide +kernel
theorem dJ9_max_7cf53_10 : decode cJ9_max_7cf53 10 = .ok (.ireturn, 1) := by decide +kernel
theorem dJ9_min_7cf53_0 : decode cJ9_min_7cf53 0 = .ok (.iload_n 0, 1) := by decide +kernel
theorem dJ9_min_7cf53_1 : decode cJ9_min_7cf53 1 = .ok (.iload_n 1, 1) := by decide +kernel
theorem dJ9_min_7cf53_2 : decode cJ9_min_7cf53 2 = .ok (.if_icmp .gt 7, 3) := by decide +kernel
theorem dJ9_min_7cf53_5 : decode cJ9_min_7cf53 5 = .ok (.iload_n 0, 1) := by decide +kernel
theorem dJ9_min_7cf53_6 : decode cJ9_min_7cf53 6 = .ok (.goto 4, 3) := by decide +kernel
theorem dJ9_min_7cf53_9 : decode cJ9_min_7cf53 9 = .ok (.iload_n 1, 1) := by decide +kernel
theorem dJ9_min_7cf53_10 : decode cJ9_min_7cf53 10 = .ok (.ireturn, 1) := by decide +kernel
theorem dL_law_0 : decode cL_law 0 = .ok (.new 7, 3) := by decide +kernel
theorem dL_law_3 : decode cL_law 3 = .ok (.dup, 1) := by decide +kernel
theorem dL_law_4 : decode cL_law 4 = .ok (.invokespecial 9, 3) := by decide +kernel
theorem dL_law_7 : decode cL_law 7 = .ok (.astore_n 1, 1) := by decide +kernel
theorem dL_law_8 : decode cL_law 8 = .ok (.new 10, 3) := by decide +kernel
theorem dL_law_11 : decode cL_law 11 = .ok (.dup, 1) := by decide +kernel
theorem dL_law_12 : decode cL_law 12 = .ok (.invokespecial 12, 3) := by decide +kernel
theorem dL_law_15 : decode cL_law 15 = .ok (.astore_n 2, 1) := by decide +kernel
theorem dL_law_16 : decode cL_law 16 = .ok (.iconst 0, 1) := by decide +kernel
theorem dL_law_17 : decode cL_law 17 = .ok (.istore_n 3, 1) := by decide +kernel
theorem dL_law_18 : decode cL_law 18 = .ok (.iload_n 3, 1) := by decide +kernel
theorem dL_law_19 : decode cL_law 19 = .ok (.aload_n 0, 1) := by decide +kernel
theorem dL_law_20 : decode cL_law 20 = .ok (.arraylength, 1) := by decide +kernel
theorem dL_law_21 : decode cL_law 21 = .ok (.bipush 6, 2) := by decide +kernel
theorem dL_law_23 : decode cL_law 23 = .ok (.isub, 1) := by decide +kernel
theorem dL_law_24 : decode cL_law 24 = .ok (.if_icmp .gt 827, 3) := by decide +kernel
theorem dL_law_27 : decode cL_law 27 = .ok (.aload_n 0, 1) := by decide +kernel
theorem dL_law_28 : decode cL_law 28 = .ok (.iload_n 3, 1) := by decide +kernel
theorem dL_law_29 : decode cL_law 29 = .ok (.iaload, 1) := by decide +kernel
theorem dL_law_30 : decode cL_law 30 = .ok (.bipush 31, 2) := by decide +kernel
theorem dL_law_32 : decode cL_law 32 = .ok (.iand, 1) := by decide +kernel
theorem dL_law_33 : decode cL_law 33 = .ok (.tableswitch 812 0 20 #[99, 142, 175, 198, 231, 264, 317, 340, 373, 396, 419, 442, 475, 528, 561, 624, 657, 680, 743, 766, 789], 99) := by decide +kernel
theorem dL_law_132 : decode cL_law 132 = .ok (.aload_n 1, 1) := by decide +kernel
theorem dL_law_133 : decode cL_law 133 = .ok (.aload_n 0, 1) := by decide +kernel
theorem dL_law_134 : decode cL_law 134 = .ok (.iload_n 3, 1) := by decide +kernel
theorem dL_law_135 : decode cL_law 135 = .ok (.iconst 1, 1) := by decide +kernel
theorem dL_law_136 : decode cL_law 136 = .ok (.iadd, 1) := by decide +kernel
theorem dL_law_137 : decode cL_law 137 = .ok (.iaload, 1) := by decide +kernel
theorem dL_law_138 : decode cL_law 138 = .ok (.aload_n 0, 1) := by decide +kernel
theorem dL_law_139 : decode cL_law 139 = .ok (.iload_n 3, 1) := by decide +kernel
theorem dL_law_140 : decode cL_law 140 = .ok (.iconst 2, 1) := by decide +kernel
theorem dL_law_141 : decode cL_law 141 = .ok (.iadd, 1) := by decide +kernel
theorem dL_law_142 : decode cL_law 142 = .ok (.iaload, 1) := by decide +kernel
theorem dL_law_143 : decode cL_law 143 = .ok (.aload_n 0, 1) := by decide +kernel
theorem dL_law_144 : decode cL_law 144 = .ok (.iload_n 3, 1) := by decide +kernel
theorem dL_law_145 : decode cL_law 145 = .ok (.iconst 3, 1) := by decide +kernel
theorem dL_law_146 : decode cL_law 146 = .ok (.iadd, 1) := by decide +kernel
theorem dL_law_147 : decode cL_law 147 = .ok (.iaload, 1) := by decide +kernel
theorem dL_law_148 : decode cL_law 148 = .ok (.invokevirtual 13, 3) := by decide +kernel
theorem dL_law_151 : decode cL_law 151 = .ok (.aload_n 2, 1) := by decide +kernel
theorem dL_law_152 : decode cL_law 152 = .ok (.aload_n 0, 1) := by decide +kernel
theorem dL_law_153 : decode cL_law 153 = .ok (.iload_n 3, 1) := by decide +kernel
theorem dL_law_154 : decode cL_law 154 = .ok (.iconst 1, 1) := by decide +kernel
theorem dL_law_155 : decode cL_law 155 = .ok (.iadd, 1) := by decide +kernel
theorem dL_law_156 : decode cL_law 156 = .ok (.iaload, 1) := by decide +kernel
theorem dL_law_157 : decode cL_law 157 = .ok (.aload_n 0, 1) := by decide +kernel
theorem dL_law_158 : decode cL_law 158 = .ok (.iload_n 3, 1) := by decide +kernel
theorem dL_law_159 : decode cL_law 159 = .ok (.iconst 2, 1) := by decide +kernel
theorem dL_law_160 : decode cL_law 160 = .ok (.iadd, 1) := by decide +kernel
theorem dL_law_161 : decode cL_law 161 = .ok (.iaload, 1) := by decide +kernel
theorem dL_law_162 : decode cL_law 162 = .ok (.aload_n 0, 1) := by decide +kernel
theorem dL_law_163 : decode cL_law 163 = .ok (.iload_n 3, 1) := by decide +kernel
theorem dL_law_164 : decode cL_law 164 = .ok (.iconst 3, 1) := by decide +kernel
theorem dL_law_165 : decode cL_law 165 = .ok (.iadd, 1) := by decide +kernel
theorem dL_law_166 : decode cL_law 166 = .ok (.iaload, 1) := by decide +kernel
theorem dL_law_167 : decode cL_law 167 = .ok (.invokevirtual 17, 3) := by decide +kernel
theorem dL_law_170 : decode cL_law 170 = .ok (.if_icmp .eq 675, 3) := by decide +kernel
theorem dL_law_173 : decode cL_law 173 = .ok (.iconst 0, 1) := by decide +kernel
theorem dL_law_174 : decode cL_law 174 = .ok (.ireturn, 1) := by decide +kernel
theorem dL_law_175 : decode cL_law 175 = .ok (.aload_n 1, 1) := by decide +kernel
theorem dL_law_176 : decode cL_law 176 = .ok (.aload_n 0, 1) := by decide +kernel
theorem dL_law_177 : decode cL_law 177 = .ok (.iload_n 3, 1) := by decide +kernel
theorem dL_law_178 : decode cL_law 178 = .ok (.iconst 1, 1) := by decide +kernel
theorem dL_law_179 : decode cL_law 179 = .ok (.iadd, 1) := by decide +kernel
theorem dL_law_180 : decode cL_law 180 = .ok (.iaload, 1) := by decide +kernel
theorem dL_law_181 : decode cL_law 181 = .ok (.aload_n 0, 1) := by decide +kernel
theorem dL_law_182 : decode cL_law 182 = .ok (.iload_n 3, 1) := by decide +kernel
theorem dL_law_183 : decode cL_law 183 = .ok (.iconst 2, 1) := by decide +kernel
theorem dL_law_184 : decode cL_law 184 = .ok (.iadd, 1) := by decide +kernel
theorem dL_law_185 : decode cL_law 185 = .ok (.iaload, 1) := by decide +kernel
theorem dL_law_186 : decode cL_law 186 = .ok (.invokevirtual 18, 3) := by decide +kernel
theorem dL_law_189 : decode cL_law 189 = .ok (.aload_n 2, 1) := by decide +kernel
theorem dL_law_190 : decode cL_law 190 = .ok (.aload_n 0, 1) := by decide +kernel
theorem dL_law_191 : decode cL_law 191 = .ok (.iload_n 3, 1) := by decide +kernel
theorem dL_law_192 : decode cL_law 192 = .ok (.iconst 1, 1) := by decide +kernel
theorem dL_law_193 : decode cL_law 193 = .ok (.iadd, 1) := by decide +kernel
theorem dL_law_194 : decode cL_law 194 = .ok (.iaload, 1) := by decide +kernel
theorem dL_law_195 : decode cL_law 195 = .ok (.aload_n 0, 1) := by decide +kernel
theorem dL_law_196 : decode cL_law 196 = .ok (.iload_n 3, 1) := by decide +kernel
theorem dL_law_197 : decode cL_law 197 = .ok (.iconst 2, 1) := by decide +kernel
theorem dL_law_198 : decode cL_law 198 = .ok (.iadd, 1) := by decide +kernel
theorem dL_law_199 : decode cL_law 199 = .ok (.iaload, 1) := by decide +kernel
theorem dL_law_200 : decode cL_law 200 = .ok (.invokevirtual 22, 3) := by decide +kernel
theorem dL_law_203 : decode cL_law 203 = .ok (.if_icmp .eq 642, 3) := by decide +kernel
theorem dL_law_206 : decode cL_law 206 = .ok (.iconst 0, 1) := by decide +kernel
theorem dL_law_207 : decode cL_law 207 = .ok (.ireturn, 1) := by decide +kernel
theorem dL_law_208 : decode cL_law 208 = .ok (.aload_n 1, 1) := by decide +kernel
theorem dL_law_209 : decode cL_law 209 = .ok (.aload_n 0, 1) := by decide +kernel
theorem dL_law_210 : decode cL_law 210 = .ok (.iload_n 3, 1) := by decide +kernel
theorem dL_law_211 : decode cL_law 211 = .ok (.iconst 1, 1) := by decide +kernel
theorem dL_law_212 : decode cL_law 212 = .ok (.iadd, 1) := by decide +kernel
theorem dL_law_213 : decode cL_law 213 = .ok (.iaload, 1) := by decide +kernel
theorem dL_law_214 : decode cL_law 214 = .ok (.invokevirtual 23, 3) := by decide +kernel
theorem dL_law_217 : decode cL_law 217 = .ok (.aload_n 2, 1) := by decide +kernel
theorem dL_law_218 : decode cL_law 218 = .ok (.aload_n 0, 1) := by decide +kernel
theorem dL_law_219 : decode cL_law 219 = .ok (.iload_n 3, 1) := by decide +kernel
theorem dL_law_220 : decode cL_law 220 = .ok (.iconst 1, 1) := by decide +kernel
theorem dL_law_221 : decode cL_law 221 = .ok (.iadd, 1) := by decide +kernel
theorem dL_law_222 : decode cL_law 222 = .ok (.iaload, 1) := by decide +kernel
theorem dL_law_223 : decode cL_law 223 = .ok (.invokevirtual 27, 3) := by decide +kernel
theorem dL_law_226 : decode cL_law 226 = .ok (.if_icmp .eq 619, 3) := by decide +kernel
theorem dL_law_229 : decode cL_law 229 = .ok (.iconst 0, 1) := by decide +kernel
theorem dL_law_230 : decode cL_law 230 = .ok (.ireturn, 1) := by decide +kernel
theorem dL_law_231 : decode cL_law 231 = .ok (.aload_n 1, 1) := by decide +kernel
theorem dL_law_232 : decode cL_law 232 = .ok (.aload_n 0, 1) := by decide +kernel
theorem dL_law_233 : decode cL_law 233 = .ok (.iload_n 3, 1) := by decide +kernel
theorem dL_law_234 : decode cL_law 234 = .ok (.iconst 1, 1) := by decide +kernel
theorem dL_law_235 : decode cL_law 235 = .ok (.iadd, 1) := by decide +kernel
theorem dL_law_236 : decode cL_law 236 = .ok (.iaload, 1) := by decide +kernel
theorem dL_law_237 : decode cL_law 237 = .ok (.aload_n 0, 1) := by decide +kernel
theorem dL_law_238 : decode cL_law 238 = .ok (.iload_n 3, 1) := by decide +kernel
theorem dL_law_239 : decode cL_law 239 = .ok (.iconst 2, 1) := by decide +kernel
theorem dL_law_240 : decode cL_law 240 = .ok (.iadd, 1) := by decide +kernel
theorem dL_law_241 : decode cL_law 241 = .ok (.iaload, 1) := by decide +kernel
theorem dL_law_242 : decode cL_law 242 = .ok (.invokevirtual 28, 3) := by decide +kernel
theorem dL_law_245 : decode cL_law 245 = .ok (.aload_n 2, 1) := by decide +kernel
theorem dL_law_246 : decode cL_law 246 = .ok (.aload_n 0, 1) := by decide +kernel
theorem dL_law_247 : decode cL_law 247 = .ok (.iload_n 3, 1) := by decide +kernel
theorem dL_law_248 : decode cL_law 248 = .ok (.iconst 1, 1) := by decide +kernel
theorem dL_law_249 : decode cL_law 249 = .ok (.iadd, 1) := by decide +kernel
theorem dL_law_250 : decode cL_law 250 = .ok (.iaload, 1) := by decide +kernel
theorem dL_law_251 : decode cL_law 251 = .ok (.aload_n 0, 1) := by decide +kernel
theorem dL_law_252 : decode cL_law 252 = .ok (.iload_n 3, 1) := by decide +kernel
theorem dL_law_253 : decode cL_law 253 = .ok (.iconst 2, 1) := by decide +kernel
theorem dL_law_254 : decode cL_law 254 = .ok (.iadd, 1) := by decide +kernel
theorem dL_law_255 : decode cL_law 255 = .ok (.iaload, 1) := by decide +kernel
theorem dL_law_256 : decode cL_law 256 = .ok (.invokevirtual 31, 3) := by decide +kernel
theorem dL_law_259 : decode cL_law 259 = .ok (.if_icmp .eq 586, 3) := by decide +kernel
theorem dL_law_262 : decode cL_law 262 = .ok (.iconst 0, 1) := by decide +kernel
theorem dL_law_263 : decode cL_law 263 = .ok (.ireturn, 1) := by decide +kernel
theorem dL_law_264 : decode cL_law 264 = .ok (.aload_n 1, 1) := by decide +kernel
theorem dL_law_265 : decode cL_law 265 = .ok (.aload_n 0, 1) := by decide +kernel
theorem dL_law_266 : decode cL_law 266 = .ok (.iload_n 3, 1) := by decide +kernel
theorem dL_law_267 : decode cL_law 267 = .ok (.iconst 1, 1) := by decide +kernel
theorem dL_law_268 : decode cL_law 268 = .ok (.iadd, 1) := by decide +kernel
theorem dL_law_269 : decode cL_law 269 = .ok (.iaload, 1) := by decide +kernel
theorem dL_law_270 : decode cL_law 270 = .ok (.aload_n 0, 1) := by decide +kernel
theorem dL_law_271 : decode cL_law 271 = .ok (.iload_n 3, 1) := by decide +kernel
theorem dL_law_272 : decode cL_law 272 = .ok (.iconst 2, 1) := by decide +kernel
theorem dL_law_273 : decode cL_law 273 = .ok (.iadd, 1) := by decide +kernel
theorem dL_law_274 : decode cL_law 274 = .ok (.iaload, 1) := by decide +kernel
theorem dL_law_275 : decode cL_law 275 = .ok (.invokevirtual 32, 3) := by decide +kernel
theorem dL_law_278 : decode cL_law 278 = .ok (.aload_n 2, 1) := by decide +kernel
theorem dL_law_279 : decode cL_law 279 = .ok (.aload_n 0, 1) := by decide +kernel
theorem dL_law_280 : decode cL_law 280 = .ok (.iload_n 3, 1) := by decide +kernel
theorem dL_law_281 : decode cL_law 281 = .ok (.iconst 1, 1) := by decide +kernel
theorem dL_law_282 : decode cL_law 282 = .ok (.iadd, 1) := by decide +kernel
theorem dL_law_283 : decode cL_law 283 = .ok (.iaload, 1) := by decide +kernel
theorem dL_law_284 : decode cL_law 284 = .ok (.aload_n 0, 1) := by decide +kernel
theorem dL_law_285 : decode cL_law 285 = .ok (.iload_n 3, 1) := by decide +kernel
theorem dL_law_286 : decode cL_law 286 = .ok (.iconst 2, 1) := by decide +kernel
theorem dL_law_287 : decode cL_law 287 = .ok (.iadd, 1) := by decide +kernel
theorem dL_law_288 : decode cL_law 288 = .ok (.iaload, 1) := by decide +kernel
theorem dL_law_289 : decode cL_law 289 = .ok (.invokevirtual 35, 3) := by decide +kernel
theorem dL_law_292 : decode cL_law 292 = .ok (.if_icmp .eq 553, 3) := by decide +kernel
theorem dL_law_295 : decode cL_law 295 = .ok (.iconst 0, 1) := by decide +kernel
theorem dL_law_296 : decode cL_law 296 = .ok (.ireturn, 1) := by decide +kernel
theorem dL_law_297 : decode cL_law 297 = .ok (.aload_n 1, 1) := by decide +kernel
theorem dL_law_298 : decode cL_law 298 = .ok (.aload_n 0, 1) := by decide +kernel
theorem dL_law_299 : decode cL_law 299 = .ok (.iload_n 3, 1) := by decide +kernel
theorem dL_law_300 : decode cL_law 300 = .ok (.iconst 1, 1) := by decide +kernel
theorem dL_law_301 : decode cL_law 301 = .ok (.iadd, 1) := by decide +kernel
theorem dL_law_302 : decode cL_law 302 = .ok (.iaload, 1) := by decide +kernel
theorem dL_law_303 : decode cL_law 303 = .ok (.aload_n 0, 1) := by decide +kernel
theorem dL_law_304 : decode cL_law 304 = .ok (.iload_n 3, 1) := by decide +kernel
theorem dL_law_305 : decode cL_law 305 = .ok (.iconst 2, 1) := by decide +kernel
theorem dL_law_306 : decode cL_law 306 = .ok (.iadd, 1) := by decide +kernel
theorem dL_law_307 : decode cL_law 307 = .ok (.iaload, 1) := by decide +kernel
theorem dL_law_308 : decode cL_law 308 = .ok (.aload_n 0, 1) := by decide +kernel
theorem dL_law_309 : decode cL_law 309 = .ok (.iload_n 3, 1) := by decide +kernel
theorem dL_law_310 : decode cL_law 310 = .ok (.iconst 3, 1) := by decide +kernel
theorem dL_law_311 : decode cL_law 311 = .ok (.iadd, 1) := by decide +kernel
theorem dL_law_312 : decode cL_law 312 = .ok (.iaload, 1) := by decide +kernel
theorem dL_law_313 : decode cL_law 313 = .ok (.aload_n 0, 1) := by decide +kernel
theorem dL_law_314 : decode cL_law 314 = .ok (.iload_n 3, 1) := by decide +kernel
theorem dL_law_315 : decode cL_law 315 = .ok (.iconst 4, 1) := by decide +kernel
theorem dL_law_316 : decode cL_law 316 = .ok (.iadd, 1) := by decide +kernel
theorem dL_law_317 : decode cL_law 317 = .ok (.iaload, 1) := by decide +kernel
theorem dL_law_318 : decode cL_law 318 = .ok (.invokevirtual 36, 3) := by decide +kernel
theorem dL_law_321 : decode cL_law 321 = .ok (.aload_n 2, 1) := by decide +kernel
theorem dL_law_322 : decode cL_law 322 = .ok (.aload_n 0, 1) := by decide +kernel
theorem dL_law_323 : decode cL_law 323 = .ok (.iload_n 3, 1) := by decide +kernel
theorem dL_law_324 : decode cL_law 324 = .ok (.iconst 1, 1) := by decide +kernel
theorem dL_law_325 : decode cL_law 325 = .ok (.iadd, 1) := by decide +kernel
theorem dL_law_326 : decode cL_law 326 = .ok (.iaload, 1) := by decide +kernel
theorem dL_law_327 : decode cL_law 327 = .ok (.aload_n 0, 1) := by decide +kernel
theorem dL_law_328 : decode cL_law 328 = .ok (.iload_n 3, 1) := by decide +kernel
theorem dL_law_329 : decode cL_law 329 = .ok (.iconst 2, 1) := by decide +kernel
theorem dL_law_330 : decode cL_law 330 = .ok (.iadd, 1) := by decide +kernel
theorem dL_law_331 : decode cL_law 331 = .ok (.iaload, 1) := by decide +kernel
theorem dL_law_332 : decode cL_law 332 = .ok (.aload_n 0, 1) := by decide +kernel
theorem dL_law_333 : decode cL_law 333 = .ok (.iload_n 3, 1) := by decide +kernel
theorem dL_law_334 : decode cL_law 334 = .ok (.iconst 3, 1) := by decide +kernel
theorem dL_law_335 : decode cL_law 335 = .ok (.iadd, 1) := by decide +kernel
theorem dL_law_336 : decode cL_law 336 = .ok (.iaload, 1) := by decide +kernel
theorem dL_law_337 : decode cL_law 337 = .ok (.aload_n 0, 1) := by decide +kernel
theorem dL_law_338 : decode cL_law 338 = .ok (.iload_n 3, 1) := by decide +kernel
theorem dL_law_339 : decode cL_law 339 = .ok (.iconst 4, 1) := by decide +kernel
theorem dL_law_340 : decode cL_law 340 = .ok (.iadd, 1) := by decide +kernel
theorem dL_law_341 : decode cL_law 341 = .ok (.iaload, 1) := by decide +kernel
theorem dL_law_342 : decode cL_law 342 = .ok (.invokevirtual 40, 3) := by decide +kernel
theorem dL_law_345 : decode cL_law 345 = .ok (.if_icmp .eq 500, 3) := by decide +kernel
theorem dL_law_348 : decode cL_law 348 = .ok (.iconst 0, 1) := by decide +kernel
theorem dL_law_349 : decode cL_law 349 = .ok (.ireturn, 1) := by decide +kernel
theorem dL_law_350 : decode cL_law 350 = .ok (.aload_n 1, 1) := by decide +kernel
theorem dL_law_351 : decode cL_law 351 = .ok (.aload_n 0, 1) := by decide +kernel
theorem dL_law_352 : decode cL_law 352 = .ok (.iload_n 3, 1) := by decide +kernel
theorem dL_law_353 : decode cL_law 353 = .ok (.iconst 1, 1) := by decide +kernel
theorem dL_law_354 : decode cL_law 354 = .ok (.iadd, 1) := by decide +kernel
theorem dL_law_355 : decode cL_law 355 = .ok (.iaload, 1) := by decide +kernel
theorem dL_law_356 : decode cL_law 356 = .ok (.invokevirtual 41, 3) := by decide +kernel
theorem dL_law_359 : decode cL_law 359 = .ok (.aload_n 2, 1) := by decide +kernel
theorem dL_law_360 : decode cL_law 360 = .ok (.aload_n 0, 1) := by decide +kernel
theorem dL_law_361 : decode cL_law 361 = .ok (.iload_n 3, 1) := by decide +kernel
theorem dL_law_362 : decode cL_law 362 = .ok (.iconst 1, 1) := by decide +kernel
theorem dL_law_363 : decode cL_law 363 = .ok (.iadd, 1) := by decide +kernel
theorem dL_law_364 : decode cL_law 364 = .ok (.iaload, 1) := by decide +kernel
theorem dL_law_365 : decode cL_law 365 = .ok (.invokevirtual 44, 3) := by decide +kernel
theorem dL_law_368 : decode cL_law 368 = .ok (.if_icmp .eq 477, 3) := by decide +kernel
theorem dL_law_371 : decode cL_law 371 = .ok (.iconst 0, 1) := by decide +kernel
theorem dL_law_372 : decode cL_law 372 = .ok (.ireturn, 1) := by decide +kernel
theorem dL_law_373 : decode cL_law 373 = .ok (.aload_n 1, 1) := by decide +kernel
theorem dL_law_374 : decode cL_law 374 = .ok (.aload_n 0, 1) := by decide +kernel
theorem dL_law_375 : decode cL_law 375 = .ok (.iload_n 3, 1) := by decide +kernel
theorem dL_law_376 : decode cL_law 376 = .ok (.iconst 1, 1) := by decide +kernel
theorem dL_law_377 : decode cL_law 377 = .ok (.iadd, 1) := by decide +kernel
theorem dL_law_378 : decode cL_law 378 = .ok (.iaload, 1) := by decide +kernel
theorem dL_law_379 : decode cL_law 379 = .ok (.aload_n 0, 1) := by decide +kernel
theorem dL_law_380 : decode cL_law 380 = .ok (.iload_n 3, 1) := by decide +kernel
theorem dL_law_381 : decode cL_law 381 = .ok (.iconst 2, 1) := by decide +kernel
theorem dL_law_382 : decode cL_law 382 = .ok (.iadd, 1) := by decide +kernel
theorem dL_law_383 : decode cL_law 383 = .ok (.iaload, 1) := by decide +kernel
theorem dL_law_384 : decode cL_law 384 = .ok (.invokevirtual 45, 3) := by decide +kernel
theorem dL_law_387 : decode cL_law 387 = .ok (.aload_n 2, 1) := by decide +kernel
theorem dL_law_388 : decode cL_law 388 = .ok (.aload_n 0, 1) := by decide +kernel
theorem dL_law_389 : decode cL_law 389 = .ok (.iload_n 3, 1) := by decide +kernel
theorem dL_law_390 : decode cL_law 390 = .ok (.iconst 1, 1) := by decide +kernel
theorem dL_law_391 : decode cL_law 391 = .ok (.iadd, 1) := by decide +kernel
theorem dL_law_392 : decode cL_law 392 = .ok (.iaload, 1) := by decide +kernel
theorem dL_law_393 : decode cL_law 393 = .ok (.aload_n 0, 1) := by decide +kernel
theorem dL_law_394 : decode cL_law 394 = .ok (.iload_n 3, 1) := by decide +kernel
theorem dL_law_395 : decode cL_law 395 = .ok (.iconst 2, 1) := by decide +kernel
theorem dL_law_396 : decode cL_law 396 = .ok (.iadd, 1) := by decide +kernel
theorem dL_law_397 : decode cL_law 397 = .ok (.iaload, 1) := by decide +kernel
theorem dL_law_398 : decode cL_law 398 = .ok (.invokevirtual 48, 3) := by decide +kernel
theorem dL_law_401 : decode cL_law 401 = .ok (.if_icmp .eq 444, 3) := by decide +kernel
theorem dL_law_404 : decode cL_law 404 = .ok (.iconst 0, 1) := by decide +kernel
theorem dL_law_405 : decode cL_law 405 = .ok (.ireturn, 1) := by decide +kernel
theorem dL_law_406 : decode cL_law 406 = .ok (.aload_n 1, 1) := by decide +kernel
theorem dL_law_407 : decode cL_law 407 = .ok (.aload_n 0, 1) := by decide +kernel
theorem dL_law_408 : decode cL_law 408 = .ok (.iload_n 3, 1) := by decide +kernel
theorem dL_law_409 : decode cL_law 409 = .ok (.iconst 1, 1) := by decide +kernel
theorem dL_law_410 : decode cL_law 410 = .ok (.iadd, 1) := by decide +kernel
theorem dL_law_411 : decode cL_law 411 = .ok (.iaload, 1) := by decide +kernel
theorem dL_law_412 : decode cL_law 412 = .ok (.invokevirtual 49, 3) := by decide +kernel
theorem dL_law_415 : decode cL_law 415 = .ok (.aload_n 2, 1) := by decide +kernel
theorem dL_law_416 : decode cL_law 416 = .ok (.aload_n 0, 1) := by decide +kernel
theorem dL_law_417 : decode cL_law 417 = .ok (.iload_n 3, 1) := by decide +kernel
theorem dL_law_418 : decode cL_law 418 = .ok (.iconst 1, 1) := by decide +kernel
theorem dL_law_419 : decode cL_law 419 = .ok (.iadd, 1) := by decide +kernel
theorem dL_law_420 : decode cL_law 420 = .ok (.iaload, 1) := by decide +kernel
theorem dL_law_421 : decode cL_law 421 = .ok (.invokevirtual 52, 3) := by decide +kernel
theorem dL_law_424 : decode cL_law 424 = .ok (.if_icmp .eq 421, 3) := by decide +kernel
theorem dL_law_427 : decode cL_law 427 = .ok (.iconst 0, 1) := by decide +kernel
theorem dL_law_428 : decode cL_law 428 = .ok (.ireturn, 1) := by decide +kernel
theorem dL_law_429 : decode cL_law 429 = .ok (.aload_n 1, 1) := by decide +kernel
theorem dL_law_430 : decode cL_law 430 = .ok (.aload_n 0, 1) := by decide +kernel
theorem dL_law_431 : decode cL_law 431 = .ok (.iload_n 3, 1) := by decide +kernel
theorem dL_law_432 : decode cL_law 432 = .ok (.iconst 1, 1) := by decide +kernel
theorem dL_law_433 : decode cL_law 433 = .ok (.iadd, 1) := by decide +kernel
theorem dL_law_434 : decode cL_law 434 = .ok (.iaload, 1) := by decide +kernel
theorem dL_law_435 : decode cL_law 435 = .ok (.invokevirtual 53, 3) := by decide +kernel
theorem dL_law_438 : decode cL_law 438 = .ok (.aload_n 2, 1) := by decide +kernel
theorem dL_law_439 : decode cL_law 439 = .ok (.aload_n 0, 1) := by decide +kernel
theorem dL_law_440 : decode cL_law 440 = .ok (.iload_n 3, 1) := by decide +kernel
theorem dL_law_441 : decode cL_law 441 = .ok (.iconst 1, 1) := by decide +kernel
theorem dL_law_442 : decode cL_law 442 = .ok (.iadd, 1) := by decide +kernel
theorem dL_law_443 : decode cL_law 443 = .ok (.iaload, 1) := by decide +kernel
theorem dL_law_444 : decode cL_law 444 = .ok (.invokevirtual 56, 3) := by decide +kernel
theorem dL_law_447 : decode cL_law 447 = .ok (.if_icmp .eq 398, 3) := by decide +kernel
theorem dL_law_450 : decode cL_law 450 = .ok (.iconst 0, 1) := by decide +kernel
theorem dL_law_451 : decode cL_law 451 = .ok (.ireturn, 1) := by decide +kernel
theorem dL_law_452 : decode cL_law 452 = .ok (.aload_n 1, 1) := by decide +kernel
theorem dL_law_453 : decode cL_law 453 = .ok (.aload_n 0, 1) := by decide +kernel
theorem dL_law_454 : decode cL_law 454 = .ok (.iload_n 3, 1) := by decide +kernel
theorem dL_law_455 : decode cL_law 455 = .ok (.iconst 1, 1) := by decide +kernel
theorem dL_law_456 : decode cL_law 456 = .ok (.iadd, 1) := by decide +kernel
theorem dL_law_457 : decode cL_law 457 = .ok (.iaload, 1) := by decide +kernel
theorem dL_law_458 : decode cL_law 458 = .ok (.invokevirtual 57, 3) := by decide +kernel
theorem dL_law_461 : decode cL_law 461 = .ok (.aload_n 2, 1) := by decide +kernel
theorem dL_law_462 : decode cL_law 462 = .ok (.aload_n 0, 1) := by decide +kernel
theorem dL_law_463 : decode cL_law 463 = .ok (.iload_n 3, 1) := by decide +kernel
theorem dL_law_464 : decode cL_law 464 = .ok (.iconst 1, 1) := by decide +kernel
theorem dL_law_465 : decode cL_law 465 = .ok (.iadd, 1) := by decide +kernel
theorem dL_law_466 : decode cL_law 466 = .ok (.iaload, 1) := by decide +kernel
theorem dL_law_467 : decode cL_law 467 = .ok (.invokevirtual 60, 3) := by decide +kernel
theorem dL_law_470 : decode cL_law 470 = .ok (.if_icmp .eq 375, 3) := by decide +kernel
theorem dL_law_473 : decode cL_law 473 = .ok (.iconst 0, 1) := by decide +kernel
theorem dL_law_474 : decode cL_law 474 = .ok (.ireturn, 1) := by decide +kernel
theorem dL_law_475 : decode cL_law 475 = .ok (.aload_n 1, 1) := by decide +kernel
theorem dL_law_476 : decode cL_law 476 = .ok (.aload_n 0, 1) := by decide +kernel
theorem dL_law_477 : decode cL_law 477 = .ok (.iload_n 3, 1) := by decide +kernel
theorem dL_law_478 : decode cL_law 478 = .ok (.iconst 1, 1) := by decide +kernel
theorem dL_law_479 : decode cL_law 479 = .ok (.iadd, 1) := by decide +kernel
theorem dL_law_480 : decode cL_law 480 = .ok (.iaload, 1) := by decide +kernel
theorem dL_law_481 : decode cL_law 481 = .ok (.aload_n 0, 1) := by decide +kernel
theorem dL_law_482 : decode cL_law 482 = .ok (.iload_n 3, 1) := by decide +kernel
theorem dL_law_483 : decode cL_law 483 = .ok (.iconst 2, 1) := by decide +kernel
theorem dL_law_484 : decode cL_law 484 = .ok (.iadd, 1) := by decide +kernel
theorem dL_law_485 : decode cL_law 485 = .ok (.iaload, 1) := by decide +kernel
theorem dL_law_486 : decode cL_law 486 = .ok (.invokevirtual 61, 3) := by decide +kernel
theorem dL_law_489 : decode cL_law 489 = .ok (.aload_n 2, 1) := by decide +kernel
theorem dL_law_490 : decode cL_law 490 = .ok (.aload_n 0, 1) := by decide +kernel
theorem dL_law_491 : decode cL_law 491 = .ok (.iload_n 3, 1) := by decide +kernel
theorem dL_law_492 : decode cL_law 492 = .ok (.iconst 1, 1) := by decide +kernel
theorem dL_law_493 : decode cL_law 493 = .ok (.iadd, 1) := by decide +kernel
theorem dL_law_494 : decode cL_law 494 = .ok (.iaload, 1) := by decide +kernel
theorem dL_law_495 : decode cL_law 495 = .ok (.aload_n 0, 1) := by decide +kernel
theorem dL_law_496 : decode cL_law 496 = .ok (.iload_n 3, 1) := by decide +kernel
theorem dL_law_497 : decode cL_law 497 = .ok (.iconst 2, 1) := by decide +kernel
theorem dL_law_498 : decode cL_law 498 = .ok (.iadd, 1) := by decide +kernel
theorem dL_law_499 : decode cL_law 499 = .ok (.iaload, 1) := by decide +kernel
theorem dL_law_500 : decode cL_law 500 = .ok (.invokevirtual 64, 3) := by decide +kernel
theorem dL_law_503 : decode cL_law 503 = .ok (.if_icmp .eq 342, 3) := by decide +kernel
theorem dL_law_506 : decode cL_law 506 = .ok (.iconst 0, 1) := by decide +kernel
theorem dL_law_507 : decode cL_law 507 = .ok (.ireturn, 1) := by decide +kernel
theorem dL_law_508 : decode cL_law 508 = .ok (.aload_n 1, 1) := by decide +kernel
theorem dL_law_509 : decode cL_law 509 = .ok (.aload_n 0, 1) := by decide +kernel
theorem dL_law_510 : decode cL_law 510 = .ok (.iload_n 3, 1) := by decide +kernel
theorem dL_law_511 : decode cL_law 511 = .ok (.iconst 1, 1) := by decide +kernel
theorem dL_law_512 : decode cL_law 512 = .ok (.iadd, 1) := by decide +kernel
theorem dL_law_513 : decode cL_law 513 = .ok (.iaload, 1) := by decide +kernel
theorem dL_law_514 : decode cL_law 514 = .ok (.aload_n 0, 1) := by decide +kernel
theorem dL_law_515 : decode cL_law 515 = .ok (.iload_n 3, 1) := by decide +kernel
theorem dL_law_516 : decode cL_law 516 = .ok (.iconst 2, 1) := by decide +kernel
theorem dL_law_517 : decode cL_law 517 = .ok (.iadd, 1) := by decide +kernel
theorem dL_law_518 : decode cL_law 518 = .ok (.iaload, 1) := by decide +kernel
theorem dL_law_519 : decode cL_law 519 = .ok (.aload_n 0, 1) := by decide +kernel
theorem dL_law_520 : decode cL_law 520 = .ok (.iload_n 3, 1) := by decide +kernel
theorem dL_law_521 : decode cL_law 521 = .ok (.iconst 3, 1) := by decide +kernel
theorem dL_law_522 : decode cL_law 522 = .ok (.iadd, 1) := by decide +kernel
theorem dL_law_523 : decode cL_law 523 = .ok (.iaload, 1) := by decide +kernel
theorem dL_law_524 : decode cL_law 524 = .ok (.aload_n 0, 1) := by decide +kernel
theorem dL_law_525 : decode cL_law 525 = .ok (.iload_n 3, 1) := by decide +kernel
theorem dL_law_526 : decode cL_law 526 = .ok (.iconst 4, 1) := by decide +kernel
theorem dL_law_527 : decode cL_law 527 = .ok (.iadd, 1) := by decide +kernel
theorem dL_law_528 : decode cL_law 528 = .ok (.iaload, 1) := by decide +kernel
theorem dL_law_529 : decode cL_law 529 = .ok (.invokevirtual 65, 3) := by decide +kernel
theorem dL_law_532 : decode cL_law 532 = .ok (.aload_n 2, 1) := by decide +kernel
theorem dL_law_533 : decode cL_law 533 = .ok (.aload_n 0, 1) := by decide +kernel
theorem dL_law_534 : decode cL_law 534 = .ok (.iload_n 3, 1) := by decide +kernel
theorem dL_law_535 : decode cL_law 535 = .ok (.iconst 1, 1) := by decide +kernel
theorem dL_law_536 : decode cL_law 536 = .ok (.iadd, 1) := by decide +kernel
theorem dL_law_537 : decode cL_law 537 = .ok (.iaload, 1) := by decide +kernel
theorem dL_law_538 : decode cL_law 538 = .ok (.aload_n 0, 1) := by decide +kernel
theorem dL_law_539 : decode cL_law 539 = .ok (.iload_n 3, 1) := by decide +kernel
theorem dL_law_540 : decode cL_law 540 = .ok (.iconst 2, 1) := by decide +kernel
theorem dL_law_541 : decode cL_law 541 = .ok (.iadd, 1) := by decide +kernel
theorem dL_law_542 : decode cL_law 542 = .ok (.iaload, 1) := by decide +kernel
theorem dL_law_543 : decode cL_law 543 = .ok (.aload_n 0, 1) := by decide +kernel
theorem dL_law_544 : decode cL_law 544 = .ok (.iload_n 3, 1) := by decide +kernel
theorem dL_law_545 : decode cL_law 545 = .ok (.iconst 3, 1) := by decide +kernel
theorem dL_law_546 : decode cL_law 546 = .ok (.iadd, 1) := by decide +kernel
theorem dL_law_547 : decode cL_law 547 = .ok (.iaload, 1) := by decide +kernel
theorem dL_law_548 : decode cL_law 548 = .ok (.aload_n 0, 1) := by decide +kernel
theorem dL_law_549 : decode cL_law 549 = .ok (.iload_n 3, 1) := by decide +kernel
theorem dL_law_550 : decode cL_law 550 = .ok (.iconst 4, 1) := by decide +kernel
theorem dL_law_551 : decode cL_law 551 = .ok (.iadd, 1) := by decide +kernel
theorem dL_law_552 : decode cL_law 552 = .ok (.iaload, 1) := by decide +kernel
theorem dL_law_553 : decode cL_law 553 = .ok (.invokevirtual 68, 3) := by decide +kernel
theorem dL_law_556 : decode cL_law 556 = .ok (.if_icmp .eq 289, 3) := by decide +kernel
theorem dL_law_559 : decode cL_law 559 = .ok (.iconst 0, 1) := by decide +kernel
theorem dL_law_560 : decode cL_law 560 = .ok (.ireturn, 1) := by decide +kernel
theorem dL_law_561 : decode cL_law 561 = .ok (.aload_n 1, 1) := by decide +kernel
theorem dL_law_562 : decode cL_law 562 = .ok (.aload_n 0, 1) := by decide +kernel
theorem dL_law_563 : decode cL_law 563 = .ok (.iload_n 3, 1) := by decide +kernel
theorem dL_law_564 : decode cL_law 564 = .ok (.iconst 1, 1) := by decide +kernel
theorem dL_law_565 : decode cL_law 565 = .ok (.iadd, 1) := by decide +kernel
theorem dL_law_566 : decode cL_law 566 = .ok (.iaload, 1) := by decide +kernel
theorem dL_law_567 : decode cL_law 567 = .ok (.aload_n 0, 1) := by decide +kernel
theorem dL_law_568 : decode cL_law 568 = .ok (.iload_n 3, 1) := by decide +kernel
theorem dL_law_569 : decode cL_law 569 = .ok (.iconst 2, 1) := by decide +kernel
theorem dL_law_570 : decode cL_law 570 = .ok (.iadd, 1) := by decide +kernel
theorem dL_law_571 : decode cL_law 571 = .ok (.iaload, 1) := by decide +kernel
theorem dL_law_572 : decode cL_law 572 = .ok (.invokevirtual 69, 3) := by decide +kernel
theorem dL_law_575 : decode cL_law 575 = .ok (.aload_n 2, 1) := by decide +kernel
theorem dL_law_576 : decode cL_law 576 = .ok (.aload_n 0, 1) := by decide +kernel
theorem dL_law_577 : decode cL_law 577 = .ok (.iload_n 3, 1) := by decide +kernel
theorem dL_law_578 : decode cL_law 578 = .ok (.iconst 1, 1) := by decide +kernel
theorem dL_law_579 : decode cL_law 579 = .ok (.iadd, 1) := by decide +kernel
theorem dL_law_580 : decode cL_law 580 = .ok (.iaload, 1) := by decide +kernel
theorem dL_law_581 : decode cL_law 581 = .ok (.aload_n 0, 1) := by decide +kernel
theorem dL_law_582 : decode cL_law 582 = .ok (.iload_n 3, 1) := by decide +kernel
theorem dL_law_583 : decode cL_law 583 = .ok (.iconst 2, 1) := by decide +kernel
theorem dL_law_584 : decode cL_law 584 = .ok (.iadd, 1) := by decide +kernel
theorem dL_law_585 : decode cL_law 585 = .ok (.iaload, 1) := by decide +kernel
theorem dL_law_586 : decode cL_law 586 = .ok (.invokevirtual 72, 3) := by decide +kernel
theorem dL_law_589 : decode cL_law 589 = .ok (.if_icmp .eq 256, 3) := by decide +kernel
theorem dL_law_592 : decode cL_law 592 = .ok (.iconst 0, 1) := by decide +kernel
theorem dL_law_593 : decode cL_law 593 = .ok (.ireturn, 1) := by decide +kernel
theorem dL_law_594 : decode cL_law 594 = .ok (.aload_n 1, 1) := by decide +kernel
theorem dL_law_595 : decode cL_law 595 = .ok (.aload_n 0, 1) := by decide +kernel
theorem dL_law_596 : decode cL_law 596 = .ok (.iload_n 3, 1) := by decide +kernel
theorem dL_law_597 : decode cL_law 597 = .ok (.iconst 1, 1) := by decide +kernel
theorem dL_law_598 : decode cL_law 598 = .ok (.iadd, 1) := by decide +kernel
theorem dL_law_599 : decode cL_law 599 = .ok (.iaload, 1) := by decide +kernel
theorem dL_law_600 : decode cL_law 600 = .ok (.aload_n 0, 1) := by decide +kernel
theorem dL_law_601 : decode cL_law 601 = .ok (.iload_n 3, 1) := by decide +kernel
theorem dL_law_602 : decode cL_law 602 = .ok (.iconst 2, 1) := by decide +kernel
theorem dL_law_603 : decode cL_law 603 = .ok (.iadd, 1) := by decide +kernel
theorem dL_law_604 : decode cL_law 604 = .ok (.iaload, 1) := by decide +kernel
theorem dL_law_605 : decode cL_law 605 = .ok (.aload_n 0, 1) := by decide +kernel
theorem dL_law_606 : decode cL_law 606 = .ok (.iload_n 3, 1) := by decide +kernel
theorem dL_law_607 : decode cL_law 607 = .ok (.iconst 3, 1) := by decide +kernel
theorem dL_law_608 : decode cL_law 608 = .ok (.iadd, 1) := by decide +kernel
theorem dL_law_609 : decode cL_law 609 = .ok (.iaload, 1) := by decide +kernel
theorem dL_law_610 : decode cL_law 610 = .ok (.aload_n 0, 1) := by decide +kernel
theorem dL_law_611 : decode cL_law 611 = .ok (.iload_n 3, 1) := by decide +kernel
theorem dL_law_612 : decode cL_law 612 = .ok (.iconst 4, 1) := by decide +kernel
theorem dL_law_613 : decode cL_law 613 = .ok (.iadd, 1) := by decide +kernel
theorem dL_law_614 : decode cL_law 614 = .ok (.iaload, 1) := by decide +kernel
theorem dL_law_615 : decode cL_law 615 = .ok (.aload_n 0, 1) := by decide +kernel
theorem dL_law_616 : decode cL_law 616 = .ok (.iload_n 3, 1) := by decide +kernel
theorem dL_law_617 : decode cL_law 617 = .ok (.iconst 5, 1) := by decide +kernel
theorem dL_law_618 : decode cL_law 618 = .ok (.iadd, 1) := by decide +kernel
theorem dL_law_619 : decode cL_law 619 = .ok (.iaload, 1) := by decide +kernel
theorem dL_law_620 : decode cL_law 620 = .ok (.invokevirtual 73, 3) := by decide +kernel
theorem dL_law_623 : decode cL_law 623 = .ok (.aload_n 2, 1) := by decide +kernel
theorem dL_law_624 : decode cL_law 624 = .ok (.aload_n 0, 1) := by decide +kernel
theorem dL_law_625 : decode cL_law 625 = .ok (.iload_n 3, 1) := by decide +kernel
theorem dL_law_626 : decode cL_law 626 = .ok (.iconst 1, 1) := by decide +kernel
theorem dL_law_627 : decode cL_law 627 = .ok (.iadd, 1) := by decide +kernel
theorem dL_law_628 : decode cL_law 628 = .ok (.iaload, 1) := by decide +kernel
theorem dL_law_629 : decode cL_law 629 = .ok (.aload_n 0, 1) := by decide +kernel
theorem dL_law_630 : decode cL_law 630 = .ok (.iload_n 3, 1) := by decide +kernel
theorem dL_law_631 : decode cL_law 631 = .ok (.iconst 2, 1) := by decide +kernel
theorem dL_law_632 : decode cL_law 632 = .ok (.iadd, 1) := by decide +kernel
theorem dL_law_633 : decode cL_law 633 = .ok (.iaload, 1) := by decide +kernel
theorem dL_law_634 : decode cL_law 634 = .ok (.aload_n 0, 1) := by decide +kernel
theorem dL_law_635 : decode cL_law 635 = .ok (.iload_n 3, 1) := by decide +kernel
theorem dL_law_636 : decode cL_law 636 = .ok (.iconst 3, 1) := by decide +kernel
theorem dL_law_637 : decode cL_law 637 = .ok (.iadd, 1) := by decide +kernel
theorem dL_law_638 : decode cL_law 638 = .ok (.iaload, 1) := by decide +kernel
theorem dL_law_639 : decode cL_law 639 = .ok (.aload_n 0, 1) := by decide +kernel
theorem dL_law_640 : decode cL_law 640 = .ok (.iload_n 3, 1) := by decide +kernel
theorem dL_law_641 : decode cL_law 641 = .ok (.iconst 4, 1) := by decide +kernel
theorem dL_law_642 : decode cL_law 642 = .ok (.iadd, 1) := by decide +kernel
theorem dL_law_643 : decode cL_law 643 = .ok (.iaload, 1) := by decide +kernel
theorem dL_law_644 : decode cL_law 644 = .ok (.aload_n 0, 1) := by decide +kernel
theorem dL_law_645 : decode cL_law 645 = .ok (.iload_n 3, 1) := by decide +kernel
theorem dL_law_646 : decode cL_law 646 = .ok (.iconst 5, 1) := by decide +kernel
theorem dL_law_647 : decode cL_law 647 = .ok (.iadd, 1) := by decide +kernel
theorem dL_law_648 : decode cL_law 648 = .ok (.iaload, 1) := by decide +kernel
theorem dL_law_649 : decode cL_law 649 = .ok (.invokevirtual 77, 3) := by decide +kernel
theorem dL_law_652 : decode cL_law 652 = .ok (.if_icmp .eq 193, 3) := by decide +kernel
theorem dL_law_655 : decode cL_law 655 = .ok (.iconst 0, 1) := by decide +kernel
theorem dL_law_656 : decode cL_law 656 = .ok (.ireturn, 1) := by decide +kernel
theorem dL_law_657 : decode cL_law 657 = .ok (.aload_n 1, 1) := by decide +kernel
theorem dL_law_658 : decode cL_law 658 = .ok (.aload_n 0, 1) := by decide +kernel
theorem dL_law_659 : decode cL_law 659 = .ok (.iload_n 3, 1) := by decide +kernel
theorem dL_law_660 : decode cL_law 660 = .ok (.iconst 1, 1) := by decide +kernel
theorem dL_law_661 : decode cL_law 661 = .ok (.iadd, 1) := by decide +kernel
theorem dL_law_662 : decode cL_law 662 = .ok (.iaload, 1) := by decide +kernel
theorem dL_law_663 : decode cL_law 663 = .ok (.aload_n 0, 1) := by decide +kernel
theorem dL_law_664 : decode cL_law 664 = .ok (.iload_n 3, 1) := by decide +kernel
theorem dL_law_665 : decode cL_law 665 = .ok (.iconst 2, 1) := by decide +kernel
theorem dL_law_666 : decode cL_law 666 = .ok (.iadd, 1) := by decide +kernel
theorem dL_law_667 : decode cL_law 667 = .ok (.iaload, 1) := by decide +kernel
theorem dL_law_668 : decode cL_law 668 = .ok (.invokevirtual 78, 3) := by decide +kernel
theorem dL_law_671 : decode cL_law 671 = .ok (.aload_n 2, 1) := by decide +kernel
theorem dL_law_672 : decode cL_law 672 = .ok (.aload_n 0, 1) := by decide +kernel
theorem dL_law_673 : decode cL_law 673 = .ok (.iload_n 3, 1) := by decide +kernel
theorem dL_law_674 : decode cL_law 674 = .ok (.iconst 1, 1) := by decide +kernel
theorem dL_law_675 : decode cL_law 675 = .ok (.iadd, 1) := by decide +kernel
theorem dL_law_676 : decode cL_law 676 = .ok (.iaload, 1) := by decide +kernel
theorem dL_law_677 : decode cL_law 677 = .ok (.aload_n 0, 1) := by decide +kernel
theorem dL_law_678 : decode cL_law 678 = .ok (.iload_n 3, 1) := by decide +kernel
theorem dL_law_679 : decode cL_law 679 = .ok (.iconst 2, 1) := by decide +kernel
theorem dL_law_680 : decode cL_law 680 = .ok (.iadd, 1) := by decide +kernel
theorem dL_law_681 : decode cL_law 681 = .ok (.iaload, 1) := by decide +kernel
theorem dL_law_682 : decode cL_law 682 = .ok (.invokevirtual 81, 3) := by decide +kernel
theorem dL_law_685 : decode cL_law 685 = .ok (.if_icmp .eq 160, 3) := by decide +kernel
theorem dL_law_688 : decode cL_law 688 = .ok (.iconst 0, 1) := by decide +kernel
theorem dL_law_689 : decode cL_law 689 = .ok (.ireturn, 1) := by decide +kernel
theorem dL_law_690 : decode cL_law 690 = .ok (.aload_n 1, 1) := by decide +kernel
theorem dL_law_691 : decode cL_law 691 = .ok (.aload_n 0, 1) := by decide +kernel
theorem dL_law_692 : decode cL_law 692 = .ok (.iload_n 3, 1) := by decide +kernel
theorem dL_law_693 : decode cL_law 693 = .ok (.iconst 1, 1) := by decide +kernel
theorem dL_law_694 : decode cL_law 694 = .ok (.iadd, 1) := by decide +kernel
theorem dL_law_695 : decode cL_law 695 = .ok (.iaload, 1) := by decide +kernel
theorem dL_law_696 : decode cL_law 696 = .ok (.invokevirtual 82, 3) := by decide +kernel
theorem dL_law_699 : decode cL_law 699 = .ok (.aload_n 2, 1) := by decide +kernel
theorem dL_law_700 : decode cL_law 700 = .ok (.aload_n 0, 1) := by decide +kernel
theorem dL_law_701 : decode cL_law 701 = .ok (.iload_n 3, 1) := by decide +kernel
theorem dL_law_702 : decode cL_law 702 = .ok (.iconst 1, 1) := by decide +kernel
theorem dL_law_703 : decode cL_law 703 = .ok (.iadd, 1) := by decide +kernel
theorem dL_law_704 : decode cL_law 704 = .ok (.iaload, 1) := by decide +kernel
theorem dL_law_705 : decode cL_law 705 = .ok (.invokevirtual 85, 3) := by decide +kernel
theorem dL_law_708 : decode cL_law 708 = .ok (.if_icmp .eq 137, 3) := by decide +kernel
theorem dL_law_711 : decode cL_law 711 = .ok (.iconst 0, 1) := by decide +kernel
theorem dL_law_712 : decode cL_law 712 = .ok (.ireturn, 1) := by decide +kernel
theorem dL_law_713 : decode cL_law 713 = .ok (.aload_n 1, 1) := by decide +kernel
theorem dL_law_714 : decode cL_law 714 = .ok (.aload_n 0, 1) := by decide +kernel
theorem dL_law_715 : decode cL_law 715 = .ok (.iload_n 3, 1) := by decide +kernel
theorem dL_law_716 : decode cL_law 716 = .ok (.iconst 1, 1) := by decide +kernel
theorem dL_law_717 : decode cL_law 717 = .ok (.iadd, 1) := by decide +kernel
theorem dL_law_718 : decode cL_law 718 = .ok (.iaload, 1) := by decide +kernel
theorem dL_law_719 : decode cL_law 719 = .ok (.aload_n 0, 1) := by decide +kernel
theorem dL_law_720 : decode cL_law 720 = .ok (.iload_n 3, 1) := by decide +kernel
theorem dL_law_721 : decode cL_law 721 = .ok (.iconst 2, 1) := by decide +kernel
theorem dL_law_722 : decode cL_law 722 = .ok (.iadd, 1) := by decide +kernel
theorem dL_law_723 : decode cL_law 723 = .ok (.iaload, 1) := by decide +kernel
theorem dL_law_724 : decode cL_law 724 = .ok (.aload_n 0, 1) := by decide +kernel
theorem dL_law_725 : decode cL_law 725 = .ok (.iload_n 3, 1) := by decide +kernel
theorem dL_law_726 : decode cL_law 726 = .ok (.iconst 3, 1) := by decide +kernel
theorem dL_law_727 : decode cL_law 727 = .ok (.iadd, 1) := by decide +kernel
theorem dL_law_728 : decode cL_law 728 = .ok (.iaload, 1) := by decide +kernel
theorem dL_law_729 : decode cL_law 729 = .ok (.aload_n 0, 1) := by decide +kernel
theorem dL_law_730 : decode cL_law 730 = .ok (.iload_n 3, 1) := by decide +kernel
theorem dL_law_731 : decode cL_law 731 = .ok (.iconst 4, 1) := by decide +kernel
theorem dL_law_732 : decode cL_law 732 = .ok (.iadd, 1) := by decide +kernel
theorem dL_law_733 : decode cL_law 733 = .ok (.iaload, 1) := by decide +kernel
theorem dL_law_734 : decode cL_law 734 = .ok (.aload_n 0, 1) := by decide +kernel
theorem dL_law_735 : decode cL_law 735 = .ok (.iload_n 3, 1) := by decide +kernel
theorem dL_law_736 : decode cL_law 736 = .ok (.iconst 5, 1) := by decide +kernel
theorem dL_law_737 : decode cL_law 737 = .ok (.iadd, 1) := by decide +kernel
theorem dL_law_738 : decode cL_law 738 = .ok (.iaload, 1) := by decide +kernel
theorem dL_law_739 : decode cL_law 739 = .ok (.invokevirtual 86, 3) := by decide +kernel
theorem dL_law_742 : decode cL_law 742 = .ok (.aload_n 2, 1) := by decide +kernel
theorem dL_law_743 : decode cL_law 743 = .ok (.aload_n 0, 1) := by decide +kernel
theorem dL_law_744 : decode cL_law 744 = .ok (.iload_n 3, 1) := by decide +kernel
theorem dL_law_745 : decode cL_law 745 = .ok (.iconst 1, 1) := by decide +kernel
theorem dL_law_746 : decode cL_law 746 = .ok (.iadd, 1) := by decide +kernel
theorem dL_law_747 : decode cL_law 747 = .ok (.iaload, 1) := by decide +kernel
theorem dL_law_748 : decode cL_law 748 = .ok (.aload_n 0, 1) := by decide +kernel
theorem dL_law_749 : decode cL_law 749 = .ok (.iload_n 3, 1) := by decide +kernel
theorem dL_law_750 : decode cL_law 750 = .ok (.iconst 2, 1) := by decide +kernel
theorem dL_law_751 : decode cL_law 751 = .ok (.iadd, 1) := by decide +kernel
theorem dL_law_752 : decode cL_law 752 = .ok (.iaload, 1) := by decide +kernel
theorem dL_law_753 : decode cL_law 753 = .ok (.aload_n 0, 1) := by decide +kernel
theorem dL_law_754 : decode cL_law 754 = .ok (.iload_n 3, 1) := by decide +kernel
theorem dL_law_755 : decode cL_law 755 = .ok (.iconst 3, 1) := by decide +kernel
theorem dL_law_756 : decode cL_law 756 = .ok (.iadd, 1) := by decide +kernel
theorem dL_law_757 : decode cL_law 757 = .ok (.iaload, 1) := by decide +kernel
theorem dL_law_758 : decode cL_law 758 = .ok (.aload_n 0, 1) := by decide +kernel
theorem dL_law_759 : decode cL_law 759 = .ok (.iload_n 3, 1) := by decide +kernel
theorem dL_law_760 : decode cL_law 760 = .ok (.iconst 4, 1) := by decide +kernel
theorem dL_law_761 : decode cL_law 761 = .ok (.iadd, 1) := by decide +kernel
theorem dL_law_762 : decode cL_law 762 = .ok (.iaload, 1) := by decide +kernel
theorem dL_law_763 : decode cL_law 763 = .ok (.aload_n 0, 1) := by decide +kernel
theorem dL_law_764 : decode cL_law 764 = .ok (.iload_n 3, 1) := by decide +kernel
theorem dL_law_765 : decode cL_law 765 = .ok (.iconst 5, 1) := by decide +kernel
theorem dL_law_766 : decode cL_law 766 = .ok (.iadd, 1) := by decide +kernel
theorem dL_law_767 : decode cL_law 767 = .ok (.iaload, 1) := by decide +kernel
theorem dL_law_768 : decode cL_law 768 = .ok (.invokevirtual 89, 3) := by decide +kernel
theorem dL_law_771 : decode cL_law 771 = .ok (.if_icmp .eq 74, 3) := by decide +kernel
theorem dL_law_774 : decode cL_law 774 = .ok (.iconst 0, 1) := by decide +kernel
theorem dL_law_775 : decode cL_law 775 = .ok (.ireturn, 1) := by decide +kernel
theorem dL_law_776 : decode cL_law 776 = .ok (.aload_n 1, 1) := by decide +kernel
theorem dL_law_777 : decode cL_law 777 = .ok (.aload_n 0, 1) := by decide +kernel
theorem dL_law_778 : decode cL_law 778 = .ok (.iload_n 3, 1) := by decide +kernel
theorem dL_law_779 : decode cL_law 779 = .ok (.iconst 1, 1) := by decide +kernel
theorem dL_law_780 : decode cL_law 780 = .ok (.iadd, 1) := by decide +kernel
theorem dL_law_781 : decode cL_law 781 = .ok (.iaload, 1) := by decide +kernel
theorem dL_law_782 : decode cL_law 782 = .ok (.invokevirtual 90, 3) := by decide +kernel
theorem dL_law_785 : decode cL_law 785 = .ok (.aload_n 2, 1) := by decide +kernel
theorem dL_law_786 : decode cL_law 786 = .ok (.aload_n 0, 1) := by decide +kernel
theorem dL_law_787 : decode cL_law 787 = .ok (.iload_n 3, 1) := by decide +kernel
theorem dL_law_788 : decode cL_law 788 = .ok (.iconst 1, 1) := by decide +kernel
theorem dL_law_789 : decode cL_law 789 = .ok (.iadd, 1) := by decide +kernel
theorem dL_law_790 : decode cL_law 790 = .ok (.iaload, 1) := by decide +kernel
theorem dL_law_791 : decode cL_law 791 = .ok (.invokevirtual 93, 3) := by decide +kernel
theorem dL_law_794 : decode cL_law 794 = .ok (.if_icmp .eq 51, 3) := by decide +kernel
theorem dL_law_797 : decode cL_law 797 = .ok (.iconst 0, 1) := by decide +kernel
theorem dL_law_798 : decode cL_law 798 = .ok (.ireturn, 1) := by decide +kernel
theorem dL_law_799 : decode cL_law 799 = .ok (.aload_n 1, 1) := by decide +kernel
theorem dL_law_800 : decode cL_law 800 = .ok (.aload_n 0, 1) := by decide +kernel
theorem dL_law_801 : decode cL_law 801 = .ok (.iload_n 3, 1) := by decide +kernel
theorem dL_law_802 : decode cL_law 802 = .ok (.iconst 1, 1) := by decide +kernel
theorem dL_law_803 : decode cL_law 803 = .ok (.iadd, 1) := by decide +kernel
theorem dL_law_804 : decode cL_law 804 = .ok (.iaload, 1) := by decide +kernel
theorem dL_law_805 : decode cL_law 805 = .ok (.invokevirtual 94, 3) := by decide +kernel
theorem dL_law_808 : decode cL_law 808 = .ok (.aload_n 2, 1) := by decide +kernel
theorem dL_law_809 : decode cL_law 809 = .ok (.aload_n 0, 1) := by decide +kernel
theorem dL_law_810 : decode cL_law 810 = .ok (.iload_n 3, 1) := by decide +kernel
theorem dL_law_811 : decode cL_law 811 = .ok (.iconst 1, 1) := by decide +kernel
theorem dL_law_812 : decode cL_law 812 = .ok (.iadd, 1) := by decide +kernel
theorem dL_law_813 : decode cL_law 813 = .ok (.iaload, 1) := by decide +kernel
theorem dL_law_814 : decode cL_law 814 = .ok (.invokevirtual 97, 3) := by decide +kernel
theorem dL_law_817 : decode cL_law 817 = .ok (.if_icmp .eq 28, 3) := by decide +kernel
theorem dL_law_820 : decode cL_law 820 = .ok (.iconst 0, 1) := by decide +kernel
theorem dL_law_821 : decode cL_law 821 = .ok (.ireturn, 1) := by decide +kernel
theorem dL_law_822 : decode cL_law 822 = .ok (.aload_n 1, 1) := by decide +kernel
theorem dL_law_823 : decode cL_law 823 = .ok (.aload_n 0, 1) := by decide +kernel
theorem dL_law_824 : decode cL_law 824 = .ok (.iload_n 3, 1) := by decide +kernel
theorem dL_law_825 : decode cL_law 825 = .ok (.iconst 1, 1) := by decide +kernel
theorem dL_law_826 : decode cL_law 826 = .ok (.iadd, 1) := by decide +kernel
theorem dL_law_827 : decode cL_law 827 = .ok (.iaload, 1) := by decide +kernel
theorem dL_law_828 : decode cL_law 828 = .ok (.invokevirtual 98, 3) := by decide +kernel
theorem dL_law_831 : decode cL_law 831 = .ok (.aload_n 2, 1) := by decide +kernel
theorem dL_law_832 : decode cL_law 832 = .ok (.aload_n 0, 1) := by decide +kernel
theorem dL_law_833 : decode cL_law 833 = .ok (.iload_n 3, 1) := by decide +kernel
theorem dL_law_834 : decode cL_law 834 = .ok (.iconst 1, 1) := by decide +kernel
theorem dL_law_835 : decode cL_law 835 = .ok (.iadd, 1) := by decide +kernel
theorem dL_law_836 : decode cL_law 836 = .ok (.iaload, 1) := by decide +kernel
theorem dL_law_837 : decode cL_law 837 = .ok (.invokevirtual 101, 3) := by decide +kernel
theorem dL_law_840 : decode cL_law 840 = .ok (.if_icmp .eq 5, 3) := by decide +kernel
theorem dL_law_843 : decode cL_law 843 = .ok (.iconst 0, 1) := by decide +kernel
theorem dL_law_844 : decode cL_law 844 = .ok (.ireturn, 1) := by decide +kernel
theorem dL_law_845 : decode cL_law 845 = .ok (.iinc 3 6, 3) := by decide +kernel
theorem dL_law_848 : decode cL_law 848 = .ok (.goto (-830), 3) := by decide +kernel
theorem dL_law_851 : decode cL_law 851 = .ok (.iconst 1, 1) := by decide +kernel
theorem dL_law_852 : decode cL_law 852 = .ok (.ireturn, 1) := by decide +kernel
theorem dX0_init_0 : decode cX0_init 0 = .ok (.aload_n 0, 1) := by decide +kernel
theorem dX0_init_1 : decode cX0_init 1 = .ok (.invokespecial 3, 3) := by decide +kernel
theorem dX0_init_4 : decode cX0_init 4 = .ok (.aload_n 0, 1) := by decide +kernel
theorem dX0_init_5 : decode cX0_init 5 = .ok (.iconst 2, 1) := by decide +kernel
theorem dX0_init_6 : decode cX0_init 6 = .ok (.putfield 9, 3) := by decide +kernel
theorem dX0_init_9 : decode cX0_init 9 = .ok (.aload_n 0, 1) := by decide +kernel
theorem dX0_init_10 : decode cX0_init 10 = .ok (.bipush 6, 2) := by decide +kernel
theorem dX0_init_12 : decode cX0_init 12 = .ok (.putfield 15, 3) := by decide +kernel
theorem dX0_init_15 : decode cX0_init 15 = .ok (.aload_n 0, 1) := by decide +kernel
theorem dX0_init_16 : decode cX0_init 16 = .ok (.iconst 0, 1) := by decide +kernel
theorem dX0_init_17 : decode cX0_init 17 = .ok (.putfield 18, 3) := by decide +kernel
theorem dX0_init_20 : decode cX0_init 20 = .ok (.aload_n 0, 1) := by decide +kernel
theorem dX0_init_21 : decode cX0_init 21 = .ok (.iconst 0, 1) := by decide +kernel
theorem dX0_init_22 : decode cX0_init 22 = .ok (.putfield 21, 3) := by decide +kernel
theorem dX0_init_25 : decode cX0_init 25 = .ok (.aload_n 0, 1) := by decide +kernel
theorem dX0_init_26 : decode cX0_init 26 = .ok (.iconst 0, 1) := by decide +kernel
theorem dX0_init_27 : decode cX0_init 27 = .ok (.putfield 24, 3) := by decide +kernel
theorem dX0_init_30 : decode cX0_init 30 = .ok (.aload_n 0, 1) := by decide +kernel
theorem dX0_init_31 : decode cX0_init 31 = .ok (.iconst 0, 1) := by decide +kernel
theorem dX0_init_32 : decode cX0_init 32 = .ok (.putfield 27, 3) := by decide +kernel
theorem dX0_init_35 : decode cX0_init 35 = .ok (.aload_n 0, 1) := by decide +kernel
theorem dX0_init_36 : decode cX0_init 36 = .ok (.iconst 0, 1) := by decide +kernel
theorem dX0_init_37 : decode cX0_init 37 = .ok (.putfield 30, 3) := by decide +kernel
theorem dX0_init_40 : decode cX0_init 40 = .ok (.aload_n 0, 1) := by decide +kernel
theorem dX0_init_41 : decode cX0_init 41 = .ok (.iconst 0, 1) := by decide +kernel
theorem dX0_init_42 : decode cX0_init 42 = .ok (.putfield 33, 3) := by decide +kernel
theorem dX0_init_45 : decode cX0_init 45 = .ok (.aload_n 0, 1) := by decide +kernel
theorem dX0_init_46 : decode cX0_init 46 = .ok (.iconst 0, 1) := by decide +kernel
theorem dX0_init_47 : decode cX0_init 47 = .ok (.putfield 36, 3) := by decide +kernel
theorem dX0_init_50 : decode cX0_init 50 = .ok (.aload_n 0, 1) := by decide +kernel
theorem dX0_init_51 : decode cX0_init 51 = .ok (.iconst 4, 1) := by decide +kernel
theorem dX0_init_52 : decode cX0_init 52 = .ok (.newarray .int, 2) := by decide +kernel
theorem dX0_init_54 : decode cX0_init 54 = .ok (.putfield 39, 3) := by decide +kernel
theorem dX0_init_57 : decode cX0_init 57 = .ok (.aload_n 0, 1) := by decide +kernel
theorem dX0_init_58 : decode cX0_init 58 = .ok (.iconst 4, 1) := by decide +kernel
theorem dX0_init_59 : decode cX0_init 59 = .ok (.newarray .int, 2) := by decide +kernel
theorem dX0_init_61 : decode cX0_init 61 = .ok (.putfield 43, 3) := by decide +kernel
theorem dX0_init_64 : decode cX0_init 64 = .ok (.aload_n 0, 1) := by decide +kernel
theorem dX0_init_65 : decode cX0_init 65 = .ok (.aload_n 1, 1) := by decide +kernel
theorem dX0_init_66 : decode cX0_init 66 = .ok (.putfield 46, 3) := by decide +kernel
theorem dX0_init_69 : decode cX0_init 69 = .ok (.return_, 1) := by decide +kernel
theorem dX0_measure_0 : decode cX0_measure 0 = .ok (.aload_n 0, 1) := by decide +kernel
theorem dX0_measure_1 : decode cX0_measure 1 = .ok (.iconst 0, 1) := by decide +kernel
theorem dX0_measure_2 : decode cX0_measure 2 = .ok (.putfield 18, 3) := by decide +kernel
theorem dX0_measure_5 : decode cX0_measure 5 = .ok (.aload_n 0, 1) := by decide +kernel
theorem dX0_measure_6 : decode cX0_measure 6 = .ok (.iconst 0, 1) := by decide +kernel
theorem dX0_measure_7 : decode cX0_measure 7 = .ok (.putfield 21, 3) := by decide +kernel
theorem dX0_measure_10 : decode cX0_measure 10 = .ok (.aload_n 0, 1) := by decide +kernel
theorem dX0_measure_11 : decode cX0_measure 11 = .ok (.iconst 0, 1) := by decide +kernel
theorem dX0_measure_12 : decode cX0_measure 12 = .ok (.putfield 24, 3) := by decide +kernel
theorem dX0_measure_15 : decode cX0_measure 15 = .ok (.aload_n 0, 1) := by decide +kernel
theorem dX0_measure_16 : decode cX0_measure 16 = .ok (.iconst 0, 1) := by decide +kernel
theorem dX0_measure_17 : decode cX0_measure 17 = .ok (.putfield 27, 3) := by decide +kernel
theorem dX0_measure_20 : decode cX0_measure 20 = .ok (.aload_n 0, 1) := by decide +kernel
theorem dX0_measure_21 : decode cX0_measure 21 = .ok (.iconst 0, 1) := by decide +kernel
theorem dX0_measure_22 : decode cX0_measure 22 = .ok (.putfield 30, 3) := by decide +kernel
theorem dX0_measure_25 : decode cX0_measure 25 = .ok (.aload_n 0, 1) := by decide +kernel
theorem dX0_measure_26 : decode cX0_measure 26 = .ok (.iconst 0, 1) := by decide +kernel
theorem dX0_measure_27 : decode cX0_measure 27 = .ok (.putfield 33, 3) := by decide +kernel
theorem dX0_measure_30 : decode cX0_measure 30 = .ok (.aload_n 0, 1) := by decide +kernel
theorem dX0_measure_31 : decode cX0_measure 31 = .ok (.getfield 43, 3) := by decide +kernel
theorem dX0_measure_34 : decode cX0_measure 34 = .ok (.iconst 1, 1) := by decide +kernel
theorem dX0_measure_35 : decode cX0_measure 35 = .ok (.invokestatic 50, 3) := by decide +kernel
theorem dX0_measure_38 : decode cX0_measure 38 = .ok (.aload_n 0, 1) := by decide +kernel
theorem dX0_measure_39 : decode cX0_measure 39 = .ok (.aload_n 0, 1) := by decide +kernel
theorem dX0_measure_40 : decode cX0_measure 40 = .ok (.getfield 46, 3) := by decide +kernel
theorem dX0_measure_43 : decode cX0_measure 43 = .ok (.invokevirtual 56, 3) := by decide +kernel
theorem dX0_measure_46 : decode cX0_measure 46 = .ok (.iconst 0, 1) := by decide +kernel
theorem dX0_measure_47 : decode cX0_measure 47 = .ok (.invokevirtual 62, 3) := by decide +kernel
theorem dX0_measure_50 : decode cX0_measure 50 = .ok (.return_, 1) := by decide +kernel
theorem dX0_visit_0 : decode cX0_visit 0 = .ok (.aload_n 0, 1) := by decide +kernel
theorem dX0_visit_1 : decode cX0_visit 1 = .ok (.dup, 1) := by decide +kernel
theorem dX0_visit_2 : decode cX0_visit 2 = .ok (.getfield 18, 3) := by decide +kernel
theorem dX0_visit_5 : decode cX0_visit 5 = .ok (.iconst 1, 1) := by decide +kernel
theorem dX0_visit_6 : decode cX0_visit 6 = .ok (.iadd, 1) := by decide +kernel
theorem dX0_visit_7 : decode cX0_visit 7 = .ok (.putfield 18, 3) := by decide +kernel
theorem dX0_visit_10 : decode cX0_visit 10 = .ok (.aload_n 0, 1) := by decide +kernel
theorem dX0_visit_11 : decode cX0_visit 11 = .ok (.aload_n 0, 1) := by decide +kernel
theorem dX0_visit_12 : decode cX0_visit 12 = .ok (.getfield 24, 3) := by decide +kernel
theorem dX0_visit_15 : decode cX0_visit 15 = .ok (.iload_n 2, 1) := by decide +kernel
theorem dX0_visit_16 : decode cX0_visit 16 = .ok (.invokestatic 66, 3) := by decide +kernel
theorem dX0_visit_19 : decode cX0_visit 19 = .ok (.putfield 24, 3) := by decide +kernel
theorem dX0_visit_22 : decode cX0_visit 22 = .ok (.aload_n 0, 1) := by decide +kernel
theorem dX0_visit_23 : decode cX0_visit 23 = .ok (.iload_n 1, 1) := by decide +kernel
theorem dX0_visit_24 : decode cX0_visit 24 = .ok (.iload_n 2, 1) := by decide +kernel
theorem dX0_visit_25 : decode cX0_visit 25 = .ok (.invokevirtual 72, 3) := by decide +kernel
theorem dX0_visit_28 : decode cX0_visit 28 = .ok (.istore_n 3, 1) := by decide +kernel
theorem dX0_visit_29 : decode cX0_visit 29 = .ok (.iload_n 3, 1) := by decide +kernel
theorem dX0_visit_30 : decode cX0_visit 30 = .ok (.ifCond .ge 12, 3) := by decide +kernel
theorem dX0_visit_33 : decode cX0_visit 33 = .ok (.aload_n 0, 1) := by decide +kernel
theorem dX0_visit_34 : decode cX0_visit 34 = .ok (.iload_n 1, 1) := by decide +kernel
theorem dX0_visit_35 : decode cX0_visit 35 = .ok (.invokestatic 75, 3) := by decide +kernel
theorem dX0_visit_38 : decode cX0_visit 38 = .ok (.invokevirtual 81, 3) := by decide +kernel
theorem dX0_visit_41 : decode cX0_visit 41 = .ok (.return_, 1) := by decide +kernel
theorem dX0_visit_42 : decode cX0_visit 42 = .ok (.aload_n 0, 1) := by decide +kernel
theorem dX0_visit_43 : decode cX0_visit 43 = .ok (.getfield 43, 3) := by decide +kernel
theorem dX0_visit_46 : decode cX0_visit 46 = .ok (.iload_n 3, 1) := by decide +kernel
theorem dX0_visit_47 : decode cX0_visit 47 = .ok (.iaload, 1) := by decide +kernel
theorem dX0_visit_48 : decode cX0_visit 48 = .ok (.istore 4, 2) := by decide +kernel
theorem dX0_visit_50 : decode cX0_visit 50 = .ok (.aload_n 0, 1) := by decide +kernel
theorem dX0_visit_51 : decode cX0_visit 51 = .ok (.getfield 43, 3) := by decide +kernel
theorem dX0_visit_54 : decode cX0_visit 54 = .ok (.iload_n 3, 1) := by decide +kernel
theorem dX0_visit_55 : decode cX0_visit 55 = .ok (.iconst 2, 1) := by decide +kernel
theorem dX0_visit_56 : decode cX0_visit 56 = .ok (.iload 4, 2) := by decide +kernel
theorem dX0_visit_58 : decode cX0_visit 58 = .ok (.imul, 1) := by decide +kernel
theorem dX0_visit_59 : decode cX0_visit 59 = .ok (.iastore, 1) := by decide +kernel
theorem dX0_visit_60 : decode cX0_visit 60 = .ok (.aload_n 0, 1) := by decide +kernel
theorem dX0_visit_61 : decode cX0_visit 61 = .ok (.iload_n 1, 1) := by decide +kernel
theorem dX0_visit_62 : decode cX0_visit 62 = .ok (.aload_n 0, 1) := by decide +kernel
theorem dX0_visit_63 : decode cX0_visit 63 = .ok (.getfield 46, 3) := by decide +kernel
theorem dX0_visit_66 : decode cX0_visit 66 = .ok (.getfield 85, 3) := by decide +kernel
theorem dX0_visit_69 : decode cX0_visit 69 = .ok (.iload_n 3, 1) := by decide +kernel
theorem dX0_visit_70 : decode cX0_visit 70 = .ok (.aaload, 1) := by decide +kernel
theorem dX0_visit_71 : decode cX0_visit 71 = .ok (.iconst 2, 1) := by decide +kernel
theorem dX0_visit_72 : decode cX0_visit 72 = .ok (.iload 4, 2) := by decide +kernel
theorem dX0_visit_74 : decode cX0_visit 74 = .ok (.imul, 1) := by decide +kernel
theorem dX0_visit_75 : decode cX0_visit 75 = .ok (.iaload, 1) := by decide +kernel
theorem dX0_visit_76 : decode cX0_visit 76 = .ok (.iand, 1) := by decide +kernel
theorem dX0_visit_77 : decode cX0_visit 77 = .ok (.iload_n 2, 1) := by decide +kernel
theorem dX0_visit_78 : decode cX0_visit 78 = .ok (.iconst 1, 1) := by decide +kernel
theorem dX0_visit_79 : decode cX0_visit 79 = .ok (.iadd, 1) := by decide +kernel
theorem dX0_visit_80 : decode cX0_visit 80 = .ok (.invokevirtual 62, 3) := by decide +kernel
theorem dX0_visit_83 : decode cX0_visit 83 = .ok (.aload_n 0, 1) := by decide +kernel
theorem dX0_visit_84 : decode cX0_visit 84 = .ok (.getfield 43, 3) := by decide +kernel
theorem dX0_visit_87 : decode cX0_visit 87 = .ok (.iload_n 3, 1) := by decide +kernel
theorem dX0_visit_88 : decode cX0_visit 88 = .ok (.iconst 2, 1) := by decide +kernel
theorem dX0_visit_89 : decode cX0_visit 89 = .ok (.iload 4, 2) := by decide +kernel
theorem dX0_visit_91 : decode cX0_visit 91 = .ok (.imul, 1) := by decide +kernel
theorem dX0_visit_92 : decode cX0_visit 92 = .ok (.iconst 1, 1) := by decide +kernel
theorem dX0_visit_93 : decode cX0_visit 93 = .ok (.iadd, 1) := by decide +kernel
theorem dX0_visit_94 : decode cX0_visit 94 = .ok (.iastore, 1) := by decide +kernel
theorem dX0_visit_95 : decode cX0_visit 95 = .ok (.aload_n 0, 1) := by decide +kernel
theorem dX0_visit_96 : decode cX0_visit 96 = .ok (.iload_n 1, 1) := by decide +kernel
theorem dX0_visit_97 : decode cX0_visit 97 = .ok (.aload_n 0, 1) := by decide +kernel
theorem dX0_visit_98 : decode cX0_visit 98 = .ok (.getfield 46, 3) := by decide +kernel
theorem dX0_visit_101 : decode cX0_visit 101 = .ok (.getfield 85, 3) := by decide +kernel
theorem dX0_visit_104 : decode cX0_visit 104 = .ok (.iload_n 3, 1) := by decide +kernel
theorem dX0_visit_105 : decode cX0_visit 105 = .ok (.aaload, 1) := by decide +kernel
theorem dX0_visit_106 : decode cX0_visit 106 = .ok (.iconst 2, 1) := by decide +kernel
theorem dX0_visit_107 : decode cX0_visit 107 = .ok (.iload 4, 2) := by decide +kernel
theorem dX0_visit_109 : decode cX0_visit 109 = .ok (.imul, 1) := by decide +kernel
theorem dX0_visit_110 : decode cX0_visit 110 = .ok (.iconst 1, 1) := by decide +kernel
theorem dX0_visit_111 : decode cX0_visit 111 = .ok (.iadd, 1) := by decide +kernel
theorem dX0_visit_112 : decode cX0_visit 112 = .ok (.iaload, 1) := by decide +kernel
theorem dX0_visit_113 : decode cX0_visit 113 = .ok (.iand, 1) := by decide +kernel
theorem dX0_visit_114 : decode cX0_visit 114 = .ok (.iload_n 2, 1) := by decide +kernel
theorem dX0_visit_115 : decode cX0_visit 115 = .ok (.iconst 1, 1) := by decide +kernel
theorem dX0_visit_116 : decode cX0_visit 116 = .ok (.iadd, 1) := by decide +kernel
theorem dX0_visit_117 : decode cX0_visit 117 = .ok (.invokevirtual 62, 3) := by decide +kernel
theorem dX0_visit_120 : decode cX0_visit 120 = .ok (.aload_n 0, 1) := by decide +kernel
theorem dX0_visit_121 : decode cX0_visit 121 = .ok (.getfield 43, 3) := by decide +kernel
theorem dX0_visit_124 : decode cX0_visit 124 = .ok (.iload_n 3, 1) := by decide +kernel
theorem dX0_visit_125 : decode cX0_visit 125 = .ok (.iload 4, 2) := by decide +kernel
theorem dX0_visit_127 : decode cX0_visit 127 = .ok (.iastore, 1) := by decide +kernel
theorem dX0_visit_128 : decode cX0_visit 128 = .ok (.return_, 1) := by decide +kernel
theorem dX0_addLeaf_0 : decode cX0_addLeaf 0 = .ok (.aload_n 0, 1) := by decide +kernel
theorem dX0_addLeaf_1 : decode cX0_addLeaf 1 = .ok (.dup, 1) := by decide +kernel
theorem dX0_addLeaf_2 : decode cX0_addLeaf 2 = .ok (.getfield 21, 3) := by decide +kernel
theorem dX0_addLeaf_5 : decode cX0_addLeaf 5 = .ok (.iconst 1, 1) := by decide +kernel
theorem dX0_addLeaf_6 : decode cX0_addLeaf 6 = .ok (.iadd, 1) := by decide +kernel
theorem dX0_addLeaf_7 : decode cX0_addLeaf 7 = .ok (.putfield 21, 3) := by decide +kernel
theorem dX0_addLeaf_10 : decode cX0_addLeaf 10 = .ok (.aload_n 0, 1) := by decide +kernel
theorem dX0_addLeaf_11 : decode cX0_addLeaf 11 = .ok (.dup, 1) := by decide +kernel
theorem dX0_addLeaf_12 : decode cX0_addLeaf 12 = .ok (.getfield 27, 3) := by decide +kernel
theorem dX0_addLeaf_15 : decode cX0_addLeaf 15 = .ok (.iload_n 1, 1) := by decide +kernel
theorem dX0_addLeaf_16 : decode cX0_addLeaf 16 = .ok (.iadd, 1) := by decide +kernel
theorem dX0_addLeaf_17 : decode cX0_addLeaf 17 = .ok (.putfield 27, 3) := by decide +kernel
theorem dX0_addLeaf_20 : decode cX0_addLeaf 20 = .ok (.aload_n 0, 1) := by decide +kernel
theorem dX0_addLeaf_21 : decode cX0_addLeaf 21 = .ok (.aload_n 0, 1) := by decide +kernel
theorem dX0_addLeaf_22 : decode cX0_addLeaf 22 = .ok (.getfield 30, 3) := by decide +kernel
theorem dX0_addLeaf_25 : decode cX0_addLeaf 25 = .ok (.iload_n 1, 1) := by decide +kernel
theorem dX0_addLeaf_26 : decode cX0_addLeaf 26 = .ok (.invokestatic 66, 3) := by decide +kernel
theorem dX0_addLeaf_29 : decode cX0_addLeaf 29 = .ok (.putfield 30, 3) := by decide +kernel
theorem dX0_addLeaf_32 : decode cX0_addLeaf 32 = .ok (.iload_n 1, 1) := by decide +kernel
theorem dX0_addLeaf_33 : decode cX0_addLeaf 33 = .ok (.ifCond .ne 13, 3) := by decide +kernel
theorem dX0_addLeaf_36 : decode cX0_addLeaf 36 = .ok (.aload_n 0, 1) := by decide +kernel
theorem dX0_addLeaf_37 : decode cX0_addLeaf 37 = .ok (.dup, 1) := by decide +kernel
theorem dX0_addLeaf_38 : decode cX0_addLeaf 38 = .ok (.getfield 33, 3) := by decide +kernel
theorem dX0_addLeaf_41 : decode cX0_addLeaf 41 = .ok (.iconst 1, 1) := by decide +kernel
theorem dX0_addLeaf_42 : decode cX0_addLeaf 42 = .ok (.iadd, 1) := by decide +kernel
theorem dX0_addLeaf_43 : decode cX0_addLeaf 43 = .ok (.putfield 33, 3) := by decide +kernel
theorem dX0_addLeaf_46 : decode cX0_addLeaf 46 = .ok (.return_, 1) := by decide +kernel
theorem dX0_cutField_0 : decode cX0_cutField 0 = .ok (.iload_n 1, 1) := by decide +kernel
theorem dX0_cutField_1 : decode cX0_cutField 1 = .ok (.invokestatic 75, 3) := by decide +kernel
theorem dX0_cutField_4 : decode cX0_cutField 4 = .ok (.istore_n 3, 1) := by decide +kernel
theorem dX0_cutField_5 : decode cX0_cutField 5 = .ok (.iload_n 3, 1) := by decide +kernel
theorem dX0_cutField_6 : decode cX0_cutField 6 = .ok (.aload_n 0, 1) := by decide +kernel
theorem dX0_cutField_7 : decode cX0_cutField 7 = .ok (.getfield 9, 3) := by decide +kernel
theorem dX0_cutField_10 : decode cX0_cutField 10 = .ok (.if_icmp .le 11, 3) := by decide +kernel
theorem dX0_cutField_13 : decode cX0_cutField 13 = .ok (.iload_n 2, 1) := by decide +kernel
theorem dX0_cutField_14 : decode cX0_cutField 14 = .ok (.aload_n 0, 1) := by decide +kernel
theorem dX0_cutField_15 : decode cX0_cutField 15 = .ok (.getfield 15, 3) := by decide +kernel
theorem dX0_cutField_18 : decode cX0_cutField 18 = .ok (.if_icmp .lt 5, 3) := by decide +kernel
theorem dX0_cutField_21 : decode cX0_cutField 21 = .ok (.iconst (-1), 1) := by decide +kernel
theorem dX0_cutField_22 : decode cX0_cutField 22 = .ok (.ireturn, 1) := by decide +kernel
theorem dX0_cutField_23 : decode cX0_cutField 23 = .ok (.iconst (-1), 1) := by decide +kernel
theorem dX0_cutField_24 : decode cX0_cutField 24 = .ok (.istore 4, 2) := by decide +kernel
theorem dX0_cutField_26 : decode cX0_cutField 26 = .ok (.iload_n 3, 1) := by decide +kernel
theorem dX0_cutField_27 : decode cX0_cutField 27 = .ok (.istore 5, 2) := by decide +kernel
theorem dX0_cutField_29 : decode cX0_cutField 29 = .ok (.iconst 0, 1) := by decide +kernel
theorem dX0_cutField_30 : decode cX0_cutField 30 = .ok (.istore 6, 2) := by decide +kernel
theorem dX0_cutField_32 : decode cX0_cutField 32 = .ok (.iconst 0, 1) := by decide +kernel
theorem dX0_cutField_33 : decode cX0_cutField 33 = .ok (.istore 7, 2) := by decide +kernel
theorem dX0_cutField_35 : decode cX0_cutField 35 = .ok (.iload 7, 2) := by decide +kernel
theorem dX0_cutField_37 : decode cX0_cutField 37 = .ok (.iconst 4, 1) := by decide +kernel
theorem dX0_cutField_38 : decode cX0_cutField 38 = .ok (.if_icmp .ge 138, 3) := by decide +kernel
theorem dX0_cutField_41 : decode cX0_cutField 41 = .ok (.aload_n 0, 1) := by decide +kernel
theorem dX0_cutField_42 : decode cX0_cutField 42 = .ok (.getfield 43, 3) := by decide +kernel
theorem dX0_cutField_45 : decode cX0_cutField 45 = .ok (.iload 7, 2) := by decide +kernel
theorem dX0_cutField_47 : decode cX0_cutField 47 = .ok (.iaload, 1) := by decide +kernel
theorem dX0_cutField_48 : decode cX0_cutField 48 = .ok (.getstatic 89, 3) := by decide +kernel
theorem dX0_cutField_51 : decode cX0_cutField 51 = .ok (.iload 7, 2) := by decide +kernel
theorem dX0_cutField_53 : decode cX0_cutField 53 = .ok (.iaload, 1) := by decide +kernel
theorem dX0_cutField_54 : decode cX0_cutField 54 = .ok (.if_icmp .le 6, 3) := by decide +kernel
theorem dX0_cutField_57 : decode cX0_cutField 57 = .ok (.goto 113, 3) := by decide +kernel
theorem dX0_cutField_60 : decode cX0_cutField 60 = .ok (.iload_n 1, 1) := by decide +kernel
theorem dX0_cutField_61 : decode cX0_cutField 61 = .ok (.aload_n 0, 1) := by decide +kernel
theorem dX0_cutField_62 : decode cX0_cutField 62 = .ok (.getfield 46, 3) := by decide +kernel
theorem dX0_cutField_65 : decode cX0_cutField 65 = .ok (.getfield 85, 3) := by decide +kernel
theorem dX0_cutField_68 : decode cX0_cutField 68 = .ok (.iload 7, 2) := by decide +kernel
theorem dX0_cutField_70 : decode cX0_cutField 70 = .ok (.aaload, 1) := by decide +kernel
theorem dX0_cutField_71 : decode cX0_cutField 71 = .ok (.iconst 2, 1) := by decide +kernel
theorem dX0_cutField_72 : decode cX0_cutField 72 = .ok (.aload_n 0, 1) := by decide +kernel
theorem dX0_cutField_73 : decode cX0_cutField 73 = .ok (.getfield 43, 3) := by decide +kernel
theorem dX0_cutField_76 : decode cX0_cutField 76 = .ok (.iload 7, 2) := by decide +kernel
theorem dX0_cutField_78 : decode cX0_cutField 78 = .ok (.iaload, 1) := by decide +kernel
theorem dX0_cutField_79 : decode cX0_cutField 79 = .ok (.imul, 1) := by decide +kernel
theorem dX0_cutField_80 : decode cX0_cutField 80 = .ok (.iaload, 1) := by decide +kernel
theorem dX0_cutField_81 : decode cX0_cutField 81 = .ok (.iand, 1) := by decide +kernel
theorem dX0_cutField_82 : decode cX0_cutField 82 = .ok (.invokestatic 75, 3) := by decide +kernel
theorem dX0_cutField_85 : decode cX0_cutField 85 = .ok (.istore 8, 2) := by decide +kernel
theorem dX0_cutField_87 : decode cX0_cutField 87 = .ok (.iload_n 1, 1) := by decide +kernel
theorem dX0_cutField_88 : decode cX0_cutField 88 = .ok (.aload_n 0, 1) := by decide +kernel
theorem dX0_cutField_89 : decode cX0_cutField 89 = .ok (.getfield 46, 3) := by decide +kernel
theorem dX0_cutField_92 : decode cX0_cutField 92 = .ok (.getfield 85, 3) := by decide +kernel
theorem dX0_cutField_95 : decode cX0_cutField 95 = .ok (.iload 7, 2) := by decide +kernel
theorem dX0_cutField_97 : decode cX0_cutField 97 = .ok (.aaload, 1) := by decide +kernel
theorem dX0_cutField_98 : decode cX0_cutField 98 = .ok (.iconst 2, 1) := by decide +kernel
theorem dX0_cutField_99 : decode cX0_cutField 99 = .ok (.aload_n 0, 1) := by decide +kernel
theorem dX0_cutField_100 : decode cX0_cutField 100 = .ok (.getfield 43, 3) := by decide +kernel
theorem dX0_cutField_103 : decode cX0_cutField 103 = .ok (.iload 7, 2) := by decide +kernel
theorem dX0_cutField_105 : decode cX0_cutField 105 = .ok (.iaload, 1) := by decide +kernel
theorem dX0_cutField_106 : decode cX0_cutField 106 = .ok (.imul, 1) := by decide +kernel
theorem dX0_cutField_107 : decode cX0_cutField 107 = .ok (.iconst 1, 1) := by decide +kernel
theorem dX0_cutField_108 : decode cX0_cutField 108 = .ok (.iadd, 1) := by decide +kernel
theorem dX0_cutField_109 : decode cX0_cutField 109 = .ok (.iaload, 1) := by decide +kernel
theorem dX0_cutField_110 : decode cX0_cutField 110 = .ok (.iand, 1) := by decide +kernel
theorem dX0_cutField_111 : decode cX0_cutField 111 = .ok (.invokestatic 75, 3) := by decide +kernel
theorem dX0_cutField_114 : decode cX0_cutField 114 = .ok (.istore 9, 2) := by decide +kernel
theorem dX0_cutField_116 : decode cX0_cutField 116 = .ok (.iload 8, 2) := by decide +kernel
theorem dX0_cutField_118 : decode cX0_cutField 118 = .ok (.iload 9, 2) := by decide +kernel
theorem dX0_cutField_120 : decode cX0_cutField 120 = .ok (.invokestatic 66, 3) := by decide +kernel
theorem dX0_cutField_123 : decode cX0_cutField 123 = .ok (.istore 10, 2) := by decide +kernel
theorem dX0_cutField_125 : decode cX0_cutField 125 = .ok (.iload 8, 2) := by decide +kernel
theorem dX0_cutField_127 : decode cX0_cutField 127 = .ok (.iload 9, 2) := by decide +kernel
theorem dX0_cutField_129 : decode cX0_cutField 129 = .ok (.iadd, 1) := by decide +kernel
theorem dX0_cutField_130 : decode cX0_cutField 130 = .ok (.istore 11, 2) := by decide +kernel
theorem dX0_cutField_132 : decode cX0_cutField 132 = .ok (.iload 10, 2) := by decide +kernel
theorem dX0_cutField_134 : decode cX0_cutField 134 = .ok (.iload 5, 2) := by decide +kernel
theorem dX0_cutField_136 : decode cX0_cutField 136 = .ok (.if_icmp .lt 22, 3) := by decide +kernel
theorem dX0_cutField_139 : decode cX0_cutField 139 = .ok (.iload 4, 2) := by decide +kernel
theorem dX0_cutField_141 : decode cX0_cutField 141 = .ok (.ifCond .lt 29, 3) := by decide +kernel
theorem dX0_cutField_144 : decode cX0_cutField 144 = .ok (.iload 10, 2) := by decide +kernel
theorem dX0_cutField_146 : decode cX0_cutField 146 = .ok (.iload 5, 2) := by decide +kernel
theorem dX0_cutField_148 : decode cX0_cutField 148 = .ok (.if_icmp .ne 22, 3) := by decide +kernel
theorem dX0_cutField_151 : decode cX0_cutField 151 = .ok (.iload 11, 2) := by decide +kernel
theorem dX0_cutField_153 : decode cX0_cutField 153 = .ok (.iload 6, 2) := by decide +kernel
theorem dX0_cutField_155 : decode cX0_cutField 155 = .ok (.if_icmp .ge 15, 3) := by decide +kernel
theorem dX0_cutField_158 : decode cX0_cutField 158 = .ok (.iload 7, 2) := by decide +kernel
theorem dX0_cutField_160 : decode cX0_cutField 160 = .ok (.istore 4, 2) := by decide +kernel
theorem dX0_cutField_162 : decode cX0_cutField 162 = .ok (.iload 10, 2) := by decide +kernel
theorem dX0_cutField_164 : decode cX0_cutField 164 = .ok (.istore 5, 2) := by decide +kernel
theorem dX0_cutField_166 : decode cX0_cutField 166 = .ok (.iload 11, 2) := by decide +kernel
theorem dX0_cutField_168 : decode cX0_cutField 168 = .ok (.istore 6, 2) := by decide +kernel
theorem dX0_cutField_170 : decode cX0_cutField 170 = .ok (.iinc 7 1, 3) := by decide +kernel
theorem dX0_cutField_173 : decode cX0_cutField 173 = .ok (.goto (-138), 3) := by decide +kernel
theorem dX0_cutField_176 : decode cX0_cutField 176 = .ok (.iload 4, 2) := by decide +kernel
theorem dX0_cutField_178 : decode cX0_cutField 178 = .ok (.ireturn, 1) := by decide +kernel
theorem dX0_descend_0 : decode cX0_descend 0 = .ok (.aload_n 0, 1) := by decide +kernel
theorem dX0_descend_1 : decode cX0_descend 1 = .ok (.getfield 43, 3) := by decide +kernel
theorem dX0_descend_4 : decode cX0_descend 4 = .ok (.iconst 1, 1) := by decide +kernel
theorem dX0_descend_5 : decode cX0_descend 5 = .ok (.invokestatic 50, 3) := by decide +kernel
theorem dX0_descend_8 : decode cX0_descend 8 = .ok (.aload_n 0, 1) := by decide +kernel
theorem dX0_descend_9 : decode cX0_descend 9 = .ok (.getfield 39, 3) := by decide +kernel
theorem dX0_descend_12 : decode cX0_descend 12 = .ok (.iconst 0, 1) := by decide +kernel
theorem dX0_descend_13 : decode cX0_descend 13 = .ok (.invokestatic 50, 3) := by decide +kernel
theorem dX0_descend_16 : decode cX0_descend 16 = .ok (.aload_n 0, 1) := by decide +kernel
theorem dX0_descend_17 : decode cX0_descend 17 = .ok (.iconst 0, 1) := by decide +kernel
theorem dX0_descend_18 : decode cX0_descend 18 = .ok (.putfield 36, 3) := by decide +kernel
theorem dX0_descend_21 : decode cX0_descend 21 = .ok (.aload_n 0, 1) := by decide +kernel
theorem dX0_descend_22 : decode cX0_descend 22 = .ok (.getfield 46, 3) := by decide +kernel
theorem dX0_descend_25 : decode cX0_descend 25 = .ok (.invokevirtual 56, 3) := by decide +kernel
theorem dX0_descend_28 : decode cX0_descend 28 = .ok (.istore_n 2, 1) := by decide +kernel
theorem dX0_descend_29 : decode cX0_descend 29 = .ok (.iconst 0, 1) := by decide +kernel
theorem dX0_descend_30 : decode cX0_descend 30 = .ok (.istore_n 3, 1) := by decide +kernel
theorem dX0_descend_31 : decode cX0_descend 31 = .ok (.iload_n 3, 1) := by decide +kernel
theorem dX0_descend_32 : decode cX0_descend 32 = .ok (.bipush 8, 2) := by decide +kernel
theorem dX0_descend_34 : decode cX0_descend 34 = .ok (.if_icmp .ge 98, 3) := by decide +kernel
theorem dX0_descend_37 : decode cX0_descend 37 = .ok (.aload_n 0, 1) := by decide +kernel
theorem dX0_descend_38 : decode cX0_descend 38 = .ok (.iload_n 2, 1) := by decide +kernel
theorem dX0_descend_39 : decode cX0_descend 39 = .ok (.iload_n 3, 1) := by decide +kernel
theorem dX0_descend_40 : decode cX0_descend 40 = .ok (.invokevirtual 72, 3) := by decide +kernel
theorem dX0_descend_43 : decode cX0_descend 43 = .ok (.istore 4, 2) := by decide +kernel
theorem dX0_descend_45 : decode cX0_descend 45 = .ok (.iload 4, 2) := by decide +kernel
theorem dX0_descend_47 : decode cX0_descend 47 = .ok (.ifCond .ge 5, 3) := by decide +kernel
theorem dX0_descend_50 : decode cX0_descend 50 = .ok (.iload_n 2, 1) := by decide +kernel
theorem dX0_descend_51 : decode cX0_descend 51 = .ok (.ireturn, 1) := by decide +kernel
theorem dX0_descend_52 : decode cX0_descend 52 = .ok (.aload_n 0, 1) := by decide +kernel
theorem dX0_descend_53 : decode cX0_descend 53 = .ok (.getfield 39, 3) := by decide +kernel
theorem dX0_descend_56 : decode cX0_descend 56 = .ok (.iload 4, 2) := by decide +kernel
theorem dX0_descend_58 : decode cX0_descend 58 = .ok (.dup2, 1) := by decide +kernel
theorem dX0_descend_59 : decode cX0_descend 59 = .ok (.iaload, 1) := by decide +kernel
theorem dX0_descend_60 : decode cX0_descend 60 = .ok (.iconst 1, 1) := by decide +kernel
theorem dX0_descend_61 : decode cX0_descend 61 = .ok (.iadd, 1) := by decide +kernel
theorem dX0_descend_62 : decode cX0_descend 62 = .ok (.iastore, 1) := by decide +kernel
theorem dX0_descend_63 : decode cX0_descend 63 = .ok (.aload_n 0, 1) := by decide +kernel
theorem dX0_descend_64 : decode cX0_descend 64 = .ok (.getfield 43, 3) := by decide +kernel
theorem dX0_descend_67 : decode cX0_descend 67 = .ok (.iload 4, 2) := by decide +kernel
theorem dX0_descend_69 : decode cX0_descend 69 = .ok (.getstatic 89, 3) := by decide +kernel
theorem dX0_descend_72 : decode cX0_descend 72 = .ok (.iload 4, 2) := by decide +kernel
theorem dX0_descend_74 : decode cX0_descend 74 = .ok (.iaload, 1) := by decide +kernel
theorem dX0_descend_75 : decode cX0_descend 75 = .ok (.iconst 1, 1) := by decide +kernel
theorem dX0_descend_76 : decode cX0_descend 76 = .ok (.iadd, 1) := by decide +kernel
theorem dX0_descend_77 : decode cX0_descend 77 = .ok (.aload_n 1, 1) := by decide +kernel
theorem dX0_descend_78 : decode cX0_descend 78 = .ok (.iload 4, 2) := by decide +kernel
theorem dX0_descend_80 : decode cX0_descend 80 = .ok (.iaload, 1) := by decide +kernel
theorem dX0_descend_81 : decode cX0_descend 81 = .ok (.iadd, 1) := by decide +kernel
theorem dX0_descend_82 : decode cX0_descend 82 = .ok (.getstatic 92, 3) := by decide +kernel
theorem dX0_descend_85 : decode cX0_descend 85 = .ok (.iload 4, 2) := by decide +kernel
theorem dX0_descend_87 : decode cX0_descend 87 = .ok (.iaload, 1) := by decide +kernel
theorem dX0_descend_88 : decode cX0_descend 88 = .ok (.aload_n 0, 1) := by decide +kernel
theorem dX0_descend_89 : decode cX0_descend 89 = .ok (.getfield 39, 3) := by decide +kernel
theorem dX0_descend_92 : decode cX0_descend 92 = .ok (.iload 4, 2) := by decide +kernel
theorem dX0_descend_94 : decode cX0_descend 94 = .ok (.iaload, 1) := by decide +kernel
theorem dX0_descend_95 : decode cX0_descend 95 = .ok (.isub, 1) := by decide +kernel
theorem dX0_descend_96 : decode cX0_descend 96 = .ok (.ishr, 1) := by decide +kernel
theorem dX0_descend_97 : decode cX0_descend 97 = .ok (.iastore, 1) := by decide +kernel
theorem dX0_descend_98 : decode cX0_descend 98 = .ok (.iload_n 2, 1) := by decide +kernel
theorem dX0_descend_99 : decode cX0_descend 99 = .ok (.aload_n 0, 1) := by decide +kernel
theorem dX0_descend_100 : decode cX0_descend 100 = .ok (.getfield 46, 3) := by decide +kernel
theorem dX0_descend_103 : decode cX0_descend 103 = .ok (.getfield 85, 3) := by decide +kernel
theorem dX0_descend_106 : decode cX0_descend 106 = .ok (.iload 4, 2) := by decide +kernel
theorem dX0_descend_108 : decode cX0_descend 108 = .ok (.aaload, 1) := by decide +kernel
theorem dX0_descend_109 : decode cX0_descend 109 = .ok (.aload_n 0, 1) := by decide +kernel
theorem dX0_descend_110 : decode cX0_descend 110 = .ok (.getfield 43, 3) := by decide +kernel
theorem dX0_descend_113 : decode cX0_descend 113 = .ok (.iload 4, 2) := by decide +kernel
theorem dX0_descend_115 : decode cX0_descend 115 = .ok (.iaload, 1) := by decide +kernel
theorem dX0_descend_116 : decode cX0_descend 116 = .ok (.iaload, 1) := by decide +kernel
theorem dX0_descend_117 : decode cX0_descend 117 = .ok (.iand, 1) := by decide +kernel
theorem dX0_descend_118 : decode cX0_descend 118 = .ok (.istore_n 2, 1) := by decide +kernel
theorem dX0_descend_119 : decode cX0_descend 119 = .ok (.aload_n 0, 1) := by decide +kernel
theorem dX0_descend_120 : decode cX0_descend 120 = .ok (.iload_n 3, 1) := by decide +kernel
theorem dX0_descend_121 : decode cX0_descend 121 = .ok (.iconst 1, 1) := by decide +kernel
theorem dX0_descend_122 : decode cX0_descend 122 = .ok (.iadd, 1) := by decide +kernel
theorem dX0_descend_123 : decode cX0_descend 123 = .ok (.putfield 36, 3) := by decide +kernel
theorem dX0_descend_126 : decode cX0_descend 126 = .ok (.iinc 3 1, 3) := by decide +kernel
theorem dX0_descend_129 : decode cX0_descend 129 = .ok (.goto (-98), 3) := by decide +kernel
theorem dX0_descend_132 : decode cX0_descend 132 = .ok (.iload_n 2, 1) := by decide +kernel
theorem dX0_descend_133 : decode cX0_descend 133 = .ok (.ireturn, 1) := by decide +kernel
theorem dX1_init_0 : decode cX1_init 0 = .ok (.aload_n 0, 1) := by decide +kernel
theorem dX1_init_1 : decode cX1_init 1 = .ok (.invokespecial 1, 3) := by decide +kernel
theorem dX1_init_4 : decode cX1_init 4 = .ok (.aload_n 0, 1) := by decide +kernel
theorem dX1_init_5 : decode cX1_init 5 = .ok (.iconst 0, 1) := by decide +kernel
theorem dX1_init_6 : decode cX1_init 6 = .ok (.putfield 7, 3) := by decide +kernel
theorem dX1_init_9 : decode cX1_init 9 = .ok (.aload_n 0, 1) := by decide +kernel
theorem dX1_init_10 : decode cX1_init 10 = .ok (.iconst 0, 1) := by decide +kernel
theorem dX1_init_11 : decode cX1_init 11 = .ok (.putfield 13, 3) := by decide +kernel
theorem dX1_init_14 : decode cX1_init 14 = .ok (.aload_n 0, 1) := by decide +kernel
theorem dX1_init_15 : decode cX1_init 15 = .ok (.iconst 0, 1) := by decide +kernel
theorem dX1_init_16 : decode cX1_init 16 = .ok (.putfield 17, 3) := by decide +kernel
theorem dX1_init_19 : decode cX1_init 19 = .ok (.aload_n 0, 1) := by decide +kernel
theorem dX1_init_20 : decode cX1_init 20 = .ok (.new 20, 3) := by decide +kernel
theorem dX1_init_23 : decode cX1_init 23 = .ok (.dup, 1) := by decide +kernel
theorem dX1_init_24 : decode cX1_init 24 = .ok (.invokespecial 22, 3) := by decide +kernel
theorem dX1_init_27 : decode cX1_init 27 = .ok (.putfield 23, 3) := by decide +kernel
theorem dX1_init_30 : decode cX1_init 30 = .ok (.return_, 1) := by decide +kernel
theorem dX2_init_0 : decode cX2_init 0 = .ok (.aload_n 0, 1) := by decide +kernel
theorem dX2_init_1 : decode cX2_init 1 = .ok (.invokespecial 3, 3) := by decide +kernel
theorem dX2_init_4 : decode cX2_init 4 = .ok (.aload_n 0, 1) := by decide +kernel
theorem dX2_init_5 : decode cX2_init 5 = .ok (.iconst 4, 1) := by decide +kernel
theorem dX2_init_6 : decode cX2_init 6 = .ok (.sipush 128, 3) := by decide +kernel
theorem dX2_init_9 : decode cX2_init 9 = .ok (.multianewarray 9 2, 4) := by decide +kernel
theorem dX2_init_13 : decode cX2_init 13 = .ok (.putfield 11, 3) := by decide +kernel
theorem dX2_init_16 : decode cX2_init 16 = .ok (.aload_n 0, 1) := by decide +kernel
theorem dX2_init_17 : decode cX2_init 17 = .ok (.aload_n 1, 1) := by decide +kernel
theorem dX2_init_18 : decode cX2_init 18 = .ok (.putfield 16, 3) := by decide +kernel
theorem dX2_init_21 : decode cX2_init 21 = .ok (.return_, 1) := by decide +kernel
theorem dX2_build_0 : decode cX2_build 0 = .ok (.iconst 0, 1) := by decide +kernel
theorem dX2_build_1 : decode cX2_build 1 = .ok (.istore_n 1, 1) := by decide +kernel
theorem dX2_build_2 : decode cX2_build 2 = .ok (.iload_n 1, 1) := by decide +kernel
theorem dX2_build_3 : decode cX2_build 3 = .ok (.iconst 4, 1) := by decide +kernel
theorem dX2_build_4 : decode cX2_build 4 = .ok (.if_icmp .ge 68, 3) := by decide +kernel
theorem dX2_build_7 : decode cX2_build 7 = .ok (.aload_n 0, 1) := by decide +kernel
theorem dX2_build_8 : decode cX2_build 8 = .ok (.aload_n 0, 1) := by decide +kernel
theorem dX2_build_9 : decode cX2_build 9 = .ok (.getfield 11, 3) := by decide +kernel
theorem dX2_build_12 : decode cX2_build 12 = .ok (.iload_n 1, 1) := by decide +kernel
theorem dX2_build_13 : decode cX2_build 13 = .ok (.aaload, 1) := by decide +kernel
theorem dX2_build_14 : decode cX2_build 14 = .ok (.iload_n 1, 1) := by decide +kernel
theorem dX2_build_15 : decode cX2_build 15 = .ok (.invokevirtual 20, 3) := by decide +kernel
theorem dX2_build_18 : decode cX2_build 18 = .ok (.getstatic 24, 3) := by decide +kernel
theorem dX2_build_21 : decode cX2_build 21 = .ok (.iload_n 1, 1) := by decide +kernel
theorem dX2_build_22 : decode cX2_build 22 = .ok (.iaload, 1) := by decide +kernel
theorem dX2_build_23 : decode cX2_build 23 = .ok (.istore_n 2, 1) := by decide +kernel
theorem dX2_build_24 : decode cX2_build 24 = .ok (.iload_n 2, 1) := by decide +kernel
theorem dX2_build_25 : decode cX2_build 25 = .ok (.iconst 1, 1) := by decide +kernel
theorem dX2_build_26 : decode cX2_build 26 = .ok (.if_icmp .lt 40, 3) := by decide +kernel
theorem dX2_build_29 : decode cX2_build 29 = .ok (.aload_n 0, 1) := by decide +kernel
theorem dX2_build_30 : decode cX2_build 30 = .ok (.getfield 11, 3) := by decide +kernel
theorem dX2_build_33 : decode cX2_build 33 = .ok (.iload_n 1, 1) := by decide +kernel
theorem dX2_build_34 : decode cX2_build 34 = .ok (.aaload, 1) := by decide +kernel
theorem dX2_build_35 : decode cX2_build 35 = .ok (.iload_n 2, 1) := by decide +kernel
theorem dX2_build_36 : decode cX2_build 36 = .ok (.aload_n 0, 1) := by decide +kernel
theorem dX2_build_37 : decode cX2_build 37 = .ok (.getfield 11, 3) := by decide +kernel
theorem dX2_build_40 : decode cX2_build 40 = .ok (.iload_n 1, 1) := by decide +kernel
theorem dX2_build_41 : decode cX2_build 41 = .ok (.aaload, 1) := by decide +kernel
theorem dX2_build_42 : decode cX2_build 42 = .ok (.iconst 2, 1) := by decide +kernel
theorem dX2_build_43 : decode cX2_build 43 = .ok (.iload_n 2, 1) := by decide +kernel
theorem dX2_build_44 : decode cX2_build 44 = .ok (.imul, 1) := by decide +kernel
theorem dX2_build_45 : decode cX2_build 45 = .ok (.iaload, 1) := by decide +kernel
theorem dX2_build_46 : decode cX2_build 46 = .ok (.aload_n 0, 1) := by decide +kernel
theorem dX2_build_47 : decode cX2_build 47 = .ok (.getfield 11, 3) := by decide +kernel
theorem dX2_build_50 : decode cX2_build 50 = .ok (.iload_n 1, 1) := by decide +kernel
theorem dX2_build_51 : decode cX2_build 51 = .ok (.aaload, 1) := by decide +kernel
theorem dX2_build_52 : decode cX2_build 52 = .ok (.iconst 2, 1) := by decide +kernel
theorem dX2_build_53 : decode cX2_build 53 = .ok (.iload_n 2, 1) := by decide +kernel
theorem dX2_build_54 : decode cX2_build 54 = .ok (.imul, 1) := by decide +kernel
theorem dX2_build_55 : decode cX2_build 55 = .ok (.iconst 1, 1) := by decide +kernel
theorem dX2_build_56 : decode cX2_build 56 = .ok (.iadd, 1) := by decide +kernel
theorem dX2_build_57 : decode cX2_build 57 = .ok (.iaload, 1) := by decide +kernel
theorem dX2_build_58 : decode cX2_build 58 = .ok (.ior, 1) := by decide +kernel
theorem dX2_build_59 : decode cX2_build 59 = .ok (.iastore, 1) := by decide +kernel
theorem dX2_build_60 : decode cX2_build 60 = .ok (.iinc 2 (-1), 3) := by decide +kernel
theorem dX2_build_63 : decode cX2_build 63 = .ok (.goto (-39), 3) := by decide +kernel
theorem dX2_build_66 : decode cX2_build 66 = .ok (.iinc 1 1, 3) := by decide +kernel
theorem dX2_build_69 : decode cX2_build 69 = .ok (.goto (-67), 3) := by decide +kernel
theorem dX2_build_72 : decode cX2_build 72 = .ok (.return_, 1) := by decide +kernel
theorem dX2_fillNumbers_0 : decode cX2_fillNumbers 0 = .ok (.getstatic 24, 3) := by decide +kernel
theorem dX2_fillNumbers_3 : decode cX2_fillNumbers 3 = .ok (.iload_n 2, 1) := by decide +kernel
theorem dX2_fillNumbers_4 : decode cX2_fillNumbers 4 = .ok (.iaload, 1) := by decide +kernel
theorem dX2_fillNumbers_5 : decode cX2_fillNumbers 5 = .ok (.iconst 1, 1) := by decide +kernel
theorem dX2_fillNumbers_6 : decode cX2_fillNumbers 6 = .ok (.iadd, 1) := by decide +kernel
theorem dX2_fillNumbers_7 : decode cX2_fillNumbers 7 = .ok (.istore_n 3, 1) := by decide +kernel
theorem dX2_fillNumbers_8 : decode cX2_fillNumbers 8 = .ok (.iconst 0, 1) := by decide +kernel
theorem dX2_fillNumbers_9 : decode cX2_fillNumbers 9 = .ok (.istore 4, 2) := by decide +kernel
theorem dX2_fillNumbers_11 : decode cX2_fillNumbers 11 = .ok (.iload 4, 2) := by decide +kernel
theorem dX2_fillNumbers_13 : decode cX2_fillNumbers 13 = .ok (.getstatic 24, 3) := by decide +kernel
theorem dX2_fillNumbers_16 : decode cX2_fillNumbers 16 = .ok (.iload_n 2, 1) := by decide +kernel
theorem dX2_fillNumbers_17 : decode cX2_fillNumbers 17 = .ok (.iaload, 1) := by decide +kernel
theorem dX2_fillNumbers_18 : decode cX2_fillNumbers 18 = .ok (.if_icmp .gt 16, 3) := by decide +kernel
theorem dX2_fillNumbers_21 : decode cX2_fillNumbers 21 = .ok (.aload_n 1, 1) := by decide +kernel
theorem dX2_fillNumbers_22 : decode cX2_fillNumbers 22 = .ok (.iload_n 3, 1) := by decide +kernel
theorem dX2_fillNumbers_23 : decode cX2_fillNumbers 23 = .ok (.iload 4, 2) := by decide +kernel
theorem dX2_fillNumbers_25 : decode cX2_fillNumbers 25 = .ok (.iadd, 1) := by decide +kernel
theorem dX2_fillNumbers_26 : decode cX2_fillNumbers 26 = .ok (.iconst 0, 1) := by decide +kernel
theorem dX2_fillNumbers_27 : decode cX2_fillNumbers 27 = .ok (.iastore, 1) := by decide +kernel
theorem dX2_fillNumbers_28 : decode cX2_fillNumbers 28 = .ok (.iinc 4 1, 3) := by decide +kernel
theorem dX2_fillNumbers_31 : decode cX2_fillNumbers 31 = .ok (.goto (-20), 3) := by decide +kernel
theorem dX2_fillNumbers_34 : decode cX2_fillNumbers 34 = .ok (.iconst 0, 1) := by decide +kernel
theorem dX2_fillNumbers_35 : decode cX2_fillNumbers 35 = .ok (.istore 4, 2) := by decide +kernel
theorem dX2_fillNumbers_37 : decode cX2_fillNumbers 37 = .ok (.iload 4, 2) := by decide +kernel
theorem dX2_fillNumbers_39 : decode cX2_fillNumbers 39 = .ok (.aload_n 0, 1) := by decide +kernel
theorem dX2_fillNumbers_40 : decode cX2_fillNumbers 40 = .ok (.getfield 16, 3) := by decide +kernel
theorem dX2_fillNumbers_43 : decode cX2_fillNumbers 43 = .ok (.getfield 28, 3) := by decide +kernel
theorem dX2_fillNumbers_46 : decode cX2_fillNumbers 46 = .ok (.if_icmp .ge 83, 3) := by decide +kernel
theorem dX2_fillNumbers_49 : decode cX2_fillNumbers 49 = .ok (.aload_n 0, 1) := by decide +kernel
theorem dX2_fillNumbers_50 : decode cX2_fillNumbers 50 = .ok (.getfield 16, 3) := by decide +kernel
theorem dX2_fillNumbers_53 : decode cX2_fillNumbers 53 = .ok (.getfield 34, 3) := by decide +kernel
theorem dX2_fillNumbers_56 : decode cX2_fillNumbers 56 = .ok (.iload 4, 2) := by decide +kernel
theorem dX2_fillNumbers_58 : decode cX2_fillNumbers 58 = .ok (.iaload, 1) := by decide +kernel
theorem dX2_fillNumbers_59 : decode cX2_fillNumbers 59 = .ok (.istore 5, 2) := by decide +kernel
theorem dX2_fillNumbers_61 : decode cX2_fillNumbers 61 = .ok (.aload_n 1, 1) := by decide +kernel
theorem dX2_fillNumbers_62 : decode cX2_fillNumbers 62 = .ok (.iload_n 3, 1) := by decide +kernel
theorem dX2_fillNumbers_63 : decode cX2_fillNumbers 63 = .ok (.aload_n 0, 1) := by decide +kernel
theorem dX2_fillNumbers_64 : decode cX2_fillNumbers 64 = .ok (.getfield 16, 3) := by decide +kernel
theorem dX2_fillNumbers_67 : decode cX2_fillNumbers 67 = .ok (.getfield 37, 3) := by decide +kernel
theorem dX2_fillNumbers_70 : decode cX2_fillNumbers 70 = .ok (.iload_n 2, 1) := by decide +kernel
theorem dX2_fillNumbers_71 : decode cX2_fillNumbers 71 = .ok (.aaload, 1) := by decide +kernel
theorem dX2_fillNumbers_72 : decode cX2_fillNumbers 72 = .ok (.iload 5, 2) := by decide +kernel
theorem dX2_fillNumbers_74 : decode cX2_fillNumbers 74 = .ok (.iaload, 1) := by decide +kernel
theorem dX2_fillNumbers_75 : decode cX2_fillNumbers 75 = .ok (.iadd, 1) := by decide +kernel
theorem dX2_fillNumbers_76 : decode cX2_fillNumbers 76 = .ok (.dup2, 1) := by decide +kernel
theorem dX2_fillNumbers_77 : decode cX2_fillNumbers 77 = .ok (.iaload, 1) := by decide +kernel
theorem dX2_fillNumbers_78 : decode cX2_fillNumbers 78 = .ok (.iconst 1, 1) := by decide +kernel
theorem dX2_fillNumbers_79 : decode cX2_fillNumbers 79 = .ok (.iload 4, 2) := by decide +kernel
theorem dX2_fillNumbers_81 : decode cX2_fillNumbers 81 = .ok (.ishl, 1) := by decide +kernel
theorem dX2_fillNumbers_82 : decode cX2_fillNumbers 82 = .ok (.ixor, 1) := by decide +kernel
theorem dX2_fillNumbers_83 : decode cX2_fillNumbers 83 = .ok (.iastore, 1) := by decide +kernel
theorem dX2_fillNumbers_84 : decode cX2_fillNumbers 84 = .ok (.aload_n 0, 1) := by decide +kernel
theorem dX2_fillNumbers_85 : decode cX2_fillNumbers 85 = .ok (.getfield 16, 3) := by decide +kernel
theorem dX2_fillNumbers_88 : decode cX2_fillNumbers 88 = .ok (.getfield 40, 3) := by decide +kernel
theorem dX2_fillNumbers_91 : decode cX2_fillNumbers 91 = .ok (.iload_n 2, 1) := by decide +kernel
theorem dX2_fillNumbers_92 : decode cX2_fillNumbers 92 = .ok (.aaload, 1) := by decide +kernel
theorem dX2_fillNumbers_93 : decode cX2_fillNumbers 93 = .ok (.iload 5, 2) := by decide +kernel
theorem dX2_fillNumbers_95 : decode cX2_fillNumbers 95 = .ok (.iaload, 1) := by decide +kernel
theorem dX2_fillNumbers_96 : decode cX2_fillNumbers 96 = .ok (.iconst 1, 1) := by decide +kernel
theorem dX2_fillNumbers_97 : decode cX2_fillNumbers 97 = .ok (.iadd, 1) := by decide +kernel
theorem dX2_fillNumbers_98 : decode cX2_fillNumbers 98 = .ok (.istore 6, 2) := by decide +kernel
theorem dX2_fillNumbers_100 : decode cX2_fillNumbers 100 = .ok (.iload 6, 2) := by decide +kernel
theorem dX2_fillNumbers_102 : decode cX2_fillNumbers 102 = .ok (.getstatic 24, 3) := by decide +kernel
theorem dX2_fillNumbers_105 : decode cX2_fillNumbers 105 = .ok (.iload_n 2, 1) := by decide +kernel
theorem dX2_fillNumbers_106 : decode cX2_fillNumbers 106 = .ok (.iaload, 1) := by decide +kernel
theorem dX2_fillNumbers_107 : decode cX2_fillNumbers 107 = .ok (.if_icmp .gt 16, 3) := by decide +kernel
theorem dX2_fillNumbers_110 : decode cX2_fillNumbers 110 = .ok (.aload_n 1, 1) := by decide +kernel
theorem dX2_fillNumbers_111 : decode cX2_fillNumbers 111 = .ok (.iload_n 3, 1) := by decide +kernel
theorem dX2_fillNumbers_112 : decode cX2_fillNumbers 112 = .ok (.iload 6, 2) := by decide +kernel
theorem dX2_fillNumbers_114 : decode cX2_fillNumbers 114 = .ok (.iadd, 1) := by decide +kernel
theorem dX2_fillNumbers_115 : decode cX2_fillNumbers 115 = .ok (.dup2, 1) := by decide +kernel
theorem dX2_fillNumbers_116 : decode cX2_fillNumbers 116 = .ok (.iaload, 1) := by decide +kernel
theorem dX2_fillNumbers_117 : decode cX2_fillNumbers 117 = .ok (.iconst 1, 1) := by decide +kernel
theorem dX2_fillNumbers_118 : decode cX2_fillNumbers 118 = .ok (.iload 4, 2) := by decide +kernel
theorem dX2_fillNumbers_120 : decode cX2_fillNumbers 120 = .ok (.ishl, 1) := by decide +kernel
theorem dX2_fillNumbers_121 : decode cX2_fillNumbers 121 = .ok (.ixor, 1) := by decide +kernel
theorem dX2_fillNumbers_122 : decode cX2_fillNumbers 122 = .ok (.iastore, 1) := by decide +kernel
theorem dX2_fillNumbers_123 : decode cX2_fillNumbers 123 = .ok (.iinc 4 1, 3) := by decide +kernel
theorem dX2_fillNumbers_126 : decode cX2_fillNumbers 126 = .ok (.goto (-89), 3) := by decide +kernel
theorem dX2_fillNumbers_129 : decode cX2_fillNumbers 129 = .ok (.iconst 1, 1) := by decide +kernel
theorem dX2_fillNumbers_130 : decode cX2_fillNumbers 130 = .ok (.istore 4, 2) := by decide +kernel
theorem dX2_fillNumbers_132 : decode cX2_fillNumbers 132 = .ok (.iload 4, 2) := by decide +kernel
theorem dX2_fillNumbers_134 : decode cX2_fillNumbers 134 = .ok (.getstatic 24, 3) := by decide +kernel
theorem dX2_fillNumbers_137 : decode cX2_fillNumbers 137 = .ok (.iload_n 2, 1) := by decide +kernel
theorem dX2_fillNumbers_138 : decode cX2_fillNumbers 138 = .ok (.iaload, 1) := by decide +kernel
theorem dX2_fillNumbers_139 : decode cX2_fillNumbers 139 = .ok (.if_icmp .gt 26, 3) := by decide +kernel
theorem dX2_fillNumbers_142 : decode cX2_fillNumbers 142 = .ok (.aload_n 1, 1) := by decide +kernel
theorem dX2_fillNumbers_143 : decode cX2_fillNumbers 143 = .ok (.iload_n 3, 1) := by decide +kernel
theorem dX2_fillNumbers_144 : decode cX2_fillNumbers 144 = .ok (.iload 4, 2) := by decide +kernel
theorem dX2_fillNumbers_146 : decode cX2_fillNumbers 146 = .ok (.iadd, 1) := by decide +kernel
theorem dX2_fillNumbers_147 : decode cX2_fillNumbers 147 = .ok (.dup2, 1) := by decide +kernel
theorem dX2_fillNumbers_148 : decode cX2_fillNumbers 148 = .ok (.iaload, 1) := by decide +kernel
theorem dX2_fillNumbers_149 : decode cX2_fillNumbers 149 = .ok (.aload_n 1, 1) := by decide +kernel
theorem dX2_fillNumbers_150 : decode cX2_fillNumbers 150 = .ok (.iload_n 3, 1) := by decide +kernel
theorem dX2_fillNumbers_151 : decode cX2_fillNumbers 151 = .ok (.iload 4, 2) := by decide +kernel
theorem dX2_fillNumbers_153 : decode cX2_fillNumbers 153 = .ok (.iadd, 1) := by decide +kernel
theorem dX2_fillNumbers_154 : decode cX2_fillNumbers 154 = .ok (.iconst 1, 1) := by decide +kernel
theorem dX2_fillNumbers_155 : decode cX2_fillNumbers 155 = .ok (.isub, 1) := by decide +kernel
theorem dX2_fillNumbers_156 : decode cX2_fillNumbers 156 = .ok (.iaload, 1) := by decide +kernel
theorem dX2_fillNumbers_157 : decode cX2_fillNumbers 157 = .ok (.ixor, 1) := by decide +kernel
theorem dX2_fillNumbers_158 : decode cX2_fillNumbers 158 = .ok (.iastore, 1) := by decide +kernel
theorem dX2_fillNumbers_159 : decode cX2_fillNumbers 159 = .ok (.iinc 4 1, 3) := by decide +kernel
theorem dX2_fillNumbers_162 : decode cX2_fillNumbers 162 = .ok (.goto (-30), 3) := by decide +kernel
theorem dX2_fillNumbers_165 : decode cX2_fillNumbers 165 = .ok (.return_, 1) := by decide +kernel
theorem dX2_ofNumber_0 : decode cX2_ofNumber 0 = .ok (.aload_n 0, 1) := by decide +kernel
theorem dX2_ofNumber_1 : decode cX2_ofNumber 1 = .ok (.getfield 11, 3) := by decide +kernel
theorem dX2_ofNumber_4 : decode cX2_ofNumber 4 = .ok (.iload_n 1, 1) := by decide +kernel
theorem dX2_ofNumber_5 : decode cX2_ofNumber 5 = .ok (.aaload, 1) := by decide +kernel
theorem dX2_ofNumber_6 : decode cX2_ofNumber 6 = .ok (.getstatic 24, 3) := by decide +kernel
theorem dX2_ofNumber_9 : decode cX2_ofNumber 9 = .ok (.iload_n 1, 1) := by decide +kernel
theorem dX2_ofNumber_10 : decode cX2_ofNumber 10 = .ok (.iaload, 1) := by decide +kernel
theorem dX2_ofNumber_11 : decode cX2_ofNumber 11 = .ok (.iconst 1, 1) := by decide +kernel
theorem dX2_ofNumber_12 : decode cX2_ofNumber 12 = .ok (.iadd, 1) := by decide +kernel
theorem dX2_ofNumber_13 : decode cX2_ofNumber 13 = .ok (.iload_n 2, 1) := by decide +kernel
theorem dX2_ofNumber_14 : decode cX2_ofNumber 14 = .ok (.iadd, 1) := by decide +kernel
theorem dX2_ofNumber_15 : decode cX2_ofNumber 15 = .ok (.iaload, 1) := by decide +kernel
theorem dX2_ofNumber_16 : decode cX2_ofNumber 16 = .ok (.ireturn, 1) := by decide +kernel
theorem dX2_fitting_0 : decode cX2_fitting 0 = .ok (.aload_n 0, 1) := by decide +kernel
theorem dX2_fitting_1 : decode cX2_fitting 1 = .ok (.invokevirtual 43, 3) := by decide +kernel
theorem dX2_fitting_4 : decode cX2_fitting 4 = .ok (.istore_n 2, 1) := by decide +kernel
theorem dX2_fitting_5 : decode cX2_fitting 5 = .ok (.iconst 0, 1) := by decide +kernel
theorem dX2_fitting_6 : decode cX2_fitting 6 = .ok (.istore_n 3, 1) := by decide +kernel
theorem dX2_fitting_7 : decode cX2_fitting 7 = .ok (.iload_n 3, 1) := by decide +kernel
theorem dX2_fitting_8 : decode cX2_fitting 8 = .ok (.iconst 4, 1) := by decide +kernel
theorem dX2_fitting_9 : decode cX2_fitting 9 = .ok (.if_icmp .ge 20, 3) := by decide +kernel
theorem dX2_fitting_12 : decode cX2_fitting 12 = .ok (.iload_n 2, 1) := by decide +kernel
theorem dX2_fitting_13 : decode cX2_fitting 13 = .ok (.aload_n 0, 1) := by decide +kernel
theorem dX2_fitting_14 : decode cX2_fitting 14 = .ok (.iload_n 3, 1) := by decide +kernel
theorem dX2_fitting_15 : decode cX2_fitting 15 = .ok (.aload_n 1, 1) := by decide +kernel
theorem dX2_fitting_16 : decode cX2_fitting 16 = .ok (.iload_n 3, 1) := by decide +kernel
theorem dX2_fitting_17 : decode cX2_fitting 17 = .ok (.iaload, 1) := by decide +kernel
theorem dX2_fitting_18 : decode cX2_fitting 18 = .ok (.invokevirtual 47, 3) := by decide +kernel
theorem dX2_fitting_21 : decode cX2_fitting 21 = .ok (.iand, 1) := by decide +kernel
theorem dX2_fitting_22 : decode cX2_fitting 22 = .ok (.istore_n 2, 1) := by decide +kernel
theorem dX2_fitting_23 : decode cX2_fitting 23 = .ok (.iinc 3 1, 3) := by decide +kernel
theorem dX2_fitting_26 : decode cX2_fitting 26 = .ok (.goto (-19), 3) := by decide +kernel
theorem dX2_fitting_29 : decode cX2_fitting 29 = .ok (.iload_n 2, 1) := by decide +kernel
theorem dX2_fitting_30 : decode cX2_fitting 30 = .ok (.ireturn, 1) := by decide +kernel
theorem dX2_all_0 : decode cX2_all 0 = .ok (.iconst 1, 1) := by decide +kernel
theorem dX2_all_1 : decode cX2_all 1 = .ok (.aload_n 0, 1) := by decide +kernel
theorem dX2_all_2 : decode cX2_all 2 = .ok (.getfield 16, 3) := by decide +kernel
theorem dX2_all_5 : decode cX2_all 5 = .ok (.getfield 28, 3) := by decide +kernel
theorem dX2_all_8 : decode cX2_all 8 = .ok (.ishl, 1) := by decide +kernel
theorem dX2_all_9 : decode cX2_all 9 = .ok (.iconst 1, 1) := by decide +kernel
theorem dX2_all_10 : decode cX2_all 10 = .ok (.isub, 1) := by decide +kernel
theorem dX2_all_11 : decode cX2_all 11 = .ok (.ireturn, 1) := by decide +kernel
theorem dX3_init_0 : decode cX3_init 0 = .ok (.aload_n 0, 1) := by decide +kernel
theorem dX3_init_1 : decode cX3_init 1 = .ok (.invokespecial 3, 3) := by decide +kernel
theorem dX3_init_4 : decode cX3_init 4 = .ok (.aload_n 0, 1) := by decide +kernel
theorem dX3_init_5 : decode cX3_init 5 = .ok (.iconst 0, 1) := by decide +kernel
theorem dX3_init_6 : decode cX3_init 6 = .ok (.putfield 9, 3) := by decide +kernel
theorem dX3_init_9 : decode cX3_init 9 = .ok (.aload_n 0, 1) := by decide +kernel
theorem dX3_init_10 : decode cX3_init 10 = .ok (.iconst 4, 1) := by decide +kernel
theorem dX3_init_11 : decode cX3_init 11 = .ok (.bipush 16, 2) := by decide +kernel
theorem dX3_init_13 : decode cX3_init 13 = .ok (.multianewarray 15 2, 4) := by decide +kernel
theorem dX3_init_17 : decode cX3_init 17 = .ok (.putfield 17, 3) := by decide +kernel
theorem dX3_init_20 : decode cX3_init 20 = .ok (.aload_n 0, 1) := by decide +kernel
theorem dX3_init_21 : decode cX3_init 21 = .ok (.iconst 4, 1) := by decide +kernel
theorem dX3_init_22 : decode cX3_init 22 = .ok (.bipush 16, 2) := by decide +kernel
theorem dX3_init_24 : decode cX3_init 24 = .ok (.multianewarray 15 2, 4) := by decide +kernel
theorem dX3_init_28 : decode cX3_init 28 = .ok (.putfield 20, 3) := by decide +kernel
theorem dX3_init_31 : decode cX3_init 31 = .ok (.aload_n 0, 1) := by decide +kernel
theorem dX3_init_32 : decode cX3_init 32 = .ok (.bipush 16, 2) := by decide +kernel
theorem dX3_init_34 : decode cX3_init 34 = .ok (.newarray .int, 2) := by decide +kernel
theorem dX3_init_36 : decode cX3_init 36 = .ok (.putfield 23, 3) := by decide +kernel
theorem dX3_init_39 : decode cX3_init 39 = .ok (.aload_n 0, 1) := by decide +kernel
theorem dX3_init_40 : decode cX3_init 40 = .ok (.bipush 16, 2) := by decide +kernel
theorem dX3_init_42 : decode cX3_init 42 = .ok (.newarray .int, 2) := by decide +kernel
theorem dX3_init_44 : decode cX3_init 44 = .ok (.putfield 27, 3) := by decide +kernel
theorem dX3_init_47 : decode cX3_init 47 = .ok (.aload_n 0, 1) := by decide +kernel
theorem dX3_init_48 : decode cX3_init 48 = .ok (.bipush 16, 2) := by decide +kernel
theorem dX3_init_50 : decode cX3_init 50 = .ok (.newarray .int, 2) := by decide +kernel
theorem dX3_init_52 : decode cX3_init 52 = .ok (.putfield 30, 3) := by decide +kernel
theorem dX3_init_55 : decode cX3_init 55 = .ok (.aload_n 0, 1) := by decide +kernel
theorem dX3_init_56 : decode cX3_init 56 = .ok (.bipush 16, 2) := by decide +kernel
theorem dX3_init_58 : decode cX3_init 58 = .ok (.newarray .int, 2) := by decide +kernel
theorem dX3_init_60 : decode cX3_init 60 = .ok (.putfield 33, 3) := by decide +kernel
theorem dX3_init_63 : decode cX3_init 63 = .ok (.return_, 1) := by decide +kernel
theorem dX3_has_0 : decode cX3_has 0 = .ok (.iload_n 1, 1) := by decide +kernel
theorem dX3_has_1 : decode cX3_has 1 = .ok (.ifCond .lt 15, 3) := by decide +kernel
