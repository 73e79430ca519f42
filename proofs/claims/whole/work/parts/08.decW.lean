/-! decode rows, by program -/
theorem d_W_variable_0 : decode c_W_variable 0 = .ok (.aload_n 1, 1) := by decide +kernel
theorem d_W_variable_1 : decode c_W_variable 1 = .ok (.iconst 0, 1) := by decide +kernel
theorem d_W_variable_2 : decode c_W_variable 2 = .ok (.aload_n 0, 1) := by decide +kernel
theorem d_W_variable_3 : decode c_W_variable 3 = .ok (.invokevirtual 7, 3) := by decide +kernel
theorem d_W_variable_6 : decode c_W_variable 6 = .ok (.i2l, 1) := by decide +kernel
theorem d_W_variable_7 : decode c_W_variable 7 = .ok (.lastore, 1) := by decide +kernel
theorem d_W_variable_8 : decode c_W_variable 8 = .ok (.goto 6, 3) := by decide +kernel
theorem d_W_variable_11 : decode c_W_variable 11 = .ok (.astore_n 2, 1) := by decide +kernel
theorem d_W_variable_12 : decode c_W_variable 12 = .ok (.iconst 1, 1) := by decide +kernel
theorem d_W_variable_13 : decode c_W_variable 13 = .ok (.ireturn, 1) := by decide +kernel
theorem d_W_variable_14 : decode c_W_variable 14 = .ok (.iconst 0, 1) := by decide +kernel
theorem d_W_variable_15 : decode c_W_variable 15 = .ok (.ireturn, 1) := by decide +kernel
theorem d_W_literal_0 : decode c_W_literal 0 = .ok (.aload_n 0, 1) := by decide +kernel
theorem d_W_literal_1 : decode c_W_literal 1 = .ok (.iload_n 1, 1) := by decide +kernel
theorem d_W_literal_2 : decode c_W_literal 2 = .ok (.invokevirtual 15, 3) := by decide +kernel
theorem d_W_literal_5 : decode c_W_literal 5 = .ok (.goto 9, 3) := by decide +kernel
theorem d_W_literal_8 : decode c_W_literal 8 = .ok (.astore_n 2, 1) := by decide +kernel
theorem d_W_literal_9 : decode c_W_literal 9 = .ok (.iconst 1, 1) := by decide +kernel
theorem d_W_literal_10 : decode c_W_literal 10 = .ok (.ireturn, 1) := by decide +kernel
theorem d_W_literal_11 : decode c_W_literal 11 = .ok (.astore_n 2, 1) := by decide +kernel
theorem d_W_literal_12 : decode c_W_literal 12 = .ok (.iconst 2, 1) := by decide +kernel
theorem d_W_literal_13 : decode c_W_literal 13 = .ok (.ireturn, 1) := by decide +kernel
theorem d_W_literal_14 : decode c_W_literal 14 = .ok (.iconst 0, 1) := by decide +kernel
theorem d_W_literal_15 : decode c_W_literal 15 = .ok (.ireturn, 1) := by decide +kernel
theorem d_W_close_0 : decode c_W_close 0 = .ok (.aload_n 1, 1) := by decide +kernel
theorem d_W_close_1 : decode c_W_close 1 = .ok (.iconst 0, 1) := by decide +kernel
theorem d_W_close_2 : decode c_W_close 2 = .ok (.aload_n 0, 1) := by decide +kernel
theorem d_W_close_3 : decode c_W_close 3 = .ok (.invokevirtual 21, 3) := by decide +kernel
theorem d_W_close_6 : decode c_W_close 6 = .ok (.i2l, 1) := by decide +kernel
theorem d_W_close_7 : decode c_W_close 7 = .ok (.lastore, 1) := by decide +kernel
theorem d_W_close_8 : decode c_W_close 8 = .ok (.goto 6, 3) := by decide +kernel
theorem d_W_close_11 : decode c_W_close 11 = .ok (.astore_n 2, 1) := by decide +kernel
theorem d_W_close_12 : decode c_W_close 12 = .ok (.iconst 1, 1) := by decide +kernel
theorem d_W_close_13 : decode c_W_close 13 = .ok (.ireturn, 1) := by decide +kernel
theorem d_W_close_14 : decode c_W_close 14 = .ok (.iconst 0, 1) := by decide +kernel
theorem d_W_close_15 : decode c_W_close 15 = .ok (.ireturn, 1) := by decide +kernel
theorem d_W_assume_0 : decode c_W_assume 0 = .ok (.aload_n 0, 1) := by decide +kernel
theorem d_W_assume_1 : decode c_W_assume 1 = .ok (.iload_n 1, 1) := by decide +kernel
theorem d_W_assume_2 : decode c_W_assume 2 = .ok (.invokevirtual 24, 3) := by decide +kernel
theorem d_W_assume_5 : decode c_W_assume 5 = .ok (.goto 9, 3) := by decide +kernel
theorem d_W_assume_8 : decode c_W_assume 8 = .ok (.astore_n 2, 1) := by decide +kernel
theorem d_W_assume_9 : decode c_W_assume 9 = .ok (.iconst 1, 1) := by decide +kernel
theorem d_W_assume_10 : decode c_W_assume 10 = .ok (.ireturn, 1) := by decide +kernel
theorem d_W_assume_11 : decode c_W_assume 11 = .ok (.astore_n 2, 1) := by decide +kernel
theorem d_W_assume_12 : decode c_W_assume 12 = .ok (.iconst 2, 1) := by decide +kernel
theorem d_W_assume_13 : decode c_W_assume 13 = .ok (.ireturn, 1) := by decide +kernel
theorem d_W_assume_14 : decode c_W_assume 14 = .ok (.iconst 0, 1) := by decide +kernel
theorem d_W_assume_15 : decode c_W_assume 15 = .ok (.ireturn, 1) := by decide +kernel
theorem d_W_follows_0 : decode c_W_follows 0 = .ok (.aload_n 2, 1) := by decide +kernel
theorem d_W_follows_1 : decode c_W_follows 1 = .ok (.iconst 0, 1) := by decide +kernel
theorem d_W_follows_2 : decode c_W_follows 2 = .ok (.aload_n 0, 1) := by decide +kernel
theorem d_W_follows_3 : decode c_W_follows 3 = .ok (.iload_n 1, 1) := by decide +kernel
theorem d_W_follows_4 : decode c_W_follows 4 = .ok (.invokevirtual 27, 3) := by decide +kernel
theorem d_W_follows_7 : decode c_W_follows 7 = .ok (.ifCond .eq 7, 3) := by decide +kernel
theorem d_W_follows_10 : decode c_W_follows 10 = .ok (.lconst 1, 1) := by decide +kernel
theorem d_W_follows_11 : decode c_W_follows 11 = .ok (.goto 4, 3) := by decide +kernel
theorem d_W_follows_14 : decode c_W_follows 14 = .ok (.lconst 0, 1) := by decide +kernel
theorem d_W_follows_15 : decode c_W_follows 15 = .ok (.lastore, 1) := by decide +kernel
theorem d_W_follows_16 : decode c_W_follows 16 = .ok (.goto 6, 3) := by decide +kernel
theorem d_W_follows_19 : decode c_W_follows 19 = .ok (.astore_n 3, 1) := by decide +kernel
theorem d_W_follows_20 : decode c_W_follows 20 = .ok (.iconst 1, 1) := by decide +kernel
theorem d_W_follows_21 : decode c_W_follows 21 = .ok (.ireturn, 1) := by decide +kernel
theorem d_W_follows_22 : decode c_W_follows 22 = .ok (.iconst 0, 1) := by decide +kernel
theorem d_W_follows_23 : decode c_W_follows 23 = .ok (.ireturn, 1) := by decide +kernel
theorem d_W_value_0 : decode c_W_value 0 = .ok (.aload_n 2, 1) := by decide +kernel
theorem d_W_value_1 : decode c_W_value 1 = .ok (.iconst 0, 1) := by decide +kernel
theorem d_W_value_2 : decode c_W_value 2 = .ok (.aload_n 0, 1) := by decide +kernel
theorem d_W_value_3 : decode c_W_value 3 = .ok (.iload_n 1, 1) := by decide +kernel
theorem d_W_value_4 : decode c_W_value 4 = .ok (.invokevirtual 31, 3) := by decide +kernel
theorem d_W_value_7 : decode c_W_value 7 = .ok (.ifCond .eq 7, 3) := by decide +kernel
theorem d_W_value_10 : decode c_W_value 10 = .ok (.lconst 1, 1) := by decide +kernel
theorem d_W_value_11 : decode c_W_value 11 = .ok (.goto 4, 3) := by decide +kernel
theorem d_W_value_14 : decode c_W_value 14 = .ok (.lconst 0, 1) := by decide +kernel
theorem d_W_value_15 : decode c_W_value 15 = .ok (.lastore, 1) := by decide +kernel
theorem d_W_value_16 : decode c_W_value 16 = .ok (.goto 9, 3) := by decide +kernel
theorem d_W_value_19 : decode c_W_value 19 = .ok (.astore_n 3, 1) := by decide +kernel
theorem d_W_value_20 : decode c_W_value 20 = .ok (.iconst 1, 1) := by decide +kernel
theorem d_W_value_21 : decode c_W_value 21 = .ok (.ireturn, 1) := by decide +kernel
theorem d_W_value_22 : decode c_W_value 22 = .ok (.astore_n 3, 1) := by decide +kernel
theorem d_W_value_23 : decode c_W_value 23 = .ok (.iconst 2, 1) := by decide +kernel
theorem d_W_value_24 : decode c_W_value 24 = .ok (.ireturn, 1) := by decide +kernel
theorem d_W_value_25 : decode c_W_value 25 = .ok (.iconst 0, 1) := by decide +kernel
theorem d_W_value_26 : decode c_W_value 26 = .ok (.ireturn, 1) := by decide +kernel
theorem d_W_law_0 : decode code 0 = .ok (.new 8, 3) := by decide +kernel
theorem d_W_law_3 : decode code 3 = .ok (.dup, 1) := by decide +kernel
theorem d_W_law_4 : decode code 4 = .ok (.invokespecial 36, 3) := by decide +kernel
theorem d_W_law_7 : decode code 7 = .ok (.astore_n 1, 1) := by decide +kernel
theorem d_W_law_8 : decode code 8 = .ok (.new 37, 3) := by decide +kernel
theorem d_W_law_11 : decode code 11 = .ok (.dup, 1) := by decide +kernel
theorem d_W_law_12 : decode code 12 = .ok (.invokespecial 39, 3) := by decide +kernel
theorem d_W_law_15 : decode code 15 = .ok (.astore_n 2, 1) := by decide +kernel
theorem d_W_law_16 : decode code 16 = .ok (.iconst 1, 1) := by decide +kernel
theorem d_W_law_17 : decode code 17 = .ok (.newarray .long, 2) := by decide +kernel
theorem d_W_law_19 : decode code 19 = .ok (.astore_n 3, 1) := by decide +kernel
theorem d_W_law_20 : decode code 20 = .ok (.iconst 0, 1) := by decide +kernel
theorem d_W_law_21 : decode code 21 = .ok (.istore 4, 2) := by decide +kernel
theorem d_W_law_23 : decode code 23 = .ok (.iload 4, 2) := by decide +kernel
theorem d_W_law_25 : decode code 25 = .ok (.aload_n 0, 1) := by decide +kernel
theorem d_W_law_26 : decode code 26 = .ok (.arraylength, 1) := by decide +kernel
theorem d_W_law_27 : decode code 27 = .ok (.iconst 2, 1) := by decide +kernel
theorem d_W_law_28 : decode code 28 = .ok (.isub, 1) := by decide +kernel
theorem d_W_law_29 : decode code 29 = .ok (.if_icmp .gt 402, 3) := by decide +kernel
theorem d_W_law_32 : decode code 32 = .ok (.aload_n 0, 1) := by decide +kernel
theorem d_W_law_33 : decode code 33 = .ok (.iload 4, 2) := by decide +kernel
theorem d_W_law_35 : decode code 35 = .ok (.iaload, 1) := by decide +kernel
theorem d_W_law_36 : decode code 36 = .ok (.bipush 15, 2) := by decide +kernel
theorem d_W_law_38 : decode code 38 = .ok (.iand, 1) := by decide +kernel
theorem d_W_law_39 : decode code 39 = .ok (.tableswitch 386 0 8 #[49, 93, 129, 173, 209, 222, 285, 298, 361], 49) := by decide +kernel
theorem d_W_law_88 : decode code 88 = .ok (.aload_n 1, 1) := by decide +kernel
theorem d_W_law_89 : decode code 89 = .ok (.aload_n 3, 1) := by decide +kernel
theorem d_W_law_90 : decode code 90 = .ok (.invokestatic 40, 3) := by decide +kernel
theorem d_W_law_93 : decode code 93 = .ok (.istore 5, 2) := by decide +kernel
theorem d_W_law_95 : decode code 95 = .ok (.aload_n 2, 1) := by decide +kernel
theorem d_W_law_96 : decode code 96 = .ok (.invokevirtual 45, 3) := by decide +kernel
theorem d_W_law_99 : decode code 99 = .ok (.istore 6, 2) := by decide +kernel
theorem d_W_law_101 : decode code 101 = .ok (.aload_n 2, 1) := by decide +kernel
theorem d_W_law_102 : decode code 102 = .ok (.invokevirtual 46, 3) := by decide +kernel
theorem d_W_law_105 : decode code 105 = .ok (.iload 5, 2) := by decide +kernel
theorem d_W_law_107 : decode code 107 = .ok (.if_icmp .eq 5, 3) := by decide +kernel
theorem d_W_law_110 : decode code 110 = .ok (.iconst 0, 1) := by decide +kernel
theorem d_W_law_111 : decode code 111 = .ok (.ireturn, 1) := by decide +kernel
theorem d_W_law_112 : decode code 112 = .ok (.iload 5, 2) := by decide +kernel
theorem d_W_law_114 : decode code 114 = .ok (.ifCond .ne 15, 3) := by decide +kernel
theorem d_W_law_117 : decode code 117 = .ok (.aload_n 3, 1) := by decide +kernel
theorem d_W_law_118 : decode code 118 = .ok (.iconst 0, 1) := by decide +kernel
theorem d_W_law_119 : decode code 119 = .ok (.laload, 1) := by decide +kernel
theorem d_W_law_120 : decode code 120 = .ok (.iload 6, 2) := by decide +kernel
theorem d_W_law_122 : decode code 122 = .ok (.i2l, 1) := by decide +kernel
theorem d_W_law_123 : decode code 123 = .ok (.lcmp, 1) := by decide +kernel
theorem d_W_law_124 : decode code 124 = .ok (.ifCond .eq 5, 3) := by decide +kernel
theorem d_W_law_127 : decode code 127 = .ok (.iconst 0, 1) := by decide +kernel
theorem d_W_law_128 : decode code 128 = .ok (.ireturn, 1) := by decide +kernel
theorem d_W_law_129 : decode code 129 = .ok (.goto 296, 3) := by decide +kernel
theorem d_W_law_132 : decode code 132 = .ok (.aload_n 1, 1) := by decide +kernel
theorem d_W_law_133 : decode code 133 = .ok (.aload_n 0, 1) := by decide +kernel
theorem d_W_law_134 : decode code 134 = .ok (.iload 4, 2) := by decide +kernel
theorem d_W_law_136 : decode code 136 = .ok (.iconst 1, 1) := by decide +kernel
theorem d_W_law_137 : decode code 137 = .ok (.iadd, 1) := by decide +kernel
theorem d_W_law_138 : decode code 138 = .ok (.iaload, 1) := by decide +kernel
theorem d_W_law_139 : decode code 139 = .ok (.invokestatic 49, 3) := by decide +kernel
theorem d_W_law_142 : decode code 142 = .ok (.istore 5, 2) := by decide +kernel
theorem d_W_law_144 : decode code 144 = .ok (.aload_n 2, 1) := by decide +kernel
theorem d_W_law_145 : decode code 145 = .ok (.aload_n 0, 1) := by decide +kernel
theorem d_W_law_146 : decode code 146 = .ok (.iload 4, 2) := by decide +kernel
theorem d_W_law_148 : decode code 148 = .ok (.iconst 1, 1) := by decide +kernel
theorem d_W_law_149 : decode code 149 = .ok (.iadd, 1) := by decide +kernel
theorem d_W_law_150 : decode code 150 = .ok (.iaload, 1) := by decide +kernel
theorem d_W_law_151 : decode code 151 = .ok (.invokevirtual 52, 3) := by decide +kernel
theorem d_W_law_154 : decode code 154 = .ok (.aload_n 2, 1) := by decide +kernel
theorem d_W_law_155 : decode code 155 = .ok (.invokevirtual 46, 3) := by decide +kernel
theorem d_W_law_158 : decode code 158 = .ok (.iload 5, 2) := by decide +kernel
theorem d_W_law_160 : decode code 160 = .ok (.if_icmp .eq 5, 3) := by decide +kernel
theorem d_W_law_163 : decode code 163 = .ok (.iconst 0, 1) := by decide +kernel
theorem d_W_law_164 : decode code 164 = .ok (.ireturn, 1) := by decide +kernel
theorem d_W_law_165 : decode code 165 = .ok (.goto 260, 3) := by decide +kernel
theorem d_W_law_168 : decode code 168 = .ok (.aload_n 1, 1) := by decide +kernel
theorem d_W_law_169 : decode code 169 = .ok (.aload_n 3, 1) := by decide +kernel
theorem d_W_law_170 : decode code 170 = .ok (.invokestatic 53, 3) := by decide +kernel
theorem d_W_law_173 : decode code 173 = .ok (.istore 5, 2) := by decide +kernel
theorem d_W_law_175 : decode code 175 = .ok (.aload_n 2, 1) := by decide +kernel
theorem d_W_law_176 : decode code 176 = .ok (.invokevirtual 55, 3) := by decide +kernel
theorem d_W_law_179 : decode code 179 = .ok (.istore 6, 2) := by decide +kernel
theorem d_W_law_181 : decode code 181 = .ok (.aload_n 2, 1) := by decide +kernel
theorem d_W_law_182 : decode code 182 = .ok (.invokevirtual 46, 3) := by decide +kernel
theorem d_W_law_185 : decode code 185 = .ok (.iload 5, 2) := by decide +kernel
theorem d_W_law_187 : decode code 187 = .ok (.if_icmp .eq 5, 3) := by decide +kernel
theorem d_W_law_190 : decode code 190 = .ok (.iconst 0, 1) := by decide +kernel
theorem d_W_law_191 : decode code 191 = .ok (.ireturn, 1) := by decide +kernel
theorem d_W_law_192 : decode code 192 = .ok (.iload 5, 2) := by decide +kernel
theorem d_W_law_194 : decode code 194 = .ok (.ifCond .ne 15, 3) := by decide +kernel
theorem d_W_law_197 : decode code 197 = .ok (.aload_n 3, 1) := by decide +kernel
theorem d_W_law_198 : decode code 198 = .ok (.iconst 0, 1) := by decide +kernel
theorem d_W_law_199 : decode code 199 = .ok (.laload, 1) := by decide +kernel
theorem d_W_law_200 : decode code 200 = .ok (.iload 6, 2) := by decide +kernel
theorem d_W_law_202 : decode code 202 = .ok (.i2l, 1) := by decide +kernel
theorem d_W_law_203 : decode code 203 = .ok (.lcmp, 1) := by decide +kernel
theorem d_W_law_204 : decode code 204 = .ok (.ifCond .eq 5, 3) := by decide +kernel
theorem d_W_law_207 : decode code 207 = .ok (.iconst 0, 1) := by decide +kernel
theorem d_W_law_208 : decode code 208 = .ok (.ireturn, 1) := by decide +kernel
theorem d_W_law_209 : decode code 209 = .ok (.goto 216, 3) := by decide +kernel
theorem d_W_law_212 : decode code 212 = .ok (.aload_n 1, 1) := by decide +kernel
theorem d_W_law_213 : decode code 213 = .ok (.aload_n 0, 1) := by decide +kernel
theorem d_W_law_214 : decode code 214 = .ok (.iload 4, 2) := by decide +kernel
theorem d_W_law_216 : decode code 216 = .ok (.iconst 1, 1) := by decide +kernel
theorem d_W_law_217 : decode code 217 = .ok (.iadd, 1) := by decide +kernel
theorem d_W_law_218 : decode code 218 = .ok (.iaload, 1) := by decide +kernel
theorem d_W_law_219 : decode code 219 = .ok (.invokestatic 56, 3) := by decide +kernel
theorem d_W_law_222 : decode code 222 = .ok (.istore 5, 2) := by decide +kernel
theorem d_W_law_224 : decode code 224 = .ok (.aload_n 2, 1) := by decide +kernel
theorem d_W_law_225 : decode code 225 = .ok (.aload_n 0, 1) := by decide +kernel
theorem d_W_law_226 : decode code 226 = .ok (.iload 4, 2) := by decide +kernel
theorem d_W_law_228 : decode code 228 = .ok (.iconst 1, 1) := by decide +kernel
theorem d_W_law_229 : decode code 229 = .ok (.iadd, 1) := by decide +kernel
theorem d_W_law_230 : decode code 230 = .ok (.iaload, 1) := by decide +kernel
theorem d_W_law_231 : decode code 231 = .ok (.invokevirtual 58, 3) := by decide +kernel
theorem d_W_law_234 : decode code 234 = .ok (.aload_n 2, 1) := by decide +kernel
theorem d_W_law_235 : decode code 235 = .ok (.invokevirtual 46, 3) := by decide +kernel
theorem d_W_law_238 : decode code 238 = .ok (.iload 5, 2) := by decide +kernel
theorem d_W_law_240 : decode code 240 = .ok (.if_icmp .eq 5, 3) := by decide +kernel
theorem d_W_law_243 : decode code 243 = .ok (.iconst 0, 1) := by decide +kernel
theorem d_W_law_244 : decode code 244 = .ok (.ireturn, 1) := by decide +kernel
theorem d_W_law_245 : decode code 245 = .ok (.goto 180, 3) := by decide +kernel
theorem d_W_law_248 : decode code 248 = .ok (.aload_n 1, 1) := by decide +kernel
theorem d_W_law_249 : decode code 249 = .ok (.invokevirtual 59, 3) := by decide +kernel
theorem d_W_law_252 : decode code 252 = .ok (.aload_n 2, 1) := by decide +kernel
theorem d_W_law_253 : decode code 253 = .ok (.invokevirtual 63, 3) := by decide +kernel
theorem d_W_law_256 : decode code 256 = .ok (.if_icmp .eq 169, 3) := by decide +kernel
theorem d_W_law_259 : decode code 259 = .ok (.iconst 0, 1) := by decide +kernel
theorem d_W_law_260 : decode code 260 = .ok (.ireturn, 1) := by decide +kernel
theorem d_W_law_261 : decode code 261 = .ok (.aload_n 1, 1) := by decide +kernel
theorem d_W_law_262 : decode code 262 = .ok (.aload_n 0, 1) := by decide +kernel
theorem d_W_law_263 : decode code 263 = .ok (.iload 4, 2) := by decide +kernel
theorem d_W_law_265 : decode code 265 = .ok (.iconst 1, 1) := by decide +kernel
theorem d_W_law_266 : decode code 266 = .ok (.iadd, 1) := by decide +kernel
theorem d_W_law_267 : decode code 267 = .ok (.iaload, 1) := by decide +kernel
theorem d_W_law_268 : decode code 268 = .ok (.aload_n 3, 1) := by decide +kernel
theorem d_W_law_269 : decode code 269 = .ok (.invokestatic 64, 3) := by decide +kernel
theorem d_W_law_272 : decode code 272 = .ok (.istore 5, 2) := by decide +kernel
theorem d_W_law_274 : decode code 274 = .ok (.aload_n 2, 1) := by decide +kernel
theorem d_W_law_275 : decode code 275 = .ok (.aload_n 0, 1) := by decide +kernel
theorem d_W_law_276 : decode code 276 = .ok (.iload 4, 2) := by decide +kernel
theorem d_W_law_278 : decode code 278 = .ok (.iconst 1, 1) := by decide +kernel
theorem d_W_law_279 : decode code 279 = .ok (.iadd, 1) := by decide +kernel
theorem d_W_law_280 : decode code 280 = .ok (.iaload, 1) := by decide +kernel
theorem d_W_law_281 : decode code 281 = .ok (.invokevirtual 67, 3) := by decide +kernel
theorem d_W_law_284 : decode code 284 = .ok (.istore 6, 2) := by decide +kernel
theorem d_W_law_286 : decode code 286 = .ok (.aload_n 2, 1) := by decide +kernel
theorem d_W_law_287 : decode code 287 = .ok (.invokevirtual 46, 3) := by decide +kernel
theorem d_W_law_290 : decode code 290 = .ok (.iload 5, 2) := by decide +kernel
theorem d_W_law_292 : decode code 292 = .ok (.if_icmp .eq 5, 3) := by decide +kernel
theorem d_W_law_295 : decode code 295 = .ok (.iconst 0, 1) := by decide +kernel
theorem d_W_law_296 : decode code 296 = .ok (.ireturn, 1) := by decide +kernel
theorem d_W_law_297 : decode code 297 = .ok (.iload 5, 2) := by decide +kernel
theorem d_W_law_299 : decode code 299 = .ok (.ifCond .ne 22, 3) := by decide +kernel
theorem d_W_law_302 : decode code 302 = .ok (.aload_n 3, 1) := by decide +kernel
theorem d_W_law_303 : decode code 303 = .ok (.iconst 0, 1) := by decide +kernel
theorem d_W_law_304 : decode code 304 = .ok (.laload, 1) := by decide +kernel
theorem d_W_law_305 : decode code 305 = .ok (.iload 6, 2) := by decide +kernel
theorem d_W_law_307 : decode code 307 = .ok (.ifCond .eq 7, 3) := by decide +kernel
theorem d_W_law_310 : decode code 310 = .ok (.lconst 1, 1) := by decide +kernel
theorem d_W_law_311 : decode code 311 = .ok (.goto 4, 3) := by decide +kernel
theorem d_W_law_314 : decode code 314 = .ok (.lconst 0, 1) := by decide +kernel
theorem d_W_law_315 : decode code 315 = .ok (.lcmp, 1) := by decide +kernel
theorem d_W_law_316 : decode code 316 = .ok (.ifCond .eq 5, 3) := by decide +kernel
theorem d_W_law_319 : decode code 319 = .ok (.iconst 0, 1) := by decide +kernel
theorem d_W_law_320 : decode code 320 = .ok (.ireturn, 1) := by decide +kernel
theorem d_W_law_321 : decode code 321 = .ok (.goto 104, 3) := by decide +kernel
theorem d_W_law_324 : decode code 324 = .ok (.aload_n 1, 1) := by decide +kernel
theorem d_W_law_325 : decode code 325 = .ok (.invokevirtual 68, 3) := by decide +kernel
theorem d_W_law_328 : decode code 328 = .ok (.aload_n 2, 1) := by decide +kernel
theorem d_W_law_329 : decode code 329 = .ok (.invokevirtual 71, 3) := by decide +kernel
theorem d_W_law_332 : decode code 332 = .ok (.if_icmp .eq 93, 3) := by decide +kernel
theorem d_W_law_335 : decode code 335 = .ok (.iconst 0, 1) := by decide +kernel
theorem d_W_law_336 : decode code 336 = .ok (.ireturn, 1) := by decide +kernel
theorem d_W_law_337 : decode code 337 = .ok (.aload_n 1, 1) := by decide +kernel
theorem d_W_law_338 : decode code 338 = .ok (.aload_n 0, 1) := by decide +kernel
theorem d_W_law_339 : decode code 339 = .ok (.iload 4, 2) := by decide +kernel
theorem d_W_law_341 : decode code 341 = .ok (.iconst 1, 1) := by decide +kernel
theorem d_W_law_342 : decode code 342 = .ok (.iadd, 1) := by decide +kernel
theorem d_W_law_343 : decode code 343 = .ok (.iaload, 1) := by decide +kernel
theorem d_W_law_344 : decode code 344 = .ok (.aload_n 3, 1) := by decide +kernel
theorem d_W_law_345 : decode code 345 = .ok (.invokestatic 72, 3) := by decide +kernel
theorem d_W_law_348 : decode code 348 = .ok (.istore 5, 2) := by decide +kernel
theorem d_W_law_350 : decode code 350 = .ok (.aload_n 2, 1) := by decide +kernel
theorem d_W_law_351 : decode code 351 = .ok (.aload_n 0, 1) := by decide +kernel
theorem d_W_law_352 : decode code 352 = .ok (.iload 4, 2) := by decide +kernel
theorem d_W_law_354 : decode code 354 = .ok (.iconst 1, 1) := by decide +kernel
theorem d_W_law_355 : decode code 355 = .ok (.iadd, 1) := by decide +kernel
theorem d_W_law_356 : decode code 356 = .ok (.iaload, 1) := by decide +kernel
theorem d_W_law_357 : decode code 357 = .ok (.invokevirtual 74, 3) := by decide +kernel
theorem d_W_law_360 : decode code 360 = .ok (.istore 6, 2) := by decide +kernel
theorem d_W_law_362 : decode code 362 = .ok (.aload_n 2, 1) := by decide +kernel
theorem d_W_law_363 : decode code 363 = .ok (.invokevirtual 46, 3) := by decide +kernel
theorem d_W_law_366 : decode code 366 = .ok (.iload 5, 2) := by decide +kernel
theorem d_W_law_368 : decode code 368 = .ok (.if_icmp .eq 5, 3) := by decide +kernel
theorem d_W_law_371 : decode code 371 = .ok (.iconst 0, 1) := by decide +kernel
theorem d_W_law_372 : decode code 372 = .ok (.ireturn, 1) := by decide +kernel
theorem d_W_law_373 : decode code 373 = .ok (.iload 5, 2) := by decide +kernel
theorem d_W_law_375 : decode code 375 = .ok (.ifCond .ne 22, 3) := by decide +kernel
theorem d_W_law_378 : decode code 378 = .ok (.aload_n 3, 1) := by decide +kernel
theorem d_W_law_379 : decode code 379 = .ok (.iconst 0, 1) := by decide +kernel
theorem d_W_law_380 : decode code 380 = .ok (.laload, 1) := by decide +kernel
theorem d_W_law_381 : decode code 381 = .ok (.iload 6, 2) := by decide +kernel
theorem d_W_law_383 : decode code 383 = .ok (.ifCond .eq 7, 3) := by decide +kernel
theorem d_W_law_386 : decode code 386 = .ok (.lconst 1, 1) := by decide +kernel
theorem d_W_law_387 : decode code 387 = .ok (.goto 4, 3) := by decide +kernel
theorem d_W_law_390 : decode code 390 = .ok (.lconst 0, 1) := by decide +kernel
theorem d_W_law_391 : decode code 391 = .ok (.lcmp, 1) := by decide +kernel
theorem d_W_law_392 : decode code 392 = .ok (.ifCond .eq 5, 3) := by decide +kernel
theorem d_W_law_395 : decode code 395 = .ok (.iconst 0, 1) := by decide +kernel
theorem d_W_law_396 : decode code 396 = .ok (.ireturn, 1) := by decide +kernel
theorem d_W_law_397 : decode code 397 = .ok (.goto 28, 3) := by decide +kernel
theorem d_W_law_400 : decode code 400 = .ok (.aload_n 1, 1) := by decide +kernel
theorem d_W_law_401 : decode code 401 = .ok (.aload_n 0, 1) := by decide +kernel
theorem d_W_law_402 : decode code 402 = .ok (.iload 4, 2) := by decide +kernel
theorem d_W_law_404 : decode code 404 = .ok (.iconst 1, 1) := by decide +kernel
theorem d_W_law_405 : decode code 405 = .ok (.iadd, 1) := by decide +kernel
theorem d_W_law_406 : decode code 406 = .ok (.iaload, 1) := by decide +kernel
theorem d_W_law_407 : decode code 407 = .ok (.invokevirtual 75, 3) := by decide +kernel
theorem d_W_law_410 : decode code 410 = .ok (.aload_n 2, 1) := by decide +kernel
theorem d_W_law_411 : decode code 411 = .ok (.aload_n 0, 1) := by decide +kernel
theorem d_W_law_412 : decode code 412 = .ok (.iload 4, 2) := by decide +kernel
theorem d_W_law_414 : decode code 414 = .ok (.iconst 1, 1) := by decide +kernel
theorem d_W_law_415 : decode code 415 = .ok (.iadd, 1) := by decide +kernel
theorem d_W_law_416 : decode code 416 = .ok (.iaload, 1) := by decide +kernel
theorem d_W_law_417 : decode code 417 = .ok (.invokevirtual 79, 3) := by decide +kernel
theorem d_W_law_420 : decode code 420 = .ok (.if_icmp .eq 5, 3) := by decide +kernel
theorem d_W_law_423 : decode code 423 = .ok (.iconst 0, 1) := by decide +kernel
theorem d_W_law_424 : decode code 424 = .ok (.ireturn, 1) := by decide +kernel
theorem d_W_law_425 : decode code 425 = .ok (.iinc 4 2, 3) := by decide +kernel
theorem d_W_law_428 : decode code 428 = .ok (.goto (-405), 3) := by decide +kernel
theorem d_W_law_431 : decode code 431 = .ok (.iconst 1, 1) := by decide +kernel
theorem d_W_law_432 : decode code 432 = .ok (.ireturn, 1) := by decide +kernel
