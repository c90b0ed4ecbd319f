theorem d_MO_combinator_66 : decode b_MO_combinator 66 = .ok (.goto 45, 3) := by decide +kernel
theorem d_MO_combinator_69 : decode b_MO_combinator 69 = .ok (.iload_n 1, 1) := by decide +kernel
theorem d_MO_combinator_70 : decode b_MO_combinator 70 = .ok (.iconst 5, 1) := by decide +kernel
theorem d_MO_combinator_71 : decode b_MO_combinator 71 = .ok (.if_icmp .eq 9, 3) := by decide +kernel
theorem d_MO_combinator_74 : decode b_MO_combinator 74 = .ok (.iload_n 1, 1) := by decide +kernel
theorem d_MO_combinator_75 : decode b_MO_combinator 75 = .ok (.bipush 6, 2) := by decide +kernel
theorem d_MO_combinator_77 : decode b_MO_combinator 77 = .ok (.if_icmp .ne 7, 3) := by decide +kernel
theorem d_MO_combinator_80 : decode b_MO_combinator 80 = .ok (.iconst 1, 1) := by decide +kernel
theorem d_MO_combinator_81 : decode b_MO_combinator 81 = .ok (.goto 30, 3) := by decide +kernel
theorem d_MO_combinator_84 : decode b_MO_combinator 84 = .ok (.iload_n 1, 1) := by decide +kernel
theorem d_MO_combinator_85 : decode b_MO_combinator 85 = .ok (.bipush 7, 2) := by decide +kernel
theorem d_MO_combinator_87 : decode b_MO_combinator 87 = .ok (.if_icmp .ne 7, 3) := by decide +kernel
theorem d_MO_combinator_90 : decode b_MO_combinator 90 = .ok (.iconst 3, 1) := by decide +kernel
theorem d_MO_combinator_91 : decode b_MO_combinator 91 = .ok (.goto 20, 3) := by decide +kernel
theorem d_MO_combinator_94 : decode b_MO_combinator 94 = .ok (.iload_n 1, 1) := by decide +kernel
theorem d_MO_combinator_95 : decode b_MO_combinator 95 = .ok (.bipush 8, 2) := by decide +kernel
theorem d_MO_combinator_97 : decode b_MO_combinator 97 = .ok (.if_icmp .eq 9, 3) := by decide +kernel
theorem d_MO_combinator_100 : decode b_MO_combinator 100 = .ok (.iload_n 1, 1) := by decide +kernel
theorem d_MO_combinator_101 : decode b_MO_combinator 101 = .ok (.bipush 9, 2) := by decide +kernel
theorem d_MO_combinator_103 : decode b_MO_combinator 103 = .ok (.if_icmp .ne 7, 3) := by decide +kernel
theorem d_MO_combinator_106 : decode b_MO_combinator 106 = .ok (.iconst 2, 1) := by decide +kernel
theorem d_MO_combinator_107 : decode b_MO_combinator 107 = .ok (.goto 4, 3) := by decide +kernel
theorem d_MO_combinator_110 : decode b_MO_combinator 110 = .ok (.iconst 0, 1) := by decide +kernel
theorem d_MO_combinator_111 : decode b_MO_combinator 111 = .ok (.istore 10, 2) := by decide +kernel
theorem d_MO_combinator_113 : decode b_MO_combinator 113 = .ok (.iload 10, 2) := by decide +kernel
theorem d_MO_combinator_115 : decode b_MO_combinator 115 = .ok (.ifCond .le 13, 3) := by decide +kernel
theorem d_MO_combinator_118 : decode b_MO_combinator 118 = .ok (.aload_n 0, 1) := by decide +kernel
theorem d_MO_combinator_119 : decode b_MO_combinator 119 = .ok (.iload 10, 2) := by decide +kernel
theorem d_MO_combinator_121 : decode b_MO_combinator 121 = .ok (.invokevirtual 383, 3) := by decide +kernel
theorem d_MO_combinator_124 : decode b_MO_combinator 124 = .ok (.ifCond .ne 4, 3) := by decide +kernel
theorem d_MO_combinator_127 : decode b_MO_combinator 127 = .ok (.return_, 1) := by decide +kernel
theorem d_MO_combinator_128 : decode b_MO_combinator 128 = .ok (.iload_n 1, 1) := by decide +kernel
theorem d_MO_combinator_129 : decode b_MO_combinator 129 = .ok (.iconst 2, 1) := by decide +kernel
theorem d_MO_combinator_130 : decode b_MO_combinator 130 = .ok (.if_icmp .ne 31, 3) := by decide +kernel
theorem d_MO_combinator_133 : decode b_MO_combinator 133 = .ok (.aload_n 0, 1) := by decide +kernel
theorem d_MO_combinator_134 : decode b_MO_combinator 134 = .ok (.dup, 1) := by decide +kernel
theorem d_MO_combinator_135 : decode b_MO_combinator 135 = .ok (.getfield 342, 3) := by decide +kernel
theorem d_MO_combinator_138 : decode b_MO_combinator 138 = .ok (.iconst 1, 1) := by decide +kernel
theorem d_MO_combinator_139 : decode b_MO_combinator 139 = .ok (.isub, 1) := by decide +kernel
theorem d_MO_combinator_140 : decode b_MO_combinator 140 = .ok (.putfield 342, 3) := by decide +kernel
theorem d_MO_combinator_143 : decode b_MO_combinator 143 = .ok (.aload_n 0, 1) := by decide +kernel
theorem d_MO_combinator_144 : decode b_MO_combinator 144 = .ok (.lload_n 2, 1) := by decide +kernel
theorem d_MO_combinator_145 : decode b_MO_combinator 145 = .ok (.putfield 357, 3) := by decide +kernel
theorem d_MO_combinator_148 : decode b_MO_combinator 148 = .ok (.aload_n 0, 1) := by decide +kernel
theorem d_MO_combinator_149 : decode b_MO_combinator 149 = .ok (.dup, 1) := by decide +kernel
theorem d_MO_combinator_150 : decode b_MO_combinator 150 = .ok (.getfield 351, 3) := by decide +kernel
theorem d_MO_combinator_153 : decode b_MO_combinator 153 = .ok (.iconst 1, 1) := by decide +kernel
theorem d_MO_combinator_154 : decode b_MO_combinator 154 = .ok (.iadd, 1) := by decide +kernel
theorem d_MO_combinator_155 : decode b_MO_combinator 155 = .ok (.putfield 351, 3) := by decide +kernel
theorem d_MO_combinator_158 : decode b_MO_combinator 158 = .ok (.goto 172, 3) := by decide +kernel
theorem d_MO_combinator_161 : decode b_MO_combinator 161 = .ok (.iload_n 1, 1) := by decide +kernel
theorem d_MO_combinator_162 : decode b_MO_combinator 162 = .ok (.iconst 3, 1) := by decide +kernel
theorem d_MO_combinator_163 : decode b_MO_combinator 163 = .ok (.if_icmp .ne 16, 3) := by decide +kernel
theorem d_MO_combinator_166 : decode b_MO_combinator 166 = .ok (.aload_n 0, 1) := by decide +kernel
theorem d_MO_combinator_167 : decode b_MO_combinator 167 = .ok (.iconst 2, 1) := by decide +kernel
theorem d_MO_combinator_168 : decode b_MO_combinator 168 = .ok (.iconst 2, 1) := by decide +kernel
theorem d_MO_combinator_169 : decode b_MO_combinator 169 = .ok (.invokestatic 178, 3) := by decide +kernel
theorem d_MO_combinator_172 : decode b_MO_combinator 172 = .ok (.lload_n 2, 1) := by decide +kernel
theorem d_MO_combinator_173 : decode b_MO_combinator 173 = .ok (.invokevirtual 386, 3) := by decide +kernel
theorem d_MO_combinator_176 : decode b_MO_combinator 176 = .ok (.goto 154, 3) := by decide +kernel
theorem d_MO_combinator_179 : decode b_MO_combinator 179 = .ok (.iload_n 1, 1) := by decide +kernel
theorem d_MO_combinator_180 : decode b_MO_combinator 180 = .ok (.iconst 4, 1) := by decide +kernel
theorem d_MO_combinator_181 : decode b_MO_combinator 181 = .ok (.if_icmp .ne 30, 3) := by decide +kernel
theorem d_MO_combinator_184 : decode b_MO_combinator 184 = .ok (.aload_n 0, 1) := by decide +kernel
theorem d_MO_combinator_185 : decode b_MO_combinator 185 = .ok (.lload_n 2, 1) := by decide +kernel
theorem d_MO_combinator_186 : decode b_MO_combinator 186 = .ok (.lload 6, 2) := by decide +kernel
theorem d_MO_combinator_188 : decode b_MO_combinator 188 = .ok (.invokevirtual 390, 3) := by decide +kernel
theorem d_MO_combinator_191 : decode b_MO_combinator 191 = .ok (.lstore 11, 2) := by decide +kernel
theorem d_MO_combinator_193 : decode b_MO_combinator 193 = .ok (.aload_n 0, 1) := by decide +kernel
theorem d_MO_combinator_194 : decode b_MO_combinator 194 = .ok (.iconst 3, 1) := by decide +kernel
theorem d_MO_combinator_195 : decode b_MO_combinator 195 = .ok (.lload 11, 2) := by decide +kernel
theorem d_MO_combinator_197 : decode b_MO_combinator 197 = .ok (.aload_n 0, 1) := by decide +kernel
theorem d_MO_combinator_198 : decode b_MO_combinator 198 = .ok (.lload 4, 2) := by decide +kernel
theorem d_MO_combinator_200 : decode b_MO_combinator 200 = .ok (.lload 6, 2) := by decide +kernel
theorem d_MO_combinator_202 : decode b_MO_combinator 202 = .ok (.invokevirtual 390, 3) := by decide +kernel
theorem d_MO_combinator_205 : decode b_MO_combinator 205 = .ok (.invokevirtual 386, 3) := by decide +kernel
theorem d_MO_combinator_208 : decode b_MO_combinator 208 = .ok (.goto 122, 3) := by decide +kernel
theorem d_MO_combinator_211 : decode b_MO_combinator 211 = .ok (.iload_n 1, 1) := by decide +kernel
theorem d_MO_combinator_212 : decode b_MO_combinator 212 = .ok (.iconst 5, 1) := by decide +kernel
theorem d_MO_combinator_213 : decode b_MO_combinator 213 = .ok (.if_icmp .ne 20, 3) := by decide +kernel
theorem d_MO_combinator_216 : decode b_MO_combinator 216 = .ok (.aload_n 0, 1) := by decide +kernel
theorem d_MO_combinator_217 : decode b_MO_combinator 217 = .ok (.iconst 3, 1) := by decide +kernel
theorem d_MO_combinator_218 : decode b_MO_combinator 218 = .ok (.lload_n 2, 1) := by decide +kernel
theorem d_MO_combinator_219 : decode b_MO_combinator 219 = .ok (.aload_n 0, 1) := by decide +kernel
theorem d_MO_combinator_220 : decode b_MO_combinator 220 = .ok (.lload 4, 2) := by decide +kernel
theorem d_MO_combinator_222 : decode b_MO_combinator 222 = .ok (.lload 6, 2) := by decide +kernel
theorem d_MO_combinator_224 : decode b_MO_combinator 224 = .ok (.invokevirtual 390, 3) := by decide +kernel
theorem d_MO_combinator_227 : decode b_MO_combinator 227 = .ok (.invokevirtual 386, 3) := by decide +kernel
theorem d_MO_combinator_230 : decode b_MO_combinator 230 = .ok (.goto 100, 3) := by decide +kernel
theorem d_MO_combinator_233 : decode b_MO_combinator 233 = .ok (.iload_n 1, 1) := by decide +kernel
theorem d_MO_combinator_234 : decode b_MO_combinator 234 = .ok (.bipush 6, 2) := by decide +kernel
theorem d_MO_combinator_236 : decode b_MO_combinator 236 = .ok (.if_icmp .ne 20, 3) := by decide +kernel
theorem d_MO_combinator_239 : decode b_MO_combinator 239 = .ok (.aload_n 0, 1) := by decide +kernel
theorem d_MO_combinator_240 : decode b_MO_combinator 240 = .ok (.iconst 3, 1) := by decide +kernel
theorem d_MO_combinator_241 : decode b_MO_combinator 241 = .ok (.aload_n 0, 1) := by decide +kernel
theorem d_MO_combinator_242 : decode b_MO_combinator 242 = .ok (.lload_n 2, 1) := by decide +kernel
theorem d_MO_combinator_243 : decode b_MO_combinator 243 = .ok (.lload 6, 2) := by decide +kernel
theorem d_MO_combinator_245 : decode b_MO_combinator 245 = .ok (.invokevirtual 390, 3) := by decide +kernel
theorem d_MO_combinator_248 : decode b_MO_combinator 248 = .ok (.lload 4, 2) := by decide +kernel
theorem d_MO_combinator_250 : decode b_MO_combinator 250 = .ok (.invokevirtual 386, 3) := by decide +kernel
theorem d_MO_combinator_253 : decode b_MO_combinator 253 = .ok (.goto 77, 3) := by decide +kernel
theorem d_MO_combinator_256 : decode b_MO_combinator 256 = .ok (.iload_n 1, 1) := by decide +kernel
theorem d_MO_combinator_257 : decode b_MO_combinator 257 = .ok (.bipush 8, 2) := by decide +kernel
theorem d_MO_combinator_259 : decode b_MO_combinator 259 = .ok (.if_icmp .ne 30, 3) := by decide +kernel
theorem d_MO_combinator_262 : decode b_MO_combinator 262 = .ok (.aload_n 0, 1) := by decide +kernel
theorem d_MO_combinator_263 : decode b_MO_combinator 263 = .ok (.lload_n 2, 1) := by decide +kernel
theorem d_MO_combinator_264 : decode b_MO_combinator 264 = .ok (.lload 4, 2) := by decide +kernel
theorem d_MO_combinator_266 : decode b_MO_combinator 266 = .ok (.invokevirtual 390, 3) := by decide +kernel
theorem d_MO_combinator_269 : decode b_MO_combinator 269 = .ok (.lstore 11, 2) := by decide +kernel
theorem d_MO_combinator_271 : decode b_MO_combinator 271 = .ok (.aload_n 0, 1) := by decide +kernel
theorem d_MO_combinator_272 : decode b_MO_combinator 272 = .ok (.iconst 4, 1) := by decide +kernel
theorem d_MO_combinator_273 : decode b_MO_combinator 273 = .ok (.lload 11, 2) := by decide +kernel
theorem d_MO_combinator_275 : decode b_MO_combinator 275 = .ok (.aload_n 0, 1) := by decide +kernel
theorem d_MO_combinator_276 : decode b_MO_combinator 276 = .ok (.lload 6, 2) := by decide +kernel
theorem d_MO_combinator_278 : decode b_MO_combinator 278 = .ok (.lload 8, 2) := by decide +kernel
theorem d_MO_combinator_280 : decode b_MO_combinator 280 = .ok (.invokevirtual 390, 3) := by decide +kernel
theorem d_MO_combinator_283 : decode b_MO_combinator 283 = .ok (.invokevirtual 386, 3) := by decide +kernel
theorem d_MO_combinator_286 : decode b_MO_combinator 286 = .ok (.goto 44, 3) := by decide +kernel
theorem d_MO_combinator_289 : decode b_MO_combinator 289 = .ok (.aload_n 0, 1) := by decide +kernel
theorem d_MO_combinator_290 : decode b_MO_combinator 290 = .ok (.lload_n 2, 1) := by decide +kernel
theorem d_MO_combinator_291 : decode b_MO_combinator 291 = .ok (.aload_n 0, 1) := by decide +kernel
theorem d_MO_combinator_292 : decode b_MO_combinator 292 = .ok (.lload 4, 2) := by decide +kernel
theorem d_MO_combinator_294 : decode b_MO_combinator 294 = .ok (.lload 8, 2) := by decide +kernel
theorem d_MO_combinator_296 : decode b_MO_combinator 296 = .ok (.invokevirtual 390, 3) := by decide +kernel
theorem d_MO_combinator_299 : decode b_MO_combinator 299 = .ok (.invokevirtual 390, 3) := by decide +kernel
theorem d_MO_combinator_302 : decode b_MO_combinator 302 = .ok (.lstore 11, 2) := by decide +kernel
theorem d_MO_combinator_304 : decode b_MO_combinator 304 = .ok (.aload_n 0, 1) := by decide +kernel
theorem d_MO_combinator_305 : decode b_MO_combinator 305 = .ok (.iconst 4, 1) := by decide +kernel
theorem d_MO_combinator_306 : decode b_MO_combinator 306 = .ok (.lload 11, 2) := by decide +kernel
theorem d_MO_combinator_308 : decode b_MO_combinator 308 = .ok (.iload_n 1, 1) := by decide +kernel
theorem d_MO_combinator_309 : decode b_MO_combinator 309 = .ok (.bipush 7, 2) := by decide +kernel
theorem d_MO_combinator_311 : decode b_MO_combinator 311 = .ok (.if_icmp .ne 14, 3) := by decide +kernel
theorem d_MO_combinator_314 : decode b_MO_combinator 314 = .ok (.aload_n 0, 1) := by decide +kernel
theorem d_MO_combinator_315 : decode b_MO_combinator 315 = .ok (.lload 6, 2) := by decide +kernel
theorem d_MO_combinator_317 : decode b_MO_combinator 317 = .ok (.lload 8, 2) := by decide +kernel
theorem d_MO_combinator_319 : decode b_MO_combinator 319 = .ok (.invokevirtual 390, 3) := by decide +kernel
theorem d_MO_combinator_322 : decode b_MO_combinator 322 = .ok (.goto 5, 3) := by decide +kernel
theorem d_MO_combinator_325 : decode b_MO_combinator 325 = .ok (.lload 6, 2) := by decide +kernel
theorem d_MO_combinator_327 : decode b_MO_combinator 327 = .ok (.invokevirtual 386, 3) := by decide +kernel
theorem d_MO_combinator_330 : decode b_MO_combinator 330 = .ok (.return_, 1) := by decide +kernel
theorem d_MO_evaluate_0 : decode b_MO_evaluate 0 = .ok (.aload_n 0, 1) := by decide +kernel
theorem d_MO_evaluate_1 : decode b_MO_evaluate 1 = .ok (.getfield 348, 3) := by decide +kernel
theorem d_MO_evaluate_4 : decode b_MO_evaluate 4 = .ok (.bipush 40, 2) := by decide +kernel
theorem d_MO_evaluate_6 : decode b_MO_evaluate 6 = .ok (.if_icmp .ne 9, 3) := by decide +kernel
theorem d_MO_evaluate_9 : decode b_MO_evaluate 9 = .ok (.aload_n 0, 1) := by decide +kernel
theorem d_MO_evaluate_10 : decode b_MO_evaluate 10 = .ok (.iconst 4, 1) := by decide +kernel
theorem d_MO_evaluate_11 : decode b_MO_evaluate 11 = .ok (.putfield 354, 3) := by decide +kernel
theorem d_MO_evaluate_14 : decode b_MO_evaluate 14 = .ok (.return_, 1) := by decide +kernel
theorem d_MO_evaluate_15 : decode b_MO_evaluate 15 = .ok (.aload_n 0, 1) := by decide +kernel
theorem d_MO_evaluate_16 : decode b_MO_evaluate 16 = .ok (.getfield 87, 3) := by decide +kernel
theorem d_MO_evaluate_19 : decode b_MO_evaluate 19 = .ok (.aload_n 0, 1) := by decide +kernel
theorem d_MO_evaluate_20 : decode b_MO_evaluate 20 = .ok (.getfield 348, 3) := by decide +kernel
theorem d_MO_evaluate_23 : decode b_MO_evaluate 23 = .ok (.aload_n 0, 1) := by decide +kernel
theorem d_MO_evaluate_24 : decode b_MO_evaluate 24 = .ok (.getfield 342, 3) := by decide +kernel
theorem d_MO_evaluate_27 : decode b_MO_evaluate 27 = .ok (.iastore, 1) := by decide +kernel
theorem d_MO_evaluate_28 : decode b_MO_evaluate 28 = .ok (.aload_n 0, 1) := by decide +kernel
theorem d_MO_evaluate_29 : decode b_MO_evaluate 29 = .ok (.getfield 90, 3) := by decide +kernel
theorem d_MO_evaluate_32 : decode b_MO_evaluate 32 = .ok (.aload_n 0, 1) := by decide +kernel
theorem d_MO_evaluate_33 : decode b_MO_evaluate 33 = .ok (.getfield 348, 3) := by decide +kernel
theorem d_MO_evaluate_36 : decode b_MO_evaluate 36 = .ok (.iload_n 1, 1) := by decide +kernel
theorem d_MO_evaluate_37 : decode b_MO_evaluate 37 = .ok (.iastore, 1) := by decide +kernel
theorem d_MO_evaluate_38 : decode b_MO_evaluate 38 = .ok (.aload_n 0, 1) := by decide +kernel
theorem d_MO_evaluate_39 : decode b_MO_evaluate 39 = .ok (.getfield 93, 3) := by decide +kernel
theorem d_MO_evaluate_42 : decode b_MO_evaluate 42 = .ok (.aload_n 0, 1) := by decide +kernel
theorem d_MO_evaluate_43 : decode b_MO_evaluate 43 = .ok (.getfield 348, 3) := by decide +kernel
theorem d_MO_evaluate_46 : decode b_MO_evaluate 46 = .ok (.iload 4, 2) := by decide +kernel
theorem d_MO_evaluate_48 : decode b_MO_evaluate 48 = .ok (.bastore, 1) := by decide +kernel
theorem d_MO_evaluate_49 : decode b_MO_evaluate 49 = .ok (.aload_n 0, 1) := by decide +kernel
theorem d_MO_evaluate_50 : decode b_MO_evaluate 50 = .ok (.getfield 96, 3) := by decide +kernel
theorem d_MO_evaluate_53 : decode b_MO_evaluate 53 = .ok (.aload_n 0, 1) := by decide +kernel
theorem d_MO_evaluate_54 : decode b_MO_evaluate 54 = .ok (.getfield 348, 3) := by decide +kernel
theorem d_MO_evaluate_57 : decode b_MO_evaluate 57 = .ok (.iload 5, 2) := by decide +kernel
theorem d_MO_evaluate_59 : decode b_MO_evaluate 59 = .ok (.iastore, 1) := by decide +kernel
theorem d_MO_evaluate_60 : decode b_MO_evaluate 60 = .ok (.aload_n 0, 1) := by decide +kernel
theorem d_MO_evaluate_61 : decode b_MO_evaluate 61 = .ok (.dup, 1) := by decide +kernel
theorem d_MO_evaluate_62 : decode b_MO_evaluate 62 = .ok (.getfield 348, 3) := by decide +kernel
theorem d_MO_evaluate_65 : decode b_MO_evaluate 65 = .ok (.iconst 1, 1) := by decide +kernel
theorem d_MO_evaluate_66 : decode b_MO_evaluate 66 = .ok (.iadd, 1) := by decide +kernel
theorem d_MO_evaluate_67 : decode b_MO_evaluate 67 = .ok (.putfield 348, 3) := by decide +kernel
theorem d_MO_evaluate_70 : decode b_MO_evaluate 70 = .ok (.aload_n 0, 1) := by decide +kernel
theorem d_MO_evaluate_71 : decode b_MO_evaluate 71 = .ok (.lload_n 2, 1) := by decide +kernel
theorem d_MO_evaluate_72 : decode b_MO_evaluate 72 = .ok (.putfield 357, 3) := by decide +kernel
theorem d_MO_evaluate_75 : decode b_MO_evaluate 75 = .ok (.return_, 1) := by decide +kernel
theorem d_MO_truth_0 : decode b_MO_truth 0 = .ok (.lload_n 0, 1) := by decide +kernel
theorem d_MO_truth_1 : decode b_MO_truth 1 = .ok (.bipush 21, 2) := by decide +kernel
theorem d_MO_truth_3 : decode b_MO_truth 3 = .ok (.invokestatic 178, 3) := by decide +kernel
theorem d_MO_truth_6 : decode b_MO_truth 6 = .ok (.lcmp, 1) := by decide +kernel
theorem d_MO_truth_7 : decode b_MO_truth 7 = .ok (.ifCond .eq 13, 3) := by decide +kernel
theorem d_MO_truth_10 : decode b_MO_truth 10 = .ok (.lload_n 0, 1) := by decide +kernel
theorem d_MO_truth_11 : decode b_MO_truth 11 = .ok (.bipush 22, 2) := by decide +kernel
theorem d_MO_truth_13 : decode b_MO_truth 13 = .ok (.invokestatic 178, 3) := by decide +kernel
theorem d_MO_truth_16 : decode b_MO_truth 16 = .ok (.lcmp, 1) := by decide +kernel
theorem d_MO_truth_17 : decode b_MO_truth 17 = .ok (.ifCond .ne 7, 3) := by decide +kernel
theorem d_MO_truth_20 : decode b_MO_truth 20 = .ok (.iconst 1, 1) := by decide +kernel
theorem d_MO_truth_21 : decode b_MO_truth 21 = .ok (.goto 4, 3) := by decide +kernel
theorem d_MO_truth_24 : decode b_MO_truth 24 = .ok (.iconst 0, 1) := by decide +kernel
theorem d_MO_truth_25 : decode b_MO_truth 25 = .ok (.ireturn, 1) := by decide +kernel
theorem d_MO_counted_0 : decode b_MO_counted 0 = .ok (.iload_n 1, 1) := by decide +kernel
theorem d_MO_counted_1 : decode b_MO_counted 1 = .ok (.bipush 14, 2) := by decide +kernel
theorem d_MO_counted_3 : decode b_MO_counted 3 = .ok (.if_icmp .ge 37, 3) := by decide +kernel
theorem d_MO_counted_6 : decode b_MO_counted 6 = .ok (.iconst 0, 1) := by decide +kernel
theorem d_MO_counted_7 : decode b_MO_counted 7 = .ok (.iload_n 1, 1) := by decide +kernel
theorem d_MO_counted_8 : decode b_MO_counted 8 = .ok (.bipush 11, 2) := by decide +kernel
theorem d_MO_counted_10 : decode b_MO_counted 10 = .ok (.if_icmp .ne 9, 3) := by decide +kernel
theorem d_MO_counted_13 : decode b_MO_counted 13 = .ok (.iload_n 2, 1) := by decide +kernel
theorem d_MO_counted_14 : decode b_MO_counted 14 = .ok (.iload_n 3, 1) := by decide +kernel
theorem d_MO_counted_15 : decode b_MO_counted 15 = .ok (.iadd, 1) := by decide +kernel
theorem d_MO_counted_16 : decode b_MO_counted 16 = .ok (.goto 18, 3) := by decide +kernel
theorem d_MO_counted_19 : decode b_MO_counted 19 = .ok (.iload_n 1, 1) := by decide +kernel
theorem d_MO_counted_20 : decode b_MO_counted 20 = .ok (.bipush 12, 2) := by decide +kernel
theorem d_MO_counted_22 : decode b_MO_counted 22 = .ok (.if_icmp .ne 9, 3) := by decide +kernel
theorem d_MO_counted_25 : decode b_MO_counted 25 = .ok (.iload_n 2, 1) := by decide +kernel
theorem d_MO_counted_26 : decode b_MO_counted 26 = .ok (.iload_n 3, 1) := by decide +kernel
theorem d_MO_counted_27 : decode b_MO_counted 27 = .ok (.isub, 1) := by decide +kernel
theorem d_MO_counted_28 : decode b_MO_counted 28 = .ok (.goto 6, 3) := by decide +kernel
theorem d_MO_counted_31 : decode b_MO_counted 31 = .ok (.iload_n 2, 1) := by decide +kernel
theorem d_MO_counted_32 : decode b_MO_counted 32 = .ok (.iload_n 3, 1) := by decide +kernel
theorem d_MO_counted_33 : decode b_MO_counted 33 = .ok (.imul, 1) := by decide +kernel
theorem d_MO_counted_34 : decode b_MO_counted 34 = .ok (.invokestatic 171, 3) := by decide +kernel
theorem d_MO_counted_37 : decode b_MO_counted 37 = .ok (.goto 32, 3) := by decide +kernel
theorem d_MO_counted_40 : decode b_MO_counted 40 = .ok (.iload_n 1, 1) := by decide +kernel
theorem d_MO_counted_41 : decode b_MO_counted 41 = .ok (.bipush 14, 2) := by decide +kernel
theorem d_MO_counted_43 : decode b_MO_counted 43 = .ok (.if_icmp .ne 11, 3) := by decide +kernel
theorem d_MO_counted_46 : decode b_MO_counted 46 = .ok (.iload_n 2, 1) := by decide +kernel
theorem d_MO_counted_47 : decode b_MO_counted 47 = .ok (.iload_n 3, 1) := by decide +kernel
theorem d_MO_counted_48 : decode b_MO_counted 48 = .ok (.if_icmp .ge 16, 3) := by decide +kernel
theorem d_MO_counted_51 : decode b_MO_counted 51 = .ok (.goto 8, 3) := by decide +kernel
theorem d_MO_counted_54 : decode b_MO_counted 54 = .ok (.iload_n 2, 1) := by decide +kernel
theorem d_MO_counted_55 : decode b_MO_counted 55 = .ok (.iload_n 3, 1) := by decide +kernel
theorem d_MO_counted_56 : decode b_MO_counted 56 = .ok (.if_icmp .ne 8, 3) := by decide +kernel
theorem d_MO_counted_59 : decode b_MO_counted 59 = .ok (.bipush 21, 2) := by decide +kernel
theorem d_MO_counted_61 : decode b_MO_counted 61 = .ok (.goto 5, 3) := by decide +kernel
theorem d_MO_counted_64 : decode b_MO_counted 64 = .ok (.bipush 22, 2) := by decide +kernel
theorem d_MO_counted_66 : decode b_MO_counted 66 = .ok (.invokestatic 178, 3) := by decide +kernel
theorem d_MO_counted_69 : decode b_MO_counted 69 = .ok (.lstore 4, 2) := by decide +kernel
theorem d_MO_counted_71 : decode b_MO_counted 71 = .ok (.aload_n 0, 1) := by decide +kernel
theorem d_MO_counted_72 : decode b_MO_counted 72 = .ok (.iconst 2, 1) := by decide +kernel
theorem d_MO_counted_73 : decode b_MO_counted 73 = .ok (.iconst 2, 1) := by decide +kernel
theorem d_MO_counted_74 : decode b_MO_counted 74 = .ok (.invokestatic 178, 3) := by decide +kernel
theorem d_MO_counted_77 : decode b_MO_counted 77 = .ok (.lload 4, 2) := by decide +kernel
theorem d_MO_counted_79 : decode b_MO_counted 79 = .ok (.invokevirtual 386, 3) := by decide +kernel
theorem d_MO_counted_82 : decode b_MO_counted 82 = .ok (.return_, 1) := by decide +kernel
theorem d_MO_goesOn_0 : decode b_MO_goesOn 0 = .ok (.aload_n 0, 1) := by decide +kernel
theorem d_MO_goesOn_1 : decode b_MO_goesOn 1 = .ok (.dup, 1) := by decide +kernel
theorem d_MO_goesOn_2 : decode b_MO_goesOn 2 = .ok (.getfield 348, 3) := by decide +kernel
theorem d_MO_goesOn_5 : decode b_MO_goesOn 5 = .ok (.iconst 1, 1) := by decide +kernel
theorem d_MO_goesOn_6 : decode b_MO_goesOn 6 = .ok (.isub, 1) := by decide +kernel
theorem d_MO_goesOn_7 : decode b_MO_goesOn 7 = .ok (.putfield 348, 3) := by decide +kernel
theorem d_MO_goesOn_10 : decode b_MO_goesOn 10 = .ok (.aload_n 0, 1) := by decide +kernel
theorem d_MO_goesOn_11 : decode b_MO_goesOn 11 = .ok (.aload_n 0, 1) := by decide +kernel
theorem d_MO_goesOn_12 : decode b_MO_goesOn 12 = .ok (.getfield 87, 3) := by decide +kernel
theorem d_MO_goesOn_15 : decode b_MO_goesOn 15 = .ok (.aload_n 0, 1) := by decide +kernel
theorem d_MO_goesOn_16 : decode b_MO_goesOn 16 = .ok (.getfield 348, 3) := by decide +kernel
theorem d_MO_goesOn_19 : decode b_MO_goesOn 19 = .ok (.iaload, 1) := by decide +kernel
theorem d_MO_goesOn_20 : decode b_MO_goesOn 20 = .ok (.putfield 342, 3) := by decide +kernel
theorem d_MO_goesOn_23 : decode b_MO_goesOn 23 = .ok (.aload_n 0, 1) := by decide +kernel
theorem d_MO_goesOn_24 : decode b_MO_goesOn 24 = .ok (.getfield 90, 3) := by decide +kernel
theorem d_MO_goesOn_27 : decode b_MO_goesOn 27 = .ok (.aload_n 0, 1) := by decide +kernel
theorem d_MO_goesOn_28 : decode b_MO_goesOn 28 = .ok (.getfield 348, 3) := by decide +kernel
theorem d_MO_goesOn_31 : decode b_MO_goesOn 31 = .ok (.iaload, 1) := by decide +kernel
theorem d_MO_goesOn_32 : decode b_MO_goesOn 32 = .ok (.istore 9, 2) := by decide +kernel
theorem d_MO_goesOn_34 : decode b_MO_goesOn 34 = .ok (.aload_n 0, 1) := by decide +kernel
theorem d_MO_goesOn_35 : decode b_MO_goesOn 35 = .ok (.lload_n 1, 1) := by decide +kernel
theorem d_MO_goesOn_36 : decode b_MO_goesOn 36 = .ok (.putfield 357, 3) := by decide +kernel
theorem d_MO_goesOn_39 : decode b_MO_goesOn 39 = .ok (.lload_n 1, 1) := by decide +kernel
theorem d_MO_goesOn_40 : decode b_MO_goesOn 40 = .ok (.invokestatic 186, 3) := by decide +kernel
theorem d_MO_goesOn_43 : decode b_MO_goesOn 43 = .ok (.ifCond .ne 16, 3) := by decide +kernel
theorem d_MO_goesOn_46 : decode b_MO_goesOn 46 = .ok (.iload_n 3, 1) := by decide +kernel
theorem d_MO_goesOn_47 : decode b_MO_goesOn 47 = .ok (.ifCond .ne 12, 3) := by decide +kernel
theorem d_MO_goesOn_50 : decode b_MO_goesOn 50 = .ok (.iload 8, 2) := by decide +kernel
theorem d_MO_goesOn_52 : decode b_MO_goesOn 52 = .ok (.ifCond .ne 7, 3) := by decide +kernel
theorem d_MO_goesOn_55 : decode b_MO_goesOn 55 = .ok (.iconst 1, 1) := by decide +kernel
theorem d_MO_goesOn_56 : decode b_MO_goesOn 56 = .ok (.goto 4, 3) := by decide +kernel
theorem d_MO_goesOn_59 : decode b_MO_goesOn 59 = .ok (.iconst 0, 1) := by decide +kernel
theorem d_MO_goesOn_60 : decode b_MO_goesOn 60 = .ok (.istore 10, 2) := by decide +kernel
theorem d_MO_goesOn_62 : decode b_MO_goesOn 62 = .ok (.iload 9, 2) := by decide +kernel
theorem d_MO_goesOn_64 : decode b_MO_goesOn 64 = .ok (.bipush 10, 2) := by decide +kernel
theorem d_MO_goesOn_66 : decode b_MO_goesOn 66 = .ok (.if_icmp .ne 54, 3) := by decide +kernel
theorem d_MO_goesOn_69 : decode b_MO_goesOn 69 = .ok (.lload_n 1, 1) := by decide +kernel
theorem d_MO_goesOn_70 : decode b_MO_goesOn 70 = .ok (.invokestatic 393, 3) := by decide +kernel
theorem d_MO_goesOn_73 : decode b_MO_goesOn 73 = .ok (.ifCond .eq 8, 3) := by decide +kernel
theorem d_MO_goesOn_76 : decode b_MO_goesOn 76 = .ok (.iload 8, 2) := by decide +kernel
theorem d_MO_goesOn_78 : decode b_MO_goesOn 78 = .ok (.ifCond .eq 11, 3) := by decide +kernel
theorem d_MO_goesOn_81 : decode b_MO_goesOn 81 = .ok (.aload_n 0, 1) := by decide +kernel
theorem d_MO_goesOn_82 : decode b_MO_goesOn 82 = .ok (.iconst 2, 1) := by decide +kernel
theorem d_MO_goesOn_83 : decode b_MO_goesOn 83 = .ok (.putfield 354, 3) := by decide +kernel
theorem d_MO_goesOn_86 : decode b_MO_goesOn 86 = .ok (.goto 204, 3) := by decide +kernel
theorem d_MO_goesOn_89 : decode b_MO_goesOn 89 = .ok (.aload_n 0, 1) := by decide +kernel
theorem d_MO_goesOn_90 : decode b_MO_goesOn 90 = .ok (.iconst 3, 1) := by decide +kernel
theorem d_MO_goesOn_91 : decode b_MO_goesOn 91 = .ok (.iconst 2, 1) := by decide +kernel
theorem d_MO_goesOn_92 : decode b_MO_goesOn 92 = .ok (.invokestatic 178, 3) := by decide +kernel
theorem d_MO_goesOn_95 : decode b_MO_goesOn 95 = .ok (.aload_n 0, 1) := by decide +kernel
theorem d_MO_goesOn_96 : decode b_MO_goesOn 96 = .ok (.lload_n 1, 1) := by decide +kernel
theorem d_MO_goesOn_97 : decode b_MO_goesOn 97 = .ok (.bipush 21, 2) := by decide +kernel
theorem d_MO_goesOn_99 : decode b_MO_goesOn 99 = .ok (.invokestatic 178, 3) := by decide +kernel
theorem d_MO_goesOn_102 : decode b_MO_goesOn 102 = .ok (.lcmp, 1) := by decide +kernel
theorem d_MO_goesOn_103 : decode b_MO_goesOn 103 = .ok (.ifCond .ne 7, 3) := by decide +kernel
theorem d_MO_goesOn_106 : decode b_MO_goesOn 106 = .ok (.iconst 1, 1) := by decide +kernel
theorem d_MO_goesOn_107 : decode b_MO_goesOn 107 = .ok (.goto 4, 3) := by decide +kernel
theorem d_MO_goesOn_110 : decode b_MO_goesOn 110 = .ok (.iconst 2, 1) := by decide +kernel
theorem d_MO_goesOn_111 : decode b_MO_goesOn 111 = .ok (.invokevirtual 377, 3) := by decide +kernel
theorem d_MO_goesOn_114 : decode b_MO_goesOn 114 = .ok (.invokevirtual 386, 3) := by decide +kernel
theorem d_MO_goesOn_117 : decode b_MO_goesOn 117 = .ok (.goto 173, 3) := by decide +kernel
theorem d_MO_goesOn_120 : decode b_MO_goesOn 120 = .ok (.iload 9, 2) := by decide +kernel
theorem d_MO_goesOn_122 : decode b_MO_goesOn 122 = .ok (.bipush 18, 2) := by decide +kernel
theorem d_MO_goesOn_124 : decode b_MO_goesOn 124 = .ok (.if_icmp .eq 10, 3) := by decide +kernel
theorem d_MO_goesOn_127 : decode b_MO_goesOn 127 = .ok (.iload 9, 2) := by decide +kernel
theorem d_MO_goesOn_129 : decode b_MO_goesOn 129 = .ok (.bipush 19, 2) := by decide +kernel
theorem d_MO_goesOn_131 : decode b_MO_goesOn 131 = .ok (.if_icmp .ne 41, 3) := by decide +kernel
theorem d_MO_goesOn_134 : decode b_MO_goesOn 134 = .ok (.iload_n 3, 1) := by decide +kernel
theorem d_MO_goesOn_135 : decode b_MO_goesOn 135 = .ok (.ifCond .ne 11, 3) := by decide +kernel
theorem d_MO_goesOn_138 : decode b_MO_goesOn 138 = .ok (.aload_n 0, 1) := by decide +kernel
theorem d_MO_goesOn_139 : decode b_MO_goesOn 139 = .ok (.iconst 2, 1) := by decide +kernel
theorem d_MO_goesOn_140 : decode b_MO_goesOn 140 = .ok (.putfield 354, 3) := by decide +kernel
theorem d_MO_goesOn_143 : decode b_MO_goesOn 143 = .ok (.goto 147, 3) := by decide +kernel
theorem d_MO_goesOn_146 : decode b_MO_goesOn 146 = .ok (.aload_n 0, 1) := by decide +kernel
theorem d_MO_goesOn_147 : decode b_MO_goesOn 147 = .ok (.iconst 1, 1) := by decide +kernel
theorem d_MO_goesOn_148 : decode b_MO_goesOn 148 = .ok (.iconst 2, 1) := by decide +kernel
theorem d_MO_goesOn_149 : decode b_MO_goesOn 149 = .ok (.invokestatic 178, 3) := by decide +kernel
theorem d_MO_goesOn_152 : decode b_MO_goesOn 152 = .ok (.iload 9, 2) := by decide +kernel
theorem d_MO_goesOn_154 : decode b_MO_goesOn 154 = .ok (.bipush 18, 2) := by decide +kernel
theorem d_MO_goesOn_156 : decode b_MO_goesOn 156 = .ok (.if_icmp .ne 8, 3) := by decide +kernel
theorem d_MO_goesOn_159 : decode b_MO_goesOn 159 = .ok (.lload 4, 2) := by decide +kernel
theorem d_MO_goesOn_161 : decode b_MO_goesOn 161 = .ok (.goto 5, 3) := by decide +kernel
theorem d_MO_goesOn_164 : decode b_MO_goesOn 164 = .ok (.lload 6, 2) := by decide +kernel
theorem d_MO_goesOn_166 : decode b_MO_goesOn 166 = .ok (.invokevirtual 386, 3) := by decide +kernel
theorem d_MO_goesOn_169 : decode b_MO_goesOn 169 = .ok (.goto 121, 3) := by decide +kernel
theorem d_MO_goesOn_172 : decode b_MO_goesOn 172 = .ok (.iload 9, 2) := by decide +kernel
theorem d_MO_goesOn_174 : decode b_MO_goesOn 174 = .ok (.bipush 20, 2) := by decide +kernel
theorem d_MO_goesOn_176 : decode b_MO_goesOn 176 = .ok (.if_icmp .ne 51, 3) := by decide +kernel
theorem d_MO_goesOn_179 : decode b_MO_goesOn 179 = .ok (.iload_n 3, 1) := by decide +kernel
theorem d_MO_goesOn_180 : decode b_MO_goesOn 180 = .ok (.ifCond .ne 21, 3) := by decide +kernel
theorem d_MO_goesOn_183 : decode b_MO_goesOn 183 = .ok (.lload_n 1, 1) := by decide +kernel
theorem d_MO_goesOn_184 : decode b_MO_goesOn 184 = .ok (.bipush 17, 2) := by decide +kernel
theorem d_MO_goesOn_186 : decode b_MO_goesOn 186 = .ok (.invokestatic 178, 3) := by decide +kernel
theorem d_MO_goesOn_189 : decode b_MO_goesOn 189 = .ok (.lcmp, 1) := by decide +kernel
theorem d_MO_goesOn_190 : decode b_MO_goesOn 190 = .ok (.ifCond .eq 11, 3) := by decide +kernel
theorem d_MO_goesOn_193 : decode b_MO_goesOn 193 = .ok (.aload_n 0, 1) := by decide +kernel
theorem d_MO_goesOn_194 : decode b_MO_goesOn 194 = .ok (.iconst 2, 1) := by decide +kernel
theorem d_MO_goesOn_195 : decode b_MO_goesOn 195 = .ok (.putfield 354, 3) := by decide +kernel
theorem d_MO_goesOn_198 : decode b_MO_goesOn 198 = .ok (.goto 92, 3) := by decide +kernel
theorem d_MO_goesOn_201 : decode b_MO_goesOn 201 = .ok (.aload_n 0, 1) := by decide +kernel
theorem d_MO_goesOn_202 : decode b_MO_goesOn 202 = .ok (.iconst 1, 1) := by decide +kernel
theorem d_MO_goesOn_203 : decode b_MO_goesOn 203 = .ok (.iconst 2, 1) := by decide +kernel
theorem d_MO_goesOn_204 : decode b_MO_goesOn 204 = .ok (.invokestatic 178, 3) := by decide +kernel
theorem d_MO_goesOn_207 : decode b_MO_goesOn 207 = .ok (.iload_n 3, 1) := by decide +kernel
theorem d_MO_goesOn_208 : decode b_MO_goesOn 208 = .ok (.ifCond .eq 8, 3) := by decide +kernel
theorem d_MO_goesOn_211 : decode b_MO_goesOn 211 = .ok (.bipush 22, 2) := by decide +kernel
theorem d_MO_goesOn_213 : decode b_MO_goesOn 213 = .ok (.goto 5, 3) := by decide +kernel
theorem d_MO_goesOn_216 : decode b_MO_goesOn 216 = .ok (.bipush 21, 2) := by decide +kernel
theorem d_MO_goesOn_218 : decode b_MO_goesOn 218 = .ok (.invokestatic 178, 3) := by decide +kernel
theorem d_MO_goesOn_221 : decode b_MO_goesOn 221 = .ok (.invokevirtual 386, 3) := by decide +kernel
theorem d_MO_goesOn_224 : decode b_MO_goesOn 224 = .ok (.goto 66, 3) := by decide +kernel
theorem d_MO_goesOn_227 : decode b_MO_goesOn 227 = .ok (.iload 10, 2) := by decide +kernel
theorem d_MO_goesOn_229 : decode b_MO_goesOn 229 = .ok (.ifCond .ne 11, 3) := by decide +kernel
theorem d_MO_goesOn_232 : decode b_MO_goesOn 232 = .ok (.aload_n 0, 1) := by decide +kernel
theorem d_MO_goesOn_233 : decode b_MO_goesOn 233 = .ok (.iconst 2, 1) := by decide +kernel
theorem d_MO_goesOn_234 : decode b_MO_goesOn 234 = .ok (.putfield 354, 3) := by decide +kernel
theorem d_MO_goesOn_237 : decode b_MO_goesOn 237 = .ok (.goto 53, 3) := by decide +kernel
theorem d_MO_goesOn_240 : decode b_MO_goesOn 240 = .ok (.aload_n 0, 1) := by decide +kernel
theorem d_MO_goesOn_241 : decode b_MO_goesOn 241 = .ok (.getfield 93, 3) := by decide +kernel
theorem d_MO_goesOn_244 : decode b_MO_goesOn 244 = .ok (.aload_n 0, 1) := by decide +kernel
theorem d_MO_goesOn_245 : decode b_MO_goesOn 245 = .ok (.getfield 348, 3) := by decide +kernel
theorem d_MO_goesOn_248 : decode b_MO_goesOn 248 = .ok (.baload, 1) := by decide +kernel
theorem d_MO_goesOn_249 : decode b_MO_goesOn 249 = .ok (.ifCond .eq 25, 3) := by decide +kernel
theorem d_MO_goesOn_252 : decode b_MO_goesOn 252 = .ok (.aload_n 0, 1) := by decide +kernel
theorem d_MO_goesOn_253 : decode b_MO_goesOn 253 = .ok (.iload 9, 2) := by decide +kernel
theorem d_MO_goesOn_255 : decode b_MO_goesOn 255 = .ok (.aload_n 0, 1) := by decide +kernel
theorem d_MO_goesOn_256 : decode b_MO_goesOn 256 = .ok (.getfield 96, 3) := by decide +kernel
theorem d_MO_goesOn_259 : decode b_MO_goesOn 259 = .ok (.aload_n 0, 1) := by decide +kernel
theorem d_MO_goesOn_260 : decode b_MO_goesOn 260 = .ok (.getfield 348, 3) := by decide +kernel
theorem d_MO_goesOn_263 : decode b_MO_goesOn 263 = .ok (.iaload, 1) := by decide +kernel
theorem d_MO_goesOn_264 : decode b_MO_goesOn 264 = .ok (.lload_n 1, 1) := by decide +kernel
theorem d_MO_goesOn_265 : decode b_MO_goesOn 265 = .ok (.invokestatic 182, 3) := by decide +kernel
theorem d_MO_goesOn_268 : decode b_MO_goesOn 268 = .ok (.invokevirtual 396, 3) := by decide +kernel
theorem d_MO_goesOn_271 : decode b_MO_goesOn 271 = .ok (.goto 19, 3) := by decide +kernel
theorem d_MO_goesOn_274 : decode b_MO_goesOn 274 = .ok (.aload_n 0, 1) := by decide +kernel
theorem d_MO_goesOn_275 : decode b_MO_goesOn 275 = .ok (.iload 9, 2) := by decide +kernel
theorem d_MO_goesOn_277 : decode b_MO_goesOn 277 = .ok (.aload_n 0, 1) := by decide +kernel
theorem d_MO_goesOn_278 : decode b_MO_goesOn 278 = .ok (.iconst 1, 1) := by decide +kernel
theorem d_MO_goesOn_279 : decode b_MO_goesOn 279 = .ok (.invokevirtual 377, 3) := by decide +kernel
theorem d_MO_goesOn_282 : decode b_MO_goesOn 282 = .ok (.iconst 1, 1) := by decide +kernel
theorem d_MO_goesOn_283 : decode b_MO_goesOn 283 = .ok (.lload_n 1, 1) := by decide +kernel
theorem d_MO_goesOn_284 : decode b_MO_goesOn 284 = .ok (.invokestatic 182, 3) := by decide +kernel
theorem d_MO_goesOn_287 : decode b_MO_goesOn 287 = .ok (.invokevirtual 400, 3) := by decide +kernel
theorem d_MO_goesOn_290 : decode b_MO_goesOn 290 = .ok (.return_, 1) := by decide +kernel
theorem d_MO_letterOut_0 : decode b_MO_letterOut 0 = .ok (.aload_n 0, 1) := by decide +kernel
theorem d_MO_letterOut_1 : decode b_MO_letterOut 1 = .ok (.getfield 364, 3) := by decide +kernel
theorem d_MO_letterOut_4 : decode b_MO_letterOut 4 = .ok (.sipush 200, 3) := by decide +kernel
theorem d_MO_letterOut_7 : decode b_MO_letterOut 7 = .ok (.if_icmp .ge 13, 3) := by decide +kernel
theorem d_MO_letterOut_10 : decode b_MO_letterOut 10 = .ok (.aload_n 0, 1) := by decide +kernel
theorem d_MO_letterOut_11 : decode b_MO_letterOut 11 = .ok (.getfield 99, 3) := by decide +kernel
theorem d_MO_letterOut_14 : decode b_MO_letterOut 14 = .ok (.aload_n 0, 1) := by decide +kernel
theorem d_MO_letterOut_15 : decode b_MO_letterOut 15 = .ok (.getfield 364, 3) := by decide +kernel
theorem d_MO_letterOut_18 : decode b_MO_letterOut 18 = .ok (.iload_n 1, 1) := by decide +kernel
theorem d_MO_letterOut_19 : decode b_MO_letterOut 19 = .ok (.iastore, 1) := by decide +kernel
theorem d_MO_letterOut_20 : decode b_MO_letterOut 20 = .ok (.aload_n 0, 1) := by decide +kernel
theorem d_MO_letterOut_21 : decode b_MO_letterOut 21 = .ok (.dup, 1) := by decide +kernel
theorem d_MO_letterOut_22 : decode b_MO_letterOut 22 = .ok (.getfield 364, 3) := by decide +kernel
theorem d_MO_letterOut_25 : decode b_MO_letterOut 25 = .ok (.iconst 1, 1) := by decide +kernel
