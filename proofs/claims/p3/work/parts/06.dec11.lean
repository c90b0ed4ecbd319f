theorem d_MO_combined_82 : decode b_MO_combined 82 = .ok (.goto 4, 3) := by decide +kernel
theorem d_MO_combined_85 : decode b_MO_combined 85 = .ok (.iconst 0, 1) := by decide +kernel
theorem d_MO_combined_86 : decode b_MO_combined 86 = .ok (.istore 11, 2) := by decide +kernel
theorem d_MO_combined_88 : decode b_MO_combined 88 = .ok (.iload 5, 2) := by decide +kernel
theorem d_MO_combined_90 : decode b_MO_combined 90 = .ok (.ifCond .eq 8, 3) := by decide +kernel
theorem d_MO_combined_93 : decode b_MO_combined 93 = .ok (.aload_n 0, 1) := by decide +kernel
theorem d_MO_combined_94 : decode b_MO_combined 94 = .ok (.lload_n 1, 1) := by decide +kernel
theorem d_MO_combined_95 : decode b_MO_combined 95 = .ok (.invokevirtual 201, 3) := by decide +kernel
theorem d_MO_combined_98 : decode b_MO_combined 98 = .ok (.iload 6, 2) := by decide +kernel
theorem d_MO_combined_100 : decode b_MO_combined 100 = .ok (.ifCond .eq 18, 3) := by decide +kernel
theorem d_MO_combined_103 : decode b_MO_combined 103 = .ok (.iload 5, 2) := by decide +kernel
theorem d_MO_combined_105 : decode b_MO_combined 105 = .ok (.ifCond .ne 8, 3) := by decide +kernel
theorem d_MO_combined_108 : decode b_MO_combined 108 = .ok (.iload 11, 2) := by decide +kernel
theorem d_MO_combined_110 : decode b_MO_combined 110 = .ok (.ifCond .eq 8, 3) := by decide +kernel
theorem d_MO_combined_113 : decode b_MO_combined 113 = .ok (.aload_n 0, 1) := by decide +kernel
theorem d_MO_combined_114 : decode b_MO_combined 114 = .ok (.lload_n 3, 1) := by decide +kernel
theorem d_MO_combined_115 : decode b_MO_combined 115 = .ok (.invokevirtual 201, 3) := by decide +kernel
theorem d_MO_combined_118 : decode b_MO_combined 118 = .ok (.iload 5, 2) := by decide +kernel
theorem d_MO_combined_120 : decode b_MO_combined 120 = .ok (.ifCond .eq 25, 3) := by decide +kernel
theorem d_MO_combined_123 : decode b_MO_combined 123 = .ok (.iload 6, 2) := by decide +kernel
theorem d_MO_combined_125 : decode b_MO_combined 125 = .ok (.ifCond .eq 20, 3) := by decide +kernel
theorem d_MO_combined_128 : decode b_MO_combined 128 = .ok (.aload_n 0, 1) := by decide +kernel
theorem d_MO_combined_129 : decode b_MO_combined 129 = .ok (.iconst 3, 1) := by decide +kernel
theorem d_MO_combined_130 : decode b_MO_combined 130 = .ok (.invokestatic 178, 3) := by decide +kernel
theorem d_MO_combined_133 : decode b_MO_combined 133 = .ok (.aload_n 0, 1) := by decide +kernel
theorem d_MO_combined_134 : decode b_MO_combined 134 = .ok (.lload 7, 2) := by decide +kernel
theorem d_MO_combined_136 : decode b_MO_combined 136 = .ok (.lload 9, 2) := by decide +kernel
theorem d_MO_combined_138 : decode b_MO_combined 138 = .ok (.invokevirtual 193, 3) := by decide +kernel
theorem d_MO_combined_141 : decode b_MO_combined 141 = .ok (.invokevirtual 193, 3) := by decide +kernel
theorem d_MO_combined_144 : decode b_MO_combined 144 = .ok (.lreturn, 1) := by decide +kernel
theorem d_MO_combined_145 : decode b_MO_combined 145 = .ok (.iload 5, 2) := by decide +kernel
theorem d_MO_combined_147 : decode b_MO_combined 147 = .ok (.ifCond .eq 15, 3) := by decide +kernel
theorem d_MO_combined_150 : decode b_MO_combined 150 = .ok (.lload_n 3, 1) := by decide +kernel
theorem d_MO_combined_151 : decode b_MO_combined 151 = .ok (.iconst 2, 1) := by decide +kernel
theorem d_MO_combined_152 : decode b_MO_combined 152 = .ok (.invokestatic 178, 3) := by decide +kernel
theorem d_MO_combined_155 : decode b_MO_combined 155 = .ok (.lcmp, 1) := by decide +kernel
theorem d_MO_combined_156 : decode b_MO_combined 156 = .ok (.ifCond .ne 6, 3) := by decide +kernel
theorem d_MO_combined_159 : decode b_MO_combined 159 = .ok (.lload 7, 2) := by decide +kernel
theorem d_MO_combined_161 : decode b_MO_combined 161 = .ok (.lreturn, 1) := by decide +kernel
theorem d_MO_combined_162 : decode b_MO_combined 162 = .ok (.iload 5, 2) := by decide +kernel
theorem d_MO_combined_164 : decode b_MO_combined 164 = .ok (.ifCond .eq 65, 3) := by decide +kernel
theorem d_MO_combined_167 : decode b_MO_combined 167 = .ok (.lload 7, 2) := by decide +kernel
theorem d_MO_combined_169 : decode b_MO_combined 169 = .ok (.invokestatic 186, 3) := by decide +kernel
theorem d_MO_combined_172 : decode b_MO_combined 172 = .ok (.iconst 3, 1) := by decide +kernel
theorem d_MO_combined_173 : decode b_MO_combined 173 = .ok (.if_icmp .ne 56, 3) := by decide +kernel
theorem d_MO_combined_176 : decode b_MO_combined 176 = .ok (.aload_n 0, 1) := by decide +kernel
theorem d_MO_combined_177 : decode b_MO_combined 177 = .ok (.getfield 20, 3) := by decide +kernel
theorem d_MO_combined_180 : decode b_MO_combined 180 = .ok (.lload 7, 2) := by decide +kernel
theorem d_MO_combined_182 : decode b_MO_combined 182 = .ok (.invokestatic 182, 3) := by decide +kernel
theorem d_MO_combined_185 : decode b_MO_combined 185 = .ok (.laload, 1) := by decide +kernel
theorem d_MO_combined_186 : decode b_MO_combined 186 = .ok (.lstore 12, 2) := by decide +kernel
theorem d_MO_combined_188 : decode b_MO_combined 188 = .ok (.aload_n 0, 1) := by decide +kernel
theorem d_MO_combined_189 : decode b_MO_combined 189 = .ok (.getfield 23, 3) := by decide +kernel
theorem d_MO_combined_192 : decode b_MO_combined 192 = .ok (.lload 7, 2) := by decide +kernel
theorem d_MO_combined_194 : decode b_MO_combined 194 = .ok (.invokestatic 182, 3) := by decide +kernel
theorem d_MO_combined_197 : decode b_MO_combined 197 = .ok (.laload, 1) := by decide +kernel
theorem d_MO_combined_198 : decode b_MO_combined 198 = .ok (.lstore 14, 2) := by decide +kernel
theorem d_MO_combined_200 : decode b_MO_combined 200 = .ok (.aload_n 0, 1) := by decide +kernel
theorem d_MO_combined_201 : decode b_MO_combined 201 = .ok (.lload 7, 2) := by decide +kernel
theorem d_MO_combined_203 : decode b_MO_combined 203 = .ok (.invokevirtual 201, 3) := by decide +kernel
theorem d_MO_combined_206 : decode b_MO_combined 206 = .ok (.aload_n 0, 1) := by decide +kernel
theorem d_MO_combined_207 : decode b_MO_combined 207 = .ok (.aload_n 0, 1) := by decide +kernel
theorem d_MO_combined_208 : decode b_MO_combined 208 = .ok (.aload_n 0, 1) := by decide +kernel
theorem d_MO_combined_209 : decode b_MO_combined 209 = .ok (.bipush 8, 2) := by decide +kernel
theorem d_MO_combined_211 : decode b_MO_combined 211 = .ok (.invokestatic 178, 3) := by decide +kernel
theorem d_MO_combined_214 : decode b_MO_combined 214 = .ok (.lload 12, 2) := by decide +kernel
theorem d_MO_combined_216 : decode b_MO_combined 216 = .ok (.invokevirtual 193, 3) := by decide +kernel
theorem d_MO_combined_219 : decode b_MO_combined 219 = .ok (.lload 14, 2) := by decide +kernel
theorem d_MO_combined_221 : decode b_MO_combined 221 = .ok (.invokevirtual 193, 3) := by decide +kernel
theorem d_MO_combined_224 : decode b_MO_combined 224 = .ok (.lload_n 3, 1) := by decide +kernel
theorem d_MO_combined_225 : decode b_MO_combined 225 = .ok (.invokevirtual 193, 3) := by decide +kernel
theorem d_MO_combined_228 : decode b_MO_combined 228 = .ok (.lreturn, 1) := by decide +kernel
theorem d_MO_combined_229 : decode b_MO_combined 229 = .ok (.iload 5, 2) := by decide +kernel
theorem d_MO_combined_231 : decode b_MO_combined 231 = .ok (.ifCond .eq 19, 3) := by decide +kernel
theorem d_MO_combined_234 : decode b_MO_combined 234 = .ok (.aload_n 0, 1) := by decide +kernel
theorem d_MO_combined_235 : decode b_MO_combined 235 = .ok (.aload_n 0, 1) := by decide +kernel
theorem d_MO_combined_236 : decode b_MO_combined 236 = .ok (.iconst 5, 1) := by decide +kernel
theorem d_MO_combined_237 : decode b_MO_combined 237 = .ok (.invokestatic 178, 3) := by decide +kernel
theorem d_MO_combined_240 : decode b_MO_combined 240 = .ok (.lload 7, 2) := by decide +kernel
theorem d_MO_combined_242 : decode b_MO_combined 242 = .ok (.invokevirtual 193, 3) := by decide +kernel
theorem d_MO_combined_245 : decode b_MO_combined 245 = .ok (.lload_n 3, 1) := by decide +kernel
theorem d_MO_combined_246 : decode b_MO_combined 246 = .ok (.invokevirtual 193, 3) := by decide +kernel
theorem d_MO_combined_249 : decode b_MO_combined 249 = .ok (.lreturn, 1) := by decide +kernel
theorem d_MO_combined_250 : decode b_MO_combined 250 = .ok (.iload 11, 2) := by decide +kernel
theorem d_MO_combined_252 : decode b_MO_combined 252 = .ok (.ifCond .ne 52, 3) := by decide +kernel
theorem d_MO_combined_255 : decode b_MO_combined 255 = .ok (.iload 6, 2) := by decide +kernel
theorem d_MO_combined_257 : decode b_MO_combined 257 = .ok (.ifCond .eq 8, 3) := by decide +kernel
theorem d_MO_combined_260 : decode b_MO_combined 260 = .ok (.aload_n 0, 1) := by decide +kernel
theorem d_MO_combined_261 : decode b_MO_combined 261 = .ok (.lload_n 3, 1) := by decide +kernel
theorem d_MO_combined_262 : decode b_MO_combined 262 = .ok (.invokevirtual 201, 3) := by decide +kernel
theorem d_MO_combined_265 : decode b_MO_combined 265 = .ok (.iload 6, 2) := by decide +kernel
theorem d_MO_combined_267 : decode b_MO_combined 267 = .ok (.ifCond .eq 22, 3) := by decide +kernel
theorem d_MO_combined_270 : decode b_MO_combined 270 = .ok (.aload_n 0, 1) := by decide +kernel
theorem d_MO_combined_271 : decode b_MO_combined 271 = .ok (.aload_n 0, 1) := by decide +kernel
theorem d_MO_combined_272 : decode b_MO_combined 272 = .ok (.bipush 6, 2) := by decide +kernel
theorem d_MO_combined_274 : decode b_MO_combined 274 = .ok (.invokestatic 178, 3) := by decide +kernel
theorem d_MO_combined_277 : decode b_MO_combined 277 = .ok (.lload_n 1, 1) := by decide +kernel
theorem d_MO_combined_278 : decode b_MO_combined 278 = .ok (.invokevirtual 193, 3) := by decide +kernel
theorem d_MO_combined_281 : decode b_MO_combined 281 = .ok (.lload 9, 2) := by decide +kernel
theorem d_MO_combined_283 : decode b_MO_combined 283 = .ok (.invokevirtual 193, 3) := by decide +kernel
theorem d_MO_combined_286 : decode b_MO_combined 286 = .ok (.goto 17, 3) := by decide +kernel
theorem d_MO_combined_289 : decode b_MO_combined 289 = .ok (.aload_n 0, 1) := by decide +kernel
theorem d_MO_combined_290 : decode b_MO_combined 290 = .ok (.aload_n 0, 1) := by decide +kernel
theorem d_MO_combined_291 : decode b_MO_combined 291 = .ok (.iconst 4, 1) := by decide +kernel
theorem d_MO_combined_292 : decode b_MO_combined 292 = .ok (.invokestatic 178, 3) := by decide +kernel
theorem d_MO_combined_295 : decode b_MO_combined 295 = .ok (.lload_n 1, 1) := by decide +kernel
theorem d_MO_combined_296 : decode b_MO_combined 296 = .ok (.invokevirtual 193, 3) := by decide +kernel
theorem d_MO_combined_299 : decode b_MO_combined 299 = .ok (.lload_n 3, 1) := by decide +kernel
theorem d_MO_combined_300 : decode b_MO_combined 300 = .ok (.invokevirtual 193, 3) := by decide +kernel
theorem d_MO_combined_303 : decode b_MO_combined 303 = .ok (.lreturn, 1) := by decide +kernel
theorem d_MO_combined_304 : decode b_MO_combined 304 = .ok (.aload_n 0, 1) := by decide +kernel
theorem d_MO_combined_305 : decode b_MO_combined 305 = .ok (.getfield 23, 3) := by decide +kernel
theorem d_MO_combined_308 : decode b_MO_combined 308 = .ok (.aload_n 0, 1) := by decide +kernel
theorem d_MO_combined_309 : decode b_MO_combined 309 = .ok (.getfield 20, 3) := by decide +kernel
theorem d_MO_combined_312 : decode b_MO_combined 312 = .ok (.lload_n 1, 1) := by decide +kernel
theorem d_MO_combined_313 : decode b_MO_combined 313 = .ok (.invokestatic 182, 3) := by decide +kernel
theorem d_MO_combined_316 : decode b_MO_combined 316 = .ok (.laload, 1) := by decide +kernel
theorem d_MO_combined_317 : decode b_MO_combined 317 = .ok (.invokestatic 182, 3) := by decide +kernel
theorem d_MO_combined_320 : decode b_MO_combined 320 = .ok (.laload, 1) := by decide +kernel
theorem d_MO_combined_321 : decode b_MO_combined 321 = .ok (.lstore 12, 2) := by decide +kernel
theorem d_MO_combined_323 : decode b_MO_combined 323 = .ok (.aload_n 0, 1) := by decide +kernel
theorem d_MO_combined_324 : decode b_MO_combined 324 = .ok (.getfield 23, 3) := by decide +kernel
theorem d_MO_combined_327 : decode b_MO_combined 327 = .ok (.lload_n 1, 1) := by decide +kernel
theorem d_MO_combined_328 : decode b_MO_combined 328 = .ok (.invokestatic 182, 3) := by decide +kernel
theorem d_MO_combined_331 : decode b_MO_combined 331 = .ok (.laload, 1) := by decide +kernel
theorem d_MO_combined_332 : decode b_MO_combined 332 = .ok (.lstore 14, 2) := by decide +kernel
theorem d_MO_combined_334 : decode b_MO_combined 334 = .ok (.aload_n 0, 1) := by decide +kernel
theorem d_MO_combined_335 : decode b_MO_combined 335 = .ok (.aload_n 0, 1) := by decide +kernel
theorem d_MO_combined_336 : decode b_MO_combined 336 = .ok (.getfield 20, 3) := by decide +kernel
theorem d_MO_combined_339 : decode b_MO_combined 339 = .ok (.lload_n 1, 1) := by decide +kernel
theorem d_MO_combined_340 : decode b_MO_combined 340 = .ok (.invokestatic 182, 3) := by decide +kernel
theorem d_MO_combined_343 : decode b_MO_combined 343 = .ok (.laload, 1) := by decide +kernel
theorem d_MO_combined_344 : decode b_MO_combined 344 = .ok (.invokevirtual 201, 3) := by decide +kernel
theorem d_MO_combined_347 : decode b_MO_combined 347 = .ok (.aload_n 0, 1) := by decide +kernel
theorem d_MO_combined_348 : decode b_MO_combined 348 = .ok (.lload_n 1, 1) := by decide +kernel
theorem d_MO_combined_349 : decode b_MO_combined 349 = .ok (.invokevirtual 201, 3) := by decide +kernel
theorem d_MO_combined_352 : decode b_MO_combined 352 = .ok (.aload_n 0, 1) := by decide +kernel
theorem d_MO_combined_353 : decode b_MO_combined 353 = .ok (.aload_n 0, 1) := by decide +kernel
theorem d_MO_combined_354 : decode b_MO_combined 354 = .ok (.aload_n 0, 1) := by decide +kernel
theorem d_MO_combined_355 : decode b_MO_combined 355 = .ok (.iload 6, 2) := by decide +kernel
theorem d_MO_combined_357 : decode b_MO_combined 357 = .ok (.ifCond .eq 8, 3) := by decide +kernel
theorem d_MO_combined_360 : decode b_MO_combined 360 = .ok (.bipush 9, 2) := by decide +kernel
theorem d_MO_combined_362 : decode b_MO_combined 362 = .ok (.goto 5, 3) := by decide +kernel
theorem d_MO_combined_365 : decode b_MO_combined 365 = .ok (.bipush 7, 2) := by decide +kernel
theorem d_MO_combined_367 : decode b_MO_combined 367 = .ok (.invokestatic 178, 3) := by decide +kernel
theorem d_MO_combined_370 : decode b_MO_combined 370 = .ok (.lload 12, 2) := by decide +kernel
theorem d_MO_combined_372 : decode b_MO_combined 372 = .ok (.invokevirtual 193, 3) := by decide +kernel
theorem d_MO_combined_375 : decode b_MO_combined 375 = .ok (.lload 14, 2) := by decide +kernel
theorem d_MO_combined_377 : decode b_MO_combined 377 = .ok (.invokevirtual 193, 3) := by decide +kernel
theorem d_MO_combined_380 : decode b_MO_combined 380 = .ok (.iload 6, 2) := by decide +kernel
theorem d_MO_combined_382 : decode b_MO_combined 382 = .ok (.ifCond .eq 8, 3) := by decide +kernel
theorem d_MO_combined_385 : decode b_MO_combined 385 = .ok (.lload 9, 2) := by decide +kernel
theorem d_MO_combined_387 : decode b_MO_combined 387 = .ok (.goto 4, 3) := by decide +kernel
theorem d_MO_combined_390 : decode b_MO_combined 390 = .ok (.lload_n 3, 1) := by decide +kernel
theorem d_MO_combined_391 : decode b_MO_combined 391 = .ok (.invokevirtual 193, 3) := by decide +kernel
theorem d_MO_combined_394 : decode b_MO_combined 394 = .ok (.lreturn, 1) := by decide +kernel
theorem d_MO_without_0 : decode b_MO_without 0 = .ok (.lload_n 1, 1) := by decide +kernel
theorem d_MO_without_1 : decode b_MO_without 1 = .ok (.lload_n 3, 1) := by decide +kernel
theorem d_MO_without_2 : decode b_MO_without 2 = .ok (.lcmp, 1) := by decide +kernel
theorem d_MO_without_3 : decode b_MO_without 3 = .ok (.ifCond .ne 8, 3) := by decide +kernel
theorem d_MO_without_6 : decode b_MO_without 6 = .ok (.iconst 2, 1) := by decide +kernel
theorem d_MO_without_7 : decode b_MO_without 7 = .ok (.invokestatic 178, 3) := by decide +kernel
theorem d_MO_without_10 : decode b_MO_without 10 = .ok (.lreturn, 1) := by decide +kernel
theorem d_MO_without_11 : decode b_MO_without 11 = .ok (.aload_n 0, 1) := by decide +kernel
theorem d_MO_without_12 : decode b_MO_without 12 = .ok (.lload_n 1, 1) := by decide +kernel
theorem d_MO_without_13 : decode b_MO_without 13 = .ok (.invokevirtual 205, 3) := by decide +kernel
theorem d_MO_without_16 : decode b_MO_without 16 = .ok (.istore 5, 2) := by decide +kernel
theorem d_MO_without_18 : decode b_MO_without 18 = .ok (.iload 5, 2) := by decide +kernel
theorem d_MO_without_20 : decode b_MO_without 20 = .ok (.iconst 1, 1) := by decide +kernel
theorem d_MO_without_21 : decode b_MO_without 21 = .ok (.isub, 1) := by decide +kernel
theorem d_MO_without_22 : decode b_MO_without 22 = .ok (.istore 6, 2) := by decide +kernel
theorem d_MO_without_24 : decode b_MO_without 24 = .ok (.iload 6, 2) := by decide +kernel
theorem d_MO_without_26 : decode b_MO_without 26 = .ok (.ifCond .lt 66, 3) := by decide +kernel
theorem d_MO_without_29 : decode b_MO_without 29 = .ok (.aload_n 0, 1) := by decide +kernel
theorem d_MO_without_30 : decode b_MO_without 30 = .ok (.getfield 32, 3) := by decide +kernel
theorem d_MO_without_33 : decode b_MO_without 33 = .ok (.aload_n 0, 1) := by decide +kernel
theorem d_MO_without_34 : decode b_MO_without 34 = .ok (.getfield 29, 3) := by decide +kernel
theorem d_MO_without_37 : decode b_MO_without 37 = .ok (.iload 6, 2) := by decide +kernel
theorem d_MO_without_39 : decode b_MO_without 39 = .ok (.iaload, 1) := by decide +kernel
theorem d_MO_without_40 : decode b_MO_without 40 = .ok (.aload_n 0, 1) := by decide +kernel
theorem d_MO_without_41 : decode b_MO_without 41 = .ok (.aload_n 0, 1) := by decide +kernel
theorem d_MO_without_42 : decode b_MO_without 42 = .ok (.getfield 20, 3) := by decide +kernel
theorem d_MO_without_45 : decode b_MO_without 45 = .ok (.aload_n 0, 1) := by decide +kernel
theorem d_MO_without_46 : decode b_MO_without 46 = .ok (.getfield 29, 3) := by decide +kernel
theorem d_MO_without_49 : decode b_MO_without 49 = .ok (.iload 6, 2) := by decide +kernel
theorem d_MO_without_51 : decode b_MO_without 51 = .ok (.iaload, 1) := by decide +kernel
theorem d_MO_without_52 : decode b_MO_without 52 = .ok (.laload, 1) := by decide +kernel
theorem d_MO_without_53 : decode b_MO_without 53 = .ok (.lload_n 3, 1) := by decide +kernel
theorem d_MO_without_54 : decode b_MO_without 54 = .ok (.invokevirtual 189, 3) := by decide +kernel
theorem d_MO_without_57 : decode b_MO_without 57 = .ok (.ifCond .ne 23, 3) := by decide +kernel
theorem d_MO_without_60 : decode b_MO_without 60 = .ok (.aload_n 0, 1) := by decide +kernel
theorem d_MO_without_61 : decode b_MO_without 61 = .ok (.aload_n 0, 1) := by decide +kernel
theorem d_MO_without_62 : decode b_MO_without 62 = .ok (.getfield 23, 3) := by decide +kernel
theorem d_MO_without_65 : decode b_MO_without 65 = .ok (.aload_n 0, 1) := by decide +kernel
theorem d_MO_without_66 : decode b_MO_without 66 = .ok (.getfield 29, 3) := by decide +kernel
theorem d_MO_without_69 : decode b_MO_without 69 = .ok (.iload 6, 2) := by decide +kernel
theorem d_MO_without_71 : decode b_MO_without 71 = .ok (.iaload, 1) := by decide +kernel
theorem d_MO_without_72 : decode b_MO_without 72 = .ok (.laload, 1) := by decide +kernel
theorem d_MO_without_73 : decode b_MO_without 73 = .ok (.lload_n 3, 1) := by decide +kernel
theorem d_MO_without_74 : decode b_MO_without 74 = .ok (.invokevirtual 189, 3) := by decide +kernel
theorem d_MO_without_77 : decode b_MO_without 77 = .ok (.ifCond .eq 7, 3) := by decide +kernel
theorem d_MO_without_80 : decode b_MO_without 80 = .ok (.iconst 1, 1) := by decide +kernel
theorem d_MO_without_81 : decode b_MO_without 81 = .ok (.goto 4, 3) := by decide +kernel
theorem d_MO_without_84 : decode b_MO_without 84 = .ok (.iconst 0, 1) := by decide +kernel
theorem d_MO_without_85 : decode b_MO_without 85 = .ok (.bastore, 1) := by decide +kernel
theorem d_MO_without_86 : decode b_MO_without 86 = .ok (.iinc 6 (-1), 3) := by decide +kernel
theorem d_MO_without_89 : decode b_MO_without 89 = .ok (.goto (-65), 3) := by decide +kernel
theorem d_MO_without_92 : decode b_MO_without 92 = .ok (.aload_n 0, 1) := by decide +kernel
theorem d_MO_without_93 : decode b_MO_without 93 = .ok (.lload_n 1, 1) := by decide +kernel
theorem d_MO_without_94 : decode b_MO_without 94 = .ok (.lload_n 3, 1) := by decide +kernel
theorem d_MO_without_95 : decode b_MO_without 95 = .ok (.invokevirtual 189, 3) := by decide +kernel
theorem d_MO_without_98 : decode b_MO_without 98 = .ok (.ifCond .ne 17, 3) := by decide +kernel
theorem d_MO_without_101 : decode b_MO_without 101 = .ok (.aload_n 0, 1) := by decide +kernel
theorem d_MO_without_102 : decode b_MO_without 102 = .ok (.aload_n 0, 1) := by decide +kernel
theorem d_MO_without_103 : decode b_MO_without 103 = .ok (.iconst 3, 1) := by decide +kernel
theorem d_MO_without_104 : decode b_MO_without 104 = .ok (.invokestatic 178, 3) := by decide +kernel
theorem d_MO_without_107 : decode b_MO_without 107 = .ok (.lload_n 1, 1) := by decide +kernel
theorem d_MO_without_108 : decode b_MO_without 108 = .ok (.invokevirtual 193, 3) := by decide +kernel
theorem d_MO_without_111 : decode b_MO_without 111 = .ok (.invokevirtual 208, 3) := by decide +kernel
theorem d_MO_without_114 : decode b_MO_without 114 = .ok (.lreturn, 1) := by decide +kernel
theorem d_MO_without_115 : decode b_MO_without 115 = .ok (.iload 5, 2) := by decide +kernel
theorem d_MO_without_117 : decode b_MO_without 117 = .ok (.iconst 1, 1) := by decide +kernel
theorem d_MO_without_118 : decode b_MO_without 118 = .ok (.isub, 1) := by decide +kernel
theorem d_MO_without_119 : decode b_MO_without 119 = .ok (.istore 6, 2) := by decide +kernel
theorem d_MO_without_121 : decode b_MO_without 121 = .ok (.iload 6, 2) := by decide +kernel
theorem d_MO_without_123 : decode b_MO_without 123 = .ok (.ifCond .lt 86, 3) := by decide +kernel
theorem d_MO_without_126 : decode b_MO_without 126 = .ok (.aload_n 0, 1) := by decide +kernel
theorem d_MO_without_127 : decode b_MO_without 127 = .ok (.getfield 128, 3) := by decide +kernel
theorem d_MO_without_130 : decode b_MO_without 130 = .ok (.ifCond .ne 79, 3) := by decide +kernel
theorem d_MO_without_133 : decode b_MO_without 133 = .ok (.aload_n 0, 1) := by decide +kernel
theorem d_MO_without_134 : decode b_MO_without 134 = .ok (.getfield 29, 3) := by decide +kernel
theorem d_MO_without_137 : decode b_MO_without 137 = .ok (.iload 6, 2) := by decide +kernel
theorem d_MO_without_139 : decode b_MO_without 139 = .ok (.iaload, 1) := by decide +kernel
theorem d_MO_without_140 : decode b_MO_without 140 = .ok (.istore 7, 2) := by decide +kernel
theorem d_MO_without_142 : decode b_MO_without 142 = .ok (.aload_n 0, 1) := by decide +kernel
theorem d_MO_without_143 : decode b_MO_without 143 = .ok (.getfield 32, 3) := by decide +kernel
theorem d_MO_without_146 : decode b_MO_without 146 = .ok (.iload 7, 2) := by decide +kernel
theorem d_MO_without_148 : decode b_MO_without 148 = .ok (.baload, 1) := by decide +kernel
theorem d_MO_without_149 : decode b_MO_without 149 = .ok (.ifCond .eq 54, 3) := by decide +kernel
theorem d_MO_without_152 : decode b_MO_without 152 = .ok (.aload_n 0, 1) := by decide +kernel
theorem d_MO_without_153 : decode b_MO_without 153 = .ok (.aload_n 0, 1) := by decide +kernel
theorem d_MO_without_154 : decode b_MO_without 154 = .ok (.getfield 20, 3) := by decide +kernel
theorem d_MO_without_157 : decode b_MO_without 157 = .ok (.iload 7, 2) := by decide +kernel
theorem d_MO_without_159 : decode b_MO_without 159 = .ok (.laload, 1) := by decide +kernel
theorem d_MO_without_160 : decode b_MO_without 160 = .ok (.lload_n 3, 1) := by decide +kernel
theorem d_MO_without_161 : decode b_MO_without 161 = .ok (.invokevirtual 212, 3) := by decide +kernel
theorem d_MO_without_164 : decode b_MO_without 164 = .ok (.lstore 8, 2) := by decide +kernel
theorem d_MO_without_166 : decode b_MO_without 166 = .ok (.aload_n 0, 1) := by decide +kernel
theorem d_MO_without_167 : decode b_MO_without 167 = .ok (.aload_n 0, 1) := by decide +kernel
theorem d_MO_without_168 : decode b_MO_without 168 = .ok (.getfield 23, 3) := by decide +kernel
theorem d_MO_without_171 : decode b_MO_without 171 = .ok (.iload 7, 2) := by decide +kernel
theorem d_MO_without_173 : decode b_MO_without 173 = .ok (.laload, 1) := by decide +kernel
theorem d_MO_without_174 : decode b_MO_without 174 = .ok (.lload_n 3, 1) := by decide +kernel
theorem d_MO_without_175 : decode b_MO_without 175 = .ok (.invokevirtual 212, 3) := by decide +kernel
theorem d_MO_without_178 : decode b_MO_without 178 = .ok (.lstore 10, 2) := by decide +kernel
theorem d_MO_without_180 : decode b_MO_without 180 = .ok (.aload_n 0, 1) := by decide +kernel
theorem d_MO_without_181 : decode b_MO_without 181 = .ok (.getfield 36, 3) := by decide +kernel
theorem d_MO_without_184 : decode b_MO_without 184 = .ok (.iload 7, 2) := by decide +kernel
theorem d_MO_without_186 : decode b_MO_without 186 = .ok (.aload_n 0, 1) := by decide +kernel
theorem d_MO_without_187 : decode b_MO_without 187 = .ok (.lload 8, 2) := by decide +kernel
theorem d_MO_without_189 : decode b_MO_without 189 = .ok (.lload 10, 2) := by decide +kernel
theorem d_MO_without_191 : decode b_MO_without 191 = .ok (.invokevirtual 215, 3) := by decide +kernel
theorem d_MO_without_194 : decode b_MO_without 194 = .ok (.lastore, 1) := by decide +kernel
theorem d_MO_without_195 : decode b_MO_without 195 = .ok (.aload_n 0, 1) := by decide +kernel
theorem d_MO_without_196 : decode b_MO_without 196 = .ok (.getfield 102, 3) := by decide +kernel
theorem d_MO_without_199 : decode b_MO_without 199 = .ok (.iload 7, 2) := by decide +kernel
theorem d_MO_without_201 : decode b_MO_without 201 = .ok (.iconst 1, 1) := by decide +kernel
theorem d_MO_without_202 : decode b_MO_without 202 = .ok (.bastore, 1) := by decide +kernel
theorem d_MO_without_203 : decode b_MO_without 203 = .ok (.iinc 6 (-1), 3) := by decide +kernel
theorem d_MO_without_206 : decode b_MO_without 206 = .ok (.goto (-85), 3) := by decide +kernel
theorem d_MO_without_209 : decode b_MO_without 209 = .ok (.aload_n 0, 1) := by decide +kernel
theorem d_MO_without_210 : decode b_MO_without 210 = .ok (.getfield 36, 3) := by decide +kernel
theorem d_MO_without_213 : decode b_MO_without 213 = .ok (.lload_n 1, 1) := by decide +kernel
theorem d_MO_without_214 : decode b_MO_without 214 = .ok (.invokestatic 182, 3) := by decide +kernel
theorem d_MO_without_217 : decode b_MO_without 217 = .ok (.laload, 1) := by decide +kernel
theorem d_MO_without_218 : decode b_MO_without 218 = .ok (.lstore 6, 2) := by decide +kernel
theorem d_MO_without_220 : decode b_MO_without 220 = .ok (.iconst 0, 1) := by decide +kernel
theorem d_MO_without_221 : decode b_MO_without 221 = .ok (.istore 8, 2) := by decide +kernel
theorem d_MO_without_223 : decode b_MO_without 223 = .ok (.iload 8, 2) := by decide +kernel
theorem d_MO_without_225 : decode b_MO_without 225 = .ok (.iload 5, 2) := by decide +kernel
theorem d_MO_without_227 : decode b_MO_without 227 = .ok (.if_icmp .ge 52, 3) := by decide +kernel
theorem d_MO_without_230 : decode b_MO_without 230 = .ok (.aload_n 0, 1) := by decide +kernel
theorem d_MO_without_231 : decode b_MO_without 231 = .ok (.getfield 102, 3) := by decide +kernel
theorem d_MO_without_234 : decode b_MO_without 234 = .ok (.aload_n 0, 1) := by decide +kernel
theorem d_MO_without_235 : decode b_MO_without 235 = .ok (.getfield 29, 3) := by decide +kernel
theorem d_MO_without_238 : decode b_MO_without 238 = .ok (.iload 8, 2) := by decide +kernel
theorem d_MO_without_240 : decode b_MO_without 240 = .ok (.iaload, 1) := by decide +kernel
theorem d_MO_without_241 : decode b_MO_without 241 = .ok (.baload, 1) := by decide +kernel
theorem d_MO_without_242 : decode b_MO_without 242 = .ok (.ifCond .eq 31, 3) := by decide +kernel
theorem d_MO_without_245 : decode b_MO_without 245 = .ok (.aload_n 0, 1) := by decide +kernel
theorem d_MO_without_246 : decode b_MO_without 246 = .ok (.getfield 102, 3) := by decide +kernel
theorem d_MO_without_249 : decode b_MO_without 249 = .ok (.aload_n 0, 1) := by decide +kernel
theorem d_MO_without_250 : decode b_MO_without 250 = .ok (.getfield 29, 3) := by decide +kernel
theorem d_MO_without_253 : decode b_MO_without 253 = .ok (.iload 8, 2) := by decide +kernel
theorem d_MO_without_255 : decode b_MO_without 255 = .ok (.iaload, 1) := by decide +kernel
theorem d_MO_without_256 : decode b_MO_without 256 = .ok (.iconst 0, 1) := by decide +kernel
theorem d_MO_without_257 : decode b_MO_without 257 = .ok (.bastore, 1) := by decide +kernel
theorem d_MO_without_258 : decode b_MO_without 258 = .ok (.aload_n 0, 1) := by decide +kernel
theorem d_MO_without_259 : decode b_MO_without 259 = .ok (.iconst 3, 1) := by decide +kernel
theorem d_MO_without_260 : decode b_MO_without 260 = .ok (.aload_n 0, 1) := by decide +kernel
theorem d_MO_without_261 : decode b_MO_without 261 = .ok (.getfield 29, 3) := by decide +kernel
theorem d_MO_without_264 : decode b_MO_without 264 = .ok (.iload 8, 2) := by decide +kernel
theorem d_MO_without_266 : decode b_MO_without 266 = .ok (.iaload, 1) := by decide +kernel
theorem d_MO_without_267 : decode b_MO_without 267 = .ok (.invokestatic 171, 3) := by decide +kernel
theorem d_MO_without_270 : decode b_MO_without 270 = .ok (.invokevirtual 201, 3) := by decide +kernel
theorem d_MO_without_273 : decode b_MO_without 273 = .ok (.iinc 8 1, 3) := by decide +kernel
theorem d_MO_without_276 : decode b_MO_without 276 = .ok (.goto (-53), 3) := by decide +kernel
theorem d_MO_without_279 : decode b_MO_without 279 = .ok (.aload_n 0, 1) := by decide +kernel
theorem d_MO_without_280 : decode b_MO_without 280 = .ok (.lload 6, 2) := by decide +kernel
theorem d_MO_without_282 : decode b_MO_without 282 = .ok (.invokevirtual 208, 3) := by decide +kernel
theorem d_MO_without_285 : decode b_MO_without 285 = .ok (.lreturn, 1) := by decide +kernel
theorem d_MO_within400_0 : decode b_MO_within400 0 = .ok (.aload_n 0, 1) := by decide +kernel
theorem d_MO_within400_1 : decode b_MO_within400 1 = .ok (.getfield 128, 3) := by decide +kernel
theorem d_MO_within400_4 : decode b_MO_within400 4 = .ok (.ifCond .ne 19, 3) := by decide +kernel
theorem d_MO_within400_7 : decode b_MO_within400 7 = .ok (.aload_n 0, 1) := by decide +kernel
theorem d_MO_within400_8 : decode b_MO_within400 8 = .ok (.lload_n 1, 1) := by decide +kernel
theorem d_MO_within400_9 : decode b_MO_within400 9 = .ok (.invokevirtual 205, 3) := by decide +kernel
theorem d_MO_within400_12 : decode b_MO_within400 12 = .ok (.sipush 400, 3) := by decide +kernel
theorem d_MO_within400_15 : decode b_MO_within400 15 = .ok (.if_icmp .le 8, 3) := by decide +kernel
theorem d_MO_within400_18 : decode b_MO_within400 18 = .ok (.aload_n 0, 1) := by decide +kernel
theorem d_MO_within400_19 : decode b_MO_within400 19 = .ok (.iconst 3, 1) := by decide +kernel
theorem d_MO_within400_20 : decode b_MO_within400 20 = .ok (.invokevirtual 134, 3) := by decide +kernel
theorem d_MO_within400_23 : decode b_MO_within400 23 = .ok (.lload_n 1, 1) := by decide +kernel
theorem d_MO_within400_24 : decode b_MO_within400 24 = .ok (.lreturn, 1) := by decide +kernel
theorem d_MO_push_0 : decode b_MO_push 0 = .ok (.aload_n 0, 1) := by decide +kernel
theorem d_MO_push_1 : decode b_MO_push 1 = .ok (.getfield 54, 3) := by decide +kernel
theorem d_MO_push_4 : decode b_MO_push 4 = .ok (.aload_n 0, 1) := by decide +kernel
theorem d_MO_push_5 : decode b_MO_push 5 = .ok (.getfield 218, 3) := by decide +kernel
theorem d_MO_push_8 : decode b_MO_push 8 = .ok (.lload_n 1, 1) := by decide +kernel
theorem d_MO_push_9 : decode b_MO_push 9 = .ok (.lastore, 1) := by decide +kernel
theorem d_MO_push_10 : decode b_MO_push 10 = .ok (.aload_n 0, 1) := by decide +kernel
theorem d_MO_push_11 : decode b_MO_push 11 = .ok (.dup, 1) := by decide +kernel
theorem d_MO_push_12 : decode b_MO_push 12 = .ok (.getfield 218, 3) := by decide +kernel
theorem d_MO_push_15 : decode b_MO_push 15 = .ok (.iconst 1, 1) := by decide +kernel
theorem d_MO_push_16 : decode b_MO_push 16 = .ok (.iadd, 1) := by decide +kernel
theorem d_MO_push_17 : decode b_MO_push 17 = .ok (.putfield 218, 3) := by decide +kernel
theorem d_MO_push_20 : decode b_MO_push 20 = .ok (.return_, 1) := by decide +kernel
theorem d_MO_pop_0 : decode b_MO_pop 0 = .ok (.aload_n 0, 1) := by decide +kernel
theorem d_MO_pop_1 : decode b_MO_pop 1 = .ok (.dup, 1) := by decide +kernel
theorem d_MO_pop_2 : decode b_MO_pop 2 = .ok (.getfield 218, 3) := by decide +kernel
theorem d_MO_pop_5 : decode b_MO_pop 5 = .ok (.iconst 1, 1) := by decide +kernel
theorem d_MO_pop_6 : decode b_MO_pop 6 = .ok (.isub, 1) := by decide +kernel
theorem d_MO_pop_7 : decode b_MO_pop 7 = .ok (.putfield 218, 3) := by decide +kernel
theorem d_MO_pop_10 : decode b_MO_pop 10 = .ok (.aload_n 0, 1) := by decide +kernel
theorem d_MO_pop_11 : decode b_MO_pop 11 = .ok (.getfield 54, 3) := by decide +kernel
theorem d_MO_pop_14 : decode b_MO_pop 14 = .ok (.aload_n 0, 1) := by decide +kernel
theorem d_MO_pop_15 : decode b_MO_pop 15 = .ok (.getfield 218, 3) := by decide +kernel
theorem d_MO_pop_18 : decode b_MO_pop 18 = .ok (.laload, 1) := by decide +kernel
theorem d_MO_pop_19 : decode b_MO_pop 19 = .ok (.lreturn, 1) := by decide +kernel
theorem d_MO_open_0 : decode b_MO_open 0 = .ok (.aload_n 0, 1) := by decide +kernel
theorem d_MO_open_1 : decode b_MO_open 1 = .ok (.getfield 221, 3) := by decide +kernel
theorem d_MO_open_4 : decode b_MO_open 4 = .ok (.bipush 8, 2) := by decide +kernel
theorem d_MO_open_6 : decode b_MO_open 6 = .ok (.if_icmp .ne 9, 3) := by decide +kernel
theorem d_MO_open_9 : decode b_MO_open 9 = .ok (.aload_n 0, 1) := by decide +kernel
theorem d_MO_open_10 : decode b_MO_open 10 = .ok (.iconst 2, 1) := by decide +kernel
theorem d_MO_open_11 : decode b_MO_open 11 = .ok (.invokevirtual 134, 3) := by decide +kernel
theorem d_MO_open_14 : decode b_MO_open 14 = .ok (.return_, 1) := by decide +kernel
theorem d_MO_open_15 : decode b_MO_open 15 = .ok (.aload_n 0, 1) := by decide +kernel
theorem d_MO_open_16 : decode b_MO_open 16 = .ok (.getfield 39, 3) := by decide +kernel
theorem d_MO_open_19 : decode b_MO_open 19 = .ok (.aload_n 0, 1) := by decide +kernel
theorem d_MO_open_20 : decode b_MO_open 20 = .ok (.getfield 221, 3) := by decide +kernel
theorem d_MO_open_23 : decode b_MO_open 23 = .ok (.iload_n 1, 1) := by decide +kernel
theorem d_MO_open_24 : decode b_MO_open 24 = .ok (.iastore, 1) := by decide +kernel
theorem d_MO_open_25 : decode b_MO_open 25 = .ok (.aload_n 0, 1) := by decide +kernel
theorem d_MO_open_26 : decode b_MO_open 26 = .ok (.getfield 45, 3) := by decide +kernel
theorem d_MO_open_29 : decode b_MO_open 29 = .ok (.aload_n 0, 1) := by decide +kernel
theorem d_MO_open_30 : decode b_MO_open 30 = .ok (.getfield 221, 3) := by decide +kernel
theorem d_MO_open_33 : decode b_MO_open 33 = .ok (.aload_n 0, 1) := by decide +kernel
theorem d_MO_open_34 : decode b_MO_open 34 = .ok (.getfield 218, 3) := by decide +kernel
theorem d_MO_open_37 : decode b_MO_open 37 = .ok (.iastore, 1) := by decide +kernel
theorem d_MO_open_38 : decode b_MO_open 38 = .ok (.aload_n 0, 1) := by decide +kernel
theorem d_MO_open_39 : decode b_MO_open 39 = .ok (.aload_n 0, 1) := by decide +kernel
theorem d_MO_open_40 : decode b_MO_open 40 = .ok (.getfield 221, 3) := by decide +kernel
theorem d_MO_open_43 : decode b_MO_open 43 = .ok (.invokevirtual 224, 3) := by decide +kernel
theorem d_MO_open_46 : decode b_MO_open 46 = .ok (.aload_n 0, 1) := by decide +kernel
theorem d_MO_open_47 : decode b_MO_open 47 = .ok (.dup, 1) := by decide +kernel
theorem d_MO_open_48 : decode b_MO_open 48 = .ok (.getfield 221, 3) := by decide +kernel
theorem d_MO_open_51 : decode b_MO_open 51 = .ok (.iconst 1, 1) := by decide +kernel
theorem d_MO_open_52 : decode b_MO_open 52 = .ok (.iadd, 1) := by decide +kernel
theorem d_MO_open_53 : decode b_MO_open 53 = .ok (.putfield 221, 3) := by decide +kernel
theorem d_MO_open_56 : decode b_MO_open 56 = .ok (.return_, 1) := by decide +kernel
theorem d_MO_begin_0 : decode b_MO_begin 0 = .ok (.aload_n 0, 1) := by decide +kernel
theorem d_MO_begin_1 : decode b_MO_begin 1 = .ok (.getfield 42, 3) := by decide +kernel
theorem d_MO_begin_4 : decode b_MO_begin 4 = .ok (.iload_n 1, 1) := by decide +kernel
theorem d_MO_begin_5 : decode b_MO_begin 5 = .ok (.aload_n 0, 1) := by decide +kernel
theorem d_MO_begin_6 : decode b_MO_begin 6 = .ok (.getfield 227, 3) := by decide +kernel
theorem d_MO_begin_9 : decode b_MO_begin 9 = .ok (.iastore, 1) := by decide +kernel
theorem d_MO_begin_10 : decode b_MO_begin 10 = .ok (.aload_n 0, 1) := by decide +kernel
theorem d_MO_begin_11 : decode b_MO_begin 11 = .ok (.getfield 48, 3) := by decide +kernel
theorem d_MO_begin_14 : decode b_MO_begin 14 = .ok (.iload_n 1, 1) := by decide +kernel
theorem d_MO_begin_15 : decode b_MO_begin 15 = .ok (.iconst 0, 1) := by decide +kernel
theorem d_MO_begin_16 : decode b_MO_begin 16 = .ok (.bastore, 1) := by decide +kernel
theorem d_MO_begin_17 : decode b_MO_begin 17 = .ok (.aload_n 0, 1) := by decide +kernel
theorem d_MO_begin_18 : decode b_MO_begin 18 = .ok (.getfield 51, 3) := by decide +kernel
theorem d_MO_begin_21 : decode b_MO_begin 21 = .ok (.iload_n 1, 1) := by decide +kernel
theorem d_MO_begin_22 : decode b_MO_begin 22 = .ok (.iconst 1, 1) := by decide +kernel
theorem d_MO_begin_23 : decode b_MO_begin 23 = .ok (.bastore, 1) := by decide +kernel
theorem d_MO_begin_24 : decode b_MO_begin 24 = .ok (.return_, 1) := by decide +kernel
theorem d_MO_atom_0 : decode b_MO_atom 0 = .ok (.aload_n 0, 1) := by decide +kernel
theorem d_MO_atom_1 : decode b_MO_atom 1 = .ok (.getfield 221, 3) := by decide +kernel
