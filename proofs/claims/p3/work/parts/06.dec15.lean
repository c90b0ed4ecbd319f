theorem d_MO_read_192 : decode b_MO_read 192 = .ok (.lastore, 1) := by decide +kernel
theorem d_MO_read_193 : decode b_MO_read 193 = .ok (.iconst 0, 1) := by decide +kernel
theorem d_MO_read_194 : decode b_MO_read 194 = .ok (.istore 4, 2) := by decide +kernel
theorem d_MO_read_196 : decode b_MO_read 196 = .ok (.iconst 0, 1) := by decide +kernel
theorem d_MO_read_197 : decode b_MO_read 197 = .ok (.istore 5, 2) := by decide +kernel
theorem d_MO_read_199 : decode b_MO_read 199 = .ok (.iload 5, 2) := by decide +kernel
theorem d_MO_read_201 : decode b_MO_read 201 = .ok (.bipush 9, 2) := by decide +kernel
theorem d_MO_read_203 : decode b_MO_read 203 = .ok (.if_icmp .ge 42, 3) := by decide +kernel
theorem d_MO_read_206 : decode b_MO_read 206 = .ok (.iload 5, 2) := by decide +kernel
theorem d_MO_read_208 : decode b_MO_read 208 = .ok (.iload_n 1, 1) := by decide +kernel
theorem d_MO_read_209 : decode b_MO_read 209 = .ok (.if_icmp .lt 10, 3) := by decide +kernel
theorem d_MO_read_212 : decode b_MO_read 212 = .ok (.iload 5, 2) := by decide +kernel
theorem d_MO_read_214 : decode b_MO_read 214 = .ok (.bipush 8, 2) := by decide +kernel
theorem d_MO_read_216 : decode b_MO_read 216 = .ok (.if_icmp .ne 23, 3) := by decide +kernel
theorem d_MO_read_219 : decode b_MO_read 219 = .ok (.aload_n 0, 1) := by decide +kernel
theorem d_MO_read_220 : decode b_MO_read 220 = .ok (.iload 5, 2) := by decide +kernel
theorem d_MO_read_222 : decode b_MO_read 222 = .ok (.invokevirtual 333, 3) := by decide +kernel
theorem d_MO_read_225 : decode b_MO_read 225 = .ok (.iload 4, 2) := by decide +kernel
theorem d_MO_read_227 : decode b_MO_read 227 = .ok (.aload_n 0, 1) := by decide +kernel
theorem d_MO_read_228 : decode b_MO_read 228 = .ok (.getfield 69, 3) := by decide +kernel
theorem d_MO_read_231 : decode b_MO_read 231 = .ok (.iconst 3, 1) := by decide +kernel
theorem d_MO_read_232 : decode b_MO_read 232 = .ok (.iload 5, 2) := by decide +kernel
theorem d_MO_read_234 : decode b_MO_read 234 = .ok (.imul, 1) := by decide +kernel
theorem d_MO_read_235 : decode b_MO_read 235 = .ok (.iaload, 1) := by decide +kernel
theorem d_MO_read_236 : decode b_MO_read 236 = .ok (.iadd, 1) := by decide +kernel
theorem d_MO_read_237 : decode b_MO_read 237 = .ok (.istore 4, 2) := by decide +kernel
theorem d_MO_read_239 : decode b_MO_read 239 = .ok (.iinc 5 1, 3) := by decide +kernel
theorem d_MO_read_242 : decode b_MO_read 242 = .ok (.goto (-43), 3) := by decide +kernel
theorem d_MO_read_245 : decode b_MO_read 245 = .ok (.iload 4, 2) := by decide +kernel
theorem d_MO_read_247 : decode b_MO_read 247 = .ok (.aload_n 0, 1) := by decide +kernel
theorem d_MO_read_248 : decode b_MO_read 248 = .ok (.getfield 108, 3) := by decide +kernel
theorem d_MO_read_251 : decode b_MO_read 251 = .ok (.if_icmp .le 9, 3) := by decide +kernel
theorem d_MO_read_254 : decode b_MO_read 254 = .ok (.aload_n 0, 1) := by decide +kernel
theorem d_MO_read_255 : decode b_MO_read 255 = .ok (.iconst 3, 1) := by decide +kernel
theorem d_MO_read_256 : decode b_MO_read 256 = .ok (.invokevirtual 119, 3) := by decide +kernel
theorem d_MO_read_259 : decode b_MO_read 259 = .ok (.ireturn, 1) := by decide +kernel
theorem d_MO_read_260 : decode b_MO_read 260 = .ok (.aload_n 0, 1) := by decide +kernel
theorem d_MO_read_261 : decode b_MO_read 261 = .ok (.iload_n 1, 1) := by decide +kernel
theorem d_MO_read_262 : decode b_MO_read 262 = .ok (.putfield 240, 3) := by decide +kernel
theorem d_MO_read_265 : decode b_MO_read 265 = .ok (.iconst 0, 1) := by decide +kernel
theorem d_MO_read_266 : decode b_MO_read 266 = .ok (.istore 5, 2) := by decide +kernel
theorem d_MO_read_268 : decode b_MO_read 268 = .ok (.iconst 0, 1) := by decide +kernel
theorem d_MO_read_269 : decode b_MO_read 269 = .ok (.istore 6, 2) := by decide +kernel
theorem d_MO_read_271 : decode b_MO_read 271 = .ok (.iload 6, 2) := by decide +kernel
theorem d_MO_read_273 : decode b_MO_read 273 = .ok (.bipush 9, 2) := by decide +kernel
theorem d_MO_read_275 : decode b_MO_read 275 = .ok (.if_icmp .ge 56, 3) := by decide +kernel
theorem d_MO_read_278 : decode b_MO_read 278 = .ok (.iload 6, 2) := by decide +kernel
theorem d_MO_read_280 : decode b_MO_read 280 = .ok (.iload_n 1, 1) := by decide +kernel
theorem d_MO_read_281 : decode b_MO_read 281 = .ok (.if_icmp .lt 10, 3) := by decide +kernel
theorem d_MO_read_284 : decode b_MO_read 284 = .ok (.iload 6, 2) := by decide +kernel
theorem d_MO_read_286 : decode b_MO_read 286 = .ok (.bipush 8, 2) := by decide +kernel
theorem d_MO_read_288 : decode b_MO_read 288 = .ok (.if_icmp .ne 37, 3) := by decide +kernel
theorem d_MO_read_291 : decode b_MO_read 291 = .ok (.aload_n 0, 1) := by decide +kernel
theorem d_MO_read_292 : decode b_MO_read 292 = .ok (.getfield 66, 3) := by decide +kernel
theorem d_MO_read_295 : decode b_MO_read 295 = .ok (.iload 6, 2) := by decide +kernel
theorem d_MO_read_297 : decode b_MO_read 297 = .ok (.aload_n 0, 1) := by decide +kernel
theorem d_MO_read_298 : decode b_MO_read 298 = .ok (.aload_n 0, 1) := by decide +kernel
theorem d_MO_read_299 : decode b_MO_read 299 = .ok (.getfield 66, 3) := by decide +kernel
theorem d_MO_read_302 : decode b_MO_read 302 = .ok (.iload 6, 2) := by decide +kernel
theorem d_MO_read_304 : decode b_MO_read 304 = .ok (.laload, 1) := by decide +kernel
theorem d_MO_read_305 : decode b_MO_read 305 = .ok (.iload 5, 2) := by decide +kernel
theorem d_MO_read_307 : decode b_MO_read 307 = .ok (.invokevirtual 336, 3) := by decide +kernel
theorem d_MO_read_310 : decode b_MO_read 310 = .ok (.lastore, 1) := by decide +kernel
theorem d_MO_read_311 : decode b_MO_read 311 = .ok (.iload 5, 2) := by decide +kernel
theorem d_MO_read_313 : decode b_MO_read 313 = .ok (.aload_n 0, 1) := by decide +kernel
theorem d_MO_read_314 : decode b_MO_read 314 = .ok (.getfield 69, 3) := by decide +kernel
theorem d_MO_read_317 : decode b_MO_read 317 = .ok (.iconst 3, 1) := by decide +kernel
theorem d_MO_read_318 : decode b_MO_read 318 = .ok (.iload 6, 2) := by decide +kernel
theorem d_MO_read_320 : decode b_MO_read 320 = .ok (.imul, 1) := by decide +kernel
theorem d_MO_read_321 : decode b_MO_read 321 = .ok (.iaload, 1) := by decide +kernel
theorem d_MO_read_322 : decode b_MO_read 322 = .ok (.iadd, 1) := by decide +kernel
theorem d_MO_read_323 : decode b_MO_read 323 = .ok (.istore 5, 2) := by decide +kernel
theorem d_MO_read_325 : decode b_MO_read 325 = .ok (.iinc 6 1, 3) := by decide +kernel
theorem d_MO_read_328 : decode b_MO_read 328 = .ok (.goto (-57), 3) := by decide +kernel
theorem d_MO_read_331 : decode b_MO_read 331 = .ok (.aload_n 0, 1) := by decide +kernel
theorem d_MO_read_332 : decode b_MO_read 332 = .ok (.invokevirtual 340, 3) := by decide +kernel
theorem d_MO_read_335 : decode b_MO_read 335 = .ok (.iload 4, 2) := by decide +kernel
theorem d_MO_read_337 : decode b_MO_read 337 = .ok (.ireturn, 1) := by decide +kernel
theorem d_MO_ready_0 : decode b_MO_ready 0 = .ok (.aload_n 0, 1) := by decide +kernel
theorem d_MO_ready_1 : decode b_MO_ready 1 = .ok (.iconst 1, 1) := by decide +kernel
theorem d_MO_ready_2 : decode b_MO_ready 2 = .ok (.putfield 321, 3) := by decide +kernel
theorem d_MO_ready_5 : decode b_MO_ready 5 = .ok (.aload_n 0, 1) := by decide +kernel
theorem d_MO_ready_6 : decode b_MO_ready 6 = .ok (.iconst 0, 1) := by decide +kernel
theorem d_MO_ready_7 : decode b_MO_ready 7 = .ok (.putfield 342, 3) := by decide +kernel
theorem d_MO_ready_10 : decode b_MO_ready 10 = .ok (.aload_n 0, 1) := by decide +kernel
theorem d_MO_ready_11 : decode b_MO_ready 11 = .ok (.iconst 0, 1) := by decide +kernel
theorem d_MO_ready_12 : decode b_MO_ready 12 = .ok (.putfield 345, 3) := by decide +kernel
theorem d_MO_ready_15 : decode b_MO_ready 15 = .ok (.aload_n 0, 1) := by decide +kernel
theorem d_MO_ready_16 : decode b_MO_ready 16 = .ok (.iconst 0, 1) := by decide +kernel
theorem d_MO_ready_17 : decode b_MO_ready 17 = .ok (.putfield 348, 3) := by decide +kernel
theorem d_MO_ready_20 : decode b_MO_ready 20 = .ok (.aload_n 0, 1) := by decide +kernel
theorem d_MO_ready_21 : decode b_MO_ready 21 = .ok (.iconst 0, 1) := by decide +kernel
theorem d_MO_ready_22 : decode b_MO_ready 22 = .ok (.putfield 351, 3) := by decide +kernel
theorem d_MO_ready_25 : decode b_MO_ready 25 = .ok (.aload_n 0, 1) := by decide +kernel
theorem d_MO_ready_26 : decode b_MO_ready 26 = .ok (.iconst 0, 1) := by decide +kernel
theorem d_MO_ready_27 : decode b_MO_ready 27 = .ok (.putfield 354, 3) := by decide +kernel
theorem d_MO_ready_30 : decode b_MO_ready 30 = .ok (.aload_n 0, 1) := by decide +kernel
theorem d_MO_ready_31 : decode b_MO_ready 31 = .ok (.aload_n 0, 1) := by decide +kernel
theorem d_MO_ready_32 : decode b_MO_ready 32 = .ok (.getfield 66, 3) := by decide +kernel
theorem d_MO_ready_35 : decode b_MO_ready 35 = .ok (.bipush 8, 2) := by decide +kernel
theorem d_MO_ready_37 : decode b_MO_ready 37 = .ok (.laload, 1) := by decide +kernel
theorem d_MO_ready_38 : decode b_MO_ready 38 = .ok (.putfield 357, 3) := by decide +kernel
theorem d_MO_ready_41 : decode b_MO_ready 41 = .ok (.aload_n 0, 1) := by decide +kernel
theorem d_MO_ready_42 : decode b_MO_ready 42 = .ok (.iconst 0, 1) := by decide +kernel
theorem d_MO_ready_43 : decode b_MO_ready 43 = .ok (.putfield 361, 3) := by decide +kernel
theorem d_MO_ready_46 : decode b_MO_ready 46 = .ok (.aload_n 0, 1) := by decide +kernel
theorem d_MO_ready_47 : decode b_MO_ready 47 = .ok (.iconst 0, 1) := by decide +kernel
theorem d_MO_ready_48 : decode b_MO_ready 48 = .ok (.putfield 364, 3) := by decide +kernel
theorem d_MO_ready_51 : decode b_MO_ready 51 = .ok (.return_, 1) := by decide +kernel
theorem d_MO_reach_0 : decode b_MO_reach 0 = .ok (.lload_n 1, 1) := by decide +kernel
theorem d_MO_reach_1 : decode b_MO_reach 1 = .ok (.invokestatic 186, 3) := by decide +kernel
theorem d_MO_reach_4 : decode b_MO_reach 4 = .ok (.iconst 3, 1) := by decide +kernel
theorem d_MO_reach_5 : decode b_MO_reach 5 = .ok (.if_icmp .ne 15, 3) := by decide +kernel
theorem d_MO_reach_8 : decode b_MO_reach 8 = .ok (.aload_n 0, 1) := by decide +kernel
theorem d_MO_reach_9 : decode b_MO_reach 9 = .ok (.getfield 78, 3) := by decide +kernel
theorem d_MO_reach_12 : decode b_MO_reach 12 = .ok (.lload_n 1, 1) := by decide +kernel
theorem d_MO_reach_13 : decode b_MO_reach 13 = .ok (.invokestatic 182, 3) := by decide +kernel
theorem d_MO_reach_16 : decode b_MO_reach 16 = .ok (.baload, 1) := by decide +kernel
theorem d_MO_reach_17 : decode b_MO_reach 17 = .ok (.ifCond .eq 5, 3) := by decide +kernel
theorem d_MO_reach_20 : decode b_MO_reach 20 = .ok (.iload_n 3, 1) := by decide +kernel
theorem d_MO_reach_21 : decode b_MO_reach 21 = .ok (.ireturn, 1) := by decide +kernel
theorem d_MO_reach_22 : decode b_MO_reach 22 = .ok (.aload_n 0, 1) := by decide +kernel
theorem d_MO_reach_23 : decode b_MO_reach 23 = .ok (.getfield 78, 3) := by decide +kernel
theorem d_MO_reach_26 : decode b_MO_reach 26 = .ok (.lload_n 1, 1) := by decide +kernel
theorem d_MO_reach_27 : decode b_MO_reach 27 = .ok (.invokestatic 182, 3) := by decide +kernel
theorem d_MO_reach_30 : decode b_MO_reach 30 = .ok (.iconst 1, 1) := by decide +kernel
theorem d_MO_reach_31 : decode b_MO_reach 31 = .ok (.bastore, 1) := by decide +kernel
theorem d_MO_reach_32 : decode b_MO_reach 32 = .ok (.aload_n 0, 1) := by decide +kernel
theorem d_MO_reach_33 : decode b_MO_reach 33 = .ok (.getfield 81, 3) := by decide +kernel
theorem d_MO_reach_36 : decode b_MO_reach 36 = .ok (.iload_n 3, 1) := by decide +kernel
theorem d_MO_reach_37 : decode b_MO_reach 37 = .ok (.lload_n 1, 1) := by decide +kernel
theorem d_MO_reach_38 : decode b_MO_reach 38 = .ok (.invokestatic 182, 3) := by decide +kernel
theorem d_MO_reach_41 : decode b_MO_reach 41 = .ok (.iastore, 1) := by decide +kernel
theorem d_MO_reach_42 : decode b_MO_reach 42 = .ok (.iload_n 3, 1) := by decide +kernel
theorem d_MO_reach_43 : decode b_MO_reach 43 = .ok (.iconst 1, 1) := by decide +kernel
theorem d_MO_reach_44 : decode b_MO_reach 44 = .ok (.iadd, 1) := by decide +kernel
theorem d_MO_reach_45 : decode b_MO_reach 45 = .ok (.ireturn, 1) := by decide +kernel
theorem d_MO_reachedNow_0 : decode b_MO_reachedNow 0 = .ok (.iconst 0, 1) := by decide +kernel
theorem d_MO_reachedNow_1 : decode b_MO_reachedNow 1 = .ok (.istore_n 1, 1) := by decide +kernel
theorem d_MO_reachedNow_2 : decode b_MO_reachedNow 2 = .ok (.iload_n 1, 1) := by decide +kernel
theorem d_MO_reachedNow_3 : decode b_MO_reachedNow 3 = .ok (.sipush 400, 3) := by decide +kernel
theorem d_MO_reachedNow_6 : decode b_MO_reachedNow 6 = .ok (.if_icmp .ge 16, 3) := by decide +kernel
theorem d_MO_reachedNow_9 : decode b_MO_reachedNow 9 = .ok (.aload_n 0, 1) := by decide +kernel
theorem d_MO_reachedNow_10 : decode b_MO_reachedNow 10 = .ok (.getfield 78, 3) := by decide +kernel
theorem d_MO_reachedNow_13 : decode b_MO_reachedNow 13 = .ok (.iload_n 1, 1) := by decide +kernel
theorem d_MO_reachedNow_14 : decode b_MO_reachedNow 14 = .ok (.iconst 0, 1) := by decide +kernel
theorem d_MO_reachedNow_15 : decode b_MO_reachedNow 15 = .ok (.bastore, 1) := by decide +kernel
theorem d_MO_reachedNow_16 : decode b_MO_reachedNow 16 = .ok (.iinc 1 1, 3) := by decide +kernel
theorem d_MO_reachedNow_19 : decode b_MO_reachedNow 19 = .ok (.goto (-17), 3) := by decide +kernel
theorem d_MO_reachedNow_22 : decode b_MO_reachedNow 22 = .ok (.aload_n 0, 1) := by decide +kernel
theorem d_MO_reachedNow_23 : decode b_MO_reachedNow 23 = .ok (.aload_n 0, 1) := by decide +kernel
theorem d_MO_reachedNow_24 : decode b_MO_reachedNow 24 = .ok (.getfield 357, 3) := by decide +kernel
theorem d_MO_reachedNow_27 : decode b_MO_reachedNow 27 = .ok (.iconst 0, 1) := by decide +kernel
theorem d_MO_reachedNow_28 : decode b_MO_reachedNow 28 = .ok (.invokevirtual 367, 3) := by decide +kernel
theorem d_MO_reachedNow_31 : decode b_MO_reachedNow 31 = .ok (.istore_n 1, 1) := by decide +kernel
theorem d_MO_reachedNow_32 : decode b_MO_reachedNow 32 = .ok (.iconst 0, 1) := by decide +kernel
theorem d_MO_reachedNow_33 : decode b_MO_reachedNow 33 = .ok (.istore_n 2, 1) := by decide +kernel
theorem d_MO_reachedNow_34 : decode b_MO_reachedNow 34 = .ok (.iload_n 2, 1) := by decide +kernel
theorem d_MO_reachedNow_35 : decode b_MO_reachedNow 35 = .ok (.aload_n 0, 1) := by decide +kernel
theorem d_MO_reachedNow_36 : decode b_MO_reachedNow 36 = .ok (.getfield 240, 3) := by decide +kernel
theorem d_MO_reachedNow_39 : decode b_MO_reachedNow 39 = .ok (.if_icmp .ge 21, 3) := by decide +kernel
theorem d_MO_reachedNow_42 : decode b_MO_reachedNow 42 = .ok (.aload_n 0, 1) := by decide +kernel
theorem d_MO_reachedNow_43 : decode b_MO_reachedNow 43 = .ok (.aload_n 0, 1) := by decide +kernel
theorem d_MO_reachedNow_44 : decode b_MO_reachedNow 44 = .ok (.getfield 66, 3) := by decide +kernel
theorem d_MO_reachedNow_47 : decode b_MO_reachedNow 47 = .ok (.iload_n 2, 1) := by decide +kernel
theorem d_MO_reachedNow_48 : decode b_MO_reachedNow 48 = .ok (.laload, 1) := by decide +kernel
theorem d_MO_reachedNow_49 : decode b_MO_reachedNow 49 = .ok (.iload_n 1, 1) := by decide +kernel
theorem d_MO_reachedNow_50 : decode b_MO_reachedNow 50 = .ok (.invokevirtual 367, 3) := by decide +kernel
theorem d_MO_reachedNow_53 : decode b_MO_reachedNow 53 = .ok (.istore_n 1, 1) := by decide +kernel
theorem d_MO_reachedNow_54 : decode b_MO_reachedNow 54 = .ok (.iinc 2 1, 3) := by decide +kernel
theorem d_MO_reachedNow_57 : decode b_MO_reachedNow 57 = .ok (.goto (-23), 3) := by decide +kernel
theorem d_MO_reachedNow_60 : decode b_MO_reachedNow 60 = .ok (.iconst 0, 1) := by decide +kernel
theorem d_MO_reachedNow_61 : decode b_MO_reachedNow 61 = .ok (.istore_n 2, 1) := by decide +kernel
theorem d_MO_reachedNow_62 : decode b_MO_reachedNow 62 = .ok (.iload_n 2, 1) := by decide +kernel
theorem d_MO_reachedNow_63 : decode b_MO_reachedNow 63 = .ok (.aload_n 0, 1) := by decide +kernel
theorem d_MO_reachedNow_64 : decode b_MO_reachedNow 64 = .ok (.getfield 342, 3) := by decide +kernel
theorem d_MO_reachedNow_67 : decode b_MO_reachedNow 67 = .ok (.if_icmp .ge 25, 3) := by decide +kernel
theorem d_MO_reachedNow_70 : decode b_MO_reachedNow 70 = .ok (.aload_n 0, 1) := by decide +kernel
theorem d_MO_reachedNow_71 : decode b_MO_reachedNow 71 = .ok (.iconst 3, 1) := by decide +kernel
theorem d_MO_reachedNow_72 : decode b_MO_reachedNow 72 = .ok (.aload_n 0, 1) := by decide +kernel
theorem d_MO_reachedNow_73 : decode b_MO_reachedNow 73 = .ok (.getfield 84, 3) := by decide +kernel
theorem d_MO_reachedNow_76 : decode b_MO_reachedNow 76 = .ok (.iload_n 2, 1) := by decide +kernel
theorem d_MO_reachedNow_77 : decode b_MO_reachedNow 77 = .ok (.iaload, 1) := by decide +kernel
theorem d_MO_reachedNow_78 : decode b_MO_reachedNow 78 = .ok (.invokestatic 171, 3) := by decide +kernel
theorem d_MO_reachedNow_81 : decode b_MO_reachedNow 81 = .ok (.iload_n 1, 1) := by decide +kernel
theorem d_MO_reachedNow_82 : decode b_MO_reachedNow 82 = .ok (.invokevirtual 367, 3) := by decide +kernel
theorem d_MO_reachedNow_85 : decode b_MO_reachedNow 85 = .ok (.istore_n 1, 1) := by decide +kernel
theorem d_MO_reachedNow_86 : decode b_MO_reachedNow 86 = .ok (.iinc 2 1, 3) := by decide +kernel
theorem d_MO_reachedNow_89 : decode b_MO_reachedNow 89 = .ok (.goto (-27), 3) := by decide +kernel
theorem d_MO_reachedNow_92 : decode b_MO_reachedNow 92 = .ok (.aload_n 0, 1) := by decide +kernel
theorem d_MO_reachedNow_93 : decode b_MO_reachedNow 93 = .ok (.getfield 361, 3) := by decide +kernel
theorem d_MO_reachedNow_96 : decode b_MO_reachedNow 96 = .ok (.iconst 2, 1) := by decide +kernel
theorem d_MO_reachedNow_97 : decode b_MO_reachedNow 97 = .ok (.if_icmp .ne 13, 3) := by decide +kernel
theorem d_MO_reachedNow_100 : decode b_MO_reachedNow 100 = .ok (.aload_n 0, 1) := by decide +kernel
theorem d_MO_reachedNow_101 : decode b_MO_reachedNow 101 = .ok (.aload_n 0, 1) := by decide +kernel
theorem d_MO_reachedNow_102 : decode b_MO_reachedNow 102 = .ok (.getfield 371, 3) := by decide +kernel
theorem d_MO_reachedNow_105 : decode b_MO_reachedNow 105 = .ok (.iload_n 1, 1) := by decide +kernel
theorem d_MO_reachedNow_106 : decode b_MO_reachedNow 106 = .ok (.invokevirtual 367, 3) := by decide +kernel
theorem d_MO_reachedNow_109 : decode b_MO_reachedNow 109 = .ok (.istore_n 1, 1) := by decide +kernel
theorem d_MO_reachedNow_110 : decode b_MO_reachedNow 110 = .ok (.iconst 0, 1) := by decide +kernel
theorem d_MO_reachedNow_111 : decode b_MO_reachedNow 111 = .ok (.istore_n 2, 1) := by decide +kernel
theorem d_MO_reachedNow_112 : decode b_MO_reachedNow 112 = .ok (.iload_n 2, 1) := by decide +kernel
theorem d_MO_reachedNow_113 : decode b_MO_reachedNow 113 = .ok (.iload_n 1, 1) := by decide +kernel
theorem d_MO_reachedNow_114 : decode b_MO_reachedNow 114 = .ok (.if_icmp .ge 43, 3) := by decide +kernel
theorem d_MO_reachedNow_117 : decode b_MO_reachedNow 117 = .ok (.aload_n 0, 1) := by decide +kernel
theorem d_MO_reachedNow_118 : decode b_MO_reachedNow 118 = .ok (.aload_n 0, 1) := by decide +kernel
theorem d_MO_reachedNow_119 : decode b_MO_reachedNow 119 = .ok (.getfield 72, 3) := by decide +kernel
theorem d_MO_reachedNow_122 : decode b_MO_reachedNow 122 = .ok (.aload_n 0, 1) := by decide +kernel
theorem d_MO_reachedNow_123 : decode b_MO_reachedNow 123 = .ok (.getfield 81, 3) := by decide +kernel
theorem d_MO_reachedNow_126 : decode b_MO_reachedNow 126 = .ok (.iload_n 2, 1) := by decide +kernel
theorem d_MO_reachedNow_127 : decode b_MO_reachedNow 127 = .ok (.iaload, 1) := by decide +kernel
theorem d_MO_reachedNow_128 : decode b_MO_reachedNow 128 = .ok (.laload, 1) := by decide +kernel
theorem d_MO_reachedNow_129 : decode b_MO_reachedNow 129 = .ok (.iload_n 1, 1) := by decide +kernel
theorem d_MO_reachedNow_130 : decode b_MO_reachedNow 130 = .ok (.invokevirtual 367, 3) := by decide +kernel
theorem d_MO_reachedNow_133 : decode b_MO_reachedNow 133 = .ok (.istore_n 1, 1) := by decide +kernel
theorem d_MO_reachedNow_134 : decode b_MO_reachedNow 134 = .ok (.aload_n 0, 1) := by decide +kernel
theorem d_MO_reachedNow_135 : decode b_MO_reachedNow 135 = .ok (.aload_n 0, 1) := by decide +kernel
theorem d_MO_reachedNow_136 : decode b_MO_reachedNow 136 = .ok (.getfield 75, 3) := by decide +kernel
theorem d_MO_reachedNow_139 : decode b_MO_reachedNow 139 = .ok (.aload_n 0, 1) := by decide +kernel
theorem d_MO_reachedNow_140 : decode b_MO_reachedNow 140 = .ok (.getfield 81, 3) := by decide +kernel
theorem d_MO_reachedNow_143 : decode b_MO_reachedNow 143 = .ok (.iload_n 2, 1) := by decide +kernel
theorem d_MO_reachedNow_144 : decode b_MO_reachedNow 144 = .ok (.iaload, 1) := by decide +kernel
theorem d_MO_reachedNow_145 : decode b_MO_reachedNow 145 = .ok (.laload, 1) := by decide +kernel
theorem d_MO_reachedNow_146 : decode b_MO_reachedNow 146 = .ok (.iload_n 1, 1) := by decide +kernel
theorem d_MO_reachedNow_147 : decode b_MO_reachedNow 147 = .ok (.invokevirtual 367, 3) := by decide +kernel
theorem d_MO_reachedNow_150 : decode b_MO_reachedNow 150 = .ok (.istore_n 1, 1) := by decide +kernel
theorem d_MO_reachedNow_151 : decode b_MO_reachedNow 151 = .ok (.iinc 2 1, 3) := by decide +kernel
theorem d_MO_reachedNow_154 : decode b_MO_reachedNow 154 = .ok (.goto (-42), 3) := by decide +kernel
theorem d_MO_reachedNow_157 : decode b_MO_reachedNow 157 = .ok (.iload_n 1, 1) := by decide +kernel
theorem d_MO_reachedNow_158 : decode b_MO_reachedNow 158 = .ok (.ireturn, 1) := by decide +kernel
theorem d_MO_made_0 : decode b_MO_made 0 = .ok (.iconst 0, 1) := by decide +kernel
theorem d_MO_made_1 : decode b_MO_made 1 = .ok (.istore 5, 2) := by decide +kernel
theorem d_MO_made_3 : decode b_MO_made 3 = .ok (.aload_n 0, 1) := by decide +kernel
theorem d_MO_made_4 : decode b_MO_made 4 = .ok (.getfield 78, 3) := by decide +kernel
theorem d_MO_made_7 : decode b_MO_made 7 = .ok (.iload 5, 2) := by decide +kernel
theorem d_MO_made_9 : decode b_MO_made 9 = .ok (.baload, 1) := by decide +kernel
theorem d_MO_made_10 : decode b_MO_made 10 = .ok (.ifCond .eq 9, 3) := by decide +kernel
theorem d_MO_made_13 : decode b_MO_made 13 = .ok (.iinc 5 1, 3) := by decide +kernel
theorem d_MO_made_16 : decode b_MO_made 16 = .ok (.goto (-13), 3) := by decide +kernel
theorem d_MO_made_19 : decode b_MO_made 19 = .ok (.aload_n 0, 1) := by decide +kernel
theorem d_MO_made_20 : decode b_MO_made 20 = .ok (.getfield 78, 3) := by decide +kernel
theorem d_MO_made_23 : decode b_MO_made 23 = .ok (.iload 5, 2) := by decide +kernel
theorem d_MO_made_25 : decode b_MO_made 25 = .ok (.iconst 1, 1) := by decide +kernel
theorem d_MO_made_26 : decode b_MO_made 26 = .ok (.bastore, 1) := by decide +kernel
theorem d_MO_made_27 : decode b_MO_made 27 = .ok (.aload_n 0, 1) := by decide +kernel
theorem d_MO_made_28 : decode b_MO_made 28 = .ok (.getfield 72, 3) := by decide +kernel
theorem d_MO_made_31 : decode b_MO_made 31 = .ok (.iload 5, 2) := by decide +kernel
theorem d_MO_made_33 : decode b_MO_made 33 = .ok (.lload_n 1, 1) := by decide +kernel
theorem d_MO_made_34 : decode b_MO_made 34 = .ok (.lastore, 1) := by decide +kernel
theorem d_MO_made_35 : decode b_MO_made 35 = .ok (.aload_n 0, 1) := by decide +kernel
theorem d_MO_made_36 : decode b_MO_made 36 = .ok (.getfield 75, 3) := by decide +kernel
theorem d_MO_made_39 : decode b_MO_made 39 = .ok (.iload 5, 2) := by decide +kernel
theorem d_MO_made_41 : decode b_MO_made 41 = .ok (.lload_n 3, 1) := by decide +kernel
theorem d_MO_made_42 : decode b_MO_made 42 = .ok (.lastore, 1) := by decide +kernel
theorem d_MO_made_43 : decode b_MO_made 43 = .ok (.iconst 3, 1) := by decide +kernel
theorem d_MO_made_44 : decode b_MO_made 44 = .ok (.iload 5, 2) := by decide +kernel
theorem d_MO_made_46 : decode b_MO_made 46 = .ok (.invokestatic 171, 3) := by decide +kernel
theorem d_MO_made_49 : decode b_MO_made 49 = .ok (.lreturn, 1) := by decide +kernel
theorem d_MO_fits_0 : decode b_MO_fits 0 = .ok (.aload_n 0, 1) := by decide +kernel
theorem d_MO_fits_1 : decode b_MO_fits 1 = .ok (.invokevirtual 374, 3) := by decide +kernel
theorem d_MO_fits_4 : decode b_MO_fits 4 = .ok (.iload_n 1, 1) := by decide +kernel
theorem d_MO_fits_5 : decode b_MO_fits 5 = .ok (.iadd, 1) := by decide +kernel
theorem d_MO_fits_6 : decode b_MO_fits 6 = .ok (.aload_n 0, 1) := by decide +kernel
theorem d_MO_fits_7 : decode b_MO_fits 7 = .ok (.getfield 108, 3) := by decide +kernel
theorem d_MO_fits_10 : decode b_MO_fits 10 = .ok (.if_icmp .le 8, 3) := by decide +kernel
theorem d_MO_fits_13 : decode b_MO_fits 13 = .ok (.aload_n 0, 1) := by decide +kernel
theorem d_MO_fits_14 : decode b_MO_fits 14 = .ok (.iconst 3, 1) := by decide +kernel
theorem d_MO_fits_15 : decode b_MO_fits 15 = .ok (.putfield 354, 3) := by decide +kernel
theorem d_MO_fits_18 : decode b_MO_fits 18 = .ok (.aload_n 0, 1) := by decide +kernel
theorem d_MO_fits_19 : decode b_MO_fits 19 = .ok (.getfield 354, 3) := by decide +kernel
theorem d_MO_fits_22 : decode b_MO_fits 22 = .ok (.ifCond .ne 7, 3) := by decide +kernel
theorem d_MO_fits_25 : decode b_MO_fits 25 = .ok (.iconst 1, 1) := by decide +kernel
theorem d_MO_fits_26 : decode b_MO_fits 26 = .ok (.goto 4, 3) := by decide +kernel
theorem d_MO_fits_29 : decode b_MO_fits 29 = .ok (.iconst 0, 1) := by decide +kernel
theorem d_MO_fits_30 : decode b_MO_fits 30 = .ok (.ireturn, 1) := by decide +kernel
theorem d_MO_below_0 : decode b_MO_below 0 = .ok (.aload_n 0, 1) := by decide +kernel
theorem d_MO_below_1 : decode b_MO_below 1 = .ok (.getfield 348, 3) := by decide +kernel
theorem d_MO_below_4 : decode b_MO_below 4 = .ok (.ifCond .le 17, 3) := by decide +kernel
theorem d_MO_below_7 : decode b_MO_below 7 = .ok (.aload_n 0, 1) := by decide +kernel
theorem d_MO_below_8 : decode b_MO_below 8 = .ok (.getfield 87, 3) := by decide +kernel
theorem d_MO_below_11 : decode b_MO_below 11 = .ok (.aload_n 0, 1) := by decide +kernel
theorem d_MO_below_12 : decode b_MO_below 12 = .ok (.getfield 348, 3) := by decide +kernel
theorem d_MO_below_15 : decode b_MO_below 15 = .ok (.iconst 1, 1) := by decide +kernel
theorem d_MO_below_16 : decode b_MO_below 16 = .ok (.isub, 1) := by decide +kernel
theorem d_MO_below_17 : decode b_MO_below 17 = .ok (.iaload, 1) := by decide +kernel
theorem d_MO_below_18 : decode b_MO_below 18 = .ok (.goto 4, 3) := by decide +kernel
theorem d_MO_below_21 : decode b_MO_below 21 = .ok (.iconst 0, 1) := by decide +kernel
theorem d_MO_below_22 : decode b_MO_below 22 = .ok (.ireturn, 1) := by decide +kernel
theorem d_MO_needs_0 : decode b_MO_needs 0 = .ok (.iload_n 0, 1) := by decide +kernel
theorem d_MO_needs_1 : decode b_MO_needs 1 = .ok (.iconst 2, 1) := by decide +kernel
theorem d_MO_needs_2 : decode b_MO_needs 2 = .ok (.if_icmp .eq 9, 3) := by decide +kernel
theorem d_MO_needs_5 : decode b_MO_needs 5 = .ok (.iload_n 0, 1) := by decide +kernel
theorem d_MO_needs_6 : decode b_MO_needs 6 = .ok (.bipush 17, 2) := by decide +kernel
theorem d_MO_needs_8 : decode b_MO_needs 8 = .ok (.if_icmp .le 7, 3) := by decide +kernel
theorem d_MO_needs_11 : decode b_MO_needs 11 = .ok (.iconst 1, 1) := by decide +kernel
theorem d_MO_needs_12 : decode b_MO_needs 12 = .ok (.goto 35, 3) := by decide +kernel
theorem d_MO_needs_15 : decode b_MO_needs 15 = .ok (.iload_n 0, 1) := by decide +kernel
theorem d_MO_needs_16 : decode b_MO_needs 16 = .ok (.iconst 3, 1) := by decide +kernel
theorem d_MO_needs_17 : decode b_MO_needs 17 = .ok (.if_icmp .eq 9, 3) := by decide +kernel
theorem d_MO_needs_20 : decode b_MO_needs 20 = .ok (.iload_n 0, 1) := by decide +kernel
theorem d_MO_needs_21 : decode b_MO_needs 21 = .ok (.bipush 10, 2) := by decide +kernel
theorem d_MO_needs_23 : decode b_MO_needs 23 = .ok (.if_icmp .le 7, 3) := by decide +kernel
theorem d_MO_needs_26 : decode b_MO_needs 26 = .ok (.iconst 2, 1) := by decide +kernel
theorem d_MO_needs_27 : decode b_MO_needs 27 = .ok (.goto 20, 3) := by decide +kernel
theorem d_MO_needs_30 : decode b_MO_needs 30 = .ok (.iload_n 0, 1) := by decide +kernel
theorem d_MO_needs_31 : decode b_MO_needs 31 = .ok (.bipush 7, 2) := by decide +kernel
theorem d_MO_needs_33 : decode b_MO_needs 33 = .ok (.if_icmp .lt 9, 3) := by decide +kernel
theorem d_MO_needs_36 : decode b_MO_needs 36 = .ok (.iload_n 0, 1) := by decide +kernel
theorem d_MO_needs_37 : decode b_MO_needs 37 = .ok (.bipush 10, 2) := by decide +kernel
theorem d_MO_needs_39 : decode b_MO_needs 39 = .ok (.if_icmp .ne 7, 3) := by decide +kernel
theorem d_MO_needs_42 : decode b_MO_needs 42 = .ok (.iconst 3, 1) := by decide +kernel
theorem d_MO_needs_43 : decode b_MO_needs 43 = .ok (.goto 4, 3) := by decide +kernel
theorem d_MO_needs_46 : decode b_MO_needs 46 = .ok (.iconst 4, 1) := by decide +kernel
theorem d_MO_needs_47 : decode b_MO_needs 47 = .ok (.ireturn, 1) := by decide +kernel
theorem d_MO_argument_0 : decode b_MO_argument 0 = .ok (.aload_n 0, 1) := by decide +kernel
theorem d_MO_argument_1 : decode b_MO_argument 1 = .ok (.getfield 75, 3) := by decide +kernel
theorem d_MO_argument_4 : decode b_MO_argument 4 = .ok (.aload_n 0, 1) := by decide +kernel
theorem d_MO_argument_5 : decode b_MO_argument 5 = .ok (.getfield 84, 3) := by decide +kernel
theorem d_MO_argument_8 : decode b_MO_argument 8 = .ok (.aload_n 0, 1) := by decide +kernel
theorem d_MO_argument_9 : decode b_MO_argument 9 = .ok (.getfield 342, 3) := by decide +kernel
theorem d_MO_argument_12 : decode b_MO_argument 12 = .ok (.iconst 1, 1) := by decide +kernel
theorem d_MO_argument_13 : decode b_MO_argument 13 = .ok (.isub, 1) := by decide +kernel
theorem d_MO_argument_14 : decode b_MO_argument 14 = .ok (.iload_n 1, 1) := by decide +kernel
theorem d_MO_argument_15 : decode b_MO_argument 15 = .ok (.isub, 1) := by decide +kernel
theorem d_MO_argument_16 : decode b_MO_argument 16 = .ok (.iaload, 1) := by decide +kernel
theorem d_MO_argument_17 : decode b_MO_argument 17 = .ok (.laload, 1) := by decide +kernel
theorem d_MO_argument_18 : decode b_MO_argument 18 = .ok (.lreturn, 1) := by decide +kernel
theorem d_MO_overwrite_0 : decode b_MO_overwrite 0 = .ok (.aload_n 0, 1) := by decide +kernel
theorem d_MO_overwrite_1 : decode b_MO_overwrite 1 = .ok (.getfield 84, 3) := by decide +kernel
theorem d_MO_overwrite_4 : decode b_MO_overwrite 4 = .ok (.aload_n 0, 1) := by decide +kernel
theorem d_MO_overwrite_5 : decode b_MO_overwrite 5 = .ok (.getfield 342, 3) := by decide +kernel
theorem d_MO_overwrite_8 : decode b_MO_overwrite 8 = .ok (.iload_n 1, 1) := by decide +kernel
theorem d_MO_overwrite_9 : decode b_MO_overwrite 9 = .ok (.isub, 1) := by decide +kernel
theorem d_MO_overwrite_10 : decode b_MO_overwrite 10 = .ok (.iaload, 1) := by decide +kernel
theorem d_MO_overwrite_11 : decode b_MO_overwrite 11 = .ok (.istore 6, 2) := by decide +kernel
theorem d_MO_overwrite_13 : decode b_MO_overwrite 13 = .ok (.aload_n 0, 1) := by decide +kernel
theorem d_MO_overwrite_14 : decode b_MO_overwrite 14 = .ok (.getfield 72, 3) := by decide +kernel
theorem d_MO_overwrite_17 : decode b_MO_overwrite 17 = .ok (.iload 6, 2) := by decide +kernel
theorem d_MO_overwrite_19 : decode b_MO_overwrite 19 = .ok (.lload_n 2, 1) := by decide +kernel
theorem d_MO_overwrite_20 : decode b_MO_overwrite 20 = .ok (.lastore, 1) := by decide +kernel
theorem d_MO_overwrite_21 : decode b_MO_overwrite 21 = .ok (.aload_n 0, 1) := by decide +kernel
theorem d_MO_overwrite_22 : decode b_MO_overwrite 22 = .ok (.getfield 75, 3) := by decide +kernel
theorem d_MO_overwrite_25 : decode b_MO_overwrite 25 = .ok (.iload 6, 2) := by decide +kernel
theorem d_MO_overwrite_27 : decode b_MO_overwrite 27 = .ok (.lload 4, 2) := by decide +kernel
theorem d_MO_overwrite_29 : decode b_MO_overwrite 29 = .ok (.lastore, 1) := by decide +kernel
theorem d_MO_overwrite_30 : decode b_MO_overwrite 30 = .ok (.aload_n 0, 1) := by decide +kernel
theorem d_MO_overwrite_31 : decode b_MO_overwrite 31 = .ok (.dup, 1) := by decide +kernel
theorem d_MO_overwrite_32 : decode b_MO_overwrite 32 = .ok (.getfield 342, 3) := by decide +kernel
theorem d_MO_overwrite_35 : decode b_MO_overwrite 35 = .ok (.iload_n 1, 1) := by decide +kernel
theorem d_MO_overwrite_36 : decode b_MO_overwrite 36 = .ok (.iconst 1, 1) := by decide +kernel
theorem d_MO_overwrite_37 : decode b_MO_overwrite 37 = .ok (.isub, 1) := by decide +kernel
theorem d_MO_overwrite_38 : decode b_MO_overwrite 38 = .ok (.isub, 1) := by decide +kernel
theorem d_MO_overwrite_39 : decode b_MO_overwrite 39 = .ok (.putfield 342, 3) := by decide +kernel
theorem d_MO_overwrite_42 : decode b_MO_overwrite 42 = .ok (.aload_n 0, 1) := by decide +kernel
theorem d_MO_overwrite_43 : decode b_MO_overwrite 43 = .ok (.lload_n 2, 1) := by decide +kernel
theorem d_MO_overwrite_44 : decode b_MO_overwrite 44 = .ok (.putfield 357, 3) := by decide +kernel
theorem d_MO_overwrite_47 : decode b_MO_overwrite 47 = .ok (.aload_n 0, 1) := by decide +kernel
theorem d_MO_overwrite_48 : decode b_MO_overwrite 48 = .ok (.dup, 1) := by decide +kernel
theorem d_MO_overwrite_49 : decode b_MO_overwrite 49 = .ok (.getfield 351, 3) := by decide +kernel
theorem d_MO_overwrite_52 : decode b_MO_overwrite 52 = .ok (.iconst 1, 1) := by decide +kernel
theorem d_MO_overwrite_53 : decode b_MO_overwrite 53 = .ok (.iadd, 1) := by decide +kernel
theorem d_MO_overwrite_54 : decode b_MO_overwrite 54 = .ok (.putfield 351, 3) := by decide +kernel
theorem d_MO_overwrite_57 : decode b_MO_overwrite 57 = .ok (.return_, 1) := by decide +kernel
theorem d_MO_combinator_0 : decode b_MO_combinator 0 = .ok (.aload_n 0, 1) := by decide +kernel
theorem d_MO_combinator_1 : decode b_MO_combinator 1 = .ok (.iconst 0, 1) := by decide +kernel
theorem d_MO_combinator_2 : decode b_MO_combinator 2 = .ok (.invokevirtual 377, 3) := by decide +kernel
theorem d_MO_combinator_5 : decode b_MO_combinator 5 = .ok (.lstore_n 2, 1) := by decide +kernel
theorem d_MO_combinator_6 : decode b_MO_combinator 6 = .ok (.iload_n 1, 1) := by decide +kernel
theorem d_MO_combinator_7 : decode b_MO_combinator 7 = .ok (.iconst 2, 1) := by decide +kernel
theorem d_MO_combinator_8 : decode b_MO_combinator 8 = .ok (.if_icmp .le 11, 3) := by decide +kernel
theorem d_MO_combinator_11 : decode b_MO_combinator 11 = .ok (.aload_n 0, 1) := by decide +kernel
theorem d_MO_combinator_12 : decode b_MO_combinator 12 = .ok (.iconst 1, 1) := by decide +kernel
theorem d_MO_combinator_13 : decode b_MO_combinator 13 = .ok (.invokevirtual 377, 3) := by decide +kernel
theorem d_MO_combinator_16 : decode b_MO_combinator 16 = .ok (.goto 4, 3) := by decide +kernel
theorem d_MO_combinator_19 : decode b_MO_combinator 19 = .ok (.lconst 0, 1) := by decide +kernel
theorem d_MO_combinator_20 : decode b_MO_combinator 20 = .ok (.lstore 4, 2) := by decide +kernel
theorem d_MO_combinator_22 : decode b_MO_combinator 22 = .ok (.iload_n 1, 1) := by decide +kernel
theorem d_MO_combinator_23 : decode b_MO_combinator 23 = .ok (.invokestatic 380, 3) := by decide +kernel
theorem d_MO_combinator_26 : decode b_MO_combinator 26 = .ok (.iconst 2, 1) := by decide +kernel
theorem d_MO_combinator_27 : decode b_MO_combinator 27 = .ok (.if_icmp .le 11, 3) := by decide +kernel
theorem d_MO_combinator_30 : decode b_MO_combinator 30 = .ok (.aload_n 0, 1) := by decide +kernel
theorem d_MO_combinator_31 : decode b_MO_combinator 31 = .ok (.iconst 2, 1) := by decide +kernel
theorem d_MO_combinator_32 : decode b_MO_combinator 32 = .ok (.invokevirtual 377, 3) := by decide +kernel
theorem d_MO_combinator_35 : decode b_MO_combinator 35 = .ok (.goto 4, 3) := by decide +kernel
theorem d_MO_combinator_38 : decode b_MO_combinator 38 = .ok (.lconst 0, 1) := by decide +kernel
theorem d_MO_combinator_39 : decode b_MO_combinator 39 = .ok (.lstore 6, 2) := by decide +kernel
theorem d_MO_combinator_41 : decode b_MO_combinator 41 = .ok (.iload_n 1, 1) := by decide +kernel
theorem d_MO_combinator_42 : decode b_MO_combinator 42 = .ok (.invokestatic 380, 3) := by decide +kernel
theorem d_MO_combinator_45 : decode b_MO_combinator 45 = .ok (.iconst 3, 1) := by decide +kernel
theorem d_MO_combinator_46 : decode b_MO_combinator 46 = .ok (.if_icmp .le 11, 3) := by decide +kernel
theorem d_MO_combinator_49 : decode b_MO_combinator 49 = .ok (.aload_n 0, 1) := by decide +kernel
theorem d_MO_combinator_50 : decode b_MO_combinator 50 = .ok (.iconst 3, 1) := by decide +kernel
theorem d_MO_combinator_51 : decode b_MO_combinator 51 = .ok (.invokevirtual 377, 3) := by decide +kernel
theorem d_MO_combinator_54 : decode b_MO_combinator 54 = .ok (.goto 4, 3) := by decide +kernel
theorem d_MO_combinator_57 : decode b_MO_combinator 57 = .ok (.lconst 0, 1) := by decide +kernel
theorem d_MO_combinator_58 : decode b_MO_combinator 58 = .ok (.lstore 8, 2) := by decide +kernel
theorem d_MO_combinator_60 : decode b_MO_combinator 60 = .ok (.iload_n 1, 1) := by decide +kernel
theorem d_MO_combinator_61 : decode b_MO_combinator 61 = .ok (.iconst 4, 1) := by decide +kernel
theorem d_MO_combinator_62 : decode b_MO_combinator 62 = .ok (.if_icmp .ne 7, 3) := by decide +kernel
theorem d_MO_combinator_65 : decode b_MO_combinator 65 = .ok (.iconst 2, 1) := by decide +kernel
