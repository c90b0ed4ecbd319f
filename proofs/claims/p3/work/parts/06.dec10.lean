theorem d_MO_cut_163 : decode b_MO_cut 163 = .ok (.iconst 1, 1) := by decide +kernel
theorem d_MO_cut_164 : decode b_MO_cut 164 = .ok (.lload_n 3, 1) := by decide +kernel
theorem d_MO_cut_165 : decode b_MO_cut 165 = .ok (.invokevirtual 142, 3) := by decide +kernel
theorem d_MO_cut_168 : decode b_MO_cut 168 = .ok (.goto 103, 3) := by decide +kernel
theorem d_MO_cut_171 : decode b_MO_cut 171 = .ok (.iload_n 2, 1) := by decide +kernel
theorem d_MO_cut_172 : decode b_MO_cut 172 = .ok (.bipush 32, 2) := by decide +kernel
theorem d_MO_cut_174 : decode b_MO_cut 174 = .ok (.if_icmp .eq 9, 3) := by decide +kernel
theorem d_MO_cut_177 : decode b_MO_cut 177 = .ok (.iload_n 2, 1) := by decide +kernel
theorem d_MO_cut_178 : decode b_MO_cut 178 = .ok (.bipush 10, 2) := by decide +kernel
theorem d_MO_cut_180 : decode b_MO_cut 180 = .ok (.if_icmp .ne 9, 3) := by decide +kernel
theorem d_MO_cut_183 : decode b_MO_cut 183 = .ok (.iinc 1 1, 3) := by decide +kernel
theorem d_MO_cut_186 : decode b_MO_cut 186 = .ok (.goto 85, 3) := by decide +kernel
theorem d_MO_cut_189 : decode b_MO_cut 189 = .ok (.iload_n 2, 1) := by decide +kernel
theorem d_MO_cut_190 : decode b_MO_cut 190 = .ok (.invokestatic 153, 3) := by decide +kernel
theorem d_MO_cut_193 : decode b_MO_cut 193 = .ok (.ifCond .eq 73, 3) := by decide +kernel
theorem d_MO_cut_196 : decode b_MO_cut 196 = .ok (.iload_n 2, 1) := by decide +kernel
theorem d_MO_cut_197 : decode b_MO_cut 197 = .ok (.bipush 61, 2) := by decide +kernel
theorem d_MO_cut_199 : decode b_MO_cut 199 = .ok (.if_icmp .ne 30, 3) := by decide +kernel
theorem d_MO_cut_202 : decode b_MO_cut 202 = .ok (.iload_n 1, 1) := by decide +kernel
theorem d_MO_cut_203 : decode b_MO_cut 203 = .ok (.iconst 1, 1) := by decide +kernel
theorem d_MO_cut_204 : decode b_MO_cut 204 = .ok (.iadd, 1) := by decide +kernel
theorem d_MO_cut_205 : decode b_MO_cut 205 = .ok (.aload_n 0, 1) := by decide +kernel
theorem d_MO_cut_206 : decode b_MO_cut 206 = .ok (.getfield 125, 3) := by decide +kernel
theorem d_MO_cut_209 : decode b_MO_cut 209 = .ok (.if_icmp .ge 20, 3) := by decide +kernel
theorem d_MO_cut_212 : decode b_MO_cut 212 = .ok (.aload_n 0, 1) := by decide +kernel
theorem d_MO_cut_213 : decode b_MO_cut 213 = .ok (.getfield 7, 3) := by decide +kernel
theorem d_MO_cut_216 : decode b_MO_cut 216 = .ok (.iload_n 1, 1) := by decide +kernel
theorem d_MO_cut_217 : decode b_MO_cut 217 = .ok (.iconst 1, 1) := by decide +kernel
theorem d_MO_cut_218 : decode b_MO_cut 218 = .ok (.iadd, 1) := by decide +kernel
theorem d_MO_cut_219 : decode b_MO_cut 219 = .ok (.iaload, 1) := by decide +kernel
theorem d_MO_cut_220 : decode b_MO_cut 220 = .ok (.bipush 61, 2) := by decide +kernel
theorem d_MO_cut_222 : decode b_MO_cut 222 = .ok (.if_icmp .ne 7, 3) := by decide +kernel
theorem d_MO_cut_225 : decode b_MO_cut 225 = .ok (.iconst 1, 1) := by decide +kernel
theorem d_MO_cut_226 : decode b_MO_cut 226 = .ok (.goto 4, 3) := by decide +kernel
theorem d_MO_cut_229 : decode b_MO_cut 229 = .ok (.iconst 0, 1) := by decide +kernel
theorem d_MO_cut_230 : decode b_MO_cut 230 = .ok (.istore 6, 2) := by decide +kernel
theorem d_MO_cut_232 : decode b_MO_cut 232 = .ok (.aload_n 0, 1) := by decide +kernel
theorem d_MO_cut_233 : decode b_MO_cut 233 = .ok (.iconst 2, 1) := by decide +kernel
theorem d_MO_cut_234 : decode b_MO_cut 234 = .ok (.iload 6, 2) := by decide +kernel
theorem d_MO_cut_236 : decode b_MO_cut 236 = .ok (.ifCond .eq 9, 3) := by decide +kernel
theorem d_MO_cut_239 : decode b_MO_cut 239 = .ok (.ldc2_w 156, 3) := by decide +kernel
theorem d_MO_cut_242 : decode b_MO_cut 242 = .ok (.goto 5, 3) := by decide +kernel
theorem d_MO_cut_245 : decode b_MO_cut 245 = .ok (.iload_n 2, 1) := by decide +kernel
theorem d_MO_cut_246 : decode b_MO_cut 246 = .ok (.i2l, 1) := by decide +kernel
theorem d_MO_cut_247 : decode b_MO_cut 247 = .ok (.invokevirtual 142, 3) := by decide +kernel
theorem d_MO_cut_250 : decode b_MO_cut 250 = .ok (.iload_n 1, 1) := by decide +kernel
theorem d_MO_cut_251 : decode b_MO_cut 251 = .ok (.iload 6, 2) := by decide +kernel
theorem d_MO_cut_253 : decode b_MO_cut 253 = .ok (.ifCond .eq 7, 3) := by decide +kernel
theorem d_MO_cut_256 : decode b_MO_cut 256 = .ok (.iconst 2, 1) := by decide +kernel
theorem d_MO_cut_257 : decode b_MO_cut 257 = .ok (.goto 4, 3) := by decide +kernel
theorem d_MO_cut_260 : decode b_MO_cut 260 = .ok (.iconst 1, 1) := by decide +kernel
theorem d_MO_cut_261 : decode b_MO_cut 261 = .ok (.iadd, 1) := by decide +kernel
theorem d_MO_cut_262 : decode b_MO_cut 262 = .ok (.istore_n 1, 1) := by decide +kernel
theorem d_MO_cut_263 : decode b_MO_cut 263 = .ok (.goto 8, 3) := by decide +kernel
theorem d_MO_cut_266 : decode b_MO_cut 266 = .ok (.aload_n 0, 1) := by decide +kernel
theorem d_MO_cut_267 : decode b_MO_cut 267 = .ok (.iconst 1, 1) := by decide +kernel
theorem d_MO_cut_268 : decode b_MO_cut 268 = .ok (.invokevirtual 134, 3) := by decide +kernel
theorem d_MO_cut_271 : decode b_MO_cut 271 = .ok (.goto (-264), 3) := by decide +kernel
theorem d_MO_cut_274 : decode b_MO_cut 274 = .ok (.aload_n 0, 1) := by decide +kernel
theorem d_MO_cut_275 : decode b_MO_cut 275 = .ok (.getfield 13, 3) := by decide +kernel
theorem d_MO_cut_278 : decode b_MO_cut 278 = .ok (.aload_n 0, 1) := by decide +kernel
theorem d_MO_cut_279 : decode b_MO_cut 279 = .ok (.getfield 131, 3) := by decide +kernel
theorem d_MO_cut_282 : decode b_MO_cut 282 = .ok (.iconst 3, 1) := by decide +kernel
theorem d_MO_cut_283 : decode b_MO_cut 283 = .ok (.iastore, 1) := by decide +kernel
theorem d_MO_cut_284 : decode b_MO_cut 284 = .ok (.aload_n 0, 1) := by decide +kernel
theorem d_MO_cut_285 : decode b_MO_cut 285 = .ok (.getfield 16, 3) := by decide +kernel
theorem d_MO_cut_288 : decode b_MO_cut 288 = .ok (.aload_n 0, 1) := by decide +kernel
theorem d_MO_cut_289 : decode b_MO_cut 289 = .ok (.getfield 131, 3) := by decide +kernel
theorem d_MO_cut_292 : decode b_MO_cut 292 = .ok (.lconst 0, 1) := by decide +kernel
theorem d_MO_cut_293 : decode b_MO_cut 293 = .ok (.lastore, 1) := by decide +kernel
theorem d_MO_cut_294 : decode b_MO_cut 294 = .ok (.return_, 1) := by decide +kernel
theorem d_MO_isSign_0 : decode b_MO_isSign 0 = .ok (.aload_n 0, 1) := by decide +kernel
theorem d_MO_isSign_1 : decode b_MO_isSign 1 = .ok (.getfield 13, 3) := by decide +kernel
theorem d_MO_isSign_4 : decode b_MO_isSign 4 = .ok (.aload_n 0, 1) := by decide +kernel
theorem d_MO_isSign_5 : decode b_MO_isSign 5 = .ok (.getfield 158, 3) := by decide +kernel
theorem d_MO_isSign_8 : decode b_MO_isSign 8 = .ok (.iaload, 1) := by decide +kernel
theorem d_MO_isSign_9 : decode b_MO_isSign 9 = .ok (.iconst 2, 1) := by decide +kernel
theorem d_MO_isSign_10 : decode b_MO_isSign 10 = .ok (.if_icmp .ne 22, 3) := by decide +kernel
theorem d_MO_isSign_13 : decode b_MO_isSign 13 = .ok (.aload_n 0, 1) := by decide +kernel
theorem d_MO_isSign_14 : decode b_MO_isSign 14 = .ok (.getfield 16, 3) := by decide +kernel
theorem d_MO_isSign_17 : decode b_MO_isSign 17 = .ok (.aload_n 0, 1) := by decide +kernel
theorem d_MO_isSign_18 : decode b_MO_isSign 18 = .ok (.getfield 158, 3) := by decide +kernel
theorem d_MO_isSign_21 : decode b_MO_isSign 21 = .ok (.laload, 1) := by decide +kernel
theorem d_MO_isSign_22 : decode b_MO_isSign 22 = .ok (.iload_n 1, 1) := by decide +kernel
theorem d_MO_isSign_23 : decode b_MO_isSign 23 = .ok (.i2l, 1) := by decide +kernel
theorem d_MO_isSign_24 : decode b_MO_isSign 24 = .ok (.lcmp, 1) := by decide +kernel
theorem d_MO_isSign_25 : decode b_MO_isSign 25 = .ok (.ifCond .ne 7, 3) := by decide +kernel
theorem d_MO_isSign_28 : decode b_MO_isSign 28 = .ok (.iconst 1, 1) := by decide +kernel
theorem d_MO_isSign_29 : decode b_MO_isSign 29 = .ok (.goto 4, 3) := by decide +kernel
theorem d_MO_isSign_32 : decode b_MO_isSign 32 = .ok (.iconst 0, 1) := by decide +kernel
theorem d_MO_isSign_33 : decode b_MO_isSign 33 = .ok (.ireturn, 1) := by decide +kernel
theorem d_MO_isName_0 : decode b_MO_isName 0 = .ok (.aload_n 0, 1) := by decide +kernel
theorem d_MO_isName_1 : decode b_MO_isName 1 = .ok (.getfield 13, 3) := by decide +kernel
theorem d_MO_isName_4 : decode b_MO_isName 4 = .ok (.aload_n 0, 1) := by decide +kernel
theorem d_MO_isName_5 : decode b_MO_isName 5 = .ok (.getfield 158, 3) := by decide +kernel
theorem d_MO_isName_8 : decode b_MO_isName 8 = .ok (.iaload, 1) := by decide +kernel
theorem d_MO_isName_9 : decode b_MO_isName 9 = .ok (.ifCond .ne 71, 3) := by decide +kernel
theorem d_MO_isName_12 : decode b_MO_isName 12 = .ok (.aload_n 0, 1) := by decide +kernel
theorem d_MO_isName_13 : decode b_MO_isName 13 = .ok (.getfield 16, 3) := by decide +kernel
theorem d_MO_isName_16 : decode b_MO_isName 16 = .ok (.aload_n 0, 1) := by decide +kernel
theorem d_MO_isName_17 : decode b_MO_isName 17 = .ok (.getfield 158, 3) := by decide +kernel
theorem d_MO_isName_20 : decode b_MO_isName 20 = .ok (.laload, 1) := by decide +kernel
theorem d_MO_isName_21 : decode b_MO_isName 21 = .ok (.ldc2_w 161, 3) := by decide +kernel
theorem d_MO_isName_24 : decode b_MO_isName 24 = .ok (.lcmp, 1) := by decide +kernel
theorem d_MO_isName_25 : decode b_MO_isName 25 = .ok (.ifCond .eq 55, 3) := by decide +kernel
theorem d_MO_isName_28 : decode b_MO_isName 28 = .ok (.aload_n 0, 1) := by decide +kernel
theorem d_MO_isName_29 : decode b_MO_isName 29 = .ok (.getfield 16, 3) := by decide +kernel
theorem d_MO_isName_32 : decode b_MO_isName 32 = .ok (.aload_n 0, 1) := by decide +kernel
theorem d_MO_isName_33 : decode b_MO_isName 33 = .ok (.getfield 158, 3) := by decide +kernel
theorem d_MO_isName_36 : decode b_MO_isName 36 = .ok (.laload, 1) := by decide +kernel
theorem d_MO_isName_37 : decode b_MO_isName 37 = .ok (.ldc2_w 163, 3) := by decide +kernel
theorem d_MO_isName_40 : decode b_MO_isName 40 = .ok (.lcmp, 1) := by decide +kernel
theorem d_MO_isName_41 : decode b_MO_isName 41 = .ok (.ifCond .eq 39, 3) := by decide +kernel
theorem d_MO_isName_44 : decode b_MO_isName 44 = .ok (.aload_n 0, 1) := by decide +kernel
theorem d_MO_isName_45 : decode b_MO_isName 45 = .ok (.getfield 16, 3) := by decide +kernel
theorem d_MO_isName_48 : decode b_MO_isName 48 = .ok (.aload_n 0, 1) := by decide +kernel
theorem d_MO_isName_49 : decode b_MO_isName 49 = .ok (.getfield 158, 3) := by decide +kernel
theorem d_MO_isName_52 : decode b_MO_isName 52 = .ok (.laload, 1) := by decide +kernel
theorem d_MO_isName_53 : decode b_MO_isName 53 = .ok (.ldc2_w 165, 3) := by decide +kernel
theorem d_MO_isName_56 : decode b_MO_isName 56 = .ok (.lcmp, 1) := by decide +kernel
theorem d_MO_isName_57 : decode b_MO_isName 57 = .ok (.ifCond .eq 23, 3) := by decide +kernel
theorem d_MO_isName_60 : decode b_MO_isName 60 = .ok (.aload_n 0, 1) := by decide +kernel
theorem d_MO_isName_61 : decode b_MO_isName 61 = .ok (.getfield 16, 3) := by decide +kernel
theorem d_MO_isName_64 : decode b_MO_isName 64 = .ok (.aload_n 0, 1) := by decide +kernel
theorem d_MO_isName_65 : decode b_MO_isName 65 = .ok (.getfield 158, 3) := by decide +kernel
theorem d_MO_isName_68 : decode b_MO_isName 68 = .ok (.laload, 1) := by decide +kernel
theorem d_MO_isName_69 : decode b_MO_isName 69 = .ok (.ldc2_w 167, 3) := by decide +kernel
theorem d_MO_isName_72 : decode b_MO_isName 72 = .ok (.lcmp, 1) := by decide +kernel
theorem d_MO_isName_73 : decode b_MO_isName 73 = .ok (.ifCond .eq 7, 3) := by decide +kernel
theorem d_MO_isName_76 : decode b_MO_isName 76 = .ok (.iconst 1, 1) := by decide +kernel
theorem d_MO_isName_77 : decode b_MO_isName 77 = .ok (.goto 4, 3) := by decide +kernel
theorem d_MO_isName_80 : decode b_MO_isName 80 = .ok (.iconst 0, 1) := by decide +kernel
theorem d_MO_isName_81 : decode b_MO_isName 81 = .ok (.ireturn, 1) := by decide +kernel
theorem d_MO_isWord_0 : decode b_MO_isWord 0 = .ok (.aload_n 0, 1) := by decide +kernel
theorem d_MO_isWord_1 : decode b_MO_isWord 1 = .ok (.getfield 13, 3) := by decide +kernel
theorem d_MO_isWord_4 : decode b_MO_isWord 4 = .ok (.aload_n 0, 1) := by decide +kernel
theorem d_MO_isWord_5 : decode b_MO_isWord 5 = .ok (.getfield 158, 3) := by decide +kernel
theorem d_MO_isWord_8 : decode b_MO_isWord 8 = .ok (.iaload, 1) := by decide +kernel
theorem d_MO_isWord_9 : decode b_MO_isWord 9 = .ok (.ifCond .ne 21, 3) := by decide +kernel
theorem d_MO_isWord_12 : decode b_MO_isWord 12 = .ok (.aload_n 0, 1) := by decide +kernel
theorem d_MO_isWord_13 : decode b_MO_isWord 13 = .ok (.getfield 16, 3) := by decide +kernel
theorem d_MO_isWord_16 : decode b_MO_isWord 16 = .ok (.aload_n 0, 1) := by decide +kernel
theorem d_MO_isWord_17 : decode b_MO_isWord 17 = .ok (.getfield 158, 3) := by decide +kernel
theorem d_MO_isWord_20 : decode b_MO_isWord 20 = .ok (.laload, 1) := by decide +kernel
theorem d_MO_isWord_21 : decode b_MO_isWord 21 = .ok (.lload_n 1, 1) := by decide +kernel
theorem d_MO_isWord_22 : decode b_MO_isWord 22 = .ok (.lcmp, 1) := by decide +kernel
theorem d_MO_isWord_23 : decode b_MO_isWord 23 = .ok (.ifCond .ne 7, 3) := by decide +kernel
theorem d_MO_isWord_26 : decode b_MO_isWord 26 = .ok (.iconst 1, 1) := by decide +kernel
theorem d_MO_isWord_27 : decode b_MO_isWord 27 = .ok (.goto 4, 3) := by decide +kernel
theorem d_MO_isWord_30 : decode b_MO_isWord 30 = .ok (.iconst 0, 1) := by decide +kernel
theorem d_MO_isWord_31 : decode b_MO_isWord 31 = .ok (.ireturn, 1) := by decide +kernel
theorem d_MO_expect_0 : decode b_MO_expect 0 = .ok (.iload_n 1, 1) := by decide +kernel
theorem d_MO_expect_1 : decode b_MO_expect 1 = .ok (.ifCond .eq 16, 3) := by decide +kernel
theorem d_MO_expect_4 : decode b_MO_expect 4 = .ok (.aload_n 0, 1) := by decide +kernel
theorem d_MO_expect_5 : decode b_MO_expect 5 = .ok (.dup, 1) := by decide +kernel
theorem d_MO_expect_6 : decode b_MO_expect 6 = .ok (.getfield 158, 3) := by decide +kernel
theorem d_MO_expect_9 : decode b_MO_expect 9 = .ok (.iconst 1, 1) := by decide +kernel
theorem d_MO_expect_10 : decode b_MO_expect 10 = .ok (.iadd, 1) := by decide +kernel
theorem d_MO_expect_11 : decode b_MO_expect 11 = .ok (.putfield 158, 3) := by decide +kernel
theorem d_MO_expect_14 : decode b_MO_expect 14 = .ok (.goto 8, 3) := by decide +kernel
theorem d_MO_expect_17 : decode b_MO_expect 17 = .ok (.aload_n 0, 1) := by decide +kernel
theorem d_MO_expect_18 : decode b_MO_expect 18 = .ok (.iconst 1, 1) := by decide +kernel
theorem d_MO_expect_19 : decode b_MO_expect 19 = .ok (.invokevirtual 134, 3) := by decide +kernel
theorem d_MO_expect_22 : decode b_MO_expect 22 = .ok (.return_, 1) := by decide +kernel
theorem d_MO_term_0 : decode b_MO_term 0 = .ok (.iload_n 0, 1) := by decide +kernel
theorem d_MO_term_1 : decode b_MO_term 1 = .ok (.i2l, 1) := by decide +kernel
theorem d_MO_term_2 : decode b_MO_term 2 = .ok (.bipush 32, 2) := by decide +kernel
theorem d_MO_term_4 : decode b_MO_term 4 = .ok (.lshl, 1) := by decide +kernel
theorem d_MO_term_5 : decode b_MO_term 5 = .ok (.iload_n 1, 1) := by decide +kernel
theorem d_MO_term_6 : decode b_MO_term 6 = .ok (.i2l, 1) := by decide +kernel
theorem d_MO_term_7 : decode b_MO_term 7 = .ok (.ldc2_w 169, 3) := by decide +kernel
theorem d_MO_term_10 : decode b_MO_term 10 = .ok (.land, 1) := by decide +kernel
theorem d_MO_term_11 : decode b_MO_term 11 = .ok (.lor, 1) := by decide +kernel
theorem d_MO_term_12 : decode b_MO_term 12 = .ok (.lreturn, 1) := by decide +kernel
theorem d_MO_kindOf_0 : decode b_MO_kindOf 0 = .ok (.lload_n 0, 1) := by decide +kernel
theorem d_MO_kindOf_1 : decode b_MO_kindOf 1 = .ok (.bipush 32, 2) := by decide +kernel
theorem d_MO_kindOf_3 : decode b_MO_kindOf 3 = .ok (.lshr, 1) := by decide +kernel
theorem d_MO_kindOf_4 : decode b_MO_kindOf 4 = .ok (.l2i, 1) := by decide +kernel
theorem d_MO_kindOf_5 : decode b_MO_kindOf 5 = .ok (.ireturn, 1) := by decide +kernel
theorem d_MO_valueOf_0 : decode b_MO_valueOf 0 = .ok (.lload_n 0, 1) := by decide +kernel
theorem d_MO_valueOf_1 : decode b_MO_valueOf 1 = .ok (.l2i, 1) := by decide +kernel
theorem d_MO_valueOf_2 : decode b_MO_valueOf 2 = .ok (.ireturn, 1) := by decide +kernel
theorem d_MO_constant_0 : decode b_MO_constant 0 = .ok (.iconst 2, 1) := by decide +kernel
theorem d_MO_constant_1 : decode b_MO_constant 1 = .ok (.iload_n 0, 1) := by decide +kernel
theorem d_MO_constant_2 : decode b_MO_constant 2 = .ok (.invokestatic 171, 3) := by decide +kernel
theorem d_MO_constant_5 : decode b_MO_constant 5 = .ok (.lreturn, 1) := by decide +kernel
theorem d_MO_apply_0 : decode b_MO_apply 0 = .ok (.aload_n 0, 1) := by decide +kernel
theorem d_MO_apply_1 : decode b_MO_apply 1 = .ok (.getfield 175, 3) := by decide +kernel
theorem d_MO_apply_4 : decode b_MO_apply 4 = .ok (.ifCond .ne 13, 3) := by decide +kernel
theorem d_MO_apply_7 : decode b_MO_apply 7 = .ok (.aload_n 0, 1) := by decide +kernel
theorem d_MO_apply_8 : decode b_MO_apply 8 = .ok (.iconst 3, 1) := by decide +kernel
theorem d_MO_apply_9 : decode b_MO_apply 9 = .ok (.invokevirtual 134, 3) := by decide +kernel
theorem d_MO_apply_12 : decode b_MO_apply 12 = .ok (.iconst 2, 1) := by decide +kernel
theorem d_MO_apply_13 : decode b_MO_apply 13 = .ok (.invokestatic 178, 3) := by decide +kernel
theorem d_MO_apply_16 : decode b_MO_apply 16 = .ok (.lreturn, 1) := by decide +kernel
theorem d_MO_apply_17 : decode b_MO_apply 17 = .ok (.aload_n 0, 1) := by decide +kernel
theorem d_MO_apply_18 : decode b_MO_apply 18 = .ok (.dup, 1) := by decide +kernel
theorem d_MO_apply_19 : decode b_MO_apply 19 = .ok (.getfield 175, 3) := by decide +kernel
theorem d_MO_apply_22 : decode b_MO_apply 22 = .ok (.iconst 1, 1) := by decide +kernel
theorem d_MO_apply_23 : decode b_MO_apply 23 = .ok (.isub, 1) := by decide +kernel
theorem d_MO_apply_24 : decode b_MO_apply 24 = .ok (.putfield 175, 3) := by decide +kernel
theorem d_MO_apply_27 : decode b_MO_apply 27 = .ok (.aload_n 0, 1) := by decide +kernel
theorem d_MO_apply_28 : decode b_MO_apply 28 = .ok (.getfield 26, 3) := by decide +kernel
theorem d_MO_apply_31 : decode b_MO_apply 31 = .ok (.aload_n 0, 1) := by decide +kernel
theorem d_MO_apply_32 : decode b_MO_apply 32 = .ok (.getfield 175, 3) := by decide +kernel
theorem d_MO_apply_35 : decode b_MO_apply 35 = .ok (.iaload, 1) := by decide +kernel
theorem d_MO_apply_36 : decode b_MO_apply 36 = .ok (.istore 5, 2) := by decide +kernel
theorem d_MO_apply_38 : decode b_MO_apply 38 = .ok (.aload_n 0, 1) := by decide +kernel
theorem d_MO_apply_39 : decode b_MO_apply 39 = .ok (.getfield 20, 3) := by decide +kernel
theorem d_MO_apply_42 : decode b_MO_apply 42 = .ok (.iload 5, 2) := by decide +kernel
theorem d_MO_apply_44 : decode b_MO_apply 44 = .ok (.lload_n 1, 1) := by decide +kernel
theorem d_MO_apply_45 : decode b_MO_apply 45 = .ok (.lastore, 1) := by decide +kernel
theorem d_MO_apply_46 : decode b_MO_apply 46 = .ok (.aload_n 0, 1) := by decide +kernel
theorem d_MO_apply_47 : decode b_MO_apply 47 = .ok (.getfield 23, 3) := by decide +kernel
theorem d_MO_apply_50 : decode b_MO_apply 50 = .ok (.iload 5, 2) := by decide +kernel
theorem d_MO_apply_52 : decode b_MO_apply 52 = .ok (.lload_n 3, 1) := by decide +kernel
theorem d_MO_apply_53 : decode b_MO_apply 53 = .ok (.lastore, 1) := by decide +kernel
theorem d_MO_apply_54 : decode b_MO_apply 54 = .ok (.iconst 3, 1) := by decide +kernel
theorem d_MO_apply_55 : decode b_MO_apply 55 = .ok (.iload 5, 2) := by decide +kernel
theorem d_MO_apply_57 : decode b_MO_apply 57 = .ok (.invokestatic 171, 3) := by decide +kernel
theorem d_MO_apply_60 : decode b_MO_apply 60 = .ok (.lreturn, 1) := by decide +kernel
theorem d_MO_release_0 : decode b_MO_release 0 = .ok (.aload_n 0, 1) := by decide +kernel
theorem d_MO_release_1 : decode b_MO_release 1 = .ok (.getfield 26, 3) := by decide +kernel
theorem d_MO_release_4 : decode b_MO_release 4 = .ok (.aload_n 0, 1) := by decide +kernel
theorem d_MO_release_5 : decode b_MO_release 5 = .ok (.getfield 175, 3) := by decide +kernel
theorem d_MO_release_8 : decode b_MO_release 8 = .ok (.lload_n 1, 1) := by decide +kernel
theorem d_MO_release_9 : decode b_MO_release 9 = .ok (.invokestatic 182, 3) := by decide +kernel
theorem d_MO_release_12 : decode b_MO_release 12 = .ok (.iastore, 1) := by decide +kernel
theorem d_MO_release_13 : decode b_MO_release 13 = .ok (.aload_n 0, 1) := by decide +kernel
theorem d_MO_release_14 : decode b_MO_release 14 = .ok (.dup, 1) := by decide +kernel
theorem d_MO_release_15 : decode b_MO_release 15 = .ok (.getfield 175, 3) := by decide +kernel
theorem d_MO_release_18 : decode b_MO_release 18 = .ok (.iconst 1, 1) := by decide +kernel
theorem d_MO_release_19 : decode b_MO_release 19 = .ok (.iadd, 1) := by decide +kernel
theorem d_MO_release_20 : decode b_MO_release 20 = .ok (.putfield 175, 3) := by decide +kernel
theorem d_MO_release_23 : decode b_MO_release 23 = .ok (.return_, 1) := by decide +kernel
theorem d_MO_isApplied_0 : decode b_MO_isApplied 0 = .ok (.lload_n 1, 1) := by decide +kernel
theorem d_MO_isApplied_1 : decode b_MO_isApplied 1 = .ok (.invokestatic 186, 3) := by decide +kernel
theorem d_MO_isApplied_4 : decode b_MO_isApplied 4 = .ok (.iconst 3, 1) := by decide +kernel
theorem d_MO_isApplied_5 : decode b_MO_isApplied 5 = .ok (.if_icmp .ne 24, 3) := by decide +kernel
theorem d_MO_isApplied_8 : decode b_MO_isApplied 8 = .ok (.aload_n 0, 1) := by decide +kernel
theorem d_MO_isApplied_9 : decode b_MO_isApplied 9 = .ok (.getfield 20, 3) := by decide +kernel
theorem d_MO_isApplied_12 : decode b_MO_isApplied 12 = .ok (.lload_n 1, 1) := by decide +kernel
theorem d_MO_isApplied_13 : decode b_MO_isApplied 13 = .ok (.invokestatic 182, 3) := by decide +kernel
theorem d_MO_isApplied_16 : decode b_MO_isApplied 16 = .ok (.laload, 1) := by decide +kernel
theorem d_MO_isApplied_17 : decode b_MO_isApplied 17 = .ok (.iload_n 3, 1) := by decide +kernel
theorem d_MO_isApplied_18 : decode b_MO_isApplied 18 = .ok (.invokestatic 178, 3) := by decide +kernel
theorem d_MO_isApplied_21 : decode b_MO_isApplied 21 = .ok (.lcmp, 1) := by decide +kernel
theorem d_MO_isApplied_22 : decode b_MO_isApplied 22 = .ok (.ifCond .ne 7, 3) := by decide +kernel
theorem d_MO_isApplied_25 : decode b_MO_isApplied 25 = .ok (.iconst 1, 1) := by decide +kernel
theorem d_MO_isApplied_26 : decode b_MO_isApplied 26 = .ok (.goto 4, 3) := by decide +kernel
theorem d_MO_isApplied_29 : decode b_MO_isApplied 29 = .ok (.iconst 0, 1) := by decide +kernel
theorem d_MO_isApplied_30 : decode b_MO_isApplied 30 = .ok (.ireturn, 1) := by decide +kernel
theorem d_MO_cells_0 : decode b_MO_cells 0 = .ok (.iconst 0, 1) := by decide +kernel
theorem d_MO_cells_1 : decode b_MO_cells 1 = .ok (.istore_n 3, 1) := by decide +kernel
theorem d_MO_cells_2 : decode b_MO_cells 2 = .ok (.lload_n 1, 1) := by decide +kernel
theorem d_MO_cells_3 : decode b_MO_cells 3 = .ok (.invokestatic 186, 3) := by decide +kernel
theorem d_MO_cells_6 : decode b_MO_cells 6 = .ok (.iconst 3, 1) := by decide +kernel
theorem d_MO_cells_7 : decode b_MO_cells 7 = .ok (.if_icmp .ne 15, 3) := by decide +kernel
theorem d_MO_cells_10 : decode b_MO_cells 10 = .ok (.aload_n 0, 1) := by decide +kernel
theorem d_MO_cells_11 : decode b_MO_cells 11 = .ok (.getfield 29, 3) := by decide +kernel
theorem d_MO_cells_14 : decode b_MO_cells 14 = .ok (.iconst 0, 1) := by decide +kernel
theorem d_MO_cells_15 : decode b_MO_cells 15 = .ok (.lload_n 1, 1) := by decide +kernel
theorem d_MO_cells_16 : decode b_MO_cells 16 = .ok (.invokestatic 182, 3) := by decide +kernel
theorem d_MO_cells_19 : decode b_MO_cells 19 = .ok (.iastore, 1) := by decide +kernel
theorem d_MO_cells_20 : decode b_MO_cells 20 = .ok (.iconst 1, 1) := by decide +kernel
theorem d_MO_cells_21 : decode b_MO_cells 21 = .ok (.istore_n 3, 1) := by decide +kernel
theorem d_MO_cells_22 : decode b_MO_cells 22 = .ok (.iconst 0, 1) := by decide +kernel
theorem d_MO_cells_23 : decode b_MO_cells 23 = .ok (.istore 4, 2) := by decide +kernel
theorem d_MO_cells_25 : decode b_MO_cells 25 = .ok (.iload 4, 2) := by decide +kernel
theorem d_MO_cells_27 : decode b_MO_cells 27 = .ok (.iload_n 3, 1) := by decide +kernel
theorem d_MO_cells_28 : decode b_MO_cells 28 = .ok (.if_icmp .ge 84, 3) := by decide +kernel
theorem d_MO_cells_31 : decode b_MO_cells 31 = .ok (.aload_n 0, 1) := by decide +kernel
theorem d_MO_cells_32 : decode b_MO_cells 32 = .ok (.getfield 29, 3) := by decide +kernel
theorem d_MO_cells_35 : decode b_MO_cells 35 = .ok (.iload 4, 2) := by decide +kernel
theorem d_MO_cells_37 : decode b_MO_cells 37 = .ok (.iaload, 1) := by decide +kernel
theorem d_MO_cells_38 : decode b_MO_cells 38 = .ok (.istore 5, 2) := by decide +kernel
theorem d_MO_cells_40 : decode b_MO_cells 40 = .ok (.aload_n 0, 1) := by decide +kernel
theorem d_MO_cells_41 : decode b_MO_cells 41 = .ok (.getfield 20, 3) := by decide +kernel
theorem d_MO_cells_44 : decode b_MO_cells 44 = .ok (.iload 5, 2) := by decide +kernel
theorem d_MO_cells_46 : decode b_MO_cells 46 = .ok (.laload, 1) := by decide +kernel
theorem d_MO_cells_47 : decode b_MO_cells 47 = .ok (.invokestatic 186, 3) := by decide +kernel
theorem d_MO_cells_50 : decode b_MO_cells 50 = .ok (.iconst 3, 1) := by decide +kernel
theorem d_MO_cells_51 : decode b_MO_cells 51 = .ok (.if_icmp .ne 22, 3) := by decide +kernel
theorem d_MO_cells_54 : decode b_MO_cells 54 = .ok (.aload_n 0, 1) := by decide +kernel
theorem d_MO_cells_55 : decode b_MO_cells 55 = .ok (.getfield 29, 3) := by decide +kernel
theorem d_MO_cells_58 : decode b_MO_cells 58 = .ok (.iload_n 3, 1) := by decide +kernel
theorem d_MO_cells_59 : decode b_MO_cells 59 = .ok (.aload_n 0, 1) := by decide +kernel
theorem d_MO_cells_60 : decode b_MO_cells 60 = .ok (.getfield 20, 3) := by decide +kernel
theorem d_MO_cells_63 : decode b_MO_cells 63 = .ok (.iload 5, 2) := by decide +kernel
theorem d_MO_cells_65 : decode b_MO_cells 65 = .ok (.laload, 1) := by decide +kernel
theorem d_MO_cells_66 : decode b_MO_cells 66 = .ok (.invokestatic 182, 3) := by decide +kernel
theorem d_MO_cells_69 : decode b_MO_cells 69 = .ok (.iastore, 1) := by decide +kernel
theorem d_MO_cells_70 : decode b_MO_cells 70 = .ok (.iinc 3 1, 3) := by decide +kernel
theorem d_MO_cells_73 : decode b_MO_cells 73 = .ok (.aload_n 0, 1) := by decide +kernel
theorem d_MO_cells_74 : decode b_MO_cells 74 = .ok (.getfield 23, 3) := by decide +kernel
theorem d_MO_cells_77 : decode b_MO_cells 77 = .ok (.iload 5, 2) := by decide +kernel
theorem d_MO_cells_79 : decode b_MO_cells 79 = .ok (.laload, 1) := by decide +kernel
theorem d_MO_cells_80 : decode b_MO_cells 80 = .ok (.invokestatic 186, 3) := by decide +kernel
theorem d_MO_cells_83 : decode b_MO_cells 83 = .ok (.iconst 3, 1) := by decide +kernel
theorem d_MO_cells_84 : decode b_MO_cells 84 = .ok (.if_icmp .ne 22, 3) := by decide +kernel
theorem d_MO_cells_87 : decode b_MO_cells 87 = .ok (.aload_n 0, 1) := by decide +kernel
theorem d_MO_cells_88 : decode b_MO_cells 88 = .ok (.getfield 29, 3) := by decide +kernel
theorem d_MO_cells_91 : decode b_MO_cells 91 = .ok (.iload_n 3, 1) := by decide +kernel
theorem d_MO_cells_92 : decode b_MO_cells 92 = .ok (.aload_n 0, 1) := by decide +kernel
theorem d_MO_cells_93 : decode b_MO_cells 93 = .ok (.getfield 23, 3) := by decide +kernel
theorem d_MO_cells_96 : decode b_MO_cells 96 = .ok (.iload 5, 2) := by decide +kernel
theorem d_MO_cells_98 : decode b_MO_cells 98 = .ok (.laload, 1) := by decide +kernel
theorem d_MO_cells_99 : decode b_MO_cells 99 = .ok (.invokestatic 182, 3) := by decide +kernel
theorem d_MO_cells_102 : decode b_MO_cells 102 = .ok (.iastore, 1) := by decide +kernel
theorem d_MO_cells_103 : decode b_MO_cells 103 = .ok (.iinc 3 1, 3) := by decide +kernel
theorem d_MO_cells_106 : decode b_MO_cells 106 = .ok (.iinc 4 1, 3) := by decide +kernel
theorem d_MO_cells_109 : decode b_MO_cells 109 = .ok (.goto (-84), 3) := by decide +kernel
theorem d_MO_cells_112 : decode b_MO_cells 112 = .ok (.iload_n 3, 1) := by decide +kernel
theorem d_MO_cells_113 : decode b_MO_cells 113 = .ok (.ireturn, 1) := by decide +kernel
theorem d_MO_having_0 : decode b_MO_having 0 = .ok (.lload_n 1, 1) := by decide +kernel
theorem d_MO_having_1 : decode b_MO_having 1 = .ok (.lload_n 3, 1) := by decide +kernel
theorem d_MO_having_2 : decode b_MO_having 2 = .ok (.lcmp, 1) := by decide +kernel
theorem d_MO_having_3 : decode b_MO_having 3 = .ok (.ifCond .eq 23, 3) := by decide +kernel
theorem d_MO_having_6 : decode b_MO_having 6 = .ok (.lload_n 1, 1) := by decide +kernel
theorem d_MO_having_7 : decode b_MO_having 7 = .ok (.invokestatic 186, 3) := by decide +kernel
theorem d_MO_having_10 : decode b_MO_having 10 = .ok (.iconst 3, 1) := by decide +kernel
theorem d_MO_having_11 : decode b_MO_having 11 = .ok (.if_icmp .ne 19, 3) := by decide +kernel
theorem d_MO_having_14 : decode b_MO_having 14 = .ok (.aload_n 0, 1) := by decide +kernel
theorem d_MO_having_15 : decode b_MO_having 15 = .ok (.getfield 32, 3) := by decide +kernel
theorem d_MO_having_18 : decode b_MO_having 18 = .ok (.lload_n 1, 1) := by decide +kernel
theorem d_MO_having_19 : decode b_MO_having 19 = .ok (.invokestatic 182, 3) := by decide +kernel
theorem d_MO_having_22 : decode b_MO_having 22 = .ok (.baload, 1) := by decide +kernel
theorem d_MO_having_23 : decode b_MO_having 23 = .ok (.ifCond .eq 7, 3) := by decide +kernel
theorem d_MO_having_26 : decode b_MO_having 26 = .ok (.iconst 1, 1) := by decide +kernel
theorem d_MO_having_27 : decode b_MO_having 27 = .ok (.goto 4, 3) := by decide +kernel
theorem d_MO_having_30 : decode b_MO_having 30 = .ok (.iconst 0, 1) := by decide +kernel
theorem d_MO_having_31 : decode b_MO_having 31 = .ok (.ireturn, 1) := by decide +kernel
theorem d_MO_side_0 : decode b_MO_side 0 = .ok (.lload_n 1, 1) := by decide +kernel
theorem d_MO_side_1 : decode b_MO_side 1 = .ok (.lload_n 3, 1) := by decide +kernel
theorem d_MO_side_2 : decode b_MO_side 2 = .ok (.lcmp, 1) := by decide +kernel
theorem d_MO_side_3 : decode b_MO_side 3 = .ok (.ifCond .ne 8, 3) := by decide +kernel
theorem d_MO_side_6 : decode b_MO_side 6 = .ok (.iconst 2, 1) := by decide +kernel
theorem d_MO_side_7 : decode b_MO_side 7 = .ok (.invokestatic 178, 3) := by decide +kernel
theorem d_MO_side_10 : decode b_MO_side 10 = .ok (.lreturn, 1) := by decide +kernel
theorem d_MO_side_11 : decode b_MO_side 11 = .ok (.aload_n 0, 1) := by decide +kernel
theorem d_MO_side_12 : decode b_MO_side 12 = .ok (.lload_n 1, 1) := by decide +kernel
theorem d_MO_side_13 : decode b_MO_side 13 = .ok (.lload_n 3, 1) := by decide +kernel
theorem d_MO_side_14 : decode b_MO_side 14 = .ok (.invokevirtual 189, 3) := by decide +kernel
theorem d_MO_side_17 : decode b_MO_side 17 = .ok (.ifCond .eq 15, 3) := by decide +kernel
theorem d_MO_side_20 : decode b_MO_side 20 = .ok (.aload_n 0, 1) := by decide +kernel
theorem d_MO_side_21 : decode b_MO_side 21 = .ok (.getfield 36, 3) := by decide +kernel
theorem d_MO_side_24 : decode b_MO_side 24 = .ok (.lload_n 1, 1) := by decide +kernel
theorem d_MO_side_25 : decode b_MO_side 25 = .ok (.invokestatic 182, 3) := by decide +kernel
theorem d_MO_side_28 : decode b_MO_side 28 = .ok (.laload, 1) := by decide +kernel
theorem d_MO_side_29 : decode b_MO_side 29 = .ok (.goto 12, 3) := by decide +kernel
theorem d_MO_side_32 : decode b_MO_side 32 = .ok (.aload_n 0, 1) := by decide +kernel
theorem d_MO_side_33 : decode b_MO_side 33 = .ok (.iconst 3, 1) := by decide +kernel
theorem d_MO_side_34 : decode b_MO_side 34 = .ok (.invokestatic 178, 3) := by decide +kernel
theorem d_MO_side_37 : decode b_MO_side 37 = .ok (.lload_n 1, 1) := by decide +kernel
theorem d_MO_side_38 : decode b_MO_side 38 = .ok (.invokevirtual 193, 3) := by decide +kernel
theorem d_MO_side_41 : decode b_MO_side 41 = .ok (.lreturn, 1) := by decide +kernel
theorem d_MO_combined_0 : decode b_MO_combined 0 = .ok (.aload_n 0, 1) := by decide +kernel
theorem d_MO_combined_1 : decode b_MO_combined 1 = .ok (.lload_n 1, 1) := by decide +kernel
theorem d_MO_combined_2 : decode b_MO_combined 2 = .ok (.iconst 3, 1) := by decide +kernel
theorem d_MO_combined_3 : decode b_MO_combined 3 = .ok (.invokevirtual 197, 3) := by decide +kernel
theorem d_MO_combined_6 : decode b_MO_combined 6 = .ok (.istore 5, 2) := by decide +kernel
theorem d_MO_combined_8 : decode b_MO_combined 8 = .ok (.aload_n 0, 1) := by decide +kernel
theorem d_MO_combined_9 : decode b_MO_combined 9 = .ok (.lload_n 3, 1) := by decide +kernel
theorem d_MO_combined_10 : decode b_MO_combined 10 = .ok (.iconst 3, 1) := by decide +kernel
theorem d_MO_combined_11 : decode b_MO_combined 11 = .ok (.invokevirtual 197, 3) := by decide +kernel
theorem d_MO_combined_14 : decode b_MO_combined 14 = .ok (.istore 6, 2) := by decide +kernel
theorem d_MO_combined_16 : decode b_MO_combined 16 = .ok (.iload 5, 2) := by decide +kernel
theorem d_MO_combined_18 : decode b_MO_combined 18 = .ok (.ifCond .eq 15, 3) := by decide +kernel
theorem d_MO_combined_21 : decode b_MO_combined 21 = .ok (.aload_n 0, 1) := by decide +kernel
theorem d_MO_combined_22 : decode b_MO_combined 22 = .ok (.getfield 23, 3) := by decide +kernel
theorem d_MO_combined_25 : decode b_MO_combined 25 = .ok (.lload_n 1, 1) := by decide +kernel
theorem d_MO_combined_26 : decode b_MO_combined 26 = .ok (.invokestatic 182, 3) := by decide +kernel
theorem d_MO_combined_29 : decode b_MO_combined 29 = .ok (.laload, 1) := by decide +kernel
theorem d_MO_combined_30 : decode b_MO_combined 30 = .ok (.goto 4, 3) := by decide +kernel
theorem d_MO_combined_33 : decode b_MO_combined 33 = .ok (.lconst 0, 1) := by decide +kernel
theorem d_MO_combined_34 : decode b_MO_combined 34 = .ok (.lstore 7, 2) := by decide +kernel
theorem d_MO_combined_36 : decode b_MO_combined 36 = .ok (.iload 6, 2) := by decide +kernel
theorem d_MO_combined_38 : decode b_MO_combined 38 = .ok (.ifCond .eq 15, 3) := by decide +kernel
theorem d_MO_combined_41 : decode b_MO_combined 41 = .ok (.aload_n 0, 1) := by decide +kernel
theorem d_MO_combined_42 : decode b_MO_combined 42 = .ok (.getfield 23, 3) := by decide +kernel
theorem d_MO_combined_45 : decode b_MO_combined 45 = .ok (.lload_n 3, 1) := by decide +kernel
theorem d_MO_combined_46 : decode b_MO_combined 46 = .ok (.invokestatic 182, 3) := by decide +kernel
theorem d_MO_combined_49 : decode b_MO_combined 49 = .ok (.laload, 1) := by decide +kernel
theorem d_MO_combined_50 : decode b_MO_combined 50 = .ok (.goto 4, 3) := by decide +kernel
theorem d_MO_combined_53 : decode b_MO_combined 53 = .ok (.lconst 0, 1) := by decide +kernel
theorem d_MO_combined_54 : decode b_MO_combined 54 = .ok (.lstore 9, 2) := by decide +kernel
theorem d_MO_combined_56 : decode b_MO_combined 56 = .ok (.lload_n 1, 1) := by decide +kernel
theorem d_MO_combined_57 : decode b_MO_combined 57 = .ok (.invokestatic 186, 3) := by decide +kernel
theorem d_MO_combined_60 : decode b_MO_combined 60 = .ok (.iconst 3, 1) := by decide +kernel
theorem d_MO_combined_61 : decode b_MO_combined 61 = .ok (.if_icmp .ne 24, 3) := by decide +kernel
theorem d_MO_combined_64 : decode b_MO_combined 64 = .ok (.aload_n 0, 1) := by decide +kernel
theorem d_MO_combined_65 : decode b_MO_combined 65 = .ok (.aload_n 0, 1) := by decide +kernel
theorem d_MO_combined_66 : decode b_MO_combined 66 = .ok (.getfield 20, 3) := by decide +kernel
theorem d_MO_combined_69 : decode b_MO_combined 69 = .ok (.lload_n 1, 1) := by decide +kernel
theorem d_MO_combined_70 : decode b_MO_combined 70 = .ok (.invokestatic 182, 3) := by decide +kernel
theorem d_MO_combined_73 : decode b_MO_combined 73 = .ok (.laload, 1) := by decide +kernel
theorem d_MO_combined_74 : decode b_MO_combined 74 = .ok (.iconst 5, 1) := by decide +kernel
theorem d_MO_combined_75 : decode b_MO_combined 75 = .ok (.invokevirtual 197, 3) := by decide +kernel
theorem d_MO_combined_78 : decode b_MO_combined 78 = .ok (.ifCond .eq 7, 3) := by decide +kernel
theorem d_MO_combined_81 : decode b_MO_combined 81 = .ok (.iconst 1, 1) := by decide +kernel
