theorem d_MO_init_57 : decode b_MO_init 57 = .ok (.sipush 2000, 3) := by decide +kernel
theorem d_MO_init_60 : decode b_MO_init 60 = .ok (.newarray .int, 2) := by decide +kernel
theorem d_MO_init_62 : decode b_MO_init 62 = .ok (.putfield 29, 3) := by decide +kernel
theorem d_MO_init_65 : decode b_MO_init 65 = .ok (.aload_n 0, 1) := by decide +kernel
theorem d_MO_init_66 : decode b_MO_init 66 = .ok (.sipush 2000, 3) := by decide +kernel
theorem d_MO_init_69 : decode b_MO_init 69 = .ok (.newarray .boolean, 2) := by decide +kernel
theorem d_MO_init_71 : decode b_MO_init 71 = .ok (.putfield 32, 3) := by decide +kernel
theorem d_MO_init_74 : decode b_MO_init 74 = .ok (.aload_n 0, 1) := by decide +kernel
theorem d_MO_init_75 : decode b_MO_init 75 = .ok (.sipush 2000, 3) := by decide +kernel
theorem d_MO_init_78 : decode b_MO_init 78 = .ok (.newarray .long, 2) := by decide +kernel
theorem d_MO_init_80 : decode b_MO_init 80 = .ok (.putfield 36, 3) := by decide +kernel
theorem d_MO_init_83 : decode b_MO_init 83 = .ok (.aload_n 0, 1) := by decide +kernel
theorem d_MO_init_84 : decode b_MO_init 84 = .ok (.bipush 9, 2) := by decide +kernel
theorem d_MO_init_86 : decode b_MO_init 86 = .ok (.newarray .int, 2) := by decide +kernel
theorem d_MO_init_88 : decode b_MO_init 88 = .ok (.putfield 39, 3) := by decide +kernel
theorem d_MO_init_91 : decode b_MO_init 91 = .ok (.aload_n 0, 1) := by decide +kernel
theorem d_MO_init_92 : decode b_MO_init 92 = .ok (.bipush 9, 2) := by decide +kernel
theorem d_MO_init_94 : decode b_MO_init 94 = .ok (.newarray .int, 2) := by decide +kernel
theorem d_MO_init_96 : decode b_MO_init 96 = .ok (.putfield 42, 3) := by decide +kernel
theorem d_MO_init_99 : decode b_MO_init 99 = .ok (.aload_n 0, 1) := by decide +kernel
theorem d_MO_init_100 : decode b_MO_init 100 = .ok (.bipush 9, 2) := by decide +kernel
theorem d_MO_init_102 : decode b_MO_init 102 = .ok (.newarray .int, 2) := by decide +kernel
theorem d_MO_init_104 : decode b_MO_init 104 = .ok (.putfield 45, 3) := by decide +kernel
theorem d_MO_init_107 : decode b_MO_init 107 = .ok (.aload_n 0, 1) := by decide +kernel
theorem d_MO_init_108 : decode b_MO_init 108 = .ok (.bipush 9, 2) := by decide +kernel
theorem d_MO_init_110 : decode b_MO_init 110 = .ok (.newarray .boolean, 2) := by decide +kernel
theorem d_MO_init_112 : decode b_MO_init 112 = .ok (.putfield 48, 3) := by decide +kernel
theorem d_MO_init_115 : decode b_MO_init 115 = .ok (.aload_n 0, 1) := by decide +kernel
theorem d_MO_init_116 : decode b_MO_init 116 = .ok (.bipush 9, 2) := by decide +kernel
theorem d_MO_init_118 : decode b_MO_init 118 = .ok (.newarray .boolean, 2) := by decide +kernel
theorem d_MO_init_120 : decode b_MO_init 120 = .ok (.putfield 51, 3) := by decide +kernel
theorem d_MO_init_123 : decode b_MO_init 123 = .ok (.aload_n 0, 1) := by decide +kernel
theorem d_MO_init_124 : decode b_MO_init 124 = .ok (.bipush 120, 2) := by decide +kernel
theorem d_MO_init_126 : decode b_MO_init 126 = .ok (.newarray .long, 2) := by decide +kernel
theorem d_MO_init_128 : decode b_MO_init 128 = .ok (.putfield 54, 3) := by decide +kernel
theorem d_MO_init_131 : decode b_MO_init 131 = .ok (.aload_n 0, 1) := by decide +kernel
theorem d_MO_init_132 : decode b_MO_init 132 = .ok (.bipush 120, 2) := by decide +kernel
theorem d_MO_init_134 : decode b_MO_init 134 = .ok (.newarray .int, 2) := by decide +kernel
theorem d_MO_init_136 : decode b_MO_init 136 = .ok (.putfield 57, 3) := by decide +kernel
theorem d_MO_init_139 : decode b_MO_init 139 = .ok (.aload_n 0, 1) := by decide +kernel
theorem d_MO_init_140 : decode b_MO_init 140 = .ok (.bipush 16, 2) := by decide +kernel
theorem d_MO_init_142 : decode b_MO_init 142 = .ok (.newarray .long, 2) := by decide +kernel
theorem d_MO_init_144 : decode b_MO_init 144 = .ok (.putfield 60, 3) := by decide +kernel
theorem d_MO_init_147 : decode b_MO_init 147 = .ok (.aload_n 0, 1) := by decide +kernel
theorem d_MO_init_148 : decode b_MO_init 148 = .ok (.bipush 8, 2) := by decide +kernel
theorem d_MO_init_150 : decode b_MO_init 150 = .ok (.newarray .long, 2) := by decide +kernel
theorem d_MO_init_152 : decode b_MO_init 152 = .ok (.putfield 63, 3) := by decide +kernel
theorem d_MO_init_155 : decode b_MO_init 155 = .ok (.aload_n 0, 1) := by decide +kernel
theorem d_MO_init_156 : decode b_MO_init 156 = .ok (.bipush 9, 2) := by decide +kernel
theorem d_MO_init_158 : decode b_MO_init 158 = .ok (.newarray .long, 2) := by decide +kernel
theorem d_MO_init_160 : decode b_MO_init 160 = .ok (.putfield 66, 3) := by decide +kernel
theorem d_MO_init_163 : decode b_MO_init 163 = .ok (.aload_n 0, 1) := by decide +kernel
theorem d_MO_init_164 : decode b_MO_init 164 = .ok (.bipush 27, 2) := by decide +kernel
theorem d_MO_init_166 : decode b_MO_init 166 = .ok (.newarray .int, 2) := by decide +kernel
theorem d_MO_init_168 : decode b_MO_init 168 = .ok (.putfield 69, 3) := by decide +kernel
theorem d_MO_init_171 : decode b_MO_init 171 = .ok (.aload_n 0, 1) := by decide +kernel
theorem d_MO_init_172 : decode b_MO_init 172 = .ok (.sipush 400, 3) := by decide +kernel
theorem d_MO_init_175 : decode b_MO_init 175 = .ok (.newarray .long, 2) := by decide +kernel
theorem d_MO_init_177 : decode b_MO_init 177 = .ok (.putfield 72, 3) := by decide +kernel
theorem d_MO_init_180 : decode b_MO_init 180 = .ok (.aload_n 0, 1) := by decide +kernel
theorem d_MO_init_181 : decode b_MO_init 181 = .ok (.sipush 400, 3) := by decide +kernel
theorem d_MO_init_184 : decode b_MO_init 184 = .ok (.newarray .long, 2) := by decide +kernel
theorem d_MO_init_186 : decode b_MO_init 186 = .ok (.putfield 75, 3) := by decide +kernel
theorem d_MO_init_189 : decode b_MO_init 189 = .ok (.aload_n 0, 1) := by decide +kernel
theorem d_MO_init_190 : decode b_MO_init 190 = .ok (.sipush 400, 3) := by decide +kernel
theorem d_MO_init_193 : decode b_MO_init 193 = .ok (.newarray .boolean, 2) := by decide +kernel
theorem d_MO_init_195 : decode b_MO_init 195 = .ok (.putfield 78, 3) := by decide +kernel
theorem d_MO_init_198 : decode b_MO_init 198 = .ok (.aload_n 0, 1) := by decide +kernel
theorem d_MO_init_199 : decode b_MO_init 199 = .ok (.sipush 810, 3) := by decide +kernel
theorem d_MO_init_202 : decode b_MO_init 202 = .ok (.newarray .int, 2) := by decide +kernel
theorem d_MO_init_204 : decode b_MO_init 204 = .ok (.putfield 81, 3) := by decide +kernel
theorem d_MO_init_207 : decode b_MO_init 207 = .ok (.aload_n 0, 1) := by decide +kernel
theorem d_MO_init_208 : decode b_MO_init 208 = .ok (.sipush 150, 3) := by decide +kernel
theorem d_MO_init_211 : decode b_MO_init 211 = .ok (.newarray .int, 2) := by decide +kernel
theorem d_MO_init_213 : decode b_MO_init 213 = .ok (.putfield 84, 3) := by decide +kernel
theorem d_MO_init_216 : decode b_MO_init 216 = .ok (.aload_n 0, 1) := by decide +kernel
theorem d_MO_init_217 : decode b_MO_init 217 = .ok (.bipush 41, 2) := by decide +kernel
theorem d_MO_init_219 : decode b_MO_init 219 = .ok (.newarray .int, 2) := by decide +kernel
theorem d_MO_init_221 : decode b_MO_init 221 = .ok (.putfield 87, 3) := by decide +kernel
theorem d_MO_init_224 : decode b_MO_init 224 = .ok (.aload_n 0, 1) := by decide +kernel
theorem d_MO_init_225 : decode b_MO_init 225 = .ok (.bipush 41, 2) := by decide +kernel
theorem d_MO_init_227 : decode b_MO_init 227 = .ok (.newarray .int, 2) := by decide +kernel
theorem d_MO_init_229 : decode b_MO_init 229 = .ok (.putfield 90, 3) := by decide +kernel
theorem d_MO_init_232 : decode b_MO_init 232 = .ok (.aload_n 0, 1) := by decide +kernel
theorem d_MO_init_233 : decode b_MO_init 233 = .ok (.bipush 41, 2) := by decide +kernel
theorem d_MO_init_235 : decode b_MO_init 235 = .ok (.newarray .boolean, 2) := by decide +kernel
theorem d_MO_init_237 : decode b_MO_init 237 = .ok (.putfield 93, 3) := by decide +kernel
theorem d_MO_init_240 : decode b_MO_init 240 = .ok (.aload_n 0, 1) := by decide +kernel
theorem d_MO_init_241 : decode b_MO_init 241 = .ok (.bipush 41, 2) := by decide +kernel
theorem d_MO_init_243 : decode b_MO_init 243 = .ok (.newarray .int, 2) := by decide +kernel
theorem d_MO_init_245 : decode b_MO_init 245 = .ok (.putfield 96, 3) := by decide +kernel
theorem d_MO_init_248 : decode b_MO_init 248 = .ok (.aload_n 0, 1) := by decide +kernel
theorem d_MO_init_249 : decode b_MO_init 249 = .ok (.sipush 200, 3) := by decide +kernel
theorem d_MO_init_252 : decode b_MO_init 252 = .ok (.newarray .int, 2) := by decide +kernel
theorem d_MO_init_254 : decode b_MO_init 254 = .ok (.putfield 99, 3) := by decide +kernel
theorem d_MO_init_257 : decode b_MO_init 257 = .ok (.aload_n 0, 1) := by decide +kernel
theorem d_MO_init_258 : decode b_MO_init 258 = .ok (.sipush 2000, 3) := by decide +kernel
theorem d_MO_init_261 : decode b_MO_init 261 = .ok (.newarray .boolean, 2) := by decide +kernel
theorem d_MO_init_263 : decode b_MO_init 263 = .ok (.putfield 102, 3) := by decide +kernel
theorem d_MO_init_266 : decode b_MO_init 266 = .ok (.aload_n 0, 1) := by decide +kernel
theorem d_MO_init_267 : decode b_MO_init 267 = .ok (.sipush 2000, 3) := by decide +kernel
theorem d_MO_init_270 : decode b_MO_init 270 = .ok (.newarray .int, 2) := by decide +kernel
theorem d_MO_init_272 : decode b_MO_init 272 = .ok (.putfield 105, 3) := by decide +kernel
theorem d_MO_init_275 : decode b_MO_init 275 = .ok (.aload_n 0, 1) := by decide +kernel
theorem d_MO_init_276 : decode b_MO_init 276 = .ok (.iload_n 1, 1) := by decide +kernel
theorem d_MO_init_277 : decode b_MO_init 277 = .ok (.bipush 40, 2) := by decide +kernel
theorem d_MO_init_279 : decode b_MO_init 279 = .ok (.if_icmp .ge 8, 3) := by decide +kernel
theorem d_MO_init_282 : decode b_MO_init 282 = .ok (.bipush 40, 2) := by decide +kernel
theorem d_MO_init_284 : decode b_MO_init 284 = .ok (.goto 17, 3) := by decide +kernel
theorem d_MO_init_287 : decode b_MO_init 287 = .ok (.iload_n 1, 1) := by decide +kernel
theorem d_MO_init_288 : decode b_MO_init 288 = .ok (.sipush 400, 3) := by decide +kernel
theorem d_MO_init_291 : decode b_MO_init 291 = .ok (.if_icmp .le 9, 3) := by decide +kernel
theorem d_MO_init_294 : decode b_MO_init 294 = .ok (.sipush 400, 3) := by decide +kernel
theorem d_MO_init_297 : decode b_MO_init 297 = .ok (.goto 4, 3) := by decide +kernel
theorem d_MO_init_300 : decode b_MO_init 300 = .ok (.iload_n 1, 1) := by decide +kernel
theorem d_MO_init_301 : decode b_MO_init 301 = .ok (.putfield 108, 3) := by decide +kernel
theorem d_MO_init_304 : decode b_MO_init 304 = .ok (.return_, 1) := by decide +kernel
theorem d_MO_fail_0 : decode b_MO_fail 0 = .ok (.aload_n 0, 1) := by decide +kernel
theorem d_MO_fail_1 : decode b_MO_fail 1 = .ok (.iload_n 1, 1) := by decide +kernel
theorem d_MO_fail_2 : decode b_MO_fail 2 = .ok (.putfield 112, 3) := by decide +kernel
theorem d_MO_fail_5 : decode b_MO_fail 5 = .ok (.iconst 0, 1) := by decide +kernel
theorem d_MO_fail_6 : decode b_MO_fail 6 = .ok (.ireturn, 1) := by decide +kernel
theorem d_MO_within_0 : decode b_MO_within 0 = .ok (.iload_n 0, 1) := by decide +kernel
theorem d_MO_within_1 : decode b_MO_within 1 = .ok (.iload_n 1, 1) := by decide +kernel
theorem d_MO_within_2 : decode b_MO_within 2 = .ok (.if_icmp .lt 12, 3) := by decide +kernel
theorem d_MO_within_5 : decode b_MO_within 5 = .ok (.iload_n 0, 1) := by decide +kernel
theorem d_MO_within_6 : decode b_MO_within 6 = .ok (.iload_n 2, 1) := by decide +kernel
theorem d_MO_within_7 : decode b_MO_within 7 = .ok (.if_icmp .gt 7, 3) := by decide +kernel
theorem d_MO_within_10 : decode b_MO_within 10 = .ok (.iconst 1, 1) := by decide +kernel
theorem d_MO_within_11 : decode b_MO_within 11 = .ok (.goto 4, 3) := by decide +kernel
theorem d_MO_within_14 : decode b_MO_within 14 = .ok (.iconst 0, 1) := by decide +kernel
theorem d_MO_within_15 : decode b_MO_within 15 = .ok (.ireturn, 1) := by decide +kernel
theorem d_MO_write_0 : decode b_MO_write 0 = .ok (.aload_n 0, 1) := by decide +kernel
theorem d_MO_write_1 : decode b_MO_write 1 = .ok (.iconst 0, 1) := by decide +kernel
theorem d_MO_write_2 : decode b_MO_write 2 = .ok (.putfield 112, 3) := by decide +kernel
theorem d_MO_write_5 : decode b_MO_write 5 = .ok (.iload_n 3, 1) := by decide +kernel
theorem d_MO_write_6 : decode b_MO_write 6 = .ok (.iconst 1, 1) := by decide +kernel
theorem d_MO_write_7 : decode b_MO_write 7 = .ok (.bipush 8, 2) := by decide +kernel
theorem d_MO_write_9 : decode b_MO_write 9 = .ok (.invokestatic 115, 3) := by decide +kernel
theorem d_MO_write_12 : decode b_MO_write 12 = .ok (.ifCond .ne 9, 3) := by decide +kernel
theorem d_MO_write_15 : decode b_MO_write 15 = .ok (.aload_n 0, 1) := by decide +kernel
theorem d_MO_write_16 : decode b_MO_write 16 = .ok (.iconst 1, 1) := by decide +kernel
theorem d_MO_write_17 : decode b_MO_write 17 = .ok (.invokevirtual 119, 3) := by decide +kernel
theorem d_MO_write_20 : decode b_MO_write 20 = .ok (.ireturn, 1) := by decide +kernel
theorem d_MO_write_21 : decode b_MO_write 21 = .ok (.iconst 1, 1) := by decide +kernel
theorem d_MO_write_22 : decode b_MO_write 22 = .ok (.istore 4, 2) := by decide +kernel
theorem d_MO_write_24 : decode b_MO_write 24 = .ok (.iconst 0, 1) := by decide +kernel
theorem d_MO_write_25 : decode b_MO_write 25 = .ok (.istore 5, 2) := by decide +kernel
theorem d_MO_write_27 : decode b_MO_write 27 = .ok (.iload 5, 2) := by decide +kernel
theorem d_MO_write_29 : decode b_MO_write 29 = .ok (.iload_n 3, 1) := by decide +kernel
theorem d_MO_write_30 : decode b_MO_write 30 = .ok (.if_icmp .ge 54, 3) := by decide +kernel
theorem d_MO_write_33 : decode b_MO_write 33 = .ok (.lload_n 1, 1) := by decide +kernel
theorem d_MO_write_34 : decode b_MO_write 34 = .ok (.bipush 8, 2) := by decide +kernel
theorem d_MO_write_36 : decode b_MO_write 36 = .ok (.iload 5, 2) := by decide +kernel
theorem d_MO_write_38 : decode b_MO_write 38 = .ok (.imul, 1) := by decide +kernel
theorem d_MO_write_39 : decode b_MO_write 39 = .ok (.lshr, 1) := by decide +kernel
theorem d_MO_write_40 : decode b_MO_write 40 = .ok (.ldc2_w 123, 3) := by decide +kernel
theorem d_MO_write_43 : decode b_MO_write 43 = .ok (.land, 1) := by decide +kernel
theorem d_MO_write_44 : decode b_MO_write 44 = .ok (.l2i, 1) := by decide +kernel
theorem d_MO_write_45 : decode b_MO_write 45 = .ok (.istore 6, 2) := by decide +kernel
theorem d_MO_write_47 : decode b_MO_write 47 = .ok (.iload 4, 2) := by decide +kernel
theorem d_MO_write_49 : decode b_MO_write 49 = .ok (.ifCond .eq 26, 3) := by decide +kernel
theorem d_MO_write_52 : decode b_MO_write 52 = .ok (.iload 6, 2) := by decide +kernel
theorem d_MO_write_54 : decode b_MO_write 54 = .ok (.bipush 10, 2) := by decide +kernel
theorem d_MO_write_56 : decode b_MO_write 56 = .ok (.if_icmp .eq 15, 3) := by decide +kernel
theorem d_MO_write_59 : decode b_MO_write 59 = .ok (.iload 6, 2) := by decide +kernel
theorem d_MO_write_61 : decode b_MO_write 61 = .ok (.bipush 32, 2) := by decide +kernel
theorem d_MO_write_63 : decode b_MO_write 63 = .ok (.bipush 126, 2) := by decide +kernel
theorem d_MO_write_65 : decode b_MO_write 65 = .ok (.invokestatic 115, 3) := by decide +kernel
theorem d_MO_write_68 : decode b_MO_write 68 = .ok (.ifCond .eq 7, 3) := by decide +kernel
theorem d_MO_write_71 : decode b_MO_write 71 = .ok (.iconst 1, 1) := by decide +kernel
theorem d_MO_write_72 : decode b_MO_write 72 = .ok (.goto 4, 3) := by decide +kernel
theorem d_MO_write_75 : decode b_MO_write 75 = .ok (.iconst 0, 1) := by decide +kernel
theorem d_MO_write_76 : decode b_MO_write 76 = .ok (.istore 4, 2) := by decide +kernel
theorem d_MO_write_78 : decode b_MO_write 78 = .ok (.iinc 5 1, 3) := by decide +kernel
theorem d_MO_write_81 : decode b_MO_write 81 = .ok (.goto (-54), 3) := by decide +kernel
theorem d_MO_write_84 : decode b_MO_write 84 = .ok (.iload 4, 2) := by decide +kernel
theorem d_MO_write_86 : decode b_MO_write 86 = .ok (.ifCond .ne 9, 3) := by decide +kernel
theorem d_MO_write_89 : decode b_MO_write 89 = .ok (.aload_n 0, 1) := by decide +kernel
theorem d_MO_write_90 : decode b_MO_write 90 = .ok (.iconst 1, 1) := by decide +kernel
theorem d_MO_write_91 : decode b_MO_write 91 = .ok (.invokevirtual 119, 3) := by decide +kernel
theorem d_MO_write_94 : decode b_MO_write 94 = .ok (.ireturn, 1) := by decide +kernel
theorem d_MO_write_95 : decode b_MO_write 95 = .ok (.aload_n 0, 1) := by decide +kernel
theorem d_MO_write_96 : decode b_MO_write 96 = .ok (.getfield 125, 3) := by decide +kernel
theorem d_MO_write_99 : decode b_MO_write 99 = .ok (.iload_n 3, 1) := by decide +kernel
theorem d_MO_write_100 : decode b_MO_write 100 = .ok (.iadd, 1) := by decide +kernel
theorem d_MO_write_101 : decode b_MO_write 101 = .ok (.sipush 240, 3) := by decide +kernel
theorem d_MO_write_104 : decode b_MO_write 104 = .ok (.if_icmp .le 9, 3) := by decide +kernel
theorem d_MO_write_107 : decode b_MO_write 107 = .ok (.aload_n 0, 1) := by decide +kernel
theorem d_MO_write_108 : decode b_MO_write 108 = .ok (.iconst 2, 1) := by decide +kernel
theorem d_MO_write_109 : decode b_MO_write 109 = .ok (.invokevirtual 119, 3) := by decide +kernel
theorem d_MO_write_112 : decode b_MO_write 112 = .ok (.ireturn, 1) := by decide +kernel
theorem d_MO_write_113 : decode b_MO_write 113 = .ok (.iconst 0, 1) := by decide +kernel
theorem d_MO_write_114 : decode b_MO_write 114 = .ok (.istore 5, 2) := by decide +kernel
theorem d_MO_write_116 : decode b_MO_write 116 = .ok (.iload 5, 2) := by decide +kernel
theorem d_MO_write_118 : decode b_MO_write 118 = .ok (.iload_n 3, 1) := by decide +kernel
theorem d_MO_write_119 : decode b_MO_write 119 = .ok (.if_icmp .ge 33, 3) := by decide +kernel
theorem d_MO_write_122 : decode b_MO_write 122 = .ok (.aload_n 0, 1) := by decide +kernel
theorem d_MO_write_123 : decode b_MO_write 123 = .ok (.getfield 7, 3) := by decide +kernel
theorem d_MO_write_126 : decode b_MO_write 126 = .ok (.aload_n 0, 1) := by decide +kernel
theorem d_MO_write_127 : decode b_MO_write 127 = .ok (.getfield 125, 3) := by decide +kernel
theorem d_MO_write_130 : decode b_MO_write 130 = .ok (.iload 5, 2) := by decide +kernel
theorem d_MO_write_132 : decode b_MO_write 132 = .ok (.iadd, 1) := by decide +kernel
theorem d_MO_write_133 : decode b_MO_write 133 = .ok (.lload_n 1, 1) := by decide +kernel
theorem d_MO_write_134 : decode b_MO_write 134 = .ok (.bipush 8, 2) := by decide +kernel
theorem d_MO_write_136 : decode b_MO_write 136 = .ok (.iload 5, 2) := by decide +kernel
theorem d_MO_write_138 : decode b_MO_write 138 = .ok (.imul, 1) := by decide +kernel
theorem d_MO_write_139 : decode b_MO_write 139 = .ok (.lshr, 1) := by decide +kernel
theorem d_MO_write_140 : decode b_MO_write 140 = .ok (.ldc2_w 123, 3) := by decide +kernel
theorem d_MO_write_143 : decode b_MO_write 143 = .ok (.land, 1) := by decide +kernel
theorem d_MO_write_144 : decode b_MO_write 144 = .ok (.l2i, 1) := by decide +kernel
theorem d_MO_write_145 : decode b_MO_write 145 = .ok (.iastore, 1) := by decide +kernel
theorem d_MO_write_146 : decode b_MO_write 146 = .ok (.iinc 5 1, 3) := by decide +kernel
theorem d_MO_write_149 : decode b_MO_write 149 = .ok (.goto (-33), 3) := by decide +kernel
theorem d_MO_write_152 : decode b_MO_write 152 = .ok (.aload_n 0, 1) := by decide +kernel
theorem d_MO_write_153 : decode b_MO_write 153 = .ok (.dup, 1) := by decide +kernel
theorem d_MO_write_154 : decode b_MO_write 154 = .ok (.getfield 125, 3) := by decide +kernel
theorem d_MO_write_157 : decode b_MO_write 157 = .ok (.iload_n 3, 1) := by decide +kernel
theorem d_MO_write_158 : decode b_MO_write 158 = .ok (.iadd, 1) := by decide +kernel
theorem d_MO_write_159 : decode b_MO_write 159 = .ok (.putfield 125, 3) := by decide +kernel
theorem d_MO_write_162 : decode b_MO_write 162 = .ok (.aload_n 0, 1) := by decide +kernel
theorem d_MO_write_163 : decode b_MO_write 163 = .ok (.getfield 125, 3) := by decide +kernel
theorem d_MO_write_166 : decode b_MO_write 166 = .ok (.ireturn, 1) := by decide +kernel
theorem d_MO_erase_0 : decode b_MO_erase 0 = .ok (.aload_n 0, 1) := by decide +kernel
theorem d_MO_erase_1 : decode b_MO_erase 1 = .ok (.iconst 0, 1) := by decide +kernel
theorem d_MO_erase_2 : decode b_MO_erase 2 = .ok (.putfield 112, 3) := by decide +kernel
theorem d_MO_erase_5 : decode b_MO_erase 5 = .ok (.aload_n 0, 1) := by decide +kernel
theorem d_MO_erase_6 : decode b_MO_erase 6 = .ok (.getfield 125, 3) := by decide +kernel
theorem d_MO_erase_9 : decode b_MO_erase 9 = .ok (.istore_n 1, 1) := by decide +kernel
theorem d_MO_erase_10 : decode b_MO_erase 10 = .ok (.aload_n 0, 1) := by decide +kernel
theorem d_MO_erase_11 : decode b_MO_erase 11 = .ok (.iconst 0, 1) := by decide +kernel
theorem d_MO_erase_12 : decode b_MO_erase 12 = .ok (.putfield 125, 3) := by decide +kernel
theorem d_MO_erase_15 : decode b_MO_erase 15 = .ok (.iload_n 1, 1) := by decide +kernel
theorem d_MO_erase_16 : decode b_MO_erase 16 = .ok (.ireturn, 1) := by decide +kernel
theorem d_MO_wrong_0 : decode b_MO_wrong 0 = .ok (.aload_n 0, 1) := by decide +kernel
theorem d_MO_wrong_1 : decode b_MO_wrong 1 = .ok (.aload_n 0, 1) := by decide +kernel
theorem d_MO_wrong_2 : decode b_MO_wrong 2 = .ok (.getfield 128, 3) := by decide +kernel
theorem d_MO_wrong_5 : decode b_MO_wrong 5 = .ok (.ifCond .ne 7, 3) := by decide +kernel
theorem d_MO_wrong_8 : decode b_MO_wrong 8 = .ok (.iload_n 1, 1) := by decide +kernel
theorem d_MO_wrong_9 : decode b_MO_wrong 9 = .ok (.goto 7, 3) := by decide +kernel
theorem d_MO_wrong_12 : decode b_MO_wrong 12 = .ok (.aload_n 0, 1) := by decide +kernel
theorem d_MO_wrong_13 : decode b_MO_wrong 13 = .ok (.getfield 128, 3) := by decide +kernel
theorem d_MO_wrong_16 : decode b_MO_wrong 16 = .ok (.putfield 128, 3) := by decide +kernel
theorem d_MO_wrong_19 : decode b_MO_wrong 19 = .ok (.return_, 1) := by decide +kernel
theorem d_MO_isLetter_0 : decode b_MO_isLetter 0 = .ok (.iload_n 0, 1) := by decide +kernel
theorem d_MO_isLetter_1 : decode b_MO_isLetter 1 = .ok (.bipush 97, 2) := by decide +kernel
theorem d_MO_isLetter_3 : decode b_MO_isLetter 3 = .ok (.bipush 122, 2) := by decide +kernel
theorem d_MO_isLetter_5 : decode b_MO_isLetter 5 = .ok (.invokestatic 115, 3) := by decide +kernel
theorem d_MO_isLetter_8 : decode b_MO_isLetter 8 = .ok (.ireturn, 1) := by decide +kernel
theorem d_MO_digit_0 : decode b_MO_digit 0 = .ok (.iload_n 0, 1) := by decide +kernel
theorem d_MO_digit_1 : decode b_MO_digit 1 = .ok (.bipush 48, 2) := by decide +kernel
theorem d_MO_digit_3 : decode b_MO_digit 3 = .ok (.bipush 57, 2) := by decide +kernel
theorem d_MO_digit_5 : decode b_MO_digit 5 = .ok (.invokestatic 115, 3) := by decide +kernel
theorem d_MO_digit_8 : decode b_MO_digit 8 = .ok (.ireturn, 1) := by decide +kernel
theorem d_MO_sign_0 : decode b_MO_sign 0 = .ok (.iload_n 0, 1) := by decide +kernel
theorem d_MO_sign_1 : decode b_MO_sign 1 = .ok (.bipush 40, 2) := by decide +kernel
theorem d_MO_sign_3 : decode b_MO_sign 3 = .ok (.bipush 46, 2) := by decide +kernel
theorem d_MO_sign_5 : decode b_MO_sign 5 = .ok (.invokestatic 115, 3) := by decide +kernel
theorem d_MO_sign_8 : decode b_MO_sign 8 = .ok (.ifCond .ne 45, 3) := by decide +kernel
theorem d_MO_sign_11 : decode b_MO_sign 11 = .ok (.iload_n 0, 1) := by decide +kernel
theorem d_MO_sign_12 : decode b_MO_sign 12 = .ok (.bipush 58, 2) := by decide +kernel
theorem d_MO_sign_14 : decode b_MO_sign 14 = .ok (.if_icmp .eq 39, 3) := by decide +kernel
theorem d_MO_sign_17 : decode b_MO_sign 17 = .ok (.iload_n 0, 1) := by decide +kernel
theorem d_MO_sign_18 : decode b_MO_sign 18 = .ok (.bipush 59, 2) := by decide +kernel
theorem d_MO_sign_20 : decode b_MO_sign 20 = .ok (.if_icmp .eq 33, 3) := by decide +kernel
theorem d_MO_sign_23 : decode b_MO_sign 23 = .ok (.iload_n 0, 1) := by decide +kernel
theorem d_MO_sign_24 : decode b_MO_sign 24 = .ok (.bipush 60, 2) := by decide +kernel
theorem d_MO_sign_26 : decode b_MO_sign 26 = .ok (.if_icmp .eq 27, 3) := by decide +kernel
theorem d_MO_sign_29 : decode b_MO_sign 29 = .ok (.iload_n 0, 1) := by decide +kernel
theorem d_MO_sign_30 : decode b_MO_sign 30 = .ok (.bipush 61, 2) := by decide +kernel
theorem d_MO_sign_32 : decode b_MO_sign 32 = .ok (.if_icmp .eq 21, 3) := by decide +kernel
theorem d_MO_sign_35 : decode b_MO_sign 35 = .ok (.iload_n 0, 1) := by decide +kernel
theorem d_MO_sign_36 : decode b_MO_sign 36 = .ok (.bipush 91, 2) := by decide +kernel
theorem d_MO_sign_38 : decode b_MO_sign 38 = .ok (.if_icmp .eq 15, 3) := by decide +kernel
theorem d_MO_sign_41 : decode b_MO_sign 41 = .ok (.iload_n 0, 1) := by decide +kernel
theorem d_MO_sign_42 : decode b_MO_sign 42 = .ok (.bipush 92, 2) := by decide +kernel
theorem d_MO_sign_44 : decode b_MO_sign 44 = .ok (.if_icmp .eq 9, 3) := by decide +kernel
theorem d_MO_sign_47 : decode b_MO_sign 47 = .ok (.iload_n 0, 1) := by decide +kernel
theorem d_MO_sign_48 : decode b_MO_sign 48 = .ok (.bipush 93, 2) := by decide +kernel
theorem d_MO_sign_50 : decode b_MO_sign 50 = .ok (.if_icmp .ne 7, 3) := by decide +kernel
theorem d_MO_sign_53 : decode b_MO_sign 53 = .ok (.iconst 1, 1) := by decide +kernel
theorem d_MO_sign_54 : decode b_MO_sign 54 = .ok (.goto 4, 3) := by decide +kernel
theorem d_MO_sign_57 : decode b_MO_sign 57 = .ok (.iconst 0, 1) := by decide +kernel
theorem d_MO_sign_58 : decode b_MO_sign 58 = .ok (.ireturn, 1) := by decide +kernel
theorem d_MO_lexeme_0 : decode b_MO_lexeme 0 = .ok (.aload_n 0, 1) := by decide +kernel
theorem d_MO_lexeme_1 : decode b_MO_lexeme 1 = .ok (.getfield 131, 3) := by decide +kernel
theorem d_MO_lexeme_4 : decode b_MO_lexeme 4 = .ok (.bipush 100, 2) := by decide +kernel
theorem d_MO_lexeme_6 : decode b_MO_lexeme 6 = .ok (.if_icmp .ne 9, 3) := by decide +kernel
theorem d_MO_lexeme_9 : decode b_MO_lexeme 9 = .ok (.aload_n 0, 1) := by decide +kernel
theorem d_MO_lexeme_10 : decode b_MO_lexeme 10 = .ok (.iconst 2, 1) := by decide +kernel
theorem d_MO_lexeme_11 : decode b_MO_lexeme 11 = .ok (.invokevirtual 134, 3) := by decide +kernel
theorem d_MO_lexeme_14 : decode b_MO_lexeme 14 = .ok (.return_, 1) := by decide +kernel
theorem d_MO_lexeme_15 : decode b_MO_lexeme 15 = .ok (.aload_n 0, 1) := by decide +kernel
theorem d_MO_lexeme_16 : decode b_MO_lexeme 16 = .ok (.getfield 13, 3) := by decide +kernel
theorem d_MO_lexeme_19 : decode b_MO_lexeme 19 = .ok (.aload_n 0, 1) := by decide +kernel
theorem d_MO_lexeme_20 : decode b_MO_lexeme 20 = .ok (.getfield 131, 3) := by decide +kernel
theorem d_MO_lexeme_23 : decode b_MO_lexeme 23 = .ok (.iload_n 1, 1) := by decide +kernel
theorem d_MO_lexeme_24 : decode b_MO_lexeme 24 = .ok (.iastore, 1) := by decide +kernel
theorem d_MO_lexeme_25 : decode b_MO_lexeme 25 = .ok (.aload_n 0, 1) := by decide +kernel
theorem d_MO_lexeme_26 : decode b_MO_lexeme 26 = .ok (.getfield 16, 3) := by decide +kernel
theorem d_MO_lexeme_29 : decode b_MO_lexeme 29 = .ok (.aload_n 0, 1) := by decide +kernel
theorem d_MO_lexeme_30 : decode b_MO_lexeme 30 = .ok (.getfield 131, 3) := by decide +kernel
theorem d_MO_lexeme_33 : decode b_MO_lexeme 33 = .ok (.lload_n 2, 1) := by decide +kernel
theorem d_MO_lexeme_34 : decode b_MO_lexeme 34 = .ok (.lastore, 1) := by decide +kernel
theorem d_MO_lexeme_35 : decode b_MO_lexeme 35 = .ok (.aload_n 0, 1) := by decide +kernel
theorem d_MO_lexeme_36 : decode b_MO_lexeme 36 = .ok (.dup, 1) := by decide +kernel
theorem d_MO_lexeme_37 : decode b_MO_lexeme 37 = .ok (.getfield 131, 3) := by decide +kernel
theorem d_MO_lexeme_40 : decode b_MO_lexeme 40 = .ok (.iconst 1, 1) := by decide +kernel
theorem d_MO_lexeme_41 : decode b_MO_lexeme 41 = .ok (.iadd, 1) := by decide +kernel
theorem d_MO_lexeme_42 : decode b_MO_lexeme 42 = .ok (.putfield 131, 3) := by decide +kernel
theorem d_MO_lexeme_45 : decode b_MO_lexeme 45 = .ok (.return_, 1) := by decide +kernel
theorem d_MO_cut_0 : decode b_MO_cut 0 = .ok (.aload_n 0, 1) := by decide +kernel
theorem d_MO_cut_1 : decode b_MO_cut 1 = .ok (.iconst 0, 1) := by decide +kernel
theorem d_MO_cut_2 : decode b_MO_cut 2 = .ok (.putfield 131, 3) := by decide +kernel
theorem d_MO_cut_5 : decode b_MO_cut 5 = .ok (.iconst 0, 1) := by decide +kernel
theorem d_MO_cut_6 : decode b_MO_cut 6 = .ok (.istore_n 1, 1) := by decide +kernel
theorem d_MO_cut_7 : decode b_MO_cut 7 = .ok (.iload_n 1, 1) := by decide +kernel
theorem d_MO_cut_8 : decode b_MO_cut 8 = .ok (.aload_n 0, 1) := by decide +kernel
theorem d_MO_cut_9 : decode b_MO_cut 9 = .ok (.getfield 125, 3) := by decide +kernel
theorem d_MO_cut_12 : decode b_MO_cut 12 = .ok (.if_icmp .ge 262, 3) := by decide +kernel
theorem d_MO_cut_15 : decode b_MO_cut 15 = .ok (.aload_n 0, 1) := by decide +kernel
theorem d_MO_cut_16 : decode b_MO_cut 16 = .ok (.getfield 128, 3) := by decide +kernel
theorem d_MO_cut_19 : decode b_MO_cut 19 = .ok (.ifCond .ne 255, 3) := by decide +kernel
theorem d_MO_cut_22 : decode b_MO_cut 22 = .ok (.aload_n 0, 1) := by decide +kernel
theorem d_MO_cut_23 : decode b_MO_cut 23 = .ok (.getfield 7, 3) := by decide +kernel
theorem d_MO_cut_26 : decode b_MO_cut 26 = .ok (.iload_n 1, 1) := by decide +kernel
theorem d_MO_cut_27 : decode b_MO_cut 27 = .ok (.iaload, 1) := by decide +kernel
theorem d_MO_cut_28 : decode b_MO_cut 28 = .ok (.istore_n 2, 1) := by decide +kernel
theorem d_MO_cut_29 : decode b_MO_cut 29 = .ok (.lconst 0, 1) := by decide +kernel
theorem d_MO_cut_30 : decode b_MO_cut 30 = .ok (.lstore_n 3, 1) := by decide +kernel
theorem d_MO_cut_31 : decode b_MO_cut 31 = .ok (.iconst 0, 1) := by decide +kernel
theorem d_MO_cut_32 : decode b_MO_cut 32 = .ok (.istore 5, 2) := by decide +kernel
theorem d_MO_cut_34 : decode b_MO_cut 34 = .ok (.iload_n 2, 1) := by decide +kernel
theorem d_MO_cut_35 : decode b_MO_cut 35 = .ok (.invokestatic 138, 3) := by decide +kernel
theorem d_MO_cut_38 : decode b_MO_cut 38 = .ok (.ifCond .eq 63, 3) := by decide +kernel
theorem d_MO_cut_41 : decode b_MO_cut 41 = .ok (.iload 5, 2) := by decide +kernel
theorem d_MO_cut_43 : decode b_MO_cut 43 = .ok (.iconst 4, 1) := by decide +kernel
theorem d_MO_cut_44 : decode b_MO_cut 44 = .ok (.if_icmp .ge 48, 3) := by decide +kernel
theorem d_MO_cut_47 : decode b_MO_cut 47 = .ok (.iload_n 1, 1) := by decide +kernel
theorem d_MO_cut_48 : decode b_MO_cut 48 = .ok (.aload_n 0, 1) := by decide +kernel
theorem d_MO_cut_49 : decode b_MO_cut 49 = .ok (.getfield 125, 3) := by decide +kernel
theorem d_MO_cut_52 : decode b_MO_cut 52 = .ok (.if_icmp .ge 40, 3) := by decide +kernel
theorem d_MO_cut_55 : decode b_MO_cut 55 = .ok (.aload_n 0, 1) := by decide +kernel
theorem d_MO_cut_56 : decode b_MO_cut 56 = .ok (.getfield 7, 3) := by decide +kernel
theorem d_MO_cut_59 : decode b_MO_cut 59 = .ok (.iload_n 1, 1) := by decide +kernel
theorem d_MO_cut_60 : decode b_MO_cut 60 = .ok (.iaload, 1) := by decide +kernel
theorem d_MO_cut_61 : decode b_MO_cut 61 = .ok (.invokestatic 138, 3) := by decide +kernel
theorem d_MO_cut_64 : decode b_MO_cut 64 = .ok (.ifCond .eq 28, 3) := by decide +kernel
theorem d_MO_cut_67 : decode b_MO_cut 67 = .ok (.lload_n 3, 1) := by decide +kernel
theorem d_MO_cut_68 : decode b_MO_cut 68 = .ok (.aload_n 0, 1) := by decide +kernel
theorem d_MO_cut_69 : decode b_MO_cut 69 = .ok (.getfield 7, 3) := by decide +kernel
theorem d_MO_cut_72 : decode b_MO_cut 72 = .ok (.iload_n 1, 1) := by decide +kernel
theorem d_MO_cut_73 : decode b_MO_cut 73 = .ok (.iaload, 1) := by decide +kernel
theorem d_MO_cut_74 : decode b_MO_cut 74 = .ok (.i2l, 1) := by decide +kernel
theorem d_MO_cut_75 : decode b_MO_cut 75 = .ok (.bipush 8, 2) := by decide +kernel
theorem d_MO_cut_77 : decode b_MO_cut 77 = .ok (.iload 5, 2) := by decide +kernel
theorem d_MO_cut_79 : decode b_MO_cut 79 = .ok (.imul, 1) := by decide +kernel
theorem d_MO_cut_80 : decode b_MO_cut 80 = .ok (.lshl, 1) := by decide +kernel
theorem d_MO_cut_81 : decode b_MO_cut 81 = .ok (.lor, 1) := by decide +kernel
theorem d_MO_cut_82 : decode b_MO_cut 82 = .ok (.lstore_n 3, 1) := by decide +kernel
theorem d_MO_cut_83 : decode b_MO_cut 83 = .ok (.iinc 5 1, 3) := by decide +kernel
theorem d_MO_cut_86 : decode b_MO_cut 86 = .ok (.iinc 1 1, 3) := by decide +kernel
theorem d_MO_cut_89 : decode b_MO_cut 89 = .ok (.goto (-48), 3) := by decide +kernel
theorem d_MO_cut_92 : decode b_MO_cut 92 = .ok (.aload_n 0, 1) := by decide +kernel
theorem d_MO_cut_93 : decode b_MO_cut 93 = .ok (.iconst 0, 1) := by decide +kernel
theorem d_MO_cut_94 : decode b_MO_cut 94 = .ok (.lload_n 3, 1) := by decide +kernel
theorem d_MO_cut_95 : decode b_MO_cut 95 = .ok (.invokevirtual 142, 3) := by decide +kernel
theorem d_MO_cut_98 : decode b_MO_cut 98 = .ok (.goto 173, 3) := by decide +kernel
theorem d_MO_cut_101 : decode b_MO_cut 101 = .ok (.iload_n 2, 1) := by decide +kernel
theorem d_MO_cut_102 : decode b_MO_cut 102 = .ok (.invokestatic 146, 3) := by decide +kernel
theorem d_MO_cut_105 : decode b_MO_cut 105 = .ok (.ifCond .eq 66, 3) := by decide +kernel
theorem d_MO_cut_108 : decode b_MO_cut 108 = .ok (.iload 5, 2) := by decide +kernel
theorem d_MO_cut_110 : decode b_MO_cut 110 = .ok (.bipush 6, 2) := by decide +kernel
theorem d_MO_cut_112 : decode b_MO_cut 112 = .ok (.if_icmp .ge 50, 3) := by decide +kernel
theorem d_MO_cut_115 : decode b_MO_cut 115 = .ok (.iload_n 1, 1) := by decide +kernel
theorem d_MO_cut_116 : decode b_MO_cut 116 = .ok (.aload_n 0, 1) := by decide +kernel
theorem d_MO_cut_117 : decode b_MO_cut 117 = .ok (.getfield 125, 3) := by decide +kernel
theorem d_MO_cut_120 : decode b_MO_cut 120 = .ok (.if_icmp .ge 42, 3) := by decide +kernel
theorem d_MO_cut_123 : decode b_MO_cut 123 = .ok (.aload_n 0, 1) := by decide +kernel
theorem d_MO_cut_124 : decode b_MO_cut 124 = .ok (.getfield 7, 3) := by decide +kernel
theorem d_MO_cut_127 : decode b_MO_cut 127 = .ok (.iload_n 1, 1) := by decide +kernel
theorem d_MO_cut_128 : decode b_MO_cut 128 = .ok (.iaload, 1) := by decide +kernel
theorem d_MO_cut_129 : decode b_MO_cut 129 = .ok (.invokestatic 146, 3) := by decide +kernel
theorem d_MO_cut_132 : decode b_MO_cut 132 = .ok (.ifCond .eq 30, 3) := by decide +kernel
theorem d_MO_cut_135 : decode b_MO_cut 135 = .ok (.ldc2_w 149, 3) := by decide +kernel
theorem d_MO_cut_138 : decode b_MO_cut 138 = .ok (.lload_n 3, 1) := by decide +kernel
theorem d_MO_cut_139 : decode b_MO_cut 139 = .ok (.lmul, 1) := by decide +kernel
theorem d_MO_cut_140 : decode b_MO_cut 140 = .ok (.aload_n 0, 1) := by decide +kernel
theorem d_MO_cut_141 : decode b_MO_cut 141 = .ok (.getfield 7, 3) := by decide +kernel
theorem d_MO_cut_144 : decode b_MO_cut 144 = .ok (.iload_n 1, 1) := by decide +kernel
theorem d_MO_cut_145 : decode b_MO_cut 145 = .ok (.iaload, 1) := by decide +kernel
theorem d_MO_cut_146 : decode b_MO_cut 146 = .ok (.i2l, 1) := by decide +kernel
theorem d_MO_cut_147 : decode b_MO_cut 147 = .ok (.ladd, 1) := by decide +kernel
theorem d_MO_cut_148 : decode b_MO_cut 148 = .ok (.ldc2_w 151, 3) := by decide +kernel
theorem d_MO_cut_151 : decode b_MO_cut 151 = .ok (.lsub, 1) := by decide +kernel
theorem d_MO_cut_152 : decode b_MO_cut 152 = .ok (.lstore_n 3, 1) := by decide +kernel
theorem d_MO_cut_153 : decode b_MO_cut 153 = .ok (.iinc 5 1, 3) := by decide +kernel
theorem d_MO_cut_156 : decode b_MO_cut 156 = .ok (.iinc 1 1, 3) := by decide +kernel
theorem d_MO_cut_159 : decode b_MO_cut 159 = .ok (.goto (-51), 3) := by decide +kernel
theorem d_MO_cut_162 : decode b_MO_cut 162 = .ok (.aload_n 0, 1) := by decide +kernel
