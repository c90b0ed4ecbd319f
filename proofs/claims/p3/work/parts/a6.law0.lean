/-! THE CLAIM OUT OF ONE WALK OF THE LAW'S BODY. Your part is whole_start (and what it stands on); all else here is the same for every law, but numbers. -/
def R_law : String := "TurnerHeapLaw"
def lw_P (b : Addr) (xs : List Int32) (args : Array Value) (s : State) : Prop := args = #[.ref b] ∧ s.IntsAt b xs ∧ xs.length ≤ 2049 ∧ (Jvm.Cond.and given_1 narrow_1).before args s = true
def lw_Q (_ : Array Value) (s : State) (o : Outcome) (t : State) : Prop := o = .returned (some (.int 1)) ∧ Framed s o t [] 601024 7293000
def lw_Z (below : List Frame) (a : Array Value) (s : State) : State → Prop := fun t => ∃ o, t.status = .running ∧ Ended t below o ∧ lw_Q a s o t
/-- the law's own end, with 1 on the stack, nothing written that was there before, its room as the claim has it -/
theorem lw_ret {p : Program} {l : Launch} {e : Env} {s : State} {m : MethodId} {below : List Frame} {meth : Method} {c : Code} {b : Nat} (hx : p.tables.exec = Jvm.exec) (hb : c.code = code) (hr : meth.sig.returnType = ret) (hlocks : meth.locks = false) {pc : Nat} {H : Heap} {ls : Array Slot} (hdg : decode code pc = .ok (.ireturn, 1)) : W p l e room_1 s m #[Value.ref b] below meth c H [] 601024 7293000 (lw_Z below #[Value.ref b] s) (F0 m pc ls [.int 1]) := by
  intro T hT X
  obtain ⟨fs, hret, hrun, hended, hW, hframe⟩ := X.leave (v := some (.int 1)) (hlocks := hlocks) (fun h => by rw [hr] at h; cases h)
  have hmeth' : T.vm.method? m = some meth := X.method'
  refine ⟨T.setFrames fs, ?_, .returned (some (.int 1)), hrun, hended, rfl, ⟨_, rfl⟩, hW, hframe⟩
  jvm_step X.here [X.here.top, hx, hb, hdg, hmeth', hr, ret, narrow_b1]
  (try refine ⟨rfl, ?_⟩); (try refine ⟨rfl, ?_⟩)
  first | (intro acts; rw [hret _ acts rfl rfl rfl]) | rw [hret _ _ rfl rfl rfl]
  exact Steps.refl _
/-- what holds at the law's entry: the machine, the code, the tables' words (any of lw_tbl by 'hts w (by decide +kernel)'), the script of L ints xs at the cell b, what the Statement gives of the start (any of its parts by flat_of_before) -/
def lw_At (p : Program) (s : State) (m : MethodId) (meth : Method) (c : Code) (b L : Nat) (xs : Nat → Int32) : Prop :=
  p.tables.exec = Jvm.exec ∧ c.code = code ∧ meth.sig.returnType = ret ∧ c.maxLocals = 7 ∧ s.vm.findClass R_law = some m.cls ∧ (∀ w ∈ lw_tbl, w.before #[Value.ref b] s = true) ∧ va_X b L xs s s.heap ∧ b < s.heap.size ∧ meth.locks = false ∧ (Jvm.Cond.and given_1 narrow_1).before #[Value.ref b] s = true

theorem d_LW_law_0 : decode code 0 = .ok (.new 8, 3) := by decide +kernel
theorem d_LW_law_3 : decode code 3 = .ok (.dup, 1) := by decide +kernel
theorem d_LW_law_4 : decode code 4 = .ok (.aload_n 0, 1) := by decide +kernel
theorem d_LW_law_5 : decode code 5 = .ok (.iconst 0, 1) := by decide +kernel
theorem d_LW_law_6 : decode code 6 = .ok (.invokestatic 42, 3) := by decide +kernel
theorem d_LW_law_9 : decode code 9 = .ok (.invokespecial 48, 3) := by decide +kernel
theorem d_LW_law_12 : decode code 12 = .ok (.astore_n 1, 1) := by decide +kernel
theorem d_LW_law_13 : decode code 13 = .ok (.new 51, 3) := by decide +kernel
theorem d_LW_law_16 : decode code 16 = .ok (.dup, 1) := by decide +kernel
theorem d_LW_law_17 : decode code 17 = .ok (.aload_n 0, 1) := by decide +kernel
theorem d_LW_law_18 : decode code 18 = .ok (.iconst 0, 1) := by decide +kernel
theorem d_LW_law_19 : decode code 19 = .ok (.invokestatic 42, 3) := by decide +kernel
theorem d_LW_law_22 : decode code 22 = .ok (.invokespecial 53, 3) := by decide +kernel
theorem d_LW_law_25 : decode code 25 = .ok (.astore_n 2, 1) := by decide +kernel
theorem d_LW_law_26 : decode code 26 = .ok (.iconst 1, 1) := by decide +kernel
theorem d_LW_law_27 : decode code 27 = .ok (.newarray .long, 2) := by decide +kernel
theorem d_LW_law_29 : decode code 29 = .ok (.astore_n 3, 1) := by decide +kernel
theorem d_LW_law_30 : decode code 30 = .ok (.iconst 1, 1) := by decide +kernel
theorem d_LW_law_31 : decode code 31 = .ok (.istore 4, 2) := by decide +kernel
theorem d_LW_law_33 : decode code 33 = .ok (.iload 4, 2) := by decide +kernel
theorem d_LW_law_35 : decode code 35 = .ok (.aload_n 0, 1) := by decide +kernel
theorem d_LW_law_36 : decode code 36 = .ok (.arraylength, 1) := by decide +kernel
theorem d_LW_law_37 : decode code 37 = .ok (.iconst 4, 1) := by decide +kernel
theorem d_LW_law_38 : decode code 38 = .ok (.isub, 1) := by decide +kernel
theorem d_LW_law_39 : decode code 39 = .ok (.if_icmp .gt 338, 3) := by decide +kernel
theorem d_LW_law_42 : decode code 42 = .ok (.aload_n 0, 1) := by decide +kernel
theorem d_LW_law_43 : decode code 43 = .ok (.iload 4, 2) := by decide +kernel
theorem d_LW_law_45 : decode code 45 = .ok (.iaload, 1) := by decide +kernel
theorem d_LW_law_46 : decode code 46 = .ok (.bipush 15, 2) := by decide +kernel
theorem d_LW_law_48 : decode code 48 = .ok (.iand, 1) := by decide +kernel
theorem d_LW_law_49 : decode code 49 = .ok (.tableswitch 322 0 9 #[55, 127, 140, 156, 184, 197, 210, 238, 254, 282], 55) := by decide +kernel
theorem d_LW_law_104 : decode code 104 = .ok (.aload_n 1, 1) := by decide +kernel
theorem d_LW_law_105 : decode code 105 = .ok (.aload_n 0, 1) := by decide +kernel
theorem d_LW_law_106 : decode code 106 = .ok (.iload 4, 2) := by decide +kernel
theorem d_LW_law_108 : decode code 108 = .ok (.iconst 1, 1) := by decide +kernel
theorem d_LW_law_109 : decode code 109 = .ok (.iadd, 1) := by decide +kernel
theorem d_LW_law_110 : decode code 110 = .ok (.iaload, 1) := by decide +kernel
theorem d_LW_law_111 : decode code 111 = .ok (.i2l, 1) := by decide +kernel
theorem d_LW_law_112 : decode code 112 = .ok (.bipush 32, 2) := by decide +kernel
theorem d_LW_law_114 : decode code 114 = .ok (.lshl, 1) := by decide +kernel
theorem d_LW_law_115 : decode code 115 = .ok (.aload_n 0, 1) := by decide +kernel
theorem d_LW_law_116 : decode code 116 = .ok (.iload 4, 2) := by decide +kernel
theorem d_LW_law_118 : decode code 118 = .ok (.iconst 2, 1) := by decide +kernel
theorem d_LW_law_119 : decode code 119 = .ok (.iadd, 1) := by decide +kernel
theorem d_LW_law_120 : decode code 120 = .ok (.iaload, 1) := by decide +kernel
theorem d_LW_law_121 : decode code 121 = .ok (.i2l, 1) := by decide +kernel
theorem d_LW_law_122 : decode code 122 = .ok (.ldc2_w 54, 3) := by decide +kernel
theorem d_LW_law_125 : decode code 125 = .ok (.land, 1) := by decide +kernel
theorem d_LW_law_126 : decode code 126 = .ok (.lor, 1) := by decide +kernel
theorem d_LW_law_127 : decode code 127 = .ok (.aload_n 0, 1) := by decide +kernel
theorem d_LW_law_128 : decode code 128 = .ok (.iload 4, 2) := by decide +kernel
theorem d_LW_law_130 : decode code 130 = .ok (.iconst 3, 1) := by decide +kernel
theorem d_LW_law_131 : decode code 131 = .ok (.iadd, 1) := by decide +kernel
theorem d_LW_law_132 : decode code 132 = .ok (.iaload, 1) := by decide +kernel
theorem d_LW_law_133 : decode code 133 = .ok (.aload_n 3, 1) := by decide +kernel
theorem d_LW_law_134 : decode code 134 = .ok (.invokestatic 56, 3) := by decide +kernel
theorem d_LW_law_137 : decode code 137 = .ok (.istore 5, 2) := by decide +kernel
theorem d_LW_law_139 : decode code 139 = .ok (.aload_n 2, 1) := by decide +kernel
theorem d_LW_law_140 : decode code 140 = .ok (.aload_n 0, 1) := by decide +kernel
theorem d_LW_law_141 : decode code 141 = .ok (.iload 4, 2) := by decide +kernel
theorem d_LW_law_143 : decode code 143 = .ok (.iconst 1, 1) := by decide +kernel
theorem d_LW_law_144 : decode code 144 = .ok (.iadd, 1) := by decide +kernel
theorem d_LW_law_145 : decode code 145 = .ok (.iaload, 1) := by decide +kernel
theorem d_LW_law_146 : decode code 146 = .ok (.i2l, 1) := by decide +kernel
theorem d_LW_law_147 : decode code 147 = .ok (.bipush 32, 2) := by decide +kernel
theorem d_LW_law_149 : decode code 149 = .ok (.lshl, 1) := by decide +kernel
theorem d_LW_law_150 : decode code 150 = .ok (.aload_n 0, 1) := by decide +kernel
theorem d_LW_law_151 : decode code 151 = .ok (.iload 4, 2) := by decide +kernel
theorem d_LW_law_153 : decode code 153 = .ok (.iconst 2, 1) := by decide +kernel
theorem d_LW_law_154 : decode code 154 = .ok (.iadd, 1) := by decide +kernel
theorem d_LW_law_155 : decode code 155 = .ok (.iaload, 1) := by decide +kernel
theorem d_LW_law_156 : decode code 156 = .ok (.i2l, 1) := by decide +kernel
theorem d_LW_law_157 : decode code 157 = .ok (.ldc2_w 54, 3) := by decide +kernel
theorem d_LW_law_160 : decode code 160 = .ok (.land, 1) := by decide +kernel
theorem d_LW_law_161 : decode code 161 = .ok (.lor, 1) := by decide +kernel
theorem d_LW_law_162 : decode code 162 = .ok (.aload_n 0, 1) := by decide +kernel
theorem d_LW_law_163 : decode code 163 = .ok (.iload 4, 2) := by decide +kernel
theorem d_LW_law_165 : decode code 165 = .ok (.iconst 3, 1) := by decide +kernel
theorem d_LW_law_166 : decode code 166 = .ok (.iadd, 1) := by decide +kernel
theorem d_LW_law_167 : decode code 167 = .ok (.iaload, 1) := by decide +kernel
theorem d_LW_law_168 : decode code 168 = .ok (.invokevirtual 59, 3) := by decide +kernel
theorem d_LW_law_171 : decode code 171 = .ok (.istore 6, 2) := by decide +kernel
theorem d_LW_law_173 : decode code 173 = .ok (.goto 198, 3) := by decide +kernel
theorem d_LW_law_176 : decode code 176 = .ok (.aload_n 1, 1) := by decide +kernel
theorem d_LW_law_177 : decode code 177 = .ok (.invokevirtual 60, 3) := by decide +kernel
theorem d_LW_law_180 : decode code 180 = .ok (.aload_n 2, 1) := by decide +kernel
theorem d_LW_law_181 : decode code 181 = .ok (.invokevirtual 63, 3) := by decide +kernel
theorem d_LW_law_184 : decode code 184 = .ok (.if_icmp .eq 187, 3) := by decide +kernel
theorem d_LW_law_187 : decode code 187 = .ok (.iconst 0, 1) := by decide +kernel
theorem d_LW_law_188 : decode code 188 = .ok (.ireturn, 1) := by decide +kernel
theorem d_LW_law_189 : decode code 189 = .ok (.aload_n 1, 1) := by decide +kernel
theorem d_LW_law_190 : decode code 190 = .ok (.aload_n 3, 1) := by decide +kernel
theorem d_LW_law_191 : decode code 191 = .ok (.invokestatic 64, 3) := by decide +kernel
theorem d_LW_law_194 : decode code 194 = .ok (.istore 5, 2) := by decide +kernel
theorem d_LW_law_196 : decode code 196 = .ok (.aload_n 2, 1) := by decide +kernel
theorem d_LW_law_197 : decode code 197 = .ok (.invokevirtual 67, 3) := by decide +kernel
theorem d_LW_law_200 : decode code 200 = .ok (.istore 6, 2) := by decide +kernel
theorem d_LW_law_202 : decode code 202 = .ok (.goto 169, 3) := by decide +kernel
theorem d_LW_law_205 : decode code 205 = .ok (.aload_n 1, 1) := by decide +kernel
theorem d_LW_law_206 : decode code 206 = .ok (.aload_n 0, 1) := by decide +kernel
theorem d_LW_law_207 : decode code 207 = .ok (.iload 4, 2) := by decide +kernel
theorem d_LW_law_209 : decode code 209 = .ok (.iconst 1, 1) := by decide +kernel
theorem d_LW_law_210 : decode code 210 = .ok (.iadd, 1) := by decide +kernel
theorem d_LW_law_211 : decode code 211 = .ok (.iaload, 1) := by decide +kernel
theorem d_LW_law_212 : decode code 212 = .ok (.aload_n 3, 1) := by decide +kernel
theorem d_LW_law_213 : decode code 213 = .ok (.invokestatic 68, 3) := by decide +kernel
theorem d_LW_law_216 : decode code 216 = .ok (.istore 5, 2) := by decide +kernel
theorem d_LW_law_218 : decode code 218 = .ok (.aload_n 2, 1) := by decide +kernel
theorem d_LW_law_219 : decode code 219 = .ok (.aload_n 0, 1) := by decide +kernel
theorem d_LW_law_220 : decode code 220 = .ok (.iload 4, 2) := by decide +kernel
theorem d_LW_law_222 : decode code 222 = .ok (.iconst 1, 1) := by decide +kernel
theorem d_LW_law_223 : decode code 223 = .ok (.iadd, 1) := by decide +kernel
theorem d_LW_law_224 : decode code 224 = .ok (.iaload, 1) := by decide +kernel
theorem d_LW_law_225 : decode code 225 = .ok (.invokevirtual 71, 3) := by decide +kernel
theorem d_LW_law_228 : decode code 228 = .ok (.istore 6, 2) := by decide +kernel
theorem d_LW_law_230 : decode code 230 = .ok (.goto 141, 3) := by decide +kernel
theorem d_LW_law_233 : decode code 233 = .ok (.aload_n 1, 1) := by decide +kernel
theorem d_LW_law_234 : decode code 234 = .ok (.invokevirtual 72, 3) := by decide +kernel
theorem d_LW_law_237 : decode code 237 = .ok (.pop, 1) := by decide +kernel
theorem d_LW_law_238 : decode code 238 = .ok (.aload_n 2, 1) := by decide +kernel
theorem d_LW_law_239 : decode code 239 = .ok (.invokevirtual 75, 3) := by decide +kernel
theorem d_LW_law_242 : decode code 242 = .ok (.pop, 1) := by decide +kernel
theorem d_LW_law_243 : decode code 243 = .ok (.goto 128, 3) := by decide +kernel
theorem d_LW_law_246 : decode code 246 = .ok (.aload_n 1, 1) := by decide +kernel
theorem d_LW_law_247 : decode code 247 = .ok (.invokevirtual 76, 3) := by decide +kernel
theorem d_LW_law_250 : decode code 250 = .ok (.pop, 1) := by decide +kernel
theorem d_LW_law_251 : decode code 251 = .ok (.aload_n 2, 1) := by decide +kernel
theorem d_LW_law_252 : decode code 252 = .ok (.invokevirtual 79, 3) := by decide +kernel
theorem d_LW_law_255 : decode code 255 = .ok (.pop, 1) := by decide +kernel
theorem d_LW_law_256 : decode code 256 = .ok (.goto 115, 3) := by decide +kernel
theorem d_LW_law_259 : decode code 259 = .ok (.aload_n 1, 1) := by decide +kernel
theorem d_LW_law_260 : decode code 260 = .ok (.aload_n 0, 1) := by decide +kernel
theorem d_LW_law_261 : decode code 261 = .ok (.iload 4, 2) := by decide +kernel
theorem d_LW_law_263 : decode code 263 = .ok (.iconst 1, 1) := by decide +kernel
theorem d_LW_law_264 : decode code 264 = .ok (.iadd, 1) := by decide +kernel
theorem d_LW_law_265 : decode code 265 = .ok (.iaload, 1) := by decide +kernel
theorem d_LW_law_266 : decode code 266 = .ok (.aload_n 3, 1) := by decide +kernel
theorem d_LW_law_267 : decode code 267 = .ok (.invokestatic 80, 3) := by decide +kernel
theorem d_LW_law_270 : decode code 270 = .ok (.istore 5, 2) := by decide +kernel
theorem d_LW_law_272 : decode code 272 = .ok (.aload_n 2, 1) := by decide +kernel
theorem d_LW_law_273 : decode code 273 = .ok (.aload_n 0, 1) := by decide +kernel
theorem d_LW_law_274 : decode code 274 = .ok (.iload 4, 2) := by decide +kernel
theorem d_LW_law_276 : decode code 276 = .ok (.iconst 1, 1) := by decide +kernel
theorem d_LW_law_277 : decode code 277 = .ok (.iadd, 1) := by decide +kernel
theorem d_LW_law_278 : decode code 278 = .ok (.iaload, 1) := by decide +kernel
theorem d_LW_law_279 : decode code 279 = .ok (.invokevirtual 82, 3) := by decide +kernel
theorem d_LW_law_282 : decode code 282 = .ok (.istore 6, 2) := by decide +kernel
theorem d_LW_law_284 : decode code 284 = .ok (.goto 87, 3) := by decide +kernel
theorem d_LW_law_287 : decode code 287 = .ok (.aload_n 1, 1) := by decide +kernel
theorem d_LW_law_288 : decode code 288 = .ok (.aload_n 3, 1) := by decide +kernel
theorem d_LW_law_289 : decode code 289 = .ok (.invokestatic 83, 3) := by decide +kernel
theorem d_LW_law_292 : decode code 292 = .ok (.istore 5, 2) := by decide +kernel
theorem d_LW_law_294 : decode code 294 = .ok (.aload_n 2, 1) := by decide +kernel
theorem d_LW_law_295 : decode code 295 = .ok (.invokevirtual 85, 3) := by decide +kernel
theorem d_LW_law_298 : decode code 298 = .ok (.istore 6, 2) := by decide +kernel
theorem d_LW_law_300 : decode code 300 = .ok (.goto 71, 3) := by decide +kernel
theorem d_LW_law_303 : decode code 303 = .ok (.aload_n 1, 1) := by decide +kernel
theorem d_LW_law_304 : decode code 304 = .ok (.aload_n 0, 1) := by decide +kernel
theorem d_LW_law_305 : decode code 305 = .ok (.iload 4, 2) := by decide +kernel
theorem d_LW_law_307 : decode code 307 = .ok (.iconst 1, 1) := by decide +kernel
theorem d_LW_law_308 : decode code 308 = .ok (.iadd, 1) := by decide +kernel
theorem d_LW_law_309 : decode code 309 = .ok (.iaload, 1) := by decide +kernel
theorem d_LW_law_310 : decode code 310 = .ok (.aload_n 3, 1) := by decide +kernel
theorem d_LW_law_311 : decode code 311 = .ok (.invokestatic 86, 3) := by decide +kernel
theorem d_LW_law_314 : decode code 314 = .ok (.istore 5, 2) := by decide +kernel
theorem d_LW_law_316 : decode code 316 = .ok (.aload_n 2, 1) := by decide +kernel
theorem d_LW_law_317 : decode code 317 = .ok (.aload_n 0, 1) := by decide +kernel
theorem d_LW_law_318 : decode code 318 = .ok (.iload 4, 2) := by decide +kernel
theorem d_LW_law_320 : decode code 320 = .ok (.iconst 1, 1) := by decide +kernel
theorem d_LW_law_321 : decode code 321 = .ok (.iadd, 1) := by decide +kernel
theorem d_LW_law_322 : decode code 322 = .ok (.iaload, 1) := by decide +kernel
theorem d_LW_law_323 : decode code 323 = .ok (.invokevirtual 88, 3) := by decide +kernel
theorem d_LW_law_326 : decode code 326 = .ok (.istore 6, 2) := by decide +kernel
theorem d_LW_law_328 : decode code 328 = .ok (.goto 43, 3) := by decide +kernel
theorem d_LW_law_331 : decode code 331 = .ok (.aload_n 1, 1) := by decide +kernel
theorem d_LW_law_332 : decode code 332 = .ok (.aload_n 0, 1) := by decide +kernel
theorem d_LW_law_333 : decode code 333 = .ok (.iload 4, 2) := by decide +kernel
theorem d_LW_law_335 : decode code 335 = .ok (.iconst 1, 1) := by decide +kernel
theorem d_LW_law_336 : decode code 336 = .ok (.iadd, 1) := by decide +kernel
theorem d_LW_law_337 : decode code 337 = .ok (.iaload, 1) := by decide +kernel
theorem d_LW_law_338 : decode code 338 = .ok (.aload_n 0, 1) := by decide +kernel
theorem d_LW_law_339 : decode code 339 = .ok (.iload 4, 2) := by decide +kernel
theorem d_LW_law_341 : decode code 341 = .ok (.iconst 2, 1) := by decide +kernel
theorem d_LW_law_342 : decode code 342 = .ok (.iadd, 1) := by decide +kernel
theorem d_LW_law_343 : decode code 343 = .ok (.iaload, 1) := by decide +kernel
theorem d_LW_law_344 : decode code 344 = .ok (.aload_n 3, 1) := by decide +kernel
theorem d_LW_law_345 : decode code 345 = .ok (.invokestatic 89, 3) := by decide +kernel
theorem d_LW_law_348 : decode code 348 = .ok (.istore 5, 2) := by decide +kernel
theorem d_LW_law_350 : decode code 350 = .ok (.aload_n 2, 1) := by decide +kernel
theorem d_LW_law_351 : decode code 351 = .ok (.aload_n 0, 1) := by decide +kernel
theorem d_LW_law_352 : decode code 352 = .ok (.iload 4, 2) := by decide +kernel
theorem d_LW_law_354 : decode code 354 = .ok (.iconst 1, 1) := by decide +kernel
theorem d_LW_law_355 : decode code 355 = .ok (.iadd, 1) := by decide +kernel
theorem d_LW_law_356 : decode code 356 = .ok (.iaload, 1) := by decide +kernel
theorem d_LW_law_357 : decode code 357 = .ok (.aload_n 0, 1) := by decide +kernel
theorem d_LW_law_358 : decode code 358 = .ok (.iload 4, 2) := by decide +kernel
theorem d_LW_law_360 : decode code 360 = .ok (.iconst 2, 1) := by decide +kernel
theorem d_LW_law_361 : decode code 361 = .ok (.iadd, 1) := by decide +kernel
theorem d_LW_law_362 : decode code 362 = .ok (.iaload, 1) := by decide +kernel
theorem d_LW_law_363 : decode code 363 = .ok (.invokevirtual 92, 3) := by decide +kernel
theorem d_LW_law_366 : decode code 366 = .ok (.istore 6, 2) := by decide +kernel
theorem d_LW_law_368 : decode code 368 = .ok (.goto 3, 3) := by decide +kernel
theorem d_LW_law_371 : decode code 371 = .ok (.iinc 4 4, 3) := by decide +kernel
theorem d_LW_law_374 : decode code 374 = .ok (.goto (-341), 3) := by decide +kernel
theorem d_LW_law_377 : decode code 377 = .ok (.iconst 1, 1) := by decide +kernel
theorem d_LW_law_378 : decode code 378 = .ok (.ireturn, 1) := by decide +kernel
theorem th_of {th : Int32} {df tp ev ot rm : Nat} {so pt : Int32} {lk rs : Int64} {trm one two : Nat → Int64} {spn bss wts : Nat → Int32} (h : th = 0 ∨ (th = 1 ∧ tp = 0 ∧ ev = 0 ∧ so = 0 ∧ pt = 0 ∧ ot = 0 ∧ df ≤ 8 ∧ ∃ az : Nat, az ≤ rm ∧ HP0 df az lk trm one two)) (hrm : rm ≤ 400) : th = 0 ∨ ∃ G1 : Nat → Prop, MI df G1 trm one two spn tp lk rs pt ∧ ev ≤ 40 ∧ me bss wts ev tp 0 := by
  rcases h with h | ⟨-, rfl, rfl, -, rfl, -, h8, az, h1, h2⟩
  · exact Or.inl h
  · exact Or.inr ⟨fun c => c < az, ⟨⟨fun c hc => by show c < 400; have : c < az := hc; omega, h8, h2.2.1, h2.2.2⟩, h2.1, fun q => absurd q (by decide), by omega, fun k hk => absurd hk (by omega)⟩, by omega, me.zero⟩
theorem lw_same {x : Int64} {n r tn r2 : Int32} {wr wr1 ln ln1 : Nat} {ov : Nat → Int64} (hln : ln = wr) (hw : wr ≤ 240)
    (h1 : (r = 1 ∧ wr1 = wr ∧ ¬ wok x n) ∨ (r = 2 ∧ wr1 = wr ∧ ∃ k : Nat, n = nI k ∧ 1 ≤ k ∧ k ≤ 8 ∧ (∀ i, i < k → isCh (by8 x (nI i)) = 1) ∧ 240 < wr + k) ∨ (r = 0 ∧ ∃ k : Nat, n = nI k ∧ 1 ≤ k ∧ k ≤ 8 ∧ (∀ i, i < k → isCh (by8 x (nI i)) = 1) ∧ wr + k ≤ 240 ∧ wr1 = wr + k ∧ ov 0 = (nI (wr + k)).toInt64))
    (h2 : (tn = 1 ∧ ln1 = ln ∧ ¬ wok x n) ∨ (tn = 2 ∧ ln1 = ln ∧ ∃ k : Nat, n = nI k ∧ 1 ≤ k ∧ k ≤ 8 ∧ (∀ i, i < k → isCh (by8 x (nI i)) = 1) ∧ 240 < ln + k) ∨ (tn = 0 ∧ ∃ k : Nat, n = nI k ∧ 1 ≤ k ∧ k ≤ 8 ∧ (∀ i, i < k → isCh (by8 x (nI i)) = 1) ∧ ln + k ≤ 240 ∧ ln1 = ln + k ∧ r2 = nI (ln + k))) :
    tn = r ∧ ln1 = wr1 ∧ (r = 0 → ov 0 = r2.toInt64) := by
  subst hln
  rcases h1 with ⟨rfl, e1, n1⟩ | ⟨rfl, e1, k, a1, a2, a3, a4, a5⟩ | ⟨rfl, k, a1, a2, a3, a4, a5, e1, a6⟩
  · rcases h2 with ⟨rfl, e2, n2⟩ | ⟨rfl, e2, j, c1, c2, c3, c4, c5⟩ | ⟨rfl, j, c1, c2, c3, c4, c5, e2, c6⟩
    · exact ⟨rfl, e2.trans e1.symm, fun q => absurd q (by decide)⟩
    · exact absurd ⟨j, c1, c2, c3, c4⟩ n1
    · exact absurd ⟨j, c1, c2, c3, c4⟩ n1
  · rcases h2 with ⟨rfl, e2, n2⟩ | ⟨rfl, e2, j, c1, c2, c3, c4, c5⟩ | ⟨rfl, j, c1, c2, c3, c4, c5, e2, c6⟩
    · exact absurd ⟨k, a1, a2, a3, a4⟩ n2
    · exact ⟨rfl, e2.trans e1.symm, fun q => absurd q (by decide)⟩
    · have := nI_injk (by omega) (by omega) (a1.symm.trans c1); omega
  · rcases h2 with ⟨rfl, e2, n2⟩ | ⟨rfl, e2, j, c1, c2, c3, c4, c5⟩ | ⟨rfl, j, c1, c2, c3, c4, c5, e2, c6⟩
    · exact absurd ⟨k, a1, a2, a3, a4⟩ n2
    · have := nI_injk (by omega) (by omega) (a1.symm.trans c1); omega
    · have q := nI_injk (by omega) (by omega) (a1.symm.trans c1)
      subst q
      exact ⟨rfl, e2.trans e1.symm, fun _ => by rw [a6, c6]⟩
theorem lw_cmp {i L : Nat} (hi : i < 10000) (hL : L < 10000) : (Int32.ofNat L - 4 < nI i) ↔ L < i + 4 := by
  have e1 : (nI i).toInt = i := nI_int (by omega)
  have e2 : (Int32.ofNat L - 4).toInt = (L : Int) - 4 := by
    have q : (Int32.ofNat L).toInt = (L : Int) := nI_int (n := L) (by omega)
    rw [Int32.toInt_sub, q, show (4 : Int32).toInt = 4 by decide]
    rw [Int.bmod_def]
    omega
  rw [Int32.lt_iff_toInt_lt, e1, e2]
  omega

theorem lw_cell (l : Launch) (b L : Nat) (xs : Nat → Int32) (hL : L < 10000) : Met l y_LW_cell (wz y_LW_cell b_LW_cell 2 (some .int)) ({ frames := 0, locals := 0 }) (va_Pc [.ref b, .int 0] (fun U => va_X b L xs U U.heap)) (QcRead (if 0 < L then xs 0 else 0)) 0 0 (fun _ => False) := by
  refine Met.ofW (cc := b_LW_cell) (maxL := 2) (ret := (some .int)) (by decide) rfl ?_
  intro p e s m args below meth c s₁ B hml hv
  obtain ⟨rfl, hX⟩ := hv
  have hx := B.exec
  have hb := B.bytes
  have hr := B.returns
  have hlocks := B.notSynchronized
  have hS : va_S (fun _ => False) s.heap s.heap [] := va_S.rf
  have hl := lv_entry ([.ref b, .int 0]) (n := 2) (Nat.le_of_ble_eq_true rfl)
  rw [lg_entry_eq]
  generalize (lg_sl ([.ref b, .int 0]) ++ List.replicate (2 - (lg_sl ([.ref b, .int 0])).length) Slot.unset).toArray = ls at hl ⊢
  have hl : lv_has ls 2 [(0, .ref b), (1, .int 0)] := hl
  refine lv_iload_n hx hb d_LW_cell_0 rfl (lv_at hl 1 rfl) ?_
  refine lv_aload_n hx hb d_LW_cell_1 rfl (lv_at hl 0 rfl) ?_
  refine va_slen hx hb hX (tab_lt hX) (fun h => h) hS d_LW_cell_2 ?_
  refine W.eq (g2 := F0 m 3 ls [.int (nI L), .int (nI 0)]) rfl ?_
  refine lv_icmp_ge (tgt := 12) hx hb d_LW_cell_3 (by decide) (fun hq => ?_) (fun hq => ?_)
  · have h0 : ¬ 0 < L := fun h => absurd ((nI_leI (a := L) (b := 0) (by omega) (by omega)).mp hq) (by omega)
    rw [if_neg h0]
    refine lv_iconst (v := 0) hx hb d_LW_cell_12 (by decide) ?_
    exact W.iret hx hb hr (fun t ht hW => ⟨rfl, ht⟩) (fun q h => by cases h) d_LW_cell_13 hlocks
  · have h0 : 0 < L := by
      rcases Nat.eq_zero_or_pos L with h | h
      · exact absurd ((nI_leI (a := L) (b := 0) (by omega) (by omega)).mpr (by omega)) hq
      · exact h
    rw [if_pos h0]
    refine lv_aload_n hx hb d_LW_cell_6 rfl (lv_at hl 0 rfl) ?_
    refine lv_iload_n hx hb d_LW_cell_7 rfl (lv_at hl 1 rfl) ?_
    refine va_sld hx hb hX (tab_lt hX) (fun h => h) hS (vp_in_nI (n := 0) (N := L) h0 (by omega)) d_LW_cell_8 ?_
    refine lv_goto (tgt := 13) hx hb d_LW_cell_9 (by decide) ?_
    exact W.iret hx hb hr (fun t ht hW => ⟨rfl, ht⟩) (fun q h => by cases h) d_LW_cell_13 hlocks

/-- what holds throughout the law -/
def lw_C (p : Program) (s : State) (m : MethodId) (meth : Method) (c : Code) (l : Launch) (D : va_G) (cI cL cZ cC : ClassId) (A : Nat → Prop) (b L : Nat) (xs : Nat → Int32) (arc : Cell) : Prop :=
  (p.tables.exec = Jvm.exec ∧ c.code = code ∧ meth.sig.returnType = ret ∧ c.maxLocals = 7 ∧ s.vm.findClass rn_LW = some m.cls ∧ (∀ w ∈ G, w.before #[Value.ref b] s = true) ∧ meth.locks = false) ∧ (va_X b L xs s s.heap ∧ L ≤ 2049) ∧ va_K D classes (tys4 cI cL cZ cC) s ∧ tw_E D s ∧ LitOk D arc [] s ∧ TabOk D [] s ∧ (∀ q, s.heap.size ≤ q → A q) ∧ (∀ q, A q → s.heap.size ≤ q) ∧ l.stackTraces = false

/-- from a state of the loop at pc the law comes to its end -/
def lw_K (p : Program) (e : Env) (s : State) (m : MethodId) (below : List Frame) (meth : Method) (c : Code) (l : Launch) (D : va_G) (cI cL cZ cC : ClassId) (A : Nat → Prop) (b : Nat) (f : Nat → Nat) (h0 rr : Nat) (fm : Nat → Nat) (m0 m_rm oa : Nat) (i B ncl nsl pc : Nat) : Prop := ∀ (wr : Nat) (ld : Int32) (tx : Nat → Int32) (lz : Nat) (lk : Nat → Int32) (lv : Nat → Int32) (fs : Nat) (tb : Int32) (le : Nat → Int64) (ri : Nat → Int64) (wo : Nat → Int64) (fr : Nat → Int32) (od : Nat → Int32) (ha : Nat → Int32) (at_ : Int32) (nd : Nat) (df : Nat) (mt : Int64) (ns : Nat) (nw : Nat) (na : Nat → Int32) (de : Nat → Int64) (sc : Nat → Int32) (wt : Nat → Int64) (an : Nat → Int32) (nf : Nat) (rd : Int32) (nk : Nat) (ng : Nat) (gl : Nat → Int64) (gr : Nat → Int64) (gf : Nat → Int32) (gm : Nat → Int32) (gt : Nat → Int32) (gd : Nat → Int64) (gp : Nat → Int32) (pn : Nat) (pf : Nat → Int32) (pd : Nat → Int32) (on : Nat) (mo : Nat) (up : Nat) (kl : Int64) (kr : Int64) (kp : Int64) (kq : Int64) (il : Int32) (ir : Int32) (ss : Int32) (so : Int32) (sp : Nat → Int32) (ba : Nat → Int32) (as_ : Nat → Int32) (a2 : Nat → Int32) (fi : Nat → Int32) (m_tn : Int32) (m_ln : Nat) (m_lx : Nat) (m_at_ : Nat) (m_bd : Int32) (m_fs : Nat) (m_dp : Nat) (m_on : Nat) (m_os : Nat) (m_bn : Nat) (m_df : Nat) (m_th : Int32) (m_tp : Nat) (m_mo_ : Int32) (m_ev : Nat) (m_ss : Int32) (m_so : Int32) (m_lk : Int64) (m_rs : Int64) (m_pt : Int32) (m_ot : Nat) (m_cl : Int32) (m_tx : Nat → Int32) (m_ki : Nat → Int32) (m_wh : Nat → Int64) (m_le : Nat → Int64) (m_ri : Nat → Int64) (m_fr : Nat → Int32) (m_od : Nat → Int32) (m_ha : Nat → Int32) (m_be : Nat → Int64) (m_srt : Nat → Int32) (m_bas : Nat → Int32) (m_fst : Nat → Int32) (m_rdy : Nat → Int32) (m_frh : Nat → Int32) (m_opd : Nat → Int64) (m_opr : Nat → Int32) (m_nms : Nat → Int64) (m_dfd : Nat → Int64) (m_trm : Nat → Int64) (m_frm : Nat → Int32) (m_one : Nat → Int64) (m_two : Nat → Int64) (m_mrk : Nat → Int32) (m_wlk : Nat → Int32) (m_spn : Nat → Int32) (m_bss : Nat → Int32) (m_wts : Nat → Int32) (m_snd : Nat → Int32) (m_nbr : Nat → Int32) (m_lts : Nat → Int32) (m_gon : Nat → Int32) (m_plc : Nat → Int32) (ov : Nat → Int64) (H : Heap) (locs : List Loc) (ls : Array Slot), (wr ≤ 240) → ((ld = 0 ∨ ld = 1)) → (lz ≤ 100) → (fs ≤ 1024) → ((tb = 0 ∨ tb = 1)) → (wfa 1024 le) → (wfa 1024 ri) → (wfa 1024 wo) → (rng 1024 fr) → (rng 1024 od) → (bln ha) → (nd ≤ 8) → (df ≤ 8) → (wfw 1024 mt) → (ns ≤ 14) → (nw ≤ 100) → (wfa 1024 de) → (wfa 1024 wt) → (nf ≤ rr) → (nk ≤ rr) → (ng ≤ 8) → (wfa rr gl) → (wfa rr gr) → (rng rr gf) → (rng rr gt) → (wfa rr gd) → (rng rr gp) → (on ≤ 150) → (mo ≤ 150) → (up ≤ 40) → (wfw rr kl) → (wfw rr kr) → (wfw rr kp) → (wfw rr kq) → ((il = 0 ∨ il = 1)) → ((ir = 0 ∨ ir = 1)) → (rng rr sp) → (bln a2) → (mg ba as_ up on 0) → (pn ≤ B) → (m_ln = wr) → (rng 2000 m_fr) → (bln m_ha) → (bln m_rdy) → (bln m_frh) → (bln m_mrk) → (bln m_snd) → (bln m_gon) → (∀ d, m_gon d = 0) → ((m_th = 0 ∨ ∃ G1 : Nat → Prop, MI m_df G1 m_trm m_one m_two m_spn m_tp m_lk m_rs m_pt ∧ m_ev ≤ 40 ∧ me m_bss m_wts m_ev m_tp 0)) → (m_ot ≤ B) → lv_has ls 7 [(0, .ref b), (1, .ref h0), (2, .ref m0), (3, .ref oa), (4, .int (nI i))] → va_P D classes [(h0, .inr (0, [.ref (f 0), .int (nI wr), .ref (f 1), .ref (f 4), .ref (f 11), .ref (f 16), .ref (f 18), .ref (f 26), .ref (f 29), .int ld])), ((f 0), .inl (cC, 240, .inl tx)), ((f 1), .inr (1, [.ref (f 2), .ref (f 3), .int (nI lz)])), ((f 2), .inl (cI, 100, .inl lk)), ((f 3), .inl (cI, 100, .inl lv)), ((f 4), .inr (2, [.ref (f 5), .ref (f 6), .ref (f 7), .int (nI fs), .ref (f 8), .ref (f 9), .ref (f 10), .int tb])), ((f 5), .inl (cL, 1024, .inr (.inl le))), ((f 6), .inl (cL, 1024, .inr (.inl ri))), ((f 10), .inl (cL, 1024, .inr (.inl wo))), ((f 7), .inl (cI, 1024, .inl fr)), ((f 8), .inl (cI, 1024, .inl od)), ((f 9), .inl (cZ, 1024, .inl ha)), ((f 11), .inr (3, [.ref (f 1), .ref (f 4), .int at_, .ref (f 12), .int (nI nd), .ref (f 13), .int (nI df), .long mt, .ref (f 14), .int (nI ns), .ref (f 15), .int (nI nw)])), ((f 12), .inl (cI, 8, .inl na)), ((f 13), .inl (cL, 8, .inr (.inl de))), ((f 14), .inl (cI, 14, .inl sc)), ((f 15), .inl (cL, 100, .inr (.inl wt))), ((f 16), .inr (4, [.ref (f 17)])), ((f 17), .inl (cI, 27, .inl an)), ((f 18), .inr (5, [.int (nI rr), .ref (f 19), .ref (f 20), .ref (f 21), .int (nI nf), .ref (f 22), .int rd, .ref (f 23), .int (nI nk), .ref (f 24), .int (nI ng), .ref (f 25)])), ((f 19), .inl (cL, rr, .inr (.inl gl))), ((f 20), .inl (cL, rr, .inr (.inl gr))), ((f 21), .inl (cI, rr, .inl gf)), ((f 22), .inl (cI, rr, .inl gm)), ((f 23), .inl (cI, rr, .inl gt)), ((f 24), .inl (cL, 8, .inr (.inl gd))), ((f 25), .inl (cI, 1024, .inl gp)), ((f 26), .inr (6, [.ref (f 27), .ref (f 28), .int (nI pn)])), ((f 27), .inl (cC, 200, .inl pf)), ((f 28), .inl (cC, 10, .inl pd)), ((f 29), .inr (7, [.ref (f 18), .ref (f 26), .ref (f 30), .int (nI on), .int (nI mo), .ref (f 31), .ref (f 32), .ref (f 33), .ref (f 34), .int (nI up), .long kl, .long kr, .int il, .int ir, .long kp, .long kq, .int ss, .int so])), ((f 30), .inl (cI, 150, .inl sp)), ((f 31), .inl (cI, 41, .inl ba)), ((f 32), .inl (cI, 41, .inl as_)), ((f 33), .inl (cZ, 41, .inl a2)), ((f 34), .inl (cI, 41, .inl fi)), (m0, .inr (8, mS fm m_tn m_rm m_ln m_lx m_at_ m_bd m_fs m_dp m_on m_os m_bn m_df m_th m_tp m_mo_ m_ev m_ss m_so m_lk m_rs m_pt m_ot m_cl)), ((fm 0), .inl (cI, 240, .inl m_tx)), ((fm 1), .inl (cI, 101, .inl m_ki)), ((fm 2), .inl (cL, 101, .inr (.inl m_wh))), ((fm 3), .inl (cL, 2000, .inr (.inl m_le))), ((fm 4), .inl (cL, 2000, .inr (.inl m_ri))), ((fm 5), .inl (cI, 2000, .inl m_fr)), ((fm 6), .inl (cI, 2000, .inl m_od)), ((fm 7), .inl (cZ, 2000, .inl m_ha)), ((fm 8), .inl (cL, 2000, .inr (.inl m_be))), ((fm 9), .inl (cI, 9, .inl m_srt)), ((fm 10), .inl (cI, 9, .inl m_bas)), ((fm 11), .inl (cI, 9, .inl m_fst)), ((fm 12), .inl (cZ, 9, .inl m_rdy)), ((fm 13), .inl (cZ, 9, .inl m_frh)), ((fm 14), .inl (cL, 120, .inr (.inl m_opd))), ((fm 15), .inl (cI, 120, .inl m_opr)), ((fm 16), .inl (cL, 16, .inr (.inl m_nms))), ((fm 17), .inl (cL, 8, .inr (.inl m_dfd))), ((fm 18), .inl (cL, 9, .inr (.inl m_trm))), ((fm 19), .inl (cI, 27, .inl m_frm)), ((fm 20), .inl (cL, 400, .inr (.inl m_one))), ((fm 21), .inl (cL, 400, .inr (.inl m_two))), ((fm 22), .inl (cZ, 400, .inl m_mrk)), ((fm 23), .inl (cI, 810, .inl m_wlk)), ((fm 24), .inl (cI, 150, .inl m_spn)), ((fm 25), .inl (cI, 41, .inl m_bss)), ((fm 26), .inl (cI, 41, .inl m_wts)), ((fm 27), .inl (cZ, 41, .inl m_snd)), ((fm 28), .inl (cI, 41, .inl m_nbr)), ((fm 29), .inl (cI, 200, .inl m_lts)), ((fm 30), .inl (cZ, 2000, .inl m_gon)), ((fm 31), .inl (cI, 2000, .inl m_plc)), (oa, .inl (cL, 1, .inr (.inl ov)))] H → va_D A [(h0, .inr (0, [.ref (f 0), .int (nI wr), .ref (f 1), .ref (f 4), .ref (f 11), .ref (f 16), .ref (f 18), .ref (f 26), .ref (f 29), .int ld])), ((f 0), .inl (cC, 240, .inl tx)), ((f 1), .inr (1, [.ref (f 2), .ref (f 3), .int (nI lz)])), ((f 2), .inl (cI, 100, .inl lk)), ((f 3), .inl (cI, 100, .inl lv)), ((f 4), .inr (2, [.ref (f 5), .ref (f 6), .ref (f 7), .int (nI fs), .ref (f 8), .ref (f 9), .ref (f 10), .int tb])), ((f 5), .inl (cL, 1024, .inr (.inl le))), ((f 6), .inl (cL, 1024, .inr (.inl ri))), ((f 10), .inl (cL, 1024, .inr (.inl wo))), ((f 7), .inl (cI, 1024, .inl fr)), ((f 8), .inl (cI, 1024, .inl od)), ((f 9), .inl (cZ, 1024, .inl ha)), ((f 11), .inr (3, [.ref (f 1), .ref (f 4), .int at_, .ref (f 12), .int (nI nd), .ref (f 13), .int (nI df), .long mt, .ref (f 14), .int (nI ns), .ref (f 15), .int (nI nw)])), ((f 12), .inl (cI, 8, .inl na)), ((f 13), .inl (cL, 8, .inr (.inl de))), ((f 14), .inl (cI, 14, .inl sc)), ((f 15), .inl (cL, 100, .inr (.inl wt))), ((f 16), .inr (4, [.ref (f 17)])), ((f 17), .inl (cI, 27, .inl an)), ((f 18), .inr (5, [.int (nI rr), .ref (f 19), .ref (f 20), .ref (f 21), .int (nI nf), .ref (f 22), .int rd, .ref (f 23), .int (nI nk), .ref (f 24), .int (nI ng), .ref (f 25)])), ((f 19), .inl (cL, rr, .inr (.inl gl))), ((f 20), .inl (cL, rr, .inr (.inl gr))), ((f 21), .inl (cI, rr, .inl gf)), ((f 22), .inl (cI, rr, .inl gm)), ((f 23), .inl (cI, rr, .inl gt)), ((f 24), .inl (cL, 8, .inr (.inl gd))), ((f 25), .inl (cI, 1024, .inl gp)), ((f 26), .inr (6, [.ref (f 27), .ref (f 28), .int (nI pn)])), ((f 27), .inl (cC, 200, .inl pf)), ((f 28), .inl (cC, 10, .inl pd)), ((f 29), .inr (7, [.ref (f 18), .ref (f 26), .ref (f 30), .int (nI on), .int (nI mo), .ref (f 31), .ref (f 32), .ref (f 33), .ref (f 34), .int (nI up), .long kl, .long kr, .int il, .int ir, .long kp, .long kq, .int ss, .int so])), ((f 30), .inl (cI, 150, .inl sp)), ((f 31), .inl (cI, 41, .inl ba)), ((f 32), .inl (cI, 41, .inl as_)), ((f 33), .inl (cZ, 41, .inl a2)), ((f 34), .inl (cI, 41, .inl fi)), (m0, .inr (8, mS fm m_tn m_rm m_ln m_lx m_at_ m_bd m_fs m_dp m_on m_os m_bn m_df m_th m_tp m_mo_ m_ev m_ss m_so m_lk m_rs m_pt m_ot m_cl)), ((fm 0), .inl (cI, 240, .inl m_tx)), ((fm 1), .inl (cI, 101, .inl m_ki)), ((fm 2), .inl (cL, 101, .inr (.inl m_wh))), ((fm 3), .inl (cL, 2000, .inr (.inl m_le))), ((fm 4), .inl (cL, 2000, .inr (.inl m_ri))), ((fm 5), .inl (cI, 2000, .inl m_fr)), ((fm 6), .inl (cI, 2000, .inl m_od)), ((fm 7), .inl (cZ, 2000, .inl m_ha)), ((fm 8), .inl (cL, 2000, .inr (.inl m_be))), ((fm 9), .inl (cI, 9, .inl m_srt)), ((fm 10), .inl (cI, 9, .inl m_bas)), ((fm 11), .inl (cI, 9, .inl m_fst)), ((fm 12), .inl (cZ, 9, .inl m_rdy)), ((fm 13), .inl (cZ, 9, .inl m_frh)), ((fm 14), .inl (cL, 120, .inr (.inl m_opd))), ((fm 15), .inl (cI, 120, .inl m_opr)), ((fm 16), .inl (cL, 16, .inr (.inl m_nms))), ((fm 17), .inl (cL, 8, .inr (.inl m_dfd))), ((fm 18), .inl (cL, 9, .inr (.inl m_trm))), ((fm 19), .inl (cI, 27, .inl m_frm)), ((fm 20), .inl (cL, 400, .inr (.inl m_one))), ((fm 21), .inl (cL, 400, .inr (.inl m_two))), ((fm 22), .inl (cZ, 400, .inl m_mrk)), ((fm 23), .inl (cI, 810, .inl m_wlk)), ((fm 24), .inl (cI, 150, .inl m_spn)), ((fm 25), .inl (cI, 41, .inl m_bss)), ((fm 26), .inl (cI, 41, .inl m_wts)), ((fm 27), .inl (cZ, 41, .inl m_snd)), ((fm 28), .inl (cI, 41, .inl m_nbr)), ((fm 29), .inl (cI, 200, .inl m_lts)), ((fm 30), .inl (cZ, 2000, .inl m_gon)), ((fm 31), .inl (cI, 2000, .inl m_plc)), (oa, .inl (cL, 1, .inr (.inl ov)))] → va_S A s.heap H locs → W p l e room_1 s m #[Value.ref b] below meth c H locs ncl nsl (lw_Z below #[Value.ref b] s) (F0 m pc ls [])
