/-! THE CLAIM OUT OF ONE WALK OF THE LAW'S BODY. Your part is whole_start (and what it stands on); all else here is the same for every law, but numbers. -/
def R_law : String := "RealHouseLaw"
def lw_P (b : Addr) (xs : List Int32) (args : Array Value) (s : State) : Prop := args = #[.ref b] ∧ s.IntsAt b xs ∧ xs.length ≤ 6 ∧ (Jvm.Cond.and given_1 narrow_1).before args s = true
def lw_Q (_ : Array Value) (s : State) (o : Outcome) (t : State) : Prop := o = .returned (some (.int 1)) ∧ Framed s o t [] 600000 7302250
def lw_Z (below : List Frame) (a : Array Value) (s : State) : State → Prop := fun t => ∃ o, t.status = .running ∧ Ended t below o ∧ lw_Q a s o t
/-- the law's own end, with 1 on the stack, nothing written that was there before, its room as the claim has it -/
theorem lw_ret {p : Program} {l : Launch} {e : Env} {s : State} {m : MethodId} {below : List Frame} {meth : Method} {c : Code} {b : Nat} (hx : p.tables.exec = Jvm.exec) (hb : c.code = code) (hr : meth.sig.returnType = ret) (hlocks : meth.locks = false) {pc : Nat} {H : Heap} {ls : Array Slot} (hdg : decode code pc = .ok (.ireturn, 1)) : W p l e room_1 s m #[Value.ref b] below meth c H [] 600000 7302250 (lw_Z below #[Value.ref b] s) (F0 m pc ls [.int 1]) := by
  intro T hT X
  obtain ⟨fs, hret, hrun, hended, hW, hframe⟩ := X.leave (v := some (.int 1)) (hlocks := hlocks) (fun h => by rw [hr] at h; cases h)
  have hmeth' : T.vm.method? m = some meth := X.method'
  refine ⟨T.setFrames fs, ?_, .returned (some (.int 1)), hrun, hended, rfl, ⟨_, rfl⟩, hW, hframe⟩
  jvm_step X.here [X.here.top, hx, hb, hdg, hmeth', hr, ret, narrow_b1]
  (try refine ⟨rfl, ?_⟩); (try refine ⟨rfl, ?_⟩)
  first | (intro acts; rw [hret _ acts rfl rfl rfl]) | rw [hret _ _ rfl rfl rfl]
  exact Steps.refl _
/-- what holds at the law's entry: the machine, the code, the tables' words (any of lw_tbl by 'hts w (by decide +kernel)'), the script of L ints xs at the cell b, what the Statement gives of the start (any of its parts by flat_of_before) -/
def lw_At (p : Program) (s : State) (m : MethodId) (meth : Method) (c : Code) (b L : Nat) (xs : Nat → Int32) : Prop :=
  p.tables.exec = Jvm.exec ∧ c.code = code ∧ meth.sig.returnType = ret ∧ c.maxLocals = 4 ∧ s.vm.findClass R_law = some m.cls ∧ (∀ w ∈ lw_tbl, w.before #[Value.ref b] s = true) ∧ va_X b L xs s s.heap ∧ b < s.heap.size ∧ meth.locks = false ∧ (Jvm.Cond.and given_1 narrow_1).before #[Value.ref b] s = true
theorem d_law_0 : decode code 0 = .ok (.new 7, 3) := by decide +kernel
theorem d_law_3 : decode code 3 = .ok (.dup, 1) := by decide +kernel
theorem d_law_4 : decode code 4 = .ok (.invokespecial 9, 3) := by decide +kernel
theorem d_law_7 : decode code 7 = .ok (.astore_n 1, 1) := by decide +kernel
theorem d_law_8 : decode code 8 = .ok (.new 10, 3) := by decide +kernel
theorem d_law_11 : decode code 11 = .ok (.dup, 1) := by decide +kernel
theorem d_law_12 : decode code 12 = .ok (.invokespecial 12, 3) := by decide +kernel
theorem d_law_15 : decode code 15 = .ok (.astore_n 2, 1) := by decide +kernel
theorem d_law_16 : decode code 16 = .ok (.iconst 0, 1) := by decide +kernel
theorem d_law_17 : decode code 17 = .ok (.istore_n 3, 1) := by decide +kernel
theorem d_law_18 : decode code 18 = .ok (.iload_n 3, 1) := by decide +kernel
theorem d_law_19 : decode code 19 = .ok (.aload_n 0, 1) := by decide +kernel
theorem d_law_20 : decode code 20 = .ok (.arraylength, 1) := by decide +kernel
theorem d_law_21 : decode code 21 = .ok (.bipush 6, 2) := by decide +kernel
theorem d_law_23 : decode code 23 = .ok (.isub, 1) := by decide +kernel
theorem d_law_24 : decode code 24 = .ok (.if_icmp .gt 851, 3) := by decide +kernel
theorem d_law_27 : decode code 27 = .ok (.aload_n 0, 1) := by decide +kernel
theorem d_law_28 : decode code 28 = .ok (.iload_n 3, 1) := by decide +kernel
theorem d_law_29 : decode code 29 = .ok (.iaload, 1) := by decide +kernel
theorem d_law_30 : decode code 30 = .ok (.bipush 31, 2) := by decide +kernel
theorem d_law_32 : decode code 32 = .ok (.iand, 1) := by decide +kernel
theorem d_law_33 : decode code 33 = .ok (.tableswitch 836 0 22 #[107, 170, 193, 226, 249, 272, 305, 338, 371, 394, 437, 470, 493, 516, 549, 592, 615, 638, 661, 694, 747, 770, 803], 107) := by decide +kernel
theorem d_law_140 : decode code 140 = .ok (.aload_n 1, 1) := by decide +kernel
theorem d_law_141 : decode code 141 = .ok (.aload_n 0, 1) := by decide +kernel
theorem d_law_142 : decode code 142 = .ok (.iload_n 3, 1) := by decide +kernel
theorem d_law_143 : decode code 143 = .ok (.iconst 1, 1) := by decide +kernel
theorem d_law_144 : decode code 144 = .ok (.iadd, 1) := by decide +kernel
theorem d_law_145 : decode code 145 = .ok (.iaload, 1) := by decide +kernel
theorem d_law_146 : decode code 146 = .ok (.aload_n 0, 1) := by decide +kernel
theorem d_law_147 : decode code 147 = .ok (.iload_n 3, 1) := by decide +kernel
theorem d_law_148 : decode code 148 = .ok (.iconst 2, 1) := by decide +kernel
theorem d_law_149 : decode code 149 = .ok (.iadd, 1) := by decide +kernel
theorem d_law_150 : decode code 150 = .ok (.iaload, 1) := by decide +kernel
theorem d_law_151 : decode code 151 = .ok (.aload_n 0, 1) := by decide +kernel
theorem d_law_152 : decode code 152 = .ok (.iload_n 3, 1) := by decide +kernel
theorem d_law_153 : decode code 153 = .ok (.iconst 3, 1) := by decide +kernel
theorem d_law_154 : decode code 154 = .ok (.iadd, 1) := by decide +kernel
theorem d_law_155 : decode code 155 = .ok (.iaload, 1) := by decide +kernel
theorem d_law_156 : decode code 156 = .ok (.aload_n 0, 1) := by decide +kernel
theorem d_law_157 : decode code 157 = .ok (.iload_n 3, 1) := by decide +kernel
theorem d_law_158 : decode code 158 = .ok (.iconst 4, 1) := by decide +kernel
theorem d_law_159 : decode code 159 = .ok (.iadd, 1) := by decide +kernel
theorem d_law_160 : decode code 160 = .ok (.iaload, 1) := by decide +kernel
theorem d_law_161 : decode code 161 = .ok (.aload_n 0, 1) := by decide +kernel
theorem d_law_162 : decode code 162 = .ok (.iload_n 3, 1) := by decide +kernel
theorem d_law_163 : decode code 163 = .ok (.iconst 5, 1) := by decide +kernel
theorem d_law_164 : decode code 164 = .ok (.iadd, 1) := by decide +kernel
theorem d_law_165 : decode code 165 = .ok (.iaload, 1) := by decide +kernel
theorem d_law_166 : decode code 166 = .ok (.invokevirtual 13, 3) := by decide +kernel
theorem d_law_169 : decode code 169 = .ok (.aload_n 2, 1) := by decide +kernel
theorem d_law_170 : decode code 170 = .ok (.aload_n 0, 1) := by decide +kernel
theorem d_law_171 : decode code 171 = .ok (.iload_n 3, 1) := by decide +kernel
theorem d_law_172 : decode code 172 = .ok (.iconst 1, 1) := by decide +kernel
theorem d_law_173 : decode code 173 = .ok (.iadd, 1) := by decide +kernel
theorem d_law_174 : decode code 174 = .ok (.iaload, 1) := by decide +kernel
theorem d_law_175 : decode code 175 = .ok (.aload_n 0, 1) := by decide +kernel
theorem d_law_176 : decode code 176 = .ok (.iload_n 3, 1) := by decide +kernel
theorem d_law_177 : decode code 177 = .ok (.iconst 2, 1) := by decide +kernel
theorem d_law_178 : decode code 178 = .ok (.iadd, 1) := by decide +kernel
theorem d_law_179 : decode code 179 = .ok (.iaload, 1) := by decide +kernel
theorem d_law_180 : decode code 180 = .ok (.aload_n 0, 1) := by decide +kernel
theorem d_law_181 : decode code 181 = .ok (.iload_n 3, 1) := by decide +kernel
theorem d_law_182 : decode code 182 = .ok (.iconst 3, 1) := by decide +kernel
theorem d_law_183 : decode code 183 = .ok (.iadd, 1) := by decide +kernel
theorem d_law_184 : decode code 184 = .ok (.iaload, 1) := by decide +kernel
theorem d_law_185 : decode code 185 = .ok (.aload_n 0, 1) := by decide +kernel
theorem d_law_186 : decode code 186 = .ok (.iload_n 3, 1) := by decide +kernel
theorem d_law_187 : decode code 187 = .ok (.iconst 4, 1) := by decide +kernel
theorem d_law_188 : decode code 188 = .ok (.iadd, 1) := by decide +kernel
theorem d_law_189 : decode code 189 = .ok (.iaload, 1) := by decide +kernel
theorem d_law_190 : decode code 190 = .ok (.aload_n 0, 1) := by decide +kernel
theorem d_law_191 : decode code 191 = .ok (.iload_n 3, 1) := by decide +kernel
theorem d_law_192 : decode code 192 = .ok (.iconst 5, 1) := by decide +kernel
theorem d_law_193 : decode code 193 = .ok (.iadd, 1) := by decide +kernel
theorem d_law_194 : decode code 194 = .ok (.iaload, 1) := by decide +kernel
theorem d_law_195 : decode code 195 = .ok (.invokevirtual 17, 3) := by decide +kernel
theorem d_law_198 : decode code 198 = .ok (.if_icmp .eq 671, 3) := by decide +kernel
theorem d_law_203 : decode code 203 = .ok (.aload_n 1, 1) := by decide +kernel
theorem d_law_204 : decode code 204 = .ok (.aload_n 0, 1) := by decide +kernel
theorem d_law_205 : decode code 205 = .ok (.iload_n 3, 1) := by decide +kernel
theorem d_law_206 : decode code 206 = .ok (.iconst 1, 1) := by decide +kernel
theorem d_law_207 : decode code 207 = .ok (.iadd, 1) := by decide +kernel
theorem d_law_208 : decode code 208 = .ok (.iaload, 1) := by decide +kernel
theorem d_law_209 : decode code 209 = .ok (.invokevirtual 18, 3) := by decide +kernel
theorem d_law_212 : decode code 212 = .ok (.aload_n 2, 1) := by decide +kernel
theorem d_law_213 : decode code 213 = .ok (.aload_n 0, 1) := by decide +kernel
theorem d_law_214 : decode code 214 = .ok (.iload_n 3, 1) := by decide +kernel
theorem d_law_215 : decode code 215 = .ok (.iconst 1, 1) := by decide +kernel
theorem d_law_216 : decode code 216 = .ok (.iadd, 1) := by decide +kernel
theorem d_law_217 : decode code 217 = .ok (.iaload, 1) := by decide +kernel
theorem d_law_218 : decode code 218 = .ok (.invokevirtual 22, 3) := by decide +kernel
theorem d_law_221 : decode code 221 = .ok (.if_icmp .eq 648, 3) := by decide +kernel
theorem d_law_226 : decode code 226 = .ok (.aload_n 1, 1) := by decide +kernel
theorem d_law_227 : decode code 227 = .ok (.aload_n 0, 1) := by decide +kernel
theorem d_law_228 : decode code 228 = .ok (.iload_n 3, 1) := by decide +kernel
theorem d_law_229 : decode code 229 = .ok (.iconst 1, 1) := by decide +kernel
theorem d_law_230 : decode code 230 = .ok (.iadd, 1) := by decide +kernel
theorem d_law_231 : decode code 231 = .ok (.iaload, 1) := by decide +kernel
theorem d_law_232 : decode code 232 = .ok (.aload_n 0, 1) := by decide +kernel
theorem d_law_233 : decode code 233 = .ok (.iload_n 3, 1) := by decide +kernel
theorem d_law_234 : decode code 234 = .ok (.iconst 2, 1) := by decide +kernel
theorem d_law_235 : decode code 235 = .ok (.iadd, 1) := by decide +kernel
theorem d_law_236 : decode code 236 = .ok (.iaload, 1) := by decide +kernel
theorem d_law_237 : decode code 237 = .ok (.invokevirtual 23, 3) := by decide +kernel
theorem d_law_240 : decode code 240 = .ok (.aload_n 2, 1) := by decide +kernel
theorem d_law_241 : decode code 241 = .ok (.aload_n 0, 1) := by decide +kernel
theorem d_law_242 : decode code 242 = .ok (.iload_n 3, 1) := by decide +kernel
theorem d_law_243 : decode code 243 = .ok (.iconst 1, 1) := by decide +kernel
theorem d_law_244 : decode code 244 = .ok (.iadd, 1) := by decide +kernel
theorem d_law_245 : decode code 245 = .ok (.iaload, 1) := by decide +kernel
theorem d_law_246 : decode code 246 = .ok (.aload_n 0, 1) := by decide +kernel
theorem d_law_247 : decode code 247 = .ok (.iload_n 3, 1) := by decide +kernel
theorem d_law_248 : decode code 248 = .ok (.iconst 2, 1) := by decide +kernel
theorem d_law_249 : decode code 249 = .ok (.iadd, 1) := by decide +kernel
theorem d_law_250 : decode code 250 = .ok (.iaload, 1) := by decide +kernel
theorem d_law_251 : decode code 251 = .ok (.invokevirtual 27, 3) := by decide +kernel
theorem d_law_254 : decode code 254 = .ok (.if_icmp .eq 615, 3) := by decide +kernel
theorem d_law_259 : decode code 259 = .ok (.aload_n 1, 1) := by decide +kernel
theorem d_law_260 : decode code 260 = .ok (.aload_n 0, 1) := by decide +kernel
theorem d_law_261 : decode code 261 = .ok (.iload_n 3, 1) := by decide +kernel
theorem d_law_262 : decode code 262 = .ok (.iconst 1, 1) := by decide +kernel
theorem d_law_263 : decode code 263 = .ok (.iadd, 1) := by decide +kernel
theorem d_law_264 : decode code 264 = .ok (.iaload, 1) := by decide +kernel
theorem d_law_265 : decode code 265 = .ok (.invokevirtual 28, 3) := by decide +kernel
theorem d_law_268 : decode code 268 = .ok (.aload_n 2, 1) := by decide +kernel
theorem d_law_269 : decode code 269 = .ok (.aload_n 0, 1) := by decide +kernel
theorem d_law_270 : decode code 270 = .ok (.iload_n 3, 1) := by decide +kernel
theorem d_law_271 : decode code 271 = .ok (.iconst 1, 1) := by decide +kernel
theorem d_law_272 : decode code 272 = .ok (.iadd, 1) := by decide +kernel
theorem d_law_273 : decode code 273 = .ok (.iaload, 1) := by decide +kernel
theorem d_law_274 : decode code 274 = .ok (.invokevirtual 31, 3) := by decide +kernel
theorem d_law_277 : decode code 277 = .ok (.if_icmp .eq 592, 3) := by decide +kernel
theorem d_law_282 : decode code 282 = .ok (.aload_n 1, 1) := by decide +kernel
theorem d_law_283 : decode code 283 = .ok (.aload_n 0, 1) := by decide +kernel
theorem d_law_284 : decode code 284 = .ok (.iload_n 3, 1) := by decide +kernel
theorem d_law_285 : decode code 285 = .ok (.iconst 1, 1) := by decide +kernel
theorem d_law_286 : decode code 286 = .ok (.iadd, 1) := by decide +kernel
theorem d_law_287 : decode code 287 = .ok (.iaload, 1) := by decide +kernel
theorem d_law_288 : decode code 288 = .ok (.invokevirtual 32, 3) := by decide +kernel
theorem d_law_291 : decode code 291 = .ok (.aload_n 2, 1) := by decide +kernel
theorem d_law_292 : decode code 292 = .ok (.aload_n 0, 1) := by decide +kernel
theorem d_law_293 : decode code 293 = .ok (.iload_n 3, 1) := by decide +kernel
theorem d_law_294 : decode code 294 = .ok (.iconst 1, 1) := by decide +kernel
theorem d_law_295 : decode code 295 = .ok (.iadd, 1) := by decide +kernel
theorem d_law_296 : decode code 296 = .ok (.iaload, 1) := by decide +kernel
theorem d_law_297 : decode code 297 = .ok (.invokevirtual 35, 3) := by decide +kernel
theorem d_law_300 : decode code 300 = .ok (.if_icmp .eq 569, 3) := by decide +kernel
theorem d_law_305 : decode code 305 = .ok (.aload_n 1, 1) := by decide +kernel
theorem d_law_306 : decode code 306 = .ok (.aload_n 0, 1) := by decide +kernel
theorem d_law_307 : decode code 307 = .ok (.iload_n 3, 1) := by decide +kernel
theorem d_law_308 : decode code 308 = .ok (.iconst 1, 1) := by decide +kernel
theorem d_law_309 : decode code 309 = .ok (.iadd, 1) := by decide +kernel
theorem d_law_310 : decode code 310 = .ok (.iaload, 1) := by decide +kernel
theorem d_law_311 : decode code 311 = .ok (.aload_n 0, 1) := by decide +kernel
theorem d_law_312 : decode code 312 = .ok (.iload_n 3, 1) := by decide +kernel
theorem d_law_313 : decode code 313 = .ok (.iconst 2, 1) := by decide +kernel
theorem d_law_314 : decode code 314 = .ok (.iadd, 1) := by decide +kernel
theorem d_law_315 : decode code 315 = .ok (.iaload, 1) := by decide +kernel
theorem d_law_316 : decode code 316 = .ok (.invokevirtual 36, 3) := by decide +kernel
theorem d_law_319 : decode code 319 = .ok (.aload_n 2, 1) := by decide +kernel
theorem d_law_320 : decode code 320 = .ok (.aload_n 0, 1) := by decide +kernel
theorem d_law_321 : decode code 321 = .ok (.iload_n 3, 1) := by decide +kernel
theorem d_law_322 : decode code 322 = .ok (.iconst 1, 1) := by decide +kernel
theorem d_law_323 : decode code 323 = .ok (.iadd, 1) := by decide +kernel
theorem d_law_324 : decode code 324 = .ok (.iaload, 1) := by decide +kernel
theorem d_law_325 : decode code 325 = .ok (.aload_n 0, 1) := by decide +kernel
theorem d_law_326 : decode code 326 = .ok (.iload_n 3, 1) := by decide +kernel
theorem d_law_327 : decode code 327 = .ok (.iconst 2, 1) := by decide +kernel
theorem d_law_328 : decode code 328 = .ok (.iadd, 1) := by decide +kernel
theorem d_law_329 : decode code 329 = .ok (.iaload, 1) := by decide +kernel
theorem d_law_330 : decode code 330 = .ok (.invokevirtual 39, 3) := by decide +kernel
theorem d_law_333 : decode code 333 = .ok (.if_icmp .eq 536, 3) := by decide +kernel
theorem d_law_338 : decode code 338 = .ok (.aload_n 1, 1) := by decide +kernel
theorem d_law_339 : decode code 339 = .ok (.aload_n 0, 1) := by decide +kernel
theorem d_law_340 : decode code 340 = .ok (.iload_n 3, 1) := by decide +kernel
theorem d_law_341 : decode code 341 = .ok (.iconst 1, 1) := by decide +kernel
theorem d_law_342 : decode code 342 = .ok (.iadd, 1) := by decide +kernel
theorem d_law_343 : decode code 343 = .ok (.iaload, 1) := by decide +kernel
theorem d_law_344 : decode code 344 = .ok (.aload_n 0, 1) := by decide +kernel
theorem d_law_345 : decode code 345 = .ok (.iload_n 3, 1) := by decide +kernel
theorem d_law_346 : decode code 346 = .ok (.iconst 2, 1) := by decide +kernel
theorem d_law_347 : decode code 347 = .ok (.iadd, 1) := by decide +kernel
theorem d_law_348 : decode code 348 = .ok (.iaload, 1) := by decide +kernel
theorem d_law_349 : decode code 349 = .ok (.invokevirtual 40, 3) := by decide +kernel
theorem d_law_352 : decode code 352 = .ok (.aload_n 2, 1) := by decide +kernel
theorem d_law_353 : decode code 353 = .ok (.aload_n 0, 1) := by decide +kernel
theorem d_law_354 : decode code 354 = .ok (.iload_n 3, 1) := by decide +kernel
theorem d_law_355 : decode code 355 = .ok (.iconst 1, 1) := by decide +kernel
theorem d_law_356 : decode code 356 = .ok (.iadd, 1) := by decide +kernel
theorem d_law_357 : decode code 357 = .ok (.iaload, 1) := by decide +kernel
theorem d_law_358 : decode code 358 = .ok (.aload_n 0, 1) := by decide +kernel
theorem d_law_359 : decode code 359 = .ok (.iload_n 3, 1) := by decide +kernel
theorem d_law_360 : decode code 360 = .ok (.iconst 2, 1) := by decide +kernel
theorem d_law_361 : decode code 361 = .ok (.iadd, 1) := by decide +kernel
theorem d_law_362 : decode code 362 = .ok (.iaload, 1) := by decide +kernel
theorem d_law_363 : decode code 363 = .ok (.invokevirtual 43, 3) := by decide +kernel
theorem d_law_366 : decode code 366 = .ok (.if_icmp .eq 503, 3) := by decide +kernel
theorem d_law_371 : decode code 371 = .ok (.aload_n 1, 1) := by decide +kernel
theorem d_law_372 : decode code 372 = .ok (.aload_n 0, 1) := by decide +kernel
theorem d_law_373 : decode code 373 = .ok (.iload_n 3, 1) := by decide +kernel
theorem d_law_374 : decode code 374 = .ok (.iconst 1, 1) := by decide +kernel
theorem d_law_375 : decode code 375 = .ok (.iadd, 1) := by decide +kernel
theorem d_law_376 : decode code 376 = .ok (.iaload, 1) := by decide +kernel
theorem d_law_377 : decode code 377 = .ok (.aload_n 0, 1) := by decide +kernel
theorem d_law_378 : decode code 378 = .ok (.iload_n 3, 1) := by decide +kernel
theorem d_law_379 : decode code 379 = .ok (.iconst 2, 1) := by decide +kernel
theorem d_law_380 : decode code 380 = .ok (.iadd, 1) := by decide +kernel
theorem d_law_381 : decode code 381 = .ok (.iaload, 1) := by decide +kernel
theorem d_law_382 : decode code 382 = .ok (.invokevirtual 44, 3) := by decide +kernel
theorem d_law_385 : decode code 385 = .ok (.aload_n 2, 1) := by decide +kernel
theorem d_law_386 : decode code 386 = .ok (.aload_n 0, 1) := by decide +kernel
theorem d_law_387 : decode code 387 = .ok (.iload_n 3, 1) := by decide +kernel
theorem d_law_388 : decode code 388 = .ok (.iconst 1, 1) := by decide +kernel
theorem d_law_389 : decode code 389 = .ok (.iadd, 1) := by decide +kernel
theorem d_law_390 : decode code 390 = .ok (.iaload, 1) := by decide +kernel
theorem d_law_391 : decode code 391 = .ok (.aload_n 0, 1) := by decide +kernel
theorem d_law_392 : decode code 392 = .ok (.iload_n 3, 1) := by decide +kernel
theorem d_law_393 : decode code 393 = .ok (.iconst 2, 1) := by decide +kernel
theorem d_law_394 : decode code 394 = .ok (.iadd, 1) := by decide +kernel
theorem d_law_395 : decode code 395 = .ok (.iaload, 1) := by decide +kernel
theorem d_law_396 : decode code 396 = .ok (.invokevirtual 47, 3) := by decide +kernel
theorem d_law_399 : decode code 399 = .ok (.if_icmp .eq 470, 3) := by decide +kernel
theorem d_law_404 : decode code 404 = .ok (.aload_n 1, 1) := by decide +kernel
theorem d_law_405 : decode code 405 = .ok (.aload_n 0, 1) := by decide +kernel
theorem d_law_406 : decode code 406 = .ok (.iload_n 3, 1) := by decide +kernel
theorem d_law_407 : decode code 407 = .ok (.iconst 1, 1) := by decide +kernel
theorem d_law_408 : decode code 408 = .ok (.iadd, 1) := by decide +kernel
theorem d_law_409 : decode code 409 = .ok (.iaload, 1) := by decide +kernel
theorem d_law_410 : decode code 410 = .ok (.invokevirtual 48, 3) := by decide +kernel
theorem d_law_413 : decode code 413 = .ok (.aload_n 2, 1) := by decide +kernel
theorem d_law_414 : decode code 414 = .ok (.aload_n 0, 1) := by decide +kernel
theorem d_law_415 : decode code 415 = .ok (.iload_n 3, 1) := by decide +kernel
theorem d_law_416 : decode code 416 = .ok (.iconst 1, 1) := by decide +kernel
theorem d_law_417 : decode code 417 = .ok (.iadd, 1) := by decide +kernel
theorem d_law_418 : decode code 418 = .ok (.iaload, 1) := by decide +kernel
theorem d_law_419 : decode code 419 = .ok (.invokevirtual 51, 3) := by decide +kernel
theorem d_law_422 : decode code 422 = .ok (.if_icmp .eq 447, 3) := by decide +kernel
theorem d_law_427 : decode code 427 = .ok (.aload_n 1, 1) := by decide +kernel
theorem d_law_428 : decode code 428 = .ok (.aload_n 0, 1) := by decide +kernel
theorem d_law_429 : decode code 429 = .ok (.iload_n 3, 1) := by decide +kernel
theorem d_law_430 : decode code 430 = .ok (.iconst 1, 1) := by decide +kernel
theorem d_law_431 : decode code 431 = .ok (.iadd, 1) := by decide +kernel
theorem d_law_432 : decode code 432 = .ok (.iaload, 1) := by decide +kernel
theorem d_law_433 : decode code 433 = .ok (.aload_n 0, 1) := by decide +kernel
theorem d_law_434 : decode code 434 = .ok (.iload_n 3, 1) := by decide +kernel
theorem d_law_435 : decode code 435 = .ok (.iconst 2, 1) := by decide +kernel
theorem d_law_436 : decode code 436 = .ok (.iadd, 1) := by decide +kernel
theorem d_law_437 : decode code 437 = .ok (.iaload, 1) := by decide +kernel
theorem d_law_438 : decode code 438 = .ok (.aload_n 0, 1) := by decide +kernel
theorem d_law_439 : decode code 439 = .ok (.iload_n 3, 1) := by decide +kernel
theorem d_law_440 : decode code 440 = .ok (.iconst 3, 1) := by decide +kernel
theorem d_law_441 : decode code 441 = .ok (.iadd, 1) := by decide +kernel
theorem d_law_442 : decode code 442 = .ok (.iaload, 1) := by decide +kernel
theorem d_law_443 : decode code 443 = .ok (.invokevirtual 52, 3) := by decide +kernel
theorem d_law_446 : decode code 446 = .ok (.aload_n 2, 1) := by decide +kernel
theorem d_law_447 : decode code 447 = .ok (.aload_n 0, 1) := by decide +kernel
theorem d_law_448 : decode code 448 = .ok (.iload_n 3, 1) := by decide +kernel
theorem d_law_449 : decode code 449 = .ok (.iconst 1, 1) := by decide +kernel
theorem d_law_450 : decode code 450 = .ok (.iadd, 1) := by decide +kernel
theorem d_law_451 : decode code 451 = .ok (.iaload, 1) := by decide +kernel
theorem d_law_452 : decode code 452 = .ok (.aload_n 0, 1) := by decide +kernel
theorem d_law_453 : decode code 453 = .ok (.iload_n 3, 1) := by decide +kernel
theorem d_law_454 : decode code 454 = .ok (.iconst 2, 1) := by decide +kernel
theorem d_law_455 : decode code 455 = .ok (.iadd, 1) := by decide +kernel
theorem d_law_456 : decode code 456 = .ok (.iaload, 1) := by decide +kernel
theorem d_law_457 : decode code 457 = .ok (.aload_n 0, 1) := by decide +kernel
theorem d_law_458 : decode code 458 = .ok (.iload_n 3, 1) := by decide +kernel
theorem d_law_459 : decode code 459 = .ok (.iconst 3, 1) := by decide +kernel
theorem d_law_460 : decode code 460 = .ok (.iadd, 1) := by decide +kernel
theorem d_law_461 : decode code 461 = .ok (.iaload, 1) := by decide +kernel
theorem d_law_462 : decode code 462 = .ok (.invokevirtual 56, 3) := by decide +kernel
theorem d_law_465 : decode code 465 = .ok (.if_icmp .eq 404, 3) := by decide +kernel
theorem d_law_470 : decode code 470 = .ok (.aload_n 1, 1) := by decide +kernel
theorem d_law_471 : decode code 471 = .ok (.aload_n 0, 1) := by decide +kernel
theorem d_law_472 : decode code 472 = .ok (.iload_n 3, 1) := by decide +kernel
theorem d_law_473 : decode code 473 = .ok (.iconst 1, 1) := by decide +kernel
theorem d_law_474 : decode code 474 = .ok (.iadd, 1) := by decide +kernel
theorem d_law_475 : decode code 475 = .ok (.iaload, 1) := by decide +kernel
theorem d_law_476 : decode code 476 = .ok (.aload_n 0, 1) := by decide +kernel
theorem d_law_477 : decode code 477 = .ok (.iload_n 3, 1) := by decide +kernel
theorem d_law_478 : decode code 478 = .ok (.iconst 2, 1) := by decide +kernel
theorem d_law_479 : decode code 479 = .ok (.iadd, 1) := by decide +kernel
theorem d_law_480 : decode code 480 = .ok (.iaload, 1) := by decide +kernel
theorem d_law_481 : decode code 481 = .ok (.invokevirtual 57, 3) := by decide +kernel
theorem d_law_484 : decode code 484 = .ok (.aload_n 2, 1) := by decide +kernel
theorem d_law_485 : decode code 485 = .ok (.aload_n 0, 1) := by decide +kernel
theorem d_law_486 : decode code 486 = .ok (.iload_n 3, 1) := by decide +kernel
theorem d_law_487 : decode code 487 = .ok (.iconst 1, 1) := by decide +kernel
theorem d_law_488 : decode code 488 = .ok (.iadd, 1) := by decide +kernel
theorem d_law_489 : decode code 489 = .ok (.iaload, 1) := by decide +kernel
theorem d_law_490 : decode code 490 = .ok (.aload_n 0, 1) := by decide +kernel
theorem d_law_491 : decode code 491 = .ok (.iload_n 3, 1) := by decide +kernel
theorem d_law_492 : decode code 492 = .ok (.iconst 2, 1) := by decide +kernel
theorem d_law_493 : decode code 493 = .ok (.iadd, 1) := by decide +kernel
theorem d_law_494 : decode code 494 = .ok (.iaload, 1) := by decide +kernel
theorem d_law_495 : decode code 495 = .ok (.invokevirtual 60, 3) := by decide +kernel
theorem d_law_498 : decode code 498 = .ok (.if_icmp .eq 371, 3) := by decide +kernel
theorem d_law_503 : decode code 503 = .ok (.aload_n 1, 1) := by decide +kernel
theorem d_law_504 : decode code 504 = .ok (.aload_n 0, 1) := by decide +kernel
theorem d_law_505 : decode code 505 = .ok (.iload_n 3, 1) := by decide +kernel
theorem d_law_506 : decode code 506 = .ok (.iconst 1, 1) := by decide +kernel
theorem d_law_507 : decode code 507 = .ok (.iadd, 1) := by decide +kernel
theorem d_law_508 : decode code 508 = .ok (.iaload, 1) := by decide +kernel
theorem d_law_509 : decode code 509 = .ok (.invokevirtual 61, 3) := by decide +kernel
theorem d_law_512 : decode code 512 = .ok (.aload_n 2, 1) := by decide +kernel
theorem d_law_513 : decode code 513 = .ok (.aload_n 0, 1) := by decide +kernel
theorem d_law_514 : decode code 514 = .ok (.iload_n 3, 1) := by decide +kernel
theorem d_law_515 : decode code 515 = .ok (.iconst 1, 1) := by decide +kernel
theorem d_law_516 : decode code 516 = .ok (.iadd, 1) := by decide +kernel
theorem d_law_517 : decode code 517 = .ok (.iaload, 1) := by decide +kernel
theorem d_law_518 : decode code 518 = .ok (.invokevirtual 64, 3) := by decide +kernel
theorem d_law_521 : decode code 521 = .ok (.if_icmp .eq 348, 3) := by decide +kernel
theorem d_law_526 : decode code 526 = .ok (.aload_n 1, 1) := by decide +kernel
theorem d_law_527 : decode code 527 = .ok (.aload_n 0, 1) := by decide +kernel
theorem d_law_528 : decode code 528 = .ok (.iload_n 3, 1) := by decide +kernel
theorem d_law_529 : decode code 529 = .ok (.iconst 1, 1) := by decide +kernel
theorem d_law_530 : decode code 530 = .ok (.iadd, 1) := by decide +kernel
theorem d_law_531 : decode code 531 = .ok (.iaload, 1) := by decide +kernel
theorem d_law_532 : decode code 532 = .ok (.invokevirtual 65, 3) := by decide +kernel
theorem d_law_535 : decode code 535 = .ok (.aload_n 2, 1) := by decide +kernel
theorem d_law_536 : decode code 536 = .ok (.aload_n 0, 1) := by decide +kernel
theorem d_law_537 : decode code 537 = .ok (.iload_n 3, 1) := by decide +kernel
theorem d_law_538 : decode code 538 = .ok (.iconst 1, 1) := by decide +kernel
theorem d_law_539 : decode code 539 = .ok (.iadd, 1) := by decide +kernel
theorem d_law_540 : decode code 540 = .ok (.iaload, 1) := by decide +kernel
theorem d_law_541 : decode code 541 = .ok (.invokevirtual 68, 3) := by decide +kernel
theorem d_law_544 : decode code 544 = .ok (.if_icmp .eq 325, 3) := by decide +kernel
theorem d_law_549 : decode code 549 = .ok (.aload_n 1, 1) := by decide +kernel
theorem d_law_550 : decode code 550 = .ok (.aload_n 0, 1) := by decide +kernel
theorem d_law_551 : decode code 551 = .ok (.iload_n 3, 1) := by decide +kernel
theorem d_law_552 : decode code 552 = .ok (.iconst 1, 1) := by decide +kernel
theorem d_law_553 : decode code 553 = .ok (.iadd, 1) := by decide +kernel
theorem d_law_554 : decode code 554 = .ok (.iaload, 1) := by decide +kernel
theorem d_law_555 : decode code 555 = .ok (.aload_n 0, 1) := by decide +kernel
theorem d_law_556 : decode code 556 = .ok (.iload_n 3, 1) := by decide +kernel
theorem d_law_557 : decode code 557 = .ok (.iconst 2, 1) := by decide +kernel
theorem d_law_558 : decode code 558 = .ok (.iadd, 1) := by decide +kernel
theorem d_law_559 : decode code 559 = .ok (.iaload, 1) := by decide +kernel
theorem d_law_560 : decode code 560 = .ok (.invokevirtual 69, 3) := by decide +kernel
theorem d_law_563 : decode code 563 = .ok (.aload_n 2, 1) := by decide +kernel
theorem d_law_564 : decode code 564 = .ok (.aload_n 0, 1) := by decide +kernel
theorem d_law_565 : decode code 565 = .ok (.iload_n 3, 1) := by decide +kernel
theorem d_law_566 : decode code 566 = .ok (.iconst 1, 1) := by decide +kernel
theorem d_law_567 : decode code 567 = .ok (.iadd, 1) := by decide +kernel
theorem d_law_568 : decode code 568 = .ok (.iaload, 1) := by decide +kernel
theorem d_law_569 : decode code 569 = .ok (.aload_n 0, 1) := by decide +kernel
theorem d_law_570 : decode code 570 = .ok (.iload_n 3, 1) := by decide +kernel
theorem d_law_571 : decode code 571 = .ok (.iconst 2, 1) := by decide +kernel
theorem d_law_572 : decode code 572 = .ok (.iadd, 1) := by decide +kernel
theorem d_law_573 : decode code 573 = .ok (.iaload, 1) := by decide +kernel
theorem d_law_574 : decode code 574 = .ok (.invokevirtual 72, 3) := by decide +kernel
theorem d_law_577 : decode code 577 = .ok (.if_icmp .eq 292, 3) := by decide +kernel
theorem d_law_582 : decode code 582 = .ok (.aload_n 1, 1) := by decide +kernel
theorem d_law_583 : decode code 583 = .ok (.aload_n 0, 1) := by decide +kernel
theorem d_law_584 : decode code 584 = .ok (.iload_n 3, 1) := by decide +kernel
theorem d_law_585 : decode code 585 = .ok (.iconst 1, 1) := by decide +kernel
theorem d_law_586 : decode code 586 = .ok (.iadd, 1) := by decide +kernel
theorem d_law_587 : decode code 587 = .ok (.iaload, 1) := by decide +kernel
theorem d_law_588 : decode code 588 = .ok (.aload_n 0, 1) := by decide +kernel
theorem d_law_589 : decode code 589 = .ok (.iload_n 3, 1) := by decide +kernel
theorem d_law_590 : decode code 590 = .ok (.iconst 2, 1) := by decide +kernel
theorem d_law_591 : decode code 591 = .ok (.iadd, 1) := by decide +kernel
theorem d_law_592 : decode code 592 = .ok (.iaload, 1) := by decide +kernel
theorem d_law_593 : decode code 593 = .ok (.aload_n 0, 1) := by decide +kernel
theorem d_law_594 : decode code 594 = .ok (.iload_n 3, 1) := by decide +kernel
theorem d_law_595 : decode code 595 = .ok (.iconst 3, 1) := by decide +kernel
theorem d_law_596 : decode code 596 = .ok (.iadd, 1) := by decide +kernel
theorem d_law_597 : decode code 597 = .ok (.iaload, 1) := by decide +kernel
theorem d_law_598 : decode code 598 = .ok (.invokevirtual 73, 3) := by decide +kernel
theorem d_law_601 : decode code 601 = .ok (.aload_n 2, 1) := by decide +kernel
theorem d_law_602 : decode code 602 = .ok (.aload_n 0, 1) := by decide +kernel
theorem d_law_603 : decode code 603 = .ok (.iload_n 3, 1) := by decide +kernel
theorem d_law_604 : decode code 604 = .ok (.iconst 1, 1) := by decide +kernel
theorem d_law_605 : decode code 605 = .ok (.iadd, 1) := by decide +kernel
theorem d_law_606 : decode code 606 = .ok (.iaload, 1) := by decide +kernel
theorem d_law_607 : decode code 607 = .ok (.aload_n 0, 1) := by decide +kernel
theorem d_law_608 : decode code 608 = .ok (.iload_n 3, 1) := by decide +kernel
theorem d_law_609 : decode code 609 = .ok (.iconst 2, 1) := by decide +kernel
theorem d_law_610 : decode code 610 = .ok (.iadd, 1) := by decide +kernel
theorem d_law_611 : decode code 611 = .ok (.iaload, 1) := by decide +kernel
theorem d_law_612 : decode code 612 = .ok (.aload_n 0, 1) := by decide +kernel
theorem d_law_613 : decode code 613 = .ok (.iload_n 3, 1) := by decide +kernel
theorem d_law_614 : decode code 614 = .ok (.iconst 3, 1) := by decide +kernel
theorem d_law_615 : decode code 615 = .ok (.iadd, 1) := by decide +kernel
theorem d_law_616 : decode code 616 = .ok (.iaload, 1) := by decide +kernel
theorem d_law_617 : decode code 617 = .ok (.invokevirtual 76, 3) := by decide +kernel
theorem d_law_620 : decode code 620 = .ok (.if_icmp .eq 249, 3) := by decide +kernel
theorem d_law_625 : decode code 625 = .ok (.aload_n 1, 1) := by decide +kernel
theorem d_law_626 : decode code 626 = .ok (.aload_n 0, 1) := by decide +kernel
theorem d_law_627 : decode code 627 = .ok (.iload_n 3, 1) := by decide +kernel
theorem d_law_628 : decode code 628 = .ok (.iconst 1, 1) := by decide +kernel
theorem d_law_629 : decode code 629 = .ok (.iadd, 1) := by decide +kernel
theorem d_law_630 : decode code 630 = .ok (.iaload, 1) := by decide +kernel
theorem d_law_631 : decode code 631 = .ok (.invokevirtual 77, 3) := by decide +kernel
theorem d_law_634 : decode code 634 = .ok (.aload_n 2, 1) := by decide +kernel
theorem d_law_635 : decode code 635 = .ok (.aload_n 0, 1) := by decide +kernel
theorem d_law_636 : decode code 636 = .ok (.iload_n 3, 1) := by decide +kernel
theorem d_law_637 : decode code 637 = .ok (.iconst 1, 1) := by decide +kernel
theorem d_law_638 : decode code 638 = .ok (.iadd, 1) := by decide +kernel
theorem d_law_639 : decode code 639 = .ok (.iaload, 1) := by decide +kernel
theorem d_law_640 : decode code 640 = .ok (.invokevirtual 80, 3) := by decide +kernel
theorem d_law_643 : decode code 643 = .ok (.if_icmp .eq 226, 3) := by decide +kernel
theorem d_law_648 : decode code 648 = .ok (.aload_n 1, 1) := by decide +kernel
theorem d_law_649 : decode code 649 = .ok (.aload_n 0, 1) := by decide +kernel
theorem d_law_650 : decode code 650 = .ok (.iload_n 3, 1) := by decide +kernel
theorem d_law_651 : decode code 651 = .ok (.iconst 1, 1) := by decide +kernel
theorem d_law_652 : decode code 652 = .ok (.iadd, 1) := by decide +kernel
theorem d_law_653 : decode code 653 = .ok (.iaload, 1) := by decide +kernel
theorem d_law_654 : decode code 654 = .ok (.invokevirtual 81, 3) := by decide +kernel
theorem d_law_657 : decode code 657 = .ok (.aload_n 2, 1) := by decide +kernel
theorem d_law_658 : decode code 658 = .ok (.aload_n 0, 1) := by decide +kernel
theorem d_law_659 : decode code 659 = .ok (.iload_n 3, 1) := by decide +kernel
theorem d_law_660 : decode code 660 = .ok (.iconst 1, 1) := by decide +kernel
theorem d_law_661 : decode code 661 = .ok (.iadd, 1) := by decide +kernel
theorem d_law_662 : decode code 662 = .ok (.iaload, 1) := by decide +kernel
theorem d_law_663 : decode code 663 = .ok (.invokevirtual 84, 3) := by decide +kernel
theorem d_law_666 : decode code 666 = .ok (.if_icmp .eq 203, 3) := by decide +kernel
theorem d_law_671 : decode code 671 = .ok (.aload_n 1, 1) := by decide +kernel
theorem d_law_672 : decode code 672 = .ok (.aload_n 0, 1) := by decide +kernel
theorem d_law_673 : decode code 673 = .ok (.iload_n 3, 1) := by decide +kernel
theorem d_law_674 : decode code 674 = .ok (.iconst 1, 1) := by decide +kernel
theorem d_law_675 : decode code 675 = .ok (.iadd, 1) := by decide +kernel
theorem d_law_676 : decode code 676 = .ok (.iaload, 1) := by decide +kernel
theorem d_law_677 : decode code 677 = .ok (.invokevirtual 85, 3) := by decide +kernel
theorem d_law_680 : decode code 680 = .ok (.aload_n 2, 1) := by decide +kernel
theorem d_law_681 : decode code 681 = .ok (.aload_n 0, 1) := by decide +kernel
theorem d_law_682 : decode code 682 = .ok (.iload_n 3, 1) := by decide +kernel
theorem d_law_683 : decode code 683 = .ok (.iconst 1, 1) := by decide +kernel
theorem d_law_684 : decode code 684 = .ok (.iadd, 1) := by decide +kernel
theorem d_law_685 : decode code 685 = .ok (.iaload, 1) := by decide +kernel
theorem d_law_686 : decode code 686 = .ok (.invokevirtual 88, 3) := by decide +kernel
theorem d_law_689 : decode code 689 = .ok (.if_icmp .eq 180, 3) := by decide +kernel
theorem d_law_694 : decode code 694 = .ok (.aload_n 1, 1) := by decide +kernel
theorem d_law_695 : decode code 695 = .ok (.aload_n 0, 1) := by decide +kernel
theorem d_law_696 : decode code 696 = .ok (.iload_n 3, 1) := by decide +kernel
theorem d_law_697 : decode code 697 = .ok (.iconst 1, 1) := by decide +kernel
theorem d_law_698 : decode code 698 = .ok (.iadd, 1) := by decide +kernel
theorem d_law_699 : decode code 699 = .ok (.iaload, 1) := by decide +kernel
theorem d_law_700 : decode code 700 = .ok (.aload_n 0, 1) := by decide +kernel
theorem d_law_701 : decode code 701 = .ok (.iload_n 3, 1) := by decide +kernel
theorem d_law_702 : decode code 702 = .ok (.iconst 2, 1) := by decide +kernel
theorem d_law_703 : decode code 703 = .ok (.iadd, 1) := by decide +kernel
theorem d_law_704 : decode code 704 = .ok (.iaload, 1) := by decide +kernel
theorem d_law_705 : decode code 705 = .ok (.invokevirtual 89, 3) := by decide +kernel
theorem d_law_708 : decode code 708 = .ok (.aload_n 2, 1) := by decide +kernel
theorem d_law_709 : decode code 709 = .ok (.aload_n 0, 1) := by decide +kernel
theorem d_law_710 : decode code 710 = .ok (.iload_n 3, 1) := by decide +kernel
theorem d_law_711 : decode code 711 = .ok (.iconst 1, 1) := by decide +kernel
theorem d_law_712 : decode code 712 = .ok (.iadd, 1) := by decide +kernel
theorem d_law_713 : decode code 713 = .ok (.iaload, 1) := by decide +kernel
theorem d_law_714 : decode code 714 = .ok (.aload_n 0, 1) := by decide +kernel
theorem d_law_715 : decode code 715 = .ok (.iload_n 3, 1) := by decide +kernel
theorem d_law_716 : decode code 716 = .ok (.iconst 2, 1) := by decide +kernel
theorem d_law_717 : decode code 717 = .ok (.iadd, 1) := by decide +kernel
theorem d_law_718 : decode code 718 = .ok (.iaload, 1) := by decide +kernel
theorem d_law_719 : decode code 719 = .ok (.invokevirtual 92, 3) := by decide +kernel
theorem d_law_722 : decode code 722 = .ok (.if_icmp .eq 147, 3) := by decide +kernel
theorem d_law_727 : decode code 727 = .ok (.aload_n 1, 1) := by decide +kernel
theorem d_law_728 : decode code 728 = .ok (.aload_n 0, 1) := by decide +kernel
theorem d_law_729 : decode code 729 = .ok (.iload_n 3, 1) := by decide +kernel
theorem d_law_730 : decode code 730 = .ok (.iconst 1, 1) := by decide +kernel
theorem d_law_731 : decode code 731 = .ok (.iadd, 1) := by decide +kernel
theorem d_law_732 : decode code 732 = .ok (.iaload, 1) := by decide +kernel
theorem d_law_733 : decode code 733 = .ok (.aload_n 0, 1) := by decide +kernel
theorem d_law_734 : decode code 734 = .ok (.iload_n 3, 1) := by decide +kernel
theorem d_law_735 : decode code 735 = .ok (.iconst 2, 1) := by decide +kernel
theorem d_law_736 : decode code 736 = .ok (.iadd, 1) := by decide +kernel
theorem d_law_737 : decode code 737 = .ok (.iaload, 1) := by decide +kernel
theorem d_law_738 : decode code 738 = .ok (.aload_n 0, 1) := by decide +kernel
theorem d_law_739 : decode code 739 = .ok (.iload_n 3, 1) := by decide +kernel
theorem d_law_740 : decode code 740 = .ok (.iconst 3, 1) := by decide +kernel
theorem d_law_741 : decode code 741 = .ok (.iadd, 1) := by decide +kernel
theorem d_law_742 : decode code 742 = .ok (.iaload, 1) := by decide +kernel
theorem d_law_743 : decode code 743 = .ok (.aload_n 0, 1) := by decide +kernel
theorem d_law_744 : decode code 744 = .ok (.iload_n 3, 1) := by decide +kernel
theorem d_law_745 : decode code 745 = .ok (.iconst 4, 1) := by decide +kernel
theorem d_law_746 : decode code 746 = .ok (.iadd, 1) := by decide +kernel
theorem d_law_747 : decode code 747 = .ok (.iaload, 1) := by decide +kernel
theorem d_law_748 : decode code 748 = .ok (.invokevirtual 93, 3) := by decide +kernel
theorem d_law_751 : decode code 751 = .ok (.aload_n 2, 1) := by decide +kernel
theorem d_law_752 : decode code 752 = .ok (.aload_n 0, 1) := by decide +kernel
theorem d_law_753 : decode code 753 = .ok (.iload_n 3, 1) := by decide +kernel
theorem d_law_754 : decode code 754 = .ok (.iconst 1, 1) := by decide +kernel
theorem d_law_755 : decode code 755 = .ok (.iadd, 1) := by decide +kernel
theorem d_law_756 : decode code 756 = .ok (.iaload, 1) := by decide +kernel
theorem d_law_757 : decode code 757 = .ok (.aload_n 0, 1) := by decide +kernel
theorem d_law_758 : decode code 758 = .ok (.iload_n 3, 1) := by decide +kernel
theorem d_law_759 : decode code 759 = .ok (.iconst 2, 1) := by decide +kernel
theorem d_law_760 : decode code 760 = .ok (.iadd, 1) := by decide +kernel
theorem d_law_761 : decode code 761 = .ok (.iaload, 1) := by decide +kernel
theorem d_law_762 : decode code 762 = .ok (.aload_n 0, 1) := by decide +kernel
theorem d_law_763 : decode code 763 = .ok (.iload_n 3, 1) := by decide +kernel
theorem d_law_764 : decode code 764 = .ok (.iconst 3, 1) := by decide +kernel
theorem d_law_765 : decode code 765 = .ok (.iadd, 1) := by decide +kernel
theorem d_law_766 : decode code 766 = .ok (.iaload, 1) := by decide +kernel
theorem d_law_767 : decode code 767 = .ok (.aload_n 0, 1) := by decide +kernel
theorem d_law_768 : decode code 768 = .ok (.iload_n 3, 1) := by decide +kernel
theorem d_law_769 : decode code 769 = .ok (.iconst 4, 1) := by decide +kernel
theorem d_law_770 : decode code 770 = .ok (.iadd, 1) := by decide +kernel
theorem d_law_771 : decode code 771 = .ok (.iaload, 1) := by decide +kernel
theorem d_law_772 : decode code 772 = .ok (.invokevirtual 97, 3) := by decide +kernel
theorem d_law_775 : decode code 775 = .ok (.if_icmp .eq 94, 3) := by decide +kernel
theorem d_law_780 : decode code 780 = .ok (.aload_n 1, 1) := by decide +kernel
theorem d_law_781 : decode code 781 = .ok (.aload_n 0, 1) := by decide +kernel
theorem d_law_782 : decode code 782 = .ok (.iload_n 3, 1) := by decide +kernel
theorem d_law_783 : decode code 783 = .ok (.iconst 1, 1) := by decide +kernel
theorem d_law_784 : decode code 784 = .ok (.iadd, 1) := by decide +kernel
theorem d_law_785 : decode code 785 = .ok (.iaload, 1) := by decide +kernel
theorem d_law_786 : decode code 786 = .ok (.invokevirtual 98, 3) := by decide +kernel
theorem d_law_789 : decode code 789 = .ok (.aload_n 2, 1) := by decide +kernel
theorem d_law_790 : decode code 790 = .ok (.aload_n 0, 1) := by decide +kernel
theorem d_law_791 : decode code 791 = .ok (.iload_n 3, 1) := by decide +kernel
theorem d_law_792 : decode code 792 = .ok (.iconst 1, 1) := by decide +kernel
theorem d_law_793 : decode code 793 = .ok (.iadd, 1) := by decide +kernel
theorem d_law_794 : decode code 794 = .ok (.iaload, 1) := by decide +kernel
theorem d_law_795 : decode code 795 = .ok (.invokevirtual 101, 3) := by decide +kernel
theorem d_law_798 : decode code 798 = .ok (.if_icmp .eq 71, 3) := by decide +kernel
theorem d_law_803 : decode code 803 = .ok (.aload_n 1, 1) := by decide +kernel
theorem d_law_804 : decode code 804 = .ok (.aload_n 0, 1) := by decide +kernel
theorem d_law_805 : decode code 805 = .ok (.iload_n 3, 1) := by decide +kernel
theorem d_law_806 : decode code 806 = .ok (.iconst 1, 1) := by decide +kernel
theorem d_law_807 : decode code 807 = .ok (.iadd, 1) := by decide +kernel
theorem d_law_808 : decode code 808 = .ok (.iaload, 1) := by decide +kernel
theorem d_law_809 : decode code 809 = .ok (.aload_n 0, 1) := by decide +kernel
theorem d_law_810 : decode code 810 = .ok (.iload_n 3, 1) := by decide +kernel
theorem d_law_811 : decode code 811 = .ok (.iconst 2, 1) := by decide +kernel
theorem d_law_812 : decode code 812 = .ok (.iadd, 1) := by decide +kernel
theorem d_law_813 : decode code 813 = .ok (.iaload, 1) := by decide +kernel
theorem d_law_814 : decode code 814 = .ok (.invokevirtual 102, 3) := by decide +kernel
theorem d_law_817 : decode code 817 = .ok (.aload_n 2, 1) := by decide +kernel
theorem d_law_818 : decode code 818 = .ok (.aload_n 0, 1) := by decide +kernel
theorem d_law_819 : decode code 819 = .ok (.iload_n 3, 1) := by decide +kernel
theorem d_law_820 : decode code 820 = .ok (.iconst 1, 1) := by decide +kernel
theorem d_law_821 : decode code 821 = .ok (.iadd, 1) := by decide +kernel
theorem d_law_822 : decode code 822 = .ok (.iaload, 1) := by decide +kernel
theorem d_law_823 : decode code 823 = .ok (.aload_n 0, 1) := by decide +kernel
theorem d_law_824 : decode code 824 = .ok (.iload_n 3, 1) := by decide +kernel
theorem d_law_825 : decode code 825 = .ok (.iconst 2, 1) := by decide +kernel
theorem d_law_826 : decode code 826 = .ok (.iadd, 1) := by decide +kernel
theorem d_law_827 : decode code 827 = .ok (.iaload, 1) := by decide +kernel
theorem d_law_828 : decode code 828 = .ok (.invokevirtual 105, 3) := by decide +kernel
theorem d_law_831 : decode code 831 = .ok (.if_icmp .eq 38, 3) := by decide +kernel
theorem d_law_836 : decode code 836 = .ok (.aload_n 1, 1) := by decide +kernel
theorem d_law_837 : decode code 837 = .ok (.aload_n 0, 1) := by decide +kernel
theorem d_law_838 : decode code 838 = .ok (.iload_n 3, 1) := by decide +kernel
theorem d_law_839 : decode code 839 = .ok (.iconst 1, 1) := by decide +kernel
theorem d_law_840 : decode code 840 = .ok (.iadd, 1) := by decide +kernel
theorem d_law_841 : decode code 841 = .ok (.iaload, 1) := by decide +kernel
theorem d_law_842 : decode code 842 = .ok (.aload_n 0, 1) := by decide +kernel
theorem d_law_843 : decode code 843 = .ok (.iload_n 3, 1) := by decide +kernel
theorem d_law_844 : decode code 844 = .ok (.iconst 2, 1) := by decide +kernel
theorem d_law_845 : decode code 845 = .ok (.iadd, 1) := by decide +kernel
theorem d_law_846 : decode code 846 = .ok (.iaload, 1) := by decide +kernel
theorem d_law_847 : decode code 847 = .ok (.invokevirtual 106, 3) := by decide +kernel
theorem d_law_850 : decode code 850 = .ok (.aload_n 2, 1) := by decide +kernel
theorem d_law_851 : decode code 851 = .ok (.aload_n 0, 1) := by decide +kernel
theorem d_law_852 : decode code 852 = .ok (.iload_n 3, 1) := by decide +kernel
theorem d_law_853 : decode code 853 = .ok (.iconst 1, 1) := by decide +kernel
theorem d_law_854 : decode code 854 = .ok (.iadd, 1) := by decide +kernel
theorem d_law_855 : decode code 855 = .ok (.iaload, 1) := by decide +kernel
theorem d_law_856 : decode code 856 = .ok (.aload_n 0, 1) := by decide +kernel
theorem d_law_857 : decode code 857 = .ok (.iload_n 3, 1) := by decide +kernel
theorem d_law_858 : decode code 858 = .ok (.iconst 2, 1) := by decide +kernel
theorem d_law_859 : decode code 859 = .ok (.iadd, 1) := by decide +kernel
theorem d_law_860 : decode code 860 = .ok (.iaload, 1) := by decide +kernel
theorem d_law_861 : decode code 861 = .ok (.invokevirtual 109, 3) := by decide +kernel
theorem d_law_864 : decode code 864 = .ok (.if_icmp .eq 5, 3) := by decide +kernel
theorem d_law_869 : decode code 869 = .ok (.iinc 3 6, 3) := by decide +kernel
theorem d_law_872 : decode code 872 = .ok (.goto (-854), 3) := by decide +kernel
theorem d_law_875 : decode code 875 = .ok (.iconst 1, 1) := by decide +kernel
theorem d_law_876 : decode code 876 = .ok (.ireturn, 1) := by decide +kernel
