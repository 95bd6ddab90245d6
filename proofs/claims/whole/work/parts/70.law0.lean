def R_law : String := "FillAndGoLaw"
def lw_P (b : Addr) (xs : List Int32) (args : Array Value) (s : State) : Prop := args = #[.ref b] ∧ s.IntsAt b xs ∧ xs.length ≤ 3072 ∧ (Jvm.Cond.and given_1 narrow_1).before args s = true
def lw_Q (_ : Array Value) (s : State) (o : Outcome) (t : State) : Prop := o = .returned (some (.int 1)) ∧ Framed s o t [] 600000 7302250
def lw_Z (below : List Frame) (a : Array Value) (s : State) : State → Prop := fun t => ∃ o, t.status = .running ∧ Ended t below o ∧ lw_Q a s o t
/-- the law's own end, with 1 on the stack, nothing written that was there before, its room as the claim has it -/
theorem lw_ret {p : Program} {l : Launch} {e : Env} {s : State} {m : MethodId} {below : List Frame} {meth : Method} {c : Code} {b : Nat} (hx : p.tables.exec = Jvm.exec) (hb : c.code = code) (hr : meth.sig.returnType = ret) (hlocks : meth.locks = false) {pc : Nat} {H : Heap} {ls : Array Slot} (hdg : decode code pc = .ok (.ireturn, 1)) : W p l e room_1 s m #[Value.ref b] below meth c H [] 600000 7302250 (lw_Z below #[Value.ref b] s) (F0 m pc ls [.int 1]) := by
  intro T hT X
  obtain ⟨fs, hret, hrun, hended, hW, hframe⟩ := X.leave (v := some (.int 1)) (hlocks := hlocks) (fun h => by rw [hr] at h; cases h)
  have hmeth' : T.vm.method? m = some meth := X.method'
  refine ⟨T.setFrames fs, ?_, .returned (some (.int 1)), hrun, hended, rfl, ⟨_, rfl⟩, hW, hframe⟩
  jvm_step X.here [X.here.top, hx, hb, hdg, hmeth', hr, ret, narrow_b1]
  (try refine ⟨rfl, ?_⟩); (try refine ⟨rfl, ?_⟩)
  first | (intro acts; rw [hret _ acts rfl rfl rfl]) | rw [hret _ _ rfl rfl rfl]
  exact Steps.refl _
/-- what holds at the law's entry: the machine, the code, the tables' words (any of lw_tbl by 'hts w (by decide +kernel)'), the script of L ints xs at the cell b, what the Statement gives of the start (any of its parts by flat_of_before) -/
def lw_At (p : Program) (s : State) (m : MethodId) (meth : Method) (c : Code) (b L : Nat) (xs : Nat → Int32) : Prop :=
  p.tables.exec = Jvm.exec ∧ c.code = code ∧ meth.sig.returnType = ret ∧ c.maxLocals = 4 ∧ s.vm.findClass R_law = some m.cls ∧ (∀ w ∈ lw_tbl, w.before #[Value.ref b] s = true) ∧ va_X b L xs s s.heap ∧ b < s.heap.size ∧ meth.locks = false ∧ (Jvm.Cond.and given_1 narrow_1).before #[Value.ref b] s = true
theorem d_Lw_law_0 : decode M_Lw_law.2.1 0 = .ok (.new 7, 3) := by decide +kernel
theorem d_Lw_law_3 : decode M_Lw_law.2.1 3 = .ok (.dup, 1) := by decide +kernel
theorem d_Lw_law_4 : decode M_Lw_law.2.1 4 = .ok (.invokespecial 9, 3) := by decide +kernel
theorem d_Lw_law_7 : decode M_Lw_law.2.1 7 = .ok (.astore_n 1, 1) := by decide +kernel
theorem d_Lw_law_8 : decode M_Lw_law.2.1 8 = .ok (.new 10, 3) := by decide +kernel
theorem d_Lw_law_11 : decode M_Lw_law.2.1 11 = .ok (.dup, 1) := by decide +kernel
theorem d_Lw_law_12 : decode M_Lw_law.2.1 12 = .ok (.invokespecial 12, 3) := by decide +kernel
theorem d_Lw_law_15 : decode M_Lw_law.2.1 15 = .ok (.astore_n 2, 1) := by decide +kernel
theorem d_Lw_law_16 : decode M_Lw_law.2.1 16 = .ok (.iconst 0, 1) := by decide +kernel
theorem d_Lw_law_17 : decode M_Lw_law.2.1 17 = .ok (.istore_n 3, 1) := by decide +kernel
theorem d_Lw_law_18 : decode M_Lw_law.2.1 18 = .ok (.iload_n 3, 1) := by decide +kernel
theorem d_Lw_law_19 : decode M_Lw_law.2.1 19 = .ok (.aload_n 0, 1) := by decide +kernel
theorem d_Lw_law_20 : decode M_Lw_law.2.1 20 = .ok (.arraylength, 1) := by decide +kernel
theorem d_Lw_law_21 : decode M_Lw_law.2.1 21 = .ok (.bipush 6, 2) := by decide +kernel
theorem d_Lw_law_23 : decode M_Lw_law.2.1 23 = .ok (.isub, 1) := by decide +kernel
theorem d_Lw_law_24 : decode M_Lw_law.2.1 24 = .ok (.if_icmp .gt 1684, 3) := by decide +kernel
theorem d_Lw_law_27 : decode M_Lw_law.2.1 27 = .ok (.aload_n 0, 1) := by decide +kernel
theorem d_Lw_law_28 : decode M_Lw_law.2.1 28 = .ok (.iload_n 3, 1) := by decide +kernel
theorem d_Lw_law_29 : decode M_Lw_law.2.1 29 = .ok (.iaload, 1) := by decide +kernel
theorem d_Lw_law_30 : decode M_Lw_law.2.1 30 = .ok (.bipush 63, 2) := by decide +kernel
theorem d_Lw_law_32 : decode M_Lw_law.2.1 32 = .ok (.iand, 1) := by decide +kernel
theorem d_Lw_law_33 : decode M_Lw_law.2.1 33 = .ok (.tableswitch 1669 0 42 #[187, 230, 263, 306, 329, 382, 415, 438, 471, 504, 537, 600, 613, 646, 679, 712, 735, 768, 801, 834, 877, 900, 933, 966, 1010, 1054, 1067, 1110, 1133, 1186, 1219, 1242, 1255, 1288, 1331, 1364, 1408, 1421, 1434, 1477, 1520, 1583, 1636], 187) := by decide +kernel
theorem d_Lw_law_220 : decode M_Lw_law.2.1 220 = .ok (.aload_n 1, 1) := by decide +kernel
theorem d_Lw_law_221 : decode M_Lw_law.2.1 221 = .ok (.aload_n 0, 1) := by decide +kernel
theorem d_Lw_law_222 : decode M_Lw_law.2.1 222 = .ok (.iload_n 3, 1) := by decide +kernel
theorem d_Lw_law_223 : decode M_Lw_law.2.1 223 = .ok (.iconst 1, 1) := by decide +kernel
theorem d_Lw_law_224 : decode M_Lw_law.2.1 224 = .ok (.iadd, 1) := by decide +kernel
theorem d_Lw_law_225 : decode M_Lw_law.2.1 225 = .ok (.iaload, 1) := by decide +kernel
theorem d_Lw_law_226 : decode M_Lw_law.2.1 226 = .ok (.aload_n 0, 1) := by decide +kernel
theorem d_Lw_law_227 : decode M_Lw_law.2.1 227 = .ok (.iload_n 3, 1) := by decide +kernel
theorem d_Lw_law_228 : decode M_Lw_law.2.1 228 = .ok (.iconst 2, 1) := by decide +kernel
theorem d_Lw_law_229 : decode M_Lw_law.2.1 229 = .ok (.iadd, 1) := by decide +kernel
theorem d_Lw_law_230 : decode M_Lw_law.2.1 230 = .ok (.iaload, 1) := by decide +kernel
theorem d_Lw_law_231 : decode M_Lw_law.2.1 231 = .ok (.aload_n 0, 1) := by decide +kernel
theorem d_Lw_law_232 : decode M_Lw_law.2.1 232 = .ok (.iload_n 3, 1) := by decide +kernel
theorem d_Lw_law_233 : decode M_Lw_law.2.1 233 = .ok (.iconst 3, 1) := by decide +kernel
theorem d_Lw_law_234 : decode M_Lw_law.2.1 234 = .ok (.iadd, 1) := by decide +kernel
theorem d_Lw_law_235 : decode M_Lw_law.2.1 235 = .ok (.iaload, 1) := by decide +kernel
theorem d_Lw_law_236 : decode M_Lw_law.2.1 236 = .ok (.invokevirtual 13, 3) := by decide +kernel
theorem d_Lw_law_239 : decode M_Lw_law.2.1 239 = .ok (.aload_n 2, 1) := by decide +kernel
theorem d_Lw_law_240 : decode M_Lw_law.2.1 240 = .ok (.aload_n 0, 1) := by decide +kernel
theorem d_Lw_law_241 : decode M_Lw_law.2.1 241 = .ok (.iload_n 3, 1) := by decide +kernel
theorem d_Lw_law_242 : decode M_Lw_law.2.1 242 = .ok (.iconst 1, 1) := by decide +kernel
theorem d_Lw_law_243 : decode M_Lw_law.2.1 243 = .ok (.iadd, 1) := by decide +kernel
theorem d_Lw_law_244 : decode M_Lw_law.2.1 244 = .ok (.iaload, 1) := by decide +kernel
theorem d_Lw_law_245 : decode M_Lw_law.2.1 245 = .ok (.aload_n 0, 1) := by decide +kernel
theorem d_Lw_law_246 : decode M_Lw_law.2.1 246 = .ok (.iload_n 3, 1) := by decide +kernel
theorem d_Lw_law_247 : decode M_Lw_law.2.1 247 = .ok (.iconst 2, 1) := by decide +kernel
theorem d_Lw_law_248 : decode M_Lw_law.2.1 248 = .ok (.iadd, 1) := by decide +kernel
theorem d_Lw_law_249 : decode M_Lw_law.2.1 249 = .ok (.iaload, 1) := by decide +kernel
theorem d_Lw_law_250 : decode M_Lw_law.2.1 250 = .ok (.aload_n 0, 1) := by decide +kernel
theorem d_Lw_law_251 : decode M_Lw_law.2.1 251 = .ok (.iload_n 3, 1) := by decide +kernel
theorem d_Lw_law_252 : decode M_Lw_law.2.1 252 = .ok (.iconst 3, 1) := by decide +kernel
theorem d_Lw_law_253 : decode M_Lw_law.2.1 253 = .ok (.iadd, 1) := by decide +kernel
theorem d_Lw_law_254 : decode M_Lw_law.2.1 254 = .ok (.iaload, 1) := by decide +kernel
theorem d_Lw_law_255 : decode M_Lw_law.2.1 255 = .ok (.invokevirtual 17, 3) := by decide +kernel
theorem d_Lw_law_258 : decode M_Lw_law.2.1 258 = .ok (.if_icmp .eq 1444, 3) := by decide +kernel
theorem d_Lw_law_261 : decode M_Lw_law.2.1 261 = .ok (.iconst 0, 1) := by decide +kernel
theorem d_Lw_law_262 : decode M_Lw_law.2.1 262 = .ok (.ireturn, 1) := by decide +kernel
theorem d_Lw_law_263 : decode M_Lw_law.2.1 263 = .ok (.aload_n 1, 1) := by decide +kernel
theorem d_Lw_law_264 : decode M_Lw_law.2.1 264 = .ok (.aload_n 0, 1) := by decide +kernel
theorem d_Lw_law_265 : decode M_Lw_law.2.1 265 = .ok (.iload_n 3, 1) := by decide +kernel
theorem d_Lw_law_266 : decode M_Lw_law.2.1 266 = .ok (.iconst 1, 1) := by decide +kernel
theorem d_Lw_law_267 : decode M_Lw_law.2.1 267 = .ok (.iadd, 1) := by decide +kernel
theorem d_Lw_law_268 : decode M_Lw_law.2.1 268 = .ok (.iaload, 1) := by decide +kernel
theorem d_Lw_law_269 : decode M_Lw_law.2.1 269 = .ok (.aload_n 0, 1) := by decide +kernel
theorem d_Lw_law_270 : decode M_Lw_law.2.1 270 = .ok (.iload_n 3, 1) := by decide +kernel
theorem d_Lw_law_271 : decode M_Lw_law.2.1 271 = .ok (.iconst 2, 1) := by decide +kernel
theorem d_Lw_law_272 : decode M_Lw_law.2.1 272 = .ok (.iadd, 1) := by decide +kernel
theorem d_Lw_law_273 : decode M_Lw_law.2.1 273 = .ok (.iaload, 1) := by decide +kernel
theorem d_Lw_law_274 : decode M_Lw_law.2.1 274 = .ok (.invokevirtual 18, 3) := by decide +kernel
theorem d_Lw_law_277 : decode M_Lw_law.2.1 277 = .ok (.aload_n 2, 1) := by decide +kernel
theorem d_Lw_law_278 : decode M_Lw_law.2.1 278 = .ok (.aload_n 0, 1) := by decide +kernel
theorem d_Lw_law_279 : decode M_Lw_law.2.1 279 = .ok (.iload_n 3, 1) := by decide +kernel
theorem d_Lw_law_280 : decode M_Lw_law.2.1 280 = .ok (.iconst 1, 1) := by decide +kernel
theorem d_Lw_law_281 : decode M_Lw_law.2.1 281 = .ok (.iadd, 1) := by decide +kernel
theorem d_Lw_law_282 : decode M_Lw_law.2.1 282 = .ok (.iaload, 1) := by decide +kernel
theorem d_Lw_law_283 : decode M_Lw_law.2.1 283 = .ok (.aload_n 0, 1) := by decide +kernel
theorem d_Lw_law_284 : decode M_Lw_law.2.1 284 = .ok (.iload_n 3, 1) := by decide +kernel
theorem d_Lw_law_285 : decode M_Lw_law.2.1 285 = .ok (.iconst 2, 1) := by decide +kernel
theorem d_Lw_law_286 : decode M_Lw_law.2.1 286 = .ok (.iadd, 1) := by decide +kernel
theorem d_Lw_law_287 : decode M_Lw_law.2.1 287 = .ok (.iaload, 1) := by decide +kernel
theorem d_Lw_law_288 : decode M_Lw_law.2.1 288 = .ok (.invokevirtual 22, 3) := by decide +kernel
theorem d_Lw_law_291 : decode M_Lw_law.2.1 291 = .ok (.if_icmp .eq 1411, 3) := by decide +kernel
theorem d_Lw_law_294 : decode M_Lw_law.2.1 294 = .ok (.iconst 0, 1) := by decide +kernel
theorem d_Lw_law_295 : decode M_Lw_law.2.1 295 = .ok (.ireturn, 1) := by decide +kernel
theorem d_Lw_law_296 : decode M_Lw_law.2.1 296 = .ok (.aload_n 1, 1) := by decide +kernel
theorem d_Lw_law_297 : decode M_Lw_law.2.1 297 = .ok (.aload_n 0, 1) := by decide +kernel
theorem d_Lw_law_298 : decode M_Lw_law.2.1 298 = .ok (.iload_n 3, 1) := by decide +kernel
theorem d_Lw_law_299 : decode M_Lw_law.2.1 299 = .ok (.iconst 1, 1) := by decide +kernel
theorem d_Lw_law_300 : decode M_Lw_law.2.1 300 = .ok (.iadd, 1) := by decide +kernel
theorem d_Lw_law_301 : decode M_Lw_law.2.1 301 = .ok (.iaload, 1) := by decide +kernel
theorem d_Lw_law_302 : decode M_Lw_law.2.1 302 = .ok (.aload_n 0, 1) := by decide +kernel
theorem d_Lw_law_303 : decode M_Lw_law.2.1 303 = .ok (.iload_n 3, 1) := by decide +kernel
theorem d_Lw_law_304 : decode M_Lw_law.2.1 304 = .ok (.iconst 2, 1) := by decide +kernel
theorem d_Lw_law_305 : decode M_Lw_law.2.1 305 = .ok (.iadd, 1) := by decide +kernel
theorem d_Lw_law_306 : decode M_Lw_law.2.1 306 = .ok (.iaload, 1) := by decide +kernel
theorem d_Lw_law_307 : decode M_Lw_law.2.1 307 = .ok (.aload_n 0, 1) := by decide +kernel
theorem d_Lw_law_308 : decode M_Lw_law.2.1 308 = .ok (.iload_n 3, 1) := by decide +kernel
theorem d_Lw_law_309 : decode M_Lw_law.2.1 309 = .ok (.iconst 3, 1) := by decide +kernel
theorem d_Lw_law_310 : decode M_Lw_law.2.1 310 = .ok (.iadd, 1) := by decide +kernel
theorem d_Lw_law_311 : decode M_Lw_law.2.1 311 = .ok (.iaload, 1) := by decide +kernel
theorem d_Lw_law_312 : decode M_Lw_law.2.1 312 = .ok (.invokevirtual 23, 3) := by decide +kernel
theorem d_Lw_law_315 : decode M_Lw_law.2.1 315 = .ok (.aload_n 2, 1) := by decide +kernel
theorem d_Lw_law_316 : decode M_Lw_law.2.1 316 = .ok (.aload_n 0, 1) := by decide +kernel
theorem d_Lw_law_317 : decode M_Lw_law.2.1 317 = .ok (.iload_n 3, 1) := by decide +kernel
theorem d_Lw_law_318 : decode M_Lw_law.2.1 318 = .ok (.iconst 1, 1) := by decide +kernel
theorem d_Lw_law_319 : decode M_Lw_law.2.1 319 = .ok (.iadd, 1) := by decide +kernel
theorem d_Lw_law_320 : decode M_Lw_law.2.1 320 = .ok (.iaload, 1) := by decide +kernel
theorem d_Lw_law_321 : decode M_Lw_law.2.1 321 = .ok (.aload_n 0, 1) := by decide +kernel
theorem d_Lw_law_322 : decode M_Lw_law.2.1 322 = .ok (.iload_n 3, 1) := by decide +kernel
theorem d_Lw_law_323 : decode M_Lw_law.2.1 323 = .ok (.iconst 2, 1) := by decide +kernel
theorem d_Lw_law_324 : decode M_Lw_law.2.1 324 = .ok (.iadd, 1) := by decide +kernel
theorem d_Lw_law_325 : decode M_Lw_law.2.1 325 = .ok (.iaload, 1) := by decide +kernel
theorem d_Lw_law_326 : decode M_Lw_law.2.1 326 = .ok (.aload_n 0, 1) := by decide +kernel
theorem d_Lw_law_327 : decode M_Lw_law.2.1 327 = .ok (.iload_n 3, 1) := by decide +kernel
theorem d_Lw_law_328 : decode M_Lw_law.2.1 328 = .ok (.iconst 3, 1) := by decide +kernel
theorem d_Lw_law_329 : decode M_Lw_law.2.1 329 = .ok (.iadd, 1) := by decide +kernel
theorem d_Lw_law_330 : decode M_Lw_law.2.1 330 = .ok (.iaload, 1) := by decide +kernel
theorem d_Lw_law_331 : decode M_Lw_law.2.1 331 = .ok (.invokevirtual 26, 3) := by decide +kernel
theorem d_Lw_law_334 : decode M_Lw_law.2.1 334 = .ok (.if_icmp .eq 1368, 3) := by decide +kernel
theorem d_Lw_law_337 : decode M_Lw_law.2.1 337 = .ok (.iconst 0, 1) := by decide +kernel
theorem d_Lw_law_338 : decode M_Lw_law.2.1 338 = .ok (.ireturn, 1) := by decide +kernel
theorem d_Lw_law_339 : decode M_Lw_law.2.1 339 = .ok (.aload_n 1, 1) := by decide +kernel
theorem d_Lw_law_340 : decode M_Lw_law.2.1 340 = .ok (.aload_n 0, 1) := by decide +kernel
theorem d_Lw_law_341 : decode M_Lw_law.2.1 341 = .ok (.iload_n 3, 1) := by decide +kernel
theorem d_Lw_law_342 : decode M_Lw_law.2.1 342 = .ok (.iconst 1, 1) := by decide +kernel
theorem d_Lw_law_343 : decode M_Lw_law.2.1 343 = .ok (.iadd, 1) := by decide +kernel
theorem d_Lw_law_344 : decode M_Lw_law.2.1 344 = .ok (.iaload, 1) := by decide +kernel
theorem d_Lw_law_345 : decode M_Lw_law.2.1 345 = .ok (.invokevirtual 27, 3) := by decide +kernel
theorem d_Lw_law_348 : decode M_Lw_law.2.1 348 = .ok (.aload_n 2, 1) := by decide +kernel
theorem d_Lw_law_349 : decode M_Lw_law.2.1 349 = .ok (.aload_n 0, 1) := by decide +kernel
theorem d_Lw_law_350 : decode M_Lw_law.2.1 350 = .ok (.iload_n 3, 1) := by decide +kernel
theorem d_Lw_law_351 : decode M_Lw_law.2.1 351 = .ok (.iconst 1, 1) := by decide +kernel
theorem d_Lw_law_352 : decode M_Lw_law.2.1 352 = .ok (.iadd, 1) := by decide +kernel
theorem d_Lw_law_353 : decode M_Lw_law.2.1 353 = .ok (.iaload, 1) := by decide +kernel
theorem d_Lw_law_354 : decode M_Lw_law.2.1 354 = .ok (.invokevirtual 31, 3) := by decide +kernel
theorem d_Lw_law_357 : decode M_Lw_law.2.1 357 = .ok (.if_icmp .eq 1345, 3) := by decide +kernel
theorem d_Lw_law_360 : decode M_Lw_law.2.1 360 = .ok (.iconst 0, 1) := by decide +kernel
theorem d_Lw_law_361 : decode M_Lw_law.2.1 361 = .ok (.ireturn, 1) := by decide +kernel
theorem d_Lw_law_362 : decode M_Lw_law.2.1 362 = .ok (.aload_n 1, 1) := by decide +kernel
theorem d_Lw_law_363 : decode M_Lw_law.2.1 363 = .ok (.aload_n 0, 1) := by decide +kernel
theorem d_Lw_law_364 : decode M_Lw_law.2.1 364 = .ok (.iload_n 3, 1) := by decide +kernel
theorem d_Lw_law_365 : decode M_Lw_law.2.1 365 = .ok (.iconst 1, 1) := by decide +kernel
theorem d_Lw_law_366 : decode M_Lw_law.2.1 366 = .ok (.iadd, 1) := by decide +kernel
theorem d_Lw_law_367 : decode M_Lw_law.2.1 367 = .ok (.iaload, 1) := by decide +kernel
theorem d_Lw_law_368 : decode M_Lw_law.2.1 368 = .ok (.aload_n 0, 1) := by decide +kernel
theorem d_Lw_law_369 : decode M_Lw_law.2.1 369 = .ok (.iload_n 3, 1) := by decide +kernel
theorem d_Lw_law_370 : decode M_Lw_law.2.1 370 = .ok (.iconst 2, 1) := by decide +kernel
theorem d_Lw_law_371 : decode M_Lw_law.2.1 371 = .ok (.iadd, 1) := by decide +kernel
theorem d_Lw_law_372 : decode M_Lw_law.2.1 372 = .ok (.iaload, 1) := by decide +kernel
theorem d_Lw_law_373 : decode M_Lw_law.2.1 373 = .ok (.aload_n 0, 1) := by decide +kernel
theorem d_Lw_law_374 : decode M_Lw_law.2.1 374 = .ok (.iload_n 3, 1) := by decide +kernel
theorem d_Lw_law_375 : decode M_Lw_law.2.1 375 = .ok (.iconst 3, 1) := by decide +kernel
theorem d_Lw_law_376 : decode M_Lw_law.2.1 376 = .ok (.iadd, 1) := by decide +kernel
theorem d_Lw_law_377 : decode M_Lw_law.2.1 377 = .ok (.iaload, 1) := by decide +kernel
theorem d_Lw_law_378 : decode M_Lw_law.2.1 378 = .ok (.aload_n 0, 1) := by decide +kernel
theorem d_Lw_law_379 : decode M_Lw_law.2.1 379 = .ok (.iload_n 3, 1) := by decide +kernel
theorem d_Lw_law_380 : decode M_Lw_law.2.1 380 = .ok (.iconst 4, 1) := by decide +kernel
theorem d_Lw_law_381 : decode M_Lw_law.2.1 381 = .ok (.iadd, 1) := by decide +kernel
theorem d_Lw_law_382 : decode M_Lw_law.2.1 382 = .ok (.iaload, 1) := by decide +kernel
theorem d_Lw_law_383 : decode M_Lw_law.2.1 383 = .ok (.invokevirtual 32, 3) := by decide +kernel
theorem d_Lw_law_386 : decode M_Lw_law.2.1 386 = .ok (.aload_n 2, 1) := by decide +kernel
theorem d_Lw_law_387 : decode M_Lw_law.2.1 387 = .ok (.aload_n 0, 1) := by decide +kernel
theorem d_Lw_law_388 : decode M_Lw_law.2.1 388 = .ok (.iload_n 3, 1) := by decide +kernel
theorem d_Lw_law_389 : decode M_Lw_law.2.1 389 = .ok (.iconst 1, 1) := by decide +kernel
theorem d_Lw_law_390 : decode M_Lw_law.2.1 390 = .ok (.iadd, 1) := by decide +kernel
theorem d_Lw_law_391 : decode M_Lw_law.2.1 391 = .ok (.iaload, 1) := by decide +kernel
theorem d_Lw_law_392 : decode M_Lw_law.2.1 392 = .ok (.aload_n 0, 1) := by decide +kernel
theorem d_Lw_law_393 : decode M_Lw_law.2.1 393 = .ok (.iload_n 3, 1) := by decide +kernel
theorem d_Lw_law_394 : decode M_Lw_law.2.1 394 = .ok (.iconst 2, 1) := by decide +kernel
theorem d_Lw_law_395 : decode M_Lw_law.2.1 395 = .ok (.iadd, 1) := by decide +kernel
theorem d_Lw_law_396 : decode M_Lw_law.2.1 396 = .ok (.iaload, 1) := by decide +kernel
theorem d_Lw_law_397 : decode M_Lw_law.2.1 397 = .ok (.aload_n 0, 1) := by decide +kernel
theorem d_Lw_law_398 : decode M_Lw_law.2.1 398 = .ok (.iload_n 3, 1) := by decide +kernel
theorem d_Lw_law_399 : decode M_Lw_law.2.1 399 = .ok (.iconst 3, 1) := by decide +kernel
theorem d_Lw_law_400 : decode M_Lw_law.2.1 400 = .ok (.iadd, 1) := by decide +kernel
theorem d_Lw_law_401 : decode M_Lw_law.2.1 401 = .ok (.iaload, 1) := by decide +kernel
theorem d_Lw_law_402 : decode M_Lw_law.2.1 402 = .ok (.aload_n 0, 1) := by decide +kernel
theorem d_Lw_law_403 : decode M_Lw_law.2.1 403 = .ok (.iload_n 3, 1) := by decide +kernel
theorem d_Lw_law_404 : decode M_Lw_law.2.1 404 = .ok (.iconst 4, 1) := by decide +kernel
theorem d_Lw_law_405 : decode M_Lw_law.2.1 405 = .ok (.iadd, 1) := by decide +kernel
theorem d_Lw_law_406 : decode M_Lw_law.2.1 406 = .ok (.iaload, 1) := by decide +kernel
theorem d_Lw_law_407 : decode M_Lw_law.2.1 407 = .ok (.invokevirtual 36, 3) := by decide +kernel
theorem d_Lw_law_410 : decode M_Lw_law.2.1 410 = .ok (.if_icmp .eq 1292, 3) := by decide +kernel
theorem d_Lw_law_413 : decode M_Lw_law.2.1 413 = .ok (.iconst 0, 1) := by decide +kernel
theorem d_Lw_law_414 : decode M_Lw_law.2.1 414 = .ok (.ireturn, 1) := by decide +kernel
theorem d_Lw_law_415 : decode M_Lw_law.2.1 415 = .ok (.aload_n 1, 1) := by decide +kernel
theorem d_Lw_law_416 : decode M_Lw_law.2.1 416 = .ok (.aload_n 0, 1) := by decide +kernel
theorem d_Lw_law_417 : decode M_Lw_law.2.1 417 = .ok (.iload_n 3, 1) := by decide +kernel
theorem d_Lw_law_418 : decode M_Lw_law.2.1 418 = .ok (.iconst 1, 1) := by decide +kernel
theorem d_Lw_law_419 : decode M_Lw_law.2.1 419 = .ok (.iadd, 1) := by decide +kernel
theorem d_Lw_law_420 : decode M_Lw_law.2.1 420 = .ok (.iaload, 1) := by decide +kernel
theorem d_Lw_law_421 : decode M_Lw_law.2.1 421 = .ok (.aload_n 0, 1) := by decide +kernel
theorem d_Lw_law_422 : decode M_Lw_law.2.1 422 = .ok (.iload_n 3, 1) := by decide +kernel
theorem d_Lw_law_423 : decode M_Lw_law.2.1 423 = .ok (.iconst 2, 1) := by decide +kernel
theorem d_Lw_law_424 : decode M_Lw_law.2.1 424 = .ok (.iadd, 1) := by decide +kernel
theorem d_Lw_law_425 : decode M_Lw_law.2.1 425 = .ok (.iaload, 1) := by decide +kernel
theorem d_Lw_law_426 : decode M_Lw_law.2.1 426 = .ok (.invokevirtual 37, 3) := by decide +kernel
theorem d_Lw_law_429 : decode M_Lw_law.2.1 429 = .ok (.aload_n 2, 1) := by decide +kernel
theorem d_Lw_law_430 : decode M_Lw_law.2.1 430 = .ok (.aload_n 0, 1) := by decide +kernel
theorem d_Lw_law_431 : decode M_Lw_law.2.1 431 = .ok (.iload_n 3, 1) := by decide +kernel
theorem d_Lw_law_432 : decode M_Lw_law.2.1 432 = .ok (.iconst 1, 1) := by decide +kernel
theorem d_Lw_law_433 : decode M_Lw_law.2.1 433 = .ok (.iadd, 1) := by decide +kernel
theorem d_Lw_law_434 : decode M_Lw_law.2.1 434 = .ok (.iaload, 1) := by decide +kernel
theorem d_Lw_law_435 : decode M_Lw_law.2.1 435 = .ok (.aload_n 0, 1) := by decide +kernel
theorem d_Lw_law_436 : decode M_Lw_law.2.1 436 = .ok (.iload_n 3, 1) := by decide +kernel
theorem d_Lw_law_437 : decode M_Lw_law.2.1 437 = .ok (.iconst 2, 1) := by decide +kernel
theorem d_Lw_law_438 : decode M_Lw_law.2.1 438 = .ok (.iadd, 1) := by decide +kernel
theorem d_Lw_law_439 : decode M_Lw_law.2.1 439 = .ok (.iaload, 1) := by decide +kernel
theorem d_Lw_law_440 : decode M_Lw_law.2.1 440 = .ok (.invokevirtual 40, 3) := by decide +kernel
theorem d_Lw_law_443 : decode M_Lw_law.2.1 443 = .ok (.if_icmp .eq 1259, 3) := by decide +kernel
theorem d_Lw_law_446 : decode M_Lw_law.2.1 446 = .ok (.iconst 0, 1) := by decide +kernel
theorem d_Lw_law_447 : decode M_Lw_law.2.1 447 = .ok (.ireturn, 1) := by decide +kernel
theorem d_Lw_law_448 : decode M_Lw_law.2.1 448 = .ok (.aload_n 1, 1) := by decide +kernel
theorem d_Lw_law_449 : decode M_Lw_law.2.1 449 = .ok (.aload_n 0, 1) := by decide +kernel
theorem d_Lw_law_450 : decode M_Lw_law.2.1 450 = .ok (.iload_n 3, 1) := by decide +kernel
theorem d_Lw_law_451 : decode M_Lw_law.2.1 451 = .ok (.iconst 1, 1) := by decide +kernel
theorem d_Lw_law_452 : decode M_Lw_law.2.1 452 = .ok (.iadd, 1) := by decide +kernel
theorem d_Lw_law_453 : decode M_Lw_law.2.1 453 = .ok (.iaload, 1) := by decide +kernel
theorem d_Lw_law_454 : decode M_Lw_law.2.1 454 = .ok (.invokevirtual 41, 3) := by decide +kernel
theorem d_Lw_law_457 : decode M_Lw_law.2.1 457 = .ok (.aload_n 2, 1) := by decide +kernel
theorem d_Lw_law_458 : decode M_Lw_law.2.1 458 = .ok (.aload_n 0, 1) := by decide +kernel
theorem d_Lw_law_459 : decode M_Lw_law.2.1 459 = .ok (.iload_n 3, 1) := by decide +kernel
theorem d_Lw_law_460 : decode M_Lw_law.2.1 460 = .ok (.iconst 1, 1) := by decide +kernel
theorem d_Lw_law_461 : decode M_Lw_law.2.1 461 = .ok (.iadd, 1) := by decide +kernel
theorem d_Lw_law_462 : decode M_Lw_law.2.1 462 = .ok (.iaload, 1) := by decide +kernel
theorem d_Lw_law_463 : decode M_Lw_law.2.1 463 = .ok (.invokevirtual 44, 3) := by decide +kernel
theorem d_Lw_law_466 : decode M_Lw_law.2.1 466 = .ok (.if_icmp .eq 1236, 3) := by decide +kernel
theorem d_Lw_law_469 : decode M_Lw_law.2.1 469 = .ok (.iconst 0, 1) := by decide +kernel
theorem d_Lw_law_470 : decode M_Lw_law.2.1 470 = .ok (.ireturn, 1) := by decide +kernel
theorem d_Lw_law_471 : decode M_Lw_law.2.1 471 = .ok (.aload_n 1, 1) := by decide +kernel
theorem d_Lw_law_472 : decode M_Lw_law.2.1 472 = .ok (.aload_n 0, 1) := by decide +kernel
theorem d_Lw_law_473 : decode M_Lw_law.2.1 473 = .ok (.iload_n 3, 1) := by decide +kernel
theorem d_Lw_law_474 : decode M_Lw_law.2.1 474 = .ok (.iconst 1, 1) := by decide +kernel
theorem d_Lw_law_475 : decode M_Lw_law.2.1 475 = .ok (.iadd, 1) := by decide +kernel
theorem d_Lw_law_476 : decode M_Lw_law.2.1 476 = .ok (.iaload, 1) := by decide +kernel
theorem d_Lw_law_477 : decode M_Lw_law.2.1 477 = .ok (.aload_n 0, 1) := by decide +kernel
theorem d_Lw_law_478 : decode M_Lw_law.2.1 478 = .ok (.iload_n 3, 1) := by decide +kernel
theorem d_Lw_law_479 : decode M_Lw_law.2.1 479 = .ok (.iconst 2, 1) := by decide +kernel
theorem d_Lw_law_480 : decode M_Lw_law.2.1 480 = .ok (.iadd, 1) := by decide +kernel
theorem d_Lw_law_481 : decode M_Lw_law.2.1 481 = .ok (.iaload, 1) := by decide +kernel
theorem d_Lw_law_482 : decode M_Lw_law.2.1 482 = .ok (.invokevirtual 45, 3) := by decide +kernel
theorem d_Lw_law_485 : decode M_Lw_law.2.1 485 = .ok (.aload_n 2, 1) := by decide +kernel
theorem d_Lw_law_486 : decode M_Lw_law.2.1 486 = .ok (.aload_n 0, 1) := by decide +kernel
theorem d_Lw_law_487 : decode M_Lw_law.2.1 487 = .ok (.iload_n 3, 1) := by decide +kernel
theorem d_Lw_law_488 : decode M_Lw_law.2.1 488 = .ok (.iconst 1, 1) := by decide +kernel
theorem d_Lw_law_489 : decode M_Lw_law.2.1 489 = .ok (.iadd, 1) := by decide +kernel
theorem d_Lw_law_490 : decode M_Lw_law.2.1 490 = .ok (.iaload, 1) := by decide +kernel
theorem d_Lw_law_491 : decode M_Lw_law.2.1 491 = .ok (.aload_n 0, 1) := by decide +kernel
theorem d_Lw_law_492 : decode M_Lw_law.2.1 492 = .ok (.iload_n 3, 1) := by decide +kernel
theorem d_Lw_law_493 : decode M_Lw_law.2.1 493 = .ok (.iconst 2, 1) := by decide +kernel
theorem d_Lw_law_494 : decode M_Lw_law.2.1 494 = .ok (.iadd, 1) := by decide +kernel
theorem d_Lw_law_495 : decode M_Lw_law.2.1 495 = .ok (.iaload, 1) := by decide +kernel
theorem d_Lw_law_496 : decode M_Lw_law.2.1 496 = .ok (.invokevirtual 48, 3) := by decide +kernel
theorem d_Lw_law_499 : decode M_Lw_law.2.1 499 = .ok (.if_icmp .eq 1203, 3) := by decide +kernel
theorem d_Lw_law_502 : decode M_Lw_law.2.1 502 = .ok (.iconst 0, 1) := by decide +kernel
theorem d_Lw_law_503 : decode M_Lw_law.2.1 503 = .ok (.ireturn, 1) := by decide +kernel
theorem d_Lw_law_504 : decode M_Lw_law.2.1 504 = .ok (.aload_n 1, 1) := by decide +kernel
theorem d_Lw_law_505 : decode M_Lw_law.2.1 505 = .ok (.aload_n 0, 1) := by decide +kernel
theorem d_Lw_law_506 : decode M_Lw_law.2.1 506 = .ok (.iload_n 3, 1) := by decide +kernel
theorem d_Lw_law_507 : decode M_Lw_law.2.1 507 = .ok (.iconst 1, 1) := by decide +kernel
theorem d_Lw_law_508 : decode M_Lw_law.2.1 508 = .ok (.iadd, 1) := by decide +kernel
theorem d_Lw_law_509 : decode M_Lw_law.2.1 509 = .ok (.iaload, 1) := by decide +kernel
theorem d_Lw_law_510 : decode M_Lw_law.2.1 510 = .ok (.aload_n 0, 1) := by decide +kernel
theorem d_Lw_law_511 : decode M_Lw_law.2.1 511 = .ok (.iload_n 3, 1) := by decide +kernel
theorem d_Lw_law_512 : decode M_Lw_law.2.1 512 = .ok (.iconst 2, 1) := by decide +kernel
theorem d_Lw_law_513 : decode M_Lw_law.2.1 513 = .ok (.iadd, 1) := by decide +kernel
theorem d_Lw_law_514 : decode M_Lw_law.2.1 514 = .ok (.iaload, 1) := by decide +kernel
theorem d_Lw_law_515 : decode M_Lw_law.2.1 515 = .ok (.invokevirtual 49, 3) := by decide +kernel
theorem d_Lw_law_518 : decode M_Lw_law.2.1 518 = .ok (.aload_n 2, 1) := by decide +kernel
theorem d_Lw_law_519 : decode M_Lw_law.2.1 519 = .ok (.aload_n 0, 1) := by decide +kernel
theorem d_Lw_law_520 : decode M_Lw_law.2.1 520 = .ok (.iload_n 3, 1) := by decide +kernel
theorem d_Lw_law_521 : decode M_Lw_law.2.1 521 = .ok (.iconst 1, 1) := by decide +kernel
theorem d_Lw_law_522 : decode M_Lw_law.2.1 522 = .ok (.iadd, 1) := by decide +kernel
theorem d_Lw_law_523 : decode M_Lw_law.2.1 523 = .ok (.iaload, 1) := by decide +kernel
theorem d_Lw_law_524 : decode M_Lw_law.2.1 524 = .ok (.aload_n 0, 1) := by decide +kernel
theorem d_Lw_law_525 : decode M_Lw_law.2.1 525 = .ok (.iload_n 3, 1) := by decide +kernel
theorem d_Lw_law_526 : decode M_Lw_law.2.1 526 = .ok (.iconst 2, 1) := by decide +kernel
theorem d_Lw_law_527 : decode M_Lw_law.2.1 527 = .ok (.iadd, 1) := by decide +kernel
theorem d_Lw_law_528 : decode M_Lw_law.2.1 528 = .ok (.iaload, 1) := by decide +kernel
theorem d_Lw_law_529 : decode M_Lw_law.2.1 529 = .ok (.invokevirtual 52, 3) := by decide +kernel
theorem d_Lw_law_532 : decode M_Lw_law.2.1 532 = .ok (.if_icmp .eq 1170, 3) := by decide +kernel
theorem d_Lw_law_535 : decode M_Lw_law.2.1 535 = .ok (.iconst 0, 1) := by decide +kernel
theorem d_Lw_law_536 : decode M_Lw_law.2.1 536 = .ok (.ireturn, 1) := by decide +kernel
theorem d_Lw_law_537 : decode M_Lw_law.2.1 537 = .ok (.aload_n 1, 1) := by decide +kernel
theorem d_Lw_law_538 : decode M_Lw_law.2.1 538 = .ok (.aload_n 0, 1) := by decide +kernel
theorem d_Lw_law_539 : decode M_Lw_law.2.1 539 = .ok (.iload_n 3, 1) := by decide +kernel
theorem d_Lw_law_540 : decode M_Lw_law.2.1 540 = .ok (.iconst 1, 1) := by decide +kernel
theorem d_Lw_law_541 : decode M_Lw_law.2.1 541 = .ok (.iadd, 1) := by decide +kernel
theorem d_Lw_law_542 : decode M_Lw_law.2.1 542 = .ok (.iaload, 1) := by decide +kernel
theorem d_Lw_law_543 : decode M_Lw_law.2.1 543 = .ok (.aload_n 0, 1) := by decide +kernel
theorem d_Lw_law_544 : decode M_Lw_law.2.1 544 = .ok (.iload_n 3, 1) := by decide +kernel
theorem d_Lw_law_545 : decode M_Lw_law.2.1 545 = .ok (.iconst 2, 1) := by decide +kernel
theorem d_Lw_law_546 : decode M_Lw_law.2.1 546 = .ok (.iadd, 1) := by decide +kernel
theorem d_Lw_law_547 : decode M_Lw_law.2.1 547 = .ok (.iaload, 1) := by decide +kernel
theorem d_Lw_law_548 : decode M_Lw_law.2.1 548 = .ok (.invokevirtual 53, 3) := by decide +kernel
theorem d_Lw_law_551 : decode M_Lw_law.2.1 551 = .ok (.aload_n 2, 1) := by decide +kernel
theorem d_Lw_law_552 : decode M_Lw_law.2.1 552 = .ok (.aload_n 0, 1) := by decide +kernel
theorem d_Lw_law_553 : decode M_Lw_law.2.1 553 = .ok (.iload_n 3, 1) := by decide +kernel
theorem d_Lw_law_554 : decode M_Lw_law.2.1 554 = .ok (.iconst 1, 1) := by decide +kernel
theorem d_Lw_law_555 : decode M_Lw_law.2.1 555 = .ok (.iadd, 1) := by decide +kernel
theorem d_Lw_law_556 : decode M_Lw_law.2.1 556 = .ok (.iaload, 1) := by decide +kernel
theorem d_Lw_law_557 : decode M_Lw_law.2.1 557 = .ok (.aload_n 0, 1) := by decide +kernel
theorem d_Lw_law_558 : decode M_Lw_law.2.1 558 = .ok (.iload_n 3, 1) := by decide +kernel
theorem d_Lw_law_559 : decode M_Lw_law.2.1 559 = .ok (.iconst 2, 1) := by decide +kernel
theorem d_Lw_law_560 : decode M_Lw_law.2.1 560 = .ok (.iadd, 1) := by decide +kernel
theorem d_Lw_law_561 : decode M_Lw_law.2.1 561 = .ok (.iaload, 1) := by decide +kernel
theorem d_Lw_law_562 : decode M_Lw_law.2.1 562 = .ok (.invokevirtual 56, 3) := by decide +kernel
theorem d_Lw_law_565 : decode M_Lw_law.2.1 565 = .ok (.if_icmp .eq 1137, 3) := by decide +kernel
theorem d_Lw_law_568 : decode M_Lw_law.2.1 568 = .ok (.iconst 0, 1) := by decide +kernel
theorem d_Lw_law_569 : decode M_Lw_law.2.1 569 = .ok (.ireturn, 1) := by decide +kernel
theorem d_Lw_law_570 : decode M_Lw_law.2.1 570 = .ok (.aload_n 1, 1) := by decide +kernel
theorem d_Lw_law_571 : decode M_Lw_law.2.1 571 = .ok (.aload_n 0, 1) := by decide +kernel
theorem d_Lw_law_572 : decode M_Lw_law.2.1 572 = .ok (.iload_n 3, 1) := by decide +kernel
theorem d_Lw_law_573 : decode M_Lw_law.2.1 573 = .ok (.iconst 1, 1) := by decide +kernel
theorem d_Lw_law_574 : decode M_Lw_law.2.1 574 = .ok (.iadd, 1) := by decide +kernel
theorem d_Lw_law_575 : decode M_Lw_law.2.1 575 = .ok (.iaload, 1) := by decide +kernel
theorem d_Lw_law_576 : decode M_Lw_law.2.1 576 = .ok (.i2l, 1) := by decide +kernel
theorem d_Lw_law_577 : decode M_Lw_law.2.1 577 = .ok (.bipush 32, 2) := by decide +kernel
theorem d_Lw_law_579 : decode M_Lw_law.2.1 579 = .ok (.lshl, 1) := by decide +kernel
theorem d_Lw_law_580 : decode M_Lw_law.2.1 580 = .ok (.aload_n 0, 1) := by decide +kernel
theorem d_Lw_law_581 : decode M_Lw_law.2.1 581 = .ok (.iload_n 3, 1) := by decide +kernel
theorem d_Lw_law_582 : decode M_Lw_law.2.1 582 = .ok (.iconst 2, 1) := by decide +kernel
theorem d_Lw_law_583 : decode M_Lw_law.2.1 583 = .ok (.iadd, 1) := by decide +kernel
theorem d_Lw_law_584 : decode M_Lw_law.2.1 584 = .ok (.iaload, 1) := by decide +kernel
theorem d_Lw_law_585 : decode M_Lw_law.2.1 585 = .ok (.i2l, 1) := by decide +kernel
theorem d_Lw_law_586 : decode M_Lw_law.2.1 586 = .ok (.ldc2_w 57, 3) := by decide +kernel
theorem d_Lw_law_589 : decode M_Lw_law.2.1 589 = .ok (.land, 1) := by decide +kernel
theorem d_Lw_law_590 : decode M_Lw_law.2.1 590 = .ok (.lor, 1) := by decide +kernel
theorem d_Lw_law_591 : decode M_Lw_law.2.1 591 = .ok (.aload_n 0, 1) := by decide +kernel
theorem d_Lw_law_592 : decode M_Lw_law.2.1 592 = .ok (.iload_n 3, 1) := by decide +kernel
theorem d_Lw_law_593 : decode M_Lw_law.2.1 593 = .ok (.iconst 3, 1) := by decide +kernel
theorem d_Lw_law_594 : decode M_Lw_law.2.1 594 = .ok (.iadd, 1) := by decide +kernel
theorem d_Lw_law_595 : decode M_Lw_law.2.1 595 = .ok (.iaload, 1) := by decide +kernel
theorem d_Lw_law_596 : decode M_Lw_law.2.1 596 = .ok (.invokevirtual 59, 3) := by decide +kernel
theorem d_Lw_law_599 : decode M_Lw_law.2.1 599 = .ok (.aload_n 2, 1) := by decide +kernel
theorem d_Lw_law_600 : decode M_Lw_law.2.1 600 = .ok (.aload_n 0, 1) := by decide +kernel
theorem d_Lw_law_601 : decode M_Lw_law.2.1 601 = .ok (.iload_n 3, 1) := by decide +kernel
theorem d_Lw_law_602 : decode M_Lw_law.2.1 602 = .ok (.iconst 1, 1) := by decide +kernel
theorem d_Lw_law_603 : decode M_Lw_law.2.1 603 = .ok (.iadd, 1) := by decide +kernel
theorem d_Lw_law_604 : decode M_Lw_law.2.1 604 = .ok (.iaload, 1) := by decide +kernel
theorem d_Lw_law_605 : decode M_Lw_law.2.1 605 = .ok (.i2l, 1) := by decide +kernel
theorem d_Lw_law_606 : decode M_Lw_law.2.1 606 = .ok (.bipush 32, 2) := by decide +kernel
theorem d_Lw_law_608 : decode M_Lw_law.2.1 608 = .ok (.lshl, 1) := by decide +kernel
theorem d_Lw_law_609 : decode M_Lw_law.2.1 609 = .ok (.aload_n 0, 1) := by decide +kernel
theorem d_Lw_law_610 : decode M_Lw_law.2.1 610 = .ok (.iload_n 3, 1) := by decide +kernel
theorem d_Lw_law_611 : decode M_Lw_law.2.1 611 = .ok (.iconst 2, 1) := by decide +kernel
theorem d_Lw_law_612 : decode M_Lw_law.2.1 612 = .ok (.iadd, 1) := by decide +kernel
theorem d_Lw_law_613 : decode M_Lw_law.2.1 613 = .ok (.iaload, 1) := by decide +kernel
theorem d_Lw_law_614 : decode M_Lw_law.2.1 614 = .ok (.i2l, 1) := by decide +kernel
theorem d_Lw_law_615 : decode M_Lw_law.2.1 615 = .ok (.ldc2_w 57, 3) := by decide +kernel
theorem d_Lw_law_618 : decode M_Lw_law.2.1 618 = .ok (.land, 1) := by decide +kernel
theorem d_Lw_law_619 : decode M_Lw_law.2.1 619 = .ok (.lor, 1) := by decide +kernel
theorem d_Lw_law_620 : decode M_Lw_law.2.1 620 = .ok (.aload_n 0, 1) := by decide +kernel
theorem d_Lw_law_621 : decode M_Lw_law.2.1 621 = .ok (.iload_n 3, 1) := by decide +kernel
theorem d_Lw_law_622 : decode M_Lw_law.2.1 622 = .ok (.iconst 3, 1) := by decide +kernel
theorem d_Lw_law_623 : decode M_Lw_law.2.1 623 = .ok (.iadd, 1) := by decide +kernel
theorem d_Lw_law_624 : decode M_Lw_law.2.1 624 = .ok (.iaload, 1) := by decide +kernel
theorem d_Lw_law_625 : decode M_Lw_law.2.1 625 = .ok (.invokevirtual 63, 3) := by decide +kernel
theorem d_Lw_law_628 : decode M_Lw_law.2.1 628 = .ok (.if_icmp .eq 1074, 3) := by decide +kernel
theorem d_Lw_law_631 : decode M_Lw_law.2.1 631 = .ok (.iconst 0, 1) := by decide +kernel
theorem d_Lw_law_632 : decode M_Lw_law.2.1 632 = .ok (.ireturn, 1) := by decide +kernel
theorem d_Lw_law_633 : decode M_Lw_law.2.1 633 = .ok (.aload_n 1, 1) := by decide +kernel
theorem d_Lw_law_634 : decode M_Lw_law.2.1 634 = .ok (.invokevirtual 64, 3) := by decide +kernel
theorem d_Lw_law_637 : decode M_Lw_law.2.1 637 = .ok (.aload_n 2, 1) := by decide +kernel
theorem d_Lw_law_638 : decode M_Lw_law.2.1 638 = .ok (.invokevirtual 68, 3) := by decide +kernel
theorem d_Lw_law_641 : decode M_Lw_law.2.1 641 = .ok (.if_icmp .eq 1061, 3) := by decide +kernel
theorem d_Lw_law_644 : decode M_Lw_law.2.1 644 = .ok (.iconst 0, 1) := by decide +kernel
theorem d_Lw_law_645 : decode M_Lw_law.2.1 645 = .ok (.ireturn, 1) := by decide +kernel
theorem d_Lw_law_646 : decode M_Lw_law.2.1 646 = .ok (.aload_n 1, 1) := by decide +kernel
theorem d_Lw_law_647 : decode M_Lw_law.2.1 647 = .ok (.aload_n 0, 1) := by decide +kernel
theorem d_Lw_law_648 : decode M_Lw_law.2.1 648 = .ok (.iload_n 3, 1) := by decide +kernel
theorem d_Lw_law_649 : decode M_Lw_law.2.1 649 = .ok (.iconst 1, 1) := by decide +kernel
theorem d_Lw_law_650 : decode M_Lw_law.2.1 650 = .ok (.iadd, 1) := by decide +kernel
theorem d_Lw_law_651 : decode M_Lw_law.2.1 651 = .ok (.iaload, 1) := by decide +kernel
theorem d_Lw_law_652 : decode M_Lw_law.2.1 652 = .ok (.aload_n 0, 1) := by decide +kernel
theorem d_Lw_law_653 : decode M_Lw_law.2.1 653 = .ok (.iload_n 3, 1) := by decide +kernel
theorem d_Lw_law_654 : decode M_Lw_law.2.1 654 = .ok (.iconst 2, 1) := by decide +kernel
theorem d_Lw_law_655 : decode M_Lw_law.2.1 655 = .ok (.iadd, 1) := by decide +kernel
theorem d_Lw_law_656 : decode M_Lw_law.2.1 656 = .ok (.iaload, 1) := by decide +kernel
theorem d_Lw_law_657 : decode M_Lw_law.2.1 657 = .ok (.invokevirtual 69, 3) := by decide +kernel
theorem d_Lw_law_660 : decode M_Lw_law.2.1 660 = .ok (.aload_n 2, 1) := by decide +kernel
theorem d_Lw_law_661 : decode M_Lw_law.2.1 661 = .ok (.aload_n 0, 1) := by decide +kernel
theorem d_Lw_law_662 : decode M_Lw_law.2.1 662 = .ok (.iload_n 3, 1) := by decide +kernel
theorem d_Lw_law_663 : decode M_Lw_law.2.1 663 = .ok (.iconst 1, 1) := by decide +kernel
theorem d_Lw_law_664 : decode M_Lw_law.2.1 664 = .ok (.iadd, 1) := by decide +kernel
theorem d_Lw_law_665 : decode M_Lw_law.2.1 665 = .ok (.iaload, 1) := by decide +kernel
theorem d_Lw_law_666 : decode M_Lw_law.2.1 666 = .ok (.aload_n 0, 1) := by decide +kernel
theorem d_Lw_law_667 : decode M_Lw_law.2.1 667 = .ok (.iload_n 3, 1) := by decide +kernel
theorem d_Lw_law_668 : decode M_Lw_law.2.1 668 = .ok (.iconst 2, 1) := by decide +kernel
theorem d_Lw_law_669 : decode M_Lw_law.2.1 669 = .ok (.iadd, 1) := by decide +kernel
theorem d_Lw_law_670 : decode M_Lw_law.2.1 670 = .ok (.iaload, 1) := by decide +kernel
theorem d_Lw_law_671 : decode M_Lw_law.2.1 671 = .ok (.invokevirtual 72, 3) := by decide +kernel
theorem d_Lw_law_674 : decode M_Lw_law.2.1 674 = .ok (.if_icmp .eq 1028, 3) := by decide +kernel
theorem d_Lw_law_677 : decode M_Lw_law.2.1 677 = .ok (.iconst 0, 1) := by decide +kernel
theorem d_Lw_law_678 : decode M_Lw_law.2.1 678 = .ok (.ireturn, 1) := by decide +kernel
theorem d_Lw_law_679 : decode M_Lw_law.2.1 679 = .ok (.aload_n 1, 1) := by decide +kernel
theorem d_Lw_law_680 : decode M_Lw_law.2.1 680 = .ok (.aload_n 0, 1) := by decide +kernel
theorem d_Lw_law_681 : decode M_Lw_law.2.1 681 = .ok (.iload_n 3, 1) := by decide +kernel
theorem d_Lw_law_682 : decode M_Lw_law.2.1 682 = .ok (.iconst 1, 1) := by decide +kernel
theorem d_Lw_law_683 : decode M_Lw_law.2.1 683 = .ok (.iadd, 1) := by decide +kernel
theorem d_Lw_law_684 : decode M_Lw_law.2.1 684 = .ok (.iaload, 1) := by decide +kernel
theorem d_Lw_law_685 : decode M_Lw_law.2.1 685 = .ok (.aload_n 0, 1) := by decide +kernel
theorem d_Lw_law_686 : decode M_Lw_law.2.1 686 = .ok (.iload_n 3, 1) := by decide +kernel
theorem d_Lw_law_687 : decode M_Lw_law.2.1 687 = .ok (.iconst 2, 1) := by decide +kernel
theorem d_Lw_law_688 : decode M_Lw_law.2.1 688 = .ok (.iadd, 1) := by decide +kernel
theorem d_Lw_law_689 : decode M_Lw_law.2.1 689 = .ok (.iaload, 1) := by decide +kernel
theorem d_Lw_law_690 : decode M_Lw_law.2.1 690 = .ok (.invokevirtual 73, 3) := by decide +kernel
theorem d_Lw_law_693 : decode M_Lw_law.2.1 693 = .ok (.aload_n 2, 1) := by decide +kernel
theorem d_Lw_law_694 : decode M_Lw_law.2.1 694 = .ok (.aload_n 0, 1) := by decide +kernel
theorem d_Lw_law_695 : decode M_Lw_law.2.1 695 = .ok (.iload_n 3, 1) := by decide +kernel
theorem d_Lw_law_696 : decode M_Lw_law.2.1 696 = .ok (.iconst 1, 1) := by decide +kernel
theorem d_Lw_law_697 : decode M_Lw_law.2.1 697 = .ok (.iadd, 1) := by decide +kernel
theorem d_Lw_law_698 : decode M_Lw_law.2.1 698 = .ok (.iaload, 1) := by decide +kernel
theorem d_Lw_law_699 : decode M_Lw_law.2.1 699 = .ok (.aload_n 0, 1) := by decide +kernel
theorem d_Lw_law_700 : decode M_Lw_law.2.1 700 = .ok (.iload_n 3, 1) := by decide +kernel
theorem d_Lw_law_701 : decode M_Lw_law.2.1 701 = .ok (.iconst 2, 1) := by decide +kernel
theorem d_Lw_law_702 : decode M_Lw_law.2.1 702 = .ok (.iadd, 1) := by decide +kernel
theorem d_Lw_law_703 : decode M_Lw_law.2.1 703 = .ok (.iaload, 1) := by decide +kernel
theorem d_Lw_law_704 : decode M_Lw_law.2.1 704 = .ok (.invokevirtual 76, 3) := by decide +kernel
theorem d_Lw_law_707 : decode M_Lw_law.2.1 707 = .ok (.if_icmp .eq 995, 3) := by decide +kernel
theorem d_Lw_law_710 : decode M_Lw_law.2.1 710 = .ok (.iconst 0, 1) := by decide +kernel
theorem d_Lw_law_711 : decode M_Lw_law.2.1 711 = .ok (.ireturn, 1) := by decide +kernel
theorem d_Lw_law_712 : decode M_Lw_law.2.1 712 = .ok (.aload_n 1, 1) := by decide +kernel
theorem d_Lw_law_713 : decode M_Lw_law.2.1 713 = .ok (.aload_n 0, 1) := by decide +kernel
theorem d_Lw_law_714 : decode M_Lw_law.2.1 714 = .ok (.iload_n 3, 1) := by decide +kernel
theorem d_Lw_law_715 : decode M_Lw_law.2.1 715 = .ok (.iconst 1, 1) := by decide +kernel
theorem d_Lw_law_716 : decode M_Lw_law.2.1 716 = .ok (.iadd, 1) := by decide +kernel
theorem d_Lw_law_717 : decode M_Lw_law.2.1 717 = .ok (.iaload, 1) := by decide +kernel
theorem d_Lw_law_718 : decode M_Lw_law.2.1 718 = .ok (.aload_n 0, 1) := by decide +kernel
theorem d_Lw_law_719 : decode M_Lw_law.2.1 719 = .ok (.iload_n 3, 1) := by decide +kernel
theorem d_Lw_law_720 : decode M_Lw_law.2.1 720 = .ok (.iconst 2, 1) := by decide +kernel
theorem d_Lw_law_721 : decode M_Lw_law.2.1 721 = .ok (.iadd, 1) := by decide +kernel
theorem d_Lw_law_722 : decode M_Lw_law.2.1 722 = .ok (.iaload, 1) := by decide +kernel
theorem d_Lw_law_723 : decode M_Lw_law.2.1 723 = .ok (.invokevirtual 77, 3) := by decide +kernel
theorem d_Lw_law_726 : decode M_Lw_law.2.1 726 = .ok (.aload_n 2, 1) := by decide +kernel
theorem d_Lw_law_727 : decode M_Lw_law.2.1 727 = .ok (.aload_n 0, 1) := by decide +kernel
theorem d_Lw_law_728 : decode M_Lw_law.2.1 728 = .ok (.iload_n 3, 1) := by decide +kernel
theorem d_Lw_law_729 : decode M_Lw_law.2.1 729 = .ok (.iconst 1, 1) := by decide +kernel
theorem d_Lw_law_730 : decode M_Lw_law.2.1 730 = .ok (.iadd, 1) := by decide +kernel
theorem d_Lw_law_731 : decode M_Lw_law.2.1 731 = .ok (.iaload, 1) := by decide +kernel
theorem d_Lw_law_732 : decode M_Lw_law.2.1 732 = .ok (.aload_n 0, 1) := by decide +kernel
theorem d_Lw_law_733 : decode M_Lw_law.2.1 733 = .ok (.iload_n 3, 1) := by decide +kernel
theorem d_Lw_law_734 : decode M_Lw_law.2.1 734 = .ok (.iconst 2, 1) := by decide +kernel
theorem d_Lw_law_735 : decode M_Lw_law.2.1 735 = .ok (.iadd, 1) := by decide +kernel
theorem d_Lw_law_736 : decode M_Lw_law.2.1 736 = .ok (.iaload, 1) := by decide +kernel
theorem d_Lw_law_737 : decode M_Lw_law.2.1 737 = .ok (.invokevirtual 80, 3) := by decide +kernel
theorem d_Lw_law_740 : decode M_Lw_law.2.1 740 = .ok (.if_icmp .eq 962, 3) := by decide +kernel
theorem d_Lw_law_743 : decode M_Lw_law.2.1 743 = .ok (.iconst 0, 1) := by decide +kernel
theorem d_Lw_law_744 : decode M_Lw_law.2.1 744 = .ok (.ireturn, 1) := by decide +kernel
theorem d_Lw_law_745 : decode M_Lw_law.2.1 745 = .ok (.aload_n 1, 1) := by decide +kernel
theorem d_Lw_law_746 : decode M_Lw_law.2.1 746 = .ok (.aload_n 0, 1) := by decide +kernel
theorem d_Lw_law_747 : decode M_Lw_law.2.1 747 = .ok (.iload_n 3, 1) := by decide +kernel
theorem d_Lw_law_748 : decode M_Lw_law.2.1 748 = .ok (.iconst 1, 1) := by decide +kernel
theorem d_Lw_law_749 : decode M_Lw_law.2.1 749 = .ok (.iadd, 1) := by decide +kernel
theorem d_Lw_law_750 : decode M_Lw_law.2.1 750 = .ok (.iaload, 1) := by decide +kernel
theorem d_Lw_law_751 : decode M_Lw_law.2.1 751 = .ok (.invokevirtual 81, 3) := by decide +kernel
theorem d_Lw_law_754 : decode M_Lw_law.2.1 754 = .ok (.aload_n 2, 1) := by decide +kernel
theorem d_Lw_law_755 : decode M_Lw_law.2.1 755 = .ok (.aload_n 0, 1) := by decide +kernel
theorem d_Lw_law_756 : decode M_Lw_law.2.1 756 = .ok (.iload_n 3, 1) := by decide +kernel
theorem d_Lw_law_757 : decode M_Lw_law.2.1 757 = .ok (.iconst 1, 1) := by decide +kernel
theorem d_Lw_law_758 : decode M_Lw_law.2.1 758 = .ok (.iadd, 1) := by decide +kernel
theorem d_Lw_law_759 : decode M_Lw_law.2.1 759 = .ok (.iaload, 1) := by decide +kernel
theorem d_Lw_law_760 : decode M_Lw_law.2.1 760 = .ok (.invokevirtual 84, 3) := by decide +kernel
theorem d_Lw_law_763 : decode M_Lw_law.2.1 763 = .ok (.if_icmp .eq 939, 3) := by decide +kernel
theorem d_Lw_law_766 : decode M_Lw_law.2.1 766 = .ok (.iconst 0, 1) := by decide +kernel
theorem d_Lw_law_767 : decode M_Lw_law.2.1 767 = .ok (.ireturn, 1) := by decide +kernel
theorem d_Lw_law_768 : decode M_Lw_law.2.1 768 = .ok (.aload_n 1, 1) := by decide +kernel
theorem d_Lw_law_769 : decode M_Lw_law.2.1 769 = .ok (.aload_n 0, 1) := by decide +kernel
theorem d_Lw_law_770 : decode M_Lw_law.2.1 770 = .ok (.iload_n 3, 1) := by decide +kernel
theorem d_Lw_law_771 : decode M_Lw_law.2.1 771 = .ok (.iconst 1, 1) := by decide +kernel
theorem d_Lw_law_772 : decode M_Lw_law.2.1 772 = .ok (.iadd, 1) := by decide +kernel
theorem d_Lw_law_773 : decode M_Lw_law.2.1 773 = .ok (.iaload, 1) := by decide +kernel
theorem d_Lw_law_774 : decode M_Lw_law.2.1 774 = .ok (.aload_n 0, 1) := by decide +kernel
theorem d_Lw_law_775 : decode M_Lw_law.2.1 775 = .ok (.iload_n 3, 1) := by decide +kernel
theorem d_Lw_law_776 : decode M_Lw_law.2.1 776 = .ok (.iconst 2, 1) := by decide +kernel
theorem d_Lw_law_777 : decode M_Lw_law.2.1 777 = .ok (.iadd, 1) := by decide +kernel
theorem d_Lw_law_778 : decode M_Lw_law.2.1 778 = .ok (.iaload, 1) := by decide +kernel
theorem d_Lw_law_779 : decode M_Lw_law.2.1 779 = .ok (.invokevirtual 85, 3) := by decide +kernel
theorem d_Lw_law_782 : decode M_Lw_law.2.1 782 = .ok (.aload_n 2, 1) := by decide +kernel
theorem d_Lw_law_783 : decode M_Lw_law.2.1 783 = .ok (.aload_n 0, 1) := by decide +kernel
theorem d_Lw_law_784 : decode M_Lw_law.2.1 784 = .ok (.iload_n 3, 1) := by decide +kernel
theorem d_Lw_law_785 : decode M_Lw_law.2.1 785 = .ok (.iconst 1, 1) := by decide +kernel
theorem d_Lw_law_786 : decode M_Lw_law.2.1 786 = .ok (.iadd, 1) := by decide +kernel
theorem d_Lw_law_787 : decode M_Lw_law.2.1 787 = .ok (.iaload, 1) := by decide +kernel
theorem d_Lw_law_788 : decode M_Lw_law.2.1 788 = .ok (.aload_n 0, 1) := by decide +kernel
theorem d_Lw_law_789 : decode M_Lw_law.2.1 789 = .ok (.iload_n 3, 1) := by decide +kernel
theorem d_Lw_law_790 : decode M_Lw_law.2.1 790 = .ok (.iconst 2, 1) := by decide +kernel
theorem d_Lw_law_791 : decode M_Lw_law.2.1 791 = .ok (.iadd, 1) := by decide +kernel
theorem d_Lw_law_792 : decode M_Lw_law.2.1 792 = .ok (.iaload, 1) := by decide +kernel
theorem d_Lw_law_793 : decode M_Lw_law.2.1 793 = .ok (.invokevirtual 88, 3) := by decide +kernel
theorem d_Lw_law_796 : decode M_Lw_law.2.1 796 = .ok (.if_icmp .eq 906, 3) := by decide +kernel
theorem d_Lw_law_799 : decode M_Lw_law.2.1 799 = .ok (.iconst 0, 1) := by decide +kernel
theorem d_Lw_law_800 : decode M_Lw_law.2.1 800 = .ok (.ireturn, 1) := by decide +kernel
theorem d_Lw_law_801 : decode M_Lw_law.2.1 801 = .ok (.aload_n 1, 1) := by decide +kernel
theorem d_Lw_law_802 : decode M_Lw_law.2.1 802 = .ok (.aload_n 0, 1) := by decide +kernel
theorem d_Lw_law_803 : decode M_Lw_law.2.1 803 = .ok (.iload_n 3, 1) := by decide +kernel
theorem d_Lw_law_804 : decode M_Lw_law.2.1 804 = .ok (.iconst 1, 1) := by decide +kernel
theorem d_Lw_law_805 : decode M_Lw_law.2.1 805 = .ok (.iadd, 1) := by decide +kernel
theorem d_Lw_law_806 : decode M_Lw_law.2.1 806 = .ok (.iaload, 1) := by decide +kernel
theorem d_Lw_law_807 : decode M_Lw_law.2.1 807 = .ok (.aload_n 0, 1) := by decide +kernel
theorem d_Lw_law_808 : decode M_Lw_law.2.1 808 = .ok (.iload_n 3, 1) := by decide +kernel
theorem d_Lw_law_809 : decode M_Lw_law.2.1 809 = .ok (.iconst 2, 1) := by decide +kernel
theorem d_Lw_law_810 : decode M_Lw_law.2.1 810 = .ok (.iadd, 1) := by decide +kernel
theorem d_Lw_law_811 : decode M_Lw_law.2.1 811 = .ok (.iaload, 1) := by decide +kernel
theorem d_Lw_law_812 : decode M_Lw_law.2.1 812 = .ok (.invokevirtual 89, 3) := by decide +kernel
theorem d_Lw_law_815 : decode M_Lw_law.2.1 815 = .ok (.aload_n 2, 1) := by decide +kernel
theorem d_Lw_law_816 : decode M_Lw_law.2.1 816 = .ok (.aload_n 0, 1) := by decide +kernel
theorem d_Lw_law_817 : decode M_Lw_law.2.1 817 = .ok (.iload_n 3, 1) := by decide +kernel
theorem d_Lw_law_818 : decode M_Lw_law.2.1 818 = .ok (.iconst 1, 1) := by decide +kernel
theorem d_Lw_law_819 : decode M_Lw_law.2.1 819 = .ok (.iadd, 1) := by decide +kernel
theorem d_Lw_law_820 : decode M_Lw_law.2.1 820 = .ok (.iaload, 1) := by decide +kernel
theorem d_Lw_law_821 : decode M_Lw_law.2.1 821 = .ok (.aload_n 0, 1) := by decide +kernel
theorem d_Lw_law_822 : decode M_Lw_law.2.1 822 = .ok (.iload_n 3, 1) := by decide +kernel
theorem d_Lw_law_823 : decode M_Lw_law.2.1 823 = .ok (.iconst 2, 1) := by decide +kernel
theorem d_Lw_law_824 : decode M_Lw_law.2.1 824 = .ok (.iadd, 1) := by decide +kernel
theorem d_Lw_law_825 : decode M_Lw_law.2.1 825 = .ok (.iaload, 1) := by decide +kernel
theorem d_Lw_law_826 : decode M_Lw_law.2.1 826 = .ok (.invokevirtual 92, 3) := by decide +kernel
theorem d_Lw_law_829 : decode M_Lw_law.2.1 829 = .ok (.if_icmp .eq 873, 3) := by decide +kernel
theorem d_Lw_law_832 : decode M_Lw_law.2.1 832 = .ok (.iconst 0, 1) := by decide +kernel
theorem d_Lw_law_833 : decode M_Lw_law.2.1 833 = .ok (.ireturn, 1) := by decide +kernel
theorem d_Lw_law_834 : decode M_Lw_law.2.1 834 = .ok (.aload_n 1, 1) := by decide +kernel
theorem d_Lw_law_835 : decode M_Lw_law.2.1 835 = .ok (.aload_n 0, 1) := by decide +kernel
theorem d_Lw_law_836 : decode M_Lw_law.2.1 836 = .ok (.iload_n 3, 1) := by decide +kernel
theorem d_Lw_law_837 : decode M_Lw_law.2.1 837 = .ok (.iconst 1, 1) := by decide +kernel
theorem d_Lw_law_838 : decode M_Lw_law.2.1 838 = .ok (.iadd, 1) := by decide +kernel
theorem d_Lw_law_839 : decode M_Lw_law.2.1 839 = .ok (.iaload, 1) := by decide +kernel
theorem d_Lw_law_840 : decode M_Lw_law.2.1 840 = .ok (.aload_n 0, 1) := by decide +kernel
theorem d_Lw_law_841 : decode M_Lw_law.2.1 841 = .ok (.iload_n 3, 1) := by decide +kernel
theorem d_Lw_law_842 : decode M_Lw_law.2.1 842 = .ok (.iconst 2, 1) := by decide +kernel
theorem d_Lw_law_843 : decode M_Lw_law.2.1 843 = .ok (.iadd, 1) := by decide +kernel
theorem d_Lw_law_844 : decode M_Lw_law.2.1 844 = .ok (.iaload, 1) := by decide +kernel
theorem d_Lw_law_845 : decode M_Lw_law.2.1 845 = .ok (.invokevirtual 93, 3) := by decide +kernel
theorem d_Lw_law_848 : decode M_Lw_law.2.1 848 = .ok (.aload_n 2, 1) := by decide +kernel
theorem d_Lw_law_849 : decode M_Lw_law.2.1 849 = .ok (.aload_n 0, 1) := by decide +kernel
theorem d_Lw_law_850 : decode M_Lw_law.2.1 850 = .ok (.iload_n 3, 1) := by decide +kernel
theorem d_Lw_law_851 : decode M_Lw_law.2.1 851 = .ok (.iconst 1, 1) := by decide +kernel
theorem d_Lw_law_852 : decode M_Lw_law.2.1 852 = .ok (.iadd, 1) := by decide +kernel
theorem d_Lw_law_853 : decode M_Lw_law.2.1 853 = .ok (.iaload, 1) := by decide +kernel
theorem d_Lw_law_854 : decode M_Lw_law.2.1 854 = .ok (.aload_n 0, 1) := by decide +kernel
theorem d_Lw_law_855 : decode M_Lw_law.2.1 855 = .ok (.iload_n 3, 1) := by decide +kernel
theorem d_Lw_law_856 : decode M_Lw_law.2.1 856 = .ok (.iconst 2, 1) := by decide +kernel
theorem d_Lw_law_857 : decode M_Lw_law.2.1 857 = .ok (.iadd, 1) := by decide +kernel
theorem d_Lw_law_858 : decode M_Lw_law.2.1 858 = .ok (.iaload, 1) := by decide +kernel
theorem d_Lw_law_859 : decode M_Lw_law.2.1 859 = .ok (.invokevirtual 96, 3) := by decide +kernel
theorem d_Lw_law_862 : decode M_Lw_law.2.1 862 = .ok (.if_icmp .eq 840, 3) := by decide +kernel
theorem d_Lw_law_865 : decode M_Lw_law.2.1 865 = .ok (.iconst 0, 1) := by decide +kernel
theorem d_Lw_law_866 : decode M_Lw_law.2.1 866 = .ok (.ireturn, 1) := by decide +kernel
theorem d_Lw_law_867 : decode M_Lw_law.2.1 867 = .ok (.aload_n 1, 1) := by decide +kernel
theorem d_Lw_law_868 : decode M_Lw_law.2.1 868 = .ok (.aload_n 0, 1) := by decide +kernel
theorem d_Lw_law_869 : decode M_Lw_law.2.1 869 = .ok (.iload_n 3, 1) := by decide +kernel
theorem d_Lw_law_870 : decode M_Lw_law.2.1 870 = .ok (.iconst 1, 1) := by decide +kernel
theorem d_Lw_law_871 : decode M_Lw_law.2.1 871 = .ok (.iadd, 1) := by decide +kernel
theorem d_Lw_law_872 : decode M_Lw_law.2.1 872 = .ok (.iaload, 1) := by decide +kernel
theorem d_Lw_law_873 : decode M_Lw_law.2.1 873 = .ok (.aload_n 0, 1) := by decide +kernel
theorem d_Lw_law_874 : decode M_Lw_law.2.1 874 = .ok (.iload_n 3, 1) := by decide +kernel
theorem d_Lw_law_875 : decode M_Lw_law.2.1 875 = .ok (.iconst 2, 1) := by decide +kernel
theorem d_Lw_law_876 : decode M_Lw_law.2.1 876 = .ok (.iadd, 1) := by decide +kernel
theorem d_Lw_law_877 : decode M_Lw_law.2.1 877 = .ok (.iaload, 1) := by decide +kernel
theorem d_Lw_law_878 : decode M_Lw_law.2.1 878 = .ok (.aload_n 0, 1) := by decide +kernel
theorem d_Lw_law_879 : decode M_Lw_law.2.1 879 = .ok (.iload_n 3, 1) := by decide +kernel
theorem d_Lw_law_880 : decode M_Lw_law.2.1 880 = .ok (.iconst 3, 1) := by decide +kernel
theorem d_Lw_law_881 : decode M_Lw_law.2.1 881 = .ok (.iadd, 1) := by decide +kernel
theorem d_Lw_law_882 : decode M_Lw_law.2.1 882 = .ok (.iaload, 1) := by decide +kernel
theorem d_Lw_law_883 : decode M_Lw_law.2.1 883 = .ok (.invokevirtual 97, 3) := by decide +kernel
theorem d_Lw_law_886 : decode M_Lw_law.2.1 886 = .ok (.aload_n 2, 1) := by decide +kernel
theorem d_Lw_law_887 : decode M_Lw_law.2.1 887 = .ok (.aload_n 0, 1) := by decide +kernel
theorem d_Lw_law_888 : decode M_Lw_law.2.1 888 = .ok (.iload_n 3, 1) := by decide +kernel
theorem d_Lw_law_889 : decode M_Lw_law.2.1 889 = .ok (.iconst 1, 1) := by decide +kernel
theorem d_Lw_law_890 : decode M_Lw_law.2.1 890 = .ok (.iadd, 1) := by decide +kernel
theorem d_Lw_law_891 : decode M_Lw_law.2.1 891 = .ok (.iaload, 1) := by decide +kernel
theorem d_Lw_law_892 : decode M_Lw_law.2.1 892 = .ok (.aload_n 0, 1) := by decide +kernel
theorem d_Lw_law_893 : decode M_Lw_law.2.1 893 = .ok (.iload_n 3, 1) := by decide +kernel
theorem d_Lw_law_894 : decode M_Lw_law.2.1 894 = .ok (.iconst 2, 1) := by decide +kernel
theorem d_Lw_law_895 : decode M_Lw_law.2.1 895 = .ok (.iadd, 1) := by decide +kernel
theorem d_Lw_law_896 : decode M_Lw_law.2.1 896 = .ok (.iaload, 1) := by decide +kernel
theorem d_Lw_law_897 : decode M_Lw_law.2.1 897 = .ok (.aload_n 0, 1) := by decide +kernel
theorem d_Lw_law_898 : decode M_Lw_law.2.1 898 = .ok (.iload_n 3, 1) := by decide +kernel
theorem d_Lw_law_899 : decode M_Lw_law.2.1 899 = .ok (.iconst 3, 1) := by decide +kernel
theorem d_Lw_law_900 : decode M_Lw_law.2.1 900 = .ok (.iadd, 1) := by decide +kernel
theorem d_Lw_law_901 : decode M_Lw_law.2.1 901 = .ok (.iaload, 1) := by decide +kernel
theorem d_Lw_law_902 : decode M_Lw_law.2.1 902 = .ok (.invokevirtual 100, 3) := by decide +kernel
theorem d_Lw_law_905 : decode M_Lw_law.2.1 905 = .ok (.if_icmp .eq 797, 3) := by decide +kernel
theorem d_Lw_law_908 : decode M_Lw_law.2.1 908 = .ok (.iconst 0, 1) := by decide +kernel
theorem d_Lw_law_909 : decode M_Lw_law.2.1 909 = .ok (.ireturn, 1) := by decide +kernel
theorem d_Lw_law_910 : decode M_Lw_law.2.1 910 = .ok (.aload_n 1, 1) := by decide +kernel
theorem d_Lw_law_911 : decode M_Lw_law.2.1 911 = .ok (.aload_n 0, 1) := by decide +kernel
theorem d_Lw_law_912 : decode M_Lw_law.2.1 912 = .ok (.iload_n 3, 1) := by decide +kernel
theorem d_Lw_law_913 : decode M_Lw_law.2.1 913 = .ok (.iconst 1, 1) := by decide +kernel
theorem d_Lw_law_914 : decode M_Lw_law.2.1 914 = .ok (.iadd, 1) := by decide +kernel
theorem d_Lw_law_915 : decode M_Lw_law.2.1 915 = .ok (.iaload, 1) := by decide +kernel
theorem d_Lw_law_916 : decode M_Lw_law.2.1 916 = .ok (.invokevirtual 101, 3) := by decide +kernel
theorem d_Lw_law_919 : decode M_Lw_law.2.1 919 = .ok (.aload_n 2, 1) := by decide +kernel
theorem d_Lw_law_920 : decode M_Lw_law.2.1 920 = .ok (.aload_n 0, 1) := by decide +kernel
theorem d_Lw_law_921 : decode M_Lw_law.2.1 921 = .ok (.iload_n 3, 1) := by decide +kernel
theorem d_Lw_law_922 : decode M_Lw_law.2.1 922 = .ok (.iconst 1, 1) := by decide +kernel
theorem d_Lw_law_923 : decode M_Lw_law.2.1 923 = .ok (.iadd, 1) := by decide +kernel
theorem d_Lw_law_924 : decode M_Lw_law.2.1 924 = .ok (.iaload, 1) := by decide +kernel
theorem d_Lw_law_925 : decode M_Lw_law.2.1 925 = .ok (.invokevirtual 104, 3) := by decide +kernel
theorem d_Lw_law_928 : decode M_Lw_law.2.1 928 = .ok (.if_icmp .eq 774, 3) := by decide +kernel
theorem d_Lw_law_931 : decode M_Lw_law.2.1 931 = .ok (.iconst 0, 1) := by decide +kernel
theorem d_Lw_law_932 : decode M_Lw_law.2.1 932 = .ok (.ireturn, 1) := by decide +kernel
theorem d_Lw_law_933 : decode M_Lw_law.2.1 933 = .ok (.aload_n 1, 1) := by decide +kernel
theorem d_Lw_law_934 : decode M_Lw_law.2.1 934 = .ok (.aload_n 0, 1) := by decide +kernel
theorem d_Lw_law_935 : decode M_Lw_law.2.1 935 = .ok (.iload_n 3, 1) := by decide +kernel
theorem d_Lw_law_936 : decode M_Lw_law.2.1 936 = .ok (.iconst 1, 1) := by decide +kernel
theorem d_Lw_law_937 : decode M_Lw_law.2.1 937 = .ok (.iadd, 1) := by decide +kernel
theorem d_Lw_law_938 : decode M_Lw_law.2.1 938 = .ok (.iaload, 1) := by decide +kernel
theorem d_Lw_law_939 : decode M_Lw_law.2.1 939 = .ok (.aload_n 0, 1) := by decide +kernel
theorem d_Lw_law_940 : decode M_Lw_law.2.1 940 = .ok (.iload_n 3, 1) := by decide +kernel
theorem d_Lw_law_941 : decode M_Lw_law.2.1 941 = .ok (.iconst 2, 1) := by decide +kernel
theorem d_Lw_law_942 : decode M_Lw_law.2.1 942 = .ok (.iadd, 1) := by decide +kernel
theorem d_Lw_law_943 : decode M_Lw_law.2.1 943 = .ok (.iaload, 1) := by decide +kernel
theorem d_Lw_law_944 : decode M_Lw_law.2.1 944 = .ok (.invokevirtual 105, 3) := by decide +kernel
theorem d_Lw_law_947 : decode M_Lw_law.2.1 947 = .ok (.aload_n 2, 1) := by decide +kernel
theorem d_Lw_law_948 : decode M_Lw_law.2.1 948 = .ok (.aload_n 0, 1) := by decide +kernel
theorem d_Lw_law_949 : decode M_Lw_law.2.1 949 = .ok (.iload_n 3, 1) := by decide +kernel
theorem d_Lw_law_950 : decode M_Lw_law.2.1 950 = .ok (.iconst 1, 1) := by decide +kernel
theorem d_Lw_law_951 : decode M_Lw_law.2.1 951 = .ok (.iadd, 1) := by decide +kernel
theorem d_Lw_law_952 : decode M_Lw_law.2.1 952 = .ok (.iaload, 1) := by decide +kernel
theorem d_Lw_law_953 : decode M_Lw_law.2.1 953 = .ok (.aload_n 0, 1) := by decide +kernel
theorem d_Lw_law_954 : decode M_Lw_law.2.1 954 = .ok (.iload_n 3, 1) := by decide +kernel
theorem d_Lw_law_955 : decode M_Lw_law.2.1 955 = .ok (.iconst 2, 1) := by decide +kernel
theorem d_Lw_law_956 : decode M_Lw_law.2.1 956 = .ok (.iadd, 1) := by decide +kernel
theorem d_Lw_law_957 : decode M_Lw_law.2.1 957 = .ok (.iaload, 1) := by decide +kernel
theorem d_Lw_law_958 : decode M_Lw_law.2.1 958 = .ok (.invokevirtual 108, 3) := by decide +kernel
theorem d_Lw_law_961 : decode M_Lw_law.2.1 961 = .ok (.if_icmp .eq 741, 3) := by decide +kernel
theorem d_Lw_law_964 : decode M_Lw_law.2.1 964 = .ok (.iconst 0, 1) := by decide +kernel
theorem d_Lw_law_965 : decode M_Lw_law.2.1 965 = .ok (.ireturn, 1) := by decide +kernel
theorem d_Lw_law_966 : decode M_Lw_law.2.1 966 = .ok (.aload_n 1, 1) := by decide +kernel
theorem d_Lw_law_967 : decode M_Lw_law.2.1 967 = .ok (.aload_n 0, 1) := by decide +kernel
theorem d_Lw_law_968 : decode M_Lw_law.2.1 968 = .ok (.iload_n 3, 1) := by decide +kernel
theorem d_Lw_law_969 : decode M_Lw_law.2.1 969 = .ok (.iconst 1, 1) := by decide +kernel
theorem d_Lw_law_970 : decode M_Lw_law.2.1 970 = .ok (.iadd, 1) := by decide +kernel
theorem d_Lw_law_971 : decode M_Lw_law.2.1 971 = .ok (.iaload, 1) := by decide +kernel
theorem d_Lw_law_972 : decode M_Lw_law.2.1 972 = .ok (.aload_n 0, 1) := by decide +kernel
theorem d_Lw_law_973 : decode M_Lw_law.2.1 973 = .ok (.iload_n 3, 1) := by decide +kernel
theorem d_Lw_law_974 : decode M_Lw_law.2.1 974 = .ok (.iconst 2, 1) := by decide +kernel
theorem d_Lw_law_975 : decode M_Lw_law.2.1 975 = .ok (.iadd, 1) := by decide +kernel
theorem d_Lw_law_976 : decode M_Lw_law.2.1 976 = .ok (.iaload, 1) := by decide +kernel
theorem d_Lw_law_977 : decode M_Lw_law.2.1 977 = .ok (.invokevirtual 109, 3) := by decide +kernel
theorem d_Lw_law_980 : decode M_Lw_law.2.1 980 = .ok (.aload_n 2, 1) := by decide +kernel
theorem d_Lw_law_981 : decode M_Lw_law.2.1 981 = .ok (.aload_n 0, 1) := by decide +kernel
theorem d_Lw_law_982 : decode M_Lw_law.2.1 982 = .ok (.iload_n 3, 1) := by decide +kernel
theorem d_Lw_law_983 : decode M_Lw_law.2.1 983 = .ok (.iconst 1, 1) := by decide +kernel
theorem d_Lw_law_984 : decode M_Lw_law.2.1 984 = .ok (.iadd, 1) := by decide +kernel
theorem d_Lw_law_985 : decode M_Lw_law.2.1 985 = .ok (.iaload, 1) := by decide +kernel
theorem d_Lw_law_986 : decode M_Lw_law.2.1 986 = .ok (.aload_n 0, 1) := by decide +kernel
theorem d_Lw_law_987 : decode M_Lw_law.2.1 987 = .ok (.iload_n 3, 1) := by decide +kernel
theorem d_Lw_law_988 : decode M_Lw_law.2.1 988 = .ok (.iconst 2, 1) := by decide +kernel
theorem d_Lw_law_989 : decode M_Lw_law.2.1 989 = .ok (.iadd, 1) := by decide +kernel
theorem d_Lw_law_990 : decode M_Lw_law.2.1 990 = .ok (.iaload, 1) := by decide +kernel
theorem d_Lw_law_991 : decode M_Lw_law.2.1 991 = .ok (.invokevirtual 112, 3) := by decide +kernel
theorem d_Lw_law_994 : decode M_Lw_law.2.1 994 = .ok (.if_icmp .eq 708, 3) := by decide +kernel
theorem d_Lw_law_997 : decode M_Lw_law.2.1 997 = .ok (.iconst 0, 1) := by decide +kernel
theorem d_Lw_law_998 : decode M_Lw_law.2.1 998 = .ok (.ireturn, 1) := by decide +kernel
theorem d_Lw_law_999 : decode M_Lw_law.2.1 999 = .ok (.aload_n 1, 1) := by decide +kernel
theorem d_Lw_law_1000 : decode M_Lw_law.2.1 1000 = .ok (.aload_n 0, 1) := by decide +kernel
theorem d_Lw_law_1001 : decode M_Lw_law.2.1 1001 = .ok (.iload_n 3, 1) := by decide +kernel
theorem d_Lw_law_1002 : decode M_Lw_law.2.1 1002 = .ok (.iconst 1, 1) := by decide +kernel
theorem d_Lw_law_1003 : decode M_Lw_law.2.1 1003 = .ok (.iadd, 1) := by decide +kernel
theorem d_Lw_law_1004 : decode M_Lw_law.2.1 1004 = .ok (.iaload, 1) := by decide +kernel
theorem d_Lw_law_1005 : decode M_Lw_law.2.1 1005 = .ok (.aload_n 0, 1) := by decide +kernel
theorem d_Lw_law_1006 : decode M_Lw_law.2.1 1006 = .ok (.iload_n 3, 1) := by decide +kernel
theorem d_Lw_law_1007 : decode M_Lw_law.2.1 1007 = .ok (.iconst 2, 1) := by decide +kernel
theorem d_Lw_law_1008 : decode M_Lw_law.2.1 1008 = .ok (.iadd, 1) := by decide +kernel
theorem d_Lw_law_1009 : decode M_Lw_law.2.1 1009 = .ok (.iaload, 1) := by decide +kernel
theorem d_Lw_law_1010 : decode M_Lw_law.2.1 1010 = .ok (.aload_n 0, 1) := by decide +kernel
theorem d_Lw_law_1011 : decode M_Lw_law.2.1 1011 = .ok (.iload_n 3, 1) := by decide +kernel
theorem d_Lw_law_1012 : decode M_Lw_law.2.1 1012 = .ok (.iconst 3, 1) := by decide +kernel
theorem d_Lw_law_1013 : decode M_Lw_law.2.1 1013 = .ok (.iadd, 1) := by decide +kernel
theorem d_Lw_law_1014 : decode M_Lw_law.2.1 1014 = .ok (.iaload, 1) := by decide +kernel
theorem d_Lw_law_1015 : decode M_Lw_law.2.1 1015 = .ok (.invokevirtual 113, 3) := by decide +kernel
theorem d_Lw_law_1018 : decode M_Lw_law.2.1 1018 = .ok (.aload_n 2, 1) := by decide +kernel
theorem d_Lw_law_1019 : decode M_Lw_law.2.1 1019 = .ok (.aload_n 0, 1) := by decide +kernel
theorem d_Lw_law_1020 : decode M_Lw_law.2.1 1020 = .ok (.iload_n 3, 1) := by decide +kernel
theorem d_Lw_law_1021 : decode M_Lw_law.2.1 1021 = .ok (.iconst 1, 1) := by decide +kernel
theorem d_Lw_law_1022 : decode M_Lw_law.2.1 1022 = .ok (.iadd, 1) := by decide +kernel
theorem d_Lw_law_1023 : decode M_Lw_law.2.1 1023 = .ok (.iaload, 1) := by decide +kernel
theorem d_Lw_law_1024 : decode M_Lw_law.2.1 1024 = .ok (.aload_n 0, 1) := by decide +kernel
theorem d_Lw_law_1025 : decode M_Lw_law.2.1 1025 = .ok (.iload_n 3, 1) := by decide +kernel
theorem d_Lw_law_1026 : decode M_Lw_law.2.1 1026 = .ok (.iconst 2, 1) := by decide +kernel
theorem d_Lw_law_1027 : decode M_Lw_law.2.1 1027 = .ok (.iadd, 1) := by decide +kernel
theorem d_Lw_law_1028 : decode M_Lw_law.2.1 1028 = .ok (.iaload, 1) := by decide +kernel
theorem d_Lw_law_1029 : decode M_Lw_law.2.1 1029 = .ok (.aload_n 0, 1) := by decide +kernel
theorem d_Lw_law_1030 : decode M_Lw_law.2.1 1030 = .ok (.iload_n 3, 1) := by decide +kernel
theorem d_Lw_law_1031 : decode M_Lw_law.2.1 1031 = .ok (.iconst 3, 1) := by decide +kernel
theorem d_Lw_law_1032 : decode M_Lw_law.2.1 1032 = .ok (.iadd, 1) := by decide +kernel
theorem d_Lw_law_1033 : decode M_Lw_law.2.1 1033 = .ok (.iaload, 1) := by decide +kernel
theorem d_Lw_law_1034 : decode M_Lw_law.2.1 1034 = .ok (.invokevirtual 117, 3) := by decide +kernel
theorem d_Lw_law_1037 : decode M_Lw_law.2.1 1037 = .ok (.lcmp, 1) := by decide +kernel
theorem d_Lw_law_1038 : decode M_Lw_law.2.1 1038 = .ok (.ifCond .eq 664, 3) := by decide +kernel
theorem d_Lw_law_1041 : decode M_Lw_law.2.1 1041 = .ok (.iconst 0, 1) := by decide +kernel
theorem d_Lw_law_1042 : decode M_Lw_law.2.1 1042 = .ok (.ireturn, 1) := by decide +kernel
theorem d_Lw_law_1043 : decode M_Lw_law.2.1 1043 = .ok (.aload_n 1, 1) := by decide +kernel
theorem d_Lw_law_1044 : decode M_Lw_law.2.1 1044 = .ok (.aload_n 0, 1) := by decide +kernel
theorem d_Lw_law_1045 : decode M_Lw_law.2.1 1045 = .ok (.iload_n 3, 1) := by decide +kernel
theorem d_Lw_law_1046 : decode M_Lw_law.2.1 1046 = .ok (.iconst 1, 1) := by decide +kernel
theorem d_Lw_law_1047 : decode M_Lw_law.2.1 1047 = .ok (.iadd, 1) := by decide +kernel
theorem d_Lw_law_1048 : decode M_Lw_law.2.1 1048 = .ok (.iaload, 1) := by decide +kernel
theorem d_Lw_law_1049 : decode M_Lw_law.2.1 1049 = .ok (.aload_n 0, 1) := by decide +kernel
theorem d_Lw_law_1050 : decode M_Lw_law.2.1 1050 = .ok (.iload_n 3, 1) := by decide +kernel
theorem d_Lw_law_1051 : decode M_Lw_law.2.1 1051 = .ok (.iconst 2, 1) := by decide +kernel
theorem d_Lw_law_1052 : decode M_Lw_law.2.1 1052 = .ok (.iadd, 1) := by decide +kernel
theorem d_Lw_law_1053 : decode M_Lw_law.2.1 1053 = .ok (.iaload, 1) := by decide +kernel
theorem d_Lw_law_1054 : decode M_Lw_law.2.1 1054 = .ok (.aload_n 0, 1) := by decide +kernel
theorem d_Lw_law_1055 : decode M_Lw_law.2.1 1055 = .ok (.iload_n 3, 1) := by decide +kernel
theorem d_Lw_law_1056 : decode M_Lw_law.2.1 1056 = .ok (.iconst 3, 1) := by decide +kernel
theorem d_Lw_law_1057 : decode M_Lw_law.2.1 1057 = .ok (.iadd, 1) := by decide +kernel
theorem d_Lw_law_1058 : decode M_Lw_law.2.1 1058 = .ok (.iaload, 1) := by decide +kernel
theorem d_Lw_law_1059 : decode M_Lw_law.2.1 1059 = .ok (.invokevirtual 118, 3) := by decide +kernel
theorem d_Lw_law_1062 : decode M_Lw_law.2.1 1062 = .ok (.aload_n 2, 1) := by decide +kernel
theorem d_Lw_law_1063 : decode M_Lw_law.2.1 1063 = .ok (.aload_n 0, 1) := by decide +kernel
theorem d_Lw_law_1064 : decode M_Lw_law.2.1 1064 = .ok (.iload_n 3, 1) := by decide +kernel
theorem d_Lw_law_1065 : decode M_Lw_law.2.1 1065 = .ok (.iconst 1, 1) := by decide +kernel
theorem d_Lw_law_1066 : decode M_Lw_law.2.1 1066 = .ok (.iadd, 1) := by decide +kernel
theorem d_Lw_law_1067 : decode M_Lw_law.2.1 1067 = .ok (.iaload, 1) := by decide +kernel
theorem d_Lw_law_1068 : decode M_Lw_law.2.1 1068 = .ok (.aload_n 0, 1) := by decide +kernel
theorem d_Lw_law_1069 : decode M_Lw_law.2.1 1069 = .ok (.iload_n 3, 1) := by decide +kernel
theorem d_Lw_law_1070 : decode M_Lw_law.2.1 1070 = .ok (.iconst 2, 1) := by decide +kernel
theorem d_Lw_law_1071 : decode M_Lw_law.2.1 1071 = .ok (.iadd, 1) := by decide +kernel
theorem d_Lw_law_1072 : decode M_Lw_law.2.1 1072 = .ok (.iaload, 1) := by decide +kernel
theorem d_Lw_law_1073 : decode M_Lw_law.2.1 1073 = .ok (.aload_n 0, 1) := by decide +kernel
theorem d_Lw_law_1074 : decode M_Lw_law.2.1 1074 = .ok (.iload_n 3, 1) := by decide +kernel
theorem d_Lw_law_1075 : decode M_Lw_law.2.1 1075 = .ok (.iconst 3, 1) := by decide +kernel
theorem d_Lw_law_1076 : decode M_Lw_law.2.1 1076 = .ok (.iadd, 1) := by decide +kernel
theorem d_Lw_law_1077 : decode M_Lw_law.2.1 1077 = .ok (.iaload, 1) := by decide +kernel
theorem d_Lw_law_1078 : decode M_Lw_law.2.1 1078 = .ok (.invokevirtual 121, 3) := by decide +kernel
theorem d_Lw_law_1081 : decode M_Lw_law.2.1 1081 = .ok (.lcmp, 1) := by decide +kernel
theorem d_Lw_law_1082 : decode M_Lw_law.2.1 1082 = .ok (.ifCond .eq 620, 3) := by decide +kernel
theorem d_Lw_law_1085 : decode M_Lw_law.2.1 1085 = .ok (.iconst 0, 1) := by decide +kernel
theorem d_Lw_law_1086 : decode M_Lw_law.2.1 1086 = .ok (.ireturn, 1) := by decide +kernel
theorem d_Lw_law_1087 : decode M_Lw_law.2.1 1087 = .ok (.aload_n 1, 1) := by decide +kernel
theorem d_Lw_law_1088 : decode M_Lw_law.2.1 1088 = .ok (.invokevirtual 122, 3) := by decide +kernel
theorem d_Lw_law_1091 : decode M_Lw_law.2.1 1091 = .ok (.aload_n 2, 1) := by decide +kernel
theorem d_Lw_law_1092 : decode M_Lw_law.2.1 1092 = .ok (.invokevirtual 125, 3) := by decide +kernel
theorem d_Lw_law_1095 : decode M_Lw_law.2.1 1095 = .ok (.if_icmp .eq 607, 3) := by decide +kernel
theorem d_Lw_law_1098 : decode M_Lw_law.2.1 1098 = .ok (.iconst 0, 1) := by decide +kernel
theorem d_Lw_law_1099 : decode M_Lw_law.2.1 1099 = .ok (.ireturn, 1) := by decide +kernel
theorem d_Lw_law_1100 : decode M_Lw_law.2.1 1100 = .ok (.aload_n 1, 1) := by decide +kernel
theorem d_Lw_law_1101 : decode M_Lw_law.2.1 1101 = .ok (.aload_n 0, 1) := by decide +kernel
theorem d_Lw_law_1102 : decode M_Lw_law.2.1 1102 = .ok (.iload_n 3, 1) := by decide +kernel
theorem d_Lw_law_1103 : decode M_Lw_law.2.1 1103 = .ok (.iconst 1, 1) := by decide +kernel
theorem d_Lw_law_1104 : decode M_Lw_law.2.1 1104 = .ok (.iadd, 1) := by decide +kernel
theorem d_Lw_law_1105 : decode M_Lw_law.2.1 1105 = .ok (.iaload, 1) := by decide +kernel
theorem d_Lw_law_1106 : decode M_Lw_law.2.1 1106 = .ok (.aload_n 0, 1) := by decide +kernel
theorem d_Lw_law_1107 : decode M_Lw_law.2.1 1107 = .ok (.iload_n 3, 1) := by decide +kernel
theorem d_Lw_law_1108 : decode M_Lw_law.2.1 1108 = .ok (.iconst 2, 1) := by decide +kernel
theorem d_Lw_law_1109 : decode M_Lw_law.2.1 1109 = .ok (.iadd, 1) := by decide +kernel
theorem d_Lw_law_1110 : decode M_Lw_law.2.1 1110 = .ok (.iaload, 1) := by decide +kernel
theorem d_Lw_law_1111 : decode M_Lw_law.2.1 1111 = .ok (.aload_n 0, 1) := by decide +kernel
theorem d_Lw_law_1112 : decode M_Lw_law.2.1 1112 = .ok (.iload_n 3, 1) := by decide +kernel
theorem d_Lw_law_1113 : decode M_Lw_law.2.1 1113 = .ok (.iconst 3, 1) := by decide +kernel
theorem d_Lw_law_1114 : decode M_Lw_law.2.1 1114 = .ok (.iadd, 1) := by decide +kernel
theorem d_Lw_law_1115 : decode M_Lw_law.2.1 1115 = .ok (.iaload, 1) := by decide +kernel
theorem d_Lw_law_1116 : decode M_Lw_law.2.1 1116 = .ok (.invokevirtual 126, 3) := by decide +kernel
theorem d_Lw_law_1119 : decode M_Lw_law.2.1 1119 = .ok (.aload_n 2, 1) := by decide +kernel
theorem d_Lw_law_1120 : decode M_Lw_law.2.1 1120 = .ok (.aload_n 0, 1) := by decide +kernel
theorem d_Lw_law_1121 : decode M_Lw_law.2.1 1121 = .ok (.iload_n 3, 1) := by decide +kernel
theorem d_Lw_law_1122 : decode M_Lw_law.2.1 1122 = .ok (.iconst 1, 1) := by decide +kernel
theorem d_Lw_law_1123 : decode M_Lw_law.2.1 1123 = .ok (.iadd, 1) := by decide +kernel
theorem d_Lw_law_1124 : decode M_Lw_law.2.1 1124 = .ok (.iaload, 1) := by decide +kernel
theorem d_Lw_law_1125 : decode M_Lw_law.2.1 1125 = .ok (.aload_n 0, 1) := by decide +kernel
theorem d_Lw_law_1126 : decode M_Lw_law.2.1 1126 = .ok (.iload_n 3, 1) := by decide +kernel
theorem d_Lw_law_1127 : decode M_Lw_law.2.1 1127 = .ok (.iconst 2, 1) := by decide +kernel
theorem d_Lw_law_1128 : decode M_Lw_law.2.1 1128 = .ok (.iadd, 1) := by decide +kernel
theorem d_Lw_law_1129 : decode M_Lw_law.2.1 1129 = .ok (.iaload, 1) := by decide +kernel
theorem d_Lw_law_1130 : decode M_Lw_law.2.1 1130 = .ok (.aload_n 0, 1) := by decide +kernel
theorem d_Lw_law_1131 : decode M_Lw_law.2.1 1131 = .ok (.iload_n 3, 1) := by decide +kernel
theorem d_Lw_law_1132 : decode M_Lw_law.2.1 1132 = .ok (.iconst 3, 1) := by decide +kernel
theorem d_Lw_law_1133 : decode M_Lw_law.2.1 1133 = .ok (.iadd, 1) := by decide +kernel
theorem d_Lw_law_1134 : decode M_Lw_law.2.1 1134 = .ok (.iaload, 1) := by decide +kernel
theorem d_Lw_law_1135 : decode M_Lw_law.2.1 1135 = .ok (.invokevirtual 129, 3) := by decide +kernel
theorem d_Lw_law_1138 : decode M_Lw_law.2.1 1138 = .ok (.if_icmp .eq 564, 3) := by decide +kernel
theorem d_Lw_law_1141 : decode M_Lw_law.2.1 1141 = .ok (.iconst 0, 1) := by decide +kernel
theorem d_Lw_law_1142 : decode M_Lw_law.2.1 1142 = .ok (.ireturn, 1) := by decide +kernel
theorem d_Lw_law_1143 : decode M_Lw_law.2.1 1143 = .ok (.aload_n 1, 1) := by decide +kernel
theorem d_Lw_law_1144 : decode M_Lw_law.2.1 1144 = .ok (.aload_n 0, 1) := by decide +kernel
theorem d_Lw_law_1145 : decode M_Lw_law.2.1 1145 = .ok (.iload_n 3, 1) := by decide +kernel
theorem d_Lw_law_1146 : decode M_Lw_law.2.1 1146 = .ok (.iconst 1, 1) := by decide +kernel
theorem d_Lw_law_1147 : decode M_Lw_law.2.1 1147 = .ok (.iadd, 1) := by decide +kernel
theorem d_Lw_law_1148 : decode M_Lw_law.2.1 1148 = .ok (.iaload, 1) := by decide +kernel
theorem d_Lw_law_1149 : decode M_Lw_law.2.1 1149 = .ok (.invokevirtual 130, 3) := by decide +kernel
theorem d_Lw_law_1152 : decode M_Lw_law.2.1 1152 = .ok (.aload_n 2, 1) := by decide +kernel
theorem d_Lw_law_1153 : decode M_Lw_law.2.1 1153 = .ok (.aload_n 0, 1) := by decide +kernel
theorem d_Lw_law_1154 : decode M_Lw_law.2.1 1154 = .ok (.iload_n 3, 1) := by decide +kernel
theorem d_Lw_law_1155 : decode M_Lw_law.2.1 1155 = .ok (.iconst 1, 1) := by decide +kernel
theorem d_Lw_law_1156 : decode M_Lw_law.2.1 1156 = .ok (.iadd, 1) := by decide +kernel
theorem d_Lw_law_1157 : decode M_Lw_law.2.1 1157 = .ok (.iaload, 1) := by decide +kernel
theorem d_Lw_law_1158 : decode M_Lw_law.2.1 1158 = .ok (.invokevirtual 133, 3) := by decide +kernel
theorem d_Lw_law_1161 : decode M_Lw_law.2.1 1161 = .ok (.if_icmp .eq 541, 3) := by decide +kernel
theorem d_Lw_law_1164 : decode M_Lw_law.2.1 1164 = .ok (.iconst 0, 1) := by decide +kernel
theorem d_Lw_law_1165 : decode M_Lw_law.2.1 1165 = .ok (.ireturn, 1) := by decide +kernel
theorem d_Lw_law_1166 : decode M_Lw_law.2.1 1166 = .ok (.aload_n 1, 1) := by decide +kernel
theorem d_Lw_law_1167 : decode M_Lw_law.2.1 1167 = .ok (.aload_n 0, 1) := by decide +kernel
theorem d_Lw_law_1168 : decode M_Lw_law.2.1 1168 = .ok (.iload_n 3, 1) := by decide +kernel
theorem d_Lw_law_1169 : decode M_Lw_law.2.1 1169 = .ok (.iconst 1, 1) := by decide +kernel
theorem d_Lw_law_1170 : decode M_Lw_law.2.1 1170 = .ok (.iadd, 1) := by decide +kernel
theorem d_Lw_law_1171 : decode M_Lw_law.2.1 1171 = .ok (.iaload, 1) := by decide +kernel
theorem d_Lw_law_1172 : decode M_Lw_law.2.1 1172 = .ok (.aload_n 0, 1) := by decide +kernel
theorem d_Lw_law_1173 : decode M_Lw_law.2.1 1173 = .ok (.iload_n 3, 1) := by decide +kernel
theorem d_Lw_law_1174 : decode M_Lw_law.2.1 1174 = .ok (.iconst 2, 1) := by decide +kernel
theorem d_Lw_law_1175 : decode M_Lw_law.2.1 1175 = .ok (.iadd, 1) := by decide +kernel
theorem d_Lw_law_1176 : decode M_Lw_law.2.1 1176 = .ok (.iaload, 1) := by decide +kernel
theorem d_Lw_law_1177 : decode M_Lw_law.2.1 1177 = .ok (.aload_n 0, 1) := by decide +kernel
theorem d_Lw_law_1178 : decode M_Lw_law.2.1 1178 = .ok (.iload_n 3, 1) := by decide +kernel
theorem d_Lw_law_1179 : decode M_Lw_law.2.1 1179 = .ok (.iconst 3, 1) := by decide +kernel
theorem d_Lw_law_1180 : decode M_Lw_law.2.1 1180 = .ok (.iadd, 1) := by decide +kernel
theorem d_Lw_law_1181 : decode M_Lw_law.2.1 1181 = .ok (.iaload, 1) := by decide +kernel
theorem d_Lw_law_1182 : decode M_Lw_law.2.1 1182 = .ok (.aload_n 0, 1) := by decide +kernel
theorem d_Lw_law_1183 : decode M_Lw_law.2.1 1183 = .ok (.iload_n 3, 1) := by decide +kernel
theorem d_Lw_law_1184 : decode M_Lw_law.2.1 1184 = .ok (.iconst 4, 1) := by decide +kernel
theorem d_Lw_law_1185 : decode M_Lw_law.2.1 1185 = .ok (.iadd, 1) := by decide +kernel
theorem d_Lw_law_1186 : decode M_Lw_law.2.1 1186 = .ok (.iaload, 1) := by decide +kernel
theorem d_Lw_law_1187 : decode M_Lw_law.2.1 1187 = .ok (.invokevirtual 134, 3) := by decide +kernel
theorem d_Lw_law_1190 : decode M_Lw_law.2.1 1190 = .ok (.aload_n 2, 1) := by decide +kernel
theorem d_Lw_law_1191 : decode M_Lw_law.2.1 1191 = .ok (.aload_n 0, 1) := by decide +kernel
theorem d_Lw_law_1192 : decode M_Lw_law.2.1 1192 = .ok (.iload_n 3, 1) := by decide +kernel
theorem d_Lw_law_1193 : decode M_Lw_law.2.1 1193 = .ok (.iconst 1, 1) := by decide +kernel
theorem d_Lw_law_1194 : decode M_Lw_law.2.1 1194 = .ok (.iadd, 1) := by decide +kernel
theorem d_Lw_law_1195 : decode M_Lw_law.2.1 1195 = .ok (.iaload, 1) := by decide +kernel
theorem d_Lw_law_1196 : decode M_Lw_law.2.1 1196 = .ok (.aload_n 0, 1) := by decide +kernel
theorem d_Lw_law_1197 : decode M_Lw_law.2.1 1197 = .ok (.iload_n 3, 1) := by decide +kernel
theorem d_Lw_law_1198 : decode M_Lw_law.2.1 1198 = .ok (.iconst 2, 1) := by decide +kernel
theorem d_Lw_law_1199 : decode M_Lw_law.2.1 1199 = .ok (.iadd, 1) := by decide +kernel
theorem d_Lw_law_1200 : decode M_Lw_law.2.1 1200 = .ok (.iaload, 1) := by decide +kernel
theorem d_Lw_law_1201 : decode M_Lw_law.2.1 1201 = .ok (.aload_n 0, 1) := by decide +kernel
theorem d_Lw_law_1202 : decode M_Lw_law.2.1 1202 = .ok (.iload_n 3, 1) := by decide +kernel
theorem d_Lw_law_1203 : decode M_Lw_law.2.1 1203 = .ok (.iconst 3, 1) := by decide +kernel
theorem d_Lw_law_1204 : decode M_Lw_law.2.1 1204 = .ok (.iadd, 1) := by decide +kernel
theorem d_Lw_law_1205 : decode M_Lw_law.2.1 1205 = .ok (.iaload, 1) := by decide +kernel
theorem d_Lw_law_1206 : decode M_Lw_law.2.1 1206 = .ok (.aload_n 0, 1) := by decide +kernel
theorem d_Lw_law_1207 : decode M_Lw_law.2.1 1207 = .ok (.iload_n 3, 1) := by decide +kernel
theorem d_Lw_law_1208 : decode M_Lw_law.2.1 1208 = .ok (.iconst 4, 1) := by decide +kernel
theorem d_Lw_law_1209 : decode M_Lw_law.2.1 1209 = .ok (.iadd, 1) := by decide +kernel
theorem d_Lw_law_1210 : decode M_Lw_law.2.1 1210 = .ok (.iaload, 1) := by decide +kernel
theorem d_Lw_law_1211 : decode M_Lw_law.2.1 1211 = .ok (.invokevirtual 137, 3) := by decide +kernel
theorem d_Lw_law_1214 : decode M_Lw_law.2.1 1214 = .ok (.if_icmp .eq 488, 3) := by decide +kernel
theorem d_Lw_law_1217 : decode M_Lw_law.2.1 1217 = .ok (.iconst 0, 1) := by decide +kernel
theorem d_Lw_law_1218 : decode M_Lw_law.2.1 1218 = .ok (.ireturn, 1) := by decide +kernel
theorem d_Lw_law_1219 : decode M_Lw_law.2.1 1219 = .ok (.aload_n 1, 1) := by decide +kernel
theorem d_Lw_law_1220 : decode M_Lw_law.2.1 1220 = .ok (.aload_n 0, 1) := by decide +kernel
theorem d_Lw_law_1221 : decode M_Lw_law.2.1 1221 = .ok (.iload_n 3, 1) := by decide +kernel
theorem d_Lw_law_1222 : decode M_Lw_law.2.1 1222 = .ok (.iconst 1, 1) := by decide +kernel
theorem d_Lw_law_1223 : decode M_Lw_law.2.1 1223 = .ok (.iadd, 1) := by decide +kernel
theorem d_Lw_law_1224 : decode M_Lw_law.2.1 1224 = .ok (.iaload, 1) := by decide +kernel
theorem d_Lw_law_1225 : decode M_Lw_law.2.1 1225 = .ok (.aload_n 0, 1) := by decide +kernel
theorem d_Lw_law_1226 : decode M_Lw_law.2.1 1226 = .ok (.iload_n 3, 1) := by decide +kernel
theorem d_Lw_law_1227 : decode M_Lw_law.2.1 1227 = .ok (.iconst 2, 1) := by decide +kernel
theorem d_Lw_law_1228 : decode M_Lw_law.2.1 1228 = .ok (.iadd, 1) := by decide +kernel
theorem d_Lw_law_1229 : decode M_Lw_law.2.1 1229 = .ok (.iaload, 1) := by decide +kernel
theorem d_Lw_law_1230 : decode M_Lw_law.2.1 1230 = .ok (.invokevirtual 138, 3) := by decide +kernel
theorem d_Lw_law_1233 : decode M_Lw_law.2.1 1233 = .ok (.aload_n 2, 1) := by decide +kernel
theorem d_Lw_law_1234 : decode M_Lw_law.2.1 1234 = .ok (.aload_n 0, 1) := by decide +kernel
theorem d_Lw_law_1235 : decode M_Lw_law.2.1 1235 = .ok (.iload_n 3, 1) := by decide +kernel
theorem d_Lw_law_1236 : decode M_Lw_law.2.1 1236 = .ok (.iconst 1, 1) := by decide +kernel
theorem d_Lw_law_1237 : decode M_Lw_law.2.1 1237 = .ok (.iadd, 1) := by decide +kernel
theorem d_Lw_law_1238 : decode M_Lw_law.2.1 1238 = .ok (.iaload, 1) := by decide +kernel
theorem d_Lw_law_1239 : decode M_Lw_law.2.1 1239 = .ok (.aload_n 0, 1) := by decide +kernel
theorem d_Lw_law_1240 : decode M_Lw_law.2.1 1240 = .ok (.iload_n 3, 1) := by decide +kernel
theorem d_Lw_law_1241 : decode M_Lw_law.2.1 1241 = .ok (.iconst 2, 1) := by decide +kernel
theorem d_Lw_law_1242 : decode M_Lw_law.2.1 1242 = .ok (.iadd, 1) := by decide +kernel
theorem d_Lw_law_1243 : decode M_Lw_law.2.1 1243 = .ok (.iaload, 1) := by decide +kernel
theorem d_Lw_law_1244 : decode M_Lw_law.2.1 1244 = .ok (.invokevirtual 141, 3) := by decide +kernel
theorem d_Lw_law_1247 : decode M_Lw_law.2.1 1247 = .ok (.if_icmp .eq 455, 3) := by decide +kernel
theorem d_Lw_law_1250 : decode M_Lw_law.2.1 1250 = .ok (.iconst 0, 1) := by decide +kernel
theorem d_Lw_law_1251 : decode M_Lw_law.2.1 1251 = .ok (.ireturn, 1) := by decide +kernel
theorem d_Lw_law_1252 : decode M_Lw_law.2.1 1252 = .ok (.aload_n 1, 1) := by decide +kernel
theorem d_Lw_law_1253 : decode M_Lw_law.2.1 1253 = .ok (.aload_n 0, 1) := by decide +kernel
theorem d_Lw_law_1254 : decode M_Lw_law.2.1 1254 = .ok (.iload_n 3, 1) := by decide +kernel
theorem d_Lw_law_1255 : decode M_Lw_law.2.1 1255 = .ok (.iconst 1, 1) := by decide +kernel
theorem d_Lw_law_1256 : decode M_Lw_law.2.1 1256 = .ok (.iadd, 1) := by decide +kernel
theorem d_Lw_law_1257 : decode M_Lw_law.2.1 1257 = .ok (.iaload, 1) := by decide +kernel
theorem d_Lw_law_1258 : decode M_Lw_law.2.1 1258 = .ok (.invokevirtual 142, 3) := by decide +kernel
theorem d_Lw_law_1261 : decode M_Lw_law.2.1 1261 = .ok (.aload_n 2, 1) := by decide +kernel
theorem d_Lw_law_1262 : decode M_Lw_law.2.1 1262 = .ok (.aload_n 0, 1) := by decide +kernel
theorem d_Lw_law_1263 : decode M_Lw_law.2.1 1263 = .ok (.iload_n 3, 1) := by decide +kernel
theorem d_Lw_law_1264 : decode M_Lw_law.2.1 1264 = .ok (.iconst 1, 1) := by decide +kernel
theorem d_Lw_law_1265 : decode M_Lw_law.2.1 1265 = .ok (.iadd, 1) := by decide +kernel
theorem d_Lw_law_1266 : decode M_Lw_law.2.1 1266 = .ok (.iaload, 1) := by decide +kernel
theorem d_Lw_law_1267 : decode M_Lw_law.2.1 1267 = .ok (.invokevirtual 145, 3) := by decide +kernel
theorem d_Lw_law_1270 : decode M_Lw_law.2.1 1270 = .ok (.if_icmp .eq 432, 3) := by decide +kernel
theorem d_Lw_law_1273 : decode M_Lw_law.2.1 1273 = .ok (.iconst 0, 1) := by decide +kernel
theorem d_Lw_law_1274 : decode M_Lw_law.2.1 1274 = .ok (.ireturn, 1) := by decide +kernel
theorem d_Lw_law_1275 : decode M_Lw_law.2.1 1275 = .ok (.aload_n 1, 1) := by decide +kernel
theorem d_Lw_law_1276 : decode M_Lw_law.2.1 1276 = .ok (.invokevirtual 146, 3) := by decide +kernel
theorem d_Lw_law_1279 : decode M_Lw_law.2.1 1279 = .ok (.aload_n 2, 1) := by decide +kernel
theorem d_Lw_law_1280 : decode M_Lw_law.2.1 1280 = .ok (.invokevirtual 149, 3) := by decide +kernel
theorem d_Lw_law_1283 : decode M_Lw_law.2.1 1283 = .ok (.if_icmp .eq 419, 3) := by decide +kernel
theorem d_Lw_law_1286 : decode M_Lw_law.2.1 1286 = .ok (.iconst 0, 1) := by decide +kernel
theorem d_Lw_law_1287 : decode M_Lw_law.2.1 1287 = .ok (.ireturn, 1) := by decide +kernel
theorem d_Lw_law_1288 : decode M_Lw_law.2.1 1288 = .ok (.aload_n 1, 1) := by decide +kernel
theorem d_Lw_law_1289 : decode M_Lw_law.2.1 1289 = .ok (.aload_n 0, 1) := by decide +kernel
theorem d_Lw_law_1290 : decode M_Lw_law.2.1 1290 = .ok (.iload_n 3, 1) := by decide +kernel
theorem d_Lw_law_1291 : decode M_Lw_law.2.1 1291 = .ok (.iconst 1, 1) := by decide +kernel
theorem d_Lw_law_1292 : decode M_Lw_law.2.1 1292 = .ok (.iadd, 1) := by decide +kernel
theorem d_Lw_law_1293 : decode M_Lw_law.2.1 1293 = .ok (.iaload, 1) := by decide +kernel
theorem d_Lw_law_1294 : decode M_Lw_law.2.1 1294 = .ok (.aload_n 0, 1) := by decide +kernel
theorem d_Lw_law_1295 : decode M_Lw_law.2.1 1295 = .ok (.iload_n 3, 1) := by decide +kernel
theorem d_Lw_law_1296 : decode M_Lw_law.2.1 1296 = .ok (.iconst 2, 1) := by decide +kernel
theorem d_Lw_law_1297 : decode M_Lw_law.2.1 1297 = .ok (.iadd, 1) := by decide +kernel
theorem d_Lw_law_1298 : decode M_Lw_law.2.1 1298 = .ok (.iaload, 1) := by decide +kernel
theorem d_Lw_law_1299 : decode M_Lw_law.2.1 1299 = .ok (.invokevirtual 150, 3) := by decide +kernel
theorem d_Lw_law_1302 : decode M_Lw_law.2.1 1302 = .ok (.aload_n 2, 1) := by decide +kernel
theorem d_Lw_law_1303 : decode M_Lw_law.2.1 1303 = .ok (.aload_n 0, 1) := by decide +kernel
theorem d_Lw_law_1304 : decode M_Lw_law.2.1 1304 = .ok (.iload_n 3, 1) := by decide +kernel
theorem d_Lw_law_1305 : decode M_Lw_law.2.1 1305 = .ok (.iconst 1, 1) := by decide +kernel
theorem d_Lw_law_1306 : decode M_Lw_law.2.1 1306 = .ok (.iadd, 1) := by decide +kernel
theorem d_Lw_law_1307 : decode M_Lw_law.2.1 1307 = .ok (.iaload, 1) := by decide +kernel
theorem d_Lw_law_1308 : decode M_Lw_law.2.1 1308 = .ok (.aload_n 0, 1) := by decide +kernel
theorem d_Lw_law_1309 : decode M_Lw_law.2.1 1309 = .ok (.iload_n 3, 1) := by decide +kernel
theorem d_Lw_law_1310 : decode M_Lw_law.2.1 1310 = .ok (.iconst 2, 1) := by decide +kernel
theorem d_Lw_law_1311 : decode M_Lw_law.2.1 1311 = .ok (.iadd, 1) := by decide +kernel
theorem d_Lw_law_1312 : decode M_Lw_law.2.1 1312 = .ok (.iaload, 1) := by decide +kernel
theorem d_Lw_law_1313 : decode M_Lw_law.2.1 1313 = .ok (.invokevirtual 153, 3) := by decide +kernel
theorem d_Lw_law_1316 : decode M_Lw_law.2.1 1316 = .ok (.if_icmp .eq 386, 3) := by decide +kernel
theorem d_Lw_law_1319 : decode M_Lw_law.2.1 1319 = .ok (.iconst 0, 1) := by decide +kernel
theorem d_Lw_law_1320 : decode M_Lw_law.2.1 1320 = .ok (.ireturn, 1) := by decide +kernel
theorem d_Lw_law_1321 : decode M_Lw_law.2.1 1321 = .ok (.aload_n 1, 1) := by decide +kernel
theorem d_Lw_law_1322 : decode M_Lw_law.2.1 1322 = .ok (.aload_n 0, 1) := by decide +kernel
theorem d_Lw_law_1323 : decode M_Lw_law.2.1 1323 = .ok (.iload_n 3, 1) := by decide +kernel
theorem d_Lw_law_1324 : decode M_Lw_law.2.1 1324 = .ok (.iconst 1, 1) := by decide +kernel
theorem d_Lw_law_1325 : decode M_Lw_law.2.1 1325 = .ok (.iadd, 1) := by decide +kernel
theorem d_Lw_law_1326 : decode M_Lw_law.2.1 1326 = .ok (.iaload, 1) := by decide +kernel
theorem d_Lw_law_1327 : decode M_Lw_law.2.1 1327 = .ok (.aload_n 0, 1) := by decide +kernel
theorem d_Lw_law_1328 : decode M_Lw_law.2.1 1328 = .ok (.iload_n 3, 1) := by decide +kernel
theorem d_Lw_law_1329 : decode M_Lw_law.2.1 1329 = .ok (.iconst 2, 1) := by decide +kernel
theorem d_Lw_law_1330 : decode M_Lw_law.2.1 1330 = .ok (.iadd, 1) := by decide +kernel
theorem d_Lw_law_1331 : decode M_Lw_law.2.1 1331 = .ok (.iaload, 1) := by decide +kernel
theorem d_Lw_law_1332 : decode M_Lw_law.2.1 1332 = .ok (.aload_n 0, 1) := by decide +kernel
theorem d_Lw_law_1333 : decode M_Lw_law.2.1 1333 = .ok (.iload_n 3, 1) := by decide +kernel
theorem d_Lw_law_1334 : decode M_Lw_law.2.1 1334 = .ok (.iconst 3, 1) := by decide +kernel
theorem d_Lw_law_1335 : decode M_Lw_law.2.1 1335 = .ok (.iadd, 1) := by decide +kernel
theorem d_Lw_law_1336 : decode M_Lw_law.2.1 1336 = .ok (.iaload, 1) := by decide +kernel
theorem d_Lw_law_1337 : decode M_Lw_law.2.1 1337 = .ok (.invokevirtual 154, 3) := by decide +kernel
theorem d_Lw_law_1340 : decode M_Lw_law.2.1 1340 = .ok (.aload_n 2, 1) := by decide +kernel
theorem d_Lw_law_1341 : decode M_Lw_law.2.1 1341 = .ok (.aload_n 0, 1) := by decide +kernel
theorem d_Lw_law_1342 : decode M_Lw_law.2.1 1342 = .ok (.iload_n 3, 1) := by decide +kernel
theorem d_Lw_law_1343 : decode M_Lw_law.2.1 1343 = .ok (.iconst 1, 1) := by decide +kernel
theorem d_Lw_law_1344 : decode M_Lw_law.2.1 1344 = .ok (.iadd, 1) := by decide +kernel
theorem d_Lw_law_1345 : decode M_Lw_law.2.1 1345 = .ok (.iaload, 1) := by decide +kernel
theorem d_Lw_law_1346 : decode M_Lw_law.2.1 1346 = .ok (.aload_n 0, 1) := by decide +kernel
theorem d_Lw_law_1347 : decode M_Lw_law.2.1 1347 = .ok (.iload_n 3, 1) := by decide +kernel
theorem d_Lw_law_1348 : decode M_Lw_law.2.1 1348 = .ok (.iconst 2, 1) := by decide +kernel
theorem d_Lw_law_1349 : decode M_Lw_law.2.1 1349 = .ok (.iadd, 1) := by decide +kernel
theorem d_Lw_law_1350 : decode M_Lw_law.2.1 1350 = .ok (.iaload, 1) := by decide +kernel
theorem d_Lw_law_1351 : decode M_Lw_law.2.1 1351 = .ok (.aload_n 0, 1) := by decide +kernel
theorem d_Lw_law_1352 : decode M_Lw_law.2.1 1352 = .ok (.iload_n 3, 1) := by decide +kernel
theorem d_Lw_law_1353 : decode M_Lw_law.2.1 1353 = .ok (.iconst 3, 1) := by decide +kernel
theorem d_Lw_law_1354 : decode M_Lw_law.2.1 1354 = .ok (.iadd, 1) := by decide +kernel
theorem d_Lw_law_1355 : decode M_Lw_law.2.1 1355 = .ok (.iaload, 1) := by decide +kernel
theorem d_Lw_law_1356 : decode M_Lw_law.2.1 1356 = .ok (.invokevirtual 157, 3) := by decide +kernel
theorem d_Lw_law_1359 : decode M_Lw_law.2.1 1359 = .ok (.if_icmp .eq 343, 3) := by decide +kernel
theorem d_Lw_law_1362 : decode M_Lw_law.2.1 1362 = .ok (.iconst 0, 1) := by decide +kernel
theorem d_Lw_law_1363 : decode M_Lw_law.2.1 1363 = .ok (.ireturn, 1) := by decide +kernel
theorem d_Lw_law_1364 : decode M_Lw_law.2.1 1364 = .ok (.aload_n 1, 1) := by decide +kernel
theorem d_Lw_law_1365 : decode M_Lw_law.2.1 1365 = .ok (.aload_n 0, 1) := by decide +kernel
theorem d_Lw_law_1366 : decode M_Lw_law.2.1 1366 = .ok (.iload_n 3, 1) := by decide +kernel
theorem d_Lw_law_1367 : decode M_Lw_law.2.1 1367 = .ok (.iconst 1, 1) := by decide +kernel
theorem d_Lw_law_1368 : decode M_Lw_law.2.1 1368 = .ok (.iadd, 1) := by decide +kernel
theorem d_Lw_law_1369 : decode M_Lw_law.2.1 1369 = .ok (.iaload, 1) := by decide +kernel
theorem d_Lw_law_1370 : decode M_Lw_law.2.1 1370 = .ok (.aload_n 0, 1) := by decide +kernel
theorem d_Lw_law_1371 : decode M_Lw_law.2.1 1371 = .ok (.iload_n 3, 1) := by decide +kernel
theorem d_Lw_law_1372 : decode M_Lw_law.2.1 1372 = .ok (.iconst 2, 1) := by decide +kernel
theorem d_Lw_law_1373 : decode M_Lw_law.2.1 1373 = .ok (.iadd, 1) := by decide +kernel
theorem d_Lw_law_1374 : decode M_Lw_law.2.1 1374 = .ok (.iaload, 1) := by decide +kernel
theorem d_Lw_law_1375 : decode M_Lw_law.2.1 1375 = .ok (.invokevirtual 158, 3) := by decide +kernel
theorem d_Lw_law_1378 : decode M_Lw_law.2.1 1378 = .ok (.aload_n 2, 1) := by decide +kernel
theorem d_Lw_law_1379 : decode M_Lw_law.2.1 1379 = .ok (.aload_n 0, 1) := by decide +kernel
theorem d_Lw_law_1380 : decode M_Lw_law.2.1 1380 = .ok (.iload_n 3, 1) := by decide +kernel
theorem d_Lw_law_1381 : decode M_Lw_law.2.1 1381 = .ok (.iconst 1, 1) := by decide +kernel
theorem d_Lw_law_1382 : decode M_Lw_law.2.1 1382 = .ok (.iadd, 1) := by decide +kernel
theorem d_Lw_law_1383 : decode M_Lw_law.2.1 1383 = .ok (.iaload, 1) := by decide +kernel
theorem d_Lw_law_1384 : decode M_Lw_law.2.1 1384 = .ok (.aload_n 0, 1) := by decide +kernel
theorem d_Lw_law_1385 : decode M_Lw_law.2.1 1385 = .ok (.iload_n 3, 1) := by decide +kernel
theorem d_Lw_law_1386 : decode M_Lw_law.2.1 1386 = .ok (.iconst 2, 1) := by decide +kernel
theorem d_Lw_law_1387 : decode M_Lw_law.2.1 1387 = .ok (.iadd, 1) := by decide +kernel
theorem d_Lw_law_1388 : decode M_Lw_law.2.1 1388 = .ok (.iaload, 1) := by decide +kernel
theorem d_Lw_law_1389 : decode M_Lw_law.2.1 1389 = .ok (.invokevirtual 161, 3) := by decide +kernel
theorem d_Lw_law_1392 : decode M_Lw_law.2.1 1392 = .ok (.if_icmp .eq 310, 3) := by decide +kernel
theorem d_Lw_law_1395 : decode M_Lw_law.2.1 1395 = .ok (.iconst 0, 1) := by decide +kernel
theorem d_Lw_law_1396 : decode M_Lw_law.2.1 1396 = .ok (.ireturn, 1) := by decide +kernel
theorem d_Lw_law_1397 : decode M_Lw_law.2.1 1397 = .ok (.aload_n 1, 1) := by decide +kernel
theorem d_Lw_law_1398 : decode M_Lw_law.2.1 1398 = .ok (.aload_n 0, 1) := by decide +kernel
theorem d_Lw_law_1399 : decode M_Lw_law.2.1 1399 = .ok (.iload_n 3, 1) := by decide +kernel
theorem d_Lw_law_1400 : decode M_Lw_law.2.1 1400 = .ok (.iconst 1, 1) := by decide +kernel
theorem d_Lw_law_1401 : decode M_Lw_law.2.1 1401 = .ok (.iadd, 1) := by decide +kernel
theorem d_Lw_law_1402 : decode M_Lw_law.2.1 1402 = .ok (.iaload, 1) := by decide +kernel
theorem d_Lw_law_1403 : decode M_Lw_law.2.1 1403 = .ok (.aload_n 0, 1) := by decide +kernel
theorem d_Lw_law_1404 : decode M_Lw_law.2.1 1404 = .ok (.iload_n 3, 1) := by decide +kernel
theorem d_Lw_law_1405 : decode M_Lw_law.2.1 1405 = .ok (.iconst 2, 1) := by decide +kernel
theorem d_Lw_law_1406 : decode M_Lw_law.2.1 1406 = .ok (.iadd, 1) := by decide +kernel
theorem d_Lw_law_1407 : decode M_Lw_law.2.1 1407 = .ok (.iaload, 1) := by decide +kernel
theorem d_Lw_law_1408 : decode M_Lw_law.2.1 1408 = .ok (.aload_n 0, 1) := by decide +kernel
theorem d_Lw_law_1409 : decode M_Lw_law.2.1 1409 = .ok (.iload_n 3, 1) := by decide +kernel
theorem d_Lw_law_1410 : decode M_Lw_law.2.1 1410 = .ok (.iconst 3, 1) := by decide +kernel
theorem d_Lw_law_1411 : decode M_Lw_law.2.1 1411 = .ok (.iadd, 1) := by decide +kernel
theorem d_Lw_law_1412 : decode M_Lw_law.2.1 1412 = .ok (.iaload, 1) := by decide +kernel
theorem d_Lw_law_1413 : decode M_Lw_law.2.1 1413 = .ok (.invokevirtual 162, 3) := by decide +kernel
theorem d_Lw_law_1416 : decode M_Lw_law.2.1 1416 = .ok (.aload_n 2, 1) := by decide +kernel
theorem d_Lw_law_1417 : decode M_Lw_law.2.1 1417 = .ok (.aload_n 0, 1) := by decide +kernel
theorem d_Lw_law_1418 : decode M_Lw_law.2.1 1418 = .ok (.iload_n 3, 1) := by decide +kernel
theorem d_Lw_law_1419 : decode M_Lw_law.2.1 1419 = .ok (.iconst 1, 1) := by decide +kernel
theorem d_Lw_law_1420 : decode M_Lw_law.2.1 1420 = .ok (.iadd, 1) := by decide +kernel
theorem d_Lw_law_1421 : decode M_Lw_law.2.1 1421 = .ok (.iaload, 1) := by decide +kernel
theorem d_Lw_law_1422 : decode M_Lw_law.2.1 1422 = .ok (.aload_n 0, 1) := by decide +kernel
theorem d_Lw_law_1423 : decode M_Lw_law.2.1 1423 = .ok (.iload_n 3, 1) := by decide +kernel
theorem d_Lw_law_1424 : decode M_Lw_law.2.1 1424 = .ok (.iconst 2, 1) := by decide +kernel
theorem d_Lw_law_1425 : decode M_Lw_law.2.1 1425 = .ok (.iadd, 1) := by decide +kernel
theorem d_Lw_law_1426 : decode M_Lw_law.2.1 1426 = .ok (.iaload, 1) := by decide +kernel
theorem d_Lw_law_1427 : decode M_Lw_law.2.1 1427 = .ok (.aload_n 0, 1) := by decide +kernel
theorem d_Lw_law_1428 : decode M_Lw_law.2.1 1428 = .ok (.iload_n 3, 1) := by decide +kernel
theorem d_Lw_law_1429 : decode M_Lw_law.2.1 1429 = .ok (.iconst 3, 1) := by decide +kernel
theorem d_Lw_law_1430 : decode M_Lw_law.2.1 1430 = .ok (.iadd, 1) := by decide +kernel
theorem d_Lw_law_1431 : decode M_Lw_law.2.1 1431 = .ok (.iaload, 1) := by decide +kernel
theorem d_Lw_law_1432 : decode M_Lw_law.2.1 1432 = .ok (.invokevirtual 165, 3) := by decide +kernel
theorem d_Lw_law_1435 : decode M_Lw_law.2.1 1435 = .ok (.lcmp, 1) := by decide +kernel
theorem d_Lw_law_1436 : decode M_Lw_law.2.1 1436 = .ok (.ifCond .eq 266, 3) := by decide +kernel
theorem d_Lw_law_1439 : decode M_Lw_law.2.1 1439 = .ok (.iconst 0, 1) := by decide +kernel
theorem d_Lw_law_1440 : decode M_Lw_law.2.1 1440 = .ok (.ireturn, 1) := by decide +kernel
theorem d_Lw_law_1441 : decode M_Lw_law.2.1 1441 = .ok (.aload_n 1, 1) := by decide +kernel
theorem d_Lw_law_1442 : decode M_Lw_law.2.1 1442 = .ok (.invokevirtual 166, 3) := by decide +kernel
theorem d_Lw_law_1445 : decode M_Lw_law.2.1 1445 = .ok (.aload_n 2, 1) := by decide +kernel
theorem d_Lw_law_1446 : decode M_Lw_law.2.1 1446 = .ok (.invokevirtual 169, 3) := by decide +kernel
theorem d_Lw_law_1449 : decode M_Lw_law.2.1 1449 = .ok (.if_icmp .eq 253, 3) := by decide +kernel
theorem d_Lw_law_1452 : decode M_Lw_law.2.1 1452 = .ok (.iconst 0, 1) := by decide +kernel
theorem d_Lw_law_1453 : decode M_Lw_law.2.1 1453 = .ok (.ireturn, 1) := by decide +kernel
theorem d_Lw_law_1454 : decode M_Lw_law.2.1 1454 = .ok (.aload_n 1, 1) := by decide +kernel
theorem d_Lw_law_1455 : decode M_Lw_law.2.1 1455 = .ok (.invokevirtual 170, 3) := by decide +kernel
theorem d_Lw_law_1458 : decode M_Lw_law.2.1 1458 = .ok (.aload_n 2, 1) := by decide +kernel
theorem d_Lw_law_1459 : decode M_Lw_law.2.1 1459 = .ok (.invokevirtual 173, 3) := by decide +kernel
theorem d_Lw_law_1462 : decode M_Lw_law.2.1 1462 = .ok (.if_icmp .eq 240, 3) := by decide +kernel
theorem d_Lw_law_1465 : decode M_Lw_law.2.1 1465 = .ok (.iconst 0, 1) := by decide +kernel
theorem d_Lw_law_1466 : decode M_Lw_law.2.1 1466 = .ok (.ireturn, 1) := by decide +kernel
theorem d_Lw_law_1467 : decode M_Lw_law.2.1 1467 = .ok (.aload_n 1, 1) := by decide +kernel
theorem d_Lw_law_1468 : decode M_Lw_law.2.1 1468 = .ok (.aload_n 0, 1) := by decide +kernel
theorem d_Lw_law_1469 : decode M_Lw_law.2.1 1469 = .ok (.iload_n 3, 1) := by decide +kernel
theorem d_Lw_law_1470 : decode M_Lw_law.2.1 1470 = .ok (.iconst 1, 1) := by decide +kernel
theorem d_Lw_law_1471 : decode M_Lw_law.2.1 1471 = .ok (.iadd, 1) := by decide +kernel
theorem d_Lw_law_1472 : decode M_Lw_law.2.1 1472 = .ok (.iaload, 1) := by decide +kernel
theorem d_Lw_law_1473 : decode M_Lw_law.2.1 1473 = .ok (.aload_n 0, 1) := by decide +kernel
theorem d_Lw_law_1474 : decode M_Lw_law.2.1 1474 = .ok (.iload_n 3, 1) := by decide +kernel
theorem d_Lw_law_1475 : decode M_Lw_law.2.1 1475 = .ok (.iconst 2, 1) := by decide +kernel
theorem d_Lw_law_1476 : decode M_Lw_law.2.1 1476 = .ok (.iadd, 1) := by decide +kernel
theorem d_Lw_law_1477 : decode M_Lw_law.2.1 1477 = .ok (.iaload, 1) := by decide +kernel
theorem d_Lw_law_1478 : decode M_Lw_law.2.1 1478 = .ok (.aload_n 0, 1) := by decide +kernel
theorem d_Lw_law_1479 : decode M_Lw_law.2.1 1479 = .ok (.iload_n 3, 1) := by decide +kernel
theorem d_Lw_law_1480 : decode M_Lw_law.2.1 1480 = .ok (.iconst 3, 1) := by decide +kernel
theorem d_Lw_law_1481 : decode M_Lw_law.2.1 1481 = .ok (.iadd, 1) := by decide +kernel
theorem d_Lw_law_1482 : decode M_Lw_law.2.1 1482 = .ok (.iaload, 1) := by decide +kernel
theorem d_Lw_law_1483 : decode M_Lw_law.2.1 1483 = .ok (.invokevirtual 174, 3) := by decide +kernel
theorem d_Lw_law_1486 : decode M_Lw_law.2.1 1486 = .ok (.aload_n 2, 1) := by decide +kernel
theorem d_Lw_law_1487 : decode M_Lw_law.2.1 1487 = .ok (.aload_n 0, 1) := by decide +kernel
theorem d_Lw_law_1488 : decode M_Lw_law.2.1 1488 = .ok (.iload_n 3, 1) := by decide +kernel
theorem d_Lw_law_1489 : decode M_Lw_law.2.1 1489 = .ok (.iconst 1, 1) := by decide +kernel
theorem d_Lw_law_1490 : decode M_Lw_law.2.1 1490 = .ok (.iadd, 1) := by decide +kernel
theorem d_Lw_law_1491 : decode M_Lw_law.2.1 1491 = .ok (.iaload, 1) := by decide +kernel
theorem d_Lw_law_1492 : decode M_Lw_law.2.1 1492 = .ok (.aload_n 0, 1) := by decide +kernel
theorem d_Lw_law_1493 : decode M_Lw_law.2.1 1493 = .ok (.iload_n 3, 1) := by decide +kernel
theorem d_Lw_law_1494 : decode M_Lw_law.2.1 1494 = .ok (.iconst 2, 1) := by decide +kernel
theorem d_Lw_law_1495 : decode M_Lw_law.2.1 1495 = .ok (.iadd, 1) := by decide +kernel
theorem d_Lw_law_1496 : decode M_Lw_law.2.1 1496 = .ok (.iaload, 1) := by decide +kernel
theorem d_Lw_law_1497 : decode M_Lw_law.2.1 1497 = .ok (.aload_n 0, 1) := by decide +kernel
theorem d_Lw_law_1498 : decode M_Lw_law.2.1 1498 = .ok (.iload_n 3, 1) := by decide +kernel
theorem d_Lw_law_1499 : decode M_Lw_law.2.1 1499 = .ok (.iconst 3, 1) := by decide +kernel
theorem d_Lw_law_1500 : decode M_Lw_law.2.1 1500 = .ok (.iadd, 1) := by decide +kernel
theorem d_Lw_law_1501 : decode M_Lw_law.2.1 1501 = .ok (.iaload, 1) := by decide +kernel
theorem d_Lw_law_1502 : decode M_Lw_law.2.1 1502 = .ok (.invokevirtual 177, 3) := by decide +kernel
theorem d_Lw_law_1505 : decode M_Lw_law.2.1 1505 = .ok (.if_icmp .eq 197, 3) := by decide +kernel
theorem d_Lw_law_1508 : decode M_Lw_law.2.1 1508 = .ok (.iconst 0, 1) := by decide +kernel
theorem d_Lw_law_1509 : decode M_Lw_law.2.1 1509 = .ok (.ireturn, 1) := by decide +kernel
theorem d_Lw_law_1510 : decode M_Lw_law.2.1 1510 = .ok (.aload_n 1, 1) := by decide +kernel
theorem d_Lw_law_1511 : decode M_Lw_law.2.1 1511 = .ok (.aload_n 0, 1) := by decide +kernel
theorem d_Lw_law_1512 : decode M_Lw_law.2.1 1512 = .ok (.iload_n 3, 1) := by decide +kernel
theorem d_Lw_law_1513 : decode M_Lw_law.2.1 1513 = .ok (.iconst 1, 1) := by decide +kernel
theorem d_Lw_law_1514 : decode M_Lw_law.2.1 1514 = .ok (.iadd, 1) := by decide +kernel
theorem d_Lw_law_1515 : decode M_Lw_law.2.1 1515 = .ok (.iaload, 1) := by decide +kernel
theorem d_Lw_law_1516 : decode M_Lw_law.2.1 1516 = .ok (.aload_n 0, 1) := by decide +kernel
theorem d_Lw_law_1517 : decode M_Lw_law.2.1 1517 = .ok (.iload_n 3, 1) := by decide +kernel
theorem d_Lw_law_1518 : decode M_Lw_law.2.1 1518 = .ok (.iconst 2, 1) := by decide +kernel
theorem d_Lw_law_1519 : decode M_Lw_law.2.1 1519 = .ok (.iadd, 1) := by decide +kernel
theorem d_Lw_law_1520 : decode M_Lw_law.2.1 1520 = .ok (.iaload, 1) := by decide +kernel
theorem d_Lw_law_1521 : decode M_Lw_law.2.1 1521 = .ok (.aload_n 0, 1) := by decide +kernel
theorem d_Lw_law_1522 : decode M_Lw_law.2.1 1522 = .ok (.iload_n 3, 1) := by decide +kernel
theorem d_Lw_law_1523 : decode M_Lw_law.2.1 1523 = .ok (.iconst 3, 1) := by decide +kernel
theorem d_Lw_law_1524 : decode M_Lw_law.2.1 1524 = .ok (.iadd, 1) := by decide +kernel
theorem d_Lw_law_1525 : decode M_Lw_law.2.1 1525 = .ok (.iaload, 1) := by decide +kernel
theorem d_Lw_law_1526 : decode M_Lw_law.2.1 1526 = .ok (.invokevirtual 178, 3) := by decide +kernel
theorem d_Lw_law_1529 : decode M_Lw_law.2.1 1529 = .ok (.aload_n 2, 1) := by decide +kernel
theorem d_Lw_law_1530 : decode M_Lw_law.2.1 1530 = .ok (.aload_n 0, 1) := by decide +kernel
theorem d_Lw_law_1531 : decode M_Lw_law.2.1 1531 = .ok (.iload_n 3, 1) := by decide +kernel
theorem d_Lw_law_1532 : decode M_Lw_law.2.1 1532 = .ok (.iconst 1, 1) := by decide +kernel
theorem d_Lw_law_1533 : decode M_Lw_law.2.1 1533 = .ok (.iadd, 1) := by decide +kernel
theorem d_Lw_law_1534 : decode M_Lw_law.2.1 1534 = .ok (.iaload, 1) := by decide +kernel
theorem d_Lw_law_1535 : decode M_Lw_law.2.1 1535 = .ok (.aload_n 0, 1) := by decide +kernel
theorem d_Lw_law_1536 : decode M_Lw_law.2.1 1536 = .ok (.iload_n 3, 1) := by decide +kernel
theorem d_Lw_law_1537 : decode M_Lw_law.2.1 1537 = .ok (.iconst 2, 1) := by decide +kernel
theorem d_Lw_law_1538 : decode M_Lw_law.2.1 1538 = .ok (.iadd, 1) := by decide +kernel
theorem d_Lw_law_1539 : decode M_Lw_law.2.1 1539 = .ok (.iaload, 1) := by decide +kernel
theorem d_Lw_law_1540 : decode M_Lw_law.2.1 1540 = .ok (.aload_n 0, 1) := by decide +kernel
theorem d_Lw_law_1541 : decode M_Lw_law.2.1 1541 = .ok (.iload_n 3, 1) := by decide +kernel
theorem d_Lw_law_1542 : decode M_Lw_law.2.1 1542 = .ok (.iconst 3, 1) := by decide +kernel
theorem d_Lw_law_1543 : decode M_Lw_law.2.1 1543 = .ok (.iadd, 1) := by decide +kernel
theorem d_Lw_law_1544 : decode M_Lw_law.2.1 1544 = .ok (.iaload, 1) := by decide +kernel
theorem d_Lw_law_1545 : decode M_Lw_law.2.1 1545 = .ok (.invokevirtual 181, 3) := by decide +kernel
theorem d_Lw_law_1548 : decode M_Lw_law.2.1 1548 = .ok (.if_icmp .eq 154, 3) := by decide +kernel
theorem d_Lw_law_1551 : decode M_Lw_law.2.1 1551 = .ok (.iconst 0, 1) := by decide +kernel
theorem d_Lw_law_1552 : decode M_Lw_law.2.1 1552 = .ok (.ireturn, 1) := by decide +kernel
theorem d_Lw_law_1553 : decode M_Lw_law.2.1 1553 = .ok (.aload_n 1, 1) := by decide +kernel
theorem d_Lw_law_1554 : decode M_Lw_law.2.1 1554 = .ok (.aload_n 0, 1) := by decide +kernel
theorem d_Lw_law_1555 : decode M_Lw_law.2.1 1555 = .ok (.iload_n 3, 1) := by decide +kernel
theorem d_Lw_law_1556 : decode M_Lw_law.2.1 1556 = .ok (.iconst 1, 1) := by decide +kernel
theorem d_Lw_law_1557 : decode M_Lw_law.2.1 1557 = .ok (.iadd, 1) := by decide +kernel
theorem d_Lw_law_1558 : decode M_Lw_law.2.1 1558 = .ok (.iaload, 1) := by decide +kernel
theorem d_Lw_law_1559 : decode M_Lw_law.2.1 1559 = .ok (.aload_n 0, 1) := by decide +kernel
theorem d_Lw_law_1560 : decode M_Lw_law.2.1 1560 = .ok (.iload_n 3, 1) := by decide +kernel
theorem d_Lw_law_1561 : decode M_Lw_law.2.1 1561 = .ok (.iconst 2, 1) := by decide +kernel
theorem d_Lw_law_1562 : decode M_Lw_law.2.1 1562 = .ok (.iadd, 1) := by decide +kernel
theorem d_Lw_law_1563 : decode M_Lw_law.2.1 1563 = .ok (.iaload, 1) := by decide +kernel
theorem d_Lw_law_1564 : decode M_Lw_law.2.1 1564 = .ok (.aload_n 0, 1) := by decide +kernel
theorem d_Lw_law_1565 : decode M_Lw_law.2.1 1565 = .ok (.iload_n 3, 1) := by decide +kernel
theorem d_Lw_law_1566 : decode M_Lw_law.2.1 1566 = .ok (.iconst 3, 1) := by decide +kernel
theorem d_Lw_law_1567 : decode M_Lw_law.2.1 1567 = .ok (.iadd, 1) := by decide +kernel
theorem d_Lw_law_1568 : decode M_Lw_law.2.1 1568 = .ok (.iaload, 1) := by decide +kernel
theorem d_Lw_law_1569 : decode M_Lw_law.2.1 1569 = .ok (.aload_n 0, 1) := by decide +kernel
theorem d_Lw_law_1570 : decode M_Lw_law.2.1 1570 = .ok (.iload_n 3, 1) := by decide +kernel
theorem d_Lw_law_1571 : decode M_Lw_law.2.1 1571 = .ok (.iconst 4, 1) := by decide +kernel
theorem d_Lw_law_1572 : decode M_Lw_law.2.1 1572 = .ok (.iadd, 1) := by decide +kernel
theorem d_Lw_law_1573 : decode M_Lw_law.2.1 1573 = .ok (.iaload, 1) := by decide +kernel
theorem d_Lw_law_1574 : decode M_Lw_law.2.1 1574 = .ok (.aload_n 0, 1) := by decide +kernel
theorem d_Lw_law_1575 : decode M_Lw_law.2.1 1575 = .ok (.iload_n 3, 1) := by decide +kernel
theorem d_Lw_law_1576 : decode M_Lw_law.2.1 1576 = .ok (.iconst 5, 1) := by decide +kernel
theorem d_Lw_law_1577 : decode M_Lw_law.2.1 1577 = .ok (.iadd, 1) := by decide +kernel
theorem d_Lw_law_1578 : decode M_Lw_law.2.1 1578 = .ok (.iaload, 1) := by decide +kernel
theorem d_Lw_law_1579 : decode M_Lw_law.2.1 1579 = .ok (.invokevirtual 182, 3) := by decide +kernel
theorem d_Lw_law_1582 : decode M_Lw_law.2.1 1582 = .ok (.aload_n 2, 1) := by decide +kernel
theorem d_Lw_law_1583 : decode M_Lw_law.2.1 1583 = .ok (.aload_n 0, 1) := by decide +kernel
theorem d_Lw_law_1584 : decode M_Lw_law.2.1 1584 = .ok (.iload_n 3, 1) := by decide +kernel
theorem d_Lw_law_1585 : decode M_Lw_law.2.1 1585 = .ok (.iconst 1, 1) := by decide +kernel
theorem d_Lw_law_1586 : decode M_Lw_law.2.1 1586 = .ok (.iadd, 1) := by decide +kernel
theorem d_Lw_law_1587 : decode M_Lw_law.2.1 1587 = .ok (.iaload, 1) := by decide +kernel
theorem d_Lw_law_1588 : decode M_Lw_law.2.1 1588 = .ok (.aload_n 0, 1) := by decide +kernel
theorem d_Lw_law_1589 : decode M_Lw_law.2.1 1589 = .ok (.iload_n 3, 1) := by decide +kernel
theorem d_Lw_law_1590 : decode M_Lw_law.2.1 1590 = .ok (.iconst 2, 1) := by decide +kernel
theorem d_Lw_law_1591 : decode M_Lw_law.2.1 1591 = .ok (.iadd, 1) := by decide +kernel
theorem d_Lw_law_1592 : decode M_Lw_law.2.1 1592 = .ok (.iaload, 1) := by decide +kernel
theorem d_Lw_law_1593 : decode M_Lw_law.2.1 1593 = .ok (.aload_n 0, 1) := by decide +kernel
theorem d_Lw_law_1594 : decode M_Lw_law.2.1 1594 = .ok (.iload_n 3, 1) := by decide +kernel
theorem d_Lw_law_1595 : decode M_Lw_law.2.1 1595 = .ok (.iconst 3, 1) := by decide +kernel
theorem d_Lw_law_1596 : decode M_Lw_law.2.1 1596 = .ok (.iadd, 1) := by decide +kernel
theorem d_Lw_law_1597 : decode M_Lw_law.2.1 1597 = .ok (.iaload, 1) := by decide +kernel
theorem d_Lw_law_1598 : decode M_Lw_law.2.1 1598 = .ok (.aload_n 0, 1) := by decide +kernel
theorem d_Lw_law_1599 : decode M_Lw_law.2.1 1599 = .ok (.iload_n 3, 1) := by decide +kernel
theorem d_Lw_law_1600 : decode M_Lw_law.2.1 1600 = .ok (.iconst 4, 1) := by decide +kernel
theorem d_Lw_law_1601 : decode M_Lw_law.2.1 1601 = .ok (.iadd, 1) := by decide +kernel
theorem d_Lw_law_1602 : decode M_Lw_law.2.1 1602 = .ok (.iaload, 1) := by decide +kernel
theorem d_Lw_law_1603 : decode M_Lw_law.2.1 1603 = .ok (.aload_n 0, 1) := by decide +kernel
theorem d_Lw_law_1604 : decode M_Lw_law.2.1 1604 = .ok (.iload_n 3, 1) := by decide +kernel
theorem d_Lw_law_1605 : decode M_Lw_law.2.1 1605 = .ok (.iconst 5, 1) := by decide +kernel
theorem d_Lw_law_1606 : decode M_Lw_law.2.1 1606 = .ok (.iadd, 1) := by decide +kernel
theorem d_Lw_law_1607 : decode M_Lw_law.2.1 1607 = .ok (.iaload, 1) := by decide +kernel
theorem d_Lw_law_1608 : decode M_Lw_law.2.1 1608 = .ok (.invokevirtual 186, 3) := by decide +kernel
theorem d_Lw_law_1611 : decode M_Lw_law.2.1 1611 = .ok (.if_icmp .eq 91, 3) := by decide +kernel
theorem d_Lw_law_1614 : decode M_Lw_law.2.1 1614 = .ok (.iconst 0, 1) := by decide +kernel
theorem d_Lw_law_1615 : decode M_Lw_law.2.1 1615 = .ok (.ireturn, 1) := by decide +kernel
theorem d_Lw_law_1616 : decode M_Lw_law.2.1 1616 = .ok (.aload_n 1, 1) := by decide +kernel
theorem d_Lw_law_1617 : decode M_Lw_law.2.1 1617 = .ok (.aload_n 0, 1) := by decide +kernel
theorem d_Lw_law_1618 : decode M_Lw_law.2.1 1618 = .ok (.iload_n 3, 1) := by decide +kernel
theorem d_Lw_law_1619 : decode M_Lw_law.2.1 1619 = .ok (.iconst 1, 1) := by decide +kernel
theorem d_Lw_law_1620 : decode M_Lw_law.2.1 1620 = .ok (.iadd, 1) := by decide +kernel
theorem d_Lw_law_1621 : decode M_Lw_law.2.1 1621 = .ok (.iaload, 1) := by decide +kernel
theorem d_Lw_law_1622 : decode M_Lw_law.2.1 1622 = .ok (.aload_n 0, 1) := by decide +kernel
theorem d_Lw_law_1623 : decode M_Lw_law.2.1 1623 = .ok (.iload_n 3, 1) := by decide +kernel
theorem d_Lw_law_1624 : decode M_Lw_law.2.1 1624 = .ok (.iconst 2, 1) := by decide +kernel
theorem d_Lw_law_1625 : decode M_Lw_law.2.1 1625 = .ok (.iadd, 1) := by decide +kernel
theorem d_Lw_law_1626 : decode M_Lw_law.2.1 1626 = .ok (.iaload, 1) := by decide +kernel
theorem d_Lw_law_1627 : decode M_Lw_law.2.1 1627 = .ok (.aload_n 0, 1) := by decide +kernel
theorem d_Lw_law_1628 : decode M_Lw_law.2.1 1628 = .ok (.iload_n 3, 1) := by decide +kernel
theorem d_Lw_law_1629 : decode M_Lw_law.2.1 1629 = .ok (.iconst 3, 1) := by decide +kernel
theorem d_Lw_law_1630 : decode M_Lw_law.2.1 1630 = .ok (.iadd, 1) := by decide +kernel
theorem d_Lw_law_1631 : decode M_Lw_law.2.1 1631 = .ok (.iaload, 1) := by decide +kernel
theorem d_Lw_law_1632 : decode M_Lw_law.2.1 1632 = .ok (.aload_n 0, 1) := by decide +kernel
theorem d_Lw_law_1633 : decode M_Lw_law.2.1 1633 = .ok (.iload_n 3, 1) := by decide +kernel
theorem d_Lw_law_1634 : decode M_Lw_law.2.1 1634 = .ok (.iconst 4, 1) := by decide +kernel
theorem d_Lw_law_1635 : decode M_Lw_law.2.1 1635 = .ok (.iadd, 1) := by decide +kernel
theorem d_Lw_law_1636 : decode M_Lw_law.2.1 1636 = .ok (.iaload, 1) := by decide +kernel
theorem d_Lw_law_1637 : decode M_Lw_law.2.1 1637 = .ok (.invokevirtual 187, 3) := by decide +kernel
theorem d_Lw_law_1640 : decode M_Lw_law.2.1 1640 = .ok (.aload_n 2, 1) := by decide +kernel
theorem d_Lw_law_1641 : decode M_Lw_law.2.1 1641 = .ok (.aload_n 0, 1) := by decide +kernel
theorem d_Lw_law_1642 : decode M_Lw_law.2.1 1642 = .ok (.iload_n 3, 1) := by decide +kernel
theorem d_Lw_law_1643 : decode M_Lw_law.2.1 1643 = .ok (.iconst 1, 1) := by decide +kernel
theorem d_Lw_law_1644 : decode M_Lw_law.2.1 1644 = .ok (.iadd, 1) := by decide +kernel
theorem d_Lw_law_1645 : decode M_Lw_law.2.1 1645 = .ok (.iaload, 1) := by decide +kernel
theorem d_Lw_law_1646 : decode M_Lw_law.2.1 1646 = .ok (.aload_n 0, 1) := by decide +kernel
theorem d_Lw_law_1647 : decode M_Lw_law.2.1 1647 = .ok (.iload_n 3, 1) := by decide +kernel
theorem d_Lw_law_1648 : decode M_Lw_law.2.1 1648 = .ok (.iconst 2, 1) := by decide +kernel
theorem d_Lw_law_1649 : decode M_Lw_law.2.1 1649 = .ok (.iadd, 1) := by decide +kernel
theorem d_Lw_law_1650 : decode M_Lw_law.2.1 1650 = .ok (.iaload, 1) := by decide +kernel
theorem d_Lw_law_1651 : decode M_Lw_law.2.1 1651 = .ok (.aload_n 0, 1) := by decide +kernel
theorem d_Lw_law_1652 : decode M_Lw_law.2.1 1652 = .ok (.iload_n 3, 1) := by decide +kernel
theorem d_Lw_law_1653 : decode M_Lw_law.2.1 1653 = .ok (.iconst 3, 1) := by decide +kernel
theorem d_Lw_law_1654 : decode M_Lw_law.2.1 1654 = .ok (.iadd, 1) := by decide +kernel
theorem d_Lw_law_1655 : decode M_Lw_law.2.1 1655 = .ok (.iaload, 1) := by decide +kernel
theorem d_Lw_law_1656 : decode M_Lw_law.2.1 1656 = .ok (.aload_n 0, 1) := by decide +kernel
theorem d_Lw_law_1657 : decode M_Lw_law.2.1 1657 = .ok (.iload_n 3, 1) := by decide +kernel
theorem d_Lw_law_1658 : decode M_Lw_law.2.1 1658 = .ok (.iconst 4, 1) := by decide +kernel
theorem d_Lw_law_1659 : decode M_Lw_law.2.1 1659 = .ok (.iadd, 1) := by decide +kernel
theorem d_Lw_law_1660 : decode M_Lw_law.2.1 1660 = .ok (.iaload, 1) := by decide +kernel
theorem d_Lw_law_1661 : decode M_Lw_law.2.1 1661 = .ok (.invokevirtual 190, 3) := by decide +kernel
theorem d_Lw_law_1664 : decode M_Lw_law.2.1 1664 = .ok (.if_icmp .eq 38, 3) := by decide +kernel
theorem d_Lw_law_1667 : decode M_Lw_law.2.1 1667 = .ok (.iconst 0, 1) := by decide +kernel
theorem d_Lw_law_1668 : decode M_Lw_law.2.1 1668 = .ok (.ireturn, 1) := by decide +kernel
theorem d_Lw_law_1669 : decode M_Lw_law.2.1 1669 = .ok (.aload_n 1, 1) := by decide +kernel
theorem d_Lw_law_1670 : decode M_Lw_law.2.1 1670 = .ok (.aload_n 0, 1) := by decide +kernel
theorem d_Lw_law_1671 : decode M_Lw_law.2.1 1671 = .ok (.iload_n 3, 1) := by decide +kernel
theorem d_Lw_law_1672 : decode M_Lw_law.2.1 1672 = .ok (.iconst 1, 1) := by decide +kernel
theorem d_Lw_law_1673 : decode M_Lw_law.2.1 1673 = .ok (.iadd, 1) := by decide +kernel
theorem d_Lw_law_1674 : decode M_Lw_law.2.1 1674 = .ok (.iaload, 1) := by decide +kernel
theorem d_Lw_law_1675 : decode M_Lw_law.2.1 1675 = .ok (.aload_n 0, 1) := by decide +kernel
theorem d_Lw_law_1676 : decode M_Lw_law.2.1 1676 = .ok (.iload_n 3, 1) := by decide +kernel
theorem d_Lw_law_1677 : decode M_Lw_law.2.1 1677 = .ok (.iconst 2, 1) := by decide +kernel
theorem d_Lw_law_1678 : decode M_Lw_law.2.1 1678 = .ok (.iadd, 1) := by decide +kernel
theorem d_Lw_law_1679 : decode M_Lw_law.2.1 1679 = .ok (.iaload, 1) := by decide +kernel
theorem d_Lw_law_1680 : decode M_Lw_law.2.1 1680 = .ok (.invokevirtual 191, 3) := by decide +kernel
theorem d_Lw_law_1683 : decode M_Lw_law.2.1 1683 = .ok (.aload_n 2, 1) := by decide +kernel
theorem d_Lw_law_1684 : decode M_Lw_law.2.1 1684 = .ok (.aload_n 0, 1) := by decide +kernel
theorem d_Lw_law_1685 : decode M_Lw_law.2.1 1685 = .ok (.iload_n 3, 1) := by decide +kernel
theorem d_Lw_law_1686 : decode M_Lw_law.2.1 1686 = .ok (.iconst 1, 1) := by decide +kernel
theorem d_Lw_law_1687 : decode M_Lw_law.2.1 1687 = .ok (.iadd, 1) := by decide +kernel
theorem d_Lw_law_1688 : decode M_Lw_law.2.1 1688 = .ok (.iaload, 1) := by decide +kernel
theorem d_Lw_law_1689 : decode M_Lw_law.2.1 1689 = .ok (.aload_n 0, 1) := by decide +kernel
theorem d_Lw_law_1690 : decode M_Lw_law.2.1 1690 = .ok (.iload_n 3, 1) := by decide +kernel
theorem d_Lw_law_1691 : decode M_Lw_law.2.1 1691 = .ok (.iconst 2, 1) := by decide +kernel
theorem d_Lw_law_1692 : decode M_Lw_law.2.1 1692 = .ok (.iadd, 1) := by decide +kernel
theorem d_Lw_law_1693 : decode M_Lw_law.2.1 1693 = .ok (.iaload, 1) := by decide +kernel
theorem d_Lw_law_1694 : decode M_Lw_law.2.1 1694 = .ok (.invokevirtual 194, 3) := by decide +kernel
theorem d_Lw_law_1697 : decode M_Lw_law.2.1 1697 = .ok (.if_icmp .eq 5, 3) := by decide +kernel
theorem d_Lw_law_1700 : decode M_Lw_law.2.1 1700 = .ok (.iconst 0, 1) := by decide +kernel
theorem d_Lw_law_1701 : decode M_Lw_law.2.1 1701 = .ok (.ireturn, 1) := by decide +kernel
theorem d_Lw_law_1702 : decode M_Lw_law.2.1 1702 = .ok (.iinc 3 6, 3) := by decide +kernel
theorem d_Lw_law_1705 : decode M_Lw_law.2.1 1705 = .ok (.goto (-1687), 3) := by decide +kernel
theorem d_Lw_law_1708 : decode M_Lw_law.2.1 1708 = .ok (.iconst 1, 1) := by decide +kernel
theorem d_Lw_law_1709 : decode M_Lw_law.2.1 1709 = .ok (.ireturn, 1) := by decide +kernel
